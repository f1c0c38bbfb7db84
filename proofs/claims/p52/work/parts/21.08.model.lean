set_option maxRecDepth 100000 in
set_option maxHeartbeats 4000000 in
theorem m_thoseIn {d B cnt p0 t0 : Nat} {σ : pm_S} {I : Nat → Int32} {A : Nat → Nat → Int32} {n k z : Nat → Int32} {ac wt pl im : Int32} {za : Int32} (hdd : 2 ≤ d) (hn : KI n) (hz : SZ z)  : pm_met mX12_thoseIn d 0 0 B [.ref (B + 54), .int za] cnt (pm_mid σ (md_L B I A n k z ac wt pl (nI p0) (nI t0) im)) (pm_Qi (fun v σ' cnt' => σ' = pm_mid σ (md_L B I A n k z ac wt pl (nI p0) (nI t0) im) ∧ cnt = cnt')) := by
  refine pm_enter 2 (by decide) (Nat.le_of_ble_eq_true rfl) rfl (fun G hG hR hF => ?_)
  refine pm_iconst (v := nI 0) hG dX12_thoseIn_0 (by decide) ?_
  refine pm_istoreXn (loc' := [some (.ref (B + 54)), some (.int za), some (.int (nI 0)), none]) hG dX12_thoseIn_1 (by decide) (pm_c1b rfl) rfl ?_
  refine pm_iconst (v := nI 0) hG dX12_thoseIn_2 (by decide) ?_
  refine pm_istoreXn (loc' := [some (.ref (B + 54)), some (.int za), some (.int (nI 0)), some (.int (nI 0))]) hG dX12_thoseIn_3 (by decide) (pm_c1b rfl) rfl ?_
  have loop4_1 : ∀ (m1 : Nat) (x1_2 : Int32) (i1 : Nat), i1 ≤ 20 → 20 - i1 < m1 → pm_wp mX12_thoseIn G B 4 [some (.ref (B + 54)), some (.int za), some (.int x1_2), some (.int (nI i1))] [] 0 0 cnt (pm_mid σ (md_L B I A n k z ac wt pl (nI p0) (nI t0) im)) := by
    intro m1
    induction m1 with
    | zero => intro x1_2 i1 _ hm; exact absurd hm (Nat.not_lt_zero _)
    | succ m1 ih1 =>
      intro x1_2 i1 hi1 hm1
      refine pm_iloadn hG dX12_thoseIn_4 rfl ?_
      refine pm_aloadn hG dX12_thoseIn_5 rfl ?_
      refine pm_getf hG dX12_thoseIn_6 (flX12_7 _ rfl) rfl rfl ?_
      refine pm_iconst (v := nI 2) hG dX12_thoseIn_9 (by decide) ?_
      refine pm_ialdN hG dX12_thoseIn_10 rfl (by decide) (by omega) ?_
      obtain ⟨k2, hk2, ek2⟩ := KI.nat hn (show kd 2 = (1, 21, true) by decide)
      refine pm_top (v := nI k2) ek2 ?_
      refine pm_icmpN_ge (tgt := 48) hG dX12_thoseIn_11 rfl (by omega) (by omega) (fun c3 => ?_) (fun c3 => ?_)
      · refine pm_iloadn hG dX12_thoseIn_48 rfl ?_
        exact pm_iret hG hF dX12_thoseIn_49 rfl (Nat.le_refl _) (Nat.le_refl _) ⟨_, rfl, rfl, rfl⟩
      · refine pm_iloadn hG dX12_thoseIn_14 rfl ?_
        refine pm_aloadn hG dX12_thoseIn_15 rfl ?_
        refine pm_iloadn hG dX12_thoseIn_16 rfl ?_
        rcases KI.opt hn (show kd (14 * i1 + 119) = (2, 2001, false) from (kd_P (k := i1) (c := 9) (by omega) (by omega) (by decide))) with ek4 | ⟨k4, hk4, ek4⟩
        · refine pm_callV (As := [.int (nI i1)]) (rest := [.int x1_2]) hG hR dX12_thoseIn_17 (lkX12_101 _ rfl) okV_X12_lives rfl rfl (m_lives1 (d := 1) (by decide) (by omega) (by omega : 14 * i1 + 119 = 14 * i1 + 119) ek4) rfl rfl hdd (Nat.le_refl _) (Nat.le_refl _) (Nat.le_of_ble_eq_true rfl) (pm_ki (fun v5 σ' cnt' hq => ?_))
          obtain ⟨rfl, rfl, rfl⟩ := hq
          refine pm_ifN_eq (tgt := 39) hG dX12_thoseIn_20 rfl (by omega) (fun q => absurd q (by omega)) (fun _ => ?_)
          refine pm_aloadn hG dX12_thoseIn_23 rfl ?_
          refine pm_iloadn hG dX12_thoseIn_24 rfl ?_
          refine pm_iconst (v := nI 4) hG dX12_thoseIn_25 (by decide) ?_
          refine pm_callV (As := [.int (nI i1), .int (nI 4)]) (rest := [.int x1_2]) hG hR dX12_thoseIn_26 (lkX12_72 _ rfl) okV_X12_man rfl rfl (m_man (d := 1) (e := 14 * i1 + 114) (by omega) (by omega) (by omega)) rfl rfl hdd (Nat.le_refl _) (Nat.le_refl _) (Nat.le_of_ble_eq_true rfl) (pm_ki (fun v6 σ' cnt' hq => ?_))
          obtain ⟨rfl, rfl, rfl⟩ := hq
          rcases KI.opt hn (show kd (14 * i1 + 114) = (2, 10, false) from (kd_P (k := i1) (c := 4) (by omega) (by omega) (by decide))) with ek7 | ⟨k7, hk7, ek7⟩
          · refine pm_top (v := (-1)) ek7 ?_
            refine pm_iloadn hG dX12_thoseIn_29 rfl ?_
            refine pm_icmp_ne (tgt := 39) hG dX12_thoseIn_30 rfl (fun c8 => ?_) (fun c8 => ?_)
            · refine pm_iconst (v := nI 0) hG dX12_thoseIn_39 (by decide) ?_
              refine pm_ior hG dX12_thoseIn_40 ?_
              refine pm_any (fun x9 => ?_)
              refine pm_istoreXn (loc' := [some (.ref (B + 54)), some (.int za), some (.int x9), some (.int (nI i1))]) hG dX12_thoseIn_41 (by decide) (pm_c1b rfl) rfl ?_
              refine pm_iincX (v := nI (i1 + 1)) (loc' := [some (.ref (B + 54)), some (.int za), some (.int x9), some (.int (nI (i1 + 1)))]) hG dX12_thoseIn_42 rfl (nI_1 _) (by decide) (pm_c1b rfl) rfl ?_
              refine pm_goto (tgt := 4) hG dX12_thoseIn_45 rfl ?_
              exact ih1 x9 (i1 + 1) (by omega) (by omega)
            · refine pm_iconst (v := nI 1) hG dX12_thoseIn_33 (by decide) ?_
              refine pm_iloadn hG dX12_thoseIn_34 rfl ?_
              refine pm_ishl hG dX12_thoseIn_35 ?_
              refine pm_any (fun x10 => ?_)
              refine pm_goto (tgt := 40) hG dX12_thoseIn_36 rfl ?_
              refine pm_ior hG dX12_thoseIn_40 ?_
              refine pm_any (fun x11 => ?_)
              refine pm_istoreXn (loc' := [some (.ref (B + 54)), some (.int za), some (.int x11), some (.int (nI i1))]) hG dX12_thoseIn_41 (by decide) (pm_c1b rfl) rfl ?_
              refine pm_iincX (v := nI (i1 + 1)) (loc' := [some (.ref (B + 54)), some (.int za), some (.int x11), some (.int (nI (i1 + 1)))]) hG dX12_thoseIn_42 rfl (nI_1 _) (by decide) (pm_c1b rfl) rfl ?_
              refine pm_goto (tgt := 4) hG dX12_thoseIn_45 rfl ?_
              exact ih1 x11 (i1 + 1) (by omega) (by omega)
          · refine pm_top (v := nI k7) ek7 ?_
            refine pm_iloadn hG dX12_thoseIn_29 rfl ?_
            refine pm_icmp_ne (tgt := 39) hG dX12_thoseIn_30 rfl (fun c12 => ?_) (fun c12 => ?_)
            · refine pm_iconst (v := nI 0) hG dX12_thoseIn_39 (by decide) ?_
              refine pm_ior hG dX12_thoseIn_40 ?_
              refine pm_any (fun x13 => ?_)
              refine pm_istoreXn (loc' := [some (.ref (B + 54)), some (.int za), some (.int x13), some (.int (nI i1))]) hG dX12_thoseIn_41 (by decide) (pm_c1b rfl) rfl ?_
              refine pm_iincX (v := nI (i1 + 1)) (loc' := [some (.ref (B + 54)), some (.int za), some (.int x13), some (.int (nI (i1 + 1)))]) hG dX12_thoseIn_42 rfl (nI_1 _) (by decide) (pm_c1b rfl) rfl ?_
              refine pm_goto (tgt := 4) hG dX12_thoseIn_45 rfl ?_
              exact ih1 x13 (i1 + 1) (by omega) (by omega)
            · refine pm_iconst (v := nI 1) hG dX12_thoseIn_33 (by decide) ?_
              refine pm_iloadn hG dX12_thoseIn_34 rfl ?_
              refine pm_ishl hG dX12_thoseIn_35 ?_
              refine pm_any (fun x14 => ?_)
              refine pm_goto (tgt := 40) hG dX12_thoseIn_36 rfl ?_
              refine pm_ior hG dX12_thoseIn_40 ?_
              refine pm_any (fun x15 => ?_)
              refine pm_istoreXn (loc' := [some (.ref (B + 54)), some (.int za), some (.int x15), some (.int (nI i1))]) hG dX12_thoseIn_41 (by decide) (pm_c1b rfl) rfl ?_
              refine pm_iincX (v := nI (i1 + 1)) (loc' := [some (.ref (B + 54)), some (.int za), some (.int x15), some (.int (nI (i1 + 1)))]) hG dX12_thoseIn_42 rfl (nI_1 _) (by decide) (pm_c1b rfl) rfl ?_
              refine pm_goto (tgt := 4) hG dX12_thoseIn_45 rfl ?_
              exact ih1 x15 (i1 + 1) (by omega) (by omega)
        · refine pm_callV (As := [.int (nI i1)]) (rest := [.int x1_2]) hG hR dX12_thoseIn_17 (lkX12_101 _ rfl) okV_X12_lives rfl rfl (m_lives0 (d := 1) (by decide) (by omega) (by omega : 14 * i1 + 119 = 14 * i1 + 119) ek4 (by omega)) rfl rfl hdd (Nat.le_refl _) (Nat.le_refl _) (Nat.le_of_ble_eq_true rfl) (pm_ki (fun v16 σ' cnt' hq => ?_))
          obtain ⟨rfl, rfl, rfl⟩ := hq
          refine pm_ifN_eq (tgt := 39) hG dX12_thoseIn_20 rfl (by omega) (fun _ => ?_) (fun q => absurd q (by omega))
          refine pm_iconst (v := nI 0) hG dX12_thoseIn_39 (by decide) ?_
          refine pm_ior hG dX12_thoseIn_40 ?_
          refine pm_any (fun x17 => ?_)
          refine pm_istoreXn (loc' := [some (.ref (B + 54)), some (.int za), some (.int x17), some (.int (nI i1))]) hG dX12_thoseIn_41 (by decide) (pm_c1b rfl) rfl ?_
          refine pm_iincX (v := nI (i1 + 1)) (loc' := [some (.ref (B + 54)), some (.int za), some (.int x17), some (.int (nI (i1 + 1)))]) hG dX12_thoseIn_42 rfl (nI_1 _) (by decide) (pm_c1b rfl) rfl ?_
          refine pm_goto (tgt := 4) hG dX12_thoseIn_45 rfl ?_
          exact ih1 x17 (i1 + 1) (by omega) (by omega)
  exact loop4_1 _ (nI 0) 0 (by omega) (Nat.lt_succ_self _)

set_option maxRecDepth 100000 in
set_option maxHeartbeats 4000000 in
theorem m_draw {d B cnt p0 t0 : Nat} {σ : pm_S} {I : Nat → Int32} {A : Nat → Nat → Int32} {n k z : Nat → Int32} {ac wt pl im : Int32} {za zb zc : Int32} (hdd : 3 ≤ d) (hn : KI n) (hr : NR n) (hz : SZ z)  : pm_met mX12_draw d 0 0 B [.ref (B + 54), .int za, .int zb, .int zc] cnt (pm_mid σ (md_L B I A n k z ac wt pl (nI p0) (nI t0) im)) (pm_Qi (fun v σ' cnt' => (∃ (I' : Nat → Int32) (A' : Nat → Nat → Int32) (n' : Nat → Int32), σ' = pm_mid σ (md_L B I' A' n' k z ac wt pl (nI p0) (nI t0) im) ∧ KI n' ∧ NR n' ∧ n' 8 = n 8) ∧ cnt = cnt')) := by
  obtain ⟨kc8, hkc8, ekc8⟩ := KI.nat hn (show kd 8 = (1, 2001, false) by decide)
  refine pm_enter 2 (by decide) (Nat.le_of_ble_eq_true rfl) rfl (fun G hG hR hF => ?_)
  refine pm_aloadn hG dX12_draw_0 rfl ?_
  refine pm_iloadn hG dX12_draw_1 rfl ?_
  obtain ⟨k1, hk1, ek1⟩ := KI.nat hn (show kd 2 = (1, 21, true) by decide)
  refine pm_callV (As := [.int za]) (rest := []) hG hR dX12_draw_2 (lkX12_91 _ rfl) okV_X12_isPerson rfl rfl (m_isPerson (d := 2) (by decide) ek1 (by omega)) rfl rfl hdd (Nat.le_refl _) (Nat.le_refl _) (by decide) (pm_ki (fun v2 σ' cnt' hq => ?_))
  obtain ⟨hq, rfl, rfl⟩ := hq
  rcases hq with ⟨rfl, k4, hk4, ek4⟩ | rfl
  · refine pm_ifN_eq (tgt := 28) hG dX12_draw_5 rfl (by omega) (fun q => absurd q (by omega)) (fun _ => ?_)
    refine pm_iloadn hG dX12_draw_8 rfl ?_
    refine pm_iconst (v := nI 0) hG dX12_draw_9 (by decide) ?_
    refine pm_iconst (v := nI 4) hG dX12_draw_10 (by decide) ?_
    refine pm_callS (As := [.int zb, .int (nI 0), .int (nI 4)]) (rest := []) hG hR dX12_draw_11 (lkX12_68 _ rfl) okS_X12_in (m_in (d := 2)) rfl rfl hdd (Nat.le_refl _) (Nat.le_refl _) (by decide) (pm_ki (fun v5 σ' cnt' hq => ?_))
    obtain ⟨hq, rfl, rfl⟩ := hq
    rcases hq with ⟨rfl, ac6, bc6⟩ | ⟨rfl, c6⟩
    · obtain ⟨k7, hk7, ek7⟩ := in_nat (by omega) (by omega) ac6 bc6
      refine pm_ifN_eq (tgt := 28) hG dX12_draw_14 rfl (by omega) (fun q => absurd q (by omega)) (fun _ => ?_)
      refine pm_iloadn hG dX12_draw_17 rfl ?_
      refine pm_iconst (v := nI 0) hG dX12_draw_18 (by decide) ?_
      refine pm_sipush (v := nI 999) hG dX12_draw_19 (by decide) ?_
      refine pm_callS (As := [.int zc, .int (nI 0), .int (nI 999)]) (rest := []) hG hR dX12_draw_22 (lkX12_68 _ rfl) okS_X12_in (m_in (d := 2)) rfl rfl hdd (Nat.le_refl _) (Nat.le_refl _) (by decide) (pm_ki (fun v8 σ' cnt' hq => ?_))
      obtain ⟨hq, rfl, rfl⟩ := hq
      rcases hq with ⟨rfl, ac9, bc9⟩ | ⟨rfl, c9⟩
      · obtain ⟨k10, hk10, ek10⟩ := in_nat (by omega) (by omega) ac9 bc9
        refine pm_ifN_ne (tgt := 34) hG dX12_draw_25 rfl (by omega) (fun _ => ?_) (fun q => absurd q (by omega))
        refine pm_aloadn hG dX12_draw_34 rfl ?_
        refine pm_iloadn hG dX12_draw_35 rfl ?_
        refine pm_top (v := nI k4) ek4 ?_
        rcases KI.opt hn (show kd (14 * k4 + 119) = (2, 2001, false) from (kd_P (k := k4) (c := 9) (by omega) (by omega) (by decide))) with ek11 | ⟨k11, hk11, ek11⟩
        · refine pm_callV (As := [.int (nI k4)]) (rest := []) hG hR dX12_draw_36 (lkX12_101 _ rfl) okV_X12_lives rfl rfl (m_lives1 (d := 2) (by decide) (by omega) (by omega : 14 * k4 + 119 = 14 * k4 + 119) ek11) rfl rfl hdd (Nat.le_refl _) (Nat.le_refl _) (by decide) (pm_ki (fun v12 σ' cnt' hq => ?_))
          obtain ⟨rfl, rfl, rfl⟩ := hq
          refine pm_ifN_eq (tgt := 51) hG dX12_draw_39 rfl (by omega) (fun q => absurd q (by omega)) (fun _ => ?_)
          refine pm_aloadn hG dX12_draw_42 rfl ?_
          refine pm_iloadn hG dX12_draw_43 rfl ?_
          refine pm_top (v := nI k4) ek4 ?_
          refine pm_iconst (v := nI 4) hG dX12_draw_44 (by decide) ?_
          refine pm_callV (As := [.int (nI k4), .int (nI 4)]) (rest := []) hG hR dX12_draw_45 (lkX12_72 _ rfl) okV_X12_man rfl rfl (m_man (d := 2) (e := 14 * k4 + 114) (by omega) (by omega) (by omega)) rfl rfl hdd (Nat.le_refl _) (Nat.le_refl _) (by decide) (pm_ki (fun v13 σ' cnt' hq => ?_))
          obtain ⟨rfl, rfl, rfl⟩ := hq
          rcases KI.opt hn (show kd (14 * k4 + 114) = (2, 10, false) from (kd_P (k := k4) (c := 4) (by omega) (by omega) (by decide))) with ek14 | ⟨k14, hk14, ek14⟩
          · refine pm_top (v := (-1)) ek14 ?_
            refine pm_if_ge (tgt := 57) hG dX12_draw_48 rfl (fun q => absurd q (by decide)) (fun _ => ?_)
            refine pm_aloadn hG dX12_draw_51 rfl ?_
            refine pm_iconst (v := nI 3) hG dX12_draw_52 (by decide) ?_
            refine pm_callV (As := [.int (nI 3)]) (rest := []) hG hR dX12_draw_53 (lkX12_80 _ rfl) okV_X12_finds rfl rfl (m_finds (d := 2) (by decide) hn hz (by omega)) rfl rfl hdd (Nat.le_refl _) (Nat.le_refl _) (by decide) (pm_ki (fun v15 σ' cnt' hq => ?_))
            obtain ⟨⟨I16, A16, rfl⟩, rfl, fv15⟩ := hq
            exact pm_iret hG hF dX12_draw_56 rfl (Nat.le_refl _) (Nat.le_refl _) ⟨_, rfl, ⟨_, _, _, rfl, hn, hr, ekc8.trans ekc8.symm⟩, rfl⟩
          · refine pm_top (v := nI k14) ek14 ?_
            refine pm_ifN_ge (tgt := 57) hG dX12_draw_48 rfl (by omega) ?_
            refine pm_aloadn hG dX12_draw_57 rfl ?_
            refine pm_getf hG dX12_draw_58 (flX12_7 _ rfl) rfl rfl ?_
            refine pm_iconst (v := nI 5) hG dX12_draw_61 (by decide) ?_
            refine pm_ialdN hG dX12_draw_62 rfl (by decide) (by omega) ?_
            obtain ⟨k17, hk17, ek17⟩ := KI.nat hn (show kd 5 = (1, 41, true) by decide)
            refine pm_top (v := nI k17) ek17 ?_
            refine pm_istoreXi (loc' := [some (.ref (B + 54)), some (.int za), some (.int zb), some (.int zc), some (.int (nI k17)), none]) hG dX12_draw_63 (by decide) (pm_c1b rfl) rfl ?_
            refine pm_iloadi hG dX12_draw_65 rfl ?_
            refine pm_bipush (v := nI 40) hG dX12_draw_67 (by decide) ?_
            refine pm_icmpN_ne (tgt := 78) hG dX12_draw_69 rfl (by omega) (by omega) (fun c18 => ?_) (fun c18 => ?_)
            · refine pm_aloadn hG dX12_draw_78 rfl ?_
              refine pm_getf hG dX12_draw_79 (flX12_7 _ rfl) rfl rfl ?_
              refine pm_iconst (v := nI 5) hG dX12_draw_82 (by decide) ?_
              refine pm_dup2 hG dX12_draw_83 rfl rfl ?_
              refine pm_ialdN hG dX12_draw_84 rfl (by decide) (by omega) ?_
              refine pm_top (v := nI k17) ek17 ?_
              refine pm_iconst (v := nI 1) hG dX12_draw_85 (by decide) ?_
              refine pm_iaddN (c := k17 + 1) hG dX12_draw_86 (by omega) ?_
              refine pm_iastN hG dX12_draw_87 rfl (by decide) (by omega) ?_
              refine mdn_now (fun n_19 en_19 => ?_)
              have hnn_19 := KI.w en_19 hn (okv_n (show kd 5 = (1, 41, true) by decide) (by omega))
              obtain ⟨k20, hk20, ek20⟩ := NRx.some hn ek1 (by omega) hr
              have hrn_19 := NRx.lett en_19 hr ek20 (by omega) ek17 (by omega)
              have e21 : n_19 8 = nI kc8 := by rw [en_19, pk_un (by omega)]; exact ekc8
              have e22 : n_19 2 = nI k1 := by rw [en_19, pk_un (by omega)]; exact ek1
              have e23 : n_19 (14 * k4 + 114) = nI k14 := by rw [en_19, pk_un (by omega)]; exact ek14
              have e24 : n_19 5 = nI (k17 + 1) := by rw [en_19, pk_us]
              refine pm_iconst (v := nI 0) hG dX12_draw_88 (by decide) ?_
              refine pm_istoreXi (loc' := [some (.ref (B + 54)), some (.int za), some (.int zb), some (.int zc), some (.int (nI k17)), some (.int (nI 0))]) hG dX12_draw_89 (by decide) (pm_c1b rfl) rfl ?_
              refine pm_iloadi hG dX12_draw_91 rfl ?_
              refine pm_bipush (v := nI 12) hG dX12_draw_93 (by decide) ?_
              refine pm_icmpN_ge (tgt := 143) hG dX12_draw_95 rfl (by omega) (by omega) (fun q => absurd q (by omega)) (fun _ => ?_)
              refine pm_aloadn hG dX12_draw_98 rfl ?_
              refine pm_iloadi hG dX12_draw_99 rfl ?_
              refine pm_iloadi hG dX12_draw_101 rfl ?_
              refine pm_iloadi hG dX12_draw_103 rfl ?_
              refine pm_iconst (v := nI 4) hG dX12_draw_105 (by decide) ?_
              refine pm_icmpN_eq (tgt := 129) hG dX12_draw_106 rfl (by omega) (by omega) (fun q => absurd q (by omega)) (fun _ => ?_)
              refine pm_iloadi hG dX12_draw_109 rfl ?_
              refine pm_iconst (v := nI 5) hG dX12_draw_111 (by decide) ?_
              refine pm_icmpN_eq (tgt := 129) hG dX12_draw_112 rfl (by omega) (by omega) (fun q => absurd q (by omega)) (fun _ => ?_)
              refine pm_iloadi hG dX12_draw_115 rfl ?_
              refine pm_bipush (v := nI 6) hG dX12_draw_117 (by decide) ?_
              refine pm_icmpN_eq (tgt := 129) hG dX12_draw_119 rfl (by omega) (by omega) (fun q => absurd q (by omega)) (fun _ => ?_)
              refine pm_iloadi hG dX12_draw_122 rfl ?_
              refine pm_bipush (v := nI 7) hG dX12_draw_124 (by decide) ?_
              refine pm_icmpN_ne (tgt := 133) hG dX12_draw_126 rfl (by omega) (by omega) (fun _ => ?_) (fun q => absurd q (by omega))
              refine pm_iconst (v := nI 0) hG dX12_draw_133 (by decide) ?_
              refine pm_callV (As := [.int (nI k17), .int (nI 0), .int (nI 0)]) (rest := []) hG hR dX12_draw_134 (lkX12_217 _ rfl) okV_X12_writes rfl rfl (m_writes (d := 2) (e := 12 * k17 + 1290) (by omega) (by omega) (by omega)) rfl rfl hdd (Nat.le_refl _) (Nat.le_refl _) (by decide) (pm_kv (fun σ' cnt' hq => ?_))
              obtain ⟨rfl, rfl⟩ := hq
              obtain ⟨n_25, en_25⟩ : ∃ f : Nat → Int32, f = upd n_19 (12 * k17 + 1290) (nI 0) := ⟨_, rfl⟩
              rw [← en_25]
              have hnn_25 := KI.w en_25 hnn_19 (okv_f (show kd (12 * k17 + 1290) = (0, 0, false) from (kd_E (k := k17) (c := 0) (by omega) (by omega) (by decide))))
              have hrn_25 := NRx.w en_25 hrn_19 (by rw [(show kd (12 * k17 + 1290) = (0, 0, false) from (kd_E (k := k17) (c := 0) (by omega) (by omega) (by decide)))])
              have e26 : n_25 8 = nI kc8 := by rw [en_25, pk_un (by omega)]; exact e21
              have e27 : n_25 2 = nI k1 := by rw [en_25, pk_un (by omega)]; exact e22
              have e28 : n_25 (14 * k4 + 114) = nI k14 := by rw [en_25, pk_un (by omega)]; exact e23
              have e29 : n_25 5 = nI (k17 + 1) := by rw [en_25, pk_un (by omega)]; exact e24
              have e30 : n_25 (12 * k17 + 1290) = nI 0 := by rw [en_25, pk_us]
              refine pm_iincX (v := nI 1) (loc' := [some (.ref (B + 54)), some (.int za), some (.int zb), some (.int zc), some (.int (nI k17)), some (.int (nI 1))]) hG dX12_draw_137 rfl (nI_1 _) (by decide) (pm_c1b rfl) rfl ?_
              refine pm_goto (tgt := 91) hG dX12_draw_140 rfl ?_
              refine pm_iloadi hG dX12_draw_91 rfl ?_
              refine pm_bipush (v := nI 12) hG dX12_draw_93 (by decide) ?_
              refine pm_icmpN_ge (tgt := 143) hG dX12_draw_95 rfl (by omega) (by omega) (fun q => absurd q (by omega)) (fun _ => ?_)
              refine pm_aloadn hG dX12_draw_98 rfl ?_
              refine pm_iloadi hG dX12_draw_99 rfl ?_
              refine pm_iloadi hG dX12_draw_101 rfl ?_
              refine pm_iloadi hG dX12_draw_103 rfl ?_
              refine pm_iconst (v := nI 4) hG dX12_draw_105 (by decide) ?_
              refine pm_icmpN_eq (tgt := 129) hG dX12_draw_106 rfl (by omega) (by omega) (fun q => absurd q (by omega)) (fun _ => ?_)
              refine pm_iloadi hG dX12_draw_109 rfl ?_
              refine pm_iconst (v := nI 5) hG dX12_draw_111 (by decide) ?_
              refine pm_icmpN_eq (tgt := 129) hG dX12_draw_112 rfl (by omega) (by omega) (fun q => absurd q (by omega)) (fun _ => ?_)
              refine pm_iloadi hG dX12_draw_115 rfl ?_
              refine pm_bipush (v := nI 6) hG dX12_draw_117 (by decide) ?_
              refine pm_icmpN_eq (tgt := 129) hG dX12_draw_119 rfl (by omega) (by omega) (fun q => absurd q (by omega)) (fun _ => ?_)
              refine pm_iloadi hG dX12_draw_122 rfl ?_
              refine pm_bipush (v := nI 7) hG dX12_draw_124 (by decide) ?_
              refine pm_icmpN_ne (tgt := 133) hG dX12_draw_126 rfl (by omega) (by omega) (fun _ => ?_) (fun q => absurd q (by omega))
              refine pm_iconst (v := nI 0) hG dX12_draw_133 (by decide) ?_
              refine pm_callV (As := [.int (nI k17), .int (nI 1), .int (nI 0)]) (rest := []) hG hR dX12_draw_134 (lkX12_217 _ rfl) okV_X12_writes rfl rfl (m_writes (d := 2) (e := 12 * k17 + 1291) (by omega) (by omega) (by omega)) rfl rfl hdd (Nat.le_refl _) (Nat.le_refl _) (by decide) (pm_kv (fun σ' cnt' hq => ?_))
              obtain ⟨rfl, rfl⟩ := hq
              obtain ⟨n_31, en_31⟩ : ∃ f : Nat → Int32, f = upd n_25 (12 * k17 + 1291) (nI 0) := ⟨_, rfl⟩
              rw [← en_31]
              have hnn_31 := KI.w en_31 hnn_25 (okv_f (show kd (12 * k17 + 1291) = (0, 0, false) from (kd_E (k := k17) (c := 1) (by omega) (by omega) (by decide))))
              have hrn_31 := NRx.w en_31 hrn_25 (by rw [(show kd (12 * k17 + 1291) = (0, 0, false) from (kd_E (k := k17) (c := 1) (by omega) (by omega) (by decide)))])
              have e32 : n_31 8 = nI kc8 := by rw [en_31, pk_un (by omega)]; exact e26
              have e33 : n_31 2 = nI k1 := by rw [en_31, pk_un (by omega)]; exact e27
              have e34 : n_31 (14 * k4 + 114) = nI k14 := by rw [en_31, pk_un (by omega)]; exact e28
              have e35 : n_31 5 = nI (k17 + 1) := by rw [en_31, pk_un (by omega)]; exact e29
              have e36 : n_31 (12 * k17 + 1291) = nI 0 := by rw [en_31, pk_us]
              refine pm_iincX (v := nI 2) (loc' := [some (.ref (B + 54)), some (.int za), some (.int zb), some (.int zc), some (.int (nI k17)), some (.int (nI 2))]) hG dX12_draw_137 rfl (nI_1 _) (by decide) (pm_c1b rfl) rfl ?_
              refine pm_goto (tgt := 91) hG dX12_draw_140 rfl ?_
              refine pm_iloadi hG dX12_draw_91 rfl ?_
              refine pm_bipush (v := nI 12) hG dX12_draw_93 (by decide) ?_
              refine pm_icmpN_ge (tgt := 143) hG dX12_draw_95 rfl (by omega) (by omega) (fun q => absurd q (by omega)) (fun _ => ?_)
              refine pm_aloadn hG dX12_draw_98 rfl ?_
              refine pm_iloadi hG dX12_draw_99 rfl ?_
              refine pm_iloadi hG dX12_draw_101 rfl ?_
              refine pm_iloadi hG dX12_draw_103 rfl ?_
              refine pm_iconst (v := nI 4) hG dX12_draw_105 (by decide) ?_
              refine pm_icmpN_eq (tgt := 129) hG dX12_draw_106 rfl (by omega) (by omega) (fun q => absurd q (by omega)) (fun _ => ?_)
              refine pm_iloadi hG dX12_draw_109 rfl ?_
              refine pm_iconst (v := nI 5) hG dX12_draw_111 (by decide) ?_
              refine pm_icmpN_eq (tgt := 129) hG dX12_draw_112 rfl (by omega) (by omega) (fun q => absurd q (by omega)) (fun _ => ?_)
              refine pm_iloadi hG dX12_draw_115 rfl ?_
              refine pm_bipush (v := nI 6) hG dX12_draw_117 (by decide) ?_
              refine pm_icmpN_eq (tgt := 129) hG dX12_draw_119 rfl (by omega) (by omega) (fun q => absurd q (by omega)) (fun _ => ?_)
              refine pm_iloadi hG dX12_draw_122 rfl ?_
              refine pm_bipush (v := nI 7) hG dX12_draw_124 (by decide) ?_
              refine pm_icmpN_ne (tgt := 133) hG dX12_draw_126 rfl (by omega) (by omega) (fun _ => ?_) (fun q => absurd q (by omega))
              refine pm_iconst (v := nI 0) hG dX12_draw_133 (by decide) ?_
              refine pm_callV (As := [.int (nI k17), .int (nI 2), .int (nI 0)]) (rest := []) hG hR dX12_draw_134 (lkX12_217 _ rfl) okV_X12_writes rfl rfl (m_writes (d := 2) (e := 12 * k17 + 1292) (by omega) (by omega) (by omega)) rfl rfl hdd (Nat.le_refl _) (Nat.le_refl _) (by decide) (pm_kv (fun σ' cnt' hq => ?_))
              obtain ⟨rfl, rfl⟩ := hq
              obtain ⟨n_37, en_37⟩ : ∃ f : Nat → Int32, f = upd n_31 (12 * k17 + 1292) (nI 0) := ⟨_, rfl⟩
              rw [← en_37]
              have hnn_37 := KI.w en_37 hnn_31 (okv_n (show kd (12 * k17 + 1292) = (1, 1000, false) from (kd_E (k := k17) (c := 2) (by omega) (by omega) (by decide))) (by omega))
              have hrn_37 := NRx.w en_37 hrn_31 (by rw [(show kd (12 * k17 + 1292) = (1, 1000, false) from (kd_E (k := k17) (c := 2) (by omega) (by omega) (by decide)))])
              have e38 : n_37 8 = nI kc8 := by rw [en_37, pk_un (by omega)]; exact e32
              have e39 : n_37 2 = nI k1 := by rw [en_37, pk_un (by omega)]; exact e33
              have e40 : n_37 (14 * k4 + 114) = nI k14 := by rw [en_37, pk_un (by omega)]; exact e34
              have e41 : n_37 5 = nI (k17 + 1) := by rw [en_37, pk_un (by omega)]; exact e35
              have e42 : n_37 (12 * k17 + 1292) = nI 0 := by rw [en_37, pk_us]
              refine pm_iincX (v := nI 3) (loc' := [some (.ref (B + 54)), some (.int za), some (.int zb), some (.int zc), some (.int (nI k17)), some (.int (nI 3))]) hG dX12_draw_137 rfl (nI_1 _) (by decide) (pm_c1b rfl) rfl ?_
              refine pm_goto (tgt := 91) hG dX12_draw_140 rfl ?_
              refine pm_iloadi hG dX12_draw_91 rfl ?_
              refine pm_bipush (v := nI 12) hG dX12_draw_93 (by decide) ?_
              refine pm_icmpN_ge (tgt := 143) hG dX12_draw_95 rfl (by omega) (by omega) (fun q => absurd q (by omega)) (fun _ => ?_)
              refine pm_aloadn hG dX12_draw_98 rfl ?_
              refine pm_iloadi hG dX12_draw_99 rfl ?_
              refine pm_iloadi hG dX12_draw_101 rfl ?_
              refine pm_iloadi hG dX12_draw_103 rfl ?_
              refine pm_iconst (v := nI 4) hG dX12_draw_105 (by decide) ?_
              refine pm_icmpN_eq (tgt := 129) hG dX12_draw_106 rfl (by omega) (by omega) (fun q => absurd q (by omega)) (fun _ => ?_)
              refine pm_iloadi hG dX12_draw_109 rfl ?_
              refine pm_iconst (v := nI 5) hG dX12_draw_111 (by decide) ?_
              refine pm_icmpN_eq (tgt := 129) hG dX12_draw_112 rfl (by omega) (by omega) (fun q => absurd q (by omega)) (fun _ => ?_)
              refine pm_iloadi hG dX12_draw_115 rfl ?_
              refine pm_bipush (v := nI 6) hG dX12_draw_117 (by decide) ?_
              refine pm_icmpN_eq (tgt := 129) hG dX12_draw_119 rfl (by omega) (by omega) (fun q => absurd q (by omega)) (fun _ => ?_)
              refine pm_iloadi hG dX12_draw_122 rfl ?_
              refine pm_bipush (v := nI 7) hG dX12_draw_124 (by decide) ?_
              refine pm_icmpN_ne (tgt := 133) hG dX12_draw_126 rfl (by omega) (by omega) (fun _ => ?_) (fun q => absurd q (by omega))
              refine pm_iconst (v := nI 0) hG dX12_draw_133 (by decide) ?_
              refine pm_callV (As := [.int (nI k17), .int (nI 3), .int (nI 0)]) (rest := []) hG hR dX12_draw_134 (lkX12_217 _ rfl) okV_X12_writes rfl rfl (m_writes (d := 2) (e := 12 * k17 + 1293) (by omega) (by omega) (by omega)) rfl rfl hdd (Nat.le_refl _) (Nat.le_refl _) (by decide) (pm_kv (fun σ' cnt' hq => ?_))
              obtain ⟨rfl, rfl⟩ := hq
              obtain ⟨n_43, en_43⟩ : ∃ f : Nat → Int32, f = upd n_37 (12 * k17 + 1293) (nI 0) := ⟨_, rfl⟩
              rw [← en_43]
              have hnn_43 := KI.w en_43 hnn_37 (okv_f (show kd (12 * k17 + 1293) = (0, 0, false) from (kd_E (k := k17) (c := 3) (by omega) (by omega) (by decide))))
              have hrn_43 := NRx.w en_43 hrn_37 (by rw [(show kd (12 * k17 + 1293) = (0, 0, false) from (kd_E (k := k17) (c := 3) (by omega) (by omega) (by decide)))])
              have e44 : n_43 8 = nI kc8 := by rw [en_43, pk_un (by omega)]; exact e38
              have e45 : n_43 2 = nI k1 := by rw [en_43, pk_un (by omega)]; exact e39
              have e46 : n_43 (14 * k4 + 114) = nI k14 := by rw [en_43, pk_un (by omega)]; exact e40
              have e47 : n_43 5 = nI (k17 + 1) := by rw [en_43, pk_un (by omega)]; exact e41
              have e48 : n_43 (12 * k17 + 1293) = nI 0 := by rw [en_43, pk_us]
              refine pm_iincX (v := nI 4) (loc' := [some (.ref (B + 54)), some (.int za), some (.int zb), some (.int zc), some (.int (nI k17)), some (.int (nI 4))]) hG dX12_draw_137 rfl (nI_1 _) (by decide) (pm_c1b rfl) rfl ?_
              refine pm_goto (tgt := 91) hG dX12_draw_140 rfl ?_
              refine pm_iloadi hG dX12_draw_91 rfl ?_
              refine pm_bipush (v := nI 12) hG dX12_draw_93 (by decide) ?_
              refine pm_icmpN_ge (tgt := 143) hG dX12_draw_95 rfl (by omega) (by omega) (fun q => absurd q (by omega)) (fun _ => ?_)
              refine pm_aloadn hG dX12_draw_98 rfl ?_
              refine pm_iloadi hG dX12_draw_99 rfl ?_
              refine pm_iloadi hG dX12_draw_101 rfl ?_
              refine pm_iloadi hG dX12_draw_103 rfl ?_
              refine pm_iconst (v := nI 4) hG dX12_draw_105 (by decide) ?_
              refine pm_icmpN_eq (tgt := 129) hG dX12_draw_106 rfl (by omega) (by omega) (fun _ => ?_) (fun q => absurd q (by omega))
              refine pm_iconst (v := (-1)) hG dX12_draw_129 (by decide) ?_
              refine pm_goto (tgt := 134) hG dX12_draw_130 rfl ?_
              refine pm_callV (As := [.int (nI k17), .int (nI 4), .int (-1)]) (rest := []) hG hR dX12_draw_134 (lkX12_217 _ rfl) okV_X12_writes rfl rfl (m_writes (d := 2) (e := 12 * k17 + 1294) (by omega) (by omega) (by omega)) rfl rfl hdd (Nat.le_refl _) (Nat.le_refl _) (by decide) (pm_kv (fun σ' cnt' hq => ?_))
              obtain ⟨rfl, rfl⟩ := hq
              obtain ⟨n_49, en_49⟩ : ∃ f : Nat → Int32, f = upd n_43 (12 * k17 + 1294) (-1) := ⟨_, rfl⟩
              rw [← en_49]
              have hnn_49 := KI.w en_49 hnn_43 (okv_m (show kd (12 * k17 + 1294) = (2, 20, true) from (kd_E (k := k17) (c := 4) (by omega) (by omega) (by decide))))
              have hrn_49 := NRx.row (l := k17) en_49 (NRx.wk k17 hrn_43) (by omega)
              have e50 : n_49 8 = nI kc8 := by rw [en_49, pk_un (by omega)]; exact e44
              have e51 : n_49 2 = nI k1 := by rw [en_49, pk_un (by omega)]; exact e45
              have e52 : n_49 (14 * k4 + 114) = nI k14 := by rw [en_49, pk_un (by omega)]; exact e46
              have e53 : n_49 5 = nI (k17 + 1) := by rw [en_49, pk_un (by omega)]; exact e47
              have e54 : n_49 (12 * k17 + 1294) = (-1) := by rw [en_49, pk_us]
              refine pm_iincX (v := nI 5) (loc' := [some (.ref (B + 54)), some (.int za), some (.int zb), some (.int zc), some (.int (nI k17)), some (.int (nI 5))]) hG dX12_draw_137 rfl (nI_1 _) (by decide) (pm_c1b rfl) rfl ?_
              refine pm_goto (tgt := 91) hG dX12_draw_140 rfl ?_
              refine pm_iloadi hG dX12_draw_91 rfl ?_
              refine pm_bipush (v := nI 12) hG dX12_draw_93 (by decide) ?_
              refine pm_icmpN_ge (tgt := 143) hG dX12_draw_95 rfl (by omega) (by omega) (fun q => absurd q (by omega)) (fun _ => ?_)
              refine pm_aloadn hG dX12_draw_98 rfl ?_
              refine pm_iloadi hG dX12_draw_99 rfl ?_
              refine pm_iloadi hG dX12_draw_101 rfl ?_
              refine pm_iloadi hG dX12_draw_103 rfl ?_
              refine pm_iconst (v := nI 4) hG dX12_draw_105 (by decide) ?_
              refine pm_icmpN_eq (tgt := 129) hG dX12_draw_106 rfl (by omega) (by omega) (fun q => absurd q (by omega)) (fun _ => ?_)
              refine pm_iloadi hG dX12_draw_109 rfl ?_
              refine pm_iconst (v := nI 5) hG dX12_draw_111 (by decide) ?_
              refine pm_icmpN_eq (tgt := 129) hG dX12_draw_112 rfl (by omega) (by omega) (fun _ => ?_) (fun q => absurd q (by omega))
              refine pm_iconst (v := (-1)) hG dX12_draw_129 (by decide) ?_
              refine pm_goto (tgt := 134) hG dX12_draw_130 rfl ?_
              refine pm_callV (As := [.int (nI k17), .int (nI 5), .int (-1)]) (rest := []) hG hR dX12_draw_134 (lkX12_217 _ rfl) okV_X12_writes rfl rfl (m_writes (d := 2) (e := 12 * k17 + 1295) (by omega) (by omega) (by omega)) rfl rfl hdd (Nat.le_refl _) (Nat.le_refl _) (by decide) (pm_kv (fun σ' cnt' hq => ?_))
              obtain ⟨rfl, rfl⟩ := hq
              obtain ⟨n_55, en_55⟩ : ∃ f : Nat → Int32, f = upd n_49 (12 * k17 + 1295) (-1) := ⟨_, rfl⟩
              rw [← en_55]
              have hnn_55 := KI.w en_55 hnn_49 (okv_f (show kd (12 * k17 + 1295) = (0, 0, false) from (kd_E (k := k17) (c := 5) (by omega) (by omega) (by decide))))
              have hrn_55 := NRx.w en_55 hrn_49 (by rw [(show kd (12 * k17 + 1295) = (0, 0, false) from (kd_E (k := k17) (c := 5) (by omega) (by omega) (by decide)))])
              have e56 : n_55 8 = nI kc8 := by rw [en_55, pk_un (by omega)]; exact e50
              have e57 : n_55 2 = nI k1 := by rw [en_55, pk_un (by omega)]; exact e51
              have e58 : n_55 (14 * k4 + 114) = nI k14 := by rw [en_55, pk_un (by omega)]; exact e52
              have e59 : n_55 5 = nI (k17 + 1) := by rw [en_55, pk_un (by omega)]; exact e53
              have e60 : n_55 (12 * k17 + 1295) = (-1) := by rw [en_55, pk_us]
              refine pm_iincX (v := nI 6) (loc' := [some (.ref (B + 54)), some (.int za), some (.int zb), some (.int zc), some (.int (nI k17)), some (.int (nI 6))]) hG dX12_draw_137 rfl (nI_1 _) (by decide) (pm_c1b rfl) rfl ?_
              refine pm_goto (tgt := 91) hG dX12_draw_140 rfl ?_
              refine pm_iloadi hG dX12_draw_91 rfl ?_
              refine pm_bipush (v := nI 12) hG dX12_draw_93 (by decide) ?_
              refine pm_icmpN_ge (tgt := 143) hG dX12_draw_95 rfl (by omega) (by omega) (fun q => absurd q (by omega)) (fun _ => ?_)
              refine pm_aloadn hG dX12_draw_98 rfl ?_
              refine pm_iloadi hG dX12_draw_99 rfl ?_
              refine pm_iloadi hG dX12_draw_101 rfl ?_
              refine pm_iloadi hG dX12_draw_103 rfl ?_
              refine pm_iconst (v := nI 4) hG dX12_draw_105 (by decide) ?_
              refine pm_icmpN_eq (tgt := 129) hG dX12_draw_106 rfl (by omega) (by omega) (fun q => absurd q (by omega)) (fun _ => ?_)
              refine pm_iloadi hG dX12_draw_109 rfl ?_
              refine pm_iconst (v := nI 5) hG dX12_draw_111 (by decide) ?_
              refine pm_icmpN_eq (tgt := 129) hG dX12_draw_112 rfl (by omega) (by omega) (fun q => absurd q (by omega)) (fun _ => ?_)
              refine pm_iloadi hG dX12_draw_115 rfl ?_
              refine pm_bipush (v := nI 6) hG dX12_draw_117 (by decide) ?_
              refine pm_icmpN_eq (tgt := 129) hG dX12_draw_119 rfl (by omega) (by omega) (fun _ => ?_) (fun q => absurd q (by omega))
              refine pm_iconst (v := (-1)) hG dX12_draw_129 (by decide) ?_
              refine pm_goto (tgt := 134) hG dX12_draw_130 rfl ?_
              refine pm_callV (As := [.int (nI k17), .int (nI 6), .int (-1)]) (rest := []) hG hR dX12_draw_134 (lkX12_217 _ rfl) okV_X12_writes rfl rfl (m_writes (d := 2) (e := 12 * k17 + 1296) (by omega) (by omega) (by omega)) rfl rfl hdd (Nat.le_refl _) (Nat.le_refl _) (by decide) (pm_kv (fun σ' cnt' hq => ?_))
              obtain ⟨rfl, rfl⟩ := hq
              obtain ⟨n_61, en_61⟩ : ∃ f : Nat → Int32, f = upd n_55 (12 * k17 + 1296) (-1) := ⟨_, rfl⟩
              rw [← en_61]
              have hnn_61 := KI.w en_61 hnn_55 (okv_f (show kd (12 * k17 + 1296) = (0, 0, true) from (kd_E (k := k17) (c := 6) (by omega) (by omega) (by decide))))
              have hrn_61 := NRx.row (l := k17) en_61 hrn_55 (by omega)
              have e62 : n_61 8 = nI kc8 := by rw [en_61, pk_un (by omega)]; exact e56
              have e63 : n_61 2 = nI k1 := by rw [en_61, pk_un (by omega)]; exact e57
              have e64 : n_61 (14 * k4 + 114) = nI k14 := by rw [en_61, pk_un (by omega)]; exact e58
              have e65 : n_61 5 = nI (k17 + 1) := by rw [en_61, pk_un (by omega)]; exact e59
              have e66 : n_61 (12 * k17 + 1296) = (-1) := by rw [en_61, pk_us]
              refine pm_iincX (v := nI 7) (loc' := [some (.ref (B + 54)), some (.int za), some (.int zb), some (.int zc), some (.int (nI k17)), some (.int (nI 7))]) hG dX12_draw_137 rfl (nI_1 _) (by decide) (pm_c1b rfl) rfl ?_
              refine pm_goto (tgt := 91) hG dX12_draw_140 rfl ?_
              refine pm_iloadi hG dX12_draw_91 rfl ?_
              refine pm_bipush (v := nI 12) hG dX12_draw_93 (by decide) ?_
              refine pm_icmpN_ge (tgt := 143) hG dX12_draw_95 rfl (by omega) (by omega) (fun q => absurd q (by omega)) (fun _ => ?_)
              refine pm_aloadn hG dX12_draw_98 rfl ?_
              refine pm_iloadi hG dX12_draw_99 rfl ?_
              refine pm_iloadi hG dX12_draw_101 rfl ?_
              refine pm_iloadi hG dX12_draw_103 rfl ?_
              refine pm_iconst (v := nI 4) hG dX12_draw_105 (by decide) ?_
              refine pm_icmpN_eq (tgt := 129) hG dX12_draw_106 rfl (by omega) (by omega) (fun q => absurd q (by omega)) (fun _ => ?_)
              refine pm_iloadi hG dX12_draw_109 rfl ?_
              refine pm_iconst (v := nI 5) hG dX12_draw_111 (by decide) ?_
              refine pm_icmpN_eq (tgt := 129) hG dX12_draw_112 rfl (by omega) (by omega) (fun q => absurd q (by omega)) (fun _ => ?_)
              refine pm_iloadi hG dX12_draw_115 rfl ?_
              refine pm_bipush (v := nI 6) hG dX12_draw_117 (by decide) ?_
              refine pm_icmpN_eq (tgt := 129) hG dX12_draw_119 rfl (by omega) (by omega) (fun q => absurd q (by omega)) (fun _ => ?_)
              refine pm_iloadi hG dX12_draw_122 rfl ?_
              refine pm_bipush (v := nI 7) hG dX12_draw_124 (by decide) ?_
              refine pm_icmpN_ne (tgt := 133) hG dX12_draw_126 rfl (by omega) (by omega) (fun q => absurd q (by omega)) (fun _ => ?_)
              refine pm_iconst (v := (-1)) hG dX12_draw_129 (by decide) ?_
              refine pm_goto (tgt := 134) hG dX12_draw_130 rfl ?_
              refine pm_callV (As := [.int (nI k17), .int (nI 7), .int (-1)]) (rest := []) hG hR dX12_draw_134 (lkX12_217 _ rfl) okV_X12_writes rfl rfl (m_writes (d := 2) (e := 12 * k17 + 1297) (by omega) (by omega) (by omega)) rfl rfl hdd (Nat.le_refl _) (Nat.le_refl _) (by decide) (pm_kv (fun σ' cnt' hq => ?_))
              obtain ⟨rfl, rfl⟩ := hq
              obtain ⟨n_67, en_67⟩ : ∃ f : Nat → Int32, f = upd n_61 (12 * k17 + 1297) (-1) := ⟨_, rfl⟩
              rw [← en_67]
              have hnn_67 := KI.w en_67 hnn_61 (okv_f (show kd (12 * k17 + 1297) = (0, 0, false) from (kd_E (k := k17) (c := 7) (by omega) (by omega) (by decide))))
              have hrn_67 := NRx.w en_67 hrn_61 (by rw [(show kd (12 * k17 + 1297) = (0, 0, false) from (kd_E (k := k17) (c := 7) (by omega) (by omega) (by decide)))])
              have e68 : n_67 8 = nI kc8 := by rw [en_67, pk_un (by omega)]; exact e62
              have e69 : n_67 2 = nI k1 := by rw [en_67, pk_un (by omega)]; exact e63
              have e70 : n_67 (14 * k4 + 114) = nI k14 := by rw [en_67, pk_un (by omega)]; exact e64
              have e71 : n_67 5 = nI (k17 + 1) := by rw [en_67, pk_un (by omega)]; exact e65
              have e72 : n_67 (12 * k17 + 1296) = (-1) := by rw [en_67, pk_un (by omega)]; exact e66
              have e73 : n_67 (12 * k17 + 1297) = (-1) := by rw [en_67, pk_us]
              refine pm_iincX (v := nI 8) (loc' := [some (.ref (B + 54)), some (.int za), some (.int zb), some (.int zc), some (.int (nI k17)), some (.int (nI 8))]) hG dX12_draw_137 rfl (nI_1 _) (by decide) (pm_c1b rfl) rfl ?_
              refine pm_goto (tgt := 91) hG dX12_draw_140 rfl ?_
              refine pm_iloadi hG dX12_draw_91 rfl ?_
              refine pm_bipush (v := nI 12) hG dX12_draw_93 (by decide) ?_
              refine pm_icmpN_ge (tgt := 143) hG dX12_draw_95 rfl (by omega) (by omega) (fun q => absurd q (by omega)) (fun _ => ?_)
              refine pm_aloadn hG dX12_draw_98 rfl ?_
              refine pm_iloadi hG dX12_draw_99 rfl ?_
              refine pm_iloadi hG dX12_draw_101 rfl ?_
              refine pm_iloadi hG dX12_draw_103 rfl ?_
              refine pm_iconst (v := nI 4) hG dX12_draw_105 (by decide) ?_
              refine pm_icmpN_eq (tgt := 129) hG dX12_draw_106 rfl (by omega) (by omega) (fun q => absurd q (by omega)) (fun _ => ?_)
              refine pm_iloadi hG dX12_draw_109 rfl ?_
              refine pm_iconst (v := nI 5) hG dX12_draw_111 (by decide) ?_
              refine pm_icmpN_eq (tgt := 129) hG dX12_draw_112 rfl (by omega) (by omega) (fun q => absurd q (by omega)) (fun _ => ?_)
              refine pm_iloadi hG dX12_draw_115 rfl ?_
              refine pm_bipush (v := nI 6) hG dX12_draw_117 (by decide) ?_
              refine pm_icmpN_eq (tgt := 129) hG dX12_draw_119 rfl (by omega) (by omega) (fun q => absurd q (by omega)) (fun _ => ?_)
              refine pm_iloadi hG dX12_draw_122 rfl ?_
              refine pm_bipush (v := nI 7) hG dX12_draw_124 (by decide) ?_
              refine pm_icmpN_ne (tgt := 133) hG dX12_draw_126 rfl (by omega) (by omega) (fun _ => ?_) (fun q => absurd q (by omega))
              refine pm_iconst (v := nI 0) hG dX12_draw_133 (by decide) ?_
              refine pm_callV (As := [.int (nI k17), .int (nI 8), .int (nI 0)]) (rest := []) hG hR dX12_draw_134 (lkX12_217 _ rfl) okV_X12_writes rfl rfl (m_writes (d := 2) (e := 12 * k17 + 1298) (by omega) (by omega) (by omega)) rfl rfl hdd (Nat.le_refl _) (Nat.le_refl _) (by decide) (pm_kv (fun σ' cnt' hq => ?_))
              obtain ⟨rfl, rfl⟩ := hq
              obtain ⟨n_74, en_74⟩ : ∃ f : Nat → Int32, f = upd n_67 (12 * k17 + 1298) (nI 0) := ⟨_, rfl⟩
              rw [← en_74]
              have hnn_74 := KI.w en_74 hnn_67 (okv_f (show kd (12 * k17 + 1298) = (0, 0, false) from (kd_E (k := k17) (c := 8) (by omega) (by omega) (by decide))))
              have hrn_74 := NRx.w en_74 hrn_67 (by rw [(show kd (12 * k17 + 1298) = (0, 0, false) from (kd_E (k := k17) (c := 8) (by omega) (by omega) (by decide)))])
              have e75 : n_74 8 = nI kc8 := by rw [en_74, pk_un (by omega)]; exact e68
              have e76 : n_74 2 = nI k1 := by rw [en_74, pk_un (by omega)]; exact e69
              have e77 : n_74 (14 * k4 + 114) = nI k14 := by rw [en_74, pk_un (by omega)]; exact e70
              have e78 : n_74 5 = nI (k17 + 1) := by rw [en_74, pk_un (by omega)]; exact e71
              have e79 : n_74 (12 * k17 + 1296) = (-1) := by rw [en_74, pk_un (by omega)]; exact e72
              have e80 : n_74 (12 * k17 + 1298) = nI 0 := by rw [en_74, pk_us]
              refine pm_iincX (v := nI 9) (loc' := [some (.ref (B + 54)), some (.int za), some (.int zb), some (.int zc), some (.int (nI k17)), some (.int (nI 9))]) hG dX12_draw_137 rfl (nI_1 _) (by decide) (pm_c1b rfl) rfl ?_
              refine pm_goto (tgt := 91) hG dX12_draw_140 rfl ?_
              refine pm_iloadi hG dX12_draw_91 rfl ?_
              refine pm_bipush (v := nI 12) hG dX12_draw_93 (by decide) ?_
              refine pm_icmpN_ge (tgt := 143) hG dX12_draw_95 rfl (by omega) (by omega) (fun q => absurd q (by omega)) (fun _ => ?_)
              refine pm_aloadn hG dX12_draw_98 rfl ?_
              refine pm_iloadi hG dX12_draw_99 rfl ?_
              refine pm_iloadi hG dX12_draw_101 rfl ?_
              refine pm_iloadi hG dX12_draw_103 rfl ?_
              refine pm_iconst (v := nI 4) hG dX12_draw_105 (by decide) ?_
              refine pm_icmpN_eq (tgt := 129) hG dX12_draw_106 rfl (by omega) (by omega) (fun q => absurd q (by omega)) (fun _ => ?_)
              refine pm_iloadi hG dX12_draw_109 rfl ?_
              refine pm_iconst (v := nI 5) hG dX12_draw_111 (by decide) ?_
              refine pm_icmpN_eq (tgt := 129) hG dX12_draw_112 rfl (by omega) (by omega) (fun q => absurd q (by omega)) (fun _ => ?_)
              refine pm_iloadi hG dX12_draw_115 rfl ?_
              refine pm_bipush (v := nI 6) hG dX12_draw_117 (by decide) ?_
              refine pm_icmpN_eq (tgt := 129) hG dX12_draw_119 rfl (by omega) (by omega) (fun q => absurd q (by omega)) (fun _ => ?_)
              refine pm_iloadi hG dX12_draw_122 rfl ?_
              refine pm_bipush (v := nI 7) hG dX12_draw_124 (by decide) ?_
              refine pm_icmpN_ne (tgt := 133) hG dX12_draw_126 rfl (by omega) (by omega) (fun _ => ?_) (fun q => absurd q (by omega))
              refine pm_iconst (v := nI 0) hG dX12_draw_133 (by decide) ?_
              refine pm_callV (As := [.int (nI k17), .int (nI 9), .int (nI 0)]) (rest := []) hG hR dX12_draw_134 (lkX12_217 _ rfl) okV_X12_writes rfl rfl (m_writes (d := 2) (e := 12 * k17 + 1299) (by omega) (by omega) (by omega)) rfl rfl hdd (Nat.le_refl _) (Nat.le_refl _) (by decide) (pm_kv (fun σ' cnt' hq => ?_))
              obtain ⟨rfl, rfl⟩ := hq
              obtain ⟨n_81, en_81⟩ : ∃ f : Nat → Int32, f = upd n_74 (12 * k17 + 1299) (nI 0) := ⟨_, rfl⟩
              rw [← en_81]
              have hnn_81 := KI.w en_81 hnn_74 (okv_f (show kd (12 * k17 + 1299) = (0, 0, false) from (kd_E (k := k17) (c := 9) (by omega) (by omega) (by decide))))
              have hrn_81 := NRx.w en_81 hrn_74 (by rw [(show kd (12 * k17 + 1299) = (0, 0, false) from (kd_E (k := k17) (c := 9) (by omega) (by omega) (by decide)))])
              have e82 : n_81 8 = nI kc8 := by rw [en_81, pk_un (by omega)]; exact e75
              have e83 : n_81 2 = nI k1 := by rw [en_81, pk_un (by omega)]; exact e76
              have e84 : n_81 (14 * k4 + 114) = nI k14 := by rw [en_81, pk_un (by omega)]; exact e77
              have e85 : n_81 5 = nI (k17 + 1) := by rw [en_81, pk_un (by omega)]; exact e78
              have e86 : n_81 (12 * k17 + 1296) = (-1) := by rw [en_81, pk_un (by omega)]; exact e79
              have e87 : n_81 (12 * k17 + 1299) = nI 0 := by rw [en_81, pk_us]
              refine pm_iincX (v := nI 10) (loc' := [some (.ref (B + 54)), some (.int za), some (.int zb), some (.int zc), some (.int (nI k17)), some (.int (nI 10))]) hG dX12_draw_137 rfl (nI_1 _) (by decide) (pm_c1b rfl) rfl ?_
              refine pm_goto (tgt := 91) hG dX12_draw_140 rfl ?_
              refine pm_iloadi hG dX12_draw_91 rfl ?_
              refine pm_bipush (v := nI 12) hG dX12_draw_93 (by decide) ?_
              refine pm_icmpN_ge (tgt := 143) hG dX12_draw_95 rfl (by omega) (by omega) (fun q => absurd q (by omega)) (fun _ => ?_)
              refine pm_aloadn hG dX12_draw_98 rfl ?_
              refine pm_iloadi hG dX12_draw_99 rfl ?_
              refine pm_iloadi hG dX12_draw_101 rfl ?_
              refine pm_iloadi hG dX12_draw_103 rfl ?_
              refine pm_iconst (v := nI 4) hG dX12_draw_105 (by decide) ?_
              refine pm_icmpN_eq (tgt := 129) hG dX12_draw_106 rfl (by omega) (by omega) (fun q => absurd q (by omega)) (fun _ => ?_)
              refine pm_iloadi hG dX12_draw_109 rfl ?_
              refine pm_iconst (v := nI 5) hG dX12_draw_111 (by decide) ?_
              refine pm_icmpN_eq (tgt := 129) hG dX12_draw_112 rfl (by omega) (by omega) (fun q => absurd q (by omega)) (fun _ => ?_)
              refine pm_iloadi hG dX12_draw_115 rfl ?_
              refine pm_bipush (v := nI 6) hG dX12_draw_117 (by decide) ?_
              refine pm_icmpN_eq (tgt := 129) hG dX12_draw_119 rfl (by omega) (by omega) (fun q => absurd q (by omega)) (fun _ => ?_)
              refine pm_iloadi hG dX12_draw_122 rfl ?_
              refine pm_bipush (v := nI 7) hG dX12_draw_124 (by decide) ?_
              refine pm_icmpN_ne (tgt := 133) hG dX12_draw_126 rfl (by omega) (by omega) (fun _ => ?_) (fun q => absurd q (by omega))
              refine pm_iconst (v := nI 0) hG dX12_draw_133 (by decide) ?_
              refine pm_callV (As := [.int (nI k17), .int (nI 10), .int (nI 0)]) (rest := []) hG hR dX12_draw_134 (lkX12_217 _ rfl) okV_X12_writes rfl rfl (m_writes (d := 2) (e := 12 * k17 + 1300) (by omega) (by omega) (by omega)) rfl rfl hdd (Nat.le_refl _) (Nat.le_refl _) (by decide) (pm_kv (fun σ' cnt' hq => ?_))
              obtain ⟨rfl, rfl⟩ := hq
              obtain ⟨n_88, en_88⟩ : ∃ f : Nat → Int32, f = upd n_81 (12 * k17 + 1300) (nI 0) := ⟨_, rfl⟩
              rw [← en_88]
              have hnn_88 := KI.w en_88 hnn_81 (okv_n (show kd (12 * k17 + 1300) = (1, 10, false) from (kd_E (k := k17) (c := 10) (by omega) (by omega) (by decide))) (by omega))
              have hrn_88 := NRx.w en_88 hrn_81 (by rw [(show kd (12 * k17 + 1300) = (1, 10, false) from (kd_E (k := k17) (c := 10) (by omega) (by omega) (by decide)))])
              have e89 : n_88 8 = nI kc8 := by rw [en_88, pk_un (by omega)]; exact e82
              have e90 : n_88 2 = nI k1 := by rw [en_88, pk_un (by omega)]; exact e83
              have e91 : n_88 (14 * k4 + 114) = nI k14 := by rw [en_88, pk_un (by omega)]; exact e84
              have e92 : n_88 5 = nI (k17 + 1) := by rw [en_88, pk_un (by omega)]; exact e85
              have e93 : n_88 (12 * k17 + 1296) = (-1) := by rw [en_88, pk_un (by omega)]; exact e86
              have e94 : n_88 (12 * k17 + 1300) = nI 0 := by rw [en_88, pk_us]
              refine pm_iincX (v := nI 11) (loc' := [some (.ref (B + 54)), some (.int za), some (.int zb), some (.int zc), some (.int (nI k17)), some (.int (nI 11))]) hG dX12_draw_137 rfl (nI_1 _) (by decide) (pm_c1b rfl) rfl ?_
              refine pm_goto (tgt := 91) hG dX12_draw_140 rfl ?_
              refine pm_iloadi hG dX12_draw_91 rfl ?_
              refine pm_bipush (v := nI 12) hG dX12_draw_93 (by decide) ?_
              refine pm_icmpN_ge (tgt := 143) hG dX12_draw_95 rfl (by omega) (by omega) (fun q => absurd q (by omega)) (fun _ => ?_)
              refine pm_aloadn hG dX12_draw_98 rfl ?_
              refine pm_iloadi hG dX12_draw_99 rfl ?_
              refine pm_iloadi hG dX12_draw_101 rfl ?_
              refine pm_iloadi hG dX12_draw_103 rfl ?_
              refine pm_iconst (v := nI 4) hG dX12_draw_105 (by decide) ?_
              refine pm_icmpN_eq (tgt := 129) hG dX12_draw_106 rfl (by omega) (by omega) (fun q => absurd q (by omega)) (fun _ => ?_)
              refine pm_iloadi hG dX12_draw_109 rfl ?_
              refine pm_iconst (v := nI 5) hG dX12_draw_111 (by decide) ?_
              refine pm_icmpN_eq (tgt := 129) hG dX12_draw_112 rfl (by omega) (by omega) (fun q => absurd q (by omega)) (fun _ => ?_)
              refine pm_iloadi hG dX12_draw_115 rfl ?_
              refine pm_bipush (v := nI 6) hG dX12_draw_117 (by decide) ?_
              refine pm_icmpN_eq (tgt := 129) hG dX12_draw_119 rfl (by omega) (by omega) (fun q => absurd q (by omega)) (fun _ => ?_)
              refine pm_iloadi hG dX12_draw_122 rfl ?_
              refine pm_bipush (v := nI 7) hG dX12_draw_124 (by decide) ?_
              refine pm_icmpN_ne (tgt := 133) hG dX12_draw_126 rfl (by omega) (by omega) (fun _ => ?_) (fun q => absurd q (by omega))
              refine pm_iconst (v := nI 0) hG dX12_draw_133 (by decide) ?_
              refine pm_callV (As := [.int (nI k17), .int (nI 11), .int (nI 0)]) (rest := []) hG hR dX12_draw_134 (lkX12_217 _ rfl) okV_X12_writes rfl rfl (m_writes (d := 2) (e := 12 * k17 + 1301) (by omega) (by omega) (by omega)) rfl rfl hdd (Nat.le_refl _) (Nat.le_refl _) (by decide) (pm_kv (fun σ' cnt' hq => ?_))
              obtain ⟨rfl, rfl⟩ := hq
              obtain ⟨n_95, en_95⟩ : ∃ f : Nat → Int32, f = upd n_88 (12 * k17 + 1301) (nI 0) := ⟨_, rfl⟩
              rw [← en_95]
              have hnn_95 := KI.w en_95 hnn_88 (okv_f (show kd (12 * k17 + 1301) = (0, 0, false) from (kd_E (k := k17) (c := 11) (by omega) (by omega) (by decide))))
              have hrn_95 := NRx.w en_95 hrn_88 (by rw [(show kd (12 * k17 + 1301) = (0, 0, false) from (kd_E (k := k17) (c := 11) (by omega) (by omega) (by decide)))])
              have e96 : n_95 8 = nI kc8 := by rw [en_95, pk_un (by omega)]; exact e89
              have e97 : n_95 2 = nI k1 := by rw [en_95, pk_un (by omega)]; exact e90
              have e98 : n_95 (14 * k4 + 114) = nI k14 := by rw [en_95, pk_un (by omega)]; exact e91
              have e99 : n_95 5 = nI (k17 + 1) := by rw [en_95, pk_un (by omega)]; exact e92
              have e100 : n_95 (12 * k17 + 1296) = (-1) := by rw [en_95, pk_un (by omega)]; exact e93
              have e101 : n_95 (12 * k17 + 1301) = nI 0 := by rw [en_95, pk_us]
              refine pm_iincX (v := nI 12) (loc' := [some (.ref (B + 54)), some (.int za), some (.int zb), some (.int zc), some (.int (nI k17)), some (.int (nI 12))]) hG dX12_draw_137 rfl (nI_1 _) (by decide) (pm_c1b rfl) rfl ?_
              refine pm_goto (tgt := 91) hG dX12_draw_140 rfl ?_
              refine pm_iloadi hG dX12_draw_91 rfl ?_
              refine pm_bipush (v := nI 12) hG dX12_draw_93 (by decide) ?_
              refine pm_icmpN_ge (tgt := 143) hG dX12_draw_95 rfl (by omega) (by omega) (fun _ => ?_) (fun q => absurd q (by omega))
              refine pm_aloadn hG dX12_draw_143 rfl ?_
              refine pm_iloadi hG dX12_draw_144 rfl ?_
              refine pm_iconst (v := nI 0) hG dX12_draw_146 (by decide) ?_
              refine pm_iloadn hG dX12_draw_147 rfl ?_
              refine pm_top (v := nI k4) ek4 ?_
              refine pm_callV (As := [.int (nI k17), .int (nI 0), .int (nI k4)]) (rest := []) hG hR dX12_draw_148 (lkX12_217 _ rfl) okV_X12_writes rfl rfl (m_writes (d := 2) (e := 12 * k17 + 1290) (by omega) (by omega) (by omega)) rfl rfl hdd (Nat.le_refl _) (Nat.le_refl _) (by decide) (pm_kv (fun σ' cnt' hq => ?_))
              obtain ⟨rfl, rfl⟩ := hq
              obtain ⟨n_102, en_102⟩ : ∃ f : Nat → Int32, f = upd n_95 (12 * k17 + 1290) (nI k4) := ⟨_, rfl⟩
              rw [← en_102]
              have hnn_102 := KI.w en_102 hnn_95 (okv_f (show kd (12 * k17 + 1290) = (0, 0, false) from (kd_E (k := k17) (c := 0) (by omega) (by omega) (by decide))))
              have hrn_102 := NRx.w en_102 hrn_95 (by rw [(show kd (12 * k17 + 1290) = (0, 0, false) from (kd_E (k := k17) (c := 0) (by omega) (by omega) (by decide)))])
              have e103 : n_102 8 = nI kc8 := by rw [en_102, pk_un (by omega)]; exact e96
              have e104 : n_102 2 = nI k1 := by rw [en_102, pk_un (by omega)]; exact e97
              have e105 : n_102 (14 * k4 + 114) = nI k14 := by rw [en_102, pk_un (by omega)]; exact e98
              have e106 : n_102 5 = nI (k17 + 1) := by rw [en_102, pk_un (by omega)]; exact e99
              have e107 : n_102 (12 * k17 + 1296) = (-1) := by rw [en_102, pk_un (by omega)]; exact e100
              have e108 : n_102 (12 * k17 + 1290) = nI k4 := by rw [en_102, pk_us]
              refine pm_aloadn hG dX12_draw_151 rfl ?_
              refine pm_iloadi hG dX12_draw_152 rfl ?_
              refine pm_iconst (v := nI 1) hG dX12_draw_154 (by decide) ?_
              refine pm_iloadn hG dX12_draw_155 rfl ?_
              refine pm_top (v := nI k7) ek7 ?_
              refine pm_callV (As := [.int (nI k17), .int (nI 1), .int (nI k7)]) (rest := []) hG hR dX12_draw_156 (lkX12_217 _ rfl) okV_X12_writes rfl rfl (m_writes (d := 2) (e := 12 * k17 + 1291) (by omega) (by omega) (by omega)) rfl rfl hdd (Nat.le_refl _) (Nat.le_refl _) (by decide) (pm_kv (fun σ' cnt' hq => ?_))
              obtain ⟨rfl, rfl⟩ := hq
              obtain ⟨n_109, en_109⟩ : ∃ f : Nat → Int32, f = upd n_102 (12 * k17 + 1291) (nI k7) := ⟨_, rfl⟩
              rw [← en_109]
              have hnn_109 := KI.w en_109 hnn_102 (okv_f (show kd (12 * k17 + 1291) = (0, 0, false) from (kd_E (k := k17) (c := 1) (by omega) (by omega) (by decide))))
              have hrn_109 := NRx.w en_109 hrn_102 (by rw [(show kd (12 * k17 + 1291) = (0, 0, false) from (kd_E (k := k17) (c := 1) (by omega) (by omega) (by decide)))])
              have e110 : n_109 8 = nI kc8 := by rw [en_109, pk_un (by omega)]; exact e103
              have e111 : n_109 2 = nI k1 := by rw [en_109, pk_un (by omega)]; exact e104
              have e112 : n_109 (14 * k4 + 114) = nI k14 := by rw [en_109, pk_un (by omega)]; exact e105
              have e113 : n_109 5 = nI (k17 + 1) := by rw [en_109, pk_un (by omega)]; exact e106
              have e114 : n_109 (12 * k17 + 1296) = (-1) := by rw [en_109, pk_un (by omega)]; exact e107
              have e115 : n_109 (12 * k17 + 1291) = nI k7 := by rw [en_109, pk_us]
              refine pm_aloadn hG dX12_draw_159 rfl ?_
              refine pm_iloadi hG dX12_draw_160 rfl ?_
              refine pm_iconst (v := nI 2) hG dX12_draw_162 (by decide) ?_
              refine pm_iloadn hG dX12_draw_163 rfl ?_
              refine pm_top (v := nI k10) ek10 ?_
              refine pm_callV (As := [.int (nI k17), .int (nI 2), .int (nI k10)]) (rest := []) hG hR dX12_draw_164 (lkX12_217 _ rfl) okV_X12_writes rfl rfl (m_writes (d := 2) (e := 12 * k17 + 1292) (by omega) (by omega) (by omega)) rfl rfl hdd (Nat.le_refl _) (Nat.le_refl _) (by decide) (pm_kv (fun σ' cnt' hq => ?_))
              obtain ⟨rfl, rfl⟩ := hq
              obtain ⟨n_116, en_116⟩ : ∃ f : Nat → Int32, f = upd n_109 (12 * k17 + 1292) (nI k10) := ⟨_, rfl⟩
              rw [← en_116]
              have hnn_116 := KI.w en_116 hnn_109 (okv_n (show kd (12 * k17 + 1292) = (1, 1000, false) from (kd_E (k := k17) (c := 2) (by omega) (by omega) (by decide))) (by omega))
              have hrn_116 := NRx.w en_116 hrn_109 (by rw [(show kd (12 * k17 + 1292) = (1, 1000, false) from (kd_E (k := k17) (c := 2) (by omega) (by omega) (by decide)))])
              have e117 : n_116 8 = nI kc8 := by rw [en_116, pk_un (by omega)]; exact e110
              have e118 : n_116 2 = nI k1 := by rw [en_116, pk_un (by omega)]; exact e111
              have e119 : n_116 (14 * k4 + 114) = nI k14 := by rw [en_116, pk_un (by omega)]; exact e112
              have e120 : n_116 5 = nI (k17 + 1) := by rw [en_116, pk_un (by omega)]; exact e113
              have e121 : n_116 (12 * k17 + 1296) = (-1) := by rw [en_116, pk_un (by omega)]; exact e114
              have e122 : n_116 (12 * k17 + 1292) = nI k10 := by rw [en_116, pk_us]
              refine pm_aloadn hG dX12_draw_167 rfl ?_
              refine pm_iloadi hG dX12_draw_168 rfl ?_
              refine pm_bipush (v := nI 10) hG dX12_draw_170 (by decide) ?_
              refine pm_aloadn hG dX12_draw_172 rfl ?_
              refine pm_iloadn hG dX12_draw_173 rfl ?_
              refine pm_top (v := nI k4) ek4 ?_
              refine pm_iconst (v := nI 4) hG dX12_draw_174 (by decide) ?_
              refine pm_callV (As := [.int (nI k4), .int (nI 4)]) (rest := [.int (nI 10), .int (nI k17), .ref (B + 54)]) hG hR dX12_draw_175 (lkX12_72 _ rfl) okV_X12_man rfl rfl (m_man (d := 2) (e := 14 * k4 + 114) (by omega) (by omega) (by omega)) rfl rfl hdd (Nat.le_refl _) (Nat.le_refl _) (Nat.le_of_ble_eq_true rfl) (pm_ki (fun v123 σ' cnt' hq => ?_))
              obtain ⟨rfl, rfl, rfl⟩ := hq
              refine pm_top (v := nI k14) e119 ?_
              refine pm_callV (As := [.int (nI k17), .int (nI 10), .int (nI k14)]) (rest := []) hG hR dX12_draw_178 (lkX12_217 _ rfl) okV_X12_writes rfl rfl (m_writes (d := 2) (e := 12 * k17 + 1300) (by omega) (by omega) (by omega)) rfl rfl hdd (Nat.le_refl _) (Nat.le_refl _) (by decide) (pm_kv (fun σ' cnt' hq => ?_))
              obtain ⟨rfl, rfl⟩ := hq
              obtain ⟨n_124, en_124⟩ : ∃ f : Nat → Int32, f = upd n_116 (12 * k17 + 1300) (nI k14) := ⟨_, rfl⟩
              rw [← en_124]
              have hnn_124 := KI.w en_124 hnn_116 (okv_n (show kd (12 * k17 + 1300) = (1, 10, false) from (kd_E (k := k17) (c := 10) (by omega) (by omega) (by decide))) (by omega))
              have hrn_124 := NRx.w en_124 hrn_116 (by rw [(show kd (12 * k17 + 1300) = (1, 10, false) from (kd_E (k := k17) (c := 10) (by omega) (by omega) (by decide)))])
              have e125 : n_124 8 = nI kc8 := by rw [en_124, pk_un (by omega)]; exact e117
              have e126 : n_124 2 = nI k1 := by rw [en_124, pk_un (by omega)]; exact e118
              have e127 : n_124 (14 * k4 + 114) = nI k14 := by rw [en_124, pk_un (by omega)]; exact e119
              have e128 : n_124 5 = nI (k17 + 1) := by rw [en_124, pk_un (by omega)]; exact e120
              have e129 : n_124 (12 * k17 + 1296) = (-1) := by rw [en_124, pk_un (by omega)]; exact e121
              have e130 : n_124 (12 * k17 + 1300) = nI k14 := by rw [en_124, pk_us]
              refine pm_aloadn hG dX12_draw_181 rfl ?_
              refine pm_iloadi hG dX12_draw_182 rfl ?_
              refine pm_bipush (v := nI 9) hG dX12_draw_184 (by decide) ?_
              refine pm_aloadn hG dX12_draw_186 rfl ?_
              refine pm_aloadn hG dX12_draw_187 rfl ?_
              refine pm_iloadn hG dX12_draw_188 rfl ?_
              refine pm_top (v := nI k4) ek4 ?_
              refine pm_iconst (v := nI 4) hG dX12_draw_189 (by decide) ?_
              refine pm_callV (As := [.int (nI k4), .int (nI 4)]) (rest := [.ref (B + 54), .int (nI 9), .int (nI k17), .ref (B + 54)]) hG hR dX12_draw_190 (lkX12_72 _ rfl) okV_X12_man rfl rfl (m_man (d := 2) (e := 14 * k4 + 114) (by omega) (by omega) (by omega)) rfl rfl hdd (Nat.le_refl _) (Nat.le_refl _) (Nat.le_of_ble_eq_true rfl) (pm_ki (fun v131 σ' cnt' hq => ?_))
              obtain ⟨rfl, rfl, rfl⟩ := hq
              refine pm_top (v := nI k14) e127 ?_
              refine pm_callV (As := [.int (nI k14)]) (rest := [.int (nI 9), .int (nI k17), .ref (B + 54)]) hG hR dX12_draw_193 (lkX12_220 _ rfl) okV_X12_thoseIn rfl rfl (m_thoseIn (d := 2) (by decide) hnn_124 hz) rfl rfl hdd (Nat.le_refl _) (Nat.le_refl _) (Nat.le_of_ble_eq_true rfl) (pm_ki (fun v132 σ' cnt' hq => ?_))
              obtain ⟨rfl, rfl⟩ := hq
              refine pm_callV (As := [.int (nI k17), .int (nI 9), .int v132]) (rest := []) hG hR dX12_draw_196 (lkX12_217 _ rfl) okV_X12_writes rfl rfl (m_writes (d := 2) (e := 12 * k17 + 1299) (by omega) (by omega) (by omega)) rfl rfl hdd (Nat.le_refl _) (Nat.le_refl _) (by decide) (pm_kv (fun σ' cnt' hq => ?_))
              obtain ⟨rfl, rfl⟩ := hq
              obtain ⟨n_134, en_134⟩ : ∃ f : Nat → Int32, f = upd n_124 (12 * k17 + 1299) v132 := ⟨_, rfl⟩
              rw [← en_134]
              have hnn_134 := KI.w en_134 hnn_124 (okv_f (show kd (12 * k17 + 1299) = (0, 0, false) from (kd_E (k := k17) (c := 9) (by omega) (by omega) (by decide))))
              have hrn_134 := NRx.w en_134 hrn_124 (by rw [(show kd (12 * k17 + 1299) = (0, 0, false) from (kd_E (k := k17) (c := 9) (by omega) (by omega) (by decide)))])
              have e135 : n_134 8 = nI kc8 := by rw [en_134, pk_un (by omega)]; exact e125
              have e136 : n_134 2 = nI k1 := by rw [en_134, pk_un (by omega)]; exact e126
              have e137 : n_134 (14 * k4 + 114) = nI k14 := by rw [en_134, pk_un (by omega)]; exact e127
              have e138 : n_134 5 = nI (k17 + 1) := by rw [en_134, pk_un (by omega)]; exact e128
              have e139 : n_134 (12 * k17 + 1296) = (-1) := by rw [en_134, pk_un (by omega)]; exact e129
              have e140 : n_134 (12 * k17 + 1299) = v132 := by rw [en_134, pk_us]
              refine pm_iloadi hG dX12_draw_199 rfl ?_
              exact pm_iret hG hF dX12_draw_201 rfl (Nat.le_refl _) (Nat.le_refl _) ⟨_, rfl, ⟨_, _, _, rfl, hnn_134, (NRx.cl hrn_134 e139), e135.trans ekc8.symm⟩, rfl⟩
            · refine pm_aloadn hG dX12_draw_72 rfl ?_
              refine pm_iconst (v := nI 4) hG dX12_draw_73 (by decide) ?_
              refine pm_callV (As := [.int (nI 4)]) (rest := []) hG hR dX12_draw_74 (lkX12_80 _ rfl) okV_X12_finds rfl rfl (m_finds (d := 2) (by decide) hn hz (by omega)) rfl rfl hdd (Nat.le_refl _) (Nat.le_refl _) (by decide) (pm_ki (fun v141 σ' cnt' hq => ?_))
              obtain ⟨⟨I142, A142, rfl⟩, rfl, fv141⟩ := hq
              exact pm_iret hG hF dX12_draw_77 rfl (Nat.le_refl _) (Nat.le_refl _) ⟨_, rfl, ⟨_, _, _, rfl, hn, hr, ekc8.trans ekc8.symm⟩, rfl⟩
        · refine pm_callV (As := [.int (nI k4)]) (rest := []) hG hR dX12_draw_36 (lkX12_101 _ rfl) okV_X12_lives rfl rfl (m_lives0 (d := 2) (by decide) (by omega) (by omega : 14 * k4 + 119 = 14 * k4 + 119) ek11 (by omega)) rfl rfl hdd (Nat.le_refl _) (Nat.le_refl _) (by decide) (pm_ki (fun v143 σ' cnt' hq => ?_))
          obtain ⟨rfl, rfl, rfl⟩ := hq
          refine pm_ifN_eq (tgt := 51) hG dX12_draw_39 rfl (by omega) (fun _ => ?_) (fun q => absurd q (by omega))
          refine pm_aloadn hG dX12_draw_51 rfl ?_
          refine pm_iconst (v := nI 3) hG dX12_draw_52 (by decide) ?_
          refine pm_callV (As := [.int (nI 3)]) (rest := []) hG hR dX12_draw_53 (lkX12_80 _ rfl) okV_X12_finds rfl rfl (m_finds (d := 2) (by decide) hn hz (by omega)) rfl rfl hdd (Nat.le_refl _) (Nat.le_refl _) (by decide) (pm_ki (fun v144 σ' cnt' hq => ?_))
          obtain ⟨⟨I145, A145, rfl⟩, rfl, fv144⟩ := hq
          exact pm_iret hG hF dX12_draw_56 rfl (Nat.le_refl _) (Nat.le_refl _) ⟨_, rfl, ⟨_, _, _, rfl, hn, hr, ekc8.trans ekc8.symm⟩, rfl⟩
      · refine pm_ifN_ne (tgt := 34) hG dX12_draw_25 rfl (by omega) (fun q => absurd q (by omega)) (fun _ => ?_)
        refine pm_aloadn hG dX12_draw_28 rfl ?_
        refine pm_iconst (v := nI 1) hG dX12_draw_29 (by decide) ?_
        refine pm_callV (As := [.int (nI 1)]) (rest := []) hG hR dX12_draw_30 (lkX12_80 _ rfl) okV_X12_finds rfl rfl (m_finds (d := 2) (by decide) hn hz (by omega)) rfl rfl hdd (Nat.le_refl _) (Nat.le_refl _) (by decide) (pm_ki (fun v146 σ' cnt' hq => ?_))
        obtain ⟨⟨I147, A147, rfl⟩, rfl, fv146⟩ := hq
        exact pm_iret hG hF dX12_draw_33 rfl (Nat.le_refl _) (Nat.le_refl _) ⟨_, rfl, ⟨_, _, _, rfl, hn, hr, ekc8.trans ekc8.symm⟩, rfl⟩
    · refine pm_ifN_eq (tgt := 28) hG dX12_draw_14 rfl (by omega) (fun _ => ?_) (fun q => absurd q (by omega))
      refine pm_aloadn hG dX12_draw_28 rfl ?_
      refine pm_iconst (v := nI 1) hG dX12_draw_29 (by decide) ?_
      refine pm_callV (As := [.int (nI 1)]) (rest := []) hG hR dX12_draw_30 (lkX12_80 _ rfl) okV_X12_finds rfl rfl (m_finds (d := 2) (by decide) hn hz (by omega)) rfl rfl hdd (Nat.le_refl _) (Nat.le_refl _) (by decide) (pm_ki (fun v148 σ' cnt' hq => ?_))
      obtain ⟨⟨I149, A149, rfl⟩, rfl, fv148⟩ := hq
      exact pm_iret hG hF dX12_draw_33 rfl (Nat.le_refl _) (Nat.le_refl _) ⟨_, rfl, ⟨_, _, _, rfl, hn, hr, ekc8.trans ekc8.symm⟩, rfl⟩
  · refine pm_ifN_eq (tgt := 28) hG dX12_draw_5 rfl (by omega) (fun _ => ?_) (fun q => absurd q (by omega))
    refine pm_aloadn hG dX12_draw_28 rfl ?_
    refine pm_iconst (v := nI 1) hG dX12_draw_29 (by decide) ?_
    refine pm_callV (As := [.int (nI 1)]) (rest := []) hG hR dX12_draw_30 (lkX12_80 _ rfl) okV_X12_finds rfl rfl (m_finds (d := 2) (by decide) hn hz (by omega)) rfl rfl hdd (Nat.le_refl _) (Nat.le_refl _) (by decide) (pm_ki (fun v150 σ' cnt' hq => ?_))
    obtain ⟨⟨I151, A151, rfl⟩, rfl, fv150⟩ := hq
    exact pm_iret hG hF dX12_draw_33 rfl (Nat.le_refl _) (Nat.le_refl _) ⟨_, rfl, ⟨_, _, _, rfl, hn, hr, ekc8.trans ekc8.symm⟩, rfl⟩
