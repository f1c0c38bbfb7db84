set_option maxRecDepth 100000 in
set_option maxHeartbeats 4000000 in
theorem m_thoseIn {d B cnt p0 t0 : Nat} {σ : pm_S} {I : Nat → Int32} {A : Nat → Nat → Int32} {n k z : Nat → Int32} {ac wt pl im : Int32} {za : Int32} (hdd : 2 ≤ d) (hn : KI n) (hz : SZ z)  : pm_met mX12_thoseIn d 0 0 B [.ref (B + 54), .int za] cnt (pm_mid σ (md_L B I A n k z ac wt pl (nI p0) (nI t0) im)) (pm_Qi (fun v σ' cnt' => σ' = pm_mid σ (md_L B I A n k z ac wt pl (nI p0) (nI t0) im) ∧ cnt = cnt')) := by
  refine pm_enter 2 (by decide) (Nat.le_of_ble_eq_true rfl) rfl (fun G hG hR hF => ?_)
  refine pm_iconst (v := nI 0) hG dX12_thoseIn_0 (by decide) ?_
  refine pm_istoreXn (loc' := [some (.ref (B + 54)), some (.int za), some (.int (nI 0)), none]) hG dX12_thoseIn_1 (by decide) (pm_c1b rfl) rfl ?_
  refine pm_iconst (v := nI 0) hG dX12_thoseIn_2 (by decide) ?_
  refine pm_istoreXn (loc' := [some (.ref (B + 54)), some (.int za), some (.int (nI 0)), some (.int (nI 0))]) hG dX12_thoseIn_3 (by decide) (pm_c1b rfl) rfl ?_
  have loop4_1 : ∀ (m1 : Nat) (x1_2 : Int32) (i1 : Nat), i1 ≤ 20 → 20 - i1 < m1 → pm_wp mX12_thoseIn G B 4 [some (.ref (B + 54)), some (.int za), some (.int x1_2), some (.int (nI i1))] [] 0 0 cnt (pm_mid σ (md_L B I A n k z ac wt pl (nI p0) (nI t0) im)) := by
    intro m1
    induction m1 with
    | zero => intro x1_2 i1 _ hm; exact absurd hm (Nat.not_lt_zero _)
    | succ m1 ih1 =>
      intro x1_2 i1 hi1 hm1
      refine pm_iloadn hG dX12_thoseIn_4 rfl ?_
      refine pm_aloadn hG dX12_thoseIn_5 rfl ?_
      refine pm_getf hG dX12_thoseIn_6 (flX12_7 _ rfl) rfl rfl ?_
      refine pm_iconst (v := nI 2) hG dX12_thoseIn_9 (by decide) ?_
      refine pm_ialdN hG dX12_thoseIn_10 rfl (by decide) (by omega) ?_
      obtain ⟨k2, hk2, ek2⟩ := KI.nat hn (show kd 2 = (1, 21, true) by decide)
      refine pm_top (v := nI k2) ek2 ?_
      refine pm_icmpN_ge (tgt := 48) hG dX12_thoseIn_11 rfl (by omega) (by omega) (fun c3 => ?_) (fun c3 => ?_)
      · refine pm_iloadn hG dX12_thoseIn_48 rfl ?_
        exact pm_iret hG hF dX12_thoseIn_49 rfl (Nat.le_refl _) (Nat.le_refl _) ⟨_, rfl, rfl, rfl⟩
      · refine pm_iloadn hG dX12_thoseIn_14 rfl ?_
        refine pm_aloadn hG dX12_thoseIn_15 rfl ?_
        refine pm_iloadn hG dX12_thoseIn_16 rfl ?_
        rcases KI.opt hn (show kd (14 * i1 + 119) = (2, 2001, false) from (kd_P (k := i1) (c := 9) (by omega) (by omega) (by decide))) with ek4 | ⟨k4, hk4, ek4⟩
        · refine pm_callV (As := [.int (nI i1)]) (rest := [.int x1_2]) hG hR dX12_thoseIn_17 (lkX12_101 _ rfl) okV_X12_lives rfl rfl (m_lives1 (d := 1) (by decide) (by omega) (by omega : 14 * i1 + 119 = 14 * i1 + 119) ek4) rfl rfl hdd (Nat.le_refl _) (Nat.le_refl _) (Nat.le_of_ble_eq_true rfl) (pm_ki (fun v5 σ' cnt' hq => ?_))
          obtain ⟨rfl, rfl, rfl⟩ := hq
          refine pm_ifN_eq (tgt := 39) hG dX12_thoseIn_20 rfl (by omega) (fun q => absurd q (by omega)) (fun _ => ?_)
          refine pm_aloadn hG dX12_thoseIn_23 rfl ?_
          refine pm_iloadn hG dX12_thoseIn_24 rfl ?_
          refine pm_iconst (v := nI 4) hG dX12_thoseIn_25 (by decide) ?_
          refine pm_callV (As := [.int (nI i1), .int (nI 4)]) (rest := [.int x1_2]) hG hR dX12_thoseIn_26 (lkX12_72 _ rfl) okV_X12_man rfl rfl (m_man (d := 1) (e := 14 * i1 + 114) (by omega) (by omega) (by omega)) rfl rfl hdd (Nat.le_refl _) (Nat.le_refl _) (Nat.le_of_ble_eq_true rfl) (pm_ki (fun v6 σ' cnt' hq => ?_))
          obtain ⟨rfl, rfl, rfl⟩ := hq
          rcases KI.opt hn (show kd (14 * i1 + 114) = (2, 10, false) from (kd_P (k := i1) (c := 4) (by omega) (by omega) (by decide))) with ek7 | ⟨k7, hk7, ek7⟩
          · refine pm_top (v := (-1)) ek7 ?_
            refine pm_iloadn hG dX12_thoseIn_29 rfl ?_
            refine pm_icmp_ne (tgt := 39) hG dX12_thoseIn_30 rfl (fun c8 => ?_) (fun c8 => ?_)
            · refine pm_iconst (v := nI 0) hG dX12_thoseIn_39 (by decide) ?_
              refine pm_ior hG dX12_thoseIn_40 ?_
              refine pm_any (fun x9 => ?_)
              refine pm_istoreXn (loc' := [some (.ref (B + 54)), some (.int za), some (.int x9), some (.int (nI i1))]) hG dX12_thoseIn_41 (by decide) (pm_c1b rfl) rfl ?_
              refine pm_iincX (v := nI (i1 + 1)) (loc' := [some (.ref (B + 54)), some (.int za), some (.int x9), some (.int (nI (i1 + 1)))]) hG dX12_thoseIn_42 rfl (nI_1 _) (by decide) (pm_c1b rfl) rfl ?_
              refine pm_goto (tgt := 4) hG dX12_thoseIn_45 rfl ?_
              exact ih1 x9 (i1 + 1) (by omega) (by omega)
            · refine pm_iconst (v := nI 1) hG dX12_thoseIn_33 (by decide) ?_
              refine pm_iloadn hG dX12_thoseIn_34 rfl ?_
              refine pm_ishl hG dX12_thoseIn_35 ?_
              refine pm_any (fun x10 => ?_)
              refine pm_goto (tgt := 40) hG dX12_thoseIn_36 rfl ?_
              refine pm_ior hG dX12_thoseIn_40 ?_
              refine pm_any (fun x11 => ?_)
              refine pm_istoreXn (loc' := [some (.ref (B + 54)), some (.int za), some (.int x11), some (.int (nI i1))]) hG dX12_thoseIn_41 (by decide) (pm_c1b rfl) rfl ?_
              refine pm_iincX (v := nI (i1 + 1)) (loc' := [some (.ref (B + 54)), some (.int za), some (.int x11), some (.int (nI (i1 + 1)))]) hG dX12_thoseIn_42 rfl (nI_1 _) (by decide) (pm_c1b rfl) rfl ?_
              refine pm_goto (tgt := 4) hG dX12_thoseIn_45 rfl ?_
              exact ih1 x11 (i1 + 1) (by omega) (by omega)
          · refine pm_top (v := nI k7) ek7 ?_
            refine pm_iloadn hG dX12_thoseIn_29 rfl ?_
            refine pm_icmp_ne (tgt := 39) hG dX12_thoseIn_30 rfl (fun c12 => ?_) (fun c12 => ?_)
            · refine pm_iconst (v := nI 0) hG dX12_thoseIn_39 (by decide) ?_
              refine pm_ior hG dX12_thoseIn_40 ?_
              refine pm_any (fun x13 => ?_)
              refine pm_istoreXn (loc' := [some (.ref (B + 54)), some (.int za), some (.int x13), some (.int (nI i1))]) hG dX12_thoseIn_41 (by decide) (pm_c1b rfl) rfl ?_
              refine pm_iincX (v := nI (i1 + 1)) (loc' := [some (.ref (B + 54)), some (.int za), some (.int x13), some (.int (nI (i1 + 1)))]) hG dX12_thoseIn_42 rfl (nI_1 _) (by decide) (pm_c1b rfl) rfl ?_
              refine pm_goto (tgt := 4) hG dX12_thoseIn_45 rfl ?_
              exact ih1 x13 (i1 + 1) (by omega) (by omega)
            · refine pm_iconst (v := nI 1) hG dX12_thoseIn_33 (by decide) ?_
              refine pm_iloadn hG dX12_thoseIn_34 rfl ?_
              refine pm_ishl hG dX12_thoseIn_35 ?_
              refine pm_any (fun x14 => ?_)
              refine pm_goto (tgt := 40) hG dX12_thoseIn_36 rfl ?_
              refine pm_ior hG dX12_thoseIn_40 ?_
              refine pm_any (fun x15 => ?_)
              refine pm_istoreXn (loc' := [some (.ref (B + 54)), some (.int za), some (.int x15), some (.int (nI i1))]) hG dX12_thoseIn_41 (by decide) (pm_c1b rfl) rfl ?_
              refine pm_iincX (v := nI (i1 + 1)) (loc' := [some (.ref (B + 54)), some (.int za), some (.int x15), some (.int (nI (i1 + 1)))]) hG dX12_thoseIn_42 rfl (nI_1 _) (by decide) (pm_c1b rfl) rfl ?_
              refine pm_goto (tgt := 4) hG dX12_thoseIn_45 rfl ?_
              exact ih1 x15 (i1 + 1) (by omega) (by omega)
        · refine pm_callV (As := [.int (nI i1)]) (rest := [.int x1_2]) hG hR dX12_thoseIn_17 (lkX12_101 _ rfl) okV_X12_lives rfl rfl (m_lives0 (d := 1) (by decide) (by omega) (by omega : 14 * i1 + 119 = 14 * i1 + 119) ek4 (by omega)) rfl rfl hdd (Nat.le_refl _) (Nat.le_refl _) (Nat.le_of_ble_eq_true rfl) (pm_ki (fun v16 σ' cnt' hq => ?_))
          obtain ⟨rfl, rfl, rfl⟩ := hq
          refine pm_ifN_eq (tgt := 39) hG dX12_thoseIn_20 rfl (by omega) (fun _ => ?_) (fun q => absurd q (by omega))
          refine pm_iconst (v := nI 0) hG dX12_thoseIn_39 (by decide) ?_
          refine pm_ior hG dX12_thoseIn_40 ?_
          refine pm_any (fun x17 => ?_)
          refine pm_istoreXn (loc' := [some (.ref (B + 54)), some (.int za), some (.int x17), some (.int (nI i1))]) hG dX12_thoseIn_41 (by decide) (pm_c1b rfl) rfl ?_
          refine pm_iincX (v := nI (i1 + 1)) (loc' := [some (.ref (B + 54)), some (.int za), some (.int x17), some (.int (nI (i1 + 1)))]) hG dX12_thoseIn_42 rfl (nI_1 _) (by decide) (pm_c1b rfl) rfl ?_
          refine pm_goto (tgt := 4) hG dX12_thoseIn_45 rfl ?_
          exact ih1 x17 (i1 + 1) (by omega) (by omega)
  exact loop4_1 _ (nI 0) 0 (by omega) (Nat.lt_succ_self _)

set_option maxRecDepth 100000 in
set_option maxHeartbeats 4000000 in
theorem m_draw {d B cnt p0 t0 : Nat} {σ : pm_S} {I : Nat → Int32} {A : Nat → Nat → Int32} {n k z : Nat → Int32} {ac wt pl im : Int32} {za zb zc : Int32} (hdd : 3 ≤ d) (hn : KI n) (hr : NR n) (hz : SZ z)  : pm_met mX12_draw d 0 0 B [.ref (B + 54), .int za, .int zb, .int zc] cnt (pm_mid σ (md_L B I A n k z ac wt pl (nI p0) (nI t0) im)) (pm_Qi (fun v σ' cnt' => (∃ (I' : Nat → Int32) (A' : Nat → Nat → Int32) (n' : Nat → Int32), σ' = pm_mid σ (md_L B I' A' n' k z ac wt pl (nI p0) (nI t0) im) ∧ KI n' ∧ NR n' ∧ KS n' n) ∧ cnt = cnt')) := by
  refine pm_enter 2 (by decide) (Nat.le_of_ble_eq_true rfl) rfl (fun G hG hR hF => ?_)
  refine pm_aloadn hG dX12_draw_0 rfl ?_
  refine pm_iloadn hG dX12_draw_1 rfl ?_
  obtain ⟨k1, hk1, ek1⟩ := KI.nat hn (show kd 2 = (1, 21, true) by decide)
  refine pm_callV (As := [.int za]) (rest := []) hG hR dX12_draw_2 (lkX12_91 _ rfl) okV_X12_isPerson rfl rfl (m_isPerson (d := 2) (by decide) ek1 (by omega)) rfl rfl hdd (Nat.le_refl _) (Nat.le_refl _) (by decide) (pm_ki (fun v2 σ' cnt' hq => ?_))
  obtain ⟨hq, rfl, rfl⟩ := hq
  rcases hq with ⟨rfl, k4, hk4, ek4⟩ | rfl
  · refine pm_ifN_eq (tgt := 28) hG dX12_draw_5 rfl (by omega) (fun q => absurd q (by omega)) (fun _ => ?_)
    refine pm_iloadn hG dX12_draw_8 rfl ?_
    refine pm_iconst (v := nI 0) hG dX12_draw_9 (by decide) ?_
    refine pm_iconst (v := nI 4) hG dX12_draw_10 (by decide) ?_
    refine pm_callS (As := [.int zb, .int (nI 0), .int (nI 4)]) (rest := []) hG hR dX12_draw_11 (lkX12_68 _ rfl) okS_X12_in (m_in (d := 2)) rfl rfl hdd (Nat.le_refl _) (Nat.le_refl _) (by decide) (pm_ki (fun v5 σ' cnt' hq => ?_))
    obtain ⟨hq, rfl, rfl⟩ := hq
    rcases hq with ⟨rfl, ac6, bc6⟩ | ⟨rfl, c6⟩
    · obtain ⟨k7, hk7, ek7⟩ := in_nat (by omega) (by omega) ac6 bc6
      refine pm_ifN_eq (tgt := 28) hG dX12_draw_14 rfl (by omega) (fun q => absurd q (by omega)) (fun _ => ?_)
      refine pm_iloadn hG dX12_draw_17 rfl ?_
      refine pm_iconst (v := nI 0) hG dX12_draw_18 (by decide) ?_
      refine pm_sipush (v := nI 999) hG dX12_draw_19 (by decide) ?_
      refine pm_callS (As := [.int zc, .int (nI 0), .int (nI 999)]) (rest := []) hG hR dX12_draw_22 (lkX12_68 _ rfl) okS_X12_in (m_in (d := 2)) rfl rfl hdd (Nat.le_refl _) (Nat.le_refl _) (by decide) (pm_ki (fun v8 σ' cnt' hq => ?_))
      obtain ⟨hq, rfl, rfl⟩ := hq
      rcases hq with ⟨rfl, ac9, bc9⟩ | ⟨rfl, c9⟩
      · obtain ⟨k10, hk10, ek10⟩ := in_nat (by omega) (by omega) ac9 bc9
        refine pm_ifN_ne (tgt := 34) hG dX12_draw_25 rfl (by omega) (fun _ => ?_) (fun q => absurd q (by omega))
        refine pm_aloadn hG dX12_draw_34 rfl ?_
        refine pm_iloadn hG dX12_draw_35 rfl ?_
        refine pm_top (v := nI k4) ek4 ?_
        rcases KI.opt hn (show kd (14 * k4 + 119) = (2, 2001, false) from (kd_P (k := k4) (c := 9) (by omega) (by omega) (by decide))) with ek11 | ⟨k11, hk11, ek11⟩
        · refine pm_callV (As := [.int (nI k4)]) (rest := []) hG hR dX12_draw_36 (lkX12_101 _ rfl) okV_X12_lives rfl rfl (m_lives1 (d := 2) (by decide) (by omega) (by omega : 14 * k4 + 119 = 14 * k4 + 119) ek11) rfl rfl hdd (Nat.le_refl _) (Nat.le_refl _) (by decide) (pm_ki (fun v12 σ' cnt' hq => ?_))
          obtain ⟨rfl, rfl, rfl⟩ := hq
          refine pm_ifN_eq (tgt := 51) hG dX12_draw_39 rfl (by omega) (fun q => absurd q (by omega)) (fun _ => ?_)
          refine pm_aloadn hG dX12_draw_42 rfl ?_
          refine pm_iloadn hG dX12_draw_43 rfl ?_
          refine pm_top (v := nI k4) ek4 ?_
          refine pm_iconst (v := nI 4) hG dX12_draw_44 (by decide) ?_
          refine pm_callV (As := [.int (nI k4), .int (nI 4)]) (rest := []) hG hR dX12_draw_45 (lkX12_72 _ rfl) okV_X12_man rfl rfl (m_man (d := 2) (e := 14 * k4 + 114) (by omega) (by omega) (by omega)) rfl rfl hdd (Nat.le_refl _) (Nat.le_refl _) (by decide) (pm_ki (fun v13 σ' cnt' hq => ?_))
          obtain ⟨rfl, rfl, rfl⟩ := hq
          rcases KI.opt hn (show kd (14 * k4 + 114) = (2, 10, false) from (kd_P (k := k4) (c := 4) (by omega) (by omega) (by decide))) with ek14 | ⟨k14, hk14, ek14⟩
          · refine pm_top (v := (-1)) ek14 ?_
            refine pm_if_ge (tgt := 57) hG dX12_draw_48 rfl (fun q => absurd q (by decide)) (fun _ => ?_)
            refine pm_aloadn hG dX12_draw_51 rfl ?_
            refine pm_iconst (v := nI 3) hG dX12_draw_52 (by decide) ?_
            refine pm_callV (As := [.int (nI 3)]) (rest := []) hG hR dX12_draw_53 (lkX12_80 _ rfl) okV_X12_finds rfl rfl (m_finds (d := 2) (by decide) hn hz (by omega)) rfl rfl hdd (Nat.le_refl _) (Nat.le_refl _) (by decide) (pm_ki (fun v15 σ' cnt' hq => ?_))
            obtain ⟨⟨I16, A16, rfl⟩, rfl, fv15⟩ := hq
            exact pm_iret hG hF dX12_draw_56 rfl (Nat.le_refl _) (Nat.le_refl _) ⟨_, rfl, ⟨_, _, _, rfl, hn, hr, KS.rf⟩, rfl⟩
          · refine pm_top (v := nI k14) ek14 ?_
            refine pm_ifN_ge (tgt := 57) hG dX12_draw_48 rfl (by omega) ?_
            refine pm_aloadn hG dX12_draw_57 rfl ?_
            refine pm_getf hG dX12_draw_58 (flX12_7 _ rfl) rfl rfl ?_
            refine pm_iconst (v := nI 5) hG dX12_draw_61 (by decide) ?_
            refine pm_ialdN hG dX12_draw_62 rfl (by decide) (by omega) ?_
            obtain ⟨k17, hk17, ek17⟩ := KI.nat hn (show kd 5 = (1, 41, true) by decide)
            refine pm_top (v := nI k17) ek17 ?_
            refine pm_istoreXi (loc' := [some (.ref (B + 54)), some (.int za), some (.int zb), some (.int zc), some (.int (nI k17)), none]) hG dX12_draw_63 (by decide) (pm_c1b rfl) rfl ?_
            refine pm_iloadi hG dX12_draw_65 rfl ?_
            refine pm_bipush (v := nI 40) hG dX12_draw_67 (by decide) ?_
            refine pm_icmpN_ne (tgt := 78) hG dX12_draw_69 rfl (by omega) (by omega) (fun c18 => ?_) (fun c18 => ?_)
            · refine pm_aloadn hG dX12_draw_78 rfl ?_
              refine pm_getf hG dX12_draw_79 (flX12_7 _ rfl) rfl rfl ?_
              refine pm_iconst (v := nI 5) hG dX12_draw_82 (by decide) ?_
              refine pm_dup2 hG dX12_draw_83 rfl rfl ?_
              refine pm_ialdN hG dX12_draw_84 rfl (by decide) (by omega) ?_
              refine pm_top (v := nI k17) ek17 ?_
              refine pm_iconst (v := nI 1) hG dX12_draw_85 (by decide) ?_
              refine pm_iaddN (c := k17 + 1) hG dX12_draw_86 (by omega) ?_
              refine pm_iastN hG dX12_draw_87 rfl (by decide) (by omega) ?_
              refine mdn_now (fun n_19 en_19 => ?_)
              have hnn_19 := KI.w en_19 hn (okv_n (show kd 5 = (1, 41, true) by decide) (by omega))
              obtain ⟨k20, hk20, ek20⟩ := NRx.some hn ek1 (by omega) hr
              have hrn_19 := NRx.lett en_19 hr ek20 (by omega) ek17 (by omega)
              have ksn_19 := KS.w en_19 KS.rf (by unfold tS; omega)
              have e21 : n_19 2 = nI k1 := by rw [en_19, pk_un (by omega)]; exact ek1
              have e22 : n_19 (14 * k4 + 114) = nI k14 := by rw [en_19, pk_un (by omega)]; exact ek14
              have e23 : n_19 5 = nI (k17 + 1) := by rw [en_19, pk_us]
              refine pm_iconst (v := nI 0) hG dX12_draw_88 (by decide) ?_
              refine pm_istoreXi (loc' := [some (.ref (B + 54)), some (.int za), some (.int zb), some (.int zc), some (.int (nI k17)), some (.int (nI 0))]) hG dX12_draw_89 (by decide) (pm_c1b rfl) rfl ?_
              refine pm_iloadi hG dX12_draw_91 rfl ?_
              refine pm_bipush (v := nI 12) hG dX12_draw_93 (by decide) ?_
              refine pm_icmpN_ge (tgt := 143) hG dX12_draw_95 rfl (by omega) (by omega) (fun q => absurd q (by omega)) (fun _ => ?_)
              refine pm_aloadn hG dX12_draw_98 rfl ?_
              refine pm_iloadi hG dX12_draw_99 rfl ?_
              refine pm_iloadi hG dX12_draw_101 rfl ?_
              refine pm_iloadi hG dX12_draw_103 rfl ?_
              refine pm_iconst (v := nI 4) hG dX12_draw_105 (by decide) ?_
              refine pm_icmpN_eq (tgt := 129) hG dX12_draw_106 rfl (by omega) (by omega) (fun q => absurd q (by omega)) (fun _ => ?_)
              refine pm_iloadi hG dX12_draw_109 rfl ?_
              refine pm_iconst (v := nI 5) hG dX12_draw_111 (by decide) ?_
              refine pm_icmpN_eq (tgt := 129) hG dX12_draw_112 rfl (by omega) (by omega) (fun q => absurd q (by omega)) (fun _ => ?_)
              refine pm_iloadi hG dX12_draw_115 rfl ?_
              refine pm_bipush (v := nI 6) hG dX12_draw_117 (by decide) ?_
              refine pm_icmpN_eq (tgt := 129) hG dX12_draw_119 rfl (by omega) (by omega) (fun q => absurd q (by omega)) (fun _ => ?_)
              refine pm_iloadi hG dX12_draw_122 rfl ?_
              refine pm_bipush (v := nI 7) hG dX12_draw_124 (by decide) ?_
              refine pm_icmpN_ne (tgt := 133) hG dX12_draw_126 rfl (by omega) (by omega) (fun _ => ?_) (fun q => absurd q (by omega))
              refine pm_iconst (v := nI 0) hG dX12_draw_133 (by decide) ?_
              refine pm_callV (As := [.int (nI k17), .int (nI 0), .int (nI 0)]) (rest := []) hG hR dX12_draw_134 (lkX12_217 _ rfl) okV_X12_writes rfl rfl (m_writes (d := 2) (e := 12 * k17 + 1290) (by omega) (by omega) (by omega)) rfl rfl hdd (Nat.le_refl _) (Nat.le_refl _) (by decide) (pm_kv (fun σ' cnt' hq => ?_))
              obtain ⟨rfl, rfl⟩ := hq
              obtain ⟨n_24, en_24⟩ : ∃ f : Nat → Int32, f = upd n_19 (12 * k17 + 1290) (nI 0) := ⟨_, rfl⟩
              rw [← en_24]
              have hnn_24 := KI.w en_24 hnn_19 (okv_f (show kd (12 * k17 + 1290) = (0, 0, false) from (kd_E (k := k17) (c := 0) (by omega) (by omega) (by decide))))
              have hrn_24 := NRx.w en_24 hrn_19 (by rw [(show kd (12 * k17 + 1290) = (0, 0, false) from (kd_E (k := k17) (c := 0) (by omega) (by omega) (by decide)))])
              have ksn_24 := KS.w en_24 ksn_19 (by unfold tS; omega)
              have e25 : n_24 2 = nI k1 := by rw [en_24, pk_un (by omega)]; exact e21
              have e26 : n_24 (14 * k4 + 114) = nI k14 := by rw [en_24, pk_un (by omega)]; exact e22
              have e27 : n_24 5 = nI (k17 + 1) := by rw [en_24, pk_un (by omega)]; exact e23
              have e28 : n_24 (12 * k17 + 1290) = nI 0 := by rw [en_24, pk_us]
              refine pm_iincX (v := nI 1) (loc' := [some (.ref (B + 54)), some (.int za), some (.int zb), some (.int zc), some (.int (nI k17)), some (.int (nI 1))]) hG dX12_draw_137 rfl (nI_1 _) (by decide) (pm_c1b rfl) rfl ?_
              refine pm_goto (tgt := 91) hG dX12_draw_140 rfl ?_
              refine pm_iloadi hG dX12_draw_91 rfl ?_
              refine pm_bipush (v := nI 12) hG dX12_draw_93 (by decide) ?_
              refine pm_icmpN_ge (tgt := 143) hG dX12_draw_95 rfl (by omega) (by omega) (fun q => absurd q (by omega)) (fun _ => ?_)
              refine pm_aloadn hG dX12_draw_98 rfl ?_
              refine pm_iloadi hG dX12_draw_99 rfl ?_
              refine pm_iloadi hG dX12_draw_101 rfl ?_
              refine pm_iloadi hG dX12_draw_103 rfl ?_
              refine pm_iconst (v := nI 4) hG dX12_draw_105 (by decide) ?_
              refine pm_icmpN_eq (tgt := 129) hG dX12_draw_106 rfl (by omega) (by omega) (fun q => absurd q (by omega)) (fun _ => ?_)
              refine pm_iloadi hG dX12_draw_109 rfl ?_
              refine pm_iconst (v := nI 5) hG dX12_draw_111 (by decide) ?_
              refine pm_icmpN_eq (tgt := 129) hG dX12_draw_112 rfl (by omega) (by omega) (fun q => absurd q (by omega)) (fun _ => ?_)
              refine pm_iloadi hG dX12_draw_115 rfl ?_
              refine pm_bipush (v := nI 6) hG dX12_draw_117 (by decide) ?_
              refine pm_icmpN_eq (tgt := 129) hG dX12_draw_119 rfl (by omega) (by omega) (fun q => absurd q (by omega)) (fun _ => ?_)
              refine pm_iloadi hG dX12_draw_122 rfl ?_
              refine pm_bipush (v := nI 7) hG dX12_draw_124 (by decide) ?_
              refine pm_icmpN_ne (tgt := 133) hG dX12_draw_126 rfl (by omega) (by omega) (fun _ => ?_) (fun q => absurd q (by omega))
              refine pm_iconst (v := nI 0) hG dX12_draw_133 (by decide) ?_
              refine pm_callV (As := [.int (nI k17), .int (nI 1), .int (nI 0)]) (rest := []) hG hR dX12_draw_134 (lkX12_217 _ rfl) okV_X12_writes rfl rfl (m_writes (d := 2) (e := 12 * k17 + 1291) (by omega) (by omega) (by omega)) rfl rfl hdd (Nat.le_refl _) (Nat.le_refl _) (by decide) (pm_kv (fun σ' cnt' hq => ?_))
              obtain ⟨rfl, rfl⟩ := hq
              obtain ⟨n_29, en_29⟩ : ∃ f : Nat → Int32, f = upd n_24 (12 * k17 + 1291) (nI 0) := ⟨_, rfl⟩
              rw [← en_29]
              have hnn_29 := KI.w en_29 hnn_24 (okv_f (show kd (12 * k17 + 1291) = (0, 0, false) from (kd_E (k := k17) (c := 1) (by omega) (by omega) (by decide))))
              have hrn_29 := NRx.w en_29 hrn_24 (by rw [(show kd (12 * k17 + 1291) = (0, 0, false) from (kd_E (k := k17) (c := 1) (by omega) (by omega) (by decide)))])
              have ksn_29 := KS.w en_29 ksn_24 (by unfold tS; omega)
              have e30 : n_29 2 = nI k1 := by rw [en_29, pk_un (by omega)]; exact e25
              have e31 : n_29 (14 * k4 + 114) = nI k14 := by rw [en_29, pk_un (by omega)]; exact e26
              have e32 : n_29 5 = nI (k17 + 1) := by rw [en_29, pk_un (by omega)]; exact e27
              have e33 : n_29 (12 * k17 + 1291) = nI 0 := by rw [en_29, pk_us]
              refine pm_iincX (v := nI 2) (loc' := [some (.ref (B + 54)), some (.int za), some (.int zb), some (.int zc), some (.int (nI k17)), some (.int (nI 2))]) hG dX12_draw_137 rfl (nI_1 _) (by decide) (pm_c1b rfl) rfl ?_
              refine pm_goto (tgt := 91) hG dX12_draw_140 rfl ?_
              refine pm_iloadi hG dX12_draw_91 rfl ?_
              refine pm_bipush (v := nI 12) hG dX12_draw_93 (by decide) ?_
              refine pm_icmpN_ge (tgt := 143) hG dX12_draw_95 rfl (by omega) (by omega) (fun q => absurd q (by omega)) (fun _ => ?_)
              refine pm_aloadn hG dX12_draw_98 rfl ?_
              refine pm_iloadi hG dX12_draw_99 rfl ?_
              refine pm_iloadi hG dX12_draw_101 rfl ?_
              refine pm_iloadi hG dX12_draw_103 rfl ?_
              refine pm_iconst (v := nI 4) hG dX12_draw_105 (by decide) ?_
              refine pm_icmpN_eq (tgt := 129) hG dX12_draw_106 rfl (by omega) (by omega) (fun q => absurd q (by omega)) (fun _ => ?_)
              refine pm_iloadi hG dX12_draw_109 rfl ?_
              refine pm_iconst (v := nI 5) hG dX12_draw_111 (by decide) ?_
              refine pm_icmpN_eq (tgt := 129) hG dX12_draw_112 rfl (by omega) (by omega) (fun q => absurd q (by omega)) (fun _ => ?_)
              refine pm_iloadi hG dX12_draw_115 rfl ?_
              refine pm_bipush (v := nI 6) hG dX12_draw_117 (by decide) ?_
              refine pm_icmpN_eq (tgt := 129) hG dX12_draw_119 rfl (by omega) (by omega) (fun q => absurd q (by omega)) (fun _ => ?_)
              refine pm_iloadi hG dX12_draw_122 rfl ?_
              refine pm_bipush (v := nI 7) hG dX12_draw_124 (by decide) ?_
              refine pm_icmpN_ne (tgt := 133) hG dX12_draw_126 rfl (by omega) (by omega) (fun _ => ?_) (fun q => absurd q (by omega))
              refine pm_iconst (v := nI 0) hG dX12_draw_133 (by decide) ?_
              refine pm_callV (As := [.int (nI k17), .int (nI 2), .int (nI 0)]) (rest := []) hG hR dX12_draw_134 (lkX12_217 _ rfl) okV_X12_writes rfl rfl (m_writes (d := 2) (e := 12 * k17 + 1292) (by omega) (by omega) (by omega)) rfl rfl hdd (Nat.le_refl _) (Nat.le_refl _) (by decide) (pm_kv (fun σ' cnt' hq => ?_))
              obtain ⟨rfl, rfl⟩ := hq
              obtain ⟨n_34, en_34⟩ : ∃ f : Nat → Int32, f = upd n_29 (12 * k17 + 1292) (nI 0) := ⟨_, rfl⟩
              rw [← en_34]
              have hnn_34 := KI.w en_34 hnn_29 (okv_n (show kd (12 * k17 + 1292) = (1, 1000, false) from (kd_E (k := k17) (c := 2) (by omega) (by omega) (by decide))) (by omega))
              have hrn_34 := NRx.w en_34 hrn_29 (by rw [(show kd (12 * k17 + 1292) = (1, 1000, false) from (kd_E (k := k17) (c := 2) (by omega) (by omega) (by decide)))])
              have ksn_34 := KS.w en_34 ksn_29 (by unfold tS; omega)
              have e35 : n_34 2 = nI k1 := by rw [en_34, pk_un (by omega)]; exact e30
              have e36 : n_34 (14 * k4 + 114) = nI k14 := by rw [en_34, pk_un (by omega)]; exact e31
              have e37 : n_34 5 = nI (k17 + 1) := by rw [en_34, pk_un (by omega)]; exact e32
              have e38 : n_34 (12 * k17 + 1292) = nI 0 := by rw [en_34, pk_us]
              refine pm_iincX (v := nI 3) (loc' := [some (.ref (B + 54)), some (.int za), some (.int zb), some (.int zc), some (.int (nI k17)), some (.int (nI 3))]) hG dX12_draw_137 rfl (nI_1 _) (by decide) (pm_c1b rfl) rfl ?_
              refine pm_goto (tgt := 91) hG dX12_draw_140 rfl ?_
              refine pm_iloadi hG dX12_draw_91 rfl ?_
              refine pm_bipush (v := nI 12) hG dX12_draw_93 (by decide) ?_
              refine pm_icmpN_ge (tgt := 143) hG dX12_draw_95 rfl (by omega) (by omega) (fun q => absurd q (by omega)) (fun _ => ?_)
              refine pm_aloadn hG dX12_draw_98 rfl ?_
              refine pm_iloadi hG dX12_draw_99 rfl ?_
              refine pm_iloadi hG dX12_draw_101 rfl ?_
              refine pm_iloadi hG dX12_draw_103 rfl ?_
              refine pm_iconst (v := nI 4) hG dX12_draw_105 (by decide) ?_
              refine pm_icmpN_eq (tgt := 129) hG dX12_draw_106 rfl (by omega) (by omega) (fun q => absurd q (by omega)) (fun _ => ?_)
              refine pm_iloadi hG dX12_draw_109 rfl ?_
              refine pm_iconst (v := nI 5) hG dX12_draw_111 (by decide) ?_
              refine pm_icmpN_eq (tgt := 129) hG dX12_draw_112 rfl (by omega) (by omega) (fun q => absurd q (by omega)) (fun _ => ?_)
              refine pm_iloadi hG dX12_draw_115 rfl ?_
              refine pm_bipush (v := nI 6) hG dX12_draw_117 (by decide) ?_
              refine pm_icmpN_eq (tgt := 129) hG dX12_draw_119 rfl (by omega) (by omega) (fun q => absurd q (by omega)) (fun _ => ?_)
              refine pm_iloadi hG dX12_draw_122 rfl ?_
              refine pm_bipush (v := nI 7) hG dX12_draw_124 (by decide) ?_
              refine pm_icmpN_ne (tgt := 133) hG dX12_draw_126 rfl (by omega) (by omega) (fun _ => ?_) (fun q => absurd q (by omega))
              refine pm_iconst (v := nI 0) hG dX12_draw_133 (by decide) ?_
              refine pm_callV (As := [.int (nI k17), .int (nI 3), .int (nI 0)]) (rest := []) hG hR dX12_draw_134 (lkX12_217 _ rfl) okV_X12_writes rfl rfl (m_writes (d := 2) (e := 12 * k17 + 1293) (by omega) (by omega) (by omega)) rfl rfl hdd (Nat.le_refl _) (Nat.le_refl _) (by decide) (pm_kv (fun σ' cnt' hq => ?_))
              obtain ⟨rfl, rfl⟩ := hq
              obtain ⟨n_39, en_39⟩ : ∃ f : Nat → Int32, f = upd n_34 (12 * k17 + 1293) (nI 0) := ⟨_, rfl⟩
              rw [← en_39]
              have hnn_39 := KI.w en_39 hnn_34 (okv_f (show kd (12 * k17 + 1293) = (0, 0, false) from (kd_E (k := k17) (c := 3) (by omega) (by omega) (by decide))))
              have hrn_39 := NRx.w en_39 hrn_34 (by rw [(show kd (12 * k17 + 1293) = (0, 0, false) from (kd_E (k := k17) (c := 3) (by omega) (by omega) (by decide)))])
              have ksn_39 := KS.w en_39 ksn_34 (by unfold tS; omega)
              have e40 : n_39 2 = nI k1 := by rw [en_39, pk_un (by omega)]; exact e35
              have e41 : n_39 (14 * k4 + 114) = nI k14 := by rw [en_39, pk_un (by omega)]; exact e36
              have e42 : n_39 5 = nI (k17 + 1) := by rw [en_39, pk_un (by omega)]; exact e37
              have e43 : n_39 (12 * k17 + 1293) = nI 0 := by rw [en_39, pk_us]
              refine pm_iincX (v := nI 4) (loc' := [some (.ref (B + 54)), some (.int za), some (.int zb), some (.int zc), some (.int (nI k17)), some (.int (nI 4))]) hG dX12_draw_137 rfl (nI_1 _) (by decide) (pm_c1b rfl) rfl ?_
              refine pm_goto (tgt := 91) hG dX12_draw_140 rfl ?_
              refine pm_iloadi hG dX12_draw_91 rfl ?_
              refine pm_bipush (v := nI 12) hG dX12_draw_93 (by decide) ?_
              refine pm_icmpN_ge (tgt := 143) hG dX12_draw_95 rfl (by omega) (by omega) (fun q => absurd q (by omega)) (fun _ => ?_)
              refine pm_aloadn hG dX12_draw_98 rfl ?_
              refine pm_iloadi hG dX12_draw_99 rfl ?_
              refine pm_iloadi hG dX12_draw_101 rfl ?_
              refine pm_iloadi hG dX12_draw_103 rfl ?_
              refine pm_iconst (v := nI 4) hG dX12_draw_105 (by decide) ?_
              refine pm_icmpN_eq (tgt := 129) hG dX12_draw_106 rfl (by omega) (by omega) (fun _ => ?_) (fun q => absurd q (by omega))
              refine pm_iconst (v := (-1)) hG dX12_draw_129 (by decide) ?_
              refine pm_goto (tgt := 134) hG dX12_draw_130 rfl ?_
              refine pm_callV (As := [.int (nI k17), .int (nI 4), .int (-1)]) (rest := []) hG hR dX12_draw_134 (lkX12_217 _ rfl) okV_X12_writes rfl rfl (m_writes (d := 2) (e := 12 * k17 + 1294) (by omega) (by omega) (by omega)) rfl rfl hdd (Nat.le_refl _) (Nat.le_refl _) (by decide) (pm_kv (fun σ' cnt' hq => ?_))
              obtain ⟨rfl, rfl⟩ := hq
              obtain ⟨n_44, en_44⟩ : ∃ f : Nat → Int32, f = upd n_39 (12 * k17 + 1294) (-1) := ⟨_, rfl⟩
              rw [← en_44]
              have hnn_44 := KI.w en_44 hnn_39 (okv_m (show kd (12 * k17 + 1294) = (2, 20, true) from (kd_E (k := k17) (c := 4) (by omega) (by omega) (by decide))))
              have hrn_44 := NRx.row (l := k17) en_44 (NRx.wk k17 hrn_39) (by omega)
              have ksn_44 := KS.w en_44 ksn_39 (by unfold tS; omega)
              have e45 : n_44 2 = nI k1 := by rw [en_44, pk_un (by omega)]; exact e40
              have e46 : n_44 (14 * k4 + 114) = nI k14 := by rw [en_44, pk_un (by omega)]; exact e41
              have e47 : n_44 5 = nI (k17 + 1) := by rw [en_44, pk_un (by omega)]; exact e42
              have e48 : n_44 (12 * k17 + 1294) = (-1) := by rw [en_44, pk_us]
              refine pm_iincX (v := nI 5) (loc' := [some (.ref (B + 54)), some (.int za), some (.int zb), some (.int zc), some (.int (nI k17)), some (.int (nI 5))]) hG dX12_draw_137 rfl (nI_1 _) (by decide) (pm_c1b rfl) rfl ?_
              refine pm_goto (tgt := 91) hG dX12_draw_140 rfl ?_
              refine pm_iloadi hG dX12_draw_91 rfl ?_
              refine pm_bipush (v := nI 12) hG dX12_draw_93 (by decide) ?_
              refine pm_icmpN_ge (tgt := 143) hG dX12_draw_95 rfl (by omega) (by omega) (fun q => absurd q (by omega)) (fun _ => ?_)
              refine pm_aloadn hG dX12_draw_98 rfl ?_
              refine pm_iloadi hG dX12_draw_99 rfl ?_
              refine pm_iloadi hG dX12_draw_101 rfl ?_
              refine pm_iloadi hG dX12_draw_103 rfl ?_
              refine pm_iconst (v := nI 4) hG dX12_draw_105 (by decide) ?_
              refine pm_icmpN_eq (tgt := 129) hG dX12_draw_106 rfl (by omega) (by omega) (fun q => absurd q (by omega)) (fun _ => ?_)
              refine pm_iloadi hG dX12_draw_109 rfl ?_
              refine pm_iconst (v := nI 5) hG dX12_draw_111 (by decide) ?_
              refine pm_icmpN_eq (tgt := 129) hG dX12_draw_112 rfl (by omega) (by omega) (fun _ => ?_) (fun q => absurd q (by omega))
              refine pm_iconst (v := (-1)) hG dX12_draw_129 (by decide) ?_
              refine pm_goto (tgt := 134) hG dX12_draw_130 rfl ?_
              refine pm_callV (As := [.int (nI k17), .int (nI 5), .int (-1)]) (rest := []) hG hR dX12_draw_134 (lkX12_217 _ rfl) okV_X12_writes rfl rfl (m_writes (d := 2) (e := 12 * k17 + 1295) (by omega) (by omega) (by omega)) rfl rfl hdd (Nat.le_refl _) (Nat.le_refl _) (by decide) (pm_kv (fun σ' cnt' hq => ?_))
              obtain ⟨rfl, rfl⟩ := hq
              obtain ⟨n_49, en_49⟩ : ∃ f : Nat → Int32, f = upd n_44 (12 * k17 + 1295) (-1) := ⟨_, rfl⟩
              rw [← en_49]
              have hnn_49 := KI.w en_49 hnn_44 (okv_f (show kd (12 * k17 + 1295) = (0, 0, false) from (kd_E (k := k17) (c := 5) (by omega) (by omega) (by decide))))
              have hrn_49 := NRx.w en_49 hrn_44 (by rw [(show kd (12 * k17 + 1295) = (0, 0, false) from (kd_E (k := k17) (c := 5) (by omega) (by omega) (by decide)))])
              have ksn_49 := KS.w en_49 ksn_44 (by unfold tS; omega)
              have e50 : n_49 2 = nI k1 := by rw [en_49, pk_un (by omega)]; exact e45
              have e51 : n_49 (14 * k4 + 114) = nI k14 := by rw [en_49, pk_un (by omega)]; exact e46
              have e52 : n_49 5 = nI (k17 + 1) := by rw [en_49, pk_un (by omega)]; exact e47
              have e53 : n_49 (12 * k17 + 1295) = (-1) := by rw [en_49, pk_us]
              refine pm_iincX (v := nI 6) (loc' := [some (.ref (B + 54)), some (.int za), some (.int zb), some (.int zc), some (.int (nI k17)), some (.int (nI 6))]) hG dX12_draw_137 rfl (nI_1 _) (by decide) (pm_c1b rfl) rfl ?_
              refine pm_goto (tgt := 91) hG dX12_draw_140 rfl ?_
              refine pm_iloadi hG dX12_draw_91 rfl ?_
              refine pm_bipush (v := nI 12) hG dX12_draw_93 (by decide) ?_
              refine pm_icmpN_ge (tgt := 143) hG dX12_draw_95 rfl (by omega) (by omega) (fun q => absurd q (by omega)) (fun _ => ?_)
              refine pm_aloadn hG dX12_draw_98 rfl ?_
              refine pm_iloadi hG dX12_draw_99 rfl ?_
              refine pm_iloadi hG dX12_draw_101 rfl ?_
              refine pm_iloadi hG dX12_draw_103 rfl ?_
              refine pm_iconst (v := nI 4) hG dX12_draw_105 (by decide) ?_
              refine pm_icmpN_eq (tgt := 129) hG dX12_draw_106 rfl (by omega) (by omega) (fun q => absurd q (by omega)) (fun _ => ?_)
              refine pm_iloadi hG dX12_draw_109 rfl ?_
              refine pm_iconst (v := nI 5) hG dX12_draw_111 (by decide) ?_
              refine pm_icmpN_eq (tgt := 129) hG dX12_draw_112 rfl (by omega) (by omega) (fun q => absurd q (by omega)) (fun _ => ?_)
              refine pm_iloadi hG dX12_draw_115 rfl ?_
              refine pm_bipush (v := nI 6) hG dX12_draw_117 (by decide) ?_
              refine pm_icmpN_eq (tgt := 129) hG dX12_draw_119 rfl (by omega) (by omega) (fun _ => ?_) (fun q => absurd q (by omega))
              refine pm_iconst (v := (-1)) hG dX12_draw_129 (by decide) ?_
              refine pm_goto (tgt := 134) hG dX12_draw_130 rfl ?_
              refine pm_callV (As := [.int (nI k17), .int (nI 6), .int (-1)]) (rest := []) hG hR dX12_draw_134 (lkX12_217 _ rfl) okV_X12_writes rfl rfl (m_writes (d := 2) (e := 12 * k17 + 1296) (by omega) (by omega) (by omega)) rfl rfl hdd (Nat.le_refl _) (Nat.le_refl _) (by decide) (pm_kv (fun σ' cnt' hq => ?_))
              obtain ⟨rfl, rfl⟩ := hq
              obtain ⟨n_54, en_54⟩ : ∃ f : Nat → Int32, f = upd n_49 (12 * k17 + 1296) (-1) := ⟨_, rfl⟩
              rw [← en_54]
              have hnn_54 := KI.w en_54 hnn_49 (okv_f (show kd (12 * k17 + 1296) = (0, 0, true) from (kd_E (k := k17) (c := 6) (by omega) (by omega) (by decide))))
              have hrn_54 := NRx.row (l := k17) en_54 hrn_49 (by omega)
              have ksn_54 := KS.w en_54 ksn_49 (by unfold tS; omega)
              have e55 : n_54 2 = nI k1 := by rw [en_54, pk_un (by omega)]; exact e50
              have e56 : n_54 (14 * k4 + 114) = nI k14 := by rw [en_54, pk_un (by omega)]; exact e51
              have e57 : n_54 5 = nI (k17 + 1) := by rw [en_54, pk_un (by omega)]; exact e52
              have e58 : n_54 (12 * k17 + 1296) = (-1) := by rw [en_54, pk_us]
              refine pm_iincX (v := nI 7) (loc' := [some (.ref (B + 54)), some (.int za), some (.int zb), some (.int zc), some (.int (nI k17)), some (.int (nI 7))]) hG dX12_draw_137 rfl (nI_1 _) (by decide) (pm_c1b rfl) rfl ?_
              refine pm_goto (tgt := 91) hG dX12_draw_140 rfl ?_
              refine pm_iloadi hG dX12_draw_91 rfl ?_
              refine pm_bipush (v := nI 12) hG dX12_draw_93 (by decide) ?_
              refine pm_icmpN_ge (tgt := 143) hG dX12_draw_95 rfl (by omega) (by omega) (fun q => absurd q (by omega)) (fun _ => ?_)
              refine pm_aloadn hG dX12_draw_98 rfl ?_
              refine pm_iloadi hG dX12_draw_99 rfl ?_
              refine pm_iloadi hG dX12_draw_101 rfl ?_
              refine pm_iloadi hG dX12_draw_103 rfl ?_
              refine pm_iconst (v := nI 4) hG dX12_draw_105 (by decide) ?_
              refine pm_icmpN_eq (tgt := 129) hG dX12_draw_106 rfl (by omega) (by omega) (fun q => absurd q (by omega)) (fun _ => ?_)
              refine pm_iloadi hG dX12_draw_109 rfl ?_
              refine pm_iconst (v := nI 5) hG dX12_draw_111 (by decide) ?_
              refine pm_icmpN_eq (tgt := 129) hG dX12_draw_112 rfl (by omega) (by omega) (fun q => absurd q (by omega)) (fun _ => ?_)
              refine pm_iloadi hG dX12_draw_115 rfl ?_
              refine pm_bipush (v := nI 6) hG dX12_draw_117 (by decide) ?_
              refine pm_icmpN_eq (tgt := 129) hG dX12_draw_119 rfl (by omega) (by omega) (fun q => absurd q (by omega)) (fun _ => ?_)
              refine pm_iloadi hG dX12_draw_122 rfl ?_
              refine pm_bipush (v := nI 7) hG dX12_draw_124 (by decide) ?_
              refine pm_icmpN_ne (tgt := 133) hG dX12_draw_126 rfl (by omega) (by omega) (fun q => absurd q (by omega)) (fun _ => ?_)
              refine pm_iconst (v := (-1)) hG dX12_draw_129 (by decide) ?_
              refine pm_goto (tgt := 134) hG dX12_draw_130 rfl ?_
              refine pm_callV (As := [.int (nI k17), .int (nI 7), .int (-1)]) (rest := []) hG hR dX12_draw_134 (lkX12_217 _ rfl) okV_X12_writes rfl rfl (m_writes (d := 2) (e := 12 * k17 + 1297) (by omega) (by omega) (by omega)) rfl rfl hdd (Nat.le_refl _) (Nat.le_refl _) (by decide) (pm_kv (fun σ' cnt' hq => ?_))
              obtain ⟨rfl, rfl⟩ := hq
              obtain ⟨n_59, en_59⟩ : ∃ f : Nat → Int32, f = upd n_54 (12 * k17 + 1297) (-1) := ⟨_, rfl⟩
              rw [← en_59]
              have hnn_59 := KI.w en_59 hnn_54 (okv_f (show kd (12 * k17 + 1297) = (0, 0, false) from (kd_E (k := k17) (c := 7) (by omega) (by omega) (by decide))))
              have hrn_59 := NRx.w en_59 hrn_54 (by rw [(show kd (12 * k17 + 1297) = (0, 0, false) from (kd_E (k := k17) (c := 7) (by omega) (by omega) (by decide)))])
              have ksn_59 := KS.w en_59 ksn_54 (by unfold tS; omega)
              have e60 : n_59 2 = nI k1 := by rw [en_59, pk_un (by omega)]; exact e55
              have e61 : n_59 (14 * k4 + 114) = nI k14 := by rw [en_59, pk_un (by omega)]; exact e56
              have e62 : n_59 5 = nI (k17 + 1) := by rw [en_59, pk_un (by omega)]; exact e57
              have e63 : n_59 (12 * k17 + 1296) = (-1) := by rw [en_59, pk_un (by omega)]; exact e58
              have e64 : n_59 (12 * k17 + 1297) = (-1) := by rw [en_59, pk_us]
              refine pm_iincX (v := nI 8) (loc' := [some (.ref (B + 54)), some (.int za), some (.int zb), some (.int zc), some (.int (nI k17)), some (.int (nI 8))]) hG dX12_draw_137 rfl (nI_1 _) (by decide) (pm_c1b rfl) rfl ?_
              refine pm_goto (tgt := 91) hG dX12_draw_140 rfl ?_
              refine pm_iloadi hG dX12_draw_91 rfl ?_
              refine pm_bipush (v := nI 12) hG dX12_draw_93 (by decide) ?_
              refine pm_icmpN_ge (tgt := 143) hG dX12_draw_95 rfl (by omega) (by omega) (fun q => absurd q (by omega)) (fun _ => ?_)
              refine pm_aloadn hG dX12_draw_98 rfl ?_
              refine pm_iloadi hG dX12_draw_99 rfl ?_
              refine pm_iloadi hG dX12_draw_101 rfl ?_
              refine pm_iloadi hG dX12_draw_103 rfl ?_
              refine pm_iconst (v := nI 4) hG dX12_draw_105 (by decide) ?_
              refine pm_icmpN_eq (tgt := 129) hG dX12_draw_106 rfl (by omega) (by omega) (fun q => absurd q (by omega)) (fun _ => ?_)
              refine pm_iloadi hG dX12_draw_109 rfl ?_
              refine pm_iconst (v := nI 5) hG dX12_draw_111 (by decide) ?_
              refine pm_icmpN_eq (tgt := 129) hG dX12_draw_112 rfl (by omega) (by omega) (fun q => absurd q (by omega)) (fun _ => ?_)
              refine pm_iloadi hG dX12_draw_115 rfl ?_
              refine pm_bipush (v := nI 6) hG dX12_draw_117 (by decide) ?_
              refine pm_icmpN_eq (tgt := 129) hG dX12_draw_119 rfl (by omega) (by omega) (fun q => absurd q (by omega)) (fun _ => ?_)
              refine pm_iloadi hG dX12_draw_122 rfl ?_
              refine pm_bipush (v := nI 7) hG dX12_draw_124 (by decide) ?_
              refine pm_icmpN_ne (tgt := 133) hG dX12_draw_126 rfl (by omega) (by omega) (fun _ => ?_) (fun q => absurd q (by omega))
              refine pm_iconst (v := nI 0) hG dX12_draw_133 (by decide) ?_
              refine pm_callV (As := [.int (nI k17), .int (nI 8), .int (nI 0)]) (rest := []) hG hR dX12_draw_134 (lkX12_217 _ rfl) okV_X12_writes rfl rfl (m_writes (d := 2) (e := 12 * k17 + 1298) (by omega) (by omega) (by omega)) rfl rfl hdd (Nat.le_refl _) (Nat.le_refl _) (by decide) (pm_kv (fun σ' cnt' hq => ?_))
              obtain ⟨rfl, rfl⟩ := hq
              obtain ⟨n_65, en_65⟩ : ∃ f : Nat → Int32, f = upd n_59 (12 * k17 + 1298) (nI 0) := ⟨_, rfl⟩
              rw [← en_65]
              have hnn_65 := KI.w en_65 hnn_59 (okv_f (show kd (12 * k17 + 1298) = (0, 0, false) from (kd_E (k := k17) (c := 8) (by omega) (by omega) (by decide))))
              have hrn_65 := NRx.w en_65 hrn_59 (by rw [(show kd (12 * k17 + 1298) = (0, 0, false) from (kd_E (k := k17) (c := 8) (by omega) (by omega) (by decide)))])
              have ksn_65 := KS.w en_65 ksn_59 (by unfold tS; omega)
              have e66 : n_65 2 = nI k1 := by rw [en_65, pk_un (by omega)]; exact e60
              have e67 : n_65 (14 * k4 + 114) = nI k14 := by rw [en_65, pk_un (by omega)]; exact e61
              have e68 : n_65 5 = nI (k17 + 1) := by rw [en_65, pk_un (by omega)]; exact e62
              have e69 : n_65 (12 * k17 + 1296) = (-1) := by rw [en_65, pk_un (by omega)]; exact e63
              have e70 : n_65 (12 * k17 + 1298) = nI 0 := by rw [en_65, pk_us]
              refine pm_iincX (v := nI 9) (loc' := [some (.ref (B + 54)), some (.int za), some (.int zb), some (.int zc), some (.int (nI k17)), some (.int (nI 9))]) hG dX12_draw_137 rfl (nI_1 _) (by decide) (pm_c1b rfl) rfl ?_
              refine pm_goto (tgt := 91) hG dX12_draw_140 rfl ?_
              refine pm_iloadi hG dX12_draw_91 rfl ?_
              refine pm_bipush (v := nI 12) hG dX12_draw_93 (by decide) ?_
              refine pm_icmpN_ge (tgt := 143) hG dX12_draw_95 rfl (by omega) (by omega) (fun q => absurd q (by omega)) (fun _ => ?_)
              refine pm_aloadn hG dX12_draw_98 rfl ?_
              refine pm_iloadi hG dX12_draw_99 rfl ?_
              refine pm_iloadi hG dX12_draw_101 rfl ?_
              refine pm_iloadi hG dX12_draw_103 rfl ?_
              refine pm_iconst (v := nI 4) hG dX12_draw_105 (by decide) ?_
              refine pm_icmpN_eq (tgt := 129) hG dX12_draw_106 rfl (by omega) (by omega) (fun q => absurd q (by omega)) (fun _ => ?_)
              refine pm_iloadi hG dX12_draw_109 rfl ?_
              refine pm_iconst (v := nI 5) hG dX12_draw_111 (by decide) ?_
              refine pm_icmpN_eq (tgt := 129) hG dX12_draw_112 rfl (by omega) (by omega) (fun q => absurd q (by omega)) (fun _ => ?_)
              refine pm_iloadi hG dX12_draw_115 rfl ?_
              refine pm_bipush (v := nI 6) hG dX12_draw_117 (by decide) ?_
              refine pm_icmpN_eq (tgt := 129) hG dX12_draw_119 rfl (by omega) (by omega) (fun q => absurd q (by omega)) (fun _ => ?_)
              refine pm_iloadi hG dX12_draw_122 rfl ?_
              refine pm_bipush (v := nI 7) hG dX12_draw_124 (by decide) ?_
              refine pm_icmpN_ne (tgt := 133) hG dX12_draw_126 rfl (by omega) (by omega) (fun _ => ?_) (fun q => absurd q (by omega))
              refine pm_iconst (v := nI 0) hG dX12_draw_133 (by decide) ?_
              refine pm_callV (As := [.int (nI k17), .int (nI 9), .int (nI 0)]) (rest := []) hG hR dX12_draw_134 (lkX12_217 _ rfl) okV_X12_writes rfl rfl (m_writes (d := 2) (e := 12 * k17 + 1299) (by omega) (by omega) (by omega)) rfl rfl hdd (Nat.le_refl _) (Nat.le_refl _) (by decide) (pm_kv (fun σ' cnt' hq => ?_))
              obtain ⟨rfl, rfl⟩ := hq
              obtain ⟨n_71, en_71⟩ : ∃ f : Nat → Int32, f = upd n_65 (12 * k17 + 1299) (nI 0) := ⟨_, rfl⟩
              rw [← en_71]
              have hnn_71 := KI.w en_71 hnn_65 (okv_f (show kd (12 * k17 + 1299) = (0, 0, false) from (kd_E (k := k17) (c := 9) (by omega) (by omega) (by decide))))
              have hrn_71 := NRx.w en_71 hrn_65 (by rw [(show kd (12 * k17 + 1299) = (0, 0, false) from (kd_E (k := k17) (c := 9) (by omega) (by omega) (by decide)))])
              have ksn_71 := KS.w en_71 ksn_65 (by unfold tS; omega)
              have e72 : n_71 2 = nI k1 := by rw [en_71, pk_un (by omega)]; exact e66
              have e73 : n_71 (14 * k4 + 114) = nI k14 := by rw [en_71, pk_un (by omega)]; exact e67
              have e74 : n_71 5 = nI (k17 + 1) := by rw [en_71, pk_un (by omega)]; exact e68
              have e75 : n_71 (12 * k17 + 1296) = (-1) := by rw [en_71, pk_un (by omega)]; exact e69
              have e76 : n_71 (12 * k17 + 1299) = nI 0 := by rw [en_71, pk_us]
              refine pm_iincX (v := nI 10) (loc' := [some (.ref (B + 54)), some (.int za), some (.int zb), some (.int zc), some (.int (nI k17)), some (.int (nI 10))]) hG dX12_draw_137 rfl (nI_1 _) (by decide) (pm_c1b rfl) rfl ?_
              refine pm_goto (tgt := 91) hG dX12_draw_140 rfl ?_
              refine pm_iloadi hG dX12_draw_91 rfl ?_
              refine pm_bipush (v := nI 12) hG dX12_draw_93 (by decide) ?_
              refine pm_icmpN_ge (tgt := 143) hG dX12_draw_95 rfl (by omega) (by omega) (fun q => absurd q (by omega)) (fun _ => ?_)
              refine pm_aloadn hG dX12_draw_98 rfl ?_
              refine pm_iloadi hG dX12_draw_99 rfl ?_
              refine pm_iloadi hG dX12_draw_101 rfl ?_
              refine pm_iloadi hG dX12_draw_103 rfl ?_
              refine pm_iconst (v := nI 4) hG dX12_draw_105 (by decide) ?_
              refine pm_icmpN_eq (tgt := 129) hG dX12_draw_106 rfl (by omega) (by omega) (fun q => absurd q (by omega)) (fun _ => ?_)
              refine pm_iloadi hG dX12_draw_109 rfl ?_
              refine pm_iconst (v := nI 5) hG dX12_draw_111 (by decide) ?_
              refine pm_icmpN_eq (tgt := 129) hG dX12_draw_112 rfl (by omega) (by omega) (fun q => absurd q (by omega)) (fun _ => ?_)
              refine pm_iloadi hG dX12_draw_115 rfl ?_
              refine pm_bipush (v := nI 6) hG dX12_draw_117 (by decide) ?_
              refine pm_icmpN_eq (tgt := 129) hG dX12_draw_119 rfl (by omega) (by omega) (fun q => absurd q (by omega)) (fun _ => ?_)
              refine pm_iloadi hG dX12_draw_122 rfl ?_
              refine pm_bipush (v := nI 7) hG dX12_draw_124 (by decide) ?_
              refine pm_icmpN_ne (tgt := 133) hG dX12_draw_126 rfl (by omega) (by omega) (fun _ => ?_) (fun q => absurd q (by omega))
              refine pm_iconst (v := nI 0) hG dX12_draw_133 (by decide) ?_
              refine pm_callV (As := [.int (nI k17), .int (nI 10), .int (nI 0)]) (rest := []) hG hR dX12_draw_134 (lkX12_217 _ rfl) okV_X12_writes rfl rfl (m_writes (d := 2) (e := 12 * k17 + 1300) (by omega) (by omega) (by omega)) rfl rfl hdd (Nat.le_refl _) (Nat.le_refl _) (by decide) (pm_kv (fun σ' cnt' hq => ?_))
              obtain ⟨rfl, rfl⟩ := hq
              obtain ⟨n_77, en_77⟩ : ∃ f : Nat → Int32, f = upd n_71 (12 * k17 + 1300) (nI 0) := ⟨_, rfl⟩
              rw [← en_77]
              have hnn_77 := KI.w en_77 hnn_71 (okv_n (show kd (12 * k17 + 1300) = (1, 10, false) from (kd_E (k := k17) (c := 10) (by omega) (by omega) (by decide))) (by omega))
              have hrn_77 := NRx.w en_77 hrn_71 (by rw [(show kd (12 * k17 + 1300) = (1, 10, false) from (kd_E (k := k17) (c := 10) (by omega) (by omega) (by decide)))])
              have ksn_77 := KS.w en_77 ksn_71 (by unfold tS; omega)
              have e78 : n_77 2 = nI k1 := by rw [en_77, pk_un (by omega)]; exact e72
              have e79 : n_77 (14 * k4 + 114) = nI k14 := by rw [en_77, pk_un (by omega)]; exact e73
              have e80 : n_77 5 = nI (k17 + 1) := by rw [en_77, pk_un (by omega)]; exact e74
              have e81 : n_77 (12 * k17 + 1296) = (-1) := by rw [en_77, pk_un (by omega)]; exact e75
              have e82 : n_77 (12 * k17 + 1300) = nI 0 := by rw [en_77, pk_us]
              refine pm_iincX (v := nI 11) (loc' := [some (.ref (B + 54)), some (.int za), some (.int zb), some (.int zc), some (.int (nI k17)), some (.int (nI 11))]) hG dX12_draw_137 rfl (nI_1 _) (by decide) (pm_c1b rfl) rfl ?_
              refine pm_goto (tgt := 91) hG dX12_draw_140 rfl ?_
              refine pm_iloadi hG dX12_draw_91 rfl ?_
              refine pm_bipush (v := nI 12) hG dX12_draw_93 (by decide) ?_
              refine pm_icmpN_ge (tgt := 143) hG dX12_draw_95 rfl (by omega) (by omega) (fun q => absurd q (by omega)) (fun _ => ?_)
              refine pm_aloadn hG dX12_draw_98 rfl ?_
              refine pm_iloadi hG dX12_draw_99 rfl ?_
              refine pm_iloadi hG dX12_draw_101 rfl ?_
              refine pm_iloadi hG dX12_draw_103 rfl ?_
              refine pm_iconst (v := nI 4) hG dX12_draw_105 (by decide) ?_
              refine pm_icmpN_eq (tgt := 129) hG dX12_draw_106 rfl (by omega) (by omega) (fun q => absurd q (by omega)) (fun _ => ?_)
              refine pm_iloadi hG dX12_draw_109 rfl ?_
              refine pm_iconst (v := nI 5) hG dX12_draw_111 (by decide) ?_
              refine pm_icmpN_eq (tgt := 129) hG dX12_draw_112 rfl (by omega) (by omega) (fun q => absurd q (by omega)) (fun _ => ?_)
              refine pm_iloadi hG dX12_draw_115 rfl ?_
              refine pm_bipush (v := nI 6) hG dX12_draw_117 (by decide) ?_
              refine pm_icmpN_eq (tgt := 129) hG dX12_draw_119 rfl (by omega) (by omega) (fun q => absurd q (by omega)) (fun _ => ?_)
              refine pm_iloadi hG dX12_draw_122 rfl ?_
              refine pm_bipush (v := nI 7) hG dX12_draw_124 (by decide) ?_
              refine pm_icmpN_ne (tgt := 133) hG dX12_draw_126 rfl (by omega) (by omega) (fun _ => ?_) (fun q => absurd q (by omega))
              refine pm_iconst (v := nI 0) hG dX12_draw_133 (by decide) ?_
              refine pm_callV (As := [.int (nI k17), .int (nI 11), .int (nI 0)]) (rest := []) hG hR dX12_draw_134 (lkX12_217 _ rfl) okV_X12_writes rfl rfl (m_writes (d := 2) (e := 12 * k17 + 1301) (by omega) (by omega) (by omega)) rfl rfl hdd (Nat.le_refl _) (Nat.le_refl _) (by decide) (pm_kv (fun σ' cnt' hq => ?_))
              obtain ⟨rfl, rfl⟩ := hq
              obtain ⟨n_83, en_83⟩ : ∃ f : Nat → Int32, f = upd n_77 (12 * k17 + 1301) (nI 0) := ⟨_, rfl⟩
              rw [← en_83]
              have hnn_83 := KI.w en_83 hnn_77 (okv_f (show kd (12 * k17 + 1301) = (0, 0, false) from (kd_E (k := k17) (c := 11) (by omega) (by omega) (by decide))))
              have hrn_83 := NRx.w en_83 hrn_77 (by rw [(show kd (12 * k17 + 1301) = (0, 0, false) from (kd_E (k := k17) (c := 11) (by omega) (by omega) (by decide)))])
              have ksn_83 := KS.w en_83 ksn_77 (by unfold tS; omega)
              have e84 : n_83 2 = nI k1 := by rw [en_83, pk_un (by omega)]; exact e78
              have e85 : n_83 (14 * k4 + 114) = nI k14 := by rw [en_83, pk_un (by omega)]; exact e79
              have e86 : n_83 5 = nI (k17 + 1) := by rw [en_83, pk_un (by omega)]; exact e80
              have e87 : n_83 (12 * k17 + 1296) = (-1) := by rw [en_83, pk_un (by omega)]; exact e81
              have e88 : n_83 (12 * k17 + 1301) = nI 0 := by rw [en_83, pk_us]
              refine pm_iincX (v := nI 12) (loc' := [some (.ref (B + 54)), some (.int za), some (.int zb), some (.int zc), some (.int (nI k17)), some (.int (nI 12))]) hG dX12_draw_137 rfl (nI_1 _) (by decide) (pm_c1b rfl) rfl ?_
              refine pm_goto (tgt := 91) hG dX12_draw_140 rfl ?_
              refine pm_iloadi hG dX12_draw_91 rfl ?_
              refine pm_bipush (v := nI 12) hG dX12_draw_93 (by decide) ?_
              refine pm_icmpN_ge (tgt := 143) hG dX12_draw_95 rfl (by omega) (by omega) (fun _ => ?_) (fun q => absurd q (by omega))
              refine pm_aloadn hG dX12_draw_143 rfl ?_
              refine pm_iloadi hG dX12_draw_144 rfl ?_
              refine pm_iconst (v := nI 0) hG dX12_draw_146 (by decide) ?_
              refine pm_iloadn hG dX12_draw_147 rfl ?_
              refine pm_top (v := nI k4) ek4 ?_
              refine pm_callV (As := [.int (nI k17), .int (nI 0), .int (nI k4)]) (rest := []) hG hR dX12_draw_148 (lkX12_217 _ rfl) okV_X12_writes rfl rfl (m_writes (d := 2) (e := 12 * k17 + 1290) (by omega) (by omega) (by omega)) rfl rfl hdd (Nat.le_refl _) (Nat.le_refl _) (by decide) (pm_kv (fun σ' cnt' hq => ?_))
              obtain ⟨rfl, rfl⟩ := hq
              obtain ⟨n_89, en_89⟩ : ∃ f : Nat → Int32, f = upd n_83 (12 * k17 + 1290) (nI k4) := ⟨_, rfl⟩
              rw [← en_89]
              have hnn_89 := KI.w en_89 hnn_83 (okv_f (show kd (12 * k17 + 1290) = (0, 0, false) from (kd_E (k := k17) (c := 0) (by omega) (by omega) (by decide))))
              have hrn_89 := NRx.w en_89 hrn_83 (by rw [(show kd (12 * k17 + 1290) = (0, 0, false) from (kd_E (k := k17) (c := 0) (by omega) (by omega) (by decide)))])
              have ksn_89 := KS.w en_89 ksn_83 (by unfold tS; omega)
              have e90 : n_89 2 = nI k1 := by rw [en_89, pk_un (by omega)]; exact e84
              have e91 : n_89 (14 * k4 + 114) = nI k14 := by rw [en_89, pk_un (by omega)]; exact e85
              have e92 : n_89 5 = nI (k17 + 1) := by rw [en_89, pk_un (by omega)]; exact e86
              have e93 : n_89 (12 * k17 + 1296) = (-1) := by rw [en_89, pk_un (by omega)]; exact e87
              have e94 : n_89 (12 * k17 + 1290) = nI k4 := by rw [en_89, pk_us]
              refine pm_aloadn hG dX12_draw_151 rfl ?_
              refine pm_iloadi hG dX12_draw_152 rfl ?_
              refine pm_iconst (v := nI 1) hG dX12_draw_154 (by decide) ?_
              refine pm_iloadn hG dX12_draw_155 rfl ?_
              refine pm_top (v := nI k7) ek7 ?_
              refine pm_callV (As := [.int (nI k17), .int (nI 1), .int (nI k7)]) (rest := []) hG hR dX12_draw_156 (lkX12_217 _ rfl) okV_X12_writes rfl rfl (m_writes (d := 2) (e := 12 * k17 + 1291) (by omega) (by omega) (by omega)) rfl rfl hdd (Nat.le_refl _) (Nat.le_refl _) (by decide) (pm_kv (fun σ' cnt' hq => ?_))
              obtain ⟨rfl, rfl⟩ := hq
              obtain ⟨n_95, en_95⟩ : ∃ f : Nat → Int32, f = upd n_89 (12 * k17 + 1291) (nI k7) := ⟨_, rfl⟩
              rw [← en_95]
              have hnn_95 := KI.w en_95 hnn_89 (okv_f (show kd (12 * k17 + 1291) = (0, 0, false) from (kd_E (k := k17) (c := 1) (by omega) (by omega) (by decide))))
              have hrn_95 := NRx.w en_95 hrn_89 (by rw [(show kd (12 * k17 + 1291) = (0, 0, false) from (kd_E (k := k17) (c := 1) (by omega) (by omega) (by decide)))])
              have ksn_95 := KS.w en_95 ksn_89 (by unfold tS; omega)
              have e96 : n_95 2 = nI k1 := by rw [en_95, pk_un (by omega)]; exact e90
              have e97 : n_95 (14 * k4 + 114) = nI k14 := by rw [en_95, pk_un (by omega)]; exact e91
              have e98 : n_95 5 = nI (k17 + 1) := by rw [en_95, pk_un (by omega)]; exact e92
              have e99 : n_95 (12 * k17 + 1296) = (-1) := by rw [en_95, pk_un (by omega)]; exact e93
              have e100 : n_95 (12 * k17 + 1291) = nI k7 := by rw [en_95, pk_us]
              refine pm_aloadn hG dX12_draw_159 rfl ?_
              refine pm_iloadi hG dX12_draw_160 rfl ?_
              refine pm_iconst (v := nI 2) hG dX12_draw_162 (by decide) ?_
              refine pm_iloadn hG dX12_draw_163 rfl ?_
              refine pm_top (v := nI k10) ek10 ?_
              refine pm_callV (As := [.int (nI k17), .int (nI 2), .int (nI k10)]) (rest := []) hG hR dX12_draw_164 (lkX12_217 _ rfl) okV_X12_writes rfl rfl (m_writes (d := 2) (e := 12 * k17 + 1292) (by omega) (by omega) (by omega)) rfl rfl hdd (Nat.le_refl _) (Nat.le_refl _) (by decide) (pm_kv (fun σ' cnt' hq => ?_))
              obtain ⟨rfl, rfl⟩ := hq
              obtain ⟨n_101, en_101⟩ : ∃ f : Nat → Int32, f = upd n_95 (12 * k17 + 1292) (nI k10) := ⟨_, rfl⟩
              rw [← en_101]
              have hnn_101 := KI.w en_101 hnn_95 (okv_n (show kd (12 * k17 + 1292) = (1, 1000, false) from (kd_E (k := k17) (c := 2) (by omega) (by omega) (by decide))) (by omega))
              have hrn_101 := NRx.w en_101 hrn_95 (by rw [(show kd (12 * k17 + 1292) = (1, 1000, false) from (kd_E (k := k17) (c := 2) (by omega) (by omega) (by decide)))])
              have ksn_101 := KS.w en_101 ksn_95 (by unfold tS; omega)
              have e102 : n_101 2 = nI k1 := by rw [en_101, pk_un (by omega)]; exact e96
              have e103 : n_101 (14 * k4 + 114) = nI k14 := by rw [en_101, pk_un (by omega)]; exact e97
              have e104 : n_101 5 = nI (k17 + 1) := by rw [en_101, pk_un (by omega)]; exact e98
              have e105 : n_101 (12 * k17 + 1296) = (-1) := by rw [en_101, pk_un (by omega)]; exact e99
              have e106 : n_101 (12 * k17 + 1292) = nI k10 := by rw [en_101, pk_us]
              refine pm_aloadn hG dX12_draw_167 rfl ?_
              refine pm_iloadi hG dX12_draw_168 rfl ?_
              refine pm_bipush (v := nI 10) hG dX12_draw_170 (by decide) ?_
              refine pm_aloadn hG dX12_draw_172 rfl ?_
              refine pm_iloadn hG dX12_draw_173 rfl ?_
              refine pm_top (v := nI k4) ek4 ?_
              refine pm_iconst (v := nI 4) hG dX12_draw_174 (by decide) ?_
              refine pm_callV (As := [.int (nI k4), .int (nI 4)]) (rest := [.int (nI 10), .int (nI k17), .ref (B + 54)]) hG hR dX12_draw_175 (lkX12_72 _ rfl) okV_X12_man rfl rfl (m_man (d := 2) (e := 14 * k4 + 114) (by omega) (by omega) (by omega)) rfl rfl hdd (Nat.le_refl _) (Nat.le_refl _) (Nat.le_of_ble_eq_true rfl) (pm_ki (fun v107 σ' cnt' hq => ?_))
              obtain ⟨rfl, rfl, rfl⟩ := hq
              refine pm_top (v := nI k14) e103 ?_
              refine pm_callV (As := [.int (nI k17), .int (nI 10), .int (nI k14)]) (rest := []) hG hR dX12_draw_178 (lkX12_217 _ rfl) okV_X12_writes rfl rfl (m_writes (d := 2) (e := 12 * k17 + 1300) (by omega) (by omega) (by omega)) rfl rfl hdd (Nat.le_refl _) (Nat.le_refl _) (by decide) (pm_kv (fun σ' cnt' hq => ?_))
              obtain ⟨rfl, rfl⟩ := hq
              obtain ⟨n_108, en_108⟩ : ∃ f : Nat → Int32, f = upd n_101 (12 * k17 + 1300) (nI k14) := ⟨_, rfl⟩
              rw [← en_108]
              have hnn_108 := KI.w en_108 hnn_101 (okv_n (show kd (12 * k17 + 1300) = (1, 10, false) from (kd_E (k := k17) (c := 10) (by omega) (by omega) (by decide))) (by omega))
              have hrn_108 := NRx.w en_108 hrn_101 (by rw [(show kd (12 * k17 + 1300) = (1, 10, false) from (kd_E (k := k17) (c := 10) (by omega) (by omega) (by decide)))])
              have ksn_108 := KS.w en_108 ksn_101 (by unfold tS; omega)
              have e109 : n_108 2 = nI k1 := by rw [en_108, pk_un (by omega)]; exact e102
              have e110 : n_108 (14 * k4 + 114) = nI k14 := by rw [en_108, pk_un (by omega)]; exact e103
              have e111 : n_108 5 = nI (k17 + 1) := by rw [en_108, pk_un (by omega)]; exact e104
              have e112 : n_108 (12 * k17 + 1296) = (-1) := by rw [en_108, pk_un (by omega)]; exact e105
              have e113 : n_108 (12 * k17 + 1300) = nI k14 := by rw [en_108, pk_us]
              refine pm_aloadn hG dX12_draw_181 rfl ?_
              refine pm_iloadi hG dX12_draw_182 rfl ?_
              refine pm_bipush (v := nI 9) hG dX12_draw_184 (by decide) ?_
              refine pm_aloadn hG dX12_draw_186 rfl ?_
              refine pm_aloadn hG dX12_draw_187 rfl ?_
              refine pm_iloadn hG dX12_draw_188 rfl ?_
              refine pm_top (v := nI k4) ek4 ?_
              refine pm_iconst (v := nI 4) hG dX12_draw_189 (by decide) ?_
              refine pm_callV (As := [.int (nI k4), .int (nI 4)]) (rest := [.ref (B + 54), .int (nI 9), .int (nI k17), .ref (B + 54)]) hG hR dX12_draw_190 (lkX12_72 _ rfl) okV_X12_man rfl rfl (m_man (d := 2) (e := 14 * k4 + 114) (by omega) (by omega) (by omega)) rfl rfl hdd (Nat.le_refl _) (Nat.le_refl _) (Nat.le_of_ble_eq_true rfl) (pm_ki (fun v114 σ' cnt' hq => ?_))
              obtain ⟨rfl, rfl, rfl⟩ := hq
              refine pm_top (v := nI k14) e110 ?_
              refine pm_callV (As := [.int (nI k14)]) (rest := [.int (nI 9), .int (nI k17), .ref (B + 54)]) hG hR dX12_draw_193 (lkX12_220 _ rfl) okV_X12_thoseIn rfl rfl (m_thoseIn (d := 2) (by decide) hnn_108 hz) rfl rfl hdd (Nat.le_refl _) (Nat.le_refl _) (Nat.le_of_ble_eq_true rfl) (pm_ki (fun v115 σ' cnt' hq => ?_))
              obtain ⟨rfl, rfl⟩ := hq
              refine pm_callV (As := [.int (nI k17), .int (nI 9), .int v115]) (rest := []) hG hR dX12_draw_196 (lkX12_217 _ rfl) okV_X12_writes rfl rfl (m_writes (d := 2) (e := 12 * k17 + 1299) (by omega) (by omega) (by omega)) rfl rfl hdd (Nat.le_refl _) (Nat.le_refl _) (by decide) (pm_kv (fun σ' cnt' hq => ?_))
              obtain ⟨rfl, rfl⟩ := hq
              obtain ⟨n_117, en_117⟩ : ∃ f : Nat → Int32, f = upd n_108 (12 * k17 + 1299) v115 := ⟨_, rfl⟩
              rw [← en_117]
              have hnn_117 := KI.w en_117 hnn_108 (okv_f (show kd (12 * k17 + 1299) = (0, 0, false) from (kd_E (k := k17) (c := 9) (by omega) (by omega) (by decide))))
              have hrn_117 := NRx.w en_117 hrn_108 (by rw [(show kd (12 * k17 + 1299) = (0, 0, false) from (kd_E (k := k17) (c := 9) (by omega) (by omega) (by decide)))])
              have ksn_117 := KS.w en_117 ksn_108 (by unfold tS; omega)
              have e118 : n_117 2 = nI k1 := by rw [en_117, pk_un (by omega)]; exact e109
              have e119 : n_117 (14 * k4 + 114) = nI k14 := by rw [en_117, pk_un (by omega)]; exact e110
              have e120 : n_117 5 = nI (k17 + 1) := by rw [en_117, pk_un (by omega)]; exact e111
              have e121 : n_117 (12 * k17 + 1296) = (-1) := by rw [en_117, pk_un (by omega)]; exact e112
              have e122 : n_117 (12 * k17 + 1299) = v115 := by rw [en_117, pk_us]
              refine pm_iloadi hG dX12_draw_199 rfl ?_
              exact pm_iret hG hF dX12_draw_201 rfl (Nat.le_refl _) (Nat.le_refl _) ⟨_, rfl, ⟨_, _, _, rfl, hnn_117, (NRx.cl hrn_117 e121), ksn_117⟩, rfl⟩
            · refine pm_aloadn hG dX12_draw_72 rfl ?_
              refine pm_iconst (v := nI 4) hG dX12_draw_73 (by decide) ?_
              refine pm_callV (As := [.int (nI 4)]) (rest := []) hG hR dX12_draw_74 (lkX12_80 _ rfl) okV_X12_finds rfl rfl (m_finds (d := 2) (by decide) hn hz (by omega)) rfl rfl hdd (Nat.le_refl _) (Nat.le_refl _) (by decide) (pm_ki (fun v123 σ' cnt' hq => ?_))
              obtain ⟨⟨I124, A124, rfl⟩, rfl, fv123⟩ := hq
              exact pm_iret hG hF dX12_draw_77 rfl (Nat.le_refl _) (Nat.le_refl _) ⟨_, rfl, ⟨_, _, _, rfl, hn, hr, KS.rf⟩, rfl⟩
        · refine pm_callV (As := [.int (nI k4)]) (rest := []) hG hR dX12_draw_36 (lkX12_101 _ rfl) okV_X12_lives rfl rfl (m_lives0 (d := 2) (by decide) (by omega) (by omega : 14 * k4 + 119 = 14 * k4 + 119) ek11 (by omega)) rfl rfl hdd (Nat.le_refl _) (Nat.le_refl _) (by decide) (pm_ki (fun v125 σ' cnt' hq => ?_))
          obtain ⟨rfl, rfl, rfl⟩ := hq
          refine pm_ifN_eq (tgt := 51) hG dX12_draw_39 rfl (by omega) (fun _ => ?_) (fun q => absurd q (by omega))
          refine pm_aloadn hG dX12_draw_51 rfl ?_
          refine pm_iconst (v := nI 3) hG dX12_draw_52 (by decide) ?_
          refine pm_callV (As := [.int (nI 3)]) (rest := []) hG hR dX12_draw_53 (lkX12_80 _ rfl) okV_X12_finds rfl rfl (m_finds (d := 2) (by decide) hn hz (by omega)) rfl rfl hdd (Nat.le_refl _) (Nat.le_refl _) (by decide) (pm_ki (fun v126 σ' cnt' hq => ?_))
          obtain ⟨⟨I127, A127, rfl⟩, rfl, fv126⟩ := hq
          exact pm_iret hG hF dX12_draw_56 rfl (Nat.le_refl _) (Nat.le_refl _) ⟨_, rfl, ⟨_, _, _, rfl, hn, hr, KS.rf⟩, rfl⟩
      · refine pm_ifN_ne (tgt := 34) hG dX12_draw_25 rfl (by omega) (fun q => absurd q (by omega)) (fun _ => ?_)
        refine pm_aloadn hG dX12_draw_28 rfl ?_
        refine pm_iconst (v := nI 1) hG dX12_draw_29 (by decide) ?_
        refine pm_callV (As := [.int (nI 1)]) (rest := []) hG hR dX12_draw_30 (lkX12_80 _ rfl) okV_X12_finds rfl rfl (m_finds (d := 2) (by decide) hn hz (by omega)) rfl rfl hdd (Nat.le_refl _) (Nat.le_refl _) (by decide) (pm_ki (fun v128 σ' cnt' hq => ?_))
        obtain ⟨⟨I129, A129, rfl⟩, rfl, fv128⟩ := hq
        exact pm_iret hG hF dX12_draw_33 rfl (Nat.le_refl _) (Nat.le_refl _) ⟨_, rfl, ⟨_, _, _, rfl, hn, hr, KS.rf⟩, rfl⟩
    · refine pm_ifN_eq (tgt := 28) hG dX12_draw_14 rfl (by omega) (fun _ => ?_) (fun q => absurd q (by omega))
      refine pm_aloadn hG dX12_draw_28 rfl ?_
      refine pm_iconst (v := nI 1) hG dX12_draw_29 (by decide) ?_
      refine pm_callV (As := [.int (nI 1)]) (rest := []) hG hR dX12_draw_30 (lkX12_80 _ rfl) okV_X12_finds rfl rfl (m_finds (d := 2) (by decide) hn hz (by omega)) rfl rfl hdd (Nat.le_refl _) (Nat.le_refl _) (by decide) (pm_ki (fun v130 σ' cnt' hq => ?_))
      obtain ⟨⟨I131, A131, rfl⟩, rfl, fv130⟩ := hq
      exact pm_iret hG hF dX12_draw_33 rfl (Nat.le_refl _) (Nat.le_refl _) ⟨_, rfl, ⟨_, _, _, rfl, hn, hr, KS.rf⟩, rfl⟩
  · refine pm_ifN_eq (tgt := 28) hG dX12_draw_5 rfl (by omega) (fun _ => ?_) (fun q => absurd q (by omega))
    refine pm_aloadn hG dX12_draw_28 rfl ?_
    refine pm_iconst (v := nI 1) hG dX12_draw_29 (by decide) ?_
    refine pm_callV (As := [.int (nI 1)]) (rest := []) hG hR dX12_draw_30 (lkX12_80 _ rfl) okV_X12_finds rfl rfl (m_finds (d := 2) (by decide) hn hz (by omega)) rfl rfl hdd (Nat.le_refl _) (Nat.le_refl _) (by decide) (pm_ki (fun v132 σ' cnt' hq => ?_))
    obtain ⟨⟨I133, A133, rfl⟩, rfl, fv132⟩ := hq
    exact pm_iret hG hF dX12_draw_33 rfl (Nat.le_refl _) (Nat.le_refl _) ⟨_, rfl, ⟨_, _, _, rfl, hn, hr, KS.rf⟩, rfl⟩
