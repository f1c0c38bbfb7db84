set_option maxRecDepth 100000 in
set_option maxHeartbeats 4000000 in
theorem m_check {d B cnt p0 t0 : Nat} {σ : pm_S} {I : Nat → Int32} {A : Nat → Nat → Int32} {n k z : Nat → Int32} {ac wt pl im : Int32} {y : Nat → Int32} (hdd : 1 ≤ d) (hn : KI n) (hr : NR n) (hz : SZ z)  : pm_met mX12_check d 0 0 B [.ref (B + 54)] cnt (pm_mid σ (md_L B I A n k z ac wt pl (nI p0) (nI t0) im y)) (pm_Qi (fun v σ' cnt' => (∃ (n' : Nat → Int32), σ' = pm_mid σ (md_L B I A n' k z ac wt pl (nI p0) (nI t0) im y) ∧ KI n' ∧ NR n') ∧ cnt = cnt')) := by
  refine pm_enter 3 (by decide) (Nat.le_of_ble_eq_true rfl) rfl (fun G hG hR hF => ?_)
  refine pm_aloadn hG dX12_check_0 rfl ?_
  refine pm_getf hG dX12_check_1 (flX12_7 _ rfl) rfl rfl ?_
  refine pm_bipush (v := nI 11) hG dX12_check_4 (by decide) ?_
  refine pm_ialdN hG dX12_check_6 rfl (by decide) (by omega) ?_
  obtain ⟨k1, hk1, ek1⟩ := KI.nat hn (show kd 11 = (1, 21, false) by decide)
  refine pm_top (v := nI k1) ek1 ?_
  refine pm_istoreXn (loc' := [some (.ref (B + 54)), some (.int (nI k1)), none, none]) hG dX12_check_7 (by decide) (pm_c1b rfl) rfl ?_
  refine pm_aloadn hG dX12_check_8 rfl ?_
  refine pm_getf hG dX12_check_9 (flX12_7 _ rfl) rfl rfl ?_
  refine pm_bipush (v := nI 11) hG dX12_check_12 (by decide) ?_
  refine pm_iconst (v := nI 0) hG dX12_check_14 (by decide) ?_
  refine pm_iastN hG dX12_check_15 rfl (by decide) (by omega) ?_
  refine mdn_now (fun n_2 en_2 => ?_)
  have hnn_2 := KI.w en_2 hn (okv_n (show kd 11 = (1, 21, false) by decide) (by omega))
  have hrn_2 := NRx.w en_2 hr (by rw [(show kd 11 = (1, 21, false) by decide)])
  have e3 : n_2 11 = nI 0 := by rw [en_2, pk_us]
  refine pm_iconst (v := nI 0) hG dX12_check_16 (by decide) ?_
  refine pm_istoreXn (loc' := [some (.ref (B + 54)), some (.int (nI k1)), some (.int (nI 0)), none]) hG dX12_check_17 (by decide) (pm_c1b rfl) rfl ?_
  have loop18_4 : ∀ (m4 : Nat) (n_4 : Nat → Int32) (i4 : Nat), KI n_4 → NRx 40 n_4 → i4 ≤ 20 → 20 - i4 < m4 → pm_wp mX12_check G B 18 [some (.ref (B + 54)), some (.int (nI k1)), some (.int (nI i4)), none] [] 0 0 cnt (pm_mid σ (md_L B I A n_4 k z ac wt pl (nI p0) (nI t0) im y)) := by
    intro m4
    induction m4 with
    | zero => intro n_4 i4 _ _ _ hm; exact absurd hm (Nat.not_lt_zero _)
    | succ m4 ih4 =>
      intro n_4 i4 hnn_4 hrn_4 hi4 hm4
      refine pm_iloadn hG dX12_check_18 rfl ?_
      refine pm_iloadn hG dX12_check_19 rfl ?_
      refine pm_icmpN_ge (tgt := 111) hG dX12_check_20 rfl (by omega) (by omega) (fun c5 => ?_) (fun c5 => ?_)
      · refine pm_iconst (v := nI 0) hG dX12_check_111 (by decide) ?_
        exact pm_iret hG hF dX12_check_112 rfl (Nat.le_refl _) (Nat.le_refl _) ⟨_, rfl, ⟨_, rfl, hnn_4, hrn_4⟩, rfl⟩
      · refine pm_iloadn hG dX12_check_23 rfl ?_
        refine pm_aloadn hG dX12_check_24 rfl ?_
        refine pm_getf hG dX12_check_25 (flX12_7 _ rfl) rfl rfl ?_
        refine pm_iconst (v := nI 2) hG dX12_check_28 (by decide) ?_
        refine pm_ialdN hG dX12_check_29 rfl (by decide) (by omega) ?_
        obtain ⟨k6, hk6, ek6⟩ := KI.nat hnn_4 (show kd 2 = (1, 21, true) by decide)
        refine pm_top (v := nI k6) ek6 ?_
        refine pm_icmpN_ge (tgt := 61) hG dX12_check_30 rfl (by omega) (by omega) (fun c7 => ?_) (fun c7 => ?_)
        · refine pm_iloadn hG dX12_check_61 rfl ?_
          refine pm_aloadn hG dX12_check_62 rfl ?_
          refine pm_getf hG dX12_check_63 (flX12_7 _ rfl) rfl rfl ?_
          refine pm_iconst (v := nI 2) hG dX12_check_66 (by decide) ?_
          refine pm_ialdN hG dX12_check_67 rfl (by decide) (by omega) ?_
          refine pm_top (v := nI k6) ek6 ?_
          refine pm_icmpN_ne (tgt := 95) hG dX12_check_68 rfl (by omega) (by omega) (fun c8 => ?_) (fun c8 => ?_)
          · refine pm_iconst (v := nI 0) hG dX12_check_95 (by decide) ?_
            refine pm_istoreXn (loc' := [some (.ref (B + 54)), some (.int (nI k1)), some (.int (nI i4)), some (.int (nI 0))]) hG dX12_check_96 (by decide) (pm_c1b rfl) rfl ?_
            refine pm_iloadn hG dX12_check_97 rfl ?_
            refine pm_ifN_ne (tgt := 105) hG dX12_check_98 rfl (by omega) (fun q => absurd q (by omega)) (fun _ => ?_)
            refine pm_iconst (v := nI 1) hG dX12_check_101 (by decide) ?_
            refine pm_iloadn hG dX12_check_102 rfl ?_
            refine pm_iaddN (c := i4 + 1) hG dX12_check_103 (by omega) ?_
            exact pm_iret hG hF dX12_check_104 rfl (Nat.le_refl _) (Nat.le_refl _) ⟨_, rfl, ⟨_, rfl, hnn_4, hrn_4⟩, rfl⟩
          · refine pm_aloadn hG dX12_check_71 rfl ?_
            refine pm_getf hG dX12_check_72 (flX12_7 _ rfl) rfl rfl ?_
            refine pm_sipush (v := nI 2051) hG dX12_check_75 (by decide) ?_
            refine pm_iloadn hG dX12_check_78 rfl ?_
            refine pm_iaddN (c := i4 + 2051) hG dX12_check_79 (by omega) ?_
            refine pm_ialdN hG dX12_check_80 rfl (by decide) (by omega) ?_
            refine pm_gen (fun x9 ex9 => ?_)
            refine pm_aloadn hG dX12_check_81 rfl ?_
            refine pm_getf hG dX12_check_82 (flX12_7 _ rfl) rfl rfl ?_
            refine pm_bipush (v := nI 9) hG dX12_check_85 (by decide) ?_
            refine pm_ialdN hG dX12_check_87 rfl (by decide) (by omega) ?_
            refine pm_gen (fun x10 ex10 => ?_)
            refine pm_icmp_ne (tgt := 95) hG dX12_check_88 rfl (fun c11 => ?_) (fun c11 => ?_)
            · refine pm_iconst (v := nI 0) hG dX12_check_95 (by decide) ?_
              refine pm_istoreXn (loc' := [some (.ref (B + 54)), some (.int (nI k1)), some (.int (nI i4)), some (.int (nI 0))]) hG dX12_check_96 (by decide) (pm_c1b rfl) rfl ?_
              refine pm_iloadn hG dX12_check_97 rfl ?_
              refine pm_ifN_ne (tgt := 105) hG dX12_check_98 rfl (by omega) (fun q => absurd q (by omega)) (fun _ => ?_)
              refine pm_iconst (v := nI 1) hG dX12_check_101 (by decide) ?_
              refine pm_iloadn hG dX12_check_102 rfl ?_
              refine pm_iaddN (c := i4 + 1) hG dX12_check_103 (by omega) ?_
              exact pm_iret hG hF dX12_check_104 rfl (Nat.le_refl _) (Nat.le_refl _) ⟨_, rfl, ⟨_, rfl, hnn_4, hrn_4⟩, rfl⟩
            · refine pm_iconst (v := nI 1) hG dX12_check_91 (by decide) ?_
              refine pm_goto (tgt := 96) hG dX12_check_92 rfl ?_
              refine pm_istoreXn (loc' := [some (.ref (B + 54)), some (.int (nI k1)), some (.int (nI i4)), some (.int (nI 1))]) hG dX12_check_96 (by decide) (pm_c1b rfl) rfl ?_
              refine pm_iloadn hG dX12_check_97 rfl ?_
              refine pm_ifN_ne (tgt := 105) hG dX12_check_98 rfl (by omega) (fun _ => ?_) (fun q => absurd q (by omega))
              refine pm_iincX (v := nI (i4 + 1)) (loc' := [some (.ref (B + 54)), some (.int (nI k1)), some (.int (nI (i4 + 1))), some (.int (nI 1))]) hG dX12_check_105 rfl (nI_1 _) (by decide) (pm_c1b rfl) rfl ?_
              refine pm_goto (tgt := 18) hG dX12_check_108 rfl ?_
              refine pm_fg 3 (loc' := [some (.ref (B + 54)), some (.int (nI k1)), some (.int (nI (i4 + 1))), none]) rfl ?_
              exact ih4 n_4 (i4 + 1) hnn_4 hrn_4 (by omega) (by omega)
        · refine pm_aloadn hG dX12_check_33 rfl ?_
          refine pm_getf hG dX12_check_34 (flX12_7 _ rfl) rfl rfl ?_
          refine pm_sipush (v := nI 2051) hG dX12_check_37 (by decide) ?_
          refine pm_iloadn hG dX12_check_40 rfl ?_
          refine pm_iaddN (c := i4 + 2051) hG dX12_check_41 (by omega) ?_
          refine pm_ialdN hG dX12_check_42 rfl (by decide) (by omega) ?_
          refine pm_gen (fun x12 ex12 => ?_)
          refine pm_aloadn hG dX12_check_43 rfl ?_
          refine pm_iloadn hG dX12_check_44 rfl ?_
          refine pm_bipush (v := nI 7) hG dX12_check_45 (by decide) ?_
          refine pm_callV (As := [.int (nI i4), .int (nI 7)]) (rest := [.int x12]) hG hR dX12_check_47 (lkX12_72 _ rfl) okV_X12_man rfl rfl (m_man (d := 0) (e := 14 * i4 + 117) (by omega) (by omega) (by omega)) rfl rfl hdd (Nat.le_refl _) (Nat.le_refl _) (Nat.le_of_ble_eq_true rfl) (pm_ki (fun v13 σ' cnt' hq => ?_))
          obtain ⟨rfl, rfl, rfl⟩ := hq
          refine pm_gen (fun x14 ex14 => ?_)
          refine pm_icmp_ne (tgt := 57) hG dX12_check_50 rfl (fun c15 => ?_) (fun c15 => ?_)
          · refine pm_iconst (v := nI 0) hG dX12_check_57 (by decide) ?_
            refine pm_goto (tgt := 96) hG dX12_check_58 rfl ?_
            refine pm_istoreXn (loc' := [some (.ref (B + 54)), some (.int (nI k1)), some (.int (nI i4)), some (.int (nI 0))]) hG dX12_check_96 (by decide) (pm_c1b rfl) rfl ?_
            refine pm_iloadn hG dX12_check_97 rfl ?_
            refine pm_ifN_ne (tgt := 105) hG dX12_check_98 rfl (by omega) (fun q => absurd q (by omega)) (fun _ => ?_)
            refine pm_iconst (v := nI 1) hG dX12_check_101 (by decide) ?_
            refine pm_iloadn hG dX12_check_102 rfl ?_
            refine pm_iaddN (c := i4 + 1) hG dX12_check_103 (by omega) ?_
            exact pm_iret hG hF dX12_check_104 rfl (Nat.le_refl _) (Nat.le_refl _) ⟨_, rfl, ⟨_, rfl, hnn_4, hrn_4⟩, rfl⟩
          · refine pm_iconst (v := nI 1) hG dX12_check_53 (by decide) ?_
            refine pm_goto (tgt := 96) hG dX12_check_54 rfl ?_
            refine pm_istoreXn (loc' := [some (.ref (B + 54)), some (.int (nI k1)), some (.int (nI i4)), some (.int (nI 1))]) hG dX12_check_96 (by decide) (pm_c1b rfl) rfl ?_
            refine pm_iloadn hG dX12_check_97 rfl ?_
            refine pm_ifN_ne (tgt := 105) hG dX12_check_98 rfl (by omega) (fun _ => ?_) (fun q => absurd q (by omega))
            refine pm_iincX (v := nI (i4 + 1)) (loc' := [some (.ref (B + 54)), some (.int (nI k1)), some (.int (nI (i4 + 1))), some (.int (nI 1))]) hG dX12_check_105 rfl (nI_1 _) (by decide) (pm_c1b rfl) rfl ?_
            refine pm_goto (tgt := 18) hG dX12_check_108 rfl ?_
            refine pm_fg 3 (loc' := [some (.ref (B + 54)), some (.int (nI k1)), some (.int (nI (i4 + 1))), none]) rfl ?_
            exact ih4 n_4 (i4 + 1) hnn_4 hrn_4 (by omega) (by omega)
  exact loop18_4 _ n_2 0 hnn_2 hrn_2 (by omega) (Nat.lt_succ_self _)
