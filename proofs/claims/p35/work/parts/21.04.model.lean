set_option maxRecDepth 100000 in
set_option maxHeartbeats 4000000 in
theorem m_weightOf {d B cnt p0 t0 : Nat} {σ : pm_S} {I : Nat → Int32} {A : Nat → Nat → Int32} {n k z : Nat → Int32} {ac wt pl im : Int32} {za : Int32} (hdd : 1 ≤ d) (hn : KI n) (hz : SZ z)  : pm_met mX12_weightOf d 0 0 B [.ref (B + 54), .int za] cnt (pm_mid σ (md_L B I A n k z ac wt pl (nI p0) (nI t0) im)) (pm_Qi (fun v σ' cnt' => σ' = pm_mid σ (md_L B I A n k z ac wt pl (nI p0) (nI t0) im) ∧ cnt = cnt')) := by
  refine pm_enter 2 (by decide) (Nat.le_of_ble_eq_true rfl) rfl (fun G hG hR hF => ?_)
  refine pm_iconst (v := nI 0) hG dX12_weightOf_0 (by decide) ?_
  refine pm_istoreXn (loc' := [some (.ref (B + 54)), some (.int za), some (.int (nI 0)), none]) hG dX12_weightOf_1 (by decide) (pm_c1b rfl) rfl ?_
  refine pm_iconst (v := nI 0) hG dX12_weightOf_2 (by decide) ?_
  refine pm_istoreXn (loc' := [some (.ref (B + 54)), some (.int za), some (.int (nI 0)), some (.int (nI 0))]) hG dX12_weightOf_3 (by decide) (pm_c1b rfl) rfl ?_
  have loop4_1 : ∀ (m1 : Nat) (x1_2 : Int32) (i1 : Nat), i1 ≤ 20 → 20 - i1 < m1 → pm_wp mX12_weightOf G B 4 [some (.ref (B + 54)), some (.int za), some (.int x1_2), some (.int (nI i1))] [] 0 0 cnt (pm_mid σ (md_L B I A n k z ac wt pl (nI p0) (nI t0) im)) := by
    intro m1
    induction m1 with
    | zero => intro x1_2 i1 _ hm; exact absurd hm (Nat.not_lt_zero _)
    | succ m1 ih1 =>
      intro x1_2 i1 hi1 hm1
      refine pm_iloadn hG dX12_weightOf_4 rfl ?_
      refine pm_aloadn hG dX12_weightOf_5 rfl ?_
      refine pm_getf hG dX12_weightOf_6 (flX12_7 _ rfl) rfl rfl ?_
      refine pm_iconst (v := nI 2) hG dX12_weightOf_9 (by decide) ?_
      refine pm_ialdN hG dX12_weightOf_10 rfl (by decide) (by omega) ?_
      obtain ⟨k2, hk2, ek2⟩ := KI.nat hn (show kd 2 = (1, 21, true) by decide)
      refine pm_top (v := nI k2) ek2 ?_
      refine pm_icmpN_ge (tgt := 47) hG dX12_weightOf_11 rfl (by omega) (by omega) (fun c3 => ?_) (fun c3 => ?_)
      · refine pm_iloadn hG dX12_weightOf_47 rfl ?_
        exact pm_iret hG hF dX12_weightOf_48 rfl (Nat.le_refl _) (Nat.le_refl _) ⟨_, rfl, rfl, rfl⟩
      · refine pm_iloadn hG dX12_weightOf_14 rfl ?_
        refine pm_iloadn hG dX12_weightOf_15 rfl ?_
        refine pm_if_ne (tgt := 29) hG dX12_weightOf_16 rfl (fun c4 => ?_) (fun c4 => ?_)
        · refine pm_aloadn hG dX12_weightOf_29 rfl ?_
          refine pm_getf hG dX12_weightOf_30 (flX12_37 _ rfl) rfl rfl ?_
          refine pm_iloadn hG dX12_weightOf_33 rfl ?_
          refine pm_ialdN hG dX12_weightOf_34 rfl (by decide) (by omega) ?_
          refine pm_any (fun x5 => ?_)
          refine pm_goto (tgt := 39) hG dX12_weightOf_35 rfl ?_
          refine pm_iadd hG dX12_weightOf_39 ?_
          refine pm_istoreXn (loc' := [some (.ref (B + 54)), some (.int za), some (.int (x1_2 + x5)), some (.int (nI i1))]) hG dX12_weightOf_40 (by decide) (pm_c1b rfl) rfl ?_
          refine pm_iincX (v := nI (i1 + 1)) (loc' := [some (.ref (B + 54)), some (.int za), some (.int (x1_2 + x5)), some (.int (nI (i1 + 1)))]) hG dX12_weightOf_41 rfl (nI_1 _) (by decide) (pm_c1b rfl) rfl ?_
          refine pm_goto (tgt := 4) hG dX12_weightOf_44 rfl ?_
          exact ih1 (x1_2 + x5) (i1 + 1) (by omega) (by omega)
        · refine pm_aloadn hG dX12_weightOf_19 rfl ?_
          refine pm_getf hG dX12_weightOf_20 (flX12_40 _ rfl) rfl rfl ?_
          refine pm_iloadn hG dX12_weightOf_23 rfl ?_
          refine pm_ialdN hG dX12_weightOf_24 rfl (by decide) (by omega) ?_
          refine pm_any (fun x6 => ?_)
          refine pm_iconst (v := nI 1) hG dX12_weightOf_25 (by decide) ?_
          refine pm_icmp_ne (tgt := 38) hG dX12_weightOf_26 rfl (fun c7 => ?_) (fun c7 => ?_)
          · refine pm_iconst (v := nI 0) hG dX12_weightOf_38 (by decide) ?_
            refine pm_iadd hG dX12_weightOf_39 ?_
            refine pm_istoreXn (loc' := [some (.ref (B + 54)), some (.int za), some (.int (x1_2 + (nI 0))), some (.int (nI i1))]) hG dX12_weightOf_40 (by decide) (pm_c1b rfl) rfl ?_
            refine pm_iincX (v := nI (i1 + 1)) (loc' := [some (.ref (B + 54)), some (.int za), some (.int (x1_2 + (nI 0))), some (.int (nI (i1 + 1)))]) hG dX12_weightOf_41 rfl (nI_1 _) (by decide) (pm_c1b rfl) rfl ?_
            refine pm_goto (tgt := 4) hG dX12_weightOf_44 rfl ?_
            exact ih1 (x1_2 + (nI 0)) (i1 + 1) (by omega) (by omega)
          · refine pm_aloadn hG dX12_weightOf_29 rfl ?_
            refine pm_getf hG dX12_weightOf_30 (flX12_37 _ rfl) rfl rfl ?_
            refine pm_iloadn hG dX12_weightOf_33 rfl ?_
            refine pm_ialdN hG dX12_weightOf_34 rfl (by decide) (by omega) ?_
            refine pm_any (fun x8 => ?_)
            refine pm_goto (tgt := 39) hG dX12_weightOf_35 rfl ?_
            refine pm_iadd hG dX12_weightOf_39 ?_
            refine pm_istoreXn (loc' := [some (.ref (B + 54)), some (.int za), some (.int (x1_2 + x8)), some (.int (nI i1))]) hG dX12_weightOf_40 (by decide) (pm_c1b rfl) rfl ?_
            refine pm_iincX (v := nI (i1 + 1)) (loc' := [some (.ref (B + 54)), some (.int za), some (.int (x1_2 + x8)), some (.int (nI (i1 + 1)))]) hG dX12_weightOf_41 rfl (nI_1 _) (by decide) (pm_c1b rfl) rfl ?_
            refine pm_goto (tgt := 4) hG dX12_weightOf_44 rfl ?_
            exact ih1 (x1_2 + x8) (i1 + 1) (by omega) (by omega)
  exact loop4_1 _ (nI 0) 0 (by omega) (Nat.lt_succ_self _)

set_option maxRecDepth 100000 in
set_option maxHeartbeats 4000000 in
theorem m_buying {d B cnt p0 t0 : Nat} {σ : pm_S} {I : Nat → Int32} {A : Nat → Nat → Int32} {n k z : Nat → Int32} {ac wt pl im : Int32} {za zb : Int32} (hdd : 5 ≤ d) (hn : KI n) (hr : NR n) (hz : SZ z) (h74 : 74 ≤ cnt) : pm_met mX12_buying d 1 9 B [.ref (B + 54), .int za, .int zb] cnt (pm_mid σ (md_L B I A n k z ac wt pl (nI p0) (nI t0) im)) (pm_Qi (fun v σ' cnt' => (∃ (τ : pm_S) (I' : Nat → Int32) (A' : Nat → Nat → Int32), σ' = pm_mid τ (md_L B I' A' n k z ac wt pl (nI p0) (nI t0) im) ∧ ∀ j : Nat, j < cnt → τ j = σ j) ∧ cnt ≤ cnt')) := by
  refine pm_enter 11 (by decide) (Nat.le_of_ble_eq_true rfl) rfl (fun G hG hR hF => ?_)
  refine pm_iloadn hG dX12_buying_0 rfl ?_
  refine pm_iconst (v := nI 0) hG dX12_buying_1 (by decide) ?_
  refine pm_iconst (v := nI 5) hG dX12_buying_2 (by decide) ?_
  refine pm_callS (As := [.int za, .int (nI 0), .int (nI 5)]) (rest := []) hG hR dX12_buying_3 (lkX12_68 _ rfl) okS_X12_in (m_in (d := 4)) rfl rfl hdd (by decide) (by decide) (by decide) (pm_ki (fun v1 σ' cnt' hq => ?_))
  obtain ⟨hq, rfl, rfl⟩ := hq
  rcases hq with ⟨rfl, ac2, bc2⟩ | ⟨rfl, c2⟩
  · obtain ⟨k3, hk3, ek3⟩ := in_nat (by omega) (by omega) ac2 bc2
    refine pm_ifN_eq (tgt := 18) hG dX12_buying_6 rfl (by omega) (fun q => absurd q (by omega)) (fun _ => ?_)
    refine pm_iloadn hG dX12_buying_9 rfl ?_
    refine pm_iconst (v := nI 0) hG dX12_buying_10 (by decide) ?_
    refine pm_iconst (v := nI 1) hG dX12_buying_11 (by decide) ?_
    refine pm_callS (As := [.int zb, .int (nI 0), .int (nI 1)]) (rest := []) hG hR dX12_buying_12 (lkX12_68 _ rfl) okS_X12_in (m_in (d := 4)) rfl rfl hdd (by decide) (by decide) (by decide) (pm_ki (fun v4 σ' cnt' hq => ?_))
    obtain ⟨hq, rfl, rfl⟩ := hq
    rcases hq with ⟨rfl, ac5, bc5⟩ | ⟨rfl, c5⟩
    · obtain ⟨k6, hk6, ek6⟩ := in_nat (by omega) (by omega) ac5 bc5
      refine pm_ifN_ne (tgt := 24) hG dX12_buying_15 rfl (by omega) (fun _ => ?_) (fun q => absurd q (by omega))
      refine pm_aloadn hG dX12_buying_24 rfl ?_
      refine pm_iloadn hG dX12_buying_25 rfl ?_
      refine pm_top (v := nI k3) ek3 ?_
      refine pm_callV (As := [.int (nI k3)]) (rest := []) hG hR dX12_buying_26 (lkX12_246 _ rfl) okV_X12_weigh rfl rfl (m_weigh (d := 4) (by decide) hn hr hz) rfl rfl hdd (by decide) (by decide) (by decide) (pm_kv (fun σ' cnt' hq => ?_))
      obtain ⟨⟨I8, A8, rfl⟩, rfl⟩ := hq
      refine pm_bipush (v := nI 9) hG dX12_buying_29 (by decide) ?_
      refine pm_newi (N := 9) hG hR dX12_buying_31 (by decide) (by decide) (by decide) (by decide) (by decide) ?_
      refine pm_nrw (by omega) ?_
      refine pm_genB (fun t9 et9 => ?_)
      obtain ⟨wt9, ewt9⟩ : ∃ f : Nat → Int32, f = fun _ => 0 := ⟨_, rfl⟩
      rw [← ewt9] at et9
      have hwt9 : t9 cnt = some (.inl (9, wt9)) := by rw [et9]; exact pm_up_same _ _ _
      have vwt9 : WH wt9 := fun j => ⟨0, by decide, by rw [ewt9]; rfl⟩
      have ot9 : ∀ j : Nat, j < cnt → t9 j = σ j := fun j hj => by rw [et9, pm_up_ne _ _ (by omega)]
      refine pm_nums (cs' := 1) (zs' := 9) (cnt' := (cnt + 1)) rfl rfl rfl ?_
      refine pm_astoreXn (loc' := [some (.ref (B + 54)), some (.int za), some (.int zb), some (.ref (B + cnt)), none, none, none, none, none, none, none, none, none, none]) hG dX12_buying_33 (by decide) (pm_c1b rfl) rfl ?_
      refine pm_iconst (v := nI 0) hG dX12_buying_34 (by decide) ?_
      refine pm_istoreXi (loc' := [some (.ref (B + 54)), some (.int za), some (.int zb), some (.ref (B + cnt)), some (.int (nI 0)), none, none, none, none, none, none, none, none, none]) hG dX12_buying_35 (by decide) (pm_c1b rfl) rfl ?_
      refine pm_iconst (v := nI 0) hG dX12_buying_37 (by decide) ?_
      refine pm_istoreXi (loc' := [some (.ref (B + 54)), some (.int za), some (.int zb), some (.ref (B + cnt)), some (.int (nI 0)), some (.int (nI 0)), none, none, none, none, none, none, none, none]) hG dX12_buying_38 (by decide) (pm_c1b rfl) rfl ?_
      have loop40_10 : ∀ (m10 : Nat) (I10 : Nat → Int32) (A10 : Nat → Nat → Int32) (j10_4 : Nat) (i10 : Nat) (t10L : pm_S) (w10_0 : Nat → Int32), j10_4 ≤ 9 → i10 ≤ 20 → t10L cnt = some (.inl (9, w10_0)) → WH w10_0 → (∀ j : Nat, j < cnt → t10L j = σ j) → j10_4 ≤ stN n i10 → 20 - i10 < m10 → pm_wp mX12_buying G B 40 [some (.ref (B + 54)), some (.int za), some (.int zb), some (.ref (B + cnt)), some (.int (nI j10_4)), some (.int (nI i10)), none, none, none, none, none, none, none, none] [] 1 9 (cnt + 1) (pm_mid t10L (md_L B I10 A10 n k z ac wt pl (nI p0) (nI t0) im)) := by
        intro m10
        induction m10 with
        | zero => intro I10 A10 j10_4 i10 t10L w10_0 _ _ _ _ _ _ hm; exact absurd hm (Nat.not_lt_zero _)
        | succ m10 ih10 =>
          intro I10 A10 j10_4 i10 t10L w10_0 hj10_4 hi10 hw10_0 vw10_0 ot10L hst10 hm10
          refine pm_iloadi hG dX12_buying_40 rfl ?_
          refine pm_aloadn hG dX12_buying_42 rfl ?_
          refine pm_getf hG dX12_buying_43 (flX12_7 _ rfl) rfl rfl ?_
          refine pm_iconst (v := nI 2) hG dX12_buying_46 (by decide) ?_
          refine pm_ialdN hG dX12_buying_47 rfl (by decide) (by omega) ?_
          obtain ⟨k11, hk11, ek11⟩ := KI.nat hn (show kd 2 = (1, 21, true) by decide)
          refine pm_top (v := nI k11) ek11 ?_
          refine pm_icmpN_ge (tgt := 91) hG dX12_buying_48 rfl (by omega) (by omega) (fun c12 => ?_) (fun c12 => ?_)
          · refine pm_aloadn hG dX12_buying_91 rfl ?_
            refine pm_iconst (v := nI 0) hG dX12_buying_92 (by decide) ?_
            refine pm_callV (As := [.int (nI 0)]) (rest := []) hG hR dX12_buying_93 (lkX12_249 _ rfl) okV_X12_weightOf rfl rfl (m_weightOf (d := 4) (by decide) hn hz) rfl rfl hdd (by decide) (by decide) (by decide) (pm_ki (fun v13 σ' cnt' hq => ?_))
            obtain ⟨rfl, rfl⟩ := hq
            refine pm_istoreXi (loc' := [some (.ref (B + 54)), some (.int za), some (.int zb), some (.ref (B + cnt)), some (.int (nI j10_4)), some (.int v13), none, none, none, none, none, none, none, none]) hG dX12_buying_96 (by decide) (pm_c1b rfl) rfl ?_
            refine pm_aloadn hG dX12_buying_98 rfl ?_
            refine pm_iconst (v := nI 1) hG dX12_buying_99 (by decide) ?_
            refine pm_callV (As := [.int (nI 1)]) (rest := []) hG hR dX12_buying_100 (lkX12_249 _ rfl) okV_X12_weightOf rfl rfl (m_weightOf (d := 4) (by decide) hn hz) rfl rfl hdd (by decide) (by decide) (by decide) (pm_ki (fun v15 σ' cnt' hq => ?_))
            obtain ⟨rfl, rfl⟩ := hq
            refine pm_istoreXi (loc' := [some (.ref (B + 54)), some (.int za), some (.int zb), some (.ref (B + cnt)), some (.int (nI j10_4)), some (.int v13), some (.int v15), none, none, none, none, none, none, none]) hG dX12_buying_103 (by decide) (pm_c1b rfl) rfl ?_
            refine pm_iconst (v := (-1)) hG dX12_buying_105 (by decide) ?_
            refine pm_istoreXi (loc' := [some (.ref (B + 54)), some (.int za), some (.int zb), some (.ref (B + cnt)), some (.int (nI j10_4)), some (.int v13), some (.int v15), some (.int (-1)), none, none, none, none, none, none]) hG dX12_buying_106 (by decide) (pm_c1b rfl) rfl ?_
            refine pm_iconst (v := nI 0) hG dX12_buying_108 (by decide) ?_
            refine pm_istoreXi (loc' := [some (.ref (B + 54)), some (.int za), some (.int zb), some (.ref (B + cnt)), some (.int (nI j10_4)), some (.int v13), some (.int v15), some (.int (-1)), some (.int (nI 0)), none, none, none, none, none]) hG dX12_buying_109 (by decide) (pm_c1b rfl) rfl ?_
            obtain ⟨bS, hbS, ebS⟩ := pm_sh1 (n := j10_4) (by omega)
            refine pm_iconst (v := nI 0) hG dX12_buying_111 (by decide) ?_
            refine pm_istoreXi (loc' := [some (.ref (B + 54)), some (.int za), some (.int zb), some (.ref (B + cnt)), some (.int (nI j10_4)), some (.int v13), some (.int v15), some (.int (-1)), some (.int (nI 0)), some (.int (nI 0)), none, none, none, none]) hG dX12_buying_112 (by decide) (pm_c1b rfl) rfl ?_
            have loop114_17 : ∀ (m17 : Nat) (I17 : Nat → Int32) (A17 : Nat → Nat → Int32) (x17_7 : Int32) (x17_8 : Int32) (i17 : Nat) (t17L : pm_S) (w17_0 : Nat → Int32), i17 ≤ 512 → t17L cnt = some (.inl (9, w17_0)) → WH w17_0 → (∀ j : Nat, j < cnt → t17L j = σ j) → 512 - i17 < m17 → pm_wp mX12_buying G B 114 [some (.ref (B + 54)), some (.int za), some (.int zb), some (.ref (B + cnt)), some (.int (nI j10_4)), some (.int v13), some (.int v15), some (.int x17_7), some (.int x17_8), some (.int (nI i17)), none, none, none, none] [] 1 9 (cnt + 1) (pm_mid t17L (md_L B I17 A17 n k z ac wt pl (nI p0) (nI t0) im)) := by
              intro m17
              induction m17 with
              | zero => intro I17 A17 x17_7 x17_8 i17 t17L w17_0 _ _ _ _ hm; exact absurd hm (Nat.not_lt_zero _)
              | succ m17 ih17 =>
                intro I17 A17 x17_7 x17_8 i17 t17L w17_0 hi17 hw17_0 vw17_0 ot17L hm17
                refine pm_iloadi hG dX12_buying_114 rfl ?_
                refine pm_iconst (v := nI 1) hG dX12_buying_116 (by decide) ?_
                refine pm_iloadi hG dX12_buying_117 rfl ?_
                refine pm_ishl hG dX12_buying_119 ?_
                refine pm_top (v := nI bS) ebS ?_
                refine pm_icmpN_ge (tgt := 280) hG dX12_buying_120 rfl (by omega) (by omega) (fun c18 => ?_) (fun c18 => ?_)
                · refine pm_iloadi hG dX12_buying_280 rfl ?_
                  refine pm_if_ge (tgt := 293) hG dX12_buying_282 rfl (fun c19 => ?_) (fun c19 => ?_)
                  · obtain ⟨k20, hk20, ek20⟩ := nI_of (Int32.not_lt.mpr c19)
                    refine pm_iloadn hG dX12_buying_293 rfl ?_
                    refine pm_top (v := nI k6) ek6 ?_
                    refine pm_ifN_ne (tgt := 302) hG dX12_buying_294 rfl (by omega) (fun c21 => ?_) (fun c21 => ?_)
                    · refine pm_iloadi hG dX12_buying_302 rfl ?_
                      refine pm_top (v := nI k20) ek20 ?_
                      exact pm_iret hG hF dX12_buying_304 rfl (by decide) (by decide) ⟨_, rfl, ⟨_, _, _, rfl, ot17L⟩, by omega⟩
                    · refine pm_iloadi hG dX12_buying_297 rfl ?_
                      refine pm_goto (tgt := 304) hG dX12_buying_299 rfl ?_
                      exact pm_iret hG hF dX12_buying_304 rfl (by decide) (by decide) ⟨_, rfl, ⟨_, _, _, rfl, ot17L⟩, by omega⟩
                  · refine pm_aloadn hG dX12_buying_285 rfl ?_
                    refine pm_iconst (v := nI 2) hG dX12_buying_286 (by decide) ?_
                    refine pm_callV (As := [.int (nI 2)]) (rest := []) hG hR dX12_buying_287 (lkX12_80 _ rfl) okV_X12_finds rfl rfl (m_finds (d := 4) (by decide) hn hz (by omega)) rfl rfl hdd (by decide) (by decide) (by decide) (pm_ki (fun v22 σ' cnt' hq => ?_))
                    obtain ⟨⟨I23, A23, rfl⟩, rfl, fv22⟩ := hq
                    refine pm_goto (tgt := 304) hG dX12_buying_290 rfl ?_
                    exact pm_iret hG hF dX12_buying_304 rfl (by decide) (by decide) ⟨_, rfl, ⟨_, _, _, rfl, ot17L⟩, by omega⟩
                · refine pm_iloadi hG dX12_buying_123 rfl ?_
                  refine pm_istoreXi (loc' := [some (.ref (B + 54)), some (.int za), some (.int zb), some (.ref (B + cnt)), some (.int (nI j10_4)), some (.int v13), some (.int v15), some (.int x17_7), some (.int x17_8), some (.int (nI i17)), some (.int v13), none, none, none]) hG dX12_buying_125 (by decide) (pm_c1b rfl) rfl ?_
                  refine pm_iconst (v := nI 0) hG dX12_buying_127 (by decide) ?_
                  refine pm_istoreXi (loc' := [some (.ref (B + 54)), some (.int za), some (.int zb), some (.ref (B + cnt)), some (.int (nI j10_4)), some (.int v13), some (.int v15), some (.int x17_7), some (.int x17_8), some (.int (nI i17)), some (.int v13), some (.int (nI 0)), none, none]) hG dX12_buying_128 (by decide) (pm_c1b rfl) rfl ?_
                  refine pm_iconst (v := nI 0) hG dX12_buying_130 (by decide) ?_
                  refine pm_istoreXi (loc' := [some (.ref (B + 54)), some (.int za), some (.int zb), some (.ref (B + cnt)), some (.int (nI j10_4)), some (.int v13), some (.int v15), some (.int x17_7), some (.int x17_8), some (.int (nI i17)), some (.int v13), some (.int (nI 0)), some (.int (nI 0)), none]) hG dX12_buying_131 (by decide) (pm_c1b rfl) rfl ?_
                  refine pm_iconst (v := nI 0) hG dX12_buying_133 (by decide) ?_
                  refine pm_istoreXi (loc' := [some (.ref (B + 54)), some (.int za), some (.int zb), some (.ref (B + cnt)), some (.int (nI j10_4)), some (.int v13), some (.int v15), some (.int x17_7), some (.int x17_8), some (.int (nI i17)), some (.int v13), some (.int (nI 0)), some (.int (nI 0)), some (.int (nI 0))]) hG dX12_buying_134 (by decide) (pm_c1b rfl) rfl ?_
                  have loop136_24 : ∀ (m24 : Nat) (I24 : Nat → Int32) (A24 : Nat → Nat → Int32) (x24_10 : Int32) (x24_11 : Int32) (x24_12 : Int32) (i24 : Nat) (t24L : pm_S) (w24_0 : Nat → Int32), i24 ≤ 9 → t24L cnt = some (.inl (9, w24_0)) → WH w24_0 → (∀ j : Nat, j < cnt → t24L j = σ j) → 9 - i24 < m24 → pm_wp mX12_buying G B 136 [some (.ref (B + 54)), some (.int za), some (.int zb), some (.ref (B + cnt)), some (.int (nI j10_4)), some (.int v13), some (.int v15), some (.int x17_7), some (.int x17_8), some (.int (nI i17)), some (.int x24_10), some (.int x24_11), some (.int x24_12), some (.int (nI i24))] [] 1 9 (cnt + 1) (pm_mid t24L (md_L B I24 A24 n k z ac wt pl (nI p0) (nI t0) im)) := by
                    intro m24
                    induction m24 with
                    | zero => intro I24 A24 x24_10 x24_11 x24_12 i24 t24L w24_0 _ _ _ _ hm; exact absurd hm (Nat.not_lt_zero _)
                    | succ m24 ih24 =>
                      intro I24 A24 x24_10 x24_11 x24_12 i24 t24L w24_0 hi24 hw24_0 vw24_0 ot24L hm24
                      refine pm_iloadi hG dX12_buying_136 rfl ?_
                      refine pm_iloadi hG dX12_buying_138 rfl ?_
                      refine pm_icmpN_ge (tgt := 202) hG dX12_buying_140 rfl (by omega) (by omega) (fun c25 => ?_) (fun c25 => ?_)
                      · refine pm_iconst (v := nI 2) hG dX12_buying_202 (by decide) ?_
                        refine pm_iloadi hG dX12_buying_203 rfl ?_
                        refine pm_imul hG dX12_buying_205 ?_
                        refine pm_iloadi hG dX12_buying_206 rfl ?_
                        refine pm_icmp_le (tgt := 274) hG dX12_buying_208 rfl (fun c26 => ?_) (fun c26 => ?_)
                        · refine pm_iincX (v := nI (i17 + 1)) (loc' := [some (.ref (B + 54)), some (.int za), some (.int zb), some (.ref (B + cnt)), some (.int (nI j10_4)), some (.int v13), some (.int v15), some (.int x17_7), some (.int x17_8), some (.int (nI (i17 + 1))), some (.int x24_10), some (.int x24_11), some (.int x24_12), some (.int (nI i24))]) hG dX12_buying_274 rfl (nI_1 _) (by decide) (pm_c1b rfl) rfl ?_
                          refine pm_goto (tgt := 114) hG dX12_buying_277 rfl ?_
                          refine pm_fg 10 (loc' := [some (.ref (B + 54)), some (.int za), some (.int zb), some (.ref (B + cnt)), some (.int (nI j10_4)), some (.int v13), some (.int v15), some (.int x17_7), some (.int x17_8), some (.int (nI (i17 + 1))), none, some (.int x24_11), some (.int x24_12), some (.int (nI i24))]) rfl ?_
                          refine pm_fg 11 (loc' := [some (.ref (B + 54)), some (.int za), some (.int zb), some (.ref (B + cnt)), some (.int (nI j10_4)), some (.int v13), some (.int v15), some (.int x17_7), some (.int x17_8), some (.int (nI (i17 + 1))), none, none, some (.int x24_12), some (.int (nI i24))]) rfl ?_
                          refine pm_fg 12 (loc' := [some (.ref (B + 54)), some (.int za), some (.int zb), some (.ref (B + cnt)), some (.int (nI j10_4)), some (.int v13), some (.int v15), some (.int x17_7), some (.int x17_8), some (.int (nI (i17 + 1))), none, none, none, some (.int (nI i24))]) rfl ?_
                          refine pm_fg 13 (loc' := [some (.ref (B + 54)), some (.int za), some (.int zb), some (.ref (B + cnt)), some (.int (nI j10_4)), some (.int v13), some (.int v15), some (.int x17_7), some (.int x17_8), some (.int (nI (i17 + 1))), none, none, none, none]) rfl ?_
                          exact ih17 I24 A24 x17_7 x17_8 (i17 + 1) t24L w24_0 (by omega) hw24_0 vw24_0 ot24L (by omega)
                        · refine pm_iloadi hG dX12_buying_211 rfl ?_
                          refine pm_if_lt (tgt := 266) hG dX12_buying_213 rfl (fun c27 => ?_) (fun c27 => ?_)
                          · refine pm_iloadi hG dX12_buying_266 rfl ?_
                            refine pm_istoreXi (loc' := [some (.ref (B + 54)), some (.int za), some (.int zb), some (.ref (B + cnt)), some (.int (nI j10_4)), some (.int v13), some (.int v15), some (.int x24_12), some (.int x17_8), some (.int (nI i17)), some (.int x24_10), some (.int x24_11), some (.int x24_12), some (.int (nI i24))]) hG dX12_buying_268 (by decide) (pm_c1b rfl) rfl ?_
                            refine pm_iloadi hG dX12_buying_270 rfl ?_
                            refine pm_istoreXi (loc' := [some (.ref (B + 54)), some (.int za), some (.int zb), some (.ref (B + cnt)), some (.int (nI j10_4)), some (.int v13), some (.int v15), some (.int x24_12), some (.int x24_11), some (.int (nI i17)), some (.int x24_10), some (.int x24_11), some (.int x24_12), some (.int (nI i24))]) hG dX12_buying_272 (by decide) (pm_c1b rfl) rfl ?_
                            refine pm_iincX (v := nI (i17 + 1)) (loc' := [some (.ref (B + 54)), some (.int za), some (.int zb), some (.ref (B + cnt)), some (.int (nI j10_4)), some (.int v13), some (.int v15), some (.int x24_12), some (.int x24_11), some (.int (nI (i17 + 1))), some (.int x24_10), some (.int x24_11), some (.int x24_12), some (.int (nI i24))]) hG dX12_buying_274 rfl (nI_1 _) (by decide) (pm_c1b rfl) rfl ?_
                            refine pm_goto (tgt := 114) hG dX12_buying_277 rfl ?_
                            refine pm_fg 10 (loc' := [some (.ref (B + 54)), some (.int za), some (.int zb), some (.ref (B + cnt)), some (.int (nI j10_4)), some (.int v13), some (.int v15), some (.int x24_12), some (.int x24_11), some (.int (nI (i17 + 1))), none, some (.int x24_11), some (.int x24_12), some (.int (nI i24))]) rfl ?_
                            refine pm_fg 11 (loc' := [some (.ref (B + 54)), some (.int za), some (.int zb), some (.ref (B + cnt)), some (.int (nI j10_4)), some (.int v13), some (.int v15), some (.int x24_12), some (.int x24_11), some (.int (nI (i17 + 1))), none, none, some (.int x24_12), some (.int (nI i24))]) rfl ?_
                            refine pm_fg 12 (loc' := [some (.ref (B + 54)), some (.int za), some (.int zb), some (.ref (B + cnt)), some (.int (nI j10_4)), some (.int v13), some (.int v15), some (.int x24_12), some (.int x24_11), some (.int (nI (i17 + 1))), none, none, none, some (.int (nI i24))]) rfl ?_
                            refine pm_fg 13 (loc' := [some (.ref (B + 54)), some (.int za), some (.int zb), some (.ref (B + cnt)), some (.int (nI j10_4)), some (.int v13), some (.int v15), some (.int x24_12), some (.int x24_11), some (.int (nI (i17 + 1))), none, none, none, none]) rfl ?_
                            exact ih17 I24 A24 x24_12 x24_11 (i17 + 1) t24L w24_0 (by omega) hw24_0 vw24_0 ot24L (by omega)
                          · obtain ⟨k28, hk28, ek28⟩ := nI_of c27
                            refine pm_iloadi hG dX12_buying_216 rfl ?_
                            refine pm_iloadi hG dX12_buying_218 rfl ?_
                            refine pm_icmp_gt (tgt := 274) hG dX12_buying_220 rfl (fun c29 => ?_) (fun c29 => ?_)
                            · refine pm_iincX (v := nI (i17 + 1)) (loc' := [some (.ref (B + 54)), some (.int za), some (.int zb), some (.ref (B + cnt)), some (.int (nI j10_4)), some (.int v13), some (.int v15), some (.int x17_7), some (.int x17_8), some (.int (nI (i17 + 1))), some (.int x24_10), some (.int x24_11), some (.int x24_12), some (.int (nI i24))]) hG dX12_buying_274 rfl (nI_1 _) (by decide) (pm_c1b rfl) rfl ?_
                              refine pm_goto (tgt := 114) hG dX12_buying_277 rfl ?_
                              refine pm_fg 10 (loc' := [some (.ref (B + 54)), some (.int za), some (.int zb), some (.ref (B + cnt)), some (.int (nI j10_4)), some (.int v13), some (.int v15), some (.int x17_7), some (.int x17_8), some (.int (nI (i17 + 1))), none, some (.int x24_11), some (.int x24_12), some (.int (nI i24))]) rfl ?_
                              refine pm_fg 11 (loc' := [some (.ref (B + 54)), some (.int za), some (.int zb), some (.ref (B + cnt)), some (.int (nI j10_4)), some (.int v13), some (.int v15), some (.int x17_7), some (.int x17_8), some (.int (nI (i17 + 1))), none, none, some (.int x24_12), some (.int (nI i24))]) rfl ?_
                              refine pm_fg 12 (loc' := [some (.ref (B + 54)), some (.int za), some (.int zb), some (.ref (B + cnt)), some (.int (nI j10_4)), some (.int v13), some (.int v15), some (.int x17_7), some (.int x17_8), some (.int (nI (i17 + 1))), none, none, none, some (.int (nI i24))]) rfl ?_
                              refine pm_fg 13 (loc' := [some (.ref (B + 54)), some (.int za), some (.int zb), some (.ref (B + cnt)), some (.int (nI j10_4)), some (.int v13), some (.int v15), some (.int x17_7), some (.int x17_8), some (.int (nI (i17 + 1))), none, none, none, none]) rfl ?_
                              exact ih17 I24 A24 x17_7 x17_8 (i17 + 1) t24L w24_0 (by omega) hw24_0 vw24_0 ot24L (by omega)
                            · refine pm_iloadi hG dX12_buying_223 rfl ?_
                              refine pm_iloadi hG dX12_buying_225 rfl ?_
                              refine pm_icmp_ne (tgt := 266) hG dX12_buying_227 rfl (fun c30 => ?_) (fun c30 => ?_)
                              · refine pm_iloadi hG dX12_buying_266 rfl ?_
                                refine pm_istoreXi (loc' := [some (.ref (B + 54)), some (.int za), some (.int zb), some (.ref (B + cnt)), some (.int (nI j10_4)), some (.int v13), some (.int v15), some (.int x24_12), some (.int x17_8), some (.int (nI i17)), some (.int x24_10), some (.int x24_11), some (.int x24_12), some (.int (nI i24))]) hG dX12_buying_268 (by decide) (pm_c1b rfl) rfl ?_
                                refine pm_iloadi hG dX12_buying_270 rfl ?_
                                refine pm_istoreXi (loc' := [some (.ref (B + 54)), some (.int za), some (.int zb), some (.ref (B + cnt)), some (.int (nI j10_4)), some (.int v13), some (.int v15), some (.int x24_12), some (.int x24_11), some (.int (nI i17)), some (.int x24_10), some (.int x24_11), some (.int x24_12), some (.int (nI i24))]) hG dX12_buying_272 (by decide) (pm_c1b rfl) rfl ?_
                                refine pm_iincX (v := nI (i17 + 1)) (loc' := [some (.ref (B + 54)), some (.int za), some (.int zb), some (.ref (B + cnt)), some (.int (nI j10_4)), some (.int v13), some (.int v15), some (.int x24_12), some (.int x24_11), some (.int (nI (i17 + 1))), some (.int x24_10), some (.int x24_11), some (.int x24_12), some (.int (nI i24))]) hG dX12_buying_274 rfl (nI_1 _) (by decide) (pm_c1b rfl) rfl ?_
                                refine pm_goto (tgt := 114) hG dX12_buying_277 rfl ?_
                                refine pm_fg 10 (loc' := [some (.ref (B + 54)), some (.int za), some (.int zb), some (.ref (B + cnt)), some (.int (nI j10_4)), some (.int v13), some (.int v15), some (.int x24_12), some (.int x24_11), some (.int (nI (i17 + 1))), none, some (.int x24_11), some (.int x24_12), some (.int (nI i24))]) rfl ?_
                                refine pm_fg 11 (loc' := [some (.ref (B + 54)), some (.int za), some (.int zb), some (.ref (B + cnt)), some (.int (nI j10_4)), some (.int v13), some (.int v15), some (.int x24_12), some (.int x24_11), some (.int (nI (i17 + 1))), none, none, some (.int x24_12), some (.int (nI i24))]) rfl ?_
                                refine pm_fg 12 (loc' := [some (.ref (B + 54)), some (.int za), some (.int zb), some (.ref (B + cnt)), some (.int (nI j10_4)), some (.int v13), some (.int v15), some (.int x24_12), some (.int x24_11), some (.int (nI (i17 + 1))), none, none, none, some (.int (nI i24))]) rfl ?_
                                refine pm_fg 13 (loc' := [some (.ref (B + 54)), some (.int za), some (.int zb), some (.ref (B + cnt)), some (.int (nI j10_4)), some (.int v13), some (.int v15), some (.int x24_12), some (.int x24_11), some (.int (nI (i17 + 1))), none, none, none, none]) rfl ?_
                                exact ih17 I24 A24 x24_12 x24_11 (i17 + 1) t24L w24_0 (by omega) hw24_0 vw24_0 ot24L (by omega)
                              · refine pm_iloadi hG dX12_buying_230 rfl ?_
                                refine pm_callS (As := [.int x24_12]) (rest := []) hG hR dX12_buying_232 (lkX12_202 _ rfl) okS_X12_bits (m_bits (d := 4) (by decide) hn hz) rfl rfl hdd (by decide) (by decide) (by decide) (pm_ki (fun v31 σ' cnt' hq => ?_))
                                obtain ⟨rfl, rfl⟩ := hq
                                refine pm_iloadi hG dX12_buying_235 rfl ?_
                                refine pm_top (v := nI k28) ek28 ?_
                                refine pm_callS (As := [.int (nI k28)]) (rest := [.int v31]) hG hR dX12_buying_237 (lkX12_202 _ rfl) okS_X12_bits (m_bits (d := 4) (by decide) hn hz) rfl rfl hdd (by decide) (by decide) (Nat.le_of_ble_eq_true rfl) (pm_ki (fun v33 σ' cnt' hq => ?_))
                                obtain ⟨rfl, rfl⟩ := hq
                                refine pm_icmp_gt (tgt := 274) hG dX12_buying_240 rfl (fun c35 => ?_) (fun c35 => ?_)
                                · refine pm_iincX (v := nI (i17 + 1)) (loc' := [some (.ref (B + 54)), some (.int za), some (.int zb), some (.ref (B + cnt)), some (.int (nI j10_4)), some (.int v13), some (.int v15), some (.int x17_7), some (.int x17_8), some (.int (nI (i17 + 1))), some (.int x24_10), some (.int x24_11), some (.int x24_12), some (.int (nI i24))]) hG dX12_buying_274 rfl (nI_1 _) (by decide) (pm_c1b rfl) rfl ?_
                                  refine pm_goto (tgt := 114) hG dX12_buying_277 rfl ?_
                                  refine pm_fg 10 (loc' := [some (.ref (B + 54)), some (.int za), some (.int zb), some (.ref (B + cnt)), some (.int (nI j10_4)), some (.int v13), some (.int v15), some (.int x17_7), some (.int x17_8), some (.int (nI (i17 + 1))), none, some (.int x24_11), some (.int x24_12), some (.int (nI i24))]) rfl ?_
                                  refine pm_fg 11 (loc' := [some (.ref (B + 54)), some (.int za), some (.int zb), some (.ref (B + cnt)), some (.int (nI j10_4)), some (.int v13), some (.int v15), some (.int x17_7), some (.int x17_8), some (.int (nI (i17 + 1))), none, none, some (.int x24_12), some (.int (nI i24))]) rfl ?_
                                  refine pm_fg 12 (loc' := [some (.ref (B + 54)), some (.int za), some (.int zb), some (.ref (B + cnt)), some (.int (nI j10_4)), some (.int v13), some (.int v15), some (.int x17_7), some (.int x17_8), some (.int (nI (i17 + 1))), none, none, none, some (.int (nI i24))]) rfl ?_
                                  refine pm_fg 13 (loc' := [some (.ref (B + 54)), some (.int za), some (.int zb), some (.ref (B + cnt)), some (.int (nI j10_4)), some (.int v13), some (.int v15), some (.int x17_7), some (.int x17_8), some (.int (nI (i17 + 1))), none, none, none, none]) rfl ?_
                                  exact ih17 I24 A24 x17_7 x17_8 (i17 + 1) t24L w24_0 (by omega) hw24_0 vw24_0 ot24L (by omega)
                                · refine pm_iloadi hG dX12_buying_243 rfl ?_
                                  refine pm_callS (As := [.int x24_12]) (rest := []) hG hR dX12_buying_245 (lkX12_202 _ rfl) okS_X12_bits (m_bits (d := 4) (by decide) hn hz) rfl rfl hdd (by decide) (by decide) (by decide) (pm_ki (fun v36 σ' cnt' hq => ?_))
                                  obtain ⟨rfl, rfl⟩ := hq
                                  refine pm_iloadi hG dX12_buying_248 rfl ?_
                                  refine pm_top (v := nI k28) ek28 ?_
                                  refine pm_callS (As := [.int (nI k28)]) (rest := [.int v36]) hG hR dX12_buying_250 (lkX12_202 _ rfl) okS_X12_bits (m_bits (d := 4) (by decide) hn hz) rfl rfl hdd (by decide) (by decide) (Nat.le_of_ble_eq_true rfl) (pm_ki (fun v38 σ' cnt' hq => ?_))
                                  obtain ⟨rfl, rfl⟩ := hq
                                  refine pm_icmp_ne (tgt := 266) hG dX12_buying_253 rfl (fun c40 => ?_) (fun c40 => ?_)
                                  · refine pm_iloadi hG dX12_buying_266 rfl ?_
                                    refine pm_istoreXi (loc' := [some (.ref (B + 54)), some (.int za), some (.int zb), some (.ref (B + cnt)), some (.int (nI j10_4)), some (.int v13), some (.int v15), some (.int x24_12), some (.int x17_8), some (.int (nI i17)), some (.int x24_10), some (.int x24_11), some (.int x24_12), some (.int (nI i24))]) hG dX12_buying_268 (by decide) (pm_c1b rfl) rfl ?_
                                    refine pm_iloadi hG dX12_buying_270 rfl ?_
                                    refine pm_istoreXi (loc' := [some (.ref (B + 54)), some (.int za), some (.int zb), some (.ref (B + cnt)), some (.int (nI j10_4)), some (.int v13), some (.int v15), some (.int x24_12), some (.int x24_11), some (.int (nI i17)), some (.int x24_10), some (.int x24_11), some (.int x24_12), some (.int (nI i24))]) hG dX12_buying_272 (by decide) (pm_c1b rfl) rfl ?_
                                    refine pm_iincX (v := nI (i17 + 1)) (loc' := [some (.ref (B + 54)), some (.int za), some (.int zb), some (.ref (B + cnt)), some (.int (nI j10_4)), some (.int v13), some (.int v15), some (.int x24_12), some (.int x24_11), some (.int (nI (i17 + 1))), some (.int x24_10), some (.int x24_11), some (.int x24_12), some (.int (nI i24))]) hG dX12_buying_274 rfl (nI_1 _) (by decide) (pm_c1b rfl) rfl ?_
                                    refine pm_goto (tgt := 114) hG dX12_buying_277 rfl ?_
                                    refine pm_fg 10 (loc' := [some (.ref (B + 54)), some (.int za), some (.int zb), some (.ref (B + cnt)), some (.int (nI j10_4)), some (.int v13), some (.int v15), some (.int x24_12), some (.int x24_11), some (.int (nI (i17 + 1))), none, some (.int x24_11), some (.int x24_12), some (.int (nI i24))]) rfl ?_
                                    refine pm_fg 11 (loc' := [some (.ref (B + 54)), some (.int za), some (.int zb), some (.ref (B + cnt)), some (.int (nI j10_4)), some (.int v13), some (.int v15), some (.int x24_12), some (.int x24_11), some (.int (nI (i17 + 1))), none, none, some (.int x24_12), some (.int (nI i24))]) rfl ?_
                                    refine pm_fg 12 (loc' := [some (.ref (B + 54)), some (.int za), some (.int zb), some (.ref (B + cnt)), some (.int (nI j10_4)), some (.int v13), some (.int v15), some (.int x24_12), some (.int x24_11), some (.int (nI (i17 + 1))), none, none, none, some (.int (nI i24))]) rfl ?_
                                    refine pm_fg 13 (loc' := [some (.ref (B + 54)), some (.int za), some (.int zb), some (.ref (B + cnt)), some (.int (nI j10_4)), some (.int v13), some (.int v15), some (.int x24_12), some (.int x24_11), some (.int (nI (i17 + 1))), none, none, none, none]) rfl ?_
                                    exact ih17 I24 A24 x24_12 x24_11 (i17 + 1) t24L w24_0 (by omega) hw24_0 vw24_0 ot24L (by omega)
                                  · refine pm_iloadi hG dX12_buying_256 rfl ?_
                                    refine pm_iloadi hG dX12_buying_258 rfl ?_
                                    refine pm_top (v := nI k28) ek28 ?_
                                    refine pm_icmp_lt (tgt := 266) hG dX12_buying_260 rfl (fun c41 => ?_) (fun c41 => ?_)
                                    · refine pm_iloadi hG dX12_buying_266 rfl ?_
                                      refine pm_istoreXi (loc' := [some (.ref (B + 54)), some (.int za), some (.int zb), some (.ref (B + cnt)), some (.int (nI j10_4)), some (.int v13), some (.int v15), some (.int x24_12), some (.int x17_8), some (.int (nI i17)), some (.int x24_10), some (.int x24_11), some (.int x24_12), some (.int (nI i24))]) hG dX12_buying_268 (by decide) (pm_c1b rfl) rfl ?_
                                      refine pm_iloadi hG dX12_buying_270 rfl ?_
                                      refine pm_istoreXi (loc' := [some (.ref (B + 54)), some (.int za), some (.int zb), some (.ref (B + cnt)), some (.int (nI j10_4)), some (.int v13), some (.int v15), some (.int x24_12), some (.int x24_11), some (.int (nI i17)), some (.int x24_10), some (.int x24_11), some (.int x24_12), some (.int (nI i24))]) hG dX12_buying_272 (by decide) (pm_c1b rfl) rfl ?_
                                      refine pm_iincX (v := nI (i17 + 1)) (loc' := [some (.ref (B + 54)), some (.int za), some (.int zb), some (.ref (B + cnt)), some (.int (nI j10_4)), some (.int v13), some (.int v15), some (.int x24_12), some (.int x24_11), some (.int (nI (i17 + 1))), some (.int x24_10), some (.int x24_11), some (.int x24_12), some (.int (nI i24))]) hG dX12_buying_274 rfl (nI_1 _) (by decide) (pm_c1b rfl) rfl ?_
                                      refine pm_goto (tgt := 114) hG dX12_buying_277 rfl ?_
                                      refine pm_fg 10 (loc' := [some (.ref (B + 54)), some (.int za), some (.int zb), some (.ref (B + cnt)), some (.int (nI j10_4)), some (.int v13), some (.int v15), some (.int x24_12), some (.int x24_11), some (.int (nI (i17 + 1))), none, some (.int x24_11), some (.int x24_12), some (.int (nI i24))]) rfl ?_
                                      refine pm_fg 11 (loc' := [some (.ref (B + 54)), some (.int za), some (.int zb), some (.ref (B + cnt)), some (.int (nI j10_4)), some (.int v13), some (.int v15), some (.int x24_12), some (.int x24_11), some (.int (nI (i17 + 1))), none, none, some (.int x24_12), some (.int (nI i24))]) rfl ?_
                                      refine pm_fg 12 (loc' := [some (.ref (B + 54)), some (.int za), some (.int zb), some (.ref (B + cnt)), some (.int (nI j10_4)), some (.int v13), some (.int v15), some (.int x24_12), some (.int x24_11), some (.int (nI (i17 + 1))), none, none, none, some (.int (nI i24))]) rfl ?_
                                      refine pm_fg 13 (loc' := [some (.ref (B + 54)), some (.int za), some (.int zb), some (.ref (B + cnt)), some (.int (nI j10_4)), some (.int v13), some (.int v15), some (.int x24_12), some (.int x24_11), some (.int (nI (i17 + 1))), none, none, none, none]) rfl ?_
                                      exact ih17 I24 A24 x24_12 x24_11 (i17 + 1) t24L w24_0 (by omega) hw24_0 vw24_0 ot24L (by omega)
                                    · refine pm_goto (tgt := 274) hG dX12_buying_263 rfl ?_
                                      refine pm_iincX (v := nI (i17 + 1)) (loc' := [some (.ref (B + 54)), some (.int za), some (.int zb), some (.ref (B + cnt)), some (.int (nI j10_4)), some (.int v13), some (.int v15), some (.int x17_7), some (.int x17_8), some (.int (nI (i17 + 1))), some (.int x24_10), some (.int x24_11), some (.int x24_12), some (.int (nI i24))]) hG dX12_buying_274 rfl (nI_1 _) (by decide) (pm_c1b rfl) rfl ?_
                                      refine pm_goto (tgt := 114) hG dX12_buying_277 rfl ?_
                                      refine pm_fg 10 (loc' := [some (.ref (B + 54)), some (.int za), some (.int zb), some (.ref (B + cnt)), some (.int (nI j10_4)), some (.int v13), some (.int v15), some (.int x17_7), some (.int x17_8), some (.int (nI (i17 + 1))), none, some (.int x24_11), some (.int x24_12), some (.int (nI i24))]) rfl ?_
                                      refine pm_fg 11 (loc' := [some (.ref (B + 54)), some (.int za), some (.int zb), some (.ref (B + cnt)), some (.int (nI j10_4)), some (.int v13), some (.int v15), some (.int x17_7), some (.int x17_8), some (.int (nI (i17 + 1))), none, none, some (.int x24_12), some (.int (nI i24))]) rfl ?_
                                      refine pm_fg 12 (loc' := [some (.ref (B + 54)), some (.int za), some (.int zb), some (.ref (B + cnt)), some (.int (nI j10_4)), some (.int v13), some (.int v15), some (.int x17_7), some (.int x17_8), some (.int (nI (i17 + 1))), none, none, none, some (.int (nI i24))]) rfl ?_
                                      refine pm_fg 13 (loc' := [some (.ref (B + 54)), some (.int za), some (.int zb), some (.ref (B + cnt)), some (.int (nI j10_4)), some (.int v13), some (.int v15), some (.int x17_7), some (.int x17_8), some (.int (nI (i17 + 1))), none, none, none, none]) rfl ?_
                                      exact ih17 I24 A24 x17_7 x17_8 (i17 + 1) t24L w24_0 (by omega) hw24_0 vw24_0 ot24L (by omega)
                      · refine pm_iloadi hG dX12_buying_143 rfl ?_
                        refine pm_iloadi hG dX12_buying_145 rfl ?_
                        refine pm_ishr hG dX12_buying_147 ?_
                        refine pm_any (fun x42 => ?_)
                        refine pm_iconst (v := nI 1) hG dX12_buying_148 (by decide) ?_
                        refine pm_iand hG dX12_buying_149 ?_
                        refine pm_any (fun x43 => ?_)
                        refine pm_if_ne (tgt := 156) hG dX12_buying_150 rfl (fun c44 => ?_) (fun c44 => ?_)
                        · refine pm_iloadi hG dX12_buying_156 rfl ?_
                          refine pm_aloadn hG dX12_buying_158 rfl ?_
                          refine pm_getf hG dX12_buying_159 (flX12_37 _ rfl) rfl rfl ?_
                          refine pm_aloadn hG dX12_buying_162 rfl ?_
                          refine pm_iloadi hG dX12_buying_163 rfl ?_
                          refine pm_ialdN hG dX12_buying_165 (pm_mid_hi (by omega) hw24_0) (by decide) (by omega) ?_
                          obtain ⟨k45, hk45, ek45⟩ := vw24_0 i24
                          refine pm_top (v := nI k45) ek45 ?_
                          refine pm_ialdN hG dX12_buying_166 rfl (by decide) (by omega) ?_
                          refine pm_any (fun x46 => ?_)
                          refine pm_iadd hG dX12_buying_167 ?_
                          refine pm_istoreXi (loc' := [some (.ref (B + 54)), some (.int za), some (.int zb), some (.ref (B + cnt)), some (.int (nI j10_4)), some (.int v13), some (.int v15), some (.int x17_7), some (.int x17_8), some (.int (nI i17)), some (.int (x24_10 + x46)), some (.int x24_11), some (.int x24_12), some (.int (nI i24))]) hG dX12_buying_168 (by decide) (pm_c1b rfl) rfl ?_
                          refine pm_iloadi hG dX12_buying_170 rfl ?_
                          refine pm_aloadn hG dX12_buying_172 rfl ?_
                          refine pm_aloadn hG dX12_buying_173 rfl ?_
                          refine pm_iloadi hG dX12_buying_174 rfl ?_
                          refine pm_ialdN hG dX12_buying_176 (pm_mid_hi (by omega) hw24_0) (by decide) (by omega) ?_
                          refine pm_top (v := nI k45) ek45 ?_
                          refine pm_bipush (v := nI 12) hG dX12_buying_177 (by decide) ?_
                          refine pm_callV (As := [.int (nI k45), .int (nI 12)]) (rest := [.int x24_11]) hG hR dX12_buying_179 (lkX12_72 _ rfl) okV_X12_man rfl rfl (m_man (d := 4) (e := 14 * k45 + 122) (by omega) (by omega) (by omega)) rfl rfl hdd (by decide) (by decide) (Nat.le_of_ble_eq_true rfl) (pm_ki (fun v47 σ' cnt' hq => ?_))
                          obtain ⟨rfl, rfl, rfl⟩ := hq
                          refine pm_gen (fun x48 ex48 => ?_)
                          refine pm_iadd hG dX12_buying_182 ?_
                          refine pm_istoreXi (loc' := [some (.ref (B + 54)), some (.int za), some (.int zb), some (.ref (B + cnt)), some (.int (nI j10_4)), some (.int v13), some (.int v15), some (.int x17_7), some (.int x17_8), some (.int (nI i17)), some (.int (x24_10 + x46)), some (.int (x24_11 + x48)), some (.int x24_12), some (.int (nI i24))]) hG dX12_buying_183 (by decide) (pm_c1b rfl) rfl ?_
                          refine pm_iloadi hG dX12_buying_185 rfl ?_
                          refine pm_iconst (v := nI 1) hG dX12_buying_187 (by decide) ?_
                          refine pm_aloadn hG dX12_buying_188 rfl ?_
                          refine pm_iloadi hG dX12_buying_189 rfl ?_
                          refine pm_ialdN hG dX12_buying_191 (pm_mid_hi (by omega) hw24_0) (by decide) (by omega) ?_
                          refine pm_top (v := nI k45) ek45 ?_
                          refine pm_ishl hG dX12_buying_192 ?_
                          refine pm_any (fun x49 => ?_)
                          refine pm_ior hG dX12_buying_193 ?_
                          refine pm_any (fun x50 => ?_)
                          refine pm_istoreXi (loc' := [some (.ref (B + 54)), some (.int za), some (.int zb), some (.ref (B + cnt)), some (.int (nI j10_4)), some (.int v13), some (.int v15), some (.int x17_7), some (.int x17_8), some (.int (nI i17)), some (.int (x24_10 + x46)), some (.int (x24_11 + x48)), some (.int x50), some (.int (nI i24))]) hG dX12_buying_194 (by decide) (pm_c1b rfl) rfl ?_
                          refine pm_iincX (v := nI (i24 + 1)) (loc' := [some (.ref (B + 54)), some (.int za), some (.int zb), some (.ref (B + cnt)), some (.int (nI j10_4)), some (.int v13), some (.int v15), some (.int x17_7), some (.int x17_8), some (.int (nI i17)), some (.int (x24_10 + x46)), some (.int (x24_11 + x48)), some (.int x50), some (.int (nI (i24 + 1)))]) hG dX12_buying_196 rfl (nI_1 _) (by decide) (pm_c1b rfl) rfl ?_
                          refine pm_goto (tgt := 136) hG dX12_buying_199 rfl ?_
                          exact ih24 I24 A24 (x24_10 + x46) (x24_11 + x48) x50 (i24 + 1) t24L w24_0 (by omega) hw24_0 vw24_0 ot24L (by omega)
                        · refine pm_goto (tgt := 196) hG dX12_buying_153 rfl ?_
                          refine pm_iincX (v := nI (i24 + 1)) (loc' := [some (.ref (B + 54)), some (.int za), some (.int zb), some (.ref (B + cnt)), some (.int (nI j10_4)), some (.int v13), some (.int v15), some (.int x17_7), some (.int x17_8), some (.int (nI i17)), some (.int x24_10), some (.int x24_11), some (.int x24_12), some (.int (nI (i24 + 1)))]) hG dX12_buying_196 rfl (nI_1 _) (by decide) (pm_c1b rfl) rfl ?_
                          refine pm_goto (tgt := 136) hG dX12_buying_199 rfl ?_
                          exact ih24 I24 A24 x24_10 x24_11 x24_12 (i24 + 1) t24L w24_0 (by omega) hw24_0 vw24_0 ot24L (by omega)
                  exact loop136_24 _ I17 A17 v13 (nI 0) (nI 0) 0 t17L w17_0 (by omega) hw17_0 vw17_0 ot17L (Nat.lt_succ_self _)
            exact loop114_17 _ I10 A10 (-1) (nI 0) 0 t10L w10_0 (by omega) hw10_0 vw10_0 ot10L (Nat.lt_succ_self _)
          · refine pm_aloadn hG dX12_buying_51 rfl ?_
            refine pm_iloadi hG dX12_buying_52 rfl ?_
            refine pm_bipush (v := nI 11) hG dX12_buying_54 (by decide) ?_
            refine pm_callV (As := [.int (nI i10), .int (nI 11)]) (rest := []) hG hR dX12_buying_56 (lkX12_72 _ rfl) okV_X12_man rfl rfl (m_man (d := 4) (e := 14 * i10 + 121) (by omega) (by omega) (by omega)) rfl rfl hdd (by decide) (by decide) (by decide) (pm_ki (fun v51 σ' cnt' hq => ?_))
            obtain ⟨rfl, rfl, rfl⟩ := hq
            obtain ⟨k52, hk52, ek52⟩ := KI.nat hn (show kd (14 * i10 + 121) = (1, 2, true) from (kd_P (k := i10) (c := 11) (by omega) (by omega) (by decide)))
            refine pm_top (v := nI k52) ek52 ?_
            refine pm_ifN_eq (tgt := 85) hG dX12_buying_59 rfl (by omega) (fun c53 => ?_) (fun c53 => ?_)
            · have u54 : j10_4 ≤ stN n (i10 + 1) := Nat.le_trans hst10 (stN_mono (Nat.le_succ _))
              refine pm_iincX (v := nI (i10 + 1)) (loc' := [some (.ref (B + 54)), some (.int za), some (.int zb), some (.ref (B + cnt)), some (.int (nI j10_4)), some (.int (nI (i10 + 1))), none, none, none, none, none, none, none, none]) hG dX12_buying_85 rfl (nI_1 _) (by decide) (pm_c1b rfl) rfl ?_
              refine pm_goto (tgt := 40) hG dX12_buying_88 rfl ?_
              exact ih10 I10 A10 j10_4 (i10 + 1) t10L w10_0 (by omega) (by omega) hw10_0 vw10_0 ot10L u54 (by omega)
            · have s55 : stN n (i10 + 1) = stN n i10 + k52 := stN_step ek52 (by omega)
              have ms55 : stN n (i10 + 1) ≤ 9 := Nat.le_trans (stN_mono (by omega)) hr.2.2.1.1
              refine pm_aloadn hG dX12_buying_62 rfl ?_
              refine pm_getf hG dX12_buying_63 (flX12_40 _ rfl) rfl rfl ?_
              refine pm_iloadi hG dX12_buying_66 rfl ?_
              refine pm_ialdN hG dX12_buying_68 rfl (by decide) (by omega) ?_
              refine pm_any (fun x56 => ?_)
              refine pm_iconst (v := nI 1) hG dX12_buying_69 (by decide) ?_
              refine pm_icmp_ne (tgt := 76) hG dX12_buying_70 rfl (fun c57 => ?_) (fun c57 => ?_)
              · refine pm_aloadn hG dX12_buying_76 rfl ?_
                refine pm_iloadi hG dX12_buying_77 rfl ?_
                refine pm_iloadi hG dX12_buying_79 rfl ?_
                refine pm_iastN hG dX12_buying_81 (pm_mid_hi (by omega) hw10_0) (by decide) (by omega) ?_
                refine pm_nrw (by omega) ?_
                refine pm_genB (fun t58 et58 => ?_)
                obtain ⟨wt58, ewt58⟩ : ∃ f : Nat → Int32, f = upd w10_0 j10_4 (nI i10) := ⟨_, rfl⟩
                rw [← ewt58] at et58
                have hwt58 : t58 cnt = some (.inl (9, wt58)) := by rw [et58]; exact pm_up_same _ _ _
                have vwt58 : WH wt58 := WH.w ewt58 vw10_0 (by omega : i10 < 20)
                have ot58 : ∀ j : Nat, j < cnt → t58 j = σ j := fun j hj => by rw [et58, pm_up_ne _ _ (by omega)]; exact ot10L j hj
                refine pm_iincX (v := nI (j10_4 + 1)) (loc' := [some (.ref (B + 54)), some (.int za), some (.int zb), some (.ref (B + cnt)), some (.int (nI (j10_4 + 1))), some (.int (nI i10)), none, none, none, none, none, none, none, none]) hG dX12_buying_82 rfl (nI_1 _) (by decide) (pm_c1b rfl) rfl ?_
                have u59 : j10_4 + 1 ≤ stN n (i10 + 1) := by omega
                refine pm_iincX (v := nI (i10 + 1)) (loc' := [some (.ref (B + 54)), some (.int za), some (.int zb), some (.ref (B + cnt)), some (.int (nI (j10_4 + 1))), some (.int (nI (i10 + 1))), none, none, none, none, none, none, none, none]) hG dX12_buying_85 rfl (nI_1 _) (by decide) (pm_c1b rfl) rfl ?_
                refine pm_goto (tgt := 40) hG dX12_buying_88 rfl ?_
                exact ih10 I10 A10 (j10_4 + 1) (i10 + 1) t58 wt58 (by omega) (by omega) hwt58 vwt58 ot58 u59 (by omega)
              · refine pm_goto (tgt := 85) hG dX12_buying_73 rfl ?_
                have u60 : j10_4 ≤ stN n (i10 + 1) := by omega
                refine pm_iincX (v := nI (i10 + 1)) (loc' := [some (.ref (B + 54)), some (.int za), some (.int zb), some (.ref (B + cnt)), some (.int (nI j10_4)), some (.int (nI (i10 + 1))), none, none, none, none, none, none, none, none]) hG dX12_buying_85 rfl (nI_1 _) (by decide) (pm_c1b rfl) rfl ?_
                refine pm_goto (tgt := 40) hG dX12_buying_88 rfl ?_
                exact ih10 I10 A10 j10_4 (i10 + 1) t10L w10_0 (by omega) (by omega) hw10_0 vw10_0 ot10L u60 (by omega)
      exact loop40_10 _ I8 A8 0 0 t9 wt9 (by omega) (by omega) hwt9 vwt9 ot9 (Nat.zero_le _) (Nat.lt_succ_self _)
    · refine pm_ifN_ne (tgt := 24) hG dX12_buying_15 rfl (by omega) (fun q => absurd q (by omega)) (fun _ => ?_)
      refine pm_aloadn hG dX12_buying_18 rfl ?_
      refine pm_iconst (v := nI 1) hG dX12_buying_19 (by decide) ?_
      refine pm_callV (As := [.int (nI 1)]) (rest := []) hG hR dX12_buying_20 (lkX12_80 _ rfl) okV_X12_finds rfl rfl (m_finds (d := 4) (by decide) hn hz (by omega)) rfl rfl hdd (by decide) (by decide) (by decide) (pm_ki (fun v61 σ' cnt' hq => ?_))
      obtain ⟨⟨I62, A62, rfl⟩, rfl, fv61⟩ := hq
      exact pm_iret hG hF dX12_buying_23 rfl (by decide) (by decide) ⟨_, rfl, ⟨_, _, _, rfl, fun _ _ => rfl⟩, by omega⟩
  · refine pm_ifN_eq (tgt := 18) hG dX12_buying_6 rfl (by omega) (fun _ => ?_) (fun q => absurd q (by omega))
    refine pm_aloadn hG dX12_buying_18 rfl ?_
    refine pm_iconst (v := nI 1) hG dX12_buying_19 (by decide) ?_
    refine pm_callV (As := [.int (nI 1)]) (rest := []) hG hR dX12_buying_20 (lkX12_80 _ rfl) okV_X12_finds rfl rfl (m_finds (d := 4) (by decide) hn hz (by omega)) rfl rfl hdd (by decide) (by decide) (by decide) (pm_ki (fun v63 σ' cnt' hq => ?_))
    obtain ⟨⟨I64, A64, rfl⟩, rfl, fv63⟩ := hq
    exact pm_iret hG hF dX12_buying_23 rfl (by decide) (by decide) ⟨_, rfl, ⟨_, _, _, rfl, fun _ _ => rfl⟩, by omega⟩

set_option maxRecDepth 100000 in
set_option maxHeartbeats 4000000 in
theorem m_isTaken {d B cnt p0 t0 : Nat} {σ : pm_S} {I : Nat → Int32} {A : Nat → Nat → Int32} {n k z : Nat → Int32} {ac wt pl im : Int32} {za zb : Int32} (hdd : 1 ≤ d) (hn : KI n) (hz : SZ z)  : pm_met mX12_isTaken d 0 0 B [.int za, .int zb] cnt (pm_mid σ (md_L B I A n k z ac wt pl (nI p0) (nI t0) im)) (pm_Qi (fun v σ' cnt' => σ' = pm_mid σ (md_L B I A n k z ac wt pl (nI p0) (nI t0) im) ∧ cnt = cnt' ∧ (v = 0 ∨ v = 1))) := by
  refine pm_enter 0 (by decide) (Nat.le_of_ble_eq_true rfl) rfl (fun G hG hR hF => ?_)
  refine pm_iloadn hG dX12_isTaken_0 rfl ?_
  refine pm_iconst (v := nI 0) hG dX12_isTaken_1 (by decide) ?_
  refine pm_iconst (v := nI 4) hG dX12_isTaken_2 (by decide) ?_
  refine pm_callS (As := [.int zb, .int (nI 0), .int (nI 4)]) (rest := []) hG hR dX12_isTaken_3 (lkX12_68 _ rfl) okS_X12_in (m_in (d := 0)) rfl rfl hdd (Nat.le_refl _) (Nat.le_refl _) (by decide) (pm_ki (fun v1 σ' cnt' hq => ?_))
  obtain ⟨hq, rfl, rfl⟩ := hq
  rcases hq with ⟨rfl, ac2, bc2⟩ | ⟨rfl, c2⟩
  · obtain ⟨k3, hk3, ek3⟩ := in_nat (by omega) (by omega) ac2 bc2
    refine pm_ifN_eq (tgt := 22) hG dX12_isTaken_6 rfl (by omega) (fun q => absurd q (by omega)) (fun _ => ?_)
    refine pm_iloadn hG dX12_isTaken_9 rfl ?_
    refine pm_iloadn hG dX12_isTaken_10 rfl ?_
    refine pm_top (v := nI k3) ek3 ?_
    refine pm_ishr hG dX12_isTaken_11 ?_
    refine pm_any (fun x4 => ?_)
    refine pm_iconst (v := nI 1) hG dX12_isTaken_12 (by decide) ?_
    refine pm_iand hG dX12_isTaken_13 ?_
    refine pm_any (fun x5 => ?_)
    refine pm_iconst (v := nI 1) hG dX12_isTaken_14 (by decide) ?_
    refine pm_icmp_ne (tgt := 22) hG dX12_isTaken_15 rfl (fun c6 => ?_) (fun c6 => ?_)
    · refine pm_iconst (v := nI 0) hG dX12_isTaken_22 (by decide) ?_
      exact pm_zret hG hF dX12_isTaken_23 rfl (pm_nz (Or.inl rfl)) (Nat.le_refl _) (Nat.le_refl _) ⟨_, rfl, rfl, rfl, (Or.inl rfl)⟩
    · refine pm_iconst (v := nI 1) hG dX12_isTaken_18 (by decide) ?_
      refine pm_goto (tgt := 23) hG dX12_isTaken_19 rfl ?_
      exact pm_zret hG hF dX12_isTaken_23 rfl (pm_nz (Or.inr rfl)) (Nat.le_refl _) (Nat.le_refl _) ⟨_, rfl, rfl, rfl, (Or.inr rfl)⟩
  · refine pm_ifN_eq (tgt := 22) hG dX12_isTaken_6 rfl (by omega) (fun _ => ?_) (fun q => absurd q (by omega))
    refine pm_iconst (v := nI 0) hG dX12_isTaken_22 (by decide) ?_
    exact pm_zret hG hF dX12_isTaken_23 rfl (pm_nz (Or.inl rfl)) (Nat.le_refl _) (Nat.le_refl _) ⟨_, rfl, rfl, rfl, (Or.inl rfl)⟩

set_option maxRecDepth 100000 in
set_option maxHeartbeats 4000000 in
theorem m_canTake {d B cnt p0 t0 : Nat} {σ : pm_S} {I : Nat → Int32} {A : Nat → Nat → Int32} {n k z : Nat → Int32} {ac wt pl im : Int32} {za zb : Int32} {bc : Nat} (hdd : 2 ≤ d) (hn : KI n) (hz : SZ z) (hbc : bc < 5) : pm_met mX12_canTake d 0 0 B [.ref (B + 54), .int za, .int zb, .int (nI bc)] cnt (pm_mid σ (md_L B I A n k z ac wt pl (nI p0) (nI t0) im)) (pm_Qi (fun v σ' cnt' => σ' = pm_mid σ (md_L B I A n k z ac wt pl (nI p0) (nI t0) im) ∧ cnt = cnt' ∧ (v = 0 ∨ v = 1))) := by
  refine pm_enter 0 (by decide) (Nat.le_of_ble_eq_true rfl) rfl (fun G hG hR hF => ?_)
  refine pm_iloadn hG dX12_canTake_0 rfl ?_
  refine pm_iloadn hG dX12_canTake_1 rfl ?_
  refine pm_callS (As := [.int za, .int (nI bc)]) (rest := []) hG hR dX12_canTake_2 (lkX12_253 _ rfl) okS_X12_isTaken (m_isTaken (d := 1) (by decide) hn hz) rfl rfl hdd (Nat.le_refl _) (Nat.le_refl _) (by decide) (pm_ki (fun v1 σ' cnt' hq => ?_))
  obtain ⟨rfl, rfl, bv1⟩ := hq
  refine pm_if_ne (tgt := 46) hG dX12_canTake_5 rfl (fun c3 => ?_) (fun c3 => ?_)
  · refine pm_iconst (v := nI 0) hG dX12_canTake_46 (by decide) ?_
    exact pm_zret hG hF dX12_canTake_47 rfl (pm_nz (Or.inl rfl)) (Nat.le_refl _) (Nat.le_refl _) ⟨_, rfl, rfl, rfl, (Or.inl rfl)⟩
  · refine pm_iloadn hG dX12_canTake_8 rfl ?_
    refine pm_ifN_eq (tgt := 32) hG dX12_canTake_9 rfl (by omega) (fun c4 => ?_) (fun c4 => ?_)
    · refine pm_iloadn hG dX12_canTake_32 rfl ?_
      refine pm_aloadn hG dX12_canTake_33 rfl ?_
      refine pm_getf hG dX12_canTake_34 (flX12_43 _ rfl) rfl rfl ?_
      refine pm_iloadn hG dX12_canTake_37 rfl ?_
      refine pm_ialdN hG dX12_canTake_38 rfl (by decide) (by omega) ?_
      refine pm_any (fun x5 => ?_)
      refine pm_icmp_le (tgt := 46) hG dX12_canTake_39 rfl (fun c6 => ?_) (fun c6 => ?_)
      · refine pm_iconst (v := nI 0) hG dX12_canTake_46 (by decide) ?_
        exact pm_zret hG hF dX12_canTake_47 rfl (pm_nz (Or.inl rfl)) (Nat.le_refl _) (Nat.le_refl _) ⟨_, rfl, rfl, rfl, (Or.inl rfl)⟩
      · refine pm_iconst (v := nI 1) hG dX12_canTake_42 (by decide) ?_
        refine pm_goto (tgt := 47) hG dX12_canTake_43 rfl ?_
        exact pm_zret hG hF dX12_canTake_47 rfl (pm_nz (Or.inr rfl)) (Nat.le_refl _) (Nat.le_refl _) ⟨_, rfl, rfl, rfl, (Or.inr rfl)⟩
    · refine pm_iloadn hG dX12_canTake_12 rfl ?_
      refine pm_iloadn hG dX12_canTake_13 rfl ?_
      refine pm_iconst (v := nI 1) hG dX12_canTake_14 (by decide) ?_
      obtain ⟨q7, hq7⟩ : ∃ q7 : Nat, bc = 1 + q7 := ⟨bc - (1), by omega⟩
      refine pm_isubN (c := q7) hG dX12_canTake_15 (by omega) ?_
      refine pm_callS (As := [.int za, .int (nI q7)]) (rest := []) hG hR dX12_canTake_16 (lkX12_253 _ rfl) okS_X12_isTaken (m_isTaken (d := 1) (by decide) hn hz) rfl rfl hdd (Nat.le_refl _) (Nat.le_refl _) (by decide) (pm_ki (fun v8 σ' cnt' hq => ?_))
      obtain ⟨rfl, rfl, bv8⟩ := hq
      refine pm_if_ne (tgt := 32) hG dX12_canTake_19 rfl (fun c10 => ?_) (fun c10 => ?_)
      · refine pm_iloadn hG dX12_canTake_32 rfl ?_
        refine pm_aloadn hG dX12_canTake_33 rfl ?_
        refine pm_getf hG dX12_canTake_34 (flX12_43 _ rfl) rfl rfl ?_
        refine pm_iloadn hG dX12_canTake_37 rfl ?_
        refine pm_ialdN hG dX12_canTake_38 rfl (by decide) (by omega) ?_
        refine pm_any (fun x11 => ?_)
        refine pm_icmp_le (tgt := 46) hG dX12_canTake_39 rfl (fun c12 => ?_) (fun c12 => ?_)
        · refine pm_iconst (v := nI 0) hG dX12_canTake_46 (by decide) ?_
          exact pm_zret hG hF dX12_canTake_47 rfl (pm_nz (Or.inl rfl)) (Nat.le_refl _) (Nat.le_refl _) ⟨_, rfl, rfl, rfl, (Or.inl rfl)⟩
        · refine pm_iconst (v := nI 1) hG dX12_canTake_42 (by decide) ?_
          refine pm_goto (tgt := 47) hG dX12_canTake_43 rfl ?_
          exact pm_zret hG hF dX12_canTake_47 rfl (pm_nz (Or.inr rfl)) (Nat.le_refl _) (Nat.le_refl _) ⟨_, rfl, rfl, rfl, (Or.inr rfl)⟩
      · refine pm_iloadn hG dX12_canTake_22 rfl ?_
        refine pm_iloadn hG dX12_canTake_23 rfl ?_
        refine pm_iconst (v := nI 1) hG dX12_canTake_24 (by decide) ?_
        refine pm_iaddN (c := bc + 1) hG dX12_canTake_25 (by omega) ?_
        refine pm_callS (As := [.int za, .int (nI (bc + 1))]) (rest := []) hG hR dX12_canTake_26 (lkX12_253 _ rfl) okS_X12_isTaken (m_isTaken (d := 1) (by decide) hn hz) rfl rfl hdd (Nat.le_refl _) (Nat.le_refl _) (by decide) (pm_ki (fun v13 σ' cnt' hq => ?_))
        obtain ⟨rfl, rfl, bv13⟩ := hq
        refine pm_if_eq (tgt := 46) hG dX12_canTake_29 rfl (fun c15 => ?_) (fun c15 => ?_)
        · refine pm_iconst (v := nI 0) hG dX12_canTake_46 (by decide) ?_
          exact pm_zret hG hF dX12_canTake_47 rfl (pm_nz (Or.inl rfl)) (Nat.le_refl _) (Nat.le_refl _) ⟨_, rfl, rfl, rfl, (Or.inl rfl)⟩
        · refine pm_iloadn hG dX12_canTake_32 rfl ?_
          refine pm_aloadn hG dX12_canTake_33 rfl ?_
          refine pm_getf hG dX12_canTake_34 (flX12_43 _ rfl) rfl rfl ?_
          refine pm_iloadn hG dX12_canTake_37 rfl ?_
          refine pm_ialdN hG dX12_canTake_38 rfl (by decide) (by omega) ?_
          refine pm_any (fun x16 => ?_)
          refine pm_icmp_le (tgt := 46) hG dX12_canTake_39 rfl (fun c17 => ?_) (fun c17 => ?_)
          · refine pm_iconst (v := nI 0) hG dX12_canTake_46 (by decide) ?_
            exact pm_zret hG hF dX12_canTake_47 rfl (pm_nz (Or.inl rfl)) (Nat.le_refl _) (Nat.le_refl _) ⟨_, rfl, rfl, rfl, (Or.inl rfl)⟩
          · refine pm_iconst (v := nI 1) hG dX12_canTake_42 (by decide) ?_
            refine pm_goto (tgt := 47) hG dX12_canTake_43 rfl ?_
            exact pm_zret hG hF dX12_canTake_47 rfl (pm_nz (Or.inr rfl)) (Nat.le_refl _) (Nat.le_refl _) ⟨_, rfl, rfl, rfl, (Or.inr rfl)⟩

set_option maxRecDepth 100000 in
set_option maxHeartbeats 4000000 in
theorem m_cannot {d B cnt p0 t0 : Nat} {σ : pm_S} {I : Nat → Int32} {A : Nat → Nat → Int32} {n k z : Nat → Int32} {ac wt pl im : Int32} {ba c0 c1 : Nat} (hdd : 3 ≤ d) (hn : KI n) (hr : NR n) (hz : SZ z) (hba : ba < 40) (ec0 : n (12 * ba + 1294) = nI c0) (hc0 : c0 < 20) (ec1 : n 5 = nI c1) (hc1 : c1 < 41) (hl5 : ba < c1) : pm_met mX12_cannot d 0 0 B [.ref (B + 54), .int (nI ba)] cnt (pm_mid σ (md_L B I A n k z ac wt pl (nI p0) (nI t0) im)) (pm_Qi (fun v σ' cnt' => (∃ (I' : Nat → Int32) (A' : Nat → Nat → Int32), σ' = pm_mid σ (md_L B I' A' n k z ac wt pl (nI p0) (nI t0) im)) ∧ cnt = cnt' ∧ (v = nI 1 ∨ (v = nI 0 ∧ obOK n ba)))) := by
  refine pm_enter 2 (by decide) (Nat.le_of_ble_eq_true rfl) rfl (fun G hG hR hF => ?_)
  refine pm_aloadn hG dX12_cannot_0 rfl ?_
  refine pm_iloadn hG dX12_cannot_1 rfl ?_
  refine pm_iconst (v := nI 4) hG dX12_cannot_2 (by decide) ?_
  refine pm_callV (As := [.int (nI ba), .int (nI 4)]) (rest := []) hG hR dX12_cannot_3 (lkX12_199 _ rfl) okV_X12_of rfl rfl (m_of (d := 2) (e := 12 * ba + 1294) (by omega) (by omega) (by omega)) rfl rfl hdd (Nat.le_refl _) (Nat.le_refl _) (by decide) (pm_ki (fun v1 σ' cnt' hq => ?_))
  obtain ⟨rfl, rfl, rfl⟩ := hq
  refine pm_top (v := nI c0) ec0 ?_
  refine pm_istoreXn (loc' := [some (.ref (B + 54)), some (.int (nI ba)), some (.int (nI c0)), none]) hG dX12_cannot_6 (by decide) (pm_c1b rfl) rfl ?_
  refine pm_aloadn hG dX12_cannot_7 rfl ?_
  refine pm_iloadn hG dX12_cannot_8 rfl ?_
  refine pm_iconst (v := nI 2) hG dX12_cannot_9 (by decide) ?_
  refine pm_callV (As := [.int (nI ba), .int (nI 2)]) (rest := []) hG hR dX12_cannot_10 (lkX12_199 _ rfl) okV_X12_of rfl rfl (m_of (d := 2) (e := 12 * ba + 1292) (by omega) (by omega) (by omega)) rfl rfl hdd (Nat.le_refl _) (Nat.le_refl _) (by decide) (pm_ki (fun v2 σ' cnt' hq => ?_))
  obtain ⟨rfl, rfl, rfl⟩ := hq
  obtain ⟨k3, hk3, ek3⟩ := KI.nat hn (show kd (12 * ba + 1292) = (1, 1000, false) from (kd_E (k := ba) (c := 2) (by omega) (by omega) (by decide)))
  refine pm_top (v := nI k3) ek3 ?_
  refine pm_istoreXn (loc' := [some (.ref (B + 54)), some (.int (nI ba)), some (.int (nI c0)), some (.int (nI k3))]) hG dX12_cannot_13 (by decide) (pm_c1b rfl) rfl ?_
  refine pm_aloadn hG dX12_cannot_14 rfl ?_
  refine pm_iloadn hG dX12_cannot_15 rfl ?_
  refine pm_iconst (v := nI 1) hG dX12_cannot_16 (by decide) ?_
  refine pm_callV (As := [.int (nI ba), .int (nI 1)]) (rest := []) hG hR dX12_cannot_17 (lkX12_199 _ rfl) okV_X12_of rfl rfl (m_of (d := 2) (e := 12 * ba + 1291) (by omega) (by omega) (by omega)) rfl rfl hdd (Nat.le_refl _) (Nat.le_refl _) (by decide) (pm_ki (fun v4 σ' cnt' hq => ?_))
  obtain ⟨rfl, rfl, rfl⟩ := hq
  refine pm_gen (fun x5 ex5 => ?_)
  by_cases c6 : x5 = nI 0
  · refine pm_top (v := nI 0) c6 ?_
    refine pm_tswIn (tgt := 52) hG dX12_cannot_20 (by decide) (by decide) rfl rfl ?_
    refine pm_aloadn hG dX12_cannot_52 rfl ?_
    refine pm_getf hG dX12_cannot_53 (flX12_7 _ rfl) rfl rfl ?_
    refine pm_bipush (v := nI 9) hG dX12_cannot_56 (by decide) ?_
    refine pm_ialdN hG dX12_cannot_58 rfl (by decide) (by omega) ?_
    refine pm_gen (fun x7 ex7 => ?_)
    refine pm_iloadn hG dX12_cannot_59 rfl ?_
    refine pm_icmp_ge (tgt := 67) hG dX12_cannot_60 rfl (fun c8 => ?_) (fun c8 => ?_)
    · refine pm_iconst (v := nI 0) hG dX12_cannot_67 (by decide) ?_
      refine pm_zret hG hF dX12_cannot_68 rfl (by rfl) (Nat.le_refl _) (Nat.le_refl _) ⟨_, rfl, ⟨_, _, rfl⟩, rfl, Or.inr ⟨rfl, fun hs => ?_, fun hs => ?_⟩⟩
      · exact absurd (c6.symm.trans (ex5.symm.trans hs)) (by decide)
      · exact absurd (c6.symm.trans (ex5.symm.trans hs)) (by decide)
    · refine pm_iconst (v := nI 1) hG dX12_cannot_63 (by decide) ?_
      refine pm_goto (tgt := 68) hG dX12_cannot_64 rfl ?_
      exact pm_zret hG hF dX12_cannot_68 rfl (by rfl) (Nat.le_refl _) (Nat.le_refl _) ⟨_, rfl, ⟨_, _, rfl⟩, rfl, Or.inl rfl⟩
  by_cases c9 : x5 = nI 1
  · refine pm_top (v := nI 1) c9 ?_
    refine pm_tswIn (tgt := 69) hG dX12_cannot_20 (by decide) (by decide) rfl rfl ?_
    refine pm_aloadn hG dX12_cannot_69 rfl ?_
    refine pm_iloadn hG dX12_cannot_70 rfl ?_
    refine pm_iconst (v := nI 4) hG dX12_cannot_71 (by decide) ?_
    refine pm_callV (As := [.int (nI c0), .int (nI 4)]) (rest := []) hG hR dX12_cannot_72 (lkX12_72 _ rfl) okV_X12_man rfl rfl (m_man (d := 2) (e := 14 * c0 + 114) (by omega) (by omega) (by omega)) rfl rfl hdd (Nat.le_refl _) (Nat.le_refl _) (by decide) (pm_ki (fun v10 σ' cnt' hq => ?_))
    obtain ⟨rfl, rfl, rfl⟩ := hq
    rcases KI.opt hn (show kd (14 * c0 + 114) = (2, 10, false) from (kd_P (k := c0) (c := 4) (by omega) (by omega) (by decide))) with ek11 | ⟨k11, hk11, ek11⟩
    · refine pm_top (v := (-1)) ek11 ?_
      refine pm_if_lt (tgt := 99) hG dX12_cannot_75 rfl (fun _ => ?_) (fun q => absurd q (by decide))
      refine pm_iconst (v := nI 1) hG dX12_cannot_99 (by decide) ?_
      refine pm_goto (tgt := 104) hG dX12_cannot_100 rfl ?_
      exact pm_zret hG hF dX12_cannot_104 rfl (by rfl) (Nat.le_refl _) (Nat.le_refl _) ⟨_, rfl, ⟨_, _, rfl⟩, rfl, Or.inl rfl⟩
    · refine pm_top (v := nI k11) ek11 ?_
      refine pm_ifN_lt hG dX12_cannot_75 rfl (by omega) ?_
      refine pm_aloadn hG dX12_cannot_78 rfl ?_
      refine pm_aloadn hG dX12_cannot_79 rfl ?_
      refine pm_iloadn hG dX12_cannot_80 rfl ?_
      refine pm_iconst (v := nI 4) hG dX12_cannot_81 (by decide) ?_
      refine pm_callV (As := [.int (nI c0), .int (nI 4)]) (rest := [.ref (B + 54)]) hG hR dX12_cannot_82 (lkX12_72 _ rfl) okV_X12_man rfl rfl (m_man (d := 2) (e := 14 * c0 + 114) (by omega) (by omega) (by omega)) rfl rfl hdd (Nat.le_refl _) (Nat.le_refl _) (Nat.le_of_ble_eq_true rfl) (pm_ki (fun v12 σ' cnt' hq => ?_))
      obtain ⟨rfl, rfl, rfl⟩ := hq
      refine pm_top (v := nI k11) ek11 ?_
      obtain ⟨k13, hk13, ek13⟩ := NRx.someL hn ec1 (by omega) hr
      refine pm_iloadn hG dX12_cannot_85 rfl ?_
      refine pm_aloadn hG dX12_cannot_86 rfl ?_
      refine pm_getf hG dX12_cannot_87 (flX12_7 _ rfl) rfl rfl ?_
      refine pm_iconst (v := nI 0) hG dX12_cannot_90 (by decide) ?_
      refine pm_ialdN hG dX12_cannot_91 rfl (by decide) (by omega) ?_
      refine pm_top (v := nI k13) ek13 ?_
      refine pm_iremN hG dX12_cannot_92 (by omega) (by omega) (by omega) (fun r14 hr14 _ => ?_)
      refine pm_callV (As := [.int (nI k11), .int (nI r14)]) (rest := []) hG hR dX12_cannot_93 (lkX12_88 _ rfl) okV_X12_farOf rfl rfl (m_farOf (d := 2) (by decide) hn hz (by omega)) rfl rfl hdd (Nat.le_refl _) (Nat.le_refl _) (by decide) (pm_ki (fun v15 σ' cnt' hq => ?_))
      obtain ⟨⟨I16, A16, rfl⟩, rfl⟩ := hq
      refine pm_if_ge (tgt := 103) hG dX12_cannot_96 rfl (fun c17 => ?_) (fun c17 => ?_)
      · obtain ⟨k18, hk18, ek18⟩ := nI_of (Int32.not_lt.mpr c17)
        refine pm_iconst (v := nI 0) hG dX12_cannot_103 (by decide) ?_
        refine pm_zret hG hF dX12_cannot_104 rfl (by rfl) (Nat.le_refl _) (Nat.le_refl _) ⟨_, rfl, ⟨_, _, rfl⟩, rfl, Or.inr ⟨rfl, fun hs => ?_, fun hs => ?_⟩⟩
        · exact absurd (c9.symm.trans (ex5.symm.trans hs)) (by decide)
        · exact absurd (c9.symm.trans (ex5.symm.trans hs)) (by decide)
      · refine pm_iconst (v := nI 1) hG dX12_cannot_99 (by decide) ?_
        refine pm_goto (tgt := 104) hG dX12_cannot_100 rfl ?_
        exact pm_zret hG hF dX12_cannot_104 rfl (by rfl) (Nat.le_refl _) (Nat.le_refl _) ⟨_, rfl, ⟨_, _, rfl⟩, rfl, Or.inl rfl⟩
  by_cases c19 : x5 = nI 2
  · refine pm_top (v := nI 2) c19 ?_
    refine pm_tswIn (tgt := 105) hG dX12_cannot_20 (by decide) (by decide) rfl rfl ?_
    refine pm_aloadn hG dX12_cannot_105 rfl ?_
    refine pm_iloadn hG dX12_cannot_106 rfl ?_
    obtain ⟨k20, hk20, ek20⟩ := KI.nat hn (show kd 3 = (1, 21, false) by decide)
    refine pm_callV (As := [.int (nI k3)]) (rest := []) hG hR dX12_cannot_107 (lkX12_132 _ rfl) okV_X12_isPower rfl rfl (m_isPower (d := 2) (by decide) ek20 (by omega)) rfl rfl hdd (Nat.le_refl _) (Nat.le_refl _) (by decide) (pm_ki (fun v21 σ' cnt' hq => ?_))
    obtain ⟨hq, rfl, rfl⟩ := hq
    rcases hq with ⟨rfl, k23, hk23, ek23⟩ | rfl
    · have gk23 := nI_inj (by omega) (by omega) ek23
      refine pm_ifN_ne (tgt := 117) hG dX12_cannot_110 rfl (by omega) (fun _ => ?_) (fun q => absurd q (by omega))
      refine pm_iconst (v := nI 0) hG dX12_cannot_117 (by decide) ?_
      refine pm_zret hG hF dX12_cannot_118 rfl (by rfl) (Nat.le_refl _) (Nat.le_refl _) ⟨_, rfl, ⟨_, _, rfl⟩, rfl, Or.inr ⟨rfl, fun hs => ?_, fun hs => ?_⟩⟩
      · exact ⟨k3, by omega, ek3⟩
      · exact absurd (c19.symm.trans (ex5.symm.trans hs)) (by decide)
    · refine pm_ifN_ne (tgt := 117) hG dX12_cannot_110 rfl (by omega) (fun q => absurd q (by omega)) (fun _ => ?_)
      refine pm_iconst (v := nI 1) hG dX12_cannot_113 (by decide) ?_
      refine pm_goto (tgt := 118) hG dX12_cannot_114 rfl ?_
      exact pm_zret hG hF dX12_cannot_118 rfl (by rfl) (Nat.le_refl _) (Nat.le_refl _) ⟨_, rfl, ⟨_, _, rfl⟩, rfl, Or.inl rfl⟩
  by_cases c24 : x5 = nI 3
  · refine pm_top (v := nI 3) c24 ?_
    refine pm_tswIn (tgt := 119) hG dX12_cannot_20 (by decide) (by decide) rfl rfl ?_
    refine pm_aloadn hG dX12_cannot_119 rfl ?_
    refine pm_iloadn hG dX12_cannot_120 rfl ?_
    obtain ⟨k25, hk25, ek25⟩ := KI.nat hn (show kd 4 = (1, 13, false) by decide)
    refine pm_callV (As := [.int (nI k3)]) (rest := []) hG hR dX12_cannot_121 (lkX12_192 _ rfl) okV_X12_isLaw rfl rfl (m_isLaw (d := 2) (by decide) ek25 (by omega)) rfl rfl hdd (Nat.le_refl _) (Nat.le_refl _) (by decide) (pm_ki (fun v26 σ' cnt' hq => ?_))
    obtain ⟨hq, rfl, rfl⟩ := hq
    rcases hq with ⟨rfl, k28, hk28, ek28⟩ | rfl
    · have gk28 := nI_inj (by omega) (by omega) ek28
      refine pm_ifN_eq (tgt := 145) hG dX12_cannot_124 rfl (by omega) (fun q => absurd q (by omega)) (fun _ => ?_)
      refine pm_aloadn hG dX12_cannot_127 rfl ?_
      refine pm_getf hG dX12_cannot_128 (flX12_7 _ rfl) rfl rfl ?_
      refine pm_sipush (v := nI 510) hG dX12_cannot_131 (by decide) ?_
      refine pm_bipush (v := nI 65) hG dX12_cannot_134 (by decide) ?_
      refine pm_iloadn hG dX12_cannot_136 rfl ?_
      refine pm_imulN (c := 65 * k3) hG dX12_cannot_137 (by omega) ?_
      refine pm_iaddN (c := 65 * k3 + 510) hG dX12_cannot_138 (by omega) ?_
      refine pm_iconst (v := nI 3) hG dX12_cannot_139 (by decide) ?_
      refine pm_iaddN (c := 65 * k3 + 513) hG dX12_cannot_140 (by omega) ?_
      refine pm_ialdN hG dX12_cannot_141 rfl (by decide) (by omega) ?_
      refine pm_gen (fun x29 ex29 => ?_)
      refine pm_if_lt (tgt := 149) hG dX12_cannot_142 rfl (fun c30 => ?_) (fun c30 => ?_)
      · refine pm_iconst (v := nI 0) hG dX12_cannot_149 (by decide) ?_
        refine pm_zret hG hF dX12_cannot_150 rfl (by rfl) (Nat.le_refl _) (Nat.le_refl _) ⟨_, rfl, ⟨_, _, rfl⟩, rfl, Or.inr ⟨rfl, fun hs => ?_, fun hs => ?_⟩⟩
        · exact absurd (c24.symm.trans (ex5.symm.trans hs)) (by decide)
        · exact ⟨k3, by omega, ek3⟩
      · obtain ⟨k31, hk31, ek31⟩ := nI_of c30
        refine pm_iconst (v := nI 1) hG dX12_cannot_145 (by decide) ?_
        refine pm_goto (tgt := 150) hG dX12_cannot_146 rfl ?_
        exact pm_zret hG hF dX12_cannot_150 rfl (by rfl) (Nat.le_refl _) (Nat.le_refl _) ⟨_, rfl, ⟨_, _, rfl⟩, rfl, Or.inl rfl⟩
    · refine pm_ifN_eq (tgt := 145) hG dX12_cannot_124 rfl (by omega) (fun _ => ?_) (fun q => absurd q (by omega))
      refine pm_iconst (v := nI 1) hG dX12_cannot_145 (by decide) ?_
      refine pm_goto (tgt := 150) hG dX12_cannot_146 rfl ?_
      exact pm_zret hG hF dX12_cannot_150 rfl (by rfl) (Nat.le_refl _) (Nat.le_refl _) ⟨_, rfl, ⟨_, _, rfl⟩, rfl, Or.inl rfl⟩
  have tc6 : ¬ x5.toInt = 0 := fun q => c6 (Int32.toInt_inj.mp (q.trans (by decide)))
  have tc9 : ¬ x5.toInt = 1 := fun q => c9 (Int32.toInt_inj.mp (q.trans (by decide)))
  have tc19 : ¬ x5.toInt = 2 := fun q => c19 (Int32.toInt_inj.mp (q.trans (by decide)))
  have tc24 : ¬ x5.toInt = 3 := fun q => c24 (Int32.toInt_inj.mp (q.trans (by decide)))
  refine pm_tswOut (tgt := 151) hG dX12_cannot_20 (by omega) rfl ?_
  refine pm_iconst (v := nI 0) hG dX12_cannot_151 (by decide) ?_
  refine pm_zret hG hF dX12_cannot_152 rfl (by rfl) (Nat.le_refl _) (Nat.le_refl _) ⟨_, rfl, ⟨_, _, rfl⟩, rfl, Or.inr ⟨rfl, fun hs => ?_, fun hs => ?_⟩⟩
  · exact absurd (congrArg Int32.toInt (ex5.symm.trans hs)) tc19
  · exact absurd (congrArg Int32.toInt (ex5.symm.trans hs)) tc24
