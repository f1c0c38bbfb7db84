set_option maxRecDepth 100000 in
set_option maxHeartbeats 4000000 in
theorem m_put {d B cnt p0 t0 : Nat} {σ : pm_S} {I : Nat → Int32} {A : Nat → Nat → Int32} {n k z : Nat → Int32} {ac wt pl im : Int32} {y : Nat → Int32} {za zb zc : Int32} (hdd : 2 ≤ d) (hn : KI n) (hz : SZ z)  : pm_met mX12_put d 0 0 B [.ref (B + 54), .int za, .int zb, .int zc] cnt (pm_mid σ (md_L B I A n k z ac wt pl (nI p0) (nI t0) im y)) (pm_Qi (fun v σ' cnt' => (∃ (I' : Nat → Int32) (A' : Nat → Nat → Int32), σ' = pm_mid σ (md_L B I' A' n k z ac wt pl (nI p0) (nI t0) im y) ∧ v = vP za zb (vbx y za) (vbx z za)) ∧ cnt = cnt')) := by
  refine pm_enter 0 (by decide) (Nat.le_of_ble_eq_true rfl) rfl (fun G hG hR hF => ?_)
  refine pm_iloadn hG dX12_put_0 rfl ?_
  refine pm_callS (As := [.int za]) (rest := []) hG hR dX12_put_1 (lkX12_239 _ rfl) okS_X12_isSheet (m_isSheet (d := 1) (by decide)) rfl rfl hdd (Nat.le_refl _) (Nat.le_refl _) (by decide) (pm_ki (fun v1 σ' cnt' hq => ?_))
  obtain ⟨hq, rfl, rfl⟩ := hq
  rcases hq with ⟨rfl, ac2, bc2⟩ | ⟨rfl, c2⟩
  · obtain ⟨k3, hk3, ek3⟩ := in_nat (by omega) (by omega) ac2 bc2
    refine pm_ifN_ne (tgt := 13) hG dX12_put_4 rfl (by omega) (fun _ => ?_) (fun q => absurd q (by omega))
    refine pm_aloadn hG dX12_put_13 rfl ?_
    refine pm_getf hG dX12_put_14 (flX12_55 _ rfl) rfl rfl ?_
    refine pm_iloadn hG dX12_put_17 rfl ?_
    refine pm_top (v := nI k3) ek3 ?_
    refine pm_ialdN hG dX12_put_18 rfl (by decide) (by omega) ?_
    refine pm_gen (fun x4 ex4 => ?_)
    refine pm_if_ne (tgt := 28) hG dX12_put_19 rfl (fun c5 => ?_) (fun c5 => ?_)
    · refine pm_iloadn hG dX12_put_28 rfl ?_
      refine pm_iconst (v := nI 0) hG dX12_put_29 (by decide) ?_
      refine pm_aloadn hG dX12_put_30 rfl ?_
      refine pm_getf hG dX12_put_31 (flX12_58 _ rfl) rfl rfl ?_
      refine pm_iloadn hG dX12_put_34 rfl ?_
      refine pm_top (v := nI k3) ek3 ?_
      refine pm_ialdN hG dX12_put_35 rfl (by decide) (by omega) ?_
      obtain ⟨k6, hk6, ek6⟩ := hz k3 (by omega)
      refine pm_top (v := nI k6) ek6 ?_
      refine pm_iconst (v := nI 1) hG dX12_put_36 (by decide) ?_
      refine pm_isub hG dX12_put_37 ?_
      refine pm_callS (As := [.int zb, .int (nI 0), .int ((nI k6) - (nI 1))]) (rest := []) hG hR dX12_put_38 (lkX12_68 _ rfl) okS_X12_in (m_in (d := 1)) rfl rfl hdd (Nat.le_refl _) (Nat.le_refl _) (by decide) (pm_ki (fun v7 σ' cnt' hq => ?_))
      obtain ⟨hq, rfl, rfl⟩ := hq
      rcases hq with ⟨rfl, ac8, bc8⟩ | ⟨rfl, c8⟩
      · obtain ⟨k9, hk9, ek9⟩ := in_cnt (c := k6) (by omega) ac8 bc8
        refine pm_ifN_ne (tgt := 50) hG dX12_put_41 rfl (by omega) (fun _ => ?_) (fun q => absurd q (by omega))
        refine pm_aloadn hG dX12_put_50 rfl ?_
        refine pm_getf hG dX12_put_51 (flX12_61 _ rfl) rfl rfl ?_
        refine pm_bipush (v := nI 24) hG dX12_put_54 (by decide) ?_
        refine pm_iloadn hG dX12_put_56 rfl ?_
        refine pm_top (v := nI k3) ek3 ?_
        refine pm_imulN (c := 24 * k3) hG dX12_put_57 (by omega) ?_
        refine pm_iloadn hG dX12_put_58 rfl ?_
        refine pm_top (v := nI k9) ek9 ?_
        refine pm_iaddN (c := 24 * k3 + k9) hG dX12_put_59 (by omega) ?_
        refine pm_aloadn hG dX12_put_60 rfl ?_
        refine pm_getf hG dX12_put_61 (flX12_55 _ rfl) rfl rfl ?_
        refine pm_iloadn hG dX12_put_64 rfl ?_
        refine pm_top (v := nI k3) ek3 ?_
        refine pm_ialdN hG dX12_put_65 rfl (by decide) (by omega) ?_
        refine pm_top (v := x4) ex4 ?_
        refine pm_bipush (v := nI 8) hG dX12_put_66 (by decide) ?_
        refine pm_icmp_ne (tgt := 76) hG dX12_put_68 rfl (fun c10 => ?_) (fun c10 => ?_)
        · refine pm_aloadn hG dX12_put_76 rfl ?_
          refine pm_getf hG dX12_put_77 (flX12_55 _ rfl) rfl rfl ?_
          refine pm_iloadn hG dX12_put_80 rfl ?_
          refine pm_top (v := nI k3) ek3 ?_
          refine pm_ialdN hG dX12_put_81 rfl (by decide) (by omega) ?_
          refine pm_top (v := x4) ex4 ?_
          refine pm_bipush (v := nI 16) hG dX12_put_82 (by decide) ?_
          refine pm_icmp_ne (tgt := 92) hG dX12_put_84 rfl (fun c11 => ?_) (fun c11 => ?_)
          · refine pm_iloadn hG dX12_put_92 rfl ?_
            refine pm_iastN hG dX12_put_93 rfl (by decide) (by omega) ?_
            refine mdn_sheets (fun A_12 => ?_)
            refine pm_iconst (v := nI 1) hG dX12_put_94 (by decide) ?_
            exact pm_iret hG hF dX12_put_95 rfl (Nat.le_refl _) (Nat.le_refl _) ⟨_, rfl, ⟨_, _, rfl, (vP_d (fun q => q.elim ac2 bc2) (fun q => c5 (((vbx_k ek3 (by omega)).trans ex4).symm.trans q)) (sz_in ((vbx_k ek3 (by omega)).trans ek6) ek9 (by omega) (by omega))).symm⟩, rfl⟩
          · refine pm_iloadn hG dX12_put_87 rfl ?_
            refine pm_i2s hG dX12_put_88 rfl ?_
            refine pm_any (fun x13 => ?_)
            refine pm_goto (tgt := 93) hG dX12_put_89 rfl ?_
            refine pm_iastN hG dX12_put_93 rfl (by decide) (by omega) ?_
            refine mdn_sheets (fun A_14 => ?_)
            refine pm_iconst (v := nI 1) hG dX12_put_94 (by decide) ?_
            exact pm_iret hG hF dX12_put_95 rfl (Nat.le_refl _) (Nat.le_refl _) ⟨_, rfl, ⟨_, _, rfl, (vP_d (fun q => q.elim ac2 bc2) (fun q => c5 (((vbx_k ek3 (by omega)).trans ex4).symm.trans q)) (sz_in ((vbx_k ek3 (by omega)).trans ek6) ek9 (by omega) (by omega))).symm⟩, rfl⟩
        · refine pm_iloadn hG dX12_put_71 rfl ?_
          refine pm_i2b hG dX12_put_72 rfl ?_
          refine pm_any (fun x15 => ?_)
          refine pm_goto (tgt := 93) hG dX12_put_73 rfl ?_
          refine pm_iastN hG dX12_put_93 rfl (by decide) (by omega) ?_
          refine mdn_sheets (fun A_16 => ?_)
          refine pm_iconst (v := nI 1) hG dX12_put_94 (by decide) ?_
          exact pm_iret hG hF dX12_put_95 rfl (Nat.le_refl _) (Nat.le_refl _) ⟨_, rfl, ⟨_, _, rfl, (vP_d (fun q => q.elim ac2 bc2) (fun q => c5 (((vbx_k ek3 (by omega)).trans ex4).symm.trans q)) (sz_in ((vbx_k ek3 (by omega)).trans ek6) ek9 (by omega) (by omega))).symm⟩, rfl⟩
      · refine pm_ifN_ne (tgt := 50) hG dX12_put_41 rfl (by omega) (fun q => absurd q (by omega)) (fun _ => ?_)
        refine pm_aloadn hG dX12_put_44 rfl ?_
        refine pm_iconst (v := nI 1) hG dX12_put_45 (by decide) ?_
        refine pm_callV (As := [.int (nI 1)]) (rest := []) hG hR dX12_put_46 (lkX12_80 _ rfl) okV_X12_finds rfl rfl (m_finds (d := 1) (by decide) hn hz (by omega)) rfl rfl hdd (Nat.le_refl _) (Nat.le_refl _) (by decide) (pm_ki (fun v17 σ' cnt' hq => ?_))
        obtain ⟨⟨I18, A18, rfl⟩, rfl, fv17⟩ := hq
        exact pm_iret hG hF dX12_put_49 rfl (Nat.le_refl _) (Nat.le_refl _) ⟨_, rfl, ⟨_, _, rfl, fv17.trans ((by decide : (-1000000 : Int32) - nI 1 = -1000001).trans (vP_c (fun q => q.elim ac2 bc2) (fun q => c5 (((vbx_k ek3 (by omega)).trans ex4).symm.trans q)) (sz_out ((vbx_k ek3 (by omega)).trans ek6) (by omega) c8)).symm)⟩, rfl⟩
    · refine pm_aloadn hG dX12_put_22 rfl ?_
      refine pm_iconst (v := nI 2) hG dX12_put_23 (by decide) ?_
      refine pm_callV (As := [.int (nI 2)]) (rest := []) hG hR dX12_put_24 (lkX12_80 _ rfl) okV_X12_finds rfl rfl (m_finds (d := 1) (by decide) hn hz (by omega)) rfl rfl hdd (Nat.le_refl _) (Nat.le_refl _) (by decide) (pm_ki (fun v19 σ' cnt' hq => ?_))
      obtain ⟨⟨I20, A20, rfl⟩, rfl, fv19⟩ := hq
      exact pm_iret hG hF dX12_put_27 rfl (Nat.le_refl _) (Nat.le_refl _) ⟨_, rfl, ⟨_, _, rfl, fv19.trans ((by decide : (-1000000 : Int32) - nI 2 = -1000002).trans (vP_b (fun q => q.elim ac2 bc2) (((vbx_k ek3 (by omega)).trans ex4).trans c5)).symm)⟩, rfl⟩
  · refine pm_ifN_ne (tgt := 13) hG dX12_put_4 rfl (by omega) (fun q => absurd q (by omega)) (fun _ => ?_)
    refine pm_aloadn hG dX12_put_7 rfl ?_
    refine pm_iconst (v := nI 1) hG dX12_put_8 (by decide) ?_
    refine pm_callV (As := [.int (nI 1)]) (rest := []) hG hR dX12_put_9 (lkX12_80 _ rfl) okV_X12_finds rfl rfl (m_finds (d := 1) (by decide) hn hz (by omega)) rfl rfl hdd (Nat.le_refl _) (Nat.le_refl _) (by decide) (pm_ki (fun v21 σ' cnt' hq => ?_))
    obtain ⟨⟨I22, A22, rfl⟩, rfl, fv21⟩ := hq
    exact pm_iret hG hF dX12_put_12 rfl (Nat.le_refl _) (Nat.le_refl _) ⟨_, rfl, ⟨_, _, rfl, fv21.trans ((by decide : (-1000000 : Int32) - nI 1 = -1000001).trans (vP_a c2).symm)⟩, rfl⟩
