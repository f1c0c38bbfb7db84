set_option maxRecDepth 100000 in
set_option maxHeartbeats 4000000 in
theorem m_sheet {d B cnt p0 t0 : Nat} {σ : pm_S} {I : Nat → Int32} {A : Nat → Nat → Int32} {n k z : Nat → Int32} {ac wt pl im : Int32} {y : Nat → Int32} {za zb zc : Int32} (hdd : 2 ≤ d) (hn : KI n) (hz : SZ z)  : pm_met mX12_sheet d 0 0 B [.ref (B + 54), .int za, .int zb, .int zc] cnt (pm_mid σ (md_L B I A n k z ac wt pl (nI p0) (nI t0) im y)) (pm_Qi (fun v σ' cnt' => (∃ (I' : Nat → Int32) (A' : Nat → Nat → Int32) (z' : Nat → Int32) (y' : Nat → Int32), σ' = pm_mid σ (md_L B I' A' n k z' ac wt pl (nI p0) (nI t0) im y') ∧ SZ z' ∧ y' = tY y za zb zc ∧ z' = tZ z za zb zc) ∧ cnt = cnt' ∧ v = vS za zb zc)) := by
  refine pm_enter 1 (by decide) (Nat.le_of_ble_eq_true rfl) rfl (fun G hG hR hF => ?_)
  refine pm_iloadn hG dX12_sheet_0 rfl ?_
  refine pm_callS (As := [.int za]) (rest := []) hG hR dX12_sheet_1 (lkX12_239 _ rfl) okS_X12_isSheet (m_isSheet (d := 1) (by decide)) rfl rfl hdd (Nat.le_refl _) (Nat.le_refl _) (by decide) (pm_ki (fun v1 σ' cnt' hq => ?_))
  obtain ⟨hq, rfl, rfl⟩ := hq
  rcases hq with ⟨rfl, ac2, bc2⟩ | ⟨rfl, c2⟩
  · obtain ⟨k3, hk3, ek3⟩ := in_nat (by omega) (by omega) ac2 bc2
    refine pm_ifN_eq (tgt := 29) hG dX12_sheet_4 rfl (by omega) (fun q => absurd q (by omega)) (fun _ => ?_)
    refine pm_iloadn hG dX12_sheet_7 rfl ?_
    refine pm_if_eq (tgt := 35) hG dX12_sheet_8 rfl (fun c4 => ?_) (fun c4 => ?_)
    · refine pm_iloadn hG dX12_sheet_35 rfl ?_
      refine pm_top (v := nI 0) c4 ?_
      refine pm_ifN_eq (tgt := 49) hG dX12_sheet_36 rfl (by omega) (fun _ => ?_) (fun q => absurd q (by omega))
      refine pm_iloadn hG dX12_sheet_49 rfl ?_
      refine pm_top (v := nI 0) c4 ?_
      refine pm_ifN_eq (tgt := 65) hG dX12_sheet_50 rfl (by omega) (fun _ => ?_) (fun q => absurd q (by omega))
      refine pm_aloadn hG dX12_sheet_65 rfl ?_
      refine pm_getf hG dX12_sheet_66 (flX12_55 _ rfl) rfl rfl ?_
      refine pm_iloadn hG dX12_sheet_69 rfl ?_
      refine pm_top (v := nI k3) ek3 ?_
      refine pm_iloadn hG dX12_sheet_70 rfl ?_
      refine pm_top (v := nI 0) c4 ?_
      refine pm_iastN hG dX12_sheet_71 rfl (by decide) (by omega) ?_
      refine mdn_bitsOf (fun y_5 ey_5 => ?_)
      refine pm_aloadn hG dX12_sheet_72 rfl ?_
      refine pm_getf hG dX12_sheet_73 (flX12_58 _ rfl) rfl rfl ?_
      refine pm_iloadn hG dX12_sheet_76 rfl ?_
      refine pm_top (v := nI k3) ek3 ?_
      refine pm_iloadn hG dX12_sheet_77 rfl ?_
      refine pm_top (v := nI 0) c4 ?_
      refine pm_ifN_ne (tgt := 85) hG dX12_sheet_78 rfl (by omega) (fun q => absurd q (by omega)) (fun _ => ?_)
      refine pm_iconst (v := nI 0) hG dX12_sheet_81 (by decide) ?_
      refine pm_goto (tgt := 86) hG dX12_sheet_82 rfl ?_
      refine pm_iastN hG dX12_sheet_86 rfl (by decide) (by omega) ?_
      refine mdn_sizeOf (fun z_6 ez_6 => ?_)
      have hz_6 := SZ.w ez_6 hz (by omega : 0 < 25)
      refine pm_iconst (v := nI 0) hG dX12_sheet_87 (by decide) ?_
      refine pm_istoreXi (loc' := [some (.ref (B + 54)), some (.int za), some (.int zb), some (.int zc), some (.int (nI 0))]) hG dX12_sheet_88 (by decide) (pm_c1b rfl) rfl ?_
      have loop90_7 : ∀ (m7 : Nat) (I7 : Nat → Int32) (A7 : Nat → Nat → Int32) (i7 : Nat), i7 ≤ 24 → 24 - i7 < m7 → pm_wp mX12_sheet G B 90 [some (.ref (B + 54)), some (.int za), some (.int zb), some (.int zc), some (.int (nI i7))] [] 0 0 cnt (pm_mid σ (md_L B I7 A7 n k z_6 ac wt pl (nI p0) (nI t0) im y_5)) := by
        intro m7
        induction m7 with
        | zero => intro I7 A7 i7 _ hm; exact absurd hm (Nat.not_lt_zero _)
        | succ m7 ih7 =>
          intro I7 A7 i7 hi7 hm7
          refine pm_iloadi hG dX12_sheet_90 rfl ?_
          refine pm_bipush (v := nI 24) hG dX12_sheet_92 (by decide) ?_
          refine pm_icmpN_ge (tgt := 116) hG dX12_sheet_94 rfl (by omega) (by omega) (fun c8 => ?_) (fun c8 => ?_)
          · refine pm_iconst (v := nI 1) hG dX12_sheet_116 (by decide) ?_
            exact pm_iret hG hF dX12_sheet_117 rfl (Nat.le_refl _) (Nat.le_refl _) ⟨_, rfl, ⟨_, _, _, _, rfl, hz_6, ⟨ey_5.trans (tY_y ((vS_f (fun q => q.elim ac2 bc2) c4).symm).symm ek3 (by omega) c4), ez_6.trans (tZ_0 ((vS_f (fun q => q.elim ac2 bc2) c4).symm).symm ek3 (by omega) c4)⟩⟩, rfl, (vS_f (fun q => q.elim ac2 bc2) c4).symm⟩
          · refine pm_aloadn hG dX12_sheet_97 rfl ?_
            refine pm_getf hG dX12_sheet_98 (flX12_61 _ rfl) rfl rfl ?_
            refine pm_bipush (v := nI 24) hG dX12_sheet_101 (by decide) ?_
            refine pm_iloadn hG dX12_sheet_103 rfl ?_
            refine pm_top (v := nI k3) ek3 ?_
            refine pm_imulN (c := 24 * k3) hG dX12_sheet_104 (by omega) ?_
            refine pm_iloadi hG dX12_sheet_105 rfl ?_
            refine pm_iaddN (c := i7 + 24 * k3) hG dX12_sheet_107 (by omega) ?_
            refine pm_iconst (v := nI 0) hG dX12_sheet_108 (by decide) ?_
            refine pm_iastN hG dX12_sheet_109 rfl (by decide) (by omega) ?_
            refine mdn_sheets (fun A_9 => ?_)
            refine pm_iincX (v := nI (i7 + 1)) (loc' := [some (.ref (B + 54)), some (.int za), some (.int zb), some (.int zc), some (.int (nI (i7 + 1)))]) hG dX12_sheet_110 rfl (nI_1 _) (by decide) (pm_c1b rfl) rfl ?_
            refine pm_goto (tgt := 90) hG dX12_sheet_113 rfl ?_
            exact ih7 I7 A_9 (i7 + 1) (by omega) (by omega)
      exact loop90_7 _ I A 0 (by omega) (Nat.lt_succ_self _)
    · refine pm_iloadn hG dX12_sheet_11 rfl ?_
      refine pm_bipush (v := nI 8) hG dX12_sheet_12 (by decide) ?_
      refine pm_icmp_eq (tgt := 35) hG dX12_sheet_14 rfl (fun c10 => ?_) (fun c10 => ?_)
      · refine pm_iloadn hG dX12_sheet_35 rfl ?_
        refine pm_top (v := nI 8) c10 ?_
        refine pm_ifN_eq (tgt := 49) hG dX12_sheet_36 rfl (by omega) (fun q => absurd q (by omega)) (fun _ => ?_)
        refine pm_iloadn hG dX12_sheet_39 rfl ?_
        refine pm_if_ge (tgt := 49) hG dX12_sheet_40 rfl (fun c11 => ?_) (fun c11 => ?_)
        · obtain ⟨k12, hk12, ek12⟩ := nI_of (Int32.not_lt.mpr c11)
          refine pm_iloadn hG dX12_sheet_49 rfl ?_
          refine pm_top (v := nI 8) c10 ?_
          refine pm_ifN_eq (tgt := 65) hG dX12_sheet_50 rfl (by omega) (fun q => absurd q (by omega)) (fun _ => ?_)
          refine pm_iloadn hG dX12_sheet_53 rfl ?_
          refine pm_top (v := nI k12) ek12 ?_
          refine pm_bipush (v := nI 24) hG dX12_sheet_54 (by decide) ?_
          refine pm_icmpN_le (tgt := 65) hG dX12_sheet_56 rfl (by omega) (by omega) (fun c13 => ?_) (fun c13 => ?_)
          · refine pm_aloadn hG dX12_sheet_65 rfl ?_
            refine pm_getf hG dX12_sheet_66 (flX12_55 _ rfl) rfl rfl ?_
            refine pm_iloadn hG dX12_sheet_69 rfl ?_
            refine pm_top (v := nI k3) ek3 ?_
            refine pm_iloadn hG dX12_sheet_70 rfl ?_
            refine pm_top (v := nI 8) c10 ?_
            refine pm_iastN hG dX12_sheet_71 rfl (by decide) (by omega) ?_
            refine mdn_bitsOf (fun y_14 ey_14 => ?_)
            refine pm_aloadn hG dX12_sheet_72 rfl ?_
            refine pm_getf hG dX12_sheet_73 (flX12_58 _ rfl) rfl rfl ?_
            refine pm_iloadn hG dX12_sheet_76 rfl ?_
            refine pm_top (v := nI k3) ek3 ?_
            refine pm_iloadn hG dX12_sheet_77 rfl ?_
            refine pm_top (v := nI 8) c10 ?_
            refine pm_ifN_ne (tgt := 85) hG dX12_sheet_78 rfl (by omega) (fun _ => ?_) (fun q => absurd q (by omega))
            refine pm_iloadn hG dX12_sheet_85 rfl ?_
            refine pm_top (v := nI k12) ek12 ?_
            refine pm_iastN hG dX12_sheet_86 rfl (by decide) (by omega) ?_
            refine mdn_sizeOf (fun z_15 ez_15 => ?_)
            have hz_15 := SZ.w ez_15 hz (by omega : k12 < 25)
            refine pm_iconst (v := nI 0) hG dX12_sheet_87 (by decide) ?_
            refine pm_istoreXi (loc' := [some (.ref (B + 54)), some (.int za), some (.int zb), some (.int zc), some (.int (nI 0))]) hG dX12_sheet_88 (by decide) (pm_c1b rfl) rfl ?_
            have loop90_16 : ∀ (m16 : Nat) (I16 : Nat → Int32) (A16 : Nat → Nat → Int32) (i16 : Nat), i16 ≤ 24 → 24 - i16 < m16 → pm_wp mX12_sheet G B 90 [some (.ref (B + 54)), some (.int za), some (.int zb), some (.int zc), some (.int (nI i16))] [] 0 0 cnt (pm_mid σ (md_L B I16 A16 n k z_15 ac wt pl (nI p0) (nI t0) im y_14)) := by
              intro m16
              induction m16 with
              | zero => intro I16 A16 i16 _ hm; exact absurd hm (Nat.not_lt_zero _)
              | succ m16 ih16 =>
                intro I16 A16 i16 hi16 hm16
                refine pm_iloadi hG dX12_sheet_90 rfl ?_
                refine pm_bipush (v := nI 24) hG dX12_sheet_92 (by decide) ?_
                refine pm_icmpN_ge (tgt := 116) hG dX12_sheet_94 rfl (by omega) (by omega) (fun c17 => ?_) (fun c17 => ?_)
                · refine pm_iconst (v := nI 1) hG dX12_sheet_116 (by decide) ?_
                  exact pm_iret hG hF dX12_sheet_117 rfl (Nat.le_refl _) (Nat.le_refl _) ⟨_, rfl, ⟨_, _, _, _, rfl, hz_15, ⟨ey_14.trans (tY_y ((vS_e (fun q => q.elim ac2 bc2) (Or.inl c10) (by rw [ek12]; exact nI_pos (by omega)) (by rw [ek12]; exact nI_nlt (a := 24) (by omega) (by omega))).symm).symm ek3 (by omega) c10), ez_15.trans (tZ_1 ((vS_e (fun q => q.elim ac2 bc2) (Or.inl c10) (by rw [ek12]; exact nI_pos (by omega)) (by rw [ek12]; exact nI_nlt (a := 24) (by omega) (by omega))).symm).symm ek3 (by omega) (by rw [c10]; decide) ek12)⟩⟩, rfl, (vS_e (fun q => q.elim ac2 bc2) (Or.inl c10) (by rw [ek12]; exact nI_pos (by omega)) (by rw [ek12]; exact nI_nlt (a := 24) (by omega) (by omega))).symm⟩
                · refine pm_aloadn hG dX12_sheet_97 rfl ?_
                  refine pm_getf hG dX12_sheet_98 (flX12_61 _ rfl) rfl rfl ?_
                  refine pm_bipush (v := nI 24) hG dX12_sheet_101 (by decide) ?_
                  refine pm_iloadn hG dX12_sheet_103 rfl ?_
                  refine pm_top (v := nI k3) ek3 ?_
                  refine pm_imulN (c := 24 * k3) hG dX12_sheet_104 (by omega) ?_
                  refine pm_iloadi hG dX12_sheet_105 rfl ?_
                  refine pm_iaddN (c := i16 + 24 * k3) hG dX12_sheet_107 (by omega) ?_
                  refine pm_iconst (v := nI 0) hG dX12_sheet_108 (by decide) ?_
                  refine pm_iastN hG dX12_sheet_109 rfl (by decide) (by omega) ?_
                  refine mdn_sheets (fun A_18 => ?_)
                  refine pm_iincX (v := nI (i16 + 1)) (loc' := [some (.ref (B + 54)), some (.int za), some (.int zb), some (.int zc), some (.int (nI (i16 + 1)))]) hG dX12_sheet_110 rfl (nI_1 _) (by decide) (pm_c1b rfl) rfl ?_
                  refine pm_goto (tgt := 90) hG dX12_sheet_113 rfl ?_
                  exact ih16 I16 A_18 (i16 + 1) (by omega) (by omega)
            exact loop90_16 _ I A 0 (by omega) (Nat.lt_succ_self _)
          · refine pm_aloadn hG dX12_sheet_59 rfl ?_
            refine pm_iconst (v := nI 1) hG dX12_sheet_60 (by decide) ?_
            refine pm_callV (As := [.int (nI 1)]) (rest := []) hG hR dX12_sheet_61 (lkX12_80 _ rfl) okV_X12_finds rfl rfl (m_finds (d := 1) (by decide) hn hz (by omega)) rfl rfl hdd (Nat.le_refl _) (Nat.le_refl _) (by decide) (pm_ki (fun v19 σ' cnt' hq => ?_))
            obtain ⟨⟨I20, A20, rfl⟩, rfl, fv19⟩ := hq
            exact pm_iret hG hF dX12_sheet_64 rfl (Nat.le_refl _) (Nat.le_refl _) ⟨_, rfl, ⟨_, _, _, _, rfl, hz, ⟨tY_n (fv19.trans ((show (-1000000 : Int32) - nI 1 = -1000001 by decide).trans (vS_d (fun q => q.elim ac2 bc2) (Or.inl c10) (by rw [c10]; decide) (by rw [ek12]; exact nI_pos (by omega)) (by rw [ek12]; exact nI_lt (a := 24) (by omega) (by omega))).symm)) (by rw [fv19]; decide), tZ_n (fv19.trans ((show (-1000000 : Int32) - nI 1 = -1000001 by decide).trans (vS_d (fun q => q.elim ac2 bc2) (Or.inl c10) (by rw [c10]; decide) (by rw [ek12]; exact nI_pos (by omega)) (by rw [ek12]; exact nI_lt (a := 24) (by omega) (by omega))).symm)) (by rw [fv19]; decide)⟩⟩, rfl, fv19.trans ((show (-1000000 : Int32) - nI 1 = -1000001 by decide).trans (vS_d (fun q => q.elim ac2 bc2) (Or.inl c10) (by rw [c10]; decide) (by rw [ek12]; exact nI_pos (by omega)) (by rw [ek12]; exact nI_lt (a := 24) (by omega) (by omega))).symm)⟩
        · refine pm_aloadn hG dX12_sheet_43 rfl ?_
          refine pm_iconst (v := nI 3) hG dX12_sheet_44 (by decide) ?_
          refine pm_callV (As := [.int (nI 3)]) (rest := []) hG hR dX12_sheet_45 (lkX12_80 _ rfl) okV_X12_finds rfl rfl (m_finds (d := 1) (by decide) hn hz (by omega)) rfl rfl hdd (Nat.le_refl _) (Nat.le_refl _) (by decide) (pm_ki (fun v21 σ' cnt' hq => ?_))
          obtain ⟨⟨I22, A22, rfl⟩, rfl, fv21⟩ := hq
          exact pm_iret hG hF dX12_sheet_48 rfl (Nat.le_refl _) (Nat.le_refl _) ⟨_, rfl, ⟨_, _, _, _, rfl, hz, ⟨tY_n (fv21.trans ((show (-1000000 : Int32) - nI 3 = -1000003 by decide).trans (vS_c (fun q => q.elim ac2 bc2) (Or.inl c10) (by rw [c10]; decide) (Int32.not_le.mp c11)).symm)) (by rw [fv21]; decide), tZ_n (fv21.trans ((show (-1000000 : Int32) - nI 3 = -1000003 by decide).trans (vS_c (fun q => q.elim ac2 bc2) (Or.inl c10) (by rw [c10]; decide) (Int32.not_le.mp c11)).symm)) (by rw [fv21]; decide)⟩⟩, rfl, fv21.trans ((show (-1000000 : Int32) - nI 3 = -1000003 by decide).trans (vS_c (fun q => q.elim ac2 bc2) (Or.inl c10) (by rw [c10]; decide) (Int32.not_le.mp c11)).symm)⟩
      · refine pm_iloadn hG dX12_sheet_17 rfl ?_
        refine pm_bipush (v := nI 16) hG dX12_sheet_18 (by decide) ?_
        refine pm_icmp_eq (tgt := 35) hG dX12_sheet_20 rfl (fun c23 => ?_) (fun c23 => ?_)
        · refine pm_iloadn hG dX12_sheet_35 rfl ?_
          refine pm_top (v := nI 16) c23 ?_
          refine pm_ifN_eq (tgt := 49) hG dX12_sheet_36 rfl (by omega) (fun q => absurd q (by omega)) (fun _ => ?_)
          refine pm_iloadn hG dX12_sheet_39 rfl ?_
          refine pm_if_ge (tgt := 49) hG dX12_sheet_40 rfl (fun c24 => ?_) (fun c24 => ?_)
          · obtain ⟨k25, hk25, ek25⟩ := nI_of (Int32.not_lt.mpr c24)
            refine pm_iloadn hG dX12_sheet_49 rfl ?_
            refine pm_top (v := nI 16) c23 ?_
            refine pm_ifN_eq (tgt := 65) hG dX12_sheet_50 rfl (by omega) (fun q => absurd q (by omega)) (fun _ => ?_)
            refine pm_iloadn hG dX12_sheet_53 rfl ?_
            refine pm_top (v := nI k25) ek25 ?_
            refine pm_bipush (v := nI 24) hG dX12_sheet_54 (by decide) ?_
            refine pm_icmpN_le (tgt := 65) hG dX12_sheet_56 rfl (by omega) (by omega) (fun c26 => ?_) (fun c26 => ?_)
            · refine pm_aloadn hG dX12_sheet_65 rfl ?_
              refine pm_getf hG dX12_sheet_66 (flX12_55 _ rfl) rfl rfl ?_
              refine pm_iloadn hG dX12_sheet_69 rfl ?_
              refine pm_top (v := nI k3) ek3 ?_
              refine pm_iloadn hG dX12_sheet_70 rfl ?_
              refine pm_top (v := nI 16) c23 ?_
              refine pm_iastN hG dX12_sheet_71 rfl (by decide) (by omega) ?_
              refine mdn_bitsOf (fun y_27 ey_27 => ?_)
              refine pm_aloadn hG dX12_sheet_72 rfl ?_
              refine pm_getf hG dX12_sheet_73 (flX12_58 _ rfl) rfl rfl ?_
              refine pm_iloadn hG dX12_sheet_76 rfl ?_
              refine pm_top (v := nI k3) ek3 ?_
              refine pm_iloadn hG dX12_sheet_77 rfl ?_
              refine pm_top (v := nI 16) c23 ?_
              refine pm_ifN_ne (tgt := 85) hG dX12_sheet_78 rfl (by omega) (fun _ => ?_) (fun q => absurd q (by omega))
              refine pm_iloadn hG dX12_sheet_85 rfl ?_
              refine pm_top (v := nI k25) ek25 ?_
              refine pm_iastN hG dX12_sheet_86 rfl (by decide) (by omega) ?_
              refine mdn_sizeOf (fun z_28 ez_28 => ?_)
              have hz_28 := SZ.w ez_28 hz (by omega : k25 < 25)
              refine pm_iconst (v := nI 0) hG dX12_sheet_87 (by decide) ?_
              refine pm_istoreXi (loc' := [some (.ref (B + 54)), some (.int za), some (.int zb), some (.int zc), some (.int (nI 0))]) hG dX12_sheet_88 (by decide) (pm_c1b rfl) rfl ?_
              have loop90_29 : ∀ (m29 : Nat) (I29 : Nat → Int32) (A29 : Nat → Nat → Int32) (i29 : Nat), i29 ≤ 24 → 24 - i29 < m29 → pm_wp mX12_sheet G B 90 [some (.ref (B + 54)), some (.int za), some (.int zb), some (.int zc), some (.int (nI i29))] [] 0 0 cnt (pm_mid σ (md_L B I29 A29 n k z_28 ac wt pl (nI p0) (nI t0) im y_27)) := by
                intro m29
                induction m29 with
                | zero => intro I29 A29 i29 _ hm; exact absurd hm (Nat.not_lt_zero _)
                | succ m29 ih29 =>
                  intro I29 A29 i29 hi29 hm29
                  refine pm_iloadi hG dX12_sheet_90 rfl ?_
                  refine pm_bipush (v := nI 24) hG dX12_sheet_92 (by decide) ?_
                  refine pm_icmpN_ge (tgt := 116) hG dX12_sheet_94 rfl (by omega) (by omega) (fun c30 => ?_) (fun c30 => ?_)
                  · refine pm_iconst (v := nI 1) hG dX12_sheet_116 (by decide) ?_
                    exact pm_iret hG hF dX12_sheet_117 rfl (Nat.le_refl _) (Nat.le_refl _) ⟨_, rfl, ⟨_, _, _, _, rfl, hz_28, ⟨ey_27.trans (tY_y ((vS_e (fun q => q.elim ac2 bc2) (Or.inr (Or.inl c23)) (by rw [ek25]; exact nI_pos (by omega)) (by rw [ek25]; exact nI_nlt (a := 24) (by omega) (by omega))).symm).symm ek3 (by omega) c23), ez_28.trans (tZ_1 ((vS_e (fun q => q.elim ac2 bc2) (Or.inr (Or.inl c23)) (by rw [ek25]; exact nI_pos (by omega)) (by rw [ek25]; exact nI_nlt (a := 24) (by omega) (by omega))).symm).symm ek3 (by omega) (by rw [c23]; decide) ek25)⟩⟩, rfl, (vS_e (fun q => q.elim ac2 bc2) (Or.inr (Or.inl c23)) (by rw [ek25]; exact nI_pos (by omega)) (by rw [ek25]; exact nI_nlt (a := 24) (by omega) (by omega))).symm⟩
                  · refine pm_aloadn hG dX12_sheet_97 rfl ?_
                    refine pm_getf hG dX12_sheet_98 (flX12_61 _ rfl) rfl rfl ?_
                    refine pm_bipush (v := nI 24) hG dX12_sheet_101 (by decide) ?_
                    refine pm_iloadn hG dX12_sheet_103 rfl ?_
                    refine pm_top (v := nI k3) ek3 ?_
                    refine pm_imulN (c := 24 * k3) hG dX12_sheet_104 (by omega) ?_
                    refine pm_iloadi hG dX12_sheet_105 rfl ?_
                    refine pm_iaddN (c := i29 + 24 * k3) hG dX12_sheet_107 (by omega) ?_
                    refine pm_iconst (v := nI 0) hG dX12_sheet_108 (by decide) ?_
                    refine pm_iastN hG dX12_sheet_109 rfl (by decide) (by omega) ?_
                    refine mdn_sheets (fun A_31 => ?_)
                    refine pm_iincX (v := nI (i29 + 1)) (loc' := [some (.ref (B + 54)), some (.int za), some (.int zb), some (.int zc), some (.int (nI (i29 + 1)))]) hG dX12_sheet_110 rfl (nI_1 _) (by decide) (pm_c1b rfl) rfl ?_
                    refine pm_goto (tgt := 90) hG dX12_sheet_113 rfl ?_
                    exact ih29 I29 A_31 (i29 + 1) (by omega) (by omega)
              exact loop90_29 _ I A 0 (by omega) (Nat.lt_succ_self _)
            · refine pm_aloadn hG dX12_sheet_59 rfl ?_
              refine pm_iconst (v := nI 1) hG dX12_sheet_60 (by decide) ?_
              refine pm_callV (As := [.int (nI 1)]) (rest := []) hG hR dX12_sheet_61 (lkX12_80 _ rfl) okV_X12_finds rfl rfl (m_finds (d := 1) (by decide) hn hz (by omega)) rfl rfl hdd (Nat.le_refl _) (Nat.le_refl _) (by decide) (pm_ki (fun v32 σ' cnt' hq => ?_))
              obtain ⟨⟨I33, A33, rfl⟩, rfl, fv32⟩ := hq
              exact pm_iret hG hF dX12_sheet_64 rfl (Nat.le_refl _) (Nat.le_refl _) ⟨_, rfl, ⟨_, _, _, _, rfl, hz, ⟨tY_n (fv32.trans ((show (-1000000 : Int32) - nI 1 = -1000001 by decide).trans (vS_d (fun q => q.elim ac2 bc2) (Or.inr (Or.inl c23)) (by rw [c23]; decide) (by rw [ek25]; exact nI_pos (by omega)) (by rw [ek25]; exact nI_lt (a := 24) (by omega) (by omega))).symm)) (by rw [fv32]; decide), tZ_n (fv32.trans ((show (-1000000 : Int32) - nI 1 = -1000001 by decide).trans (vS_d (fun q => q.elim ac2 bc2) (Or.inr (Or.inl c23)) (by rw [c23]; decide) (by rw [ek25]; exact nI_pos (by omega)) (by rw [ek25]; exact nI_lt (a := 24) (by omega) (by omega))).symm)) (by rw [fv32]; decide)⟩⟩, rfl, fv32.trans ((show (-1000000 : Int32) - nI 1 = -1000001 by decide).trans (vS_d (fun q => q.elim ac2 bc2) (Or.inr (Or.inl c23)) (by rw [c23]; decide) (by rw [ek25]; exact nI_pos (by omega)) (by rw [ek25]; exact nI_lt (a := 24) (by omega) (by omega))).symm)⟩
          · refine pm_aloadn hG dX12_sheet_43 rfl ?_
            refine pm_iconst (v := nI 3) hG dX12_sheet_44 (by decide) ?_
            refine pm_callV (As := [.int (nI 3)]) (rest := []) hG hR dX12_sheet_45 (lkX12_80 _ rfl) okV_X12_finds rfl rfl (m_finds (d := 1) (by decide) hn hz (by omega)) rfl rfl hdd (Nat.le_refl _) (Nat.le_refl _) (by decide) (pm_ki (fun v34 σ' cnt' hq => ?_))
            obtain ⟨⟨I35, A35, rfl⟩, rfl, fv34⟩ := hq
            exact pm_iret hG hF dX12_sheet_48 rfl (Nat.le_refl _) (Nat.le_refl _) ⟨_, rfl, ⟨_, _, _, _, rfl, hz, ⟨tY_n (fv34.trans ((show (-1000000 : Int32) - nI 3 = -1000003 by decide).trans (vS_c (fun q => q.elim ac2 bc2) (Or.inr (Or.inl c23)) (by rw [c23]; decide) (Int32.not_le.mp c24)).symm)) (by rw [fv34]; decide), tZ_n (fv34.trans ((show (-1000000 : Int32) - nI 3 = -1000003 by decide).trans (vS_c (fun q => q.elim ac2 bc2) (Or.inr (Or.inl c23)) (by rw [c23]; decide) (Int32.not_le.mp c24)).symm)) (by rw [fv34]; decide)⟩⟩, rfl, fv34.trans ((show (-1000000 : Int32) - nI 3 = -1000003 by decide).trans (vS_c (fun q => q.elim ac2 bc2) (Or.inr (Or.inl c23)) (by rw [c23]; decide) (Int32.not_le.mp c24)).symm)⟩
        · refine pm_iloadn hG dX12_sheet_23 rfl ?_
          refine pm_bipush (v := nI 32) hG dX12_sheet_24 (by decide) ?_
          refine pm_icmp_eq (tgt := 35) hG dX12_sheet_26 rfl (fun c36 => ?_) (fun c36 => ?_)
          · refine pm_iloadn hG dX12_sheet_35 rfl ?_
            refine pm_top (v := nI 32) c36 ?_
            refine pm_ifN_eq (tgt := 49) hG dX12_sheet_36 rfl (by omega) (fun q => absurd q (by omega)) (fun _ => ?_)
            refine pm_iloadn hG dX12_sheet_39 rfl ?_
            refine pm_if_ge (tgt := 49) hG dX12_sheet_40 rfl (fun c37 => ?_) (fun c37 => ?_)
            · obtain ⟨k38, hk38, ek38⟩ := nI_of (Int32.not_lt.mpr c37)
              refine pm_iloadn hG dX12_sheet_49 rfl ?_
              refine pm_top (v := nI 32) c36 ?_
              refine pm_ifN_eq (tgt := 65) hG dX12_sheet_50 rfl (by omega) (fun q => absurd q (by omega)) (fun _ => ?_)
              refine pm_iloadn hG dX12_sheet_53 rfl ?_
              refine pm_top (v := nI k38) ek38 ?_
              refine pm_bipush (v := nI 24) hG dX12_sheet_54 (by decide) ?_
              refine pm_icmpN_le (tgt := 65) hG dX12_sheet_56 rfl (by omega) (by omega) (fun c39 => ?_) (fun c39 => ?_)
              · refine pm_aloadn hG dX12_sheet_65 rfl ?_
                refine pm_getf hG dX12_sheet_66 (flX12_55 _ rfl) rfl rfl ?_
                refine pm_iloadn hG dX12_sheet_69 rfl ?_
                refine pm_top (v := nI k3) ek3 ?_
                refine pm_iloadn hG dX12_sheet_70 rfl ?_
                refine pm_top (v := nI 32) c36 ?_
                refine pm_iastN hG dX12_sheet_71 rfl (by decide) (by omega) ?_
                refine mdn_bitsOf (fun y_40 ey_40 => ?_)
                refine pm_aloadn hG dX12_sheet_72 rfl ?_
                refine pm_getf hG dX12_sheet_73 (flX12_58 _ rfl) rfl rfl ?_
                refine pm_iloadn hG dX12_sheet_76 rfl ?_
                refine pm_top (v := nI k3) ek3 ?_
                refine pm_iloadn hG dX12_sheet_77 rfl ?_
                refine pm_top (v := nI 32) c36 ?_
                refine pm_ifN_ne (tgt := 85) hG dX12_sheet_78 rfl (by omega) (fun _ => ?_) (fun q => absurd q (by omega))
                refine pm_iloadn hG dX12_sheet_85 rfl ?_
                refine pm_top (v := nI k38) ek38 ?_
                refine pm_iastN hG dX12_sheet_86 rfl (by decide) (by omega) ?_
                refine mdn_sizeOf (fun z_41 ez_41 => ?_)
                have hz_41 := SZ.w ez_41 hz (by omega : k38 < 25)
                refine pm_iconst (v := nI 0) hG dX12_sheet_87 (by decide) ?_
                refine pm_istoreXi (loc' := [some (.ref (B + 54)), some (.int za), some (.int zb), some (.int zc), some (.int (nI 0))]) hG dX12_sheet_88 (by decide) (pm_c1b rfl) rfl ?_
                have loop90_42 : ∀ (m42 : Nat) (I42 : Nat → Int32) (A42 : Nat → Nat → Int32) (i42 : Nat), i42 ≤ 24 → 24 - i42 < m42 → pm_wp mX12_sheet G B 90 [some (.ref (B + 54)), some (.int za), some (.int zb), some (.int zc), some (.int (nI i42))] [] 0 0 cnt (pm_mid σ (md_L B I42 A42 n k z_41 ac wt pl (nI p0) (nI t0) im y_40)) := by
                  intro m42
                  induction m42 with
                  | zero => intro I42 A42 i42 _ hm; exact absurd hm (Nat.not_lt_zero _)
                  | succ m42 ih42 =>
                    intro I42 A42 i42 hi42 hm42
                    refine pm_iloadi hG dX12_sheet_90 rfl ?_
                    refine pm_bipush (v := nI 24) hG dX12_sheet_92 (by decide) ?_
                    refine pm_icmpN_ge (tgt := 116) hG dX12_sheet_94 rfl (by omega) (by omega) (fun c43 => ?_) (fun c43 => ?_)
                    · refine pm_iconst (v := nI 1) hG dX12_sheet_116 (by decide) ?_
                      exact pm_iret hG hF dX12_sheet_117 rfl (Nat.le_refl _) (Nat.le_refl _) ⟨_, rfl, ⟨_, _, _, _, rfl, hz_41, ⟨ey_40.trans (tY_y ((vS_e (fun q => q.elim ac2 bc2) (Or.inr (Or.inr c36)) (by rw [ek38]; exact nI_pos (by omega)) (by rw [ek38]; exact nI_nlt (a := 24) (by omega) (by omega))).symm).symm ek3 (by omega) c36), ez_41.trans (tZ_1 ((vS_e (fun q => q.elim ac2 bc2) (Or.inr (Or.inr c36)) (by rw [ek38]; exact nI_pos (by omega)) (by rw [ek38]; exact nI_nlt (a := 24) (by omega) (by omega))).symm).symm ek3 (by omega) (by rw [c36]; decide) ek38)⟩⟩, rfl, (vS_e (fun q => q.elim ac2 bc2) (Or.inr (Or.inr c36)) (by rw [ek38]; exact nI_pos (by omega)) (by rw [ek38]; exact nI_nlt (a := 24) (by omega) (by omega))).symm⟩
                    · refine pm_aloadn hG dX12_sheet_97 rfl ?_
                      refine pm_getf hG dX12_sheet_98 (flX12_61 _ rfl) rfl rfl ?_
                      refine pm_bipush (v := nI 24) hG dX12_sheet_101 (by decide) ?_
                      refine pm_iloadn hG dX12_sheet_103 rfl ?_
                      refine pm_top (v := nI k3) ek3 ?_
                      refine pm_imulN (c := 24 * k3) hG dX12_sheet_104 (by omega) ?_
                      refine pm_iloadi hG dX12_sheet_105 rfl ?_
                      refine pm_iaddN (c := i42 + 24 * k3) hG dX12_sheet_107 (by omega) ?_
                      refine pm_iconst (v := nI 0) hG dX12_sheet_108 (by decide) ?_
                      refine pm_iastN hG dX12_sheet_109 rfl (by decide) (by omega) ?_
                      refine mdn_sheets (fun A_44 => ?_)
                      refine pm_iincX (v := nI (i42 + 1)) (loc' := [some (.ref (B + 54)), some (.int za), some (.int zb), some (.int zc), some (.int (nI (i42 + 1)))]) hG dX12_sheet_110 rfl (nI_1 _) (by decide) (pm_c1b rfl) rfl ?_
                      refine pm_goto (tgt := 90) hG dX12_sheet_113 rfl ?_
                      exact ih42 I42 A_44 (i42 + 1) (by omega) (by omega)
                exact loop90_42 _ I A 0 (by omega) (Nat.lt_succ_self _)
              · refine pm_aloadn hG dX12_sheet_59 rfl ?_
                refine pm_iconst (v := nI 1) hG dX12_sheet_60 (by decide) ?_
                refine pm_callV (As := [.int (nI 1)]) (rest := []) hG hR dX12_sheet_61 (lkX12_80 _ rfl) okV_X12_finds rfl rfl (m_finds (d := 1) (by decide) hn hz (by omega)) rfl rfl hdd (Nat.le_refl _) (Nat.le_refl _) (by decide) (pm_ki (fun v45 σ' cnt' hq => ?_))
                obtain ⟨⟨I46, A46, rfl⟩, rfl, fv45⟩ := hq
                exact pm_iret hG hF dX12_sheet_64 rfl (Nat.le_refl _) (Nat.le_refl _) ⟨_, rfl, ⟨_, _, _, _, rfl, hz, ⟨tY_n (fv45.trans ((show (-1000000 : Int32) - nI 1 = -1000001 by decide).trans (vS_d (fun q => q.elim ac2 bc2) (Or.inr (Or.inr c36)) (by rw [c36]; decide) (by rw [ek38]; exact nI_pos (by omega)) (by rw [ek38]; exact nI_lt (a := 24) (by omega) (by omega))).symm)) (by rw [fv45]; decide), tZ_n (fv45.trans ((show (-1000000 : Int32) - nI 1 = -1000001 by decide).trans (vS_d (fun q => q.elim ac2 bc2) (Or.inr (Or.inr c36)) (by rw [c36]; decide) (by rw [ek38]; exact nI_pos (by omega)) (by rw [ek38]; exact nI_lt (a := 24) (by omega) (by omega))).symm)) (by rw [fv45]; decide)⟩⟩, rfl, fv45.trans ((show (-1000000 : Int32) - nI 1 = -1000001 by decide).trans (vS_d (fun q => q.elim ac2 bc2) (Or.inr (Or.inr c36)) (by rw [c36]; decide) (by rw [ek38]; exact nI_pos (by omega)) (by rw [ek38]; exact nI_lt (a := 24) (by omega) (by omega))).symm)⟩
            · refine pm_aloadn hG dX12_sheet_43 rfl ?_
              refine pm_iconst (v := nI 3) hG dX12_sheet_44 (by decide) ?_
              refine pm_callV (As := [.int (nI 3)]) (rest := []) hG hR dX12_sheet_45 (lkX12_80 _ rfl) okV_X12_finds rfl rfl (m_finds (d := 1) (by decide) hn hz (by omega)) rfl rfl hdd (Nat.le_refl _) (Nat.le_refl _) (by decide) (pm_ki (fun v47 σ' cnt' hq => ?_))
              obtain ⟨⟨I48, A48, rfl⟩, rfl, fv47⟩ := hq
              exact pm_iret hG hF dX12_sheet_48 rfl (Nat.le_refl _) (Nat.le_refl _) ⟨_, rfl, ⟨_, _, _, _, rfl, hz, ⟨tY_n (fv47.trans ((show (-1000000 : Int32) - nI 3 = -1000003 by decide).trans (vS_c (fun q => q.elim ac2 bc2) (Or.inr (Or.inr c36)) (by rw [c36]; decide) (Int32.not_le.mp c37)).symm)) (by rw [fv47]; decide), tZ_n (fv47.trans ((show (-1000000 : Int32) - nI 3 = -1000003 by decide).trans (vS_c (fun q => q.elim ac2 bc2) (Or.inr (Or.inr c36)) (by rw [c36]; decide) (Int32.not_le.mp c37)).symm)) (by rw [fv47]; decide)⟩⟩, rfl, fv47.trans ((show (-1000000 : Int32) - nI 3 = -1000003 by decide).trans (vS_c (fun q => q.elim ac2 bc2) (Or.inr (Or.inr c36)) (by rw [c36]; decide) (Int32.not_le.mp c37)).symm)⟩
          · refine pm_aloadn hG dX12_sheet_29 rfl ?_
            refine pm_iconst (v := nI 1) hG dX12_sheet_30 (by decide) ?_
            refine pm_callV (As := [.int (nI 1)]) (rest := []) hG hR dX12_sheet_31 (lkX12_80 _ rfl) okV_X12_finds rfl rfl (m_finds (d := 1) (by decide) hn hz (by omega)) rfl rfl hdd (Nat.le_refl _) (Nat.le_refl _) (by decide) (pm_ki (fun v49 σ' cnt' hq => ?_))
            obtain ⟨⟨I50, A50, rfl⟩, rfl, fv49⟩ := hq
            exact pm_iret hG hF dX12_sheet_34 rfl (Nat.le_refl _) (Nat.le_refl _) ⟨_, rfl, ⟨_, _, _, _, rfl, hz, ⟨tY_n (fv49.trans ((show (-1000000 : Int32) - nI 1 = -1000001 by decide).trans (vS_b c4 (fun q => q.elim c10 (fun q => q.elim c23 c36))).symm)) (by rw [fv49]; decide), tZ_n (fv49.trans ((show (-1000000 : Int32) - nI 1 = -1000001 by decide).trans (vS_b c4 (fun q => q.elim c10 (fun q => q.elim c23 c36))).symm)) (by rw [fv49]; decide)⟩⟩, rfl, fv49.trans ((show (-1000000 : Int32) - nI 1 = -1000001 by decide).trans (vS_b c4 (fun q => q.elim c10 (fun q => q.elim c23 c36))).symm)⟩
  · refine pm_ifN_eq (tgt := 29) hG dX12_sheet_4 rfl (by omega) (fun _ => ?_) (fun q => absurd q (by omega))
    refine pm_aloadn hG dX12_sheet_29 rfl ?_
    refine pm_iconst (v := nI 1) hG dX12_sheet_30 (by decide) ?_
    refine pm_callV (As := [.int (nI 1)]) (rest := []) hG hR dX12_sheet_31 (lkX12_80 _ rfl) okV_X12_finds rfl rfl (m_finds (d := 1) (by decide) hn hz (by omega)) rfl rfl hdd (Nat.le_refl _) (Nat.le_refl _) (by decide) (pm_ki (fun v51 σ' cnt' hq => ?_))
    obtain ⟨⟨I52, A52, rfl⟩, rfl, fv51⟩ := hq
    exact pm_iret hG hF dX12_sheet_34 rfl (Nat.le_refl _) (Nat.le_refl _) ⟨_, rfl, ⟨_, _, _, _, rfl, hz, ⟨tY_n (fv51.trans ((show (-1000000 : Int32) - nI 1 = -1000001 by decide).trans (vS_a c2).symm)) (by rw [fv51]; decide), tZ_n (fv51.trans ((show (-1000000 : Int32) - nI 1 = -1000001 by decide).trans (vS_a c2).symm)) (by rw [fv51]; decide)⟩⟩, rfl, fv51.trans ((show (-1000000 : Int32) - nI 1 = -1000001 by decide).trans (vS_a c2).symm)⟩
