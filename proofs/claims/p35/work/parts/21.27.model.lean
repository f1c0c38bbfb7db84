set_option maxRecDepth 100000 in
set_option maxHeartbeats 4000000 in
theorem m_sheet {d B cnt p0 t0 : Nat} {σ : pm_S} {I : Nat → Int32} {A : Nat → Nat → Int32} {n k z : Nat → Int32} {ac wt pl im : Int32} {za zb zc : Int32} (hdd : 2 ≤ d) (hn : KI n) (hz : SZ z)  : pm_met mX12_sheet d 0 0 B [.ref (B + 54), .int za, .int zb, .int zc] cnt (pm_mid σ (md_L B I A n k z ac wt pl (nI p0) (nI t0) im)) (pm_Qi (fun v σ' cnt' => (∃ (I' : Nat → Int32) (A' : Nat → Nat → Int32) (z' : Nat → Int32), σ' = pm_mid σ (md_L B I' A' n k z' ac wt pl (nI p0) (nI t0) im) ∧ SZ z') ∧ cnt = cnt' ∧ v = vS za zb zc)) := by
  refine pm_enter 1 (by decide) (Nat.le_of_ble_eq_true rfl) rfl (fun G hG hR hF => ?_)
  refine pm_iloadn hG dX12_sheet_0 rfl ?_
  refine pm_callS (As := [.int za]) (rest := []) hG hR dX12_sheet_1 (lkX12_239 _ rfl) okS_X12_isSheet (m_isSheet (d := 1) (by decide)) rfl rfl hdd (Nat.le_refl _) (Nat.le_refl _) (by decide) (pm_ki (fun v1 σ' cnt' hq => ?_))
  obtain ⟨hq, rfl, rfl⟩ := hq
  rcases hq with ⟨rfl, ac2, bc2⟩ | ⟨rfl, c2⟩
  · obtain ⟨k3, hk3, ek3⟩ := in_nat (by omega) (by omega) ac2 bc2
    refine pm_ifN_eq (tgt := 29) hG dX12_sheet_4 rfl (by omega) (fun q => absurd q (by omega)) (fun _ => ?_)
    refine pm_iloadn hG dX12_sheet_7 rfl ?_
    refine pm_if_eq (tgt := 35) hG dX12_sheet_8 rfl (fun c4 => ?_) (fun c4 => ?_)
    · refine pm_iloadn hG dX12_sheet_35 rfl ?_
      refine pm_top (v := nI 0) c4 ?_
      refine pm_ifN_eq (tgt := 49) hG dX12_sheet_36 rfl (by omega) (fun _ => ?_) (fun q => absurd q (by omega))
      refine pm_iloadn hG dX12_sheet_49 rfl ?_
      refine pm_top (v := nI 0) c4 ?_
      refine pm_ifN_eq (tgt := 65) hG dX12_sheet_50 rfl (by omega) (fun _ => ?_) (fun q => absurd q (by omega))
      refine pm_aloadn hG dX12_sheet_65 rfl ?_
      refine pm_getf hG dX12_sheet_66 (flX12_55 _ rfl) rfl rfl ?_
      refine pm_iloadn hG dX12_sheet_69 rfl ?_
      refine pm_top (v := nI k3) ek3 ?_
      refine pm_iloadn hG dX12_sheet_70 rfl ?_
      refine pm_top (v := nI 0) c4 ?_
      refine pm_iastN hG dX12_sheet_71 rfl (by decide) (by omega) ?_
      refine mdn_bitsOf (fun A_5 => ?_)
      refine pm_aloadn hG dX12_sheet_72 rfl ?_
      refine pm_getf hG dX12_sheet_73 (flX12_58 _ rfl) rfl rfl ?_
      refine pm_iloadn hG dX12_sheet_76 rfl ?_
      refine pm_top (v := nI k3) ek3 ?_
      refine pm_iloadn hG dX12_sheet_77 rfl ?_
      refine pm_top (v := nI 0) c4 ?_
      refine pm_ifN_ne (tgt := 85) hG dX12_sheet_78 rfl (by omega) (fun q => absurd q (by omega)) (fun _ => ?_)
      refine pm_iconst (v := nI 0) hG dX12_sheet_81 (by decide) ?_
      refine pm_goto (tgt := 86) hG dX12_sheet_82 rfl ?_
      refine pm_iastN hG dX12_sheet_86 rfl (by decide) (by omega) ?_
      refine mdn_sizeOf (fun z_6 ez_6 => ?_)
      have hz_6 := SZ.w ez_6 hz (by omega : 0 < 25)
      refine pm_iconst (v := nI 0) hG dX12_sheet_87 (by decide) ?_
      refine pm_istoreXi (loc' := [some (.ref (B + 54)), some (.int za), some (.int zb), some (.int zc), some (.int (nI 0))]) hG dX12_sheet_88 (by decide) (pm_c1b rfl) rfl ?_
      have loop90_7 : ∀ (m7 : Nat) (I7 : Nat → Int32) (A7 : Nat → Nat → Int32) (z_7 : Nat → Int32) (i7 : Nat), SZ z_7 → i7 ≤ 24 → 24 - i7 < m7 → pm_wp mX12_sheet G B 90 [some (.ref (B + 54)), some (.int za), some (.int zb), some (.int zc), some (.int (nI i7))] [] 0 0 cnt (pm_mid σ (md_L B I7 A7 n k z_7 ac wt pl (nI p0) (nI t0) im)) := by
        intro m7
        induction m7 with
        | zero => intro I7 A7 z_7 i7 _ _ hm; exact absurd hm (Nat.not_lt_zero _)
        | succ m7 ih7 =>
          intro I7 A7 z_7 i7 hzz_7 hi7 hm7
          refine pm_iloadi hG dX12_sheet_90 rfl ?_
          refine pm_bipush (v := nI 24) hG dX12_sheet_92 (by decide) ?_
          refine pm_icmpN_ge (tgt := 116) hG dX12_sheet_94 rfl (by omega) (by omega) (fun c8 => ?_) (fun c8 => ?_)
          · refine pm_iconst (v := nI 1) hG dX12_sheet_116 (by decide) ?_
            exact pm_iret hG hF dX12_sheet_117 rfl (Nat.le_refl _) (Nat.le_refl _) ⟨_, rfl, ⟨_, _, _, rfl, hzz_7⟩, rfl, (vS_f (fun q => q.elim ac2 bc2) c4).symm⟩
          · refine pm_aloadn hG dX12_sheet_97 rfl ?_
            refine pm_getf hG dX12_sheet_98 (flX12_61 _ rfl) rfl rfl ?_
            refine pm_bipush (v := nI 24) hG dX12_sheet_101 (by decide) ?_
            refine pm_iloadn hG dX12_sheet_103 rfl ?_
            refine pm_top (v := nI k3) ek3 ?_
            refine pm_imulN (c := 24 * k3) hG dX12_sheet_104 (by omega) ?_
            refine pm_iloadi hG dX12_sheet_105 rfl ?_
            refine pm_iaddN (c := i7 + 24 * k3) hG dX12_sheet_107 (by omega) ?_
            refine pm_iconst (v := nI 0) hG dX12_sheet_108 (by decide) ?_
            refine pm_iastN hG dX12_sheet_109 rfl (by decide) (by omega) ?_
            refine mdn_sheets (fun A_9 => ?_)
            refine pm_iincX (v := nI (i7 + 1)) (loc' := [some (.ref (B + 54)), some (.int za), some (.int zb), some (.int zc), some (.int (nI (i7 + 1)))]) hG dX12_sheet_110 rfl (nI_1 _) (by decide) (pm_c1b rfl) rfl ?_
            refine pm_goto (tgt := 90) hG dX12_sheet_113 rfl ?_
            exact ih7 I7 A_9 z_7 (i7 + 1) hzz_7 (by omega) (by omega)
      exact loop90_7 _ I A_5 z_6 0 hz_6 (by omega) (Nat.lt_succ_self _)
    · refine pm_iloadn hG dX12_sheet_11 rfl ?_
      refine pm_bipush (v := nI 8) hG dX12_sheet_12 (by decide) ?_
      refine pm_icmp_eq (tgt := 35) hG dX12_sheet_14 rfl (fun c10 => ?_) (fun c10 => ?_)
      · refine pm_iloadn hG dX12_sheet_35 rfl ?_
        refine pm_top (v := nI 8) c10 ?_
        refine pm_ifN_eq (tgt := 49) hG dX12_sheet_36 rfl (by omega) (fun q => absurd q (by omega)) (fun _ => ?_)
        refine pm_iloadn hG dX12_sheet_39 rfl ?_
        refine pm_if_ge (tgt := 49) hG dX12_sheet_40 rfl (fun c11 => ?_) (fun c11 => ?_)
        · obtain ⟨k12, hk12, ek12⟩ := nI_of (Int32.not_lt.mpr c11)
          refine pm_iloadn hG dX12_sheet_49 rfl ?_
          refine pm_top (v := nI 8) c10 ?_
          refine pm_ifN_eq (tgt := 65) hG dX12_sheet_50 rfl (by omega) (fun q => absurd q (by omega)) (fun _ => ?_)
          refine pm_iloadn hG dX12_sheet_53 rfl ?_
          refine pm_top (v := nI k12) ek12 ?_
          refine pm_bipush (v := nI 24) hG dX12_sheet_54 (by decide) ?_
          refine pm_icmpN_le (tgt := 65) hG dX12_sheet_56 rfl (by omega) (by omega) (fun c13 => ?_) (fun c13 => ?_)
          · refine pm_aloadn hG dX12_sheet_65 rfl ?_
            refine pm_getf hG dX12_sheet_66 (flX12_55 _ rfl) rfl rfl ?_
            refine pm_iloadn hG dX12_sheet_69 rfl ?_
            refine pm_top (v := nI k3) ek3 ?_
            refine pm_iloadn hG dX12_sheet_70 rfl ?_
            refine pm_top (v := nI 8) c10 ?_
            refine pm_iastN hG dX12_sheet_71 rfl (by decide) (by omega) ?_
            refine mdn_bitsOf (fun A_14 => ?_)
            refine pm_aloadn hG dX12_sheet_72 rfl ?_
            refine pm_getf hG dX12_sheet_73 (flX12_58 _ rfl) rfl rfl ?_
            refine pm_iloadn hG dX12_sheet_76 rfl ?_
            refine pm_top (v := nI k3) ek3 ?_
            refine pm_iloadn hG dX12_sheet_77 rfl ?_
            refine pm_top (v := nI 8) c10 ?_
            refine pm_ifN_ne (tgt := 85) hG dX12_sheet_78 rfl (by omega) (fun _ => ?_) (fun q => absurd q (by omega))
            refine pm_iloadn hG dX12_sheet_85 rfl ?_
            refine pm_top (v := nI k12) ek12 ?_
            refine pm_iastN hG dX12_sheet_86 rfl (by decide) (by omega) ?_
            refine mdn_sizeOf (fun z_15 ez_15 => ?_)
            have hz_15 := SZ.w ez_15 hz (by omega : k12 < 25)
            refine pm_iconst (v := nI 0) hG dX12_sheet_87 (by decide) ?_
            refine pm_istoreXi (loc' := [some (.ref (B + 54)), some (.int za), some (.int zb), some (.int zc), some (.int (nI 0))]) hG dX12_sheet_88 (by decide) (pm_c1b rfl) rfl ?_
            have loop90_16 : ∀ (m16 : Nat) (I16 : Nat → Int32) (A16 : Nat → Nat → Int32) (z_16 : Nat → Int32) (i16 : Nat), SZ z_16 → i16 ≤ 24 → 24 - i16 < m16 → pm_wp mX12_sheet G B 90 [some (.ref (B + 54)), some (.int za), some (.int zb), some (.int zc), some (.int (nI i16))] [] 0 0 cnt (pm_mid σ (md_L B I16 A16 n k z_16 ac wt pl (nI p0) (nI t0) im)) := by
              intro m16
              induction m16 with
              | zero => intro I16 A16 z_16 i16 _ _ hm; exact absurd hm (Nat.not_lt_zero _)
              | succ m16 ih16 =>
                intro I16 A16 z_16 i16 hzz_16 hi16 hm16
                refine pm_iloadi hG dX12_sheet_90 rfl ?_
                refine pm_bipush (v := nI 24) hG dX12_sheet_92 (by decide) ?_
                refine pm_icmpN_ge (tgt := 116) hG dX12_sheet_94 rfl (by omega) (by omega) (fun c17 => ?_) (fun c17 => ?_)
                · refine pm_iconst (v := nI 1) hG dX12_sheet_116 (by decide) ?_
                  exact pm_iret hG hF dX12_sheet_117 rfl (Nat.le_refl _) (Nat.le_refl _) ⟨_, rfl, ⟨_, _, _, rfl, hzz_16⟩, rfl, (vS_e (fun q => q.elim ac2 bc2) (Or.inl c10) (by rw [ek12]; exact nI_pos (by omega)) (by rw [ek12]; exact nI_nlt (a := 24) (by omega) (by omega))).symm⟩
                · refine pm_aloadn hG dX12_sheet_97 rfl ?_
                  refine pm_getf hG dX12_sheet_98 (flX12_61 _ rfl) rfl rfl ?_
                  refine pm_bipush (v := nI 24) hG dX12_sheet_101 (by decide) ?_
                  refine pm_iloadn hG dX12_sheet_103 rfl ?_
                  refine pm_top (v := nI k3) ek3 ?_
                  refine pm_imulN (c := 24 * k3) hG dX12_sheet_104 (by omega) ?_
                  refine pm_iloadi hG dX12_sheet_105 rfl ?_
                  refine pm_iaddN (c := i16 + 24 * k3) hG dX12_sheet_107 (by omega) ?_
                  refine pm_iconst (v := nI 0) hG dX12_sheet_108 (by decide) ?_
                  refine pm_iastN hG dX12_sheet_109 rfl (by decide) (by omega) ?_
                  refine mdn_sheets (fun A_18 => ?_)
                  refine pm_iincX (v := nI (i16 + 1)) (loc' := [some (.ref (B + 54)), some (.int za), some (.int zb), some (.int zc), some (.int (nI (i16 + 1)))]) hG dX12_sheet_110 rfl (nI_1 _) (by decide) (pm_c1b rfl) rfl ?_
                  refine pm_goto (tgt := 90) hG dX12_sheet_113 rfl ?_
                  exact ih16 I16 A_18 z_16 (i16 + 1) hzz_16 (by omega) (by omega)
            exact loop90_16 _ I A_14 z_15 0 hz_15 (by omega) (Nat.lt_succ_self _)
          · refine pm_aloadn hG dX12_sheet_59 rfl ?_
            refine pm_iconst (v := nI 1) hG dX12_sheet_60 (by decide) ?_
            refine pm_callV (As := [.int (nI 1)]) (rest := []) hG hR dX12_sheet_61 (lkX12_80 _ rfl) okV_X12_finds rfl rfl (m_finds (d := 1) (by decide) hn hz (by omega)) rfl rfl hdd (Nat.le_refl _) (Nat.le_refl _) (by decide) (pm_ki (fun v19 σ' cnt' hq => ?_))
            obtain ⟨⟨I20, A20, rfl⟩, rfl, fv19⟩ := hq
            exact pm_iret hG hF dX12_sheet_64 rfl (Nat.le_refl _) (Nat.le_refl _) ⟨_, rfl, ⟨_, _, _, rfl, hz⟩, rfl, fv19.trans ((show (-1000000 : Int32) - nI 1 = -1000001 by decide).trans (vS_d (fun q => q.elim ac2 bc2) (Or.inl c10) (by rw [c10]; decide) (by rw [ek12]; exact nI_pos (by omega)) (by rw [ek12]; exact nI_lt (a := 24) (by omega) (by omega))).symm)⟩
        · refine pm_aloadn hG dX12_sheet_43 rfl ?_
          refine pm_iconst (v := nI 3) hG dX12_sheet_44 (by decide) ?_
          refine pm_callV (As := [.int (nI 3)]) (rest := []) hG hR dX12_sheet_45 (lkX12_80 _ rfl) okV_X12_finds rfl rfl (m_finds (d := 1) (by decide) hn hz (by omega)) rfl rfl hdd (Nat.le_refl _) (Nat.le_refl _) (by decide) (pm_ki (fun v21 σ' cnt' hq => ?_))
          obtain ⟨⟨I22, A22, rfl⟩, rfl, fv21⟩ := hq
          exact pm_iret hG hF dX12_sheet_48 rfl (Nat.le_refl _) (Nat.le_refl _) ⟨_, rfl, ⟨_, _, _, rfl, hz⟩, rfl, fv21.trans ((show (-1000000 : Int32) - nI 3 = -1000003 by decide).trans (vS_c (fun q => q.elim ac2 bc2) (Or.inl c10) (by rw [c10]; decide) (Int32.not_le.mp c11)).symm)⟩
      · refine pm_iloadn hG dX12_sheet_17 rfl ?_
        refine pm_bipush (v := nI 16) hG dX12_sheet_18 (by decide) ?_
        refine pm_icmp_eq (tgt := 35) hG dX12_sheet_20 rfl (fun c23 => ?_) (fun c23 => ?_)
        · refine pm_iloadn hG dX12_sheet_35 rfl ?_
          refine pm_top (v := nI 16) c23 ?_
          refine pm_ifN_eq (tgt := 49) hG dX12_sheet_36 rfl (by omega) (fun q => absurd q (by omega)) (fun _ => ?_)
          refine pm_iloadn hG dX12_sheet_39 rfl ?_
          refine pm_if_ge (tgt := 49) hG dX12_sheet_40 rfl (fun c24 => ?_) (fun c24 => ?_)
          · obtain ⟨k25, hk25, ek25⟩ := nI_of (Int32.not_lt.mpr c24)
            refine pm_iloadn hG dX12_sheet_49 rfl ?_
            refine pm_top (v := nI 16) c23 ?_
            refine pm_ifN_eq (tgt := 65) hG dX12_sheet_50 rfl (by omega) (fun q => absurd q (by omega)) (fun _ => ?_)
            refine pm_iloadn hG dX12_sheet_53 rfl ?_
            refine pm_top (v := nI k25) ek25 ?_
            refine pm_bipush (v := nI 24) hG dX12_sheet_54 (by decide) ?_
            refine pm_icmpN_le (tgt := 65) hG dX12_sheet_56 rfl (by omega) (by omega) (fun c26 => ?_) (fun c26 => ?_)
            · refine pm_aloadn hG dX12_sheet_65 rfl ?_
              refine pm_getf hG dX12_sheet_66 (flX12_55 _ rfl) rfl rfl ?_
              refine pm_iloadn hG dX12_sheet_69 rfl ?_
              refine pm_top (v := nI k3) ek3 ?_
              refine pm_iloadn hG dX12_sheet_70 rfl ?_
              refine pm_top (v := nI 16) c23 ?_
              refine pm_iastN hG dX12_sheet_71 rfl (by decide) (by omega) ?_
              refine mdn_bitsOf (fun A_27 => ?_)
              refine pm_aloadn hG dX12_sheet_72 rfl ?_
              refine pm_getf hG dX12_sheet_73 (flX12_58 _ rfl) rfl rfl ?_
              refine pm_iloadn hG dX12_sheet_76 rfl ?_
              refine pm_top (v := nI k3) ek3 ?_
              refine pm_iloadn hG dX12_sheet_77 rfl ?_
              refine pm_top (v := nI 16) c23 ?_
              refine pm_ifN_ne (tgt := 85) hG dX12_sheet_78 rfl (by omega) (fun _ => ?_) (fun q => absurd q (by omega))
              refine pm_iloadn hG dX12_sheet_85 rfl ?_
              refine pm_top (v := nI k25) ek25 ?_
              refine pm_iastN hG dX12_sheet_86 rfl (by decide) (by omega) ?_
              refine mdn_sizeOf (fun z_28 ez_28 => ?_)
              have hz_28 := SZ.w ez_28 hz (by omega : k25 < 25)
              refine pm_iconst (v := nI 0) hG dX12_sheet_87 (by decide) ?_
              refine pm_istoreXi (loc' := [some (.ref (B + 54)), some (.int za), some (.int zb), some (.int zc), some (.int (nI 0))]) hG dX12_sheet_88 (by decide) (pm_c1b rfl) rfl ?_
              have loop90_29 : ∀ (m29 : Nat) (I29 : Nat → Int32) (A29 : Nat → Nat → Int32) (z_29 : Nat → Int32) (i29 : Nat), SZ z_29 → i29 ≤ 24 → 24 - i29 < m29 → pm_wp mX12_sheet G B 90 [some (.ref (B + 54)), some (.int za), some (.int zb), some (.int zc), some (.int (nI i29))] [] 0 0 cnt (pm_mid σ (md_L B I29 A29 n k z_29 ac wt pl (nI p0) (nI t0) im)) := by
                intro m29
                induction m29 with
                | zero => intro I29 A29 z_29 i29 _ _ hm; exact absurd hm (Nat.not_lt_zero _)
                | succ m29 ih29 =>
                  intro I29 A29 z_29 i29 hzz_29 hi29 hm29
                  refine pm_iloadi hG dX12_sheet_90 rfl ?_
                  refine pm_bipush (v := nI 24) hG dX12_sheet_92 (by decide) ?_
                  refine pm_icmpN_ge (tgt := 116) hG dX12_sheet_94 rfl (by omega) (by omega) (fun c30 => ?_) (fun c30 => ?_)
                  · refine pm_iconst (v := nI 1) hG dX12_sheet_116 (by decide) ?_
                    exact pm_iret hG hF dX12_sheet_117 rfl (Nat.le_refl _) (Nat.le_refl _) ⟨_, rfl, ⟨_, _, _, rfl, hzz_29⟩, rfl, (vS_e (fun q => q.elim ac2 bc2) (Or.inr (Or.inl c23)) (by rw [ek25]; exact nI_pos (by omega)) (by rw [ek25]; exact nI_nlt (a := 24) (by omega) (by omega))).symm⟩
                  · refine pm_aloadn hG dX12_sheet_97 rfl ?_
                    refine pm_getf hG dX12_sheet_98 (flX12_61 _ rfl) rfl rfl ?_
                    refine pm_bipush (v := nI 24) hG dX12_sheet_101 (by decide) ?_
                    refine pm_iloadn hG dX12_sheet_103 rfl ?_
                    refine pm_top (v := nI k3) ek3 ?_
                    refine pm_imulN (c := 24 * k3) hG dX12_sheet_104 (by omega) ?_
                    refine pm_iloadi hG dX12_sheet_105 rfl ?_
                    refine pm_iaddN (c := i29 + 24 * k3) hG dX12_sheet_107 (by omega) ?_
                    refine pm_iconst (v := nI 0) hG dX12_sheet_108 (by decide) ?_
                    refine pm_iastN hG dX12_sheet_109 rfl (by decide) (by omega) ?_
                    refine mdn_sheets (fun A_31 => ?_)
                    refine pm_iincX (v := nI (i29 + 1)) (loc' := [some (.ref (B + 54)), some (.int za), some (.int zb), some (.int zc), some (.int (nI (i29 + 1)))]) hG dX12_sheet_110 rfl (nI_1 _) (by decide) (pm_c1b rfl) rfl ?_
                    refine pm_goto (tgt := 90) hG dX12_sheet_113 rfl ?_
                    exact ih29 I29 A_31 z_29 (i29 + 1) hzz_29 (by omega) (by omega)
              exact loop90_29 _ I A_27 z_28 0 hz_28 (by omega) (Nat.lt_succ_self _)
            · refine pm_aloadn hG dX12_sheet_59 rfl ?_
              refine pm_iconst (v := nI 1) hG dX12_sheet_60 (by decide) ?_
              refine pm_callV (As := [.int (nI 1)]) (rest := []) hG hR dX12_sheet_61 (lkX12_80 _ rfl) okV_X12_finds rfl rfl (m_finds (d := 1) (by decide) hn hz (by omega)) rfl rfl hdd (Nat.le_refl _) (Nat.le_refl _) (by decide) (pm_ki (fun v32 σ' cnt' hq => ?_))
              obtain ⟨⟨I33, A33, rfl⟩, rfl, fv32⟩ := hq
              exact pm_iret hG hF dX12_sheet_64 rfl (Nat.le_refl _) (Nat.le_refl _) ⟨_, rfl, ⟨_, _, _, rfl, hz⟩, rfl, fv32.trans ((show (-1000000 : Int32) - nI 1 = -1000001 by decide).trans (vS_d (fun q => q.elim ac2 bc2) (Or.inr (Or.inl c23)) (by rw [c23]; decide) (by rw [ek25]; exact nI_pos (by omega)) (by rw [ek25]; exact nI_lt (a := 24) (by omega) (by omega))).symm)⟩
          · refine pm_aloadn hG dX12_sheet_43 rfl ?_
            refine pm_iconst (v := nI 3) hG dX12_sheet_44 (by decide) ?_
            refine pm_callV (As := [.int (nI 3)]) (rest := []) hG hR dX12_sheet_45 (lkX12_80 _ rfl) okV_X12_finds rfl rfl (m_finds (d := 1) (by decide) hn hz (by omega)) rfl rfl hdd (Nat.le_refl _) (Nat.le_refl _) (by decide) (pm_ki (fun v34 σ' cnt' hq => ?_))
            obtain ⟨⟨I35, A35, rfl⟩, rfl, fv34⟩ := hq
            exact pm_iret hG hF dX12_sheet_48 rfl (Nat.le_refl _) (Nat.le_refl _) ⟨_, rfl, ⟨_, _, _, rfl, hz⟩, rfl, fv34.trans ((show (-1000000 : Int32) - nI 3 = -1000003 by decide).trans (vS_c (fun q => q.elim ac2 bc2) (Or.inr (Or.inl c23)) (by rw [c23]; decide) (Int32.not_le.mp c24)).symm)⟩
        · refine pm_iloadn hG dX12_sheet_23 rfl ?_
          refine pm_bipush (v := nI 32) hG dX12_sheet_24 (by decide) ?_
          refine pm_icmp_eq (tgt := 35) hG dX12_sheet_26 rfl (fun c36 => ?_) (fun c36 => ?_)
          · refine pm_iloadn hG dX12_sheet_35 rfl ?_
            refine pm_top (v := nI 32) c36 ?_
            refine pm_ifN_eq (tgt := 49) hG dX12_sheet_36 rfl (by omega) (fun q => absurd q (by omega)) (fun _ => ?_)
            refine pm_iloadn hG dX12_sheet_39 rfl ?_
            refine pm_if_ge (tgt := 49) hG dX12_sheet_40 rfl (fun c37 => ?_) (fun c37 => ?_)
            · obtain ⟨k38, hk38, ek38⟩ := nI_of (Int32.not_lt.mpr c37)
              refine pm_iloadn hG dX12_sheet_49 rfl ?_
              refine pm_top (v := nI 32) c36 ?_
              refine pm_ifN_eq (tgt := 65) hG dX12_sheet_50 rfl (by omega) (fun q => absurd q (by omega)) (fun _ => ?_)
              refine pm_iloadn hG dX12_sheet_53 rfl ?_
              refine pm_top (v := nI k38) ek38 ?_
              refine pm_bipush (v := nI 24) hG dX12_sheet_54 (by decide) ?_
              refine pm_icmpN_le (tgt := 65) hG dX12_sheet_56 rfl (by omega) (by omega) (fun c39 => ?_) (fun c39 => ?_)
              · refine pm_aloadn hG dX12_sheet_65 rfl ?_
                refine pm_getf hG dX12_sheet_66 (flX12_55 _ rfl) rfl rfl ?_
                refine pm_iloadn hG dX12_sheet_69 rfl ?_
                refine pm_top (v := nI k3) ek3 ?_
                refine pm_iloadn hG dX12_sheet_70 rfl ?_
                refine pm_top (v := nI 32) c36 ?_
                refine pm_iastN hG dX12_sheet_71 rfl (by decide) (by omega) ?_
                refine mdn_bitsOf (fun A_40 => ?_)
                refine pm_aloadn hG dX12_sheet_72 rfl ?_
                refine pm_getf hG dX12_sheet_73 (flX12_58 _ rfl) rfl rfl ?_
                refine pm_iloadn hG dX12_sheet_76 rfl ?_
                refine pm_top (v := nI k3) ek3 ?_
                refine pm_iloadn hG dX12_sheet_77 rfl ?_
                refine pm_top (v := nI 32) c36 ?_
                refine pm_ifN_ne (tgt := 85) hG dX12_sheet_78 rfl (by omega) (fun _ => ?_) (fun q => absurd q (by omega))
                refine pm_iloadn hG dX12_sheet_85 rfl ?_
                refine pm_top (v := nI k38) ek38 ?_
                refine pm_iastN hG dX12_sheet_86 rfl (by decide) (by omega) ?_
                refine mdn_sizeOf (fun z_41 ez_41 => ?_)
                have hz_41 := SZ.w ez_41 hz (by omega : k38 < 25)
                refine pm_iconst (v := nI 0) hG dX12_sheet_87 (by decide) ?_
                refine pm_istoreXi (loc' := [some (.ref (B + 54)), some (.int za), some (.int zb), some (.int zc), some (.int (nI 0))]) hG dX12_sheet_88 (by decide) (pm_c1b rfl) rfl ?_
                have loop90_42 : ∀ (m42 : Nat) (I42 : Nat → Int32) (A42 : Nat → Nat → Int32) (z_42 : Nat → Int32) (i42 : Nat), SZ z_42 → i42 ≤ 24 → 24 - i42 < m42 → pm_wp mX12_sheet G B 90 [some (.ref (B + 54)), some (.int za), some (.int zb), some (.int zc), some (.int (nI i42))] [] 0 0 cnt (pm_mid σ (md_L B I42 A42 n k z_42 ac wt pl (nI p0) (nI t0) im)) := by
                  intro m42
                  induction m42 with
                  | zero => intro I42 A42 z_42 i42 _ _ hm; exact absurd hm (Nat.not_lt_zero _)
                  | succ m42 ih42 =>
                    intro I42 A42 z_42 i42 hzz_42 hi42 hm42
                    refine pm_iloadi hG dX12_sheet_90 rfl ?_
                    refine pm_bipush (v := nI 24) hG dX12_sheet_92 (by decide) ?_
                    refine pm_icmpN_ge (tgt := 116) hG dX12_sheet_94 rfl (by omega) (by omega) (fun c43 => ?_) (fun c43 => ?_)
                    · refine pm_iconst (v := nI 1) hG dX12_sheet_116 (by decide) ?_
                      exact pm_iret hG hF dX12_sheet_117 rfl (Nat.le_refl _) (Nat.le_refl _) ⟨_, rfl, ⟨_, _, _, rfl, hzz_42⟩, rfl, (vS_e (fun q => q.elim ac2 bc2) (Or.inr (Or.inr c36)) (by rw [ek38]; exact nI_pos (by omega)) (by rw [ek38]; exact nI_nlt (a := 24) (by omega) (by omega))).symm⟩
                    · refine pm_aloadn hG dX12_sheet_97 rfl ?_
                      refine pm_getf hG dX12_sheet_98 (flX12_61 _ rfl) rfl rfl ?_
                      refine pm_bipush (v := nI 24) hG dX12_sheet_101 (by decide) ?_
                      refine pm_iloadn hG dX12_sheet_103 rfl ?_
                      refine pm_top (v := nI k3) ek3 ?_
                      refine pm_imulN (c := 24 * k3) hG dX12_sheet_104 (by omega) ?_
                      refine pm_iloadi hG dX12_sheet_105 rfl ?_
                      refine pm_iaddN (c := i42 + 24 * k3) hG dX12_sheet_107 (by omega) ?_
                      refine pm_iconst (v := nI 0) hG dX12_sheet_108 (by decide) ?_
                      refine pm_iastN hG dX12_sheet_109 rfl (by decide) (by omega) ?_
                      refine mdn_sheets (fun A_44 => ?_)
                      refine pm_iincX (v := nI (i42 + 1)) (loc' := [some (.ref (B + 54)), some (.int za), some (.int zb), some (.int zc), some (.int (nI (i42 + 1)))]) hG dX12_sheet_110 rfl (nI_1 _) (by decide) (pm_c1b rfl) rfl ?_
                      refine pm_goto (tgt := 90) hG dX12_sheet_113 rfl ?_
                      exact ih42 I42 A_44 z_42 (i42 + 1) hzz_42 (by omega) (by omega)
                exact loop90_42 _ I A_40 z_41 0 hz_41 (by omega) (Nat.lt_succ_self _)
              · refine pm_aloadn hG dX12_sheet_59 rfl ?_
                refine pm_iconst (v := nI 1) hG dX12_sheet_60 (by decide) ?_
                refine pm_callV (As := [.int (nI 1)]) (rest := []) hG hR dX12_sheet_61 (lkX12_80 _ rfl) okV_X12_finds rfl rfl (m_finds (d := 1) (by decide) hn hz (by omega)) rfl rfl hdd (Nat.le_refl _) (Nat.le_refl _) (by decide) (pm_ki (fun v45 σ' cnt' hq => ?_))
                obtain ⟨⟨I46, A46, rfl⟩, rfl, fv45⟩ := hq
                exact pm_iret hG hF dX12_sheet_64 rfl (Nat.le_refl _) (Nat.le_refl _) ⟨_, rfl, ⟨_, _, _, rfl, hz⟩, rfl, fv45.trans ((show (-1000000 : Int32) - nI 1 = -1000001 by decide).trans (vS_d (fun q => q.elim ac2 bc2) (Or.inr (Or.inr c36)) (by rw [c36]; decide) (by rw [ek38]; exact nI_pos (by omega)) (by rw [ek38]; exact nI_lt (a := 24) (by omega) (by omega))).symm)⟩
            · refine pm_aloadn hG dX12_sheet_43 rfl ?_
              refine pm_iconst (v := nI 3) hG dX12_sheet_44 (by decide) ?_
              refine pm_callV (As := [.int (nI 3)]) (rest := []) hG hR dX12_sheet_45 (lkX12_80 _ rfl) okV_X12_finds rfl rfl (m_finds (d := 1) (by decide) hn hz (by omega)) rfl rfl hdd (Nat.le_refl _) (Nat.le_refl _) (by decide) (pm_ki (fun v47 σ' cnt' hq => ?_))
              obtain ⟨⟨I48, A48, rfl⟩, rfl, fv47⟩ := hq
              exact pm_iret hG hF dX12_sheet_48 rfl (Nat.le_refl _) (Nat.le_refl _) ⟨_, rfl, ⟨_, _, _, rfl, hz⟩, rfl, fv47.trans ((show (-1000000 : Int32) - nI 3 = -1000003 by decide).trans (vS_c (fun q => q.elim ac2 bc2) (Or.inr (Or.inr c36)) (by rw [c36]; decide) (Int32.not_le.mp c37)).symm)⟩
          · refine pm_aloadn hG dX12_sheet_29 rfl ?_
            refine pm_iconst (v := nI 1) hG dX12_sheet_30 (by decide) ?_
            refine pm_callV (As := [.int (nI 1)]) (rest := []) hG hR dX12_sheet_31 (lkX12_80 _ rfl) okV_X12_finds rfl rfl (m_finds (d := 1) (by decide) hn hz (by omega)) rfl rfl hdd (Nat.le_refl _) (Nat.le_refl _) (by decide) (pm_ki (fun v49 σ' cnt' hq => ?_))
            obtain ⟨⟨I50, A50, rfl⟩, rfl, fv49⟩ := hq
            exact pm_iret hG hF dX12_sheet_34 rfl (Nat.le_refl _) (Nat.le_refl _) ⟨_, rfl, ⟨_, _, _, rfl, hz⟩, rfl, fv49.trans ((show (-1000000 : Int32) - nI 1 = -1000001 by decide).trans (vS_b c4 (fun q => q.elim c10 (fun q => q.elim c23 c36))).symm)⟩
  · refine pm_ifN_eq (tgt := 29) hG dX12_sheet_4 rfl (by omega) (fun _ => ?_) (fun q => absurd q (by omega))
    refine pm_aloadn hG dX12_sheet_29 rfl ?_
    refine pm_iconst (v := nI 1) hG dX12_sheet_30 (by decide) ?_
    refine pm_callV (As := [.int (nI 1)]) (rest := []) hG hR dX12_sheet_31 (lkX12_80 _ rfl) okV_X12_finds rfl rfl (m_finds (d := 1) (by decide) hn hz (by omega)) rfl rfl hdd (Nat.le_refl _) (Nat.le_refl _) (by decide) (pm_ki (fun v51 σ' cnt' hq => ?_))
    obtain ⟨⟨I52, A52, rfl⟩, rfl, fv51⟩ := hq
    exact pm_iret hG hF dX12_sheet_34 rfl (Nat.le_refl _) (Nat.le_refl _) ⟨_, rfl, ⟨_, _, _, rfl, hz⟩, rfl, fv51.trans ((show (-1000000 : Int32) - nI 1 = -1000001 by decide).trans (vS_a c2).symm)⟩

set_option maxRecDepth 100000 in
set_option maxHeartbeats 4000000 in
theorem m_strike {d B cnt p0 t0 : Nat} {σ : pm_S} {I : Nat → Int32} {A : Nat → Nat → Int32} {n k z : Nat → Int32} {ac wt pl im : Int32} {za : Int32} (hdd : 2 ≤ d) (hn : KI n) (hr : NR n) (hz : SZ z)  : pm_met mX12_strike d 0 0 B [.ref (B + 54), .int za] cnt (pm_mid σ (md_L B I A n k z ac wt pl (nI p0) (nI t0) im)) (pm_Qi (fun v σ' cnt' => (∃ (I' : Nat → Int32) (A' : Nat → Nat → Int32) (n' : Nat → Int32), σ' = pm_mid σ (md_L B I' A' n' k z ac wt pl (nI p0) (nI t0) im) ∧ KI n' ∧ NR n' ∧ n' 0 = n 0 ∧ n' 2 = n 2 ∧ n' 7 = n 7 ∧ n' 8 = n 8 ∧ KS n' n) ∧ cnt = cnt')) := by
  obtain ⟨kc0, hkc0, ekc0⟩ := KI.nat hn (show kd 0 = (1, 11, true) by decide)
  obtain ⟨kc2, hkc2, ekc2⟩ := KI.nat hn (show kd 2 = (1, 21, true) by decide)
  obtain ⟨kc7, hkc7, ekc7⟩ := KI.nat hn (show kd 7 = (1, 31, false) by decide)
  obtain ⟨kc8, hkc8, ekc8⟩ := KI.nat hn (show kd 8 = (1, 2001, false) by decide)
  refine pm_enter 0 (by decide) (Nat.le_of_ble_eq_true rfl) rfl (fun G hG hR hF => ?_)
  refine pm_aloadn hG dX12_strike_0 rfl ?_
  refine pm_iloadn hG dX12_strike_1 rfl ?_
  obtain ⟨k1, hk1, ek1⟩ := KI.nat hn (show kd 4 = (1, 13, false) by decide)
  refine pm_callV (As := [.int za]) (rest := []) hG hR dX12_strike_2 (lkX12_192 _ rfl) okV_X12_isLaw rfl rfl (m_isLaw (d := 1) (by decide) ek1 (by omega)) rfl rfl hdd (Nat.le_refl _) (Nat.le_refl _) (by decide) (pm_ki (fun v2 σ' cnt' hq => ?_))
  obtain ⟨hq, rfl, rfl⟩ := hq
  rcases hq with ⟨rfl, k4, hk4, ek4⟩ | rfl
  · refine pm_ifN_ne (tgt := 14) hG dX12_strike_5 rfl (by omega) (fun _ => ?_) (fun q => absurd q (by omega))
    refine pm_aloadn hG dX12_strike_14 rfl ?_
    refine pm_getf hG dX12_strike_15 (flX12_7 _ rfl) rfl rfl ?_
    refine pm_sipush (v := nI 510) hG dX12_strike_18 (by decide) ?_
    refine pm_bipush (v := nI 65) hG dX12_strike_21 (by decide) ?_
    refine pm_iloadn hG dX12_strike_23 rfl ?_
    refine pm_top (v := nI k4) ek4 ?_
    refine pm_imulN (c := 65 * k4) hG dX12_strike_24 (by omega) ?_
    refine pm_iaddN (c := 65 * k4 + 510) hG dX12_strike_25 (by omega) ?_
    refine pm_iconst (v := nI 3) hG dX12_strike_26 (by decide) ?_
    refine pm_iaddN (c := 65 * k4 + 513) hG dX12_strike_27 (by omega) ?_
    refine pm_ialdN hG dX12_strike_28 rfl (by decide) (by omega) ?_
    refine pm_gen (fun x5 ex5 => ?_)
    refine pm_if_lt (tgt := 38) hG dX12_strike_29 rfl (fun c6 => ?_) (fun c6 => ?_)
    · refine pm_aloadn hG dX12_strike_38 rfl ?_
      refine pm_getf hG dX12_strike_39 (flX12_7 _ rfl) rfl rfl ?_
      refine pm_sipush (v := nI 510) hG dX12_strike_42 (by decide) ?_
      refine pm_bipush (v := nI 65) hG dX12_strike_45 (by decide) ?_
      refine pm_iloadn hG dX12_strike_47 rfl ?_
      refine pm_top (v := nI k4) ek4 ?_
      refine pm_imulN (c := 65 * k4) hG dX12_strike_48 (by omega) ?_
      refine pm_iaddN (c := 65 * k4 + 510) hG dX12_strike_49 (by omega) ?_
      refine pm_iconst (v := nI 3) hG dX12_strike_50 (by decide) ?_
      refine pm_iaddN (c := 65 * k4 + 513) hG dX12_strike_51 (by omega) ?_
      refine pm_aloadn hG dX12_strike_52 rfl ?_
      refine pm_getf hG dX12_strike_53 (flX12_7 _ rfl) rfl rfl ?_
      refine pm_bipush (v := nI 8) hG dX12_strike_56 (by decide) ?_
      refine pm_ialdN hG dX12_strike_58 rfl (by decide) (by omega) ?_
      refine pm_top (v := nI kc8) ekc8 ?_
      refine pm_iastN hG dX12_strike_59 rfl (by decide) (by omega) ?_
      refine mdn_now (fun n_7 en_7 => ?_)
      have hnn_7 := KI.w en_7 hn (okv_f (show kd (65 * k4 + 513) = (0, 0, false) from (kd_L (k := k4) (c := 3) (by omega) (by omega) (by decide))))
      have hrn_7 := NRx.w en_7 hr (by rw [(show kd (65 * k4 + 513) = (0, 0, false) from (kd_L (k := k4) (c := 3) (by omega) (by omega) (by decide)))])
      have ksn_7 := KS.w en_7 KS.rf (by unfold tS; omega)
      have e8 : n_7 0 = nI kc0 := by rw [en_7, pk_un (by omega)]; exact ekc0
      have e9 : n_7 2 = nI kc2 := by rw [en_7, pk_un (by omega)]; exact ekc2
      have e10 : n_7 7 = nI kc7 := by rw [en_7, pk_un (by omega)]; exact ekc7
      have e11 : n_7 8 = nI kc8 := by rw [en_7, pk_un (by omega)]; exact ekc8
      have e12 : n_7 4 = nI k1 := by rw [en_7, pk_un (by omega)]; exact ek1
      have e13 : n_7 (65 * k4 + 513) = nI kc8 := by rw [en_7, pk_us]
      refine pm_iconst (v := nI 1) hG dX12_strike_60 (by decide) ?_
      exact pm_iret hG hF dX12_strike_61 rfl (Nat.le_refl _) (Nat.le_refl _) ⟨_, rfl, ⟨_, _, _, rfl, hnn_7, hrn_7, e8.trans ekc0.symm, e9.trans ekc2.symm, e10.trans ekc7.symm, e11.trans ekc8.symm, ksn_7⟩, rfl⟩
    · obtain ⟨k14, hk14, ek14⟩ := nI_of c6
      refine pm_aloadn hG dX12_strike_32 rfl ?_
      refine pm_iconst (v := nI 3) hG dX12_strike_33 (by decide) ?_
      refine pm_callV (As := [.int (nI 3)]) (rest := []) hG hR dX12_strike_34 (lkX12_80 _ rfl) okV_X12_finds rfl rfl (m_finds (d := 1) (by decide) hn hz (by omega)) rfl rfl hdd (Nat.le_refl _) (Nat.le_refl _) (by decide) (pm_ki (fun v15 σ' cnt' hq => ?_))
      obtain ⟨⟨I16, A16, rfl⟩, rfl, fv15⟩ := hq
      exact pm_iret hG hF dX12_strike_37 rfl (Nat.le_refl _) (Nat.le_refl _) ⟨_, rfl, ⟨_, _, _, rfl, hn, hr, ekc0.trans ekc0.symm, ekc2.trans ekc2.symm, ekc7.trans ekc7.symm, ekc8.trans ekc8.symm, KS.rf⟩, rfl⟩
  · refine pm_ifN_ne (tgt := 14) hG dX12_strike_5 rfl (by omega) (fun q => absurd q (by omega)) (fun _ => ?_)
    refine pm_aloadn hG dX12_strike_8 rfl ?_
    refine pm_iconst (v := nI 1) hG dX12_strike_9 (by decide) ?_
    refine pm_callV (As := [.int (nI 1)]) (rest := []) hG hR dX12_strike_10 (lkX12_80 _ rfl) okV_X12_finds rfl rfl (m_finds (d := 1) (by decide) hn hz (by omega)) rfl rfl hdd (Nat.le_refl _) (Nat.le_refl _) (by decide) (pm_ki (fun v17 σ' cnt' hq => ?_))
    obtain ⟨⟨I18, A18, rfl⟩, rfl, fv17⟩ := hq
    exact pm_iret hG hF dX12_strike_13 rfl (Nat.le_refl _) (Nat.le_refl _) ⟨_, rfl, ⟨_, _, _, rfl, hn, hr, ekc0.trans ekc0.symm, ekc2.trans ekc2.symm, ekc7.trans ekc7.symm, ekc8.trans ekc8.symm, KS.rf⟩, rfl⟩

set_option maxRecDepth 100000 in
set_option maxHeartbeats 4000000 in
theorem m_tell {d B cnt p0 t0 : Nat} {σ : pm_S} {I : Nat → Int32} {A : Nat → Nat → Int32} {n k z : Nat → Int32} {ac wt pl im : Int32} {za : Int32} (hdd : 2 ≤ d) (hn : KI n) (hr : NR n) (hz : SZ z)  : pm_met mX12_tell d 0 0 B [.ref (B + 54), .int za] cnt (pm_mid σ (md_L B I A n k z ac wt pl (nI p0) (nI t0) im)) (pm_Qi (fun v σ' cnt' => (∃ (I' : Nat → Int32) (A' : Nat → Nat → Int32) (n' : Nat → Int32), σ' = pm_mid σ (md_L B I' A' n' k z ac wt pl (nI p0) (nI t0) im) ∧ KI n' ∧ NR n' ∧ n' 0 = n 0 ∧ n' 2 = n 2 ∧ n' 7 = n 7 ∧ n' 8 = n 8 ∧ KS n' n) ∧ cnt = cnt')) := by
  obtain ⟨kc0, hkc0, ekc0⟩ := KI.nat hn (show kd 0 = (1, 11, true) by decide)
  obtain ⟨kc2, hkc2, ekc2⟩ := KI.nat hn (show kd 2 = (1, 21, true) by decide)
  obtain ⟨kc7, hkc7, ekc7⟩ := KI.nat hn (show kd 7 = (1, 31, false) by decide)
  obtain ⟨kc8, hkc8, ekc8⟩ := KI.nat hn (show kd 8 = (1, 2001, false) by decide)
  refine pm_enter 0 (by decide) (Nat.le_of_ble_eq_true rfl) rfl (fun G hG hR hF => ?_)
  refine pm_aloadn hG dX12_tell_0 rfl ?_
  refine pm_getf hG dX12_tell_1 (flX12_7 _ rfl) rfl rfl ?_
  refine pm_bipush (v := nI 11) hG dX12_tell_4 (by decide) ?_
  refine pm_ialdN hG dX12_tell_6 rfl (by decide) (by omega) ?_
  obtain ⟨k1, hk1, ek1⟩ := KI.nat hn (show kd 11 = (1, 21, false) by decide)
  refine pm_top (v := nI k1) ek1 ?_
  refine pm_bipush (v := nI 20) hG dX12_tell_7 (by decide) ?_
  refine pm_icmpN_ne (tgt := 18) hG dX12_tell_9 rfl (by omega) (by omega) (fun c2 => ?_) (fun c2 => ?_)
  · refine pm_aloadn hG dX12_tell_18 rfl ?_
    refine pm_getf hG dX12_tell_19 (flX12_7 _ rfl) rfl rfl ?_
    refine pm_sipush (v := nI 2051) hG dX12_tell_22 (by decide) ?_
    refine pm_aloadn hG dX12_tell_25 rfl ?_
    refine pm_getf hG dX12_tell_26 (flX12_7 _ rfl) rfl rfl ?_
    refine pm_bipush (v := nI 11) hG dX12_tell_29 (by decide) ?_
    refine pm_ialdN hG dX12_tell_31 rfl (by decide) (by omega) ?_
    refine pm_top (v := nI k1) ek1 ?_
    refine pm_iaddN (c := k1 + 2051) hG dX12_tell_32 (by omega) ?_
    refine pm_iloadn hG dX12_tell_33 rfl ?_
    refine pm_iastN hG dX12_tell_34 rfl (by decide) (by omega) ?_
    refine mdn_now (fun n_3 en_3 => ?_)
    have hnn_3 := KI.w en_3 hn (okv_f (show kd (k1 + 2051) = (0, 0, false) from (kd_O (by omega))))
    have hrn_3 := NRx.w en_3 hr (by rw [(show kd (k1 + 2051) = (0, 0, false) from (kd_O (by omega)))])
    have ksn_3 := KS.w en_3 KS.rf (by unfold tS; omega)
    have e4 : n_3 0 = nI kc0 := by rw [en_3, pk_un (by omega)]; exact ekc0
    have e5 : n_3 2 = nI kc2 := by rw [en_3, pk_un (by omega)]; exact ekc2
    have e6 : n_3 7 = nI kc7 := by rw [en_3, pk_un (by omega)]; exact ekc7
    have e7 : n_3 8 = nI kc8 := by rw [en_3, pk_un (by omega)]; exact ekc8
    have e8 : n_3 11 = nI k1 := by rw [en_3, pk_un (by omega)]; exact ek1
    have e9 : n_3 (k1 + 2051) = za := by rw [en_3, pk_us]
    refine pm_aloadn hG dX12_tell_35 rfl ?_
    refine pm_getf hG dX12_tell_36 (flX12_7 _ rfl) rfl rfl ?_
    refine pm_bipush (v := nI 11) hG dX12_tell_39 (by decide) ?_
    refine pm_dup2 hG dX12_tell_41 rfl rfl ?_
    refine pm_ialdN hG dX12_tell_42 rfl (by decide) (by omega) ?_
    refine pm_top (v := nI k1) e8 ?_
    refine pm_iconst (v := nI 1) hG dX12_tell_43 (by decide) ?_
    refine pm_iaddN (c := k1 + 1) hG dX12_tell_44 (by omega) ?_
    refine pm_iastN hG dX12_tell_45 rfl (by decide) (by omega) ?_
    refine mdn_now (fun n_10 en_10 => ?_)
    have hnn_10 := KI.w en_10 hnn_3 (okv_n (show kd 11 = (1, 21, false) by decide) (by omega))
    have hrn_10 := NRx.w en_10 hrn_3 (by rw [(show kd 11 = (1, 21, false) by decide)])
    have ksn_10 := KS.w en_10 ksn_3 (by unfold tS; omega)
    have e11 : n_10 0 = nI kc0 := by rw [en_10, pk_un (by omega)]; exact e4
    have e12 : n_10 2 = nI kc2 := by rw [en_10, pk_un (by omega)]; exact e5
    have e13 : n_10 7 = nI kc7 := by rw [en_10, pk_un (by omega)]; exact e6
    have e14 : n_10 8 = nI kc8 := by rw [en_10, pk_un (by omega)]; exact e7
    have e15 : n_10 (k1 + 2051) = za := by rw [en_10, pk_un (by omega)]; exact e9
    have e16 : n_10 11 = nI (k1 + 1) := by rw [en_10, pk_us]
    refine pm_aloadn hG dX12_tell_46 rfl ?_
    refine pm_getf hG dX12_tell_47 (flX12_7 _ rfl) rfl rfl ?_
    refine pm_bipush (v := nI 11) hG dX12_tell_50 (by decide) ?_
    refine pm_ialdN hG dX12_tell_52 rfl (by decide) (by omega) ?_
    refine pm_top (v := nI (k1 + 1)) e16 ?_
    exact pm_iret hG hF dX12_tell_53 rfl (Nat.le_refl _) (Nat.le_refl _) ⟨_, rfl, ⟨_, _, _, rfl, hnn_10, hrn_10, e11.trans ekc0.symm, e12.trans ekc2.symm, e13.trans ekc7.symm, e14.trans ekc8.symm, ksn_10⟩, rfl⟩
  · refine pm_aloadn hG dX12_tell_12 rfl ?_
    refine pm_iconst (v := nI 4) hG dX12_tell_13 (by decide) ?_
    refine pm_callV (As := [.int (nI 4)]) (rest := []) hG hR dX12_tell_14 (lkX12_80 _ rfl) okV_X12_finds rfl rfl (m_finds (d := 1) (by decide) hn hz (by omega)) rfl rfl hdd (Nat.le_refl _) (Nat.le_refl _) (by decide) (pm_ki (fun v17 σ' cnt' hq => ?_))
    obtain ⟨⟨I18, A18, rfl⟩, rfl, fv17⟩ := hq
    exact pm_iret hG hF dX12_tell_17 rfl (Nat.le_refl _) (Nat.le_refl _) ⟨_, rfl, ⟨_, _, _, rfl, hn, hr, ekc0.trans ekc0.symm, ekc2.trans ekc2.symm, ekc7.trans ekc7.symm, ekc8.trans ekc8.symm, KS.rf⟩, rfl⟩

set_option maxRecDepth 100000 in
set_option maxHeartbeats 4000000 in
theorem m_tellsPower {d B cnt p0 t0 : Nat} {σ : pm_S} {I : Nat → Int32} {A : Nat → Nat → Int32} {n k z : Nat → Int32} {ac wt pl im : Int32} {zb : Int32} {ba : Nat} (hdd : 7 ≤ d) (hn : KI n) (hz : SZ z) (ht0 : t0 ≤ 40) (hba : ba < 20) : pm_met mX12_tellsPower d 0 0 B [.ref (B + 54), .int (nI ba), .int zb] cnt (pm_mid σ (md_L B I A n k z ac wt pl (nI p0) (nI t0) im)) (pm_Qi (fun v σ' cnt' => (∃ (I' : Nat → Int32) (A' : Nat → Nat → Int32) (t0' : Nat), σ' = pm_mid σ (md_L B I' A' n k z ac wt pl (nI p0) (nI t0') im) ∧ t0' ≤ 40) ∧ cnt = cnt')) := by
  refine pm_enter 1 (by decide) (Nat.le_of_ble_eq_true rfl) rfl (fun G hG hR hF => ?_)
  refine pm_aloadn hG dX12_tellsPower_0 rfl ?_
  refine pm_bipush (v := nI 13) hG dX12_tellsPower_1 (by decide) ?_
  refine pm_callV (As := [.int (nI 13)]) (rest := []) hG hR dX12_tellsPower_3 (lkX12_286 _ rfl) okV_X12_ran rfl rfl (m_ran (d := 6) (by decide) hn hz (by omega)) rfl rfl hdd (Nat.le_refl _) (Nat.le_refl _) (by decide) (pm_kv (fun σ' cnt' hq => ?_))
  obtain ⟨⟨I2, A2, t2, rfl, ht2⟩, rfl⟩ := hq
  refine pm_aloadn hG dX12_tellsPower_6 rfl ?_
  refine pm_iloadn hG dX12_tellsPower_7 rfl ?_
  refine pm_iloadn hG dX12_tellsPower_8 rfl ?_
  refine pm_callV (As := [.int (nI ba), .int zb]) (rest := []) hG hR dX12_tellsPower_9 (lkX12_304 _ rfl) okV_X12_bindsOf rfl rfl (m_bindsOf (d := 6) (by decide) hn hz (by omega) (by omega)) rfl rfl hdd (Nat.le_refl _) (Nat.le_refl _) (by decide) (pm_ki (fun v3 σ' cnt' hq => ?_))
  obtain ⟨⟨I4, A4, t4, rfl, ht4⟩, rfl⟩ := hq
  refine pm_istoreXn (loc' := [some (.ref (B + 54)), some (.int (nI ba)), some (.int zb), some (.int v3)]) hG dX12_tellsPower_12 (by decide) (pm_c1b rfl) rfl ?_
  refine pm_iloadn hG dX12_tellsPower_13 rfl ?_
  refine pm_aloadn hG dX12_tellsPower_14 rfl ?_
  refine pm_iloadn hG dX12_tellsPower_15 rfl ?_
  refine pm_iloadn hG dX12_tellsPower_16 rfl ?_
  refine pm_callV (As := [.int (nI ba), .int zb]) (rest := [.int v3]) hG hR dX12_tellsPower_17 (lkX12_307 _ rfl) okV_X12_ranksOf rfl rfl (m_ranksOf (d := 6) (by decide) hn hz (by omega) (by omega)) rfl rfl hdd (Nat.le_refl _) (Nat.le_refl _) (Nat.le_of_ble_eq_true rfl) (pm_ki (fun v5 σ' cnt' hq => ?_))
  obtain ⟨⟨I6, A6, t6, rfl, ht6⟩, rfl⟩ := hq
  refine pm_ixor hG dX12_tellsPower_20 ?_
  refine pm_any (fun x7 => ?_)
  exact pm_iret hG hF dX12_tellsPower_21 rfl (Nat.le_refl _) (Nat.le_refl _) ⟨_, rfl, ⟨_, _, _, rfl, by omega⟩, rfl⟩

set_option maxRecDepth 100000 in
set_option maxHeartbeats 4000000 in
theorem m_tellsOffice {d B cnt p0 t0 : Nat} {σ : pm_S} {I : Nat → Int32} {A : Nat → Nat → Int32} {n k z : Nat → Int32} {ac wt pl im : Int32} {zb : Int32} {ba : Nat} (hdd : 8 ≤ d) (hn : KI n) (hz : SZ z) (ht0 : t0 ≤ 40) (hba : ba < 20) : pm_met mX12_tellsOffice d 0 0 B [.ref (B + 54), .int (nI ba), .int zb] cnt (pm_mid σ (md_L B I A n k z ac wt pl (nI p0) (nI t0) im)) (pm_Qi (fun v σ' cnt' => (∃ (I' : Nat → Int32) (A' : Nat → Nat → Int32) (t0' : Nat), σ' = pm_mid σ (md_L B I' A' n k z ac wt pl (nI p0) (nI t0') im) ∧ t0' ≤ 40) ∧ cnt = cnt')) := by
  refine pm_enter 0 (by decide) (Nat.le_of_ble_eq_true rfl) rfl (fun G hG hR hF => ?_)
  refine pm_aloadn hG dX12_tellsOffice_0 rfl ?_
  refine pm_bipush (v := nI 21) hG dX12_tellsOffice_1 (by decide) ?_
  refine pm_callV (As := [.int (nI 21)]) (rest := []) hG hR dX12_tellsOffice_3 (lkX12_286 _ rfl) okV_X12_ran rfl rfl (m_ran (d := 7) (by decide) hn hz (by omega)) rfl rfl hdd (Nat.le_refl _) (Nat.le_refl _) (by decide) (pm_kv (fun σ' cnt' hq => ?_))
  obtain ⟨⟨I2, A2, t2, rfl, ht2⟩, rfl⟩ := hq
  refine pm_aloadn hG dX12_tellsOffice_6 rfl ?_
  refine pm_iloadn hG dX12_tellsOffice_7 rfl ?_
  refine pm_iloadn hG dX12_tellsOffice_8 rfl ?_
  refine pm_iconst (v := nI 1) hG dX12_tellsOffice_9 (by decide) ?_
  refine pm_iadd hG dX12_tellsOffice_10 ?_
  refine pm_callV (As := [.int (nI ba), .int (zb + (nI 1))]) (rest := []) hG hR dX12_tellsOffice_11 (lkX12_310 _ rfl) okV_X12_tellsPower rfl rfl (m_tellsPower (d := 7) (by decide) hn hz (by omega) (by omega)) rfl rfl hdd (Nat.le_refl _) (Nat.le_refl _) (by decide) (pm_ki (fun v3 σ' cnt' hq => ?_))
  obtain ⟨⟨I4, A4, t4, rfl, ht4⟩, rfl⟩ := hq
  exact pm_iret hG hF dX12_tellsOffice_14 rfl (Nat.le_refl _) (Nat.le_refl _) ⟨_, rfl, ⟨_, _, _, rfl, by omega⟩, rfl⟩

set_option maxRecDepth 100000 in
set_option maxHeartbeats 4000000 in
theorem m_tellsOf {d B cnt p0 t0 : Nat} {σ : pm_S} {I : Nat → Int32} {A : Nat → Nat → Int32} {n k z : Nat → Int32} {ac wt pl im : Int32} {zb : Int32} {ba : Nat} (hdd : 9 ≤ d) (hn : KI n) (hz : SZ z) (ht0 : t0 ≤ 40) (hba : ba < 20) : pm_met mX12_tellsOf d 0 0 B [.ref (B + 54), .int (nI ba), .int zb] cnt (pm_mid σ (md_L B I A n k z ac wt pl (nI p0) (nI t0) im)) (pm_Qi (fun v σ' cnt' => (∃ (I' : Nat → Int32) (A' : Nat → Nat → Int32) (t0' : Nat), σ' = pm_mid σ (md_L B I' A' n k z ac wt pl (nI p0) (nI t0') im) ∧ t0' ≤ 40) ∧ cnt = cnt')) := by
  refine pm_enter 2 (by decide) (Nat.le_of_ble_eq_true rfl) rfl (fun G hG hR hF => ?_)
  refine pm_aloadn hG dX12_tellsOf_0 rfl ?_
  refine pm_iloadn hG dX12_tellsOf_1 rfl ?_
  refine pm_iconst (v := nI 0) hG dX12_tellsOf_2 (by decide) ?_
  refine pm_callV (As := [.int (nI ba), .int (nI 0)]) (rest := []) hG hR dX12_tellsOf_3 (lkX12_110 _ rfl) okV_X12_its rfl rfl (m_its (d := 8) (e := 6 * ba + 390) (by omega) (by omega) (by omega)) rfl rfl hdd (Nat.le_refl _) (Nat.le_refl _) (by decide) (pm_ki (fun v1 σ' cnt' hq => ?_))
  obtain ⟨rfl, rfl, rfl⟩ := hq
  refine pm_gen (fun x2 ex2 => ?_)
  refine pm_istoreXn (loc' := [some (.ref (B + 54)), some (.int (nI ba)), some (.int zb), some (.int x2), none]) hG dX12_tellsOf_6 (by decide) (pm_c1b rfl) rfl ?_
  refine pm_iloadn hG dX12_tellsOf_7 rfl ?_
  refine pm_iconst (v := nI 1) hG dX12_tellsOf_8 (by decide) ?_
  refine pm_icmp_eq (tgt := 17) hG dX12_tellsOf_9 rfl (fun c3 => ?_) (fun c3 => ?_)
  · refine pm_aloadn hG dX12_tellsOf_17 rfl ?_
    refine pm_iloadn hG dX12_tellsOf_18 rfl ?_
    refine pm_iloadn hG dX12_tellsOf_19 rfl ?_
    refine pm_callV (As := [.int (nI ba), .int zb]) (rest := []) hG hR dX12_tellsOf_20 (lkX12_313 _ rfl) okV_X12_tellsOffice rfl rfl (m_tellsOffice (d := 8) (by decide) hn hz (by omega) (by omega)) rfl rfl hdd (Nat.le_refl _) (Nat.le_refl _) (by decide) (pm_ki (fun v4 σ' cnt' hq => ?_))
    obtain ⟨⟨I5, A5, t5, rfl, ht5⟩, rfl⟩ := hq
    exact pm_iret hG hF dX12_tellsOf_23 rfl (Nat.le_refl _) (Nat.le_refl _) ⟨_, rfl, ⟨_, _, _, rfl, by omega⟩, rfl⟩
  · refine pm_iloadn hG dX12_tellsOf_12 rfl ?_
    refine pm_iconst (v := nI 3) hG dX12_tellsOf_13 (by decide) ?_
    refine pm_icmp_ne (tgt := 24) hG dX12_tellsOf_14 rfl (fun c6 => ?_) (fun c6 => ?_)
    · refine pm_iloadn hG dX12_tellsOf_24 rfl ?_
      refine pm_iconst (v := nI 4) hG dX12_tellsOf_25 (by decide) ?_
      refine pm_icmp_eq (tgt := 36) hG dX12_tellsOf_26 rfl (fun c7 => ?_) (fun c7 => ?_)
      · refine pm_aloadn hG dX12_tellsOf_36 rfl ?_
        refine pm_bipush (v := nI 51) hG dX12_tellsOf_37 (by decide) ?_
        refine pm_callV (As := [.int (nI 51)]) (rest := []) hG hR dX12_tellsOf_39 (lkX12_286 _ rfl) okV_X12_ran rfl rfl (m_ran (d := 8) (by decide) hn hz (by omega)) rfl rfl hdd (Nat.le_refl _) (Nat.le_refl _) (by decide) (pm_kv (fun σ' cnt' hq => ?_))
        obtain ⟨⟨I9, A9, t9, rfl, ht9⟩, rfl⟩ := hq
        refine pm_aloadn hG dX12_tellsOf_42 rfl ?_
        refine pm_iloadn hG dX12_tellsOf_43 rfl ?_
        refine pm_iloadn hG dX12_tellsOf_44 rfl ?_
        refine pm_callV (As := [.int (nI ba), .int zb]) (rest := []) hG hR dX12_tellsOf_45 (lkX12_307 _ rfl) okV_X12_ranksOf rfl rfl (m_ranksOf (d := 8) (by decide) hn hz (by omega) (by omega)) rfl rfl hdd (Nat.le_refl _) (Nat.le_refl _) (by decide) (pm_ki (fun v10 σ' cnt' hq => ?_))
        obtain ⟨⟨I11, A11, t11, rfl, ht11⟩, rfl⟩ := hq
        refine pm_istoreXi (loc' := [some (.ref (B + 54)), some (.int (nI ba)), some (.int zb), some (.int x2), some (.int v10)]) hG dX12_tellsOf_48 (by decide) (pm_c1b rfl) rfl ?_
        refine pm_iloadi hG dX12_tellsOf_50 rfl ?_
        refine pm_aloadn hG dX12_tellsOf_52 rfl ?_
        refine pm_iloadn hG dX12_tellsOf_53 rfl ?_
        refine pm_iloadn hG dX12_tellsOf_54 rfl ?_
        refine pm_callV (As := [.int (nI ba), .int zb]) (rest := [.int v10]) hG hR dX12_tellsOf_55 (lkX12_313 _ rfl) okV_X12_tellsOffice rfl rfl (m_tellsOffice (d := 8) (by decide) hn hz (by omega) (by omega)) rfl rfl hdd (Nat.le_refl _) (Nat.le_refl _) (Nat.le_of_ble_eq_true rfl) (pm_ki (fun v12 σ' cnt' hq => ?_))
        obtain ⟨⟨I13, A13, t13, rfl, ht13⟩, rfl⟩ := hq
        refine pm_isub hG dX12_tellsOf_58 ?_
        exact pm_iret hG hF dX12_tellsOf_59 rfl (Nat.le_refl _) (Nat.le_refl _) ⟨_, rfl, ⟨_, _, _, rfl, by omega⟩, rfl⟩
      · refine pm_aloadn hG dX12_tellsOf_29 rfl ?_
        refine pm_iloadn hG dX12_tellsOf_30 rfl ?_
        refine pm_iloadn hG dX12_tellsOf_31 rfl ?_
        refine pm_callV (As := [.int (nI ba), .int zb]) (rest := []) hG hR dX12_tellsOf_32 (lkX12_310 _ rfl) okV_X12_tellsPower rfl rfl (m_tellsPower (d := 8) (by decide) hn hz (by omega) (by omega)) rfl rfl hdd (Nat.le_refl _) (Nat.le_refl _) (by decide) (pm_ki (fun v14 σ' cnt' hq => ?_))
        obtain ⟨⟨I15, A15, t15, rfl, ht15⟩, rfl⟩ := hq
        exact pm_iret hG hF dX12_tellsOf_35 rfl (Nat.le_refl _) (Nat.le_refl _) ⟨_, rfl, ⟨_, _, _, rfl, by omega⟩, rfl⟩
    · refine pm_aloadn hG dX12_tellsOf_17 rfl ?_
      refine pm_iloadn hG dX12_tellsOf_18 rfl ?_
      refine pm_iloadn hG dX12_tellsOf_19 rfl ?_
      refine pm_callV (As := [.int (nI ba), .int zb]) (rest := []) hG hR dX12_tellsOf_20 (lkX12_313 _ rfl) okV_X12_tellsOffice rfl rfl (m_tellsOffice (d := 8) (by decide) hn hz (by omega) (by omega)) rfl rfl hdd (Nat.le_refl _) (Nat.le_refl _) (by decide) (pm_ki (fun v16 σ' cnt' hq => ?_))
      obtain ⟨⟨I17, A17, t17, rfl, ht17⟩, rfl⟩ := hq
      exact pm_iret hG hF dX12_tellsOf_23 rfl (Nat.le_refl _) (Nat.le_refl _) ⟨_, rfl, ⟨_, _, _, rfl, by omega⟩, rfl⟩

set_option maxRecDepth 100000 in
set_option maxHeartbeats 4000000 in
theorem m_town {d B cnt p0 t0 : Nat} {σ : pm_S} {I : Nat → Int32} {A : Nat → Nat → Int32} {n k z : Nat → Int32} {ac wt pl im : Int32} (hdd : 2 ≤ d) (hn : KI n) (hr : NR n) (hz : SZ z)  : pm_met mX12_town d 0 0 B [.ref (B + 54)] cnt (pm_mid σ (md_L B I A n k z ac wt pl (nI p0) (nI t0) im)) (pm_Qi (fun v σ' cnt' => (∃ (I' : Nat → Int32) (A' : Nat → Nat → Int32) (n' : Nat → Int32), σ' = pm_mid σ (md_L B I' A' n' k z ac wt pl (nI p0) (nI t0) im) ∧ KI n' ∧ NR n' ∧ n' 2 = n 2 ∧ n' 7 = n 7 ∧ n' 8 = n 8 ∧ KS n' n ∧ v = vT (n 0) ∧ n' 0 = tT (n 0)) ∧ cnt = cnt')) := by
  obtain ⟨kc0, hkc0, ekc0⟩ := KI.nat hn (show kd 0 = (1, 11, true) by decide)
  obtain ⟨kc2, hkc2, ekc2⟩ := KI.nat hn (show kd 2 = (1, 21, true) by decide)
  obtain ⟨kc7, hkc7, ekc7⟩ := KI.nat hn (show kd 7 = (1, 31, false) by decide)
  obtain ⟨kc8, hkc8, ekc8⟩ := KI.nat hn (show kd 8 = (1, 2001, false) by decide)
  refine pm_enter 1 (by decide) (Nat.le_of_ble_eq_true rfl) rfl (fun G hG hR hF => ?_)
  refine pm_aloadn hG dX12_town_0 rfl ?_
  refine pm_getf hG dX12_town_1 (flX12_7 _ rfl) rfl rfl ?_
  refine pm_iconst (v := nI 0) hG dX12_town_4 (by decide) ?_
  refine pm_ialdN hG dX12_town_5 rfl (by decide) (by omega) ?_
  refine pm_top (v := nI kc0) ekc0 ?_
  refine pm_istoreXn (loc' := [some (.ref (B + 54)), some (.int (nI kc0))]) hG dX12_town_6 (by decide) (pm_c1b rfl) rfl ?_
  refine pm_iloadn hG dX12_town_7 rfl ?_
  refine pm_bipush (v := nI 10) hG dX12_town_8 (by decide) ?_
  refine pm_icmpN_ne (tgt := 19) hG dX12_town_10 rfl (by omega) (by omega) (fun c1 => ?_) (fun c1 => ?_)
  · refine pm_aloadn hG dX12_town_19 rfl ?_
    refine pm_getf hG dX12_town_20 (flX12_7 _ rfl) rfl rfl ?_
    refine pm_iconst (v := nI 0) hG dX12_town_23 (by decide) ?_
    refine pm_dup2 hG dX12_town_24 rfl rfl ?_
    refine pm_ialdN hG dX12_town_25 rfl (by decide) (by omega) ?_
    refine pm_top (v := nI kc0) ekc0 ?_
    refine pm_iconst (v := nI 1) hG dX12_town_26 (by decide) ?_
    refine pm_iaddN (c := kc0 + 1) hG dX12_town_27 (by omega) ?_
    refine pm_iastN hG dX12_town_28 rfl (by decide) (by omega) ?_
    refine mdn_now (fun n_2 en_2 => ?_)
    have hnn_2 := KI.w en_2 hn (okv_n (show kd 0 = (1, 11, true) by decide) (by omega))
    have hrn_2 := NRx.town en_2 hr (by omega)
    have ksn_2 := KS.w en_2 KS.rf (by unfold tS; omega)
    have e3 : n_2 2 = nI kc2 := by rw [en_2, pk_un (by omega)]; exact ekc2
    have e4 : n_2 7 = nI kc7 := by rw [en_2, pk_un (by omega)]; exact ekc7
    have e5 : n_2 8 = nI kc8 := by rw [en_2, pk_un (by omega)]; exact ekc8
    have e6 : n_2 0 = nI (kc0 + 1) := by rw [en_2, pk_us]
    refine pm_aloadn hG dX12_town_29 rfl ?_
    refine pm_getf hG dX12_town_30 (flX12_7 _ rfl) rfl rfl ?_
    refine pm_bipush (v := nI 20) hG dX12_town_33 (by decide) ?_
    refine pm_iconst (v := nI 3) hG dX12_town_35 (by decide) ?_
    refine pm_iloadn hG dX12_town_36 rfl ?_
    refine pm_imulN (c := 3 * kc0) hG dX12_town_37 (by omega) ?_
    refine pm_iaddN (c := 3 * kc0 + 20) hG dX12_town_38 (by omega) ?_
    refine pm_iconst (v := nI 0) hG dX12_town_39 (by decide) ?_
    refine pm_iastN hG dX12_town_40 rfl (by decide) (by omega) ?_
    refine mdn_now (fun n_7 en_7 => ?_)
    have hnn_7 := KI.w en_7 hnn_2 (okv_f (show kd (3 * kc0 + 20) = (0, 0, false) from (kd_T (k := kc0) (c := 0) (by omega) (by omega) (by decide))))
    have hrn_7 := NRx.w en_7 hrn_2 (by rw [(show kd (3 * kc0 + 20) = (0, 0, false) from (kd_T (k := kc0) (c := 0) (by omega) (by omega) (by decide)))])
    have ksn_7 := KS.w en_7 ksn_2 (by unfold tS; omega)
    have e8 : n_7 2 = nI kc2 := by rw [en_7, pk_un (by omega)]; exact e3
    have e9 : n_7 7 = nI kc7 := by rw [en_7, pk_un (by omega)]; exact e4
    have e10 : n_7 8 = nI kc8 := by rw [en_7, pk_un (by omega)]; exact e5
    have e11 : n_7 0 = nI (kc0 + 1) := by rw [en_7, pk_un (by omega)]; exact e6
    have e12 : n_7 (3 * kc0 + 20) = nI 0 := by rw [en_7, pk_us]
    refine pm_aloadn hG dX12_town_41 rfl ?_
    refine pm_getf hG dX12_town_42 (flX12_7 _ rfl) rfl rfl ?_
    refine pm_bipush (v := nI 20) hG dX12_town_45 (by decide) ?_
    refine pm_iconst (v := nI 3) hG dX12_town_47 (by decide) ?_
    refine pm_iloadn hG dX12_town_48 rfl ?_
    refine pm_imulN (c := 3 * kc0) hG dX12_town_49 (by omega) ?_
    refine pm_iaddN (c := 3 * kc0 + 20) hG dX12_town_50 (by omega) ?_
    refine pm_iconst (v := nI 1) hG dX12_town_51 (by decide) ?_
    refine pm_iaddN (c := 3 * kc0 + 21) hG dX12_town_52 (by omega) ?_
    refine pm_iconst (v := (-1)) hG dX12_town_53 (by decide) ?_
    refine pm_iastN hG dX12_town_54 rfl (by decide) (by omega) ?_
    refine mdn_now (fun n_13 en_13 => ?_)
    have hnn_13 := KI.w en_13 hnn_7 (okv_m (show kd (3 * kc0 + 21) = (2, 20, false) from (kd_T (k := kc0) (c := 1) (by omega) (by omega) (by decide))))
    have hrn_13 := NRx.w en_13 hrn_7 (by rw [(show kd (3 * kc0 + 21) = (2, 20, false) from (kd_T (k := kc0) (c := 1) (by omega) (by omega) (by decide)))])
    have ksn_13 := KS.w en_13 ksn_7 (by unfold tS; omega)
    have e14 : n_13 2 = nI kc2 := by rw [en_13, pk_un (by omega)]; exact e8
    have e15 : n_13 7 = nI kc7 := by rw [en_13, pk_un (by omega)]; exact e9
    have e16 : n_13 8 = nI kc8 := by rw [en_13, pk_un (by omega)]; exact e10
    have e17 : n_13 0 = nI (kc0 + 1) := by rw [en_13, pk_un (by omega)]; exact e11
    have e18 : n_13 (3 * kc0 + 20) = nI 0 := by rw [en_13, pk_un (by omega)]; exact e12
    have e19 : n_13 (3 * kc0 + 21) = (-1) := by rw [en_13, pk_us]
    refine pm_aloadn hG dX12_town_55 rfl ?_
    refine pm_getf hG dX12_town_56 (flX12_7 _ rfl) rfl rfl ?_
    refine pm_bipush (v := nI 20) hG dX12_town_59 (by decide) ?_
    refine pm_iconst (v := nI 3) hG dX12_town_61 (by decide) ?_
    refine pm_iloadn hG dX12_town_62 rfl ?_
    refine pm_imulN (c := 3 * kc0) hG dX12_town_63 (by omega) ?_
    refine pm_iaddN (c := 3 * kc0 + 20) hG dX12_town_64 (by omega) ?_
    refine pm_iconst (v := nI 2) hG dX12_town_65 (by decide) ?_
    refine pm_iaddN (c := 3 * kc0 + 22) hG dX12_town_66 (by omega) ?_
    refine pm_iconst (v := nI 0) hG dX12_town_67 (by decide) ?_
    refine pm_iastN hG dX12_town_68 rfl (by decide) (by omega) ?_
    refine mdn_now (fun n_20 en_20 => ?_)
    have hnn_20 := KI.w en_20 hnn_13 (okv_f (show kd (3 * kc0 + 22) = (0, 0, false) from (kd_T (k := kc0) (c := 2) (by omega) (by omega) (by decide))))
    have hrn_20 := NRx.w en_20 hrn_13 (by rw [(show kd (3 * kc0 + 22) = (0, 0, false) from (kd_T (k := kc0) (c := 2) (by omega) (by omega) (by decide)))])
    have ksn_20 := KS.w en_20 ksn_13 (by unfold tS; omega)
    have e21 : n_20 2 = nI kc2 := by rw [en_20, pk_un (by omega)]; exact e14
    have e22 : n_20 7 = nI kc7 := by rw [en_20, pk_un (by omega)]; exact e15
    have e23 : n_20 8 = nI kc8 := by rw [en_20, pk_un (by omega)]; exact e16
    have e24 : n_20 0 = nI (kc0 + 1) := by rw [en_20, pk_un (by omega)]; exact e17
    have e25 : n_20 (3 * kc0 + 20) = nI 0 := by rw [en_20, pk_un (by omega)]; exact e18
    have e26 : n_20 (3 * kc0 + 21) = (-1) := by rw [en_20, pk_un (by omega)]; exact e19
    have e27 : n_20 (3 * kc0 + 22) = nI 0 := by rw [en_20, pk_us]
    refine pm_iloadn hG dX12_town_69 rfl ?_
    exact pm_iret hG hF dX12_town_70 rfl (Nat.le_refl _) (Nat.le_refl _) ⟨_, rfl, ⟨_, _, _, rfl, hnn_20, hrn_20, e21.trans ekc2.symm, e22.trans ekc7.symm, e23.trans ekc8.symm, ksn_20, ⟨(vT_ok ekc0 (by omega)).1, e24.trans (vT_ok ekc0 (by omega)).2⟩⟩, rfl⟩
  · refine pm_aloadn hG dX12_town_13 rfl ?_
    refine pm_iconst (v := nI 4) hG dX12_town_14 (by decide) ?_
    refine pm_callV (As := [.int (nI 4)]) (rest := []) hG hR dX12_town_15 (lkX12_80 _ rfl) okV_X12_finds rfl rfl (m_finds (d := 1) (by decide) hn hz (by omega)) rfl rfl hdd (Nat.le_refl _) (Nat.le_refl _) (by decide) (pm_ki (fun v28 σ' cnt' hq => ?_))
    obtain ⟨⟨I29, A29, rfl⟩, rfl, fv28⟩ := hq
    exact pm_iret hG hF dX12_town_18 rfl (Nat.le_refl _) (Nat.le_refl _) ⟨_, rfl, ⟨_, _, _, rfl, hn, hr, ekc2.trans ekc2.symm, ekc7.trans ekc7.symm, ekc8.trans ekc8.symm, KS.rf, ⟨fv28.trans (vT_no ekc0 (by omega) (by omega)).1, (vT_no ekc0 (by omega) (by omega)).2⟩⟩, rfl⟩
