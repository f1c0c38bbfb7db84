set_option maxRecDepth 100000 in
set_option maxHeartbeats 4000000 in
theorem g_X1_winsWithin_k0 {ε : Nat → Int32} {d B cnt : Nat} {kp : pm_KP} {ρ : pm_S} {I : Nat → Int32} {A : Nat → Nat → Int32} {zb zc : Int32} (hdd : 1 ≤ d) (h : gq ε I) : pm_met mX1_winsWithin d 0 0 B [.ref (B + 40), .int 0, .int zb, .int zc] cnt (pm_two (cl_L B kp I A) ρ) (pm_Qi (fun v σ' cnt' => (v = 0 ∨ v = 1) ∧ hvq ε B kp ρ cnt σ' cnt')) := by
  refine pm_enter 0 (by decide) (Nat.le_of_ble_eq_true rfl) rfl (fun G hG hR hF => ?_)
  refine pm_iloadn hG dX1_winsWithin_0 rfl ?_
  refine pm_if_le (tgt := 28) hG dX1_winsWithin_1 rfl (fun _ => ?_) (fun q => absurd q (by decide))
  refine pm_iconst (v := 0) hG dX1_winsWithin_28 (by decide) ?_
  exact pm_zret hG hF dX1_winsWithin_29 rfl (pm_nz (Or.inl rfl)) (Nat.le_refl _) (Nat.le_refl _) ⟨_, rfl, (Or.inl rfl), _, _, rfl, rfl, h⟩

set_option maxRecDepth 100000 in
set_option maxHeartbeats 4000000 in
theorem g_X1_winsDespite_k0 {ε : Nat → Int32} {d B cnt : Nat} {kp : pm_KP} {ρ : pm_S} {I : Nat → Int32} {A : Nat → Nat → Int32} {za zb zd ze : Int32} (hdd : 2 ≤ d) (h : gq ε I) : pm_met mX1_winsDespite d 0 0 B [.ref (B + 40), .int za, .int zb, .int 0, .int zd, .int ze] cnt (pm_two (cl_L B kp I A) ρ) (pm_Qi (fun v σ' cnt' => (v = 0 ∨ v = 1) ∧ hvq ε B kp ρ cnt σ' cnt')) := by
  refine pm_enter 2 (by decide) (Nat.le_of_ble_eq_true rfl) rfl (fun G hG hR hF => ?_)
  refine pm_iloadn hG dX1_winsDespite_0 rfl ?_
  refine pm_if_lt (tgt := 30) hG dX1_winsDespite_1 rfl (fun c1 => ?_) (fun c1 => ?_)
  · refine pm_iconst (v := 0) hG dX1_winsDespite_30 (by decide) ?_
    refine pm_istoreXi (loc' := [some (.ref (B + 40)), some (.int za), some (.int zb), some (.int 0), some (.int zd), some (.int ze), some (.int 0), none]) hG dX1_winsDespite_31 (by decide) (pm_c1b rfl) rfl ?_
    refine pm_iloadi hG dX1_winsDespite_33 rfl ?_
    refine pm_if_eq (tgt := 59) hG dX1_winsDespite_35 rfl (fun _ => ?_) (fun q => absurd q (by decide))
    refine pm_iconst (v := 1) hG dX1_winsDespite_59 (by decide) ?_
    exact pm_zret hG hF dX1_winsDespite_60 rfl (pm_nz (Or.inr rfl)) (Nat.le_refl _) (Nat.le_refl _) ⟨_, rfl, (Or.inr rfl), _, _, rfl, rfl, h⟩
  · refine pm_iloadn hG dX1_winsDespite_4 rfl ?_
    refine pm_aloadn hG dX1_winsDespite_5 rfl ?_
    refine pm_getf hG dX1_winsDespite_6 (flX1_15 _ rfl) rfl rfl ?_
    refine pm_alen (v := 5) hG dX1_winsDespite_9 rfl (by decide) ?_
    refine pm_icmp_ge (tgt := 30) hG dX1_winsDespite_10 rfl (fun c2 => ?_) (fun c2 => ?_)
    · refine pm_iconst (v := 0) hG dX1_winsDespite_30 (by decide) ?_
      refine pm_istoreXi (loc' := [some (.ref (B + 40)), some (.int za), some (.int zb), some (.int 0), some (.int zd), some (.int ze), some (.int 0), none]) hG dX1_winsDespite_31 (by decide) (pm_c1b rfl) rfl ?_
      refine pm_iloadi hG dX1_winsDespite_33 rfl ?_
      refine pm_if_eq (tgt := 59) hG dX1_winsDespite_35 rfl (fun _ => ?_) (fun q => absurd q (by decide))
      refine pm_iconst (v := 1) hG dX1_winsDespite_59 (by decide) ?_
      exact pm_zret hG hF dX1_winsDespite_60 rfl (pm_nz (Or.inr rfl)) (Nat.le_refl _) (Nat.le_refl _) ⟨_, rfl, (Or.inr rfl), _, _, rfl, rfl, h⟩
    · refine pm_iloadn hG dX1_winsDespite_13 rfl ?_
      refine pm_if_lt (tgt := 30) hG dX1_winsDespite_14 rfl (fun c3 => ?_) (fun c3 => ?_)
      · refine pm_iconst (v := 0) hG dX1_winsDespite_30 (by decide) ?_
        refine pm_istoreXi (loc' := [some (.ref (B + 40)), some (.int za), some (.int zb), some (.int 0), some (.int zd), some (.int ze), some (.int 0), none]) hG dX1_winsDespite_31 (by decide) (pm_c1b rfl) rfl ?_
        refine pm_iloadi hG dX1_winsDespite_33 rfl ?_
        refine pm_if_eq (tgt := 59) hG dX1_winsDespite_35 rfl (fun _ => ?_) (fun q => absurd q (by decide))
        refine pm_iconst (v := 1) hG dX1_winsDespite_59 (by decide) ?_
        exact pm_zret hG hF dX1_winsDespite_60 rfl (pm_nz (Or.inr rfl)) (Nat.le_refl _) (Nat.le_refl _) ⟨_, rfl, (Or.inr rfl), _, _, rfl, rfl, h⟩
      · refine pm_iloadn hG dX1_winsDespite_17 rfl ?_
        refine pm_aloadn hG dX1_winsDespite_18 rfl ?_
        refine pm_getf hG dX1_winsDespite_19 (flX1_15 _ rfl) rfl rfl ?_
        refine pm_alen (v := 5) hG dX1_winsDespite_22 rfl (by decide) ?_
        refine pm_icmp_ge (tgt := 30) hG dX1_winsDespite_23 rfl (fun c4 => ?_) (fun c4 => ?_)
        · refine pm_iconst (v := 0) hG dX1_winsDespite_30 (by decide) ?_
          refine pm_istoreXi (loc' := [some (.ref (B + 40)), some (.int za), some (.int zb), some (.int 0), some (.int zd), some (.int ze), some (.int 0), none]) hG dX1_winsDespite_31 (by decide) (pm_c1b rfl) rfl ?_
          refine pm_iloadi hG dX1_winsDespite_33 rfl ?_
          refine pm_if_eq (tgt := 59) hG dX1_winsDespite_35 rfl (fun _ => ?_) (fun q => absurd q (by decide))
          refine pm_iconst (v := 1) hG dX1_winsDespite_59 (by decide) ?_
          exact pm_zret hG hF dX1_winsDespite_60 rfl (pm_nz (Or.inr rfl)) (Nat.le_refl _) (Nat.le_refl _) ⟨_, rfl, (Or.inr rfl), _, _, rfl, rfl, h⟩
        · refine pm_iconst (v := 1) hG dX1_winsDespite_26 (by decide) ?_
          refine pm_goto (tgt := 31) hG dX1_winsDespite_27 rfl ?_
          refine pm_istoreXi (loc' := [some (.ref (B + 40)), some (.int za), some (.int zb), some (.int 0), some (.int zd), some (.int ze), some (.int 1), none]) hG dX1_winsDespite_31 (by decide) (pm_c1b rfl) rfl ?_
          refine pm_iloadi hG dX1_winsDespite_33 rfl ?_
          refine pm_if_eq (tgt := 59) hG dX1_winsDespite_35 rfl (fun q => absurd q (by decide)) (fun _ => ?_)
          refine pm_aloadn hG dX1_winsDespite_38 rfl ?_
          refine pm_getf hG dX1_winsDespite_39 (flX1_15 _ rfl) rfl rfl ?_
          refine pm_iloadn hG dX1_winsDespite_42 rfl ?_
          refine pm_iald hG dX1_winsDespite_43 rfl (pm_ib2 rfl c1 c2) ?_
          refine pm_iconst (v := 1) hG dX1_winsDespite_44 (by decide) ?_
          refine pm_icmp_lt (tgt := 59) hG dX1_winsDespite_45 rfl (fun c5 => ?_) (fun c5 => ?_)
          · refine pm_iconst (v := 1) hG dX1_winsDespite_59 (by decide) ?_
            exact pm_zret hG hF dX1_winsDespite_60 rfl (pm_nz (Or.inr rfl)) (Nat.le_refl _) (Nat.le_refl _) ⟨_, rfl, (Or.inr rfl), _, _, rfl, rfl, h⟩
          · refine pm_aloadn hG dX1_winsDespite_48 rfl ?_
            refine pm_getf hG dX1_winsDespite_49 (flX1_15 _ rfl) rfl rfl ?_
            refine pm_iloadn hG dX1_winsDespite_52 rfl ?_
            refine pm_iald hG dX1_winsDespite_53 rfl (pm_ib2 rfl c3 c4) ?_
            refine pm_bipush (v := 6) hG dX1_winsDespite_54 (by decide) ?_
            refine pm_icmp_lt (tgt := 61) hG dX1_winsDespite_56 rfl (fun c6 => ?_) (fun c6 => ?_)
            · refine pm_aloadn hG dX1_winsDespite_61 rfl ?_
              refine pm_getf hG dX1_winsDespite_62 (flX1_15 _ rfl) rfl rfl ?_
              refine pm_iloadn hG dX1_winsDespite_65 rfl ?_
              refine pm_dup2 hG dX1_winsDespite_66 rfl rfl ?_
              refine pm_iald hG dX1_winsDespite_67 rfl (pm_ib2 rfl c1 c2) ?_
              refine pm_iconst (v := 1) hG dX1_winsDespite_68 (by decide) ?_
              refine pm_isub hG dX1_winsDespite_69 ?_
              refine pm_iast hG dX1_winsDespite_70 rfl (pm_ib2 rfl c1 c2) ?_
              refine nm_a41 (fun A7 => ?_)
              refine pm_aloadn hG dX1_winsDespite_71 rfl ?_
              refine pm_getf hG dX1_winsDespite_72 (flX1_15 _ rfl) rfl rfl ?_
              refine pm_iloadn hG dX1_winsDespite_75 rfl ?_
              refine pm_dup2 hG dX1_winsDespite_76 rfl rfl ?_
              refine pm_iald hG dX1_winsDespite_77 rfl (pm_ib2 rfl c3 c4) ?_
              refine pm_iconst (v := 1) hG dX1_winsDespite_78 (by decide) ?_
              refine pm_iadd hG dX1_winsDespite_79 ?_
              refine pm_iast hG dX1_winsDespite_80 rfl (pm_ib2 rfl c3 c4) ?_
              refine nm_a41 (fun A8 => ?_)
              refine pm_aloadn hG dX1_winsDespite_81 rfl ?_
              refine pm_iloadn hG dX1_winsDespite_82 rfl ?_
              refine pm_iloadi hG dX1_winsDespite_83 rfl ?_
              refine pm_iloadi hG dX1_winsDespite_85 rfl ?_
              refine pm_callV (As := [.int 0, .int zd, .int ze]) (rest := []) hG hR dX1_winsDespite_87 (lkX1_44 _ rfl) okV_X1_winsWithin rfl rfl (g_X1_winsWithin_k0 (d := 1) (by decide) h) rfl rfl hdd (Nat.le_refl _) (Nat.le_refl _) (by decide) (pm_ki (fun v9 σ' cnt' hq => ?_))
              obtain ⟨b9, I9, A9, rfl, rfl, h9⟩ := hq
              refine pm_istoreXi (loc' := [some (.ref (B + 40)), some (.int za), some (.int zb), some (.int 0), some (.int zd), some (.int ze), some (.int 1), some (.int v9)]) hG dX1_winsDespite_90 (by decide) (pm_c1b rfl) rfl ?_
              refine pm_aloadn hG dX1_winsDespite_92 rfl ?_
              refine pm_getf hG dX1_winsDespite_93 (flX1_15 _ rfl) rfl rfl ?_
              refine pm_iloadn hG dX1_winsDespite_96 rfl ?_
              refine pm_dup2 hG dX1_winsDespite_97 rfl rfl ?_
              refine pm_iald hG dX1_winsDespite_98 rfl (pm_ib2 rfl c1 c2) ?_
              refine pm_iconst (v := 1) hG dX1_winsDespite_99 (by decide) ?_
              refine pm_iadd hG dX1_winsDespite_100 ?_
              refine pm_iast hG dX1_winsDespite_101 rfl (pm_ib2 rfl c1 c2) ?_
              refine nm_a41 (fun A10 => ?_)
              refine pm_aloadn hG dX1_winsDespite_102 rfl ?_
              refine pm_getf hG dX1_winsDespite_103 (flX1_15 _ rfl) rfl rfl ?_
              refine pm_iloadn hG dX1_winsDespite_106 rfl ?_
              refine pm_dup2 hG dX1_winsDespite_107 rfl rfl ?_
              refine pm_iald hG dX1_winsDespite_108 rfl (pm_ib2 rfl c3 c4) ?_
              refine pm_iconst (v := 1) hG dX1_winsDespite_109 (by decide) ?_
              refine pm_isub hG dX1_winsDespite_110 ?_
              refine pm_iast hG dX1_winsDespite_111 rfl (pm_ib2 rfl c3 c4) ?_
              refine nm_a41 (fun A11 => ?_)
              refine pm_iloadi hG dX1_winsDespite_112 rfl ?_
              exact pm_zret hG hF dX1_winsDespite_114 rfl (pm_nz b9) (Nat.le_refl _) (Nat.le_refl _) ⟨_, rfl, b9, _, _, rfl, rfl, h9⟩
            · refine pm_iconst (v := 1) hG dX1_winsDespite_59 (by decide) ?_
              exact pm_zret hG hF dX1_winsDespite_60 rfl (pm_nz (Or.inr rfl)) (Nat.le_refl _) (Nat.le_refl _) ⟨_, rfl, (Or.inr rfl), _, _, rfl, rfl, h⟩

set_option maxRecDepth 100000 in
set_option maxHeartbeats 4000000 in
theorem g_X1_winsWhatever_k0 {ε : Nat → Int32} {d B cnt : Nat} {kp : pm_KP} {ρ : pm_S} {I : Nat → Int32} {A : Nat → Nat → Int32} {zb zc : Int32} (hdd : 3 ≤ d) (h : gq ε I) : pm_met mX1_winsWhatever d 0 0 B [.ref (B + 40), .int 0, .int zb, .int zc] cnt (pm_two (cl_L B kp I A) ρ) (pm_Qi (fun v σ' cnt' => (v = 0 ∨ v = 1) ∧ hvq ε B kp ρ cnt σ' cnt')) := by
  refine pm_enter 2 (by decide) (Nat.le_of_ble_eq_true rfl) rfl (fun G hG hR hF => ?_)
  refine pm_aloadn hG dX1_winsWhatever_0 rfl ?_
  refine pm_iloadn hG dX1_winsWhatever_1 rfl ?_
  refine pm_iloadn hG dX1_winsWhatever_2 rfl ?_
  refine pm_iloadn hG dX1_winsWhatever_3 rfl ?_
  refine pm_callV (As := [.int 0, .int zb, .int zc]) (rest := []) hG hR dX1_winsWhatever_4 (lkX1_44 _ rfl) okV_X1_winsWithin rfl rfl (g_X1_winsWithin_k0 (d := 2) (by decide) h) rfl rfl hdd (Nat.le_refl _) (Nat.le_refl _) (by decide) (pm_ki (fun v1 σ' cnt' hq => ?_))
  obtain ⟨b1, I1, A1, rfl, rfl, h1⟩ := hq
  refine pm_istoreXi (loc' := [some (.ref (B + 40)), some (.int 0), some (.int zb), some (.int zc), some (.int v1), none]) hG dX1_winsWhatever_7 (by decide) (pm_c1b rfl) rfl ?_
  refine pm_iconst (v := 0) hG dX1_winsWhatever_9 (by decide) ?_
  refine pm_iloadn hG dX1_winsWhatever_10 rfl ?_
  refine pm_mmax hG hR dX1_winsWhatever_11 (mmX1_47 _ rfl) pm_mwmax (by omega) (by first | decide | exact Nat.le_of_ble_eq_true rfl) (Nat.le_refl _) (Nat.le_refl _) ?_
  refine pm_istoreXi (loc' := [some (.ref (B + 40)), some (.int 0), some (.int zb), some (.int zc), some (.int v1), some (.int (if 0 < zb then zb else 0))]) hG dX1_winsWhatever_14 (by decide) (pm_c1b rfl) rfl ?_
  have loop16 : ∀ (m16 : Nat) (I2 : Nat → Int32) (A2 : Nat → Nat → Int32) (x2_4 x2_5 : Int32), gq ε I2 → (x2_4 = 0 ∨ x2_4 = 1) → ((4 : Int32).toInt - x2_5.toInt).toNat < m16 → pm_wp mX1_winsWhatever G B 16 [some (.ref (B + 40)), some (.int 0), some (.int zb), some (.int zc), some (.int x2_4), some (.int x2_5)] [] 0 0 cnt (pm_two (cl_L B kp I2 A2) ρ) := by
    intro m16
    induction m16 with
    | zero => intro I2 A2 x2_4 x2_5 _ _ hm; exact absurd hm (Nat.not_lt_zero _)
    | succ m16 ih16 =>
      intro I2 A2 x2_4 x2_5 h2 b2_4 hm16
      refine pm_iloadi hG dX1_winsWhatever_16 rfl ?_
      refine pm_aloadn hG dX1_winsWhatever_18 rfl ?_
      refine pm_getf hG dX1_winsWhatever_19 (flX1_15 _ rfl) rfl rfl ?_
      refine pm_alen (v := 5) hG dX1_winsWhatever_22 rfl (by decide) ?_
      refine pm_iconst (v := 1) hG dX1_winsWhatever_23 (by decide) ?_
      refine pm_isub hG dX1_winsWhatever_24 ?_
      refine pm_top (v := 4) (by decide) ?_
      refine pm_icmp_ge (tgt := 78) hG dX1_winsWhatever_25 rfl (fun c3 => ?_) (fun c3 => ?_)
      · refine pm_iloadi hG dX1_winsWhatever_78 rfl ?_
        exact pm_zret hG hF dX1_winsWhatever_80 rfl (pm_nz b2_4) (Nat.le_refl _) (Nat.le_refl _) ⟨_, rfl, b2_4, _, _, rfl, rfl, h2⟩
      · refine pm_iloadi hG dX1_winsWhatever_28 rfl ?_
        refine pm_if_eq (tgt := 78) hG dX1_winsWhatever_30 rfl (fun c4 => ?_) (fun c4 => ?_)
        · refine pm_iloadi hG dX1_winsWhatever_78 rfl ?_
          exact pm_zret hG hF dX1_winsWhatever_80 rfl (pm_nz b2_4) (Nat.le_refl _) (Nat.le_refl _) ⟨_, rfl, b2_4, _, _, rfl, rfl, h2⟩
        · refine pm_aloadn hG dX1_winsWhatever_33 rfl ?_
          refine pm_iloadi hG dX1_winsWhatever_34 rfl ?_
          refine pm_iloadi hG dX1_winsWhatever_36 rfl ?_
          refine pm_iconst (v := 1) hG dX1_winsWhatever_38 (by decide) ?_
          refine pm_iadd hG dX1_winsWhatever_39 ?_
          refine pm_iloadn hG dX1_winsWhatever_40 rfl ?_
          refine pm_iloadn hG dX1_winsWhatever_41 rfl ?_
          refine pm_iloadn hG dX1_winsWhatever_42 rfl ?_
          refine pm_callV (As := [.int x2_5, .int (x2_5 + 1), .int 0, .int zb, .int zc]) (rest := []) hG hR dX1_winsWhatever_43 (lkX1_52 _ rfl) okV_X1_winsDespite rfl rfl (g_X1_winsDespite_k0 (d := 2) (by decide) h2) rfl rfl hdd (Nat.le_refl _) (Nat.le_refl _) (by decide) (pm_ki (fun v5 σ' cnt' hq => ?_))
          obtain ⟨b5, I5, A5, rfl, rfl, h5⟩ := hq
          refine pm_if_eq (tgt := 69) hG dX1_winsWhatever_46 rfl (fun c6 => ?_) (fun c6 => ?_)
          · refine pm_iconst (v := 0) hG dX1_winsWhatever_69 (by decide) ?_
            refine pm_istoreXi (loc' := [some (.ref (B + 40)), some (.int 0), some (.int zb), some (.int zc), some (.int 0), some (.int x2_5)]) hG dX1_winsWhatever_70 (by decide) (pm_c1b rfl) rfl ?_
            refine pm_iincX (v := x2_5 + 1) (loc' := [some (.ref (B + 40)), some (.int 0), some (.int zb), some (.int zc), some (.int 0), some (.int (x2_5 + 1))]) hG dX1_winsWhatever_72 rfl (by rfl) (by decide) (pm_c1b rfl) rfl ?_
            refine pm_goto (tgt := 16) hG dX1_winsWhatever_75 rfl ?_
            exact ih16 _ _ 0 (x2_5 + 1) h5 (Or.inl rfl) (Nat.lt_of_lt_of_le (pm_mu1 c3) (Nat.le_of_lt_succ hm16))
          · refine pm_aloadn hG dX1_winsWhatever_49 rfl ?_
            refine pm_iloadi hG dX1_winsWhatever_50 rfl ?_
            refine pm_iconst (v := 1) hG dX1_winsWhatever_52 (by decide) ?_
            refine pm_iadd hG dX1_winsWhatever_53 ?_
            refine pm_iloadi hG dX1_winsWhatever_54 rfl ?_
            refine pm_iloadn hG dX1_winsWhatever_56 rfl ?_
            refine pm_iloadn hG dX1_winsWhatever_57 rfl ?_
            refine pm_iloadn hG dX1_winsWhatever_58 rfl ?_
            refine pm_callV (As := [.int (x2_5 + 1), .int x2_5, .int 0, .int zb, .int zc]) (rest := []) hG hR dX1_winsWhatever_59 (lkX1_52 _ rfl) okV_X1_winsDespite rfl rfl (g_X1_winsDespite_k0 (d := 2) (by decide) h5) rfl rfl hdd (Nat.le_refl _) (Nat.le_refl _) (by decide) (pm_ki (fun v7 σ' cnt' hq => ?_))
            obtain ⟨b7, I7, A7, rfl, rfl, h7⟩ := hq
            refine pm_if_eq (tgt := 69) hG dX1_winsWhatever_62 rfl (fun c8 => ?_) (fun c8 => ?_)
            · refine pm_iconst (v := 0) hG dX1_winsWhatever_69 (by decide) ?_
              refine pm_istoreXi (loc' := [some (.ref (B + 40)), some (.int 0), some (.int zb), some (.int zc), some (.int 0), some (.int x2_5)]) hG dX1_winsWhatever_70 (by decide) (pm_c1b rfl) rfl ?_
              refine pm_iincX (v := x2_5 + 1) (loc' := [some (.ref (B + 40)), some (.int 0), some (.int zb), some (.int zc), some (.int 0), some (.int (x2_5 + 1))]) hG dX1_winsWhatever_72 rfl (by rfl) (by decide) (pm_c1b rfl) rfl ?_
              refine pm_goto (tgt := 16) hG dX1_winsWhatever_75 rfl ?_
              exact ih16 _ _ 0 (x2_5 + 1) h7 (Or.inl rfl) (Nat.lt_of_lt_of_le (pm_mu1 c3) (Nat.le_of_lt_succ hm16))
            · refine pm_iconst (v := 1) hG dX1_winsWhatever_65 (by decide) ?_
              refine pm_goto (tgt := 70) hG dX1_winsWhatever_66 rfl ?_
              refine pm_istoreXi (loc' := [some (.ref (B + 40)), some (.int 0), some (.int zb), some (.int zc), some (.int 1), some (.int x2_5)]) hG dX1_winsWhatever_70 (by decide) (pm_c1b rfl) rfl ?_
              refine pm_iincX (v := x2_5 + 1) (loc' := [some (.ref (B + 40)), some (.int 0), some (.int zb), some (.int zc), some (.int 1), some (.int (x2_5 + 1))]) hG dX1_winsWhatever_72 rfl (by rfl) (by decide) (pm_c1b rfl) rfl ?_
              refine pm_goto (tgt := 16) hG dX1_winsWhatever_75 rfl ?_
              exact ih16 _ _ 1 (x2_5 + 1) h7 (Or.inr rfl) (Nat.lt_of_lt_of_le (pm_mu1 c3) (Nat.le_of_lt_succ hm16))
  exact loop16 _ _ _ v1 (if 0 < zb then zb else 0) h1 b1 (Nat.lt_succ_self _)

set_option maxRecDepth 100000 in
set_option maxHeartbeats 4000000 in
theorem g_X1_winsByTaking_k1 {ε : Nat → Int32} {d B cnt : Nat} {kp : pm_KP} {ρ : pm_S} {I : Nat → Int32} {A : Nat → Nat → Int32} {zb zc : Int32} (hdd : 4 ≤ d) (h : gq ε I) : pm_met mX1_winsByTaking d 0 0 B [.ref (B + 40), .int 1, .int zb, .int zc] cnt (pm_two (cl_L B kp I A) ρ) (pm_Qi (fun v σ' cnt' => (v = 0 ∨ v = 1) ∧ hvq ε B kp ρ cnt σ' cnt')) := by
  refine pm_enter 0 (by decide) (Nat.le_of_ble_eq_true rfl) rfl (fun G hG hR hF => ?_)
  refine pm_iloadn hG dX1_winsByTaking_0 rfl ?_
  refine pm_if_lt (tgt := 23) hG dX1_winsByTaking_1 rfl (fun c1 => ?_) (fun c1 => ?_)
  · refine pm_iconst (v := 0) hG dX1_winsByTaking_23 (by decide) ?_
    exact pm_zret hG hF dX1_winsByTaking_24 rfl (pm_nz (Or.inl rfl)) (Nat.le_refl _) (Nat.le_refl _) ⟨_, rfl, (Or.inl rfl), _, _, rfl, rfl, h⟩
  · refine pm_iloadn hG dX1_winsByTaking_4 rfl ?_
    refine pm_aloadn hG dX1_winsByTaking_5 rfl ?_
    refine pm_getf hG dX1_winsByTaking_6 (flX1_15 _ rfl) rfl rfl ?_
    refine pm_alen (v := 5) hG dX1_winsByTaking_9 rfl (by decide) ?_
    refine pm_icmp_ge (tgt := 23) hG dX1_winsByTaking_10 rfl (fun c2 => ?_) (fun c2 => ?_)
    · refine pm_iconst (v := 0) hG dX1_winsByTaking_23 (by decide) ?_
      exact pm_zret hG hF dX1_winsByTaking_24 rfl (pm_nz (Or.inl rfl)) (Nat.le_refl _) (Nat.le_refl _) ⟨_, rfl, (Or.inl rfl), _, _, rfl, rfl, h⟩
    · refine pm_iloadn hG dX1_winsByTaking_13 rfl ?_
      refine pm_aloadn hG dX1_winsByTaking_14 rfl ?_
      refine pm_getf hG dX1_winsByTaking_15 (flX1_15 _ rfl) rfl rfl ?_
      refine pm_iloadn hG dX1_winsByTaking_18 rfl ?_
      refine pm_iald hG dX1_winsByTaking_19 rfl (pm_ib2 rfl c1 c2) ?_
      refine pm_icmp_gt (tgt := 25) hG dX1_winsByTaking_20 rfl (fun c3 => ?_) (fun c3 => ?_)
      · refine pm_iloadn hG dX1_winsByTaking_25 rfl ?_
        refine pm_aloadn hG dX1_winsByTaking_26 rfl ?_
        refine pm_getf hG dX1_winsByTaking_27 (flX1_19 _ rfl) rfl rfl ?_
        refine pm_icmp_eq (tgt := 54) hG dX1_winsByTaking_30 rfl (fun c4 => ?_) (fun c4 => ?_)
        · refine pm_iconst (v := 1) hG dX1_winsByTaking_54 (by decide) ?_
          refine pm_goto (tgt := 59) hG dX1_winsByTaking_55 rfl ?_
          exact pm_zret hG hF dX1_winsByTaking_59 rfl (pm_nz (Or.inr rfl)) (Nat.le_refl _) (Nat.le_refl _) ⟨_, rfl, (Or.inr rfl), _, _, rfl, rfl, h⟩
        · refine pm_aloadn hG dX1_winsByTaking_33 rfl ?_
          refine pm_iloadn hG dX1_winsByTaking_34 rfl ?_
          refine pm_iconst (v := 1) hG dX1_winsByTaking_35 (by decide) ?_
          refine pm_isub hG dX1_winsByTaking_36 ?_
          refine pm_top (v := 0) (by decide) ?_
          refine pm_iloadn hG dX1_winsByTaking_37 rfl ?_
          refine pm_iconst (v := 1) hG dX1_winsByTaking_38 (by decide) ?_
          refine pm_iadd hG dX1_winsByTaking_39 ?_
          refine pm_iloadn hG dX1_winsByTaking_40 rfl ?_
          refine pm_aloadn hG dX1_winsByTaking_41 rfl ?_
          refine pm_getf hG dX1_winsByTaking_42 (flX1_15 _ rfl) rfl rfl ?_
          refine pm_iloadn hG dX1_winsByTaking_45 rfl ?_
          refine pm_iald hG dX1_winsByTaking_46 rfl (pm_ib2 rfl c1 c2) ?_
          refine pm_isub hG dX1_winsByTaking_47 ?_
          refine pm_callV (As := [.int 0, .int (zb + 1), .int (zc - ((A 41) zb.toNatClampNeg))]) (rest := []) hG hR dX1_winsByTaking_48 (lkX1_41 _ rfl) okV_X1_winsWhatever rfl rfl (g_X1_winsWhatever_k0 (d := 3) (by decide) h) rfl rfl hdd (Nat.le_refl _) (Nat.le_refl _) (by decide) (pm_ki (fun v5 σ' cnt' hq => ?_))
          obtain ⟨b5, I5, A5, rfl, rfl, h5⟩ := hq
          refine pm_if_eq (tgt := 58) hG dX1_winsByTaking_51 rfl (fun c6 => ?_) (fun c6 => ?_)
          · refine pm_iconst (v := 0) hG dX1_winsByTaking_58 (by decide) ?_
            exact pm_zret hG hF dX1_winsByTaking_59 rfl (pm_nz (Or.inl rfl)) (Nat.le_refl _) (Nat.le_refl _) ⟨_, rfl, (Or.inl rfl), _, _, rfl, rfl, h5⟩
          · refine pm_iconst (v := 1) hG dX1_winsByTaking_54 (by decide) ?_
            refine pm_goto (tgt := 59) hG dX1_winsByTaking_55 rfl ?_
            exact pm_zret hG hF dX1_winsByTaking_59 rfl (pm_nz (Or.inr rfl)) (Nat.le_refl _) (Nat.le_refl _) ⟨_, rfl, (Or.inr rfl), _, _, rfl, rfl, h5⟩
      · refine pm_iconst (v := 0) hG dX1_winsByTaking_23 (by decide) ?_
        exact pm_zret hG hF dX1_winsByTaking_24 rfl (pm_nz (Or.inl rfl)) (Nat.le_refl _) (Nat.le_refl _) ⟨_, rfl, (Or.inl rfl), _, _, rfl, rfl, h⟩

set_option maxRecDepth 100000 in
set_option maxHeartbeats 4000000 in
theorem g_X1_winsByWaiting_k1 {ε : Nat → Int32} {d B cnt : Nat} {kp : pm_KP} {ρ : pm_S} {I : Nat → Int32} {A : Nat → Nat → Int32} {zb zc : Int32} (hdd : 4 ≤ d) (h : gq ε I) : pm_met mX1_winsByWaiting d 0 0 B [.ref (B + 40), .int 1, .int zb, .int zc] cnt (pm_two (cl_L B kp I A) ρ) (pm_Qi (fun v σ' cnt' => (v = 0 ∨ v = 1) ∧ hvq ε B kp ρ cnt σ' cnt')) := by
  refine pm_enter 0 (by decide) (Nat.le_of_ble_eq_true rfl) rfl (fun G hG hR hF => ?_)
  refine pm_aloadn hG dX1_winsByWaiting_0 rfl ?_
  refine pm_iloadn hG dX1_winsByWaiting_1 rfl ?_
  refine pm_iconst (v := 1) hG dX1_winsByWaiting_2 (by decide) ?_
  refine pm_isub hG dX1_winsByWaiting_3 ?_
  refine pm_top (v := 0) (by decide) ?_
  refine pm_iloadn hG dX1_winsByWaiting_4 rfl ?_
  refine pm_iloadn hG dX1_winsByWaiting_5 rfl ?_
  refine pm_callV (As := [.int 0, .int zb, .int zc]) (rest := []) hG hR dX1_winsByWaiting_6 (lkX1_41 _ rfl) okV_X1_winsWhatever rfl rfl (g_X1_winsWhatever_k0 (d := 3) (by decide) h) rfl rfl hdd (Nat.le_refl _) (Nat.le_refl _) (by decide) (pm_ki (fun v1 σ' cnt' hq => ?_))
  obtain ⟨b1, I1, A1, rfl, rfl, h1⟩ := hq
  exact pm_zret hG hF dX1_winsByWaiting_9 rfl (pm_nz b1) (Nat.le_refl _) (Nat.le_refl _) ⟨_, rfl, b1, _, _, rfl, rfl, h1⟩

set_option maxRecDepth 100000 in
set_option maxHeartbeats 4000000 in
theorem g_X1_winsWithin_k1 {ε : Nat → Int32} {d B cnt : Nat} {kp : pm_KP} {ρ : pm_S} {I : Nat → Int32} {A : Nat → Nat → Int32} {zb zc : Int32} (hdd : 5 ≤ d) (h : gq ε I) : pm_met mX1_winsWithin d 0 0 B [.ref (B + 40), .int 1, .int zb, .int zc] cnt (pm_two (cl_L B kp I A) ρ) (pm_Qi (fun v σ' cnt' => (v = 0 ∨ v = 1) ∧ hvq ε B kp ρ cnt σ' cnt')) := by
  refine pm_enter 0 (by decide) (Nat.le_of_ble_eq_true rfl) rfl (fun G hG hR hF => ?_)
  refine pm_iloadn hG dX1_winsWithin_0 rfl ?_
  refine pm_if_le (tgt := 28) hG dX1_winsWithin_1 rfl (fun q => absurd q (by decide)) (fun _ => ?_)
  refine pm_aloadn hG dX1_winsWithin_4 rfl ?_
  refine pm_iloadn hG dX1_winsWithin_5 rfl ?_
  refine pm_iloadn hG dX1_winsWithin_6 rfl ?_
  refine pm_iloadn hG dX1_winsWithin_7 rfl ?_
  refine pm_callV (As := [.int 1, .int zb, .int zc]) (rest := []) hG hR dX1_winsWithin_8 (lkX1_34 _ rfl) okV_X1_winsByTaking rfl rfl (g_X1_winsByTaking_k1 (d := 4) (by decide) h) rfl rfl hdd (Nat.le_refl _) (Nat.le_refl _) (by decide) (pm_ki (fun v1 σ' cnt' hq => ?_))
  obtain ⟨b1, I1, A1, rfl, rfl, h1⟩ := hq
  refine pm_if_ne (tgt := 24) hG dX1_winsWithin_11 rfl (fun c2 => ?_) (fun c2 => ?_)
  · refine pm_iconst (v := 1) hG dX1_winsWithin_24 (by decide) ?_
    refine pm_goto (tgt := 29) hG dX1_winsWithin_25 rfl ?_
    exact pm_zret hG hF dX1_winsWithin_29 rfl (pm_nz (Or.inr rfl)) (Nat.le_refl _) (Nat.le_refl _) ⟨_, rfl, (Or.inr rfl), _, _, rfl, rfl, h1⟩
  · refine pm_aloadn hG dX1_winsWithin_14 rfl ?_
    refine pm_iloadn hG dX1_winsWithin_15 rfl ?_
    refine pm_iloadn hG dX1_winsWithin_16 rfl ?_
    refine pm_iloadn hG dX1_winsWithin_17 rfl ?_
    refine pm_callV (As := [.int 1, .int zb, .int zc]) (rest := []) hG hR dX1_winsWithin_18 (lkX1_38 _ rfl) okV_X1_winsByWaiting rfl rfl (g_X1_winsByWaiting_k1 (d := 4) (by decide) h1) rfl rfl hdd (Nat.le_refl _) (Nat.le_refl _) (by decide) (pm_ki (fun v3 σ' cnt' hq => ?_))
    obtain ⟨b3, I3, A3, rfl, rfl, h3⟩ := hq
    refine pm_if_eq (tgt := 28) hG dX1_winsWithin_21 rfl (fun c4 => ?_) (fun c4 => ?_)
    · refine pm_iconst (v := 0) hG dX1_winsWithin_28 (by decide) ?_
      exact pm_zret hG hF dX1_winsWithin_29 rfl (pm_nz (Or.inl rfl)) (Nat.le_refl _) (Nat.le_refl _) ⟨_, rfl, (Or.inl rfl), _, _, rfl, rfl, h3⟩
    · refine pm_iconst (v := 1) hG dX1_winsWithin_24 (by decide) ?_
      refine pm_goto (tgt := 29) hG dX1_winsWithin_25 rfl ?_
      exact pm_zret hG hF dX1_winsWithin_29 rfl (pm_nz (Or.inr rfl)) (Nat.le_refl _) (Nat.le_refl _) ⟨_, rfl, (Or.inr rfl), _, _, rfl, rfl, h3⟩

set_option maxRecDepth 100000 in
set_option maxHeartbeats 4000000 in
theorem g_X1_winsDespite_k1 {ε : Nat → Int32} {d B cnt : Nat} {kp : pm_KP} {ρ : pm_S} {I : Nat → Int32} {A : Nat → Nat → Int32} {za zb zd ze : Int32} (hdd : 6 ≤ d) (h : gq ε I) : pm_met mX1_winsDespite d 0 0 B [.ref (B + 40), .int za, .int zb, .int 1, .int zd, .int ze] cnt (pm_two (cl_L B kp I A) ρ) (pm_Qi (fun v σ' cnt' => (v = 0 ∨ v = 1) ∧ hvq ε B kp ρ cnt σ' cnt')) := by
  refine pm_enter 2 (by decide) (Nat.le_of_ble_eq_true rfl) rfl (fun G hG hR hF => ?_)
  refine pm_iloadn hG dX1_winsDespite_0 rfl ?_
  refine pm_if_lt (tgt := 30) hG dX1_winsDespite_1 rfl (fun c1 => ?_) (fun c1 => ?_)
  · refine pm_iconst (v := 0) hG dX1_winsDespite_30 (by decide) ?_
    refine pm_istoreXi (loc' := [some (.ref (B + 40)), some (.int za), some (.int zb), some (.int 1), some (.int zd), some (.int ze), some (.int 0), none]) hG dX1_winsDespite_31 (by decide) (pm_c1b rfl) rfl ?_
    refine pm_iloadi hG dX1_winsDespite_33 rfl ?_
    refine pm_if_eq (tgt := 59) hG dX1_winsDespite_35 rfl (fun _ => ?_) (fun q => absurd q (by decide))
    refine pm_iconst (v := 1) hG dX1_winsDespite_59 (by decide) ?_
    exact pm_zret hG hF dX1_winsDespite_60 rfl (pm_nz (Or.inr rfl)) (Nat.le_refl _) (Nat.le_refl _) ⟨_, rfl, (Or.inr rfl), _, _, rfl, rfl, h⟩
  · refine pm_iloadn hG dX1_winsDespite_4 rfl ?_
    refine pm_aloadn hG dX1_winsDespite_5 rfl ?_
    refine pm_getf hG dX1_winsDespite_6 (flX1_15 _ rfl) rfl rfl ?_
    refine pm_alen (v := 5) hG dX1_winsDespite_9 rfl (by decide) ?_
    refine pm_icmp_ge (tgt := 30) hG dX1_winsDespite_10 rfl (fun c2 => ?_) (fun c2 => ?_)
    · refine pm_iconst (v := 0) hG dX1_winsDespite_30 (by decide) ?_
      refine pm_istoreXi (loc' := [some (.ref (B + 40)), some (.int za), some (.int zb), some (.int 1), some (.int zd), some (.int ze), some (.int 0), none]) hG dX1_winsDespite_31 (by decide) (pm_c1b rfl) rfl ?_
      refine pm_iloadi hG dX1_winsDespite_33 rfl ?_
      refine pm_if_eq (tgt := 59) hG dX1_winsDespite_35 rfl (fun _ => ?_) (fun q => absurd q (by decide))
      refine pm_iconst (v := 1) hG dX1_winsDespite_59 (by decide) ?_
      exact pm_zret hG hF dX1_winsDespite_60 rfl (pm_nz (Or.inr rfl)) (Nat.le_refl _) (Nat.le_refl _) ⟨_, rfl, (Or.inr rfl), _, _, rfl, rfl, h⟩
    · refine pm_iloadn hG dX1_winsDespite_13 rfl ?_
      refine pm_if_lt (tgt := 30) hG dX1_winsDespite_14 rfl (fun c3 => ?_) (fun c3 => ?_)
      · refine pm_iconst (v := 0) hG dX1_winsDespite_30 (by decide) ?_
        refine pm_istoreXi (loc' := [some (.ref (B + 40)), some (.int za), some (.int zb), some (.int 1), some (.int zd), some (.int ze), some (.int 0), none]) hG dX1_winsDespite_31 (by decide) (pm_c1b rfl) rfl ?_
        refine pm_iloadi hG dX1_winsDespite_33 rfl ?_
        refine pm_if_eq (tgt := 59) hG dX1_winsDespite_35 rfl (fun _ => ?_) (fun q => absurd q (by decide))
        refine pm_iconst (v := 1) hG dX1_winsDespite_59 (by decide) ?_
        exact pm_zret hG hF dX1_winsDespite_60 rfl (pm_nz (Or.inr rfl)) (Nat.le_refl _) (Nat.le_refl _) ⟨_, rfl, (Or.inr rfl), _, _, rfl, rfl, h⟩
      · refine pm_iloadn hG dX1_winsDespite_17 rfl ?_
        refine pm_aloadn hG dX1_winsDespite_18 rfl ?_
        refine pm_getf hG dX1_winsDespite_19 (flX1_15 _ rfl) rfl rfl ?_
        refine pm_alen (v := 5) hG dX1_winsDespite_22 rfl (by decide) ?_
        refine pm_icmp_ge (tgt := 30) hG dX1_winsDespite_23 rfl (fun c4 => ?_) (fun c4 => ?_)
        · refine pm_iconst (v := 0) hG dX1_winsDespite_30 (by decide) ?_
          refine pm_istoreXi (loc' := [some (.ref (B + 40)), some (.int za), some (.int zb), some (.int 1), some (.int zd), some (.int ze), some (.int 0), none]) hG dX1_winsDespite_31 (by decide) (pm_c1b rfl) rfl ?_
          refine pm_iloadi hG dX1_winsDespite_33 rfl ?_
          refine pm_if_eq (tgt := 59) hG dX1_winsDespite_35 rfl (fun _ => ?_) (fun q => absurd q (by decide))
          refine pm_iconst (v := 1) hG dX1_winsDespite_59 (by decide) ?_
          exact pm_zret hG hF dX1_winsDespite_60 rfl (pm_nz (Or.inr rfl)) (Nat.le_refl _) (Nat.le_refl _) ⟨_, rfl, (Or.inr rfl), _, _, rfl, rfl, h⟩
        · refine pm_iconst (v := 1) hG dX1_winsDespite_26 (by decide) ?_
          refine pm_goto (tgt := 31) hG dX1_winsDespite_27 rfl ?_
          refine pm_istoreXi (loc' := [some (.ref (B + 40)), some (.int za), some (.int zb), some (.int 1), some (.int zd), some (.int ze), some (.int 1), none]) hG dX1_winsDespite_31 (by decide) (pm_c1b rfl) rfl ?_
          refine pm_iloadi hG dX1_winsDespite_33 rfl ?_
          refine pm_if_eq (tgt := 59) hG dX1_winsDespite_35 rfl (fun q => absurd q (by decide)) (fun _ => ?_)
          refine pm_aloadn hG dX1_winsDespite_38 rfl ?_
          refine pm_getf hG dX1_winsDespite_39 (flX1_15 _ rfl) rfl rfl ?_
          refine pm_iloadn hG dX1_winsDespite_42 rfl ?_
          refine pm_iald hG dX1_winsDespite_43 rfl (pm_ib2 rfl c1 c2) ?_
          refine pm_iconst (v := 1) hG dX1_winsDespite_44 (by decide) ?_
          refine pm_icmp_lt (tgt := 59) hG dX1_winsDespite_45 rfl (fun c5 => ?_) (fun c5 => ?_)
          · refine pm_iconst (v := 1) hG dX1_winsDespite_59 (by decide) ?_
            exact pm_zret hG hF dX1_winsDespite_60 rfl (pm_nz (Or.inr rfl)) (Nat.le_refl _) (Nat.le_refl _) ⟨_, rfl, (Or.inr rfl), _, _, rfl, rfl, h⟩
          · refine pm_aloadn hG dX1_winsDespite_48 rfl ?_
            refine pm_getf hG dX1_winsDespite_49 (flX1_15 _ rfl) rfl rfl ?_
            refine pm_iloadn hG dX1_winsDespite_52 rfl ?_
            refine pm_iald hG dX1_winsDespite_53 rfl (pm_ib2 rfl c3 c4) ?_
            refine pm_bipush (v := 6) hG dX1_winsDespite_54 (by decide) ?_
            refine pm_icmp_lt (tgt := 61) hG dX1_winsDespite_56 rfl (fun c6 => ?_) (fun c6 => ?_)
            · refine pm_aloadn hG dX1_winsDespite_61 rfl ?_
              refine pm_getf hG dX1_winsDespite_62 (flX1_15 _ rfl) rfl rfl ?_
              refine pm_iloadn hG dX1_winsDespite_65 rfl ?_
              refine pm_dup2 hG dX1_winsDespite_66 rfl rfl ?_
              refine pm_iald hG dX1_winsDespite_67 rfl (pm_ib2 rfl c1 c2) ?_
              refine pm_iconst (v := 1) hG dX1_winsDespite_68 (by decide) ?_
              refine pm_isub hG dX1_winsDespite_69 ?_
              refine pm_iast hG dX1_winsDespite_70 rfl (pm_ib2 rfl c1 c2) ?_
              refine nm_a41 (fun A7 => ?_)
              refine pm_aloadn hG dX1_winsDespite_71 rfl ?_
              refine pm_getf hG dX1_winsDespite_72 (flX1_15 _ rfl) rfl rfl ?_
              refine pm_iloadn hG dX1_winsDespite_75 rfl ?_
              refine pm_dup2 hG dX1_winsDespite_76 rfl rfl ?_
              refine pm_iald hG dX1_winsDespite_77 rfl (pm_ib2 rfl c3 c4) ?_
              refine pm_iconst (v := 1) hG dX1_winsDespite_78 (by decide) ?_
              refine pm_iadd hG dX1_winsDespite_79 ?_
              refine pm_iast hG dX1_winsDespite_80 rfl (pm_ib2 rfl c3 c4) ?_
              refine nm_a41 (fun A8 => ?_)
              refine pm_aloadn hG dX1_winsDespite_81 rfl ?_
              refine pm_iloadn hG dX1_winsDespite_82 rfl ?_
              refine pm_iloadi hG dX1_winsDespite_83 rfl ?_
              refine pm_iloadi hG dX1_winsDespite_85 rfl ?_
              refine pm_callV (As := [.int 1, .int zd, .int ze]) (rest := []) hG hR dX1_winsDespite_87 (lkX1_44 _ rfl) okV_X1_winsWithin rfl rfl (g_X1_winsWithin_k1 (d := 5) (by decide) h) rfl rfl hdd (Nat.le_refl _) (Nat.le_refl _) (by decide) (pm_ki (fun v9 σ' cnt' hq => ?_))
              obtain ⟨b9, I9, A9, rfl, rfl, h9⟩ := hq
              refine pm_istoreXi (loc' := [some (.ref (B + 40)), some (.int za), some (.int zb), some (.int 1), some (.int zd), some (.int ze), some (.int 1), some (.int v9)]) hG dX1_winsDespite_90 (by decide) (pm_c1b rfl) rfl ?_
              refine pm_aloadn hG dX1_winsDespite_92 rfl ?_
              refine pm_getf hG dX1_winsDespite_93 (flX1_15 _ rfl) rfl rfl ?_
              refine pm_iloadn hG dX1_winsDespite_96 rfl ?_
              refine pm_dup2 hG dX1_winsDespite_97 rfl rfl ?_
              refine pm_iald hG dX1_winsDespite_98 rfl (pm_ib2 rfl c1 c2) ?_
              refine pm_iconst (v := 1) hG dX1_winsDespite_99 (by decide) ?_
              refine pm_iadd hG dX1_winsDespite_100 ?_
              refine pm_iast hG dX1_winsDespite_101 rfl (pm_ib2 rfl c1 c2) ?_
              refine nm_a41 (fun A10 => ?_)
              refine pm_aloadn hG dX1_winsDespite_102 rfl ?_
              refine pm_getf hG dX1_winsDespite_103 (flX1_15 _ rfl) rfl rfl ?_
              refine pm_iloadn hG dX1_winsDespite_106 rfl ?_
              refine pm_dup2 hG dX1_winsDespite_107 rfl rfl ?_
              refine pm_iald hG dX1_winsDespite_108 rfl (pm_ib2 rfl c3 c4) ?_
              refine pm_iconst (v := 1) hG dX1_winsDespite_109 (by decide) ?_
              refine pm_isub hG dX1_winsDespite_110 ?_
              refine pm_iast hG dX1_winsDespite_111 rfl (pm_ib2 rfl c3 c4) ?_
              refine nm_a41 (fun A11 => ?_)
              refine pm_iloadi hG dX1_winsDespite_112 rfl ?_
              exact pm_zret hG hF dX1_winsDespite_114 rfl (pm_nz b9) (Nat.le_refl _) (Nat.le_refl _) ⟨_, rfl, b9, _, _, rfl, rfl, h9⟩
            · refine pm_iconst (v := 1) hG dX1_winsDespite_59 (by decide) ?_
              exact pm_zret hG hF dX1_winsDespite_60 rfl (pm_nz (Or.inr rfl)) (Nat.le_refl _) (Nat.le_refl _) ⟨_, rfl, (Or.inr rfl), _, _, rfl, rfl, h⟩

set_option maxRecDepth 100000 in
set_option maxHeartbeats 4000000 in
theorem g_X1_winsWhatever_k1 {ε : Nat → Int32} {d B cnt : Nat} {kp : pm_KP} {ρ : pm_S} {I : Nat → Int32} {A : Nat → Nat → Int32} {zb zc : Int32} (hdd : 7 ≤ d) (h : gq ε I) : pm_met mX1_winsWhatever d 0 0 B [.ref (B + 40), .int 1, .int zb, .int zc] cnt (pm_two (cl_L B kp I A) ρ) (pm_Qi (fun v σ' cnt' => (v = 0 ∨ v = 1) ∧ hvq ε B kp ρ cnt σ' cnt')) := by
  refine pm_enter 2 (by decide) (Nat.le_of_ble_eq_true rfl) rfl (fun G hG hR hF => ?_)
  refine pm_aloadn hG dX1_winsWhatever_0 rfl ?_
  refine pm_iloadn hG dX1_winsWhatever_1 rfl ?_
  refine pm_iloadn hG dX1_winsWhatever_2 rfl ?_
  refine pm_iloadn hG dX1_winsWhatever_3 rfl ?_
  refine pm_callV (As := [.int 1, .int zb, .int zc]) (rest := []) hG hR dX1_winsWhatever_4 (lkX1_44 _ rfl) okV_X1_winsWithin rfl rfl (g_X1_winsWithin_k1 (d := 6) (by decide) h) rfl rfl hdd (Nat.le_refl _) (Nat.le_refl _) (by decide) (pm_ki (fun v1 σ' cnt' hq => ?_))
  obtain ⟨b1, I1, A1, rfl, rfl, h1⟩ := hq
  refine pm_istoreXi (loc' := [some (.ref (B + 40)), some (.int 1), some (.int zb), some (.int zc), some (.int v1), none]) hG dX1_winsWhatever_7 (by decide) (pm_c1b rfl) rfl ?_
  refine pm_iconst (v := 0) hG dX1_winsWhatever_9 (by decide) ?_
  refine pm_iloadn hG dX1_winsWhatever_10 rfl ?_
  refine pm_mmax hG hR dX1_winsWhatever_11 (mmX1_47 _ rfl) pm_mwmax (by omega) (by first | decide | exact Nat.le_of_ble_eq_true rfl) (Nat.le_refl _) (Nat.le_refl _) ?_
  refine pm_istoreXi (loc' := [some (.ref (B + 40)), some (.int 1), some (.int zb), some (.int zc), some (.int v1), some (.int (if 0 < zb then zb else 0))]) hG dX1_winsWhatever_14 (by decide) (pm_c1b rfl) rfl ?_
  have loop16 : ∀ (m16 : Nat) (I2 : Nat → Int32) (A2 : Nat → Nat → Int32) (x2_4 x2_5 : Int32), gq ε I2 → (x2_4 = 0 ∨ x2_4 = 1) → ((4 : Int32).toInt - x2_5.toInt).toNat < m16 → pm_wp mX1_winsWhatever G B 16 [some (.ref (B + 40)), some (.int 1), some (.int zb), some (.int zc), some (.int x2_4), some (.int x2_5)] [] 0 0 cnt (pm_two (cl_L B kp I2 A2) ρ) := by
    intro m16
    induction m16 with
    | zero => intro I2 A2 x2_4 x2_5 _ _ hm; exact absurd hm (Nat.not_lt_zero _)
    | succ m16 ih16 =>
      intro I2 A2 x2_4 x2_5 h2 b2_4 hm16
      refine pm_iloadi hG dX1_winsWhatever_16 rfl ?_
      refine pm_aloadn hG dX1_winsWhatever_18 rfl ?_
      refine pm_getf hG dX1_winsWhatever_19 (flX1_15 _ rfl) rfl rfl ?_
      refine pm_alen (v := 5) hG dX1_winsWhatever_22 rfl (by decide) ?_
      refine pm_iconst (v := 1) hG dX1_winsWhatever_23 (by decide) ?_
      refine pm_isub hG dX1_winsWhatever_24 ?_
      refine pm_top (v := 4) (by decide) ?_
      refine pm_icmp_ge (tgt := 78) hG dX1_winsWhatever_25 rfl (fun c3 => ?_) (fun c3 => ?_)
      · refine pm_iloadi hG dX1_winsWhatever_78 rfl ?_
        exact pm_zret hG hF dX1_winsWhatever_80 rfl (pm_nz b2_4) (Nat.le_refl _) (Nat.le_refl _) ⟨_, rfl, b2_4, _, _, rfl, rfl, h2⟩
      · refine pm_iloadi hG dX1_winsWhatever_28 rfl ?_
        refine pm_if_eq (tgt := 78) hG dX1_winsWhatever_30 rfl (fun c4 => ?_) (fun c4 => ?_)
        · refine pm_iloadi hG dX1_winsWhatever_78 rfl ?_
          exact pm_zret hG hF dX1_winsWhatever_80 rfl (pm_nz b2_4) (Nat.le_refl _) (Nat.le_refl _) ⟨_, rfl, b2_4, _, _, rfl, rfl, h2⟩
        · refine pm_aloadn hG dX1_winsWhatever_33 rfl ?_
          refine pm_iloadi hG dX1_winsWhatever_34 rfl ?_
          refine pm_iloadi hG dX1_winsWhatever_36 rfl ?_
          refine pm_iconst (v := 1) hG dX1_winsWhatever_38 (by decide) ?_
          refine pm_iadd hG dX1_winsWhatever_39 ?_
          refine pm_iloadn hG dX1_winsWhatever_40 rfl ?_
          refine pm_iloadn hG dX1_winsWhatever_41 rfl ?_
          refine pm_iloadn hG dX1_winsWhatever_42 rfl ?_
          refine pm_callV (As := [.int x2_5, .int (x2_5 + 1), .int 1, .int zb, .int zc]) (rest := []) hG hR dX1_winsWhatever_43 (lkX1_52 _ rfl) okV_X1_winsDespite rfl rfl (g_X1_winsDespite_k1 (d := 6) (by decide) h2) rfl rfl hdd (Nat.le_refl _) (Nat.le_refl _) (by decide) (pm_ki (fun v5 σ' cnt' hq => ?_))
          obtain ⟨b5, I5, A5, rfl, rfl, h5⟩ := hq
          refine pm_if_eq (tgt := 69) hG dX1_winsWhatever_46 rfl (fun c6 => ?_) (fun c6 => ?_)
          · refine pm_iconst (v := 0) hG dX1_winsWhatever_69 (by decide) ?_
            refine pm_istoreXi (loc' := [some (.ref (B + 40)), some (.int 1), some (.int zb), some (.int zc), some (.int 0), some (.int x2_5)]) hG dX1_winsWhatever_70 (by decide) (pm_c1b rfl) rfl ?_
            refine pm_iincX (v := x2_5 + 1) (loc' := [some (.ref (B + 40)), some (.int 1), some (.int zb), some (.int zc), some (.int 0), some (.int (x2_5 + 1))]) hG dX1_winsWhatever_72 rfl (by rfl) (by decide) (pm_c1b rfl) rfl ?_
            refine pm_goto (tgt := 16) hG dX1_winsWhatever_75 rfl ?_
            exact ih16 _ _ 0 (x2_5 + 1) h5 (Or.inl rfl) (Nat.lt_of_lt_of_le (pm_mu1 c3) (Nat.le_of_lt_succ hm16))
          · refine pm_aloadn hG dX1_winsWhatever_49 rfl ?_
            refine pm_iloadi hG dX1_winsWhatever_50 rfl ?_
            refine pm_iconst (v := 1) hG dX1_winsWhatever_52 (by decide) ?_
            refine pm_iadd hG dX1_winsWhatever_53 ?_
            refine pm_iloadi hG dX1_winsWhatever_54 rfl ?_
            refine pm_iloadn hG dX1_winsWhatever_56 rfl ?_
            refine pm_iloadn hG dX1_winsWhatever_57 rfl ?_
            refine pm_iloadn hG dX1_winsWhatever_58 rfl ?_
            refine pm_callV (As := [.int (x2_5 + 1), .int x2_5, .int 1, .int zb, .int zc]) (rest := []) hG hR dX1_winsWhatever_59 (lkX1_52 _ rfl) okV_X1_winsDespite rfl rfl (g_X1_winsDespite_k1 (d := 6) (by decide) h5) rfl rfl hdd (Nat.le_refl _) (Nat.le_refl _) (by decide) (pm_ki (fun v7 σ' cnt' hq => ?_))
            obtain ⟨b7, I7, A7, rfl, rfl, h7⟩ := hq
            refine pm_if_eq (tgt := 69) hG dX1_winsWhatever_62 rfl (fun c8 => ?_) (fun c8 => ?_)
            · refine pm_iconst (v := 0) hG dX1_winsWhatever_69 (by decide) ?_
              refine pm_istoreXi (loc' := [some (.ref (B + 40)), some (.int 1), some (.int zb), some (.int zc), some (.int 0), some (.int x2_5)]) hG dX1_winsWhatever_70 (by decide) (pm_c1b rfl) rfl ?_
              refine pm_iincX (v := x2_5 + 1) (loc' := [some (.ref (B + 40)), some (.int 1), some (.int zb), some (.int zc), some (.int 0), some (.int (x2_5 + 1))]) hG dX1_winsWhatever_72 rfl (by rfl) (by decide) (pm_c1b rfl) rfl ?_
              refine pm_goto (tgt := 16) hG dX1_winsWhatever_75 rfl ?_
              exact ih16 _ _ 0 (x2_5 + 1) h7 (Or.inl rfl) (Nat.lt_of_lt_of_le (pm_mu1 c3) (Nat.le_of_lt_succ hm16))
            · refine pm_iconst (v := 1) hG dX1_winsWhatever_65 (by decide) ?_
              refine pm_goto (tgt := 70) hG dX1_winsWhatever_66 rfl ?_
              refine pm_istoreXi (loc' := [some (.ref (B + 40)), some (.int 1), some (.int zb), some (.int zc), some (.int 1), some (.int x2_5)]) hG dX1_winsWhatever_70 (by decide) (pm_c1b rfl) rfl ?_
              refine pm_iincX (v := x2_5 + 1) (loc' := [some (.ref (B + 40)), some (.int 1), some (.int zb), some (.int zc), some (.int 1), some (.int (x2_5 + 1))]) hG dX1_winsWhatever_72 rfl (by rfl) (by decide) (pm_c1b rfl) rfl ?_
              refine pm_goto (tgt := 16) hG dX1_winsWhatever_75 rfl ?_
              exact ih16 _ _ 1 (x2_5 + 1) h7 (Or.inr rfl) (Nat.lt_of_lt_of_le (pm_mu1 c3) (Nat.le_of_lt_succ hm16))
  exact loop16 _ _ _ v1 (if 0 < zb then zb else 0) h1 b1 (Nat.lt_succ_self _)

set_option maxRecDepth 100000 in
set_option maxHeartbeats 4000000 in
theorem g_X1_winsByTaking_k2 {ε : Nat → Int32} {d B cnt : Nat} {kp : pm_KP} {ρ : pm_S} {I : Nat → Int32} {A : Nat → Nat → Int32} {zb zc : Int32} (hdd : 8 ≤ d) (h : gq ε I) : pm_met mX1_winsByTaking d 0 0 B [.ref (B + 40), .int 2, .int zb, .int zc] cnt (pm_two (cl_L B kp I A) ρ) (pm_Qi (fun v σ' cnt' => (v = 0 ∨ v = 1) ∧ hvq ε B kp ρ cnt σ' cnt')) := by
  refine pm_enter 0 (by decide) (Nat.le_of_ble_eq_true rfl) rfl (fun G hG hR hF => ?_)
  refine pm_iloadn hG dX1_winsByTaking_0 rfl ?_
  refine pm_if_lt (tgt := 23) hG dX1_winsByTaking_1 rfl (fun c1 => ?_) (fun c1 => ?_)
  · refine pm_iconst (v := 0) hG dX1_winsByTaking_23 (by decide) ?_
    exact pm_zret hG hF dX1_winsByTaking_24 rfl (pm_nz (Or.inl rfl)) (Nat.le_refl _) (Nat.le_refl _) ⟨_, rfl, (Or.inl rfl), _, _, rfl, rfl, h⟩
  · refine pm_iloadn hG dX1_winsByTaking_4 rfl ?_
    refine pm_aloadn hG dX1_winsByTaking_5 rfl ?_
    refine pm_getf hG dX1_winsByTaking_6 (flX1_15 _ rfl) rfl rfl ?_
    refine pm_alen (v := 5) hG dX1_winsByTaking_9 rfl (by decide) ?_
    refine pm_icmp_ge (tgt := 23) hG dX1_winsByTaking_10 rfl (fun c2 => ?_) (fun c2 => ?_)
    · refine pm_iconst (v := 0) hG dX1_winsByTaking_23 (by decide) ?_
      exact pm_zret hG hF dX1_winsByTaking_24 rfl (pm_nz (Or.inl rfl)) (Nat.le_refl _) (Nat.le_refl _) ⟨_, rfl, (Or.inl rfl), _, _, rfl, rfl, h⟩
    · refine pm_iloadn hG dX1_winsByTaking_13 rfl ?_
      refine pm_aloadn hG dX1_winsByTaking_14 rfl ?_
      refine pm_getf hG dX1_winsByTaking_15 (flX1_15 _ rfl) rfl rfl ?_
      refine pm_iloadn hG dX1_winsByTaking_18 rfl ?_
      refine pm_iald hG dX1_winsByTaking_19 rfl (pm_ib2 rfl c1 c2) ?_
      refine pm_icmp_gt (tgt := 25) hG dX1_winsByTaking_20 rfl (fun c3 => ?_) (fun c3 => ?_)
      · refine pm_iloadn hG dX1_winsByTaking_25 rfl ?_
        refine pm_aloadn hG dX1_winsByTaking_26 rfl ?_
        refine pm_getf hG dX1_winsByTaking_27 (flX1_19 _ rfl) rfl rfl ?_
        refine pm_icmp_eq (tgt := 54) hG dX1_winsByTaking_30 rfl (fun c4 => ?_) (fun c4 => ?_)
        · refine pm_iconst (v := 1) hG dX1_winsByTaking_54 (by decide) ?_
          refine pm_goto (tgt := 59) hG dX1_winsByTaking_55 rfl ?_
          exact pm_zret hG hF dX1_winsByTaking_59 rfl (pm_nz (Or.inr rfl)) (Nat.le_refl _) (Nat.le_refl _) ⟨_, rfl, (Or.inr rfl), _, _, rfl, rfl, h⟩
        · refine pm_aloadn hG dX1_winsByTaking_33 rfl ?_
          refine pm_iloadn hG dX1_winsByTaking_34 rfl ?_
          refine pm_iconst (v := 1) hG dX1_winsByTaking_35 (by decide) ?_
          refine pm_isub hG dX1_winsByTaking_36 ?_
          refine pm_top (v := 1) (by decide) ?_
          refine pm_iloadn hG dX1_winsByTaking_37 rfl ?_
          refine pm_iconst (v := 1) hG dX1_winsByTaking_38 (by decide) ?_
          refine pm_iadd hG dX1_winsByTaking_39 ?_
          refine pm_iloadn hG dX1_winsByTaking_40 rfl ?_
          refine pm_aloadn hG dX1_winsByTaking_41 rfl ?_
          refine pm_getf hG dX1_winsByTaking_42 (flX1_15 _ rfl) rfl rfl ?_
          refine pm_iloadn hG dX1_winsByTaking_45 rfl ?_
          refine pm_iald hG dX1_winsByTaking_46 rfl (pm_ib2 rfl c1 c2) ?_
          refine pm_isub hG dX1_winsByTaking_47 ?_
          refine pm_callV (As := [.int 1, .int (zb + 1), .int (zc - ((A 41) zb.toNatClampNeg))]) (rest := []) hG hR dX1_winsByTaking_48 (lkX1_41 _ rfl) okV_X1_winsWhatever rfl rfl (g_X1_winsWhatever_k1 (d := 7) (by decide) h) rfl rfl hdd (Nat.le_refl _) (Nat.le_refl _) (by decide) (pm_ki (fun v5 σ' cnt' hq => ?_))
          obtain ⟨b5, I5, A5, rfl, rfl, h5⟩ := hq
          refine pm_if_eq (tgt := 58) hG dX1_winsByTaking_51 rfl (fun c6 => ?_) (fun c6 => ?_)
          · refine pm_iconst (v := 0) hG dX1_winsByTaking_58 (by decide) ?_
            exact pm_zret hG hF dX1_winsByTaking_59 rfl (pm_nz (Or.inl rfl)) (Nat.le_refl _) (Nat.le_refl _) ⟨_, rfl, (Or.inl rfl), _, _, rfl, rfl, h5⟩
          · refine pm_iconst (v := 1) hG dX1_winsByTaking_54 (by decide) ?_
            refine pm_goto (tgt := 59) hG dX1_winsByTaking_55 rfl ?_
            exact pm_zret hG hF dX1_winsByTaking_59 rfl (pm_nz (Or.inr rfl)) (Nat.le_refl _) (Nat.le_refl _) ⟨_, rfl, (Or.inr rfl), _, _, rfl, rfl, h5⟩
      · refine pm_iconst (v := 0) hG dX1_winsByTaking_23 (by decide) ?_
        exact pm_zret hG hF dX1_winsByTaking_24 rfl (pm_nz (Or.inl rfl)) (Nat.le_refl _) (Nat.le_refl _) ⟨_, rfl, (Or.inl rfl), _, _, rfl, rfl, h⟩

set_option maxRecDepth 100000 in
set_option maxHeartbeats 4000000 in
theorem g_X1_winsByWaiting_k2 {ε : Nat → Int32} {d B cnt : Nat} {kp : pm_KP} {ρ : pm_S} {I : Nat → Int32} {A : Nat → Nat → Int32} {zb zc : Int32} (hdd : 8 ≤ d) (h : gq ε I) : pm_met mX1_winsByWaiting d 0 0 B [.ref (B + 40), .int 2, .int zb, .int zc] cnt (pm_two (cl_L B kp I A) ρ) (pm_Qi (fun v σ' cnt' => (v = 0 ∨ v = 1) ∧ hvq ε B kp ρ cnt σ' cnt')) := by
  refine pm_enter 0 (by decide) (Nat.le_of_ble_eq_true rfl) rfl (fun G hG hR hF => ?_)
  refine pm_aloadn hG dX1_winsByWaiting_0 rfl ?_
  refine pm_iloadn hG dX1_winsByWaiting_1 rfl ?_
  refine pm_iconst (v := 1) hG dX1_winsByWaiting_2 (by decide) ?_
  refine pm_isub hG dX1_winsByWaiting_3 ?_
  refine pm_top (v := 1) (by decide) ?_
  refine pm_iloadn hG dX1_winsByWaiting_4 rfl ?_
  refine pm_iloadn hG dX1_winsByWaiting_5 rfl ?_
  refine pm_callV (As := [.int 1, .int zb, .int zc]) (rest := []) hG hR dX1_winsByWaiting_6 (lkX1_41 _ rfl) okV_X1_winsWhatever rfl rfl (g_X1_winsWhatever_k1 (d := 7) (by decide) h) rfl rfl hdd (Nat.le_refl _) (Nat.le_refl _) (by decide) (pm_ki (fun v1 σ' cnt' hq => ?_))
  obtain ⟨b1, I1, A1, rfl, rfl, h1⟩ := hq
  exact pm_zret hG hF dX1_winsByWaiting_9 rfl (pm_nz b1) (Nat.le_refl _) (Nat.le_refl _) ⟨_, rfl, b1, _, _, rfl, rfl, h1⟩

set_option maxRecDepth 100000 in
set_option maxHeartbeats 4000000 in
theorem g_X1_winsWithin_k2 {ε : Nat → Int32} {d B cnt : Nat} {kp : pm_KP} {ρ : pm_S} {I : Nat → Int32} {A : Nat → Nat → Int32} {zb zc : Int32} (hdd : 9 ≤ d) (h : gq ε I) : pm_met mX1_winsWithin d 0 0 B [.ref (B + 40), .int 2, .int zb, .int zc] cnt (pm_two (cl_L B kp I A) ρ) (pm_Qi (fun v σ' cnt' => (v = 0 ∨ v = 1) ∧ hvq ε B kp ρ cnt σ' cnt')) := by
  refine pm_enter 0 (by decide) (Nat.le_of_ble_eq_true rfl) rfl (fun G hG hR hF => ?_)
  refine pm_iloadn hG dX1_winsWithin_0 rfl ?_
  refine pm_if_le (tgt := 28) hG dX1_winsWithin_1 rfl (fun q => absurd q (by decide)) (fun _ => ?_)
  refine pm_aloadn hG dX1_winsWithin_4 rfl ?_
  refine pm_iloadn hG dX1_winsWithin_5 rfl ?_
  refine pm_iloadn hG dX1_winsWithin_6 rfl ?_
  refine pm_iloadn hG dX1_winsWithin_7 rfl ?_
  refine pm_callV (As := [.int 2, .int zb, .int zc]) (rest := []) hG hR dX1_winsWithin_8 (lkX1_34 _ rfl) okV_X1_winsByTaking rfl rfl (g_X1_winsByTaking_k2 (d := 8) (by decide) h) rfl rfl hdd (Nat.le_refl _) (Nat.le_refl _) (by decide) (pm_ki (fun v1 σ' cnt' hq => ?_))
  obtain ⟨b1, I1, A1, rfl, rfl, h1⟩ := hq
  refine pm_if_ne (tgt := 24) hG dX1_winsWithin_11 rfl (fun c2 => ?_) (fun c2 => ?_)
  · refine pm_iconst (v := 1) hG dX1_winsWithin_24 (by decide) ?_
    refine pm_goto (tgt := 29) hG dX1_winsWithin_25 rfl ?_
    exact pm_zret hG hF dX1_winsWithin_29 rfl (pm_nz (Or.inr rfl)) (Nat.le_refl _) (Nat.le_refl _) ⟨_, rfl, (Or.inr rfl), _, _, rfl, rfl, h1⟩
  · refine pm_aloadn hG dX1_winsWithin_14 rfl ?_
    refine pm_iloadn hG dX1_winsWithin_15 rfl ?_
    refine pm_iloadn hG dX1_winsWithin_16 rfl ?_
    refine pm_iloadn hG dX1_winsWithin_17 rfl ?_
    refine pm_callV (As := [.int 2, .int zb, .int zc]) (rest := []) hG hR dX1_winsWithin_18 (lkX1_38 _ rfl) okV_X1_winsByWaiting rfl rfl (g_X1_winsByWaiting_k2 (d := 8) (by decide) h1) rfl rfl hdd (Nat.le_refl _) (Nat.le_refl _) (by decide) (pm_ki (fun v3 σ' cnt' hq => ?_))
    obtain ⟨b3, I3, A3, rfl, rfl, h3⟩ := hq
    refine pm_if_eq (tgt := 28) hG dX1_winsWithin_21 rfl (fun c4 => ?_) (fun c4 => ?_)
    · refine pm_iconst (v := 0) hG dX1_winsWithin_28 (by decide) ?_
      exact pm_zret hG hF dX1_winsWithin_29 rfl (pm_nz (Or.inl rfl)) (Nat.le_refl _) (Nat.le_refl _) ⟨_, rfl, (Or.inl rfl), _, _, rfl, rfl, h3⟩
    · refine pm_iconst (v := 1) hG dX1_winsWithin_24 (by decide) ?_
      refine pm_goto (tgt := 29) hG dX1_winsWithin_25 rfl ?_
      exact pm_zret hG hF dX1_winsWithin_29 rfl (pm_nz (Or.inr rfl)) (Nat.le_refl _) (Nat.le_refl _) ⟨_, rfl, (Or.inr rfl), _, _, rfl, rfl, h3⟩

set_option maxRecDepth 100000 in
set_option maxHeartbeats 4000000 in
theorem g_X1_winsDespite_k2 {ε : Nat → Int32} {d B cnt : Nat} {kp : pm_KP} {ρ : pm_S} {I : Nat → Int32} {A : Nat → Nat → Int32} {za zb zd ze : Int32} (hdd : 10 ≤ d) (h : gq ε I) : pm_met mX1_winsDespite d 0 0 B [.ref (B + 40), .int za, .int zb, .int 2, .int zd, .int ze] cnt (pm_two (cl_L B kp I A) ρ) (pm_Qi (fun v σ' cnt' => (v = 0 ∨ v = 1) ∧ hvq ε B kp ρ cnt σ' cnt')) := by
  refine pm_enter 2 (by decide) (Nat.le_of_ble_eq_true rfl) rfl (fun G hG hR hF => ?_)
  refine pm_iloadn hG dX1_winsDespite_0 rfl ?_
  refine pm_if_lt (tgt := 30) hG dX1_winsDespite_1 rfl (fun c1 => ?_) (fun c1 => ?_)
  · refine pm_iconst (v := 0) hG dX1_winsDespite_30 (by decide) ?_
    refine pm_istoreXi (loc' := [some (.ref (B + 40)), some (.int za), some (.int zb), some (.int 2), some (.int zd), some (.int ze), some (.int 0), none]) hG dX1_winsDespite_31 (by decide) (pm_c1b rfl) rfl ?_
    refine pm_iloadi hG dX1_winsDespite_33 rfl ?_
    refine pm_if_eq (tgt := 59) hG dX1_winsDespite_35 rfl (fun _ => ?_) (fun q => absurd q (by decide))
    refine pm_iconst (v := 1) hG dX1_winsDespite_59 (by decide) ?_
    exact pm_zret hG hF dX1_winsDespite_60 rfl (pm_nz (Or.inr rfl)) (Nat.le_refl _) (Nat.le_refl _) ⟨_, rfl, (Or.inr rfl), _, _, rfl, rfl, h⟩
  · refine pm_iloadn hG dX1_winsDespite_4 rfl ?_
    refine pm_aloadn hG dX1_winsDespite_5 rfl ?_
    refine pm_getf hG dX1_winsDespite_6 (flX1_15 _ rfl) rfl rfl ?_
    refine pm_alen (v := 5) hG dX1_winsDespite_9 rfl (by decide) ?_
    refine pm_icmp_ge (tgt := 30) hG dX1_winsDespite_10 rfl (fun c2 => ?_) (fun c2 => ?_)
    · refine pm_iconst (v := 0) hG dX1_winsDespite_30 (by decide) ?_
      refine pm_istoreXi (loc' := [some (.ref (B + 40)), some (.int za), some (.int zb), some (.int 2), some (.int zd), some (.int ze), some (.int 0), none]) hG dX1_winsDespite_31 (by decide) (pm_c1b rfl) rfl ?_
      refine pm_iloadi hG dX1_winsDespite_33 rfl ?_
      refine pm_if_eq (tgt := 59) hG dX1_winsDespite_35 rfl (fun _ => ?_) (fun q => absurd q (by decide))
      refine pm_iconst (v := 1) hG dX1_winsDespite_59 (by decide) ?_
      exact pm_zret hG hF dX1_winsDespite_60 rfl (pm_nz (Or.inr rfl)) (Nat.le_refl _) (Nat.le_refl _) ⟨_, rfl, (Or.inr rfl), _, _, rfl, rfl, h⟩
    · refine pm_iloadn hG dX1_winsDespite_13 rfl ?_
      refine pm_if_lt (tgt := 30) hG dX1_winsDespite_14 rfl (fun c3 => ?_) (fun c3 => ?_)
      · refine pm_iconst (v := 0) hG dX1_winsDespite_30 (by decide) ?_
        refine pm_istoreXi (loc' := [some (.ref (B + 40)), some (.int za), some (.int zb), some (.int 2), some (.int zd), some (.int ze), some (.int 0), none]) hG dX1_winsDespite_31 (by decide) (pm_c1b rfl) rfl ?_
        refine pm_iloadi hG dX1_winsDespite_33 rfl ?_
        refine pm_if_eq (tgt := 59) hG dX1_winsDespite_35 rfl (fun _ => ?_) (fun q => absurd q (by decide))
        refine pm_iconst (v := 1) hG dX1_winsDespite_59 (by decide) ?_
        exact pm_zret hG hF dX1_winsDespite_60 rfl (pm_nz (Or.inr rfl)) (Nat.le_refl _) (Nat.le_refl _) ⟨_, rfl, (Or.inr rfl), _, _, rfl, rfl, h⟩
      · refine pm_iloadn hG dX1_winsDespite_17 rfl ?_
        refine pm_aloadn hG dX1_winsDespite_18 rfl ?_
        refine pm_getf hG dX1_winsDespite_19 (flX1_15 _ rfl) rfl rfl ?_
        refine pm_alen (v := 5) hG dX1_winsDespite_22 rfl (by decide) ?_
        refine pm_icmp_ge (tgt := 30) hG dX1_winsDespite_23 rfl (fun c4 => ?_) (fun c4 => ?_)
        · refine pm_iconst (v := 0) hG dX1_winsDespite_30 (by decide) ?_
          refine pm_istoreXi (loc' := [some (.ref (B + 40)), some (.int za), some (.int zb), some (.int 2), some (.int zd), some (.int ze), some (.int 0), none]) hG dX1_winsDespite_31 (by decide) (pm_c1b rfl) rfl ?_
          refine pm_iloadi hG dX1_winsDespite_33 rfl ?_
          refine pm_if_eq (tgt := 59) hG dX1_winsDespite_35 rfl (fun _ => ?_) (fun q => absurd q (by decide))
          refine pm_iconst (v := 1) hG dX1_winsDespite_59 (by decide) ?_
          exact pm_zret hG hF dX1_winsDespite_60 rfl (pm_nz (Or.inr rfl)) (Nat.le_refl _) (Nat.le_refl _) ⟨_, rfl, (Or.inr rfl), _, _, rfl, rfl, h⟩
        · refine pm_iconst (v := 1) hG dX1_winsDespite_26 (by decide) ?_
          refine pm_goto (tgt := 31) hG dX1_winsDespite_27 rfl ?_
          refine pm_istoreXi (loc' := [some (.ref (B + 40)), some (.int za), some (.int zb), some (.int 2), some (.int zd), some (.int ze), some (.int 1), none]) hG dX1_winsDespite_31 (by decide) (pm_c1b rfl) rfl ?_
          refine pm_iloadi hG dX1_winsDespite_33 rfl ?_
          refine pm_if_eq (tgt := 59) hG dX1_winsDespite_35 rfl (fun q => absurd q (by decide)) (fun _ => ?_)
          refine pm_aloadn hG dX1_winsDespite_38 rfl ?_
          refine pm_getf hG dX1_winsDespite_39 (flX1_15 _ rfl) rfl rfl ?_
          refine pm_iloadn hG dX1_winsDespite_42 rfl ?_
          refine pm_iald hG dX1_winsDespite_43 rfl (pm_ib2 rfl c1 c2) ?_
          refine pm_iconst (v := 1) hG dX1_winsDespite_44 (by decide) ?_
          refine pm_icmp_lt (tgt := 59) hG dX1_winsDespite_45 rfl (fun c5 => ?_) (fun c5 => ?_)
          · refine pm_iconst (v := 1) hG dX1_winsDespite_59 (by decide) ?_
            exact pm_zret hG hF dX1_winsDespite_60 rfl (pm_nz (Or.inr rfl)) (Nat.le_refl _) (Nat.le_refl _) ⟨_, rfl, (Or.inr rfl), _, _, rfl, rfl, h⟩
          · refine pm_aloadn hG dX1_winsDespite_48 rfl ?_
            refine pm_getf hG dX1_winsDespite_49 (flX1_15 _ rfl) rfl rfl ?_
            refine pm_iloadn hG dX1_winsDespite_52 rfl ?_
            refine pm_iald hG dX1_winsDespite_53 rfl (pm_ib2 rfl c3 c4) ?_
            refine pm_bipush (v := 6) hG dX1_winsDespite_54 (by decide) ?_
            refine pm_icmp_lt (tgt := 61) hG dX1_winsDespite_56 rfl (fun c6 => ?_) (fun c6 => ?_)
            · refine pm_aloadn hG dX1_winsDespite_61 rfl ?_
              refine pm_getf hG dX1_winsDespite_62 (flX1_15 _ rfl) rfl rfl ?_
              refine pm_iloadn hG dX1_winsDespite_65 rfl ?_
              refine pm_dup2 hG dX1_winsDespite_66 rfl rfl ?_
              refine pm_iald hG dX1_winsDespite_67 rfl (pm_ib2 rfl c1 c2) ?_
              refine pm_iconst (v := 1) hG dX1_winsDespite_68 (by decide) ?_
              refine pm_isub hG dX1_winsDespite_69 ?_
              refine pm_iast hG dX1_winsDespite_70 rfl (pm_ib2 rfl c1 c2) ?_
              refine nm_a41 (fun A7 => ?_)
              refine pm_aloadn hG dX1_winsDespite_71 rfl ?_
              refine pm_getf hG dX1_winsDespite_72 (flX1_15 _ rfl) rfl rfl ?_
              refine pm_iloadn hG dX1_winsDespite_75 rfl ?_
              refine pm_dup2 hG dX1_winsDespite_76 rfl rfl ?_
              refine pm_iald hG dX1_winsDespite_77 rfl (pm_ib2 rfl c3 c4) ?_
              refine pm_iconst (v := 1) hG dX1_winsDespite_78 (by decide) ?_
              refine pm_iadd hG dX1_winsDespite_79 ?_
              refine pm_iast hG dX1_winsDespite_80 rfl (pm_ib2 rfl c3 c4) ?_
              refine nm_a41 (fun A8 => ?_)
              refine pm_aloadn hG dX1_winsDespite_81 rfl ?_
              refine pm_iloadn hG dX1_winsDespite_82 rfl ?_
              refine pm_iloadi hG dX1_winsDespite_83 rfl ?_
              refine pm_iloadi hG dX1_winsDespite_85 rfl ?_
              refine pm_callV (As := [.int 2, .int zd, .int ze]) (rest := []) hG hR dX1_winsDespite_87 (lkX1_44 _ rfl) okV_X1_winsWithin rfl rfl (g_X1_winsWithin_k2 (d := 9) (by decide) h) rfl rfl hdd (Nat.le_refl _) (Nat.le_refl _) (by decide) (pm_ki (fun v9 σ' cnt' hq => ?_))
              obtain ⟨b9, I9, A9, rfl, rfl, h9⟩ := hq
              refine pm_istoreXi (loc' := [some (.ref (B + 40)), some (.int za), some (.int zb), some (.int 2), some (.int zd), some (.int ze), some (.int 1), some (.int v9)]) hG dX1_winsDespite_90 (by decide) (pm_c1b rfl) rfl ?_
              refine pm_aloadn hG dX1_winsDespite_92 rfl ?_
              refine pm_getf hG dX1_winsDespite_93 (flX1_15 _ rfl) rfl rfl ?_
              refine pm_iloadn hG dX1_winsDespite_96 rfl ?_
              refine pm_dup2 hG dX1_winsDespite_97 rfl rfl ?_
              refine pm_iald hG dX1_winsDespite_98 rfl (pm_ib2 rfl c1 c2) ?_
              refine pm_iconst (v := 1) hG dX1_winsDespite_99 (by decide) ?_
              refine pm_iadd hG dX1_winsDespite_100 ?_
              refine pm_iast hG dX1_winsDespite_101 rfl (pm_ib2 rfl c1 c2) ?_
              refine nm_a41 (fun A10 => ?_)
              refine pm_aloadn hG dX1_winsDespite_102 rfl ?_
              refine pm_getf hG dX1_winsDespite_103 (flX1_15 _ rfl) rfl rfl ?_
              refine pm_iloadn hG dX1_winsDespite_106 rfl ?_
              refine pm_dup2 hG dX1_winsDespite_107 rfl rfl ?_
              refine pm_iald hG dX1_winsDespite_108 rfl (pm_ib2 rfl c3 c4) ?_
              refine pm_iconst (v := 1) hG dX1_winsDespite_109 (by decide) ?_
              refine pm_isub hG dX1_winsDespite_110 ?_
              refine pm_iast hG dX1_winsDespite_111 rfl (pm_ib2 rfl c3 c4) ?_
              refine nm_a41 (fun A11 => ?_)
              refine pm_iloadi hG dX1_winsDespite_112 rfl ?_
              exact pm_zret hG hF dX1_winsDespite_114 rfl (pm_nz b9) (Nat.le_refl _) (Nat.le_refl _) ⟨_, rfl, b9, _, _, rfl, rfl, h9⟩
            · refine pm_iconst (v := 1) hG dX1_winsDespite_59 (by decide) ?_
              exact pm_zret hG hF dX1_winsDespite_60 rfl (pm_nz (Or.inr rfl)) (Nat.le_refl _) (Nat.le_refl _) ⟨_, rfl, (Or.inr rfl), _, _, rfl, rfl, h⟩

set_option maxRecDepth 100000 in
set_option maxHeartbeats 4000000 in
theorem g_X1_winsWhatever_k2 {ε : Nat → Int32} {d B cnt : Nat} {kp : pm_KP} {ρ : pm_S} {I : Nat → Int32} {A : Nat → Nat → Int32} {zb zc : Int32} (hdd : 11 ≤ d) (h : gq ε I) : pm_met mX1_winsWhatever d 0 0 B [.ref (B + 40), .int 2, .int zb, .int zc] cnt (pm_two (cl_L B kp I A) ρ) (pm_Qi (fun v σ' cnt' => (v = 0 ∨ v = 1) ∧ hvq ε B kp ρ cnt σ' cnt')) := by
  refine pm_enter 2 (by decide) (Nat.le_of_ble_eq_true rfl) rfl (fun G hG hR hF => ?_)
  refine pm_aloadn hG dX1_winsWhatever_0 rfl ?_
  refine pm_iloadn hG dX1_winsWhatever_1 rfl ?_
  refine pm_iloadn hG dX1_winsWhatever_2 rfl ?_
  refine pm_iloadn hG dX1_winsWhatever_3 rfl ?_
  refine pm_callV (As := [.int 2, .int zb, .int zc]) (rest := []) hG hR dX1_winsWhatever_4 (lkX1_44 _ rfl) okV_X1_winsWithin rfl rfl (g_X1_winsWithin_k2 (d := 10) (by decide) h) rfl rfl hdd (Nat.le_refl _) (Nat.le_refl _) (by decide) (pm_ki (fun v1 σ' cnt' hq => ?_))
  obtain ⟨b1, I1, A1, rfl, rfl, h1⟩ := hq
  refine pm_istoreXi (loc' := [some (.ref (B + 40)), some (.int 2), some (.int zb), some (.int zc), some (.int v1), none]) hG dX1_winsWhatever_7 (by decide) (pm_c1b rfl) rfl ?_
  refine pm_iconst (v := 0) hG dX1_winsWhatever_9 (by decide) ?_
  refine pm_iloadn hG dX1_winsWhatever_10 rfl ?_
  refine pm_mmax hG hR dX1_winsWhatever_11 (mmX1_47 _ rfl) pm_mwmax (by omega) (by first | decide | exact Nat.le_of_ble_eq_true rfl) (Nat.le_refl _) (Nat.le_refl _) ?_
  refine pm_istoreXi (loc' := [some (.ref (B + 40)), some (.int 2), some (.int zb), some (.int zc), some (.int v1), some (.int (if 0 < zb then zb else 0))]) hG dX1_winsWhatever_14 (by decide) (pm_c1b rfl) rfl ?_
  have loop16 : ∀ (m16 : Nat) (I2 : Nat → Int32) (A2 : Nat → Nat → Int32) (x2_4 x2_5 : Int32), gq ε I2 → (x2_4 = 0 ∨ x2_4 = 1) → ((4 : Int32).toInt - x2_5.toInt).toNat < m16 → pm_wp mX1_winsWhatever G B 16 [some (.ref (B + 40)), some (.int 2), some (.int zb), some (.int zc), some (.int x2_4), some (.int x2_5)] [] 0 0 cnt (pm_two (cl_L B kp I2 A2) ρ) := by
    intro m16
    induction m16 with
    | zero => intro I2 A2 x2_4 x2_5 _ _ hm; exact absurd hm (Nat.not_lt_zero _)
    | succ m16 ih16 =>
      intro I2 A2 x2_4 x2_5 h2 b2_4 hm16
      refine pm_iloadi hG dX1_winsWhatever_16 rfl ?_
      refine pm_aloadn hG dX1_winsWhatever_18 rfl ?_
      refine pm_getf hG dX1_winsWhatever_19 (flX1_15 _ rfl) rfl rfl ?_
      refine pm_alen (v := 5) hG dX1_winsWhatever_22 rfl (by decide) ?_
      refine pm_iconst (v := 1) hG dX1_winsWhatever_23 (by decide) ?_
      refine pm_isub hG dX1_winsWhatever_24 ?_
      refine pm_top (v := 4) (by decide) ?_
      refine pm_icmp_ge (tgt := 78) hG dX1_winsWhatever_25 rfl (fun c3 => ?_) (fun c3 => ?_)
      · refine pm_iloadi hG dX1_winsWhatever_78 rfl ?_
        exact pm_zret hG hF dX1_winsWhatever_80 rfl (pm_nz b2_4) (Nat.le_refl _) (Nat.le_refl _) ⟨_, rfl, b2_4, _, _, rfl, rfl, h2⟩
      · refine pm_iloadi hG dX1_winsWhatever_28 rfl ?_
        refine pm_if_eq (tgt := 78) hG dX1_winsWhatever_30 rfl (fun c4 => ?_) (fun c4 => ?_)
        · refine pm_iloadi hG dX1_winsWhatever_78 rfl ?_
          exact pm_zret hG hF dX1_winsWhatever_80 rfl (pm_nz b2_4) (Nat.le_refl _) (Nat.le_refl _) ⟨_, rfl, b2_4, _, _, rfl, rfl, h2⟩
        · refine pm_aloadn hG dX1_winsWhatever_33 rfl ?_
          refine pm_iloadi hG dX1_winsWhatever_34 rfl ?_
          refine pm_iloadi hG dX1_winsWhatever_36 rfl ?_
          refine pm_iconst (v := 1) hG dX1_winsWhatever_38 (by decide) ?_
          refine pm_iadd hG dX1_winsWhatever_39 ?_
          refine pm_iloadn hG dX1_winsWhatever_40 rfl ?_
          refine pm_iloadn hG dX1_winsWhatever_41 rfl ?_
          refine pm_iloadn hG dX1_winsWhatever_42 rfl ?_
          refine pm_callV (As := [.int x2_5, .int (x2_5 + 1), .int 2, .int zb, .int zc]) (rest := []) hG hR dX1_winsWhatever_43 (lkX1_52 _ rfl) okV_X1_winsDespite rfl rfl (g_X1_winsDespite_k2 (d := 10) (by decide) h2) rfl rfl hdd (Nat.le_refl _) (Nat.le_refl _) (by decide) (pm_ki (fun v5 σ' cnt' hq => ?_))
          obtain ⟨b5, I5, A5, rfl, rfl, h5⟩ := hq
          refine pm_if_eq (tgt := 69) hG dX1_winsWhatever_46 rfl (fun c6 => ?_) (fun c6 => ?_)
          · refine pm_iconst (v := 0) hG dX1_winsWhatever_69 (by decide) ?_
            refine pm_istoreXi (loc' := [some (.ref (B + 40)), some (.int 2), some (.int zb), some (.int zc), some (.int 0), some (.int x2_5)]) hG dX1_winsWhatever_70 (by decide) (pm_c1b rfl) rfl ?_
            refine pm_iincX (v := x2_5 + 1) (loc' := [some (.ref (B + 40)), some (.int 2), some (.int zb), some (.int zc), some (.int 0), some (.int (x2_5 + 1))]) hG dX1_winsWhatever_72 rfl (by rfl) (by decide) (pm_c1b rfl) rfl ?_
            refine pm_goto (tgt := 16) hG dX1_winsWhatever_75 rfl ?_
            exact ih16 _ _ 0 (x2_5 + 1) h5 (Or.inl rfl) (Nat.lt_of_lt_of_le (pm_mu1 c3) (Nat.le_of_lt_succ hm16))
          · refine pm_aloadn hG dX1_winsWhatever_49 rfl ?_
            refine pm_iloadi hG dX1_winsWhatever_50 rfl ?_
            refine pm_iconst (v := 1) hG dX1_winsWhatever_52 (by decide) ?_
            refine pm_iadd hG dX1_winsWhatever_53 ?_
            refine pm_iloadi hG dX1_winsWhatever_54 rfl ?_
            refine pm_iloadn hG dX1_winsWhatever_56 rfl ?_
            refine pm_iloadn hG dX1_winsWhatever_57 rfl ?_
            refine pm_iloadn hG dX1_winsWhatever_58 rfl ?_
            refine pm_callV (As := [.int (x2_5 + 1), .int x2_5, .int 2, .int zb, .int zc]) (rest := []) hG hR dX1_winsWhatever_59 (lkX1_52 _ rfl) okV_X1_winsDespite rfl rfl (g_X1_winsDespite_k2 (d := 10) (by decide) h5) rfl rfl hdd (Nat.le_refl _) (Nat.le_refl _) (by decide) (pm_ki (fun v7 σ' cnt' hq => ?_))
            obtain ⟨b7, I7, A7, rfl, rfl, h7⟩ := hq
            refine pm_if_eq (tgt := 69) hG dX1_winsWhatever_62 rfl (fun c8 => ?_) (fun c8 => ?_)
            · refine pm_iconst (v := 0) hG dX1_winsWhatever_69 (by decide) ?_
              refine pm_istoreXi (loc' := [some (.ref (B + 40)), some (.int 2), some (.int zb), some (.int zc), some (.int 0), some (.int x2_5)]) hG dX1_winsWhatever_70 (by decide) (pm_c1b rfl) rfl ?_
              refine pm_iincX (v := x2_5 + 1) (loc' := [some (.ref (B + 40)), some (.int 2), some (.int zb), some (.int zc), some (.int 0), some (.int (x2_5 + 1))]) hG dX1_winsWhatever_72 rfl (by rfl) (by decide) (pm_c1b rfl) rfl ?_
              refine pm_goto (tgt := 16) hG dX1_winsWhatever_75 rfl ?_
              exact ih16 _ _ 0 (x2_5 + 1) h7 (Or.inl rfl) (Nat.lt_of_lt_of_le (pm_mu1 c3) (Nat.le_of_lt_succ hm16))
            · refine pm_iconst (v := 1) hG dX1_winsWhatever_65 (by decide) ?_
              refine pm_goto (tgt := 70) hG dX1_winsWhatever_66 rfl ?_
              refine pm_istoreXi (loc' := [some (.ref (B + 40)), some (.int 2), some (.int zb), some (.int zc), some (.int 1), some (.int x2_5)]) hG dX1_winsWhatever_70 (by decide) (pm_c1b rfl) rfl ?_
              refine pm_iincX (v := x2_5 + 1) (loc' := [some (.ref (B + 40)), some (.int 2), some (.int zb), some (.int zc), some (.int 1), some (.int (x2_5 + 1))]) hG dX1_winsWhatever_72 rfl (by rfl) (by decide) (pm_c1b rfl) rfl ?_
              refine pm_goto (tgt := 16) hG dX1_winsWhatever_75 rfl ?_
              exact ih16 _ _ 1 (x2_5 + 1) h7 (Or.inr rfl) (Nat.lt_of_lt_of_le (pm_mu1 c3) (Nat.le_of_lt_succ hm16))
  exact loop16 _ _ _ v1 (if 0 < zb then zb else 0) h1 b1 (Nat.lt_succ_self _)

set_option maxRecDepth 100000 in
set_option maxHeartbeats 4000000 in
theorem g_X1_winsByTaking_k3 {ε : Nat → Int32} {d B cnt : Nat} {kp : pm_KP} {ρ : pm_S} {I : Nat → Int32} {A : Nat → Nat → Int32} {zb zc : Int32} (hdd : 12 ≤ d) (h : gq ε I) : pm_met mX1_winsByTaking d 0 0 B [.ref (B + 40), .int 3, .int zb, .int zc] cnt (pm_two (cl_L B kp I A) ρ) (pm_Qi (fun v σ' cnt' => (v = 0 ∨ v = 1) ∧ hvq ε B kp ρ cnt σ' cnt')) := by
  refine pm_enter 0 (by decide) (Nat.le_of_ble_eq_true rfl) rfl (fun G hG hR hF => ?_)
  refine pm_iloadn hG dX1_winsByTaking_0 rfl ?_
  refine pm_if_lt (tgt := 23) hG dX1_winsByTaking_1 rfl (fun c1 => ?_) (fun c1 => ?_)
  · refine pm_iconst (v := 0) hG dX1_winsByTaking_23 (by decide) ?_
    exact pm_zret hG hF dX1_winsByTaking_24 rfl (pm_nz (Or.inl rfl)) (Nat.le_refl _) (Nat.le_refl _) ⟨_, rfl, (Or.inl rfl), _, _, rfl, rfl, h⟩
  · refine pm_iloadn hG dX1_winsByTaking_4 rfl ?_
    refine pm_aloadn hG dX1_winsByTaking_5 rfl ?_
    refine pm_getf hG dX1_winsByTaking_6 (flX1_15 _ rfl) rfl rfl ?_
    refine pm_alen (v := 5) hG dX1_winsByTaking_9 rfl (by decide) ?_
    refine pm_icmp_ge (tgt := 23) hG dX1_winsByTaking_10 rfl (fun c2 => ?_) (fun c2 => ?_)
    · refine pm_iconst (v := 0) hG dX1_winsByTaking_23 (by decide) ?_
      exact pm_zret hG hF dX1_winsByTaking_24 rfl (pm_nz (Or.inl rfl)) (Nat.le_refl _) (Nat.le_refl _) ⟨_, rfl, (Or.inl rfl), _, _, rfl, rfl, h⟩
    · refine pm_iloadn hG dX1_winsByTaking_13 rfl ?_
      refine pm_aloadn hG dX1_winsByTaking_14 rfl ?_
      refine pm_getf hG dX1_winsByTaking_15 (flX1_15 _ rfl) rfl rfl ?_
      refine pm_iloadn hG dX1_winsByTaking_18 rfl ?_
      refine pm_iald hG dX1_winsByTaking_19 rfl (pm_ib2 rfl c1 c2) ?_
      refine pm_icmp_gt (tgt := 25) hG dX1_winsByTaking_20 rfl (fun c3 => ?_) (fun c3 => ?_)
      · refine pm_iloadn hG dX1_winsByTaking_25 rfl ?_
        refine pm_aloadn hG dX1_winsByTaking_26 rfl ?_
        refine pm_getf hG dX1_winsByTaking_27 (flX1_19 _ rfl) rfl rfl ?_
        refine pm_icmp_eq (tgt := 54) hG dX1_winsByTaking_30 rfl (fun c4 => ?_) (fun c4 => ?_)
        · refine pm_iconst (v := 1) hG dX1_winsByTaking_54 (by decide) ?_
          refine pm_goto (tgt := 59) hG dX1_winsByTaking_55 rfl ?_
          exact pm_zret hG hF dX1_winsByTaking_59 rfl (pm_nz (Or.inr rfl)) (Nat.le_refl _) (Nat.le_refl _) ⟨_, rfl, (Or.inr rfl), _, _, rfl, rfl, h⟩
        · refine pm_aloadn hG dX1_winsByTaking_33 rfl ?_
          refine pm_iloadn hG dX1_winsByTaking_34 rfl ?_
          refine pm_iconst (v := 1) hG dX1_winsByTaking_35 (by decide) ?_
          refine pm_isub hG dX1_winsByTaking_36 ?_
          refine pm_top (v := 2) (by decide) ?_
          refine pm_iloadn hG dX1_winsByTaking_37 rfl ?_
          refine pm_iconst (v := 1) hG dX1_winsByTaking_38 (by decide) ?_
          refine pm_iadd hG dX1_winsByTaking_39 ?_
          refine pm_iloadn hG dX1_winsByTaking_40 rfl ?_
          refine pm_aloadn hG dX1_winsByTaking_41 rfl ?_
          refine pm_getf hG dX1_winsByTaking_42 (flX1_15 _ rfl) rfl rfl ?_
          refine pm_iloadn hG dX1_winsByTaking_45 rfl ?_
          refine pm_iald hG dX1_winsByTaking_46 rfl (pm_ib2 rfl c1 c2) ?_
          refine pm_isub hG dX1_winsByTaking_47 ?_
          refine pm_callV (As := [.int 2, .int (zb + 1), .int (zc - ((A 41) zb.toNatClampNeg))]) (rest := []) hG hR dX1_winsByTaking_48 (lkX1_41 _ rfl) okV_X1_winsWhatever rfl rfl (g_X1_winsWhatever_k2 (d := 11) (by decide) h) rfl rfl hdd (Nat.le_refl _) (Nat.le_refl _) (by decide) (pm_ki (fun v5 σ' cnt' hq => ?_))
          obtain ⟨b5, I5, A5, rfl, rfl, h5⟩ := hq
          refine pm_if_eq (tgt := 58) hG dX1_winsByTaking_51 rfl (fun c6 => ?_) (fun c6 => ?_)
          · refine pm_iconst (v := 0) hG dX1_winsByTaking_58 (by decide) ?_
            exact pm_zret hG hF dX1_winsByTaking_59 rfl (pm_nz (Or.inl rfl)) (Nat.le_refl _) (Nat.le_refl _) ⟨_, rfl, (Or.inl rfl), _, _, rfl, rfl, h5⟩
          · refine pm_iconst (v := 1) hG dX1_winsByTaking_54 (by decide) ?_
            refine pm_goto (tgt := 59) hG dX1_winsByTaking_55 rfl ?_
            exact pm_zret hG hF dX1_winsByTaking_59 rfl (pm_nz (Or.inr rfl)) (Nat.le_refl _) (Nat.le_refl _) ⟨_, rfl, (Or.inr rfl), _, _, rfl, rfl, h5⟩
      · refine pm_iconst (v := 0) hG dX1_winsByTaking_23 (by decide) ?_
        exact pm_zret hG hF dX1_winsByTaking_24 rfl (pm_nz (Or.inl rfl)) (Nat.le_refl _) (Nat.le_refl _) ⟨_, rfl, (Or.inl rfl), _, _, rfl, rfl, h⟩

set_option maxRecDepth 100000 in
set_option maxHeartbeats 4000000 in
theorem g_X1_winsByWaiting_k3 {ε : Nat → Int32} {d B cnt : Nat} {kp : pm_KP} {ρ : pm_S} {I : Nat → Int32} {A : Nat → Nat → Int32} {zb zc : Int32} (hdd : 12 ≤ d) (h : gq ε I) : pm_met mX1_winsByWaiting d 0 0 B [.ref (B + 40), .int 3, .int zb, .int zc] cnt (pm_two (cl_L B kp I A) ρ) (pm_Qi (fun v σ' cnt' => (v = 0 ∨ v = 1) ∧ hvq ε B kp ρ cnt σ' cnt')) := by
  refine pm_enter 0 (by decide) (Nat.le_of_ble_eq_true rfl) rfl (fun G hG hR hF => ?_)
  refine pm_aloadn hG dX1_winsByWaiting_0 rfl ?_
  refine pm_iloadn hG dX1_winsByWaiting_1 rfl ?_
  refine pm_iconst (v := 1) hG dX1_winsByWaiting_2 (by decide) ?_
  refine pm_isub hG dX1_winsByWaiting_3 ?_
  refine pm_top (v := 2) (by decide) ?_
  refine pm_iloadn hG dX1_winsByWaiting_4 rfl ?_
  refine pm_iloadn hG dX1_winsByWaiting_5 rfl ?_
  refine pm_callV (As := [.int 2, .int zb, .int zc]) (rest := []) hG hR dX1_winsByWaiting_6 (lkX1_41 _ rfl) okV_X1_winsWhatever rfl rfl (g_X1_winsWhatever_k2 (d := 11) (by decide) h) rfl rfl hdd (Nat.le_refl _) (Nat.le_refl _) (by decide) (pm_ki (fun v1 σ' cnt' hq => ?_))
  obtain ⟨b1, I1, A1, rfl, rfl, h1⟩ := hq
  exact pm_zret hG hF dX1_winsByWaiting_9 rfl (pm_nz b1) (Nat.le_refl _) (Nat.le_refl _) ⟨_, rfl, b1, _, _, rfl, rfl, h1⟩
