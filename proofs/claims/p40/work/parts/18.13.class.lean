set_option maxRecDepth 100000 in
set_option maxHeartbeats 4000000 in
theorem g_X1_winsWhatever_k1 {ε : Nat → Int32} {d B cnt : Nat} {kp : Value} {ρ : pm_S} {I : Nat → Int32} {A : Nat → Nat → Int32} {zb zc : Int32} (hdd : 7 ≤ d) (h : gq ε I) : pm_met mX1_winsWhatever d 0 0 B [.ref (B + 40), .int 1, .int zb, .int zc] cnt (pm_two (cl_L B kp I A) ρ) (pm_Qi (fun v σ' cnt' => (v = 0 ∨ v = 1) ∧ hvq ε B kp ρ cnt σ' cnt')) := by
  refine pm_enter 2 (by decide) (Nat.le_of_ble_eq_true rfl) rfl (fun G hG hR hF => ?_)
  refine pm_aloadn hG dX1_winsWhatever_0 rfl ?_
  refine pm_iloadn hG dX1_winsWhatever_1 rfl ?_
  refine pm_iloadn hG dX1_winsWhatever_2 rfl ?_
  refine pm_iloadn hG dX1_winsWhatever_3 rfl ?_
  refine pm_callV (As := [.int 1, .int zb, .int zc]) (rest := []) hG hR dX1_winsWhatever_4 (lkX1_44 _ rfl) okV_X1_winsWithin rfl rfl (g_X1_winsWithin_k1 (d := 6) (by decide) h) rfl rfl hdd (Nat.le_refl _) (Nat.le_refl _) (by decide) (pm_ki (fun v1 σ' cnt' hq => ?_))
  obtain ⟨b1, I1, A1, rfl, rfl, h1⟩ := hq
  refine pm_istoreXi (loc' := [some (.ref (B + 40)), some (.int 1), some (.int zb), some (.int zc), some (.int v1), none]) hG dX1_winsWhatever_7 (by decide) (pm_c1b rfl) rfl ?_
  refine pm_iconst (v := 0) hG dX1_winsWhatever_9 (by decide) ?_
  refine pm_iloadn hG dX1_winsWhatever_10 rfl ?_
  refine pm_mmax hG hR dX1_winsWhatever_11 (mmX1_47 _ rfl) pm_mwmax (by omega) (by first | decide | exact Nat.le_of_ble_eq_true rfl) (Nat.le_refl _) (Nat.le_refl _) ?_
  refine pm_istoreXi (loc' := [some (.ref (B + 40)), some (.int 1), some (.int zb), some (.int zc), some (.int v1), some (.int (if 0 < zb then zb else 0))]) hG dX1_winsWhatever_14 (by decide) (pm_c1b rfl) rfl ?_
  have loop16 : ∀ (m16 : Nat) (I2 : Nat → Int32) (A2 : Nat → Nat → Int32) (x2_4 x2_5 : Int32), gq ε I2 → (x2_4 = 0 ∨ x2_4 = 1) → ((4 : Int32).toInt - x2_5.toInt).toNat < m16 → pm_wp mX1_winsWhatever G B 16 [some (.ref (B + 40)), some (.int 1), some (.int zb), some (.int zc), some (.int x2_4), some (.int x2_5)] [] 0 0 cnt (pm_two (cl_L B kp I2 A2) ρ) := by
    intro m16
    induction m16 with
    | zero => intro I2 A2 x2_4 x2_5 _ _ hm; exact absurd hm (Nat.not_lt_zero _)
    | succ m16 ih16 =>
      intro I2 A2 x2_4 x2_5 h2 b2_4 hm16
      refine pm_iloadi hG dX1_winsWhatever_16 rfl ?_
      refine pm_aloadn hG dX1_winsWhatever_18 rfl ?_
      refine pm_getf hG dX1_winsWhatever_19 (flX1_15 _ rfl) rfl rfl ?_
      refine pm_alen (v := 5) hG dX1_winsWhatever_22 rfl (by decide) ?_
      refine pm_iconst (v := 1) hG dX1_winsWhatever_23 (by decide) ?_
      refine pm_isub hG dX1_winsWhatever_24 ?_
      refine pm_top (v := 4) (by decide) ?_
      refine pm_icmp_ge (tgt := 78) hG dX1_winsWhatever_25 rfl (fun c3 => ?_) (fun c3 => ?_)
      · refine pm_iloadi hG dX1_winsWhatever_78 rfl ?_
        exact pm_zret hG hF dX1_winsWhatever_80 rfl (pm_nz b2_4) (Nat.le_refl _) (Nat.le_refl _) ⟨_, rfl, b2_4, _, _, rfl, rfl, h2⟩
      · refine pm_iloadi hG dX1_winsWhatever_28 rfl ?_
        refine pm_if_eq (tgt := 78) hG dX1_winsWhatever_30 rfl (fun c4 => ?_) (fun c4 => ?_)
        · refine pm_iloadi hG dX1_winsWhatever_78 rfl ?_
          exact pm_zret hG hF dX1_winsWhatever_80 rfl (pm_nz b2_4) (Nat.le_refl _) (Nat.le_refl _) ⟨_, rfl, b2_4, _, _, rfl, rfl, h2⟩
        · refine pm_aloadn hG dX1_winsWhatever_33 rfl ?_
          refine pm_iloadi hG dX1_winsWhatever_34 rfl ?_
          refine pm_iloadi hG dX1_winsWhatever_36 rfl ?_
          refine pm_iconst (v := 1) hG dX1_winsWhatever_38 (by decide) ?_
          refine pm_iadd hG dX1_winsWhatever_39 ?_
          refine pm_iloadn hG dX1_winsWhatever_40 rfl ?_
          refine pm_iloadn hG dX1_winsWhatever_41 rfl ?_
          refine pm_iloadn hG dX1_winsWhatever_42 rfl ?_
          refine pm_callV (As := [.int x2_5, .int (x2_5 + 1), .int 1, .int zb, .int zc]) (rest := []) hG hR dX1_winsWhatever_43 (lkX1_52 _ rfl) okV_X1_winsDespite rfl rfl (g_X1_winsDespite_k1 (d := 6) (by decide) h2) rfl rfl hdd (Nat.le_refl _) (Nat.le_refl _) (by decide) (pm_ki (fun v5 σ' cnt' hq => ?_))
          obtain ⟨b5, I5, A5, rfl, rfl, h5⟩ := hq
          refine pm_if_eq (tgt := 69) hG dX1_winsWhatever_46 rfl (fun c6 => ?_) (fun c6 => ?_)
          · refine pm_iconst (v := 0) hG dX1_winsWhatever_69 (by decide) ?_
            refine pm_istoreXi (loc' := [some (.ref (B + 40)), some (.int 1), some (.int zb), some (.int zc), some (.int 0), some (.int x2_5)]) hG dX1_winsWhatever_70 (by decide) (pm_c1b rfl) rfl ?_
            refine pm_iincX (v := x2_5 + 1) (loc' := [some (.ref (B + 40)), some (.int 1), some (.int zb), some (.int zc), some (.int 0), some (.int (x2_5 + 1))]) hG dX1_winsWhatever_72 rfl (by rfl) (by decide) (pm_c1b rfl) rfl ?_
            refine pm_goto (tgt := 16) hG dX1_winsWhatever_75 rfl ?_
            exact ih16 _ _ 0 (x2_5 + 1) h5 (Or.inl rfl) (Nat.lt_of_lt_of_le (pm_mu1 c3) (Nat.le_of_lt_succ hm16))
          · refine pm_aloadn hG dX1_winsWhatever_49 rfl ?_
            refine pm_iloadi hG dX1_winsWhatever_50 rfl ?_
            refine pm_iconst (v := 1) hG dX1_winsWhatever_52 (by decide) ?_
            refine pm_iadd hG dX1_winsWhatever_53 ?_
            refine pm_iloadi hG dX1_winsWhatever_54 rfl ?_
            refine pm_iloadn hG dX1_winsWhatever_56 rfl ?_
            refine pm_iloadn hG dX1_winsWhatever_57 rfl ?_
            refine pm_iloadn hG dX1_winsWhatever_58 rfl ?_
            refine pm_callV (As := [.int (x2_5 + 1), .int x2_5, .int 1, .int zb, .int zc]) (rest := []) hG hR dX1_winsWhatever_59 (lkX1_52 _ rfl) okV_X1_winsDespite rfl rfl (g_X1_winsDespite_k1 (d := 6) (by decide) h5) rfl rfl hdd (Nat.le_refl _) (Nat.le_refl _) (by decide) (pm_ki (fun v7 σ' cnt' hq => ?_))
            obtain ⟨b7, I7, A7, rfl, rfl, h7⟩ := hq
            refine pm_if_eq (tgt := 69) hG dX1_winsWhatever_62 rfl (fun c8 => ?_) (fun c8 => ?_)
            · refine pm_iconst (v := 0) hG dX1_winsWhatever_69 (by decide) ?_
              refine pm_istoreXi (loc' := [some (.ref (B + 40)), some (.int 1), some (.int zb), some (.int zc), some (.int 0), some (.int x2_5)]) hG dX1_winsWhatever_70 (by decide) (pm_c1b rfl) rfl ?_
              refine pm_iincX (v := x2_5 + 1) (loc' := [some (.ref (B + 40)), some (.int 1), some (.int zb), some (.int zc), some (.int 0), some (.int (x2_5 + 1))]) hG dX1_winsWhatever_72 rfl (by rfl) (by decide) (pm_c1b rfl) rfl ?_
              refine pm_goto (tgt := 16) hG dX1_winsWhatever_75 rfl ?_
              exact ih16 _ _ 0 (x2_5 + 1) h7 (Or.inl rfl) (Nat.lt_of_lt_of_le (pm_mu1 c3) (Nat.le_of_lt_succ hm16))
            · refine pm_iconst (v := 1) hG dX1_winsWhatever_65 (by decide) ?_
              refine pm_goto (tgt := 70) hG dX1_winsWhatever_66 rfl ?_
              refine pm_istoreXi (loc' := [some (.ref (B + 40)), some (.int 1), some (.int zb), some (.int zc), some (.int 1), some (.int x2_5)]) hG dX1_winsWhatever_70 (by decide) (pm_c1b rfl) rfl ?_
              refine pm_iincX (v := x2_5 + 1) (loc' := [some (.ref (B + 40)), some (.int 1), some (.int zb), some (.int zc), some (.int 1), some (.int (x2_5 + 1))]) hG dX1_winsWhatever_72 rfl (by rfl) (by decide) (pm_c1b rfl) rfl ?_
              refine pm_goto (tgt := 16) hG dX1_winsWhatever_75 rfl ?_
              exact ih16 _ _ 1 (x2_5 + 1) h7 (Or.inr rfl) (Nat.lt_of_lt_of_le (pm_mu1 c3) (Nat.le_of_lt_succ hm16))
  exact loop16 _ _ _ v1 (if 0 < zb then zb else 0) h1 b1 (Nat.lt_succ_self _)

set_option maxRecDepth 100000 in
set_option maxHeartbeats 4000000 in
theorem g_X1_winsByTaking_k2 {ε : Nat → Int32} {d B cnt : Nat} {kp : Value} {ρ : pm_S} {I : Nat → Int32} {A : Nat → Nat → Int32} {zb zc : Int32} (hdd : 8 ≤ d) (h : gq ε I) : pm_met mX1_winsByTaking d 0 0 B [.ref (B + 40), .int 2, .int zb, .int zc] cnt (pm_two (cl_L B kp I A) ρ) (pm_Qi (fun v σ' cnt' => (v = 0 ∨ v = 1) ∧ hvq ε B kp ρ cnt σ' cnt')) := by
  refine pm_enter 0 (by decide) (Nat.le_of_ble_eq_true rfl) rfl (fun G hG hR hF => ?_)
  refine pm_iloadn hG dX1_winsByTaking_0 rfl ?_
  refine pm_if_lt (tgt := 23) hG dX1_winsByTaking_1 rfl (fun c1 => ?_) (fun c1 => ?_)
  · refine pm_iconst (v := 0) hG dX1_winsByTaking_23 (by decide) ?_
    exact pm_zret hG hF dX1_winsByTaking_24 rfl (pm_nz (Or.inl rfl)) (Nat.le_refl _) (Nat.le_refl _) ⟨_, rfl, (Or.inl rfl), _, _, rfl, rfl, h⟩
  · refine pm_iloadn hG dX1_winsByTaking_4 rfl ?_
    refine pm_aloadn hG dX1_winsByTaking_5 rfl ?_
    refine pm_getf hG dX1_winsByTaking_6 (flX1_15 _ rfl) rfl rfl ?_
    refine pm_alen (v := 5) hG dX1_winsByTaking_9 rfl (by decide) ?_
    refine pm_icmp_ge (tgt := 23) hG dX1_winsByTaking_10 rfl (fun c2 => ?_) (fun c2 => ?_)
    · refine pm_iconst (v := 0) hG dX1_winsByTaking_23 (by decide) ?_
      exact pm_zret hG hF dX1_winsByTaking_24 rfl (pm_nz (Or.inl rfl)) (Nat.le_refl _) (Nat.le_refl _) ⟨_, rfl, (Or.inl rfl), _, _, rfl, rfl, h⟩
    · refine pm_iloadn hG dX1_winsByTaking_13 rfl ?_
      refine pm_aloadn hG dX1_winsByTaking_14 rfl ?_
      refine pm_getf hG dX1_winsByTaking_15 (flX1_15 _ rfl) rfl rfl ?_
      refine pm_iloadn hG dX1_winsByTaking_18 rfl ?_
      refine pm_iald hG dX1_winsByTaking_19 rfl (pm_ib2 rfl c1 c2) ?_
      refine pm_icmp_gt (tgt := 25) hG dX1_winsByTaking_20 rfl (fun c3 => ?_) (fun c3 => ?_)
      · refine pm_iloadn hG dX1_winsByTaking_25 rfl ?_
        refine pm_aloadn hG dX1_winsByTaking_26 rfl ?_
        refine pm_getf hG dX1_winsByTaking_27 (flX1_19 _ rfl) rfl rfl ?_
        refine pm_icmp_eq (tgt := 54) hG dX1_winsByTaking_30 rfl (fun c4 => ?_) (fun c4 => ?_)
        · refine pm_iconst (v := 1) hG dX1_winsByTaking_54 (by decide) ?_
          refine pm_goto (tgt := 59) hG dX1_winsByTaking_55 rfl ?_
          exact pm_zret hG hF dX1_winsByTaking_59 rfl (pm_nz (Or.inr rfl)) (Nat.le_refl _) (Nat.le_refl _) ⟨_, rfl, (Or.inr rfl), _, _, rfl, rfl, h⟩
        · refine pm_aloadn hG dX1_winsByTaking_33 rfl ?_
          refine pm_iloadn hG dX1_winsByTaking_34 rfl ?_
          refine pm_iconst (v := 1) hG dX1_winsByTaking_35 (by decide) ?_
          refine pm_isub hG dX1_winsByTaking_36 ?_
          refine pm_top (v := 1) (by decide) ?_
          refine pm_iloadn hG dX1_winsByTaking_37 rfl ?_
          refine pm_iconst (v := 1) hG dX1_winsByTaking_38 (by decide) ?_
          refine pm_iadd hG dX1_winsByTaking_39 ?_
          refine pm_iloadn hG dX1_winsByTaking_40 rfl ?_
          refine pm_aloadn hG dX1_winsByTaking_41 rfl ?_
          refine pm_getf hG dX1_winsByTaking_42 (flX1_15 _ rfl) rfl rfl ?_
          refine pm_iloadn hG dX1_winsByTaking_45 rfl ?_
          refine pm_iald hG dX1_winsByTaking_46 rfl (pm_ib2 rfl c1 c2) ?_
          refine pm_isub hG dX1_winsByTaking_47 ?_
          refine pm_callV (As := [.int 1, .int (zb + 1), .int (zc - ((A 41) zb.toNatClampNeg))]) (rest := []) hG hR dX1_winsByTaking_48 (lkX1_41 _ rfl) okV_X1_winsWhatever rfl rfl (g_X1_winsWhatever_k1 (d := 7) (by decide) h) rfl rfl hdd (Nat.le_refl _) (Nat.le_refl _) (by decide) (pm_ki (fun v5 σ' cnt' hq => ?_))
          obtain ⟨b5, I5, A5, rfl, rfl, h5⟩ := hq
          refine pm_if_eq (tgt := 58) hG dX1_winsByTaking_51 rfl (fun c6 => ?_) (fun c6 => ?_)
          · refine pm_iconst (v := 0) hG dX1_winsByTaking_58 (by decide) ?_
            exact pm_zret hG hF dX1_winsByTaking_59 rfl (pm_nz (Or.inl rfl)) (Nat.le_refl _) (Nat.le_refl _) ⟨_, rfl, (Or.inl rfl), _, _, rfl, rfl, h5⟩
          · refine pm_iconst (v := 1) hG dX1_winsByTaking_54 (by decide) ?_
            refine pm_goto (tgt := 59) hG dX1_winsByTaking_55 rfl ?_
            exact pm_zret hG hF dX1_winsByTaking_59 rfl (pm_nz (Or.inr rfl)) (Nat.le_refl _) (Nat.le_refl _) ⟨_, rfl, (Or.inr rfl), _, _, rfl, rfl, h5⟩
      · refine pm_iconst (v := 0) hG dX1_winsByTaking_23 (by decide) ?_
        exact pm_zret hG hF dX1_winsByTaking_24 rfl (pm_nz (Or.inl rfl)) (Nat.le_refl _) (Nat.le_refl _) ⟨_, rfl, (Or.inl rfl), _, _, rfl, rfl, h⟩

set_option maxRecDepth 100000 in
set_option maxHeartbeats 4000000 in
theorem g_X1_winsByWaiting_k2 {ε : Nat → Int32} {d B cnt : Nat} {kp : Value} {ρ : pm_S} {I : Nat → Int32} {A : Nat → Nat → Int32} {zb zc : Int32} (hdd : 8 ≤ d) (h : gq ε I) : pm_met mX1_winsByWaiting d 0 0 B [.ref (B + 40), .int 2, .int zb, .int zc] cnt (pm_two (cl_L B kp I A) ρ) (pm_Qi (fun v σ' cnt' => (v = 0 ∨ v = 1) ∧ hvq ε B kp ρ cnt σ' cnt')) := by
  refine pm_enter 0 (by decide) (Nat.le_of_ble_eq_true rfl) rfl (fun G hG hR hF => ?_)
  refine pm_aloadn hG dX1_winsByWaiting_0 rfl ?_
  refine pm_iloadn hG dX1_winsByWaiting_1 rfl ?_
  refine pm_iconst (v := 1) hG dX1_winsByWaiting_2 (by decide) ?_
  refine pm_isub hG dX1_winsByWaiting_3 ?_
  refine pm_top (v := 1) (by decide) ?_
  refine pm_iloadn hG dX1_winsByWaiting_4 rfl ?_
  refine pm_iloadn hG dX1_winsByWaiting_5 rfl ?_
  refine pm_callV (As := [.int 1, .int zb, .int zc]) (rest := []) hG hR dX1_winsByWaiting_6 (lkX1_41 _ rfl) okV_X1_winsWhatever rfl rfl (g_X1_winsWhatever_k1 (d := 7) (by decide) h) rfl rfl hdd (Nat.le_refl _) (Nat.le_refl _) (by decide) (pm_ki (fun v1 σ' cnt' hq => ?_))
  obtain ⟨b1, I1, A1, rfl, rfl, h1⟩ := hq
  exact pm_zret hG hF dX1_winsByWaiting_9 rfl (pm_nz b1) (Nat.le_refl _) (Nat.le_refl _) ⟨_, rfl, b1, _, _, rfl, rfl, h1⟩

set_option maxRecDepth 100000 in
set_option maxHeartbeats 4000000 in
theorem g_X1_winsWithin_k2 {ε : Nat → Int32} {d B cnt : Nat} {kp : Value} {ρ : pm_S} {I : Nat → Int32} {A : Nat → Nat → Int32} {zb zc : Int32} (hdd : 9 ≤ d) (h : gq ε I) : pm_met mX1_winsWithin d 0 0 B [.ref (B + 40), .int 2, .int zb, .int zc] cnt (pm_two (cl_L B kp I A) ρ) (pm_Qi (fun v σ' cnt' => (v = 0 ∨ v = 1) ∧ hvq ε B kp ρ cnt σ' cnt')) := by
  refine pm_enter 0 (by decide) (Nat.le_of_ble_eq_true rfl) rfl (fun G hG hR hF => ?_)
  refine pm_iloadn hG dX1_winsWithin_0 rfl ?_
  refine pm_if_le (tgt := 28) hG dX1_winsWithin_1 rfl (fun q => absurd q (by decide)) (fun _ => ?_)
  refine pm_aloadn hG dX1_winsWithin_4 rfl ?_
  refine pm_iloadn hG dX1_winsWithin_5 rfl ?_
  refine pm_iloadn hG dX1_winsWithin_6 rfl ?_
  refine pm_iloadn hG dX1_winsWithin_7 rfl ?_
  refine pm_callV (As := [.int 2, .int zb, .int zc]) (rest := []) hG hR dX1_winsWithin_8 (lkX1_34 _ rfl) okV_X1_winsByTaking rfl rfl (g_X1_winsByTaking_k2 (d := 8) (by decide) h) rfl rfl hdd (Nat.le_refl _) (Nat.le_refl _) (by decide) (pm_ki (fun v1 σ' cnt' hq => ?_))
  obtain ⟨b1, I1, A1, rfl, rfl, h1⟩ := hq
  refine pm_if_ne (tgt := 24) hG dX1_winsWithin_11 rfl (fun c2 => ?_) (fun c2 => ?_)
  · refine pm_iconst (v := 1) hG dX1_winsWithin_24 (by decide) ?_
    refine pm_goto (tgt := 29) hG dX1_winsWithin_25 rfl ?_
    exact pm_zret hG hF dX1_winsWithin_29 rfl (pm_nz (Or.inr rfl)) (Nat.le_refl _) (Nat.le_refl _) ⟨_, rfl, (Or.inr rfl), _, _, rfl, rfl, h1⟩
  · refine pm_aloadn hG dX1_winsWithin_14 rfl ?_
    refine pm_iloadn hG dX1_winsWithin_15 rfl ?_
    refine pm_iloadn hG dX1_winsWithin_16 rfl ?_
    refine pm_iloadn hG dX1_winsWithin_17 rfl ?_
    refine pm_callV (As := [.int 2, .int zb, .int zc]) (rest := []) hG hR dX1_winsWithin_18 (lkX1_38 _ rfl) okV_X1_winsByWaiting rfl rfl (g_X1_winsByWaiting_k2 (d := 8) (by decide) h1) rfl rfl hdd (Nat.le_refl _) (Nat.le_refl _) (by decide) (pm_ki (fun v3 σ' cnt' hq => ?_))
    obtain ⟨b3, I3, A3, rfl, rfl, h3⟩ := hq
    refine pm_if_eq (tgt := 28) hG dX1_winsWithin_21 rfl (fun c4 => ?_) (fun c4 => ?_)
    · refine pm_iconst (v := 0) hG dX1_winsWithin_28 (by decide) ?_
      exact pm_zret hG hF dX1_winsWithin_29 rfl (pm_nz (Or.inl rfl)) (Nat.le_refl _) (Nat.le_refl _) ⟨_, rfl, (Or.inl rfl), _, _, rfl, rfl, h3⟩
    · refine pm_iconst (v := 1) hG dX1_winsWithin_24 (by decide) ?_
      refine pm_goto (tgt := 29) hG dX1_winsWithin_25 rfl ?_
      exact pm_zret hG hF dX1_winsWithin_29 rfl (pm_nz (Or.inr rfl)) (Nat.le_refl _) (Nat.le_refl _) ⟨_, rfl, (Or.inr rfl), _, _, rfl, rfl, h3⟩

set_option maxRecDepth 100000 in
set_option maxHeartbeats 4000000 in
theorem g_X1_winsDespite_k2 {ε : Nat → Int32} {d B cnt : Nat} {kp : Value} {ρ : pm_S} {I : Nat → Int32} {A : Nat → Nat → Int32} {za zb zd ze : Int32} (hdd : 10 ≤ d) (h : gq ε I) : pm_met mX1_winsDespite d 0 0 B [.ref (B + 40), .int za, .int zb, .int 2, .int zd, .int ze] cnt (pm_two (cl_L B kp I A) ρ) (pm_Qi (fun v σ' cnt' => (v = 0 ∨ v = 1) ∧ hvq ε B kp ρ cnt σ' cnt')) := by
  refine pm_enter 2 (by decide) (Nat.le_of_ble_eq_true rfl) rfl (fun G hG hR hF => ?_)
  refine pm_iloadn hG dX1_winsDespite_0 rfl ?_
  refine pm_if_lt (tgt := 30) hG dX1_winsDespite_1 rfl (fun c1 => ?_) (fun c1 => ?_)
  · refine pm_iconst (v := 0) hG dX1_winsDespite_30 (by decide) ?_
    refine pm_istoreXi (loc' := [some (.ref (B + 40)), some (.int za), some (.int zb), some (.int 2), some (.int zd), some (.int ze), some (.int 0), none]) hG dX1_winsDespite_31 (by decide) (pm_c1b rfl) rfl ?_
    refine pm_iloadi hG dX1_winsDespite_33 rfl ?_
    refine pm_if_eq (tgt := 59) hG dX1_winsDespite_35 rfl (fun _ => ?_) (fun q => absurd q (by decide))
    refine pm_iconst (v := 1) hG dX1_winsDespite_59 (by decide) ?_
    exact pm_zret hG hF dX1_winsDespite_60 rfl (pm_nz (Or.inr rfl)) (Nat.le_refl _) (Nat.le_refl _) ⟨_, rfl, (Or.inr rfl), _, _, rfl, rfl, h⟩
  · refine pm_iloadn hG dX1_winsDespite_4 rfl ?_
    refine pm_aloadn hG dX1_winsDespite_5 rfl ?_
    refine pm_getf hG dX1_winsDespite_6 (flX1_15 _ rfl) rfl rfl ?_
    refine pm_alen (v := 5) hG dX1_winsDespite_9 rfl (by decide) ?_
    refine pm_icmp_ge (tgt := 30) hG dX1_winsDespite_10 rfl (fun c2 => ?_) (fun c2 => ?_)
    · refine pm_iconst (v := 0) hG dX1_winsDespite_30 (by decide) ?_
      refine pm_istoreXi (loc' := [some (.ref (B + 40)), some (.int za), some (.int zb), some (.int 2), some (.int zd), some (.int ze), some (.int 0), none]) hG dX1_winsDespite_31 (by decide) (pm_c1b rfl) rfl ?_
      refine pm_iloadi hG dX1_winsDespite_33 rfl ?_
      refine pm_if_eq (tgt := 59) hG dX1_winsDespite_35 rfl (fun _ => ?_) (fun q => absurd q (by decide))
      refine pm_iconst (v := 1) hG dX1_winsDespite_59 (by decide) ?_
      exact pm_zret hG hF dX1_winsDespite_60 rfl (pm_nz (Or.inr rfl)) (Nat.le_refl _) (Nat.le_refl _) ⟨_, rfl, (Or.inr rfl), _, _, rfl, rfl, h⟩
    · refine pm_iloadn hG dX1_winsDespite_13 rfl ?_
      refine pm_if_lt (tgt := 30) hG dX1_winsDespite_14 rfl (fun c3 => ?_) (fun c3 => ?_)
      · refine pm_iconst (v := 0) hG dX1_winsDespite_30 (by decide) ?_
        refine pm_istoreXi (loc' := [some (.ref (B + 40)), some (.int za), some (.int zb), some (.int 2), some (.int zd), some (.int ze), some (.int 0), none]) hG dX1_winsDespite_31 (by decide) (pm_c1b rfl) rfl ?_
        refine pm_iloadi hG dX1_winsDespite_33 rfl ?_
        refine pm_if_eq (tgt := 59) hG dX1_winsDespite_35 rfl (fun _ => ?_) (fun q => absurd q (by decide))
        refine pm_iconst (v := 1) hG dX1_winsDespite_59 (by decide) ?_
        exact pm_zret hG hF dX1_winsDespite_60 rfl (pm_nz (Or.inr rfl)) (Nat.le_refl _) (Nat.le_refl _) ⟨_, rfl, (Or.inr rfl), _, _, rfl, rfl, h⟩
      · refine pm_iloadn hG dX1_winsDespite_17 rfl ?_
        refine pm_aloadn hG dX1_winsDespite_18 rfl ?_
        refine pm_getf hG dX1_winsDespite_19 (flX1_15 _ rfl) rfl rfl ?_
        refine pm_alen (v := 5) hG dX1_winsDespite_22 rfl (by decide) ?_
        refine pm_icmp_ge (tgt := 30) hG dX1_winsDespite_23 rfl (fun c4 => ?_) (fun c4 => ?_)
        · refine pm_iconst (v := 0) hG dX1_winsDespite_30 (by decide) ?_
          refine pm_istoreXi (loc' := [some (.ref (B + 40)), some (.int za), some (.int zb), some (.int 2), some (.int zd), some (.int ze), some (.int 0), none]) hG dX1_winsDespite_31 (by decide) (pm_c1b rfl) rfl ?_
          refine pm_iloadi hG dX1_winsDespite_33 rfl ?_
          refine pm_if_eq (tgt := 59) hG dX1_winsDespite_35 rfl (fun _ => ?_) (fun q => absurd q (by decide))
          refine pm_iconst (v := 1) hG dX1_winsDespite_59 (by decide) ?_
          exact pm_zret hG hF dX1_winsDespite_60 rfl (pm_nz (Or.inr rfl)) (Nat.le_refl _) (Nat.le_refl _) ⟨_, rfl, (Or.inr rfl), _, _, rfl, rfl, h⟩
        · refine pm_iconst (v := 1) hG dX1_winsDespite_26 (by decide) ?_
          refine pm_goto (tgt := 31) hG dX1_winsDespite_27 rfl ?_
          refine pm_istoreXi (loc' := [some (.ref (B + 40)), some (.int za), some (.int zb), some (.int 2), some (.int zd), some (.int ze), some (.int 1), none]) hG dX1_winsDespite_31 (by decide) (pm_c1b rfl) rfl ?_
          refine pm_iloadi hG dX1_winsDespite_33 rfl ?_
          refine pm_if_eq (tgt := 59) hG dX1_winsDespite_35 rfl (fun q => absurd q (by decide)) (fun _ => ?_)
          refine pm_aloadn hG dX1_winsDespite_38 rfl ?_
          refine pm_getf hG dX1_winsDespite_39 (flX1_15 _ rfl) rfl rfl ?_
          refine pm_iloadn hG dX1_winsDespite_42 rfl ?_
          refine pm_iald hG dX1_winsDespite_43 rfl (pm_ib2 rfl c1 c2) ?_
          refine pm_iconst (v := 1) hG dX1_winsDespite_44 (by decide) ?_
          refine pm_icmp_lt (tgt := 59) hG dX1_winsDespite_45 rfl (fun c5 => ?_) (fun c5 => ?_)
          · refine pm_iconst (v := 1) hG dX1_winsDespite_59 (by decide) ?_
            exact pm_zret hG hF dX1_winsDespite_60 rfl (pm_nz (Or.inr rfl)) (Nat.le_refl _) (Nat.le_refl _) ⟨_, rfl, (Or.inr rfl), _, _, rfl, rfl, h⟩
          · refine pm_aloadn hG dX1_winsDespite_48 rfl ?_
            refine pm_getf hG dX1_winsDespite_49 (flX1_15 _ rfl) rfl rfl ?_
            refine pm_iloadn hG dX1_winsDespite_52 rfl ?_
            refine pm_iald hG dX1_winsDespite_53 rfl (pm_ib2 rfl c3 c4) ?_
            refine pm_bipush (v := 6) hG dX1_winsDespite_54 (by decide) ?_
            refine pm_icmp_lt (tgt := 61) hG dX1_winsDespite_56 rfl (fun c6 => ?_) (fun c6 => ?_)
            · refine pm_aloadn hG dX1_winsDespite_61 rfl ?_
              refine pm_getf hG dX1_winsDespite_62 (flX1_15 _ rfl) rfl rfl ?_
              refine pm_iloadn hG dX1_winsDespite_65 rfl ?_
              refine pm_dup2 hG dX1_winsDespite_66 rfl rfl ?_
              refine pm_iald hG dX1_winsDespite_67 rfl (pm_ib2 rfl c1 c2) ?_
              refine pm_iconst (v := 1) hG dX1_winsDespite_68 (by decide) ?_
              refine pm_isub hG dX1_winsDespite_69 ?_
              refine pm_iast hG dX1_winsDespite_70 rfl (pm_ib2 rfl c1 c2) ?_
              refine nm_a41 (fun A7 => ?_)
              refine pm_aloadn hG dX1_winsDespite_71 rfl ?_
              refine pm_getf hG dX1_winsDespite_72 (flX1_15 _ rfl) rfl rfl ?_
              refine pm_iloadn hG dX1_winsDespite_75 rfl ?_
              refine pm_dup2 hG dX1_winsDespite_76 rfl rfl ?_
              refine pm_iald hG dX1_winsDespite_77 rfl (pm_ib2 rfl c3 c4) ?_
              refine pm_iconst (v := 1) hG dX1_winsDespite_78 (by decide) ?_
              refine pm_iadd hG dX1_winsDespite_79 ?_
              refine pm_iast hG dX1_winsDespite_80 rfl (pm_ib2 rfl c3 c4) ?_
              refine nm_a41 (fun A8 => ?_)
              refine pm_aloadn hG dX1_winsDespite_81 rfl ?_
              refine pm_iloadn hG dX1_winsDespite_82 rfl ?_
              refine pm_iloadi hG dX1_winsDespite_83 rfl ?_
              refine pm_iloadi hG dX1_winsDespite_85 rfl ?_
              refine pm_callV (As := [.int 2, .int zd, .int ze]) (rest := []) hG hR dX1_winsDespite_87 (lkX1_44 _ rfl) okV_X1_winsWithin rfl rfl (g_X1_winsWithin_k2 (d := 9) (by decide) h) rfl rfl hdd (Nat.le_refl _) (Nat.le_refl _) (by decide) (pm_ki (fun v9 σ' cnt' hq => ?_))
              obtain ⟨b9, I9, A9, rfl, rfl, h9⟩ := hq
              refine pm_istoreXi (loc' := [some (.ref (B + 40)), some (.int za), some (.int zb), some (.int 2), some (.int zd), some (.int ze), some (.int 1), some (.int v9)]) hG dX1_winsDespite_90 (by decide) (pm_c1b rfl) rfl ?_
              refine pm_aloadn hG dX1_winsDespite_92 rfl ?_
              refine pm_getf hG dX1_winsDespite_93 (flX1_15 _ rfl) rfl rfl ?_
              refine pm_iloadn hG dX1_winsDespite_96 rfl ?_
              refine pm_dup2 hG dX1_winsDespite_97 rfl rfl ?_
              refine pm_iald hG dX1_winsDespite_98 rfl (pm_ib2 rfl c1 c2) ?_
              refine pm_iconst (v := 1) hG dX1_winsDespite_99 (by decide) ?_
              refine pm_iadd hG dX1_winsDespite_100 ?_
              refine pm_iast hG dX1_winsDespite_101 rfl (pm_ib2 rfl c1 c2) ?_
              refine nm_a41 (fun A10 => ?_)
              refine pm_aloadn hG dX1_winsDespite_102 rfl ?_
              refine pm_getf hG dX1_winsDespite_103 (flX1_15 _ rfl) rfl rfl ?_
              refine pm_iloadn hG dX1_winsDespite_106 rfl ?_
              refine pm_dup2 hG dX1_winsDespite_107 rfl rfl ?_
              refine pm_iald hG dX1_winsDespite_108 rfl (pm_ib2 rfl c3 c4) ?_
              refine pm_iconst (v := 1) hG dX1_winsDespite_109 (by decide) ?_
              refine pm_isub hG dX1_winsDespite_110 ?_
              refine pm_iast hG dX1_winsDespite_111 rfl (pm_ib2 rfl c3 c4) ?_
              refine nm_a41 (fun A11 => ?_)
              refine pm_iloadi hG dX1_winsDespite_112 rfl ?_
              exact pm_zret hG hF dX1_winsDespite_114 rfl (pm_nz b9) (Nat.le_refl _) (Nat.le_refl _) ⟨_, rfl, b9, _, _, rfl, rfl, h9⟩
            · refine pm_iconst (v := 1) hG dX1_winsDespite_59 (by decide) ?_
              exact pm_zret hG hF dX1_winsDespite_60 rfl (pm_nz (Or.inr rfl)) (Nat.le_refl _) (Nat.le_refl _) ⟨_, rfl, (Or.inr rfl), _, _, rfl, rfl, h⟩

set_option maxRecDepth 100000 in
set_option maxHeartbeats 4000000 in
theorem g_X1_winsWhatever_k2 {ε : Nat → Int32} {d B cnt : Nat} {kp : Value} {ρ : pm_S} {I : Nat → Int32} {A : Nat → Nat → Int32} {zb zc : Int32} (hdd : 11 ≤ d) (h : gq ε I) : pm_met mX1_winsWhatever d 0 0 B [.ref (B + 40), .int 2, .int zb, .int zc] cnt (pm_two (cl_L B kp I A) ρ) (pm_Qi (fun v σ' cnt' => (v = 0 ∨ v = 1) ∧ hvq ε B kp ρ cnt σ' cnt')) := by
  refine pm_enter 2 (by decide) (Nat.le_of_ble_eq_true rfl) rfl (fun G hG hR hF => ?_)
  refine pm_aloadn hG dX1_winsWhatever_0 rfl ?_
  refine pm_iloadn hG dX1_winsWhatever_1 rfl ?_
  refine pm_iloadn hG dX1_winsWhatever_2 rfl ?_
  refine pm_iloadn hG dX1_winsWhatever_3 rfl ?_
  refine pm_callV (As := [.int 2, .int zb, .int zc]) (rest := []) hG hR dX1_winsWhatever_4 (lkX1_44 _ rfl) okV_X1_winsWithin rfl rfl (g_X1_winsWithin_k2 (d := 10) (by decide) h) rfl rfl hdd (Nat.le_refl _) (Nat.le_refl _) (by decide) (pm_ki (fun v1 σ' cnt' hq => ?_))
  obtain ⟨b1, I1, A1, rfl, rfl, h1⟩ := hq
  refine pm_istoreXi (loc' := [some (.ref (B + 40)), some (.int 2), some (.int zb), some (.int zc), some (.int v1), none]) hG dX1_winsWhatever_7 (by decide) (pm_c1b rfl) rfl ?_
  refine pm_iconst (v := 0) hG dX1_winsWhatever_9 (by decide) ?_
  refine pm_iloadn hG dX1_winsWhatever_10 rfl ?_
  refine pm_mmax hG hR dX1_winsWhatever_11 (mmX1_47 _ rfl) pm_mwmax (by omega) (by first | decide | exact Nat.le_of_ble_eq_true rfl) (Nat.le_refl _) (Nat.le_refl _) ?_
  refine pm_istoreXi (loc' := [some (.ref (B + 40)), some (.int 2), some (.int zb), some (.int zc), some (.int v1), some (.int (if 0 < zb then zb else 0))]) hG dX1_winsWhatever_14 (by decide) (pm_c1b rfl) rfl ?_
  have loop16 : ∀ (m16 : Nat) (I2 : Nat → Int32) (A2 : Nat → Nat → Int32) (x2_4 x2_5 : Int32), gq ε I2 → (x2_4 = 0 ∨ x2_4 = 1) → ((4 : Int32).toInt - x2_5.toInt).toNat < m16 → pm_wp mX1_winsWhatever G B 16 [some (.ref (B + 40)), some (.int 2), some (.int zb), some (.int zc), some (.int x2_4), some (.int x2_5)] [] 0 0 cnt (pm_two (cl_L B kp I2 A2) ρ) := by
    intro m16
    induction m16 with
    | zero => intro I2 A2 x2_4 x2_5 _ _ hm; exact absurd hm (Nat.not_lt_zero _)
    | succ m16 ih16 =>
      intro I2 A2 x2_4 x2_5 h2 b2_4 hm16
      refine pm_iloadi hG dX1_winsWhatever_16 rfl ?_
      refine pm_aloadn hG dX1_winsWhatever_18 rfl ?_
      refine pm_getf hG dX1_winsWhatever_19 (flX1_15 _ rfl) rfl rfl ?_
      refine pm_alen (v := 5) hG dX1_winsWhatever_22 rfl (by decide) ?_
      refine pm_iconst (v := 1) hG dX1_winsWhatever_23 (by decide) ?_
      refine pm_isub hG dX1_winsWhatever_24 ?_
      refine pm_top (v := 4) (by decide) ?_
      refine pm_icmp_ge (tgt := 78) hG dX1_winsWhatever_25 rfl (fun c3 => ?_) (fun c3 => ?_)
      · refine pm_iloadi hG dX1_winsWhatever_78 rfl ?_
        exact pm_zret hG hF dX1_winsWhatever_80 rfl (pm_nz b2_4) (Nat.le_refl _) (Nat.le_refl _) ⟨_, rfl, b2_4, _, _, rfl, rfl, h2⟩
      · refine pm_iloadi hG dX1_winsWhatever_28 rfl ?_
        refine pm_if_eq (tgt := 78) hG dX1_winsWhatever_30 rfl (fun c4 => ?_) (fun c4 => ?_)
        · refine pm_iloadi hG dX1_winsWhatever_78 rfl ?_
          exact pm_zret hG hF dX1_winsWhatever_80 rfl (pm_nz b2_4) (Nat.le_refl _) (Nat.le_refl _) ⟨_, rfl, b2_4, _, _, rfl, rfl, h2⟩
        · refine pm_aloadn hG dX1_winsWhatever_33 rfl ?_
          refine pm_iloadi hG dX1_winsWhatever_34 rfl ?_
          refine pm_iloadi hG dX1_winsWhatever_36 rfl ?_
          refine pm_iconst (v := 1) hG dX1_winsWhatever_38 (by decide) ?_
          refine pm_iadd hG dX1_winsWhatever_39 ?_
          refine pm_iloadn hG dX1_winsWhatever_40 rfl ?_
          refine pm_iloadn hG dX1_winsWhatever_41 rfl ?_
          refine pm_iloadn hG dX1_winsWhatever_42 rfl ?_
          refine pm_callV (As := [.int x2_5, .int (x2_5 + 1), .int 2, .int zb, .int zc]) (rest := []) hG hR dX1_winsWhatever_43 (lkX1_52 _ rfl) okV_X1_winsDespite rfl rfl (g_X1_winsDespite_k2 (d := 10) (by decide) h2) rfl rfl hdd (Nat.le_refl _) (Nat.le_refl _) (by decide) (pm_ki (fun v5 σ' cnt' hq => ?_))
          obtain ⟨b5, I5, A5, rfl, rfl, h5⟩ := hq
          refine pm_if_eq (tgt := 69) hG dX1_winsWhatever_46 rfl (fun c6 => ?_) (fun c6 => ?_)
          · refine pm_iconst (v := 0) hG dX1_winsWhatever_69 (by decide) ?_
            refine pm_istoreXi (loc' := [some (.ref (B + 40)), some (.int 2), some (.int zb), some (.int zc), some (.int 0), some (.int x2_5)]) hG dX1_winsWhatever_70 (by decide) (pm_c1b rfl) rfl ?_
            refine pm_iincX (v := x2_5 + 1) (loc' := [some (.ref (B + 40)), some (.int 2), some (.int zb), some (.int zc), some (.int 0), some (.int (x2_5 + 1))]) hG dX1_winsWhatever_72 rfl (by rfl) (by decide) (pm_c1b rfl) rfl ?_
            refine pm_goto (tgt := 16) hG dX1_winsWhatever_75 rfl ?_
            exact ih16 _ _ 0 (x2_5 + 1) h5 (Or.inl rfl) (Nat.lt_of_lt_of_le (pm_mu1 c3) (Nat.le_of_lt_succ hm16))
          · refine pm_aloadn hG dX1_winsWhatever_49 rfl ?_
            refine pm_iloadi hG dX1_winsWhatever_50 rfl ?_
            refine pm_iconst (v := 1) hG dX1_winsWhatever_52 (by decide) ?_
            refine pm_iadd hG dX1_winsWhatever_53 ?_
            refine pm_iloadi hG dX1_winsWhatever_54 rfl ?_
            refine pm_iloadn hG dX1_winsWhatever_56 rfl ?_
            refine pm_iloadn hG dX1_winsWhatever_57 rfl ?_
            refine pm_iloadn hG dX1_winsWhatever_58 rfl ?_
            refine pm_callV (As := [.int (x2_5 + 1), .int x2_5, .int 2, .int zb, .int zc]) (rest := []) hG hR dX1_winsWhatever_59 (lkX1_52 _ rfl) okV_X1_winsDespite rfl rfl (g_X1_winsDespite_k2 (d := 10) (by decide) h5) rfl rfl hdd (Nat.le_refl _) (Nat.le_refl _) (by decide) (pm_ki (fun v7 σ' cnt' hq => ?_))
            obtain ⟨b7, I7, A7, rfl, rfl, h7⟩ := hq
            refine pm_if_eq (tgt := 69) hG dX1_winsWhatever_62 rfl (fun c8 => ?_) (fun c8 => ?_)
            · refine pm_iconst (v := 0) hG dX1_winsWhatever_69 (by decide) ?_
              refine pm_istoreXi (loc' := [some (.ref (B + 40)), some (.int 2), some (.int zb), some (.int zc), some (.int 0), some (.int x2_5)]) hG dX1_winsWhatever_70 (by decide) (pm_c1b rfl) rfl ?_
              refine pm_iincX (v := x2_5 + 1) (loc' := [some (.ref (B + 40)), some (.int 2), some (.int zb), some (.int zc), some (.int 0), some (.int (x2_5 + 1))]) hG dX1_winsWhatever_72 rfl (by rfl) (by decide) (pm_c1b rfl) rfl ?_
              refine pm_goto (tgt := 16) hG dX1_winsWhatever_75 rfl ?_
              exact ih16 _ _ 0 (x2_5 + 1) h7 (Or.inl rfl) (Nat.lt_of_lt_of_le (pm_mu1 c3) (Nat.le_of_lt_succ hm16))
            · refine pm_iconst (v := 1) hG dX1_winsWhatever_65 (by decide) ?_
              refine pm_goto (tgt := 70) hG dX1_winsWhatever_66 rfl ?_
              refine pm_istoreXi (loc' := [some (.ref (B + 40)), some (.int 2), some (.int zb), some (.int zc), some (.int 1), some (.int x2_5)]) hG dX1_winsWhatever_70 (by decide) (pm_c1b rfl) rfl ?_
              refine pm_iincX (v := x2_5 + 1) (loc' := [some (.ref (B + 40)), some (.int 2), some (.int zb), some (.int zc), some (.int 1), some (.int (x2_5 + 1))]) hG dX1_winsWhatever_72 rfl (by rfl) (by decide) (pm_c1b rfl) rfl ?_
              refine pm_goto (tgt := 16) hG dX1_winsWhatever_75 rfl ?_
              exact ih16 _ _ 1 (x2_5 + 1) h7 (Or.inr rfl) (Nat.lt_of_lt_of_le (pm_mu1 c3) (Nat.le_of_lt_succ hm16))
  exact loop16 _ _ _ v1 (if 0 < zb then zb else 0) h1 b1 (Nat.lt_succ_self _)

set_option maxRecDepth 100000 in
set_option maxHeartbeats 4000000 in
theorem g_X1_winsByTaking_k3 {ε : Nat → Int32} {d B cnt : Nat} {kp : Value} {ρ : pm_S} {I : Nat → Int32} {A : Nat → Nat → Int32} {zb zc : Int32} (hdd : 12 ≤ d) (h : gq ε I) : pm_met mX1_winsByTaking d 0 0 B [.ref (B + 40), .int 3, .int zb, .int zc] cnt (pm_two (cl_L B kp I A) ρ) (pm_Qi (fun v σ' cnt' => (v = 0 ∨ v = 1) ∧ hvq ε B kp ρ cnt σ' cnt')) := by
  refine pm_enter 0 (by decide) (Nat.le_of_ble_eq_true rfl) rfl (fun G hG hR hF => ?_)
  refine pm_iloadn hG dX1_winsByTaking_0 rfl ?_
  refine pm_if_lt (tgt := 23) hG dX1_winsByTaking_1 rfl (fun c1 => ?_) (fun c1 => ?_)
  · refine pm_iconst (v := 0) hG dX1_winsByTaking_23 (by decide) ?_
    exact pm_zret hG hF dX1_winsByTaking_24 rfl (pm_nz (Or.inl rfl)) (Nat.le_refl _) (Nat.le_refl _) ⟨_, rfl, (Or.inl rfl), _, _, rfl, rfl, h⟩
  · refine pm_iloadn hG dX1_winsByTaking_4 rfl ?_
    refine pm_aloadn hG dX1_winsByTaking_5 rfl ?_
    refine pm_getf hG dX1_winsByTaking_6 (flX1_15 _ rfl) rfl rfl ?_
    refine pm_alen (v := 5) hG dX1_winsByTaking_9 rfl (by decide) ?_
    refine pm_icmp_ge (tgt := 23) hG dX1_winsByTaking_10 rfl (fun c2 => ?_) (fun c2 => ?_)
    · refine pm_iconst (v := 0) hG dX1_winsByTaking_23 (by decide) ?_
      exact pm_zret hG hF dX1_winsByTaking_24 rfl (pm_nz (Or.inl rfl)) (Nat.le_refl _) (Nat.le_refl _) ⟨_, rfl, (Or.inl rfl), _, _, rfl, rfl, h⟩
    · refine pm_iloadn hG dX1_winsByTaking_13 rfl ?_
      refine pm_aloadn hG dX1_winsByTaking_14 rfl ?_
      refine pm_getf hG dX1_winsByTaking_15 (flX1_15 _ rfl) rfl rfl ?_
      refine pm_iloadn hG dX1_winsByTaking_18 rfl ?_
      refine pm_iald hG dX1_winsByTaking_19 rfl (pm_ib2 rfl c1 c2) ?_
      refine pm_icmp_gt (tgt := 25) hG dX1_winsByTaking_20 rfl (fun c3 => ?_) (fun c3 => ?_)
      · refine pm_iloadn hG dX1_winsByTaking_25 rfl ?_
        refine pm_aloadn hG dX1_winsByTaking_26 rfl ?_
        refine pm_getf hG dX1_winsByTaking_27 (flX1_19 _ rfl) rfl rfl ?_
        refine pm_icmp_eq (tgt := 54) hG dX1_winsByTaking_30 rfl (fun c4 => ?_) (fun c4 => ?_)
        · refine pm_iconst (v := 1) hG dX1_winsByTaking_54 (by decide) ?_
          refine pm_goto (tgt := 59) hG dX1_winsByTaking_55 rfl ?_
          exact pm_zret hG hF dX1_winsByTaking_59 rfl (pm_nz (Or.inr rfl)) (Nat.le_refl _) (Nat.le_refl _) ⟨_, rfl, (Or.inr rfl), _, _, rfl, rfl, h⟩
        · refine pm_aloadn hG dX1_winsByTaking_33 rfl ?_
          refine pm_iloadn hG dX1_winsByTaking_34 rfl ?_
          refine pm_iconst (v := 1) hG dX1_winsByTaking_35 (by decide) ?_
          refine pm_isub hG dX1_winsByTaking_36 ?_
          refine pm_top (v := 2) (by decide) ?_
          refine pm_iloadn hG dX1_winsByTaking_37 rfl ?_
          refine pm_iconst (v := 1) hG dX1_winsByTaking_38 (by decide) ?_
          refine pm_iadd hG dX1_winsByTaking_39 ?_
          refine pm_iloadn hG dX1_winsByTaking_40 rfl ?_
          refine pm_aloadn hG dX1_winsByTaking_41 rfl ?_
          refine pm_getf hG dX1_winsByTaking_42 (flX1_15 _ rfl) rfl rfl ?_
          refine pm_iloadn hG dX1_winsByTaking_45 rfl ?_
          refine pm_iald hG dX1_winsByTaking_46 rfl (pm_ib2 rfl c1 c2) ?_
          refine pm_isub hG dX1_winsByTaking_47 ?_
          refine pm_callV (As := [.int 2, .int (zb + 1), .int (zc - ((A 41) zb.toNatClampNeg))]) (rest := []) hG hR dX1_winsByTaking_48 (lkX1_41 _ rfl) okV_X1_winsWhatever rfl rfl (g_X1_winsWhatever_k2 (d := 11) (by decide) h) rfl rfl hdd (Nat.le_refl _) (Nat.le_refl _) (by decide) (pm_ki (fun v5 σ' cnt' hq => ?_))
          obtain ⟨b5, I5, A5, rfl, rfl, h5⟩ := hq
          refine pm_if_eq (tgt := 58) hG dX1_winsByTaking_51 rfl (fun c6 => ?_) (fun c6 => ?_)
          · refine pm_iconst (v := 0) hG dX1_winsByTaking_58 (by decide) ?_
            exact pm_zret hG hF dX1_winsByTaking_59 rfl (pm_nz (Or.inl rfl)) (Nat.le_refl _) (Nat.le_refl _) ⟨_, rfl, (Or.inl rfl), _, _, rfl, rfl, h5⟩
          · refine pm_iconst (v := 1) hG dX1_winsByTaking_54 (by decide) ?_
            refine pm_goto (tgt := 59) hG dX1_winsByTaking_55 rfl ?_
            exact pm_zret hG hF dX1_winsByTaking_59 rfl (pm_nz (Or.inr rfl)) (Nat.le_refl _) (Nat.le_refl _) ⟨_, rfl, (Or.inr rfl), _, _, rfl, rfl, h5⟩
      · refine pm_iconst (v := 0) hG dX1_winsByTaking_23 (by decide) ?_
        exact pm_zret hG hF dX1_winsByTaking_24 rfl (pm_nz (Or.inl rfl)) (Nat.le_refl _) (Nat.le_refl _) ⟨_, rfl, (Or.inl rfl), _, _, rfl, rfl, h⟩

set_option maxRecDepth 100000 in
set_option maxHeartbeats 4000000 in
theorem g_X1_winsByWaiting_k3 {ε : Nat → Int32} {d B cnt : Nat} {kp : Value} {ρ : pm_S} {I : Nat → Int32} {A : Nat → Nat → Int32} {zb zc : Int32} (hdd : 12 ≤ d) (h : gq ε I) : pm_met mX1_winsByWaiting d 0 0 B [.ref (B + 40), .int 3, .int zb, .int zc] cnt (pm_two (cl_L B kp I A) ρ) (pm_Qi (fun v σ' cnt' => (v = 0 ∨ v = 1) ∧ hvq ε B kp ρ cnt σ' cnt')) := by
  refine pm_enter 0 (by decide) (Nat.le_of_ble_eq_true rfl) rfl (fun G hG hR hF => ?_)
  refine pm_aloadn hG dX1_winsByWaiting_0 rfl ?_
  refine pm_iloadn hG dX1_winsByWaiting_1 rfl ?_
  refine pm_iconst (v := 1) hG dX1_winsByWaiting_2 (by decide) ?_
  refine pm_isub hG dX1_winsByWaiting_3 ?_
  refine pm_top (v := 2) (by decide) ?_
  refine pm_iloadn hG dX1_winsByWaiting_4 rfl ?_
  refine pm_iloadn hG dX1_winsByWaiting_5 rfl ?_
  refine pm_callV (As := [.int 2, .int zb, .int zc]) (rest := []) hG hR dX1_winsByWaiting_6 (lkX1_41 _ rfl) okV_X1_winsWhatever rfl rfl (g_X1_winsWhatever_k2 (d := 11) (by decide) h) rfl rfl hdd (Nat.le_refl _) (Nat.le_refl _) (by decide) (pm_ki (fun v1 σ' cnt' hq => ?_))
  obtain ⟨b1, I1, A1, rfl, rfl, h1⟩ := hq
  exact pm_zret hG hF dX1_winsByWaiting_9 rfl (pm_nz b1) (Nat.le_refl _) (Nat.le_refl _) ⟨_, rfl, b1, _, _, rfl, rfl, h1⟩

set_option maxRecDepth 100000 in
set_option maxHeartbeats 4000000 in
theorem g_X1_winsWithin_k3 {ε : Nat → Int32} {d B cnt : Nat} {kp : Value} {ρ : pm_S} {I : Nat → Int32} {A : Nat → Nat → Int32} {zb zc : Int32} (hdd : 13 ≤ d) (h : gq ε I) : pm_met mX1_winsWithin d 0 0 B [.ref (B + 40), .int 3, .int zb, .int zc] cnt (pm_two (cl_L B kp I A) ρ) (pm_Qi (fun v σ' cnt' => (v = 0 ∨ v = 1) ∧ hvq ε B kp ρ cnt σ' cnt')) := by
  refine pm_enter 0 (by decide) (Nat.le_of_ble_eq_true rfl) rfl (fun G hG hR hF => ?_)
  refine pm_iloadn hG dX1_winsWithin_0 rfl ?_
  refine pm_if_le (tgt := 28) hG dX1_winsWithin_1 rfl (fun q => absurd q (by decide)) (fun _ => ?_)
  refine pm_aloadn hG dX1_winsWithin_4 rfl ?_
  refine pm_iloadn hG dX1_winsWithin_5 rfl ?_
  refine pm_iloadn hG dX1_winsWithin_6 rfl ?_
  refine pm_iloadn hG dX1_winsWithin_7 rfl ?_
  refine pm_callV (As := [.int 3, .int zb, .int zc]) (rest := []) hG hR dX1_winsWithin_8 (lkX1_34 _ rfl) okV_X1_winsByTaking rfl rfl (g_X1_winsByTaking_k3 (d := 12) (by decide) h) rfl rfl hdd (Nat.le_refl _) (Nat.le_refl _) (by decide) (pm_ki (fun v1 σ' cnt' hq => ?_))
  obtain ⟨b1, I1, A1, rfl, rfl, h1⟩ := hq
  refine pm_if_ne (tgt := 24) hG dX1_winsWithin_11 rfl (fun c2 => ?_) (fun c2 => ?_)
  · refine pm_iconst (v := 1) hG dX1_winsWithin_24 (by decide) ?_
    refine pm_goto (tgt := 29) hG dX1_winsWithin_25 rfl ?_
    exact pm_zret hG hF dX1_winsWithin_29 rfl (pm_nz (Or.inr rfl)) (Nat.le_refl _) (Nat.le_refl _) ⟨_, rfl, (Or.inr rfl), _, _, rfl, rfl, h1⟩
  · refine pm_aloadn hG dX1_winsWithin_14 rfl ?_
    refine pm_iloadn hG dX1_winsWithin_15 rfl ?_
    refine pm_iloadn hG dX1_winsWithin_16 rfl ?_
    refine pm_iloadn hG dX1_winsWithin_17 rfl ?_
    refine pm_callV (As := [.int 3, .int zb, .int zc]) (rest := []) hG hR dX1_winsWithin_18 (lkX1_38 _ rfl) okV_X1_winsByWaiting rfl rfl (g_X1_winsByWaiting_k3 (d := 12) (by decide) h1) rfl rfl hdd (Nat.le_refl _) (Nat.le_refl _) (by decide) (pm_ki (fun v3 σ' cnt' hq => ?_))
    obtain ⟨b3, I3, A3, rfl, rfl, h3⟩ := hq
    refine pm_if_eq (tgt := 28) hG dX1_winsWithin_21 rfl (fun c4 => ?_) (fun c4 => ?_)
    · refine pm_iconst (v := 0) hG dX1_winsWithin_28 (by decide) ?_
      exact pm_zret hG hF dX1_winsWithin_29 rfl (pm_nz (Or.inl rfl)) (Nat.le_refl _) (Nat.le_refl _) ⟨_, rfl, (Or.inl rfl), _, _, rfl, rfl, h3⟩
    · refine pm_iconst (v := 1) hG dX1_winsWithin_24 (by decide) ?_
      refine pm_goto (tgt := 29) hG dX1_winsWithin_25 rfl ?_
      exact pm_zret hG hF dX1_winsWithin_29 rfl (pm_nz (Or.inr rfl)) (Nat.le_refl _) (Nat.le_refl _) ⟨_, rfl, (Or.inr rfl), _, _, rfl, rfl, h3⟩

set_option maxRecDepth 100000 in
set_option maxHeartbeats 4000000 in
theorem g_X11_night {ε : Nat → Int32} {d B cnt : Nat} {kp : Value} {ρ : pm_S} {I : Nat → Int32} {A : Nat → Nat → Int32} {za zb zc zd : Int32} (hdd : 14 ≤ d) (h : gq ε I) : pm_met mX11_night d 0 0 B [.ref (B + 0), .int za, .int zb, .int zc, .int zd] cnt (pm_two (cl_L B kp I A) ρ) (pm_Qi (fun _ σ' cnt' => hvq ε B kp ρ cnt σ' cnt')) := by
  refine pm_enter 0 (by decide) (Nat.le_of_ble_eq_true rfl) rfl (fun G hG hR hF => ?_)
  refine pm_iloadn hG dX11_night_0 rfl ?_
  refine pm_iconst (v := 1) hG dX11_night_1 (by decide) ?_
  refine pm_bipush (v := 20) hG dX11_night_2 (by decide) ?_
  refine pm_callS (As := [.int za, .int 1, .int 20]) (rest := []) hG hR dX11_night_4 (lkX11_105 _ rfl) okS_X11_isOutside (sx_isOutside (d := 13)) rfl rfl hdd (Nat.le_refl _) (Nat.le_refl _) (by decide) (pm_ki (fun v1 σ' cnt' hq => ?_))
  have o1 := hq.1
  have b1 := pm_b10 hq.1
  obtain ⟨I1, A1, rfl, rfl, h1⟩ := hv_id (kp := kp) (I := I) (A := A) h hq.2
  refine pm_if_ne (tgt := 38) hG dX11_night_7 rfl (fun c2 => ?_) (fun c2 => ?_)
  · refine pm_aloadn hG dX11_night_38 rfl ?_
    refine pm_ldc hG dX11_night_39 (ctX11_109 _ rfl) ?_
    refine pm_callV (As := [.int (-1000001)]) (rest := []) hG hR dX11_night_41 (lkX11_97 _ rfl) okV_X11_told rfl rfl (sx_told (d := 13) (by decide) rfl rfl) rfl rfl hdd (Nat.le_refl _) (Nat.le_refl _) (by decide) (pm_ki (fun v3 σ' cnt' hq => ?_))
    obtain ⟨-, ⟨g3, hg3⟩, hc3⟩ := hq
    obtain ⟨I3, A3, rfl, rfl, h3⟩ := hv_a53 (kp := kp) (I := I1) (A := A1) h1 ⟨hg3, hc3⟩
    exact pm_iret hG hF dX11_night_44 rfl (Nat.le_refl _) (Nat.le_refl _) ⟨_, rfl, _, _, rfl, rfl, h3⟩
  · refine pm_iloadn hG dX11_night_10 rfl ?_
    refine pm_iconst (v := 1) hG dX11_night_11 (by decide) ?_
    refine pm_iconst (v := 3) hG dX11_night_12 (by decide) ?_
    refine pm_callS (As := [.int zb, .int 1, .int 3]) (rest := []) hG hR dX11_night_13 (lkX11_105 _ rfl) okS_X11_isOutside (sx_isOutside (d := 13)) rfl rfl hdd (Nat.le_refl _) (Nat.le_refl _) (by decide) (pm_ki (fun v4 σ' cnt' hq => ?_))
    have o4 := hq.1
    have b4 := pm_b10 hq.1
    obtain ⟨I4, A4, rfl, rfl, h4⟩ := hv_id (kp := kp) (I := I1) (A := A1) h1 hq.2
    refine pm_if_ne (tgt := 38) hG dX11_night_16 rfl (fun c5 => ?_) (fun c5 => ?_)
    · refine pm_aloadn hG dX11_night_38 rfl ?_
      refine pm_ldc hG dX11_night_39 (ctX11_109 _ rfl) ?_
      refine pm_callV (As := [.int (-1000001)]) (rest := []) hG hR dX11_night_41 (lkX11_97 _ rfl) okV_X11_told rfl rfl (sx_told (d := 13) (by decide) rfl rfl) rfl rfl hdd (Nat.le_refl _) (Nat.le_refl _) (by decide) (pm_ki (fun v6 σ' cnt' hq => ?_))
      obtain ⟨-, ⟨g6, hg6⟩, hc6⟩ := hq
      obtain ⟨I6, A6, rfl, rfl, h6⟩ := hv_a53 (kp := kp) (I := I4) (A := A4) h4 ⟨hg6, hc6⟩
      exact pm_iret hG hF dX11_night_44 rfl (Nat.le_refl _) (Nat.le_refl _) ⟨_, rfl, _, _, rfl, rfl, h6⟩
    · refine pm_iloadn hG dX11_night_19 rfl ?_
      refine pm_iconst (v := 0) hG dX11_night_20 (by decide) ?_
      refine pm_iconst (v := 4) hG dX11_night_21 (by decide) ?_
      refine pm_callS (As := [.int zc, .int 0, .int 4]) (rest := []) hG hR dX11_night_22 (lkX11_105 _ rfl) okS_X11_isOutside (sx_isOutside (d := 13)) rfl rfl hdd (Nat.le_refl _) (Nat.le_refl _) (by decide) (pm_ki (fun v7 σ' cnt' hq => ?_))
      have o7 := hq.1
      have b7 := pm_b10 hq.1
      obtain ⟨I7, A7, rfl, rfl, h7⟩ := hv_id (kp := kp) (I := I4) (A := A4) h4 hq.2
      refine pm_if_ne (tgt := 38) hG dX11_night_25 rfl (fun c8 => ?_) (fun c8 => ?_)
      · refine pm_aloadn hG dX11_night_38 rfl ?_
        refine pm_ldc hG dX11_night_39 (ctX11_109 _ rfl) ?_
        refine pm_callV (As := [.int (-1000001)]) (rest := []) hG hR dX11_night_41 (lkX11_97 _ rfl) okV_X11_told rfl rfl (sx_told (d := 13) (by decide) rfl rfl) rfl rfl hdd (Nat.le_refl _) (Nat.le_refl _) (by decide) (pm_ki (fun v9 σ' cnt' hq => ?_))
        obtain ⟨-, ⟨g9, hg9⟩, hc9⟩ := hq
        obtain ⟨I9, A9, rfl, rfl, h9⟩ := hv_a53 (kp := kp) (I := I7) (A := A7) h7 ⟨hg9, hc9⟩
        exact pm_iret hG hF dX11_night_44 rfl (Nat.le_refl _) (Nat.le_refl _) ⟨_, rfl, _, _, rfl, rfl, h9⟩
      · refine pm_iloadi hG dX11_night_28 rfl ?_
        refine pm_iconst (v := 0) hG dX11_night_30 (by decide) ?_
        refine pm_iconst (v := 1) hG dX11_night_31 (by decide) ?_
        refine pm_callS (As := [.int zd, .int 0, .int 1]) (rest := []) hG hR dX11_night_32 (lkX11_105 _ rfl) okS_X11_isOutside (sx_isOutside (d := 13)) rfl rfl hdd (Nat.le_refl _) (Nat.le_refl _) (by decide) (pm_ki (fun v10 σ' cnt' hq => ?_))
        have o10 := hq.1
        have b10 := pm_b10 hq.1
        obtain ⟨I10, A10, rfl, rfl, h10⟩ := hv_id (kp := kp) (I := I7) (A := A7) h7 hq.2
        refine pm_if_eq (tgt := 45) hG dX11_night_35 rfl (fun c11 => ?_) (fun c11 => ?_)
        · rcases rg_1_3 (x := zb) (pm_outL o4 c5) (pm_outR o4 c5) with rfl | rfl | rfl
          · refine pm_aloadn hG dX11_night_45 rfl ?_
            refine pm_getf hG dX11_night_46 (flX11_53 _ rfl) rfl rfl ?_
            refine pm_iloadn hG dX11_night_49 rfl ?_
            refine pm_callV (As := [.int zc]) (rest := []) hG hR dX11_night_50 (lkX11_314 _ rfl) okV_X1_prepare rfl rfl (g_X1_prepare (d := 13) (by decide) h10) rfl rfl hdd (Nat.le_refl _) (Nat.le_refl _) (by decide) (pm_kv (fun σ' cnt' hq => ?_))
            obtain ⟨I12, A12, rfl, rfl, h12⟩ := hq
            refine pm_iloadi hG dX11_night_53 rfl ?_
            refine pm_if_ne (tgt := 77) hG dX11_night_55 rfl (fun c13 => ?_) (fun c13 => ?_)
            · refine pm_aloadn hG dX11_night_77 rfl ?_
              refine pm_getf hG dX11_night_78 (flX11_53 _ rfl) rfl rfl ?_
              refine pm_iloadn hG dX11_night_81 rfl ?_
              refine pm_iconst (v := 0) hG dX11_night_82 (by decide) ?_
              refine pm_iloadn hG dX11_night_83 rfl ?_
              refine pm_callV (As := [.int 1, .int 0, .int za]) (rest := []) hG hR dX11_night_84 (lkX11_320 _ rfl) okV_X1_winsByTaking rfl rfl (g_X1_winsByTaking_k1 (d := 13) (by decide) h12) rfl rfl hdd (Nat.le_refl _) (Nat.le_refl _) (by decide) (pm_ki (fun v14 σ' cnt' hq => ?_))
              obtain ⟨b14, I14, A14, rfl, rfl, h14⟩ := hq
              refine pm_if_eq (tgt := 92) hG dX11_night_87 rfl (fun c15 => ?_) (fun c15 => ?_)
              · refine pm_aloadn hG dX11_night_92 rfl ?_
                refine pm_aloadn hG dX11_night_93 rfl ?_
                refine pm_getf hG dX11_night_94 (flX11_53 _ rfl) rfl rfl ?_
                refine pm_iloadn hG dX11_night_97 rfl ?_
                refine pm_iconst (v := 0) hG dX11_night_98 (by decide) ?_
                refine pm_iloadn hG dX11_night_99 rfl ?_
                refine pm_callV (As := [.int 1, .int 0, .int za]) (rest := [.ref (B + 0)]) hG hR dX11_night_100 (lkX11_323 _ rfl) okV_X1_winsByWaiting rfl rfl (g_X1_winsByWaiting_k1 (d := 13) (by decide) h14) rfl rfl hdd (Nat.le_refl _) (Nat.le_refl _) (by first | decide | exact Nat.le_of_ble_eq_true rfl) (pm_ki (fun v16 σ' cnt' hq => ?_))
                obtain ⟨b16, I16, A16, rfl, rfl, h16⟩ := hq
                refine pm_if_eq (tgt := 110) hG dX11_night_103 rfl (fun c17 => ?_) (fun c17 => ?_)
                · refine pm_ldc hG dX11_night_110 (ctX11_223 _ rfl) ?_
                  refine pm_callV (As := [.int (-1000002)]) (rest := []) hG hR dX11_night_112 (lkX11_97 _ rfl) okV_X11_told rfl rfl (sx_told (d := 13) (by decide) rfl rfl) rfl rfl hdd (Nat.le_refl _) (Nat.le_refl _) (by decide) (pm_ki (fun v18 σ' cnt' hq => ?_))
                  obtain ⟨-, ⟨g18, hg18⟩, hc18⟩ := hq
                  obtain ⟨I18, A18, rfl, rfl, h18⟩ := hv_a53 (kp := kp) (I := I16) (A := A16) h16 ⟨hg18, hc18⟩
                  exact pm_iret hG hF dX11_night_115 rfl (Nat.le_refl _) (Nat.le_refl _) ⟨_, rfl, _, _, rfl, rfl, h18⟩
                · refine pm_iconst (v := (-1)) hG dX11_night_106 (by decide) ?_
                  refine pm_goto (tgt := 112) hG dX11_night_107 rfl ?_
                  refine pm_callV (As := [.int (-1)]) (rest := []) hG hR dX11_night_112 (lkX11_97 _ rfl) okV_X11_told rfl rfl (sx_told (d := 13) (by decide) rfl rfl) rfl rfl hdd (Nat.le_refl _) (Nat.le_refl _) (by decide) (pm_ki (fun v19 σ' cnt' hq => ?_))
                  obtain ⟨-, ⟨g19, hg19⟩, hc19⟩ := hq
                  obtain ⟨I19, A19, rfl, rfl, h19⟩ := hv_a53 (kp := kp) (I := I16) (A := A16) h16 ⟨hg19, hc19⟩
                  exact pm_iret hG hF dX11_night_115 rfl (Nat.le_refl _) (Nat.le_refl _) ⟨_, rfl, _, _, rfl, rfl, h19⟩
              · refine pm_iconst (v := 0) hG dX11_night_90 (by decide) ?_
                exact pm_iret hG hF dX11_night_91 rfl (Nat.le_refl _) (Nat.le_refl _) ⟨_, rfl, _, _, rfl, rfl, h14⟩
            · refine pm_aloadn hG dX11_night_58 rfl ?_
              refine pm_getf hG dX11_night_59 (flX11_53 _ rfl) rfl rfl ?_
              refine pm_iloadn hG dX11_night_62 rfl ?_
              refine pm_iconst (v := 0) hG dX11_night_63 (by decide) ?_
              refine pm_iloadn hG dX11_night_64 rfl ?_
              refine pm_callV (As := [.int 1, .int 0, .int za]) (rest := []) hG hR dX11_night_65 (lkX11_317 _ rfl) okV_X1_winsWithin rfl rfl (g_X1_winsWithin_k1 (d := 13) (by decide) h12) rfl rfl hdd (Nat.le_refl _) (Nat.le_refl _) (by decide) (pm_ki (fun v20 σ' cnt' hq => ?_))
              obtain ⟨b20, I20, A20, rfl, rfl, h20⟩ := hq
              refine pm_if_eq (tgt := 75) hG dX11_night_68 rfl (fun c21 => ?_) (fun c21 => ?_)
              · refine pm_iconst (v := 0) hG dX11_night_75 (by decide) ?_
                exact pm_iret hG hF dX11_night_76 rfl (Nat.le_refl _) (Nat.le_refl _) ⟨_, rfl, _, _, rfl, rfl, h20⟩
              · refine pm_iconst (v := 1) hG dX11_night_71 (by decide) ?_
                refine pm_goto (tgt := 76) hG dX11_night_72 rfl ?_
                exact pm_iret hG hF dX11_night_76 rfl (Nat.le_refl _) (Nat.le_refl _) ⟨_, rfl, _, _, rfl, rfl, h20⟩
          · refine pm_aloadn hG dX11_night_45 rfl ?_
            refine pm_getf hG dX11_night_46 (flX11_53 _ rfl) rfl rfl ?_
            refine pm_iloadn hG dX11_night_49 rfl ?_
            refine pm_callV (As := [.int zc]) (rest := []) hG hR dX11_night_50 (lkX11_314 _ rfl) okV_X1_prepare rfl rfl (g_X1_prepare (d := 13) (by decide) h10) rfl rfl hdd (Nat.le_refl _) (Nat.le_refl _) (by decide) (pm_kv (fun σ' cnt' hq => ?_))
            obtain ⟨I22, A22, rfl, rfl, h22⟩ := hq
            refine pm_iloadi hG dX11_night_53 rfl ?_
            refine pm_if_ne (tgt := 77) hG dX11_night_55 rfl (fun c23 => ?_) (fun c23 => ?_)
            · refine pm_aloadn hG dX11_night_77 rfl ?_
              refine pm_getf hG dX11_night_78 (flX11_53 _ rfl) rfl rfl ?_
              refine pm_iloadn hG dX11_night_81 rfl ?_
              refine pm_iconst (v := 0) hG dX11_night_82 (by decide) ?_
              refine pm_iloadn hG dX11_night_83 rfl ?_
              refine pm_callV (As := [.int 2, .int 0, .int za]) (rest := []) hG hR dX11_night_84 (lkX11_320 _ rfl) okV_X1_winsByTaking rfl rfl (g_X1_winsByTaking_k2 (d := 13) (by decide) h22) rfl rfl hdd (Nat.le_refl _) (Nat.le_refl _) (by decide) (pm_ki (fun v24 σ' cnt' hq => ?_))
              obtain ⟨b24, I24, A24, rfl, rfl, h24⟩ := hq
              refine pm_if_eq (tgt := 92) hG dX11_night_87 rfl (fun c25 => ?_) (fun c25 => ?_)
              · refine pm_aloadn hG dX11_night_92 rfl ?_
                refine pm_aloadn hG dX11_night_93 rfl ?_
                refine pm_getf hG dX11_night_94 (flX11_53 _ rfl) rfl rfl ?_
                refine pm_iloadn hG dX11_night_97 rfl ?_
                refine pm_iconst (v := 0) hG dX11_night_98 (by decide) ?_
                refine pm_iloadn hG dX11_night_99 rfl ?_
                refine pm_callV (As := [.int 2, .int 0, .int za]) (rest := [.ref (B + 0)]) hG hR dX11_night_100 (lkX11_323 _ rfl) okV_X1_winsByWaiting rfl rfl (g_X1_winsByWaiting_k2 (d := 13) (by decide) h24) rfl rfl hdd (Nat.le_refl _) (Nat.le_refl _) (by first | decide | exact Nat.le_of_ble_eq_true rfl) (pm_ki (fun v26 σ' cnt' hq => ?_))
                obtain ⟨b26, I26, A26, rfl, rfl, h26⟩ := hq
                refine pm_if_eq (tgt := 110) hG dX11_night_103 rfl (fun c27 => ?_) (fun c27 => ?_)
                · refine pm_ldc hG dX11_night_110 (ctX11_223 _ rfl) ?_
                  refine pm_callV (As := [.int (-1000002)]) (rest := []) hG hR dX11_night_112 (lkX11_97 _ rfl) okV_X11_told rfl rfl (sx_told (d := 13) (by decide) rfl rfl) rfl rfl hdd (Nat.le_refl _) (Nat.le_refl _) (by decide) (pm_ki (fun v28 σ' cnt' hq => ?_))
                  obtain ⟨-, ⟨g28, hg28⟩, hc28⟩ := hq
                  obtain ⟨I28, A28, rfl, rfl, h28⟩ := hv_a53 (kp := kp) (I := I26) (A := A26) h26 ⟨hg28, hc28⟩
                  exact pm_iret hG hF dX11_night_115 rfl (Nat.le_refl _) (Nat.le_refl _) ⟨_, rfl, _, _, rfl, rfl, h28⟩
                · refine pm_iconst (v := (-1)) hG dX11_night_106 (by decide) ?_
                  refine pm_goto (tgt := 112) hG dX11_night_107 rfl ?_
                  refine pm_callV (As := [.int (-1)]) (rest := []) hG hR dX11_night_112 (lkX11_97 _ rfl) okV_X11_told rfl rfl (sx_told (d := 13) (by decide) rfl rfl) rfl rfl hdd (Nat.le_refl _) (Nat.le_refl _) (by decide) (pm_ki (fun v29 σ' cnt' hq => ?_))
                  obtain ⟨-, ⟨g29, hg29⟩, hc29⟩ := hq
                  obtain ⟨I29, A29, rfl, rfl, h29⟩ := hv_a53 (kp := kp) (I := I26) (A := A26) h26 ⟨hg29, hc29⟩
                  exact pm_iret hG hF dX11_night_115 rfl (Nat.le_refl _) (Nat.le_refl _) ⟨_, rfl, _, _, rfl, rfl, h29⟩
              · refine pm_iconst (v := 0) hG dX11_night_90 (by decide) ?_
                exact pm_iret hG hF dX11_night_91 rfl (Nat.le_refl _) (Nat.le_refl _) ⟨_, rfl, _, _, rfl, rfl, h24⟩
            · refine pm_aloadn hG dX11_night_58 rfl ?_
              refine pm_getf hG dX11_night_59 (flX11_53 _ rfl) rfl rfl ?_
              refine pm_iloadn hG dX11_night_62 rfl ?_
              refine pm_iconst (v := 0) hG dX11_night_63 (by decide) ?_
              refine pm_iloadn hG dX11_night_64 rfl ?_
              refine pm_callV (As := [.int 2, .int 0, .int za]) (rest := []) hG hR dX11_night_65 (lkX11_317 _ rfl) okV_X1_winsWithin rfl rfl (g_X1_winsWithin_k2 (d := 13) (by decide) h22) rfl rfl hdd (Nat.le_refl _) (Nat.le_refl _) (by decide) (pm_ki (fun v30 σ' cnt' hq => ?_))
              obtain ⟨b30, I30, A30, rfl, rfl, h30⟩ := hq
              refine pm_if_eq (tgt := 75) hG dX11_night_68 rfl (fun c31 => ?_) (fun c31 => ?_)
              · refine pm_iconst (v := 0) hG dX11_night_75 (by decide) ?_
                exact pm_iret hG hF dX11_night_76 rfl (Nat.le_refl _) (Nat.le_refl _) ⟨_, rfl, _, _, rfl, rfl, h30⟩
              · refine pm_iconst (v := 1) hG dX11_night_71 (by decide) ?_
                refine pm_goto (tgt := 76) hG dX11_night_72 rfl ?_
                exact pm_iret hG hF dX11_night_76 rfl (Nat.le_refl _) (Nat.le_refl _) ⟨_, rfl, _, _, rfl, rfl, h30⟩
          · refine pm_aloadn hG dX11_night_45 rfl ?_
            refine pm_getf hG dX11_night_46 (flX11_53 _ rfl) rfl rfl ?_
            refine pm_iloadn hG dX11_night_49 rfl ?_
            refine pm_callV (As := [.int zc]) (rest := []) hG hR dX11_night_50 (lkX11_314 _ rfl) okV_X1_prepare rfl rfl (g_X1_prepare (d := 13) (by decide) h10) rfl rfl hdd (Nat.le_refl _) (Nat.le_refl _) (by decide) (pm_kv (fun σ' cnt' hq => ?_))
            obtain ⟨I32, A32, rfl, rfl, h32⟩ := hq
            refine pm_iloadi hG dX11_night_53 rfl ?_
            refine pm_if_ne (tgt := 77) hG dX11_night_55 rfl (fun c33 => ?_) (fun c33 => ?_)
            · refine pm_aloadn hG dX11_night_77 rfl ?_
              refine pm_getf hG dX11_night_78 (flX11_53 _ rfl) rfl rfl ?_
              refine pm_iloadn hG dX11_night_81 rfl ?_
              refine pm_iconst (v := 0) hG dX11_night_82 (by decide) ?_
              refine pm_iloadn hG dX11_night_83 rfl ?_
              refine pm_callV (As := [.int 3, .int 0, .int za]) (rest := []) hG hR dX11_night_84 (lkX11_320 _ rfl) okV_X1_winsByTaking rfl rfl (g_X1_winsByTaking_k3 (d := 13) (by decide) h32) rfl rfl hdd (Nat.le_refl _) (Nat.le_refl _) (by decide) (pm_ki (fun v34 σ' cnt' hq => ?_))
              obtain ⟨b34, I34, A34, rfl, rfl, h34⟩ := hq
              refine pm_if_eq (tgt := 92) hG dX11_night_87 rfl (fun c35 => ?_) (fun c35 => ?_)
              · refine pm_aloadn hG dX11_night_92 rfl ?_
                refine pm_aloadn hG dX11_night_93 rfl ?_
                refine pm_getf hG dX11_night_94 (flX11_53 _ rfl) rfl rfl ?_
                refine pm_iloadn hG dX11_night_97 rfl ?_
                refine pm_iconst (v := 0) hG dX11_night_98 (by decide) ?_
                refine pm_iloadn hG dX11_night_99 rfl ?_
                refine pm_callV (As := [.int 3, .int 0, .int za]) (rest := [.ref (B + 0)]) hG hR dX11_night_100 (lkX11_323 _ rfl) okV_X1_winsByWaiting rfl rfl (g_X1_winsByWaiting_k3 (d := 13) (by decide) h34) rfl rfl hdd (Nat.le_refl _) (Nat.le_refl _) (by first | decide | exact Nat.le_of_ble_eq_true rfl) (pm_ki (fun v36 σ' cnt' hq => ?_))
                obtain ⟨b36, I36, A36, rfl, rfl, h36⟩ := hq
                refine pm_if_eq (tgt := 110) hG dX11_night_103 rfl (fun c37 => ?_) (fun c37 => ?_)
                · refine pm_ldc hG dX11_night_110 (ctX11_223 _ rfl) ?_
                  refine pm_callV (As := [.int (-1000002)]) (rest := []) hG hR dX11_night_112 (lkX11_97 _ rfl) okV_X11_told rfl rfl (sx_told (d := 13) (by decide) rfl rfl) rfl rfl hdd (Nat.le_refl _) (Nat.le_refl _) (by decide) (pm_ki (fun v38 σ' cnt' hq => ?_))
                  obtain ⟨-, ⟨g38, hg38⟩, hc38⟩ := hq
                  obtain ⟨I38, A38, rfl, rfl, h38⟩ := hv_a53 (kp := kp) (I := I36) (A := A36) h36 ⟨hg38, hc38⟩
                  exact pm_iret hG hF dX11_night_115 rfl (Nat.le_refl _) (Nat.le_refl _) ⟨_, rfl, _, _, rfl, rfl, h38⟩
                · refine pm_iconst (v := (-1)) hG dX11_night_106 (by decide) ?_
                  refine pm_goto (tgt := 112) hG dX11_night_107 rfl ?_
                  refine pm_callV (As := [.int (-1)]) (rest := []) hG hR dX11_night_112 (lkX11_97 _ rfl) okV_X11_told rfl rfl (sx_told (d := 13) (by decide) rfl rfl) rfl rfl hdd (Nat.le_refl _) (Nat.le_refl _) (by decide) (pm_ki (fun v39 σ' cnt' hq => ?_))
                  obtain ⟨-, ⟨g39, hg39⟩, hc39⟩ := hq
                  obtain ⟨I39, A39, rfl, rfl, h39⟩ := hv_a53 (kp := kp) (I := I36) (A := A36) h36 ⟨hg39, hc39⟩
                  exact pm_iret hG hF dX11_night_115 rfl (Nat.le_refl _) (Nat.le_refl _) ⟨_, rfl, _, _, rfl, rfl, h39⟩
              · refine pm_iconst (v := 0) hG dX11_night_90 (by decide) ?_
                exact pm_iret hG hF dX11_night_91 rfl (Nat.le_refl _) (Nat.le_refl _) ⟨_, rfl, _, _, rfl, rfl, h34⟩
            · refine pm_aloadn hG dX11_night_58 rfl ?_
              refine pm_getf hG dX11_night_59 (flX11_53 _ rfl) rfl rfl ?_
              refine pm_iloadn hG dX11_night_62 rfl ?_
              refine pm_iconst (v := 0) hG dX11_night_63 (by decide) ?_
              refine pm_iloadn hG dX11_night_64 rfl ?_
              refine pm_callV (As := [.int 3, .int 0, .int za]) (rest := []) hG hR dX11_night_65 (lkX11_317 _ rfl) okV_X1_winsWithin rfl rfl (g_X1_winsWithin_k3 (d := 13) (by decide) h32) rfl rfl hdd (Nat.le_refl _) (Nat.le_refl _) (by decide) (pm_ki (fun v40 σ' cnt' hq => ?_))
              obtain ⟨b40, I40, A40, rfl, rfl, h40⟩ := hq
              refine pm_if_eq (tgt := 75) hG dX11_night_68 rfl (fun c41 => ?_) (fun c41 => ?_)
              · refine pm_iconst (v := 0) hG dX11_night_75 (by decide) ?_
                exact pm_iret hG hF dX11_night_76 rfl (Nat.le_refl _) (Nat.le_refl _) ⟨_, rfl, _, _, rfl, rfl, h40⟩
              · refine pm_iconst (v := 1) hG dX11_night_71 (by decide) ?_
                refine pm_goto (tgt := 76) hG dX11_night_72 rfl ?_
                exact pm_iret hG hF dX11_night_76 rfl (Nat.le_refl _) (Nat.le_refl _) ⟨_, rfl, _, _, rfl, rfl, h40⟩
        · refine pm_aloadn hG dX11_night_38 rfl ?_
          refine pm_ldc hG dX11_night_39 (ctX11_109 _ rfl) ?_
          refine pm_callV (As := [.int (-1000001)]) (rest := []) hG hR dX11_night_41 (lkX11_97 _ rfl) okV_X11_told rfl rfl (sx_told (d := 13) (by decide) rfl rfl) rfl rfl hdd (Nat.le_refl _) (Nat.le_refl _) (by decide) (pm_ki (fun v42 σ' cnt' hq => ?_))
          obtain ⟨-, ⟨g42, hg42⟩, hc42⟩ := hq
          obtain ⟨I42, A42, rfl, rfl, h42⟩ := hv_a53 (kp := kp) (I := I10) (A := A10) h10 ⟨hg42, hc42⟩
          exact pm_iret hG hF dX11_night_44 rfl (Nat.le_refl _) (Nat.le_refl _) ⟨_, rfl, _, _, rfl, rfl, h42⟩

set_option maxRecDepth 100000 in
set_option maxHeartbeats 4000000 in
theorem g_X7_payFromChest {ε : Nat → Int32} {d B cnt : Nat} {kp : Value} {ρ : pm_S} {I : Nat → Int32} {A : Nat → Nat → Int32} {za zb : Int32} (hdd : 2 ≤ d) (h : gq ε I) : pm_met mX7_payFromChest d 0 0 B [.ref (B + 1), .int za, .int zb] cnt (pm_two (cl_L B kp I A) ρ) (pm_Qi (fun _ σ' cnt' => hvq ε B kp ρ cnt σ' cnt')) := by
  refine pm_enter 0 (by decide) (Nat.le_of_ble_eq_true rfl) rfl (fun G hG hR hF => ?_)
  refine pm_aloadn hG dX7_payFromChest_0 rfl ?_
  refine pm_getf hG dX7_payFromChest_1 (flX7_53 _ rfl) rfl rfl ?_
  refine pm_iloadn hG dX7_payFromChest_4 rfl ?_
  refine pm_icmp_ge (tgt := 11) hG dX7_payFromChest_5 rfl (fun c1 => ?_) (fun c1 => ?_)
  · refine pm_aloadn hG dX7_payFromChest_11 rfl ?_
    refine pm_dup hG dX7_payFromChest_12 rfl ?_
    refine pm_getf hG dX7_payFromChest_13 (flX7_53 _ rfl) rfl rfl ?_
    refine pm_iloadn hG dX7_payFromChest_16 rfl ?_
    refine pm_isub hG dX7_payFromChest_17 ?_
    refine pm_putf hG dX7_payFromChest_18 (fwX7_53 _ rfl) rfl rfl rfl ?_
    refine pm_nrm (L' := cl_L B kp (ui I 103 ((I 103) - zb)) A) (by decide) (Nat.le_of_ble_eq_true rfl) rfl ?_
    refine pm_aloadn hG dX7_payFromChest_21 rfl ?_
    refine pm_getf hG dX7_payFromChest_22 (flX7_23 _ rfl) rfl rfl ?_
    refine pm_iloadn hG dX7_payFromChest_25 rfl ?_
    refine pm_bipush (v := 7) hG dX7_payFromChest_26 (by decide) ?_
    refine pm_iloadn hG dX7_payFromChest_28 rfl ?_
    refine pm_callV (As := [.int za, .int 7, .int zb]) (rest := []) hG hR dX7_payFromChest_29 (lkX7_125 _ rfl) okV_X9_add rfl rfl (tb_add (d := 1) (by decide) rfl rfl (pm_tw_of 20 14 (by decide) (by decide) (by decide)) (by decide)) rfl rfl hdd (Nat.le_refl _) (Nat.le_refl _) (by decide) (pm_kv (fun σ' cnt' hq => ?_))
    obtain ⟨I3, A3, rfl, rfl, h3⟩ := hv_a7 (kp := kp) (I := (ui I 103 ((I 103) - zb))) (A := A) (gq.wi (k := 103) rfl h) hq
    refine pm_aloadn hG dX7_payFromChest_32 rfl ?_
    refine pm_getf hG dX7_payFromChest_33 (flX7_53 _ rfl) rfl rfl ?_
    exact pm_iret hG hF dX7_payFromChest_36 rfl (Nat.le_refl _) (Nat.le_refl _) ⟨_, rfl, _, _, rfl, rfl, h3⟩
  · refine pm_ldc hG dX7_payFromChest_8 (ctX7_92 _ rfl) ?_
    exact pm_iret hG hF dX7_payFromChest_10 rfl (Nat.le_refl _) (Nat.le_refl _) ⟨_, rfl, _, _, rfl, rfl, h⟩

set_option maxRecDepth 100000 in
set_option maxHeartbeats 4000000 in
theorem g_X3_sendAway {ε : Nat → Int32} {d B cnt : Nat} {kp : Value} {ρ : pm_S} {I : Nat → Int32} {A : Nat → Nat → Int32} {za zb : Int32} (hdd : 3 ≤ d) (h : gq ε I) : pm_met mX3_sendAway d 0 0 B [.ref (B + 36), .int za, .int zb] cnt (pm_two (cl_L B kp I A) ρ) (pm_Qi (fun _ σ' cnt' => hvq ε B kp ρ cnt σ' cnt')) := by
  refine pm_enter 1 (by decide) (Nat.le_of_ble_eq_true rfl) rfl (fun G hG hR hF => ?_)
  refine pm_aloadn hG dX3_sendAway_0 rfl ?_
  refine pm_getf hG dX3_sendAway_1 (flX3_9 _ rfl) rfl rfl ?_
  refine pm_getf hG dX3_sendAway_4 (flX3_123 _ rfl) rfl rfl ?_
  refine pm_callV (As := []) (rest := []) hG hR dX3_sendAway_7 (lkX3_74 _ rfl) okV_X9_used rfl rfl (tb_used (d := 2) rfl) rfl rfl hdd (Nat.le_refl _) (Nat.le_refl _) (by decide) (pm_ki (fun v1 σ' cnt' hq => ?_))
  obtain ⟨I1, A1, rfl, rfl, h1⟩ := hv_id (kp := kp) (I := I) (A := A) h hq.2
  refine pm_istoreXn (loc' := [some (.ref (B + 36)), some (.int za), some (.int zb), some (.int v1)]) hG dX3_sendAway_10 (by decide) (pm_c1b rfl) rfl ?_
  refine pm_iloadn hG dX3_sendAway_11 rfl ?_
  refine pm_if_le (tgt := 40) hG dX3_sendAway_12 rfl (fun c2 => ?_) (fun c2 => ?_)
  · refine pm_ldc hG dX3_sendAway_40 (ctX3_81 _ rfl) ?_
    exact pm_iret hG hF dX3_sendAway_42 rfl (Nat.le_refl _) (Nat.le_refl _) ⟨_, rfl, _, _, rfl, rfl, h1⟩
  · refine pm_aloadn hG dX3_sendAway_15 rfl ?_
    refine pm_getf hG dX3_sendAway_16 (flX3_9 _ rfl) rfl rfl ?_
    refine pm_iloadn hG dX3_sendAway_19 rfl ?_
    refine pm_callV (As := [.int za]) (rest := []) hG hR dX3_sendAway_20 (lkX3_59 _ rfl) okV_X7_isInTown rfl rfl (g_X7_isInTown (d := 2) (by decide) h1) rfl rfl hdd (Nat.le_refl _) (Nat.le_refl _) (by decide) (pm_ki (fun v3 σ' cnt' hq => ?_))
    obtain ⟨b3, I3, A3, rfl, rfl, h3⟩ := hq
    refine pm_if_eq (tgt := 40) hG dX3_sendAway_23 rfl (fun c4 => ?_) (fun c4 => ?_)
    · refine pm_ldc hG dX3_sendAway_40 (ctX3_81 _ rfl) ?_
      exact pm_iret hG hF dX3_sendAway_42 rfl (Nat.le_refl _) (Nat.le_refl _) ⟨_, rfl, _, _, rfl, rfl, h3⟩
    · refine pm_aloadn hG dX3_sendAway_26 rfl ?_
      refine pm_getf hG dX3_sendAway_27 (flX3_9 _ rfl) rfl rfl ?_
      refine pm_iloadn hG dX3_sendAway_30 rfl ?_
      refine pm_iloadn hG dX3_sendAway_31 rfl ?_
      refine pm_iloadn hG dX3_sendAway_32 rfl ?_
      refine pm_irem hG dX3_sendAway_33 (fun q => c2 (by rw [q]; decide)) ?_
      refine pm_callV (As := [.int za, .int (zb - zb / v1 * v1)]) (rest := []) hG hR dX3_sendAway_34 (lkX3_126 _ rfl) okV_X7_setOut rfl rfl (g_X7_setOut (d := 2) (by decide) h3) rfl rfl hdd (Nat.le_refl _) (Nat.le_refl _) (by decide) (pm_ki (fun v5 σ' cnt' hq => ?_))
      obtain ⟨I5, A5, rfl, rfl, h5⟩ := hq
      refine pm_goto (tgt := 42) hG dX3_sendAway_37 rfl ?_
      exact pm_iret hG hF dX3_sendAway_42 rfl (Nat.le_refl _) (Nat.le_refl _) ⟨_, rfl, _, _, rfl, rfl, h5⟩

set_option maxRecDepth 100000 in
set_option maxHeartbeats 4000000 in
theorem g_X2_isStruck {ε : Nat → Int32} {d B cnt : Nat} {kp : Value} {ρ : pm_S} {I : Nat → Int32} {A : Nat → Nat → Int32} {za : Int32} (hdd : 1 ≤ d) (h : gq ε I) : pm_met mX2_isStruck d 0 0 B [.ref (B + 26), .int za] cnt (pm_two (cl_L B kp I A) ρ) (pm_Qi (fun v σ' cnt' => (v = 0 ∨ v = 1) ∧ hvq ε B kp ρ cnt σ' cnt')) := by
  refine pm_enter 0 (by decide) (Nat.le_of_ble_eq_true rfl) rfl (fun G hG hR hF => ?_)
  refine pm_aloadn hG dX2_isStruck_0 rfl ?_
  refine pm_getf hG dX2_isStruck_1 (flX2_9 _ rfl) rfl rfl ?_
  refine pm_getf hG dX2_isStruck_4 (flX2_43 _ rfl) rfl rfl ?_
  refine pm_iloadn hG dX2_isStruck_7 rfl ?_
  refine pm_iconst (v := 3) hG dX2_isStruck_8 (by decide) ?_
  refine pm_callV (As := [.int za, .int 3]) (rest := []) hG hR dX2_isStruck_9 (lkX2_67 _ rfl) okV_X9_get rfl rfl (tb_get (d := 0) rfl rfl (pm_tw_of 12 6 (by decide) (by decide) (by decide))) rfl rfl hdd (Nat.le_refl _) (Nat.le_refl _) (by decide) (pm_ki (fun v1 σ' cnt' hq => ?_))
  obtain ⟨I1, A1, rfl, rfl, h1⟩ := hv_id (kp := kp) (I := I) (A := A) h hq.2
  refine pm_if_lt (tgt := 19) hG dX2_isStruck_12 rfl (fun c2 => ?_) (fun c2 => ?_)
  · refine pm_iconst (v := 0) hG dX2_isStruck_19 (by decide) ?_
    exact pm_zret hG hF dX2_isStruck_20 rfl (pm_nz (Or.inl rfl)) (Nat.le_refl _) (Nat.le_refl _) ⟨_, rfl, (Or.inl rfl), _, _, rfl, rfl, h1⟩
  · refine pm_iconst (v := 1) hG dX2_isStruck_15 (by decide) ?_
    refine pm_goto (tgt := 20) hG dX2_isStruck_16 rfl ?_
    exact pm_zret hG hF dX2_isStruck_20 rfl (pm_nz (Or.inr rfl)) (Nat.le_refl _) (Nat.le_refl _) ⟨_, rfl, (Or.inr rfl), _, _, rfl, rfl, h1⟩

set_option maxRecDepth 100000 in
set_option maxHeartbeats 4000000 in
theorem g_X2_strikeOut {ε : Nat → Int32} {d B cnt : Nat} {kp : Value} {ρ : pm_S} {I : Nat → Int32} {A : Nat → Nat → Int32} {za : Int32} (hdd : 1 ≤ d) (h : gq ε I) : pm_met mX2_strikeOut d 0 0 B [.ref (B + 26), .int za] cnt (pm_two (cl_L B kp I A) ρ) (pm_Qv (fun σ' cnt' => hvq ε B kp ρ cnt σ' cnt')) := by
  refine pm_enter 0 (by decide) (Nat.le_of_ble_eq_true rfl) rfl (fun G hG hR hF => ?_)
  refine pm_aloadn hG dX2_strikeOut_0 rfl ?_
  refine pm_getf hG dX2_strikeOut_1 (flX2_9 _ rfl) rfl rfl ?_
  refine pm_getf hG dX2_strikeOut_4 (flX2_43 _ rfl) rfl rfl ?_
  refine pm_iloadn hG dX2_strikeOut_7 rfl ?_
  refine pm_iconst (v := 3) hG dX2_strikeOut_8 (by decide) ?_
  refine pm_aloadn hG dX2_strikeOut_9 rfl ?_
  refine pm_getf hG dX2_strikeOut_10 (flX2_9 _ rfl) rfl rfl ?_
  refine pm_getf hG dX2_strikeOut_13 (flX2_60 _ rfl) rfl rfl ?_
  refine pm_callV (As := [.int za, .int 3, .int (I 102)]) (rest := []) hG hR dX2_strikeOut_16 (lkX2_56 _ rfl) okV_X9_set rfl rfl (tb_set (d := 0) rfl rfl (pm_tw_of 12 6 (by decide) (by decide) (by decide)) (by decide)) rfl rfl hdd (Nat.le_refl _) (Nat.le_refl _) (by decide) (pm_kv (fun σ' cnt' hq => ?_))
  obtain ⟨I1, A1, rfl, rfl, h1⟩ := hv_a11 (kp := kp) (I := I) (A := A) h hq
  exact pm_vret hG hF dX2_strikeOut_19 rfl (Nat.le_refl _) (Nat.le_refl _) ⟨rfl, _, _, rfl, rfl, h1⟩

set_option maxRecDepth 100000 in
set_option maxHeartbeats 4000000 in
theorem g_X3_strikeFor {ε : Nat → Int32} {d B cnt : Nat} {kp : Value} {ρ : pm_S} {I : Nat → Int32} {A : Nat → Nat → Int32} {za : Int32} (hdd : 2 ≤ d) (h : gq ε I) : pm_met mX3_strikeFor d 0 0 B [.ref (B + 36), .int za] cnt (pm_two (cl_L B kp I A) ρ) (pm_Qi (fun _ σ' cnt' => hvq ε B kp ρ cnt σ' cnt')) := by
  refine pm_enter 0 (by decide) (Nat.le_of_ble_eq_true rfl) rfl (fun G hG hR hF => ?_)
  refine pm_aloadn hG dX3_strikeFor_0 rfl ?_
  refine pm_getf hG dX3_strikeFor_1 (flX3_9 _ rfl) rfl rfl ?_
  refine pm_getf hG dX3_strikeFor_4 (flX3_129 _ rfl) rfl rfl ?_
  refine pm_iloadn hG dX3_strikeFor_7 rfl ?_
  refine pm_callV (As := [.int za]) (rest := []) hG hR dX3_strikeFor_8 (lkX3_109 _ rfl) okV_X9_has rfl rfl (tb_has (d := 1) rfl) rfl rfl hdd (Nat.le_refl _) (Nat.le_refl _) (by decide) (pm_ki (fun v1 σ' cnt' hq => ?_))
  have b1 := pm_b01 hq.1
  obtain ⟨I1, A1, rfl, rfl, h1⟩ := hv_id (kp := kp) (I := I) (A := A) h hq.2
  refine pm_if_eq (tgt := 25) hG dX3_strikeFor_11 rfl (fun c2 => ?_) (fun c2 => ?_)
  · refine pm_ldc hG dX3_strikeFor_25 (ctX3_81 _ rfl) ?_
    exact pm_iret hG hF dX3_strikeFor_27 rfl (Nat.le_refl _) (Nat.le_refl _) ⟨_, rfl, _, _, rfl, rfl, h1⟩
  · refine pm_aloadn hG dX3_strikeFor_14 rfl ?_
    refine pm_getf hG dX3_strikeFor_15 (flX3_15 _ rfl) rfl rfl ?_
    refine pm_iloadn hG dX3_strikeFor_18 rfl ?_
    refine pm_callV (As := [.int za]) (rest := []) hG hR dX3_strikeFor_19 (lkX3_131 _ rfl) okV_X2_isStruck rfl rfl (g_X2_isStruck (d := 1) (by decide) h1) rfl rfl hdd (Nat.le_refl _) (Nat.le_refl _) (by decide) (pm_ki (fun v3 σ' cnt' hq => ?_))
    obtain ⟨b3, I3, A3, rfl, rfl, h3⟩ := hq
    refine pm_if_eq (tgt := 28) hG dX3_strikeFor_22 rfl (fun c4 => ?_) (fun c4 => ?_)
    · refine pm_aloadn hG dX3_strikeFor_28 rfl ?_
      refine pm_getf hG dX3_strikeFor_29 (flX3_15 _ rfl) rfl rfl ?_
      refine pm_iloadn hG dX3_strikeFor_32 rfl ?_
      refine pm_callV (As := [.int za]) (rest := []) hG hR dX3_strikeFor_33 (lkX3_134 _ rfl) okV_X2_strikeOut rfl rfl (g_X2_strikeOut (d := 1) (by decide) h3) rfl rfl hdd (Nat.le_refl _) (Nat.le_refl _) (by decide) (pm_kv (fun σ' cnt' hq => ?_))
      obtain ⟨I5, A5, rfl, rfl, h5⟩ := hq
      refine pm_iconst (v := 1) hG dX3_strikeFor_36 (by decide) ?_
      exact pm_iret hG hF dX3_strikeFor_37 rfl (Nat.le_refl _) (Nat.le_refl _) ⟨_, rfl, _, _, rfl, rfl, h5⟩
    · refine pm_ldc hG dX3_strikeFor_25 (ctX3_81 _ rfl) ?_
      exact pm_iret hG hF dX3_strikeFor_27 rfl (Nat.le_refl _) (Nat.le_refl _) ⟨_, rfl, _, _, rfl, rfl, h3⟩

set_option maxRecDepth 100000 in
set_option maxHeartbeats 4000000 in
theorem g_X3_carryOutSort {ε : Nat → Int32} {d B cnt : Nat} {kp : Value} {ρ : pm_S} {I : Nat → Int32} {A : Nat → Nat → Int32} {za zb zc : Int32} (hdd : 4 ≤ d) (h : gq ε I) : pm_met mX3_carryOutSort d 0 0 B [.ref (B + 36), .int za, .int zb, .int zc] cnt (pm_two (cl_L B kp I A) ρ) (pm_Qi (fun _ σ' cnt' => hvq ε B kp ρ cnt σ' cnt')) := by
  refine pm_enter 0 (by decide) (Nat.le_of_ble_eq_true rfl) rfl (fun G hG hR hF => ?_)
  refine pm_iloadn hG dX3_carryOutSort_0 rfl ?_
  by_cases c1 : za = 0
  · refine pm_top (v := 0) c1 ?_
    refine pm_tswIn (tgt := 32) hG dX3_carryOutSort_1 (by decide) (by decide) rfl rfl ?_
    refine pm_aloadn hG dX3_carryOutSort_32 rfl ?_
    refine pm_getf hG dX3_carryOutSort_33 (flX3_9 _ rfl) rfl rfl ?_
    refine pm_iloadn hG dX3_carryOutSort_36 rfl ?_
    refine pm_iloadn hG dX3_carryOutSort_37 rfl ?_
    refine pm_callV (As := [.int zc, .int zb]) (rest := []) hG hR dX3_carryOutSort_38 (lkX3_103 _ rfl) okV_X7_payFromChest rfl rfl (g_X7_payFromChest (d := 3) (by decide) h) rfl rfl hdd (Nat.le_refl _) (Nat.le_refl _) (by decide) (pm_ki (fun v2 σ' cnt' hq => ?_))
    obtain ⟨I2, A2, rfl, rfl, h2⟩ := hq
    exact pm_iret hG hF dX3_carryOutSort_41 rfl (Nat.le_refl _) (Nat.le_refl _) ⟨_, rfl, _, _, rfl, rfl, h2⟩
  by_cases c3 : za = 1
  · refine pm_top (v := 1) c3 ?_
    refine pm_tswIn (tgt := 42) hG dX3_carryOutSort_1 (by decide) (by decide) rfl rfl ?_
    refine pm_aloadn hG dX3_carryOutSort_42 rfl ?_
    refine pm_iloadn hG dX3_carryOutSort_43 rfl ?_
    refine pm_iloadn hG dX3_carryOutSort_44 rfl ?_
    refine pm_callV (As := [.int zc, .int zb]) (rest := []) hG hR dX3_carryOutSort_45 (lkX3_106 _ rfl) okV_X3_sendAway rfl rfl (g_X3_sendAway (d := 3) (by decide) h) rfl rfl hdd (Nat.le_refl _) (Nat.le_refl _) (by decide) (pm_ki (fun v4 σ' cnt' hq => ?_))
    obtain ⟨I4, A4, rfl, rfl, h4⟩ := hq
    exact pm_iret hG hF dX3_carryOutSort_48 rfl (Nat.le_refl _) (Nat.le_refl _) ⟨_, rfl, _, _, rfl, rfl, h4⟩
  by_cases c5 : za = 2
  · refine pm_top (v := 2) c5 ?_
    refine pm_tswIn (tgt := 49) hG dX3_carryOutSort_1 (by decide) (by decide) rfl rfl ?_
    refine pm_aloadn hG dX3_carryOutSort_49 rfl ?_
    refine pm_getf hG dX3_carryOutSort_50 (flX3_9 _ rfl) rfl rfl ?_
    refine pm_getf hG dX3_carryOutSort_53 (flX3_63 _ rfl) rfl rfl ?_
    refine pm_iloadn hG dX3_carryOutSort_56 rfl ?_
    refine pm_callV (As := [.int zb]) (rest := []) hG hR dX3_carryOutSort_57 (lkX3_109 _ rfl) okV_X9_has rfl rfl (tb_has (d := 3) rfl) rfl rfl hdd (Nat.le_refl _) (Nat.le_refl _) (by decide) (pm_ki (fun v6 σ' cnt' hq => ?_))
    have b6 := pm_b01 hq.1
    obtain ⟨I6, A6, rfl, rfl, h6⟩ := hv_id (kp := kp) (I := I) (A := A) h hq.2
    refine pm_if_eq (tgt := 75) hG dX3_carryOutSort_60 rfl (fun c7 => ?_) (fun c7 => ?_)
    · refine pm_ldc hG dX3_carryOutSort_75 (ctX3_81 _ rfl) ?_
      exact pm_iret hG hF dX3_carryOutSort_77 rfl (Nat.le_refl _) (Nat.le_refl _) ⟨_, rfl, _, _, rfl, rfl, h6⟩
    · refine pm_aloadn hG dX3_carryOutSort_63 rfl ?_
      refine pm_getf hG dX3_carryOutSort_64 (flX3_9 _ rfl) rfl rfl ?_
      refine pm_iloadn hG dX3_carryOutSort_67 rfl ?_
      refine pm_iloadn hG dX3_carryOutSort_68 rfl ?_
      refine pm_callV (As := [.int zb, .int zc]) (rest := []) hG hR dX3_carryOutSort_69 (lkX3_112 _ rfl) okV_X7_handOver rfl rfl (g_X7_handOver (d := 3) (by decide) h6) rfl rfl hdd (Nat.le_refl _) (Nat.le_refl _) (by decide) (pm_ki (fun v8 σ' cnt' hq => ?_))
      obtain ⟨I8, A8, rfl, rfl, h8⟩ := hq
      refine pm_goto (tgt := 77) hG dX3_carryOutSort_72 rfl ?_
      exact pm_iret hG hF dX3_carryOutSort_77 rfl (Nat.le_refl _) (Nat.le_refl _) ⟨_, rfl, _, _, rfl, rfl, h8⟩
  by_cases c9 : za = 3
  · refine pm_top (v := 3) c9 ?_
    refine pm_tswIn (tgt := 78) hG dX3_carryOutSort_1 (by decide) (by decide) rfl rfl ?_
    refine pm_aloadn hG dX3_carryOutSort_78 rfl ?_
    refine pm_iloadn hG dX3_carryOutSort_79 rfl ?_
    refine pm_callV (As := [.int zb]) (rest := []) hG hR dX3_carryOutSort_80 (lkX3_115 _ rfl) okV_X3_strikeFor rfl rfl (g_X3_strikeFor (d := 3) (by decide) h) rfl rfl hdd (Nat.le_refl _) (Nat.le_refl _) (by decide) (pm_ki (fun v10 σ' cnt' hq => ?_))
    obtain ⟨I10, A10, rfl, rfl, h10⟩ := hq
    exact pm_iret hG hF dX3_carryOutSort_83 rfl (Nat.le_refl _) (Nat.le_refl _) ⟨_, rfl, _, _, rfl, rfl, h10⟩
  have tc1 : ¬ za.toInt = 0 := fun q => c1 (Int32.toInt_inj.mp q)
  have tc3 : ¬ za.toInt = 1 := fun q => c3 (Int32.toInt_inj.mp q)
  have tc5 : ¬ za.toInt = 2 := fun q => c5 (Int32.toInt_inj.mp q)
  have tc9 : ¬ za.toInt = 3 := fun q => c9 (Int32.toInt_inj.mp q)
  refine pm_tswOut (tgt := 84) hG dX3_carryOutSort_1 (by omega) rfl ?_
  refine pm_aloadn hG dX3_carryOutSort_84 rfl ?_
  refine pm_getf hG dX3_carryOutSort_85 (flX3_19 _ rfl) rfl rfl ?_
  refine pm_iloadn hG dX3_carryOutSort_88 rfl ?_
  refine pm_callV (As := [.int zc]) (rest := []) hG hR dX3_carryOutSort_89 (lkX3_118 _ rfl) okV_X0_breakAllOf rfl rfl (g_X0_breakAllOf (d := 3) (by decide) h) rfl rfl hdd (Nat.le_refl _) (Nat.le_refl _) (by decide) (pm_ki (fun v11 σ' cnt' hq => ?_))
  obtain ⟨I11, A11, rfl, rfl, h11⟩ := hq
  exact pm_iret hG hF dX3_carryOutSort_92 rfl (Nat.le_refl _) (Nat.le_refl _) ⟨_, rfl, _, _, rfl, rfl, h11⟩
