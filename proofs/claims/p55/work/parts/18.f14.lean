section
set_option maxRecDepth 100000 in
set_option maxHeartbeats 4000000 in
theorem c_X1_winsWhatever_k2 {d : Nat} {B cnt : Nat} {kp : Value} {ρ : pm_S} {S : FS} {zb : Int32} {zc : Int32} {R : Int32 × FS} (hdd : 11 ≤ d) (hE : f_X1_winsWhatever_k2 S zb zc = some R) : pm_met mX1_winsWhatever d 0 0 B [.ref (B + 40), .int 2, .int zb, .int zc] cnt (cst B kp S ρ) (pm_Qi (fun v σ' cnt' => v = R.1 ∧ σ' = (cst B kp R.2 ρ) ∧ cnt' = cnt)) := by
  refine pm_enter 2 (by decide) (Nat.le_of_ble_eq_true rfl) rfl (fun G hG hR hF => ?_)
  unfold f_X1_winsWhatever_k2 at hE
  refine pm_aloadn hG dX1_winsWhatever_0 rfl ?_
  refine pm_iloadn hG dX1_winsWhatever_1 rfl ?_
  refine pm_iloadn hG dX1_winsWhatever_2 rfl ?_
  refine pm_iloadn hG dX1_winsWhatever_3 rfl ?_
  obtain ⟨r2, h1, hE⟩ := fb_some hE
  refine pm_callV (As := [.int 2, .int zb, .int zc]) (rest := []) hG hR dX1_winsWhatever_4 (lkX1_44 _ rfl) okV_X1_winsWithin rfl rfl (c_X1_winsWithin_k2 (d := 10) (by decide) h1) rfl rfl hdd (Nat.le_refl _) (Nat.le_refl _) (by decide) (fx_ki ?_)
  refine pm_istoreXi (loc' := [some (.ref (B + 40)), some (.int 2), some (.int zb), some (.int zc), some (.int r2.1), none]) hG dX1_winsWhatever_7 (by decide) (pm_c1b rfl) rfl ?_
  refine pm_iconst (v := 0) hG dX1_winsWhatever_9 (by decide) ?_
  refine pm_iloadn hG dX1_winsWhatever_10 rfl ?_
  refine pm_mmax hG hR dX1_winsWhatever_11 (mmX1_47 _ rfl) pm_mwmax (by omega) (by first | decide | exact Nat.le_of_ble_eq_true rfl) (Nat.le_refl _) (Nat.le_refl _) ?_
  refine pm_top (v := imax 0 zb) rfl ?_
  refine fx_letv hE (fun x3 hE => ?_)
  refine pm_istoreXi (loc' := [some (.ref (B + 40)), some (.int 2), some (.int zb), some (.int zc), some (.int r2.1), some (.int x3)]) hG dX1_winsWhatever_14 (by decide) (pm_c1b rfl) rfl ?_
  have loop16 : ∀ (k16 : FS → Int32 → Int32 → Option (Int32 × FS)), (∀ (S4 : FS) (x4_4 : Int32) (x4_5 : Int32), k16 S4  x4_4 x4_5 = some R → pm_wp mX1_winsWhatever G B 78 [some (.ref (B + 40)), some (.int 2), some (.int zb), some (.int zc), some (.int x4_4), some (.int x4_5)] [] 0 0 cnt (cst B kp S4 ρ)) → ∀ (m16 : Nat) (S4 : FS) (x4_4 : Int32) (x4_5 : Int32), l_X1_winsWhatever_k2_16 zb zc k16 m16 S4  x4_4 x4_5 = some R → pm_wp mX1_winsWhatever G B 16 [some (.ref (B + 40)), some (.int 2), some (.int zb), some (.int zc), some (.int x4_4), some (.int x4_5)] [] 0 0 cnt (cst B kp S4 ρ) := by
    intro k16 hk16 m16
    induction m16 with
    | zero => intro S4  x4_4 x4_5 hE; exact fx_no hE
    | succ m16 ih16 =>
      intro S4  x4_4 x4_5 hE
      rw [l_X1_winsWhatever_k2_16] at hE
      refine pm_iloadi hG dX1_winsWhatever_16 rfl ?_
      refine pm_aloadn hG dX1_winsWhatever_18 rfl ?_
      refine pm_getf hG dX1_winsWhatever_19 (flX1_15 _ rfl) rfl rfl ?_
      refine pm_alen (v := 5) hG dX1_winsWhatever_22 rfl (by decide) ?_
      refine pm_iconst (v := 1) hG dX1_winsWhatever_23 (by decide) ?_
      refine pm_isub hG dX1_winsWhatever_24 ?_
      refine pm_top (v := 4) (by decide) ?_
      refine pm_icmp_ge (tgt := 78) hG dX1_winsWhatever_25 rfl (fun c5 => ?_) (fun c5 => ?_)
      · replace c5 := Int32.not_lt.mpr c5
        replace hE := fx_f c5 hE
        exact hk16 _ _ _ hE
      · replace c5 := Int32.not_le.mp c5
        replace hE := fx_t c5 hE
        refine pm_iloadi hG dX1_winsWhatever_28 rfl ?_
        refine pm_if_eq (tgt := 78) hG dX1_winsWhatever_30 rfl (fun c6 => ?_) (fun c6 => ?_)
        · replace hE := fx_t c6 hE
          exact hk16 _ _ _ hE
        · replace hE := fx_f c6 hE
          refine pm_aloadn hG dX1_winsWhatever_33 rfl ?_
          refine pm_iloadi hG dX1_winsWhatever_34 rfl ?_
          refine pm_iloadi hG dX1_winsWhatever_36 rfl ?_
          refine pm_iconst (v := 1) hG dX1_winsWhatever_38 (by decide) ?_
          refine pm_iadd hG dX1_winsWhatever_39 ?_
          refine pm_iloadn hG dX1_winsWhatever_40 rfl ?_
          refine pm_iloadn hG dX1_winsWhatever_41 rfl ?_
          refine pm_iloadn hG dX1_winsWhatever_42 rfl ?_
          obtain ⟨r8, h7, hE⟩ := fb_some hE
          refine pm_callV (As := [.int x4_5, .int (x4_5 + 1), .int 2, .int zb, .int zc]) (rest := []) hG hR dX1_winsWhatever_43 (lkX1_52 _ rfl) okV_X1_winsDespite rfl rfl (c_X1_winsDespite_k2 (d := 10) (by decide) h7) rfl rfl hdd (Nat.le_refl _) (Nat.le_refl _) (by decide) (fx_ki ?_)
          refine pm_if_eq (tgt := 69) hG dX1_winsWhatever_46 rfl (fun c9 => ?_) (fun c9 => ?_)
          · replace hE := fx_t c9 hE
            refine pm_iconst (v := 0) hG dX1_winsWhatever_69 (by decide) ?_
            refine pm_istoreXi (loc' := [some (.ref (B + 40)), some (.int 2), some (.int zb), some (.int zc), some (.int 0), some (.int x4_5)]) hG dX1_winsWhatever_70 (by decide) (pm_c1b rfl) rfl ?_
            refine pm_iincX (v := x4_5 + 1) (loc' := [some (.ref (B + 40)), some (.int 2), some (.int zb), some (.int zc), some (.int 0), some (.int (x4_5 + 1))]) hG dX1_winsWhatever_72 rfl (by rfl) (by decide) (pm_c1b rfl) rfl ?_
            refine pm_goto (tgt := 16) hG dX1_winsWhatever_75 rfl ?_
            exact ih16 _ _ _ hE
          · replace hE := fx_f c9 hE
            refine pm_aloadn hG dX1_winsWhatever_49 rfl ?_
            refine pm_iloadi hG dX1_winsWhatever_50 rfl ?_
            refine pm_iconst (v := 1) hG dX1_winsWhatever_52 (by decide) ?_
            refine pm_iadd hG dX1_winsWhatever_53 ?_
            refine pm_iloadi hG dX1_winsWhatever_54 rfl ?_
            refine pm_iloadn hG dX1_winsWhatever_56 rfl ?_
            refine pm_iloadn hG dX1_winsWhatever_57 rfl ?_
            refine pm_iloadn hG dX1_winsWhatever_58 rfl ?_
            obtain ⟨r11, h10, hE⟩ := fb_some hE
            refine pm_callV (As := [.int (x4_5 + 1), .int x4_5, .int 2, .int zb, .int zc]) (rest := []) hG hR dX1_winsWhatever_59 (lkX1_52 _ rfl) okV_X1_winsDespite rfl rfl (c_X1_winsDespite_k2 (d := 10) (by decide) h10) rfl rfl hdd (Nat.le_refl _) (Nat.le_refl _) (by decide) (fx_ki ?_)
            refine pm_if_eq (tgt := 69) hG dX1_winsWhatever_62 rfl (fun c12 => ?_) (fun c12 => ?_)
            · replace hE := fx_t c12 hE
              refine pm_iconst (v := 0) hG dX1_winsWhatever_69 (by decide) ?_
              refine pm_istoreXi (loc' := [some (.ref (B + 40)), some (.int 2), some (.int zb), some (.int zc), some (.int 0), some (.int x4_5)]) hG dX1_winsWhatever_70 (by decide) (pm_c1b rfl) rfl ?_
              refine pm_iincX (v := x4_5 + 1) (loc' := [some (.ref (B + 40)), some (.int 2), some (.int zb), some (.int zc), some (.int 0), some (.int (x4_5 + 1))]) hG dX1_winsWhatever_72 rfl (by rfl) (by decide) (pm_c1b rfl) rfl ?_
              refine pm_goto (tgt := 16) hG dX1_winsWhatever_75 rfl ?_
              exact ih16 _ _ _ hE
            · replace hE := fx_f c12 hE
              refine pm_iconst (v := 1) hG dX1_winsWhatever_65 (by decide) ?_
              refine pm_goto (tgt := 70) hG dX1_winsWhatever_66 rfl ?_
              refine pm_istoreXi (loc' := [some (.ref (B + 40)), some (.int 2), some (.int zb), some (.int zc), some (.int 1), some (.int x4_5)]) hG dX1_winsWhatever_70 (by decide) (pm_c1b rfl) rfl ?_
              refine pm_iincX (v := x4_5 + 1) (loc' := [some (.ref (B + 40)), some (.int 2), some (.int zb), some (.int zc), some (.int 1), some (.int (x4_5 + 1))]) hG dX1_winsWhatever_72 rfl (by rfl) (by decide) (pm_c1b rfl) rfl ?_
              refine pm_goto (tgt := 16) hG dX1_winsWhatever_75 rfl ?_
              exact ih16 _ _ _ hE
  refine loop16 _ (fun S13 x13_4 x13_5 hE => ?_) _ _ _ _ hE
  refine pm_iloadi hG dX1_winsWhatever_78 rfl ?_
  obtain ⟨b14, hb14, hE⟩ := fb_some hE
  exact pm_zret hG hF dX1_winsWhatever_80 rfl (bz_n hb14) (Nat.le_refl _) (Nat.le_refl _) (fx_rbc hb14 hE)

set_option maxRecDepth 100000 in
set_option maxHeartbeats 4000000 in
theorem c_X1_winsByTaking_k3 {d : Nat} {B cnt : Nat} {kp : Value} {ρ : pm_S} {S : FS} {zb : Int32} {zc : Int32} {R : Int32 × FS} (hdd : 12 ≤ d) (hE : f_X1_winsByTaking_k3 S zb zc = some R) : pm_met mX1_winsByTaking d 0 0 B [.ref (B + 40), .int 3, .int zb, .int zc] cnt (cst B kp S ρ) (pm_Qi (fun v σ' cnt' => v = R.1 ∧ σ' = (cst B kp R.2 ρ) ∧ cnt' = cnt)) := by
  refine pm_enter 0 (by decide) (Nat.le_of_ble_eq_true rfl) rfl (fun G hG hR hF => ?_)
  unfold f_X1_winsByTaking_k3 at hE
  refine pm_iloadn hG dX1_winsByTaking_0 rfl ?_
  refine pm_if_lt (tgt := 23) hG dX1_winsByTaking_1 rfl (fun c1 => ?_) (fun c1 => ?_)
  · replace hE := fx_t c1 hE
    refine pm_iconst (v := 0) hG dX1_winsByTaking_23 (by decide) ?_
    exact pm_zret hG hF dX1_winsByTaking_24 rfl (by rfl) (Nat.le_refl _) (Nat.le_refl _) (fx_ric hE)
  · replace hE := fx_f c1 hE
    refine pm_iloadn hG dX1_winsByTaking_4 rfl ?_
    refine pm_aloadn hG dX1_winsByTaking_5 rfl ?_
    refine pm_getf hG dX1_winsByTaking_6 (flX1_15 _ rfl) rfl rfl ?_
    refine pm_alen (v := 5) hG dX1_winsByTaking_9 rfl (by decide) ?_
    refine pm_icmp_ge (tgt := 23) hG dX1_winsByTaking_10 rfl (fun c2 => ?_) (fun c2 => ?_)
    · replace c2 := Int32.not_lt.mpr c2
      replace hE := fx_f c2 hE
      refine pm_iconst (v := 0) hG dX1_winsByTaking_23 (by decide) ?_
      exact pm_zret hG hF dX1_winsByTaking_24 rfl (by rfl) (Nat.le_refl _) (Nat.le_refl _) (fx_ric hE)
    · replace c2 := Int32.not_le.mp c2
      replace hE := fx_t c2 hE
      refine pm_iloadn hG dX1_winsByTaking_13 rfl ?_
      refine pm_aloadn hG dX1_winsByTaking_14 rfl ?_
      refine pm_getf hG dX1_winsByTaking_15 (flX1_15 _ rfl) rfl rfl ?_
      refine pm_iloadn hG dX1_winsByTaking_18 rfl ?_
      obtain ⟨j3, hj3, hE⟩ := fb_some hE
      refine fx_iald hG dX1_winsByTaking_19 rfl hj3 ?_
      refine pm_icmp_gt (tgt := 25) hG dX1_winsByTaking_20 rfl (fun c4 => ?_) (fun c4 => ?_)
      · replace hE := fx_t c4 hE
        refine pm_iloadn hG dX1_winsByTaking_25 rfl ?_
        refine pm_aloadn hG dX1_winsByTaking_26 rfl ?_
        refine pm_getf hG dX1_winsByTaking_27 (flX1_19 _ rfl) rfl rfl ?_
        refine pm_icmp_eq (tgt := 54) hG dX1_winsByTaking_30 rfl (fun c5 => ?_) (fun c5 => ?_)
        · replace hE := fx_t c5 hE
          refine pm_iconst (v := 1) hG dX1_winsByTaking_54 (by decide) ?_
          refine pm_goto (tgt := 59) hG dX1_winsByTaking_55 rfl ?_
          exact pm_zret hG hF dX1_winsByTaking_59 rfl (by rfl) (Nat.le_refl _) (Nat.le_refl _) (fx_ric hE)
        · replace hE := fx_f c5 hE
          refine pm_aloadn hG dX1_winsByTaking_33 rfl ?_
          refine pm_iloadn hG dX1_winsByTaking_34 rfl ?_
          refine pm_iconst (v := 1) hG dX1_winsByTaking_35 (by decide) ?_
          refine pm_isub hG dX1_winsByTaking_36 ?_
          refine pm_top (v := 2) (by decide) ?_
          refine pm_iloadn hG dX1_winsByTaking_37 rfl ?_
          refine pm_iconst (v := 1) hG dX1_winsByTaking_38 (by decide) ?_
          refine pm_iadd hG dX1_winsByTaking_39 ?_
          refine pm_iloadn hG dX1_winsByTaking_40 rfl ?_
          refine pm_aloadn hG dX1_winsByTaking_41 rfl ?_
          refine pm_getf hG dX1_winsByTaking_42 (flX1_15 _ rfl) rfl rfl ?_
          refine pm_iloadn hG dX1_winsByTaking_45 rfl ?_
          refine fx_iald hG dX1_winsByTaking_46 rfl hj3 ?_
          refine pm_isub hG dX1_winsByTaking_47 ?_
          obtain ⟨r7, h6, hE⟩ := fb_some hE
          refine pm_callV (As := [.int 2, .int (zb + 1), .int (zc - (S.2 41 j3))]) (rest := []) hG hR dX1_winsByTaking_48 (lkX1_41 _ rfl) okV_X1_winsWhatever rfl rfl (c_X1_winsWhatever_k2 (d := 11) (by decide) h6) rfl rfl hdd (Nat.le_refl _) (Nat.le_refl _) (by decide) (fx_ki ?_)
          refine pm_if_eq (tgt := 58) hG dX1_winsByTaking_51 rfl (fun c8 => ?_) (fun c8 => ?_)
          · replace hE := fx_t c8 hE
            refine pm_iconst (v := 0) hG dX1_winsByTaking_58 (by decide) ?_
            exact pm_zret hG hF dX1_winsByTaking_59 rfl (by rfl) (Nat.le_refl _) (Nat.le_refl _) (fx_ric hE)
          · replace hE := fx_f c8 hE
            refine pm_iconst (v := 1) hG dX1_winsByTaking_54 (by decide) ?_
            refine pm_goto (tgt := 59) hG dX1_winsByTaking_55 rfl ?_
            exact pm_zret hG hF dX1_winsByTaking_59 rfl (by rfl) (Nat.le_refl _) (Nat.le_refl _) (fx_ric hE)
      · replace hE := fx_f c4 hE
        refine pm_iconst (v := 0) hG dX1_winsByTaking_23 (by decide) ?_
        exact pm_zret hG hF dX1_winsByTaking_24 rfl (by rfl) (Nat.le_refl _) (Nat.le_refl _) (fx_ric hE)

set_option maxRecDepth 100000 in
set_option maxHeartbeats 4000000 in
theorem c_X1_winsByWaiting_k3 {d : Nat} {B cnt : Nat} {kp : Value} {ρ : pm_S} {S : FS} {zb : Int32} {zc : Int32} {R : Int32 × FS} (hdd : 12 ≤ d) (hE : f_X1_winsByWaiting_k3 S zb zc = some R) : pm_met mX1_winsByWaiting d 0 0 B [.ref (B + 40), .int 3, .int zb, .int zc] cnt (cst B kp S ρ) (pm_Qi (fun v σ' cnt' => v = R.1 ∧ σ' = (cst B kp R.2 ρ) ∧ cnt' = cnt)) := by
  refine pm_enter 0 (by decide) (Nat.le_of_ble_eq_true rfl) rfl (fun G hG hR hF => ?_)
  unfold f_X1_winsByWaiting_k3 at hE
  refine pm_aloadn hG dX1_winsByWaiting_0 rfl ?_
  refine pm_iloadn hG dX1_winsByWaiting_1 rfl ?_
  refine pm_iconst (v := 1) hG dX1_winsByWaiting_2 (by decide) ?_
  refine pm_isub hG dX1_winsByWaiting_3 ?_
  refine pm_top (v := 2) (by decide) ?_
  refine pm_iloadn hG dX1_winsByWaiting_4 rfl ?_
  refine pm_iloadn hG dX1_winsByWaiting_5 rfl ?_
  obtain ⟨r2, h1, hE⟩ := fb_some hE
  refine pm_callV (As := [.int 2, .int zb, .int zc]) (rest := []) hG hR dX1_winsByWaiting_6 (lkX1_41 _ rfl) okV_X1_winsWhatever rfl rfl (c_X1_winsWhatever_k2 (d := 11) (by decide) h1) rfl rfl hdd (Nat.le_refl _) (Nat.le_refl _) (by decide) (fx_ki ?_)
  obtain ⟨b3, hb3, hE⟩ := fb_some hE
  exact pm_zret hG hF dX1_winsByWaiting_9 rfl (bz_n hb3) (Nat.le_refl _) (Nat.le_refl _) (fx_rbc hb3 hE)

set_option maxRecDepth 100000 in
set_option maxHeartbeats 4000000 in
theorem c_X1_winsWithin_k3 {d : Nat} {B cnt : Nat} {kp : Value} {ρ : pm_S} {S : FS} {zb : Int32} {zc : Int32} {R : Int32 × FS} (hdd : 13 ≤ d) (hE : f_X1_winsWithin_k3 S zb zc = some R) : pm_met mX1_winsWithin d 0 0 B [.ref (B + 40), .int 3, .int zb, .int zc] cnt (cst B kp S ρ) (pm_Qi (fun v σ' cnt' => v = R.1 ∧ σ' = (cst B kp R.2 ρ) ∧ cnt' = cnt)) := by
  refine pm_enter 0 (by decide) (Nat.le_of_ble_eq_true rfl) rfl (fun G hG hR hF => ?_)
  unfold f_X1_winsWithin_k3 at hE
  refine pm_iloadn hG dX1_winsWithin_0 rfl ?_
  refine pm_if_le (tgt := 28) hG dX1_winsWithin_1 rfl (fun q => absurd q (by decide)) (fun _ => ?_)
  refine pm_aloadn hG dX1_winsWithin_4 rfl ?_
  refine pm_iloadn hG dX1_winsWithin_5 rfl ?_
  refine pm_iloadn hG dX1_winsWithin_6 rfl ?_
  refine pm_iloadn hG dX1_winsWithin_7 rfl ?_
  obtain ⟨r2, h1, hE⟩ := fb_some hE
  refine pm_callV (As := [.int 3, .int zb, .int zc]) (rest := []) hG hR dX1_winsWithin_8 (lkX1_34 _ rfl) okV_X1_winsByTaking rfl rfl (c_X1_winsByTaking_k3 (d := 12) (by decide) h1) rfl rfl hdd (Nat.le_refl _) (Nat.le_refl _) (by decide) (fx_ki ?_)
  refine pm_if_ne (tgt := 24) hG dX1_winsWithin_11 rfl (fun c3 => ?_) (fun c3 => ?_)
  · replace hE := fx_f c3 hE
    refine pm_iconst (v := 1) hG dX1_winsWithin_24 (by decide) ?_
    refine pm_goto (tgt := 29) hG dX1_winsWithin_25 rfl ?_
    exact pm_zret hG hF dX1_winsWithin_29 rfl (by rfl) (Nat.le_refl _) (Nat.le_refl _) (fx_ric hE)
  · replace hE := fx_t c3 hE
    refine pm_aloadn hG dX1_winsWithin_14 rfl ?_
    refine pm_iloadn hG dX1_winsWithin_15 rfl ?_
    refine pm_iloadn hG dX1_winsWithin_16 rfl ?_
    refine pm_iloadn hG dX1_winsWithin_17 rfl ?_
    obtain ⟨r5, h4, hE⟩ := fb_some hE
    refine pm_callV (As := [.int 3, .int zb, .int zc]) (rest := []) hG hR dX1_winsWithin_18 (lkX1_38 _ rfl) okV_X1_winsByWaiting rfl rfl (c_X1_winsByWaiting_k3 (d := 12) (by decide) h4) rfl rfl hdd (Nat.le_refl _) (Nat.le_refl _) (by decide) (fx_ki ?_)
    refine pm_if_eq (tgt := 28) hG dX1_winsWithin_21 rfl (fun c6 => ?_) (fun c6 => ?_)
    · replace hE := fx_t c6 hE
      refine pm_iconst (v := 0) hG dX1_winsWithin_28 (by decide) ?_
      exact pm_zret hG hF dX1_winsWithin_29 rfl (by rfl) (Nat.le_refl _) (Nat.le_refl _) (fx_ric hE)
    · replace hE := fx_f c6 hE
      refine pm_iconst (v := 1) hG dX1_winsWithin_24 (by decide) ?_
      refine pm_goto (tgt := 29) hG dX1_winsWithin_25 rfl ?_
      exact pm_zret hG hF dX1_winsWithin_29 rfl (by rfl) (Nat.le_refl _) (Nat.le_refl _) (fx_ric hE)

set_option maxRecDepth 100000 in
set_option maxHeartbeats 4000000 in
theorem c_X11_night {d : Nat} {B cnt : Nat} {kp : Value} {ρ : pm_S} {S : FS} {za : Int32} {zb : Int32} {zc : Int32} {zd : Int32} {R : Int32 × FS} (hdd : 14 ≤ d) (hE : f_X11_night S za zb zc zd = some R) : pm_met mX11_night d 0 0 B [.ref (B + 0), .int za, .int zb, .int zc, .int zd] cnt (cst B kp S ρ) (pm_Qi (fun v σ' cnt' => v = R.1 ∧ σ' = (cst B kp R.2 ρ) ∧ cnt' = cnt)) := by
  refine pm_enter 0 (by decide) (Nat.le_of_ble_eq_true rfl) rfl (fun G hG hR hF => ?_)
  unfold f_X11_night at hE
  refine pm_iloadn hG dX11_night_0 rfl ?_
  refine pm_iconst (v := 1) hG dX11_night_1 (by decide) ?_
  refine pm_bipush (v := 20) hG dX11_night_2 (by decide) ?_
  refine pm_callS (As := [.int za, .int 1, .int 20]) (rest := []) hG hR dX11_night_4 (lkX11_105 _ rfl) okS_X11_isOutside (tOut (d := 13)) rfl rfl hdd (Nat.le_refl _) (Nat.le_refl _) (by decide) (fx_ki ?_)
  refine pm_if_ne (tgt := 38) hG dX11_night_7 rfl (fun c1 => ?_) (fun c1 => ?_)
  · replace hE := fx_f c1 hE
    refine pm_aloadn hG dX11_night_38 rfl ?_
    refine pm_ldc hG dX11_night_39 (ctX11_109 _ rfl) ?_
    obtain ⟨r3, h2, hE⟩ := fb_some hE
    refine pm_callV (As := [.int (-1000001)]) (rest := []) hG hR dX11_night_41 (lkX11_97 _ rfl) okV_X11_told rfl rfl (c_X11_told (d := 13) (by decide) h2) rfl rfl hdd (Nat.le_refl _) (Nat.le_refl _) (by decide) (fx_ki ?_)
    exact pm_iret hG hF dX11_night_44 rfl (Nat.le_refl _) (Nat.le_refl _) (fx_ric hE)
  · replace hE := fx_t c1 hE
    refine pm_iloadn hG dX11_night_10 rfl ?_
    refine pm_iconst (v := 1) hG dX11_night_11 (by decide) ?_
    refine pm_iconst (v := 3) hG dX11_night_12 (by decide) ?_
    refine pm_callS (As := [.int zb, .int 1, .int 3]) (rest := []) hG hR dX11_night_13 (lkX11_105 _ rfl) okS_X11_isOutside (tOut (d := 13)) rfl rfl hdd (Nat.le_refl _) (Nat.le_refl _) (by decide) (fx_ki ?_)
    refine pm_if_ne (tgt := 38) hG dX11_night_16 rfl (fun c4 => ?_) (fun c4 => ?_)
    · replace hE := fx_f c4 hE
      refine pm_aloadn hG dX11_night_38 rfl ?_
      refine pm_ldc hG dX11_night_39 (ctX11_109 _ rfl) ?_
      obtain ⟨r6, h5, hE⟩ := fb_some hE
      refine pm_callV (As := [.int (-1000001)]) (rest := []) hG hR dX11_night_41 (lkX11_97 _ rfl) okV_X11_told rfl rfl (c_X11_told (d := 13) (by decide) h5) rfl rfl hdd (Nat.le_refl _) (Nat.le_refl _) (by decide) (fx_ki ?_)
      exact pm_iret hG hF dX11_night_44 rfl (Nat.le_refl _) (Nat.le_refl _) (fx_ric hE)
    · replace hE := fx_t c4 hE
      refine pm_iloadn hG dX11_night_19 rfl ?_
      refine pm_iconst (v := 0) hG dX11_night_20 (by decide) ?_
      refine pm_iconst (v := 4) hG dX11_night_21 (by decide) ?_
      refine pm_callS (As := [.int zc, .int 0, .int 4]) (rest := []) hG hR dX11_night_22 (lkX11_105 _ rfl) okS_X11_isOutside (tOut (d := 13)) rfl rfl hdd (Nat.le_refl _) (Nat.le_refl _) (by decide) (fx_ki ?_)
      refine pm_if_ne (tgt := 38) hG dX11_night_25 rfl (fun c7 => ?_) (fun c7 => ?_)
      · replace hE := fx_f c7 hE
        refine pm_aloadn hG dX11_night_38 rfl ?_
        refine pm_ldc hG dX11_night_39 (ctX11_109 _ rfl) ?_
        obtain ⟨r9, h8, hE⟩ := fb_some hE
        refine pm_callV (As := [.int (-1000001)]) (rest := []) hG hR dX11_night_41 (lkX11_97 _ rfl) okV_X11_told rfl rfl (c_X11_told (d := 13) (by decide) h8) rfl rfl hdd (Nat.le_refl _) (Nat.le_refl _) (by decide) (fx_ki ?_)
        exact pm_iret hG hF dX11_night_44 rfl (Nat.le_refl _) (Nat.le_refl _) (fx_ric hE)
      · replace hE := fx_t c7 hE
        refine pm_iloadi hG dX11_night_28 rfl ?_
        refine pm_iconst (v := 0) hG dX11_night_30 (by decide) ?_
        refine pm_iconst (v := 1) hG dX11_night_31 (by decide) ?_
        refine pm_callS (As := [.int zd, .int 0, .int 1]) (rest := []) hG hR dX11_night_32 (lkX11_105 _ rfl) okS_X11_isOutside (tOut (d := 13)) rfl rfl hdd (Nat.le_refl _) (Nat.le_refl _) (by decide) (fx_ki ?_)
        refine pm_if_eq (tgt := 45) hG dX11_night_35 rfl (fun c10 => ?_) (fun c10 => ?_)
        · replace hE := fx_t c10 hE
          refine pm_aloadn hG dX11_night_45 rfl ?_
          refine pm_getf hG dX11_night_46 (flX11_53 _ rfl) rfl rfl ?_
          refine pm_iloadn hG dX11_night_49 rfl ?_
          obtain ⟨r12, h11, hE⟩ := fb_some hE
          refine pm_callV (As := [.int zc]) (rest := []) hG hR dX11_night_50 (lkX11_314 _ rfl) okV_X1_prepare rfl rfl (c_X1_prepare (d := 13) (by decide) h11) rfl rfl hdd (Nat.le_refl _) (Nat.le_refl _) (by decide) (fx_kv ?_)
          have hZ13 := hE
          by_cases c14 : zb = 1
          · subst c14
            have hE := fx_t rfl hZ13
            refine pm_iloadi hG dX11_night_53 rfl ?_
            refine pm_if_ne (tgt := 77) hG dX11_night_55 rfl (fun c15 => ?_) (fun c15 => ?_)
            · replace hE := fx_f c15 hE
              refine pm_aloadn hG dX11_night_77 rfl ?_
              refine pm_getf hG dX11_night_78 (flX11_53 _ rfl) rfl rfl ?_
              refine pm_iloadn hG dX11_night_81 rfl ?_
              refine pm_iconst (v := 0) hG dX11_night_82 (by decide) ?_
              refine pm_iloadn hG dX11_night_83 rfl ?_
              obtain ⟨r17, h16, hE⟩ := fb_some hE
              refine pm_callV (As := [.int 1, .int 0, .int za]) (rest := []) hG hR dX11_night_84 (lkX11_320 _ rfl) okV_X1_winsByTaking rfl rfl (c_X1_winsByTaking_k1 (d := 13) (by decide) h16) rfl rfl hdd (Nat.le_refl _) (Nat.le_refl _) (by decide) (fx_ki ?_)
              refine pm_if_eq (tgt := 92) hG dX11_night_87 rfl (fun c18 => ?_) (fun c18 => ?_)
              · replace hE := fx_t c18 hE
                refine pm_aloadn hG dX11_night_92 rfl ?_
                refine pm_aloadn hG dX11_night_93 rfl ?_
                refine pm_getf hG dX11_night_94 (flX11_53 _ rfl) rfl rfl ?_
                refine pm_iloadn hG dX11_night_97 rfl ?_
                refine pm_iconst (v := 0) hG dX11_night_98 (by decide) ?_
                refine pm_iloadn hG dX11_night_99 rfl ?_
                obtain ⟨r20, h19, hE⟩ := fb_some hE
                refine pm_callV (As := [.int 1, .int 0, .int za]) (rest := [.ref (B + 0)]) hG hR dX11_night_100 (lkX11_323 _ rfl) okV_X1_winsByWaiting rfl rfl (c_X1_winsByWaiting_k1 (d := 13) (by decide) h19) rfl rfl hdd (Nat.le_refl _) (Nat.le_refl _) (by first | decide | exact Nat.le_of_ble_eq_true rfl) (fx_ki ?_)
                refine pm_if_eq (tgt := 110) hG dX11_night_103 rfl (fun c21 => ?_) (fun c21 => ?_)
                · replace hE := fx_t c21 hE
                  refine pm_ldc hG dX11_night_110 (ctX11_223 _ rfl) ?_
                  obtain ⟨r23, h22, hE⟩ := fb_some hE
                  refine pm_callV (As := [.int (-1000002)]) (rest := []) hG hR dX11_night_112 (lkX11_97 _ rfl) okV_X11_told rfl rfl (c_X11_told (d := 13) (by decide) h22) rfl rfl hdd (Nat.le_refl _) (Nat.le_refl _) (by decide) (fx_ki ?_)
                  exact pm_iret hG hF dX11_night_115 rfl (Nat.le_refl _) (Nat.le_refl _) (fx_ric hE)
                · replace hE := fx_f c21 hE
                  refine pm_iconst (v := (-1)) hG dX11_night_106 (by decide) ?_
                  refine pm_goto (tgt := 112) hG dX11_night_107 rfl ?_
                  obtain ⟨r25, h24, hE⟩ := fb_some hE
                  refine pm_callV (As := [.int (-1)]) (rest := []) hG hR dX11_night_112 (lkX11_97 _ rfl) okV_X11_told rfl rfl (c_X11_told (d := 13) (by decide) h24) rfl rfl hdd (Nat.le_refl _) (Nat.le_refl _) (by decide) (fx_ki ?_)
                  exact pm_iret hG hF dX11_night_115 rfl (Nat.le_refl _) (Nat.le_refl _) (fx_ric hE)
              · replace hE := fx_f c18 hE
                refine pm_iconst (v := 0) hG dX11_night_90 (by decide) ?_
                exact pm_iret hG hF dX11_night_91 rfl (Nat.le_refl _) (Nat.le_refl _) (fx_ric hE)
            · replace hE := fx_t c15 hE
              refine pm_aloadn hG dX11_night_58 rfl ?_
              refine pm_getf hG dX11_night_59 (flX11_53 _ rfl) rfl rfl ?_
              refine pm_iloadn hG dX11_night_62 rfl ?_
              refine pm_iconst (v := 0) hG dX11_night_63 (by decide) ?_
              refine pm_iloadn hG dX11_night_64 rfl ?_
              obtain ⟨r27, h26, hE⟩ := fb_some hE
              refine pm_callV (As := [.int 1, .int 0, .int za]) (rest := []) hG hR dX11_night_65 (lkX11_317 _ rfl) okV_X1_winsWithin rfl rfl (c_X1_winsWithin_k1 (d := 13) (by decide) h26) rfl rfl hdd (Nat.le_refl _) (Nat.le_refl _) (by decide) (fx_ki ?_)
              refine pm_if_eq (tgt := 75) hG dX11_night_68 rfl (fun c28 => ?_) (fun c28 => ?_)
              · replace hE := fx_t c28 hE
                refine pm_iconst (v := 0) hG dX11_night_75 (by decide) ?_
                exact pm_iret hG hF dX11_night_76 rfl (Nat.le_refl _) (Nat.le_refl _) (fx_ric hE)
              · replace hE := fx_f c28 hE
                refine pm_iconst (v := 1) hG dX11_night_71 (by decide) ?_
                refine pm_goto (tgt := 76) hG dX11_night_72 rfl ?_
                exact pm_iret hG hF dX11_night_76 rfl (Nat.le_refl _) (Nat.le_refl _) (fx_ric hE)
          have hZ29 := fx_f c14 hZ13
          by_cases c30 : zb = 2
          · subst c30
            have hE := fx_t rfl hZ29
            refine pm_iloadi hG dX11_night_53 rfl ?_
            refine pm_if_ne (tgt := 77) hG dX11_night_55 rfl (fun c31 => ?_) (fun c31 => ?_)
            · replace hE := fx_f c31 hE
              refine pm_aloadn hG dX11_night_77 rfl ?_
              refine pm_getf hG dX11_night_78 (flX11_53 _ rfl) rfl rfl ?_
              refine pm_iloadn hG dX11_night_81 rfl ?_
              refine pm_iconst (v := 0) hG dX11_night_82 (by decide) ?_
              refine pm_iloadn hG dX11_night_83 rfl ?_
              obtain ⟨r33, h32, hE⟩ := fb_some hE
              refine pm_callV (As := [.int 2, .int 0, .int za]) (rest := []) hG hR dX11_night_84 (lkX11_320 _ rfl) okV_X1_winsByTaking rfl rfl (c_X1_winsByTaking_k2 (d := 13) (by decide) h32) rfl rfl hdd (Nat.le_refl _) (Nat.le_refl _) (by decide) (fx_ki ?_)
              refine pm_if_eq (tgt := 92) hG dX11_night_87 rfl (fun c34 => ?_) (fun c34 => ?_)
              · replace hE := fx_t c34 hE
                refine pm_aloadn hG dX11_night_92 rfl ?_
                refine pm_aloadn hG dX11_night_93 rfl ?_
                refine pm_getf hG dX11_night_94 (flX11_53 _ rfl) rfl rfl ?_
                refine pm_iloadn hG dX11_night_97 rfl ?_
                refine pm_iconst (v := 0) hG dX11_night_98 (by decide) ?_
                refine pm_iloadn hG dX11_night_99 rfl ?_
                obtain ⟨r36, h35, hE⟩ := fb_some hE
                refine pm_callV (As := [.int 2, .int 0, .int za]) (rest := [.ref (B + 0)]) hG hR dX11_night_100 (lkX11_323 _ rfl) okV_X1_winsByWaiting rfl rfl (c_X1_winsByWaiting_k2 (d := 13) (by decide) h35) rfl rfl hdd (Nat.le_refl _) (Nat.le_refl _) (by first | decide | exact Nat.le_of_ble_eq_true rfl) (fx_ki ?_)
                refine pm_if_eq (tgt := 110) hG dX11_night_103 rfl (fun c37 => ?_) (fun c37 => ?_)
                · replace hE := fx_t c37 hE
                  refine pm_ldc hG dX11_night_110 (ctX11_223 _ rfl) ?_
                  obtain ⟨r39, h38, hE⟩ := fb_some hE
                  refine pm_callV (As := [.int (-1000002)]) (rest := []) hG hR dX11_night_112 (lkX11_97 _ rfl) okV_X11_told rfl rfl (c_X11_told (d := 13) (by decide) h38) rfl rfl hdd (Nat.le_refl _) (Nat.le_refl _) (by decide) (fx_ki ?_)
                  exact pm_iret hG hF dX11_night_115 rfl (Nat.le_refl _) (Nat.le_refl _) (fx_ric hE)
                · replace hE := fx_f c37 hE
                  refine pm_iconst (v := (-1)) hG dX11_night_106 (by decide) ?_
                  refine pm_goto (tgt := 112) hG dX11_night_107 rfl ?_
                  obtain ⟨r41, h40, hE⟩ := fb_some hE
                  refine pm_callV (As := [.int (-1)]) (rest := []) hG hR dX11_night_112 (lkX11_97 _ rfl) okV_X11_told rfl rfl (c_X11_told (d := 13) (by decide) h40) rfl rfl hdd (Nat.le_refl _) (Nat.le_refl _) (by decide) (fx_ki ?_)
                  exact pm_iret hG hF dX11_night_115 rfl (Nat.le_refl _) (Nat.le_refl _) (fx_ric hE)
              · replace hE := fx_f c34 hE
                refine pm_iconst (v := 0) hG dX11_night_90 (by decide) ?_
                exact pm_iret hG hF dX11_night_91 rfl (Nat.le_refl _) (Nat.le_refl _) (fx_ric hE)
            · replace hE := fx_t c31 hE
              refine pm_aloadn hG dX11_night_58 rfl ?_
              refine pm_getf hG dX11_night_59 (flX11_53 _ rfl) rfl rfl ?_
              refine pm_iloadn hG dX11_night_62 rfl ?_
              refine pm_iconst (v := 0) hG dX11_night_63 (by decide) ?_
              refine pm_iloadn hG dX11_night_64 rfl ?_
              obtain ⟨r43, h42, hE⟩ := fb_some hE
              refine pm_callV (As := [.int 2, .int 0, .int za]) (rest := []) hG hR dX11_night_65 (lkX11_317 _ rfl) okV_X1_winsWithin rfl rfl (c_X1_winsWithin_k2 (d := 13) (by decide) h42) rfl rfl hdd (Nat.le_refl _) (Nat.le_refl _) (by decide) (fx_ki ?_)
              refine pm_if_eq (tgt := 75) hG dX11_night_68 rfl (fun c44 => ?_) (fun c44 => ?_)
              · replace hE := fx_t c44 hE
                refine pm_iconst (v := 0) hG dX11_night_75 (by decide) ?_
                exact pm_iret hG hF dX11_night_76 rfl (Nat.le_refl _) (Nat.le_refl _) (fx_ric hE)
              · replace hE := fx_f c44 hE
                refine pm_iconst (v := 1) hG dX11_night_71 (by decide) ?_
                refine pm_goto (tgt := 76) hG dX11_night_72 rfl ?_
                exact pm_iret hG hF dX11_night_76 rfl (Nat.le_refl _) (Nat.le_refl _) (fx_ric hE)
          have hZ45 := fx_f c30 hZ29
          by_cases c46 : zb = 3
          · subst c46
            have hE := fx_t rfl hZ45
            refine pm_iloadi hG dX11_night_53 rfl ?_
            refine pm_if_ne (tgt := 77) hG dX11_night_55 rfl (fun c47 => ?_) (fun c47 => ?_)
            · replace hE := fx_f c47 hE
              refine pm_aloadn hG dX11_night_77 rfl ?_
              refine pm_getf hG dX11_night_78 (flX11_53 _ rfl) rfl rfl ?_
              refine pm_iloadn hG dX11_night_81 rfl ?_
              refine pm_iconst (v := 0) hG dX11_night_82 (by decide) ?_
              refine pm_iloadn hG dX11_night_83 rfl ?_
              obtain ⟨r49, h48, hE⟩ := fb_some hE
              refine pm_callV (As := [.int 3, .int 0, .int za]) (rest := []) hG hR dX11_night_84 (lkX11_320 _ rfl) okV_X1_winsByTaking rfl rfl (c_X1_winsByTaking_k3 (d := 13) (by decide) h48) rfl rfl hdd (Nat.le_refl _) (Nat.le_refl _) (by decide) (fx_ki ?_)
              refine pm_if_eq (tgt := 92) hG dX11_night_87 rfl (fun c50 => ?_) (fun c50 => ?_)
              · replace hE := fx_t c50 hE
                refine pm_aloadn hG dX11_night_92 rfl ?_
                refine pm_aloadn hG dX11_night_93 rfl ?_
                refine pm_getf hG dX11_night_94 (flX11_53 _ rfl) rfl rfl ?_
                refine pm_iloadn hG dX11_night_97 rfl ?_
                refine pm_iconst (v := 0) hG dX11_night_98 (by decide) ?_
                refine pm_iloadn hG dX11_night_99 rfl ?_
                obtain ⟨r52, h51, hE⟩ := fb_some hE
                refine pm_callV (As := [.int 3, .int 0, .int za]) (rest := [.ref (B + 0)]) hG hR dX11_night_100 (lkX11_323 _ rfl) okV_X1_winsByWaiting rfl rfl (c_X1_winsByWaiting_k3 (d := 13) (by decide) h51) rfl rfl hdd (Nat.le_refl _) (Nat.le_refl _) (by first | decide | exact Nat.le_of_ble_eq_true rfl) (fx_ki ?_)
                refine pm_if_eq (tgt := 110) hG dX11_night_103 rfl (fun c53 => ?_) (fun c53 => ?_)
                · replace hE := fx_t c53 hE
                  refine pm_ldc hG dX11_night_110 (ctX11_223 _ rfl) ?_
                  obtain ⟨r55, h54, hE⟩ := fb_some hE
                  refine pm_callV (As := [.int (-1000002)]) (rest := []) hG hR dX11_night_112 (lkX11_97 _ rfl) okV_X11_told rfl rfl (c_X11_told (d := 13) (by decide) h54) rfl rfl hdd (Nat.le_refl _) (Nat.le_refl _) (by decide) (fx_ki ?_)
                  exact pm_iret hG hF dX11_night_115 rfl (Nat.le_refl _) (Nat.le_refl _) (fx_ric hE)
                · replace hE := fx_f c53 hE
                  refine pm_iconst (v := (-1)) hG dX11_night_106 (by decide) ?_
                  refine pm_goto (tgt := 112) hG dX11_night_107 rfl ?_
                  obtain ⟨r57, h56, hE⟩ := fb_some hE
                  refine pm_callV (As := [.int (-1)]) (rest := []) hG hR dX11_night_112 (lkX11_97 _ rfl) okV_X11_told rfl rfl (c_X11_told (d := 13) (by decide) h56) rfl rfl hdd (Nat.le_refl _) (Nat.le_refl _) (by decide) (fx_ki ?_)
                  exact pm_iret hG hF dX11_night_115 rfl (Nat.le_refl _) (Nat.le_refl _) (fx_ric hE)
              · replace hE := fx_f c50 hE
                refine pm_iconst (v := 0) hG dX11_night_90 (by decide) ?_
                exact pm_iret hG hF dX11_night_91 rfl (Nat.le_refl _) (Nat.le_refl _) (fx_ric hE)
            · replace hE := fx_t c47 hE
              refine pm_aloadn hG dX11_night_58 rfl ?_
              refine pm_getf hG dX11_night_59 (flX11_53 _ rfl) rfl rfl ?_
              refine pm_iloadn hG dX11_night_62 rfl ?_
              refine pm_iconst (v := 0) hG dX11_night_63 (by decide) ?_
              refine pm_iloadn hG dX11_night_64 rfl ?_
              obtain ⟨r59, h58, hE⟩ := fb_some hE
              refine pm_callV (As := [.int 3, .int 0, .int za]) (rest := []) hG hR dX11_night_65 (lkX11_317 _ rfl) okV_X1_winsWithin rfl rfl (c_X1_winsWithin_k3 (d := 13) (by decide) h58) rfl rfl hdd (Nat.le_refl _) (Nat.le_refl _) (by decide) (fx_ki ?_)
              refine pm_if_eq (tgt := 75) hG dX11_night_68 rfl (fun c60 => ?_) (fun c60 => ?_)
              · replace hE := fx_t c60 hE
                refine pm_iconst (v := 0) hG dX11_night_75 (by decide) ?_
                exact pm_iret hG hF dX11_night_76 rfl (Nat.le_refl _) (Nat.le_refl _) (fx_ric hE)
              · replace hE := fx_f c60 hE
                refine pm_iconst (v := 1) hG dX11_night_71 (by decide) ?_
                refine pm_goto (tgt := 76) hG dX11_night_72 rfl ?_
                exact pm_iret hG hF dX11_night_76 rfl (Nat.le_refl _) (Nat.le_refl _) (fx_ric hE)
          have hZ61 := fx_f c46 hZ45
          exact fx_no hZ61
        · replace hE := fx_f c10 hE
          refine pm_aloadn hG dX11_night_38 rfl ?_
          refine pm_ldc hG dX11_night_39 (ctX11_109 _ rfl) ?_
          obtain ⟨r63, h62, hE⟩ := fb_some hE
          refine pm_callV (As := [.int (-1000001)]) (rest := []) hG hR dX11_night_41 (lkX11_97 _ rfl) okV_X11_told rfl rfl (c_X11_told (d := 13) (by decide) h62) rfl rfl hdd (Nat.le_refl _) (Nat.le_refl _) (by decide) (fx_ki ?_)
          exact pm_iret hG hF dX11_night_44 rfl (Nat.le_refl _) (Nat.le_refl _) (fx_ric hE)

set_option maxRecDepth 100000 in
set_option maxHeartbeats 4000000 in
theorem c_X7_payFromChest {d : Nat} {B cnt : Nat} {kp : Value} {ρ : pm_S} {S : FS} {za : Int32} {zb : Int32} {R : Int32 × FS} (hdd : 2 ≤ d) (hE : f_X7_payFromChest S za zb = some R) : pm_met mX7_payFromChest d 0 0 B [.ref (B + 1), .int za, .int zb] cnt (cst B kp S ρ) (pm_Qi (fun v σ' cnt' => v = R.1 ∧ σ' = (cst B kp R.2 ρ) ∧ cnt' = cnt)) := by
  refine pm_enter 0 (by decide) (Nat.le_of_ble_eq_true rfl) rfl (fun G hG hR hF => ?_)
  unfold f_X7_payFromChest at hE
  refine pm_aloadn hG dX7_payFromChest_0 rfl ?_
  refine pm_getf hG dX7_payFromChest_1 (flX7_53 _ rfl) rfl rfl ?_
  refine pm_iloadn hG dX7_payFromChest_4 rfl ?_
  refine pm_icmp_ge (tgt := 11) hG dX7_payFromChest_5 rfl (fun c1 => ?_) (fun c1 => ?_)
  · replace c1 := Int32.not_lt.mpr c1
    replace hE := fx_f c1 hE
    refine pm_aloadn hG dX7_payFromChest_11 rfl ?_
    refine pm_dup hG dX7_payFromChest_12 rfl ?_
    refine pm_getf hG dX7_payFromChest_13 (flX7_53 _ rfl) rfl rfl ?_
    refine pm_iloadn hG dX7_payFromChest_16 rfl ?_
    refine pm_isub hG dX7_payFromChest_17 ?_
    refine pm_putf hG dX7_payFromChest_18 (fwX7_53 _ rfl) rfl rfl rfl ?_
    refine ci_103 ?_
    refine fx_letc hE (fun S2 hE => ?_)
    refine pm_aloadn hG dX7_payFromChest_21 rfl ?_
    refine pm_getf hG dX7_payFromChest_22 (flX7_23 _ rfl) rfl rfl ?_
    refine pm_iloadn hG dX7_payFromChest_25 rfl ?_
    refine pm_bipush (v := 7) hG dX7_payFromChest_26 (by decide) ?_
    refine pm_iloadn hG dX7_payFromChest_28 rfl ?_
    refine pm_callV (As := [.int za, .int 7, .int zb]) (rest := []) hG hR dX7_payFromChest_29 (lkX7_125 _ rfl) okV_X9_add rfl rfl (tadd_6 (d := 1) (by decide)) rfl rfl hdd (Nat.le_refl _) (Nat.le_refl _) (by decide) (fx_kv ?_)
    refine fx_letc hE (fun S3 hE => ?_)
    refine pm_aloadn hG dX7_payFromChest_32 rfl ?_
    refine pm_getf hG dX7_payFromChest_33 (flX7_53 _ rfl) rfl rfl ?_
    exact pm_iret hG hF dX7_payFromChest_36 rfl (Nat.le_refl _) (Nat.le_refl _) (fx_ric hE)
  · replace c1 := Int32.not_le.mp c1
    replace hE := fx_t c1 hE
    refine pm_ldc hG dX7_payFromChest_8 (ctX7_92 _ rfl) ?_
    exact pm_iret hG hF dX7_payFromChest_10 rfl (Nat.le_refl _) (Nat.le_refl _) (fx_ric hE)

set_option maxRecDepth 100000 in
set_option maxHeartbeats 4000000 in
theorem c_X3_sendAway {d : Nat} {B cnt : Nat} {kp : Value} {ρ : pm_S} {S : FS} {za : Int32} {zb : Int32} {R : Int32 × FS} (hdd : 3 ≤ d) (hE : f_X3_sendAway S za zb = some R) : pm_met mX3_sendAway d 0 0 B [.ref (B + 36), .int za, .int zb] cnt (cst B kp S ρ) (pm_Qi (fun v σ' cnt' => v = R.1 ∧ σ' = (cst B kp R.2 ρ) ∧ cnt' = cnt)) := by
  refine pm_enter 1 (by decide) (Nat.le_of_ble_eq_true rfl) rfl (fun G hG hR hF => ?_)
  unfold f_X3_sendAway at hE
  refine pm_aloadn hG dX3_sendAway_0 rfl ?_
  refine pm_getf hG dX3_sendAway_1 (flX3_9 _ rfl) rfl rfl ?_
  refine pm_getf hG dX3_sendAway_4 (flX3_123 _ rfl) rfl rfl ?_
  refine pm_callV (As := []) (rest := []) hG hR dX3_sendAway_7 (lkX3_74 _ rfl) okV_X9_used rfl rfl (tused_2 (d := 2)) rfl rfl hdd (Nat.le_refl _) (Nat.le_refl _) (by decide) (fx_ki ?_)
  refine fx_letv hE (fun x1 hE => ?_)
  refine pm_istoreXn (loc' := [some (.ref (B + 36)), some (.int za), some (.int zb), some (.int x1)]) hG dX3_sendAway_10 (by decide) (pm_c1b rfl) rfl ?_
  refine pm_iloadn hG dX3_sendAway_11 rfl ?_
  refine pm_if_le (tgt := 40) hG dX3_sendAway_12 rfl (fun c2 => ?_) (fun c2 => ?_)
  · replace c2 := Int32.not_lt.mpr c2
    replace hE := fx_f c2 hE
    refine pm_ldc hG dX3_sendAway_40 (ctX3_81 _ rfl) ?_
    exact pm_iret hG hF dX3_sendAway_42 rfl (Nat.le_refl _) (Nat.le_refl _) (fx_ric hE)
  · replace c2 := Int32.not_le.mp c2
    replace hE := fx_t c2 hE
    refine pm_aloadn hG dX3_sendAway_15 rfl ?_
    refine pm_getf hG dX3_sendAway_16 (flX3_9 _ rfl) rfl rfl ?_
    refine pm_iloadn hG dX3_sendAway_19 rfl ?_
    refine pm_callV (As := [.int za]) (rest := []) hG hR dX3_sendAway_20 (lkX3_59 _ rfl) okV_X7_isInTown rfl rfl (c_X7_isInTown (d := 2) (by decide) rfl) rfl rfl hdd (Nat.le_refl _) (Nat.le_refl _) (by decide) (fx_ki ?_)
    refine pm_if_eq (tgt := 40) hG dX3_sendAway_23 rfl (fun c3 => ?_) (fun c3 => ?_)
    · replace hE := fx_t c3 hE
      refine pm_ldc hG dX3_sendAway_40 (ctX3_81 _ rfl) ?_
      exact pm_iret hG hF dX3_sendAway_42 rfl (Nat.le_refl _) (Nat.le_refl _) (fx_ric hE)
    · replace hE := fx_f c3 hE
      refine pm_aloadn hG dX3_sendAway_26 rfl ?_
      refine pm_getf hG dX3_sendAway_27 (flX3_9 _ rfl) rfl rfl ?_
      refine pm_iloadn hG dX3_sendAway_30 rfl ?_
      refine pm_iloadn hG dX3_sendAway_31 rfl ?_
      refine pm_iloadn hG dX3_sendAway_32 rfl ?_
      obtain ⟨u5, h4, hE⟩ := fb_some hE
      refine pm_irem hG dX3_sendAway_33 (nz_n h4) ?_
      obtain ⟨r7, h6, hE⟩ := fb_some hE
      refine pm_callV (As := [.int za, .int (zb - zb / x1 * x1)]) (rest := []) hG hR dX3_sendAway_34 (lkX3_126 _ rfl) okV_X7_setOut rfl rfl (c_X7_setOut (d := 2) (by decide) h6) rfl rfl hdd (Nat.le_refl _) (Nat.le_refl _) (by decide) (fx_ki ?_)
      refine pm_goto (tgt := 42) hG dX3_sendAway_37 rfl ?_
      exact pm_iret hG hF dX3_sendAway_42 rfl (Nat.le_refl _) (Nat.le_refl _) (fx_ric hE)

set_option maxRecDepth 100000 in
set_option maxHeartbeats 4000000 in
theorem c_X2_isStruck {d : Nat} {B cnt : Nat} {kp : Value} {ρ : pm_S} {S : FS} {za : Int32} {R : Int32} (hdd : 1 ≤ d) (hE : p_X2_isStruck S za = R) : pm_met mX2_isStruck d 0 0 B [.ref (B + 26), .int za] cnt (cst B kp S ρ) (pm_Qi (fun v σ' cnt' => v = R ∧ σ' = (cst B kp S ρ) ∧ cnt' = cnt)) := by
  refine pm_enter 0 (by decide) (Nat.le_of_ble_eq_true rfl) rfl (fun G hG hR hF => ?_)
  unfold p_X2_isStruck at hE
  refine pm_aloadn hG dX2_isStruck_0 rfl ?_
  refine pm_getf hG dX2_isStruck_1 (flX2_9 _ rfl) rfl rfl ?_
  refine pm_getf hG dX2_isStruck_4 (flX2_43 _ rfl) rfl rfl ?_
  refine pm_iloadn hG dX2_isStruck_7 rfl ?_
  refine pm_iconst (v := 3) hG dX2_isStruck_8 (by decide) ?_
  refine pm_callV (As := [.int za, .int 3]) (rest := []) hG hR dX2_isStruck_9 (lkX2_67 _ rfl) okV_X9_get rfl rfl (tget_10 (d := 0)) rfl rfl hdd (Nat.le_refl _) (Nat.le_refl _) (by decide) (fx_ki ?_)
  refine pm_if_lt (tgt := 19) hG dX2_isStruck_12 rfl (fun c1 => ?_) (fun c1 => ?_)
  · replace hE := fx_t c1 hE
    refine pm_iconst (v := 0) hG dX2_isStruck_19 (by decide) ?_
    exact pm_zret hG hF dX2_isStruck_20 rfl (by rfl) (Nat.le_refl _) (Nat.le_refl _) (fx_pi hE)
  · replace hE := fx_f c1 hE
    refine pm_iconst (v := 1) hG dX2_isStruck_15 (by decide) ?_
    refine pm_goto (tgt := 20) hG dX2_isStruck_16 rfl ?_
    exact pm_zret hG hF dX2_isStruck_20 rfl (by rfl) (Nat.le_refl _) (Nat.le_refl _) (fx_pi hE)

set_option maxRecDepth 100000 in
set_option maxHeartbeats 4000000 in
theorem c_X2_strikeOut {d : Nat} {B cnt : Nat} {kp : Value} {ρ : pm_S} {S : FS} {za : Int32} {R : Int32 × FS} (hdd : 1 ≤ d) (hE : f_X2_strikeOut S za = some R) : pm_met mX2_strikeOut d 0 0 B [.ref (B + 26), .int za] cnt (cst B kp S ρ) (pm_Qv (fun σ' cnt' => σ' = (cst B kp R.2 ρ) ∧ cnt' = cnt)) := by
  refine pm_enter 0 (by decide) (Nat.le_of_ble_eq_true rfl) rfl (fun G hG hR hF => ?_)
  unfold f_X2_strikeOut at hE
  refine pm_aloadn hG dX2_strikeOut_0 rfl ?_
  refine pm_getf hG dX2_strikeOut_1 (flX2_9 _ rfl) rfl rfl ?_
  refine pm_getf hG dX2_strikeOut_4 (flX2_43 _ rfl) rfl rfl ?_
  refine pm_iloadn hG dX2_strikeOut_7 rfl ?_
  refine pm_iconst (v := 3) hG dX2_strikeOut_8 (by decide) ?_
  refine pm_aloadn hG dX2_strikeOut_9 rfl ?_
  refine pm_getf hG dX2_strikeOut_10 (flX2_9 _ rfl) rfl rfl ?_
  refine pm_getf hG dX2_strikeOut_13 (flX2_60 _ rfl) rfl rfl ?_
  refine pm_callV (As := [.int za, .int 3, .int (S.1 102)]) (rest := []) hG hR dX2_strikeOut_16 (lkX2_56 _ rfl) okV_X9_set rfl rfl (tset_10 (d := 0)) rfl rfl hdd (Nat.le_refl _) (Nat.le_refl _) (by decide) (fx_kv ?_)
  refine fx_letc hE (fun S1 hE => ?_)
  exact pm_vret hG hF dX2_strikeOut_19 rfl (Nat.le_refl _) (Nat.le_refl _) (fx_rvc hE)

set_option maxRecDepth 100000 in
set_option maxHeartbeats 4000000 in
theorem c_X3_strikeFor {d : Nat} {B cnt : Nat} {kp : Value} {ρ : pm_S} {S : FS} {za : Int32} {R : Int32 × FS} (hdd : 2 ≤ d) (hE : f_X3_strikeFor S za = some R) : pm_met mX3_strikeFor d 0 0 B [.ref (B + 36), .int za] cnt (cst B kp S ρ) (pm_Qi (fun v σ' cnt' => v = R.1 ∧ σ' = (cst B kp R.2 ρ) ∧ cnt' = cnt)) := by
  refine pm_enter 0 (by decide) (Nat.le_of_ble_eq_true rfl) rfl (fun G hG hR hF => ?_)
  unfold f_X3_strikeFor at hE
  refine pm_aloadn hG dX3_strikeFor_0 rfl ?_
  refine pm_getf hG dX3_strikeFor_1 (flX3_9 _ rfl) rfl rfl ?_
  refine pm_getf hG dX3_strikeFor_4 (flX3_129 _ rfl) rfl rfl ?_
  refine pm_iloadn hG dX3_strikeFor_7 rfl ?_
  refine pm_callV (As := [.int za]) (rest := []) hG hR dX3_strikeFor_8 (lkX3_109 _ rfl) okV_X9_has rfl rfl (thas_10 (d := 1)) rfl rfl hdd (Nat.le_refl _) (Nat.le_refl _) (by decide) (fx_ki ?_)
  refine pm_if_eq (tgt := 25) hG dX3_strikeFor_11 rfl (fun c1 => ?_) (fun c1 => ?_)
  · replace hE := fx_t c1 hE
    refine pm_ldc hG dX3_strikeFor_25 (ctX3_81 _ rfl) ?_
    exact pm_iret hG hF dX3_strikeFor_27 rfl (Nat.le_refl _) (Nat.le_refl _) (fx_ric hE)
  · replace hE := fx_f c1 hE
    refine pm_aloadn hG dX3_strikeFor_14 rfl ?_
    refine pm_getf hG dX3_strikeFor_15 (flX3_15 _ rfl) rfl rfl ?_
    refine pm_iloadn hG dX3_strikeFor_18 rfl ?_
    refine pm_callV (As := [.int za]) (rest := []) hG hR dX3_strikeFor_19 (lkX3_131 _ rfl) okV_X2_isStruck rfl rfl (c_X2_isStruck (d := 1) (by decide) rfl) rfl rfl hdd (Nat.le_refl _) (Nat.le_refl _) (by decide) (fx_ki ?_)
    refine pm_if_eq (tgt := 28) hG dX3_strikeFor_22 rfl (fun c2 => ?_) (fun c2 => ?_)
    · replace hE := fx_t c2 hE
      refine pm_aloadn hG dX3_strikeFor_28 rfl ?_
      refine pm_getf hG dX3_strikeFor_29 (flX3_15 _ rfl) rfl rfl ?_
      refine pm_iloadn hG dX3_strikeFor_32 rfl ?_
      obtain ⟨r4, h3, hE⟩ := fb_some hE
      refine pm_callV (As := [.int za]) (rest := []) hG hR dX3_strikeFor_33 (lkX3_134 _ rfl) okV_X2_strikeOut rfl rfl (c_X2_strikeOut (d := 1) (by decide) h3) rfl rfl hdd (Nat.le_refl _) (Nat.le_refl _) (by decide) (fx_kv ?_)
      refine pm_iconst (v := 1) hG dX3_strikeFor_36 (by decide) ?_
      exact pm_iret hG hF dX3_strikeFor_37 rfl (Nat.le_refl _) (Nat.le_refl _) (fx_ric hE)
    · replace hE := fx_f c2 hE
      refine pm_ldc hG dX3_strikeFor_25 (ctX3_81 _ rfl) ?_
      exact pm_iret hG hF dX3_strikeFor_27 rfl (Nat.le_refl _) (Nat.le_refl _) (fx_ric hE)

set_option maxRecDepth 100000 in
set_option maxHeartbeats 4000000 in
theorem c_X3_carryOutSort {d : Nat} {B cnt : Nat} {kp : Value} {ρ : pm_S} {S : FS} {za : Int32} {zb : Int32} {zc : Int32} {R : Int32 × FS} (hdd : 4 ≤ d) (hE : f_X3_carryOutSort S za zb zc = some R) : pm_met mX3_carryOutSort d 0 0 B [.ref (B + 36), .int za, .int zb, .int zc] cnt (cst B kp S ρ) (pm_Qi (fun v σ' cnt' => v = R.1 ∧ σ' = (cst B kp R.2 ρ) ∧ cnt' = cnt)) := by
  refine pm_enter 0 (by decide) (Nat.le_of_ble_eq_true rfl) rfl (fun G hG hR hF => ?_)
  unfold f_X3_carryOutSort at hE
  refine pm_iloadn hG dX3_carryOutSort_0 rfl ?_
  by_cases c1 : za = 0
  · replace hE := fx_t c1 hE
    refine pm_top (v := 0) c1 ?_
    refine pm_tswIn (tgt := 32) hG dX3_carryOutSort_1 (by decide) (by decide) rfl rfl ?_
    refine pm_aloadn hG dX3_carryOutSort_32 rfl ?_
    refine pm_getf hG dX3_carryOutSort_33 (flX3_9 _ rfl) rfl rfl ?_
    refine pm_iloadn hG dX3_carryOutSort_36 rfl ?_
    refine pm_iloadn hG dX3_carryOutSort_37 rfl ?_
    obtain ⟨r3, h2, hE⟩ := fb_some hE
    refine pm_callV (As := [.int zc, .int zb]) (rest := []) hG hR dX3_carryOutSort_38 (lkX3_103 _ rfl) okV_X7_payFromChest rfl rfl (c_X7_payFromChest (d := 3) (by decide) h2) rfl rfl hdd (Nat.le_refl _) (Nat.le_refl _) (by decide) (fx_ki ?_)
    exact pm_iret hG hF dX3_carryOutSort_41 rfl (Nat.le_refl _) (Nat.le_refl _) (fx_ric hE)
  replace hE := fx_f c1 hE
  by_cases c4 : za = 1
  · replace hE := fx_t c4 hE
    refine pm_top (v := 1) c4 ?_
    refine pm_tswIn (tgt := 42) hG dX3_carryOutSort_1 (by decide) (by decide) rfl rfl ?_
    refine pm_aloadn hG dX3_carryOutSort_42 rfl ?_
    refine pm_iloadn hG dX3_carryOutSort_43 rfl ?_
    refine pm_iloadn hG dX3_carryOutSort_44 rfl ?_
    obtain ⟨r6, h5, hE⟩ := fb_some hE
    refine pm_callV (As := [.int zc, .int zb]) (rest := []) hG hR dX3_carryOutSort_45 (lkX3_106 _ rfl) okV_X3_sendAway rfl rfl (c_X3_sendAway (d := 3) (by decide) h5) rfl rfl hdd (Nat.le_refl _) (Nat.le_refl _) (by decide) (fx_ki ?_)
    exact pm_iret hG hF dX3_carryOutSort_48 rfl (Nat.le_refl _) (Nat.le_refl _) (fx_ric hE)
  replace hE := fx_f c4 hE
  by_cases c7 : za = 2
  · replace hE := fx_t c7 hE
    refine pm_top (v := 2) c7 ?_
    refine pm_tswIn (tgt := 49) hG dX3_carryOutSort_1 (by decide) (by decide) rfl rfl ?_
    refine pm_aloadn hG dX3_carryOutSort_49 rfl ?_
    refine pm_getf hG dX3_carryOutSort_50 (flX3_9 _ rfl) rfl rfl ?_
    refine pm_getf hG dX3_carryOutSort_53 (flX3_63 _ rfl) rfl rfl ?_
    refine pm_iloadn hG dX3_carryOutSort_56 rfl ?_
    refine pm_callV (As := [.int zb]) (rest := []) hG hR dX3_carryOutSort_57 (lkX3_109 _ rfl) okV_X9_has rfl rfl (thas_8 (d := 3)) rfl rfl hdd (Nat.le_refl _) (Nat.le_refl _) (by decide) (fx_ki ?_)
    refine pm_if_eq (tgt := 75) hG dX3_carryOutSort_60 rfl (fun c8 => ?_) (fun c8 => ?_)
    · replace hE := fx_t c8 hE
      refine pm_ldc hG dX3_carryOutSort_75 (ctX3_81 _ rfl) ?_
      exact pm_iret hG hF dX3_carryOutSort_77 rfl (Nat.le_refl _) (Nat.le_refl _) (fx_ric hE)
    · replace hE := fx_f c8 hE
      refine pm_aloadn hG dX3_carryOutSort_63 rfl ?_
      refine pm_getf hG dX3_carryOutSort_64 (flX3_9 _ rfl) rfl rfl ?_
      refine pm_iloadn hG dX3_carryOutSort_67 rfl ?_
      refine pm_iloadn hG dX3_carryOutSort_68 rfl ?_
      obtain ⟨r10, h9, hE⟩ := fb_some hE
      refine pm_callV (As := [.int zb, .int zc]) (rest := []) hG hR dX3_carryOutSort_69 (lkX3_112 _ rfl) okV_X7_handOver rfl rfl (c_X7_handOver (d := 3) (by decide) h9) rfl rfl hdd (Nat.le_refl _) (Nat.le_refl _) (by decide) (fx_ki ?_)
      refine pm_goto (tgt := 77) hG dX3_carryOutSort_72 rfl ?_
      exact pm_iret hG hF dX3_carryOutSort_77 rfl (Nat.le_refl _) (Nat.le_refl _) (fx_ric hE)
  replace hE := fx_f c7 hE
  by_cases c11 : za = 3
  · replace hE := fx_t c11 hE
    refine pm_top (v := 3) c11 ?_
    refine pm_tswIn (tgt := 78) hG dX3_carryOutSort_1 (by decide) (by decide) rfl rfl ?_
    refine pm_aloadn hG dX3_carryOutSort_78 rfl ?_
    refine pm_iloadn hG dX3_carryOutSort_79 rfl ?_
    obtain ⟨r13, h12, hE⟩ := fb_some hE
    refine pm_callV (As := [.int zb]) (rest := []) hG hR dX3_carryOutSort_80 (lkX3_115 _ rfl) okV_X3_strikeFor rfl rfl (c_X3_strikeFor (d := 3) (by decide) h12) rfl rfl hdd (Nat.le_refl _) (Nat.le_refl _) (by decide) (fx_ki ?_)
    exact pm_iret hG hF dX3_carryOutSort_83 rfl (Nat.le_refl _) (Nat.le_refl _) (fx_ric hE)
  replace hE := fx_f c11 hE
  have tc1 : ¬ za.toInt = 0 := fun q => c1 (Int32.toInt_inj.mp q)
  have tc4 : ¬ za.toInt = 1 := fun q => c4 (Int32.toInt_inj.mp q)
  have tc7 : ¬ za.toInt = 2 := fun q => c7 (Int32.toInt_inj.mp q)
  have tc11 : ¬ za.toInt = 3 := fun q => c11 (Int32.toInt_inj.mp q)
  refine pm_tswOut (tgt := 84) hG dX3_carryOutSort_1 (by omega) rfl ?_
  refine pm_aloadn hG dX3_carryOutSort_84 rfl ?_
  refine pm_getf hG dX3_carryOutSort_85 (flX3_19 _ rfl) rfl rfl ?_
  refine pm_iloadn hG dX3_carryOutSort_88 rfl ?_
  obtain ⟨r15, h14, hE⟩ := fb_some hE
  refine pm_callV (As := [.int zc]) (rest := []) hG hR dX3_carryOutSort_89 (lkX3_118 _ rfl) okV_X0_breakAllOf rfl rfl (c_X0_breakAllOf (d := 3) (by decide) h14) rfl rfl hdd (Nat.le_refl _) (Nat.le_refl _) (by decide) (fx_ki ?_)
  exact pm_iret hG hF dX3_carryOutSort_92 rfl (Nat.le_refl _) (Nat.le_refl _) (fx_ric hE)

set_option maxRecDepth 100000 in
set_option maxHeartbeats 4000000 in
theorem c_X3_carryOut {d : Nat} {B cnt : Nat} {kp : Value} {ρ : pm_S} {S : FS} {za : Int32} {R : Int32 × FS} (hdd : 5 ≤ d) (hE : f_X3_carryOut S za = some R) : pm_met mX3_carryOut d 0 0 B [.ref (B + 36), .int za] cnt (cst B kp S ρ) (pm_Qi (fun v σ' cnt' => v = R.1 ∧ σ' = (cst B kp R.2 ρ) ∧ cnt' = cnt)) := by
  refine pm_enter 2 (by decide) (Nat.le_of_ble_eq_true rfl) rfl (fun G hG hR hF => ?_)
  unfold f_X3_carryOut at hE
  refine pm_aloadn hG dX3_carryOut_0 rfl ?_
  refine pm_getf hG dX3_carryOut_1 (flX3_29 _ rfl) rfl rfl ?_
  refine pm_iloadn hG dX3_carryOut_4 rfl ?_
  refine pm_bipush (v := 6) hG dX3_carryOut_5 (by decide) ?_
  refine pm_callV (As := [.int za, .int 6]) (rest := []) hG hR dX3_carryOut_7 (lkX3_35 _ rfl) okV_X9_get rfl rfl (tget_14 (d := 4)) rfl rfl hdd (Nat.le_refl _) (Nat.le_refl _) (by decide) (fx_ki ?_)
  refine fx_letv hE (fun x1 hE => ?_)
  refine pm_istoreXn (loc' := [some (.ref (B + 36)), some (.int za), some (.int x1), none]) hG dX3_carryOut_10 (by decide) (pm_c1b rfl) rfl ?_
  refine pm_aloadn hG dX3_carryOut_11 rfl ?_
  refine pm_getf hG dX3_carryOut_12 (flX3_29 _ rfl) rfl rfl ?_
  refine pm_iloadn hG dX3_carryOut_15 rfl ?_
  refine pm_bipush (v := 9) hG dX3_carryOut_16 (by decide) ?_
  refine pm_callV (As := [.int za, .int 9]) (rest := []) hG hR dX3_carryOut_18 (lkX3_35 _ rfl) okV_X9_get rfl rfl (tget_14 (d := 4)) rfl rfl hdd (Nat.le_refl _) (Nat.le_refl _) (by decide) (fx_ki ?_)
  refine pm_if_lt (tgt := 48) hG dX3_carryOut_21 rfl (fun c2 => ?_) (fun c2 => ?_)
  · replace hE := fx_t c2 hE
    refine pm_ldc hG dX3_carryOut_48 (ctX3_62 _ rfl) ?_
    exact pm_iret hG hF dX3_carryOut_50 rfl (Nat.le_refl _) (Nat.le_refl _) (fx_ric hE)
  · replace hE := fx_f c2 hE
    refine pm_aloadn hG dX3_carryOut_24 rfl ?_
    refine pm_getf hG dX3_carryOut_25 (flX3_29 _ rfl) rfl rfl ?_
    refine pm_iloadn hG dX3_carryOut_28 rfl ?_
    refine pm_bipush (v := 11) hG dX3_carryOut_29 (by decide) ?_
    refine pm_callV (As := [.int za, .int 11]) (rest := []) hG hR dX3_carryOut_31 (lkX3_35 _ rfl) okV_X9_get rfl rfl (tget_14 (d := 4)) rfl rfl hdd (Nat.le_refl _) (Nat.le_refl _) (by decide) (fx_ki ?_)
    refine pm_if_ne (tgt := 48) hG dX3_carryOut_34 rfl (fun c3 => ?_) (fun c3 => ?_)
    · replace hE := fx_f c3 hE
      refine pm_ldc hG dX3_carryOut_48 (ctX3_62 _ rfl) ?_
      exact pm_iret hG hF dX3_carryOut_50 rfl (Nat.le_refl _) (Nat.le_refl _) (fx_ric hE)
    · replace hE := fx_t c3 hE
      refine pm_aloadn hG dX3_carryOut_37 rfl ?_
      refine pm_getf hG dX3_carryOut_38 (flX3_9 _ rfl) rfl rfl ?_
      refine pm_iloadn hG dX3_carryOut_41 rfl ?_
      refine pm_callV (As := [.int x1]) (rest := []) hG hR dX3_carryOut_42 (lkX3_95 _ rfl) okV_X7_isLiving rfl rfl (c_X7_isLiving (d := 4) (by decide) rfl) rfl rfl hdd (Nat.le_refl _) (Nat.le_refl _) (by decide) (fx_ki ?_)
      refine pm_if_ne (tgt := 51) hG dX3_carryOut_45 rfl (fun c4 => ?_) (fun c4 => ?_)
      · replace hE := fx_f c4 hE
        refine pm_aloadn hG dX3_carryOut_51 rfl ?_
        refine pm_getf hG dX3_carryOut_52 (flX3_29 _ rfl) rfl rfl ?_
        refine pm_iloadn hG dX3_carryOut_55 rfl ?_
        refine pm_bipush (v := 10) hG dX3_carryOut_56 (by decide) ?_
        refine pm_callV (As := [.int za, .int 10]) (rest := []) hG hR dX3_carryOut_58 (lkX3_35 _ rfl) okV_X9_get rfl rfl (tget_14 (d := 4)) rfl rfl hdd (Nat.le_refl _) (Nat.le_refl _) (by decide) (fx_ki ?_)
        refine pm_iconst (v := 1) hG dX3_carryOut_61 (by decide) ?_
        refine pm_icmp_eq (tgt := 68) hG dX3_carryOut_62 rfl (fun c5 => ?_) (fun c5 => ?_)
        · replace hE := fx_t c5 hE
          refine pm_aloadn hG dX3_carryOut_68 rfl ?_
          refine pm_aloadn hG dX3_carryOut_69 rfl ?_
          refine pm_getf hG dX3_carryOut_70 (flX3_29 _ rfl) rfl rfl ?_
          refine pm_iloadn hG dX3_carryOut_73 rfl ?_
          refine pm_iconst (v := 1) hG dX3_carryOut_74 (by decide) ?_
          refine pm_callV (As := [.int za, .int 1]) (rest := [.ref (B + 36)]) hG hR dX3_carryOut_75 (lkX3_35 _ rfl) okV_X9_get rfl rfl (tget_14 (d := 4)) rfl rfl hdd (Nat.le_refl _) (Nat.le_refl _) (by first | decide | exact Nat.le_of_ble_eq_true rfl) (fx_ki ?_)
          refine pm_aloadn hG dX3_carryOut_78 rfl ?_
          refine pm_getf hG dX3_carryOut_79 (flX3_29 _ rfl) rfl rfl ?_
          refine pm_iloadn hG dX3_carryOut_82 rfl ?_
          refine pm_iconst (v := 2) hG dX3_carryOut_83 (by decide) ?_
          refine pm_callV (As := [.int za, .int 2]) (rest := [.int (fG 14 40 12 S za 1), .ref (B + 36)]) hG hR dX3_carryOut_84 (lkX3_35 _ rfl) okV_X9_get rfl rfl (tget_14 (d := 4)) rfl rfl hdd (Nat.le_refl _) (Nat.le_refl _) (by first | decide | exact Nat.le_of_ble_eq_true rfl) (fx_ki ?_)
          refine pm_iloadn hG dX3_carryOut_87 rfl ?_
          obtain ⟨r7, h6, hE⟩ := fb_some hE
          refine pm_callV (As := [.int (fG 14 40 12 S za 1), .int (fG 14 40 12 S za 2), .int x1]) (rest := []) hG hR dX3_carryOut_88 (lkX3_99 _ rfl) okV_X3_carryOutSort rfl rfl (c_X3_carryOutSort (d := 4) (by decide) h6) rfl rfl hdd (Nat.le_refl _) (Nat.le_refl _) (by decide) (fx_ki ?_)
          refine pm_istoreXn (loc' := [some (.ref (B + 36)), some (.int za), some (.int x1), some (.int r7.1)]) hG dX3_carryOut_91 (by decide) (pm_c1b rfl) rfl ?_
          refine pm_iloadn hG dX3_carryOut_92 rfl ?_
          refine pm_ldc hG dX3_carryOut_93 (ctX3_81 _ rfl) ?_
          refine pm_icmp_eq (tgt := 109) hG dX3_carryOut_95 rfl (fun c8 => ?_) (fun c8 => ?_)
          · replace hE := fx_t c8 hE
            refine pm_iloadn hG dX3_carryOut_109 rfl ?_
            exact pm_iret hG hF dX3_carryOut_110 rfl (Nat.le_refl _) (Nat.le_refl _) (fx_ric hE)
          · replace hE := fx_f c8 hE
            refine pm_aloadn hG dX3_carryOut_98 rfl ?_
            refine pm_getf hG dX3_carryOut_99 (flX3_29 _ rfl) rfl rfl ?_
            refine pm_iloadn hG dX3_carryOut_102 rfl ?_
            refine pm_bipush (v := 11) hG dX3_carryOut_103 (by decide) ?_
            refine pm_iconst (v := 1) hG dX3_carryOut_105 (by decide) ?_
            refine pm_callV (As := [.int za, .int 11, .int 1]) (rest := []) hG hR dX3_carryOut_106 (lkX3_45 _ rfl) okV_X9_set rfl rfl (tset_14 (d := 4)) rfl rfl hdd (Nat.le_refl _) (Nat.le_refl _) (by decide) (fx_kv ?_)
            refine fx_letc hE (fun S9 hE => ?_)
            refine pm_iloadn hG dX3_carryOut_109 rfl ?_
            exact pm_iret hG hF dX3_carryOut_110 rfl (Nat.le_refl _) (Nat.le_refl _) (fx_ric hE)
        · replace hE := fx_f c5 hE
          refine pm_ldc hG dX3_carryOut_65 (ctX3_98 _ rfl) ?_
          exact pm_iret hG hF dX3_carryOut_67 rfl (Nat.le_refl _) (Nat.le_refl _) (fx_ric hE)
      · replace hE := fx_t c4 hE
        refine pm_ldc hG dX3_carryOut_48 (ctX3_62 _ rfl) ?_
        exact pm_iret hG hF dX3_carryOut_50 rfl (Nat.le_refl _) (Nat.le_refl _) (fx_ric hE)

set_option maxRecDepth 100000 in
set_option maxHeartbeats 4000000 in
theorem c_X11_obey {d : Nat} {B cnt : Nat} {kp : Value} {ρ : pm_S} {S : FS} {za : Int32} {R : Int32 × FS} (hdd : 6 ≤ d) (hE : f_X11_obey S za = some R) : pm_met mX11_obey d 0 0 B [.ref (B + 0), .int za] cnt (cst B kp S ρ) (pm_Qi (fun v σ' cnt' => v = R.1 ∧ σ' = (cst B kp R.2 ρ) ∧ cnt' = cnt)) := by
  refine pm_enter 0 (by decide) (Nat.le_of_ble_eq_true rfl) rfl (fun G hG hR hF => ?_)
  unfold f_X11_obey at hE
  refine pm_aloadn hG dX11_obey_0 rfl ?_
  refine pm_aloadn hG dX11_obey_1 rfl ?_
  refine pm_getf hG dX11_obey_2 (flX11_12 _ rfl) rfl rfl ?_
  refine pm_getf hG dX11_obey_5 (flX11_224 _ rfl) rfl rfl ?_
  refine pm_iloadn hG dX11_obey_8 rfl ?_
  refine pm_callV (As := [.int za]) (rest := [.ref (B + 0)]) hG hR dX11_obey_9 (lkX11_101 _ rfl) okV_X9_has rfl rfl (thas_14 (d := 5)) rfl rfl hdd (Nat.le_refl _) (Nat.le_refl _) (by first | decide | exact Nat.le_of_ble_eq_true rfl) (fx_ki ?_)
  refine pm_if_eq (tgt := 26) hG dX11_obey_12 rfl (fun c1 => ?_) (fun c1 => ?_)
  · replace hE := fx_t c1 hE
    refine pm_ldc hG dX11_obey_26 (ctX11_109 _ rfl) ?_
    obtain ⟨r3, h2, hE⟩ := fb_some hE
    refine pm_callV (As := [.int (-1000001)]) (rest := []) hG hR dX11_obey_28 (lkX11_97 _ rfl) okV_X11_told rfl rfl (c_X11_told (d := 5) (by decide) h2) rfl rfl hdd (Nat.le_refl _) (Nat.le_refl _) (by decide) (fx_ki ?_)
    exact pm_iret hG hF dX11_obey_31 rfl (Nat.le_refl _) (Nat.le_refl _) (fx_ric hE)
  · replace hE := fx_f c1 hE
    refine pm_aloadn hG dX11_obey_15 rfl ?_
    refine pm_getf hG dX11_obey_16 (flX11_39 _ rfl) rfl rfl ?_
    refine pm_iloadn hG dX11_obey_19 rfl ?_
    obtain ⟨r5, h4, hE⟩ := fb_some hE
    refine pm_callV (As := [.int za]) (rest := [.ref (B + 0)]) hG hR dX11_obey_20 (lkX11_242 _ rfl) okV_X3_carryOut rfl rfl (c_X3_carryOut (d := 5) (by decide) h4) rfl rfl hdd (Nat.le_refl _) (Nat.le_refl _) (by first | decide | exact Nat.le_of_ble_eq_true rfl) (fx_ki ?_)
    refine pm_goto (tgt := 28) hG dX11_obey_23 rfl ?_
    obtain ⟨r7, h6, hE⟩ := fb_some hE
    refine pm_callV (As := [.int r5.1]) (rest := []) hG hR dX11_obey_28 (lkX11_97 _ rfl) okV_X11_told rfl rfl (c_X11_told (d := 5) (by decide) h6) rfl rfl hdd (Nat.le_refl _) (Nat.le_refl _) (by decide) (fx_ki ?_)
    exact pm_iret hG hF dX11_obey_31 rfl (Nat.le_refl _) (Nat.le_refl _) (fx_ric hE)

set_option maxRecDepth 100000 in
set_option maxHeartbeats 4000000 in
theorem c_X3_unfold {d : Nat} {B cnt : Nat} {kp : Value} {ρ : pm_S} {S : FS} {za : Int32} {R : Int32 × FS} (hdd : 5 ≤ d) (hE : f_X3_unfold S za = some R) : pm_met mX3_unfold d 0 0 B [.ref (B + 36), .int za] cnt (cst B kp S ρ) (pm_Qi (fun v σ' cnt' => v = R.1 ∧ σ' = (cst B kp R.2 ρ) ∧ cnt' = cnt)) := by
  refine pm_enter 3 (by decide) (Nat.le_of_ble_eq_true rfl) rfl (fun G hG hR hF => ?_)
  unfold f_X3_unfold at hE
  refine pm_aloadn hG dX3_unfold_0 rfl ?_
  refine pm_getf hG dX3_unfold_1 (flX3_29 _ rfl) rfl rfl ?_
  refine pm_iloadn hG dX3_unfold_4 rfl ?_
  refine pm_bipush (v := 6) hG dX3_unfold_5 (by decide) ?_
  refine pm_callV (As := [.int za, .int 6]) (rest := []) hG hR dX3_unfold_7 (lkX3_35 _ rfl) okV_X9_get rfl rfl (tget_14 (d := 4)) rfl rfl hdd (Nat.le_refl _) (Nat.le_refl _) (by decide) (fx_ki ?_)
  refine fx_letv hE (fun x1 hE => ?_)
  refine pm_istoreXn (loc' := [some (.ref (B + 36)), some (.int za), some (.int x1), none, none]) hG dX3_unfold_10 (by decide) (pm_c1b rfl) rfl ?_
  refine pm_aloadn hG dX3_unfold_11 rfl ?_
  refine pm_iloadn hG dX3_unfold_12 rfl ?_
  refine pm_callV (As := [.int za]) (rest := []) hG hR dX3_unfold_13 (lkX3_55 _ rfl) okV_X3_isSent rfl rfl (c_X3_isSent (d := 4) (by decide) rfl) rfl rfl hdd (Nat.le_refl _) (Nat.le_refl _) (by decide) (fx_ki ?_)
  refine pm_if_eq (tgt := 43) hG dX3_unfold_16 rfl (fun c2 => ?_) (fun c2 => ?_)
  · replace hE := fx_t c2 hE
    refine pm_iconst (v := 0) hG dX3_unfold_43 (by decide) ?_
    refine pm_istoreXn (loc' := [some (.ref (B + 36)), some (.int za), some (.int x1), some (.int 0), none]) hG dX3_unfold_44 (by decide) (pm_c1b rfl) rfl ?_
    refine pm_iloadn hG dX3_unfold_45 rfl ?_
    refine pm_if_eq (tgt := 98) hG dX3_unfold_46 rfl (fun _ => ?_) (fun q => absurd q (by decide))
    refine pm_ldc hG dX3_unfold_98 (ctX3_62 _ rfl) ?_
    exact pm_iret hG hF dX3_unfold_100 rfl (Nat.le_refl _) (Nat.le_refl _) (fx_ric hE)
  · replace hE := fx_f c2 hE
    refine pm_aloadn hG dX3_unfold_19 rfl ?_
    refine pm_getf hG dX3_unfold_20 (flX3_29 _ rfl) rfl rfl ?_
    refine pm_iloadn hG dX3_unfold_23 rfl ?_
    refine pm_bipush (v := 8) hG dX3_unfold_24 (by decide) ?_
    refine pm_callV (As := [.int za, .int 8]) (rest := []) hG hR dX3_unfold_26 (lkX3_35 _ rfl) okV_X9_get rfl rfl (tget_14 (d := 4)) rfl rfl hdd (Nat.le_refl _) (Nat.le_refl _) (by decide) (fx_ki ?_)
    refine pm_aloadn hG dX3_unfold_29 rfl ?_
    refine pm_getf hG dX3_unfold_30 (flX3_9 _ rfl) rfl rfl ?_
    refine pm_getf hG dX3_unfold_33 (flX3_82 _ rfl) rfl rfl ?_
    refine pm_icmp_gt (tgt := 43) hG dX3_unfold_36 rfl (fun c3 => ?_) (fun c3 => ?_)
    · replace hE := fx_t c3 hE
      refine pm_iconst (v := 0) hG dX3_unfold_43 (by decide) ?_
      refine pm_istoreXn (loc' := [some (.ref (B + 36)), some (.int za), some (.int x1), some (.int 0), none]) hG dX3_unfold_44 (by decide) (pm_c1b rfl) rfl ?_
      refine pm_iloadn hG dX3_unfold_45 rfl ?_
      refine pm_if_eq (tgt := 98) hG dX3_unfold_46 rfl (fun _ => ?_) (fun q => absurd q (by decide))
      refine pm_ldc hG dX3_unfold_98 (ctX3_62 _ rfl) ?_
      exact pm_iret hG hF dX3_unfold_100 rfl (Nat.le_refl _) (Nat.le_refl _) (fx_ric hE)
    · replace hE := fx_f c3 hE
      refine pm_iconst (v := 1) hG dX3_unfold_39 (by decide) ?_
      refine pm_goto (tgt := 44) hG dX3_unfold_40 rfl ?_
      refine pm_istoreXn (loc' := [some (.ref (B + 36)), some (.int za), some (.int x1), some (.int 1), none]) hG dX3_unfold_44 (by decide) (pm_c1b rfl) rfl ?_
      refine pm_iloadn hG dX3_unfold_45 rfl ?_
      refine pm_if_eq (tgt := 98) hG dX3_unfold_46 rfl (fun q => absurd q (by decide)) (fun _ => ?_)
      refine pm_aloadn hG dX3_unfold_49 rfl ?_
      refine pm_getf hG dX3_unfold_50 (flX3_29 _ rfl) rfl rfl ?_
      refine pm_iloadn hG dX3_unfold_53 rfl ?_
      refine pm_bipush (v := 9) hG dX3_unfold_54 (by decide) ?_
      refine pm_callV (As := [.int za, .int 9]) (rest := []) hG hR dX3_unfold_56 (lkX3_35 _ rfl) okV_X9_get rfl rfl (tget_14 (d := 4)) rfl rfl hdd (Nat.le_refl _) (Nat.le_refl _) (by decide) (fx_ki ?_)
      refine pm_if_ge (tgt := 98) hG dX3_unfold_59 rfl (fun c4 => ?_) (fun c4 => ?_)
      · replace c4 := Int32.not_lt.mpr c4
        replace hE := fx_f c4 hE
        refine pm_ldc hG dX3_unfold_98 (ctX3_62 _ rfl) ?_
        exact pm_iret hG hF dX3_unfold_100 rfl (Nat.le_refl _) (Nat.le_refl _) (fx_ric hE)
      · replace c4 := Int32.not_le.mp c4
        replace hE := fx_t c4 hE
        refine pm_aloadn hG dX3_unfold_62 rfl ?_
        refine pm_getf hG dX3_unfold_63 (flX3_9 _ rfl) rfl rfl ?_
        refine pm_iloadn hG dX3_unfold_66 rfl ?_
        refine pm_callV (As := [.int x1]) (rest := []) hG hR dX3_unfold_67 (lkX3_59 _ rfl) okV_X7_isInTown rfl rfl (c_X7_isInTown (d := 4) (by decide) rfl) rfl rfl hdd (Nat.le_refl _) (Nat.le_refl _) (by decide) (fx_ki ?_)
        refine pm_if_eq (tgt := 98) hG dX3_unfold_70 rfl (fun c5 => ?_) (fun c5 => ?_)
        · replace hE := fx_t c5 hE
          refine pm_ldc hG dX3_unfold_98 (ctX3_62 _ rfl) ?_
          exact pm_iret hG hF dX3_unfold_100 rfl (Nat.le_refl _) (Nat.le_refl _) (fx_ric hE)
        · replace hE := fx_f c5 hE
          refine pm_aloadn hG dX3_unfold_73 rfl ?_
          refine pm_getf hG dX3_unfold_74 (flX3_9 _ rfl) rfl rfl ?_
          refine pm_getf hG dX3_unfold_77 (flX3_32 _ rfl) rfl rfl ?_
          refine pm_iloadn hG dX3_unfold_80 rfl ?_
          refine pm_iconst (v := 4) hG dX3_unfold_81 (by decide) ?_
          refine pm_callV (As := [.int x1, .int 4]) (rest := []) hG hR dX3_unfold_82 (lkX3_35 _ rfl) okV_X9_get rfl rfl (tget_6 (d := 4)) rfl rfl hdd (Nat.le_refl _) (Nat.le_refl _) (by decide) (fx_ki ?_)
          refine pm_aloadn hG dX3_unfold_85 rfl ?_
          refine pm_getf hG dX3_unfold_86 (flX3_29 _ rfl) rfl rfl ?_
          refine pm_iloadn hG dX3_unfold_89 rfl ?_
          refine pm_bipush (v := 7) hG dX3_unfold_90 (by decide) ?_
          refine pm_callV (As := [.int za, .int 7]) (rest := [.int (fG 6 20 14 S x1 4)]) hG hR dX3_unfold_92 (lkX3_35 _ rfl) okV_X9_get rfl rfl (tget_14 (d := 4)) rfl rfl hdd (Nat.le_refl _) (Nat.le_refl _) (by first | decide | exact Nat.le_of_ble_eq_true rfl) (fx_ki ?_)
          refine pm_icmp_eq (tgt := 101) hG dX3_unfold_95 rfl (fun c6 => ?_) (fun c6 => ?_)
          · replace hE := fx_t c6 hE
            refine pm_aloadn hG dX3_unfold_101 rfl ?_
            refine pm_getf hG dX3_unfold_102 (flX3_15 _ rfl) rfl rfl ?_
            refine pm_iconst (v := 1) hG dX3_unfold_105 (by decide) ?_
            refine pm_aloadn hG dX3_unfold_106 rfl ?_
            refine pm_getf hG dX3_unfold_107 (flX3_9 _ rfl) rfl rfl ?_
            refine pm_getf hG dX3_unfold_110 (flX3_82 _ rfl) rfl rfl ?_
            refine pm_aloadn hG dX3_unfold_113 rfl ?_
            refine pm_getf hG dX3_unfold_114 (flX3_9 _ rfl) rfl rfl ?_
            refine pm_iloadn hG dX3_unfold_117 rfl ?_
            refine pm_callV (As := [.int x1]) (rest := [.int (S.1 102), .int 1, .ref (B + 26)]) hG hR dX3_unfold_118 (lkX3_86 _ rfl) okV_X7_knownTo rfl rfl (c_X7_knownTo (d := 4) (by decide) rfl) rfl rfl hdd (Nat.le_refl _) (Nat.le_refl _) (by first | decide | exact Nat.le_of_ble_eq_true rfl) (fx_ki ?_)
            refine pm_iloadn hG dX3_unfold_121 rfl ?_
            refine pm_iloadn hG dX3_unfold_122 rfl ?_
            obtain ⟨r8, h7, hE⟩ := fb_some hE
            refine pm_callV (As := [.int 1, .int (S.1 102), .int (p_X7_knownTo S x1), .int x1, .int za]) (rest := []) hG hR dX3_unfold_123 (lkX3_89 _ rfl) okV_X2_ruling rfl rfl (c_X2_ruling (d := 4) (by decide) h7) rfl rfl hdd (Nat.le_refl _) (Nat.le_refl _) (by decide) (fx_ki ?_)
            refine pm_if_eq (tgt := 133) hG dX3_unfold_126 rfl (fun c9 => ?_) (fun c9 => ?_)
            · replace hE := fx_t c9 hE
              refine pm_iconst (v := 0) hG dX3_unfold_133 (by decide) ?_
              refine pm_istoreXi (loc' := [some (.ref (B + 36)), some (.int za), some (.int x1), some (.int 1), some (.int 0)]) hG dX3_unfold_134 (by decide) (pm_c1b rfl) rfl ?_
              refine pm_aloadn hG dX3_unfold_136 rfl ?_
              refine pm_getf hG dX3_unfold_137 (flX3_29 _ rfl) rfl rfl ?_
              refine pm_iloadn hG dX3_unfold_140 rfl ?_
              refine pm_bipush (v := 9) hG dX3_unfold_141 (by decide) ?_
              refine pm_aloadn hG dX3_unfold_143 rfl ?_
              refine pm_getf hG dX3_unfold_144 (flX3_9 _ rfl) rfl rfl ?_
              refine pm_getf hG dX3_unfold_147 (flX3_82 _ rfl) rfl rfl ?_
              refine pm_callV (As := [.int za, .int 9, .int (r8.2.1 102)]) (rest := []) hG hR dX3_unfold_150 (lkX3_45 _ rfl) okV_X9_set rfl rfl (tset_14 (d := 4)) rfl rfl hdd (Nat.le_refl _) (Nat.le_refl _) (by decide) (fx_kv ?_)
              refine fx_letc hE (fun S10 hE => ?_)
              refine pm_aloadn hG dX3_unfold_153 rfl ?_
              refine pm_getf hG dX3_unfold_154 (flX3_29 _ rfl) rfl rfl ?_
              refine pm_iloadn hG dX3_unfold_157 rfl ?_
              refine pm_bipush (v := 10) hG dX3_unfold_158 (by decide) ?_
              refine pm_iloadi hG dX3_unfold_160 rfl ?_
              refine pm_callV (As := [.int za, .int 10, .int 0]) (rest := []) hG hR dX3_unfold_162 (lkX3_45 _ rfl) okV_X9_set rfl rfl (tset_14 (d := 4)) rfl rfl hdd (Nat.le_refl _) (Nat.le_refl _) (by decide) (fx_kv ?_)
              refine fx_letc hE (fun S11 hE => ?_)
              refine pm_iloadi hG dX3_unfold_165 rfl ?_
              exact pm_iret hG hF dX3_unfold_167 rfl (Nat.le_refl _) (Nat.le_refl _) (fx_ric hE)
            · replace hE := fx_f c9 hE
              refine pm_iconst (v := 1) hG dX3_unfold_129 (by decide) ?_
              refine pm_goto (tgt := 134) hG dX3_unfold_130 rfl ?_
              refine pm_istoreXi (loc' := [some (.ref (B + 36)), some (.int za), some (.int x1), some (.int 1), some (.int 1)]) hG dX3_unfold_134 (by decide) (pm_c1b rfl) rfl ?_
              refine pm_aloadn hG dX3_unfold_136 rfl ?_
              refine pm_getf hG dX3_unfold_137 (flX3_29 _ rfl) rfl rfl ?_
              refine pm_iloadn hG dX3_unfold_140 rfl ?_
              refine pm_bipush (v := 9) hG dX3_unfold_141 (by decide) ?_
              refine pm_aloadn hG dX3_unfold_143 rfl ?_
              refine pm_getf hG dX3_unfold_144 (flX3_9 _ rfl) rfl rfl ?_
              refine pm_getf hG dX3_unfold_147 (flX3_82 _ rfl) rfl rfl ?_
              refine pm_callV (As := [.int za, .int 9, .int (r8.2.1 102)]) (rest := []) hG hR dX3_unfold_150 (lkX3_45 _ rfl) okV_X9_set rfl rfl (tset_14 (d := 4)) rfl rfl hdd (Nat.le_refl _) (Nat.le_refl _) (by decide) (fx_kv ?_)
              refine fx_letc hE (fun S12 hE => ?_)
              refine pm_aloadn hG dX3_unfold_153 rfl ?_
              refine pm_getf hG dX3_unfold_154 (flX3_29 _ rfl) rfl rfl ?_
              refine pm_iloadn hG dX3_unfold_157 rfl ?_
              refine pm_bipush (v := 10) hG dX3_unfold_158 (by decide) ?_
              refine pm_iloadi hG dX3_unfold_160 rfl ?_
              refine pm_callV (As := [.int za, .int 10, .int 1]) (rest := []) hG hR dX3_unfold_162 (lkX3_45 _ rfl) okV_X9_set rfl rfl (tset_14 (d := 4)) rfl rfl hdd (Nat.le_refl _) (Nat.le_refl _) (by decide) (fx_kv ?_)
              refine fx_letc hE (fun S13 hE => ?_)
              refine pm_iloadi hG dX3_unfold_165 rfl ?_
              exact pm_iret hG hF dX3_unfold_167 rfl (Nat.le_refl _) (Nat.le_refl _) (fx_ric hE)
          · replace hE := fx_f c6 hE
            refine pm_ldc hG dX3_unfold_98 (ctX3_62 _ rfl) ?_
            exact pm_iret hG hF dX3_unfold_100 rfl (Nat.le_refl _) (Nat.le_refl _) (fx_ric hE)
end
section
set_option maxRecDepth 100000 in
set_option maxHeartbeats 4000000 in
theorem c_X11_open {d : Nat} {B cnt : Nat} {kp : Value} {ρ : pm_S} {S : FS} {za : Int32} {R : Int32 × FS} (hdd : 6 ≤ d) (hE : f_X11_open S za = some R) : pm_met mX11_open d 0 0 B [.ref (B + 0), .int za] cnt (cst B kp S ρ) (pm_Qi (fun v σ' cnt' => v = R.1 ∧ σ' = (cst B kp R.2 ρ) ∧ cnt' = cnt)) := by
  refine pm_enter 0 (by decide) (Nat.le_of_ble_eq_true rfl) rfl (fun G hG hR hF => ?_)
  unfold f_X11_open at hE
  refine pm_aloadn hG dX11_open_0 rfl ?_
  refine pm_aloadn hG dX11_open_1 rfl ?_
  refine pm_getf hG dX11_open_2 (flX11_12 _ rfl) rfl rfl ?_
  refine pm_getf hG dX11_open_5 (flX11_224 _ rfl) rfl rfl ?_
  refine pm_iloadn hG dX11_open_8 rfl ?_
  refine pm_callV (As := [.int za]) (rest := [.ref (B + 0)]) hG hR dX11_open_9 (lkX11_101 _ rfl) okV_X9_has rfl rfl (thas_14 (d := 5)) rfl rfl hdd (Nat.le_refl _) (Nat.le_refl _) (by first | decide | exact Nat.le_of_ble_eq_true rfl) (fx_ki ?_)
  refine pm_if_eq (tgt := 26) hG dX11_open_12 rfl (fun c1 => ?_) (fun c1 => ?_)
  · replace hE := fx_t c1 hE
    refine pm_ldc hG dX11_open_26 (ctX11_109 _ rfl) ?_
    obtain ⟨r3, h2, hE⟩ := fb_some hE
    refine pm_callV (As := [.int (-1000001)]) (rest := []) hG hR dX11_open_28 (lkX11_97 _ rfl) okV_X11_told rfl rfl (c_X11_told (d := 5) (by decide) h2) rfl rfl hdd (Nat.le_refl _) (Nat.le_refl _) (by decide) (fx_ki ?_)
    exact pm_iret hG hF dX11_open_31 rfl (Nat.le_refl _) (Nat.le_refl _) (fx_ric hE)
  · replace hE := fx_f c1 hE
    refine pm_aloadn hG dX11_open_15 rfl ?_
    refine pm_getf hG dX11_open_16 (flX11_39 _ rfl) rfl rfl ?_
    refine pm_iloadn hG dX11_open_19 rfl ?_
    obtain ⟨r5, h4, hE⟩ := fb_some hE
    refine pm_callV (As := [.int za]) (rest := [.ref (B + 0)]) hG hR dX11_open_20 (lkX11_239 _ rfl) okV_X3_unfold rfl rfl (c_X3_unfold (d := 5) (by decide) h4) rfl rfl hdd (Nat.le_refl _) (Nat.le_refl _) (by first | decide | exact Nat.le_of_ble_eq_true rfl) (fx_ki ?_)
    refine pm_goto (tgt := 28) hG dX11_open_23 rfl ?_
    obtain ⟨r7, h6, hE⟩ := fb_some hE
    refine pm_callV (As := [.int r5.1]) (rest := []) hG hR dX11_open_28 (lkX11_97 _ rfl) okV_X11_told rfl rfl (c_X11_told (d := 5) (by decide) h6) rfl rfl hdd (Nat.le_refl _) (Nat.le_refl _) (by decide) (fx_ki ?_)
    exact pm_iret hG hF dX11_open_31 rfl (Nat.le_refl _) (Nat.le_refl _) (fx_ric hE)

set_option maxRecDepth 100000 in
set_option maxHeartbeats 4000000 in
theorem c_X11_owed {d : Nat} {B cnt : Nat} {kp : Value} {ρ : pm_S} {S : FS} {za : Int32} {zb : Int32} {R : Int32 × FS} (hdd : 2 ≤ d) (hE : f_X11_owed S za zb = some R) : pm_met mX11_owed d 0 0 B [.ref (B + 0), .int za, .int zb] cnt (cst B kp S ρ) (pm_Qi (fun v σ' cnt' => v = R.1 ∧ σ' = (cst B kp R.2 ρ) ∧ cnt' = cnt)) := by
  refine pm_enter 1 (by decide) (Nat.le_of_ble_eq_true rfl) rfl (fun G hG hR hF => ?_)
  unfold f_X11_owed at hE
  refine pm_aloadn hG dX11_owed_0 rfl ?_
  refine pm_getf hG dX11_owed_1 (flX11_12 _ rfl) rfl rfl ?_
  refine pm_getf hG dX11_owed_4 (flX11_271 _ rfl) rfl rfl ?_
  refine pm_iloadn hG dX11_owed_7 rfl ?_
  refine pm_callV (As := [.int za]) (rest := []) hG hR dX11_owed_8 (lkX11_101 _ rfl) okV_X9_has rfl rfl (thas_16 (d := 1)) rfl rfl hdd (Nat.le_refl _) (Nat.le_refl _) (by decide) (fx_ki ?_)
  refine pm_if_ne (tgt := 21) hG dX11_owed_11 rfl (fun c1 => ?_) (fun c1 => ?_)
  · replace hE := fx_f c1 hE
    refine pm_aloadn hG dX11_owed_21 rfl ?_
    refine pm_getf hG dX11_owed_22 (flX11_12 _ rfl) rfl rfl ?_
    refine pm_getf hG dX11_owed_25 (flX11_271 _ rfl) rfl rfl ?_
    refine pm_iloadn hG dX11_owed_28 rfl ?_
    refine pm_iconst (v := 3) hG dX11_owed_29 (by decide) ?_
    refine pm_callV (As := [.int za, .int 3]) (rest := []) hG hR dX11_owed_30 (lkX11_152 _ rfl) okV_X9_get rfl rfl (tget_16 (d := 1)) rfl rfl hdd (Nat.le_refl _) (Nat.le_refl _) (by decide) (fx_ki ?_)
    refine fx_letv hE (fun x2 hE => ?_)
    refine pm_istoreXn (loc' := [some (.ref (B + 0)), some (.int za), some (.int zb), some (.int x2)]) hG dX11_owed_33 (by decide) (pm_c1b rfl) rfl ?_
    refine pm_iloadn hG dX11_owed_34 rfl ?_
    by_cases c3 : zb = 0
    · replace hE := fx_t c3 hE
      refine pm_top (v := 0) c3 ?_
      refine pm_tswIn (tgt := 64) hG dX11_owed_35 (by decide) (by decide) rfl rfl ?_
      refine pm_aloadn hG dX11_owed_64 rfl ?_
      refine pm_getf hG dX11_owed_65 (flX11_12 _ rfl) rfl rfl ?_
      refine pm_getf hG dX11_owed_68 (flX11_271 _ rfl) rfl rfl ?_
      refine pm_iloadn hG dX11_owed_71 rfl ?_
      refine pm_iconst (v := 0) hG dX11_owed_72 (by decide) ?_
      refine pm_callV (As := [.int za, .int 0]) (rest := []) hG hR dX11_owed_73 (lkX11_152 _ rfl) okV_X9_get rfl rfl (tget_16 (d := 1)) rfl rfl hdd (Nat.le_refl _) (Nat.le_refl _) (by decide) (fx_ki ?_)
      exact pm_iret hG hF dX11_owed_76 rfl (Nat.le_refl _) (Nat.le_refl _) (fx_ric hE)
    replace hE := fx_f c3 hE
    by_cases c4 : zb = 1
    · replace hE := fx_t c4 hE
      refine pm_top (v := 1) c4 ?_
      refine pm_tswIn (tgt := 77) hG dX11_owed_35 (by decide) (by decide) rfl rfl ?_
      refine pm_aloadn hG dX11_owed_77 rfl ?_
      refine pm_getf hG dX11_owed_78 (flX11_12 _ rfl) rfl rfl ?_
      refine pm_getf hG dX11_owed_81 (flX11_271 _ rfl) rfl rfl ?_
      refine pm_iloadn hG dX11_owed_84 rfl ?_
      refine pm_iconst (v := 4) hG dX11_owed_85 (by decide) ?_
      refine pm_callV (As := [.int za, .int 4]) (rest := []) hG hR dX11_owed_86 (lkX11_152 _ rfl) okV_X9_get rfl rfl (tget_16 (d := 1)) rfl rfl hdd (Nat.le_refl _) (Nat.le_refl _) (by decide) (fx_ki ?_)
      exact pm_iret hG hF dX11_owed_89 rfl (Nat.le_refl _) (Nat.le_refl _) (fx_ric hE)
    replace hE := fx_f c4 hE
    by_cases c5 : zb = 2
    · replace hE := fx_t c5 hE
      refine pm_top (v := 2) c5 ?_
      refine pm_tswIn (tgt := 90) hG dX11_owed_35 (by decide) (by decide) rfl rfl ?_
      refine pm_aloadn hG dX11_owed_90 rfl ?_
      refine pm_getf hG dX11_owed_91 (flX11_12 _ rfl) rfl rfl ?_
      refine pm_getf hG dX11_owed_94 (flX11_82 _ rfl) rfl rfl ?_
      refine pm_iloadn hG dX11_owed_97 rfl ?_
      refine pm_iconst (v := 2) hG dX11_owed_98 (by decide) ?_
      refine pm_callV (As := [.int x2, .int 2]) (rest := []) hG hR dX11_owed_99 (lkX11_152 _ rfl) okV_X9_get rfl rfl (tget_2 (d := 1)) rfl rfl hdd (Nat.le_refl _) (Nat.le_refl _) (by decide) (fx_ki ?_)
      exact pm_iret hG hF dX11_owed_102 rfl (Nat.le_refl _) (Nat.le_refl _) (fx_ric hE)
    replace hE := fx_f c5 hE
    by_cases c6 : zb = 3
    · replace hE := fx_t c6 hE
      refine pm_top (v := 3) c6 ?_
      refine pm_tswIn (tgt := 103) hG dX11_owed_35 (by decide) (by decide) rfl rfl ?_
      refine pm_aloadn hG dX11_owed_103 rfl ?_
      refine pm_getf hG dX11_owed_104 (flX11_12 _ rfl) rfl rfl ?_
      refine pm_getf hG dX11_owed_107 (flX11_271 _ rfl) rfl rfl ?_
      refine pm_iconst (v := 3) hG dX11_owed_110 (by decide) ?_
      refine pm_iloadn hG dX11_owed_111 rfl ?_
      obtain ⟨x8, h7, hE⟩ := fb_some hE
      refine pm_callV (As := [.int 3, .int x2]) (rest := []) hG hR dX11_owed_112 (lkX11_164 _ rfl) okV_X9_rowsWith rfl rfl (trowsWith_16 (d := 1) (k := 3) (by decide) rfl h7) rfl rfl hdd (Nat.le_refl _) (Nat.le_refl _) (by decide) (fx_ki ?_)
      exact pm_iret hG hF dX11_owed_115 rfl (Nat.le_refl _) (Nat.le_refl _) (fx_ric hE)
    replace hE := fx_f c6 hE
    have tc3 : ¬ zb.toInt = 0 := fun q => c3 (Int32.toInt_inj.mp q)
    have tc4 : ¬ zb.toInt = 1 := fun q => c4 (Int32.toInt_inj.mp q)
    have tc5 : ¬ zb.toInt = 2 := fun q => c5 (Int32.toInt_inj.mp q)
    have tc6 : ¬ zb.toInt = 3 := fun q => c6 (Int32.toInt_inj.mp q)
    refine pm_tswOut (tgt := 116) hG dX11_owed_35 (by omega) rfl ?_
    refine pm_aloadn hG dX11_owed_116 rfl ?_
    refine pm_ldc hG dX11_owed_117 (ctX11_109 _ rfl) ?_
    obtain ⟨r10, h9, hE⟩ := fb_some hE
    refine pm_callV (As := [.int (-1000001)]) (rest := []) hG hR dX11_owed_119 (lkX11_97 _ rfl) okV_X11_told rfl rfl (c_X11_told (d := 1) (by decide) h9) rfl rfl hdd (Nat.le_refl _) (Nat.le_refl _) (by decide) (fx_ki ?_)
    exact pm_iret hG hF dX11_owed_122 rfl (Nat.le_refl _) (Nat.le_refl _) (fx_ric hE)
  · replace hE := fx_t c1 hE
    refine pm_aloadn hG dX11_owed_14 rfl ?_
    refine pm_ldc hG dX11_owed_15 (ctX11_109 _ rfl) ?_
    obtain ⟨r12, h11, hE⟩ := fb_some hE
    refine pm_callV (As := [.int (-1000001)]) (rest := []) hG hR dX11_owed_17 (lkX11_97 _ rfl) okV_X11_told rfl rfl (c_X11_told (d := 1) (by decide) h11) rfl rfl hdd (Nat.le_refl _) (Nat.le_refl _) (by decide) (fx_ki ?_)
    exact pm_iret hG hF dX11_owed_20 rfl (Nat.le_refl _) (Nat.le_refl _) (fx_ric hE)

set_option maxRecDepth 100000 in
set_option maxHeartbeats 4000000 in
theorem c_X11_own {d : Nat} {B cnt : Nat} {kp : Value} {ρ : pm_S} {S : FS} {za : Int32} {zb : Int32} {R : Int32 × FS} (hdd : 3 ≤ d) (hE : f_X11_own S za zb = some R) : pm_met mX11_own d 0 0 B [.ref (B + 0), .int za, .int zb] cnt (cst B kp S ρ) (pm_Qi (fun v σ' cnt' => v = R.1 ∧ σ' = (cst B kp R.2 ρ) ∧ cnt' = cnt)) := by
  refine pm_enter 0 (by decide) (Nat.le_of_ble_eq_true rfl) rfl (fun G hG hR hF => ?_)
  unfold f_X11_own at hE
  refine pm_aloadn hG dX11_own_0 rfl ?_
  refine pm_getf hG dX11_own_1 (flX11_12 _ rfl) rfl rfl ?_
  refine pm_getf hG dX11_own_4 (flX11_82 _ rfl) rfl rfl ?_
  refine pm_iloadn hG dX11_own_7 rfl ?_
  refine pm_callV (As := [.int za]) (rest := []) hG hR dX11_own_8 (lkX11_101 _ rfl) okV_X9_has rfl rfl (thas_2 (d := 2)) rfl rfl hdd (Nat.le_refl _) (Nat.le_refl _) (by decide) (fx_ki ?_)
  refine pm_if_eq (tgt := 25) hG dX11_own_11 rfl (fun c1 => ?_) (fun c1 => ?_)
  · replace hE := fx_t c1 hE
    refine pm_aloadn hG dX11_own_25 rfl ?_
    refine pm_ldc hG dX11_own_26 (ctX11_109 _ rfl) ?_
    obtain ⟨r3, h2, hE⟩ := fb_some hE
    refine pm_callV (As := [.int (-1000001)]) (rest := []) hG hR dX11_own_28 (lkX11_97 _ rfl) okV_X11_told rfl rfl (c_X11_told (d := 2) (by decide) h2) rfl rfl hdd (Nat.le_refl _) (Nat.le_refl _) (by decide) (fx_ki ?_)
    exact pm_iret hG hF dX11_own_31 rfl (Nat.le_refl _) (Nat.le_refl _) (fx_ric hE)
  · replace hE := fx_f c1 hE
    refine pm_aloadn hG dX11_own_14 rfl ?_
    refine pm_getf hG dX11_own_15 (flX11_12 _ rfl) rfl rfl ?_
    refine pm_iloadn hG dX11_own_18 rfl ?_
    refine pm_callV (As := [.int zb]) (rest := []) hG hR dX11_own_19 (lkX11_174 _ rfl) okV_X7_isLivingOrNobody rfl rfl (c_X7_isLivingOrNobody (d := 2) (by decide) rfl) rfl rfl hdd (Nat.le_refl _) (Nat.le_refl _) (by decide) (fx_ki ?_)
    refine pm_if_ne (tgt := 32) hG dX11_own_22 rfl (fun c4 => ?_) (fun c4 => ?_)
    · replace hE := fx_f c4 hE
      refine pm_aloadn hG dX11_own_32 rfl ?_
      refine pm_getf hG dX11_own_33 (flX11_12 _ rfl) rfl rfl ?_
      refine pm_getf hG dX11_own_36 (flX11_82 _ rfl) rfl rfl ?_
      refine pm_iloadn hG dX11_own_39 rfl ?_
      refine pm_iconst (v := 2) hG dX11_own_40 (by decide) ?_
      refine pm_callV (As := [.int za, .int 2]) (rest := []) hG hR dX11_own_41 (lkX11_152 _ rfl) okV_X9_get rfl rfl (tget_2 (d := 2)) rfl rfl hdd (Nat.le_refl _) (Nat.le_refl _) (by decide) (fx_ki ?_)
      refine pm_if_eq (tgt := 54) hG dX11_own_44 rfl (fun c5 => ?_) (fun c5 => ?_)
      · replace hE := fx_t c5 hE
        refine pm_aloadn hG dX11_own_54 rfl ?_
        refine pm_getf hG dX11_own_55 (flX11_12 _ rfl) rfl rfl ?_
        refine pm_getf hG dX11_own_58 (flX11_82 _ rfl) rfl rfl ?_
        refine pm_iloadn hG dX11_own_61 rfl ?_
        refine pm_iconst (v := 1) hG dX11_own_62 (by decide) ?_
        refine pm_iloadn hG dX11_own_63 rfl ?_
        refine pm_callV (As := [.int za, .int 1, .int zb]) (rest := []) hG hR dX11_own_64 (lkX11_248 _ rfl) okV_X9_swap rfl rfl (tswap_2 (d := 2) (by decide)) rfl rfl hdd (Nat.le_refl _) (Nat.le_refl _) (by decide) (fx_ki ?_)
        refine fx_letc hE (fun S6 hE => ?_)
        exact pm_iret hG hF dX11_own_67 rfl (Nat.le_refl _) (Nat.le_refl _) (fx_ric hE)
      · replace hE := fx_f c5 hE
        refine pm_aloadn hG dX11_own_47 rfl ?_
        refine pm_ldc hG dX11_own_48 (ctX11_138 _ rfl) ?_
        obtain ⟨r8, h7, hE⟩ := fb_some hE
        refine pm_callV (As := [.int (-1000003)]) (rest := []) hG hR dX11_own_50 (lkX11_97 _ rfl) okV_X11_told rfl rfl (c_X11_told (d := 2) (by decide) h7) rfl rfl hdd (Nat.le_refl _) (Nat.le_refl _) (by decide) (fx_ki ?_)
        exact pm_iret hG hF dX11_own_53 rfl (Nat.le_refl _) (Nat.le_refl _) (fx_ric hE)
    · replace hE := fx_t c4 hE
      refine pm_aloadn hG dX11_own_25 rfl ?_
      refine pm_ldc hG dX11_own_26 (ctX11_109 _ rfl) ?_
      obtain ⟨r10, h9, hE⟩ := fb_some hE
      refine pm_callV (As := [.int (-1000001)]) (rest := []) hG hR dX11_own_28 (lkX11_97 _ rfl) okV_X11_told rfl rfl (c_X11_told (d := 2) (by decide) h9) rfl rfl hdd (Nat.le_refl _) (Nat.le_refl _) (by decide) (fx_ki ?_)
      exact pm_iret hG hF dX11_own_31 rfl (Nat.le_refl _) (Nat.le_refl _) (fx_ric hE)

set_option maxRecDepth 100000 in
set_option maxHeartbeats 4000000 in
theorem c_X11_pay {d : Nat} {B cnt : Nat} {kp : Value} {ρ : pm_S} {S : FS} {za : Int32} {zb : Int32} {R : Int32 × FS} (hdd : 3 ≤ d) (hE : f_X11_pay S za zb = some R) : pm_met mX11_pay d 0 0 B [.ref (B + 0), .int za, .int zb] cnt (cst B kp S ρ) (pm_Qi (fun v σ' cnt' => v = R.1 ∧ σ' = (cst B kp R.2 ρ) ∧ cnt' = cnt)) := by
  refine pm_enter 0 (by decide) (Nat.le_of_ble_eq_true rfl) rfl (fun G hG hR hF => ?_)
  unfold f_X11_pay at hE
  refine pm_aloadn hG dX11_pay_0 rfl ?_
  refine pm_getf hG dX11_pay_1 (flX11_12 _ rfl) rfl rfl ?_
  refine pm_getf hG dX11_pay_4 (flX11_128 _ rfl) rfl rfl ?_
  refine pm_iloadn hG dX11_pay_7 rfl ?_
  refine pm_callV (As := [.int za]) (rest := []) hG hR dX11_pay_8 (lkX11_101 _ rfl) okV_X9_has rfl rfl (thas_6 (d := 2)) rfl rfl hdd (Nat.le_refl _) (Nat.le_refl _) (by decide) (fx_ki ?_)
  refine pm_if_eq (tgt := 25) hG dX11_pay_11 rfl (fun c1 => ?_) (fun c1 => ?_)
  · replace hE := fx_t c1 hE
    refine pm_aloadn hG dX11_pay_25 rfl ?_
    refine pm_ldc hG dX11_pay_26 (ctX11_109 _ rfl) ?_
    obtain ⟨r3, h2, hE⟩ := fb_some hE
    refine pm_callV (As := [.int (-1000001)]) (rest := []) hG hR dX11_pay_28 (lkX11_97 _ rfl) okV_X11_told rfl rfl (c_X11_told (d := 2) (by decide) h2) rfl rfl hdd (Nat.le_refl _) (Nat.le_refl _) (by decide) (fx_ki ?_)
    exact pm_iret hG hF dX11_pay_31 rfl (Nat.le_refl _) (Nat.le_refl _) (fx_ric hE)
  · replace hE := fx_f c1 hE
    refine pm_iloadn hG dX11_pay_14 rfl ?_
    refine pm_iconst (v := 1) hG dX11_pay_15 (by decide) ?_
    refine pm_sipush (v := 9999) hG dX11_pay_16 (by decide) ?_
    refine pm_callS (As := [.int zb, .int 1, .int 9999]) (rest := []) hG hR dX11_pay_19 (lkX11_105 _ rfl) okS_X11_isOutside (tOut (d := 2)) rfl rfl hdd (Nat.le_refl _) (Nat.le_refl _) (by decide) (fx_ki ?_)
    refine pm_if_eq (tgt := 32) hG dX11_pay_22 rfl (fun c4 => ?_) (fun c4 => ?_)
    · replace hE := fx_t c4 hE
      refine pm_aloadn hG dX11_pay_32 rfl ?_
      refine pm_aloadn hG dX11_pay_33 rfl ?_
      refine pm_getf hG dX11_pay_34 (flX11_12 _ rfl) rfl rfl ?_
      refine pm_iloadn hG dX11_pay_37 rfl ?_
      refine pm_callV (As := [.int za]) (rest := [.ref (B + 0)]) hG hR dX11_pay_38 (lkX11_135 _ rfl) okV_X7_isLiving rfl rfl (c_X7_isLiving (d := 2) (by decide) rfl) rfl rfl hdd (Nat.le_refl _) (Nat.le_refl _) (by first | decide | exact Nat.le_of_ble_eq_true rfl) (fx_ki ?_)
      refine pm_if_eq (tgt := 56) hG dX11_pay_41 rfl (fun c5 => ?_) (fun c5 => ?_)
      · replace hE := fx_t c5 hE
        refine pm_ldc hG dX11_pay_56 (ctX11_138 _ rfl) ?_
        obtain ⟨r7, h6, hE⟩ := fb_some hE
        refine pm_callV (As := [.int (-1000003)]) (rest := []) hG hR dX11_pay_58 (lkX11_97 _ rfl) okV_X11_told rfl rfl (c_X11_told (d := 2) (by decide) h6) rfl rfl hdd (Nat.le_refl _) (Nat.le_refl _) (by decide) (fx_ki ?_)
        exact pm_iret hG hF dX11_pay_61 rfl (Nat.le_refl _) (Nat.le_refl _) (fx_ric hE)
      · replace hE := fx_f c5 hE
        refine pm_aloadn hG dX11_pay_44 rfl ?_
        refine pm_getf hG dX11_pay_45 (flX11_12 _ rfl) rfl rfl ?_
        refine pm_iloadn hG dX11_pay_48 rfl ?_
        refine pm_iloadn hG dX11_pay_49 rfl ?_
        obtain ⟨r9, h8, hE⟩ := fb_some hE
        refine pm_callV (As := [.int za, .int zb]) (rest := [.ref (B + 0)]) hG hR dX11_pay_50 (lkX11_167 _ rfl) okV_X7_payFromChest rfl rfl (c_X7_payFromChest (d := 2) (by decide) h8) rfl rfl hdd (Nat.le_refl _) (Nat.le_refl _) (by first | decide | exact Nat.le_of_ble_eq_true rfl) (fx_ki ?_)
        refine pm_goto (tgt := 58) hG dX11_pay_53 rfl ?_
        obtain ⟨r11, h10, hE⟩ := fb_some hE
        refine pm_callV (As := [.int r9.1]) (rest := []) hG hR dX11_pay_58 (lkX11_97 _ rfl) okV_X11_told rfl rfl (c_X11_told (d := 2) (by decide) h10) rfl rfl hdd (Nat.le_refl _) (Nat.le_refl _) (by decide) (fx_ki ?_)
        exact pm_iret hG hF dX11_pay_61 rfl (Nat.le_refl _) (Nat.le_refl _) (fx_ric hE)
    · replace hE := fx_f c4 hE
      refine pm_aloadn hG dX11_pay_25 rfl ?_
      refine pm_ldc hG dX11_pay_26 (ctX11_109 _ rfl) ?_
      obtain ⟨r13, h12, hE⟩ := fb_some hE
      refine pm_callV (As := [.int (-1000001)]) (rest := []) hG hR dX11_pay_28 (lkX11_97 _ rfl) okV_X11_told rfl rfl (c_X11_told (d := 2) (by decide) h12) rfl rfl hdd (Nat.le_refl _) (Nat.le_refl _) (by decide) (fx_ki ?_)
      exact pm_iret hG hF dX11_pay_31 rfl (Nat.le_refl _) (Nat.le_refl _) (fx_ric hE)

set_option maxRecDepth 100000 in
set_option maxHeartbeats 4000000 in
theorem c_X7_mayBeParent {d : Nat} {B cnt : Nat} {kp : Value} {ρ : pm_S} {S : FS} {za : Int32} {zb : Int32} {zc : Int32} {R : Int32} (hdd : 1 ≤ d) (hE : p_X7_mayBeParent S za zb zc = R) : pm_met mX7_mayBeParent d 0 0 B [.ref (B + 1), .int za, .int zb, .int zc] cnt (cst B kp S ρ) (pm_Qi (fun v σ' cnt' => v = R ∧ σ' = (cst B kp S ρ) ∧ cnt' = cnt)) := by
  refine pm_enter 0 (by decide) (Nat.le_of_ble_eq_true rfl) rfl (fun G hG hR hF => ?_)
  unfold p_X7_mayBeParent at hE
  refine pm_iloadn hG dX7_mayBeParent_0 rfl ?_
  refine pm_iconst (v := (-1)) hG dX7_mayBeParent_1 (by decide) ?_
  refine pm_icmp_eq (tgt := 42) hG dX7_mayBeParent_2 rfl (fun c1 => ?_) (fun c1 => ?_)
  · replace hE := fx_t c1 hE
    refine pm_iconst (v := 1) hG dX7_mayBeParent_42 (by decide) ?_
    refine pm_goto (tgt := 47) hG dX7_mayBeParent_43 rfl ?_
    exact pm_zret hG hF dX7_mayBeParent_47 rfl (by rfl) (Nat.le_refl _) (Nat.le_refl _) (fx_pi hE)
  · replace hE := fx_f c1 hE
    refine pm_aloadn hG dX7_mayBeParent_5 rfl ?_
    refine pm_getf hG dX7_mayBeParent_6 (flX7_23 _ rfl) rfl rfl ?_
    refine pm_iloadn hG dX7_mayBeParent_9 rfl ?_
    refine pm_callV (As := [.int za]) (rest := []) hG hR dX7_mayBeParent_10 (lkX7_93 _ rfl) okV_X9_has rfl rfl (thas_6 (d := 0)) rfl rfl hdd (Nat.le_refl _) (Nat.le_refl _) (by decide) (fx_ki ?_)
    refine pm_if_eq (tgt := 46) hG dX7_mayBeParent_13 rfl (fun c2 => ?_) (fun c2 => ?_)
    · replace hE := fx_t c2 hE
      refine pm_iconst (v := 0) hG dX7_mayBeParent_46 (by decide) ?_
      exact pm_zret hG hF dX7_mayBeParent_47 rfl (by rfl) (Nat.le_refl _) (Nat.le_refl _) (fx_pi hE)
    · replace hE := fx_f c2 hE
      refine pm_aloadn hG dX7_mayBeParent_16 rfl ?_
      refine pm_getf hG dX7_mayBeParent_17 (flX7_23 _ rfl) rfl rfl ?_
      refine pm_iloadn hG dX7_mayBeParent_20 rfl ?_
      refine pm_iconst (v := 0) hG dX7_mayBeParent_21 (by decide) ?_
      refine pm_callV (As := [.int za, .int 0]) (rest := []) hG hR dX7_mayBeParent_22 (lkX7_83 _ rfl) okV_X9_get rfl rfl (tget_6 (d := 0)) rfl rfl hdd (Nat.le_refl _) (Nat.le_refl _) (by decide) (fx_ki ?_)
      refine pm_iloadn hG dX7_mayBeParent_25 rfl ?_
      refine pm_icmp_ne (tgt := 46) hG dX7_mayBeParent_26 rfl (fun c3 => ?_) (fun c3 => ?_)
      · replace hE := fx_f c3 hE
        refine pm_iconst (v := 0) hG dX7_mayBeParent_46 (by decide) ?_
        exact pm_zret hG hF dX7_mayBeParent_47 rfl (by rfl) (Nat.le_refl _) (Nat.le_refl _) (fx_pi hE)
      · replace hE := fx_t c3 hE
        refine pm_aloadn hG dX7_mayBeParent_29 rfl ?_
        refine pm_getf hG dX7_mayBeParent_30 (flX7_23 _ rfl) rfl rfl ?_
        refine pm_iloadn hG dX7_mayBeParent_33 rfl ?_
        refine pm_iconst (v := 1) hG dX7_mayBeParent_34 (by decide) ?_
        refine pm_callV (As := [.int za, .int 1]) (rest := []) hG hR dX7_mayBeParent_35 (lkX7_83 _ rfl) okV_X9_get rfl rfl (tget_6 (d := 0)) rfl rfl hdd (Nat.le_refl _) (Nat.le_refl _) (by decide) (fx_ki ?_)
        refine pm_iloadn hG dX7_mayBeParent_38 rfl ?_
        refine pm_icmp_ge (tgt := 46) hG dX7_mayBeParent_39 rfl (fun c4 => ?_) (fun c4 => ?_)
        · replace c4 := Int32.not_lt.mpr c4
          replace hE := fx_f c4 hE
          refine pm_iconst (v := 0) hG dX7_mayBeParent_46 (by decide) ?_
          exact pm_zret hG hF dX7_mayBeParent_47 rfl (by rfl) (Nat.le_refl _) (Nat.le_refl _) (fx_pi hE)
        · replace c4 := Int32.not_le.mp c4
          replace hE := fx_t c4 hE
          refine pm_iconst (v := 1) hG dX7_mayBeParent_42 (by decide) ?_
          refine pm_goto (tgt := 47) hG dX7_mayBeParent_43 rfl ?_
          exact pm_zret hG hF dX7_mayBeParent_47 rfl (by rfl) (Nat.le_refl _) (Nat.le_refl _) (fx_pi hE)

set_option maxRecDepth 100000 in
set_option maxHeartbeats 4000000 in
theorem c_X7_bringNearer {d : Nat} {B cnt : Nat} {kp : Value} {ρ : pm_S} {S : FS} {za : Int32} {zb : Int32} {R : Int32 × FS} (hdd : 1 ≤ d) (hE : f_X7_bringNearer S za zb = some R) : pm_met mX7_bringNearer d 0 0 B [.ref (B + 1), .int za, .int zb] cnt (cst B kp S ρ) (pm_Qv (fun σ' cnt' => σ' = (cst B kp R.2 ρ) ∧ cnt' = cnt)) := by
  refine pm_enter 2 (by decide) (Nat.le_of_ble_eq_true rfl) rfl (fun G hG hR hF => ?_)
  unfold f_X7_bringNearer at hE
  refine pm_iloadn hG dX7_bringNearer_0 rfl ?_
  refine pm_iconst (v := (-1)) hG dX7_bringNearer_1 (by decide) ?_
  refine pm_icmp_eq (tgt := 64) hG dX7_bringNearer_2 rfl (fun c1 => ?_) (fun c1 => ?_)
  · replace hE := fx_t c1 hE
    exact pm_vret hG hF dX7_bringNearer_64 rfl (Nat.le_refl _) (Nat.le_refl _) (fx_rvc hE)
  · replace hE := fx_f c1 hE
    refine pm_aloadn hG dX7_bringNearer_5 rfl ?_
    refine pm_getf hG dX7_bringNearer_6 (flX7_23 _ rfl) rfl rfl ?_
    refine pm_iloadn hG dX7_bringNearer_9 rfl ?_
    refine pm_bipush (v := 11) hG dX7_bringNearer_10 (by decide) ?_
    refine pm_callV (As := [.int za, .int 11]) (rest := []) hG hR dX7_bringNearer_12 (lkX7_83 _ rfl) okV_X9_get rfl rfl (tget_6 (d := 0)) rfl rfl hdd (Nat.le_refl _) (Nat.le_refl _) (by decide) (fx_ki ?_)
    refine fx_letv hE (fun x2 hE => ?_)
    refine pm_istoreXn (loc' := [some (.ref (B + 1)), some (.int za), some (.int zb), some (.int x2), none]) hG dX7_bringNearer_15 (by decide) (pm_c1b rfl) rfl ?_
    refine pm_aloadn hG dX7_bringNearer_16 rfl ?_
    refine pm_getf hG dX7_bringNearer_17 (flX7_23 _ rfl) rfl rfl ?_
    refine pm_iloadn hG dX7_bringNearer_20 rfl ?_
    refine pm_bipush (v := 11) hG dX7_bringNearer_21 (by decide) ?_
    refine pm_callV (As := [.int zb, .int 11]) (rest := []) hG hR dX7_bringNearer_23 (lkX7_83 _ rfl) okV_X9_get rfl rfl (tget_6 (d := 0)) rfl rfl hdd (Nat.le_refl _) (Nat.le_refl _) (by decide) (fx_ki ?_)
    refine fx_letv hE (fun x3 hE => ?_)
    refine pm_istoreXi (loc' := [some (.ref (B + 1)), some (.int za), some (.int zb), some (.int x2), some (.int x3)]) hG dX7_bringNearer_26 (by decide) (pm_c1b rfl) rfl ?_
    refine pm_aloadn hG dX7_bringNearer_28 rfl ?_
    refine pm_getf hG dX7_bringNearer_29 (flX7_23 _ rfl) rfl rfl ?_
    refine pm_iloadn hG dX7_bringNearer_32 rfl ?_
    refine pm_bipush (v := 11) hG dX7_bringNearer_33 (by decide) ?_
    refine pm_iloadn hG dX7_bringNearer_35 rfl ?_
    refine pm_iloadi hG dX7_bringNearer_36 rfl ?_
    refine pm_iconst (v := 1) hG dX7_bringNearer_38 (by decide) ?_
    refine pm_iadd hG dX7_bringNearer_39 ?_
    refine pm_mmin hG hR dX7_bringNearer_40 (mmX7_87 _ rfl) pm_mwmin (by omega) (by first | decide | exact Nat.le_of_ble_eq_true rfl) (Nat.le_refl _) (Nat.le_refl _) ?_
    refine pm_top (v := imin x2 (x3 + 1)) rfl ?_
    refine pm_callV (As := [.int za, .int 11, .int (imin x2 (x3 + 1))]) (rest := []) hG hR dX7_bringNearer_43 (lkX7_61 _ rfl) okV_X9_set rfl rfl (tset_6 (d := 0)) rfl rfl hdd (Nat.le_refl _) (Nat.le_refl _) (by decide) (fx_kv ?_)
    refine fx_letc hE (fun S4 hE => ?_)
    refine pm_aloadn hG dX7_bringNearer_46 rfl ?_
    refine pm_getf hG dX7_bringNearer_47 (flX7_23 _ rfl) rfl rfl ?_
    refine pm_iloadn hG dX7_bringNearer_50 rfl ?_
    refine pm_bipush (v := 11) hG dX7_bringNearer_51 (by decide) ?_
    refine pm_iloadi hG dX7_bringNearer_53 rfl ?_
    refine pm_iloadn hG dX7_bringNearer_55 rfl ?_
    refine pm_iconst (v := 1) hG dX7_bringNearer_56 (by decide) ?_
    refine pm_iadd hG dX7_bringNearer_57 ?_
    refine pm_mmin hG hR dX7_bringNearer_58 (mmX7_87 _ rfl) pm_mwmin (by omega) (by first | decide | exact Nat.le_of_ble_eq_true rfl) (Nat.le_refl _) (Nat.le_refl _) ?_
    refine pm_top (v := imin x3 (x2 + 1)) rfl ?_
    refine pm_callV (As := [.int zb, .int 11, .int (imin x3 (x2 + 1))]) (rest := []) hG hR dX7_bringNearer_61 (lkX7_61 _ rfl) okV_X9_set rfl rfl (tset_6 (d := 0)) rfl rfl hdd (Nat.le_refl _) (Nat.le_refl _) (by decide) (fx_kv ?_)
    refine fx_letc hE (fun S5 hE => ?_)
    exact pm_vret hG hF dX7_bringNearer_64 rfl (Nat.le_refl _) (Nat.le_refl _) (fx_rvc hE)

set_option maxRecDepth 100000 in
set_option maxHeartbeats 4000000 in
theorem c_X7_findSteps {d : Nat} {B cnt : Nat} {kp : Value} {ρ : pm_S} {S : FS} {R : Int32 × FS} (hdd : 2 ≤ d) (hE : f_X7_findSteps S = some R) : pm_met mX7_findSteps d 0 0 B [.ref (B + 1)] cnt (cst B kp S ρ) (pm_Qv (fun σ' cnt' => σ' = (cst B kp R.2 ρ) ∧ cnt' = cnt)) := by
  refine pm_enter 3 (by decide) (Nat.le_of_ble_eq_true rfl) rfl (fun G hG hR hF => ?_)
  unfold f_X7_findSteps at hE
  refine pm_aloadn hG dX7_findSteps_0 rfl ?_
  refine pm_getf hG dX7_findSteps_1 (flX7_23 _ rfl) rfl rfl ?_
  refine pm_callV (As := []) (rest := []) hG hR dX7_findSteps_4 (lkX7_79 _ rfl) okV_X9_used rfl rfl (tused_6 (d := 1)) rfl rfl hdd (Nat.le_refl _) (Nat.le_refl _) (by decide) (fx_ki ?_)
  refine fx_letv hE (fun x1 hE => ?_)
  refine pm_istoreXn (loc' := [some (.ref (B + 1)), some (.int x1), none, none]) hG dX7_findSteps_7 (by decide) (pm_c1b rfl) rfl ?_
  refine pm_iconst (v := 0) hG dX7_findSteps_8 (by decide) ?_
  refine pm_istoreXn (loc' := [some (.ref (B + 1)), some (.int x1), some (.int 0), none]) hG dX7_findSteps_9 (by decide) (pm_c1b rfl) rfl ?_
  have loop10 : ∀ (k10 : FS → Int32 → Option (Int32 × FS)), (∀ (S2 : FS) (x2_2 : Int32), k10 S2  x2_2 = some R → pm_wp mX7_findSteps G B 62 [some (.ref (B + 1)), some (.int x1), some (.int x2_2), none] [] 0 0 cnt (cst B kp S2 ρ)) → ∀ (m10 : Nat) (S2 : FS) (x2_2 : Int32), l_X7_findSteps_10 x1 k10 m10 S2  x2_2 = some R → pm_wp mX7_findSteps G B 10 [some (.ref (B + 1)), some (.int x1), some (.int x2_2), none] [] 0 0 cnt (cst B kp S2 ρ) := by
    intro k10 hk10 m10
    induction m10 with
    | zero => intro S2  x2_2 hE; exact fx_no hE
    | succ m10 ih10 =>
      intro S2  x2_2 hE
      rw [l_X7_findSteps_10] at hE
      refine pm_iloadn hG dX7_findSteps_10 rfl ?_
      refine pm_iloadn hG dX7_findSteps_11 rfl ?_
      refine pm_icmp_ge (tgt := 62) hG dX7_findSteps_12 rfl (fun c3 => ?_) (fun c3 => ?_)
      · replace c3 := Int32.not_lt.mpr c3
        replace hE := fx_f c3 hE
        exact hk10 _ _ hE
      · replace c3 := Int32.not_le.mp c3
        replace hE := fx_t c3 hE
        refine pm_iconst (v := 0) hG dX7_findSteps_15 (by decide) ?_
        refine pm_istoreXn (loc' := [some (.ref (B + 1)), some (.int x1), some (.int x2_2), some (.int 0)]) hG dX7_findSteps_16 (by decide) (pm_c1b rfl) rfl ?_
        have loop17 : ∀ (k17 : FS → Int32 → Option (Int32 × FS)), (∀ (S4 : FS) (x4_3 : Int32), k17 S4  x4_3 = some R → pm_wp mX7_findSteps G B 56 [some (.ref (B + 1)), some (.int x1), some (.int x2_2), some (.int x4_3)] [] 0 0 cnt (cst B kp S4 ρ)) → ∀ (m17 : Nat) (S4 : FS) (x4_3 : Int32), l_X7_findSteps_17 x1 k17 m17 S4  x4_3 = some R → pm_wp mX7_findSteps G B 17 [some (.ref (B + 1)), some (.int x1), some (.int x2_2), some (.int x4_3)] [] 0 0 cnt (cst B kp S4 ρ) := by
          intro k17 hk17 m17
          induction m17 with
          | zero => intro S4  x4_3 hE; exact fx_no hE
          | succ m17 ih17 =>
            intro S4  x4_3 hE
            rw [l_X7_findSteps_17] at hE
            refine pm_iloadn hG dX7_findSteps_17 rfl ?_
            refine pm_iloadn hG dX7_findSteps_18 rfl ?_
            refine pm_icmp_ge (tgt := 56) hG dX7_findSteps_19 rfl (fun c5 => ?_) (fun c5 => ?_)
            · replace c5 := Int32.not_lt.mpr c5
              replace hE := fx_f c5 hE
              exact hk17 _ _ hE
            · replace c5 := Int32.not_le.mp c5
              replace hE := fx_t c5 hE
              refine pm_aloadn hG dX7_findSteps_22 rfl ?_
              refine pm_iloadn hG dX7_findSteps_23 rfl ?_
              refine pm_aloadn hG dX7_findSteps_24 rfl ?_
              refine pm_getf hG dX7_findSteps_25 (flX7_23 _ rfl) rfl rfl ?_
              refine pm_iloadn hG dX7_findSteps_28 rfl ?_
              refine pm_iconst (v := 2) hG dX7_findSteps_29 (by decide) ?_
              refine pm_callV (As := [.int x4_3, .int 2]) (rest := [.int x4_3, .ref (B + 1)]) hG hR dX7_findSteps_30 (lkX7_83 _ rfl) okV_X9_get rfl rfl (tget_6 (d := 1)) rfl rfl hdd (Nat.le_refl _) (Nat.le_refl _) (by first | decide | exact Nat.le_of_ble_eq_true rfl) (fx_ki ?_)
              obtain ⟨r7, h6, hE⟩ := fb_some hE
              refine pm_callV (As := [.int x4_3, .int (fG 6 20 14 S4 x4_3 2)]) (rest := []) hG hR dX7_findSteps_33 (lkX7_100 _ rfl) okV_X7_bringNearer rfl rfl (c_X7_bringNearer (d := 1) (by decide) h6) rfl rfl hdd (Nat.le_refl _) (Nat.le_refl _) (by decide) (fx_kv ?_)
              refine pm_aloadn hG dX7_findSteps_36 rfl ?_
              refine pm_iloadn hG dX7_findSteps_37 rfl ?_
              refine pm_aloadn hG dX7_findSteps_38 rfl ?_
              refine pm_getf hG dX7_findSteps_39 (flX7_23 _ rfl) rfl rfl ?_
              refine pm_iloadn hG dX7_findSteps_42 rfl ?_
              refine pm_iconst (v := 3) hG dX7_findSteps_43 (by decide) ?_
              refine pm_callV (As := [.int x4_3, .int 3]) (rest := [.int x4_3, .ref (B + 1)]) hG hR dX7_findSteps_44 (lkX7_83 _ rfl) okV_X9_get rfl rfl (tget_6 (d := 1)) rfl rfl hdd (Nat.le_refl _) (Nat.le_refl _) (by first | decide | exact Nat.le_of_ble_eq_true rfl) (fx_ki ?_)
              obtain ⟨r9, h8, hE⟩ := fb_some hE
              refine pm_callV (As := [.int x4_3, .int (fG 6 20 14 r7.2 x4_3 3)]) (rest := []) hG hR dX7_findSteps_47 (lkX7_100 _ rfl) okV_X7_bringNearer rfl rfl (c_X7_bringNearer (d := 1) (by decide) h8) rfl rfl hdd (Nat.le_refl _) (Nat.le_refl _) (by decide) (fx_kv ?_)
              refine pm_iincX (v := x4_3 + 1) (loc' := [some (.ref (B + 1)), some (.int x1), some (.int x2_2), some (.int (x4_3 + 1))]) hG dX7_findSteps_50 rfl (by rfl) (by decide) (pm_c1b rfl) rfl ?_
              refine pm_goto (tgt := 17) hG dX7_findSteps_53 rfl ?_
              exact ih17 _ _ hE
        refine loop17 _ (fun S10 x10_3 hE => ?_) _ _ _ hE
        refine pm_iincX (v := x2_2 + 1) (loc' := [some (.ref (B + 1)), some (.int x1), some (.int (x2_2 + 1)), some (.int x10_3)]) hG dX7_findSteps_56 rfl (by rfl) (by decide) (pm_c1b rfl) rfl ?_
        refine pm_goto (tgt := 10) hG dX7_findSteps_59 rfl ?_
        refine pm_fg 3 (loc' := [some (.ref (B + 1)), some (.int x1), some (.int (x2_2 + 1)), none]) rfl ?_
        exact ih10 _ _ hE
  refine loop10 _ (fun S11 x11_2 hE => ?_) _ _ _ hE
  exact pm_vret hG hF dX7_findSteps_62 rfl (Nat.le_refl _) (Nat.le_refl _) (fx_rvc hE)

set_option maxRecDepth 100000 in
set_option maxHeartbeats 4000000 in
theorem c_X7_addPerson {d : Nat} {B cnt : Nat} {kp : Value} {ρ : pm_S} {S : FS} {za : Int32} {zb : Int32} {zc : Int32} {zd : Int32} {ze : Int32} {R : Int32 × FS} (hdd : 3 ≤ d) (hE : f_X7_addPerson S za zb zc zd ze = some R) : pm_met mX7_addPerson d 0 0 B [.ref (B + 1), .int za, .int zb, .int zc, .int zd, .int ze] cnt (cst B kp S ρ) (pm_Qi (fun v σ' cnt' => v = R.1 ∧ σ' = (cst B kp R.2 ρ) ∧ cnt' = cnt)) := by
  refine pm_enter 1 (by decide) (Nat.le_of_ble_eq_true rfl) rfl (fun G hG hR hF => ?_)
  unfold f_X7_addPerson at hE
  refine pm_aloadn hG dX7_addPerson_0 rfl ?_
  refine pm_getf hG dX7_addPerson_1 (flX7_23 _ rfl) rfl rfl ?_
  refine pm_iloadn hG dX7_addPerson_4 rfl ?_
  obtain ⟨r2, h1, hE⟩ := fb_some hE
  refine pm_callV (As := [.int za]) (rest := []) hG hR dX7_addPerson_5 (lkX7_75 _ rfl) okV_X9_append rfl rfl (tappend_6 (d := 2) (by decide) h1) rfl rfl hdd (Nat.le_refl _) (Nat.le_refl _) (by decide) (fx_ki ?_)
  refine pm_istoreXi (loc' := [some (.ref (B + 1)), some (.int za), some (.int zb), some (.int zc), some (.int zd), some (.int ze), some (.int r2.1)]) hG dX7_addPerson_8 (by decide) (pm_c1b rfl) rfl ?_
  refine pm_aloadn hG dX7_addPerson_10 rfl ?_
  refine pm_getf hG dX7_addPerson_11 (flX7_23 _ rfl) rfl rfl ?_
  refine pm_iloadi hG dX7_addPerson_14 rfl ?_
  refine pm_iconst (v := 1) hG dX7_addPerson_16 (by decide) ?_
  refine pm_iloadn hG dX7_addPerson_17 rfl ?_
  refine pm_callV (As := [.int r2.1, .int 1, .int zb]) (rest := []) hG hR dX7_addPerson_18 (lkX7_61 _ rfl) okV_X9_set rfl rfl (tset_6 (d := 2)) rfl rfl hdd (Nat.le_refl _) (Nat.le_refl _) (by decide) (fx_kv ?_)
  refine fx_letc hE (fun S3 hE => ?_)
  refine pm_aloadn hG dX7_addPerson_21 rfl ?_
  refine pm_getf hG dX7_addPerson_22 (flX7_23 _ rfl) rfl rfl ?_
  refine pm_iloadi hG dX7_addPerson_25 rfl ?_
  refine pm_iconst (v := 2) hG dX7_addPerson_27 (by decide) ?_
  refine pm_iloadn hG dX7_addPerson_28 rfl ?_
  refine pm_callV (As := [.int r2.1, .int 2, .int zc]) (rest := []) hG hR dX7_addPerson_29 (lkX7_61 _ rfl) okV_X9_set rfl rfl (tset_6 (d := 2)) rfl rfl hdd (Nat.le_refl _) (Nat.le_refl _) (by decide) (fx_kv ?_)
  refine fx_letc hE (fun S4 hE => ?_)
  refine pm_aloadn hG dX7_addPerson_32 rfl ?_
  refine pm_getf hG dX7_addPerson_33 (flX7_23 _ rfl) rfl rfl ?_
  refine pm_iloadi hG dX7_addPerson_36 rfl ?_
  refine pm_iconst (v := 3) hG dX7_addPerson_38 (by decide) ?_
  refine pm_iloadi hG dX7_addPerson_39 rfl ?_
  refine pm_callV (As := [.int r2.1, .int 3, .int zd]) (rest := []) hG hR dX7_addPerson_41 (lkX7_61 _ rfl) okV_X9_set rfl rfl (tset_6 (d := 2)) rfl rfl hdd (Nat.le_refl _) (Nat.le_refl _) (by decide) (fx_kv ?_)
  refine fx_letc hE (fun S5 hE => ?_)
  refine pm_aloadn hG dX7_addPerson_44 rfl ?_
  refine pm_getf hG dX7_addPerson_45 (flX7_23 _ rfl) rfl rfl ?_
  refine pm_iloadi hG dX7_addPerson_48 rfl ?_
  refine pm_iconst (v := 4) hG dX7_addPerson_50 (by decide) ?_
  refine pm_iloadi hG dX7_addPerson_51 rfl ?_
  refine pm_callV (As := [.int r2.1, .int 4, .int ze]) (rest := []) hG hR dX7_addPerson_53 (lkX7_61 _ rfl) okV_X9_set rfl rfl (tset_6 (d := 2)) rfl rfl hdd (Nat.le_refl _) (Nat.le_refl _) (by decide) (fx_kv ?_)
  refine fx_letc hE (fun S6 hE => ?_)
  refine pm_aloadn hG dX7_addPerson_56 rfl ?_
  refine pm_getf hG dX7_addPerson_57 (flX7_23 _ rfl) rfl rfl ?_
  refine pm_iloadi hG dX7_addPerson_60 rfl ?_
  refine pm_bipush (v := 10) hG dX7_addPerson_62 (by decide) ?_
  refine pm_iconst (v := (-1)) hG dX7_addPerson_64 (by decide) ?_
  refine pm_callV (As := [.int r2.1, .int 10, .int (-1)]) (rest := []) hG hR dX7_addPerson_65 (lkX7_61 _ rfl) okV_X9_set rfl rfl (tset_6 (d := 2)) rfl rfl hdd (Nat.le_refl _) (Nat.le_refl _) (by decide) (fx_kv ?_)
  refine fx_letc hE (fun S7 hE => ?_)
  refine pm_aloadn hG dX7_addPerson_68 rfl ?_
  refine pm_getf hG dX7_addPerson_69 (flX7_23 _ rfl) rfl rfl ?_
  refine pm_iloadi hG dX7_addPerson_72 rfl ?_
  refine pm_bipush (v := 11) hG dX7_addPerson_74 (by decide) ?_
  refine pm_iloadi hG dX7_addPerson_76 rfl ?_
  refine pm_if_ne (tgt := 85) hG dX7_addPerson_78 rfl (fun c8 => ?_) (fun c8 => ?_)
  · replace hE := fx_f c8 hE
    refine pm_bipush (v := 99) hG dX7_addPerson_85 (by decide) ?_
    refine pm_callV (As := [.int r2.1, .int 11, .int 99]) (rest := []) hG hR dX7_addPerson_87 (lkX7_61 _ rfl) okV_X9_set rfl rfl (tset_6 (d := 2)) rfl rfl hdd (Nat.le_refl _) (Nat.le_refl _) (by decide) (fx_kv ?_)
    refine fx_letc hE (fun S9 hE => ?_)
    refine pm_aloadn hG dX7_addPerson_90 rfl ?_
    refine pm_getf hG dX7_addPerson_91 (flX7_23 _ rfl) rfl rfl ?_
    refine pm_iloadi hG dX7_addPerson_94 rfl ?_
    refine pm_bipush (v := 12) hG dX7_addPerson_96 (by decide) ?_
    refine pm_iconst (v := 1) hG dX7_addPerson_98 (by decide) ?_
    refine pm_callV (As := [.int r2.1, .int 12, .int 1]) (rest := []) hG hR dX7_addPerson_99 (lkX7_61 _ rfl) okV_X9_set rfl rfl (tset_6 (d := 2)) rfl rfl hdd (Nat.le_refl _) (Nat.le_refl _) (by decide) (fx_kv ?_)
    refine fx_letc hE (fun S10 hE => ?_)
    refine pm_aloadn hG dX7_addPerson_102 rfl ?_
    obtain ⟨r12, h11, hE⟩ := fb_some hE
    refine pm_callV (As := []) (rest := []) hG hR dX7_addPerson_103 (lkX7_97 _ rfl) okV_X7_findSteps rfl rfl (c_X7_findSteps (d := 2) (by decide) h11) rfl rfl hdd (Nat.le_refl _) (Nat.le_refl _) (by decide) (fx_kv ?_)
    refine pm_iloadi hG dX7_addPerson_106 rfl ?_
    exact pm_iret hG hF dX7_addPerson_108 rfl (Nat.le_refl _) (Nat.le_refl _) (fx_ric hE)
  · replace hE := fx_t c8 hE
    refine pm_iconst (v := 0) hG dX7_addPerson_81 (by decide) ?_
    refine pm_goto (tgt := 87) hG dX7_addPerson_82 rfl ?_
    refine pm_callV (As := [.int r2.1, .int 11, .int 0]) (rest := []) hG hR dX7_addPerson_87 (lkX7_61 _ rfl) okV_X9_set rfl rfl (tset_6 (d := 2)) rfl rfl hdd (Nat.le_refl _) (Nat.le_refl _) (by decide) (fx_kv ?_)
    refine fx_letc hE (fun S13 hE => ?_)
    refine pm_aloadn hG dX7_addPerson_90 rfl ?_
    refine pm_getf hG dX7_addPerson_91 (flX7_23 _ rfl) rfl rfl ?_
    refine pm_iloadi hG dX7_addPerson_94 rfl ?_
    refine pm_bipush (v := 12) hG dX7_addPerson_96 (by decide) ?_
    refine pm_iconst (v := 1) hG dX7_addPerson_98 (by decide) ?_
    refine pm_callV (As := [.int r2.1, .int 12, .int 1]) (rest := []) hG hR dX7_addPerson_99 (lkX7_61 _ rfl) okV_X9_set rfl rfl (tset_6 (d := 2)) rfl rfl hdd (Nat.le_refl _) (Nat.le_refl _) (by decide) (fx_kv ?_)
    refine fx_letc hE (fun S14 hE => ?_)
    refine pm_aloadn hG dX7_addPerson_102 rfl ?_
    obtain ⟨r16, h15, hE⟩ := fb_some hE
    refine pm_callV (As := []) (rest := []) hG hR dX7_addPerson_103 (lkX7_97 _ rfl) okV_X7_findSteps rfl rfl (c_X7_findSteps (d := 2) (by decide) h15) rfl rfl hdd (Nat.le_refl _) (Nat.le_refl _) (by decide) (fx_kv ?_)
    refine pm_iloadi hG dX7_addPerson_106 rfl ?_
    exact pm_iret hG hF dX7_addPerson_108 rfl (Nat.le_refl _) (Nat.le_refl _) (fx_ric hE)

set_option maxRecDepth 100000 in
set_option maxHeartbeats 4000000 in
theorem c_X11_person {d : Nat} {B cnt : Nat} {kp : Value} {ρ : pm_S} {S : FS} {za : Int32} {zb : Int32} {zc : Int32} {zd : Int32} {R : Int32 × FS} (hdd : 4 ≤ d) (hE : f_X11_person S za zb zc zd = some R) : pm_met mX11_person d 0 0 B [.ref (B + 0), .int za, .int zb, .int zc, .int zd] cnt (cst B kp S ρ) (pm_Qi (fun v σ' cnt' => v = R.1 ∧ σ' = (cst B kp R.2 ρ) ∧ cnt' = cnt)) := by
  refine pm_enter 2 (by decide) (Nat.le_of_ble_eq_true rfl) rfl (fun G hG hR hF => ?_)
  unfold f_X11_person at hE
  refine pm_iloadn hG dX11_person_0 rfl ?_
  refine pm_bipush (v := 100) hG dX11_person_1 (by decide) ?_
  refine pm_idiv hG dX11_person_3 (by decide) ?_
  refine pm_iconst (v := 1) hG dX11_person_4 (by decide) ?_
  refine pm_isub hG dX11_person_5 ?_
  refine fx_letv hE (fun x1 hE => ?_)
  refine pm_istoreXi (loc' := [some (.ref (B + 0)), some (.int za), some (.int zb), some (.int zc), some (.int zd), some (.int x1), none]) hG dX11_person_6 (by decide) (pm_c1b rfl) rfl ?_
  refine pm_iloadn hG dX11_person_8 rfl ?_
  refine pm_bipush (v := 100) hG dX11_person_9 (by decide) ?_
  refine pm_irem hG dX11_person_11 (by decide) ?_
  refine pm_iconst (v := 1) hG dX11_person_12 (by decide) ?_
  refine pm_isub hG dX11_person_13 ?_
  refine fx_letv hE (fun x2 hE => ?_)
  refine pm_istoreXi (loc' := [some (.ref (B + 0)), some (.int za), some (.int zb), some (.int zc), some (.int zd), some (.int x1), some (.int x2)]) hG dX11_person_14 (by decide) (pm_c1b rfl) rfl ?_
  refine pm_iloadn hG dX11_person_16 rfl ?_
  refine pm_iconst (v := 0) hG dX11_person_17 (by decide) ?_
  refine pm_iconst (v := 1) hG dX11_person_18 (by decide) ?_
  refine pm_callS (As := [.int za, .int 0, .int 1]) (rest := []) hG hR dX11_person_19 (lkX11_105 _ rfl) okS_X11_isOutside (tOut (d := 3)) rfl rfl hdd (Nat.le_refl _) (Nat.le_refl _) (by decide) (fx_ki ?_)
  refine pm_if_ne (tgt := 89) hG dX11_person_22 rfl (fun c3 => ?_) (fun c3 => ?_)
  · replace hE := fx_f c3 hE
    refine pm_aloadn hG dX11_person_89 rfl ?_
    refine pm_ldc hG dX11_person_90 (ctX11_109 _ rfl) ?_
    obtain ⟨r5, h4, hE⟩ := fb_some hE
    refine pm_callV (As := [.int (-1000001)]) (rest := []) hG hR dX11_person_92 (lkX11_97 _ rfl) okV_X11_told rfl rfl (c_X11_told (d := 3) (by decide) h4) rfl rfl hdd (Nat.le_refl _) (Nat.le_refl _) (by decide) (fx_ki ?_)
    exact pm_iret hG hF dX11_person_95 rfl (Nat.le_refl _) (Nat.le_refl _) (fx_ric hE)
  · replace hE := fx_t c3 hE
    refine pm_iloadn hG dX11_person_25 rfl ?_
    refine pm_sipush (v := (-20000)) hG dX11_person_26 (by decide) ?_
    refine pm_aloadn hG dX11_person_29 rfl ?_
    refine pm_getf hG dX11_person_30 (flX11_12 _ rfl) rfl rfl ?_
    refine pm_getf hG dX11_person_33 (flX11_122 _ rfl) rfl rfl ?_
    refine pm_callS (As := [.int zb, .int (-20000), .int (S.1 102)]) (rest := []) hG hR dX11_person_36 (lkX11_105 _ rfl) okS_X11_isOutside (tOut (d := 3)) rfl rfl hdd (Nat.le_refl _) (Nat.le_refl _) (by decide) (fx_ki ?_)
    refine pm_if_ne (tgt := 89) hG dX11_person_39 rfl (fun c6 => ?_) (fun c6 => ?_)
    · replace hE := fx_f c6 hE
      refine pm_aloadn hG dX11_person_89 rfl ?_
      refine pm_ldc hG dX11_person_90 (ctX11_109 _ rfl) ?_
      obtain ⟨r8, h7, hE⟩ := fb_some hE
      refine pm_callV (As := [.int (-1000001)]) (rest := []) hG hR dX11_person_92 (lkX11_97 _ rfl) okV_X11_told rfl rfl (c_X11_told (d := 3) (by decide) h7) rfl rfl hdd (Nat.le_refl _) (Nat.le_refl _) (by decide) (fx_ki ?_)
      exact pm_iret hG hF dX11_person_95 rfl (Nat.le_refl _) (Nat.le_refl _) (fx_ric hE)
    · replace hE := fx_t c6 hE
      refine pm_iloadn hG dX11_person_42 rfl ?_
      refine pm_if_lt (tgt := 89) hG dX11_person_43 rfl (fun c9 => ?_) (fun c9 => ?_)
      · replace hE := fx_t c9 hE
        refine pm_aloadn hG dX11_person_89 rfl ?_
        refine pm_ldc hG dX11_person_90 (ctX11_109 _ rfl) ?_
        obtain ⟨r11, h10, hE⟩ := fb_some hE
        refine pm_callV (As := [.int (-1000001)]) (rest := []) hG hR dX11_person_92 (lkX11_97 _ rfl) okV_X11_told rfl rfl (c_X11_told (d := 3) (by decide) h10) rfl rfl hdd (Nat.le_refl _) (Nat.le_refl _) (by decide) (fx_ki ?_)
        exact pm_iret hG hF dX11_person_95 rfl (Nat.le_refl _) (Nat.le_refl _) (fx_ric hE)
      · replace hE := fx_f c9 hE
        refine pm_aloadn hG dX11_person_46 rfl ?_
        refine pm_getf hG dX11_person_47 (flX11_12 _ rfl) rfl rfl ?_
        refine pm_getf hG dX11_person_50 (flX11_82 _ rfl) rfl rfl ?_
        refine pm_iloadi hG dX11_person_53 rfl ?_
        refine pm_callV (As := [.int zd]) (rest := []) hG hR dX11_person_55 (lkX11_101 _ rfl) okV_X9_has rfl rfl (thas_2 (d := 3)) rfl rfl hdd (Nat.le_refl _) (Nat.le_refl _) (by decide) (fx_ki ?_)
        refine pm_if_eq (tgt := 89) hG dX11_person_58 rfl (fun c12 => ?_) (fun c12 => ?_)
        · replace hE := fx_t c12 hE
          refine pm_aloadn hG dX11_person_89 rfl ?_
          refine pm_ldc hG dX11_person_90 (ctX11_109 _ rfl) ?_
          obtain ⟨r14, h13, hE⟩ := fb_some hE
          refine pm_callV (As := [.int (-1000001)]) (rest := []) hG hR dX11_person_92 (lkX11_97 _ rfl) okV_X11_told rfl rfl (c_X11_told (d := 3) (by decide) h13) rfl rfl hdd (Nat.le_refl _) (Nat.le_refl _) (by decide) (fx_ki ?_)
          exact pm_iret hG hF dX11_person_95 rfl (Nat.le_refl _) (Nat.le_refl _) (fx_ric hE)
        · replace hE := fx_f c12 hE
          refine pm_aloadn hG dX11_person_61 rfl ?_
          refine pm_getf hG dX11_person_62 (flX11_12 _ rfl) rfl rfl ?_
          refine pm_iloadi hG dX11_person_65 rfl ?_
          refine pm_iconst (v := 1) hG dX11_person_67 (by decide) ?_
          refine pm_iloadn hG dX11_person_68 rfl ?_
          refine pm_callV (As := [.int x1, .int 1, .int zb]) (rest := []) hG hR dX11_person_69 (lkX11_125 _ rfl) okV_X7_mayBeParent rfl rfl (c_X7_mayBeParent (d := 3) (by decide) rfl) rfl rfl hdd (Nat.le_refl _) (Nat.le_refl _) (by decide) (fx_ki ?_)
          refine pm_if_eq (tgt := 89) hG dX11_person_72 rfl (fun c15 => ?_) (fun c15 => ?_)
          · replace hE := fx_t c15 hE
            refine pm_aloadn hG dX11_person_89 rfl ?_
            refine pm_ldc hG dX11_person_90 (ctX11_109 _ rfl) ?_
            obtain ⟨r17, h16, hE⟩ := fb_some hE
            refine pm_callV (As := [.int (-1000001)]) (rest := []) hG hR dX11_person_92 (lkX11_97 _ rfl) okV_X11_told rfl rfl (c_X11_told (d := 3) (by decide) h16) rfl rfl hdd (Nat.le_refl _) (Nat.le_refl _) (by decide) (fx_ki ?_)
            exact pm_iret hG hF dX11_person_95 rfl (Nat.le_refl _) (Nat.le_refl _) (fx_ric hE)
          · replace hE := fx_f c15 hE
            refine pm_aloadn hG dX11_person_75 rfl ?_
            refine pm_getf hG dX11_person_76 (flX11_12 _ rfl) rfl rfl ?_
            refine pm_iloadi hG dX11_person_79 rfl ?_
            refine pm_iconst (v := 0) hG dX11_person_81 (by decide) ?_
            refine pm_iloadn hG dX11_person_82 rfl ?_
            refine pm_callV (As := [.int x2, .int 0, .int zb]) (rest := []) hG hR dX11_person_83 (lkX11_125 _ rfl) okV_X7_mayBeParent rfl rfl (c_X7_mayBeParent (d := 3) (by decide) rfl) rfl rfl hdd (Nat.le_refl _) (Nat.le_refl _) (by decide) (fx_ki ?_)
            refine pm_if_ne (tgt := 96) hG dX11_person_86 rfl (fun c18 => ?_) (fun c18 => ?_)
            · replace hE := fx_f c18 hE
              refine pm_aloadn hG dX11_person_96 rfl ?_
              refine pm_aloadn hG dX11_person_97 rfl ?_
              refine pm_getf hG dX11_person_98 (flX11_12 _ rfl) rfl rfl ?_
              refine pm_getf hG dX11_person_101 (flX11_128 _ rfl) rfl rfl ?_
              refine pm_callV (As := []) (rest := [.ref (B + 0)]) hG hR dX11_person_104 (lkX11_86 _ rfl) okV_X9_isFull rfl rfl (tisFull_6 (d := 3)) rfl rfl hdd (Nat.le_refl _) (Nat.le_refl _) (by first | decide | exact Nat.le_of_ble_eq_true rfl) (fx_ki ?_)
              refine pm_if_eq (tgt := 115) hG dX11_person_107 rfl (fun c19 => ?_) (fun c19 => ?_)
              · replace hE := fx_t c19 hE
                refine pm_aloadn hG dX11_person_115 rfl ?_
                refine pm_getf hG dX11_person_116 (flX11_12 _ rfl) rfl rfl ?_
                refine pm_iloadn hG dX11_person_119 rfl ?_
                refine pm_iloadn hG dX11_person_120 rfl ?_
                refine pm_iloadi hG dX11_person_121 rfl ?_
                refine pm_iloadi hG dX11_person_123 rfl ?_
                refine pm_iloadi hG dX11_person_125 rfl ?_
                obtain ⟨r21, h20, hE⟩ := fb_some hE
                refine pm_callV (As := [.int za, .int zb, .int x1, .int x2, .int zd]) (rest := [.ref (B + 0)]) hG hR dX11_person_127 (lkX11_131 _ rfl) okV_X7_addPerson rfl rfl (c_X7_addPerson (d := 3) (by decide) h20) rfl rfl hdd (Nat.le_refl _) (Nat.le_refl _) (by first | decide | exact Nat.le_of_ble_eq_true rfl) (fx_ki ?_)
                obtain ⟨r23, h22, hE⟩ := fb_some hE
                refine pm_callV (As := [.int r21.1]) (rest := []) hG hR dX11_person_130 (lkX11_97 _ rfl) okV_X11_told rfl rfl (c_X11_told (d := 3) (by decide) h22) rfl rfl hdd (Nat.le_refl _) (Nat.le_refl _) (by decide) (fx_ki ?_)
                exact pm_iret hG hF dX11_person_133 rfl (Nat.le_refl _) (Nat.le_refl _) (fx_ric hE)
              · replace hE := fx_f c19 hE
                refine pm_ldc hG dX11_person_110 (ctX11_92 _ rfl) ?_
                refine pm_goto (tgt := 130) hG dX11_person_112 rfl ?_
                obtain ⟨r25, h24, hE⟩ := fb_some hE
                refine pm_callV (As := [.int (-1000004)]) (rest := []) hG hR dX11_person_130 (lkX11_97 _ rfl) okV_X11_told rfl rfl (c_X11_told (d := 3) (by decide) h24) rfl rfl hdd (Nat.le_refl _) (Nat.le_refl _) (by decide) (fx_ki ?_)
                exact pm_iret hG hF dX11_person_133 rfl (Nat.le_refl _) (Nat.le_refl _) (fx_ric hE)
            · replace hE := fx_t c18 hE
              refine pm_aloadn hG dX11_person_89 rfl ?_
              refine pm_ldc hG dX11_person_90 (ctX11_109 _ rfl) ?_
              obtain ⟨r27, h26, hE⟩ := fb_some hE
              refine pm_callV (As := [.int (-1000001)]) (rest := []) hG hR dX11_person_92 (lkX11_97 _ rfl) okV_X11_told rfl rfl (c_X11_told (d := 3) (by decide) h26) rfl rfl hdd (Nat.le_refl _) (Nat.le_refl _) (by decide) (fx_ki ?_)
              exact pm_iret hG hF dX11_person_95 rfl (Nat.le_refl _) (Nat.le_refl _) (fx_ric hE)

set_option maxRecDepth 100000 in
set_option maxHeartbeats 4000000 in
theorem c_X8_numberAt {d : Nat} {B cnt : Nat} {kp : Value} {ρ : pm_S} {S : FS} {za : Int32} {zb : Int32} {R : Int32} (hdd : 1 ≤ d) (hE : p_X8_numberAt S za zb = R) : pm_met mX8_numberAt d 0 0 B [.ref (B + 48), .int za, .int zb] cnt (cst B kp S ρ) (pm_Qi (fun v σ' cnt' => v = R ∧ σ' = (cst B kp S ρ) ∧ cnt' = cnt)) := by
  refine pm_enter 0 (by decide) (Nat.le_of_ble_eq_true rfl) rfl (fun G hG hR hF => ?_)
  unfold p_X8_numberAt at hE
  refine pm_aloadn hG dX8_numberAt_0 rfl ?_
  refine pm_getf hG dX8_numberAt_1 (flX8_23 _ rfl) rfl rfl ?_
  refine pm_iloadn hG dX8_numberAt_4 rfl ?_
  refine pm_iloadn hG dX8_numberAt_5 rfl ?_
  refine pm_callV (As := [.int za, .int zb]) (rest := []) hG hR dX8_numberAt_6 (lkX8_35 _ rfl) okV_X9_get rfl rfl (tget_51 (d := 0)) rfl rfl hdd (Nat.le_refl _) (Nat.le_refl _) (by decide) (fx_ki ?_)
  exact pm_iret hG hF dX8_numberAt_9 rfl  (Nat.le_refl _) (Nat.le_refl _) (fx_pi hE)

set_option maxRecDepth 100000 in
set_option maxHeartbeats 4000000 in
theorem c_X8_areAllWithin {d : Nat} {B cnt : Nat} {kp : Value} {ρ : pm_S} {S : FS} {za : Int32} {zb : Int32} {zc : Int32} {R : Int32} (hdd : 2 ≤ d) (hE : q_X8_areAllWithin S za zb zc = some R) : pm_met mX8_areAllWithin d 0 0 B [.ref (B + 48), .int za, .int zb, .int zc] cnt (cst B kp S ρ) (pm_Qi (fun v σ' cnt' => v = R ∧ σ' = (cst B kp S ρ) ∧ cnt' = cnt)) := by
  refine pm_enter 2 (by decide) (Nat.le_of_ble_eq_true rfl) rfl (fun G hG hR hF => ?_)
  unfold q_X8_areAllWithin at hE
  refine pm_aloadn hG dX8_areAllWithin_0 rfl ?_
  refine pm_iloadn hG dX8_areAllWithin_1 rfl ?_
  obtain ⟨x2, h1, hE⟩ := fb_some hE
  refine pm_callV (As := [.int za]) (rest := []) hG hR dX8_areAllWithin_2 (lkX8_39 _ rfl) okV_X8_sizeOf rfl rfl (c_X8_sizeOf (d := 1) (by decide) h1) rfl rfl hdd (Nat.le_refl _) (Nat.le_refl _) (by decide) (fx_ki ?_)
  refine pm_istoreXi (loc' := [some (.ref (B + 48)), some (.int za), some (.int zb), some (.int zc), some (.int x2), none]) hG dX8_areAllWithin_5 (by decide) (pm_c1b rfl) rfl ?_
  refine pm_iconst (v := 0) hG dX8_areAllWithin_7 (by decide) ?_
  refine pm_istoreXi (loc' := [some (.ref (B + 48)), some (.int za), some (.int zb), some (.int zc), some (.int x2), some (.int 0)]) hG dX8_areAllWithin_8 (by decide) (pm_c1b rfl) rfl ?_
  have loop10 : ∀ (k10 : Int32 → Option Int32), (∀  (x3_5 : Int32), k10  x3_5 = some R → pm_wp mX8_areAllWithin G B 40 [some (.ref (B + 48)), some (.int za), some (.int zb), some (.int zc), some (.int x2), some (.int x3_5)] [] 0 0 cnt (cst B kp S ρ)) → ∀ (m10 : Nat)  (x3_5 : Int32), l_X8_areAllWithin_10 za zb zc S x2 k10 m10  x3_5 = some R → pm_wp mX8_areAllWithin G B 10 [some (.ref (B + 48)), some (.int za), some (.int zb), some (.int zc), some (.int x2), some (.int x3_5)] [] 0 0 cnt (cst B kp S ρ) := by
    intro k10 hk10 m10
    induction m10 with
    | zero => intro  x3_5 hE; exact fx_no hE
    | succ m10 ih10 =>
      intro  x3_5 hE
      rw [l_X8_areAllWithin_10] at hE
      refine pm_iloadi hG dX8_areAllWithin_10 rfl ?_
      refine pm_iloadi hG dX8_areAllWithin_12 rfl ?_
      refine pm_icmp_ge (tgt := 40) hG dX8_areAllWithin_14 rfl (fun c4 => ?_) (fun c4 => ?_)
      · replace c4 := Int32.not_lt.mpr c4
        replace hE := fx_f c4 hE
        exact hk10 _ hE
      · replace c4 := Int32.not_le.mp c4
        replace hE := fx_t c4 hE
        refine pm_aloadn hG dX8_areAllWithin_17 rfl ?_
        refine pm_iloadn hG dX8_areAllWithin_18 rfl ?_
        refine pm_iloadi hG dX8_areAllWithin_19 rfl ?_
        refine pm_callV (As := [.int za, .int x3_5]) (rest := []) hG hR dX8_areAllWithin_21 (lkX8_42 _ rfl) okV_X8_numberAt rfl rfl (c_X8_numberAt (d := 1) (by decide) rfl) rfl rfl hdd (Nat.le_refl _) (Nat.le_refl _) (by decide) (fx_ki ?_)
        refine pm_iloadn hG dX8_areAllWithin_24 rfl ?_
        refine pm_iloadn hG dX8_areAllWithin_25 rfl ?_
        refine pm_callS (As := [.int (p_X8_numberAt S za x3_5), .int zb, .int zc]) (rest := []) hG hR dX8_areAllWithin_26 (lkX8_45 _ rfl) okS_X11_isOutside (tOut (d := 1)) rfl rfl hdd (Nat.le_refl _) (Nat.le_refl _) (by decide) (fx_ki ?_)
        refine pm_if_eq (tgt := 34) hG dX8_areAllWithin_29 rfl (fun c5 => ?_) (fun c5 => ?_)
        · replace hE := fx_t c5 hE
          refine pm_iincX (v := x3_5 + 1) (loc' := [some (.ref (B + 48)), some (.int za), some (.int zb), some (.int zc), some (.int x2), some (.int (x3_5 + 1))]) hG dX8_areAllWithin_34 rfl (by rfl) (by decide) (pm_c1b rfl) rfl ?_
          refine pm_goto (tgt := 10) hG dX8_areAllWithin_37 rfl ?_
          exact ih10 _ hE
        · replace hE := fx_f c5 hE
          refine pm_iconst (v := 0) hG dX8_areAllWithin_32 (by decide) ?_
          exact pm_zret hG hF dX8_areAllWithin_33 rfl (by rfl) (Nat.le_refl _) (Nat.le_refl _) (fx_pi (Option.some.inj hE))
  refine loop10 _ (fun  x6_5 hE => ?_) _ _ hE
  refine pm_iconst (v := 1) hG dX8_areAllWithin_40 (by decide) ?_
  exact pm_zret hG hF dX8_areAllWithin_41 rfl (by rfl) (Nat.le_refl _) (Nat.le_refl _) (fx_pi (Option.some.inj hE))

set_option maxRecDepth 100000 in
set_option maxHeartbeats 4000000 in
theorem c_X5_rentsBut {d : Nat} {B cnt : Nat} {kp : Value} {ρ : pm_S} {S : FS} {za : Int32} {R : Int32} (hdd : 1 ≤ d) (hE : q_X5_rentsBut S za = some R) : pm_met mX5_rentsBut d 0 0 B [.ref (B + 42), .int za] cnt (cst B kp S ρ) (pm_Qi (fun v σ' cnt' => v = R ∧ σ' = (cst B kp S ρ) ∧ cnt' = cnt)) := by
  refine pm_enter 2 (by decide) (Nat.le_of_ble_eq_true rfl) rfl (fun G hG hR hF => ?_)
  unfold q_X5_rentsBut at hE
  refine pm_iconst (v := 0) hG dX5_rentsBut_0 (by decide) ?_
  refine pm_istoreXn (loc' := [some (.ref (B + 42)), some (.int za), some (.int 0), none]) hG dX5_rentsBut_1 (by decide) (pm_c1b rfl) rfl ?_
  refine pm_iconst (v := 0) hG dX5_rentsBut_2 (by decide) ?_
  refine pm_istoreXn (loc' := [some (.ref (B + 42)), some (.int za), some (.int 0), some (.int 0)]) hG dX5_rentsBut_3 (by decide) (pm_c1b rfl) rfl ?_
  have loop4 : ∀ (k4 : Int32 → Int32 → Option Int32), (∀  (x1_2 : Int32) (x1_3 : Int32), k4  x1_2 x1_3 = some R → pm_wp mX5_rentsBut G B 46 [some (.ref (B + 42)), some (.int za), some (.int x1_2), some (.int x1_3)] [] 0 0 cnt (cst B kp S ρ)) → ∀ (m4 : Nat)  (x1_2 : Int32) (x1_3 : Int32), l_X5_rentsBut_4 za S k4 m4  x1_2 x1_3 = some R → pm_wp mX5_rentsBut G B 4 [some (.ref (B + 42)), some (.int za), some (.int x1_2), some (.int x1_3)] [] 0 0 cnt (cst B kp S ρ) := by
    intro k4 hk4 m4
    induction m4 with
    | zero => intro  x1_2 x1_3 hE; exact fx_no hE
    | succ m4 ih4 =>
      intro  x1_2 x1_3 hE
      rw [l_X5_rentsBut_4] at hE
      refine pm_iloadn hG dX5_rentsBut_4 rfl ?_
      refine pm_bipush (v := 6) hG dX5_rentsBut_5 (by decide) ?_
      refine pm_icmp_ge (tgt := 46) hG dX5_rentsBut_7 rfl (fun c2 => ?_) (fun c2 => ?_)
      · replace c2 := Int32.not_lt.mpr c2
        replace hE := fx_f c2 hE
        exact hk4 _ _ hE
      · replace c2 := Int32.not_le.mp c2
        replace hE := fx_t c2 hE
        refine pm_aloadn hG dX5_rentsBut_10 rfl ?_
        refine pm_getf hG dX5_rentsBut_11 (flX5_37 _ rfl) rfl rfl ?_
        refine pm_iloadn hG dX5_rentsBut_14 rfl ?_
        refine pm_iconst (v := (-1)) hG dX5_rentsBut_15 (by decide) ?_
        refine pm_ixor hG dX5_rentsBut_16 ?_
        refine pm_iand hG dX5_rentsBut_17 ?_
        refine pm_iconst (v := 1) hG dX5_rentsBut_18 (by decide) ?_
        refine pm_iloadn hG dX5_rentsBut_19 rfl ?_
        refine pm_ishl hG dX5_rentsBut_20 ?_
        refine pm_iand hG dX5_rentsBut_21 ?_
        refine pm_if_eq (tgt := 40) hG dX5_rentsBut_22 rfl (fun c3 => ?_) (fun c3 => ?_)
        · replace hE := fx_t c3 hE
          refine pm_iincX (v := x1_3 + 1) (loc' := [some (.ref (B + 42)), some (.int za), some (.int x1_2), some (.int (x1_3 + 1))]) hG dX5_rentsBut_40 rfl (by rfl) (by decide) (pm_c1b rfl) rfl ?_
          refine pm_goto (tgt := 4) hG dX5_rentsBut_43 rfl ?_
          exact ih4 _ _ hE
        · replace hE := fx_f c3 hE
          refine pm_iloadn hG dX5_rentsBut_25 rfl ?_
          refine pm_aloadn hG dX5_rentsBut_26 rfl ?_
          refine pm_getf hG dX5_rentsBut_27 (flX5_21 _ rfl) rfl rfl ?_
          refine pm_getf hG dX5_rentsBut_30 (flX5_40 _ rfl) rfl rfl ?_
          refine pm_iloadn hG dX5_rentsBut_33 rfl ?_
          refine pm_iconst (v := 0) hG dX5_rentsBut_34 (by decide) ?_
          refine pm_callV (As := [.int x1_3, .int 0]) (rest := [.int x1_2]) hG hR dX5_rentsBut_35 (lkX5_50 _ rfl) okV_X9_get rfl rfl (tget_2 (d := 0)) rfl rfl hdd (Nat.le_refl _) (Nat.le_refl _) (by first | decide | exact Nat.le_of_ble_eq_true rfl) (fx_ki ?_)
          refine pm_iadd hG dX5_rentsBut_38 ?_
          refine fx_letv hE (fun x4 hE => ?_)
          refine pm_istoreXn (loc' := [some (.ref (B + 42)), some (.int za), some (.int x4), some (.int x1_3)]) hG dX5_rentsBut_39 (by decide) (pm_c1b rfl) rfl ?_
          refine pm_iincX (v := x1_3 + 1) (loc' := [some (.ref (B + 42)), some (.int za), some (.int x4), some (.int (x1_3 + 1))]) hG dX5_rentsBut_40 rfl (by rfl) (by decide) (pm_c1b rfl) rfl ?_
          refine pm_goto (tgt := 4) hG dX5_rentsBut_43 rfl ?_
          exact ih4 _ _ hE
  refine loop4 _ (fun  x5_2 x5_3 hE => ?_) _ _ _ hE
  refine pm_iloadn hG dX5_rentsBut_46 rfl ?_
  exact pm_iret hG hF dX5_rentsBut_47 rfl (Nat.le_refl _) (Nat.le_refl _) (fx_pi (Option.some.inj hE))

set_option maxRecDepth 100000 in
set_option maxHeartbeats 4000000 in
theorem c_X5_begin {d : Nat} {B cnt : Nat} {kp : Value} {ρ : pm_S} {S : FS} {R : Int32 × FS} (hdd : 2 ≤ d) (hE : f_X5_begin S = some R) : pm_met mX5_begin d 0 0 B [.ref (B + 42)] cnt (cst B kp S ρ) (pm_Qv (fun σ' cnt' => σ' = (cst B kp R.2 ρ) ∧ cnt' = cnt)) := by
  refine pm_enter 2 (by decide) (Nat.le_of_ble_eq_true rfl) rfl (fun G hG hR hF => ?_)
  unfold f_X5_begin at hE
  refine pm_aloadn hG dX5_begin_0 rfl ?_
  refine pm_getf hG dX5_begin_1 (flX5_11 _ rfl) rfl rfl ?_
  refine pm_iconst (v := (-1)) hG dX5_begin_4 (by decide) ?_
  refine pm_callS (As := [.ref (B + 43), .int (-1)]) (rest := []) hG hR dX5_begin_5 (lkX5_25 _ rfl) okS_J7_fill_53178 (tfill_43 (d := 1)) rfl rfl hdd (Nat.le_refl _) (Nat.le_refl _) (by decide) (fx_kv ?_)
  refine fx_letc hE (fun S1 hE => ?_)
  refine pm_aloadn hG dX5_begin_8 rfl ?_
  refine pm_getf hG dX5_begin_9 (flX5_11 _ rfl) rfl rfl ?_
  refine pm_iconst (v := 0) hG dX5_begin_12 (by decide) ?_
  refine pm_aloadn hG dX5_begin_13 rfl ?_
  refine pm_getf hG dX5_begin_14 (flX5_21 _ rfl) rfl rfl ?_
  refine pm_getf hG dX5_begin_17 (flX5_31 _ rfl) rfl rfl ?_
  refine fx_iast hG dX5_begin_20 rfl (ix_lit (by decide) rfl) ?_
  refine ca_43 ?_
  refine fx_letc hE (fun S2 hE => ?_)
  refine pm_aloadn hG dX5_begin_21 rfl ?_
  refine pm_getf hG dX5_begin_22 (flX5_15 _ rfl) rfl rfl ?_
  refine pm_iconst (v := 0) hG dX5_begin_25 (by decide) ?_
  refine pm_iconst (v := 0) hG dX5_begin_26 (by decide) ?_
  refine fx_iast hG dX5_begin_27 rfl (ix_lit (by decide) rfl) ?_
  refine ca_44 ?_
  refine fx_letc hE (fun S3 hE => ?_)
  refine pm_aloadn hG dX5_begin_28 rfl ?_
  refine pm_iconst (v := 0) hG dX5_begin_29 (by decide) ?_
  refine pm_putf hG dX5_begin_30 (fwX5_37 _ rfl) rfl rfl rfl ?_
  refine ci_112 ?_
  refine fx_letc hE (fun S4 hE => ?_)
  refine pm_iconst (v := 0) hG dX5_begin_33 (by decide) ?_
  refine pm_istoreXn (loc' := [some (.ref (B + 42)), some (.int 0), none]) hG dX5_begin_34 (by decide) (pm_c1b rfl) rfl ?_
  have loop35 : ∀ (k35 : FS → Int32 → Option (Int32 × FS)), (∀ (S5 : FS) (x5_1 : Int32), k35 S5  x5_1 = some R → pm_wp mX5_begin G B 118 [some (.ref (B + 42)), some (.int x5_1), none] [] 0 0 cnt (cst B kp S5 ρ)) → ∀ (m35 : Nat) (S5 : FS) (x5_1 : Int32), l_X5_begin_35 k35 m35 S5  x5_1 = some R → pm_wp mX5_begin G B 35 [some (.ref (B + 42)), some (.int x5_1), none] [] 0 0 cnt (cst B kp S5 ρ) := by
    intro k35 hk35 m35
    induction m35 with
    | zero => intro S5  x5_1 hE; exact fx_no hE
    | succ m35 ih35 =>
      intro S5  x5_1 hE
      rw [l_X5_begin_35] at hE
      refine pm_iloadn hG dX5_begin_35 rfl ?_
      refine pm_bipush (v := 6) hG dX5_begin_36 (by decide) ?_
      refine pm_icmp_ge (tgt := 118) hG dX5_begin_38 rfl (fun c6 => ?_) (fun c6 => ?_)
      · replace c6 := Int32.not_lt.mpr c6
        replace hE := fx_f c6 hE
        exact hk35 _ _ hE
      · replace c6 := Int32.not_le.mp c6
        replace hE := fx_t c6 hE
        refine pm_aloadn hG dX5_begin_41 rfl ?_
        refine pm_getf hG dX5_begin_42 (flX5_21 _ rfl) rfl rfl ?_
        refine pm_getf hG dX5_begin_45 (flX5_40 _ rfl) rfl rfl ?_
        refine pm_iloadn hG dX5_begin_48 rfl ?_
        refine pm_callV (As := [.int x5_1]) (rest := []) hG hR dX5_begin_49 (lkX5_44 _ rfl) okV_X9_has rfl rfl (thas_2 (d := 1)) rfl rfl hdd (Nat.le_refl _) (Nat.le_refl _) (by decide) (fx_ki ?_)
        refine pm_if_eq (tgt := 90) hG dX5_begin_52 rfl (fun c7 => ?_) (fun c7 => ?_)
        · replace hE := fx_t c7 hE
          refine pm_iconst (v := 0) hG dX5_begin_90 (by decide) ?_
          refine pm_istoreXn (loc' := [some (.ref (B + 42)), some (.int x5_1), some (.int 0)]) hG dX5_begin_91 (by decide) (pm_c1b rfl) rfl ?_
          refine pm_aloadn hG dX5_begin_92 rfl ?_
          refine pm_dup hG dX5_begin_93 rfl ?_
          refine pm_getf hG dX5_begin_94 (flX5_37 _ rfl) rfl rfl ?_
          refine pm_iloadn hG dX5_begin_97 rfl ?_
          refine pm_if_eq (tgt := 107) hG dX5_begin_98 rfl (fun _ => ?_) (fun q => absurd q (by decide))
          refine pm_iconst (v := 0) hG dX5_begin_107 (by decide) ?_
          refine pm_ior hG dX5_begin_108 ?_
          refine pm_putf hG dX5_begin_109 (fwX5_37 _ rfl) rfl rfl rfl ?_
          refine ci_112 ?_
          refine fx_letc hE (fun S8 hE => ?_)
          refine pm_iincX (v := x5_1 + 1) (loc' := [some (.ref (B + 42)), some (.int (x5_1 + 1)), some (.int 0)]) hG dX5_begin_112 rfl (by rfl) (by decide) (pm_c1b rfl) rfl ?_
          refine pm_goto (tgt := 35) hG dX5_begin_115 rfl ?_
          refine pm_fg 2 (loc' := [some (.ref (B + 42)), some (.int (x5_1 + 1)), none]) rfl ?_
          exact ih35 _ _ hE
        · replace hE := fx_f c7 hE
          refine pm_aloadn hG dX5_begin_55 rfl ?_
          refine pm_getf hG dX5_begin_56 (flX5_21 _ rfl) rfl rfl ?_
          refine pm_getf hG dX5_begin_59 (flX5_40 _ rfl) rfl rfl ?_
          refine pm_iloadn hG dX5_begin_62 rfl ?_
          refine pm_iconst (v := 1) hG dX5_begin_63 (by decide) ?_
          refine pm_callV (As := [.int x5_1, .int 1]) (rest := []) hG hR dX5_begin_64 (lkX5_50 _ rfl) okV_X9_get rfl rfl (tget_2 (d := 1)) rfl rfl hdd (Nat.le_refl _) (Nat.le_refl _) (by decide) (fx_ki ?_)
          refine pm_iconst (v := (-1)) hG dX5_begin_67 (by decide) ?_
          refine pm_icmp_ne (tgt := 90) hG dX5_begin_68 rfl (fun c9 => ?_) (fun c9 => ?_)
          · replace hE := fx_f c9 hE
            refine pm_iconst (v := 0) hG dX5_begin_90 (by decide) ?_
            refine pm_istoreXn (loc' := [some (.ref (B + 42)), some (.int x5_1), some (.int 0)]) hG dX5_begin_91 (by decide) (pm_c1b rfl) rfl ?_
            refine pm_aloadn hG dX5_begin_92 rfl ?_
            refine pm_dup hG dX5_begin_93 rfl ?_
            refine pm_getf hG dX5_begin_94 (flX5_37 _ rfl) rfl rfl ?_
            refine pm_iloadn hG dX5_begin_97 rfl ?_
            refine pm_if_eq (tgt := 107) hG dX5_begin_98 rfl (fun _ => ?_) (fun q => absurd q (by decide))
            refine pm_iconst (v := 0) hG dX5_begin_107 (by decide) ?_
            refine pm_ior hG dX5_begin_108 ?_
            refine pm_putf hG dX5_begin_109 (fwX5_37 _ rfl) rfl rfl rfl ?_
            refine ci_112 ?_
            refine fx_letc hE (fun S10 hE => ?_)
            refine pm_iincX (v := x5_1 + 1) (loc' := [some (.ref (B + 42)), some (.int (x5_1 + 1)), some (.int 0)]) hG dX5_begin_112 rfl (by rfl) (by decide) (pm_c1b rfl) rfl ?_
            refine pm_goto (tgt := 35) hG dX5_begin_115 rfl ?_
            refine pm_fg 2 (loc' := [some (.ref (B + 42)), some (.int (x5_1 + 1)), none]) rfl ?_
            exact ih35 _ _ hE
          · replace hE := fx_t c9 hE
            refine pm_aloadn hG dX5_begin_71 rfl ?_
            refine pm_getf hG dX5_begin_72 (flX5_21 _ rfl) rfl rfl ?_
            refine pm_getf hG dX5_begin_75 (flX5_40 _ rfl) rfl rfl ?_
            refine pm_iloadn hG dX5_begin_78 rfl ?_
            refine pm_iconst (v := 2) hG dX5_begin_79 (by decide) ?_
            refine pm_callV (As := [.int x5_1, .int 2]) (rest := []) hG hR dX5_begin_80 (lkX5_50 _ rfl) okV_X9_get rfl rfl (tget_2 (d := 1)) rfl rfl hdd (Nat.le_refl _) (Nat.le_refl _) (by decide) (fx_ki ?_)
            refine pm_if_ne (tgt := 90) hG dX5_begin_83 rfl (fun c11 => ?_) (fun c11 => ?_)
            · replace hE := fx_f c11 hE
              refine pm_iconst (v := 0) hG dX5_begin_90 (by decide) ?_
              refine pm_istoreXn (loc' := [some (.ref (B + 42)), some (.int x5_1), some (.int 0)]) hG dX5_begin_91 (by decide) (pm_c1b rfl) rfl ?_
              refine pm_aloadn hG dX5_begin_92 rfl ?_
              refine pm_dup hG dX5_begin_93 rfl ?_
              refine pm_getf hG dX5_begin_94 (flX5_37 _ rfl) rfl rfl ?_
              refine pm_iloadn hG dX5_begin_97 rfl ?_
              refine pm_if_eq (tgt := 107) hG dX5_begin_98 rfl (fun _ => ?_) (fun q => absurd q (by decide))
              refine pm_iconst (v := 0) hG dX5_begin_107 (by decide) ?_
              refine pm_ior hG dX5_begin_108 ?_
              refine pm_putf hG dX5_begin_109 (fwX5_37 _ rfl) rfl rfl rfl ?_
              refine ci_112 ?_
              refine fx_letc hE (fun S12 hE => ?_)
              refine pm_iincX (v := x5_1 + 1) (loc' := [some (.ref (B + 42)), some (.int (x5_1 + 1)), some (.int 0)]) hG dX5_begin_112 rfl (by rfl) (by decide) (pm_c1b rfl) rfl ?_
              refine pm_goto (tgt := 35) hG dX5_begin_115 rfl ?_
              refine pm_fg 2 (loc' := [some (.ref (B + 42)), some (.int (x5_1 + 1)), none]) rfl ?_
              exact ih35 _ _ hE
            · replace hE := fx_t c11 hE
              refine pm_iconst (v := 1) hG dX5_begin_86 (by decide) ?_
              refine pm_goto (tgt := 91) hG dX5_begin_87 rfl ?_
              refine pm_istoreXn (loc' := [some (.ref (B + 42)), some (.int x5_1), some (.int 1)]) hG dX5_begin_91 (by decide) (pm_c1b rfl) rfl ?_
              refine pm_aloadn hG dX5_begin_92 rfl ?_
              refine pm_dup hG dX5_begin_93 rfl ?_
              refine pm_getf hG dX5_begin_94 (flX5_37 _ rfl) rfl rfl ?_
              refine pm_iloadn hG dX5_begin_97 rfl ?_
              refine pm_if_eq (tgt := 107) hG dX5_begin_98 rfl (fun q => absurd q (by decide)) (fun _ => ?_)
              refine pm_iconst (v := 1) hG dX5_begin_101 (by decide) ?_
              refine pm_iloadn hG dX5_begin_102 rfl ?_
              refine pm_ishl hG dX5_begin_103 ?_
              refine pm_goto (tgt := 108) hG dX5_begin_104 rfl ?_
              refine pm_ior hG dX5_begin_108 ?_
              refine pm_putf hG dX5_begin_109 (fwX5_37 _ rfl) rfl rfl rfl ?_
              refine ci_112 ?_
              refine fx_letc hE (fun S13 hE => ?_)
              refine pm_iincX (v := x5_1 + 1) (loc' := [some (.ref (B + 42)), some (.int (x5_1 + 1)), some (.int 1)]) hG dX5_begin_112 rfl (by rfl) (by decide) (pm_c1b rfl) rfl ?_
              refine pm_goto (tgt := 35) hG dX5_begin_115 rfl ?_
              refine pm_fg 2 (loc' := [some (.ref (B + 42)), some (.int (x5_1 + 1)), none]) rfl ?_
              exact ih35 _ _ hE
  refine loop35 _ (fun S14 x14_1 hE => ?_) _ _ _ hE
  refine pm_iconst (v := 0) hG dX5_begin_118 (by decide) ?_
  refine pm_istoreXn (loc' := [some (.ref (B + 42)), some (.int 0), none]) hG dX5_begin_119 (by decide) (pm_c1b rfl) rfl ?_
  have loop120 : ∀ (k120 : FS → Int32 → Option (Int32 × FS)), (∀ (S15 : FS) (x15_1 : Int32), k120 S15  x15_1 = some R → pm_wp mX5_begin G B 143 [some (.ref (B + 42)), some (.int x15_1), none] [] 0 0 cnt (cst B kp S15 ρ)) → ∀ (m120 : Nat) (S15 : FS) (x15_1 : Int32), l_X5_begin_120 k120 m120 S15  x15_1 = some R → pm_wp mX5_begin G B 120 [some (.ref (B + 42)), some (.int x15_1), none] [] 0 0 cnt (cst B kp S15 ρ) := by
    intro k120 hk120 m120
    induction m120 with
    | zero => intro S15  x15_1 hE; exact fx_no hE
    | succ m120 ih120 =>
      intro S15  x15_1 hE
      rw [l_X5_begin_120] at hE
      refine pm_iloadn hG dX5_begin_120 rfl ?_
      refine pm_bipush (v := 64) hG dX5_begin_121 (by decide) ?_
      refine pm_icmp_ge (tgt := 143) hG dX5_begin_123 rfl (fun c16 => ?_) (fun c16 => ?_)
      · replace c16 := Int32.not_lt.mpr c16
        replace hE := fx_f c16 hE
        exact hk120 _ _ hE
      · replace c16 := Int32.not_le.mp c16
        replace hE := fx_t c16 hE
        refine pm_aloadn hG dX5_begin_126 rfl ?_
        refine pm_getf hG dX5_begin_127 (flX5_18 _ rfl) rfl rfl ?_
        refine pm_iloadn hG dX5_begin_130 rfl ?_
        refine pm_aloadn hG dX5_begin_131 rfl ?_
        refine pm_iloadn hG dX5_begin_132 rfl ?_
        obtain ⟨x18, h17, hE⟩ := fb_some hE
        refine pm_callV (As := [.int x15_1]) (rest := [.int x15_1, .ref (B + 45)]) hG hR dX5_begin_133 (lkX5_54 _ rfl) okV_X5_rentsBut rfl rfl (c_X5_rentsBut (d := 1) (by decide) h17) rfl rfl hdd (Nat.le_refl _) (Nat.le_refl _) (by first | decide | exact Nat.le_of_ble_eq_true rfl) (fx_ki ?_)
        obtain ⟨j19, hj19, hE⟩ := fb_some hE
        refine fx_iast hG dX5_begin_136 rfl hj19 ?_
        refine ca_45 ?_
        refine fx_letc hE (fun S20 hE => ?_)
        refine pm_iincX (v := x15_1 + 1) (loc' := [some (.ref (B + 42)), some (.int (x15_1 + 1)), none]) hG dX5_begin_137 rfl (by rfl) (by decide) (pm_c1b rfl) rfl ?_
        refine pm_goto (tgt := 120) hG dX5_begin_140 rfl ?_
        exact ih120 _ _ hE
  refine loop120 _ (fun S21 x21_1 hE => ?_) _ _ _ hE
  exact pm_vret hG hF dX5_begin_143 rfl (Nat.le_refl _) (Nat.le_refl _) (fx_rvc hE)
end
section
set_option maxRecDepth 100000 in
set_option maxHeartbeats 4000000 in
theorem c_X5_before {d : Nat} {B cnt : Nat} {kp : Value} {ρ : pm_S} {S : FS} {za : Int32} {zb : Int32} {R : Int32} (hdd : 1 ≤ d) (hE : p_X5_before S za zb = R) : pm_met mX5_before d 0 0 B [.int za, .int zb] cnt (cst B kp S ρ) (pm_Qi (fun v σ' cnt' => v = R ∧ σ' = (cst B kp S ρ) ∧ cnt' = cnt)) := by
  refine pm_enter 1 (by decide) (Nat.le_of_ble_eq_true rfl) rfl (fun G hG hR hF => ?_)
  unfold p_X5_before at hE
  refine pm_iloadn hG dX5_before_0 rfl ?_
  refine pm_if_ne (tgt := 8) hG dX5_before_1 rfl (fun c1 => ?_) (fun c1 => ?_)
  · replace hE := fx_f c1 hE
    refine pm_iloadn hG dX5_before_8 rfl ?_
    refine pm_iconst (v := 1) hG dX5_before_9 (by decide) ?_
    refine pm_iloadn hG dX5_before_10 rfl ?_
    refine pm_iconst (v := 1) hG dX5_before_11 (by decide) ?_
    refine pm_isub hG dX5_before_12 ?_
    refine pm_ishl hG dX5_before_13 ?_
    refine pm_iconst (v := (-1)) hG dX5_before_14 (by decide) ?_
    refine pm_ixor hG dX5_before_15 ?_
    refine pm_iand hG dX5_before_16 ?_
    refine fx_letv hE (fun x2 hE => ?_)
    refine pm_istoreXn (loc' := [some (.int za), some (.int zb), some (.int x2)]) hG dX5_before_17 (by decide) (pm_c1b rfl) rfl ?_
    refine pm_iloadn hG dX5_before_18 rfl ?_
    refine pm_bipush (v := 63) hG dX5_before_19 (by decide) ?_
    refine pm_iand hG dX5_before_21 ?_
    exact pm_iret hG hF dX5_before_22 rfl  (Nat.le_refl _) (Nat.le_refl _) (fx_pi hE)
  · replace hE := fx_t c1 hE
    refine pm_iloadn hG dX5_before_4 rfl ?_
    refine pm_goto (tgt := 17) hG dX5_before_5 rfl ?_
    refine pm_istoreXn (loc' := [some (.int za), some (.int zb), some (.int za)]) hG dX5_before_17 (by decide) (pm_c1b rfl) rfl ?_
    refine pm_iloadn hG dX5_before_18 rfl ?_
    refine pm_bipush (v := 63) hG dX5_before_19 (by decide) ?_
    refine pm_iand hG dX5_before_21 ?_
    exact pm_iret hG hF dX5_before_22 rfl  (Nat.le_refl _) (Nat.le_refl _) (fx_pi hE)

set_option maxRecDepth 100000 in
set_option maxHeartbeats 4000000 in
theorem c_X5_leftBy {d : Nat} {B cnt : Nat} {kp : Value} {ρ : pm_S} {S : FS} {za : Int32} {zb : Int32} {zc : Int32} {R : Int32} (hdd : 2 ≤ d) (hE : q_X5_leftBy S za zb zc = some R) : pm_met mX5_leftBy d 0 0 B [.ref (B + 42), .int za, .int zb, .int zc] cnt (cst B kp S ρ) (pm_Qi (fun v σ' cnt' => v = R ∧ σ' = (cst B kp S ρ) ∧ cnt' = cnt)) := by
  refine pm_enter 3 (by decide) (Nat.le_of_ble_eq_true rfl) rfl (fun G hG hR hF => ?_)
  unfold q_X5_leftBy at hE
  refine pm_iloadn hG dX5_leftBy_0 rfl ?_
  refine pm_iloadn hG dX5_leftBy_1 rfl ?_
  refine pm_callS (As := [.int za, .int zb]) (rest := []) hG hR dX5_leftBy_2 (lkX5_62 _ rfl) okS_X5_before (c_X5_before (d := 1) (by decide) rfl) rfl rfl hdd (Nat.le_refl _) (Nat.le_refl _) (by decide) (fx_ki ?_)
  refine fx_letv hE (fun x1 hE => ?_)
  refine pm_istoreXi (loc' := [some (.ref (B + 42)), some (.int za), some (.int zb), some (.int zc), some (.int x1), none, none]) hG dX5_leftBy_5 (by decide) (pm_c1b rfl) rfl ?_
  refine pm_iloadn hG dX5_leftBy_7 rfl ?_
  refine pm_if_eq (tgt := 30) hG dX5_leftBy_8 rfl (fun c2 => ?_) (fun c2 => ?_)
  · replace hE := fx_t c2 hE
    refine pm_iconst (v := 1) hG dX5_leftBy_30 (by decide) ?_
    refine pm_goto (tgt := 35) hG dX5_leftBy_31 rfl ?_
    refine pm_istoreXi (loc' := [some (.ref (B + 42)), some (.int za), some (.int zb), some (.int zc), some (.int x1), some (.int 1), none]) hG dX5_leftBy_35 (by decide) (pm_c1b rfl) rfl ?_
    refine pm_iloadi hG dX5_leftBy_37 rfl ?_
    refine pm_if_eq (tgt := 52) hG dX5_leftBy_39 rfl (fun q => absurd q (by decide)) (fun _ => ?_)
    refine pm_aloadn hG dX5_leftBy_42 rfl ?_
    refine pm_getf hG dX5_leftBy_43 (flX5_11 _ rfl) rfl rfl ?_
    refine pm_iloadi hG dX5_leftBy_46 rfl ?_
    obtain ⟨j3, hj3, hE⟩ := fb_some hE
    refine fx_iald hG dX5_leftBy_48 rfl hj3 ?_
    refine pm_if_ge (tgt := 54) hG dX5_leftBy_49 rfl (fun c4 => ?_) (fun c4 => ?_)
    · replace c4 := Int32.not_lt.mpr c4
      replace hE := fx_f c4 hE
      refine pm_iloadn hG dX5_leftBy_54 rfl ?_
      refine pm_if_ne (tgt := 62) hG dX5_leftBy_55 rfl (fun q => absurd c2 q) (fun _ => ?_)
      refine pm_iconst (v := 0) hG dX5_leftBy_58 (by decide) ?_
      refine pm_goto (tgt := 78) hG dX5_leftBy_59 rfl ?_
      refine pm_istoreXi (loc' := [some (.ref (B + 42)), some (.int za), some (.int zb), some (.int zc), some (.int x1), some (.int 1), some (.int 0)]) hG dX5_leftBy_78 (by decide) (pm_c1b rfl) rfl ?_
      refine pm_iconst (v := (-1)) hG dX5_leftBy_80 (by decide) ?_
      refine pm_aloadn hG dX5_leftBy_81 rfl ?_
      refine pm_getf hG dX5_leftBy_82 (flX5_11 _ rfl) rfl rfl ?_
      refine pm_iloadi hG dX5_leftBy_85 rfl ?_
      refine fx_iald hG dX5_leftBy_87 rfl hj3 ?_
      refine pm_aloadn hG dX5_leftBy_88 rfl ?_
      refine pm_getf hG dX5_leftBy_89 (flX5_18 _ rfl) rfl rfl ?_
      refine pm_iloadi hG dX5_leftBy_92 rfl ?_
      refine fx_iald hG dX5_leftBy_94 rfl hj3 ?_
      refine pm_iadd hG dX5_leftBy_95 ?_
      refine pm_iloadi hG dX5_leftBy_96 rfl ?_
      refine pm_iadd hG dX5_leftBy_98 ?_
      refine pm_iloadn hG dX5_leftBy_99 rfl ?_
      refine pm_isub hG dX5_leftBy_100 ?_
      refine pm_mmax hG hR dX5_leftBy_101 (mmX5_65 _ rfl) pm_mwmax (by omega) (by first | decide | exact Nat.le_of_ble_eq_true rfl) (Nat.le_refl _) (Nat.le_refl _) ?_
      refine pm_top (v := imax (-1) ((((S.2 43 j3) + (S.2 45 j3)) + 0) - zc)) rfl ?_
      exact pm_iret hG hF dX5_leftBy_104 rfl (Nat.le_refl _) (Nat.le_refl _) (fx_pi (Option.some.inj hE))
    · replace c4 := Int32.not_le.mp c4
      replace hE := fx_t c4 hE
      refine pm_iconst (v := (-1)) hG dX5_leftBy_52 (by decide) ?_
      exact pm_iret hG hF dX5_leftBy_53 rfl (Nat.le_refl _) (Nat.le_refl _) (fx_pi (Option.some.inj hE))
  · replace hE := fx_f c2 hE
    refine pm_iloadi hG dX5_leftBy_11 rfl ?_
    refine pm_iloadn hG dX5_leftBy_13 rfl ?_
    refine pm_icmp_eq (tgt := 34) hG dX5_leftBy_14 rfl (fun c5 => ?_) (fun c5 => ?_)
    · replace hE := fx_t c5 hE
      refine pm_iconst (v := 0) hG dX5_leftBy_34 (by decide) ?_
      refine pm_istoreXi (loc' := [some (.ref (B + 42)), some (.int za), some (.int zb), some (.int zc), some (.int x1), some (.int 0), none]) hG dX5_leftBy_35 (by decide) (pm_c1b rfl) rfl ?_
      refine pm_iloadi hG dX5_leftBy_37 rfl ?_
      refine pm_if_eq (tgt := 52) hG dX5_leftBy_39 rfl (fun _ => ?_) (fun q => absurd q (by decide))
      refine pm_iconst (v := (-1)) hG dX5_leftBy_52 (by decide) ?_
      exact pm_iret hG hF dX5_leftBy_53 rfl (Nat.le_refl _) (Nat.le_refl _) (fx_pi (Option.some.inj hE))
    · replace hE := fx_f c5 hE
      refine pm_aloadn hG dX5_leftBy_17 rfl ?_
      refine pm_getf hG dX5_leftBy_18 (flX5_37 _ rfl) rfl rfl ?_
      refine pm_iloadn hG dX5_leftBy_21 rfl ?_
      refine pm_iconst (v := 1) hG dX5_leftBy_22 (by decide) ?_
      refine pm_isub hG dX5_leftBy_23 ?_
      refine pm_ishr hG dX5_leftBy_24 ?_
      refine pm_iconst (v := 1) hG dX5_leftBy_25 (by decide) ?_
      refine pm_iand hG dX5_leftBy_26 ?_
      refine pm_if_eq (tgt := 34) hG dX5_leftBy_27 rfl (fun c6 => ?_) (fun c6 => ?_)
      · replace hE := fx_t c6 hE
        refine pm_iconst (v := 0) hG dX5_leftBy_34 (by decide) ?_
        refine pm_istoreXi (loc' := [some (.ref (B + 42)), some (.int za), some (.int zb), some (.int zc), some (.int x1), some (.int 0), none]) hG dX5_leftBy_35 (by decide) (pm_c1b rfl) rfl ?_
        refine pm_iloadi hG dX5_leftBy_37 rfl ?_
        refine pm_if_eq (tgt := 52) hG dX5_leftBy_39 rfl (fun _ => ?_) (fun q => absurd q (by decide))
        refine pm_iconst (v := (-1)) hG dX5_leftBy_52 (by decide) ?_
        exact pm_iret hG hF dX5_leftBy_53 rfl (Nat.le_refl _) (Nat.le_refl _) (fx_pi (Option.some.inj hE))
      · replace hE := fx_f c6 hE
        refine pm_iconst (v := 1) hG dX5_leftBy_30 (by decide) ?_
        refine pm_goto (tgt := 35) hG dX5_leftBy_31 rfl ?_
        refine pm_istoreXi (loc' := [some (.ref (B + 42)), some (.int za), some (.int zb), some (.int zc), some (.int x1), some (.int 1), none]) hG dX5_leftBy_35 (by decide) (pm_c1b rfl) rfl ?_
        refine pm_iloadi hG dX5_leftBy_37 rfl ?_
        refine pm_if_eq (tgt := 52) hG dX5_leftBy_39 rfl (fun q => absurd q (by decide)) (fun _ => ?_)
        refine pm_aloadn hG dX5_leftBy_42 rfl ?_
        refine pm_getf hG dX5_leftBy_43 (flX5_11 _ rfl) rfl rfl ?_
        refine pm_iloadi hG dX5_leftBy_46 rfl ?_
        obtain ⟨j7, hj7, hE⟩ := fb_some hE
        refine fx_iald hG dX5_leftBy_48 rfl hj7 ?_
        refine pm_if_ge (tgt := 54) hG dX5_leftBy_49 rfl (fun c8 => ?_) (fun c8 => ?_)
        · replace c8 := Int32.not_lt.mpr c8
          replace hE := fx_f c8 hE
          refine pm_iloadn hG dX5_leftBy_54 rfl ?_
          refine pm_if_ne (tgt := 62) hG dX5_leftBy_55 rfl (fun _ => ?_) (fun q => absurd q c2)
          refine pm_iconst (v := 4) hG dX5_leftBy_62 (by decide) ?_
          refine pm_aloadn hG dX5_leftBy_63 rfl ?_
          refine pm_getf hG dX5_leftBy_64 (flX5_21 _ rfl) rfl rfl ?_
          refine pm_getf hG dX5_leftBy_67 (flX5_40 _ rfl) rfl rfl ?_
          refine pm_iloadn hG dX5_leftBy_70 rfl ?_
          refine pm_iconst (v := 1) hG dX5_leftBy_71 (by decide) ?_
          refine pm_isub hG dX5_leftBy_72 ?_
          refine pm_iconst (v := 0) hG dX5_leftBy_73 (by decide) ?_
          refine pm_callV (As := [.int (zb - 1), .int 0]) (rest := [.int 4]) hG hR dX5_leftBy_74 (lkX5_50 _ rfl) okV_X9_get rfl rfl (tget_2 (d := 1)) rfl rfl hdd (Nat.le_refl _) (Nat.le_refl _) (by first | decide | exact Nat.le_of_ble_eq_true rfl) (fx_ki ?_)
          refine pm_imul hG dX5_leftBy_77 ?_
          refine fx_letv hE (fun x9 hE => ?_)
          refine pm_istoreXi (loc' := [some (.ref (B + 42)), some (.int za), some (.int zb), some (.int zc), some (.int x1), some (.int 1), some (.int x9)]) hG dX5_leftBy_78 (by decide) (pm_c1b rfl) rfl ?_
          refine pm_iconst (v := (-1)) hG dX5_leftBy_80 (by decide) ?_
          refine pm_aloadn hG dX5_leftBy_81 rfl ?_
          refine pm_getf hG dX5_leftBy_82 (flX5_11 _ rfl) rfl rfl ?_
          refine pm_iloadi hG dX5_leftBy_85 rfl ?_
          refine fx_iald hG dX5_leftBy_87 rfl hj7 ?_
          refine pm_aloadn hG dX5_leftBy_88 rfl ?_
          refine pm_getf hG dX5_leftBy_89 (flX5_18 _ rfl) rfl rfl ?_
          refine pm_iloadi hG dX5_leftBy_92 rfl ?_
          refine fx_iald hG dX5_leftBy_94 rfl hj7 ?_
          refine pm_iadd hG dX5_leftBy_95 ?_
          refine pm_iloadi hG dX5_leftBy_96 rfl ?_
          refine pm_iadd hG dX5_leftBy_98 ?_
          refine pm_iloadn hG dX5_leftBy_99 rfl ?_
          refine pm_isub hG dX5_leftBy_100 ?_
          refine pm_mmax hG hR dX5_leftBy_101 (mmX5_65 _ rfl) pm_mwmax (by omega) (by first | decide | exact Nat.le_of_ble_eq_true rfl) (Nat.le_refl _) (Nat.le_refl _) ?_
          refine pm_top (v := imax (-1) ((((S.2 43 j7) + (S.2 45 j7)) + x9) - zc)) rfl ?_
          exact pm_iret hG hF dX5_leftBy_104 rfl (Nat.le_refl _) (Nat.le_refl _) (fx_pi (Option.some.inj hE))
        · replace c8 := Int32.not_le.mp c8
          replace hE := fx_t c8 hE
          refine pm_iconst (v := (-1)) hG dX5_leftBy_52 (by decide) ?_
          exact pm_iret hG hF dX5_leftBy_53 rfl (Nat.le_refl _) (Nat.le_refl _) (fx_pi (Option.some.inj hE))

set_option maxRecDepth 100000 in
set_option maxHeartbeats 4000000 in
theorem c_X5_passQuarter {d : Nat} {B cnt : Nat} {kp : Value} {ρ : pm_S} {S : FS} {za : Int32} {R : Int32 × FS} (hdd : 3 ≤ d) (hE : f_X5_passQuarter S za = some R) : pm_met mX5_passQuarter d 0 0 B [.ref (B + 42), .int za] cnt (cst B kp S ρ) (pm_Qv (fun σ' cnt' => σ' = (cst B kp R.2 ρ) ∧ cnt' = cnt)) := by
  refine pm_enter 6 (by decide) (Nat.le_of_ble_eq_true rfl) rfl (fun G hG hR hF => ?_)
  unfold f_X5_passQuarter at hE
  refine pm_bipush (v := 63) hG dX5_passQuarter_0 (by decide) ?_
  refine pm_istoreXn (loc' := [some (.ref (B + 42)), some (.int za), some (.int 63), none, none, none, none, none]) hG dX5_passQuarter_2 (by decide) (pm_c1b rfl) rfl ?_
  have loop3 : ∀ (k3 : FS → Int32 → Option (Int32 × FS)), (∀ (S1 : FS) (x1_2 : Int32), k3 S1  x1_2 = some R → pm_wp mX5_passQuarter G B 118 [some (.ref (B + 42)), some (.int za), some (.int x1_2), none, none, none, none, none] [] 0 0 cnt (cst B kp S1 ρ)) → ∀ (m3 : Nat) (S1 : FS) (x1_2 : Int32), l_X5_passQuarter_3 za k3 m3 S1  x1_2 = some R → pm_wp mX5_passQuarter G B 3 [some (.ref (B + 42)), some (.int za), some (.int x1_2), none, none, none, none, none] [] 0 0 cnt (cst B kp S1 ρ) := by
    intro k3 hk3 m3
    induction m3 with
    | zero => intro S1  x1_2 hE; exact fx_no hE
    | succ m3 ih3 =>
      intro S1  x1_2 hE
      rw [l_X5_passQuarter_3] at hE
      refine pm_iloadn hG dX5_passQuarter_3 rfl ?_
      refine pm_if_lt (tgt := 118) hG dX5_passQuarter_4 rfl (fun c2 => ?_) (fun c2 => ?_)
      · replace hE := fx_t c2 hE
        exact hk3 _ _ hE
      · replace hE := fx_f c2 hE
        refine pm_iconst (v := (-1)) hG dX5_passQuarter_7 (by decide) ?_
        refine pm_istoreXn (loc' := [some (.ref (B + 42)), some (.int za), some (.int x1_2), some (.int (-1)), none, none, none, none]) hG dX5_passQuarter_8 (by decide) (pm_c1b rfl) rfl ?_
        refine pm_iconst (v := 0) hG dX5_passQuarter_9 (by decide) ?_
        refine pm_istoreXi (loc' := [some (.ref (B + 42)), some (.int za), some (.int x1_2), some (.int (-1)), some (.int 0), none, none, none]) hG dX5_passQuarter_10 (by decide) (pm_c1b rfl) rfl ?_
        refine pm_iconst (v := 0) hG dX5_passQuarter_12 (by decide) ?_
        refine pm_istoreXi (loc' := [some (.ref (B + 42)), some (.int za), some (.int x1_2), some (.int (-1)), some (.int 0), some (.int 0), none, none]) hG dX5_passQuarter_13 (by decide) (pm_c1b rfl) rfl ?_
        have loop15 : ∀ (k15 : FS → Int32 → Int32 → Int32 → Option (Int32 × FS)), (∀ (S3 : FS) (x3_3 : Int32) (x3_4 : Int32) (x3_5 : Int32), k15 S3  x3_3 x3_4 x3_5 = some R → pm_wp mX5_passQuarter G B 97 [some (.ref (B + 42)), some (.int za), some (.int x1_2), some (.int x3_3), some (.int x3_4), some (.int x3_5), none, none] [] 0 0 cnt (cst B kp S3 ρ)) → ∀ (m15 : Nat) (S3 : FS) (x3_3 : Int32) (x3_4 : Int32) (x3_5 : Int32), l_X5_passQuarter_15 za x1_2 k15 m15 S3  x3_3 x3_4 x3_5 = some R → pm_wp mX5_passQuarter G B 15 [some (.ref (B + 42)), some (.int za), some (.int x1_2), some (.int x3_3), some (.int x3_4), some (.int x3_5), none, none] [] 0 0 cnt (cst B kp S3 ρ) := by
          intro k15 hk15 m15
          induction m15 with
          | zero => intro S3  x3_3 x3_4 x3_5 hE; exact fx_no hE
          | succ m15 ih15 =>
            intro S3  x3_3 x3_4 x3_5 hE
            rw [l_X5_passQuarter_15] at hE
            refine pm_iloadi hG dX5_passQuarter_15 rfl ?_
            refine pm_bipush (v := 7) hG dX5_passQuarter_17 (by decide) ?_
            refine pm_icmp_ge (tgt := 97) hG dX5_passQuarter_19 rfl (fun c4 => ?_) (fun c4 => ?_)
            · replace c4 := Int32.not_lt.mpr c4
              replace hE := fx_f c4 hE
              exact hk15 _ _ _ _ hE
            · replace c4 := Int32.not_le.mp c4
              replace hE := fx_t c4 hE
              refine pm_aloadn hG dX5_passQuarter_22 rfl ?_
              refine pm_iloadn hG dX5_passQuarter_23 rfl ?_
              refine pm_iloadi hG dX5_passQuarter_24 rfl ?_
              refine pm_iloadn hG dX5_passQuarter_26 rfl ?_
              obtain ⟨x6, h5, hE⟩ := fb_some hE
              refine pm_callV (As := [.int x1_2, .int x3_5, .int za]) (rest := []) hG hR dX5_passQuarter_27 (lkX5_58 _ rfl) okV_X5_leftBy rfl rfl (c_X5_leftBy (d := 2) (by decide) h5) rfl rfl hdd (Nat.le_refl _) (Nat.le_refl _) (by decide) (fx_ki ?_)
              refine pm_istoreXi (loc' := [some (.ref (B + 42)), some (.int za), some (.int x1_2), some (.int x3_3), some (.int x3_4), some (.int x3_5), some (.int x6), none]) hG dX5_passQuarter_30 (by decide) (pm_c1b rfl) rfl ?_
              refine pm_iloadi hG dX5_passQuarter_32 rfl ?_
              refine pm_if_ge (tgt := 41) hG dX5_passQuarter_34 rfl (fun c7 => ?_) (fun c7 => ?_)
              · replace c7 := Int32.not_lt.mpr c7
                replace hE := fx_f c7 hE
                refine pm_aloadn hG dX5_passQuarter_41 rfl ?_
                refine pm_getf hG dX5_passQuarter_42 (flX5_15 _ rfl) rfl rfl ?_
                refine pm_iloadn hG dX5_passQuarter_45 rfl ?_
                refine pm_iloadi hG dX5_passQuarter_46 rfl ?_
                refine pm_callS (As := [.int x1_2, .int x3_5]) (rest := [.ref (B + 44)]) hG hR dX5_passQuarter_48 (lkX5_62 _ rfl) okS_X5_before (c_X5_before (d := 2) (by decide) rfl) rfl rfl hdd (Nat.le_refl _) (Nat.le_refl _) (by first | decide | exact Nat.le_of_ble_eq_true rfl) (fx_ki ?_)
                obtain ⟨j8, hj8, hE⟩ := fb_some hE
                refine fx_iald hG dX5_passQuarter_51 rfl hj8 ?_
                refine pm_bipush (v := 7) hG dX5_passQuarter_52 (by decide) ?_
                refine pm_imul hG dX5_passQuarter_54 ?_
                refine pm_iloadi hG dX5_passQuarter_55 rfl ?_
                refine pm_iadd hG dX5_passQuarter_57 ?_
                refine fx_letv hE (fun x9 hE => ?_)
                refine pm_istoreXi (loc' := [some (.ref (B + 42)), some (.int za), some (.int x1_2), some (.int x3_3), some (.int x3_4), some (.int x3_5), some (.int x6), some (.int x9)]) hG dX5_passQuarter_58 (by decide) (pm_c1b rfl) rfl ?_
                refine pm_iloadi hG dX5_passQuarter_60 rfl ?_
                refine pm_iloadn hG dX5_passQuarter_62 rfl ?_
                refine pm_icmp_gt (tgt := 84) hG dX5_passQuarter_63 rfl (fun c10 => ?_) (fun c10 => ?_)
                · replace hE := fx_t c10 hE
                  refine pm_iloadi hG dX5_passQuarter_84 rfl ?_
                  refine pm_istoreXn (loc' := [some (.ref (B + 42)), some (.int za), some (.int x1_2), some (.int x6), some (.int x3_4), some (.int x3_5), some (.int x6), some (.int x9)]) hG dX5_passQuarter_86 (by decide) (pm_c1b rfl) rfl ?_
                  refine pm_iloadi hG dX5_passQuarter_87 rfl ?_
                  refine pm_istoreXi (loc' := [some (.ref (B + 42)), some (.int za), some (.int x1_2), some (.int x6), some (.int x9), some (.int x3_5), some (.int x6), some (.int x9)]) hG dX5_passQuarter_89 (by decide) (pm_c1b rfl) rfl ?_
                  refine pm_iincX (v := x3_5 + 1) (loc' := [some (.ref (B + 42)), some (.int za), some (.int x1_2), some (.int x6), some (.int x9), some (.int (x3_5 + 1)), some (.int x6), some (.int x9)]) hG dX5_passQuarter_91 rfl (by rfl) (by decide) (pm_c1b rfl) rfl ?_
                  refine pm_goto (tgt := 15) hG dX5_passQuarter_94 rfl ?_
                  refine pm_fg 6 (loc' := [some (.ref (B + 42)), some (.int za), some (.int x1_2), some (.int x6), some (.int x9), some (.int (x3_5 + 1)), none, some (.int x9)]) rfl ?_
                  refine pm_fg 7 (loc' := [some (.ref (B + 42)), some (.int za), some (.int x1_2), some (.int x6), some (.int x9), some (.int (x3_5 + 1)), none, none]) rfl ?_
                  exact ih15 _ _ _ _ hE
                · replace hE := fx_f c10 hE
                  refine pm_iloadi hG dX5_passQuarter_66 rfl ?_
                  refine pm_if_lt (tgt := 91) hG dX5_passQuarter_68 rfl (fun q => absurd q c7) (fun _ => ?_)
                  refine pm_iloadi hG dX5_passQuarter_71 rfl ?_
                  refine pm_iloadn hG dX5_passQuarter_73 rfl ?_
                  refine pm_icmp_ne (tgt := 91) hG dX5_passQuarter_74 rfl (fun c11 => ?_) (fun c11 => ?_)
                  · replace hE := fx_f c11 hE
                    refine pm_iincX (v := x3_5 + 1) (loc' := [some (.ref (B + 42)), some (.int za), some (.int x1_2), some (.int x3_3), some (.int x3_4), some (.int (x3_5 + 1)), some (.int x6), some (.int x9)]) hG dX5_passQuarter_91 rfl (by rfl) (by decide) (pm_c1b rfl) rfl ?_
                    refine pm_goto (tgt := 15) hG dX5_passQuarter_94 rfl ?_
                    refine pm_fg 6 (loc' := [some (.ref (B + 42)), some (.int za), some (.int x1_2), some (.int x3_3), some (.int x3_4), some (.int (x3_5 + 1)), none, some (.int x9)]) rfl ?_
                    refine pm_fg 7 (loc' := [some (.ref (B + 42)), some (.int za), some (.int x1_2), some (.int x3_3), some (.int x3_4), some (.int (x3_5 + 1)), none, none]) rfl ?_
                    exact ih15 _ _ _ _ hE
                  · replace hE := fx_t c11 hE
                    refine pm_iloadi hG dX5_passQuarter_77 rfl ?_
                    refine pm_iloadi hG dX5_passQuarter_79 rfl ?_
                    refine pm_icmp_ge (tgt := 91) hG dX5_passQuarter_81 rfl (fun c12 => ?_) (fun c12 => ?_)
                    · replace c12 := Int32.not_lt.mpr c12
                      replace hE := fx_f c12 hE
                      refine pm_iincX (v := x3_5 + 1) (loc' := [some (.ref (B + 42)), some (.int za), some (.int x1_2), some (.int x3_3), some (.int x3_4), some (.int (x3_5 + 1)), some (.int x6), some (.int x9)]) hG dX5_passQuarter_91 rfl (by rfl) (by decide) (pm_c1b rfl) rfl ?_
                      refine pm_goto (tgt := 15) hG dX5_passQuarter_94 rfl ?_
                      refine pm_fg 6 (loc' := [some (.ref (B + 42)), some (.int za), some (.int x1_2), some (.int x3_3), some (.int x3_4), some (.int (x3_5 + 1)), none, some (.int x9)]) rfl ?_
                      refine pm_fg 7 (loc' := [some (.ref (B + 42)), some (.int za), some (.int x1_2), some (.int x3_3), some (.int x3_4), some (.int (x3_5 + 1)), none, none]) rfl ?_
                      exact ih15 _ _ _ _ hE
                    · replace c12 := Int32.not_le.mp c12
                      replace hE := fx_t c12 hE
                      refine pm_iloadi hG dX5_passQuarter_84 rfl ?_
                      refine pm_istoreXn (loc' := [some (.ref (B + 42)), some (.int za), some (.int x1_2), some (.int x6), some (.int x3_4), some (.int x3_5), some (.int x6), some (.int x9)]) hG dX5_passQuarter_86 (by decide) (pm_c1b rfl) rfl ?_
                      refine pm_iloadi hG dX5_passQuarter_87 rfl ?_
                      refine pm_istoreXi (loc' := [some (.ref (B + 42)), some (.int za), some (.int x1_2), some (.int x6), some (.int x9), some (.int x3_5), some (.int x6), some (.int x9)]) hG dX5_passQuarter_89 (by decide) (pm_c1b rfl) rfl ?_
                      refine pm_iincX (v := x3_5 + 1) (loc' := [some (.ref (B + 42)), some (.int za), some (.int x1_2), some (.int x6), some (.int x9), some (.int (x3_5 + 1)), some (.int x6), some (.int x9)]) hG dX5_passQuarter_91 rfl (by rfl) (by decide) (pm_c1b rfl) rfl ?_
                      refine pm_goto (tgt := 15) hG dX5_passQuarter_94 rfl ?_
                      refine pm_fg 6 (loc' := [some (.ref (B + 42)), some (.int za), some (.int x1_2), some (.int x6), some (.int x9), some (.int (x3_5 + 1)), none, some (.int x9)]) rfl ?_
                      refine pm_fg 7 (loc' := [some (.ref (B + 42)), some (.int za), some (.int x1_2), some (.int x6), some (.int x9), some (.int (x3_5 + 1)), none, none]) rfl ?_
                      exact ih15 _ _ _ _ hE
              · replace c7 := Int32.not_le.mp c7
                replace hE := fx_t c7 hE
                refine pm_iconst (v := 0) hG dX5_passQuarter_37 (by decide) ?_
                refine pm_goto (tgt := 58) hG dX5_passQuarter_38 rfl ?_
                refine pm_istoreXi (loc' := [some (.ref (B + 42)), some (.int za), some (.int x1_2), some (.int x3_3), some (.int x3_4), some (.int x3_5), some (.int x6), some (.int 0)]) hG dX5_passQuarter_58 (by decide) (pm_c1b rfl) rfl ?_
                refine pm_iloadi hG dX5_passQuarter_60 rfl ?_
                refine pm_iloadn hG dX5_passQuarter_62 rfl ?_
                refine pm_icmp_gt (tgt := 84) hG dX5_passQuarter_63 rfl (fun c13 => ?_) (fun c13 => ?_)
                · replace hE := fx_t c13 hE
                  refine pm_iloadi hG dX5_passQuarter_84 rfl ?_
                  refine pm_istoreXn (loc' := [some (.ref (B + 42)), some (.int za), some (.int x1_2), some (.int x6), some (.int x3_4), some (.int x3_5), some (.int x6), some (.int 0)]) hG dX5_passQuarter_86 (by decide) (pm_c1b rfl) rfl ?_
                  refine pm_iloadi hG dX5_passQuarter_87 rfl ?_
                  refine pm_istoreXi (loc' := [some (.ref (B + 42)), some (.int za), some (.int x1_2), some (.int x6), some (.int 0), some (.int x3_5), some (.int x6), some (.int 0)]) hG dX5_passQuarter_89 (by decide) (pm_c1b rfl) rfl ?_
                  refine pm_iincX (v := x3_5 + 1) (loc' := [some (.ref (B + 42)), some (.int za), some (.int x1_2), some (.int x6), some (.int 0), some (.int (x3_5 + 1)), some (.int x6), some (.int 0)]) hG dX5_passQuarter_91 rfl (by rfl) (by decide) (pm_c1b rfl) rfl ?_
                  refine pm_goto (tgt := 15) hG dX5_passQuarter_94 rfl ?_
                  refine pm_fg 6 (loc' := [some (.ref (B + 42)), some (.int za), some (.int x1_2), some (.int x6), some (.int 0), some (.int (x3_5 + 1)), none, some (.int 0)]) rfl ?_
                  refine pm_fg 7 (loc' := [some (.ref (B + 42)), some (.int za), some (.int x1_2), some (.int x6), some (.int 0), some (.int (x3_5 + 1)), none, none]) rfl ?_
                  exact ih15 _ _ _ _ hE
                · replace hE := fx_f c13 hE
                  refine pm_iloadi hG dX5_passQuarter_66 rfl ?_
                  refine pm_if_lt (tgt := 91) hG dX5_passQuarter_68 rfl (fun _ => ?_) (fun q => absurd c7 q)
                  refine pm_iincX (v := x3_5 + 1) (loc' := [some (.ref (B + 42)), some (.int za), some (.int x1_2), some (.int x3_3), some (.int x3_4), some (.int (x3_5 + 1)), some (.int x6), some (.int 0)]) hG dX5_passQuarter_91 rfl (by rfl) (by decide) (pm_c1b rfl) rfl ?_
                  refine pm_goto (tgt := 15) hG dX5_passQuarter_94 rfl ?_
                  refine pm_fg 6 (loc' := [some (.ref (B + 42)), some (.int za), some (.int x1_2), some (.int x3_3), some (.int x3_4), some (.int (x3_5 + 1)), none, some (.int 0)]) rfl ?_
                  refine pm_fg 7 (loc' := [some (.ref (B + 42)), some (.int za), some (.int x1_2), some (.int x3_3), some (.int x3_4), some (.int (x3_5 + 1)), none, none]) rfl ?_
                  exact ih15 _ _ _ _ hE
        refine loop15 _ (fun S14 x14_3 x14_4 x14_5 hE => ?_) _ _ _ _ _ hE
        refine pm_aloadn hG dX5_passQuarter_97 rfl ?_
        refine pm_getf hG dX5_passQuarter_98 (flX5_11 _ rfl) rfl rfl ?_
        refine pm_iloadn hG dX5_passQuarter_101 rfl ?_
        refine pm_iloadn hG dX5_passQuarter_102 rfl ?_
        obtain ⟨j15, hj15, hE⟩ := fb_some hE
        refine fx_iast hG dX5_passQuarter_103 rfl hj15 ?_
        refine ca_43 ?_
        refine fx_letc hE (fun S16 hE => ?_)
        refine pm_aloadn hG dX5_passQuarter_104 rfl ?_
        refine pm_getf hG dX5_passQuarter_105 (flX5_15 _ rfl) rfl rfl ?_
        refine pm_iloadn hG dX5_passQuarter_108 rfl ?_
        refine pm_iloadi hG dX5_passQuarter_109 rfl ?_
        refine fx_iast hG dX5_passQuarter_111 rfl hj15 ?_
        refine ca_44 ?_
        refine fx_letc hE (fun S17 hE => ?_)
        refine pm_iincX (v := x1_2 + (-1)) (loc' := [some (.ref (B + 42)), some (.int za), some (.int (x1_2 + (-1))), some (.int x14_3), some (.int x14_4), some (.int x14_5), none, none]) hG dX5_passQuarter_112 rfl (by rfl) (by decide) (pm_c1b rfl) rfl ?_
        refine pm_goto (tgt := 3) hG dX5_passQuarter_115 rfl ?_
        refine pm_fg 3 (loc' := [some (.ref (B + 42)), some (.int za), some (.int (x1_2 + (-1))), none, some (.int x14_4), some (.int x14_5), none, none]) rfl ?_
        refine pm_fg 4 (loc' := [some (.ref (B + 42)), some (.int za), some (.int (x1_2 + (-1))), none, none, some (.int x14_5), none, none]) rfl ?_
        refine pm_fg 5 (loc' := [some (.ref (B + 42)), some (.int za), some (.int (x1_2 + (-1))), none, none, none, none, none]) rfl ?_
        exact ih3 _ _ hE
  refine loop3 _ (fun S18 x18_2 hE => ?_) _ _ _ hE
  exact pm_vret hG hF dX5_passQuarter_118 rfl (Nat.le_refl _) (Nat.le_refl _) (fx_rvc hE)

set_option maxRecDepth 100000 in
set_option maxHeartbeats 4000000 in
theorem c_X5_findBest {d : Nat} {B cnt : Nat} {kp : Value} {ρ : pm_S} {S : FS} {R : Int32 × FS} (hdd : 1 ≤ d) (hE : f_X5_findBest S = some R) : pm_met mX5_findBest d 0 0 B [.ref (B + 42)] cnt (cst B kp S ρ) (pm_Qi (fun v σ' cnt' => v = R.1 ∧ σ' = (cst B kp R.2 ρ) ∧ cnt' = cnt)) := by
  refine pm_enter 4 (by decide) (Nat.le_of_ble_eq_true rfl) rfl (fun G hG hR hF => ?_)
  unfold f_X5_findBest at hE
  refine pm_iconst (v := 0) hG dX5_findBest_0 (by decide) ?_
  refine pm_istoreXn (loc' := [some (.ref (B + 42)), some (.int 0), none, none, none]) hG dX5_findBest_1 (by decide) (pm_c1b rfl) rfl ?_
  refine pm_iconst (v := 0) hG dX5_findBest_2 (by decide) ?_
  refine pm_istoreXn (loc' := [some (.ref (B + 42)), some (.int 0), some (.int 0), none, none]) hG dX5_findBest_3 (by decide) (pm_c1b rfl) rfl ?_
  have loop4 : ∀ (k4 : FS → Int32 → Int32 → Option (Int32 × FS)), (∀ (S1 : FS) (x1_1 : Int32) (x1_2 : Int32), k4 S1  x1_1 x1_2 = some R → pm_wp mX5_findBest G B 104 [some (.ref (B + 42)), some (.int x1_1), some (.int x1_2), none, none] [] 0 0 cnt (cst B kp S1 ρ)) → ∀ (m4 : Nat) (S1 : FS) (x1_1 : Int32) (x1_2 : Int32), l_X5_findBest_4 k4 m4 S1  x1_1 x1_2 = some R → pm_wp mX5_findBest G B 4 [some (.ref (B + 42)), some (.int x1_1), some (.int x1_2), none, none] [] 0 0 cnt (cst B kp S1 ρ) := by
    intro k4 hk4 m4
    induction m4 with
    | zero => intro S1  x1_1 x1_2 hE; exact fx_no hE
    | succ m4 ih4 =>
      intro S1  x1_1 x1_2 hE
      rw [l_X5_findBest_4] at hE
      refine pm_iloadn hG dX5_findBest_4 rfl ?_
      refine pm_bipush (v := 64) hG dX5_findBest_5 (by decide) ?_
      refine pm_icmp_ge (tgt := 104) hG dX5_findBest_7 rfl (fun c2 => ?_) (fun c2 => ?_)
      · replace c2 := Int32.not_lt.mpr c2
        replace hE := fx_f c2 hE
        exact hk4 _ _ _ hE
      · replace c2 := Int32.not_le.mp c2
        replace hE := fx_t c2 hE
        refine pm_aloadn hG dX5_findBest_10 rfl ?_
        refine pm_getf hG dX5_findBest_11 (flX5_11 _ rfl) rfl rfl ?_
        refine pm_iloadn hG dX5_findBest_14 rfl ?_
        obtain ⟨j3, hj3, hE⟩ := fb_some hE
        refine fx_iald hG dX5_findBest_15 rfl hj3 ?_
        refine pm_bipush (v := 8) hG dX5_findBest_16 (by decide) ?_
        refine pm_aloadn hG dX5_findBest_18 rfl ?_
        refine pm_getf hG dX5_findBest_19 (flX5_18 _ rfl) rfl rfl ?_
        refine pm_iloadn hG dX5_findBest_22 rfl ?_
        refine fx_iald hG dX5_findBest_23 rfl hj3 ?_
        refine pm_imul hG dX5_findBest_24 ?_
        refine pm_iadd hG dX5_findBest_25 ?_
        refine fx_letv hE (fun x4 hE => ?_)
        refine pm_istoreXn (loc' := [some (.ref (B + 42)), some (.int x1_1), some (.int x1_2), some (.int x4), none]) hG dX5_findBest_26 (by decide) (pm_c1b rfl) rfl ?_
        refine pm_iloadn hG dX5_findBest_27 rfl ?_
        refine pm_if_eq (tgt := 60) hG dX5_findBest_28 rfl (fun c5 => ?_) (fun c5 => ?_)
        · replace hE := fx_t c5 hE
          refine pm_iconst (v := 1) hG dX5_findBest_60 (by decide) ?_
          refine pm_goto (tgt := 65) hG dX5_findBest_61 rfl ?_
          refine pm_istoreXi (loc' := [some (.ref (B + 42)), some (.int x1_1), some (.int x1_2), some (.int x4), some (.int 1)]) hG dX5_findBest_65 (by decide) (pm_c1b rfl) rfl ?_
          refine pm_aloadn hG dX5_findBest_67 rfl ?_
          refine pm_getf hG dX5_findBest_68 (flX5_11 _ rfl) rfl rfl ?_
          refine pm_iloadn hG dX5_findBest_71 rfl ?_
          refine fx_iald hG dX5_findBest_72 rfl hj3 ?_
          refine pm_if_lt (tgt := 98) hG dX5_findBest_73 rfl (fun c6 => ?_) (fun c6 => ?_)
          · replace hE := fx_t c6 hE
            refine pm_iincX (v := x1_2 + 1) (loc' := [some (.ref (B + 42)), some (.int x1_1), some (.int (x1_2 + 1)), some (.int x4), some (.int 1)]) hG dX5_findBest_98 rfl (by rfl) (by decide) (pm_c1b rfl) rfl ?_
            refine pm_goto (tgt := 4) hG dX5_findBest_101 rfl ?_
            refine pm_fg 3 (loc' := [some (.ref (B + 42)), some (.int x1_1), some (.int (x1_2 + 1)), none, some (.int 1)]) rfl ?_
            refine pm_fg 4 (loc' := [some (.ref (B + 42)), some (.int x1_1), some (.int (x1_2 + 1)), none, none]) rfl ?_
            exact ih4 _ _ _ hE
          · replace hE := fx_f c6 hE
            refine pm_iloadi hG dX5_findBest_76 rfl ?_
            refine pm_if_eq (tgt := 98) hG dX5_findBest_78 rfl (fun q => absurd q (by decide)) (fun _ => ?_)
            refine pm_iconst (v := 1) hG dX5_findBest_81 (by decide) ?_
            refine pm_istoreXn (loc' := [some (.ref (B + 42)), some (.int 1), some (.int x1_2), some (.int x4), some (.int 1)]) hG dX5_findBest_82 (by decide) (pm_c1b rfl) rfl ?_
            refine pm_aloadn hG dX5_findBest_83 rfl ?_
            refine pm_iloadn hG dX5_findBest_84 rfl ?_
            refine pm_putf hG dX5_findBest_85 (fwX5_70 _ rfl) rfl rfl rfl ?_
            refine ci_113 ?_
            refine fx_letc hE (fun S7 hE => ?_)
            refine pm_aloadn hG dX5_findBest_88 rfl ?_
            refine pm_aloadn hG dX5_findBest_89 rfl ?_
            refine pm_getf hG dX5_findBest_90 (flX5_15 _ rfl) rfl rfl ?_
            refine pm_iloadn hG dX5_findBest_93 rfl ?_
            refine fx_iald hG dX5_findBest_94 rfl hj3 ?_
            refine pm_putf hG dX5_findBest_95 (fwX5_73 _ rfl) rfl rfl rfl ?_
            refine ci_114 ?_
            refine fx_letc hE (fun S8 hE => ?_)
            refine pm_iincX (v := x1_2 + 1) (loc' := [some (.ref (B + 42)), some (.int 1), some (.int (x1_2 + 1)), some (.int x4), some (.int 1)]) hG dX5_findBest_98 rfl (by rfl) (by decide) (pm_c1b rfl) rfl ?_
            refine pm_goto (tgt := 4) hG dX5_findBest_101 rfl ?_
            refine pm_fg 3 (loc' := [some (.ref (B + 42)), some (.int 1), some (.int (x1_2 + 1)), none, some (.int 1)]) rfl ?_
            refine pm_fg 4 (loc' := [some (.ref (B + 42)), some (.int 1), some (.int (x1_2 + 1)), none, none]) rfl ?_
            exact ih4 _ _ _ hE
        · replace hE := fx_f c5 hE
          refine pm_iloadn hG dX5_findBest_31 rfl ?_
          refine pm_aloadn hG dX5_findBest_32 rfl ?_
          refine pm_getf hG dX5_findBest_33 (flX5_70 _ rfl) rfl rfl ?_
          refine pm_icmp_gt (tgt := 60) hG dX5_findBest_36 rfl (fun c9 => ?_) (fun c9 => ?_)
          · replace hE := fx_t c9 hE
            refine pm_iconst (v := 1) hG dX5_findBest_60 (by decide) ?_
            refine pm_goto (tgt := 65) hG dX5_findBest_61 rfl ?_
            refine pm_istoreXi (loc' := [some (.ref (B + 42)), some (.int x1_1), some (.int x1_2), some (.int x4), some (.int 1)]) hG dX5_findBest_65 (by decide) (pm_c1b rfl) rfl ?_
            refine pm_aloadn hG dX5_findBest_67 rfl ?_
            refine pm_getf hG dX5_findBest_68 (flX5_11 _ rfl) rfl rfl ?_
            refine pm_iloadn hG dX5_findBest_71 rfl ?_
            refine fx_iald hG dX5_findBest_72 rfl hj3 ?_
            refine pm_if_lt (tgt := 98) hG dX5_findBest_73 rfl (fun c10 => ?_) (fun c10 => ?_)
            · replace hE := fx_t c10 hE
              refine pm_iincX (v := x1_2 + 1) (loc' := [some (.ref (B + 42)), some (.int x1_1), some (.int (x1_2 + 1)), some (.int x4), some (.int 1)]) hG dX5_findBest_98 rfl (by rfl) (by decide) (pm_c1b rfl) rfl ?_
              refine pm_goto (tgt := 4) hG dX5_findBest_101 rfl ?_
              refine pm_fg 3 (loc' := [some (.ref (B + 42)), some (.int x1_1), some (.int (x1_2 + 1)), none, some (.int 1)]) rfl ?_
              refine pm_fg 4 (loc' := [some (.ref (B + 42)), some (.int x1_1), some (.int (x1_2 + 1)), none, none]) rfl ?_
              exact ih4 _ _ _ hE
            · replace hE := fx_f c10 hE
              refine pm_iloadi hG dX5_findBest_76 rfl ?_
              refine pm_if_eq (tgt := 98) hG dX5_findBest_78 rfl (fun q => absurd q (by decide)) (fun _ => ?_)
              refine pm_iconst (v := 1) hG dX5_findBest_81 (by decide) ?_
              refine pm_istoreXn (loc' := [some (.ref (B + 42)), some (.int 1), some (.int x1_2), some (.int x4), some (.int 1)]) hG dX5_findBest_82 (by decide) (pm_c1b rfl) rfl ?_
              refine pm_aloadn hG dX5_findBest_83 rfl ?_
              refine pm_iloadn hG dX5_findBest_84 rfl ?_
              refine pm_putf hG dX5_findBest_85 (fwX5_70 _ rfl) rfl rfl rfl ?_
              refine ci_113 ?_
              refine fx_letc hE (fun S11 hE => ?_)
              refine pm_aloadn hG dX5_findBest_88 rfl ?_
              refine pm_aloadn hG dX5_findBest_89 rfl ?_
              refine pm_getf hG dX5_findBest_90 (flX5_15 _ rfl) rfl rfl ?_
              refine pm_iloadn hG dX5_findBest_93 rfl ?_
              refine fx_iald hG dX5_findBest_94 rfl hj3 ?_
              refine pm_putf hG dX5_findBest_95 (fwX5_73 _ rfl) rfl rfl rfl ?_
              refine ci_114 ?_
              refine fx_letc hE (fun S12 hE => ?_)
              refine pm_iincX (v := x1_2 + 1) (loc' := [some (.ref (B + 42)), some (.int 1), some (.int (x1_2 + 1)), some (.int x4), some (.int 1)]) hG dX5_findBest_98 rfl (by rfl) (by decide) (pm_c1b rfl) rfl ?_
              refine pm_goto (tgt := 4) hG dX5_findBest_101 rfl ?_
              refine pm_fg 3 (loc' := [some (.ref (B + 42)), some (.int 1), some (.int (x1_2 + 1)), none, some (.int 1)]) rfl ?_
              refine pm_fg 4 (loc' := [some (.ref (B + 42)), some (.int 1), some (.int (x1_2 + 1)), none, none]) rfl ?_
              exact ih4 _ _ _ hE
          · replace hE := fx_f c9 hE
            refine pm_iloadn hG dX5_findBest_39 rfl ?_
            refine pm_aloadn hG dX5_findBest_40 rfl ?_
            refine pm_getf hG dX5_findBest_41 (flX5_70 _ rfl) rfl rfl ?_
            refine pm_icmp_ne (tgt := 64) hG dX5_findBest_44 rfl (fun c13 => ?_) (fun c13 => ?_)
            · replace hE := fx_f c13 hE
              refine pm_iconst (v := 0) hG dX5_findBest_64 (by decide) ?_
              refine pm_istoreXi (loc' := [some (.ref (B + 42)), some (.int x1_1), some (.int x1_2), some (.int x4), some (.int 0)]) hG dX5_findBest_65 (by decide) (pm_c1b rfl) rfl ?_
              refine pm_aloadn hG dX5_findBest_67 rfl ?_
              refine pm_getf hG dX5_findBest_68 (flX5_11 _ rfl) rfl rfl ?_
              refine pm_iloadn hG dX5_findBest_71 rfl ?_
              refine fx_iald hG dX5_findBest_72 rfl hj3 ?_
              refine pm_if_lt (tgt := 98) hG dX5_findBest_73 rfl (fun c14 => ?_) (fun c14 => ?_)
              · replace hE := fx_t c14 hE
                refine pm_iincX (v := x1_2 + 1) (loc' := [some (.ref (B + 42)), some (.int x1_1), some (.int (x1_2 + 1)), some (.int x4), some (.int 0)]) hG dX5_findBest_98 rfl (by rfl) (by decide) (pm_c1b rfl) rfl ?_
                refine pm_goto (tgt := 4) hG dX5_findBest_101 rfl ?_
                refine pm_fg 3 (loc' := [some (.ref (B + 42)), some (.int x1_1), some (.int (x1_2 + 1)), none, some (.int 0)]) rfl ?_
                refine pm_fg 4 (loc' := [some (.ref (B + 42)), some (.int x1_1), some (.int (x1_2 + 1)), none, none]) rfl ?_
                exact ih4 _ _ _ hE
              · replace hE := fx_f c14 hE
                refine pm_iloadi hG dX5_findBest_76 rfl ?_
                refine pm_if_eq (tgt := 98) hG dX5_findBest_78 rfl (fun _ => ?_) (fun q => absurd q (by decide))
                refine pm_iincX (v := x1_2 + 1) (loc' := [some (.ref (B + 42)), some (.int x1_1), some (.int (x1_2 + 1)), some (.int x4), some (.int 0)]) hG dX5_findBest_98 rfl (by rfl) (by decide) (pm_c1b rfl) rfl ?_
                refine pm_goto (tgt := 4) hG dX5_findBest_101 rfl ?_
                refine pm_fg 3 (loc' := [some (.ref (B + 42)), some (.int x1_1), some (.int (x1_2 + 1)), none, some (.int 0)]) rfl ?_
                refine pm_fg 4 (loc' := [some (.ref (B + 42)), some (.int x1_1), some (.int (x1_2 + 1)), none, none]) rfl ?_
                exact ih4 _ _ _ hE
            · replace hE := fx_t c13 hE
              refine pm_aloadn hG dX5_findBest_47 rfl ?_
              refine pm_getf hG dX5_findBest_48 (flX5_15 _ rfl) rfl rfl ?_
              refine pm_iloadn hG dX5_findBest_51 rfl ?_
              refine fx_iald hG dX5_findBest_52 rfl hj3 ?_
              refine pm_aloadn hG dX5_findBest_53 rfl ?_
              refine pm_getf hG dX5_findBest_54 (flX5_73 _ rfl) rfl rfl ?_
              refine pm_icmp_ge (tgt := 64) hG dX5_findBest_57 rfl (fun c15 => ?_) (fun c15 => ?_)
              · replace c15 := Int32.not_lt.mpr c15
                replace hE := fx_f c15 hE
                refine pm_iconst (v := 0) hG dX5_findBest_64 (by decide) ?_
                refine pm_istoreXi (loc' := [some (.ref (B + 42)), some (.int x1_1), some (.int x1_2), some (.int x4), some (.int 0)]) hG dX5_findBest_65 (by decide) (pm_c1b rfl) rfl ?_
                refine pm_aloadn hG dX5_findBest_67 rfl ?_
                refine pm_getf hG dX5_findBest_68 (flX5_11 _ rfl) rfl rfl ?_
                refine pm_iloadn hG dX5_findBest_71 rfl ?_
                refine fx_iald hG dX5_findBest_72 rfl hj3 ?_
                refine pm_if_lt (tgt := 98) hG dX5_findBest_73 rfl (fun c16 => ?_) (fun c16 => ?_)
                · replace hE := fx_t c16 hE
                  refine pm_iincX (v := x1_2 + 1) (loc' := [some (.ref (B + 42)), some (.int x1_1), some (.int (x1_2 + 1)), some (.int x4), some (.int 0)]) hG dX5_findBest_98 rfl (by rfl) (by decide) (pm_c1b rfl) rfl ?_
                  refine pm_goto (tgt := 4) hG dX5_findBest_101 rfl ?_
                  refine pm_fg 3 (loc' := [some (.ref (B + 42)), some (.int x1_1), some (.int (x1_2 + 1)), none, some (.int 0)]) rfl ?_
                  refine pm_fg 4 (loc' := [some (.ref (B + 42)), some (.int x1_1), some (.int (x1_2 + 1)), none, none]) rfl ?_
                  exact ih4 _ _ _ hE
                · replace hE := fx_f c16 hE
                  refine pm_iloadi hG dX5_findBest_76 rfl ?_
                  refine pm_if_eq (tgt := 98) hG dX5_findBest_78 rfl (fun _ => ?_) (fun q => absurd q (by decide))
                  refine pm_iincX (v := x1_2 + 1) (loc' := [some (.ref (B + 42)), some (.int x1_1), some (.int (x1_2 + 1)), some (.int x4), some (.int 0)]) hG dX5_findBest_98 rfl (by rfl) (by decide) (pm_c1b rfl) rfl ?_
                  refine pm_goto (tgt := 4) hG dX5_findBest_101 rfl ?_
                  refine pm_fg 3 (loc' := [some (.ref (B + 42)), some (.int x1_1), some (.int (x1_2 + 1)), none, some (.int 0)]) rfl ?_
                  refine pm_fg 4 (loc' := [some (.ref (B + 42)), some (.int x1_1), some (.int (x1_2 + 1)), none, none]) rfl ?_
                  exact ih4 _ _ _ hE
              · replace c15 := Int32.not_le.mp c15
                replace hE := fx_t c15 hE
                refine pm_iconst (v := 1) hG dX5_findBest_60 (by decide) ?_
                refine pm_goto (tgt := 65) hG dX5_findBest_61 rfl ?_
                refine pm_istoreXi (loc' := [some (.ref (B + 42)), some (.int x1_1), some (.int x1_2), some (.int x4), some (.int 1)]) hG dX5_findBest_65 (by decide) (pm_c1b rfl) rfl ?_
                refine pm_aloadn hG dX5_findBest_67 rfl ?_
                refine pm_getf hG dX5_findBest_68 (flX5_11 _ rfl) rfl rfl ?_
                refine pm_iloadn hG dX5_findBest_71 rfl ?_
                refine fx_iald hG dX5_findBest_72 rfl hj3 ?_
                refine pm_if_lt (tgt := 98) hG dX5_findBest_73 rfl (fun c17 => ?_) (fun c17 => ?_)
                · replace hE := fx_t c17 hE
                  refine pm_iincX (v := x1_2 + 1) (loc' := [some (.ref (B + 42)), some (.int x1_1), some (.int (x1_2 + 1)), some (.int x4), some (.int 1)]) hG dX5_findBest_98 rfl (by rfl) (by decide) (pm_c1b rfl) rfl ?_
                  refine pm_goto (tgt := 4) hG dX5_findBest_101 rfl ?_
                  refine pm_fg 3 (loc' := [some (.ref (B + 42)), some (.int x1_1), some (.int (x1_2 + 1)), none, some (.int 1)]) rfl ?_
                  refine pm_fg 4 (loc' := [some (.ref (B + 42)), some (.int x1_1), some (.int (x1_2 + 1)), none, none]) rfl ?_
                  exact ih4 _ _ _ hE
                · replace hE := fx_f c17 hE
                  refine pm_iloadi hG dX5_findBest_76 rfl ?_
                  refine pm_if_eq (tgt := 98) hG dX5_findBest_78 rfl (fun q => absurd q (by decide)) (fun _ => ?_)
                  refine pm_iconst (v := 1) hG dX5_findBest_81 (by decide) ?_
                  refine pm_istoreXn (loc' := [some (.ref (B + 42)), some (.int 1), some (.int x1_2), some (.int x4), some (.int 1)]) hG dX5_findBest_82 (by decide) (pm_c1b rfl) rfl ?_
                  refine pm_aloadn hG dX5_findBest_83 rfl ?_
                  refine pm_iloadn hG dX5_findBest_84 rfl ?_
                  refine pm_putf hG dX5_findBest_85 (fwX5_70 _ rfl) rfl rfl rfl ?_
                  refine ci_113 ?_
                  refine fx_letc hE (fun S18 hE => ?_)
                  refine pm_aloadn hG dX5_findBest_88 rfl ?_
                  refine pm_aloadn hG dX5_findBest_89 rfl ?_
                  refine pm_getf hG dX5_findBest_90 (flX5_15 _ rfl) rfl rfl ?_
                  refine pm_iloadn hG dX5_findBest_93 rfl ?_
                  refine fx_iald hG dX5_findBest_94 rfl hj3 ?_
                  refine pm_putf hG dX5_findBest_95 (fwX5_73 _ rfl) rfl rfl rfl ?_
                  refine ci_114 ?_
                  refine fx_letc hE (fun S19 hE => ?_)
                  refine pm_iincX (v := x1_2 + 1) (loc' := [some (.ref (B + 42)), some (.int 1), some (.int (x1_2 + 1)), some (.int x4), some (.int 1)]) hG dX5_findBest_98 rfl (by rfl) (by decide) (pm_c1b rfl) rfl ?_
                  refine pm_goto (tgt := 4) hG dX5_findBest_101 rfl ?_
                  refine pm_fg 3 (loc' := [some (.ref (B + 42)), some (.int 1), some (.int (x1_2 + 1)), none, some (.int 1)]) rfl ?_
                  refine pm_fg 4 (loc' := [some (.ref (B + 42)), some (.int 1), some (.int (x1_2 + 1)), none, none]) rfl ?_
                  exact ih4 _ _ _ hE
  refine loop4 _ (fun S20 x20_1 x20_2 hE => ?_) _ _ _ _ hE
  refine pm_iloadn hG dX5_findBest_104 rfl ?_
  obtain ⟨b21, hb21, hE⟩ := fb_some hE
  exact pm_zret hG hF dX5_findBest_105 rfl (bz_n hb21) (Nat.le_refl _) (Nat.le_refl _) (fx_rbc hb21 hE)

set_option maxRecDepth 100000 in
set_option maxHeartbeats 4000000 in
theorem c_X5_pledgedIn {d : Nat} {B cnt : Nat} {kp : Value} {ρ : pm_S} {S : FS} {za : Int32} {zb : Int32} {R : Int32} (hdd : 1 ≤ d) (hE : q_X5_pledgedIn S za zb = some R) : pm_met mX5_pledgedIn d 0 0 B [.ref (B + 42), .int za, .int zb] cnt (cst B kp S ρ) (pm_Qi (fun v σ' cnt' => v = R ∧ σ' = (cst B kp S ρ) ∧ cnt' = cnt)) := by
  refine pm_enter 2 (by decide) (Nat.le_of_ble_eq_true rfl) rfl (fun G hG hR hF => ?_)
  unfold q_X5_pledgedIn at hE
  refine pm_aloadn hG dX5_pledgedIn_0 rfl ?_
  refine pm_getf hG dX5_pledgedIn_1 (flX5_73 _ rfl) rfl rfl ?_
  refine fx_letv hE (fun x1 hE => ?_)
  refine pm_istoreXn (loc' := [some (.ref (B + 42)), some (.int za), some (.int zb), some (.int x1), none]) hG dX5_pledgedIn_4 (by decide) (pm_c1b rfl) rfl ?_
  refine pm_iloadn hG dX5_pledgedIn_5 rfl ?_
  refine pm_iconst (v := 1) hG dX5_pledgedIn_6 (by decide) ?_
  refine pm_isub hG dX5_pledgedIn_7 ?_
  refine fx_letv hE (fun x2 hE => ?_)
  refine pm_istoreXi (loc' := [some (.ref (B + 42)), some (.int za), some (.int zb), some (.int x1), some (.int x2)]) hG dX5_pledgedIn_8 (by decide) (pm_c1b rfl) rfl ?_
  have loop10 : ∀ (k10 : Int32 → Int32 → Option Int32), (∀  (x3_3 : Int32) (x3_4 : Int32), k10  x3_3 x3_4 = some R → pm_wp mX5_pledgedIn G B 27 [some (.ref (B + 42)), some (.int za), some (.int zb), some (.int x3_3), some (.int x3_4)] [] 0 0 cnt (cst B kp S ρ)) → ∀ (m10 : Nat)  (x3_3 : Int32) (x3_4 : Int32), l_X5_pledgedIn_10 za k10 m10  x3_3 x3_4 = some R → pm_wp mX5_pledgedIn G B 10 [some (.ref (B + 42)), some (.int za), some (.int zb), some (.int x3_3), some (.int x3_4)] [] 0 0 cnt (cst B kp S ρ) := by
    intro k10 hk10 m10
    induction m10 with
    | zero => intro  x3_3 x3_4 hE; exact fx_no hE
    | succ m10 ih10 =>
      intro  x3_3 x3_4 hE
      rw [l_X5_pledgedIn_10] at hE
      refine pm_iloadi hG dX5_pledgedIn_10 rfl ?_
      refine pm_iloadn hG dX5_pledgedIn_12 rfl ?_
      refine pm_icmp_le (tgt := 27) hG dX5_pledgedIn_13 rfl (fun c4 => ?_) (fun c4 => ?_)
      · replace c4 := Int32.not_lt.mpr c4
        replace hE := fx_f c4 hE
        exact hk10 _ _ hE
      · replace c4 := Int32.not_le.mp c4
        replace hE := fx_t c4 hE
        refine pm_iloadn hG dX5_pledgedIn_16 rfl ?_
        refine pm_bipush (v := 7) hG dX5_pledgedIn_17 (by decide) ?_
        refine pm_idiv hG dX5_pledgedIn_19 (by decide) ?_
        refine fx_letv hE (fun x5 hE => ?_)
        refine pm_istoreXn (loc' := [some (.ref (B + 42)), some (.int za), some (.int zb), some (.int x5), some (.int x3_4)]) hG dX5_pledgedIn_20 (by decide) (pm_c1b rfl) rfl ?_
        refine pm_iincX (v := x3_4 + (-1)) (loc' := [some (.ref (B + 42)), some (.int za), some (.int zb), some (.int x5), some (.int (x3_4 + (-1)))]) hG dX5_pledgedIn_21 rfl (by rfl) (by decide) (pm_c1b rfl) rfl ?_
        refine pm_goto (tgt := 10) hG dX5_pledgedIn_24 rfl ?_
        exact ih10 _ _ hE
  refine loop10 _ (fun  x6_3 x6_4 hE => ?_) _ _ _ hE
  refine pm_iloadn hG dX5_pledgedIn_27 rfl ?_
  refine pm_bipush (v := 7) hG dX5_pledgedIn_28 (by decide) ?_
  refine pm_irem hG dX5_pledgedIn_30 (by decide) ?_
  refine pm_iconst (v := 1) hG dX5_pledgedIn_31 (by decide) ?_
  refine pm_isub hG dX5_pledgedIn_32 ?_
  exact pm_iret hG hF dX5_pledgedIn_33 rfl (Nat.le_refl _) (Nat.le_refl _) (fx_pi (Option.some.inj hE))

set_option maxRecDepth 100000 in
set_option maxHeartbeats 4000000 in
theorem c_X11_plan {d : Nat} {B cnt : Nat} {kp : Value} {ρ : pm_S} {S : FS} {za : Int32} {zb : Int32} {R : Int32 × FS} (hdd : 4 ≤ d) (hE : f_X11_plan S za zb = some R) : pm_met mX11_plan d 0 0 B [.ref (B + 0), .int za, .int zb] cnt (cst B kp S ρ) (pm_Qi (fun v σ' cnt' => v = R.1 ∧ σ' = (cst B kp R.2 ρ) ∧ cnt' = cnt)) := by
  refine pm_enter 2 (by decide) (Nat.le_of_ble_eq_true rfl) rfl (fun G hG hR hF => ?_)
  unfold f_X11_plan at hE
  refine pm_aloadn hG dX11_plan_0 rfl ?_
  refine pm_getf hG dX11_plan_1 (flX11_74 _ rfl) rfl rfl ?_
  refine pm_iloadn hG dX11_plan_4 rfl ?_
  refine pm_callV (As := [.int za]) (rest := []) hG hR dX11_plan_5 (lkX11_251 _ rfl) okV_X8_has rfl rfl (c_X8_has (d := 3) (by decide) rfl) rfl rfl hdd (Nat.le_refl _) (Nat.le_refl _) (by decide) (fx_ki ?_)
  refine pm_if_ne (tgt := 18) hG dX11_plan_8 rfl (fun c1 => ?_) (fun c1 => ?_)
  · replace hE := fx_f c1 hE
    refine pm_aloadn hG dX11_plan_18 rfl ?_
    refine pm_getf hG dX11_plan_19 (flX11_74 _ rfl) rfl rfl ?_
    refine pm_iloadn hG dX11_plan_22 rfl ?_
    obtain ⟨x3, h2, hE⟩ := fb_some hE
    refine pm_callV (As := [.int za]) (rest := []) hG hR dX11_plan_23 (lkX11_255 _ rfl) okV_X8_isMissing rfl rfl (c_X8_isMissing (d := 3) (by decide) h2) rfl rfl hdd (Nat.le_refl _) (Nat.le_refl _) (by decide) (fx_ki ?_)
    refine pm_if_eq (tgt := 36) hG dX11_plan_26 rfl (fun c4 => ?_) (fun c4 => ?_)
    · replace hE := fx_t c4 hE
      refine pm_aloadn hG dX11_plan_36 rfl ?_
      refine pm_getf hG dX11_plan_37 (flX11_74 _ rfl) rfl rfl ?_
      refine pm_iloadn hG dX11_plan_40 rfl ?_
      obtain ⟨x6, h5, hE⟩ := fb_some hE
      refine pm_callV (As := [.int za]) (rest := []) hG hR dX11_plan_41 (lkX11_261 _ rfl) okV_X8_sizeOf rfl rfl (c_X8_sizeOf (d := 3) (by decide) h5) rfl rfl hdd (Nat.le_refl _) (Nat.le_refl _) (by decide) (fx_ki ?_)
      refine pm_istoreXn (loc' := [some (.ref (B + 0)), some (.int za), some (.int zb), some (.int x6), none]) hG dX11_plan_44 (by decide) (pm_c1b rfl) rfl ?_
      refine pm_iloadn hG dX11_plan_45 rfl ?_
      refine pm_iconst (v := 1) hG dX11_plan_46 (by decide) ?_
      refine pm_bipush (v := 8) hG dX11_plan_47 (by decide) ?_
      refine pm_callS (As := [.int x6, .int 1, .int 8]) (rest := []) hG hR dX11_plan_49 (lkX11_105 _ rfl) okS_X11_isOutside (tOut (d := 3)) rfl rfl hdd (Nat.le_refl _) (Nat.le_refl _) (by decide) (fx_ki ?_)
      refine pm_if_ne (tgt := 81) hG dX11_plan_52 rfl (fun c7 => ?_) (fun c7 => ?_)
      · replace hE := fx_f c7 hE
        refine pm_aloadn hG dX11_plan_81 rfl ?_
        refine pm_ldc hG dX11_plan_82 (ctX11_109 _ rfl) ?_
        obtain ⟨r9, h8, hE⟩ := fb_some hE
        refine pm_callV (As := [.int (-1000001)]) (rest := []) hG hR dX11_plan_84 (lkX11_97 _ rfl) okV_X11_told rfl rfl (c_X11_told (d := 3) (by decide) h8) rfl rfl hdd (Nat.le_refl _) (Nat.le_refl _) (by decide) (fx_ki ?_)
        exact pm_iret hG hF dX11_plan_87 rfl (Nat.le_refl _) (Nat.le_refl _) (fx_ric hE)
      · replace hE := fx_t c7 hE
        refine pm_aloadn hG dX11_plan_55 rfl ?_
        refine pm_getf hG dX11_plan_56 (flX11_74 _ rfl) rfl rfl ?_
        refine pm_iloadn hG dX11_plan_59 rfl ?_
        refine pm_iconst (v := 0) hG dX11_plan_60 (by decide) ?_
        refine pm_sipush (v := 9999) hG dX11_plan_61 (by decide) ?_
        obtain ⟨x11, h10, hE⟩ := fb_some hE
        refine pm_callV (As := [.int za, .int 0, .int 9999]) (rest := []) hG hR dX11_plan_64 (lkX11_264 _ rfl) okV_X8_areAllWithin rfl rfl (c_X8_areAllWithin (d := 3) (by decide) h10) rfl rfl hdd (Nat.le_refl _) (Nat.le_refl _) (by decide) (fx_ki ?_)
        refine pm_if_eq (tgt := 81) hG dX11_plan_67 rfl (fun c12 => ?_) (fun c12 => ?_)
        · replace hE := fx_t c12 hE
          refine pm_aloadn hG dX11_plan_81 rfl ?_
          refine pm_ldc hG dX11_plan_82 (ctX11_109 _ rfl) ?_
          obtain ⟨r14, h13, hE⟩ := fb_some hE
          refine pm_callV (As := [.int (-1000001)]) (rest := []) hG hR dX11_plan_84 (lkX11_97 _ rfl) okV_X11_told rfl rfl (c_X11_told (d := 3) (by decide) h13) rfl rfl hdd (Nat.le_refl _) (Nat.le_refl _) (by decide) (fx_ki ?_)
          exact pm_iret hG hF dX11_plan_87 rfl (Nat.le_refl _) (Nat.le_refl _) (fx_ric hE)
        · replace hE := fx_f c12 hE
          refine pm_iloadn hG dX11_plan_70 rfl ?_
          refine pm_iconst (v := (-1)) hG dX11_plan_71 (by decide) ?_
          refine pm_iloadn hG dX11_plan_72 rfl ?_
          refine pm_iconst (v := 1) hG dX11_plan_73 (by decide) ?_
          refine pm_isub hG dX11_plan_74 ?_
          refine pm_callS (As := [.int zb, .int (-1), .int (x6 - 1)]) (rest := []) hG hR dX11_plan_75 (lkX11_105 _ rfl) okS_X11_isOutside (tOut (d := 3)) rfl rfl hdd (Nat.le_refl _) (Nat.le_refl _) (by decide) (fx_ki ?_)
          refine pm_if_eq (tgt := 88) hG dX11_plan_78 rfl (fun c15 => ?_) (fun c15 => ?_)
          · replace hE := fx_t c15 hE
            refine pm_aloadn hG dX11_plan_88 rfl ?_
            refine pm_getf hG dX11_plan_89 (flX11_60 _ rfl) rfl rfl ?_
            obtain ⟨r17, h16, hE⟩ := fb_some hE
            refine pm_callV (As := []) (rest := []) hG hR dX11_plan_92 (lkX11_335 _ rfl) okV_X5_begin rfl rfl (c_X5_begin (d := 3) (by decide) h16) rfl rfl hdd (Nat.le_refl _) (Nat.le_refl _) (by decide) (fx_kv ?_)
            refine pm_iconst (v := 0) hG dX11_plan_95 (by decide) ?_
            refine pm_istoreXi (loc' := [some (.ref (B + 0)), some (.int za), some (.int zb), some (.int x6), some (.int 0)]) hG dX11_plan_96 (by decide) (pm_c1b rfl) rfl ?_
            have loop98 : ∀ (k98 : FS → Int32 → Option (Int32 × FS)), (∀ (S18 : FS) (x18_4 : Int32), k98 S18  x18_4 = some R → pm_wp mX11_plan G B 127 [some (.ref (B + 0)), some (.int za), some (.int zb), some (.int x6), some (.int x18_4)] [] 0 0 cnt (cst B kp S18 ρ)) → ∀ (m98 : Nat) (S18 : FS) (x18_4 : Int32), l_X11_plan_98 za x6 k98 m98 S18  x18_4 = some R → pm_wp mX11_plan G B 98 [some (.ref (B + 0)), some (.int za), some (.int zb), some (.int x6), some (.int x18_4)] [] 0 0 cnt (cst B kp S18 ρ) := by
              intro k98 hk98 m98
              induction m98 with
              | zero => intro S18  x18_4 hE; exact fx_no hE
              | succ m98 ih98 =>
                intro S18  x18_4 hE
                rw [l_X11_plan_98] at hE
                refine pm_iloadi hG dX11_plan_98 rfl ?_
                refine pm_iloadn hG dX11_plan_100 rfl ?_
                refine pm_icmp_ge (tgt := 127) hG dX11_plan_101 rfl (fun c19 => ?_) (fun c19 => ?_)
                · replace c19 := Int32.not_lt.mpr c19
                  replace hE := fx_f c19 hE
                  exact hk98 _ _ hE
                · replace c19 := Int32.not_le.mp c19
                  replace hE := fx_t c19 hE
                  refine pm_aloadn hG dX11_plan_104 rfl ?_
                  refine pm_getf hG dX11_plan_105 (flX11_60 _ rfl) rfl rfl ?_
                  refine pm_aloadn hG dX11_plan_108 rfl ?_
                  refine pm_getf hG dX11_plan_109 (flX11_74 _ rfl) rfl rfl ?_
                  refine pm_iloadn hG dX11_plan_112 rfl ?_
                  refine pm_iloadi hG dX11_plan_113 rfl ?_
                  refine pm_callV (As := [.int za, .int x18_4]) (rest := [.ref (B + 42)]) hG hR dX11_plan_115 (lkX11_338 _ rfl) okV_X8_numberAt rfl rfl (c_X8_numberAt (d := 3) (by decide) rfl) rfl rfl hdd (Nat.le_refl _) (Nat.le_refl _) (by first | decide | exact Nat.le_of_ble_eq_true rfl) (fx_ki ?_)
                  obtain ⟨r21, h20, hE⟩ := fb_some hE
                  refine pm_callV (As := [.int (p_X8_numberAt S18 za x18_4)]) (rest := []) hG hR dX11_plan_118 (lkX11_341 _ rfl) okV_X5_passQuarter rfl rfl (c_X5_passQuarter (d := 3) (by decide) h20) rfl rfl hdd (Nat.le_refl _) (Nat.le_refl _) (by decide) (fx_kv ?_)
                  refine pm_iincX (v := x18_4 + 1) (loc' := [some (.ref (B + 0)), some (.int za), some (.int zb), some (.int x6), some (.int (x18_4 + 1))]) hG dX11_plan_121 rfl (by rfl) (by decide) (pm_c1b rfl) rfl ?_
                  refine pm_goto (tgt := 98) hG dX11_plan_124 rfl ?_
                  exact ih98 _ _ hE
            refine loop98 _ (fun S22 x22_4 hE => ?_) _ _ _ hE
            refine pm_aloadn hG dX11_plan_127 rfl ?_
            refine pm_getf hG dX11_plan_128 (flX11_60 _ rfl) rfl rfl ?_
            obtain ⟨r24, h23, hE⟩ := fb_some hE
            refine pm_callV (As := []) (rest := []) hG hR dX11_plan_131 (lkX11_344 _ rfl) okV_X5_findBest rfl rfl (c_X5_findBest (d := 3) (by decide) h23) rfl rfl hdd (Nat.le_refl _) (Nat.le_refl _) (by decide) (fx_ki ?_)
            refine pm_if_ne (tgt := 144) hG dX11_plan_134 rfl (fun c25 => ?_) (fun c25 => ?_)
            · replace hE := fx_f c25 hE
              refine pm_iloadn hG dX11_plan_144 rfl ?_
              refine pm_if_ge (tgt := 158) hG dX11_plan_145 rfl (fun c26 => ?_) (fun c26 => ?_)
              · replace c26 := Int32.not_lt.mpr c26
                replace hE := fx_f c26 hE
                refine pm_aloadn hG dX11_plan_158 rfl ?_
                refine pm_getf hG dX11_plan_159 (flX11_60 _ rfl) rfl rfl ?_
                refine pm_iloadn hG dX11_plan_162 rfl ?_
                refine pm_iloadn hG dX11_plan_163 rfl ?_
                obtain ⟨x28, h27, hE⟩ := fb_some hE
                refine pm_callV (As := [.int zb, .int x6]) (rest := []) hG hR dX11_plan_164 (lkX11_350 _ rfl) okV_X5_pledgedIn rfl rfl (c_X5_pledgedIn (d := 3) (by decide) h27) rfl rfl hdd (Nat.le_refl _) (Nat.le_refl _) (by decide) (fx_ki ?_)
                exact pm_iret hG hF dX11_plan_167 rfl (Nat.le_refl _) (Nat.le_refl _) (fx_ric hE)
              · replace c26 := Int32.not_le.mp c26
                replace hE := fx_t c26 hE
                refine pm_aloadn hG dX11_plan_148 rfl ?_
                refine pm_getf hG dX11_plan_149 (flX11_60 _ rfl) rfl rfl ?_
                refine pm_getf hG dX11_plan_152 (flX11_347 _ rfl) rfl rfl ?_
                refine pm_goto (tgt := 167) hG dX11_plan_155 rfl ?_
                exact pm_iret hG hF dX11_plan_167 rfl (Nat.le_refl _) (Nat.le_refl _) (fx_ric hE)
            · replace hE := fx_t c25 hE
              refine pm_aloadn hG dX11_plan_137 rfl ?_
              refine pm_ldc hG dX11_plan_138 (ctX11_138 _ rfl) ?_
              obtain ⟨r30, h29, hE⟩ := fb_some hE
              refine pm_callV (As := [.int (-1000003)]) (rest := []) hG hR dX11_plan_140 (lkX11_97 _ rfl) okV_X11_told rfl rfl (c_X11_told (d := 3) (by decide) h29) rfl rfl hdd (Nat.le_refl _) (Nat.le_refl _) (by decide) (fx_ki ?_)
              exact pm_iret hG hF dX11_plan_143 rfl (Nat.le_refl _) (Nat.le_refl _) (fx_ric hE)
          · replace hE := fx_f c15 hE
            refine pm_aloadn hG dX11_plan_81 rfl ?_
            refine pm_ldc hG dX11_plan_82 (ctX11_109 _ rfl) ?_
            obtain ⟨r32, h31, hE⟩ := fb_some hE
            refine pm_callV (As := [.int (-1000001)]) (rest := []) hG hR dX11_plan_84 (lkX11_97 _ rfl) okV_X11_told rfl rfl (c_X11_told (d := 3) (by decide) h31) rfl rfl hdd (Nat.le_refl _) (Nat.le_refl _) (by decide) (fx_ki ?_)
            exact pm_iret hG hF dX11_plan_87 rfl (Nat.le_refl _) (Nat.le_refl _) (fx_ric hE)
    · replace hE := fx_f c4 hE
      refine pm_aloadn hG dX11_plan_29 rfl ?_
      refine pm_ldc hG dX11_plan_30 (ctX11_223 _ rfl) ?_
      obtain ⟨r34, h33, hE⟩ := fb_some hE
      refine pm_callV (As := [.int (-1000002)]) (rest := []) hG hR dX11_plan_32 (lkX11_97 _ rfl) okV_X11_told rfl rfl (c_X11_told (d := 3) (by decide) h33) rfl rfl hdd (Nat.le_refl _) (Nat.le_refl _) (by decide) (fx_ki ?_)
      exact pm_iret hG hF dX11_plan_35 rfl (Nat.le_refl _) (Nat.le_refl _) (fx_ric hE)
  · replace hE := fx_t c1 hE
    refine pm_aloadn hG dX11_plan_11 rfl ?_
    refine pm_ldc hG dX11_plan_12 (ctX11_109 _ rfl) ?_
    obtain ⟨r36, h35, hE⟩ := fb_some hE
    refine pm_callV (As := [.int (-1000001)]) (rest := []) hG hR dX11_plan_14 (lkX11_97 _ rfl) okV_X11_told rfl rfl (c_X11_told (d := 3) (by decide) h35) rfl rfl hdd (Nat.le_refl _) (Nat.le_refl _) (by decide) (fx_ki ?_)
    exact pm_iret hG hF dX11_plan_17 rfl (Nat.le_refl _) (Nat.le_refl _) (fx_ric hE)

set_option maxRecDepth 100000 in
set_option maxHeartbeats 4000000 in
theorem c_X11_power {d : Nat} {B cnt : Nat} {kp : Value} {ρ : pm_S} {S : FS} {za : Int32} {zb : Int32} {zc : Int32} {R : Int32 × FS} (hdd : 3 ≤ d) (hE : f_X11_power S za zb zc = some R) : pm_met mX11_power d 0 0 B [.ref (B + 0), .int za, .int zb, .int zc] cnt (cst B kp S ρ) (pm_Qi (fun v σ' cnt' => v = R.1 ∧ σ' = (cst B kp R.2 ρ) ∧ cnt' = cnt)) := by
  refine pm_enter 0 (by decide) (Nat.le_of_ble_eq_true rfl) rfl (fun G hG hR hF => ?_)
  unfold f_X11_power at hE
  refine pm_iloadn hG dX11_power_0 rfl ?_
  refine pm_iconst (v := 0) hG dX11_power_1 (by decide) ?_
  refine pm_iconst (v := 5) hG dX11_power_2 (by decide) ?_
  refine pm_callS (As := [.int za, .int 0, .int 5]) (rest := []) hG hR dX11_power_3 (lkX11_105 _ rfl) okS_X11_isOutside (tOut (d := 2)) rfl rfl hdd (Nat.le_refl _) (Nat.le_refl _) (by decide) (fx_ki ?_)
  refine pm_if_ne (tgt := 30) hG dX11_power_6 rfl (fun c1 => ?_) (fun c1 => ?_)
  · replace hE := fx_f c1 hE
    refine pm_aloadn hG dX11_power_30 rfl ?_
    refine pm_ldc hG dX11_power_31 (ctX11_109 _ rfl) ?_
    obtain ⟨r3, h2, hE⟩ := fb_some hE
    refine pm_callV (As := [.int (-1000001)]) (rest := []) hG hR dX11_power_33 (lkX11_97 _ rfl) okV_X11_told rfl rfl (c_X11_told (d := 2) (by decide) h2) rfl rfl hdd (Nat.le_refl _) (Nat.le_refl _) (by decide) (fx_ki ?_)
    exact pm_iret hG hF dX11_power_36 rfl (Nat.le_refl _) (Nat.le_refl _) (fx_ric hE)
  · replace hE := fx_t c1 hE
    refine pm_aloadn hG dX11_power_9 rfl ?_
    refine pm_getf hG dX11_power_10 (flX11_12 _ rfl) rfl rfl ?_
    refine pm_iloadn hG dX11_power_13 rfl ?_
    refine pm_callV (As := [.int zb]) (rest := []) hG hR dX11_power_14 (lkX11_174 _ rfl) okV_X7_isLivingOrNobody rfl rfl (c_X7_isLivingOrNobody (d := 2) (by decide) rfl) rfl rfl hdd (Nat.le_refl _) (Nat.le_refl _) (by decide) (fx_ki ?_)
    refine pm_if_eq (tgt := 30) hG dX11_power_17 rfl (fun c4 => ?_) (fun c4 => ?_)
    · replace hE := fx_t c4 hE
      refine pm_aloadn hG dX11_power_30 rfl ?_
      refine pm_ldc hG dX11_power_31 (ctX11_109 _ rfl) ?_
      obtain ⟨r6, h5, hE⟩ := fb_some hE
      refine pm_callV (As := [.int (-1000001)]) (rest := []) hG hR dX11_power_33 (lkX11_97 _ rfl) okV_X11_told rfl rfl (c_X11_told (d := 2) (by decide) h5) rfl rfl hdd (Nat.le_refl _) (Nat.le_refl _) (by decide) (fx_ki ?_)
      exact pm_iret hG hF dX11_power_36 rfl (Nat.le_refl _) (Nat.le_refl _) (fx_ric hE)
    · replace hE := fx_f c4 hE
      refine pm_iloadn hG dX11_power_20 rfl ?_
      refine pm_iconst (v := 0) hG dX11_power_21 (by decide) ?_
      refine pm_bipush (v := 99) hG dX11_power_22 (by decide) ?_
      refine pm_callS (As := [.int zc, .int 0, .int 99]) (rest := []) hG hR dX11_power_24 (lkX11_105 _ rfl) okS_X11_isOutside (tOut (d := 2)) rfl rfl hdd (Nat.le_refl _) (Nat.le_refl _) (by decide) (fx_ki ?_)
      refine pm_if_eq (tgt := 37) hG dX11_power_27 rfl (fun c7 => ?_) (fun c7 => ?_)
      · replace hE := fx_t c7 hE
        refine pm_aloadn hG dX11_power_37 rfl ?_
        refine pm_aloadn hG dX11_power_38 rfl ?_
        refine pm_getf hG dX11_power_39 (flX11_12 _ rfl) rfl rfl ?_
        refine pm_getf hG dX11_power_42 (flX11_161 _ rfl) rfl rfl ?_
        refine pm_callV (As := []) (rest := [.ref (B + 0)]) hG hR dX11_power_45 (lkX11_86 _ rfl) okV_X9_isFull rfl rfl (tisFull_8 (d := 2)) rfl rfl hdd (Nat.le_refl _) (Nat.le_refl _) (by first | decide | exact Nat.le_of_ble_eq_true rfl) (fx_ki ?_)
        refine pm_if_eq (tgt := 56) hG dX11_power_48 rfl (fun c8 => ?_) (fun c8 => ?_)
        · replace hE := fx_t c8 hE
          refine pm_aloadn hG dX11_power_56 rfl ?_
          refine pm_getf hG dX11_power_57 (flX11_12 _ rfl) rfl rfl ?_
          refine pm_iloadn hG dX11_power_60 rfl ?_
          refine pm_iloadn hG dX11_power_61 rfl ?_
          refine pm_iloadn hG dX11_power_62 rfl ?_
          obtain ⟨r10, h9, hE⟩ := fb_some hE
          refine pm_callV (As := [.int za, .int zb, .int zc]) (rest := [.ref (B + 0)]) hG hR dX11_power_63 (lkX11_177 _ rfl) okV_X7_addPower rfl rfl (c_X7_addPower (d := 2) (by decide) h9) rfl rfl hdd (Nat.le_refl _) (Nat.le_refl _) (by first | decide | exact Nat.le_of_ble_eq_true rfl) (fx_ki ?_)
          obtain ⟨r12, h11, hE⟩ := fb_some hE
          refine pm_callV (As := [.int r10.1]) (rest := []) hG hR dX11_power_66 (lkX11_97 _ rfl) okV_X11_told rfl rfl (c_X11_told (d := 2) (by decide) h11) rfl rfl hdd (Nat.le_refl _) (Nat.le_refl _) (by decide) (fx_ki ?_)
          exact pm_iret hG hF dX11_power_69 rfl (Nat.le_refl _) (Nat.le_refl _) (fx_ric hE)
        · replace hE := fx_f c8 hE
          refine pm_ldc hG dX11_power_51 (ctX11_92 _ rfl) ?_
          refine pm_goto (tgt := 66) hG dX11_power_53 rfl ?_
          obtain ⟨r14, h13, hE⟩ := fb_some hE
          refine pm_callV (As := [.int (-1000004)]) (rest := []) hG hR dX11_power_66 (lkX11_97 _ rfl) okV_X11_told rfl rfl (c_X11_told (d := 2) (by decide) h13) rfl rfl hdd (Nat.le_refl _) (Nat.le_refl _) (by decide) (fx_ki ?_)
          exact pm_iret hG hF dX11_power_69 rfl (Nat.le_refl _) (Nat.le_refl _) (fx_ric hE)
      · replace hE := fx_f c7 hE
        refine pm_aloadn hG dX11_power_30 rfl ?_
        refine pm_ldc hG dX11_power_31 (ctX11_109 _ rfl) ?_
        obtain ⟨r16, h15, hE⟩ := fb_some hE
        refine pm_callV (As := [.int (-1000001)]) (rest := []) hG hR dX11_power_33 (lkX11_97 _ rfl) okV_X11_told rfl rfl (c_X11_told (d := 2) (by decide) h15) rfl rfl hdd (Nat.le_refl _) (Nat.le_refl _) (by decide) (fx_ki ?_)
        exact pm_iret hG hF dX11_power_36 rfl (Nat.le_refl _) (Nat.le_refl _) (fx_ric hE)

set_option maxRecDepth 100000 in
set_option maxHeartbeats 4000000 in
theorem c_X3_handsWith {d : Nat} {B cnt : Nat} {kp : Value} {ρ : pm_S} {S : FS} {za : Int32} {R : Int32} (hdd : 3 ≤ d) (hE : q_X3_handsWith S za = some R) : pm_met mX3_handsWith d 0 0 B [.ref (B + 36), .int za] cnt (cst B kp S ρ) (pm_Qi (fun v σ' cnt' => v = R ∧ σ' = (cst B kp S ρ) ∧ cnt' = cnt)) := by
  refine pm_enter 4 (by decide) (Nat.le_of_ble_eq_true rfl) rfl (fun G hG hR hF => ?_)
  unfold q_X3_handsWith at hE
  refine pm_iconst (v := 0) hG dX3_handsWith_0 (by decide) ?_
  refine pm_istoreXn (loc' := [some (.ref (B + 36)), some (.int za), some (.int 0), none, none, none]) hG dX3_handsWith_1 (by decide) (pm_c1b rfl) rfl ?_
  refine pm_aloadn hG dX3_handsWith_2 rfl ?_
  refine pm_getf hG dX3_handsWith_3 (flX3_9 _ rfl) rfl rfl ?_
  refine pm_getf hG dX3_handsWith_6 (flX3_63 _ rfl) rfl rfl ?_
  refine pm_callV (As := []) (rest := []) hG hR dX3_handsWith_9 (lkX3_74 _ rfl) okV_X9_used rfl rfl (tused_8 (d := 2)) rfl rfl hdd (Nat.le_refl _) (Nat.le_refl _) (by decide) (fx_ki ?_)
  refine fx_letv hE (fun x1 hE => ?_)
  refine pm_istoreXn (loc' := [some (.ref (B + 36)), some (.int za), some (.int 0), some (.int x1), none, none]) hG dX3_handsWith_12 (by decide) (pm_c1b rfl) rfl ?_
  refine pm_iconst (v := 0) hG dX3_handsWith_13 (by decide) ?_
  refine pm_istoreXi (loc' := [some (.ref (B + 36)), some (.int za), some (.int 0), some (.int x1), some (.int 0), none]) hG dX3_handsWith_14 (by decide) (pm_c1b rfl) rfl ?_
  have loop16 : ∀ (k16 : Int32 → Int32 → Option Int32), (∀  (x2_2 : Int32) (x2_4 : Int32), k16  x2_2 x2_4 = some R → pm_wp mX3_handsWith G B 68 [some (.ref (B + 36)), some (.int za), some (.int x2_2), some (.int x1), some (.int x2_4), none] [] 0 0 cnt (cst B kp S ρ)) → ∀ (m16 : Nat)  (x2_2 : Int32) (x2_4 : Int32), l_X3_handsWith_16 za S x1 k16 m16  x2_2 x2_4 = some R → pm_wp mX3_handsWith G B 16 [some (.ref (B + 36)), some (.int za), some (.int x2_2), some (.int x1), some (.int x2_4), none] [] 0 0 cnt (cst B kp S ρ) := by
    intro k16 hk16 m16
    induction m16 with
    | zero => intro  x2_2 x2_4 hE; exact fx_no hE
    | succ m16 ih16 =>
      intro  x2_2 x2_4 hE
      rw [l_X3_handsWith_16] at hE
      refine pm_iloadi hG dX3_handsWith_16 rfl ?_
      refine pm_iloadn hG dX3_handsWith_18 rfl ?_
      refine pm_icmp_ge (tgt := 68) hG dX3_handsWith_19 rfl (fun c3 => ?_) (fun c3 => ?_)
      · replace c3 := Int32.not_lt.mpr c3
        replace hE := fx_f c3 hE
        exact hk16 _ _ hE
      · replace c3 := Int32.not_le.mp c3
        replace hE := fx_t c3 hE
        refine pm_aloadn hG dX3_handsWith_22 rfl ?_
        refine pm_getf hG dX3_handsWith_23 (flX3_9 _ rfl) rfl rfl ?_
        refine pm_iloadi hG dX3_handsWith_26 rfl ?_
        refine pm_callV (As := [.int x2_4]) (rest := []) hG hR dX3_handsWith_28 (lkX3_52 _ rfl) okV_X7_whoHas rfl rfl (c_X7_whoHas (d := 2) (by decide) rfl) rfl rfl hdd (Nat.le_refl _) (Nat.le_refl _) (by decide) (fx_ki ?_)
        refine fx_letv hE (fun x4 hE => ?_)
        refine pm_istoreXi (loc' := [some (.ref (B + 36)), some (.int za), some (.int x2_2), some (.int x1), some (.int x2_4), some (.int x4)]) hG dX3_handsWith_31 (by decide) (pm_c1b rfl) rfl ?_
        refine pm_iloadi hG dX3_handsWith_33 rfl ?_
        refine pm_if_lt (tgt := 62) hG dX3_handsWith_35 rfl (fun c5 => ?_) (fun c5 => ?_)
        · replace hE := fx_t c5 hE
          refine pm_iincX (v := x2_4 + 1) (loc' := [some (.ref (B + 36)), some (.int za), some (.int x2_2), some (.int x1), some (.int (x2_4 + 1)), some (.int x4)]) hG dX3_handsWith_62 rfl (by rfl) (by decide) (pm_c1b rfl) rfl ?_
          refine pm_goto (tgt := 16) hG dX3_handsWith_65 rfl ?_
          refine pm_fg 5 (loc' := [some (.ref (B + 36)), some (.int za), some (.int x2_2), some (.int x1), some (.int (x2_4 + 1)), none]) rfl ?_
          exact ih16 _ _ hE
        · replace hE := fx_f c5 hE
          refine pm_aloadn hG dX3_handsWith_38 rfl ?_
          refine pm_getf hG dX3_handsWith_39 (flX3_9 _ rfl) rfl rfl ?_
          refine pm_getf hG dX3_handsWith_42 (flX3_63 _ rfl) rfl rfl ?_
          refine pm_iloadi hG dX3_handsWith_45 rfl ?_
          refine pm_iconst (v := 5) hG dX3_handsWith_47 (by decide) ?_
          refine pm_callV (As := [.int x2_4, .int 5]) (rest := []) hG hR dX3_handsWith_48 (lkX3_35 _ rfl) okV_X9_get rfl rfl (tget_8 (d := 2)) rfl rfl hdd (Nat.le_refl _) (Nat.le_refl _) (by decide) (fx_ki ?_)
          refine pm_iloadn hG dX3_handsWith_51 rfl ?_
          refine pm_icmp_ne (tgt := 62) hG dX3_handsWith_52 rfl (fun c6 => ?_) (fun c6 => ?_)
          · replace hE := fx_f c6 hE
            refine pm_iincX (v := x2_4 + 1) (loc' := [some (.ref (B + 36)), some (.int za), some (.int x2_2), some (.int x1), some (.int (x2_4 + 1)), some (.int x4)]) hG dX3_handsWith_62 rfl (by rfl) (by decide) (pm_c1b rfl) rfl ?_
            refine pm_goto (tgt := 16) hG dX3_handsWith_65 rfl ?_
            refine pm_fg 5 (loc' := [some (.ref (B + 36)), some (.int za), some (.int x2_2), some (.int x1), some (.int (x2_4 + 1)), none]) rfl ?_
            exact ih16 _ _ hE
          · replace hE := fx_t c6 hE
            refine pm_iloadn hG dX3_handsWith_55 rfl ?_
            refine pm_iconst (v := 1) hG dX3_handsWith_56 (by decide) ?_
            refine pm_iloadi hG dX3_handsWith_57 rfl ?_
            refine pm_ishl hG dX3_handsWith_59 ?_
            refine pm_ior hG dX3_handsWith_60 ?_
            refine fx_letv hE (fun x7 hE => ?_)
            refine pm_istoreXn (loc' := [some (.ref (B + 36)), some (.int za), some (.int x7), some (.int x1), some (.int x2_4), some (.int x4)]) hG dX3_handsWith_61 (by decide) (pm_c1b rfl) rfl ?_
            refine pm_iincX (v := x2_4 + 1) (loc' := [some (.ref (B + 36)), some (.int za), some (.int x7), some (.int x1), some (.int (x2_4 + 1)), some (.int x4)]) hG dX3_handsWith_62 rfl (by rfl) (by decide) (pm_c1b rfl) rfl ?_
            refine pm_goto (tgt := 16) hG dX3_handsWith_65 rfl ?_
            refine pm_fg 5 (loc' := [some (.ref (B + 36)), some (.int za), some (.int x7), some (.int x1), some (.int (x2_4 + 1)), none]) rfl ?_
            exact ih16 _ _ hE
  refine loop16 _ (fun  x8_2 x8_4 hE => ?_) _ _ _ hE
  refine pm_iloadn hG dX3_handsWith_68 rfl ?_
  exact pm_iret hG hF dX3_handsWith_69 rfl (Nat.le_refl _) (Nat.le_refl _) (fx_pi (Option.some.inj hE))
end
