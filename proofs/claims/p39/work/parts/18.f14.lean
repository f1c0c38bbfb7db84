set_option maxRecDepth 100000 in
set_option maxHeartbeats 4000000 in
theorem c_X1_winsWhatever_k2 {d : Nat} {B cnt : Nat} {kp : Value} {ρ : pm_S} {S : FS} {zb : Int32} {zc : Int32} {R : Int32 × FS} (hdd : 11 ≤ d) (hE : f_X1_winsWhatever_k2 S zb zc = some R) : pm_met mX1_winsWhatever d 0 0 B [.ref (B + 40), .int 2, .int zb, .int zc] cnt (cst B kp S ρ) (pm_Qi (fun v σ' cnt' => v = R.1 ∧ σ' = (cst B kp R.2 ρ) ∧ cnt' = cnt)) := by
  refine pm_enter 2 (by decide) (Nat.le_of_ble_eq_true rfl) rfl (fun G hG hR hF => ?_)
  unfold f_X1_winsWhatever_k2 at hE
  refine pm_aloadn hG dX1_winsWhatever_0 rfl ?_
  refine pm_iloadn hG dX1_winsWhatever_1 rfl ?_
  refine pm_iloadn hG dX1_winsWhatever_2 rfl ?_
  refine pm_iloadn hG dX1_winsWhatever_3 rfl ?_
  obtain ⟨r2, h1, hE⟩ := fb_some hE
  refine pm_callV (As := [.int 2, .int zb, .int zc]) (rest := []) hG hR dX1_winsWhatever_4 (lkX1_44 _ rfl) okV_X1_winsWithin rfl rfl (c_X1_winsWithin_k2 (d := 10) (by decide) h1) rfl rfl hdd (Nat.le_refl _) (Nat.le_refl _) (by decide) (fx_ki ?_)
  refine pm_istoreXi (loc' := [some (.ref (B + 40)), some (.int 2), some (.int zb), some (.int zc), some (.int r2.1), none]) hG dX1_winsWhatever_7 (by decide) (pm_c1b rfl) rfl ?_
  refine pm_iconst (v := 0) hG dX1_winsWhatever_9 (by decide) ?_
  refine pm_iloadn hG dX1_winsWhatever_10 rfl ?_
  refine pm_mmax hG hR dX1_winsWhatever_11 (mmX1_47 _ rfl) pm_mwmax (by omega) (by first | decide | exact Nat.le_of_ble_eq_true rfl) (Nat.le_refl _) (Nat.le_refl _) ?_
  refine pm_top (v := imax 0 zb) rfl ?_
  refine fx_letv hE (fun x3 hE => ?_)
  refine pm_istoreXi (loc' := [some (.ref (B + 40)), some (.int 2), some (.int zb), some (.int zc), some (.int r2.1), some (.int x3)]) hG dX1_winsWhatever_14 (by decide) (pm_c1b rfl) rfl ?_
  have loop16 : ∀ (k16 : FS → Int32 → Int32 → Option (Int32 × FS)), (∀ (S4 : FS) (x4_4 : Int32) (x4_5 : Int32), k16 S4  x4_4 x4_5 = some R → pm_wp mX1_winsWhatever G B 78 [some (.ref (B + 40)), some (.int 2), some (.int zb), some (.int zc), some (.int x4_4), some (.int x4_5)] [] 0 0 cnt (cst B kp S4 ρ)) → ∀ (m16 : Nat) (S4 : FS) (x4_4 : Int32) (x4_5 : Int32), l_X1_winsWhatever_k2_16 zb zc k16 m16 S4  x4_4 x4_5 = some R → pm_wp mX1_winsWhatever G B 16 [some (.ref (B + 40)), some (.int 2), some (.int zb), some (.int zc), some (.int x4_4), some (.int x4_5)] [] 0 0 cnt (cst B kp S4 ρ) := by
    intro k16 hk16 m16
    induction m16 with
    | zero => intro S4  x4_4 x4_5 hE; exact fx_no hE
    | succ m16 ih16 =>
      intro S4  x4_4 x4_5 hE
      rw [l_X1_winsWhatever_k2_16] at hE
      refine pm_iloadi hG dX1_winsWhatever_16 rfl ?_
      refine pm_aloadn hG dX1_winsWhatever_18 rfl ?_
      refine pm_getf hG dX1_winsWhatever_19 (flX1_15 _ rfl) rfl rfl ?_
      refine pm_alen (v := 5) hG dX1_winsWhatever_22 rfl (by decide) ?_
      refine pm_iconst (v := 1) hG dX1_winsWhatever_23 (by decide) ?_
      refine pm_isub hG dX1_winsWhatever_24 ?_
      refine pm_top (v := 4) (by decide) ?_
      refine pm_icmp_ge (tgt := 78) hG dX1_winsWhatever_25 rfl (fun c5 => ?_) (fun c5 => ?_)
      · replace c5 := Int32.not_lt.mpr c5
        replace hE := fx_f c5 hE
        exact hk16 _ _ _ hE
      · replace c5 := Int32.not_le.mp c5
        replace hE := fx_t c5 hE
        refine pm_iloadi hG dX1_winsWhatever_28 rfl ?_
        refine pm_if_eq (tgt := 78) hG dX1_winsWhatever_30 rfl (fun c6 => ?_) (fun c6 => ?_)
        · replace hE := fx_t c6 hE
          exact hk16 _ _ _ hE
        · replace hE := fx_f c6 hE
          refine pm_aloadn hG dX1_winsWhatever_33 rfl ?_
          refine pm_iloadi hG dX1_winsWhatever_34 rfl ?_
          refine pm_iloadi hG dX1_winsWhatever_36 rfl ?_
          refine pm_iconst (v := 1) hG dX1_winsWhatever_38 (by decide) ?_
          refine pm_iadd hG dX1_winsWhatever_39 ?_
          refine pm_iloadn hG dX1_winsWhatever_40 rfl ?_
          refine pm_iloadn hG dX1_winsWhatever_41 rfl ?_
          refine pm_iloadn hG dX1_winsWhatever_42 rfl ?_
          obtain ⟨r8, h7, hE⟩ := fb_some hE
          refine pm_callV (As := [.int x4_5, .int (x4_5 + 1), .int 2, .int zb, .int zc]) (rest := []) hG hR dX1_winsWhatever_43 (lkX1_52 _ rfl) okV_X1_winsDespite rfl rfl (c_X1_winsDespite_k2 (d := 10) (by decide) h7) rfl rfl hdd (Nat.le_refl _) (Nat.le_refl _) (by decide) (fx_ki ?_)
          refine pm_if_eq (tgt := 69) hG dX1_winsWhatever_46 rfl (fun c9 => ?_) (fun c9 => ?_)
          · replace hE := fx_t c9 hE
            refine pm_iconst (v := 0) hG dX1_winsWhatever_69 (by decide) ?_
            refine pm_istoreXi (loc' := [some (.ref (B + 40)), some (.int 2), some (.int zb), some (.int zc), some (.int 0), some (.int x4_5)]) hG dX1_winsWhatever_70 (by decide) (pm_c1b rfl) rfl ?_
            refine pm_iincX (v := x4_5 + 1) (loc' := [some (.ref (B + 40)), some (.int 2), some (.int zb), some (.int zc), some (.int 0), some (.int (x4_5 + 1))]) hG dX1_winsWhatever_72 rfl (by rfl) (by decide) (pm_c1b rfl) rfl ?_
            refine pm_goto (tgt := 16) hG dX1_winsWhatever_75 rfl ?_
            exact ih16 _ _ _ hE
          · replace hE := fx_f c9 hE
            refine pm_aloadn hG dX1_winsWhatever_49 rfl ?_
            refine pm_iloadi hG dX1_winsWhatever_50 rfl ?_
            refine pm_iconst (v := 1) hG dX1_winsWhatever_52 (by decide) ?_
            refine pm_iadd hG dX1_winsWhatever_53 ?_
            refine pm_iloadi hG dX1_winsWhatever_54 rfl ?_
            refine pm_iloadn hG dX1_winsWhatever_56 rfl ?_
            refine pm_iloadn hG dX1_winsWhatever_57 rfl ?_
            refine pm_iloadn hG dX1_winsWhatever_58 rfl ?_
            obtain ⟨r11, h10, hE⟩ := fb_some hE
            refine pm_callV (As := [.int (x4_5 + 1), .int x4_5, .int 2, .int zb, .int zc]) (rest := []) hG hR dX1_winsWhatever_59 (lkX1_52 _ rfl) okV_X1_winsDespite rfl rfl (c_X1_winsDespite_k2 (d := 10) (by decide) h10) rfl rfl hdd (Nat.le_refl _) (Nat.le_refl _) (by decide) (fx_ki ?_)
            refine pm_if_eq (tgt := 69) hG dX1_winsWhatever_62 rfl (fun c12 => ?_) (fun c12 => ?_)
            · replace hE := fx_t c12 hE
              refine pm_iconst (v := 0) hG dX1_winsWhatever_69 (by decide) ?_
              refine pm_istoreXi (loc' := [some (.ref (B + 40)), some (.int 2), some (.int zb), some (.int zc), some (.int 0), some (.int x4_5)]) hG dX1_winsWhatever_70 (by decide) (pm_c1b rfl) rfl ?_
              refine pm_iincX (v := x4_5 + 1) (loc' := [some (.ref (B + 40)), some (.int 2), some (.int zb), some (.int zc), some (.int 0), some (.int (x4_5 + 1))]) hG dX1_winsWhatever_72 rfl (by rfl) (by decide) (pm_c1b rfl) rfl ?_
              refine pm_goto (tgt := 16) hG dX1_winsWhatever_75 rfl ?_
              exact ih16 _ _ _ hE
            · replace hE := fx_f c12 hE
              refine pm_iconst (v := 1) hG dX1_winsWhatever_65 (by decide) ?_
              refine pm_goto (tgt := 70) hG dX1_winsWhatever_66 rfl ?_
              refine pm_istoreXi (loc' := [some (.ref (B + 40)), some (.int 2), some (.int zb), some (.int zc), some (.int 1), some (.int x4_5)]) hG dX1_winsWhatever_70 (by decide) (pm_c1b rfl) rfl ?_
              refine pm_iincX (v := x4_5 + 1) (loc' := [some (.ref (B + 40)), some (.int 2), some (.int zb), some (.int zc), some (.int 1), some (.int (x4_5 + 1))]) hG dX1_winsWhatever_72 rfl (by rfl) (by decide) (pm_c1b rfl) rfl ?_
              refine pm_goto (tgt := 16) hG dX1_winsWhatever_75 rfl ?_
              exact ih16 _ _ _ hE
  refine loop16 _ (fun S13 x13_4 x13_5 hE => ?_) _ _ _ _ hE
  refine pm_iloadi hG dX1_winsWhatever_78 rfl ?_
  obtain ⟨b14, hb14, hE⟩ := fb_some hE
  exact pm_zret hG hF dX1_winsWhatever_80 rfl (bz_n hb14) (Nat.le_refl _) (Nat.le_refl _) (fx_rbc hb14 hE)

set_option maxRecDepth 100000 in
set_option maxHeartbeats 4000000 in
theorem c_X1_winsByTaking_k3 {d : Nat} {B cnt : Nat} {kp : Value} {ρ : pm_S} {S : FS} {zb : Int32} {zc : Int32} {R : Int32 × FS} (hdd : 12 ≤ d) (hE : f_X1_winsByTaking_k3 S zb zc = some R) : pm_met mX1_winsByTaking d 0 0 B [.ref (B + 40), .int 3, .int zb, .int zc] cnt (cst B kp S ρ) (pm_Qi (fun v σ' cnt' => v = R.1 ∧ σ' = (cst B kp R.2 ρ) ∧ cnt' = cnt)) := by
  refine pm_enter 0 (by decide) (Nat.le_of_ble_eq_true rfl) rfl (fun G hG hR hF => ?_)
  unfold f_X1_winsByTaking_k3 at hE
  refine pm_iloadn hG dX1_winsByTaking_0 rfl ?_
  refine pm_if_lt (tgt := 23) hG dX1_winsByTaking_1 rfl (fun c1 => ?_) (fun c1 => ?_)
  · replace hE := fx_t c1 hE
    refine pm_iconst (v := 0) hG dX1_winsByTaking_23 (by decide) ?_
    exact pm_zret hG hF dX1_winsByTaking_24 rfl (by rfl) (Nat.le_refl _) (Nat.le_refl _) (fx_ric hE)
  · replace hE := fx_f c1 hE
    refine pm_iloadn hG dX1_winsByTaking_4 rfl ?_
    refine pm_aloadn hG dX1_winsByTaking_5 rfl ?_
    refine pm_getf hG dX1_winsByTaking_6 (flX1_15 _ rfl) rfl rfl ?_
    refine pm_alen (v := 5) hG dX1_winsByTaking_9 rfl (by decide) ?_
    refine pm_icmp_ge (tgt := 23) hG dX1_winsByTaking_10 rfl (fun c2 => ?_) (fun c2 => ?_)
    · replace c2 := Int32.not_lt.mpr c2
      replace hE := fx_f c2 hE
      refine pm_iconst (v := 0) hG dX1_winsByTaking_23 (by decide) ?_
      exact pm_zret hG hF dX1_winsByTaking_24 rfl (by rfl) (Nat.le_refl _) (Nat.le_refl _) (fx_ric hE)
    · replace c2 := Int32.not_le.mp c2
      replace hE := fx_t c2 hE
      refine pm_iloadn hG dX1_winsByTaking_13 rfl ?_
      refine pm_aloadn hG dX1_winsByTaking_14 rfl ?_
      refine pm_getf hG dX1_winsByTaking_15 (flX1_15 _ rfl) rfl rfl ?_
      refine pm_iloadn hG dX1_winsByTaking_18 rfl ?_
      obtain ⟨j3, hj3, hE⟩ := fb_some hE
      refine fx_iald hG dX1_winsByTaking_19 rfl hj3 ?_
      refine pm_icmp_gt (tgt := 25) hG dX1_winsByTaking_20 rfl (fun c4 => ?_) (fun c4 => ?_)
      · replace hE := fx_t c4 hE
        refine pm_iloadn hG dX1_winsByTaking_25 rfl ?_
        refine pm_aloadn hG dX1_winsByTaking_26 rfl ?_
        refine pm_getf hG dX1_winsByTaking_27 (flX1_19 _ rfl) rfl rfl ?_
        refine pm_icmp_eq (tgt := 54) hG dX1_winsByTaking_30 rfl (fun c5 => ?_) (fun c5 => ?_)
        · replace hE := fx_t c5 hE
          refine pm_iconst (v := 1) hG dX1_winsByTaking_54 (by decide) ?_
          refine pm_goto (tgt := 59) hG dX1_winsByTaking_55 rfl ?_
          exact pm_zret hG hF dX1_winsByTaking_59 rfl (by rfl) (Nat.le_refl _) (Nat.le_refl _) (fx_ric hE)
        · replace hE := fx_f c5 hE
          refine pm_aloadn hG dX1_winsByTaking_33 rfl ?_
          refine pm_iloadn hG dX1_winsByTaking_34 rfl ?_
          refine pm_iconst (v := 1) hG dX1_winsByTaking_35 (by decide) ?_
          refine pm_isub hG dX1_winsByTaking_36 ?_
          refine pm_top (v := 2) (by decide) ?_
          refine pm_iloadn hG dX1_winsByTaking_37 rfl ?_
          refine pm_iconst (v := 1) hG dX1_winsByTaking_38 (by decide) ?_
          refine pm_iadd hG dX1_winsByTaking_39 ?_
          refine pm_iloadn hG dX1_winsByTaking_40 rfl ?_
          refine pm_aloadn hG dX1_winsByTaking_41 rfl ?_
          refine pm_getf hG dX1_winsByTaking_42 (flX1_15 _ rfl) rfl rfl ?_
          refine pm_iloadn hG dX1_winsByTaking_45 rfl ?_
          refine fx_iald hG dX1_winsByTaking_46 rfl hj3 ?_
          refine pm_isub hG dX1_winsByTaking_47 ?_
          obtain ⟨r7, h6, hE⟩ := fb_some hE
          refine pm_callV (As := [.int 2, .int (zb + 1), .int (zc - (S.2 41 j3))]) (rest := []) hG hR dX1_winsByTaking_48 (lkX1_41 _ rfl) okV_X1_winsWhatever rfl rfl (c_X1_winsWhatever_k2 (d := 11) (by decide) h6) rfl rfl hdd (Nat.le_refl _) (Nat.le_refl _) (by decide) (fx_ki ?_)
          refine pm_if_eq (tgt := 58) hG dX1_winsByTaking_51 rfl (fun c8 => ?_) (fun c8 => ?_)
          · replace hE := fx_t c8 hE
            refine pm_iconst (v := 0) hG dX1_winsByTaking_58 (by decide) ?_
            exact pm_zret hG hF dX1_winsByTaking_59 rfl (by rfl) (Nat.le_refl _) (Nat.le_refl _) (fx_ric hE)
          · replace hE := fx_f c8 hE
            refine pm_iconst (v := 1) hG dX1_winsByTaking_54 (by decide) ?_
            refine pm_goto (tgt := 59) hG dX1_winsByTaking_55 rfl ?_
            exact pm_zret hG hF dX1_winsByTaking_59 rfl (by rfl) (Nat.le_refl _) (Nat.le_refl _) (fx_ric hE)
      · replace hE := fx_f c4 hE
        refine pm_iconst (v := 0) hG dX1_winsByTaking_23 (by decide) ?_
        exact pm_zret hG hF dX1_winsByTaking_24 rfl (by rfl) (Nat.le_refl _) (Nat.le_refl _) (fx_ric hE)

set_option maxRecDepth 100000 in
set_option maxHeartbeats 4000000 in
theorem c_X1_winsByWaiting_k3 {d : Nat} {B cnt : Nat} {kp : Value} {ρ : pm_S} {S : FS} {zb : Int32} {zc : Int32} {R : Int32 × FS} (hdd : 12 ≤ d) (hE : f_X1_winsByWaiting_k3 S zb zc = some R) : pm_met mX1_winsByWaiting d 0 0 B [.ref (B + 40), .int 3, .int zb, .int zc] cnt (cst B kp S ρ) (pm_Qi (fun v σ' cnt' => v = R.1 ∧ σ' = (cst B kp R.2 ρ) ∧ cnt' = cnt)) := by
  refine pm_enter 0 (by decide) (Nat.le_of_ble_eq_true rfl) rfl (fun G hG hR hF => ?_)
  unfold f_X1_winsByWaiting_k3 at hE
  refine pm_aloadn hG dX1_winsByWaiting_0 rfl ?_
  refine pm_iloadn hG dX1_winsByWaiting_1 rfl ?_
  refine pm_iconst (v := 1) hG dX1_winsByWaiting_2 (by decide) ?_
  refine pm_isub hG dX1_winsByWaiting_3 ?_
  refine pm_top (v := 2) (by decide) ?_
  refine pm_iloadn hG dX1_winsByWaiting_4 rfl ?_
  refine pm_iloadn hG dX1_winsByWaiting_5 rfl ?_
  obtain ⟨r2, h1, hE⟩ := fb_some hE
  refine pm_callV (As := [.int 2, .int zb, .int zc]) (rest := []) hG hR dX1_winsByWaiting_6 (lkX1_41 _ rfl) okV_X1_winsWhatever rfl rfl (c_X1_winsWhatever_k2 (d := 11) (by decide) h1) rfl rfl hdd (Nat.le_refl _) (Nat.le_refl _) (by decide) (fx_ki ?_)
  obtain ⟨b3, hb3, hE⟩ := fb_some hE
  exact pm_zret hG hF dX1_winsByWaiting_9 rfl (bz_n hb3) (Nat.le_refl _) (Nat.le_refl _) (fx_rbc hb3 hE)

set_option maxRecDepth 100000 in
set_option maxHeartbeats 4000000 in
theorem c_X1_winsWithin_k3 {d : Nat} {B cnt : Nat} {kp : Value} {ρ : pm_S} {S : FS} {zb : Int32} {zc : Int32} {R : Int32 × FS} (hdd : 13 ≤ d) (hE : f_X1_winsWithin_k3 S zb zc = some R) : pm_met mX1_winsWithin d 0 0 B [.ref (B + 40), .int 3, .int zb, .int zc] cnt (cst B kp S ρ) (pm_Qi (fun v σ' cnt' => v = R.1 ∧ σ' = (cst B kp R.2 ρ) ∧ cnt' = cnt)) := by
  refine pm_enter 0 (by decide) (Nat.le_of_ble_eq_true rfl) rfl (fun G hG hR hF => ?_)
  unfold f_X1_winsWithin_k3 at hE
  refine pm_iloadn hG dX1_winsWithin_0 rfl ?_
  refine pm_if_le (tgt := 28) hG dX1_winsWithin_1 rfl (fun q => absurd q (by decide)) (fun _ => ?_)
  refine pm_aloadn hG dX1_winsWithin_4 rfl ?_
  refine pm_iloadn hG dX1_winsWithin_5 rfl ?_
  refine pm_iloadn hG dX1_winsWithin_6 rfl ?_
  refine pm_iloadn hG dX1_winsWithin_7 rfl ?_
  obtain ⟨r2, h1, hE⟩ := fb_some hE
  refine pm_callV (As := [.int 3, .int zb, .int zc]) (rest := []) hG hR dX1_winsWithin_8 (lkX1_34 _ rfl) okV_X1_winsByTaking rfl rfl (c_X1_winsByTaking_k3 (d := 12) (by decide) h1) rfl rfl hdd (Nat.le_refl _) (Nat.le_refl _) (by decide) (fx_ki ?_)
  refine pm_if_ne (tgt := 24) hG dX1_winsWithin_11 rfl (fun c3 => ?_) (fun c3 => ?_)
  · replace hE := fx_f c3 hE
    refine pm_iconst (v := 1) hG dX1_winsWithin_24 (by decide) ?_
    refine pm_goto (tgt := 29) hG dX1_winsWithin_25 rfl ?_
    exact pm_zret hG hF dX1_winsWithin_29 rfl (by rfl) (Nat.le_refl _) (Nat.le_refl _) (fx_ric hE)
  · replace hE := fx_t c3 hE
    refine pm_aloadn hG dX1_winsWithin_14 rfl ?_
    refine pm_iloadn hG dX1_winsWithin_15 rfl ?_
    refine pm_iloadn hG dX1_winsWithin_16 rfl ?_
    refine pm_iloadn hG dX1_winsWithin_17 rfl ?_
    obtain ⟨r5, h4, hE⟩ := fb_some hE
    refine pm_callV (As := [.int 3, .int zb, .int zc]) (rest := []) hG hR dX1_winsWithin_18 (lkX1_38 _ rfl) okV_X1_winsByWaiting rfl rfl (c_X1_winsByWaiting_k3 (d := 12) (by decide) h4) rfl rfl hdd (Nat.le_refl _) (Nat.le_refl _) (by decide) (fx_ki ?_)
    refine pm_if_eq (tgt := 28) hG dX1_winsWithin_21 rfl (fun c6 => ?_) (fun c6 => ?_)
    · replace hE := fx_t c6 hE
      refine pm_iconst (v := 0) hG dX1_winsWithin_28 (by decide) ?_
      exact pm_zret hG hF dX1_winsWithin_29 rfl (by rfl) (Nat.le_refl _) (Nat.le_refl _) (fx_ric hE)
    · replace hE := fx_f c6 hE
      refine pm_iconst (v := 1) hG dX1_winsWithin_24 (by decide) ?_
      refine pm_goto (tgt := 29) hG dX1_winsWithin_25 rfl ?_
      exact pm_zret hG hF dX1_winsWithin_29 rfl (by rfl) (Nat.le_refl _) (Nat.le_refl _) (fx_ric hE)

set_option maxRecDepth 100000 in
set_option maxHeartbeats 4000000 in
theorem c_X11_night {d : Nat} {B cnt : Nat} {kp : Value} {ρ : pm_S} {S : FS} {za : Int32} {zb : Int32} {zc : Int32} {zd : Int32} {R : Int32 × FS} (hdd : 14 ≤ d) (hE : f_X11_night S za zb zc zd = some R) : pm_met mX11_night d 0 0 B [.ref (B + 0), .int za, .int zb, .int zc, .int zd] cnt (cst B kp S ρ) (pm_Qi (fun v σ' cnt' => v = R.1 ∧ σ' = (cst B kp R.2 ρ) ∧ cnt' = cnt)) := by
  refine pm_enter 0 (by decide) (Nat.le_of_ble_eq_true rfl) rfl (fun G hG hR hF => ?_)
  unfold f_X11_night at hE
  refine pm_iloadn hG dX11_night_0 rfl ?_
  refine pm_iconst (v := 1) hG dX11_night_1 (by decide) ?_
  refine pm_bipush (v := 20) hG dX11_night_2 (by decide) ?_
  refine pm_callS (As := [.int za, .int 1, .int 20]) (rest := []) hG hR dX11_night_4 (lkX11_105 _ rfl) okS_X11_isOutside (tOut (d := 13)) rfl rfl hdd (Nat.le_refl _) (Nat.le_refl _) (by decide) (fx_ki ?_)
  refine pm_if_ne (tgt := 38) hG dX11_night_7 rfl (fun c1 => ?_) (fun c1 => ?_)
  · replace hE := fx_f c1 hE
    refine pm_aloadn hG dX11_night_38 rfl ?_
    refine pm_ldc hG dX11_night_39 (ctX11_109 _ rfl) ?_
    obtain ⟨r3, h2, hE⟩ := fb_some hE
    refine pm_callV (As := [.int (-1000001)]) (rest := []) hG hR dX11_night_41 (lkX11_97 _ rfl) okV_X11_told rfl rfl (c_X11_told (d := 13) (by decide) h2) rfl rfl hdd (Nat.le_refl _) (Nat.le_refl _) (by decide) (fx_ki ?_)
    exact pm_iret hG hF dX11_night_44 rfl (Nat.le_refl _) (Nat.le_refl _) (fx_ric hE)
  · replace hE := fx_t c1 hE
    refine pm_iloadn hG dX11_night_10 rfl ?_
    refine pm_iconst (v := 1) hG dX11_night_11 (by decide) ?_
    refine pm_iconst (v := 3) hG dX11_night_12 (by decide) ?_
    refine pm_callS (As := [.int zb, .int 1, .int 3]) (rest := []) hG hR dX11_night_13 (lkX11_105 _ rfl) okS_X11_isOutside (tOut (d := 13)) rfl rfl hdd (Nat.le_refl _) (Nat.le_refl _) (by decide) (fx_ki ?_)
    refine pm_if_ne (tgt := 38) hG dX11_night_16 rfl (fun c4 => ?_) (fun c4 => ?_)
    · replace hE := fx_f c4 hE
      refine pm_aloadn hG dX11_night_38 rfl ?_
      refine pm_ldc hG dX11_night_39 (ctX11_109 _ rfl) ?_
      obtain ⟨r6, h5, hE⟩ := fb_some hE
      refine pm_callV (As := [.int (-1000001)]) (rest := []) hG hR dX11_night_41 (lkX11_97 _ rfl) okV_X11_told rfl rfl (c_X11_told (d := 13) (by decide) h5) rfl rfl hdd (Nat.le_refl _) (Nat.le_refl _) (by decide) (fx_ki ?_)
      exact pm_iret hG hF dX11_night_44 rfl (Nat.le_refl _) (Nat.le_refl _) (fx_ric hE)
    · replace hE := fx_t c4 hE
      refine pm_iloadn hG dX11_night_19 rfl ?_
      refine pm_iconst (v := 0) hG dX11_night_20 (by decide) ?_
      refine pm_iconst (v := 4) hG dX11_night_21 (by decide) ?_
      refine pm_callS (As := [.int zc, .int 0, .int 4]) (rest := []) hG hR dX11_night_22 (lkX11_105 _ rfl) okS_X11_isOutside (tOut (d := 13)) rfl rfl hdd (Nat.le_refl _) (Nat.le_refl _) (by decide) (fx_ki ?_)
      refine pm_if_ne (tgt := 38) hG dX11_night_25 rfl (fun c7 => ?_) (fun c7 => ?_)
      · replace hE := fx_f c7 hE
        refine pm_aloadn hG dX11_night_38 rfl ?_
        refine pm_ldc hG dX11_night_39 (ctX11_109 _ rfl) ?_
        obtain ⟨r9, h8, hE⟩ := fb_some hE
        refine pm_callV (As := [.int (-1000001)]) (rest := []) hG hR dX11_night_41 (lkX11_97 _ rfl) okV_X11_told rfl rfl (c_X11_told (d := 13) (by decide) h8) rfl rfl hdd (Nat.le_refl _) (Nat.le_refl _) (by decide) (fx_ki ?_)
        exact pm_iret hG hF dX11_night_44 rfl (Nat.le_refl _) (Nat.le_refl _) (fx_ric hE)
      · replace hE := fx_t c7 hE
        refine pm_iloadi hG dX11_night_28 rfl ?_
        refine pm_iconst (v := 0) hG dX11_night_30 (by decide) ?_
        refine pm_iconst (v := 1) hG dX11_night_31 (by decide) ?_
        refine pm_callS (As := [.int zd, .int 0, .int 1]) (rest := []) hG hR dX11_night_32 (lkX11_105 _ rfl) okS_X11_isOutside (tOut (d := 13)) rfl rfl hdd (Nat.le_refl _) (Nat.le_refl _) (by decide) (fx_ki ?_)
        refine pm_if_eq (tgt := 45) hG dX11_night_35 rfl (fun c10 => ?_) (fun c10 => ?_)
        · replace hE := fx_t c10 hE
          refine pm_aloadn hG dX11_night_45 rfl ?_
          refine pm_getf hG dX11_night_46 (flX11_53 _ rfl) rfl rfl ?_
          refine pm_iloadn hG dX11_night_49 rfl ?_
          obtain ⟨r12, h11, hE⟩ := fb_some hE
          refine pm_callV (As := [.int zc]) (rest := []) hG hR dX11_night_50 (lkX11_314 _ rfl) okV_X1_prepare rfl rfl (c_X1_prepare (d := 13) (by decide) h11) rfl rfl hdd (Nat.le_refl _) (Nat.le_refl _) (by decide) (fx_kv ?_)
          have hZ13 := hE
          by_cases c14 : zb = 1
          · subst c14
            have hE := fx_t rfl hZ13
            refine pm_iloadi hG dX11_night_53 rfl ?_
            refine pm_if_ne (tgt := 77) hG dX11_night_55 rfl (fun c15 => ?_) (fun c15 => ?_)
            · replace hE := fx_f c15 hE
              refine pm_aloadn hG dX11_night_77 rfl ?_
              refine pm_getf hG dX11_night_78 (flX11_53 _ rfl) rfl rfl ?_
              refine pm_iloadn hG dX11_night_81 rfl ?_
              refine pm_iconst (v := 0) hG dX11_night_82 (by decide) ?_
              refine pm_iloadn hG dX11_night_83 rfl ?_
              obtain ⟨r17, h16, hE⟩ := fb_some hE
              refine pm_callV (As := [.int 1, .int 0, .int za]) (rest := []) hG hR dX11_night_84 (lkX11_320 _ rfl) okV_X1_winsByTaking rfl rfl (c_X1_winsByTaking_k1 (d := 13) (by decide) h16) rfl rfl hdd (Nat.le_refl _) (Nat.le_refl _) (by decide) (fx_ki ?_)
              refine pm_if_eq (tgt := 92) hG dX11_night_87 rfl (fun c18 => ?_) (fun c18 => ?_)
              · replace hE := fx_t c18 hE
                refine pm_aloadn hG dX11_night_92 rfl ?_
                refine pm_aloadn hG dX11_night_93 rfl ?_
                refine pm_getf hG dX11_night_94 (flX11_53 _ rfl) rfl rfl ?_
                refine pm_iloadn hG dX11_night_97 rfl ?_
                refine pm_iconst (v := 0) hG dX11_night_98 (by decide) ?_
                refine pm_iloadn hG dX11_night_99 rfl ?_
                obtain ⟨r20, h19, hE⟩ := fb_some hE
                refine pm_callV (As := [.int 1, .int 0, .int za]) (rest := [.ref (B + 0)]) hG hR dX11_night_100 (lkX11_323 _ rfl) okV_X1_winsByWaiting rfl rfl (c_X1_winsByWaiting_k1 (d := 13) (by decide) h19) rfl rfl hdd (Nat.le_refl _) (Nat.le_refl _) (by first | decide | exact Nat.le_of_ble_eq_true rfl) (fx_ki ?_)
                refine pm_if_eq (tgt := 110) hG dX11_night_103 rfl (fun c21 => ?_) (fun c21 => ?_)
                · replace hE := fx_t c21 hE
                  refine pm_ldc hG dX11_night_110 (ctX11_223 _ rfl) ?_
                  obtain ⟨r23, h22, hE⟩ := fb_some hE
                  refine pm_callV (As := [.int (-1000002)]) (rest := []) hG hR dX11_night_112 (lkX11_97 _ rfl) okV_X11_told rfl rfl (c_X11_told (d := 13) (by decide) h22) rfl rfl hdd (Nat.le_refl _) (Nat.le_refl _) (by decide) (fx_ki ?_)
                  exact pm_iret hG hF dX11_night_115 rfl (Nat.le_refl _) (Nat.le_refl _) (fx_ric hE)
                · replace hE := fx_f c21 hE
                  refine pm_iconst (v := (-1)) hG dX11_night_106 (by decide) ?_
                  refine pm_goto (tgt := 112) hG dX11_night_107 rfl ?_
                  obtain ⟨r25, h24, hE⟩ := fb_some hE
                  refine pm_callV (As := [.int (-1)]) (rest := []) hG hR dX11_night_112 (lkX11_97 _ rfl) okV_X11_told rfl rfl (c_X11_told (d := 13) (by decide) h24) rfl rfl hdd (Nat.le_refl _) (Nat.le_refl _) (by decide) (fx_ki ?_)
                  exact pm_iret hG hF dX11_night_115 rfl (Nat.le_refl _) (Nat.le_refl _) (fx_ric hE)
              · replace hE := fx_f c18 hE
                refine pm_iconst (v := 0) hG dX11_night_90 (by decide) ?_
                exact pm_iret hG hF dX11_night_91 rfl (Nat.le_refl _) (Nat.le_refl _) (fx_ric hE)
            · replace hE := fx_t c15 hE
              refine pm_aloadn hG dX11_night_58 rfl ?_
              refine pm_getf hG dX11_night_59 (flX11_53 _ rfl) rfl rfl ?_
              refine pm_iloadn hG dX11_night_62 rfl ?_
              refine pm_iconst (v := 0) hG dX11_night_63 (by decide) ?_
              refine pm_iloadn hG dX11_night_64 rfl ?_
              obtain ⟨r27, h26, hE⟩ := fb_some hE
              refine pm_callV (As := [.int 1, .int 0, .int za]) (rest := []) hG hR dX11_night_65 (lkX11_317 _ rfl) okV_X1_winsWithin rfl rfl (c_X1_winsWithin_k1 (d := 13) (by decide) h26) rfl rfl hdd (Nat.le_refl _) (Nat.le_refl _) (by decide) (fx_ki ?_)
              refine pm_if_eq (tgt := 75) hG dX11_night_68 rfl (fun c28 => ?_) (fun c28 => ?_)
              · replace hE := fx_t c28 hE
                refine pm_iconst (v := 0) hG dX11_night_75 (by decide) ?_
                exact pm_iret hG hF dX11_night_76 rfl (Nat.le_refl _) (Nat.le_refl _) (fx_ric hE)
              · replace hE := fx_f c28 hE
                refine pm_iconst (v := 1) hG dX11_night_71 (by decide) ?_
                refine pm_goto (tgt := 76) hG dX11_night_72 rfl ?_
                exact pm_iret hG hF dX11_night_76 rfl (Nat.le_refl _) (Nat.le_refl _) (fx_ric hE)
          have hZ29 := fx_f c14 hZ13
          by_cases c30 : zb = 2
          · subst c30
            have hE := fx_t rfl hZ29
            refine pm_iloadi hG dX11_night_53 rfl ?_
            refine pm_if_ne (tgt := 77) hG dX11_night_55 rfl (fun c31 => ?_) (fun c31 => ?_)
            · replace hE := fx_f c31 hE
              refine pm_aloadn hG dX11_night_77 rfl ?_
              refine pm_getf hG dX11_night_78 (flX11_53 _ rfl) rfl rfl ?_
              refine pm_iloadn hG dX11_night_81 rfl ?_
              refine pm_iconst (v := 0) hG dX11_night_82 (by decide) ?_
              refine pm_iloadn hG dX11_night_83 rfl ?_
              obtain ⟨r33, h32, hE⟩ := fb_some hE
              refine pm_callV (As := [.int 2, .int 0, .int za]) (rest := []) hG hR dX11_night_84 (lkX11_320 _ rfl) okV_X1_winsByTaking rfl rfl (c_X1_winsByTaking_k2 (d := 13) (by decide) h32) rfl rfl hdd (Nat.le_refl _) (Nat.le_refl _) (by decide) (fx_ki ?_)
              refine pm_if_eq (tgt := 92) hG dX11_night_87 rfl (fun c34 => ?_) (fun c34 => ?_)
              · replace hE := fx_t c34 hE
                refine pm_aloadn hG dX11_night_92 rfl ?_
                refine pm_aloadn hG dX11_night_93 rfl ?_
                refine pm_getf hG dX11_night_94 (flX11_53 _ rfl) rfl rfl ?_
                refine pm_iloadn hG dX11_night_97 rfl ?_
                refine pm_iconst (v := 0) hG dX11_night_98 (by decide) ?_
                refine pm_iloadn hG dX11_night_99 rfl ?_
                obtain ⟨r36, h35, hE⟩ := fb_some hE
                refine pm_callV (As := [.int 2, .int 0, .int za]) (rest := [.ref (B + 0)]) hG hR dX11_night_100 (lkX11_323 _ rfl) okV_X1_winsByWaiting rfl rfl (c_X1_winsByWaiting_k2 (d := 13) (by decide) h35) rfl rfl hdd (Nat.le_refl _) (Nat.le_refl _) (by first | decide | exact Nat.le_of_ble_eq_true rfl) (fx_ki ?_)
                refine pm_if_eq (tgt := 110) hG dX11_night_103 rfl (fun c37 => ?_) (fun c37 => ?_)
                · replace hE := fx_t c37 hE
                  refine pm_ldc hG dX11_night_110 (ctX11_223 _ rfl) ?_
                  obtain ⟨r39, h38, hE⟩ := fb_some hE
                  refine pm_callV (As := [.int (-1000002)]) (rest := []) hG hR dX11_night_112 (lkX11_97 _ rfl) okV_X11_told rfl rfl (c_X11_told (d := 13) (by decide) h38) rfl rfl hdd (Nat.le_refl _) (Nat.le_refl _) (by decide) (fx_ki ?_)
                  exact pm_iret hG hF dX11_night_115 rfl (Nat.le_refl _) (Nat.le_refl _) (fx_ric hE)
                · replace hE := fx_f c37 hE
                  refine pm_iconst (v := (-1)) hG dX11_night_106 (by decide) ?_
                  refine pm_goto (tgt := 112) hG dX11_night_107 rfl ?_
                  obtain ⟨r41, h40, hE⟩ := fb_some hE
                  refine pm_callV (As := [.int (-1)]) (rest := []) hG hR dX11_night_112 (lkX11_97 _ rfl) okV_X11_told rfl rfl (c_X11_told (d := 13) (by decide) h40) rfl rfl hdd (Nat.le_refl _) (Nat.le_refl _) (by decide) (fx_ki ?_)
                  exact pm_iret hG hF dX11_night_115 rfl (Nat.le_refl _) (Nat.le_refl _) (fx_ric hE)
              · replace hE := fx_f c34 hE
                refine pm_iconst (v := 0) hG dX11_night_90 (by decide) ?_
                exact pm_iret hG hF dX11_night_91 rfl (Nat.le_refl _) (Nat.le_refl _) (fx_ric hE)
            · replace hE := fx_t c31 hE
              refine pm_aloadn hG dX11_night_58 rfl ?_
              refine pm_getf hG dX11_night_59 (flX11_53 _ rfl) rfl rfl ?_
              refine pm_iloadn hG dX11_night_62 rfl ?_
              refine pm_iconst (v := 0) hG dX11_night_63 (by decide) ?_
              refine pm_iloadn hG dX11_night_64 rfl ?_
              obtain ⟨r43, h42, hE⟩ := fb_some hE
              refine pm_callV (As := [.int 2, .int 0, .int za]) (rest := []) hG hR dX11_night_65 (lkX11_317 _ rfl) okV_X1_winsWithin rfl rfl (c_X1_winsWithin_k2 (d := 13) (by decide) h42) rfl rfl hdd (Nat.le_refl _) (Nat.le_refl _) (by decide) (fx_ki ?_)
              refine pm_if_eq (tgt := 75) hG dX11_night_68 rfl (fun c44 => ?_) (fun c44 => ?_)
              · replace hE := fx_t c44 hE
                refine pm_iconst (v := 0) hG dX11_night_75 (by decide) ?_
                exact pm_iret hG hF dX11_night_76 rfl (Nat.le_refl _) (Nat.le_refl _) (fx_ric hE)
              · replace hE := fx_f c44 hE
                refine pm_iconst (v := 1) hG dX11_night_71 (by decide) ?_
                refine pm_goto (tgt := 76) hG dX11_night_72 rfl ?_
                exact pm_iret hG hF dX11_night_76 rfl (Nat.le_refl _) (Nat.le_refl _) (fx_ric hE)
          have hZ45 := fx_f c30 hZ29
          by_cases c46 : zb = 3
          · subst c46
            have hE := fx_t rfl hZ45
            refine pm_iloadi hG dX11_night_53 rfl ?_
            refine pm_if_ne (tgt := 77) hG dX11_night_55 rfl (fun c47 => ?_) (fun c47 => ?_)
            · replace hE := fx_f c47 hE
              refine pm_aloadn hG dX11_night_77 rfl ?_
              refine pm_getf hG dX11_night_78 (flX11_53 _ rfl) rfl rfl ?_
              refine pm_iloadn hG dX11_night_81 rfl ?_
              refine pm_iconst (v := 0) hG dX11_night_82 (by decide) ?_
              refine pm_iloadn hG dX11_night_83 rfl ?_
              obtain ⟨r49, h48, hE⟩ := fb_some hE
              refine pm_callV (As := [.int 3, .int 0, .int za]) (rest := []) hG hR dX11_night_84 (lkX11_320 _ rfl) okV_X1_winsByTaking rfl rfl (c_X1_winsByTaking_k3 (d := 13) (by decide) h48) rfl rfl hdd (Nat.le_refl _) (Nat.le_refl _) (by decide) (fx_ki ?_)
              refine pm_if_eq (tgt := 92) hG dX11_night_87 rfl (fun c50 => ?_) (fun c50 => ?_)
              · replace hE := fx_t c50 hE
                refine pm_aloadn hG dX11_night_92 rfl ?_
                refine pm_aloadn hG dX11_night_93 rfl ?_
                refine pm_getf hG dX11_night_94 (flX11_53 _ rfl) rfl rfl ?_
                refine pm_iloadn hG dX11_night_97 rfl ?_
                refine pm_iconst (v := 0) hG dX11_night_98 (by decide) ?_
                refine pm_iloadn hG dX11_night_99 rfl ?_
                obtain ⟨r52, h51, hE⟩ := fb_some hE
                refine pm_callV (As := [.int 3, .int 0, .int za]) (rest := [.ref (B + 0)]) hG hR dX11_night_100 (lkX11_323 _ rfl) okV_X1_winsByWaiting rfl rfl (c_X1_winsByWaiting_k3 (d := 13) (by decide) h51) rfl rfl hdd (Nat.le_refl _) (Nat.le_refl _) (by first | decide | exact Nat.le_of_ble_eq_true rfl) (fx_ki ?_)
                refine pm_if_eq (tgt := 110) hG dX11_night_103 rfl (fun c53 => ?_) (fun c53 => ?_)
                · replace hE := fx_t c53 hE
                  refine pm_ldc hG dX11_night_110 (ctX11_223 _ rfl) ?_
                  obtain ⟨r55, h54, hE⟩ := fb_some hE
                  refine pm_callV (As := [.int (-1000002)]) (rest := []) hG hR dX11_night_112 (lkX11_97 _ rfl) okV_X11_told rfl rfl (c_X11_told (d := 13) (by decide) h54) rfl rfl hdd (Nat.le_refl _) (Nat.le_refl _) (by decide) (fx_ki ?_)
                  exact pm_iret hG hF dX11_night_115 rfl (Nat.le_refl _) (Nat.le_refl _) (fx_ric hE)
                · replace hE := fx_f c53 hE
                  refine pm_iconst (v := (-1)) hG dX11_night_106 (by decide) ?_
                  refine pm_goto (tgt := 112) hG dX11_night_107 rfl ?_
                  obtain ⟨r57, h56, hE⟩ := fb_some hE
                  refine pm_callV (As := [.int (-1)]) (rest := []) hG hR dX11_night_112 (lkX11_97 _ rfl) okV_X11_told rfl rfl (c_X11_told (d := 13) (by decide) h56) rfl rfl hdd (Nat.le_refl _) (Nat.le_refl _) (by decide) (fx_ki ?_)
                  exact pm_iret hG hF dX11_night_115 rfl (Nat.le_refl _) (Nat.le_refl _) (fx_ric hE)
              · replace hE := fx_f c50 hE
                refine pm_iconst (v := 0) hG dX11_night_90 (by decide) ?_
                exact pm_iret hG hF dX11_night_91 rfl (Nat.le_refl _) (Nat.le_refl _) (fx_ric hE)
            · replace hE := fx_t c47 hE
              refine pm_aloadn hG dX11_night_58 rfl ?_
              refine pm_getf hG dX11_night_59 (flX11_53 _ rfl) rfl rfl ?_
              refine pm_iloadn hG dX11_night_62 rfl ?_
              refine pm_iconst (v := 0) hG dX11_night_63 (by decide) ?_
              refine pm_iloadn hG dX11_night_64 rfl ?_
              obtain ⟨r59, h58, hE⟩ := fb_some hE
              refine pm_callV (As := [.int 3, .int 0, .int za]) (rest := []) hG hR dX11_night_65 (lkX11_317 _ rfl) okV_X1_winsWithin rfl rfl (c_X1_winsWithin_k3 (d := 13) (by decide) h58) rfl rfl hdd (Nat.le_refl _) (Nat.le_refl _) (by decide) (fx_ki ?_)
              refine pm_if_eq (tgt := 75) hG dX11_night_68 rfl (fun c60 => ?_) (fun c60 => ?_)
              · replace hE := fx_t c60 hE
                refine pm_iconst (v := 0) hG dX11_night_75 (by decide) ?_
                exact pm_iret hG hF dX11_night_76 rfl (Nat.le_refl _) (Nat.le_refl _) (fx_ric hE)
              · replace hE := fx_f c60 hE
                refine pm_iconst (v := 1) hG dX11_night_71 (by decide) ?_
                refine pm_goto (tgt := 76) hG dX11_night_72 rfl ?_
                exact pm_iret hG hF dX11_night_76 rfl (Nat.le_refl _) (Nat.le_refl _) (fx_ric hE)
          have hZ61 := fx_f c46 hZ45
          exact fx_no hZ61
        · replace hE := fx_f c10 hE
          refine pm_aloadn hG dX11_night_38 rfl ?_
          refine pm_ldc hG dX11_night_39 (ctX11_109 _ rfl) ?_
          obtain ⟨r63, h62, hE⟩ := fb_some hE
          refine pm_callV (As := [.int (-1000001)]) (rest := []) hG hR dX11_night_41 (lkX11_97 _ rfl) okV_X11_told rfl rfl (c_X11_told (d := 13) (by decide) h62) rfl rfl hdd (Nat.le_refl _) (Nat.le_refl _) (by decide) (fx_ki ?_)
          exact pm_iret hG hF dX11_night_44 rfl (Nat.le_refl _) (Nat.le_refl _) (fx_ric hE)

set_option maxRecDepth 100000 in
set_option maxHeartbeats 4000000 in
theorem c_X7_payFromChest {d : Nat} {B cnt : Nat} {kp : Value} {ρ : pm_S} {S : FS} {za : Int32} {zb : Int32} {R : Int32 × FS} (hdd : 2 ≤ d) (hE : f_X7_payFromChest S za zb = some R) : pm_met mX7_payFromChest d 0 0 B [.ref (B + 1), .int za, .int zb] cnt (cst B kp S ρ) (pm_Qi (fun v σ' cnt' => v = R.1 ∧ σ' = (cst B kp R.2 ρ) ∧ cnt' = cnt)) := by
  refine pm_enter 0 (by decide) (Nat.le_of_ble_eq_true rfl) rfl (fun G hG hR hF => ?_)
  unfold f_X7_payFromChest at hE
  refine pm_aloadn hG dX7_payFromChest_0 rfl ?_
  refine pm_getf hG dX7_payFromChest_1 (flX7_53 _ rfl) rfl rfl ?_
  refine pm_iloadn hG dX7_payFromChest_4 rfl ?_
  refine pm_icmp_ge (tgt := 11) hG dX7_payFromChest_5 rfl (fun c1 => ?_) (fun c1 => ?_)
  · replace c1 := Int32.not_lt.mpr c1
    replace hE := fx_f c1 hE
    refine pm_aloadn hG dX7_payFromChest_11 rfl ?_
    refine pm_dup hG dX7_payFromChest_12 rfl ?_
    refine pm_getf hG dX7_payFromChest_13 (flX7_53 _ rfl) rfl rfl ?_
    refine pm_iloadn hG dX7_payFromChest_16 rfl ?_
    refine pm_isub hG dX7_payFromChest_17 ?_
    refine pm_putf hG dX7_payFromChest_18 (fwX7_53 _ rfl) rfl rfl rfl ?_
    refine ci_103 ?_
    refine fx_letc hE (fun S2 hE => ?_)
    refine pm_aloadn hG dX7_payFromChest_21 rfl ?_
    refine pm_getf hG dX7_payFromChest_22 (flX7_23 _ rfl) rfl rfl ?_
    refine pm_iloadn hG dX7_payFromChest_25 rfl ?_
    refine pm_bipush (v := 7) hG dX7_payFromChest_26 (by decide) ?_
    refine pm_iloadn hG dX7_payFromChest_28 rfl ?_
    refine pm_callV (As := [.int za, .int 7, .int zb]) (rest := []) hG hR dX7_payFromChest_29 (lkX7_125 _ rfl) okV_X9_add rfl rfl (tadd_6 (d := 1) (by decide)) rfl rfl hdd (Nat.le_refl _) (Nat.le_refl _) (by decide) (fx_kv ?_)
    refine fx_letc hE (fun S3 hE => ?_)
    refine pm_aloadn hG dX7_payFromChest_32 rfl ?_
    refine pm_getf hG dX7_payFromChest_33 (flX7_53 _ rfl) rfl rfl ?_
    exact pm_iret hG hF dX7_payFromChest_36 rfl (Nat.le_refl _) (Nat.le_refl _) (fx_ric hE)
  · replace c1 := Int32.not_le.mp c1
    replace hE := fx_t c1 hE
    refine pm_ldc hG dX7_payFromChest_8 (ctX7_92 _ rfl) ?_
    exact pm_iret hG hF dX7_payFromChest_10 rfl (Nat.le_refl _) (Nat.le_refl _) (fx_ric hE)

set_option maxRecDepth 100000 in
set_option maxHeartbeats 4000000 in
theorem c_X3_sendAway {d : Nat} {B cnt : Nat} {kp : Value} {ρ : pm_S} {S : FS} {za : Int32} {zb : Int32} {R : Int32 × FS} (hdd : 3 ≤ d) (hE : f_X3_sendAway S za zb = some R) : pm_met mX3_sendAway d 0 0 B [.ref (B + 36), .int za, .int zb] cnt (cst B kp S ρ) (pm_Qi (fun v σ' cnt' => v = R.1 ∧ σ' = (cst B kp R.2 ρ) ∧ cnt' = cnt)) := by
  refine pm_enter 1 (by decide) (Nat.le_of_ble_eq_true rfl) rfl (fun G hG hR hF => ?_)
  unfold f_X3_sendAway at hE
  refine pm_aloadn hG dX3_sendAway_0 rfl ?_
  refine pm_getf hG dX3_sendAway_1 (flX3_9 _ rfl) rfl rfl ?_
  refine pm_getf hG dX3_sendAway_4 (flX3_123 _ rfl) rfl rfl ?_
  refine pm_callV (As := []) (rest := []) hG hR dX3_sendAway_7 (lkX3_74 _ rfl) okV_X9_used rfl rfl (tused_2 (d := 2)) rfl rfl hdd (Nat.le_refl _) (Nat.le_refl _) (by decide) (fx_ki ?_)
  refine fx_letv hE (fun x1 hE => ?_)
  refine pm_istoreXn (loc' := [some (.ref (B + 36)), some (.int za), some (.int zb), some (.int x1)]) hG dX3_sendAway_10 (by decide) (pm_c1b rfl) rfl ?_
  refine pm_iloadn hG dX3_sendAway_11 rfl ?_
  refine pm_if_le (tgt := 40) hG dX3_sendAway_12 rfl (fun c2 => ?_) (fun c2 => ?_)
  · replace c2 := Int32.not_lt.mpr c2
    replace hE := fx_f c2 hE
    refine pm_ldc hG dX3_sendAway_40 (ctX3_81 _ rfl) ?_
    exact pm_iret hG hF dX3_sendAway_42 rfl (Nat.le_refl _) (Nat.le_refl _) (fx_ric hE)
  · replace c2 := Int32.not_le.mp c2
    replace hE := fx_t c2 hE
    refine pm_aloadn hG dX3_sendAway_15 rfl ?_
    refine pm_getf hG dX3_sendAway_16 (flX3_9 _ rfl) rfl rfl ?_
    refine pm_iloadn hG dX3_sendAway_19 rfl ?_
    refine pm_callV (As := [.int za]) (rest := []) hG hR dX3_sendAway_20 (lkX3_59 _ rfl) okV_X7_isInTown rfl rfl (c_X7_isInTown (d := 2) (by decide) rfl) rfl rfl hdd (Nat.le_refl _) (Nat.le_refl _) (by decide) (fx_ki ?_)
    refine pm_if_eq (tgt := 40) hG dX3_sendAway_23 rfl (fun c3 => ?_) (fun c3 => ?_)
    · replace hE := fx_t c3 hE
      refine pm_ldc hG dX3_sendAway_40 (ctX3_81 _ rfl) ?_
      exact pm_iret hG hF dX3_sendAway_42 rfl (Nat.le_refl _) (Nat.le_refl _) (fx_ric hE)
    · replace hE := fx_f c3 hE
      refine pm_aloadn hG dX3_sendAway_26 rfl ?_
      refine pm_getf hG dX3_sendAway_27 (flX3_9 _ rfl) rfl rfl ?_
      refine pm_iloadn hG dX3_sendAway_30 rfl ?_
      refine pm_iloadn hG dX3_sendAway_31 rfl ?_
      refine pm_iloadn hG dX3_sendAway_32 rfl ?_
      obtain ⟨u5, h4, hE⟩ := fb_some hE
      refine pm_irem hG dX3_sendAway_33 (nz_n h4) ?_
      obtain ⟨r7, h6, hE⟩ := fb_some hE
      refine pm_callV (As := [.int za, .int (zb - zb / x1 * x1)]) (rest := []) hG hR dX3_sendAway_34 (lkX3_126 _ rfl) okV_X7_setOut rfl rfl (c_X7_setOut (d := 2) (by decide) h6) rfl rfl hdd (Nat.le_refl _) (Nat.le_refl _) (by decide) (fx_ki ?_)
      refine pm_goto (tgt := 42) hG dX3_sendAway_37 rfl ?_
      exact pm_iret hG hF dX3_sendAway_42 rfl (Nat.le_refl _) (Nat.le_refl _) (fx_ric hE)

set_option maxRecDepth 100000 in
set_option maxHeartbeats 4000000 in
theorem c_X2_isStruck {d : Nat} {B cnt : Nat} {kp : Value} {ρ : pm_S} {S : FS} {za : Int32} {R : Int32} (hdd : 1 ≤ d) (hE : p_X2_isStruck S za = R) : pm_met mX2_isStruck d 0 0 B [.ref (B + 26), .int za] cnt (cst B kp S ρ) (pm_Qi (fun v σ' cnt' => v = R ∧ σ' = (cst B kp S ρ) ∧ cnt' = cnt)) := by
  refine pm_enter 0 (by decide) (Nat.le_of_ble_eq_true rfl) rfl (fun G hG hR hF => ?_)
  unfold p_X2_isStruck at hE
  refine pm_aloadn hG dX2_isStruck_0 rfl ?_
  refine pm_getf hG dX2_isStruck_1 (flX2_9 _ rfl) rfl rfl ?_
  refine pm_getf hG dX2_isStruck_4 (flX2_43 _ rfl) rfl rfl ?_
  refine pm_iloadn hG dX2_isStruck_7 rfl ?_
  refine pm_iconst (v := 3) hG dX2_isStruck_8 (by decide) ?_
  refine pm_callV (As := [.int za, .int 3]) (rest := []) hG hR dX2_isStruck_9 (lkX2_67 _ rfl) okV_X9_get rfl rfl (tget_10 (d := 0)) rfl rfl hdd (Nat.le_refl _) (Nat.le_refl _) (by decide) (fx_ki ?_)
  refine pm_if_lt (tgt := 19) hG dX2_isStruck_12 rfl (fun c1 => ?_) (fun c1 => ?_)
  · replace hE := fx_t c1 hE
    refine pm_iconst (v := 0) hG dX2_isStruck_19 (by decide) ?_
    exact pm_zret hG hF dX2_isStruck_20 rfl (by rfl) (Nat.le_refl _) (Nat.le_refl _) (fx_pi hE)
  · replace hE := fx_f c1 hE
    refine pm_iconst (v := 1) hG dX2_isStruck_15 (by decide) ?_
    refine pm_goto (tgt := 20) hG dX2_isStruck_16 rfl ?_
    exact pm_zret hG hF dX2_isStruck_20 rfl (by rfl) (Nat.le_refl _) (Nat.le_refl _) (fx_pi hE)

set_option maxRecDepth 100000 in
set_option maxHeartbeats 4000000 in
theorem c_X2_strikeOut {d : Nat} {B cnt : Nat} {kp : Value} {ρ : pm_S} {S : FS} {za : Int32} {R : Int32 × FS} (hdd : 1 ≤ d) (hE : f_X2_strikeOut S za = some R) : pm_met mX2_strikeOut d 0 0 B [.ref (B + 26), .int za] cnt (cst B kp S ρ) (pm_Qv (fun σ' cnt' => σ' = (cst B kp R.2 ρ) ∧ cnt' = cnt)) := by
  refine pm_enter 0 (by decide) (Nat.le_of_ble_eq_true rfl) rfl (fun G hG hR hF => ?_)
  unfold f_X2_strikeOut at hE
  refine pm_aloadn hG dX2_strikeOut_0 rfl ?_
  refine pm_getf hG dX2_strikeOut_1 (flX2_9 _ rfl) rfl rfl ?_
  refine pm_getf hG dX2_strikeOut_4 (flX2_43 _ rfl) rfl rfl ?_
  refine pm_iloadn hG dX2_strikeOut_7 rfl ?_
  refine pm_iconst (v := 3) hG dX2_strikeOut_8 (by decide) ?_
  refine pm_aloadn hG dX2_strikeOut_9 rfl ?_
  refine pm_getf hG dX2_strikeOut_10 (flX2_9 _ rfl) rfl rfl ?_
  refine pm_getf hG dX2_strikeOut_13 (flX2_60 _ rfl) rfl rfl ?_
  refine pm_callV (As := [.int za, .int 3, .int (S.1 102)]) (rest := []) hG hR dX2_strikeOut_16 (lkX2_56 _ rfl) okV_X9_set rfl rfl (tset_10 (d := 0)) rfl rfl hdd (Nat.le_refl _) (Nat.le_refl _) (by decide) (fx_kv ?_)
  refine fx_letc hE (fun S1 hE => ?_)
  exact pm_vret hG hF dX2_strikeOut_19 rfl (Nat.le_refl _) (Nat.le_refl _) (fx_rvc hE)

set_option maxRecDepth 100000 in
set_option maxHeartbeats 4000000 in
theorem c_X3_strikeFor {d : Nat} {B cnt : Nat} {kp : Value} {ρ : pm_S} {S : FS} {za : Int32} {R : Int32 × FS} (hdd : 2 ≤ d) (hE : f_X3_strikeFor S za = some R) : pm_met mX3_strikeFor d 0 0 B [.ref (B + 36), .int za] cnt (cst B kp S ρ) (pm_Qi (fun v σ' cnt' => v = R.1 ∧ σ' = (cst B kp R.2 ρ) ∧ cnt' = cnt)) := by
  refine pm_enter 0 (by decide) (Nat.le_of_ble_eq_true rfl) rfl (fun G hG hR hF => ?_)
  unfold f_X3_strikeFor at hE
  refine pm_aloadn hG dX3_strikeFor_0 rfl ?_
  refine pm_getf hG dX3_strikeFor_1 (flX3_9 _ rfl) rfl rfl ?_
  refine pm_getf hG dX3_strikeFor_4 (flX3_129 _ rfl) rfl rfl ?_
  refine pm_iloadn hG dX3_strikeFor_7 rfl ?_
  refine pm_callV (As := [.int za]) (rest := []) hG hR dX3_strikeFor_8 (lkX3_109 _ rfl) okV_X9_has rfl rfl (thas_10 (d := 1)) rfl rfl hdd (Nat.le_refl _) (Nat.le_refl _) (by decide) (fx_ki ?_)
  refine pm_if_eq (tgt := 25) hG dX3_strikeFor_11 rfl (fun c1 => ?_) (fun c1 => ?_)
  · replace hE := fx_t c1 hE
    refine pm_ldc hG dX3_strikeFor_25 (ctX3_81 _ rfl) ?_
    exact pm_iret hG hF dX3_strikeFor_27 rfl (Nat.le_refl _) (Nat.le_refl _) (fx_ric hE)
  · replace hE := fx_f c1 hE
    refine pm_aloadn hG dX3_strikeFor_14 rfl ?_
    refine pm_getf hG dX3_strikeFor_15 (flX3_15 _ rfl) rfl rfl ?_
    refine pm_iloadn hG dX3_strikeFor_18 rfl ?_
    refine pm_callV (As := [.int za]) (rest := []) hG hR dX3_strikeFor_19 (lkX3_131 _ rfl) okV_X2_isStruck rfl rfl (c_X2_isStruck (d := 1) (by decide) rfl) rfl rfl hdd (Nat.le_refl _) (Nat.le_refl _) (by decide) (fx_ki ?_)
    refine pm_if_eq (tgt := 28) hG dX3_strikeFor_22 rfl (fun c2 => ?_) (fun c2 => ?_)
    · replace hE := fx_t c2 hE
      refine pm_aloadn hG dX3_strikeFor_28 rfl ?_
      refine pm_getf hG dX3_strikeFor_29 (flX3_15 _ rfl) rfl rfl ?_
      refine pm_iloadn hG dX3_strikeFor_32 rfl ?_
      obtain ⟨r4, h3, hE⟩ := fb_some hE
      refine pm_callV (As := [.int za]) (rest := []) hG hR dX3_strikeFor_33 (lkX3_134 _ rfl) okV_X2_strikeOut rfl rfl (c_X2_strikeOut (d := 1) (by decide) h3) rfl rfl hdd (Nat.le_refl _) (Nat.le_refl _) (by decide) (fx_kv ?_)
      refine pm_iconst (v := 1) hG dX3_strikeFor_36 (by decide) ?_
      exact pm_iret hG hF dX3_strikeFor_37 rfl (Nat.le_refl _) (Nat.le_refl _) (fx_ric hE)
    · replace hE := fx_f c2 hE
      refine pm_ldc hG dX3_strikeFor_25 (ctX3_81 _ rfl) ?_
      exact pm_iret hG hF dX3_strikeFor_27 rfl (Nat.le_refl _) (Nat.le_refl _) (fx_ric hE)

set_option maxRecDepth 100000 in
set_option maxHeartbeats 4000000 in
theorem c_X3_carryOutSort {d : Nat} {B cnt : Nat} {kp : Value} {ρ : pm_S} {S : FS} {za : Int32} {zb : Int32} {zc : Int32} {R : Int32 × FS} (hdd : 4 ≤ d) (hE : f_X3_carryOutSort S za zb zc = some R) : pm_met mX3_carryOutSort d 0 0 B [.ref (B + 36), .int za, .int zb, .int zc] cnt (cst B kp S ρ) (pm_Qi (fun v σ' cnt' => v = R.1 ∧ σ' = (cst B kp R.2 ρ) ∧ cnt' = cnt)) := by
  refine pm_enter 0 (by decide) (Nat.le_of_ble_eq_true rfl) rfl (fun G hG hR hF => ?_)
  unfold f_X3_carryOutSort at hE
  refine pm_iloadn hG dX3_carryOutSort_0 rfl ?_
  by_cases c1 : za = 0
  · replace hE := fx_t c1 hE
    refine pm_top (v := 0) c1 ?_
    refine pm_tswIn (tgt := 32) hG dX3_carryOutSort_1 (by decide) (by decide) rfl rfl ?_
    refine pm_aloadn hG dX3_carryOutSort_32 rfl ?_
    refine pm_getf hG dX3_carryOutSort_33 (flX3_9 _ rfl) rfl rfl ?_
    refine pm_iloadn hG dX3_carryOutSort_36 rfl ?_
    refine pm_iloadn hG dX3_carryOutSort_37 rfl ?_
    obtain ⟨r3, h2, hE⟩ := fb_some hE
    refine pm_callV (As := [.int zc, .int zb]) (rest := []) hG hR dX3_carryOutSort_38 (lkX3_103 _ rfl) okV_X7_payFromChest rfl rfl (c_X7_payFromChest (d := 3) (by decide) h2) rfl rfl hdd (Nat.le_refl _) (Nat.le_refl _) (by decide) (fx_ki ?_)
    exact pm_iret hG hF dX3_carryOutSort_41 rfl (Nat.le_refl _) (Nat.le_refl _) (fx_ric hE)
  replace hE := fx_f c1 hE
  by_cases c4 : za = 1
  · replace hE := fx_t c4 hE
    refine pm_top (v := 1) c4 ?_
    refine pm_tswIn (tgt := 42) hG dX3_carryOutSort_1 (by decide) (by decide) rfl rfl ?_
    refine pm_aloadn hG dX3_carryOutSort_42 rfl ?_
    refine pm_iloadn hG dX3_carryOutSort_43 rfl ?_
    refine pm_iloadn hG dX3_carryOutSort_44 rfl ?_
    obtain ⟨r6, h5, hE⟩ := fb_some hE
    refine pm_callV (As := [.int zc, .int zb]) (rest := []) hG hR dX3_carryOutSort_45 (lkX3_106 _ rfl) okV_X3_sendAway rfl rfl (c_X3_sendAway (d := 3) (by decide) h5) rfl rfl hdd (Nat.le_refl _) (Nat.le_refl _) (by decide) (fx_ki ?_)
    exact pm_iret hG hF dX3_carryOutSort_48 rfl (Nat.le_refl _) (Nat.le_refl _) (fx_ric hE)
  replace hE := fx_f c4 hE
  by_cases c7 : za = 2
  · replace hE := fx_t c7 hE
    refine pm_top (v := 2) c7 ?_
    refine pm_tswIn (tgt := 49) hG dX3_carryOutSort_1 (by decide) (by decide) rfl rfl ?_
    refine pm_aloadn hG dX3_carryOutSort_49 rfl ?_
    refine pm_getf hG dX3_carryOutSort_50 (flX3_9 _ rfl) rfl rfl ?_
    refine pm_getf hG dX3_carryOutSort_53 (flX3_63 _ rfl) rfl rfl ?_
    refine pm_iloadn hG dX3_carryOutSort_56 rfl ?_
    refine pm_callV (As := [.int zb]) (rest := []) hG hR dX3_carryOutSort_57 (lkX3_109 _ rfl) okV_X9_has rfl rfl (thas_8 (d := 3)) rfl rfl hdd (Nat.le_refl _) (Nat.le_refl _) (by decide) (fx_ki ?_)
    refine pm_if_eq (tgt := 75) hG dX3_carryOutSort_60 rfl (fun c8 => ?_) (fun c8 => ?_)
    · replace hE := fx_t c8 hE
      refine pm_ldc hG dX3_carryOutSort_75 (ctX3_81 _ rfl) ?_
      exact pm_iret hG hF dX3_carryOutSort_77 rfl (Nat.le_refl _) (Nat.le_refl _) (fx_ric hE)
    · replace hE := fx_f c8 hE
      refine pm_aloadn hG dX3_carryOutSort_63 rfl ?_
      refine pm_getf hG dX3_carryOutSort_64 (flX3_9 _ rfl) rfl rfl ?_
      refine pm_iloadn hG dX3_carryOutSort_67 rfl ?_
      refine pm_iloadn hG dX3_carryOutSort_68 rfl ?_
      obtain ⟨r10, h9, hE⟩ := fb_some hE
      refine pm_callV (As := [.int zb, .int zc]) (rest := []) hG hR dX3_carryOutSort_69 (lkX3_112 _ rfl) okV_X7_handOver rfl rfl (c_X7_handOver (d := 3) (by decide) h9) rfl rfl hdd (Nat.le_refl _) (Nat.le_refl _) (by decide) (fx_ki ?_)
      refine pm_goto (tgt := 77) hG dX3_carryOutSort_72 rfl ?_
      exact pm_iret hG hF dX3_carryOutSort_77 rfl (Nat.le_refl _) (Nat.le_refl _) (fx_ric hE)
  replace hE := fx_f c7 hE
  by_cases c11 : za = 3
  · replace hE := fx_t c11 hE
    refine pm_top (v := 3) c11 ?_
    refine pm_tswIn (tgt := 78) hG dX3_carryOutSort_1 (by decide) (by decide) rfl rfl ?_
    refine pm_aloadn hG dX3_carryOutSort_78 rfl ?_
    refine pm_iloadn hG dX3_carryOutSort_79 rfl ?_
    obtain ⟨r13, h12, hE⟩ := fb_some hE
    refine pm_callV (As := [.int zb]) (rest := []) hG hR dX3_carryOutSort_80 (lkX3_115 _ rfl) okV_X3_strikeFor rfl rfl (c_X3_strikeFor (d := 3) (by decide) h12) rfl rfl hdd (Nat.le_refl _) (Nat.le_refl _) (by decide) (fx_ki ?_)
    exact pm_iret hG hF dX3_carryOutSort_83 rfl (Nat.le_refl _) (Nat.le_refl _) (fx_ric hE)
  replace hE := fx_f c11 hE
  have tc1 : ¬ za.toInt = 0 := fun q => c1 (Int32.toInt_inj.mp q)
  have tc4 : ¬ za.toInt = 1 := fun q => c4 (Int32.toInt_inj.mp q)
  have tc7 : ¬ za.toInt = 2 := fun q => c7 (Int32.toInt_inj.mp q)
  have tc11 : ¬ za.toInt = 3 := fun q => c11 (Int32.toInt_inj.mp q)
  refine pm_tswOut (tgt := 84) hG dX3_carryOutSort_1 (by omega) rfl ?_
  refine pm_aloadn hG dX3_carryOutSort_84 rfl ?_
  refine pm_getf hG dX3_carryOutSort_85 (flX3_19 _ rfl) rfl rfl ?_
  refine pm_iloadn hG dX3_carryOutSort_88 rfl ?_
  obtain ⟨r15, h14, hE⟩ := fb_some hE
  refine pm_callV (As := [.int zc]) (rest := []) hG hR dX3_carryOutSort_89 (lkX3_118 _ rfl) okV_X0_breakAllOf rfl rfl (c_X0_breakAllOf (d := 3) (by decide) h14) rfl rfl hdd (Nat.le_refl _) (Nat.le_refl _) (by decide) (fx_ki ?_)
  exact pm_iret hG hF dX3_carryOutSort_92 rfl (Nat.le_refl _) (Nat.le_refl _) (fx_ric hE)

set_option maxRecDepth 100000 in
set_option maxHeartbeats 4000000 in
theorem c_X3_carryOut {d : Nat} {B cnt : Nat} {kp : Value} {ρ : pm_S} {S : FS} {za : Int32} {R : Int32 × FS} (hdd : 5 ≤ d) (hE : f_X3_carryOut S za = some R) : pm_met mX3_carryOut d 0 0 B [.ref (B + 36), .int za] cnt (cst B kp S ρ) (pm_Qi (fun v σ' cnt' => v = R.1 ∧ σ' = (cst B kp R.2 ρ) ∧ cnt' = cnt)) := by
  refine pm_enter 2 (by decide) (Nat.le_of_ble_eq_true rfl) rfl (fun G hG hR hF => ?_)
  unfold f_X3_carryOut at hE
  refine pm_aloadn hG dX3_carryOut_0 rfl ?_
  refine pm_getf hG dX3_carryOut_1 (flX3_29 _ rfl) rfl rfl ?_
  refine pm_iloadn hG dX3_carryOut_4 rfl ?_
  refine pm_bipush (v := 6) hG dX3_carryOut_5 (by decide) ?_
  refine pm_callV (As := [.int za, .int 6]) (rest := []) hG hR dX3_carryOut_7 (lkX3_35 _ rfl) okV_X9_get rfl rfl (tget_14 (d := 4)) rfl rfl hdd (Nat.le_refl _) (Nat.le_refl _) (by decide) (fx_ki ?_)
  refine fx_letv hE (fun x1 hE => ?_)
  refine pm_istoreXn (loc' := [some (.ref (B + 36)), some (.int za), some (.int x1), none]) hG dX3_carryOut_10 (by decide) (pm_c1b rfl) rfl ?_
  refine pm_aloadn hG dX3_carryOut_11 rfl ?_
  refine pm_getf hG dX3_carryOut_12 (flX3_29 _ rfl) rfl rfl ?_
  refine pm_iloadn hG dX3_carryOut_15 rfl ?_
  refine pm_bipush (v := 9) hG dX3_carryOut_16 (by decide) ?_
  refine pm_callV (As := [.int za, .int 9]) (rest := []) hG hR dX3_carryOut_18 (lkX3_35 _ rfl) okV_X9_get rfl rfl (tget_14 (d := 4)) rfl rfl hdd (Nat.le_refl _) (Nat.le_refl _) (by decide) (fx_ki ?_)
  refine pm_if_lt (tgt := 48) hG dX3_carryOut_21 rfl (fun c2 => ?_) (fun c2 => ?_)
  · replace hE := fx_t c2 hE
    refine pm_ldc hG dX3_carryOut_48 (ctX3_62 _ rfl) ?_
    exact pm_iret hG hF dX3_carryOut_50 rfl (Nat.le_refl _) (Nat.le_refl _) (fx_ric hE)
  · replace hE := fx_f c2 hE
    refine pm_aloadn hG dX3_carryOut_24 rfl ?_
    refine pm_getf hG dX3_carryOut_25 (flX3_29 _ rfl) rfl rfl ?_
    refine pm_iloadn hG dX3_carryOut_28 rfl ?_
    refine pm_bipush (v := 11) hG dX3_carryOut_29 (by decide) ?_
    refine pm_callV (As := [.int za, .int 11]) (rest := []) hG hR dX3_carryOut_31 (lkX3_35 _ rfl) okV_X9_get rfl rfl (tget_14 (d := 4)) rfl rfl hdd (Nat.le_refl _) (Nat.le_refl _) (by decide) (fx_ki ?_)
    refine pm_if_ne (tgt := 48) hG dX3_carryOut_34 rfl (fun c3 => ?_) (fun c3 => ?_)
    · replace hE := fx_f c3 hE
      refine pm_ldc hG dX3_carryOut_48 (ctX3_62 _ rfl) ?_
      exact pm_iret hG hF dX3_carryOut_50 rfl (Nat.le_refl _) (Nat.le_refl _) (fx_ric hE)
    · replace hE := fx_t c3 hE
      refine pm_aloadn hG dX3_carryOut_37 rfl ?_
      refine pm_getf hG dX3_carryOut_38 (flX3_9 _ rfl) rfl rfl ?_
      refine pm_iloadn hG dX3_carryOut_41 rfl ?_
      refine pm_callV (As := [.int x1]) (rest := []) hG hR dX3_carryOut_42 (lkX3_95 _ rfl) okV_X7_isLiving rfl rfl (c_X7_isLiving (d := 4) (by decide) rfl) rfl rfl hdd (Nat.le_refl _) (Nat.le_refl _) (by decide) (fx_ki ?_)
      refine pm_if_ne (tgt := 51) hG dX3_carryOut_45 rfl (fun c4 => ?_) (fun c4 => ?_)
      · replace hE := fx_f c4 hE
        refine pm_aloadn hG dX3_carryOut_51 rfl ?_
        refine pm_getf hG dX3_carryOut_52 (flX3_29 _ rfl) rfl rfl ?_
        refine pm_iloadn hG dX3_carryOut_55 rfl ?_
        refine pm_bipush (v := 10) hG dX3_carryOut_56 (by decide) ?_
        refine pm_callV (As := [.int za, .int 10]) (rest := []) hG hR dX3_carryOut_58 (lkX3_35 _ rfl) okV_X9_get rfl rfl (tget_14 (d := 4)) rfl rfl hdd (Nat.le_refl _) (Nat.le_refl _) (by decide) (fx_ki ?_)
        refine pm_iconst (v := 1) hG dX3_carryOut_61 (by decide) ?_
        refine pm_icmp_eq (tgt := 68) hG dX3_carryOut_62 rfl (fun c5 => ?_) (fun c5 => ?_)
        · replace hE := fx_t c5 hE
          refine pm_aloadn hG dX3_carryOut_68 rfl ?_
          refine pm_aloadn hG dX3_carryOut_69 rfl ?_
          refine pm_getf hG dX3_carryOut_70 (flX3_29 _ rfl) rfl rfl ?_
          refine pm_iloadn hG dX3_carryOut_73 rfl ?_
          refine pm_iconst (v := 1) hG dX3_carryOut_74 (by decide) ?_
          refine pm_callV (As := [.int za, .int 1]) (rest := [.ref (B + 36)]) hG hR dX3_carryOut_75 (lkX3_35 _ rfl) okV_X9_get rfl rfl (tget_14 (d := 4)) rfl rfl hdd (Nat.le_refl _) (Nat.le_refl _) (by first | decide | exact Nat.le_of_ble_eq_true rfl) (fx_ki ?_)
          refine pm_aloadn hG dX3_carryOut_78 rfl ?_
          refine pm_getf hG dX3_carryOut_79 (flX3_29 _ rfl) rfl rfl ?_
          refine pm_iloadn hG dX3_carryOut_82 rfl ?_
          refine pm_iconst (v := 2) hG dX3_carryOut_83 (by decide) ?_
          refine pm_callV (As := [.int za, .int 2]) (rest := [.int (fG 14 40 12 S za 1), .ref (B + 36)]) hG hR dX3_carryOut_84 (lkX3_35 _ rfl) okV_X9_get rfl rfl (tget_14 (d := 4)) rfl rfl hdd (Nat.le_refl _) (Nat.le_refl _) (by first | decide | exact Nat.le_of_ble_eq_true rfl) (fx_ki ?_)
          refine pm_iloadn hG dX3_carryOut_87 rfl ?_
          obtain ⟨r7, h6, hE⟩ := fb_some hE
          refine pm_callV (As := [.int (fG 14 40 12 S za 1), .int (fG 14 40 12 S za 2), .int x1]) (rest := []) hG hR dX3_carryOut_88 (lkX3_99 _ rfl) okV_X3_carryOutSort rfl rfl (c_X3_carryOutSort (d := 4) (by decide) h6) rfl rfl hdd (Nat.le_refl _) (Nat.le_refl _) (by decide) (fx_ki ?_)
          refine pm_istoreXn (loc' := [some (.ref (B + 36)), some (.int za), some (.int x1), some (.int r7.1)]) hG dX3_carryOut_91 (by decide) (pm_c1b rfl) rfl ?_
          refine pm_iloadn hG dX3_carryOut_92 rfl ?_
          refine pm_ldc hG dX3_carryOut_93 (ctX3_81 _ rfl) ?_
          refine pm_icmp_eq (tgt := 109) hG dX3_carryOut_95 rfl (fun c8 => ?_) (fun c8 => ?_)
          · replace hE := fx_t c8 hE
            refine pm_iloadn hG dX3_carryOut_109 rfl ?_
            exact pm_iret hG hF dX3_carryOut_110 rfl (Nat.le_refl _) (Nat.le_refl _) (fx_ric hE)
          · replace hE := fx_f c8 hE
            refine pm_aloadn hG dX3_carryOut_98 rfl ?_
            refine pm_getf hG dX3_carryOut_99 (flX3_29 _ rfl) rfl rfl ?_
            refine pm_iloadn hG dX3_carryOut_102 rfl ?_
            refine pm_bipush (v := 11) hG dX3_carryOut_103 (by decide) ?_
            refine pm_iconst (v := 1) hG dX3_carryOut_105 (by decide) ?_
            refine pm_callV (As := [.int za, .int 11, .int 1]) (rest := []) hG hR dX3_carryOut_106 (lkX3_45 _ rfl) okV_X9_set rfl rfl (tset_14 (d := 4)) rfl rfl hdd (Nat.le_refl _) (Nat.le_refl _) (by decide) (fx_kv ?_)
            refine fx_letc hE (fun S9 hE => ?_)
            refine pm_iloadn hG dX3_carryOut_109 rfl ?_
            exact pm_iret hG hF dX3_carryOut_110 rfl (Nat.le_refl _) (Nat.le_refl _) (fx_ric hE)
        · replace hE := fx_f c5 hE
          refine pm_ldc hG dX3_carryOut_65 (ctX3_98 _ rfl) ?_
          exact pm_iret hG hF dX3_carryOut_67 rfl (Nat.le_refl _) (Nat.le_refl _) (fx_ric hE)
      · replace hE := fx_t c4 hE
        refine pm_ldc hG dX3_carryOut_48 (ctX3_62 _ rfl) ?_
        exact pm_iret hG hF dX3_carryOut_50 rfl (Nat.le_refl _) (Nat.le_refl _) (fx_ric hE)

set_option maxRecDepth 100000 in
set_option maxHeartbeats 4000000 in
theorem c_X11_obey {d : Nat} {B cnt : Nat} {kp : Value} {ρ : pm_S} {S : FS} {za : Int32} {R : Int32 × FS} (hdd : 6 ≤ d) (hE : f_X11_obey S za = some R) : pm_met mX11_obey d 0 0 B [.ref (B + 0), .int za] cnt (cst B kp S ρ) (pm_Qi (fun v σ' cnt' => v = R.1 ∧ σ' = (cst B kp R.2 ρ) ∧ cnt' = cnt)) := by
  refine pm_enter 0 (by decide) (Nat.le_of_ble_eq_true rfl) rfl (fun G hG hR hF => ?_)
  unfold f_X11_obey at hE
  refine pm_aloadn hG dX11_obey_0 rfl ?_
  refine pm_aloadn hG dX11_obey_1 rfl ?_
  refine pm_getf hG dX11_obey_2 (flX11_12 _ rfl) rfl rfl ?_
  refine pm_getf hG dX11_obey_5 (flX11_224 _ rfl) rfl rfl ?_
  refine pm_iloadn hG dX11_obey_8 rfl ?_
  refine pm_callV (As := [.int za]) (rest := [.ref (B + 0)]) hG hR dX11_obey_9 (lkX11_101 _ rfl) okV_X9_has rfl rfl (thas_14 (d := 5)) rfl rfl hdd (Nat.le_refl _) (Nat.le_refl _) (by first | decide | exact Nat.le_of_ble_eq_true rfl) (fx_ki ?_)
  refine pm_if_eq (tgt := 26) hG dX11_obey_12 rfl (fun c1 => ?_) (fun c1 => ?_)
  · replace hE := fx_t c1 hE
    refine pm_ldc hG dX11_obey_26 (ctX11_109 _ rfl) ?_
    obtain ⟨r3, h2, hE⟩ := fb_some hE
    refine pm_callV (As := [.int (-1000001)]) (rest := []) hG hR dX11_obey_28 (lkX11_97 _ rfl) okV_X11_told rfl rfl (c_X11_told (d := 5) (by decide) h2) rfl rfl hdd (Nat.le_refl _) (Nat.le_refl _) (by decide) (fx_ki ?_)
    exact pm_iret hG hF dX11_obey_31 rfl (Nat.le_refl _) (Nat.le_refl _) (fx_ric hE)
  · replace hE := fx_f c1 hE
    refine pm_aloadn hG dX11_obey_15 rfl ?_
    refine pm_getf hG dX11_obey_16 (flX11_39 _ rfl) rfl rfl ?_
    refine pm_iloadn hG dX11_obey_19 rfl ?_
    obtain ⟨r5, h4, hE⟩ := fb_some hE
    refine pm_callV (As := [.int za]) (rest := [.ref (B + 0)]) hG hR dX11_obey_20 (lkX11_242 _ rfl) okV_X3_carryOut rfl rfl (c_X3_carryOut (d := 5) (by decide) h4) rfl rfl hdd (Nat.le_refl _) (Nat.le_refl _) (by first | decide | exact Nat.le_of_ble_eq_true rfl) (fx_ki ?_)
    refine pm_goto (tgt := 28) hG dX11_obey_23 rfl ?_
    obtain ⟨r7, h6, hE⟩ := fb_some hE
    refine pm_callV (As := [.int r5.1]) (rest := []) hG hR dX11_obey_28 (lkX11_97 _ rfl) okV_X11_told rfl rfl (c_X11_told (d := 5) (by decide) h6) rfl rfl hdd (Nat.le_refl _) (Nat.le_refl _) (by decide) (fx_ki ?_)
    exact pm_iret hG hF dX11_obey_31 rfl (Nat.le_refl _) (Nat.le_refl _) (fx_ric hE)

set_option maxRecDepth 100000 in
set_option maxHeartbeats 4000000 in
theorem c_X3_unfold {d : Nat} {B cnt : Nat} {kp : Value} {ρ : pm_S} {S : FS} {za : Int32} {R : Int32 × FS} (hdd : 5 ≤ d) (hE : f_X3_unfold S za = some R) : pm_met mX3_unfold d 0 0 B [.ref (B + 36), .int za] cnt (cst B kp S ρ) (pm_Qi (fun v σ' cnt' => v = R.1 ∧ σ' = (cst B kp R.2 ρ) ∧ cnt' = cnt)) := by
  refine pm_enter 3 (by decide) (Nat.le_of_ble_eq_true rfl) rfl (fun G hG hR hF => ?_)
  unfold f_X3_unfold at hE
  refine pm_aloadn hG dX3_unfold_0 rfl ?_
  refine pm_getf hG dX3_unfold_1 (flX3_29 _ rfl) rfl rfl ?_
  refine pm_iloadn hG dX3_unfold_4 rfl ?_
  refine pm_bipush (v := 6) hG dX3_unfold_5 (by decide) ?_
  refine pm_callV (As := [.int za, .int 6]) (rest := []) hG hR dX3_unfold_7 (lkX3_35 _ rfl) okV_X9_get rfl rfl (tget_14 (d := 4)) rfl rfl hdd (Nat.le_refl _) (Nat.le_refl _) (by decide) (fx_ki ?_)
  refine fx_letv hE (fun x1 hE => ?_)
  refine pm_istoreXn (loc' := [some (.ref (B + 36)), some (.int za), some (.int x1), none, none]) hG dX3_unfold_10 (by decide) (pm_c1b rfl) rfl ?_
  refine pm_aloadn hG dX3_unfold_11 rfl ?_
  refine pm_iloadn hG dX3_unfold_12 rfl ?_
  refine pm_callV (As := [.int za]) (rest := []) hG hR dX3_unfold_13 (lkX3_55 _ rfl) okV_X3_isSent rfl rfl (c_X3_isSent (d := 4) (by decide) rfl) rfl rfl hdd (Nat.le_refl _) (Nat.le_refl _) (by decide) (fx_ki ?_)
  refine pm_if_eq (tgt := 43) hG dX3_unfold_16 rfl (fun c2 => ?_) (fun c2 => ?_)
  · replace hE := fx_t c2 hE
    refine pm_iconst (v := 0) hG dX3_unfold_43 (by decide) ?_
    refine pm_istoreXn (loc' := [some (.ref (B + 36)), some (.int za), some (.int x1), some (.int 0), none]) hG dX3_unfold_44 (by decide) (pm_c1b rfl) rfl ?_
    refine pm_iloadn hG dX3_unfold_45 rfl ?_
    refine pm_if_eq (tgt := 98) hG dX3_unfold_46 rfl (fun _ => ?_) (fun q => absurd q (by decide))
    refine pm_ldc hG dX3_unfold_98 (ctX3_62 _ rfl) ?_
    exact pm_iret hG hF dX3_unfold_100 rfl (Nat.le_refl _) (Nat.le_refl _) (fx_ric hE)
  · replace hE := fx_f c2 hE
    refine pm_aloadn hG dX3_unfold_19 rfl ?_
    refine pm_getf hG dX3_unfold_20 (flX3_29 _ rfl) rfl rfl ?_
    refine pm_iloadn hG dX3_unfold_23 rfl ?_
    refine pm_bipush (v := 8) hG dX3_unfold_24 (by decide) ?_
    refine pm_callV (As := [.int za, .int 8]) (rest := []) hG hR dX3_unfold_26 (lkX3_35 _ rfl) okV_X9_get rfl rfl (tget_14 (d := 4)) rfl rfl hdd (Nat.le_refl _) (Nat.le_refl _) (by decide) (fx_ki ?_)
    refine pm_aloadn hG dX3_unfold_29 rfl ?_
    refine pm_getf hG dX3_unfold_30 (flX3_9 _ rfl) rfl rfl ?_
    refine pm_getf hG dX3_unfold_33 (flX3_82 _ rfl) rfl rfl ?_
    refine pm_icmp_gt (tgt := 43) hG dX3_unfold_36 rfl (fun c3 => ?_) (fun c3 => ?_)
    · replace hE := fx_t c3 hE
      refine pm_iconst (v := 0) hG dX3_unfold_43 (by decide) ?_
      refine pm_istoreXn (loc' := [some (.ref (B + 36)), some (.int za), some (.int x1), some (.int 0), none]) hG dX3_unfold_44 (by decide) (pm_c1b rfl) rfl ?_
      refine pm_iloadn hG dX3_unfold_45 rfl ?_
      refine pm_if_eq (tgt := 98) hG dX3_unfold_46 rfl (fun _ => ?_) (fun q => absurd q (by decide))
      refine pm_ldc hG dX3_unfold_98 (ctX3_62 _ rfl) ?_
      exact pm_iret hG hF dX3_unfold_100 rfl (Nat.le_refl _) (Nat.le_refl _) (fx_ric hE)
    · replace hE := fx_f c3 hE
      refine pm_iconst (v := 1) hG dX3_unfold_39 (by decide) ?_
      refine pm_goto (tgt := 44) hG dX3_unfold_40 rfl ?_
      refine pm_istoreXn (loc' := [some (.ref (B + 36)), some (.int za), some (.int x1), some (.int 1), none]) hG dX3_unfold_44 (by decide) (pm_c1b rfl) rfl ?_
      refine pm_iloadn hG dX3_unfold_45 rfl ?_
      refine pm_if_eq (tgt := 98) hG dX3_unfold_46 rfl (fun q => absurd q (by decide)) (fun _ => ?_)
      refine pm_aloadn hG dX3_unfold_49 rfl ?_
      refine pm_getf hG dX3_unfold_50 (flX3_29 _ rfl) rfl rfl ?_
      refine pm_iloadn hG dX3_unfold_53 rfl ?_
      refine pm_bipush (v := 9) hG dX3_unfold_54 (by decide) ?_
      refine pm_callV (As := [.int za, .int 9]) (rest := []) hG hR dX3_unfold_56 (lkX3_35 _ rfl) okV_X9_get rfl rfl (tget_14 (d := 4)) rfl rfl hdd (Nat.le_refl _) (Nat.le_refl _) (by decide) (fx_ki ?_)
      refine pm_if_ge (tgt := 98) hG dX3_unfold_59 rfl (fun c4 => ?_) (fun c4 => ?_)
      · replace c4 := Int32.not_lt.mpr c4
        replace hE := fx_f c4 hE
        refine pm_ldc hG dX3_unfold_98 (ctX3_62 _ rfl) ?_
        exact pm_iret hG hF dX3_unfold_100 rfl (Nat.le_refl _) (Nat.le_refl _) (fx_ric hE)
      · replace c4 := Int32.not_le.mp c4
        replace hE := fx_t c4 hE
        refine pm_aloadn hG dX3_unfold_62 rfl ?_
        refine pm_getf hG dX3_unfold_63 (flX3_9 _ rfl) rfl rfl ?_
        refine pm_iloadn hG dX3_unfold_66 rfl ?_
        refine pm_callV (As := [.int x1]) (rest := []) hG hR dX3_unfold_67 (lkX3_59 _ rfl) okV_X7_isInTown rfl rfl (c_X7_isInTown (d := 4) (by decide) rfl) rfl rfl hdd (Nat.le_refl _) (Nat.le_refl _) (by decide) (fx_ki ?_)
        refine pm_if_eq (tgt := 98) hG dX3_unfold_70 rfl (fun c5 => ?_) (fun c5 => ?_)
        · replace hE := fx_t c5 hE
          refine pm_ldc hG dX3_unfold_98 (ctX3_62 _ rfl) ?_
          exact pm_iret hG hF dX3_unfold_100 rfl (Nat.le_refl _) (Nat.le_refl _) (fx_ric hE)
        · replace hE := fx_f c5 hE
          refine pm_aloadn hG dX3_unfold_73 rfl ?_
          refine pm_getf hG dX3_unfold_74 (flX3_9 _ rfl) rfl rfl ?_
          refine pm_getf hG dX3_unfold_77 (flX3_32 _ rfl) rfl rfl ?_
          refine pm_iloadn hG dX3_unfold_80 rfl ?_
          refine pm_iconst (v := 4) hG dX3_unfold_81 (by decide) ?_
          refine pm_callV (As := [.int x1, .int 4]) (rest := []) hG hR dX3_unfold_82 (lkX3_35 _ rfl) okV_X9_get rfl rfl (tget_6 (d := 4)) rfl rfl hdd (Nat.le_refl _) (Nat.le_refl _) (by decide) (fx_ki ?_)
          refine pm_aloadn hG dX3_unfold_85 rfl ?_
          refine pm_getf hG dX3_unfold_86 (flX3_29 _ rfl) rfl rfl ?_
          refine pm_iloadn hG dX3_unfold_89 rfl ?_
          refine pm_bipush (v := 7) hG dX3_unfold_90 (by decide) ?_
          refine pm_callV (As := [.int za, .int 7]) (rest := [.int (fG 6 20 14 S x1 4)]) hG hR dX3_unfold_92 (lkX3_35 _ rfl) okV_X9_get rfl rfl (tget_14 (d := 4)) rfl rfl hdd (Nat.le_refl _) (Nat.le_refl _) (by first | decide | exact Nat.le_of_ble_eq_true rfl) (fx_ki ?_)
          refine pm_icmp_eq (tgt := 101) hG dX3_unfold_95 rfl (fun c6 => ?_) (fun c6 => ?_)
          · replace hE := fx_t c6 hE
            refine pm_aloadn hG dX3_unfold_101 rfl ?_
            refine pm_getf hG dX3_unfold_102 (flX3_15 _ rfl) rfl rfl ?_
            refine pm_iconst (v := 1) hG dX3_unfold_105 (by decide) ?_
            refine pm_aloadn hG dX3_unfold_106 rfl ?_
            refine pm_getf hG dX3_unfold_107 (flX3_9 _ rfl) rfl rfl ?_
            refine pm_getf hG dX3_unfold_110 (flX3_82 _ rfl) rfl rfl ?_
            refine pm_aloadn hG dX3_unfold_113 rfl ?_
            refine pm_getf hG dX3_unfold_114 (flX3_9 _ rfl) rfl rfl ?_
            refine pm_iloadn hG dX3_unfold_117 rfl ?_
            refine pm_callV (As := [.int x1]) (rest := [.int (S.1 102), .int 1, .ref (B + 26)]) hG hR dX3_unfold_118 (lkX3_86 _ rfl) okV_X7_knownTo rfl rfl (c_X7_knownTo (d := 4) (by decide) rfl) rfl rfl hdd (Nat.le_refl _) (Nat.le_refl _) (by first | decide | exact Nat.le_of_ble_eq_true rfl) (fx_ki ?_)
            refine pm_iloadn hG dX3_unfold_121 rfl ?_
            refine pm_iloadn hG dX3_unfold_122 rfl ?_
            obtain ⟨r8, h7, hE⟩ := fb_some hE
            refine pm_callV (As := [.int 1, .int (S.1 102), .int (p_X7_knownTo S x1), .int x1, .int za]) (rest := []) hG hR dX3_unfold_123 (lkX3_89 _ rfl) okV_X2_ruling rfl rfl (c_X2_ruling (d := 4) (by decide) h7) rfl rfl hdd (Nat.le_refl _) (Nat.le_refl _) (by decide) (fx_ki ?_)
            refine pm_if_eq (tgt := 133) hG dX3_unfold_126 rfl (fun c9 => ?_) (fun c9 => ?_)
            · replace hE := fx_t c9 hE
              refine pm_iconst (v := 0) hG dX3_unfold_133 (by decide) ?_
              refine pm_istoreXi (loc' := [some (.ref (B + 36)), some (.int za), some (.int x1), some (.int 1), some (.int 0)]) hG dX3_unfold_134 (by decide) (pm_c1b rfl) rfl ?_
              refine pm_aloadn hG dX3_unfold_136 rfl ?_
              refine pm_getf hG dX3_unfold_137 (flX3_29 _ rfl) rfl rfl ?_
              refine pm_iloadn hG dX3_unfold_140 rfl ?_
              refine pm_bipush (v := 9) hG dX3_unfold_141 (by decide) ?_
              refine pm_aloadn hG dX3_unfold_143 rfl ?_
              refine pm_getf hG dX3_unfold_144 (flX3_9 _ rfl) rfl rfl ?_
              refine pm_getf hG dX3_unfold_147 (flX3_82 _ rfl) rfl rfl ?_
              refine pm_callV (As := [.int za, .int 9, .int (r8.2.1 102)]) (rest := []) hG hR dX3_unfold_150 (lkX3_45 _ rfl) okV_X9_set rfl rfl (tset_14 (d := 4)) rfl rfl hdd (Nat.le_refl _) (Nat.le_refl _) (by decide) (fx_kv ?_)
              refine fx_letc hE (fun S10 hE => ?_)
              refine pm_aloadn hG dX3_unfold_153 rfl ?_
              refine pm_getf hG dX3_unfold_154 (flX3_29 _ rfl) rfl rfl ?_
              refine pm_iloadn hG dX3_unfold_157 rfl ?_
              refine pm_bipush (v := 10) hG dX3_unfold_158 (by decide) ?_
              refine pm_iloadi hG dX3_unfold_160 rfl ?_
              refine pm_callV (As := [.int za, .int 10, .int 0]) (rest := []) hG hR dX3_unfold_162 (lkX3_45 _ rfl) okV_X9_set rfl rfl (tset_14 (d := 4)) rfl rfl hdd (Nat.le_refl _) (Nat.le_refl _) (by decide) (fx_kv ?_)
              refine fx_letc hE (fun S11 hE => ?_)
              refine pm_iloadi hG dX3_unfold_165 rfl ?_
              exact pm_iret hG hF dX3_unfold_167 rfl (Nat.le_refl _) (Nat.le_refl _) (fx_ric hE)
            · replace hE := fx_f c9 hE
              refine pm_iconst (v := 1) hG dX3_unfold_129 (by decide) ?_
              refine pm_goto (tgt := 134) hG dX3_unfold_130 rfl ?_
              refine pm_istoreXi (loc' := [some (.ref (B + 36)), some (.int za), some (.int x1), some (.int 1), some (.int 1)]) hG dX3_unfold_134 (by decide) (pm_c1b rfl) rfl ?_
              refine pm_aloadn hG dX3_unfold_136 rfl ?_
              refine pm_getf hG dX3_unfold_137 (flX3_29 _ rfl) rfl rfl ?_
              refine pm_iloadn hG dX3_unfold_140 rfl ?_
              refine pm_bipush (v := 9) hG dX3_unfold_141 (by decide) ?_
              refine pm_aloadn hG dX3_unfold_143 rfl ?_
              refine pm_getf hG dX3_unfold_144 (flX3_9 _ rfl) rfl rfl ?_
              refine pm_getf hG dX3_unfold_147 (flX3_82 _ rfl) rfl rfl ?_
              refine pm_callV (As := [.int za, .int 9, .int (r8.2.1 102)]) (rest := []) hG hR dX3_unfold_150 (lkX3_45 _ rfl) okV_X9_set rfl rfl (tset_14 (d := 4)) rfl rfl hdd (Nat.le_refl _) (Nat.le_refl _) (by decide) (fx_kv ?_)
              refine fx_letc hE (fun S12 hE => ?_)
              refine pm_aloadn hG dX3_unfold_153 rfl ?_
              refine pm_getf hG dX3_unfold_154 (flX3_29 _ rfl) rfl rfl ?_
              refine pm_iloadn hG dX3_unfold_157 rfl ?_
              refine pm_bipush (v := 10) hG dX3_unfold_158 (by decide) ?_
              refine pm_iloadi hG dX3_unfold_160 rfl ?_
              refine pm_callV (As := [.int za, .int 10, .int 1]) (rest := []) hG hR dX3_unfold_162 (lkX3_45 _ rfl) okV_X9_set rfl rfl (tset_14 (d := 4)) rfl rfl hdd (Nat.le_refl _) (Nat.le_refl _) (by decide) (fx_kv ?_)
              refine fx_letc hE (fun S13 hE => ?_)
              refine pm_iloadi hG dX3_unfold_165 rfl ?_
              exact pm_iret hG hF dX3_unfold_167 rfl (Nat.le_refl _) (Nat.le_refl _) (fx_ric hE)
          · replace hE := fx_f c6 hE
            refine pm_ldc hG dX3_unfold_98 (ctX3_62 _ rfl) ?_
            exact pm_iret hG hF dX3_unfold_100 rfl (Nat.le_refl _) (Nat.le_refl _) (fx_ric hE)
