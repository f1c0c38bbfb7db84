section
set_option maxRecDepth 100000 in
set_option maxHeartbeats 4000000 in
theorem c_X12_in {d : Nat} {B cnt : Nat} {σ : pm_S} {S : FS} {za : Int32} {zb : Int32} {zc : Int32} {R : Int32} (hdd : 1 ≤ d) (hE : p_X12_in S za zb zc = R) : pm_met mX12_in d 0 0 B [.int za, .int zb, .int zc] cnt (mst B S σ) (pm_Qi (fun v σ' cnt' => v = R ∧ σ' = (mst B S σ) ∧ cnt' = cnt)) := by
  refine pm_enter 0 (by decide) (Nat.le_of_ble_eq_true rfl) rfl (fun G hG hR hF => ?_)
  unfold p_X12_in at hE
  refine pm_iloadn hG dX12_in_0 rfl ?_
  refine pm_iloadn hG dX12_in_1 rfl ?_
  refine pm_icmp_lt (tgt := 14) hG dX12_in_2 rfl (fun c1 => ?_) (fun c1 => ?_)
  · replace hE := fx_t c1 hE
    refine pm_iconst (v := 0) hG dX12_in_14 (by decide) ?_
    exact pm_zret hG hF dX12_in_15 rfl (by rfl) (Nat.le_refl _) (Nat.le_refl _) (fx_pi hE)
  · replace hE := fx_f c1 hE
    refine pm_iloadn hG dX12_in_5 rfl ?_
    refine pm_iloadn hG dX12_in_6 rfl ?_
    refine pm_icmp_gt (tgt := 14) hG dX12_in_7 rfl (fun c2 => ?_) (fun c2 => ?_)
    · replace hE := fx_t c2 hE
      refine pm_iconst (v := 0) hG dX12_in_14 (by decide) ?_
      exact pm_zret hG hF dX12_in_15 rfl (by rfl) (Nat.le_refl _) (Nat.le_refl _) (fx_pi hE)
    · replace hE := fx_f c2 hE
      refine pm_iconst (v := 1) hG dX12_in_10 (by decide) ?_
      refine pm_goto (tgt := 15) hG dX12_in_11 rfl ?_
      exact pm_zret hG hF dX12_in_15 rfl (by rfl) (Nat.le_refl _) (Nat.le_refl _) (fx_pi hE)

set_option maxRecDepth 100000 in
set_option maxHeartbeats 4000000 in
theorem c_X12_isPerson {d : Nat} {B cnt : Nat} {σ : pm_S} {S : FS} {za : Int32} {R : Int32} (hdd : 2 ≤ d) (hE : p_X12_isPerson S za = R) : pm_met mX12_isPerson d 0 0 B [.ref (B + 54), .int za] cnt (mst B S σ) (pm_Qi (fun v σ' cnt' => v = R ∧ σ' = (mst B S σ) ∧ cnt' = cnt)) := by
  refine pm_enter 0 (by decide) (Nat.le_of_ble_eq_true rfl) rfl (fun G hG hR hF => ?_)
  unfold p_X12_isPerson at hE
  refine pm_iloadn hG dX12_isPerson_0 rfl ?_
  refine pm_iconst (v := 0) hG dX12_isPerson_1 (by decide) ?_
  refine pm_aloadn hG dX12_isPerson_2 rfl ?_
  refine pm_getf hG dX12_isPerson_3 (flX12_7 _ rfl) rfl rfl ?_
  refine pm_iconst (v := 2) hG dX12_isPerson_6 (by decide) ?_
  refine fx_iald hG dX12_isPerson_7 rfl (ix_lit (by decide) rfl) ?_
  refine pm_iconst (v := 1) hG dX12_isPerson_8 (by decide) ?_
  refine pm_isub hG dX12_isPerson_9 ?_
  refine pm_callS (As := [.int za, .int 0, .int ((S.2 55 2) - 1)]) (rest := []) hG hR dX12_isPerson_10 (lkX12_68 _ rfl) okS_X12_in (c_X12_in (d := 1) (by decide) rfl) rfl rfl hdd (Nat.le_refl _) (Nat.le_refl _) (by decide) (fx_ki ?_)
  exact pm_zret hG hF dX12_isPerson_13 rfl (pm_nz pb_X12_in) (Nat.le_refl _) (Nat.le_refl _) (fx_pi hE)

set_option maxRecDepth 100000 in
set_option maxHeartbeats 4000000 in
theorem c_X12_man {d : Nat} {B cnt : Nat} {σ : pm_S} {S : FS} {za : Int32} {zb : Int32} {R : Int32} (hdd : 1 ≤ d) (hE : q_X12_man S za zb = some R) : pm_met mX12_man d 0 0 B [.ref (B + 54), .int za, .int zb] cnt (mst B S σ) (pm_Qi (fun v σ' cnt' => v = R ∧ σ' = (mst B S σ) ∧ cnt' = cnt)) := by
  refine pm_enter 0 (by decide) (Nat.le_of_ble_eq_true rfl) rfl (fun G hG hR hF => ?_)
  unfold q_X12_man at hE
  refine pm_aloadn hG dX12_man_0 rfl ?_
  refine pm_getf hG dX12_man_1 (flX12_7 _ rfl) rfl rfl ?_
  refine pm_bipush (v := 110) hG dX12_man_4 (by decide) ?_
  refine pm_bipush (v := 14) hG dX12_man_6 (by decide) ?_
  refine pm_iloadn hG dX12_man_8 rfl ?_
  refine pm_imul hG dX12_man_9 ?_
  refine pm_iadd hG dX12_man_10 ?_
  refine pm_iloadn hG dX12_man_11 rfl ?_
  refine pm_iadd hG dX12_man_12 ?_
  obtain ⟨j1, hj1, hE⟩ := fb_some hE
  refine fx_iald hG dX12_man_13 rfl hj1 ?_
  exact pm_iret hG hF dX12_man_14 rfl (Nat.le_refl _) (Nat.le_refl _) (fx_pi (Option.some.inj hE))

set_option maxRecDepth 100000 in
set_option maxHeartbeats 4000000 in
theorem c_X12_lives {d : Nat} {B cnt : Nat} {σ : pm_S} {S : FS} {za : Int32} {R : Int32} (hdd : 2 ≤ d) (hE : q_X12_lives S za = some R) : pm_met mX12_lives d 0 0 B [.ref (B + 54), .int za] cnt (mst B S σ) (pm_Qi (fun v σ' cnt' => v = R ∧ σ' = (mst B S σ) ∧ cnt' = cnt)) := by
  refine pm_enter 0 (by decide) (Nat.le_of_ble_eq_true rfl) rfl (fun G hG hR hF => ?_)
  unfold q_X12_lives at hE
  refine pm_aloadn hG dX12_lives_0 rfl ?_
  refine pm_iloadn hG dX12_lives_1 rfl ?_
  refine pm_bipush (v := 9) hG dX12_lives_2 (by decide) ?_
  obtain ⟨x2, h1, hE⟩ := fb_some hE
  refine pm_callV (As := [.int za, .int 9]) (rest := []) hG hR dX12_lives_4 (lkX12_72 _ rfl) okV_X12_man rfl rfl (c_X12_man (d := 1) (by decide) h1) rfl rfl hdd (Nat.le_refl _) (Nat.le_refl _) (by decide) (fx_ki ?_)
  refine pm_if_ge (tgt := 14) hG dX12_lives_7 rfl (fun c3 => ?_) (fun c3 => ?_)
  · replace c3 := Int32.not_lt.mpr c3
    replace hE := fx_f c3 hE
    refine pm_iconst (v := 0) hG dX12_lives_14 (by decide) ?_
    exact pm_zret hG hF dX12_lives_15 rfl (by rfl) (Nat.le_refl _) (Nat.le_refl _) (fx_pi (Option.some.inj hE))
  · replace c3 := Int32.not_le.mp c3
    replace hE := fx_t c3 hE
    refine pm_iconst (v := 1) hG dX12_lives_10 (by decide) ?_
    refine pm_goto (tgt := 15) hG dX12_lives_11 rfl ?_
    exact pm_zret hG hF dX12_lives_15 rfl (by rfl) (Nat.le_refl _) (Nat.le_refl _) (fx_pi (Option.some.inj hE))

set_option maxRecDepth 100000 in
set_option maxHeartbeats 4000000 in
theorem c_X12_findDays {d : Nat} {B cnt : Nat} {σ : pm_S} {S : FS} {za : Int32} {R : Int32 × FS} (hdd : 1 ≤ d) (hE : f_X12_findDays S za = some R) : pm_met mX12_findDays d 0 0 B [.ref (B + 54), .int za] cnt (mst B S σ) (pm_Qv (fun σ' cnt' => σ' = (mst B R.2 σ) ∧ cnt' = cnt)) := by
  refine pm_enter 6 (by decide) (Nat.le_of_ble_eq_true rfl) rfl (fun G hG hR hF => ?_)
  unfold f_X12_findDays at hE
  refine pm_iconst (v := 0) hG dX12_findDays_0 (by decide) ?_
  refine pm_istoreXn (loc' := [some (.ref (B + 54)), some (.int za), some (.int 0), none, none, none, none, none]) hG dX12_findDays_1 (by decide) (pm_c1b rfl) rfl ?_
  have loop2 : ∀ (k2 : FS → Int32 → Option (Int32 × FS)), (∀ (S1 : FS) (x1_2 : Int32), k2 S1  x1_2 = some R → pm_wp mX12_findDays G B 30 [some (.ref (B + 54)), some (.int za), some (.int x1_2), none, none, none, none, none] [] 0 0 cnt (mst B S1 σ)) → ∀ (m2 : Nat) (S1 : FS) (x1_2 : Int32), l_X12_findDays_2 za k2 m2 S1  x1_2 = some R → pm_wp mX12_findDays G B 2 [some (.ref (B + 54)), some (.int za), some (.int x1_2), none, none, none, none, none] [] 0 0 cnt (mst B S1 σ) := by
    intro k2 hk2 m2
    induction m2 with
    | zero => intro S1  x1_2 hE; exact fx_no hE
    | succ m2 ih2 =>
      intro S1  x1_2 hE
      rw [l_X12_findDays_2] at hE
      refine pm_iloadn hG dX12_findDays_2 rfl ?_
      refine pm_bipush (v := 10) hG dX12_findDays_3 (by decide) ?_
      refine pm_icmp_ge (tgt := 30) hG dX12_findDays_5 rfl (fun c2 => ?_) (fun c2 => ?_)
      · replace c2 := Int32.not_lt.mpr c2
        replace hE := fx_f c2 hE
        exact hk2 _ _ hE
      · replace c2 := Int32.not_le.mp c2
        replace hE := fx_t c2 hE
        refine pm_aloadn hG dX12_findDays_8 rfl ?_
        refine pm_getf hG dX12_findDays_9 (flX12_19 _ rfl) rfl rfl ?_
        refine pm_iloadn hG dX12_findDays_12 rfl ?_
        refine pm_iloadn hG dX12_findDays_13 rfl ?_
        refine pm_iloadn hG dX12_findDays_14 rfl ?_
        refine pm_icmp_ne (tgt := 22) hG dX12_findDays_15 rfl (fun c3 => ?_) (fun c3 => ?_)
        · replace hE := fx_f c3 hE
          refine pm_iconst (v := (-1)) hG dX12_findDays_22 (by decide) ?_
          obtain ⟨j4, hj4, hE⟩ := fb_some hE
          refine fx_iast hG dX12_findDays_23 rfl hj4 ?_
          refine ma_58 ?_
          refine fx_letm hE (fun S5 hE => ?_)
          refine pm_iincX (v := x1_2 + 1) (loc' := [some (.ref (B + 54)), some (.int za), some (.int (x1_2 + 1)), none, none, none, none, none]) hG dX12_findDays_24 rfl (by rfl) (by decide) (pm_c1b rfl) rfl ?_
          refine pm_goto (tgt := 2) hG dX12_findDays_27 rfl ?_
          exact ih2 _ _ hE
        · replace hE := fx_t c3 hE
          refine pm_iconst (v := 0) hG dX12_findDays_18 (by decide) ?_
          refine pm_goto (tgt := 23) hG dX12_findDays_19 rfl ?_
          obtain ⟨j6, hj6, hE⟩ := fb_some hE
          refine fx_iast hG dX12_findDays_23 rfl hj6 ?_
          refine ma_58 ?_
          refine fx_letm hE (fun S7 hE => ?_)
          refine pm_iincX (v := x1_2 + 1) (loc' := [some (.ref (B + 54)), some (.int za), some (.int (x1_2 + 1)), none, none, none, none, none]) hG dX12_findDays_24 rfl (by rfl) (by decide) (pm_c1b rfl) rfl ?_
          refine pm_goto (tgt := 2) hG dX12_findDays_27 rfl ?_
          exact ih2 _ _ hE
  refine loop2 _ (fun S8 x8_2 hE => ?_) _ _ _ hE
  refine pm_iconst (v := 1) hG dX12_findDays_30 (by decide) ?_
  refine pm_istoreXn (loc' := [some (.ref (B + 54)), some (.int za), some (.int 1), none, none, none, none, none]) hG dX12_findDays_31 (by decide) (pm_c1b rfl) rfl ?_
  have loop32 : ∀ (k32 : FS → Int32 → Option (Int32 × FS)), (∀ (S9 : FS) (x9_2 : Int32), k32 S9  x9_2 = some R → pm_wp mX12_findDays G B 177 [some (.ref (B + 54)), some (.int za), some (.int x9_2), none, none, none, none, none] [] 0 0 cnt (mst B S9 σ)) → ∀ (m32 : Nat) (S9 : FS) (x9_2 : Int32), l_X12_findDays_32 k32 m32 S9  x9_2 = some R → pm_wp mX12_findDays G B 32 [some (.ref (B + 54)), some (.int za), some (.int x9_2), none, none, none, none, none] [] 0 0 cnt (mst B S9 σ) := by
    intro k32 hk32 m32
    induction m32 with
    | zero => intro S9  x9_2 hE; exact fx_no hE
    | succ m32 ih32 =>
      intro S9  x9_2 hE
      rw [l_X12_findDays_32] at hE
      refine pm_iloadn hG dX12_findDays_32 rfl ?_
      refine pm_if_eq (tgt := 177) hG dX12_findDays_33 rfl (fun c10 => ?_) (fun c10 => ?_)
      · replace hE := fx_t c10 hE
        exact hk32 _ _ hE
      · replace hE := fx_f c10 hE
        refine pm_iconst (v := 0) hG dX12_findDays_36 (by decide) ?_
        refine pm_istoreXn (loc' := [some (.ref (B + 54)), some (.int za), some (.int 0), none, none, none, none, none]) hG dX12_findDays_37 (by decide) (pm_c1b rfl) rfl ?_
        refine pm_iconst (v := 0) hG dX12_findDays_38 (by decide) ?_
        refine pm_istoreXn (loc' := [some (.ref (B + 54)), some (.int za), some (.int 0), some (.int 0), none, none, none, none]) hG dX12_findDays_39 (by decide) (pm_c1b rfl) rfl ?_
        have loop40 : ∀ (k40 : FS → Int32 → Int32 → Option (Int32 × FS)), (∀ (S11 : FS) (x11_2 : Int32) (x11_3 : Int32), k40 S11  x11_2 x11_3 = some R → pm_wp mX12_findDays G B 174 [some (.ref (B + 54)), some (.int za), some (.int x11_2), some (.int x11_3), none, none, none, none] [] 0 0 cnt (mst B S11 σ)) → ∀ (m40 : Nat) (S11 : FS) (x11_2 : Int32) (x11_3 : Int32), l_X12_findDays_40 k40 m40 S11  x11_2 x11_3 = some R → pm_wp mX12_findDays G B 40 [some (.ref (B + 54)), some (.int za), some (.int x11_2), some (.int x11_3), none, none, none, none] [] 0 0 cnt (mst B S11 σ) := by
          intro k40 hk40 m40
          induction m40 with
          | zero => intro S11  x11_2 x11_3 hE; exact fx_no hE
          | succ m40 ih40 =>
            intro S11  x11_2 x11_3 hE
            rw [l_X12_findDays_40] at hE
            refine pm_iloadn hG dX12_findDays_40 rfl ?_
            refine pm_aloadn hG dX12_findDays_41 rfl ?_
            refine pm_getf hG dX12_findDays_42 (flX12_7 _ rfl) rfl rfl ?_
            refine pm_iconst (v := 1) hG dX12_findDays_45 (by decide) ?_
            refine fx_iald hG dX12_findDays_46 rfl (ix_lit (by decide) rfl) ?_
            refine pm_icmp_ge (tgt := 174) hG dX12_findDays_47 rfl (fun c12 => ?_) (fun c12 => ?_)
            · replace c12 := Int32.not_lt.mpr c12
              replace hE := fx_f c12 hE
              exact hk40 _ _ _ hE
            · replace c12 := Int32.not_le.mp c12
              replace hE := fx_t c12 hE
              refine pm_iconst (v := 0) hG dX12_findDays_50 (by decide) ?_
              refine pm_istoreXi (loc' := [some (.ref (B + 54)), some (.int za), some (.int x11_2), some (.int x11_3), some (.int 0), none, none, none]) hG dX12_findDays_51 (by decide) (pm_c1b rfl) rfl ?_
              have loop53 : ∀ (k53 : FS → Int32 → Int32 → Option (Int32 × FS)), (∀ (S13 : FS) (x13_2 : Int32) (x13_4 : Int32), k53 S13  x13_2 x13_4 = some R → pm_wp mX12_findDays G B 168 [some (.ref (B + 54)), some (.int za), some (.int x13_2), some (.int x11_3), some (.int x13_4), none, none, none] [] 0 0 cnt (mst B S13 σ)) → ∀ (m53 : Nat) (S13 : FS) (x13_2 : Int32) (x13_4 : Int32), l_X12_findDays_53 x11_3 k53 m53 S13  x13_2 x13_4 = some R → pm_wp mX12_findDays G B 53 [some (.ref (B + 54)), some (.int za), some (.int x13_2), some (.int x11_3), some (.int x13_4), none, none, none] [] 0 0 cnt (mst B S13 σ) := by
                intro k53 hk53 m53
                induction m53 with
                | zero => intro S13  x13_2 x13_4 hE; exact fx_no hE
                | succ m53 ih53 =>
                  intro S13  x13_2 x13_4 hE
                  rw [l_X12_findDays_53] at hE
                  refine pm_iloadi hG dX12_findDays_53 rfl ?_
                  refine pm_iconst (v := 2) hG dX12_findDays_55 (by decide) ?_
                  refine pm_icmp_ge (tgt := 168) hG dX12_findDays_56 rfl (fun c14 => ?_) (fun c14 => ?_)
                  · replace c14 := Int32.not_lt.mpr c14
                    replace hE := fx_f c14 hE
                    exact hk53 _ _ _ hE
                  · replace c14 := Int32.not_le.mp c14
                    replace hE := fx_t c14 hE
                    refine pm_aloadn hG dX12_findDays_59 rfl ?_
                    refine pm_getf hG dX12_findDays_60 (flX12_7 _ rfl) rfl rfl ?_
                    refine pm_bipush (v := 50) hG dX12_findDays_63 (by decide) ?_
                    refine pm_iconst (v := 3) hG dX12_findDays_65 (by decide) ?_
                    refine pm_iloadn hG dX12_findDays_66 rfl ?_
                    refine pm_imul hG dX12_findDays_67 ?_
                    refine pm_iadd hG dX12_findDays_68 ?_
                    refine pm_iloadi hG dX12_findDays_69 rfl ?_
                    refine pm_iadd hG dX12_findDays_71 ?_
                    obtain ⟨j15, hj15, hE⟩ := fb_some hE
                    refine fx_iald hG dX12_findDays_72 rfl hj15 ?_
                    refine fx_letv hE (fun x16 hE => ?_)
                    refine pm_istoreXi (loc' := [some (.ref (B + 54)), some (.int za), some (.int x13_2), some (.int x11_3), some (.int x13_4), some (.int x16), none, none]) hG dX12_findDays_73 (by decide) (pm_c1b rfl) rfl ?_
                    refine pm_aloadn hG dX12_findDays_75 rfl ?_
                    refine pm_getf hG dX12_findDays_76 (flX12_7 _ rfl) rfl rfl ?_
                    refine pm_bipush (v := 50) hG dX12_findDays_79 (by decide) ?_
                    refine pm_iconst (v := 3) hG dX12_findDays_81 (by decide) ?_
                    refine pm_iloadn hG dX12_findDays_82 rfl ?_
                    refine pm_imul hG dX12_findDays_83 ?_
                    refine pm_iadd hG dX12_findDays_84 ?_
                    refine pm_iconst (v := 1) hG dX12_findDays_85 (by decide) ?_
                    refine pm_iadd hG dX12_findDays_86 ?_
                    refine pm_iloadi hG dX12_findDays_87 rfl ?_
                    refine pm_isub hG dX12_findDays_89 ?_
                    obtain ⟨j17, hj17, hE⟩ := fb_some hE
                    refine fx_iald hG dX12_findDays_90 rfl hj17 ?_
                    refine fx_letv hE (fun x18 hE => ?_)
                    refine pm_istoreXi (loc' := [some (.ref (B + 54)), some (.int za), some (.int x13_2), some (.int x11_3), some (.int x13_4), some (.int x16), some (.int x18), none]) hG dX12_findDays_91 (by decide) (pm_c1b rfl) rfl ?_
                    refine pm_aloadn hG dX12_findDays_93 rfl ?_
                    refine pm_getf hG dX12_findDays_94 (flX12_19 _ rfl) rfl rfl ?_
                    refine pm_iloadi hG dX12_findDays_97 rfl ?_
                    obtain ⟨j19, hj19, hE⟩ := fb_some hE
                    refine fx_iald hG dX12_findDays_99 rfl hj19 ?_
                    refine pm_aloadn hG dX12_findDays_100 rfl ?_
                    refine pm_getf hG dX12_findDays_101 (flX12_7 _ rfl) rfl rfl ?_
                    refine pm_bipush (v := 50) hG dX12_findDays_104 (by decide) ?_
                    refine pm_iconst (v := 3) hG dX12_findDays_106 (by decide) ?_
                    refine pm_iloadn hG dX12_findDays_107 rfl ?_
                    refine pm_imul hG dX12_findDays_108 ?_
                    refine pm_iadd hG dX12_findDays_109 ?_
                    refine pm_iconst (v := 2) hG dX12_findDays_110 (by decide) ?_
                    refine pm_iadd hG dX12_findDays_111 ?_
                    obtain ⟨j20, hj20, hE⟩ := fb_some hE
                    refine fx_iald hG dX12_findDays_112 rfl hj20 ?_
                    refine pm_iadd hG dX12_findDays_113 ?_
                    refine fx_letv hE (fun x21 hE => ?_)
                    refine pm_istoreXi (loc' := [some (.ref (B + 54)), some (.int za), some (.int x13_2), some (.int x11_3), some (.int x13_4), some (.int x16), some (.int x18), some (.int x21)]) hG dX12_findDays_114 (by decide) (pm_c1b rfl) rfl ?_
                    refine pm_aloadn hG dX12_findDays_116 rfl ?_
                    refine pm_getf hG dX12_findDays_117 (flX12_19 _ rfl) rfl rfl ?_
                    refine pm_iloadi hG dX12_findDays_120 rfl ?_
                    refine fx_iald hG dX12_findDays_122 rfl hj19 ?_
                    refine pm_if_lt (tgt := 162) hG dX12_findDays_123 rfl (fun c22 => ?_) (fun c22 => ?_)
                    · replace hE := fx_t c22 hE
                      refine pm_iincX (v := x13_4 + 1) (loc' := [some (.ref (B + 54)), some (.int za), some (.int x13_2), some (.int x11_3), some (.int (x13_4 + 1)), some (.int x16), some (.int x18), some (.int x21)]) hG dX12_findDays_162 rfl (by rfl) (by decide) (pm_c1b rfl) rfl ?_
                      refine pm_goto (tgt := 53) hG dX12_findDays_165 rfl ?_
                      refine pm_fg 5 (loc' := [some (.ref (B + 54)), some (.int za), some (.int x13_2), some (.int x11_3), some (.int (x13_4 + 1)), none, some (.int x18), some (.int x21)]) rfl ?_
                      refine pm_fg 6 (loc' := [some (.ref (B + 54)), some (.int za), some (.int x13_2), some (.int x11_3), some (.int (x13_4 + 1)), none, none, some (.int x21)]) rfl ?_
                      refine pm_fg 7 (loc' := [some (.ref (B + 54)), some (.int za), some (.int x13_2), some (.int x11_3), some (.int (x13_4 + 1)), none, none, none]) rfl ?_
                      exact ih53 _ _ _ hE
                    · replace hE := fx_f c22 hE
                      refine pm_aloadn hG dX12_findDays_126 rfl ?_
                      refine pm_getf hG dX12_findDays_127 (flX12_19 _ rfl) rfl rfl ?_
                      refine pm_iloadi hG dX12_findDays_130 rfl ?_
                      obtain ⟨j23, hj23, hE⟩ := fb_some hE
                      refine fx_iald hG dX12_findDays_132 rfl hj23 ?_
                      refine pm_if_lt (tgt := 151) hG dX12_findDays_133 rfl (fun c24 => ?_) (fun c24 => ?_)
                      · replace hE := fx_t c24 hE
                        refine pm_aloadn hG dX12_findDays_151 rfl ?_
                        refine pm_getf hG dX12_findDays_152 (flX12_19 _ rfl) rfl rfl ?_
                        refine pm_iloadi hG dX12_findDays_155 rfl ?_
                        refine pm_iloadi hG dX12_findDays_157 rfl ?_
                        refine fx_iast hG dX12_findDays_159 rfl hj23 ?_
                        refine ma_58 ?_
                        refine fx_letm hE (fun S25 hE => ?_)
                        refine pm_iconst (v := 1) hG dX12_findDays_160 (by decide) ?_
                        refine pm_istoreXn (loc' := [some (.ref (B + 54)), some (.int za), some (.int 1), some (.int x11_3), some (.int x13_4), some (.int x16), some (.int x18), some (.int x21)]) hG dX12_findDays_161 (by decide) (pm_c1b rfl) rfl ?_
                        refine pm_iincX (v := x13_4 + 1) (loc' := [some (.ref (B + 54)), some (.int za), some (.int 1), some (.int x11_3), some (.int (x13_4 + 1)), some (.int x16), some (.int x18), some (.int x21)]) hG dX12_findDays_162 rfl (by rfl) (by decide) (pm_c1b rfl) rfl ?_
                        refine pm_goto (tgt := 53) hG dX12_findDays_165 rfl ?_
                        refine pm_fg 5 (loc' := [some (.ref (B + 54)), some (.int za), some (.int 1), some (.int x11_3), some (.int (x13_4 + 1)), none, some (.int x18), some (.int x21)]) rfl ?_
                        refine pm_fg 6 (loc' := [some (.ref (B + 54)), some (.int za), some (.int 1), some (.int x11_3), some (.int (x13_4 + 1)), none, none, some (.int x21)]) rfl ?_
                        refine pm_fg 7 (loc' := [some (.ref (B + 54)), some (.int za), some (.int 1), some (.int x11_3), some (.int (x13_4 + 1)), none, none, none]) rfl ?_
                        exact ih53 _ _ _ hE
                      · replace hE := fx_f c24 hE
                        refine pm_aloadn hG dX12_findDays_136 rfl ?_
                        refine pm_getf hG dX12_findDays_137 (flX12_19 _ rfl) rfl rfl ?_
                        refine pm_iloadi hG dX12_findDays_140 rfl ?_
                        refine fx_iald hG dX12_findDays_142 rfl hj23 ?_
                        refine pm_iloadi hG dX12_findDays_143 rfl ?_
                        refine pm_icmp_gt (tgt := 151) hG dX12_findDays_145 rfl (fun c26 => ?_) (fun c26 => ?_)
                        · replace hE := fx_t c26 hE
                          refine pm_aloadn hG dX12_findDays_151 rfl ?_
                          refine pm_getf hG dX12_findDays_152 (flX12_19 _ rfl) rfl rfl ?_
                          refine pm_iloadi hG dX12_findDays_155 rfl ?_
                          refine pm_iloadi hG dX12_findDays_157 rfl ?_
                          refine fx_iast hG dX12_findDays_159 rfl hj23 ?_
                          refine ma_58 ?_
                          refine fx_letm hE (fun S27 hE => ?_)
                          refine pm_iconst (v := 1) hG dX12_findDays_160 (by decide) ?_
                          refine pm_istoreXn (loc' := [some (.ref (B + 54)), some (.int za), some (.int 1), some (.int x11_3), some (.int x13_4), some (.int x16), some (.int x18), some (.int x21)]) hG dX12_findDays_161 (by decide) (pm_c1b rfl) rfl ?_
                          refine pm_iincX (v := x13_4 + 1) (loc' := [some (.ref (B + 54)), some (.int za), some (.int 1), some (.int x11_3), some (.int (x13_4 + 1)), some (.int x16), some (.int x18), some (.int x21)]) hG dX12_findDays_162 rfl (by rfl) (by decide) (pm_c1b rfl) rfl ?_
                          refine pm_goto (tgt := 53) hG dX12_findDays_165 rfl ?_
                          refine pm_fg 5 (loc' := [some (.ref (B + 54)), some (.int za), some (.int 1), some (.int x11_3), some (.int (x13_4 + 1)), none, some (.int x18), some (.int x21)]) rfl ?_
                          refine pm_fg 6 (loc' := [some (.ref (B + 54)), some (.int za), some (.int 1), some (.int x11_3), some (.int (x13_4 + 1)), none, none, some (.int x21)]) rfl ?_
                          refine pm_fg 7 (loc' := [some (.ref (B + 54)), some (.int za), some (.int 1), some (.int x11_3), some (.int (x13_4 + 1)), none, none, none]) rfl ?_
                          exact ih53 _ _ _ hE
                        · replace hE := fx_f c26 hE
                          refine pm_goto (tgt := 162) hG dX12_findDays_148 rfl ?_
                          refine pm_iincX (v := x13_4 + 1) (loc' := [some (.ref (B + 54)), some (.int za), some (.int x13_2), some (.int x11_3), some (.int (x13_4 + 1)), some (.int x16), some (.int x18), some (.int x21)]) hG dX12_findDays_162 rfl (by rfl) (by decide) (pm_c1b rfl) rfl ?_
                          refine pm_goto (tgt := 53) hG dX12_findDays_165 rfl ?_
                          refine pm_fg 5 (loc' := [some (.ref (B + 54)), some (.int za), some (.int x13_2), some (.int x11_3), some (.int (x13_4 + 1)), none, some (.int x18), some (.int x21)]) rfl ?_
                          refine pm_fg 6 (loc' := [some (.ref (B + 54)), some (.int za), some (.int x13_2), some (.int x11_3), some (.int (x13_4 + 1)), none, none, some (.int x21)]) rfl ?_
                          refine pm_fg 7 (loc' := [some (.ref (B + 54)), some (.int za), some (.int x13_2), some (.int x11_3), some (.int (x13_4 + 1)), none, none, none]) rfl ?_
                          exact ih53 _ _ _ hE
              refine loop53 _ (fun S28 x28_2 x28_4 hE => ?_) _ _ _ _ hE
              refine pm_iincX (v := x11_3 + 1) (loc' := [some (.ref (B + 54)), some (.int za), some (.int x28_2), some (.int (x11_3 + 1)), some (.int x28_4), none, none, none]) hG dX12_findDays_168 rfl (by rfl) (by decide) (pm_c1b rfl) rfl ?_
              refine pm_goto (tgt := 40) hG dX12_findDays_171 rfl ?_
              refine pm_fg 4 (loc' := [some (.ref (B + 54)), some (.int za), some (.int x28_2), some (.int (x11_3 + 1)), none, none, none, none]) rfl ?_
              exact ih40 _ _ _ hE
        refine loop40 _ (fun S29 x29_2 x29_3 hE => ?_) _ _ _ _ hE
        refine pm_goto (tgt := 32) hG dX12_findDays_174 rfl ?_
        refine pm_fg 3 (loc' := [some (.ref (B + 54)), some (.int za), some (.int x29_2), none, none, none, none, none]) rfl ?_
        exact ih32 _ _ hE
  refine loop32 _ (fun S30 x30_2 hE => ?_) _ _ _ hE
  exact pm_vret hG hF dX12_findDays_177 rfl (Nat.le_refl _) (Nat.le_refl _) (fx_rvm hE)

set_option maxRecDepth 100000 in
set_option maxHeartbeats 4000000 in
theorem c_X12_farOf {d : Nat} {B cnt : Nat} {σ : pm_S} {S : FS} {za : Int32} {zb : Int32} {R : Int32 × FS} (hdd : 2 ≤ d) (hE : f_X12_farOf S za zb = some R) : pm_met mX12_farOf d 0 0 B [.ref (B + 54), .int za, .int zb] cnt (mst B S σ) (pm_Qi (fun v σ' cnt' => v = R.1 ∧ σ' = (mst B R.2 σ) ∧ cnt' = cnt)) := by
  refine pm_enter 0 (by decide) (Nat.le_of_ble_eq_true rfl) rfl (fun G hG hR hF => ?_)
  unfold f_X12_farOf at hE
  refine pm_aloadn hG dX12_farOf_0 rfl ?_
  refine pm_iloadn hG dX12_farOf_1 rfl ?_
  obtain ⟨r2, h1, hE⟩ := fb_some hE
  refine pm_callV (As := [.int za]) (rest := []) hG hR dX12_farOf_2 (lkX12_76 _ rfl) okV_X12_findDays rfl rfl (c_X12_findDays (d := 1) (by decide) h1) rfl rfl hdd (Nat.le_refl _) (Nat.le_refl _) (by decide) (fx_kv ?_)
  refine pm_aloadn hG dX12_farOf_5 rfl ?_
  refine pm_getf hG dX12_farOf_6 (flX12_19 _ rfl) rfl rfl ?_
  refine pm_iloadn hG dX12_farOf_9 rfl ?_
  obtain ⟨j3, hj3, hE⟩ := fb_some hE
  refine fx_iald hG dX12_farOf_10 rfl hj3 ?_
  exact pm_iret hG hF dX12_farOf_11 rfl (Nat.le_refl _) (Nat.le_refl _) (fx_rim hE)

set_option maxRecDepth 100000 in
set_option maxHeartbeats 4000000 in
theorem c_X12_knownTo {d : Nat} {B cnt : Nat} {σ : pm_S} {S : FS} {za : Int32} {R : Int32 × FS} (hdd : 3 ≤ d) (hE : f_X12_knownTo S za = some R) : pm_met mX12_knownTo d 0 0 B [.ref (B + 54), .int za] cnt (mst B S σ) (pm_Qi (fun v σ' cnt' => v = R.1 ∧ σ' = (mst B R.2 σ) ∧ cnt' = cnt)) := by
  refine pm_enter 1 (by decide) (Nat.le_of_ble_eq_true rfl) rfl (fun G hG hR hF => ?_)
  unfold f_X12_knownTo at hE
  refine pm_aloadn hG dX12_knownTo_0 rfl ?_
  refine pm_iloadn hG dX12_knownTo_1 rfl ?_
  refine pm_iconst (v := 4) hG dX12_knownTo_2 (by decide) ?_
  obtain ⟨x2, h1, hE⟩ := fb_some hE
  refine pm_callV (As := [.int za, .int 4]) (rest := []) hG hR dX12_knownTo_3 (lkX12_72 _ rfl) okV_X12_man rfl rfl (c_X12_man (d := 2) (by decide) h1) rfl rfl hdd (Nat.le_refl _) (Nat.le_refl _) (by decide) (fx_ki ?_)
  refine pm_if_lt (tgt := 17) hG dX12_knownTo_6 rfl (fun c3 => ?_) (fun c3 => ?_)
  · replace hE := fx_t c3 hE
    refine pm_aloadn hG dX12_knownTo_17 rfl ?_
    refine pm_iloadn hG dX12_knownTo_18 rfl ?_
    refine pm_bipush (v := 10) hG dX12_knownTo_19 (by decide) ?_
    obtain ⟨x5, h4, hE⟩ := fb_some hE
    refine pm_callV (As := [.int za, .int 10]) (rest := []) hG hR dX12_knownTo_21 (lkX12_72 _ rfl) okV_X12_man rfl rfl (c_X12_man (d := 2) (by decide) h4) rfl rfl hdd (Nat.le_refl _) (Nat.le_refl _) (by decide) (fx_ki ?_)
    exact pm_iret hG hF dX12_knownTo_24 rfl (Nat.le_refl _) (Nat.le_refl _) (fx_rim hE)
  · replace hE := fx_f c3 hE
    refine pm_aloadn hG dX12_knownTo_9 rfl ?_
    refine pm_iloadn hG dX12_knownTo_10 rfl ?_
    obtain ⟨x7, h6, hE⟩ := fb_some hE
    refine pm_callV (As := [.int za]) (rest := []) hG hR dX12_knownTo_11 (lkX12_101 _ rfl) okV_X12_lives rfl rfl (c_X12_lives (d := 2) (by decide) h6) rfl rfl hdd (Nat.le_refl _) (Nat.le_refl _) (by decide) (fx_ki ?_)
    refine pm_if_ne (tgt := 25) hG dX12_knownTo_14 rfl (fun c8 => ?_) (fun c8 => ?_)
    · replace hE := fx_f c8 hE
      refine pm_aloadn hG dX12_knownTo_25 rfl ?_
      refine pm_iconst (v := 0) hG dX12_knownTo_26 (by decide) ?_
      refine pm_aloadn hG dX12_knownTo_27 rfl ?_
      refine pm_iloadn hG dX12_knownTo_28 rfl ?_
      refine pm_iconst (v := 4) hG dX12_knownTo_29 (by decide) ?_
      obtain ⟨x10, h9, hE⟩ := fb_some hE
      refine pm_callV (As := [.int za, .int 4]) (rest := [.int 0, .ref (B + 54)]) hG hR dX12_knownTo_30 (lkX12_72 _ rfl) okV_X12_man rfl rfl (c_X12_man (d := 2) (by decide) h9) rfl rfl hdd (Nat.le_refl _) (Nat.le_refl _) (by first | decide | exact Nat.le_of_ble_eq_true rfl) (fx_ki ?_)
      obtain ⟨r12, h11, hE⟩ := fb_some hE
      refine pm_callV (As := [.int 0, .int x10]) (rest := []) hG hR dX12_knownTo_33 (lkX12_88 _ rfl) okV_X12_farOf rfl rfl (c_X12_farOf (d := 2) (by decide) h11) rfl rfl hdd (Nat.le_refl _) (Nat.le_refl _) (by decide) (fx_ki ?_)
      refine pm_istoreXn (loc' := [some (.ref (B + 54)), some (.int za), some (.int r12.1)]) hG dX12_knownTo_36 (by decide) (pm_c1b rfl) rfl ?_
      refine pm_iloadn hG dX12_knownTo_37 rfl ?_
      refine pm_if_lt (tgt := 60) hG dX12_knownTo_38 rfl (fun c13 => ?_) (fun c13 => ?_)
      · replace hE := fx_t c13 hE
        refine pm_aloadn hG dX12_knownTo_60 rfl ?_
        refine pm_iloadn hG dX12_knownTo_61 rfl ?_
        refine pm_bipush (v := 10) hG dX12_knownTo_62 (by decide) ?_
        obtain ⟨x15, h14, hE⟩ := fb_some hE
        refine pm_callV (As := [.int za, .int 10]) (rest := []) hG hR dX12_knownTo_64 (lkX12_72 _ rfl) okV_X12_man rfl rfl (c_X12_man (d := 2) (by decide) h14) rfl rfl hdd (Nat.le_refl _) (Nat.le_refl _) (by decide) (fx_ki ?_)
        refine pm_goto (tgt := 79) hG dX12_knownTo_67 rfl ?_
        exact pm_iret hG hF dX12_knownTo_79 rfl (Nat.le_refl _) (Nat.le_refl _) (fx_rim hE)
      · replace hE := fx_f c13 hE
        refine pm_aloadn hG dX12_knownTo_41 rfl ?_
        refine pm_getf hG dX12_knownTo_42 (flX12_7 _ rfl) rfl rfl ?_
        refine pm_bipush (v := 8) hG dX12_knownTo_45 (by decide) ?_
        refine fx_iald hG dX12_knownTo_47 rfl (ix_lit (by decide) rfl) ?_
        refine pm_iloadn hG dX12_knownTo_48 rfl ?_
        refine pm_isub hG dX12_knownTo_49 ?_
        refine pm_aloadn hG dX12_knownTo_50 rfl ?_
        refine pm_iloadn hG dX12_knownTo_51 rfl ?_
        refine pm_bipush (v := 10) hG dX12_knownTo_52 (by decide) ?_
        obtain ⟨x17, h16, hE⟩ := fb_some hE
        refine pm_callV (As := [.int za, .int 10]) (rest := [.int ((r12.2.2 55 8) - r12.1)]) hG hR dX12_knownTo_54 (lkX12_72 _ rfl) okV_X12_man rfl rfl (c_X12_man (d := 2) (by decide) h16) rfl rfl hdd (Nat.le_refl _) (Nat.le_refl _) (by first | decide | exact Nat.le_of_ble_eq_true rfl) (fx_ki ?_)
        refine pm_icmp_ge (tgt := 70) hG dX12_knownTo_57 rfl (fun c18 => ?_) (fun c18 => ?_)
        · replace c18 := Int32.not_lt.mpr c18
          replace hE := fx_f c18 hE
          refine pm_aloadn hG dX12_knownTo_70 rfl ?_
          refine pm_getf hG dX12_knownTo_71 (flX12_7 _ rfl) rfl rfl ?_
          refine pm_bipush (v := 8) hG dX12_knownTo_74 (by decide) ?_
          refine fx_iald hG dX12_knownTo_76 rfl (ix_lit (by decide) rfl) ?_
          refine pm_iloadn hG dX12_knownTo_77 rfl ?_
          refine pm_isub hG dX12_knownTo_78 ?_
          exact pm_iret hG hF dX12_knownTo_79 rfl (Nat.le_refl _) (Nat.le_refl _) (fx_rim hE)
        · replace c18 := Int32.not_le.mp c18
          replace hE := fx_t c18 hE
          refine pm_aloadn hG dX12_knownTo_60 rfl ?_
          refine pm_iloadn hG dX12_knownTo_61 rfl ?_
          refine pm_bipush (v := 10) hG dX12_knownTo_62 (by decide) ?_
          obtain ⟨x20, h19, hE⟩ := fb_some hE
          refine pm_callV (As := [.int za, .int 10]) (rest := []) hG hR dX12_knownTo_64 (lkX12_72 _ rfl) okV_X12_man rfl rfl (c_X12_man (d := 2) (by decide) h19) rfl rfl hdd (Nat.le_refl _) (Nat.le_refl _) (by decide) (fx_ki ?_)
          refine pm_goto (tgt := 79) hG dX12_knownTo_67 rfl ?_
          exact pm_iret hG hF dX12_knownTo_79 rfl (Nat.le_refl _) (Nat.le_refl _) (fx_rim hE)
    · replace hE := fx_t c8 hE
      refine pm_aloadn hG dX12_knownTo_17 rfl ?_
      refine pm_iloadn hG dX12_knownTo_18 rfl ?_
      refine pm_bipush (v := 10) hG dX12_knownTo_19 (by decide) ?_
      obtain ⟨x22, h21, hE⟩ := fb_some hE
      refine pm_callV (As := [.int za, .int 10]) (rest := []) hG hR dX12_knownTo_21 (lkX12_72 _ rfl) okV_X12_man rfl rfl (c_X12_man (d := 2) (by decide) h21) rfl rfl hdd (Nat.le_refl _) (Nat.le_refl _) (by decide) (fx_ki ?_)
      exact pm_iret hG hF dX12_knownTo_24 rfl (Nat.le_refl _) (Nat.le_refl _) (fx_rim hE)

set_option maxRecDepth 100000 in
set_option maxHeartbeats 4000000 in
theorem c_X12_its {d : Nat} {B cnt : Nat} {σ : pm_S} {S : FS} {za : Int32} {zb : Int32} {R : Int32} (hdd : 1 ≤ d) (hE : q_X12_its S za zb = some R) : pm_met mX12_its d 0 0 B [.ref (B + 54), .int za, .int zb] cnt (mst B S σ) (pm_Qi (fun v σ' cnt' => v = R ∧ σ' = (mst B S σ) ∧ cnt' = cnt)) := by
  refine pm_enter 0 (by decide) (Nat.le_of_ble_eq_true rfl) rfl (fun G hG hR hF => ?_)
  unfold q_X12_its at hE
  refine pm_aloadn hG dX12_its_0 rfl ?_
  refine pm_getf hG dX12_its_1 (flX12_7 _ rfl) rfl rfl ?_
  refine pm_sipush (v := 390) hG dX12_its_4 (by decide) ?_
  refine pm_bipush (v := 6) hG dX12_its_7 (by decide) ?_
  refine pm_iloadn hG dX12_its_9 rfl ?_
  refine pm_imul hG dX12_its_10 ?_
  refine pm_iadd hG dX12_its_11 ?_
  refine pm_iloadn hG dX12_its_12 rfl ?_
  refine pm_iadd hG dX12_its_13 ?_
  obtain ⟨j1, hj1, hE⟩ := fb_some hE
  refine fx_iald hG dX12_its_14 rfl hj1 ?_
  exact pm_iret hG hF dX12_its_15 rfl (Nat.le_refl _) (Nat.le_refl _) (fx_pi (Option.some.inj hE))

set_option maxRecDepth 100000 in
set_option maxHeartbeats 4000000 in
theorem c_X12_holdsMany {d : Nat} {B cnt : Nat} {σ : pm_S} {S : FS} {za : Int32} {R : Int32} (hdd : 2 ≤ d) (hE : q_X12_holdsMany S za = some R) : pm_met mX12_holdsMany d 0 0 B [.ref (B + 54), .int za] cnt (mst B S σ) (pm_Qi (fun v σ' cnt' => v = R ∧ σ' = (mst B S σ) ∧ cnt' = cnt)) := by
  refine pm_enter 2 (by decide) (Nat.le_of_ble_eq_true rfl) rfl (fun G hG hR hF => ?_)
  unfold q_X12_holdsMany at hE
  refine pm_iconst (v := 0) hG dX12_holdsMany_0 (by decide) ?_
  refine pm_istoreXn (loc' := [some (.ref (B + 54)), some (.int za), some (.int 0), none]) hG dX12_holdsMany_1 (by decide) (pm_c1b rfl) rfl ?_
  refine pm_iconst (v := 0) hG dX12_holdsMany_2 (by decide) ?_
  refine pm_istoreXn (loc' := [some (.ref (B + 54)), some (.int za), some (.int 0), some (.int 0)]) hG dX12_holdsMany_3 (by decide) (pm_c1b rfl) rfl ?_
  have loop4 : ∀ (k4 : Int32 → Int32 → Option Int32), (∀  (x1_2 : Int32) (x1_3 : Int32), k4  x1_2 x1_3 = some R → pm_wp mX12_holdsMany G B 38 [some (.ref (B + 54)), some (.int za), some (.int x1_2), some (.int x1_3)] [] 0 0 cnt (mst B S σ)) → ∀ (m4 : Nat)  (x1_2 : Int32) (x1_3 : Int32), l_X12_holdsMany_4 za S k4 m4  x1_2 x1_3 = some R → pm_wp mX12_holdsMany G B 4 [some (.ref (B + 54)), some (.int za), some (.int x1_2), some (.int x1_3)] [] 0 0 cnt (mst B S σ) := by
    intro k4 hk4 m4
    induction m4 with
    | zero => intro  x1_2 x1_3 hE; exact fx_no hE
    | succ m4 ih4 =>
      intro  x1_2 x1_3 hE
      rw [l_X12_holdsMany_4] at hE
      refine pm_iloadn hG dX12_holdsMany_4 rfl ?_
      refine pm_aloadn hG dX12_holdsMany_5 rfl ?_
      refine pm_getf hG dX12_holdsMany_6 (flX12_7 _ rfl) rfl rfl ?_
      refine pm_iconst (v := 3) hG dX12_holdsMany_9 (by decide) ?_
      refine fx_iald hG dX12_holdsMany_10 rfl (ix_lit (by decide) rfl) ?_
      refine pm_icmp_ge (tgt := 38) hG dX12_holdsMany_11 rfl (fun c2 => ?_) (fun c2 => ?_)
      · replace c2 := Int32.not_lt.mpr c2
        replace hE := fx_f c2 hE
        exact hk4 _ _ hE
      · replace c2 := Int32.not_le.mp c2
        replace hE := fx_t c2 hE
        refine pm_iloadn hG dX12_holdsMany_14 rfl ?_
        refine pm_aloadn hG dX12_holdsMany_15 rfl ?_
        refine pm_iloadn hG dX12_holdsMany_16 rfl ?_
        refine pm_iconst (v := 1) hG dX12_holdsMany_17 (by decide) ?_
        obtain ⟨x4, h3, hE⟩ := fb_some hE
        refine pm_callV (As := [.int x1_3, .int 1]) (rest := [.int x1_2]) hG hR dX12_holdsMany_18 (lkX12_110 _ rfl) okV_X12_its rfl rfl (c_X12_its (d := 1) (by decide) h3) rfl rfl hdd (Nat.le_refl _) (Nat.le_refl _) (by first | decide | exact Nat.le_of_ble_eq_true rfl) (fx_ki ?_)
        refine pm_iloadn hG dX12_holdsMany_21 rfl ?_
        refine pm_icmp_ne (tgt := 29) hG dX12_holdsMany_22 rfl (fun c5 => ?_) (fun c5 => ?_)
        · replace hE := fx_f c5 hE
          refine pm_iconst (v := 0) hG dX12_holdsMany_29 (by decide) ?_
          refine pm_iadd hG dX12_holdsMany_30 ?_
          refine fx_letv hE (fun x6 hE => ?_)
          refine pm_istoreXn (loc' := [some (.ref (B + 54)), some (.int za), some (.int x6), some (.int x1_3)]) hG dX12_holdsMany_31 (by decide) (pm_c1b rfl) rfl ?_
          refine pm_iincX (v := x1_3 + 1) (loc' := [some (.ref (B + 54)), some (.int za), some (.int x6), some (.int (x1_3 + 1))]) hG dX12_holdsMany_32 rfl (by rfl) (by decide) (pm_c1b rfl) rfl ?_
          refine pm_goto (tgt := 4) hG dX12_holdsMany_35 rfl ?_
          exact ih4 _ _ hE
        · replace hE := fx_t c5 hE
          refine pm_iconst (v := 1) hG dX12_holdsMany_25 (by decide) ?_
          refine pm_goto (tgt := 30) hG dX12_holdsMany_26 rfl ?_
          refine pm_iadd hG dX12_holdsMany_30 ?_
          refine fx_letv hE (fun x7 hE => ?_)
          refine pm_istoreXn (loc' := [some (.ref (B + 54)), some (.int za), some (.int x7), some (.int x1_3)]) hG dX12_holdsMany_31 (by decide) (pm_c1b rfl) rfl ?_
          refine pm_iincX (v := x1_3 + 1) (loc' := [some (.ref (B + 54)), some (.int za), some (.int x7), some (.int (x1_3 + 1))]) hG dX12_holdsMany_32 rfl (by rfl) (by decide) (pm_c1b rfl) rfl ?_
          refine pm_goto (tgt := 4) hG dX12_holdsMany_35 rfl ?_
          exact ih4 _ _ hE
  refine loop4 _ (fun  x8_2 x8_3 hE => ?_) _ _ _ hE
  refine pm_iloadn hG dX12_holdsMany_38 rfl ?_
  exact pm_iret hG hF dX12_holdsMany_39 rfl (Nat.le_refl _) (Nat.le_refl _) (fx_pi (Option.some.inj hE))

set_option maxRecDepth 100000 in
set_option maxHeartbeats 4000000 in
theorem c_X12_stepsOf {d : Nat} {B cnt : Nat} {σ : pm_S} {S : FS} {za : Int32} {R : Int32 × FS} (hdd : 2 ≤ d) (hE : f_X12_stepsOf S za = some R) : pm_met mX12_stepsOf d 0 0 B [.ref (B + 54), .int za] cnt (mst B S σ) (pm_Qi (fun v σ' cnt' => v = R.1 ∧ σ' = (mst B R.2 σ) ∧ cnt' = cnt)) := by
  refine pm_enter 4 (by decide) (Nat.le_of_ble_eq_true rfl) rfl (fun G hG hR hF => ?_)
  unfold f_X12_stepsOf at hE
  refine pm_iconst (v := 0) hG dX12_stepsOf_0 (by decide) ?_
  refine pm_istoreXn (loc' := [some (.ref (B + 54)), some (.int za), some (.int 0), none, none, none]) hG dX12_stepsOf_1 (by decide) (pm_c1b rfl) rfl ?_
  have loop2 : ∀ (k2 : FS → Int32 → Option (Int32 × FS)), (∀ (S1 : FS) (x1_2 : Int32), k2 S1  x1_2 = some R → pm_wp mX12_stepsOf G B 30 [some (.ref (B + 54)), some (.int za), some (.int x1_2), none, none, none] [] 0 0 cnt (mst B S1 σ)) → ∀ (m2 : Nat) (S1 : FS) (x1_2 : Int32), l_X12_stepsOf_2 k2 m2 S1  x1_2 = some R → pm_wp mX12_stepsOf G B 2 [some (.ref (B + 54)), some (.int za), some (.int x1_2), none, none, none] [] 0 0 cnt (mst B S1 σ) := by
    intro k2 hk2 m2
    induction m2 with
    | zero => intro S1  x1_2 hE; exact fx_no hE
    | succ m2 ih2 =>
      intro S1  x1_2 hE
      rw [l_X12_stepsOf_2] at hE
      refine pm_iloadn hG dX12_stepsOf_2 rfl ?_
      refine pm_bipush (v := 20) hG dX12_stepsOf_3 (by decide) ?_
      refine pm_icmp_ge (tgt := 30) hG dX12_stepsOf_5 rfl (fun c2 => ?_) (fun c2 => ?_)
      · replace c2 := Int32.not_lt.mpr c2
        replace hE := fx_f c2 hE
        exact hk2 _ _ hE
      · replace c2 := Int32.not_le.mp c2
        replace hE := fx_t c2 hE
        refine pm_aloadn hG dX12_stepsOf_8 rfl ?_
        refine pm_getf hG dX12_stepsOf_9 (flX12_22 _ rfl) rfl rfl ?_
        refine pm_iloadn hG dX12_stepsOf_12 rfl ?_
        refine pm_iloadn hG dX12_stepsOf_13 rfl ?_
        refine pm_if_ne (tgt := 21) hG dX12_stepsOf_14 rfl (fun c3 => ?_) (fun c3 => ?_)
        · replace hE := fx_f c3 hE
          refine pm_bipush (v := 99) hG dX12_stepsOf_21 (by decide) ?_
          obtain ⟨j4, hj4, hE⟩ := fb_some hE
          refine fx_iast hG dX12_stepsOf_23 rfl hj4 ?_
          refine ma_59 ?_
          refine fx_letm hE (fun S5 hE => ?_)
          refine pm_iincX (v := x1_2 + 1) (loc' := [some (.ref (B + 54)), some (.int za), some (.int (x1_2 + 1)), none, none, none]) hG dX12_stepsOf_24 rfl (by rfl) (by decide) (pm_c1b rfl) rfl ?_
          refine pm_goto (tgt := 2) hG dX12_stepsOf_27 rfl ?_
          exact ih2 _ _ hE
        · replace hE := fx_t c3 hE
          refine pm_iconst (v := 0) hG dX12_stepsOf_17 (by decide) ?_
          refine pm_goto (tgt := 23) hG dX12_stepsOf_18 rfl ?_
          obtain ⟨j6, hj6, hE⟩ := fb_some hE
          refine fx_iast hG dX12_stepsOf_23 rfl hj6 ?_
          refine ma_59 ?_
          refine fx_letm hE (fun S7 hE => ?_)
          refine pm_iincX (v := x1_2 + 1) (loc' := [some (.ref (B + 54)), some (.int za), some (.int (x1_2 + 1)), none, none, none]) hG dX12_stepsOf_24 rfl (by rfl) (by decide) (pm_c1b rfl) rfl ?_
          refine pm_goto (tgt := 2) hG dX12_stepsOf_27 rfl ?_
          exact ih2 _ _ hE
  refine loop2 _ (fun S8 x8_2 hE => ?_) _ _ _ hE
  refine pm_iconst (v := 1) hG dX12_stepsOf_30 (by decide) ?_
  refine pm_istoreXn (loc' := [some (.ref (B + 54)), some (.int za), some (.int 1), none, none, none]) hG dX12_stepsOf_31 (by decide) (pm_c1b rfl) rfl ?_
  have loop32 : ∀ (k32 : FS → Int32 → Option (Int32 × FS)), (∀ (S9 : FS) (x9_2 : Int32), k32 S9  x9_2 = some R → pm_wp mX12_stepsOf G B 155 [some (.ref (B + 54)), some (.int za), some (.int x9_2), none, none, none] [] 0 0 cnt (mst B S9 σ)) → ∀ (m32 : Nat) (S9 : FS) (x9_2 : Int32), l_X12_stepsOf_32 k32 m32 S9  x9_2 = some R → pm_wp mX12_stepsOf G B 32 [some (.ref (B + 54)), some (.int za), some (.int x9_2), none, none, none] [] 0 0 cnt (mst B S9 σ) := by
    intro k32 hk32 m32
    induction m32 with
    | zero => intro S9  x9_2 hE; exact fx_no hE
    | succ m32 ih32 =>
      intro S9  x9_2 hE
      rw [l_X12_stepsOf_32] at hE
      refine pm_iloadn hG dX12_stepsOf_32 rfl ?_
      refine pm_bipush (v := 20) hG dX12_stepsOf_33 (by decide) ?_
      refine pm_icmp_ge (tgt := 155) hG dX12_stepsOf_35 rfl (fun c10 => ?_) (fun c10 => ?_)
      · replace c10 := Int32.not_lt.mpr c10
        replace hE := fx_f c10 hE
        exact hk32 _ _ hE
      · replace c10 := Int32.not_le.mp c10
        replace hE := fx_t c10 hE
        refine pm_iconst (v := 0) hG dX12_stepsOf_38 (by decide) ?_
        refine pm_istoreXn (loc' := [some (.ref (B + 54)), some (.int za), some (.int x9_2), some (.int 0), none, none]) hG dX12_stepsOf_39 (by decide) (pm_c1b rfl) rfl ?_
        have loop40 : ∀ (k40 : FS → Int32 → Option (Int32 × FS)), (∀ (S11 : FS) (x11_3 : Int32), k40 S11  x11_3 = some R → pm_wp mX12_stepsOf G B 149 [some (.ref (B + 54)), some (.int za), some (.int x9_2), some (.int x11_3), none, none] [] 0 0 cnt (mst B S11 σ)) → ∀ (m40 : Nat) (S11 : FS) (x11_3 : Int32), l_X12_stepsOf_40 x9_2 k40 m40 S11  x11_3 = some R → pm_wp mX12_stepsOf G B 40 [some (.ref (B + 54)), some (.int za), some (.int x9_2), some (.int x11_3), none, none] [] 0 0 cnt (mst B S11 σ) := by
          intro k40 hk40 m40
          induction m40 with
          | zero => intro S11  x11_3 hE; exact fx_no hE
          | succ m40 ih40 =>
            intro S11  x11_3 hE
            rw [l_X12_stepsOf_40] at hE
            refine pm_iloadn hG dX12_stepsOf_40 rfl ?_
            refine pm_aloadn hG dX12_stepsOf_41 rfl ?_
            refine pm_getf hG dX12_stepsOf_42 (flX12_7 _ rfl) rfl rfl ?_
            refine pm_iconst (v := 2) hG dX12_stepsOf_45 (by decide) ?_
            refine fx_iald hG dX12_stepsOf_46 rfl (ix_lit (by decide) rfl) ?_
            refine pm_icmp_ge (tgt := 149) hG dX12_stepsOf_47 rfl (fun c12 => ?_) (fun c12 => ?_)
            · replace c12 := Int32.not_lt.mpr c12
              replace hE := fx_f c12 hE
              exact hk40 _ _ hE
            · replace c12 := Int32.not_le.mp c12
              replace hE := fx_t c12 hE
              refine pm_iconst (v := 2) hG dX12_stepsOf_50 (by decide) ?_
              refine pm_istoreXi (loc' := [some (.ref (B + 54)), some (.int za), some (.int x9_2), some (.int x11_3), some (.int 2), none]) hG dX12_stepsOf_51 (by decide) (pm_c1b rfl) rfl ?_
              have loop53 : ∀ (k53 : FS → Int32 → Option (Int32 × FS)), (∀ (S13 : FS) (x13_4 : Int32), k53 S13  x13_4 = some R → pm_wp mX12_stepsOf G B 143 [some (.ref (B + 54)), some (.int za), some (.int x9_2), some (.int x11_3), some (.int x13_4), none] [] 0 0 cnt (mst B S13 σ)) → ∀ (m53 : Nat) (S13 : FS) (x13_4 : Int32), l_X12_stepsOf_53 x9_2 x11_3 k53 m53 S13  x13_4 = some R → pm_wp mX12_stepsOf G B 53 [some (.ref (B + 54)), some (.int za), some (.int x9_2), some (.int x11_3), some (.int x13_4), none] [] 0 0 cnt (mst B S13 σ) := by
                intro k53 hk53 m53
                induction m53 with
                | zero => intro S13  x13_4 hE; exact fx_no hE
                | succ m53 ih53 =>
                  intro S13  x13_4 hE
                  rw [l_X12_stepsOf_53] at hE
                  refine pm_iloadi hG dX12_stepsOf_53 rfl ?_
                  refine pm_iconst (v := 3) hG dX12_stepsOf_55 (by decide) ?_
                  refine pm_icmp_gt (tgt := 143) hG dX12_stepsOf_56 rfl (fun c14 => ?_) (fun c14 => ?_)
                  · replace hE := fx_t c14 hE
                    exact hk53 _ _ hE
                  · replace hE := fx_f c14 hE
                    refine pm_aloadn hG dX12_stepsOf_59 rfl ?_
                    refine pm_iloadn hG dX12_stepsOf_60 rfl ?_
                    refine pm_iloadi hG dX12_stepsOf_61 rfl ?_
                    obtain ⟨x16, h15, hE⟩ := fb_some hE
                    refine pm_callV (As := [.int x11_3, .int x13_4]) (rest := []) hG hR dX12_stepsOf_63 (lkX12_72 _ rfl) okV_X12_man rfl rfl (c_X12_man (d := 1) (by decide) h15) rfl rfl hdd (Nat.le_refl _) (Nat.le_refl _) (by decide) (fx_ki ?_)
                    refine pm_istoreXi (loc' := [some (.ref (B + 54)), some (.int za), some (.int x9_2), some (.int x11_3), some (.int x13_4), some (.int x16)]) hG dX12_stepsOf_66 (by decide) (pm_c1b rfl) rfl ?_
                    refine pm_iloadi hG dX12_stepsOf_68 rfl ?_
                    refine pm_if_ge (tgt := 76) hG dX12_stepsOf_70 rfl (fun c17 => ?_) (fun c17 => ?_)
                    · replace c17 := Int32.not_lt.mpr c17
                      replace hE := fx_f c17 hE
                      refine pm_aloadn hG dX12_stepsOf_76 rfl ?_
                      refine pm_getf hG dX12_stepsOf_77 (flX12_22 _ rfl) rfl rfl ?_
                      refine pm_iloadi hG dX12_stepsOf_80 rfl ?_
                      obtain ⟨j18, hj18, hE⟩ := fb_some hE
                      refine fx_iald hG dX12_stepsOf_82 rfl hj18 ?_
                      refine pm_iloadn hG dX12_stepsOf_83 rfl ?_
                      refine pm_iconst (v := 1) hG dX12_stepsOf_84 (by decide) ?_
                      refine pm_isub hG dX12_stepsOf_85 ?_
                      refine pm_icmp_ne (tgt := 106) hG dX12_stepsOf_86 rfl (fun c19 => ?_) (fun c19 => ?_)
                      · replace hE := fx_f c19 hE
                        refine pm_aloadn hG dX12_stepsOf_106 rfl ?_
                        refine pm_getf hG dX12_stepsOf_107 (flX12_22 _ rfl) rfl rfl ?_
                        refine pm_iloadn hG dX12_stepsOf_110 rfl ?_
                        obtain ⟨j20, hj20, hE⟩ := fb_some hE
                        refine fx_iald hG dX12_stepsOf_111 rfl hj20 ?_
                        refine pm_iloadn hG dX12_stepsOf_112 rfl ?_
                        refine pm_iconst (v := 1) hG dX12_stepsOf_113 (by decide) ?_
                        refine pm_isub hG dX12_stepsOf_114 ?_
                        refine pm_icmp_ne (tgt := 137) hG dX12_stepsOf_115 rfl (fun c21 => ?_) (fun c21 => ?_)
                        · replace hE := fx_f c21 hE
                          refine pm_iincX (v := x13_4 + 1) (loc' := [some (.ref (B + 54)), some (.int za), some (.int x9_2), some (.int x11_3), some (.int (x13_4 + 1)), some (.int x16)]) hG dX12_stepsOf_137 rfl (by rfl) (by decide) (pm_c1b rfl) rfl ?_
                          refine pm_goto (tgt := 53) hG dX12_stepsOf_140 rfl ?_
                          refine pm_fg 5 (loc' := [some (.ref (B + 54)), some (.int za), some (.int x9_2), some (.int x11_3), some (.int (x13_4 + 1)), none]) rfl ?_
                          exact ih53 _ _ hE
                        · replace hE := fx_t c21 hE
                          refine pm_aloadn hG dX12_stepsOf_118 rfl ?_
                          refine pm_getf hG dX12_stepsOf_119 (flX12_22 _ rfl) rfl rfl ?_
                          refine pm_iloadi hG dX12_stepsOf_122 rfl ?_
                          refine fx_iald hG dX12_stepsOf_124 rfl hj18 ?_
                          refine pm_iloadn hG dX12_stepsOf_125 rfl ?_
                          refine pm_icmp_le (tgt := 137) hG dX12_stepsOf_126 rfl (fun c22 => ?_) (fun c22 => ?_)
                          · replace c22 := Int32.not_lt.mpr c22
                            replace hE := fx_f c22 hE
                            refine pm_iincX (v := x13_4 + 1) (loc' := [some (.ref (B + 54)), some (.int za), some (.int x9_2), some (.int x11_3), some (.int (x13_4 + 1)), some (.int x16)]) hG dX12_stepsOf_137 rfl (by rfl) (by decide) (pm_c1b rfl) rfl ?_
                            refine pm_goto (tgt := 53) hG dX12_stepsOf_140 rfl ?_
                            refine pm_fg 5 (loc' := [some (.ref (B + 54)), some (.int za), some (.int x9_2), some (.int x11_3), some (.int (x13_4 + 1)), none]) rfl ?_
                            exact ih53 _ _ hE
                          · replace c22 := Int32.not_le.mp c22
                            replace hE := fx_t c22 hE
                            refine pm_aloadn hG dX12_stepsOf_129 rfl ?_
                            refine pm_getf hG dX12_stepsOf_130 (flX12_22 _ rfl) rfl rfl ?_
                            refine pm_iloadi hG dX12_stepsOf_133 rfl ?_
                            refine pm_iloadn hG dX12_stepsOf_135 rfl ?_
                            refine fx_iast hG dX12_stepsOf_136 rfl hj18 ?_
                            refine ma_59 ?_
                            refine fx_letm hE (fun S23 hE => ?_)
                            refine pm_iincX (v := x13_4 + 1) (loc' := [some (.ref (B + 54)), some (.int za), some (.int x9_2), some (.int x11_3), some (.int (x13_4 + 1)), some (.int x16)]) hG dX12_stepsOf_137 rfl (by rfl) (by decide) (pm_c1b rfl) rfl ?_
                            refine pm_goto (tgt := 53) hG dX12_stepsOf_140 rfl ?_
                            refine pm_fg 5 (loc' := [some (.ref (B + 54)), some (.int za), some (.int x9_2), some (.int x11_3), some (.int (x13_4 + 1)), none]) rfl ?_
                            exact ih53 _ _ hE
                      · replace hE := fx_t c19 hE
                        refine pm_aloadn hG dX12_stepsOf_89 rfl ?_
                        refine pm_getf hG dX12_stepsOf_90 (flX12_22 _ rfl) rfl rfl ?_
                        refine pm_iloadn hG dX12_stepsOf_93 rfl ?_
                        obtain ⟨j24, hj24, hE⟩ := fb_some hE
                        refine fx_iald hG dX12_stepsOf_94 rfl hj24 ?_
                        refine pm_iloadn hG dX12_stepsOf_95 rfl ?_
                        refine pm_icmp_le (tgt := 106) hG dX12_stepsOf_96 rfl (fun c25 => ?_) (fun c25 => ?_)
                        · replace c25 := Int32.not_lt.mpr c25
                          replace hE := fx_f c25 hE
                          refine pm_aloadn hG dX12_stepsOf_106 rfl ?_
                          refine pm_getf hG dX12_stepsOf_107 (flX12_22 _ rfl) rfl rfl ?_
                          refine pm_iloadn hG dX12_stepsOf_110 rfl ?_
                          refine fx_iald hG dX12_stepsOf_111 rfl hj24 ?_
                          refine pm_iloadn hG dX12_stepsOf_112 rfl ?_
                          refine pm_iconst (v := 1) hG dX12_stepsOf_113 (by decide) ?_
                          refine pm_isub hG dX12_stepsOf_114 ?_
                          refine pm_icmp_ne (tgt := 137) hG dX12_stepsOf_115 rfl (fun c26 => ?_) (fun c26 => ?_)
                          · replace hE := fx_f c26 hE
                            refine pm_iincX (v := x13_4 + 1) (loc' := [some (.ref (B + 54)), some (.int za), some (.int x9_2), some (.int x11_3), some (.int (x13_4 + 1)), some (.int x16)]) hG dX12_stepsOf_137 rfl (by rfl) (by decide) (pm_c1b rfl) rfl ?_
                            refine pm_goto (tgt := 53) hG dX12_stepsOf_140 rfl ?_
                            refine pm_fg 5 (loc' := [some (.ref (B + 54)), some (.int za), some (.int x9_2), some (.int x11_3), some (.int (x13_4 + 1)), none]) rfl ?_
                            exact ih53 _ _ hE
                          · replace hE := fx_t c26 hE
                            refine pm_aloadn hG dX12_stepsOf_118 rfl ?_
                            refine pm_getf hG dX12_stepsOf_119 (flX12_22 _ rfl) rfl rfl ?_
                            refine pm_iloadi hG dX12_stepsOf_122 rfl ?_
                            refine fx_iald hG dX12_stepsOf_124 rfl hj18 ?_
                            refine pm_iloadn hG dX12_stepsOf_125 rfl ?_
                            refine pm_icmp_le (tgt := 137) hG dX12_stepsOf_126 rfl (fun c27 => ?_) (fun c27 => ?_)
                            · replace c27 := Int32.not_lt.mpr c27
                              replace hE := fx_f c27 hE
                              refine pm_iincX (v := x13_4 + 1) (loc' := [some (.ref (B + 54)), some (.int za), some (.int x9_2), some (.int x11_3), some (.int (x13_4 + 1)), some (.int x16)]) hG dX12_stepsOf_137 rfl (by rfl) (by decide) (pm_c1b rfl) rfl ?_
                              refine pm_goto (tgt := 53) hG dX12_stepsOf_140 rfl ?_
                              refine pm_fg 5 (loc' := [some (.ref (B + 54)), some (.int za), some (.int x9_2), some (.int x11_3), some (.int (x13_4 + 1)), none]) rfl ?_
                              exact ih53 _ _ hE
                            · replace c27 := Int32.not_le.mp c27
                              replace hE := fx_t c27 hE
                              refine pm_aloadn hG dX12_stepsOf_129 rfl ?_
                              refine pm_getf hG dX12_stepsOf_130 (flX12_22 _ rfl) rfl rfl ?_
                              refine pm_iloadi hG dX12_stepsOf_133 rfl ?_
                              refine pm_iloadn hG dX12_stepsOf_135 rfl ?_
                              refine fx_iast hG dX12_stepsOf_136 rfl hj18 ?_
                              refine ma_59 ?_
                              refine fx_letm hE (fun S28 hE => ?_)
                              refine pm_iincX (v := x13_4 + 1) (loc' := [some (.ref (B + 54)), some (.int za), some (.int x9_2), some (.int x11_3), some (.int (x13_4 + 1)), some (.int x16)]) hG dX12_stepsOf_137 rfl (by rfl) (by decide) (pm_c1b rfl) rfl ?_
                              refine pm_goto (tgt := 53) hG dX12_stepsOf_140 rfl ?_
                              refine pm_fg 5 (loc' := [some (.ref (B + 54)), some (.int za), some (.int x9_2), some (.int x11_3), some (.int (x13_4 + 1)), none]) rfl ?_
                              exact ih53 _ _ hE
                        · replace c25 := Int32.not_le.mp c25
                          replace hE := fx_t c25 hE
                          refine pm_aloadn hG dX12_stepsOf_99 rfl ?_
                          refine pm_getf hG dX12_stepsOf_100 (flX12_22 _ rfl) rfl rfl ?_
                          refine pm_iloadn hG dX12_stepsOf_103 rfl ?_
                          refine pm_iloadn hG dX12_stepsOf_104 rfl ?_
                          refine fx_iast hG dX12_stepsOf_105 rfl hj24 ?_
                          refine ma_59 ?_
                          refine fx_letm hE (fun S29 hE => ?_)
                          refine pm_aloadn hG dX12_stepsOf_106 rfl ?_
                          refine pm_getf hG dX12_stepsOf_107 (flX12_22 _ rfl) rfl rfl ?_
                          refine pm_iloadn hG dX12_stepsOf_110 rfl ?_
                          refine fx_iald hG dX12_stepsOf_111 rfl hj24 ?_
                          refine pm_iloadn hG dX12_stepsOf_112 rfl ?_
                          refine pm_iconst (v := 1) hG dX12_stepsOf_113 (by decide) ?_
                          refine pm_isub hG dX12_stepsOf_114 ?_
                          refine pm_icmp_ne (tgt := 137) hG dX12_stepsOf_115 rfl (fun c30 => ?_) (fun c30 => ?_)
                          · replace hE := fx_f c30 hE
                            refine pm_iincX (v := x13_4 + 1) (loc' := [some (.ref (B + 54)), some (.int za), some (.int x9_2), some (.int x11_3), some (.int (x13_4 + 1)), some (.int x16)]) hG dX12_stepsOf_137 rfl (by rfl) (by decide) (pm_c1b rfl) rfl ?_
                            refine pm_goto (tgt := 53) hG dX12_stepsOf_140 rfl ?_
                            refine pm_fg 5 (loc' := [some (.ref (B + 54)), some (.int za), some (.int x9_2), some (.int x11_3), some (.int (x13_4 + 1)), none]) rfl ?_
                            exact ih53 _ _ hE
                          · replace hE := fx_t c30 hE
                            refine pm_aloadn hG dX12_stepsOf_118 rfl ?_
                            refine pm_getf hG dX12_stepsOf_119 (flX12_22 _ rfl) rfl rfl ?_
                            refine pm_iloadi hG dX12_stepsOf_122 rfl ?_
                            refine fx_iald hG dX12_stepsOf_124 rfl hj18 ?_
                            refine pm_iloadn hG dX12_stepsOf_125 rfl ?_
                            refine pm_icmp_le (tgt := 137) hG dX12_stepsOf_126 rfl (fun c31 => ?_) (fun c31 => ?_)
                            · replace c31 := Int32.not_lt.mpr c31
                              replace hE := fx_f c31 hE
                              refine pm_iincX (v := x13_4 + 1) (loc' := [some (.ref (B + 54)), some (.int za), some (.int x9_2), some (.int x11_3), some (.int (x13_4 + 1)), some (.int x16)]) hG dX12_stepsOf_137 rfl (by rfl) (by decide) (pm_c1b rfl) rfl ?_
                              refine pm_goto (tgt := 53) hG dX12_stepsOf_140 rfl ?_
                              refine pm_fg 5 (loc' := [some (.ref (B + 54)), some (.int za), some (.int x9_2), some (.int x11_3), some (.int (x13_4 + 1)), none]) rfl ?_
                              exact ih53 _ _ hE
                            · replace c31 := Int32.not_le.mp c31
                              replace hE := fx_t c31 hE
                              refine pm_aloadn hG dX12_stepsOf_129 rfl ?_
                              refine pm_getf hG dX12_stepsOf_130 (flX12_22 _ rfl) rfl rfl ?_
                              refine pm_iloadi hG dX12_stepsOf_133 rfl ?_
                              refine pm_iloadn hG dX12_stepsOf_135 rfl ?_
                              refine fx_iast hG dX12_stepsOf_136 rfl hj18 ?_
                              refine ma_59 ?_
                              refine fx_letm hE (fun S32 hE => ?_)
                              refine pm_iincX (v := x13_4 + 1) (loc' := [some (.ref (B + 54)), some (.int za), some (.int x9_2), some (.int x11_3), some (.int (x13_4 + 1)), some (.int x16)]) hG dX12_stepsOf_137 rfl (by rfl) (by decide) (pm_c1b rfl) rfl ?_
                              refine pm_goto (tgt := 53) hG dX12_stepsOf_140 rfl ?_
                              refine pm_fg 5 (loc' := [some (.ref (B + 54)), some (.int za), some (.int x9_2), some (.int x11_3), some (.int (x13_4 + 1)), none]) rfl ?_
                              exact ih53 _ _ hE
                    · replace c17 := Int32.not_le.mp c17
                      replace hE := fx_t c17 hE
                      refine pm_goto (tgt := 137) hG dX12_stepsOf_73 rfl ?_
                      refine pm_iincX (v := x13_4 + 1) (loc' := [some (.ref (B + 54)), some (.int za), some (.int x9_2), some (.int x11_3), some (.int (x13_4 + 1)), some (.int x16)]) hG dX12_stepsOf_137 rfl (by rfl) (by decide) (pm_c1b rfl) rfl ?_
                      refine pm_goto (tgt := 53) hG dX12_stepsOf_140 rfl ?_
                      refine pm_fg 5 (loc' := [some (.ref (B + 54)), some (.int za), some (.int x9_2), some (.int x11_3), some (.int (x13_4 + 1)), none]) rfl ?_
                      exact ih53 _ _ hE
              refine loop53 _ (fun S33 x33_4 hE => ?_) _ _ _ hE
              refine pm_iincX (v := x11_3 + 1) (loc' := [some (.ref (B + 54)), some (.int za), some (.int x9_2), some (.int (x11_3 + 1)), some (.int x33_4), none]) hG dX12_stepsOf_143 rfl (by rfl) (by decide) (pm_c1b rfl) rfl ?_
              refine pm_goto (tgt := 40) hG dX12_stepsOf_146 rfl ?_
              refine pm_fg 4 (loc' := [some (.ref (B + 54)), some (.int za), some (.int x9_2), some (.int (x11_3 + 1)), none, none]) rfl ?_
              exact ih40 _ _ hE
        refine loop40 _ (fun S34 x34_3 hE => ?_) _ _ _ hE
        refine pm_iincX (v := x9_2 + 1) (loc' := [some (.ref (B + 54)), some (.int za), some (.int (x9_2 + 1)), some (.int x34_3), none, none]) hG dX12_stepsOf_149 rfl (by rfl) (by decide) (pm_c1b rfl) rfl ?_
        refine pm_goto (tgt := 32) hG dX12_stepsOf_152 rfl ?_
        refine pm_fg 3 (loc' := [some (.ref (B + 54)), some (.int za), some (.int (x9_2 + 1)), none, none, none]) rfl ?_
        exact ih32 _ _ hE
  refine loop32 _ (fun S35 x35_2 hE => ?_) _ _ _ hE
  refine pm_aloadn hG dX12_stepsOf_155 rfl ?_
  refine pm_getf hG dX12_stepsOf_156 (flX12_22 _ rfl) rfl rfl ?_
  refine pm_iloadn hG dX12_stepsOf_159 rfl ?_
  obtain ⟨j36, hj36, hE⟩ := fb_some hE
  refine fx_iald hG dX12_stepsOf_160 rfl hj36 ?_
  exact pm_iret hG hF dX12_stepsOf_161 rfl (Nat.le_refl _) (Nat.le_refl _) (fx_rim hE)

set_option maxRecDepth 100000 in
set_option maxHeartbeats 4000000 in
theorem c_X12_finds {d : Nat} {B cnt : Nat} {σ : pm_S} {S : FS} {za : Int32} {R : Int32 × FS} (hdd : 1 ≤ d) (hE : f_X12_finds S za = some R) : pm_met mX12_finds d 0 0 B [.ref (B + 54), .int za] cnt (mst B S σ) (pm_Qi (fun v σ' cnt' => v = R.1 ∧ σ' = (mst B R.2 σ) ∧ cnt' = cnt)) := by
  refine pm_enter 0 (by decide) (Nat.le_of_ble_eq_true rfl) rfl (fun G hG hR hF => ?_)
  unfold f_X12_finds at hE
  refine pm_aloadn hG dX12_finds_0 rfl ?_
  refine pm_getf hG dX12_finds_1 (flX12_16 _ rfl) rfl rfl ?_
  refine pm_iloadn hG dX12_finds_4 rfl ?_
  refine pm_dup2 hG dX12_finds_5 rfl rfl ?_
  obtain ⟨j1, hj1, hE⟩ := fb_some hE
  refine fx_iald hG dX12_finds_6 rfl hj1 ?_
  refine pm_iconst (v := 1) hG dX12_finds_7 (by decide) ?_
  refine pm_iadd hG dX12_finds_8 ?_
  refine fx_iast hG dX12_finds_9 rfl hj1 ?_
  refine ma_57 ?_
  refine fx_letm hE (fun S2 hE => ?_)
  refine pm_ldc hG dX12_finds_10 (ctX12_67 _ rfl) ?_
  refine pm_iloadn hG dX12_finds_12 rfl ?_
  refine pm_isub hG dX12_finds_13 ?_
  exact pm_iret hG hF dX12_finds_14 rfl (Nat.le_refl _) (Nat.le_refl _) (fx_rim hE)

set_option maxRecDepth 100000 in
set_option maxHeartbeats 4000000 in
theorem c_X12_about {d : Nat} {B cnt : Nat} {σ : pm_S} {S : FS} {za : Int32} {zb : Int32} {R : Int32 × FS} (hdd : 4 ≤ d) (hE : f_X12_about S za zb = some R) : pm_met mX12_about d 0 0 B [.ref (B + 54), .int za, .int zb] cnt (mst B S σ) (pm_Qi (fun v σ' cnt' => v = R.1 ∧ σ' = (mst B R.2 σ) ∧ cnt' = cnt)) := by
  refine pm_enter 0 (by decide) (Nat.le_of_ble_eq_true rfl) rfl (fun G hG hR hF => ?_)
  unfold f_X12_about at hE
  refine pm_aloadn hG dX12_about_0 rfl ?_
  refine pm_iloadn hG dX12_about_1 rfl ?_
  refine pm_callV (As := [.int za]) (rest := []) hG hR dX12_about_2 (lkX12_91 _ rfl) okV_X12_isPerson rfl rfl (c_X12_isPerson (d := 3) (by decide) rfl) rfl rfl hdd (Nat.le_refl _) (Nat.le_refl _) (by decide) (fx_ki ?_)
  refine pm_if_ne (tgt := 14) hG dX12_about_5 rfl (fun c1 => ?_) (fun c1 => ?_)
  · replace hE := fx_f c1 hE
    refine pm_iloadn hG dX12_about_14 rfl ?_
    by_cases c2 : zb = 0
    · replace hE := fx_t c2 hE
      refine pm_top (v := 0) c2 ?_
      refine pm_tswIn (tgt := 68) hG dX12_about_15 (by decide) (by decide) rfl rfl ?_
      refine pm_aloadn hG dX12_about_68 rfl ?_
      refine pm_iloadn hG dX12_about_69 rfl ?_
      refine pm_iconst (v := 4) hG dX12_about_70 (by decide) ?_
      obtain ⟨x4, h3, hE⟩ := fb_some hE
      refine pm_callV (As := [.int za, .int 4]) (rest := []) hG hR dX12_about_71 (lkX12_72 _ rfl) okV_X12_man rfl rfl (c_X12_man (d := 3) (by decide) h3) rfl rfl hdd (Nat.le_refl _) (Nat.le_refl _) (by decide) (fx_ki ?_)
      exact pm_iret hG hF dX12_about_74 rfl (Nat.le_refl _) (Nat.le_refl _) (fx_rim hE)
    replace hE := fx_f c2 hE
    by_cases c5 : zb = 1
    · replace hE := fx_t c5 hE
      refine pm_top (v := 1) c5 ?_
      refine pm_tswIn (tgt := 75) hG dX12_about_15 (by decide) (by decide) rfl rfl ?_
      refine pm_aloadn hG dX12_about_75 rfl ?_
      refine pm_iloadn hG dX12_about_76 rfl ?_
      refine pm_bipush (v := 7) hG dX12_about_77 (by decide) ?_
      obtain ⟨x7, h6, hE⟩ := fb_some hE
      refine pm_callV (As := [.int za, .int 7]) (rest := []) hG hR dX12_about_79 (lkX12_72 _ rfl) okV_X12_man rfl rfl (c_X12_man (d := 3) (by decide) h6) rfl rfl hdd (Nat.le_refl _) (Nat.le_refl _) (by decide) (fx_ki ?_)
      exact pm_iret hG hF dX12_about_82 rfl (Nat.le_refl _) (Nat.le_refl _) (fx_rim hE)
    replace hE := fx_f c5 hE
    by_cases c8 : zb = 2
    · replace hE := fx_t c8 hE
      refine pm_top (v := 2) c8 ?_
      refine pm_tswIn (tgt := 83) hG dX12_about_15 (by decide) (by decide) rfl rfl ?_
      refine pm_aloadn hG dX12_about_83 rfl ?_
      refine pm_iloadn hG dX12_about_84 rfl ?_
      refine pm_bipush (v := 8) hG dX12_about_85 (by decide) ?_
      obtain ⟨x10, h9, hE⟩ := fb_some hE
      refine pm_callV (As := [.int za, .int 8]) (rest := []) hG hR dX12_about_87 (lkX12_72 _ rfl) okV_X12_man rfl rfl (c_X12_man (d := 3) (by decide) h9) rfl rfl hdd (Nat.le_refl _) (Nat.le_refl _) (by decide) (fx_ki ?_)
      exact pm_iret hG hF dX12_about_90 rfl (Nat.le_refl _) (Nat.le_refl _) (fx_rim hE)
    replace hE := fx_f c8 hE
    by_cases c11 : zb = 3
    · replace hE := fx_t c11 hE
      refine pm_top (v := 3) c11 ?_
      refine pm_tswIn (tgt := 91) hG dX12_about_15 (by decide) (by decide) rfl rfl ?_
      refine pm_aloadn hG dX12_about_91 rfl ?_
      refine pm_getf hG dX12_about_92 (flX12_7 _ rfl) rfl rfl ?_
      refine pm_bipush (v := 8) hG dX12_about_95 (by decide) ?_
      refine fx_iald hG dX12_about_97 rfl (ix_lit (by decide) rfl) ?_
      refine pm_aloadn hG dX12_about_98 rfl ?_
      refine pm_iloadn hG dX12_about_99 rfl ?_
      refine pm_iconst (v := 1) hG dX12_about_100 (by decide) ?_
      obtain ⟨x13, h12, hE⟩ := fb_some hE
      refine pm_callV (As := [.int za, .int 1]) (rest := [.int (S.2 55 8)]) hG hR dX12_about_101 (lkX12_72 _ rfl) okV_X12_man rfl rfl (c_X12_man (d := 3) (by decide) h12) rfl rfl hdd (Nat.le_refl _) (Nat.le_refl _) (by first | decide | exact Nat.le_of_ble_eq_true rfl) (fx_ki ?_)
      refine pm_isub hG dX12_about_104 ?_
      refine pm_sipush (v := 360) hG dX12_about_105 (by decide) ?_
      refine pm_idiv hG dX12_about_108 (by decide) ?_
      exact pm_iret hG hF dX12_about_109 rfl (Nat.le_refl _) (Nat.le_refl _) (fx_rim hE)
    replace hE := fx_f c11 hE
    by_cases c14 : zb = 4
    · replace hE := fx_t c14 hE
      refine pm_top (v := 4) c14 ?_
      refine pm_tswIn (tgt := 110) hG dX12_about_15 (by decide) (by decide) rfl rfl ?_
      refine pm_aloadn hG dX12_about_110 rfl ?_
      refine pm_iloadn hG dX12_about_111 rfl ?_
      obtain ⟨r16, h15, hE⟩ := fb_some hE
      refine pm_callV (As := [.int za]) (rest := []) hG hR dX12_about_112 (lkX12_104 _ rfl) okV_X12_knownTo rfl rfl (c_X12_knownTo (d := 3) (by decide) h15) rfl rfl hdd (Nat.le_refl _) (Nat.le_refl _) (by decide) (fx_ki ?_)
      exact pm_iret hG hF dX12_about_115 rfl (Nat.le_refl _) (Nat.le_refl _) (fx_rim hE)
    replace hE := fx_f c14 hE
    by_cases c17 : zb = 5
    · replace hE := fx_t c17 hE
      refine pm_top (v := 5) c17 ?_
      refine pm_tswIn (tgt := 116) hG dX12_about_15 (by decide) (by decide) rfl rfl ?_
      refine pm_aloadn hG dX12_about_116 rfl ?_
      refine pm_iloadn hG dX12_about_117 rfl ?_
      obtain ⟨x19, h18, hE⟩ := fb_some hE
      refine pm_callV (As := [.int za]) (rest := []) hG hR dX12_about_118 (lkX12_122 _ rfl) okV_X12_holdsMany rfl rfl (c_X12_holdsMany (d := 3) (by decide) h18) rfl rfl hdd (Nat.le_refl _) (Nat.le_refl _) (by decide) (fx_ki ?_)
      exact pm_iret hG hF dX12_about_121 rfl (Nat.le_refl _) (Nat.le_refl _) (fx_rim hE)
    replace hE := fx_f c17 hE
    by_cases c20 : zb = 6
    · replace hE := fx_t c20 hE
      refine pm_top (v := 6) c20 ?_
      refine pm_tswIn (tgt := 122) hG dX12_about_15 (by decide) (by decide) rfl rfl ?_
      refine pm_aloadn hG dX12_about_122 rfl ?_
      refine pm_iloadn hG dX12_about_123 rfl ?_
      obtain ⟨x22, h21, hE⟩ := fb_some hE
      refine pm_callV (As := [.int za]) (rest := []) hG hR dX12_about_124 (lkX12_101 _ rfl) okV_X12_lives rfl rfl (c_X12_lives (d := 3) (by decide) h21) rfl rfl hdd (Nat.le_refl _) (Nat.le_refl _) (by decide) (fx_ki ?_)
      refine pm_if_eq (tgt := 134) hG dX12_about_127 rfl (fun c23 => ?_) (fun c23 => ?_)
      · replace hE := fx_t c23 hE
        refine pm_iconst (v := 1) hG dX12_about_134 (by decide) ?_
        exact pm_iret hG hF dX12_about_135 rfl (Nat.le_refl _) (Nat.le_refl _) (fx_rim hE)
      · replace hE := fx_f c23 hE
        refine pm_iconst (v := 0) hG dX12_about_130 (by decide) ?_
        refine pm_goto (tgt := 135) hG dX12_about_131 rfl ?_
        exact pm_iret hG hF dX12_about_135 rfl (Nat.le_refl _) (Nat.le_refl _) (fx_rim hE)
    replace hE := fx_f c20 hE
    by_cases c24 : zb = 7
    · replace hE := fx_t c24 hE
      refine pm_top (v := 7) c24 ?_
      refine pm_tswIn (tgt := 136) hG dX12_about_15 (by decide) (by decide) rfl rfl ?_
      refine pm_aloadn hG dX12_about_136 rfl ?_
      refine pm_iloadn hG dX12_about_137 rfl ?_
      refine pm_bipush (v := 11) hG dX12_about_138 (by decide) ?_
      obtain ⟨x26, h25, hE⟩ := fb_some hE
      refine pm_callV (As := [.int za, .int 11]) (rest := []) hG hR dX12_about_140 (lkX12_72 _ rfl) okV_X12_man rfl rfl (c_X12_man (d := 3) (by decide) h25) rfl rfl hdd (Nat.le_refl _) (Nat.le_refl _) (by decide) (fx_ki ?_)
      exact pm_iret hG hF dX12_about_143 rfl (Nat.le_refl _) (Nat.le_refl _) (fx_rim hE)
    replace hE := fx_f c24 hE
    by_cases c27 : zb = 8
    · replace hE := fx_t c27 hE
      refine pm_top (v := 8) c27 ?_
      refine pm_tswIn (tgt := 144) hG dX12_about_15 (by decide) (by decide) rfl rfl ?_
      refine pm_aloadn hG dX12_about_144 rfl ?_
      refine pm_iloadn hG dX12_about_145 rfl ?_
      obtain ⟨r29, h28, hE⟩ := fb_some hE
      refine pm_callV (As := [.int za]) (rest := []) hG hR dX12_about_146 (lkX12_125 _ rfl) okV_X12_stepsOf rfl rfl (c_X12_stepsOf (d := 3) (by decide) h28) rfl rfl hdd (Nat.le_refl _) (Nat.le_refl _) (by decide) (fx_ki ?_)
      exact pm_iret hG hF dX12_about_149 rfl (Nat.le_refl _) (Nat.le_refl _) (fx_rim hE)
    replace hE := fx_f c27 hE
    by_cases c30 : zb = 9
    · replace hE := fx_t c30 hE
      refine pm_top (v := 9) c30 ?_
      refine pm_tswIn (tgt := 150) hG dX12_about_15 (by decide) (by decide) rfl rfl ?_
      refine pm_aloadn hG dX12_about_150 rfl ?_
      refine pm_iloadn hG dX12_about_151 rfl ?_
      refine pm_bipush (v := 12) hG dX12_about_152 (by decide) ?_
      obtain ⟨x32, h31, hE⟩ := fb_some hE
      refine pm_callV (As := [.int za, .int 12]) (rest := []) hG hR dX12_about_154 (lkX12_72 _ rfl) okV_X12_man rfl rfl (c_X12_man (d := 3) (by decide) h31) rfl rfl hdd (Nat.le_refl _) (Nat.le_refl _) (by decide) (fx_ki ?_)
      exact pm_iret hG hF dX12_about_157 rfl (Nat.le_refl _) (Nat.le_refl _) (fx_rim hE)
    replace hE := fx_f c30 hE
    have tc2 : ¬ zb.toInt = 0 := fun q => c2 (Int32.toInt_inj.mp q)
    have tc5 : ¬ zb.toInt = 1 := fun q => c5 (Int32.toInt_inj.mp q)
    have tc8 : ¬ zb.toInt = 2 := fun q => c8 (Int32.toInt_inj.mp q)
    have tc11 : ¬ zb.toInt = 3 := fun q => c11 (Int32.toInt_inj.mp q)
    have tc14 : ¬ zb.toInt = 4 := fun q => c14 (Int32.toInt_inj.mp q)
    have tc17 : ¬ zb.toInt = 5 := fun q => c17 (Int32.toInt_inj.mp q)
    have tc20 : ¬ zb.toInt = 6 := fun q => c20 (Int32.toInt_inj.mp q)
    have tc24 : ¬ zb.toInt = 7 := fun q => c24 (Int32.toInt_inj.mp q)
    have tc27 : ¬ zb.toInt = 8 := fun q => c27 (Int32.toInt_inj.mp q)
    have tc30 : ¬ zb.toInt = 9 := fun q => c30 (Int32.toInt_inj.mp q)
    refine pm_tswOut (tgt := 158) hG dX12_about_15 (by omega) rfl ?_
    refine pm_aloadn hG dX12_about_158 rfl ?_
    refine pm_iconst (v := 1) hG dX12_about_159 (by decide) ?_
    obtain ⟨r34, h33, hE⟩ := fb_some hE
    refine pm_callV (As := [.int 1]) (rest := []) hG hR dX12_about_160 (lkX12_80 _ rfl) okV_X12_finds rfl rfl (c_X12_finds (d := 3) (by decide) h33) rfl rfl hdd (Nat.le_refl _) (Nat.le_refl _) (by decide) (fx_ki ?_)
    exact pm_iret hG hF dX12_about_163 rfl (Nat.le_refl _) (Nat.le_refl _) (fx_rim hE)
  · replace hE := fx_t c1 hE
    refine pm_aloadn hG dX12_about_8 rfl ?_
    refine pm_iconst (v := 1) hG dX12_about_9 (by decide) ?_
    obtain ⟨r36, h35, hE⟩ := fb_some hE
    refine pm_callV (As := [.int 1]) (rest := []) hG hR dX12_about_10 (lkX12_80 _ rfl) okV_X12_finds rfl rfl (c_X12_finds (d := 3) (by decide) h35) rfl rfl hdd (Nat.le_refl _) (Nat.le_refl _) (by decide) (fx_ki ?_)
    exact pm_iret hG hF dX12_about_13 rfl (Nat.le_refl _) (Nat.le_refl _) (fx_rim hE)
end
section
set_option maxRecDepth 100000 in
set_option maxHeartbeats 4000000 in
theorem c_X12_ran {d : Nat} {B cnt : Nat} {σ : pm_S} {S : FS} {za : Int32} {R : Int32 × FS} (hdd : 1 ≤ d) (hE : f_X12_ran S za = some R) : pm_met mX12_ran d 0 0 B [.ref (B + 54), .int za] cnt (mst B S σ) (pm_Qv (fun σ' cnt' => σ' = (mst B R.2 σ) ∧ cnt' = cnt)) := by
  refine pm_enter 0 (by decide) (Nat.le_of_ble_eq_true rfl) rfl (fun G hG hR hF => ?_)
  unfold f_X12_ran at hE
  refine pm_aloadn hG dX12_ran_0 rfl ?_
  refine pm_getf hG dX12_ran_1 (flX12_283 _ rfl) rfl rfl ?_
  refine pm_bipush (v := 40) hG dX12_ran_4 (by decide) ?_
  refine pm_icmp_ge (tgt := 29) hG dX12_ran_6 rfl (fun c1 => ?_) (fun c1 => ?_)
  · replace c1 := Int32.not_lt.mpr c1
    replace hE := fx_f c1 hE
    exact pm_vret hG hF dX12_ran_29 rfl (Nat.le_refl _) (Nat.le_refl _) (fx_rvm hE)
  · replace c1 := Int32.not_le.mp c1
    replace hE := fx_t c1 hE
    refine pm_aloadn hG dX12_ran_9 rfl ?_
    refine pm_getf hG dX12_ran_10 (flX12_52 _ rfl) rfl rfl ?_
    refine pm_aloadn hG dX12_ran_13 rfl ?_
    refine pm_getf hG dX12_ran_14 (flX12_283 _ rfl) rfl rfl ?_
    refine pm_iloadn hG dX12_ran_17 rfl ?_
    obtain ⟨j2, hj2, hE⟩ := fb_some hE
    refine fx_iast hG dX12_ran_18 rfl hj2 ?_
    refine ma_69 ?_
    refine fx_letm hE (fun S3 hE => ?_)
    refine pm_aloadn hG dX12_ran_19 rfl ?_
    refine pm_dup hG dX12_ran_20 rfl ?_
    refine pm_getf hG dX12_ran_21 (flX12_283 _ rfl) rfl rfl ?_
    refine pm_iconst (v := 1) hG dX12_ran_24 (by decide) ?_
    refine pm_iadd hG dX12_ran_25 ?_
    refine pm_putf hG dX12_ran_26 (fwX12_283 _ rfl) rfl rfl rfl ?_
    refine mi_22 ?_
    refine fx_letm hE (fun S4 hE => ?_)
    exact pm_vret hG hF dX12_ran_29 rfl (Nat.le_refl _) (Nat.le_refl _) (fx_rvm hE)

set_option maxRecDepth 100000 in
set_option maxHeartbeats 4000000 in
theorem c_X12_actsPower {d : Nat} {B cnt : Nat} {σ : pm_S} {S : FS} {za : Int32} {zb : Int32} {R : Int32 × FS} (hdd : 2 ≤ d) (hE : f_X12_actsPower S za zb = some R) : pm_met mX12_actsPower d 0 0 B [.ref (B + 54), .int za, .int zb] cnt (mst B S σ) (pm_Qi (fun v σ' cnt' => v = R.1 ∧ σ' = (mst B R.2 σ) ∧ cnt' = cnt)) := by
  refine pm_enter 0 (by decide) (Nat.le_of_ble_eq_true rfl) rfl (fun G hG hR hF => ?_)
  unfold f_X12_actsPower at hE
  refine pm_aloadn hG dX12_actsPower_0 rfl ?_
  refine pm_bipush (v := 10) hG dX12_actsPower_1 (by decide) ?_
  obtain ⟨r2, h1, hE⟩ := fb_some hE
  refine pm_callV (As := [.int 10]) (rest := []) hG hR dX12_actsPower_3 (lkX12_286 _ rfl) okV_X12_ran rfl rfl (c_X12_ran (d := 1) (by decide) h1) rfl rfl hdd (Nat.le_refl _) (Nat.le_refl _) (by decide) (fx_kv ?_)
  refine pm_iloadn hG dX12_actsPower_6 rfl ?_
  refine pm_aloadn hG dX12_actsPower_7 rfl ?_
  refine pm_iloadn hG dX12_actsPower_8 rfl ?_
  refine pm_iconst (v := 4) hG dX12_actsPower_9 (by decide) ?_
  obtain ⟨x4, h3, hE⟩ := fb_some hE
  refine pm_callV (As := [.int za, .int 4]) (rest := [.int zb]) hG hR dX12_actsPower_10 (lkX12_110 _ rfl) okV_X12_its rfl rfl (c_X12_its (d := 1) (by decide) h3) rfl rfl hdd (Nat.le_refl _) (Nat.le_refl _) (by first | decide | exact Nat.le_of_ble_eq_true rfl) (fx_ki ?_)
  refine pm_iadd hG dX12_actsPower_13 ?_
  exact pm_iret hG hF dX12_actsPower_14 rfl (Nat.le_refl _) (Nat.le_refl _) (fx_rim hE)

set_option maxRecDepth 100000 in
set_option maxHeartbeats 4000000 in
theorem c_X12_actsOffice {d : Nat} {B cnt : Nat} {σ : pm_S} {S : FS} {za : Int32} {zb : Int32} {R : Int32 × FS} (hdd : 3 ≤ d) (hE : f_X12_actsOffice S za zb = some R) : pm_met mX12_actsOffice d 0 0 B [.ref (B + 54), .int za, .int zb] cnt (mst B S σ) (pm_Qi (fun v σ' cnt' => v = R.1 ∧ σ' = (mst B R.2 σ) ∧ cnt' = cnt)) := by
  refine pm_enter 0 (by decide) (Nat.le_of_ble_eq_true rfl) rfl (fun G hG hR hF => ?_)
  unfold f_X12_actsOffice at hE
  refine pm_aloadn hG dX12_actsOffice_0 rfl ?_
  refine pm_bipush (v := 20) hG dX12_actsOffice_1 (by decide) ?_
  obtain ⟨r2, h1, hE⟩ := fb_some hE
  refine pm_callV (As := [.int 20]) (rest := []) hG hR dX12_actsOffice_3 (lkX12_286 _ rfl) okV_X12_ran rfl rfl (c_X12_ran (d := 2) (by decide) h1) rfl rfl hdd (Nat.le_refl _) (Nat.le_refl _) (by decide) (fx_kv ?_)
  refine pm_aloadn hG dX12_actsOffice_6 rfl ?_
  refine pm_iloadn hG dX12_actsOffice_7 rfl ?_
  refine pm_iloadn hG dX12_actsOffice_8 rfl ?_
  obtain ⟨r4, h3, hE⟩ := fb_some hE
  refine pm_callV (As := [.int za, .int zb]) (rest := []) hG hR dX12_actsOffice_9 (lkX12_289 _ rfl) okV_X12_actsPower rfl rfl (c_X12_actsPower (d := 2) (by decide) h3) rfl rfl hdd (Nat.le_refl _) (Nat.le_refl _) (by decide) (fx_ki ?_)
  refine pm_iloadn hG dX12_actsOffice_12 rfl ?_
  refine pm_iadd hG dX12_actsOffice_13 ?_
  exact pm_iret hG hF dX12_actsOffice_14 rfl (Nat.le_refl _) (Nat.le_refl _) (fx_rim hE)

set_option maxRecDepth 100000 in
set_option maxHeartbeats 4000000 in
theorem c_X12_actsOf {d : Nat} {B cnt : Nat} {σ : pm_S} {S : FS} {za : Int32} {zb : Int32} {R : Int32 × FS} (hdd : 4 ≤ d) (hE : f_X12_actsOf S za zb = some R) : pm_met mX12_actsOf d 0 0 B [.ref (B + 54), .int za, .int zb] cnt (mst B S σ) (pm_Qi (fun v σ' cnt' => v = R.1 ∧ σ' = (mst B R.2 σ) ∧ cnt' = cnt)) := by
  refine pm_enter 1 (by decide) (Nat.le_of_ble_eq_true rfl) rfl (fun G hG hR hF => ?_)
  unfold f_X12_actsOf at hE
  refine pm_aloadn hG dX12_actsOf_0 rfl ?_
  refine pm_iloadn hG dX12_actsOf_1 rfl ?_
  refine pm_iconst (v := 0) hG dX12_actsOf_2 (by decide) ?_
  obtain ⟨x2, h1, hE⟩ := fb_some hE
  refine pm_callV (As := [.int za, .int 0]) (rest := []) hG hR dX12_actsOf_3 (lkX12_110 _ rfl) okV_X12_its rfl rfl (c_X12_its (d := 3) (by decide) h1) rfl rfl hdd (Nat.le_refl _) (Nat.le_refl _) (by decide) (fx_ki ?_)
  refine pm_istoreXn (loc' := [some (.ref (B + 54)), some (.int za), some (.int zb), some (.int x2)]) hG dX12_actsOf_6 (by decide) (pm_c1b rfl) rfl ?_
  refine pm_iloadn hG dX12_actsOf_7 rfl ?_
  refine pm_iconst (v := 1) hG dX12_actsOf_8 (by decide) ?_
  refine pm_icmp_eq (tgt := 17) hG dX12_actsOf_9 rfl (fun c3 => ?_) (fun c3 => ?_)
  · replace hE := fx_t c3 hE
    refine pm_aloadn hG dX12_actsOf_17 rfl ?_
    refine pm_iloadn hG dX12_actsOf_18 rfl ?_
    refine pm_iloadn hG dX12_actsOf_19 rfl ?_
    obtain ⟨r5, h4, hE⟩ := fb_some hE
    refine pm_callV (As := [.int za, .int zb]) (rest := []) hG hR dX12_actsOf_20 (lkX12_292 _ rfl) okV_X12_actsOffice rfl rfl (c_X12_actsOffice (d := 3) (by decide) h4) rfl rfl hdd (Nat.le_refl _) (Nat.le_refl _) (by decide) (fx_ki ?_)
    exact pm_iret hG hF dX12_actsOf_23 rfl (Nat.le_refl _) (Nat.le_refl _) (fx_rim hE)
  · replace hE := fx_f c3 hE
    refine pm_iloadn hG dX12_actsOf_12 rfl ?_
    refine pm_iconst (v := 3) hG dX12_actsOf_13 (by decide) ?_
    refine pm_icmp_ne (tgt := 24) hG dX12_actsOf_14 rfl (fun c6 => ?_) (fun c6 => ?_)
    · replace hE := fx_f c6 hE
      refine pm_iloadn hG dX12_actsOf_24 rfl ?_
      refine pm_iconst (v := 4) hG dX12_actsOf_25 (by decide) ?_
      refine pm_icmp_eq (tgt := 36) hG dX12_actsOf_26 rfl (fun c7 => ?_) (fun c7 => ?_)
      · replace hE := fx_t c7 hE
        refine pm_aloadn hG dX12_actsOf_36 rfl ?_
        refine pm_bipush (v := 50) hG dX12_actsOf_37 (by decide) ?_
        obtain ⟨r9, h8, hE⟩ := fb_some hE
        refine pm_callV (As := [.int 50]) (rest := []) hG hR dX12_actsOf_39 (lkX12_286 _ rfl) okV_X12_ran rfl rfl (c_X12_ran (d := 3) (by decide) h8) rfl rfl hdd (Nat.le_refl _) (Nat.le_refl _) (by decide) (fx_kv ?_)
        refine pm_aloadn hG dX12_actsOf_42 rfl ?_
        refine pm_iloadn hG dX12_actsOf_43 rfl ?_
        refine pm_iloadn hG dX12_actsOf_44 rfl ?_
        refine pm_aloadn hG dX12_actsOf_45 rfl ?_
        refine pm_iloadn hG dX12_actsOf_46 rfl ?_
        refine pm_iconst (v := 4) hG dX12_actsOf_47 (by decide) ?_
        obtain ⟨x11, h10, hE⟩ := fb_some hE
        refine pm_callV (As := [.int za, .int 4]) (rest := [.int zb, .int za, .ref (B + 54)]) hG hR dX12_actsOf_48 (lkX12_110 _ rfl) okV_X12_its rfl rfl (c_X12_its (d := 3) (by decide) h10) rfl rfl hdd (Nat.le_refl _) (Nat.le_refl _) (by first | decide | exact Nat.le_of_ble_eq_true rfl) (fx_ki ?_)
        refine pm_isub hG dX12_actsOf_51 ?_
        obtain ⟨r13, h12, hE⟩ := fb_some hE
        refine pm_callV (As := [.int za, .int (zb - x11)]) (rest := []) hG hR dX12_actsOf_52 (lkX12_292 _ rfl) okV_X12_actsOffice rfl rfl (c_X12_actsOffice (d := 3) (by decide) h12) rfl rfl hdd (Nat.le_refl _) (Nat.le_refl _) (by decide) (fx_ki ?_)
        exact pm_iret hG hF dX12_actsOf_55 rfl (Nat.le_refl _) (Nat.le_refl _) (fx_rim hE)
      · replace hE := fx_f c7 hE
        refine pm_aloadn hG dX12_actsOf_29 rfl ?_
        refine pm_iloadn hG dX12_actsOf_30 rfl ?_
        refine pm_iloadn hG dX12_actsOf_31 rfl ?_
        obtain ⟨r15, h14, hE⟩ := fb_some hE
        refine pm_callV (As := [.int za, .int zb]) (rest := []) hG hR dX12_actsOf_32 (lkX12_289 _ rfl) okV_X12_actsPower rfl rfl (c_X12_actsPower (d := 3) (by decide) h14) rfl rfl hdd (Nat.le_refl _) (Nat.le_refl _) (by decide) (fx_ki ?_)
        exact pm_iret hG hF dX12_actsOf_35 rfl (Nat.le_refl _) (Nat.le_refl _) (fx_rim hE)
    · replace hE := fx_t c6 hE
      refine pm_aloadn hG dX12_actsOf_17 rfl ?_
      refine pm_iloadn hG dX12_actsOf_18 rfl ?_
      refine pm_iloadn hG dX12_actsOf_19 rfl ?_
      obtain ⟨r17, h16, hE⟩ := fb_some hE
      refine pm_callV (As := [.int za, .int zb]) (rest := []) hG hR dX12_actsOf_20 (lkX12_292 _ rfl) okV_X12_actsOffice rfl rfl (c_X12_actsOffice (d := 3) (by decide) h16) rfl rfl hdd (Nat.le_refl _) (Nat.le_refl _) (by decide) (fx_ki ?_)
      exact pm_iret hG hF dX12_actsOf_23 rfl (Nat.le_refl _) (Nat.le_refl _) (fx_rim hE)

set_option maxRecDepth 100000 in
set_option maxHeartbeats 4000000 in
theorem c_X12_isPower {d : Nat} {B cnt : Nat} {σ : pm_S} {S : FS} {za : Int32} {R : Int32} (hdd : 2 ≤ d) (hE : p_X12_isPower S za = R) : pm_met mX12_isPower d 0 0 B [.ref (B + 54), .int za] cnt (mst B S σ) (pm_Qi (fun v σ' cnt' => v = R ∧ σ' = (mst B S σ) ∧ cnt' = cnt)) := by
  refine pm_enter 0 (by decide) (Nat.le_of_ble_eq_true rfl) rfl (fun G hG hR hF => ?_)
  unfold p_X12_isPower at hE
  refine pm_iloadn hG dX12_isPower_0 rfl ?_
  refine pm_iconst (v := 0) hG dX12_isPower_1 (by decide) ?_
  refine pm_aloadn hG dX12_isPower_2 rfl ?_
  refine pm_getf hG dX12_isPower_3 (flX12_7 _ rfl) rfl rfl ?_
  refine pm_iconst (v := 3) hG dX12_isPower_6 (by decide) ?_
  refine fx_iald hG dX12_isPower_7 rfl (ix_lit (by decide) rfl) ?_
  refine pm_iconst (v := 1) hG dX12_isPower_8 (by decide) ?_
  refine pm_isub hG dX12_isPower_9 ?_
  refine pm_callS (As := [.int za, .int 0, .int ((S.2 55 3) - 1)]) (rest := []) hG hR dX12_isPower_10 (lkX12_68 _ rfl) okS_X12_in (c_X12_in (d := 1) (by decide) rfl) rfl rfl hdd (Nat.le_refl _) (Nat.le_refl _) (by decide) (fx_ki ?_)
  exact pm_zret hG hF dX12_isPower_13 rfl (pm_nz pb_X12_in) (Nat.le_refl _) (Nat.le_refl _) (fx_pi hE)

set_option maxRecDepth 100000 in
set_option maxHeartbeats 4000000 in
theorem c_X12_inForce {d : Nat} {B cnt : Nat} {σ : pm_S} {S : FS} {za : Int32} {zb : Int32} {zc : Int32} {R : Int32} (hdd : 2 ≤ d) (hE : q_X12_inForce S za zb zc = some R) : pm_met mX12_inForce d 0 0 B [.ref (B + 54), .int za, .int zb, .int zc] cnt (mst B S σ) (pm_Qi (fun v σ' cnt' => v = R ∧ σ' = (mst B S σ) ∧ cnt' = cnt)) := by
  refine pm_enter 4 (by decide) (Nat.le_of_ble_eq_true rfl) rfl (fun G hG hR hF => ?_)
  unfold q_X12_inForce at hE
  refine pm_iconst (v := (-1)) hG dX12_inForce_0 (by decide) ?_
  refine pm_istoreXi (loc' := [some (.ref (B + 54)), some (.int za), some (.int zb), some (.int zc), some (.int (-1)), none, none, none]) hG dX12_inForce_1 (by decide) (pm_c1b rfl) rfl ?_
  refine pm_iconst (v := 0) hG dX12_inForce_3 (by decide) ?_
  refine pm_istoreXi (loc' := [some (.ref (B + 54)), some (.int za), some (.int zb), some (.int zc), some (.int (-1)), some (.int 0), none, none]) hG dX12_inForce_4 (by decide) (pm_c1b rfl) rfl ?_
  have loop6 : ∀ (k6 : Int32 → Int32 → Option Int32), (∀  (x1_4 : Int32) (x1_5 : Int32), k6  x1_4 x1_5 = some R → pm_wp mX12_inForce G B 137 [some (.ref (B + 54)), some (.int za), some (.int zb), some (.int zc), some (.int x1_4), some (.int x1_5), none, none] [] 0 0 cnt (mst B S σ)) → ∀ (m6 : Nat)  (x1_4 : Int32) (x1_5 : Int32), l_X12_inForce_6 za zb zc S k6 m6  x1_4 x1_5 = some R → pm_wp mX12_inForce G B 6 [some (.ref (B + 54)), some (.int za), some (.int zb), some (.int zc), some (.int x1_4), some (.int x1_5), none, none] [] 0 0 cnt (mst B S σ) := by
    intro k6 hk6 m6
    induction m6 with
    | zero => intro  x1_4 x1_5 hE; exact fx_no hE
    | succ m6 ih6 =>
      intro  x1_4 x1_5 hE
      rw [l_X12_inForce_6] at hE
      refine pm_iloadi hG dX12_inForce_6 rfl ?_
      refine pm_aloadn hG dX12_inForce_8 rfl ?_
      refine pm_getf hG dX12_inForce_9 (flX12_7 _ rfl) rfl rfl ?_
      refine pm_iconst (v := 4) hG dX12_inForce_12 (by decide) ?_
      refine fx_iald hG dX12_inForce_13 rfl (ix_lit (by decide) rfl) ?_
      refine pm_icmp_ge (tgt := 137) hG dX12_inForce_14 rfl (fun c2 => ?_) (fun c2 => ?_)
      · replace c2 := Int32.not_lt.mpr c2
        replace hE := fx_f c2 hE
        exact hk6 _ _ hE
      · replace c2 := Int32.not_le.mp c2
        replace hE := fx_t c2 hE
        refine pm_sipush (v := 510) hG dX12_inForce_17 (by decide) ?_
        refine pm_bipush (v := 65) hG dX12_inForce_20 (by decide) ?_
        refine pm_iloadi hG dX12_inForce_22 rfl ?_
        refine pm_imul hG dX12_inForce_24 ?_
        refine pm_iadd hG dX12_inForce_25 ?_
        refine fx_letv hE (fun x3 hE => ?_)
        refine pm_istoreXi (loc' := [some (.ref (B + 54)), some (.int za), some (.int zb), some (.int zc), some (.int x1_4), some (.int x1_5), some (.int x3), none]) hG dX12_inForce_26 (by decide) (pm_c1b rfl) rfl ?_
        refine pm_aloadn hG dX12_inForce_28 rfl ?_
        refine pm_getf hG dX12_inForce_29 (flX12_7 _ rfl) rfl rfl ?_
        refine pm_iloadi hG dX12_inForce_32 rfl ?_
        refine pm_iconst (v := 3) hG dX12_inForce_34 (by decide) ?_
        refine pm_iadd hG dX12_inForce_35 ?_
        obtain ⟨j4, hj4, hE⟩ := fb_some hE
        refine fx_iald hG dX12_inForce_36 rfl hj4 ?_
        refine pm_iconst (v := 0) hG dX12_inForce_37 (by decide) ?_
        refine pm_iloadn hG dX12_inForce_38 rfl ?_
        refine pm_callS (As := [.int (S.2 55 j4), .int 0, .int zc]) (rest := []) hG hR dX12_inForce_39 (lkX12_68 _ rfl) okS_X12_in (c_X12_in (d := 1) (by decide) rfl) rfl rfl hdd (Nat.le_refl _) (Nat.le_refl _) (by decide) (fx_ki ?_)
        refine fx_letv hE (fun x5 hE => ?_)
        refine pm_istoreXi (loc' := [some (.ref (B + 54)), some (.int za), some (.int zb), some (.int zc), some (.int x1_4), some (.int x1_5), some (.int x3), some (.int x5)]) hG dX12_inForce_42 (by decide) (pm_c1b rfl) rfl ?_
        refine pm_aloadn hG dX12_inForce_44 rfl ?_
        refine pm_getf hG dX12_inForce_45 (flX12_7 _ rfl) rfl rfl ?_
        refine pm_iloadi hG dX12_inForce_48 rfl ?_
        obtain ⟨j6, hj6, hE⟩ := fb_some hE
        refine fx_iald hG dX12_inForce_50 rfl hj6 ?_
        refine pm_iloadn hG dX12_inForce_51 rfl ?_
        refine pm_icmp_ne (tgt := 131) hG dX12_inForce_52 rfl (fun c7 => ?_) (fun c7 => ?_)
        · replace hE := fx_f c7 hE
          refine pm_iincX (v := x1_5 + 1) (loc' := [some (.ref (B + 54)), some (.int za), some (.int zb), some (.int zc), some (.int x1_4), some (.int (x1_5 + 1)), some (.int x3), some (.int x5)]) hG dX12_inForce_131 rfl (by rfl) (by decide) (pm_c1b rfl) rfl ?_
          refine pm_goto (tgt := 6) hG dX12_inForce_134 rfl ?_
          refine pm_fg 6 (loc' := [some (.ref (B + 54)), some (.int za), some (.int zb), some (.int zc), some (.int x1_4), some (.int (x1_5 + 1)), none, some (.int x5)]) rfl ?_
          refine pm_fg 7 (loc' := [some (.ref (B + 54)), some (.int za), some (.int zb), some (.int zc), some (.int x1_4), some (.int (x1_5 + 1)), none, none]) rfl ?_
          exact ih6 _ _ hE
        · replace hE := fx_t c7 hE
          refine pm_aloadn hG dX12_inForce_55 rfl ?_
          refine pm_getf hG dX12_inForce_56 (flX12_7 _ rfl) rfl rfl ?_
          refine pm_iloadi hG dX12_inForce_59 rfl ?_
          refine pm_iconst (v := 1) hG dX12_inForce_61 (by decide) ?_
          refine pm_iadd hG dX12_inForce_62 ?_
          obtain ⟨j8, hj8, hE⟩ := fb_some hE
          refine fx_iald hG dX12_inForce_63 rfl hj8 ?_
          refine pm_iloadn hG dX12_inForce_64 rfl ?_
          refine pm_icmp_gt (tgt := 131) hG dX12_inForce_65 rfl (fun c9 => ?_) (fun c9 => ?_)
          · replace hE := fx_t c9 hE
            refine pm_iincX (v := x1_5 + 1) (loc' := [some (.ref (B + 54)), some (.int za), some (.int zb), some (.int zc), some (.int x1_4), some (.int (x1_5 + 1)), some (.int x3), some (.int x5)]) hG dX12_inForce_131 rfl (by rfl) (by decide) (pm_c1b rfl) rfl ?_
            refine pm_goto (tgt := 6) hG dX12_inForce_134 rfl ?_
            refine pm_fg 6 (loc' := [some (.ref (B + 54)), some (.int za), some (.int zb), some (.int zc), some (.int x1_4), some (.int (x1_5 + 1)), none, some (.int x5)]) rfl ?_
            refine pm_fg 7 (loc' := [some (.ref (B + 54)), some (.int za), some (.int zb), some (.int zc), some (.int x1_4), some (.int (x1_5 + 1)), none, none]) rfl ?_
            exact ih6 _ _ hE
          · replace hE := fx_f c9 hE
            refine pm_aloadn hG dX12_inForce_68 rfl ?_
            refine pm_getf hG dX12_inForce_69 (flX12_7 _ rfl) rfl rfl ?_
            refine pm_iloadi hG dX12_inForce_72 rfl ?_
            refine pm_iconst (v := 2) hG dX12_inForce_74 (by decide) ?_
            refine pm_iadd hG dX12_inForce_75 ?_
            obtain ⟨j10, hj10, hE⟩ := fb_some hE
            refine fx_iald hG dX12_inForce_76 rfl hj10 ?_
            refine pm_iloadn hG dX12_inForce_77 rfl ?_
            refine pm_icmp_gt (tgt := 131) hG dX12_inForce_78 rfl (fun c11 => ?_) (fun c11 => ?_)
            · replace hE := fx_t c11 hE
              refine pm_iincX (v := x1_5 + 1) (loc' := [some (.ref (B + 54)), some (.int za), some (.int zb), some (.int zc), some (.int x1_4), some (.int (x1_5 + 1)), some (.int x3), some (.int x5)]) hG dX12_inForce_131 rfl (by rfl) (by decide) (pm_c1b rfl) rfl ?_
              refine pm_goto (tgt := 6) hG dX12_inForce_134 rfl ?_
              refine pm_fg 6 (loc' := [some (.ref (B + 54)), some (.int za), some (.int zb), some (.int zc), some (.int x1_4), some (.int (x1_5 + 1)), none, some (.int x5)]) rfl ?_
              refine pm_fg 7 (loc' := [some (.ref (B + 54)), some (.int za), some (.int zb), some (.int zc), some (.int x1_4), some (.int (x1_5 + 1)), none, none]) rfl ?_
              exact ih6 _ _ hE
            · replace hE := fx_f c11 hE
              refine pm_iloadi hG dX12_inForce_81 rfl ?_
              refine pm_if_eq (tgt := 89) hG dX12_inForce_83 rfl (fun c12 => ?_) (fun c12 => ?_)
              · replace hE := fx_t c12 hE
                refine pm_iloadi hG dX12_inForce_89 rfl ?_
                refine pm_if_lt (tgt := 122) hG dX12_inForce_91 rfl (fun c13 => ?_) (fun c13 => ?_)
                · replace hE := fx_t c13 hE
                  refine pm_iloadi hG dX12_inForce_122 rfl ?_
                  refine pm_goto (tgt := 129) hG dX12_inForce_124 rfl ?_
                  refine pm_istoreXi (loc' := [some (.ref (B + 54)), some (.int za), some (.int zb), some (.int zc), some (.int x1_5), some (.int x1_5), some (.int x3), some (.int x5)]) hG dX12_inForce_129 (by decide) (pm_c1b rfl) rfl ?_
                  refine pm_iincX (v := x1_5 + 1) (loc' := [some (.ref (B + 54)), some (.int za), some (.int zb), some (.int zc), some (.int x1_5), some (.int (x1_5 + 1)), some (.int x3), some (.int x5)]) hG dX12_inForce_131 rfl (by rfl) (by decide) (pm_c1b rfl) rfl ?_
                  refine pm_goto (tgt := 6) hG dX12_inForce_134 rfl ?_
                  refine pm_fg 6 (loc' := [some (.ref (B + 54)), some (.int za), some (.int zb), some (.int zc), some (.int x1_5), some (.int (x1_5 + 1)), none, some (.int x5)]) rfl ?_
                  refine pm_fg 7 (loc' := [some (.ref (B + 54)), some (.int za), some (.int zb), some (.int zc), some (.int x1_5), some (.int (x1_5 + 1)), none, none]) rfl ?_
                  exact ih6 _ _ hE
                · replace hE := fx_f c13 hE
                  refine pm_aloadn hG dX12_inForce_94 rfl ?_
                  refine pm_getf hG dX12_inForce_95 (flX12_7 _ rfl) rfl rfl ?_
                  refine pm_iloadi hG dX12_inForce_98 rfl ?_
                  refine pm_iconst (v := 2) hG dX12_inForce_100 (by decide) ?_
                  refine pm_iadd hG dX12_inForce_101 ?_
                  refine fx_iald hG dX12_inForce_102 rfl hj10 ?_
                  refine pm_aloadn hG dX12_inForce_103 rfl ?_
                  refine pm_getf hG dX12_inForce_104 (flX12_7 _ rfl) rfl rfl ?_
                  refine pm_sipush (v := 510) hG dX12_inForce_107 (by decide) ?_
                  refine pm_bipush (v := 65) hG dX12_inForce_110 (by decide) ?_
                  refine pm_iloadi hG dX12_inForce_112 rfl ?_
                  refine pm_imul hG dX12_inForce_114 ?_
                  refine pm_iadd hG dX12_inForce_115 ?_
                  refine pm_iconst (v := 2) hG dX12_inForce_116 (by decide) ?_
                  refine pm_iadd hG dX12_inForce_117 ?_
                  obtain ⟨j14, hj14, hE⟩ := fb_some hE
                  refine fx_iald hG dX12_inForce_118 rfl hj14 ?_
                  refine pm_icmp_lt (tgt := 127) hG dX12_inForce_119 rfl (fun c15 => ?_) (fun c15 => ?_)
                  · replace hE := fx_t c15 hE
                    refine pm_iloadi hG dX12_inForce_127 rfl ?_
                    refine pm_istoreXi (loc' := [some (.ref (B + 54)), some (.int za), some (.int zb), some (.int zc), some (.int x1_4), some (.int x1_5), some (.int x3), some (.int x5)]) hG dX12_inForce_129 (by decide) (pm_c1b rfl) rfl ?_
                    refine pm_iincX (v := x1_5 + 1) (loc' := [some (.ref (B + 54)), some (.int za), some (.int zb), some (.int zc), some (.int x1_4), some (.int (x1_5 + 1)), some (.int x3), some (.int x5)]) hG dX12_inForce_131 rfl (by rfl) (by decide) (pm_c1b rfl) rfl ?_
                    refine pm_goto (tgt := 6) hG dX12_inForce_134 rfl ?_
                    refine pm_fg 6 (loc' := [some (.ref (B + 54)), some (.int za), some (.int zb), some (.int zc), some (.int x1_4), some (.int (x1_5 + 1)), none, some (.int x5)]) rfl ?_
                    refine pm_fg 7 (loc' := [some (.ref (B + 54)), some (.int za), some (.int zb), some (.int zc), some (.int x1_4), some (.int (x1_5 + 1)), none, none]) rfl ?_
                    exact ih6 _ _ hE
                  · replace hE := fx_f c15 hE
                    refine pm_iloadi hG dX12_inForce_122 rfl ?_
                    refine pm_goto (tgt := 129) hG dX12_inForce_124 rfl ?_
                    refine pm_istoreXi (loc' := [some (.ref (B + 54)), some (.int za), some (.int zb), some (.int zc), some (.int x1_5), some (.int x1_5), some (.int x3), some (.int x5)]) hG dX12_inForce_129 (by decide) (pm_c1b rfl) rfl ?_
                    refine pm_iincX (v := x1_5 + 1) (loc' := [some (.ref (B + 54)), some (.int za), some (.int zb), some (.int zc), some (.int x1_5), some (.int (x1_5 + 1)), some (.int x3), some (.int x5)]) hG dX12_inForce_131 rfl (by rfl) (by decide) (pm_c1b rfl) rfl ?_
                    refine pm_goto (tgt := 6) hG dX12_inForce_134 rfl ?_
                    refine pm_fg 6 (loc' := [some (.ref (B + 54)), some (.int za), some (.int zb), some (.int zc), some (.int x1_5), some (.int (x1_5 + 1)), none, some (.int x5)]) rfl ?_
                    refine pm_fg 7 (loc' := [some (.ref (B + 54)), some (.int za), some (.int zb), some (.int zc), some (.int x1_5), some (.int (x1_5 + 1)), none, none]) rfl ?_
                    exact ih6 _ _ hE
              · replace hE := fx_f c12 hE
                refine pm_goto (tgt := 131) hG dX12_inForce_86 rfl ?_
                refine pm_iincX (v := x1_5 + 1) (loc' := [some (.ref (B + 54)), some (.int za), some (.int zb), some (.int zc), some (.int x1_4), some (.int (x1_5 + 1)), some (.int x3), some (.int x5)]) hG dX12_inForce_131 rfl (by rfl) (by decide) (pm_c1b rfl) rfl ?_
                refine pm_goto (tgt := 6) hG dX12_inForce_134 rfl ?_
                refine pm_fg 6 (loc' := [some (.ref (B + 54)), some (.int za), some (.int zb), some (.int zc), some (.int x1_4), some (.int (x1_5 + 1)), none, some (.int x5)]) rfl ?_
                refine pm_fg 7 (loc' := [some (.ref (B + 54)), some (.int za), some (.int zb), some (.int zc), some (.int x1_4), some (.int (x1_5 + 1)), none, none]) rfl ?_
                exact ih6 _ _ hE
  refine loop6 _ (fun  x16_4 x16_5 hE => ?_) _ _ _ hE
  refine pm_iloadi hG dX12_inForce_137 rfl ?_
  exact pm_iret hG hF dX12_inForce_139 rfl (Nat.le_refl _) (Nat.le_refl _) (fx_pi (Option.some.inj hE))

set_option maxRecDepth 100000 in
set_option maxHeartbeats 4000000 in
theorem c_X12_of {d : Nat} {B cnt : Nat} {σ : pm_S} {S : FS} {za : Int32} {zb : Int32} {R : Int32} (hdd : 1 ≤ d) (hE : q_X12_of S za zb = some R) : pm_met mX12_of d 0 0 B [.ref (B + 54), .int za, .int zb] cnt (mst B S σ) (pm_Qi (fun v σ' cnt' => v = R ∧ σ' = (mst B S σ) ∧ cnt' = cnt)) := by
  refine pm_enter 0 (by decide) (Nat.le_of_ble_eq_true rfl) rfl (fun G hG hR hF => ?_)
  unfold q_X12_of at hE
  refine pm_aloadn hG dX12_of_0 rfl ?_
  refine pm_getf hG dX12_of_1 (flX12_7 _ rfl) rfl rfl ?_
  refine pm_sipush (v := 1290) hG dX12_of_4 (by decide) ?_
  refine pm_bipush (v := 12) hG dX12_of_7 (by decide) ?_
  refine pm_iloadn hG dX12_of_9 rfl ?_
  refine pm_imul hG dX12_of_10 ?_
  refine pm_iadd hG dX12_of_11 ?_
  refine pm_iloadn hG dX12_of_12 rfl ?_
  refine pm_iadd hG dX12_of_13 ?_
  obtain ⟨j1, hj1, hE⟩ := fb_some hE
  refine fx_iald hG dX12_of_14 rfl hj1 ?_
  exact pm_iret hG hF dX12_of_15 rfl (Nat.le_refl _) (Nat.le_refl _) (fx_pi (Option.some.inj hE))

set_option maxRecDepth 100000 in
set_option maxHeartbeats 4000000 in
theorem c_X12_bits {d : Nat} {B cnt : Nat} {σ : pm_S} {S : FS} {za : Int32} {R : Int32} (hdd : 1 ≤ d) (hE : q_X12_bits S za = some R) : pm_met mX12_bits d 0 0 B [.int za] cnt (mst B S σ) (pm_Qi (fun v σ' cnt' => v = R ∧ σ' = (mst B S σ) ∧ cnt' = cnt)) := by
  refine pm_enter 2 (by decide) (Nat.le_of_ble_eq_true rfl) rfl (fun G hG hR hF => ?_)
  unfold q_X12_bits at hE
  refine pm_iconst (v := 0) hG dX12_bits_0 (by decide) ?_
  refine pm_istoreXn (loc' := [some (.int za), some (.int 0), none]) hG dX12_bits_1 (by decide) (pm_c1b rfl) rfl ?_
  refine pm_iloadn hG dX12_bits_2 rfl ?_
  refine pm_istoreXn (loc' := [some (.int za), some (.int 0), some (.int za)]) hG dX12_bits_3 (by decide) (pm_c1b rfl) rfl ?_
  have loop4 : ∀ (k4 : Int32 → Int32 → Option Int32), (∀  (x1_1 : Int32) (x1_2 : Int32), k4  x1_1 x1_2 = some R → pm_wp mX12_bits G B 20 [some (.int za), some (.int x1_1), some (.int x1_2)] [] 0 0 cnt (mst B S σ)) → ∀ (m4 : Nat)  (x1_1 : Int32) (x1_2 : Int32), l_X12_bits_4 k4 m4  x1_1 x1_2 = some R → pm_wp mX12_bits G B 4 [some (.int za), some (.int x1_1), some (.int x1_2)] [] 0 0 cnt (mst B S σ) := by
    intro k4 hk4 m4
    induction m4 with
    | zero => intro  x1_1 x1_2 hE; exact fx_no hE
    | succ m4 ih4 =>
      intro  x1_1 x1_2 hE
      rw [l_X12_bits_4] at hE
      refine pm_iloadn hG dX12_bits_4 rfl ?_
      refine pm_if_eq (tgt := 20) hG dX12_bits_5 rfl (fun c2 => ?_) (fun c2 => ?_)
      · replace hE := fx_t c2 hE
        exact hk4 _ _ hE
      · replace hE := fx_f c2 hE
        refine pm_iincX (v := x1_1 + 1) (loc' := [some (.int za), some (.int (x1_1 + 1)), some (.int x1_2)]) hG dX12_bits_8 rfl (by rfl) (by decide) (pm_c1b rfl) rfl ?_
        refine pm_iloadn hG dX12_bits_11 rfl ?_
        refine pm_iloadn hG dX12_bits_12 rfl ?_
        refine pm_iconst (v := 1) hG dX12_bits_13 (by decide) ?_
        refine pm_isub hG dX12_bits_14 ?_
        refine pm_iand hG dX12_bits_15 ?_
        refine fx_letv hE (fun x3 hE => ?_)
        refine pm_istoreXn (loc' := [some (.int za), some (.int (x1_1 + 1)), some (.int x3)]) hG dX12_bits_16 (by decide) (pm_c1b rfl) rfl ?_
        refine pm_goto (tgt := 4) hG dX12_bits_17 rfl ?_
        exact ih4 _ _ hE
  refine loop4 _ (fun  x4_1 x4_2 hE => ?_) _ _ _ hE
  refine pm_iloadn hG dX12_bits_20 rfl ?_
  exact pm_iret hG hF dX12_bits_21 rfl (Nat.le_refl _) (Nat.le_refl _) (fx_pi (Option.some.inj hE))

set_option maxRecDepth 100000 in
set_option maxHeartbeats 4000000 in
theorem c_X12_setNames {d : Nat} {B cnt : Nat} {σ : pm_S} {S : FS} {za : Int32} {zb : Int32} {zc : Int32} {R : Int32 × FS} (hdd : 3 ≤ d) (hE : f_X12_setNames S za zb zc = some R) : pm_met mX12_setNames d 0 0 B [.ref (B + 54), .int za, .int zb, .int zc] cnt (mst B S σ) (pm_Qv (fun σ' cnt' => σ' = (mst B R.2 σ) ∧ cnt' = cnt)) := by
  refine pm_enter 0 (by decide) (Nat.le_of_ble_eq_true rfl) rfl (fun G hG hR hF => ?_)
  unfold f_X12_setNames at hE
  refine pm_aloadn hG dX12_setNames_0 rfl ?_
  refine pm_getf hG dX12_setNames_1 (flX12_34 _ rfl) rfl rfl ?_
  refine pm_iconst (v := 0) hG dX12_setNames_4 (by decide) ?_
  refine pm_iloadn hG dX12_setNames_5 rfl ?_
  refine pm_if_ge (tgt := 13) hG dX12_setNames_6 rfl (fun c1 => ?_) (fun c1 => ?_)
  · replace c1 := Int32.not_lt.mpr c1
    replace hE := fx_f c1 hE
    refine pm_iloadn hG dX12_setNames_13 rfl ?_
    refine pm_aloadn hG dX12_setNames_14 rfl ?_
    refine pm_iloadn hG dX12_setNames_15 rfl ?_
    refine pm_iconst (v := 1) hG dX12_setNames_16 (by decide) ?_
    obtain ⟨x3, h2, hE⟩ := fb_some hE
    refine pm_callV (As := [.int za, .int 1]) (rest := [.int zc, .int 0, .ref (B + 63)]) hG hR dX12_setNames_17 (lkX12_72 _ rfl) okV_X12_man rfl rfl (c_X12_man (d := 2) (by decide) h2) rfl rfl hdd (Nat.le_refl _) (Nat.le_refl _) (by first | decide | exact Nat.le_of_ble_eq_true rfl) (fx_ki ?_)
    refine pm_isub hG dX12_setNames_20 ?_
    refine pm_sipush (v := 360) hG dX12_setNames_21 (by decide) ?_
    refine pm_idiv hG dX12_setNames_24 (by decide) ?_
    refine fx_iast hG dX12_setNames_25 rfl (ix_lit (by decide) rfl) ?_
    refine ma_63 ?_
    refine fx_letm hE (fun S4 hE => ?_)
    refine pm_aloadn hG dX12_setNames_26 rfl ?_
    refine pm_getf hG dX12_setNames_27 (flX12_34 _ rfl) rfl rfl ?_
    refine pm_iconst (v := 1) hG dX12_setNames_30 (by decide) ?_
    refine pm_iloadn hG dX12_setNames_31 rfl ?_
    refine pm_if_ge (tgt := 39) hG dX12_setNames_32 rfl (fun _ => ?_) (fun q => absurd (Int32.not_le.mp q) c1)
    refine pm_aloadn hG dX12_setNames_39 rfl ?_
    refine pm_iloadn hG dX12_setNames_40 rfl ?_
    refine pm_iconst (v := 0) hG dX12_setNames_41 (by decide) ?_
    obtain ⟨x6, h5, hE⟩ := fb_some hE
    refine pm_callV (As := [.int za, .int 0]) (rest := [.int 1, .ref (B + 63)]) hG hR dX12_setNames_42 (lkX12_72 _ rfl) okV_X12_man rfl rfl (c_X12_man (d := 2) (by decide) h5) rfl rfl hdd (Nat.le_refl _) (Nat.le_refl _) (by first | decide | exact Nat.le_of_ble_eq_true rfl) (fx_ki ?_)
    refine fx_iast hG dX12_setNames_45 rfl (ix_lit (by decide) rfl) ?_
    refine ma_63 ?_
    refine fx_letm hE (fun S7 hE => ?_)
    refine pm_aloadn hG dX12_setNames_46 rfl ?_
    refine pm_getf hG dX12_setNames_47 (flX12_34 _ rfl) rfl rfl ?_
    refine pm_iconst (v := 2) hG dX12_setNames_50 (by decide) ?_
    refine pm_iloadn hG dX12_setNames_51 rfl ?_
    refine pm_if_ge (tgt := 59) hG dX12_setNames_52 rfl (fun _ => ?_) (fun q => absurd (Int32.not_le.mp q) c1)
    refine pm_aloadn hG dX12_setNames_59 rfl ?_
    refine pm_iloadn hG dX12_setNames_60 rfl ?_
    obtain ⟨x9, h8, hE⟩ := fb_some hE
    refine pm_callV (As := [.int za]) (rest := [.int 2, .ref (B + 63)]) hG hR dX12_setNames_61 (lkX12_122 _ rfl) okV_X12_holdsMany rfl rfl (c_X12_holdsMany (d := 2) (by decide) h8) rfl rfl hdd (Nat.le_refl _) (Nat.le_refl _) (by first | decide | exact Nat.le_of_ble_eq_true rfl) (fx_ki ?_)
    refine fx_iast hG dX12_setNames_64 rfl (ix_lit (by decide) rfl) ?_
    refine ma_63 ?_
    refine fx_letm hE (fun S10 hE => ?_)
    refine pm_aloadn hG dX12_setNames_65 rfl ?_
    refine pm_getf hG dX12_setNames_66 (flX12_34 _ rfl) rfl rfl ?_
    refine pm_iconst (v := 3) hG dX12_setNames_69 (by decide) ?_
    refine pm_iloadn hG dX12_setNames_70 rfl ?_
    refine pm_if_ge (tgt := 78) hG dX12_setNames_71 rfl (fun _ => ?_) (fun q => absurd (Int32.not_le.mp q) c1)
    refine pm_aloadn hG dX12_setNames_78 rfl ?_
    refine pm_iloadn hG dX12_setNames_79 rfl ?_
    refine pm_bipush (v := 7) hG dX12_setNames_80 (by decide) ?_
    obtain ⟨x12, h11, hE⟩ := fb_some hE
    refine pm_callV (As := [.int za, .int 7]) (rest := [.int 3, .ref (B + 63)]) hG hR dX12_setNames_82 (lkX12_72 _ rfl) okV_X12_man rfl rfl (c_X12_man (d := 2) (by decide) h11) rfl rfl hdd (Nat.le_refl _) (Nat.le_refl _) (by first | decide | exact Nat.le_of_ble_eq_true rfl) (fx_ki ?_)
    refine fx_iast hG dX12_setNames_85 rfl (ix_lit (by decide) rfl) ?_
    refine ma_63 ?_
    refine fx_letm hE (fun S13 hE => ?_)
    refine pm_aloadn hG dX12_setNames_86 rfl ?_
    refine pm_getf hG dX12_setNames_87 (flX12_34 _ rfl) rfl rfl ?_
    refine pm_iconst (v := 4) hG dX12_setNames_90 (by decide) ?_
    refine pm_iloadn hG dX12_setNames_91 rfl ?_
    refine pm_if_ge (tgt := 99) hG dX12_setNames_92 rfl (fun _ => ?_) (fun q => absurd (Int32.not_le.mp q) c1)
    refine pm_aloadn hG dX12_setNames_99 rfl ?_
    refine pm_iloadn hG dX12_setNames_100 rfl ?_
    refine pm_bipush (v := 8) hG dX12_setNames_101 (by decide) ?_
    obtain ⟨x15, h14, hE⟩ := fb_some hE
    refine pm_callV (As := [.int za, .int 8]) (rest := [.int 4, .ref (B + 63)]) hG hR dX12_setNames_103 (lkX12_72 _ rfl) okV_X12_man rfl rfl (c_X12_man (d := 2) (by decide) h14) rfl rfl hdd (Nat.le_refl _) (Nat.le_refl _) (by first | decide | exact Nat.le_of_ble_eq_true rfl) (fx_ki ?_)
    refine fx_iast hG dX12_setNames_106 rfl (ix_lit (by decide) rfl) ?_
    refine ma_63 ?_
    refine fx_letm hE (fun S16 hE => ?_)
    refine pm_aloadn hG dX12_setNames_107 rfl ?_
    refine pm_getf hG dX12_setNames_108 (flX12_34 _ rfl) rfl rfl ?_
    refine pm_iconst (v := 5) hG dX12_setNames_111 (by decide) ?_
    refine pm_iloadn hG dX12_setNames_112 rfl ?_
    refine pm_if_ge (tgt := 120) hG dX12_setNames_113 rfl (fun _ => ?_) (fun q => absurd (Int32.not_le.mp q) c1)
    refine pm_aloadn hG dX12_setNames_120 rfl ?_
    refine pm_iloadn hG dX12_setNames_121 rfl ?_
    refine pm_iconst (v := 4) hG dX12_setNames_122 (by decide) ?_
    obtain ⟨x18, h17, hE⟩ := fb_some hE
    refine pm_callV (As := [.int za, .int 4]) (rest := [.int 5, .ref (B + 63)]) hG hR dX12_setNames_123 (lkX12_72 _ rfl) okV_X12_man rfl rfl (c_X12_man (d := 2) (by decide) h17) rfl rfl hdd (Nat.le_refl _) (Nat.le_refl _) (by first | decide | exact Nat.le_of_ble_eq_true rfl) (fx_ki ?_)
    refine pm_if_ge (tgt := 134) hG dX12_setNames_126 rfl (fun c19 => ?_) (fun c19 => ?_)
    · replace c19 := Int32.not_lt.mpr c19
      replace hE := fx_f c19 hE
      refine pm_aloadn hG dX12_setNames_134 rfl ?_
      refine pm_iloadn hG dX12_setNames_135 rfl ?_
      refine pm_iconst (v := 4) hG dX12_setNames_136 (by decide) ?_
      obtain ⟨x21, h20, hE⟩ := fb_some hE
      refine pm_callV (As := [.int za, .int 4]) (rest := [.int 5, .ref (B + 63)]) hG hR dX12_setNames_137 (lkX12_72 _ rfl) okV_X12_man rfl rfl (c_X12_man (d := 2) (by decide) h20) rfl rfl hdd (Nat.le_refl _) (Nat.le_refl _) (by first | decide | exact Nat.le_of_ble_eq_true rfl) (fx_ki ?_)
      refine fx_iast hG dX12_setNames_140 rfl (ix_lit (by decide) rfl) ?_
      refine ma_63 ?_
      refine fx_letm hE (fun S22 hE => ?_)
      refine pm_aloadn hG dX12_setNames_141 rfl ?_
      refine pm_getf hG dX12_setNames_142 (flX12_34 _ rfl) rfl rfl ?_
      refine pm_bipush (v := 6) hG dX12_setNames_145 (by decide) ?_
      refine pm_iloadn hG dX12_setNames_147 rfl ?_
      refine pm_if_ge (tgt := 155) hG dX12_setNames_148 rfl (fun _ => ?_) (fun q => absurd (Int32.not_le.mp q) c1)
      refine pm_aloadn hG dX12_setNames_155 rfl ?_
      refine pm_iloadn hG dX12_setNames_156 rfl ?_
      obtain ⟨r24, h23, hE⟩ := fb_some hE
      refine pm_callV (As := [.int za]) (rest := [.int 6, .ref (B + 63)]) hG hR dX12_setNames_157 (lkX12_125 _ rfl) okV_X12_stepsOf rfl rfl (c_X12_stepsOf (d := 2) (by decide) h23) rfl rfl hdd (Nat.le_refl _) (Nat.le_refl _) (by first | decide | exact Nat.le_of_ble_eq_true rfl) (fx_ki ?_)
      refine fx_iast hG dX12_setNames_160 rfl (ix_lit (by decide) rfl) ?_
      refine ma_63 ?_
      refine fx_letm hE (fun S25 hE => ?_)
      refine pm_aloadn hG dX12_setNames_161 rfl ?_
      refine pm_getf hG dX12_setNames_162 (flX12_34 _ rfl) rfl rfl ?_
      refine pm_bipush (v := 7) hG dX12_setNames_165 (by decide) ?_
      refine pm_iloadn hG dX12_setNames_167 rfl ?_
      refine pm_if_ge (tgt := 175) hG dX12_setNames_168 rfl (fun c26 => ?_) (fun c26 => ?_)
      · replace c26 := Int32.not_lt.mpr c26
        replace hE := fx_f c26 hE
        refine pm_aloadn hG dX12_setNames_175 rfl ?_
        refine pm_iloadn hG dX12_setNames_176 rfl ?_
        refine pm_iconst (v := 3) hG dX12_setNames_177 (by decide) ?_
        obtain ⟨x28, h27, hE⟩ := fb_some hE
        refine pm_callV (As := [.int zb, .int 3]) (rest := [.int 7, .ref (B + 63)]) hG hR dX12_setNames_178 (lkX12_199 _ rfl) okV_X12_of rfl rfl (c_X12_of (d := 2) (by decide) h27) rfl rfl hdd (Nat.le_refl _) (Nat.le_refl _) (by first | decide | exact Nat.le_of_ble_eq_true rfl) (fx_ki ?_)
        obtain ⟨x30, h29, hE⟩ := fb_some hE
        refine pm_callS (As := [.int x28]) (rest := [.int 7, .ref (B + 63)]) hG hR dX12_setNames_181 (lkX12_202 _ rfl) okS_X12_bits (c_X12_bits (d := 2) (by decide) h29) rfl rfl hdd (Nat.le_refl _) (Nat.le_refl _) (by first | decide | exact Nat.le_of_ble_eq_true rfl) (fx_ki ?_)
        refine fx_iast hG dX12_setNames_184 rfl (ix_lit (by decide) rfl) ?_
        refine ma_63 ?_
        refine fx_letm hE (fun S31 hE => ?_)
        refine pm_aloadn hG dX12_setNames_185 rfl ?_
        refine pm_getf hG dX12_setNames_186 (flX12_34 _ rfl) rfl rfl ?_
        refine pm_bipush (v := 8) hG dX12_setNames_189 (by decide) ?_
        refine pm_iloadn hG dX12_setNames_191 rfl ?_
        refine pm_if_ge (tgt := 199) hG dX12_setNames_192 rfl (fun _ => ?_) (fun q => absurd (Int32.not_le.mp q) c26)
        refine pm_aloadn hG dX12_setNames_199 rfl ?_
        refine pm_iloadn hG dX12_setNames_200 rfl ?_
        refine pm_iconst (v := 1) hG dX12_setNames_201 (by decide) ?_
        obtain ⟨x33, h32, hE⟩ := fb_some hE
        refine pm_callV (As := [.int zb, .int 1]) (rest := [.int 8, .ref (B + 63)]) hG hR dX12_setNames_202 (lkX12_199 _ rfl) okV_X12_of rfl rfl (c_X12_of (d := 2) (by decide) h32) rfl rfl hdd (Nat.le_refl _) (Nat.le_refl _) (by first | decide | exact Nat.le_of_ble_eq_true rfl) (fx_ki ?_)
        refine fx_iast hG dX12_setNames_205 rfl (ix_lit (by decide) rfl) ?_
        refine ma_63 ?_
        refine fx_letm hE (fun S34 hE => ?_)
        refine pm_aloadn hG dX12_setNames_206 rfl ?_
        refine pm_getf hG dX12_setNames_207 (flX12_34 _ rfl) rfl rfl ?_
        refine pm_bipush (v := 9) hG dX12_setNames_210 (by decide) ?_
        refine pm_iloadn hG dX12_setNames_212 rfl ?_
        refine pm_if_ge (tgt := 220) hG dX12_setNames_213 rfl (fun _ => ?_) (fun q => absurd (Int32.not_le.mp q) c26)
        refine pm_aloadn hG dX12_setNames_220 rfl ?_
        refine pm_iloadn hG dX12_setNames_221 rfl ?_
        refine pm_iconst (v := 2) hG dX12_setNames_222 (by decide) ?_
        obtain ⟨x36, h35, hE⟩ := fb_some hE
        refine pm_callV (As := [.int zb, .int 2]) (rest := [.int 9, .ref (B + 63)]) hG hR dX12_setNames_223 (lkX12_199 _ rfl) okV_X12_of rfl rfl (c_X12_of (d := 2) (by decide) h35) rfl rfl hdd (Nat.le_refl _) (Nat.le_refl _) (by first | decide | exact Nat.le_of_ble_eq_true rfl) (fx_ki ?_)
        refine fx_iast hG dX12_setNames_226 rfl (ix_lit (by decide) rfl) ?_
        refine ma_63 ?_
        refine fx_letm hE (fun S37 hE => ?_)
        refine pm_aloadn hG dX12_setNames_227 rfl ?_
        refine pm_getf hG dX12_setNames_228 (flX12_34 _ rfl) rfl rfl ?_
        refine pm_bipush (v := 10) hG dX12_setNames_231 (by decide) ?_
        refine pm_iloadn hG dX12_setNames_233 rfl ?_
        refine fx_iast hG dX12_setNames_234 rfl (ix_lit (by decide) rfl) ?_
        refine ma_63 ?_
        refine fx_letm hE (fun S38 hE => ?_)
        exact pm_vret hG hF dX12_setNames_235 rfl (Nat.le_refl _) (Nat.le_refl _) (fx_rvm hE)
      · replace c26 := Int32.not_le.mp c26
        replace hE := fx_t c26 hE
        refine pm_iconst (v := 0) hG dX12_setNames_171 (by decide) ?_
        refine pm_goto (tgt := 184) hG dX12_setNames_172 rfl ?_
        refine fx_iast hG dX12_setNames_184 rfl (ix_lit (by decide) rfl) ?_
        refine ma_63 ?_
        refine fx_letm hE (fun S39 hE => ?_)
        refine pm_aloadn hG dX12_setNames_185 rfl ?_
        refine pm_getf hG dX12_setNames_186 (flX12_34 _ rfl) rfl rfl ?_
        refine pm_bipush (v := 8) hG dX12_setNames_189 (by decide) ?_
        refine pm_iloadn hG dX12_setNames_191 rfl ?_
        refine pm_if_ge (tgt := 199) hG dX12_setNames_192 rfl (fun q => absurd c26 (Int32.not_lt.mpr q)) (fun _ => ?_)
        refine pm_iconst (v := 0) hG dX12_setNames_195 (by decide) ?_
        refine pm_goto (tgt := 205) hG dX12_setNames_196 rfl ?_
        refine fx_iast hG dX12_setNames_205 rfl (ix_lit (by decide) rfl) ?_
        refine ma_63 ?_
        refine fx_letm hE (fun S40 hE => ?_)
        refine pm_aloadn hG dX12_setNames_206 rfl ?_
        refine pm_getf hG dX12_setNames_207 (flX12_34 _ rfl) rfl rfl ?_
        refine pm_bipush (v := 9) hG dX12_setNames_210 (by decide) ?_
        refine pm_iloadn hG dX12_setNames_212 rfl ?_
        refine pm_if_ge (tgt := 220) hG dX12_setNames_213 rfl (fun q => absurd c26 (Int32.not_lt.mpr q)) (fun _ => ?_)
        refine pm_iconst (v := 0) hG dX12_setNames_216 (by decide) ?_
        refine pm_goto (tgt := 226) hG dX12_setNames_217 rfl ?_
        refine fx_iast hG dX12_setNames_226 rfl (ix_lit (by decide) rfl) ?_
        refine ma_63 ?_
        refine fx_letm hE (fun S41 hE => ?_)
        refine pm_aloadn hG dX12_setNames_227 rfl ?_
        refine pm_getf hG dX12_setNames_228 (flX12_34 _ rfl) rfl rfl ?_
        refine pm_bipush (v := 10) hG dX12_setNames_231 (by decide) ?_
        refine pm_iloadn hG dX12_setNames_233 rfl ?_
        refine fx_iast hG dX12_setNames_234 rfl (ix_lit (by decide) rfl) ?_
        refine ma_63 ?_
        refine fx_letm hE (fun S42 hE => ?_)
        exact pm_vret hG hF dX12_setNames_235 rfl (Nat.le_refl _) (Nat.le_refl _) (fx_rvm hE)
    · replace c19 := Int32.not_le.mp c19
      replace hE := fx_t c19 hE
      refine pm_bipush (v := 10) hG dX12_setNames_129 (by decide) ?_
      refine pm_goto (tgt := 140) hG dX12_setNames_131 rfl ?_
      refine fx_iast hG dX12_setNames_140 rfl (ix_lit (by decide) rfl) ?_
      refine ma_63 ?_
      refine fx_letm hE (fun S43 hE => ?_)
      refine pm_aloadn hG dX12_setNames_141 rfl ?_
      refine pm_getf hG dX12_setNames_142 (flX12_34 _ rfl) rfl rfl ?_
      refine pm_bipush (v := 6) hG dX12_setNames_145 (by decide) ?_
      refine pm_iloadn hG dX12_setNames_147 rfl ?_
      refine pm_if_ge (tgt := 155) hG dX12_setNames_148 rfl (fun _ => ?_) (fun q => absurd (Int32.not_le.mp q) c1)
      refine pm_aloadn hG dX12_setNames_155 rfl ?_
      refine pm_iloadn hG dX12_setNames_156 rfl ?_
      obtain ⟨r45, h44, hE⟩ := fb_some hE
      refine pm_callV (As := [.int za]) (rest := [.int 6, .ref (B + 63)]) hG hR dX12_setNames_157 (lkX12_125 _ rfl) okV_X12_stepsOf rfl rfl (c_X12_stepsOf (d := 2) (by decide) h44) rfl rfl hdd (Nat.le_refl _) (Nat.le_refl _) (by first | decide | exact Nat.le_of_ble_eq_true rfl) (fx_ki ?_)
      refine fx_iast hG dX12_setNames_160 rfl (ix_lit (by decide) rfl) ?_
      refine ma_63 ?_
      refine fx_letm hE (fun S46 hE => ?_)
      refine pm_aloadn hG dX12_setNames_161 rfl ?_
      refine pm_getf hG dX12_setNames_162 (flX12_34 _ rfl) rfl rfl ?_
      refine pm_bipush (v := 7) hG dX12_setNames_165 (by decide) ?_
      refine pm_iloadn hG dX12_setNames_167 rfl ?_
      refine pm_if_ge (tgt := 175) hG dX12_setNames_168 rfl (fun c47 => ?_) (fun c47 => ?_)
      · replace c47 := Int32.not_lt.mpr c47
        replace hE := fx_f c47 hE
        refine pm_aloadn hG dX12_setNames_175 rfl ?_
        refine pm_iloadn hG dX12_setNames_176 rfl ?_
        refine pm_iconst (v := 3) hG dX12_setNames_177 (by decide) ?_
        obtain ⟨x49, h48, hE⟩ := fb_some hE
        refine pm_callV (As := [.int zb, .int 3]) (rest := [.int 7, .ref (B + 63)]) hG hR dX12_setNames_178 (lkX12_199 _ rfl) okV_X12_of rfl rfl (c_X12_of (d := 2) (by decide) h48) rfl rfl hdd (Nat.le_refl _) (Nat.le_refl _) (by first | decide | exact Nat.le_of_ble_eq_true rfl) (fx_ki ?_)
        obtain ⟨x51, h50, hE⟩ := fb_some hE
        refine pm_callS (As := [.int x49]) (rest := [.int 7, .ref (B + 63)]) hG hR dX12_setNames_181 (lkX12_202 _ rfl) okS_X12_bits (c_X12_bits (d := 2) (by decide) h50) rfl rfl hdd (Nat.le_refl _) (Nat.le_refl _) (by first | decide | exact Nat.le_of_ble_eq_true rfl) (fx_ki ?_)
        refine fx_iast hG dX12_setNames_184 rfl (ix_lit (by decide) rfl) ?_
        refine ma_63 ?_
        refine fx_letm hE (fun S52 hE => ?_)
        refine pm_aloadn hG dX12_setNames_185 rfl ?_
        refine pm_getf hG dX12_setNames_186 (flX12_34 _ rfl) rfl rfl ?_
        refine pm_bipush (v := 8) hG dX12_setNames_189 (by decide) ?_
        refine pm_iloadn hG dX12_setNames_191 rfl ?_
        refine pm_if_ge (tgt := 199) hG dX12_setNames_192 rfl (fun _ => ?_) (fun q => absurd (Int32.not_le.mp q) c47)
        refine pm_aloadn hG dX12_setNames_199 rfl ?_
        refine pm_iloadn hG dX12_setNames_200 rfl ?_
        refine pm_iconst (v := 1) hG dX12_setNames_201 (by decide) ?_
        obtain ⟨x54, h53, hE⟩ := fb_some hE
        refine pm_callV (As := [.int zb, .int 1]) (rest := [.int 8, .ref (B + 63)]) hG hR dX12_setNames_202 (lkX12_199 _ rfl) okV_X12_of rfl rfl (c_X12_of (d := 2) (by decide) h53) rfl rfl hdd (Nat.le_refl _) (Nat.le_refl _) (by first | decide | exact Nat.le_of_ble_eq_true rfl) (fx_ki ?_)
        refine fx_iast hG dX12_setNames_205 rfl (ix_lit (by decide) rfl) ?_
        refine ma_63 ?_
        refine fx_letm hE (fun S55 hE => ?_)
        refine pm_aloadn hG dX12_setNames_206 rfl ?_
        refine pm_getf hG dX12_setNames_207 (flX12_34 _ rfl) rfl rfl ?_
        refine pm_bipush (v := 9) hG dX12_setNames_210 (by decide) ?_
        refine pm_iloadn hG dX12_setNames_212 rfl ?_
        refine pm_if_ge (tgt := 220) hG dX12_setNames_213 rfl (fun _ => ?_) (fun q => absurd (Int32.not_le.mp q) c47)
        refine pm_aloadn hG dX12_setNames_220 rfl ?_
        refine pm_iloadn hG dX12_setNames_221 rfl ?_
        refine pm_iconst (v := 2) hG dX12_setNames_222 (by decide) ?_
        obtain ⟨x57, h56, hE⟩ := fb_some hE
        refine pm_callV (As := [.int zb, .int 2]) (rest := [.int 9, .ref (B + 63)]) hG hR dX12_setNames_223 (lkX12_199 _ rfl) okV_X12_of rfl rfl (c_X12_of (d := 2) (by decide) h56) rfl rfl hdd (Nat.le_refl _) (Nat.le_refl _) (by first | decide | exact Nat.le_of_ble_eq_true rfl) (fx_ki ?_)
        refine fx_iast hG dX12_setNames_226 rfl (ix_lit (by decide) rfl) ?_
        refine ma_63 ?_
        refine fx_letm hE (fun S58 hE => ?_)
        refine pm_aloadn hG dX12_setNames_227 rfl ?_
        refine pm_getf hG dX12_setNames_228 (flX12_34 _ rfl) rfl rfl ?_
        refine pm_bipush (v := 10) hG dX12_setNames_231 (by decide) ?_
        refine pm_iloadn hG dX12_setNames_233 rfl ?_
        refine fx_iast hG dX12_setNames_234 rfl (ix_lit (by decide) rfl) ?_
        refine ma_63 ?_
        refine fx_letm hE (fun S59 hE => ?_)
        exact pm_vret hG hF dX12_setNames_235 rfl (Nat.le_refl _) (Nat.le_refl _) (fx_rvm hE)
      · replace c47 := Int32.not_le.mp c47
        replace hE := fx_t c47 hE
        refine pm_iconst (v := 0) hG dX12_setNames_171 (by decide) ?_
        refine pm_goto (tgt := 184) hG dX12_setNames_172 rfl ?_
        refine fx_iast hG dX12_setNames_184 rfl (ix_lit (by decide) rfl) ?_
        refine ma_63 ?_
        refine fx_letm hE (fun S60 hE => ?_)
        refine pm_aloadn hG dX12_setNames_185 rfl ?_
        refine pm_getf hG dX12_setNames_186 (flX12_34 _ rfl) rfl rfl ?_
        refine pm_bipush (v := 8) hG dX12_setNames_189 (by decide) ?_
        refine pm_iloadn hG dX12_setNames_191 rfl ?_
        refine pm_if_ge (tgt := 199) hG dX12_setNames_192 rfl (fun q => absurd c47 (Int32.not_lt.mpr q)) (fun _ => ?_)
        refine pm_iconst (v := 0) hG dX12_setNames_195 (by decide) ?_
        refine pm_goto (tgt := 205) hG dX12_setNames_196 rfl ?_
        refine fx_iast hG dX12_setNames_205 rfl (ix_lit (by decide) rfl) ?_
        refine ma_63 ?_
        refine fx_letm hE (fun S61 hE => ?_)
        refine pm_aloadn hG dX12_setNames_206 rfl ?_
        refine pm_getf hG dX12_setNames_207 (flX12_34 _ rfl) rfl rfl ?_
        refine pm_bipush (v := 9) hG dX12_setNames_210 (by decide) ?_
        refine pm_iloadn hG dX12_setNames_212 rfl ?_
        refine pm_if_ge (tgt := 220) hG dX12_setNames_213 rfl (fun q => absurd c47 (Int32.not_lt.mpr q)) (fun _ => ?_)
        refine pm_iconst (v := 0) hG dX12_setNames_216 (by decide) ?_
        refine pm_goto (tgt := 226) hG dX12_setNames_217 rfl ?_
        refine fx_iast hG dX12_setNames_226 rfl (ix_lit (by decide) rfl) ?_
        refine ma_63 ?_
        refine fx_letm hE (fun S62 hE => ?_)
        refine pm_aloadn hG dX12_setNames_227 rfl ?_
        refine pm_getf hG dX12_setNames_228 (flX12_34 _ rfl) rfl rfl ?_
        refine pm_bipush (v := 10) hG dX12_setNames_231 (by decide) ?_
        refine pm_iloadn hG dX12_setNames_233 rfl ?_
        refine fx_iast hG dX12_setNames_234 rfl (ix_lit (by decide) rfl) ?_
        refine ma_63 ?_
        refine fx_letm hE (fun S63 hE => ?_)
        exact pm_vret hG hF dX12_setNames_235 rfl (Nat.le_refl _) (Nat.le_refl _) (fx_rvm hE)
  · replace c1 := Int32.not_le.mp c1
    replace hE := fx_t c1 hE
    refine pm_iconst (v := 0) hG dX12_setNames_9 (by decide) ?_
    refine pm_goto (tgt := 25) hG dX12_setNames_10 rfl ?_
    refine fx_iast hG dX12_setNames_25 rfl (ix_lit (by decide) rfl) ?_
    refine ma_63 ?_
    refine fx_letm hE (fun S64 hE => ?_)
    refine pm_aloadn hG dX12_setNames_26 rfl ?_
    refine pm_getf hG dX12_setNames_27 (flX12_34 _ rfl) rfl rfl ?_
    refine pm_iconst (v := 1) hG dX12_setNames_30 (by decide) ?_
    refine pm_iloadn hG dX12_setNames_31 rfl ?_
    refine pm_if_ge (tgt := 39) hG dX12_setNames_32 rfl (fun q => absurd c1 (Int32.not_lt.mpr q)) (fun _ => ?_)
    refine pm_iconst (v := 0) hG dX12_setNames_35 (by decide) ?_
    refine pm_goto (tgt := 45) hG dX12_setNames_36 rfl ?_
    refine fx_iast hG dX12_setNames_45 rfl (ix_lit (by decide) rfl) ?_
    refine ma_63 ?_
    refine fx_letm hE (fun S65 hE => ?_)
    refine pm_aloadn hG dX12_setNames_46 rfl ?_
    refine pm_getf hG dX12_setNames_47 (flX12_34 _ rfl) rfl rfl ?_
    refine pm_iconst (v := 2) hG dX12_setNames_50 (by decide) ?_
    refine pm_iloadn hG dX12_setNames_51 rfl ?_
    refine pm_if_ge (tgt := 59) hG dX12_setNames_52 rfl (fun q => absurd c1 (Int32.not_lt.mpr q)) (fun _ => ?_)
    refine pm_iconst (v := 0) hG dX12_setNames_55 (by decide) ?_
    refine pm_goto (tgt := 64) hG dX12_setNames_56 rfl ?_
    refine fx_iast hG dX12_setNames_64 rfl (ix_lit (by decide) rfl) ?_
    refine ma_63 ?_
    refine fx_letm hE (fun S66 hE => ?_)
    refine pm_aloadn hG dX12_setNames_65 rfl ?_
    refine pm_getf hG dX12_setNames_66 (flX12_34 _ rfl) rfl rfl ?_
    refine pm_iconst (v := 3) hG dX12_setNames_69 (by decide) ?_
    refine pm_iloadn hG dX12_setNames_70 rfl ?_
    refine pm_if_ge (tgt := 78) hG dX12_setNames_71 rfl (fun q => absurd c1 (Int32.not_lt.mpr q)) (fun _ => ?_)
    refine pm_iconst (v := 0) hG dX12_setNames_74 (by decide) ?_
    refine pm_goto (tgt := 85) hG dX12_setNames_75 rfl ?_
    refine fx_iast hG dX12_setNames_85 rfl (ix_lit (by decide) rfl) ?_
    refine ma_63 ?_
    refine fx_letm hE (fun S67 hE => ?_)
    refine pm_aloadn hG dX12_setNames_86 rfl ?_
    refine pm_getf hG dX12_setNames_87 (flX12_34 _ rfl) rfl rfl ?_
    refine pm_iconst (v := 4) hG dX12_setNames_90 (by decide) ?_
    refine pm_iloadn hG dX12_setNames_91 rfl ?_
    refine pm_if_ge (tgt := 99) hG dX12_setNames_92 rfl (fun q => absurd c1 (Int32.not_lt.mpr q)) (fun _ => ?_)
    refine pm_iconst (v := 0) hG dX12_setNames_95 (by decide) ?_
    refine pm_goto (tgt := 106) hG dX12_setNames_96 rfl ?_
    refine fx_iast hG dX12_setNames_106 rfl (ix_lit (by decide) rfl) ?_
    refine ma_63 ?_
    refine fx_letm hE (fun S68 hE => ?_)
    refine pm_aloadn hG dX12_setNames_107 rfl ?_
    refine pm_getf hG dX12_setNames_108 (flX12_34 _ rfl) rfl rfl ?_
    refine pm_iconst (v := 5) hG dX12_setNames_111 (by decide) ?_
    refine pm_iloadn hG dX12_setNames_112 rfl ?_
    refine pm_if_ge (tgt := 120) hG dX12_setNames_113 rfl (fun q => absurd c1 (Int32.not_lt.mpr q)) (fun _ => ?_)
    refine pm_iconst (v := 0) hG dX12_setNames_116 (by decide) ?_
    refine pm_goto (tgt := 140) hG dX12_setNames_117 rfl ?_
    refine fx_iast hG dX12_setNames_140 rfl (ix_lit (by decide) rfl) ?_
    refine ma_63 ?_
    refine fx_letm hE (fun S69 hE => ?_)
    refine pm_aloadn hG dX12_setNames_141 rfl ?_
    refine pm_getf hG dX12_setNames_142 (flX12_34 _ rfl) rfl rfl ?_
    refine pm_bipush (v := 6) hG dX12_setNames_145 (by decide) ?_
    refine pm_iloadn hG dX12_setNames_147 rfl ?_
    refine pm_if_ge (tgt := 155) hG dX12_setNames_148 rfl (fun q => absurd c1 (Int32.not_lt.mpr q)) (fun _ => ?_)
    refine pm_iconst (v := 0) hG dX12_setNames_151 (by decide) ?_
    refine pm_goto (tgt := 160) hG dX12_setNames_152 rfl ?_
    refine fx_iast hG dX12_setNames_160 rfl (ix_lit (by decide) rfl) ?_
    refine ma_63 ?_
    refine fx_letm hE (fun S70 hE => ?_)
    refine pm_aloadn hG dX12_setNames_161 rfl ?_
    refine pm_getf hG dX12_setNames_162 (flX12_34 _ rfl) rfl rfl ?_
    refine pm_bipush (v := 7) hG dX12_setNames_165 (by decide) ?_
    refine pm_iloadn hG dX12_setNames_167 rfl ?_
    refine pm_if_ge (tgt := 175) hG dX12_setNames_168 rfl (fun c71 => ?_) (fun c71 => ?_)
    · replace c71 := Int32.not_lt.mpr c71
      replace hE := fx_f c71 hE
      refine pm_aloadn hG dX12_setNames_175 rfl ?_
      refine pm_iloadn hG dX12_setNames_176 rfl ?_
      refine pm_iconst (v := 3) hG dX12_setNames_177 (by decide) ?_
      obtain ⟨x73, h72, hE⟩ := fb_some hE
      refine pm_callV (As := [.int zb, .int 3]) (rest := [.int 7, .ref (B + 63)]) hG hR dX12_setNames_178 (lkX12_199 _ rfl) okV_X12_of rfl rfl (c_X12_of (d := 2) (by decide) h72) rfl rfl hdd (Nat.le_refl _) (Nat.le_refl _) (by first | decide | exact Nat.le_of_ble_eq_true rfl) (fx_ki ?_)
      obtain ⟨x75, h74, hE⟩ := fb_some hE
      refine pm_callS (As := [.int x73]) (rest := [.int 7, .ref (B + 63)]) hG hR dX12_setNames_181 (lkX12_202 _ rfl) okS_X12_bits (c_X12_bits (d := 2) (by decide) h74) rfl rfl hdd (Nat.le_refl _) (Nat.le_refl _) (by first | decide | exact Nat.le_of_ble_eq_true rfl) (fx_ki ?_)
      refine fx_iast hG dX12_setNames_184 rfl (ix_lit (by decide) rfl) ?_
      refine ma_63 ?_
      refine fx_letm hE (fun S76 hE => ?_)
      refine pm_aloadn hG dX12_setNames_185 rfl ?_
      refine pm_getf hG dX12_setNames_186 (flX12_34 _ rfl) rfl rfl ?_
      refine pm_bipush (v := 8) hG dX12_setNames_189 (by decide) ?_
      refine pm_iloadn hG dX12_setNames_191 rfl ?_
      refine pm_if_ge (tgt := 199) hG dX12_setNames_192 rfl (fun _ => ?_) (fun q => absurd (Int32.not_le.mp q) c71)
      refine pm_aloadn hG dX12_setNames_199 rfl ?_
      refine pm_iloadn hG dX12_setNames_200 rfl ?_
      refine pm_iconst (v := 1) hG dX12_setNames_201 (by decide) ?_
      obtain ⟨x78, h77, hE⟩ := fb_some hE
      refine pm_callV (As := [.int zb, .int 1]) (rest := [.int 8, .ref (B + 63)]) hG hR dX12_setNames_202 (lkX12_199 _ rfl) okV_X12_of rfl rfl (c_X12_of (d := 2) (by decide) h77) rfl rfl hdd (Nat.le_refl _) (Nat.le_refl _) (by first | decide | exact Nat.le_of_ble_eq_true rfl) (fx_ki ?_)
      refine fx_iast hG dX12_setNames_205 rfl (ix_lit (by decide) rfl) ?_
      refine ma_63 ?_
      refine fx_letm hE (fun S79 hE => ?_)
      refine pm_aloadn hG dX12_setNames_206 rfl ?_
      refine pm_getf hG dX12_setNames_207 (flX12_34 _ rfl) rfl rfl ?_
      refine pm_bipush (v := 9) hG dX12_setNames_210 (by decide) ?_
      refine pm_iloadn hG dX12_setNames_212 rfl ?_
      refine pm_if_ge (tgt := 220) hG dX12_setNames_213 rfl (fun _ => ?_) (fun q => absurd (Int32.not_le.mp q) c71)
      refine pm_aloadn hG dX12_setNames_220 rfl ?_
      refine pm_iloadn hG dX12_setNames_221 rfl ?_
      refine pm_iconst (v := 2) hG dX12_setNames_222 (by decide) ?_
      obtain ⟨x81, h80, hE⟩ := fb_some hE
      refine pm_callV (As := [.int zb, .int 2]) (rest := [.int 9, .ref (B + 63)]) hG hR dX12_setNames_223 (lkX12_199 _ rfl) okV_X12_of rfl rfl (c_X12_of (d := 2) (by decide) h80) rfl rfl hdd (Nat.le_refl _) (Nat.le_refl _) (by first | decide | exact Nat.le_of_ble_eq_true rfl) (fx_ki ?_)
      refine fx_iast hG dX12_setNames_226 rfl (ix_lit (by decide) rfl) ?_
      refine ma_63 ?_
      refine fx_letm hE (fun S82 hE => ?_)
      refine pm_aloadn hG dX12_setNames_227 rfl ?_
      refine pm_getf hG dX12_setNames_228 (flX12_34 _ rfl) rfl rfl ?_
      refine pm_bipush (v := 10) hG dX12_setNames_231 (by decide) ?_
      refine pm_iloadn hG dX12_setNames_233 rfl ?_
      refine fx_iast hG dX12_setNames_234 rfl (ix_lit (by decide) rfl) ?_
      refine ma_63 ?_
      refine fx_letm hE (fun S83 hE => ?_)
      exact pm_vret hG hF dX12_setNames_235 rfl (Nat.le_refl _) (Nat.le_refl _) (fx_rvm hE)
    · replace c71 := Int32.not_le.mp c71
      replace hE := fx_t c71 hE
      refine pm_iconst (v := 0) hG dX12_setNames_171 (by decide) ?_
      refine pm_goto (tgt := 184) hG dX12_setNames_172 rfl ?_
      refine fx_iast hG dX12_setNames_184 rfl (ix_lit (by decide) rfl) ?_
      refine ma_63 ?_
      refine fx_letm hE (fun S84 hE => ?_)
      refine pm_aloadn hG dX12_setNames_185 rfl ?_
      refine pm_getf hG dX12_setNames_186 (flX12_34 _ rfl) rfl rfl ?_
      refine pm_bipush (v := 8) hG dX12_setNames_189 (by decide) ?_
      refine pm_iloadn hG dX12_setNames_191 rfl ?_
      refine pm_if_ge (tgt := 199) hG dX12_setNames_192 rfl (fun q => absurd c71 (Int32.not_lt.mpr q)) (fun _ => ?_)
      refine pm_iconst (v := 0) hG dX12_setNames_195 (by decide) ?_
      refine pm_goto (tgt := 205) hG dX12_setNames_196 rfl ?_
      refine fx_iast hG dX12_setNames_205 rfl (ix_lit (by decide) rfl) ?_
      refine ma_63 ?_
      refine fx_letm hE (fun S85 hE => ?_)
      refine pm_aloadn hG dX12_setNames_206 rfl ?_
      refine pm_getf hG dX12_setNames_207 (flX12_34 _ rfl) rfl rfl ?_
      refine pm_bipush (v := 9) hG dX12_setNames_210 (by decide) ?_
      refine pm_iloadn hG dX12_setNames_212 rfl ?_
      refine pm_if_ge (tgt := 220) hG dX12_setNames_213 rfl (fun q => absurd c71 (Int32.not_lt.mpr q)) (fun _ => ?_)
      refine pm_iconst (v := 0) hG dX12_setNames_216 (by decide) ?_
      refine pm_goto (tgt := 226) hG dX12_setNames_217 rfl ?_
      refine fx_iast hG dX12_setNames_226 rfl (ix_lit (by decide) rfl) ?_
      refine ma_63 ?_
      refine fx_letm hE (fun S86 hE => ?_)
      refine pm_aloadn hG dX12_setNames_227 rfl ?_
      refine pm_getf hG dX12_setNames_228 (flX12_34 _ rfl) rfl rfl ?_
      refine pm_bipush (v := 10) hG dX12_setNames_231 (by decide) ?_
      refine pm_iloadn hG dX12_setNames_233 rfl ?_
      refine fx_iast hG dX12_setNames_234 rfl (ix_lit (by decide) rfl) ?_
      refine ma_63 ?_
      refine fx_letm hE (fun S87 hE => ?_)
      exact pm_vret hG hF dX12_setNames_235 rfl (Nat.le_refl _) (Nat.le_refl _) (fx_rvm hE)

set_option maxRecDepth 100000 in
set_option maxHeartbeats 4000000 in
theorem c_X12_done {d : Nat} {B cnt : Nat} {σ : pm_S} {S : FS} {za : Int32} {zb : Int32} {zc : Int32} {R : Int32} (hdd : 1 ≤ d) (hE : p_X12_done S za zb zc = R) : pm_met mX12_done d 0 0 B [.int za, .int zb, .int zc] cnt (mst B S σ) (pm_Qi (fun v σ' cnt' => v = R ∧ σ' = (mst B S σ) ∧ cnt' = cnt)) := by
  refine pm_enter 0 (by decide) (Nat.le_of_ble_eq_true rfl) rfl (fun G hG hR hF => ?_)
  unfold p_X12_done at hE
  refine pm_iloadn hG dX12_done_0 rfl ?_
  by_cases c1 : za = 38
  · replace hE := fx_t c1 hE
    refine pm_top (v := 38) c1 ?_
    refine pm_lsw (off := 73) (tgt := 74) hG dX12_done_1 (by decide) (by decide) rfl ?_
    refine pm_iloadn hG dX12_done_74 rfl ?_
    refine pm_if_eq (tgt := 86) hG dX12_done_75 rfl (fun c2 => ?_) (fun c2 => ?_)
    · replace hE := fx_t c2 hE
      refine pm_iconst (v := 0) hG dX12_done_86 (by decide) ?_
      exact pm_iret hG hF dX12_done_87 rfl  (Nat.le_refl _) (Nat.le_refl _) (fx_pi hE)
    · replace hE := fx_f c2 hE
      refine pm_iloadn hG dX12_done_78 rfl ?_
      refine pm_if_eq (tgt := 86) hG dX12_done_79 rfl (fun c3 => ?_) (fun c3 => ?_)
      · replace hE := fx_t c3 hE
        refine pm_iconst (v := 0) hG dX12_done_86 (by decide) ?_
        exact pm_iret hG hF dX12_done_87 rfl  (Nat.le_refl _) (Nat.le_refl _) (fx_pi hE)
      · replace hE := fx_f c3 hE
        refine pm_iconst (v := 1) hG dX12_done_82 (by decide) ?_
        refine pm_goto (tgt := 87) hG dX12_done_83 rfl ?_
        exact pm_iret hG hF dX12_done_87 rfl  (Nat.le_refl _) (Nat.le_refl _) (fx_pi hE)
  replace hE := fx_f c1 hE
  by_cases c4 : za = 43
  · replace hE := fx_t c4 hE
    refine pm_top (v := 43) c4 ?_
    refine pm_lsw (off := 120) (tgt := 121) hG dX12_done_1 (by decide) (by decide) rfl ?_
    refine pm_iloadn hG dX12_done_121 rfl ?_
    refine pm_iloadn hG dX12_done_122 rfl ?_
    refine pm_iadd hG dX12_done_123 ?_
    exact pm_iret hG hF dX12_done_124 rfl  (Nat.le_refl _) (Nat.le_refl _) (fx_pi hE)
  replace hE := fx_f c4 hE
  by_cases c5 : za = 60
  · replace hE := fx_t c5 hE
    refine pm_top (v := 60) c5 ?_
    refine pm_lsw (off := 87) (tgt := 88) hG dX12_done_1 (by decide) (by decide) rfl ?_
    refine pm_iloadn hG dX12_done_88 rfl ?_
    refine pm_iloadn hG dX12_done_89 rfl ?_
    refine pm_icmp_ge (tgt := 97) hG dX12_done_90 rfl (fun c6 => ?_) (fun c6 => ?_)
    · replace c6 := Int32.not_lt.mpr c6
      replace hE := fx_f c6 hE
      refine pm_iconst (v := 0) hG dX12_done_97 (by decide) ?_
      exact pm_iret hG hF dX12_done_98 rfl  (Nat.le_refl _) (Nat.le_refl _) (fx_pi hE)
    · replace c6 := Int32.not_le.mp c6
      replace hE := fx_t c6 hE
      refine pm_iconst (v := 1) hG dX12_done_93 (by decide) ?_
      refine pm_goto (tgt := 98) hG dX12_done_94 rfl ?_
      exact pm_iret hG hF dX12_done_98 rfl  (Nat.le_refl _) (Nat.le_refl _) (fx_pi hE)
  replace hE := fx_f c5 hE
  by_cases c7 : za = 61
  · replace hE := fx_t c7 hE
    refine pm_top (v := 61) c7 ?_
    refine pm_lsw (off := 98) (tgt := 99) hG dX12_done_1 (by decide) (by decide) rfl ?_
    refine pm_iloadn hG dX12_done_99 rfl ?_
    refine pm_iloadn hG dX12_done_100 rfl ?_
    refine pm_icmp_ne (tgt := 108) hG dX12_done_101 rfl (fun c8 => ?_) (fun c8 => ?_)
    · replace hE := fx_f c8 hE
      refine pm_iconst (v := 0) hG dX12_done_108 (by decide) ?_
      exact pm_iret hG hF dX12_done_109 rfl  (Nat.le_refl _) (Nat.le_refl _) (fx_pi hE)
    · replace hE := fx_t c8 hE
      refine pm_iconst (v := 1) hG dX12_done_104 (by decide) ?_
      refine pm_goto (tgt := 109) hG dX12_done_105 rfl ?_
      exact pm_iret hG hF dX12_done_109 rfl  (Nat.le_refl _) (Nat.le_refl _) (fx_pi hE)
  replace hE := fx_f c7 hE
  by_cases c9 : za = 62
  · replace hE := fx_t c9 hE
    refine pm_top (v := 62) c9 ?_
    refine pm_lsw (off := 109) (tgt := 110) hG dX12_done_1 (by decide) (by decide) rfl ?_
    refine pm_iloadn hG dX12_done_110 rfl ?_
    refine pm_iloadn hG dX12_done_111 rfl ?_
    refine pm_icmp_le (tgt := 119) hG dX12_done_112 rfl (fun c10 => ?_) (fun c10 => ?_)
    · replace c10 := Int32.not_lt.mpr c10
      replace hE := fx_f c10 hE
      refine pm_iconst (v := 0) hG dX12_done_119 (by decide) ?_
      exact pm_iret hG hF dX12_done_120 rfl  (Nat.le_refl _) (Nat.le_refl _) (fx_pi hE)
    · replace c10 := Int32.not_le.mp c10
      replace hE := fx_t c10 hE
      refine pm_iconst (v := 1) hG dX12_done_115 (by decide) ?_
      refine pm_goto (tgt := 120) hG dX12_done_116 rfl ?_
      exact pm_iret hG hF dX12_done_120 rfl  (Nat.le_refl _) (Nat.le_refl _) (fx_pi hE)
  replace hE := fx_f c9 hE
  by_cases c11 : za = 124
  · replace hE := fx_t c11 hE
    refine pm_top (v := 124) c11 ?_
    refine pm_lsw (off := 59) (tgt := 60) hG dX12_done_1 (by decide) (by decide) rfl ?_
    refine pm_iloadn hG dX12_done_60 rfl ?_
    refine pm_if_ne (tgt := 68) hG dX12_done_61 rfl (fun c12 => ?_) (fun c12 => ?_)
    · replace hE := fx_f c12 hE
      refine pm_iconst (v := 1) hG dX12_done_68 (by decide) ?_
      refine pm_goto (tgt := 73) hG dX12_done_69 rfl ?_
      exact pm_iret hG hF dX12_done_73 rfl  (Nat.le_refl _) (Nat.le_refl _) (fx_pi hE)
    · replace hE := fx_t c12 hE
      refine pm_iloadn hG dX12_done_64 rfl ?_
      refine pm_if_eq (tgt := 72) hG dX12_done_65 rfl (fun c13 => ?_) (fun c13 => ?_)
      · replace hE := fx_t c13 hE
        refine pm_iconst (v := 0) hG dX12_done_72 (by decide) ?_
        exact pm_iret hG hF dX12_done_73 rfl  (Nat.le_refl _) (Nat.le_refl _) (fx_pi hE)
      · replace hE := fx_f c13 hE
        refine pm_iconst (v := 1) hG dX12_done_68 (by decide) ?_
        refine pm_goto (tgt := 73) hG dX12_done_69 rfl ?_
        exact pm_iret hG hF dX12_done_73 rfl  (Nat.le_refl _) (Nat.le_refl _) (fx_pi hE)
  replace hE := fx_f c11 hE
  have tc1 : ¬ za.toInt = 38 := fun q => c1 (Int32.toInt_inj.mp q)
  have tc4 : ¬ za.toInt = 43 := fun q => c4 (Int32.toInt_inj.mp q)
  have tc5 : ¬ za.toInt = 60 := fun q => c5 (Int32.toInt_inj.mp q)
  have tc7 : ¬ za.toInt = 61 := fun q => c7 (Int32.toInt_inj.mp q)
  have tc9 : ¬ za.toInt = 62 := fun q => c9 (Int32.toInt_inj.mp q)
  have tc11 : ¬ za.toInt = 124 := fun q => c11 (Int32.toInt_inj.mp q)
  refine pm_lsw (off := 124) (tgt := 125) hG dX12_done_1 (by decide) (by simp [Op.lookupswitch.offset, tc1, Ne.symm tc1, tc4, Ne.symm tc4, tc5, Ne.symm tc5, tc7, Ne.symm tc7, tc9, Ne.symm tc9, tc11, Ne.symm tc11]) rfl ?_
  refine pm_iloadn hG dX12_done_125 rfl ?_
  refine pm_iloadn hG dX12_done_126 rfl ?_
  refine pm_isub hG dX12_done_127 ?_
  exact pm_iret hG hF dX12_done_128 rfl  (Nat.le_refl _) (Nat.le_refl _) (fx_pi hE)
end
section
set_option maxRecDepth 100000 in
set_option maxHeartbeats 4000000 in
theorem c_X12_comesTo {d : Nat} {B cnt : Nat} {σ : pm_S} {S : FS} {za : Int32} {zb : Int32} {zc : Int32} {zd : Int32} {R : Int32 × FS} (hdd : 4 ≤ d) (hE : f_X12_comesTo S za zb zc zd = some R) : pm_met mX12_comesTo d 0 0 B [.ref (B + 54), .int za, .int zb, .int zc, .int zd] cnt (mst B S σ) (pm_Qi (fun v σ' cnt' => v = R.1 ∧ σ' = (mst B R.2 σ) ∧ cnt' = cnt)) := by
  refine pm_enter 4 (by decide) (Nat.le_of_ble_eq_true rfl) rfl (fun G hG hR hF => ?_)
  unfold f_X12_comesTo at hE
  refine pm_iloadn hG dX12_comesTo_0 rfl ?_
  refine pm_if_ge (tgt := 6) hG dX12_comesTo_1 rfl (fun c1 => ?_) (fun c1 => ?_)
  · replace c1 := Int32.not_lt.mpr c1
    replace hE := fx_f c1 hE
    refine pm_aloadn hG dX12_comesTo_6 rfl ?_
    refine pm_iloadn hG dX12_comesTo_7 rfl ?_
    refine pm_iloadn hG dX12_comesTo_8 rfl ?_
    refine pm_iloadi hG dX12_comesTo_9 rfl ?_
    obtain ⟨r3, h2, hE⟩ := fb_some hE
    refine pm_callV (As := [.int zb, .int zc, .int zd]) (rest := []) hG hR dX12_comesTo_11 (lkX12_205 _ rfl) okV_X12_setNames rfl rfl (c_X12_setNames (d := 3) (by decide) h2) rfl rfl hdd (Nat.le_refl _) (Nat.le_refl _) (by decide) (fx_kv ?_)
    refine pm_iconst (v := 0) hG dX12_comesTo_14 (by decide) ?_
    refine pm_istoreXi (loc' := [some (.ref (B + 54)), some (.int za), some (.int zb), some (.int zc), some (.int zd), some (.int 0), none, none, none]) hG dX12_comesTo_15 (by decide) (pm_c1b rfl) rfl ?_
    refine pm_sipush (v := 510) hG dX12_comesTo_17 (by decide) ?_
    refine pm_bipush (v := 65) hG dX12_comesTo_20 (by decide) ?_
    refine pm_iloadn hG dX12_comesTo_22 rfl ?_
    refine pm_imul hG dX12_comesTo_23 ?_
    refine pm_iadd hG dX12_comesTo_24 ?_
    refine pm_iconst (v := 5) hG dX12_comesTo_25 (by decide) ?_
    refine pm_iadd hG dX12_comesTo_26 ?_
    refine fx_letv hE (fun x4 hE => ?_)
    refine pm_istoreXi (loc' := [some (.ref (B + 54)), some (.int za), some (.int zb), some (.int zc), some (.int zd), some (.int 0), some (.int x4), none, none]) hG dX12_comesTo_27 (by decide) (pm_c1b rfl) rfl ?_
    refine pm_iloadi hG dX12_comesTo_29 rfl ?_
    refine pm_istoreXi (loc' := [some (.ref (B + 54)), some (.int za), some (.int zb), some (.int zc), some (.int zd), some (.int 0), some (.int x4), some (.int x4), none]) hG dX12_comesTo_31 (by decide) (pm_c1b rfl) rfl ?_
    have loop33 : ∀ (k33 : FS → Int32 → Int32 → Option (Int32 × FS)), (∀ (S5 : FS) (x5_5 : Int32) (x5_7 : Int32), k33 S5  x5_5 x5_7 = some R → pm_wp mX12_comesTo G B 177 [some (.ref (B + 54)), some (.int za), some (.int zb), some (.int zc), some (.int zd), some (.int x5_5), some (.int x4), some (.int x5_7), none] [] 0 0 cnt (mst B S5 σ)) → ∀ (m33 : Nat) (S5 : FS) (x5_5 : Int32) (x5_7 : Int32), l_X12_comesTo_33 x4 k33 m33 S5  x5_5 x5_7 = some R → pm_wp mX12_comesTo G B 33 [some (.ref (B + 54)), some (.int za), some (.int zb), some (.int zc), some (.int zd), some (.int x5_5), some (.int x4), some (.int x5_7), none] [] 0 0 cnt (mst B S5 σ) := by
      intro k33 hk33 m33
      induction m33 with
      | zero => intro S5  x5_5 x5_7 hE; exact fx_no hE
      | succ m33 ih33 =>
        intro S5  x5_5 x5_7 hE
        rw [l_X12_comesTo_33] at hE
        refine pm_iloadi hG dX12_comesTo_33 rfl ?_
        refine pm_iloadi hG dX12_comesTo_35 rfl ?_
        refine pm_aloadn hG dX12_comesTo_37 rfl ?_
        refine pm_getf hG dX12_comesTo_38 (flX12_7 _ rfl) rfl rfl ?_
        refine pm_iloadi hG dX12_comesTo_41 rfl ?_
        refine pm_iconst (v := 1) hG dX12_comesTo_43 (by decide) ?_
        refine pm_isub hG dX12_comesTo_44 ?_
        obtain ⟨j6, hj6, hE⟩ := fb_some hE
        refine fx_iald hG dX12_comesTo_45 rfl hj6 ?_
        refine pm_iadd hG dX12_comesTo_46 ?_
        refine pm_icmp_ge (tgt := 177) hG dX12_comesTo_47 rfl (fun c7 => ?_) (fun c7 => ?_)
        · replace c7 := Int32.not_lt.mpr c7
          replace hE := fx_f c7 hE
          exact hk33 _ _ _ hE
        · replace c7 := Int32.not_le.mp c7
          replace hE := fx_t c7 hE
          refine pm_aloadn hG dX12_comesTo_50 rfl ?_
          refine pm_getf hG dX12_comesTo_51 (flX12_7 _ rfl) rfl rfl ?_
          refine pm_iloadi hG dX12_comesTo_54 rfl ?_
          obtain ⟨j8, hj8, hE⟩ := fb_some hE
          refine fx_iald hG dX12_comesTo_56 rfl hj8 ?_
          refine fx_letv hE (fun x9 hE => ?_)
          refine pm_istoreXi (loc' := [some (.ref (B + 54)), some (.int za), some (.int zb), some (.int zc), some (.int zd), some (.int x5_5), some (.int x4), some (.int x5_7), some (.int x9)]) hG dX12_comesTo_57 (by decide) (pm_c1b rfl) rfl ?_
          refine pm_iloadi hG dX12_comesTo_59 rfl ?_
          refine pm_bipush (v := (-100)) hG dX12_comesTo_61 (by decide) ?_
          refine pm_icmp_le (tgt := 98) hG dX12_comesTo_63 rfl (fun c10 => ?_) (fun c10 => ?_)
          · replace c10 := Int32.not_lt.mpr c10
            replace hE := fx_f c10 hE
            refine pm_iloadi hG dX12_comesTo_98 rfl ?_
            refine pm_sipush (v := (-133)) hG dX12_comesTo_100 (by decide) ?_
            refine pm_icmp_ne (tgt := 135) hG dX12_comesTo_103 rfl (fun c11 => ?_) (fun c11 => ?_)
            · replace hE := fx_f c11 hE
              refine pm_iincX (v := x5_5 + (-1)) (loc' := [some (.ref (B + 54)), some (.int za), some (.int zb), some (.int zc), some (.int zd), some (.int (x5_5 + (-1))), some (.int x4), some (.int x5_7), some (.int x9)]) hG dX12_comesTo_135 rfl (by rfl) (by decide) (pm_c1b rfl) rfl ?_
              refine pm_aloadn hG dX12_comesTo_138 rfl ?_
              refine pm_getf hG dX12_comesTo_139 (flX12_31 _ rfl) rfl rfl ?_
              refine pm_iloadi hG dX12_comesTo_142 rfl ?_
              refine pm_iconst (v := 1) hG dX12_comesTo_144 (by decide) ?_
              refine pm_isub hG dX12_comesTo_145 ?_
              refine pm_bipush (v := (-100)) hG dX12_comesTo_146 (by decide) ?_
              refine pm_iloadi hG dX12_comesTo_148 rfl ?_
              refine pm_isub hG dX12_comesTo_150 ?_
              refine pm_aloadn hG dX12_comesTo_151 rfl ?_
              refine pm_getf hG dX12_comesTo_152 (flX12_31 _ rfl) rfl rfl ?_
              refine pm_iloadi hG dX12_comesTo_155 rfl ?_
              refine pm_iconst (v := 1) hG dX12_comesTo_157 (by decide) ?_
              refine pm_isub hG dX12_comesTo_158 ?_
              obtain ⟨j12, hj12, hE⟩ := fb_some hE
              refine fx_iald hG dX12_comesTo_159 rfl hj12 ?_
              refine pm_aloadn hG dX12_comesTo_160 rfl ?_
              refine pm_getf hG dX12_comesTo_161 (flX12_31 _ rfl) rfl rfl ?_
              refine pm_iloadi hG dX12_comesTo_164 rfl ?_
              obtain ⟨j13, hj13, hE⟩ := fb_some hE
              refine fx_iald hG dX12_comesTo_166 rfl hj13 ?_
              refine pm_callS (As := [.int ((-100) - x9), .int (S5.2 62 j12), .int (S5.2 62 j13)]) (rest := [.int ((x5_5 + (-1)) - 1), .ref (B + 62)]) hG hR dX12_comesTo_167 (lkX12_208 _ rfl) okS_X12_done (c_X12_done (d := 3) (by decide) rfl) rfl rfl hdd (Nat.le_refl _) (Nat.le_refl _) (by first | decide | exact Nat.le_of_ble_eq_true rfl) (fx_ki ?_)
              refine fx_iast hG dX12_comesTo_170 rfl hj12 ?_
              refine ma_62 ?_
              refine fx_letm hE (fun S14 hE => ?_)
              refine pm_iincX (v := x5_7 + 1) (loc' := [some (.ref (B + 54)), some (.int za), some (.int zb), some (.int zc), some (.int zd), some (.int (x5_5 + (-1))), some (.int x4), some (.int (x5_7 + 1)), some (.int x9)]) hG dX12_comesTo_171 rfl (by rfl) (by decide) (pm_c1b rfl) rfl ?_
              refine pm_goto (tgt := 33) hG dX12_comesTo_174 rfl ?_
              refine pm_fg 8 (loc' := [some (.ref (B + 54)), some (.int za), some (.int zb), some (.int zc), some (.int zd), some (.int (x5_5 + (-1))), some (.int x4), some (.int (x5_7 + 1)), none]) rfl ?_
              exact ih33 _ _ _ hE
            · replace hE := fx_t c11 hE
              refine pm_aloadn hG dX12_comesTo_106 rfl ?_
              refine pm_getf hG dX12_comesTo_107 (flX12_31 _ rfl) rfl rfl ?_
              refine pm_iloadi hG dX12_comesTo_110 rfl ?_
              refine pm_iconst (v := 1) hG dX12_comesTo_112 (by decide) ?_
              refine pm_isub hG dX12_comesTo_113 ?_
              refine pm_aloadn hG dX12_comesTo_114 rfl ?_
              refine pm_getf hG dX12_comesTo_115 (flX12_31 _ rfl) rfl rfl ?_
              refine pm_iloadi hG dX12_comesTo_118 rfl ?_
              refine pm_iconst (v := 1) hG dX12_comesTo_120 (by decide) ?_
              refine pm_isub hG dX12_comesTo_121 ?_
              obtain ⟨j15, hj15, hE⟩ := fb_some hE
              refine fx_iald hG dX12_comesTo_122 rfl hj15 ?_
              refine pm_if_ne (tgt := 130) hG dX12_comesTo_123 rfl (fun c16 => ?_) (fun c16 => ?_)
              · replace hE := fx_f c16 hE
                refine pm_iconst (v := 0) hG dX12_comesTo_130 (by decide) ?_
                refine fx_iast hG dX12_comesTo_131 rfl hj15 ?_
                refine ma_62 ?_
                refine fx_letm hE (fun S17 hE => ?_)
                refine pm_goto (tgt := 171) hG dX12_comesTo_132 rfl ?_
                refine pm_iincX (v := x5_7 + 1) (loc' := [some (.ref (B + 54)), some (.int za), some (.int zb), some (.int zc), some (.int zd), some (.int x5_5), some (.int x4), some (.int (x5_7 + 1)), some (.int x9)]) hG dX12_comesTo_171 rfl (by rfl) (by decide) (pm_c1b rfl) rfl ?_
                refine pm_goto (tgt := 33) hG dX12_comesTo_174 rfl ?_
                refine pm_fg 8 (loc' := [some (.ref (B + 54)), some (.int za), some (.int zb), some (.int zc), some (.int zd), some (.int x5_5), some (.int x4), some (.int (x5_7 + 1)), none]) rfl ?_
                exact ih33 _ _ _ hE
              · replace hE := fx_t c16 hE
                refine pm_iconst (v := 1) hG dX12_comesTo_126 (by decide) ?_
                refine pm_goto (tgt := 131) hG dX12_comesTo_127 rfl ?_
                refine fx_iast hG dX12_comesTo_131 rfl hj15 ?_
                refine ma_62 ?_
                refine fx_letm hE (fun S18 hE => ?_)
                refine pm_goto (tgt := 171) hG dX12_comesTo_132 rfl ?_
                refine pm_iincX (v := x5_7 + 1) (loc' := [some (.ref (B + 54)), some (.int za), some (.int zb), some (.int zc), some (.int zd), some (.int x5_5), some (.int x4), some (.int (x5_7 + 1)), some (.int x9)]) hG dX12_comesTo_171 rfl (by rfl) (by decide) (pm_c1b rfl) rfl ?_
                refine pm_goto (tgt := 33) hG dX12_comesTo_174 rfl ?_
                refine pm_fg 8 (loc' := [some (.ref (B + 54)), some (.int za), some (.int zb), some (.int zc), some (.int zd), some (.int x5_5), some (.int x4), some (.int (x5_7 + 1)), none]) rfl ?_
                exact ih33 _ _ _ hE
          · replace c10 := Int32.not_le.mp c10
            replace hE := fx_t c10 hE
            refine pm_aloadn hG dX12_comesTo_66 rfl ?_
            refine pm_getf hG dX12_comesTo_67 (flX12_31 _ rfl) rfl rfl ?_
            refine pm_iloadi hG dX12_comesTo_70 rfl ?_
            refine pm_iloadi hG dX12_comesTo_72 rfl ?_
            refine pm_if_ge (tgt := 89) hG dX12_comesTo_74 rfl (fun c19 => ?_) (fun c19 => ?_)
            · replace c19 := Int32.not_lt.mpr c19
              replace hE := fx_f c19 hE
              refine pm_iloadi hG dX12_comesTo_89 rfl ?_
              obtain ⟨j20, hj20, hE⟩ := fb_some hE
              refine fx_iast hG dX12_comesTo_91 rfl hj20 ?_
              refine ma_62 ?_
              refine fx_letm hE (fun S21 hE => ?_)
              refine pm_iincX (v := x5_5 + 1) (loc' := [some (.ref (B + 54)), some (.int za), some (.int zb), some (.int zc), some (.int zd), some (.int (x5_5 + 1)), some (.int x4), some (.int x5_7), some (.int x9)]) hG dX12_comesTo_92 rfl (by rfl) (by decide) (pm_c1b rfl) rfl ?_
              refine pm_goto (tgt := 171) hG dX12_comesTo_95 rfl ?_
              refine pm_iincX (v := x5_7 + 1) (loc' := [some (.ref (B + 54)), some (.int za), some (.int zb), some (.int zc), some (.int zd), some (.int (x5_5 + 1)), some (.int x4), some (.int (x5_7 + 1)), some (.int x9)]) hG dX12_comesTo_171 rfl (by rfl) (by decide) (pm_c1b rfl) rfl ?_
              refine pm_goto (tgt := 33) hG dX12_comesTo_174 rfl ?_
              refine pm_fg 8 (loc' := [some (.ref (B + 54)), some (.int za), some (.int zb), some (.int zc), some (.int zd), some (.int (x5_5 + 1)), some (.int x4), some (.int (x5_7 + 1)), none]) rfl ?_
              exact ih33 _ _ _ hE
            · replace c19 := Int32.not_le.mp c19
              replace hE := fx_t c19 hE
              refine pm_aloadn hG dX12_comesTo_77 rfl ?_
              refine pm_getf hG dX12_comesTo_78 (flX12_34 _ rfl) rfl rfl ?_
              refine pm_iconst (v := (-1)) hG dX12_comesTo_81 (by decide) ?_
              refine pm_iloadi hG dX12_comesTo_82 rfl ?_
              refine pm_isub hG dX12_comesTo_84 ?_
              obtain ⟨j22, hj22, hE⟩ := fb_some hE
              refine fx_iald hG dX12_comesTo_85 rfl hj22 ?_
              refine pm_goto (tgt := 91) hG dX12_comesTo_86 rfl ?_
              obtain ⟨j23, hj23, hE⟩ := fb_some hE
              refine fx_iast hG dX12_comesTo_91 rfl hj23 ?_
              refine ma_62 ?_
              refine fx_letm hE (fun S24 hE => ?_)
              refine pm_iincX (v := x5_5 + 1) (loc' := [some (.ref (B + 54)), some (.int za), some (.int zb), some (.int zc), some (.int zd), some (.int (x5_5 + 1)), some (.int x4), some (.int x5_7), some (.int x9)]) hG dX12_comesTo_92 rfl (by rfl) (by decide) (pm_c1b rfl) rfl ?_
              refine pm_goto (tgt := 171) hG dX12_comesTo_95 rfl ?_
              refine pm_iincX (v := x5_7 + 1) (loc' := [some (.ref (B + 54)), some (.int za), some (.int zb), some (.int zc), some (.int zd), some (.int (x5_5 + 1)), some (.int x4), some (.int (x5_7 + 1)), some (.int x9)]) hG dX12_comesTo_171 rfl (by rfl) (by decide) (pm_c1b rfl) rfl ?_
              refine pm_goto (tgt := 33) hG dX12_comesTo_174 rfl ?_
              refine pm_fg 8 (loc' := [some (.ref (B + 54)), some (.int za), some (.int zb), some (.int zc), some (.int zd), some (.int (x5_5 + 1)), some (.int x4), some (.int (x5_7 + 1)), none]) rfl ?_
              exact ih33 _ _ _ hE
    refine loop33 _ (fun S25 x25_5 x25_7 hE => ?_) _ _ _ _ hE
    refine pm_aloadn hG dX12_comesTo_177 rfl ?_
    refine pm_getf hG dX12_comesTo_178 (flX12_31 _ rfl) rfl rfl ?_
    refine pm_iconst (v := 0) hG dX12_comesTo_181 (by decide) ?_
    refine fx_iald hG dX12_comesTo_182 rfl (ix_lit (by decide) rfl) ?_
    exact pm_iret hG hF dX12_comesTo_183 rfl (Nat.le_refl _) (Nat.le_refl _) (fx_rim hE)
  · replace c1 := Int32.not_le.mp c1
    replace hE := fx_t c1 hE
    refine pm_iconst (v := 1) hG dX12_comesTo_4 (by decide) ?_
    exact pm_iret hG hF dX12_comesTo_5 rfl (Nat.le_refl _) (Nat.le_refl _) (fx_rim hE)

set_option maxRecDepth 100000 in
set_option maxHeartbeats 4000000 in
theorem c_X12_ageDay {d : Nat} {B cnt : Nat} {σ : pm_S} {S : FS} {R : Int32 × FS} (hdd : 5 ≤ d) (hE : f_X12_ageDay S = some R) : pm_met mX12_ageDay d 0 0 B [.ref (B + 54)] cnt (mst B S σ) (pm_Qi (fun v σ' cnt' => v = R.1 ∧ σ' = (mst B R.2 σ) ∧ cnt' = cnt)) := by
  refine pm_enter 1 (by decide) (Nat.le_of_ble_eq_true rfl) rfl (fun G hG hR hF => ?_)
  unfold f_X12_ageDay at hE
  refine pm_aloadn hG dX12_ageDay_0 rfl ?_
  refine pm_getf hG dX12_ageDay_1 (flX12_7 _ rfl) rfl rfl ?_
  refine pm_iconst (v := 2) hG dX12_ageDay_4 (by decide) ?_
  refine fx_iald hG dX12_ageDay_5 rfl (ix_lit (by decide) rfl) ?_
  refine pm_if_ne (tgt := 11) hG dX12_ageDay_6 rfl (fun c1 => ?_) (fun c1 => ?_)
  · replace hE := fx_f c1 hE
    refine pm_aloadn hG dX12_ageDay_11 rfl ?_
    refine pm_getf hG dX12_ageDay_12 (flX12_7 _ rfl) rfl rfl ?_
    refine pm_bipush (v := 8) hG dX12_ageDay_15 (by decide) ?_
    refine fx_iald hG dX12_ageDay_17 rfl (ix_lit (by decide) rfl) ?_
    refine fx_letv hE (fun x2 hE => ?_)
    refine pm_istoreXn (loc' := [some (.ref (B + 54)), some (.int x2)]) hG dX12_ageDay_18 (by decide) (pm_c1b rfl) rfl ?_
    have loop19 : ∀ (k19 : FS → Int32 → Option (Int32 × FS)), (∀ (S3 : FS) (x3_1 : Int32), k19 S3  x3_1 = some R → pm_wp mX12_ageDay G B 57 [some (.ref (B + 54)), some (.int x3_1)] [] 0 0 cnt (mst B S3 σ)) → ∀ (m19 : Nat) (S3 : FS) (x3_1 : Int32), l_X12_ageDay_19 k19 m19 S3  x3_1 = some R → pm_wp mX12_ageDay G B 19 [some (.ref (B + 54)), some (.int x3_1)] [] 0 0 cnt (mst B S3 σ) := by
      intro k19 hk19 m19
      induction m19 with
      | zero => intro S3  x3_1 hE; exact fx_no hE
      | succ m19 ih19 =>
        intro S3  x3_1 hE
        rw [l_X12_ageDay_19] at hE
        refine pm_iloadn hG dX12_ageDay_19 rfl ?_
        refine pm_sipush (v := 2000) hG dX12_ageDay_20 (by decide) ?_
        refine pm_icmp_gt (tgt := 57) hG dX12_ageDay_23 rfl (fun c4 => ?_) (fun c4 => ?_)
        · replace hE := fx_t c4 hE
          exact hk19 _ _ hE
        · replace hE := fx_f c4 hE
          refine pm_aloadn hG dX12_ageDay_26 rfl ?_
          refine pm_aloadn hG dX12_ageDay_27 rfl ?_
          refine pm_iconst (v := 3) hG dX12_ageDay_28 (by decide) ?_
          refine pm_iloadn hG dX12_ageDay_29 rfl ?_
          refine pm_aloadn hG dX12_ageDay_30 rfl ?_
          refine pm_getf hG dX12_ageDay_31 (flX12_7 _ rfl) rfl rfl ?_
          refine pm_bipush (v := 8) hG dX12_ageDay_34 (by decide) ?_
          refine fx_iald hG dX12_ageDay_36 rfl (ix_lit (by decide) rfl) ?_
          obtain ⟨x6, h5, hE⟩ := fb_some hE
          refine pm_callV (As := [.int 3, .int x3_1, .int (S3.2 55 8)]) (rest := [.ref (B + 54)]) hG hR dX12_ageDay_37 (lkX12_195 _ rfl) okV_X12_inForce rfl rfl (c_X12_inForce (d := 4) (by decide) h5) rfl rfl hdd (Nat.le_refl _) (Nat.le_refl _) (by first | decide | exact Nat.le_of_ble_eq_true rfl) (fx_ki ?_)
          refine pm_iconst (v := 0) hG dX12_ageDay_40 (by decide) ?_
          refine pm_iconst (v := (-1)) hG dX12_ageDay_41 (by decide) ?_
          refine pm_iloadn hG dX12_ageDay_42 rfl ?_
          obtain ⟨r8, h7, hE⟩ := fb_some hE
          refine pm_callV (As := [.int x6, .int 0, .int (-1), .int x3_1]) (rest := []) hG hR dX12_ageDay_43 (lkX12_214 _ rfl) okV_X12_comesTo rfl rfl (c_X12_comesTo (d := 4) (by decide) h7) rfl rfl hdd (Nat.le_refl _) (Nat.le_refl _) (by decide) (fx_ki ?_)
          refine pm_if_eq (tgt := 51) hG dX12_ageDay_46 rfl (fun c9 => ?_) (fun c9 => ?_)
          · replace hE := fx_t c9 hE
            refine pm_iincX (v := x3_1 + 1) (loc' := [some (.ref (B + 54)), some (.int (x3_1 + 1))]) hG dX12_ageDay_51 rfl (by rfl) (by decide) (pm_c1b rfl) rfl ?_
            refine pm_goto (tgt := 19) hG dX12_ageDay_54 rfl ?_
            exact ih19 _ _ hE
          · replace hE := fx_f c9 hE
            refine pm_iloadn hG dX12_ageDay_49 rfl ?_
            exact pm_iret hG hF dX12_ageDay_50 rfl (Nat.le_refl _) (Nat.le_refl _) (fx_rim hE)
    refine loop19 _ (fun S10 x10_1 hE => ?_) _ _ _ hE
    refine pm_iconst (v := (-1)) hG dX12_ageDay_57 (by decide) ?_
    exact pm_iret hG hF dX12_ageDay_58 rfl (Nat.le_refl _) (Nat.le_refl _) (fx_rim hE)
  · replace hE := fx_t c1 hE
    refine pm_iconst (v := (-1)) hG dX12_ageDay_9 (by decide) ?_
    exact pm_iret hG hF dX12_ageDay_10 rfl (Nat.le_refl _) (Nat.le_refl _) (fx_rim hE)

set_option maxRecDepth 100000 in
set_option maxHeartbeats 4000000 in
theorem c_X12_after {d : Nat} {B cnt : Nat} {σ : pm_S} {S : FS} {za : Int32} {R : Int32 × FS} (hdd : 6 ≤ d) (hE : f_X12_after S za = some R) : pm_met mX12_after d 0 0 B [.ref (B + 54), .int za] cnt (mst B S σ) (pm_Qi (fun v σ' cnt' => v = R.1 ∧ σ' = (mst B R.2 σ) ∧ cnt' = cnt)) := by
  refine pm_enter 2 (by decide) (Nat.le_of_ble_eq_true rfl) rfl (fun G hG hR hF => ?_)
  unfold f_X12_after at hE
  refine pm_aloadn hG dX12_after_0 rfl ?_
  refine pm_iloadn hG dX12_after_1 rfl ?_
  refine pm_callV (As := [.int za]) (rest := []) hG hR dX12_after_2 (lkX12_132 _ rfl) okV_X12_isPower rfl rfl (c_X12_isPower (d := 5) (by decide) rfl) rfl rfl hdd (Nat.le_refl _) (Nat.le_refl _) (by decide) (fx_ki ?_)
  refine pm_if_ne (tgt := 14) hG dX12_after_5 rfl (fun c1 => ?_) (fun c1 => ?_)
  · replace hE := fx_f c1 hE
    refine pm_aloadn hG dX12_after_14 rfl ?_
    obtain ⟨r3, h2, hE⟩ := fb_some hE
    refine pm_callV (As := []) (rest := []) hG hR dX12_after_15 (lkX12_267 _ rfl) okV_X12_ageDay rfl rfl (c_X12_ageDay (d := 5) (by decide) h2) rfl rfl hdd (Nat.le_refl _) (Nat.le_refl _) (by decide) (fx_ki ?_)
    refine pm_istoreXn (loc' := [some (.ref (B + 54)), some (.int za), some (.int r3.1), none]) hG dX12_after_18 (by decide) (pm_c1b rfl) rfl ?_
    refine pm_iloadn hG dX12_after_19 rfl ?_
    refine pm_if_ge (tgt := 29) hG dX12_after_20 rfl (fun c4 => ?_) (fun c4 => ?_)
    · replace c4 := Int32.not_lt.mpr c4
      replace hE := fx_f c4 hE
      refine pm_aloadn hG dX12_after_29 rfl ?_
      refine pm_aloadn hG dX12_after_30 rfl ?_
      refine pm_iconst (v := 4) hG dX12_after_31 (by decide) ?_
      refine pm_iloadn hG dX12_after_32 rfl ?_
      refine pm_aloadn hG dX12_after_33 rfl ?_
      refine pm_getf hG dX12_after_34 (flX12_7 _ rfl) rfl rfl ?_
      refine pm_bipush (v := 8) hG dX12_after_37 (by decide) ?_
      refine fx_iald hG dX12_after_39 rfl (ix_lit (by decide) rfl) ?_
      obtain ⟨x6, h5, hE⟩ := fb_some hE
      refine pm_callV (As := [.int 4, .int r3.1, .int (r3.2.2 55 8)]) (rest := [.ref (B + 54)]) hG hR dX12_after_40 (lkX12_195 _ rfl) okV_X12_inForce rfl rfl (c_X12_inForce (d := 5) (by decide) h5) rfl rfl hdd (Nat.le_refl _) (Nat.le_refl _) (by first | decide | exact Nat.le_of_ble_eq_true rfl) (fx_ki ?_)
      refine pm_aloadn hG dX12_after_43 rfl ?_
      refine pm_iloadn hG dX12_after_44 rfl ?_
      refine pm_iconst (v := 1) hG dX12_after_45 (by decide) ?_
      obtain ⟨x8, h7, hE⟩ := fb_some hE
      refine pm_callV (As := [.int za, .int 1]) (rest := [.int x6, .ref (B + 54)]) hG hR dX12_after_46 (lkX12_110 _ rfl) okV_X12_its rfl rfl (c_X12_its (d := 5) (by decide) h7) rfl rfl hdd (Nat.le_refl _) (Nat.le_refl _) (by first | decide | exact Nat.le_of_ble_eq_true rfl) (fx_ki ?_)
      refine pm_iconst (v := (-1)) hG dX12_after_49 (by decide) ?_
      refine pm_iloadn hG dX12_after_50 rfl ?_
      obtain ⟨r10, h9, hE⟩ := fb_some hE
      refine pm_callV (As := [.int x6, .int x8, .int (-1), .int r3.1]) (rest := []) hG hR dX12_after_51 (lkX12_214 _ rfl) okV_X12_comesTo rfl rfl (c_X12_comesTo (d := 5) (by decide) h9) rfl rfl hdd (Nat.le_refl _) (Nat.le_refl _) (by decide) (fx_ki ?_)
      refine pm_istoreXn (loc' := [some (.ref (B + 54)), some (.int za), some (.int r3.1), some (.int r10.1)]) hG dX12_after_54 (by decide) (pm_c1b rfl) rfl ?_
      refine pm_iloadn hG dX12_after_55 rfl ?_
      refine pm_if_eq (tgt := 64) hG dX12_after_56 rfl (fun c11 => ?_) (fun c11 => ?_)
      · replace hE := fx_t c11 hE
        refine pm_iloadn hG dX12_after_64 rfl ?_
        refine pm_goto (tgt := 69) hG dX12_after_65 rfl ?_
        exact pm_iret hG hF dX12_after_69 rfl (Nat.le_refl _) (Nat.le_refl _) (fx_rim hE)
      · replace hE := fx_f c11 hE
        refine pm_iloadn hG dX12_after_59 rfl ?_
        refine pm_iconst (v := 1) hG dX12_after_60 (by decide) ?_
        refine pm_icmp_ne (tgt := 68) hG dX12_after_61 rfl (fun c12 => ?_) (fun c12 => ?_)
        · replace hE := fx_f c12 hE
          refine pm_iconst (v := 2) hG dX12_after_68 (by decide) ?_
          exact pm_iret hG hF dX12_after_69 rfl (Nat.le_refl _) (Nat.le_refl _) (fx_rim hE)
        · replace hE := fx_t c12 hE
          refine pm_iloadn hG dX12_after_64 rfl ?_
          refine pm_goto (tgt := 69) hG dX12_after_65 rfl ?_
          exact pm_iret hG hF dX12_after_69 rfl (Nat.le_refl _) (Nat.le_refl _) (fx_rim hE)
    · replace c4 := Int32.not_le.mp c4
      replace hE := fx_t c4 hE
      refine pm_aloadn hG dX12_after_23 rfl ?_
      refine pm_iconst (v := 2) hG dX12_after_24 (by decide) ?_
      obtain ⟨r14, h13, hE⟩ := fb_some hE
      refine pm_callV (As := [.int 2]) (rest := []) hG hR dX12_after_25 (lkX12_80 _ rfl) okV_X12_finds rfl rfl (c_X12_finds (d := 5) (by decide) h13) rfl rfl hdd (Nat.le_refl _) (Nat.le_refl _) (by decide) (fx_ki ?_)
      exact pm_iret hG hF dX12_after_28 rfl (Nat.le_refl _) (Nat.le_refl _) (fx_rim hE)
  · replace hE := fx_t c1 hE
    refine pm_aloadn hG dX12_after_8 rfl ?_
    refine pm_iconst (v := 1) hG dX12_after_9 (by decide) ?_
    obtain ⟨r16, h15, hE⟩ := fb_some hE
    refine pm_callV (As := [.int 1]) (rest := []) hG hR dX12_after_10 (lkX12_80 _ rfl) okV_X12_finds rfl rfl (c_X12_finds (d := 5) (by decide) h15) rfl rfl hdd (Nat.le_refl _) (Nat.le_refl _) (by decide) (fx_ki ?_)
    exact pm_iret hG hF dX12_after_13 rfl (Nat.le_refl _) (Nat.le_refl _) (fx_rim hE)

set_option maxRecDepth 100000 in
set_option maxHeartbeats 4000000 in
theorem c_X12_age {d : Nat} {B cnt : Nat} {σ : pm_S} {S : FS} {R : Int32 × FS} (hdd : 6 ≤ d) (hE : f_X12_age S = some R) : pm_met mX12_age d 0 0 B [.ref (B + 54)] cnt (mst B S σ) (pm_Qi (fun v σ' cnt' => v = R.1 ∧ σ' = (mst B R.2 σ) ∧ cnt' = cnt)) := by
  refine pm_enter 1 (by decide) (Nat.le_of_ble_eq_true rfl) rfl (fun G hG hR hF => ?_)
  unfold f_X12_age at hE
  refine pm_aloadn hG dX12_age_0 rfl ?_
  obtain ⟨r2, h1, hE⟩ := fb_some hE
  refine pm_callV (As := []) (rest := []) hG hR dX12_age_1 (lkX12_267 _ rfl) okV_X12_ageDay rfl rfl (c_X12_ageDay (d := 5) (by decide) h1) rfl rfl hdd (Nat.le_refl _) (Nat.le_refl _) (by decide) (fx_ki ?_)
  refine pm_istoreXn (loc' := [some (.ref (B + 54)), some (.int r2.1)]) hG dX12_age_4 (by decide) (pm_c1b rfl) rfl ?_
  refine pm_iloadn hG dX12_age_5 rfl ?_
  refine pm_if_ge (tgt := 17) hG dX12_age_6 rfl (fun c3 => ?_) (fun c3 => ?_)
  · replace c3 := Int32.not_lt.mpr c3
    replace hE := fx_f c3 hE
    refine pm_iloadn hG dX12_age_17 rfl ?_
    exact pm_iret hG hF dX12_age_18 rfl (Nat.le_refl _) (Nat.le_refl _) (fx_rim hE)
  · replace c3 := Int32.not_le.mp c3
    replace hE := fx_t c3 hE
    refine pm_aloadn hG dX12_age_9 rfl ?_
    refine pm_iconst (v := 2) hG dX12_age_10 (by decide) ?_
    obtain ⟨r5, h4, hE⟩ := fb_some hE
    refine pm_callV (As := [.int 2]) (rest := []) hG hR dX12_age_11 (lkX12_80 _ rfl) okV_X12_finds rfl rfl (c_X12_finds (d := 5) (by decide) h4) rfl rfl hdd (Nat.le_refl _) (Nat.le_refl _) (by decide) (fx_ki ?_)
    refine pm_goto (tgt := 18) hG dX12_age_14 rfl ?_
    exact pm_iret hG hF dX12_age_18 rfl (Nat.le_refl _) (Nat.le_refl _) (fx_rim hE)

set_option maxRecDepth 100000 in
set_option maxHeartbeats 4000000 in
theorem c_X12_isUnder {d : Nat} {B cnt : Nat} {σ : pm_S} {S : FS} {za : Int32} {zb : Int32} {R : Int32} (hdd : 1 ≤ d) (hE : p_X12_isUnder S za zb = R) : pm_met mX12_isUnder d 0 0 B [.int za, .int zb] cnt (mst B S σ) (pm_Qi (fun v σ' cnt' => v = R ∧ σ' = (mst B S σ) ∧ cnt' = cnt)) := by
  refine pm_enter 0 (by decide) (Nat.le_of_ble_eq_true rfl) rfl (fun G hG hR hF => ?_)
  unfold p_X12_isUnder at hE
  refine pm_iloadn hG dX12_isUnder_0 rfl ?_
  refine pm_if_eq (tgt := 34) hG dX12_isUnder_1 rfl (fun c1 => ?_) (fun c1 => ?_)
  · replace hE := fx_t c1 hE
    refine pm_iconst (v := 1) hG dX12_isUnder_34 (by decide) ?_
    refine pm_goto (tgt := 39) hG dX12_isUnder_35 rfl ?_
    exact pm_zret hG hF dX12_isUnder_39 rfl (by rfl) (Nat.le_refl _) (Nat.le_refl _) (fx_pi hE)
  · replace hE := fx_f c1 hE
    refine pm_iloadn hG dX12_isUnder_4 rfl ?_
    refine pm_iloadn hG dX12_isUnder_5 rfl ?_
    refine pm_icmp_eq (tgt := 34) hG dX12_isUnder_6 rfl (fun c2 => ?_) (fun c2 => ?_)
    · replace hE := fx_t c2 hE
      refine pm_iconst (v := 1) hG dX12_isUnder_34 (by decide) ?_
      refine pm_goto (tgt := 39) hG dX12_isUnder_35 rfl ?_
      exact pm_zret hG hF dX12_isUnder_39 rfl (by rfl) (Nat.le_refl _) (Nat.le_refl _) (fx_pi hE)
    · replace hE := fx_f c2 hE
      refine pm_iloadn hG dX12_isUnder_9 rfl ?_
      refine pm_iconst (v := 1) hG dX12_isUnder_10 (by decide) ?_
      refine pm_icmp_ne (tgt := 24) hG dX12_isUnder_11 rfl (fun c3 => ?_) (fun c3 => ?_)
      · replace hE := fx_f c3 hE
        refine pm_iloadn hG dX12_isUnder_24 rfl ?_
        refine pm_iconst (v := 3) hG dX12_isUnder_25 (by decide) ?_
        refine pm_icmp_ne (tgt := 38) hG dX12_isUnder_26 rfl (fun c4 => ?_) (fun c4 => ?_)
        · replace hE := fx_f c4 hE
          refine pm_iconst (v := 0) hG dX12_isUnder_38 (by decide) ?_
          exact pm_zret hG hF dX12_isUnder_39 rfl (by rfl) (Nat.le_refl _) (Nat.le_refl _) (fx_pi hE)
        · replace hE := fx_t c4 hE
          refine pm_iloadn hG dX12_isUnder_29 rfl ?_
          refine pm_iconst (v := 4) hG dX12_isUnder_30 (by decide) ?_
          refine pm_icmp_ne (tgt := 38) hG dX12_isUnder_31 rfl (fun c5 => ?_) (fun c5 => ?_)
          · replace hE := fx_f c5 hE
            refine pm_iconst (v := 0) hG dX12_isUnder_38 (by decide) ?_
            exact pm_zret hG hF dX12_isUnder_39 rfl (by rfl) (Nat.le_refl _) (Nat.le_refl _) (fx_pi hE)
          · replace hE := fx_t c5 hE
            refine pm_iconst (v := 1) hG dX12_isUnder_34 (by decide) ?_
            refine pm_goto (tgt := 39) hG dX12_isUnder_35 rfl ?_
            exact pm_zret hG hF dX12_isUnder_39 rfl (by rfl) (Nat.le_refl _) (Nat.le_refl _) (fx_pi hE)
      · replace hE := fx_t c3 hE
        refine pm_iloadn hG dX12_isUnder_14 rfl ?_
        refine pm_iconst (v := 3) hG dX12_isUnder_15 (by decide) ?_
        refine pm_icmp_eq (tgt := 34) hG dX12_isUnder_16 rfl (fun c6 => ?_) (fun c6 => ?_)
        · replace hE := fx_t c6 hE
          refine pm_iconst (v := 1) hG dX12_isUnder_34 (by decide) ?_
          refine pm_goto (tgt := 39) hG dX12_isUnder_35 rfl ?_
          exact pm_zret hG hF dX12_isUnder_39 rfl (by rfl) (Nat.le_refl _) (Nat.le_refl _) (fx_pi hE)
        · replace hE := fx_f c6 hE
          refine pm_iloadn hG dX12_isUnder_19 rfl ?_
          refine pm_iconst (v := 4) hG dX12_isUnder_20 (by decide) ?_
          refine pm_icmp_eq (tgt := 34) hG dX12_isUnder_21 rfl (fun c7 => ?_) (fun c7 => ?_)
          · replace hE := fx_t c7 hE
            refine pm_iconst (v := 1) hG dX12_isUnder_34 (by decide) ?_
            refine pm_goto (tgt := 39) hG dX12_isUnder_35 rfl ?_
            exact pm_zret hG hF dX12_isUnder_39 rfl (by rfl) (Nat.le_refl _) (Nat.le_refl _) (fx_pi hE)
          · replace hE := fx_f c7 hE
            refine pm_iloadn hG dX12_isUnder_24 rfl ?_
            refine pm_iconst (v := 3) hG dX12_isUnder_25 (by decide) ?_
            refine pm_icmp_ne (tgt := 38) hG dX12_isUnder_26 rfl (fun c8 => ?_) (fun c8 => ?_)
            · replace hE := fx_f c8 hE
              refine pm_iconst (v := 0) hG dX12_isUnder_38 (by decide) ?_
              exact pm_zret hG hF dX12_isUnder_39 rfl (by rfl) (Nat.le_refl _) (Nat.le_refl _) (fx_pi hE)
            · replace hE := fx_t c8 hE
              refine pm_iloadn hG dX12_isUnder_29 rfl ?_
              refine pm_iconst (v := 4) hG dX12_isUnder_30 (by decide) ?_
              refine pm_icmp_ne (tgt := 38) hG dX12_isUnder_31 rfl (fun _ => ?_) (fun q => absurd q c7)
              refine pm_iconst (v := 0) hG dX12_isUnder_38 (by decide) ?_
              exact pm_zret hG hF dX12_isUnder_39 rfl (by rfl) (Nat.le_refl _) (Nat.le_refl _) (fx_pi hE)

set_option maxRecDepth 100000 in
set_option maxHeartbeats 4000000 in
theorem c_X12_as {d : Nat} {B cnt : Nat} {σ : pm_S} {S : FS} {za : Int32} {zb : Int32} {R : Int32 × FS} (hdd : 3 ≤ d) (hE : f_X12_as S za zb = some R) : pm_met mX12_as d 0 0 B [.ref (B + 54), .int za, .int zb] cnt (mst B S σ) (pm_Qi (fun v σ' cnt' => v = R.1 ∧ σ' = (mst B R.2 σ) ∧ cnt' = cnt)) := by
  refine pm_enter 0 (by decide) (Nat.le_of_ble_eq_true rfl) rfl (fun G hG hR hF => ?_)
  unfold f_X12_as at hE
  refine pm_aloadn hG dX12_as_0 rfl ?_
  refine pm_iloadn hG dX12_as_1 rfl ?_
  refine pm_callV (As := [.int za]) (rest := []) hG hR dX12_as_2 (lkX12_132 _ rfl) okV_X12_isPower rfl rfl (c_X12_isPower (d := 2) (by decide) rfl) rfl rfl hdd (Nat.le_refl _) (Nat.le_refl _) (by decide) (fx_ki ?_)
  refine pm_if_eq (tgt := 17) hG dX12_as_5 rfl (fun c1 => ?_) (fun c1 => ?_)
  · replace hE := fx_t c1 hE
    refine pm_aloadn hG dX12_as_17 rfl ?_
    refine pm_iconst (v := 1) hG dX12_as_18 (by decide) ?_
    obtain ⟨r3, h2, hE⟩ := fb_some hE
    refine pm_callV (As := [.int 1]) (rest := []) hG hR dX12_as_19 (lkX12_80 _ rfl) okV_X12_finds rfl rfl (c_X12_finds (d := 2) (by decide) h2) rfl rfl hdd (Nat.le_refl _) (Nat.le_refl _) (by decide) (fx_ki ?_)
    exact pm_iret hG hF dX12_as_22 rfl (Nat.le_refl _) (Nat.le_refl _) (fx_rim hE)
  · replace hE := fx_f c1 hE
    refine pm_iloadn hG dX12_as_8 rfl ?_
    refine pm_iconst (v := 0) hG dX12_as_9 (by decide) ?_
    refine pm_iconst (v := 5) hG dX12_as_10 (by decide) ?_
    refine pm_callS (As := [.int zb, .int 0, .int 5]) (rest := []) hG hR dX12_as_11 (lkX12_68 _ rfl) okS_X12_in (c_X12_in (d := 2) (by decide) rfl) rfl rfl hdd (Nat.le_refl _) (Nat.le_refl _) (by decide) (fx_ki ?_)
    refine pm_if_ne (tgt := 23) hG dX12_as_14 rfl (fun c4 => ?_) (fun c4 => ?_)
    · replace hE := fx_f c4 hE
      refine pm_aloadn hG dX12_as_23 rfl ?_
      refine pm_iloadn hG dX12_as_24 rfl ?_
      refine pm_iconst (v := 0) hG dX12_as_25 (by decide) ?_
      obtain ⟨x6, h5, hE⟩ := fb_some hE
      refine pm_callV (As := [.int za, .int 0]) (rest := []) hG hR dX12_as_26 (lkX12_110 _ rfl) okV_X12_its rfl rfl (c_X12_its (d := 2) (by decide) h5) rfl rfl hdd (Nat.le_refl _) (Nat.le_refl _) (by decide) (fx_ki ?_)
      refine pm_iloadn hG dX12_as_29 rfl ?_
      refine pm_callS (As := [.int x6, .int zb]) (rest := []) hG hR dX12_as_30 (lkX12_135 _ rfl) okS_X12_isUnder (c_X12_isUnder (d := 2) (by decide) rfl) rfl rfl hdd (Nat.le_refl _) (Nat.le_refl _) (by decide) (fx_ki ?_)
      refine pm_if_eq (tgt := 45) hG dX12_as_33 rfl (fun c7 => ?_) (fun c7 => ?_)
      · replace hE := fx_t c7 hE
        refine pm_aloadn hG dX12_as_45 rfl ?_
        refine pm_iconst (v := 5) hG dX12_as_46 (by decide) ?_
        obtain ⟨r9, h8, hE⟩ := fb_some hE
        refine pm_callV (As := [.int 5]) (rest := []) hG hR dX12_as_47 (lkX12_80 _ rfl) okV_X12_finds rfl rfl (c_X12_finds (d := 2) (by decide) h8) rfl rfl hdd (Nat.le_refl _) (Nat.le_refl _) (by decide) (fx_ki ?_)
        exact pm_iret hG hF dX12_as_50 rfl (Nat.le_refl _) (Nat.le_refl _) (fx_rim hE)
      · replace hE := fx_f c7 hE
        refine pm_aloadn hG dX12_as_36 rfl ?_
        refine pm_iloadn hG dX12_as_37 rfl ?_
        refine pm_iconst (v := 4) hG dX12_as_38 (by decide) ?_
        obtain ⟨x11, h10, hE⟩ := fb_some hE
        refine pm_callV (As := [.int za, .int 4]) (rest := []) hG hR dX12_as_39 (lkX12_110 _ rfl) okV_X12_its rfl rfl (c_X12_its (d := 2) (by decide) h10) rfl rfl hdd (Nat.le_refl _) (Nat.le_refl _) (by decide) (fx_ki ?_)
        refine pm_goto (tgt := 50) hG dX12_as_42 rfl ?_
        exact pm_iret hG hF dX12_as_50 rfl (Nat.le_refl _) (Nat.le_refl _) (fx_rim hE)
    · replace hE := fx_t c4 hE
      refine pm_aloadn hG dX12_as_17 rfl ?_
      refine pm_iconst (v := 1) hG dX12_as_18 (by decide) ?_
      obtain ⟨r13, h12, hE⟩ := fb_some hE
      refine pm_callV (As := [.int 1]) (rest := []) hG hR dX12_as_19 (lkX12_80 _ rfl) okV_X12_finds rfl rfl (c_X12_finds (d := 2) (by decide) h12) rfl rfl hdd (Nat.le_refl _) (Nat.le_refl _) (by decide) (fx_ki ?_)
      exact pm_iret hG hF dX12_as_22 rfl (Nat.le_refl _) (Nat.le_refl _) (fx_rim hE)

set_option maxRecDepth 100000 in
set_option maxHeartbeats 4000000 in
theorem c_X12_bindsPower {d : Nat} {B cnt : Nat} {σ : pm_S} {S : FS} {za : Int32} {zb : Int32} {R : Int32 × FS} (hdd : 5 ≤ d) (hE : f_X12_bindsPower S za zb = some R) : pm_met mX12_bindsPower d 0 0 B [.ref (B + 54), .int za, .int zb] cnt (mst B S σ) (pm_Qi (fun v σ' cnt' => v = R.1 ∧ σ' = (mst B R.2 σ) ∧ cnt' = cnt)) := by
  refine pm_enter 0 (by decide) (Nat.le_of_ble_eq_true rfl) rfl (fun G hG hR hF => ?_)
  unfold f_X12_bindsPower at hE
  refine pm_aloadn hG dX12_bindsPower_0 rfl ?_
  refine pm_bipush (v := 11) hG dX12_bindsPower_1 (by decide) ?_
  obtain ⟨r2, h1, hE⟩ := fb_some hE
  refine pm_callV (As := [.int 11]) (rest := []) hG hR dX12_bindsPower_3 (lkX12_286 _ rfl) okV_X12_ran rfl rfl (c_X12_ran (d := 4) (by decide) h1) rfl rfl hdd (Nat.le_refl _) (Nat.le_refl _) (by decide) (fx_kv ?_)
  refine pm_aloadn hG dX12_bindsPower_6 rfl ?_
  refine pm_iloadn hG dX12_bindsPower_7 rfl ?_
  refine pm_iloadn hG dX12_bindsPower_8 rfl ?_
  obtain ⟨r4, h3, hE⟩ := fb_some hE
  refine pm_callV (As := [.int za, .int zb]) (rest := []) hG hR dX12_bindsPower_9 (lkX12_295 _ rfl) okV_X12_actsOf rfl rfl (c_X12_actsOf (d := 4) (by decide) h3) rfl rfl hdd (Nat.le_refl _) (Nat.le_refl _) (by decide) (fx_ki ?_)
  refine pm_iconst (v := 2) hG dX12_bindsPower_12 (by decide) ?_
  refine pm_imul hG dX12_bindsPower_13 ?_
  exact pm_iret hG hF dX12_bindsPower_14 rfl (Nat.le_refl _) (Nat.le_refl _) (fx_rim hE)

set_option maxRecDepth 100000 in
set_option maxHeartbeats 4000000 in
theorem c_X12_bindsOf {d : Nat} {B cnt : Nat} {σ : pm_S} {S : FS} {za : Int32} {zb : Int32} {R : Int32 × FS} (hdd : 6 ≤ d) (hE : f_X12_bindsOf S za zb = some R) : pm_met mX12_bindsOf d 0 0 B [.ref (B + 54), .int za, .int zb] cnt (mst B S σ) (pm_Qi (fun v σ' cnt' => v = R.1 ∧ σ' = (mst B R.2 σ) ∧ cnt' = cnt)) := by
  refine pm_enter 2 (by decide) (Nat.le_of_ble_eq_true rfl) rfl (fun G hG hR hF => ?_)
  unfold f_X12_bindsOf at hE
  refine pm_aloadn hG dX12_bindsOf_0 rfl ?_
  refine pm_iloadn hG dX12_bindsOf_1 rfl ?_
  refine pm_iconst (v := 0) hG dX12_bindsOf_2 (by decide) ?_
  obtain ⟨x2, h1, hE⟩ := fb_some hE
  refine pm_callV (As := [.int za, .int 0]) (rest := []) hG hR dX12_bindsOf_3 (lkX12_110 _ rfl) okV_X12_its rfl rfl (c_X12_its (d := 5) (by decide) h1) rfl rfl hdd (Nat.le_refl _) (Nat.le_refl _) (by decide) (fx_ki ?_)
  refine pm_istoreXn (loc' := [some (.ref (B + 54)), some (.int za), some (.int zb), some (.int x2), none]) hG dX12_bindsOf_6 (by decide) (pm_c1b rfl) rfl ?_
  refine pm_iloadn hG dX12_bindsOf_7 rfl ?_
  refine pm_iconst (v := 3) hG dX12_bindsOf_8 (by decide) ?_
  refine pm_icmp_eq (tgt := 17) hG dX12_bindsOf_9 rfl (fun c3 => ?_) (fun c3 => ?_)
  · replace hE := fx_t c3 hE
    refine pm_aloadn hG dX12_bindsOf_17 rfl ?_
    refine pm_bipush (v := 40) hG dX12_bindsOf_18 (by decide) ?_
    obtain ⟨r5, h4, hE⟩ := fb_some hE
    refine pm_callV (As := [.int 40]) (rest := []) hG hR dX12_bindsOf_20 (lkX12_286 _ rfl) okV_X12_ran rfl rfl (c_X12_ran (d := 5) (by decide) h4) rfl rfl hdd (Nat.le_refl _) (Nat.le_refl _) (by decide) (fx_kv ?_)
    refine pm_aloadn hG dX12_bindsOf_23 rfl ?_
    refine pm_iloadn hG dX12_bindsOf_24 rfl ?_
    refine pm_iloadn hG dX12_bindsOf_25 rfl ?_
    obtain ⟨r7, h6, hE⟩ := fb_some hE
    refine pm_callV (As := [.int za, .int zb]) (rest := []) hG hR dX12_bindsOf_26 (lkX12_298 _ rfl) okV_X12_bindsPower rfl rfl (c_X12_bindsPower (d := 5) (by decide) h6) rfl rfl hdd (Nat.le_refl _) (Nat.le_refl _) (by decide) (fx_ki ?_)
    refine pm_istoreXi (loc' := [some (.ref (B + 54)), some (.int za), some (.int zb), some (.int x2), some (.int r7.1)]) hG dX12_bindsOf_29 (by decide) (pm_c1b rfl) rfl ?_
    refine pm_iloadi hG dX12_bindsOf_31 rfl ?_
    refine pm_aloadn hG dX12_bindsOf_33 rfl ?_
    refine pm_iloadn hG dX12_bindsOf_34 rfl ?_
    refine pm_iloadn hG dX12_bindsOf_35 rfl ?_
    obtain ⟨r9, h8, hE⟩ := fb_some hE
    refine pm_callV (As := [.int za, .int zb]) (rest := [.int r7.1]) hG hR dX12_bindsOf_36 (lkX12_295 _ rfl) okV_X12_actsOf rfl rfl (c_X12_actsOf (d := 5) (by decide) h8) rfl rfl hdd (Nat.le_refl _) (Nat.le_refl _) (by first | decide | exact Nat.le_of_ble_eq_true rfl) (fx_ki ?_)
    refine pm_isub hG dX12_bindsOf_39 ?_
    exact pm_iret hG hF dX12_bindsOf_40 rfl (Nat.le_refl _) (Nat.le_refl _) (fx_rim hE)
  · replace hE := fx_f c3 hE
    refine pm_iloadn hG dX12_bindsOf_12 rfl ?_
    refine pm_iconst (v := 4) hG dX12_bindsOf_13 (by decide) ?_
    refine pm_icmp_ne (tgt := 41) hG dX12_bindsOf_14 rfl (fun c10 => ?_) (fun c10 => ?_)
    · replace hE := fx_f c10 hE
      refine pm_iloadn hG dX12_bindsOf_41 rfl ?_
      refine pm_iconst (v := 5) hG dX12_bindsOf_42 (by decide) ?_
      refine pm_icmp_eq (tgt := 53) hG dX12_bindsOf_43 rfl (fun c11 => ?_) (fun c11 => ?_)
      · replace hE := fx_t c11 hE
        refine pm_aloadn hG dX12_bindsOf_53 rfl ?_
        refine pm_bipush (v := 60) hG dX12_bindsOf_54 (by decide) ?_
        obtain ⟨r13, h12, hE⟩ := fb_some hE
        refine pm_callV (As := [.int 60]) (rest := []) hG hR dX12_bindsOf_56 (lkX12_286 _ rfl) okV_X12_ran rfl rfl (c_X12_ran (d := 5) (by decide) h12) rfl rfl hdd (Nat.le_refl _) (Nat.le_refl _) (by decide) (fx_kv ?_)
        refine pm_aloadn hG dX12_bindsOf_59 rfl ?_
        refine pm_iloadn hG dX12_bindsOf_60 rfl ?_
        refine pm_iloadn hG dX12_bindsOf_61 rfl ?_
        obtain ⟨r15, h14, hE⟩ := fb_some hE
        refine pm_callV (As := [.int za, .int zb]) (rest := []) hG hR dX12_bindsOf_62 (lkX12_298 _ rfl) okV_X12_bindsPower rfl rfl (c_X12_bindsPower (d := 5) (by decide) h14) rfl rfl hdd (Nat.le_refl _) (Nat.le_refl _) (by decide) (fx_ki ?_)
        refine pm_aloadn hG dX12_bindsOf_65 rfl ?_
        refine pm_iloadn hG dX12_bindsOf_66 rfl ?_
        refine pm_iconst (v := 4) hG dX12_bindsOf_67 (by decide) ?_
        obtain ⟨x17, h16, hE⟩ := fb_some hE
        refine pm_callV (As := [.int za, .int 4]) (rest := [.int r15.1]) hG hR dX12_bindsOf_68 (lkX12_110 _ rfl) okV_X12_its rfl rfl (c_X12_its (d := 5) (by decide) h16) rfl rfl hdd (Nat.le_refl _) (Nat.le_refl _) (by first | decide | exact Nat.le_of_ble_eq_true rfl) (fx_ki ?_)
        refine pm_iadd hG dX12_bindsOf_71 ?_
        exact pm_iret hG hF dX12_bindsOf_72 rfl (Nat.le_refl _) (Nat.le_refl _) (fx_rim hE)
      · replace hE := fx_f c11 hE
        refine pm_aloadn hG dX12_bindsOf_46 rfl ?_
        refine pm_iloadn hG dX12_bindsOf_47 rfl ?_
        refine pm_iloadn hG dX12_bindsOf_48 rfl ?_
        obtain ⟨r19, h18, hE⟩ := fb_some hE
        refine pm_callV (As := [.int za, .int zb]) (rest := []) hG hR dX12_bindsOf_49 (lkX12_298 _ rfl) okV_X12_bindsPower rfl rfl (c_X12_bindsPower (d := 5) (by decide) h18) rfl rfl hdd (Nat.le_refl _) (Nat.le_refl _) (by decide) (fx_ki ?_)
        exact pm_iret hG hF dX12_bindsOf_52 rfl (Nat.le_refl _) (Nat.le_refl _) (fx_rim hE)
    · replace hE := fx_t c10 hE
      refine pm_aloadn hG dX12_bindsOf_17 rfl ?_
      refine pm_bipush (v := 40) hG dX12_bindsOf_18 (by decide) ?_
      obtain ⟨r21, h20, hE⟩ := fb_some hE
      refine pm_callV (As := [.int 40]) (rest := []) hG hR dX12_bindsOf_20 (lkX12_286 _ rfl) okV_X12_ran rfl rfl (c_X12_ran (d := 5) (by decide) h20) rfl rfl hdd (Nat.le_refl _) (Nat.le_refl _) (by decide) (fx_kv ?_)
      refine pm_aloadn hG dX12_bindsOf_23 rfl ?_
      refine pm_iloadn hG dX12_bindsOf_24 rfl ?_
      refine pm_iloadn hG dX12_bindsOf_25 rfl ?_
      obtain ⟨r23, h22, hE⟩ := fb_some hE
      refine pm_callV (As := [.int za, .int zb]) (rest := []) hG hR dX12_bindsOf_26 (lkX12_298 _ rfl) okV_X12_bindsPower rfl rfl (c_X12_bindsPower (d := 5) (by decide) h22) rfl rfl hdd (Nat.le_refl _) (Nat.le_refl _) (by decide) (fx_ki ?_)
      refine pm_istoreXi (loc' := [some (.ref (B + 54)), some (.int za), some (.int zb), some (.int x2), some (.int r23.1)]) hG dX12_bindsOf_29 (by decide) (pm_c1b rfl) rfl ?_
      refine pm_iloadi hG dX12_bindsOf_31 rfl ?_
      refine pm_aloadn hG dX12_bindsOf_33 rfl ?_
      refine pm_iloadn hG dX12_bindsOf_34 rfl ?_
      refine pm_iloadn hG dX12_bindsOf_35 rfl ?_
      obtain ⟨r25, h24, hE⟩ := fb_some hE
      refine pm_callV (As := [.int za, .int zb]) (rest := [.int r23.1]) hG hR dX12_bindsOf_36 (lkX12_295 _ rfl) okV_X12_actsOf rfl rfl (c_X12_actsOf (d := 5) (by decide) h24) rfl rfl hdd (Nat.le_refl _) (Nat.le_refl _) (by first | decide | exact Nat.le_of_ble_eq_true rfl) (fx_ki ?_)
      refine pm_isub hG dX12_bindsOf_39 ?_
      exact pm_iret hG hF dX12_bindsOf_40 rfl (Nat.le_refl _) (Nat.le_refl _) (fx_rim hE)

set_option maxRecDepth 100000 in
set_option maxHeartbeats 4000000 in
theorem c_X12_promised {d : Nat} {B cnt : Nat} {σ : pm_S} {S : FS} {za : Int32} {zb : Int32} {R : Int32} (hdd : 1 ≤ d) (hE : q_X12_promised S za zb = some R) : pm_met mX12_promised d 0 0 B [.ref (B + 54), .int za, .int zb] cnt (mst B S σ) (pm_Qi (fun v σ' cnt' => v = R ∧ σ' = (mst B S σ) ∧ cnt' = cnt)) := by
  refine pm_enter 0 (by decide) (Nat.le_of_ble_eq_true rfl) rfl (fun G hG hR hF => ?_)
  unfold q_X12_promised at hE
  refine pm_aloadn hG dX12_promised_0 rfl ?_
  refine pm_getf hG dX12_promised_1 (flX12_7 _ rfl) rfl rfl ?_
  refine pm_sipush (v := 1806) hG dX12_promised_4 (by decide) ?_
  refine pm_bipush (v := 6) hG dX12_promised_7 (by decide) ?_
  refine pm_iloadn hG dX12_promised_9 rfl ?_
  refine pm_imul hG dX12_promised_10 ?_
  refine pm_iadd hG dX12_promised_11 ?_
  refine pm_iloadn hG dX12_promised_12 rfl ?_
  refine pm_iadd hG dX12_promised_13 ?_
  obtain ⟨j1, hj1, hE⟩ := fb_some hE
  refine fx_iald hG dX12_promised_14 rfl hj1 ?_
  exact pm_iret hG hF dX12_promised_15 rfl (Nat.le_refl _) (Nat.le_refl _) (fx_pi (Option.some.inj hE))

set_option maxRecDepth 100000 in
set_option maxHeartbeats 4000000 in
theorem c_X12_stands {d : Nat} {B cnt : Nat} {σ : pm_S} {S : FS} {za : Int32} {R : Int32} (hdd : 2 ≤ d) (hE : q_X12_stands S za = some R) : pm_met mX12_stands d 0 0 B [.ref (B + 54), .int za] cnt (mst B S σ) (pm_Qi (fun v σ' cnt' => v = R ∧ σ' = (mst B S σ) ∧ cnt' = cnt)) := by
  refine pm_enter 0 (by decide) (Nat.le_of_ble_eq_true rfl) rfl (fun G hG hR hF => ?_)
  unfold q_X12_stands at hE
  refine pm_aloadn hG dX12_stands_0 rfl ?_
  refine pm_iloadn hG dX12_stands_1 rfl ?_
  refine pm_iconst (v := 4) hG dX12_stands_2 (by decide) ?_
  obtain ⟨x2, h1, hE⟩ := fb_some hE
  refine pm_callV (As := [.int za, .int 4]) (rest := []) hG hR dX12_stands_3 (lkX12_223 _ rfl) okV_X12_promised rfl rfl (c_X12_promised (d := 1) (by decide) h1) rfl rfl hdd (Nat.le_refl _) (Nat.le_refl _) (by decide) (fx_ki ?_)
  refine pm_if_ne (tgt := 38) hG dX12_stands_6 rfl (fun c3 => ?_) (fun c3 => ?_)
  · replace hE := fx_f c3 hE
    refine pm_iconst (v := 0) hG dX12_stands_38 (by decide) ?_
    exact pm_zret hG hF dX12_stands_39 rfl (by rfl) (Nat.le_refl _) (Nat.le_refl _) (fx_pi (Option.some.inj hE))
  · replace hE := fx_t c3 hE
    refine pm_aloadn hG dX12_stands_9 rfl ?_
    refine pm_iloadn hG dX12_stands_10 rfl ?_
    refine pm_iconst (v := 5) hG dX12_stands_11 (by decide) ?_
    obtain ⟨x5, h4, hE⟩ := fb_some hE
    refine pm_callV (As := [.int za, .int 5]) (rest := []) hG hR dX12_stands_12 (lkX12_223 _ rfl) okV_X12_promised rfl rfl (c_X12_promised (d := 1) (by decide) h4) rfl rfl hdd (Nat.le_refl _) (Nat.le_refl _) (by decide) (fx_ki ?_)
    refine pm_if_ne (tgt := 38) hG dX12_stands_15 rfl (fun c6 => ?_) (fun c6 => ?_)
    · replace hE := fx_f c6 hE
      refine pm_iconst (v := 0) hG dX12_stands_38 (by decide) ?_
      exact pm_zret hG hF dX12_stands_39 rfl (by rfl) (Nat.le_refl _) (Nat.le_refl _) (fx_pi (Option.some.inj hE))
    · replace hE := fx_t c6 hE
      refine pm_aloadn hG dX12_stands_18 rfl ?_
      refine pm_getf hG dX12_stands_19 (flX12_7 _ rfl) rfl rfl ?_
      refine pm_bipush (v := 8) hG dX12_stands_22 (by decide) ?_
      refine fx_iald hG dX12_stands_24 rfl (ix_lit (by decide) rfl) ?_
      refine pm_aloadn hG dX12_stands_25 rfl ?_
      refine pm_iloadn hG dX12_stands_26 rfl ?_
      refine pm_iconst (v := 2) hG dX12_stands_27 (by decide) ?_
      obtain ⟨x8, h7, hE⟩ := fb_some hE
      refine pm_callV (As := [.int za, .int 2]) (rest := [.int (S.2 55 8)]) hG hR dX12_stands_28 (lkX12_223 _ rfl) okV_X12_promised rfl rfl (c_X12_promised (d := 1) (by decide) h7) rfl rfl hdd (Nat.le_refl _) (Nat.le_refl _) (by first | decide | exact Nat.le_of_ble_eq_true rfl) (fx_ki ?_)
      refine pm_icmp_gt (tgt := 38) hG dX12_stands_31 rfl (fun c9 => ?_) (fun c9 => ?_)
      · replace hE := fx_t c9 hE
        refine pm_iconst (v := 0) hG dX12_stands_38 (by decide) ?_
        exact pm_zret hG hF dX12_stands_39 rfl (by rfl) (Nat.le_refl _) (Nat.le_refl _) (fx_pi (Option.some.inj hE))
      · replace hE := fx_f c9 hE
        refine pm_iconst (v := 1) hG dX12_stands_34 (by decide) ?_
        refine pm_goto (tgt := 39) hG dX12_stands_35 rfl ?_
        exact pm_zret hG hF dX12_stands_39 rfl (by rfl) (Nat.le_refl _) (Nat.le_refl _) (fx_pi (Option.some.inj hE))

set_option maxRecDepth 100000 in
set_option maxHeartbeats 4000000 in
theorem c_X12_breaks {d : Nat} {B cnt : Nat} {σ : pm_S} {S : FS} {za : Int32} {R : Int32 × FS} (hdd : 3 ≤ d) (hE : f_X12_breaks S za = some R) : pm_met mX12_breaks d 0 0 B [.ref (B + 54), .int za] cnt (mst B S σ) (pm_Qi (fun v σ' cnt' => v = R.1 ∧ σ' = (mst B R.2 σ) ∧ cnt' = cnt)) := by
  refine pm_enter 0 (by decide) (Nat.le_of_ble_eq_true rfl) rfl (fun G hG hR hF => ?_)
  unfold f_X12_breaks at hE
  refine pm_iloadn hG dX12_breaks_0 rfl ?_
  refine pm_iconst (v := 0) hG dX12_breaks_1 (by decide) ?_
  refine pm_aloadn hG dX12_breaks_2 rfl ?_
  refine pm_getf hG dX12_breaks_3 (flX12_7 _ rfl) rfl rfl ?_
  refine pm_bipush (v := 7) hG dX12_breaks_6 (by decide) ?_
  refine fx_iald hG dX12_breaks_8 rfl (ix_lit (by decide) rfl) ?_
  refine pm_iconst (v := 1) hG dX12_breaks_9 (by decide) ?_
  refine pm_isub hG dX12_breaks_10 ?_
  refine pm_callS (As := [.int za, .int 0, .int ((S.2 55 7) - 1)]) (rest := []) hG hR dX12_breaks_11 (lkX12_68 _ rfl) okS_X12_in (c_X12_in (d := 2) (by decide) rfl) rfl rfl hdd (Nat.le_refl _) (Nat.le_refl _) (by decide) (fx_ki ?_)
  refine pm_if_ne (tgt := 23) hG dX12_breaks_14 rfl (fun c1 => ?_) (fun c1 => ?_)
  · replace hE := fx_f c1 hE
    refine pm_aloadn hG dX12_breaks_23 rfl ?_
    refine pm_iloadn hG dX12_breaks_24 rfl ?_
    obtain ⟨x3, h2, hE⟩ := fb_some hE
    refine pm_callV (As := [.int za]) (rest := []) hG hR dX12_breaks_25 (lkX12_226 _ rfl) okV_X12_stands rfl rfl (c_X12_stands (d := 2) (by decide) h2) rfl rfl hdd (Nat.le_refl _) (Nat.le_refl _) (by decide) (fx_ki ?_)
    refine pm_if_ne (tgt := 37) hG dX12_breaks_28 rfl (fun c4 => ?_) (fun c4 => ?_)
    · replace hE := fx_f c4 hE
      refine pm_aloadn hG dX12_breaks_37 rfl ?_
      refine pm_getf hG dX12_breaks_38 (flX12_7 _ rfl) rfl rfl ?_
      refine pm_sipush (v := 1806) hG dX12_breaks_41 (by decide) ?_
      refine pm_bipush (v := 6) hG dX12_breaks_44 (by decide) ?_
      refine pm_iloadn hG dX12_breaks_46 rfl ?_
      refine pm_imul hG dX12_breaks_47 ?_
      refine pm_iadd hG dX12_breaks_48 ?_
      refine pm_iconst (v := 4) hG dX12_breaks_49 (by decide) ?_
      refine pm_iadd hG dX12_breaks_50 ?_
      refine pm_iconst (v := 1) hG dX12_breaks_51 (by decide) ?_
      obtain ⟨j5, hj5, hE⟩ := fb_some hE
      refine fx_iast hG dX12_breaks_52 rfl hj5 ?_
      refine ma_55 ?_
      refine fx_letm hE (fun S6 hE => ?_)
      refine pm_iconst (v := 1) hG dX12_breaks_53 (by decide) ?_
      exact pm_iret hG hF dX12_breaks_54 rfl (Nat.le_refl _) (Nat.le_refl _) (fx_rim hE)
    · replace hE := fx_t c4 hE
      refine pm_aloadn hG dX12_breaks_31 rfl ?_
      refine pm_iconst (v := 3) hG dX12_breaks_32 (by decide) ?_
      obtain ⟨r8, h7, hE⟩ := fb_some hE
      refine pm_callV (As := [.int 3]) (rest := []) hG hR dX12_breaks_33 (lkX12_80 _ rfl) okV_X12_finds rfl rfl (c_X12_finds (d := 2) (by decide) h7) rfl rfl hdd (Nat.le_refl _) (Nat.le_refl _) (by decide) (fx_ki ?_)
      exact pm_iret hG hF dX12_breaks_36 rfl (Nat.le_refl _) (Nat.le_refl _) (fx_rim hE)
  · replace hE := fx_t c1 hE
    refine pm_aloadn hG dX12_breaks_17 rfl ?_
    refine pm_iconst (v := 1) hG dX12_breaks_18 (by decide) ?_
    obtain ⟨r10, h9, hE⟩ := fb_some hE
    refine pm_callV (As := [.int 1]) (rest := []) hG hR dX12_breaks_19 (lkX12_80 _ rfl) okV_X12_finds rfl rfl (c_X12_finds (d := 2) (by decide) h9) rfl rfl hdd (Nat.le_refl _) (Nat.le_refl _) (by decide) (fx_ki ?_)
    exact pm_iret hG hF dX12_breaks_22 rfl (Nat.le_refl _) (Nat.le_refl _) (fx_rim hE)

set_option maxRecDepth 100000 in
set_option maxHeartbeats 4000000 in
theorem c_X12_weigh {d : Nat} {B cnt : Nat} {σ : pm_S} {S : FS} {za : Int32} {R : Int32 × FS} (hdd : 5 ≤ d) (hE : f_X12_weigh S za = some R) : pm_met mX12_weigh d 0 0 B [.ref (B + 54), .int za] cnt (mst B S σ) (pm_Qv (fun σ' cnt' => σ' = (mst B R.2 σ) ∧ cnt' = cnt)) := by
  refine pm_enter 5 (by decide) (Nat.le_of_ble_eq_true rfl) rfl (fun G hG hR hF => ?_)
  unfold f_X12_weigh at hE
  refine pm_iconst (v := (-1)) hG dX12_weigh_0 (by decide) ?_
  refine pm_istoreXn (loc' := [some (.ref (B + 54)), some (.int za), some (.int (-1)), none, none, none, none]) hG dX12_weigh_1 (by decide) (pm_c1b rfl) rfl ?_
  refine pm_aloadn hG dX12_weigh_2 rfl ?_
  refine pm_getf hG dX12_weigh_3 (flX12_7 _ rfl) rfl rfl ?_
  refine pm_iconst (v := 2) hG dX12_weigh_6 (by decide) ?_
  refine fx_iald hG dX12_weigh_7 rfl (ix_lit (by decide) rfl) ?_
  refine pm_iconst (v := 1) hG dX12_weigh_8 (by decide) ?_
  refine pm_isub hG dX12_weigh_9 ?_
  refine fx_letv hE (fun x1 hE => ?_)
  refine pm_istoreXn (loc' := [some (.ref (B + 54)), some (.int za), some (.int (-1)), some (.int x1), none, none, none]) hG dX12_weigh_10 (by decide) (pm_c1b rfl) rfl ?_
  have loop11 : ∀ (k11 : FS → Int32 → Int32 → Option (Int32 × FS)), (∀ (S2 : FS) (x2_2 : Int32) (x2_3 : Int32), k11 S2  x2_2 x2_3 = some R → pm_wp mX12_weigh G B 38 [some (.ref (B + 54)), some (.int za), some (.int x2_2), some (.int x2_3), none, none, none] [] 0 0 cnt (mst B S2 σ)) → ∀ (m11 : Nat) (S2 : FS) (x2_2 : Int32) (x2_3 : Int32), l_X12_weigh_11 k11 m11 S2  x2_2 x2_3 = some R → pm_wp mX12_weigh G B 11 [some (.ref (B + 54)), some (.int za), some (.int x2_2), some (.int x2_3), none, none, none] [] 0 0 cnt (mst B S2 σ) := by
    intro k11 hk11 m11
    induction m11 with
    | zero => intro S2  x2_2 x2_3 hE; exact fx_no hE
    | succ m11 ih11 =>
      intro S2  x2_2 x2_3 hE
      rw [l_X12_weigh_11] at hE
      refine pm_iloadn hG dX12_weigh_11 rfl ?_
      refine pm_if_lt (tgt := 38) hG dX12_weigh_12 rfl (fun c3 => ?_) (fun c3 => ?_)
      · replace hE := fx_t c3 hE
        exact hk11 _ _ _ hE
      · replace hE := fx_f c3 hE
        refine pm_aloadn hG dX12_weigh_15 rfl ?_
        refine pm_iloadn hG dX12_weigh_16 rfl ?_
        refine pm_bipush (v := 11) hG dX12_weigh_17 (by decide) ?_
        obtain ⟨x5, h4, hE⟩ := fb_some hE
        refine pm_callV (As := [.int x2_3, .int 11]) (rest := []) hG hR dX12_weigh_19 (lkX12_72 _ rfl) okV_X12_man rfl rfl (c_X12_man (d := 4) (by decide) h4) rfl rfl hdd (Nat.le_refl _) (Nat.le_refl _) (by decide) (fx_ki ?_)
        refine pm_iconst (v := 1) hG dX12_weigh_22 (by decide) ?_
        refine pm_icmp_ne (tgt := 30) hG dX12_weigh_23 rfl (fun c6 => ?_) (fun c6 => ?_)
        · replace hE := fx_f c6 hE
          refine pm_iloadn hG dX12_weigh_30 rfl ?_
          refine pm_istoreXn (loc' := [some (.ref (B + 54)), some (.int za), some (.int x2_2), some (.int x2_3), none, none, none]) hG dX12_weigh_31 (by decide) (pm_c1b rfl) rfl ?_
          refine pm_iincX (v := x2_3 + (-1)) (loc' := [some (.ref (B + 54)), some (.int za), some (.int x2_2), some (.int (x2_3 + (-1))), none, none, none]) hG dX12_weigh_32 rfl (by rfl) (by decide) (pm_c1b rfl) rfl ?_
          refine pm_goto (tgt := 11) hG dX12_weigh_35 rfl ?_
          exact ih11 _ _ _ hE
        · replace hE := fx_t c6 hE
          refine pm_iloadn hG dX12_weigh_26 rfl ?_
          refine pm_goto (tgt := 31) hG dX12_weigh_27 rfl ?_
          refine pm_istoreXn (loc' := [some (.ref (B + 54)), some (.int za), some (.int x2_3), some (.int x2_3), none, none, none]) hG dX12_weigh_31 (by decide) (pm_c1b rfl) rfl ?_
          refine pm_iincX (v := x2_3 + (-1)) (loc' := [some (.ref (B + 54)), some (.int za), some (.int x2_3), some (.int (x2_3 + (-1))), none, none, none]) hG dX12_weigh_32 rfl (by rfl) (by decide) (pm_c1b rfl) rfl ?_
          refine pm_goto (tgt := 11) hG dX12_weigh_35 rfl ?_
          exact ih11 _ _ _ hE
  refine loop11 _ (fun S7 x7_2 x7_3 hE => ?_) _ _ _ _ hE
  have join64 : ∀ (S8 : FS) (v8_3 : Int32), j_X12_weigh_64 za S8 v8_3 = some R → pm_wp mX12_weigh G B 64 [some (.ref (B + 54)), some (.int za), some (.int x7_2), some (.int v8_3), none, none, none] [] 0 0 cnt (mst B S8 σ) := by
    intro S8 v8_3 hE
    unfold j_X12_weigh_64 at hE
    refine pm_iconst (v := 0) hG dX12_weigh_64 (by decide) ?_
    refine pm_istoreXi (loc' := [some (.ref (B + 54)), some (.int za), some (.int x7_2), some (.int v8_3), some (.int 0), none, none]) hG dX12_weigh_65 (by decide) (pm_c1b rfl) rfl ?_
    have loop67 : ∀ (k67 : FS → Int32 → Option (Int32 × FS)), (∀ (S9 : FS) (x9_4 : Int32), k67 S9  x9_4 = some R → pm_wp mX12_weigh G B 193 [some (.ref (B + 54)), some (.int za), some (.int x7_2), some (.int v8_3), some (.int x9_4), none, none] [] 0 0 cnt (mst B S9 σ)) → ∀ (m67 : Nat) (S9 : FS) (x9_4 : Int32), l_X12_weigh_67 v8_3 k67 m67 S9  x9_4 = some R → pm_wp mX12_weigh G B 67 [some (.ref (B + 54)), some (.int za), some (.int x7_2), some (.int v8_3), some (.int x9_4), none, none] [] 0 0 cnt (mst B S9 σ) := by
      intro k67 hk67 m67
      induction m67 with
      | zero => intro S9  x9_4 hE; exact fx_no hE
      | succ m67 ih67 =>
        intro S9  x9_4 hE
        rw [l_X12_weigh_67] at hE
        refine pm_iloadi hG dX12_weigh_67 rfl ?_
        refine pm_aloadn hG dX12_weigh_69 rfl ?_
        refine pm_getf hG dX12_weigh_70 (flX12_7 _ rfl) rfl rfl ?_
        refine pm_iconst (v := 2) hG dX12_weigh_73 (by decide) ?_
        refine fx_iald hG dX12_weigh_74 rfl (ix_lit (by decide) rfl) ?_
        refine pm_icmp_ge (tgt := 193) hG dX12_weigh_75 rfl (fun c10 => ?_) (fun c10 => ?_)
        · replace c10 := Int32.not_lt.mpr c10
          replace hE := fx_f c10 hE
          exact hk67 _ _ hE
        · replace c10 := Int32.not_le.mp c10
          replace hE := fx_t c10 hE
          refine pm_iconst (v := 1) hG dX12_weigh_78 (by decide) ?_
          refine pm_istoreXi (loc' := [some (.ref (B + 54)), some (.int za), some (.int x7_2), some (.int v8_3), some (.int x9_4), some (.int 1), none]) hG dX12_weigh_79 (by decide) (pm_c1b rfl) rfl ?_
          refine pm_iconst (v := 0) hG dX12_weigh_81 (by decide) ?_
          refine pm_istoreXi (loc' := [some (.ref (B + 54)), some (.int za), some (.int x7_2), some (.int v8_3), some (.int x9_4), some (.int 1), some (.int 0)]) hG dX12_weigh_82 (by decide) (pm_c1b rfl) rfl ?_
          have loop84 : ∀ (k84 : FS → Int32 → Int32 → Option (Int32 × FS)), (∀ (S11 : FS) (x11_5 : Int32) (x11_6 : Int32), k84 S11  x11_5 x11_6 = some R → pm_wp mX12_weigh G B 137 [some (.ref (B + 54)), some (.int za), some (.int x7_2), some (.int v8_3), some (.int x9_4), some (.int x11_5), some (.int x11_6)] [] 0 0 cnt (mst B S11 σ)) → ∀ (m84 : Nat) (S11 : FS) (x11_5 : Int32) (x11_6 : Int32), l_X12_weigh_84 x9_4 k84 m84 S11  x11_5 x11_6 = some R → pm_wp mX12_weigh G B 84 [some (.ref (B + 54)), some (.int za), some (.int x7_2), some (.int v8_3), some (.int x9_4), some (.int x11_5), some (.int x11_6)] [] 0 0 cnt (mst B S11 σ) := by
            intro k84 hk84 m84
            induction m84 with
            | zero => intro S11  x11_5 x11_6 hE; exact fx_no hE
            | succ m84 ih84 =>
              intro S11  x11_5 x11_6 hE
              rw [l_X12_weigh_84] at hE
              refine pm_iloadi hG dX12_weigh_84 rfl ?_
              refine pm_aloadn hG dX12_weigh_86 rfl ?_
              refine pm_getf hG dX12_weigh_87 (flX12_7 _ rfl) rfl rfl ?_
              refine pm_iconst (v := 3) hG dX12_weigh_90 (by decide) ?_
              refine fx_iald hG dX12_weigh_91 rfl (ix_lit (by decide) rfl) ?_
              refine pm_icmp_ge (tgt := 137) hG dX12_weigh_92 rfl (fun c12 => ?_) (fun c12 => ?_)
              · replace c12 := Int32.not_lt.mpr c12
                replace hE := fx_f c12 hE
                exact hk84 _ _ _ hE
              · replace c12 := Int32.not_le.mp c12
                replace hE := fx_t c12 hE
                refine pm_iloadi hG dX12_weigh_95 rfl ?_
                refine pm_aloadn hG dX12_weigh_97 rfl ?_
                refine pm_iloadi hG dX12_weigh_98 rfl ?_
                refine pm_iconst (v := 1) hG dX12_weigh_100 (by decide) ?_
                obtain ⟨x14, h13, hE⟩ := fb_some hE
                refine pm_callV (As := [.int x11_6, .int 1]) (rest := [.int x11_5]) hG hR dX12_weigh_101 (lkX12_110 _ rfl) okV_X12_its rfl rfl (c_X12_its (d := 4) (by decide) h13) rfl rfl hdd (Nat.le_refl _) (Nat.le_refl _) (by first | decide | exact Nat.le_of_ble_eq_true rfl) (fx_ki ?_)
                refine pm_iloadi hG dX12_weigh_104 rfl ?_
                refine pm_icmp_ne (tgt := 127) hG dX12_weigh_106 rfl (fun c15 => ?_) (fun c15 => ?_)
                · replace hE := fx_f c15 hE
                  refine pm_iconst (v := 0) hG dX12_weigh_127 (by decide) ?_
                  refine pm_iadd hG dX12_weigh_128 ?_
                  refine fx_letv hE (fun x16 hE => ?_)
                  refine pm_istoreXi (loc' := [some (.ref (B + 54)), some (.int za), some (.int x7_2), some (.int v8_3), some (.int x9_4), some (.int x16), some (.int x11_6)]) hG dX12_weigh_129 (by decide) (pm_c1b rfl) rfl ?_
                  refine pm_iincX (v := x11_6 + 1) (loc' := [some (.ref (B + 54)), some (.int za), some (.int x7_2), some (.int v8_3), some (.int x9_4), some (.int x16), some (.int (x11_6 + 1))]) hG dX12_weigh_131 rfl (by rfl) (by decide) (pm_c1b rfl) rfl ?_
                  refine pm_goto (tgt := 84) hG dX12_weigh_134 rfl ?_
                  exact ih84 _ _ _ hE
                · replace hE := fx_t c15 hE
                  refine pm_aloadn hG dX12_weigh_109 rfl ?_
                  refine pm_iloadi hG dX12_weigh_110 rfl ?_
                  refine pm_iconst (v := 0) hG dX12_weigh_112 (by decide) ?_
                  obtain ⟨x18, h17, hE⟩ := fb_some hE
                  refine pm_callV (As := [.int x11_6, .int 0]) (rest := [.int x11_5]) hG hR dX12_weigh_113 (lkX12_110 _ rfl) okV_X12_its rfl rfl (c_X12_its (d := 4) (by decide) h17) rfl rfl hdd (Nat.le_refl _) (Nat.le_refl _) (by first | decide | exact Nat.le_of_ble_eq_true rfl) (fx_ki ?_)
                  refine pm_iconst (v := 1) hG dX12_weigh_116 (by decide) ?_
                  refine pm_callS (As := [.int x18, .int 1]) (rest := [.int x11_5]) hG hR dX12_weigh_117 (lkX12_135 _ rfl) okS_X12_isUnder (c_X12_isUnder (d := 4) (by decide) rfl) rfl rfl hdd (Nat.le_refl _) (Nat.le_refl _) (by first | decide | exact Nat.le_of_ble_eq_true rfl) (fx_ki ?_)
                  refine pm_if_eq (tgt := 127) hG dX12_weigh_120 rfl (fun c19 => ?_) (fun c19 => ?_)
                  · replace hE := fx_t c19 hE
                    refine pm_iconst (v := 0) hG dX12_weigh_127 (by decide) ?_
                    refine pm_iadd hG dX12_weigh_128 ?_
                    refine fx_letv hE (fun x20 hE => ?_)
                    refine pm_istoreXi (loc' := [some (.ref (B + 54)), some (.int za), some (.int x7_2), some (.int v8_3), some (.int x9_4), some (.int x20), some (.int x11_6)]) hG dX12_weigh_129 (by decide) (pm_c1b rfl) rfl ?_
                    refine pm_iincX (v := x11_6 + 1) (loc' := [some (.ref (B + 54)), some (.int za), some (.int x7_2), some (.int v8_3), some (.int x9_4), some (.int x20), some (.int (x11_6 + 1))]) hG dX12_weigh_131 rfl (by rfl) (by decide) (pm_c1b rfl) rfl ?_
                    refine pm_goto (tgt := 84) hG dX12_weigh_134 rfl ?_
                    exact ih84 _ _ _ hE
                  · replace hE := fx_f c19 hE
                    refine pm_iconst (v := 1) hG dX12_weigh_123 (by decide) ?_
                    refine pm_goto (tgt := 128) hG dX12_weigh_124 rfl ?_
                    refine pm_iadd hG dX12_weigh_128 ?_
                    refine fx_letv hE (fun x21 hE => ?_)
                    refine pm_istoreXi (loc' := [some (.ref (B + 54)), some (.int za), some (.int x7_2), some (.int v8_3), some (.int x9_4), some (.int x21), some (.int x11_6)]) hG dX12_weigh_129 (by decide) (pm_c1b rfl) rfl ?_
                    refine pm_iincX (v := x11_6 + 1) (loc' := [some (.ref (B + 54)), some (.int za), some (.int x7_2), some (.int v8_3), some (.int x9_4), some (.int x21), some (.int (x11_6 + 1))]) hG dX12_weigh_131 rfl (by rfl) (by decide) (pm_c1b rfl) rfl ?_
                    refine pm_goto (tgt := 84) hG dX12_weigh_134 rfl ?_
                    exact ih84 _ _ _ hE
          refine loop84 _ (fun S22 x22_5 x22_6 hE => ?_) _ _ _ _ hE
          refine pm_aloadn hG dX12_weigh_137 rfl ?_
          refine pm_getf hG dX12_weigh_138 (flX12_37 _ rfl) rfl rfl ?_
          refine pm_iloadi hG dX12_weigh_141 rfl ?_
          refine pm_aloadn hG dX12_weigh_143 rfl ?_
          refine pm_iloadi hG dX12_weigh_144 rfl ?_
          refine pm_bipush (v := 11) hG dX12_weigh_146 (by decide) ?_
          obtain ⟨x24, h23, hE⟩ := fb_some hE
          refine pm_callV (As := [.int x9_4, .int 11]) (rest := [.int x9_4, .ref (B + 64)]) hG hR dX12_weigh_148 (lkX12_72 _ rfl) okV_X12_man rfl rfl (c_X12_man (d := 4) (by decide) h23) rfl rfl hdd (Nat.le_refl _) (Nat.le_refl _) (by first | decide | exact Nat.le_of_ble_eq_true rfl) (fx_ki ?_)
          refine pm_if_eq (tgt := 172) hG dX12_weigh_151 rfl (fun c25 => ?_) (fun c25 => ?_)
          · replace hE := fx_t c25 hE
            refine pm_iconst (v := 0) hG dX12_weigh_172 (by decide) ?_
            refine pm_goto (tgt := 178) hG dX12_weigh_173 rfl ?_
            obtain ⟨j26, hj26, hE⟩ := fb_some hE
            refine fx_iast hG dX12_weigh_178 rfl hj26 ?_
            refine ma_64 ?_
            refine fx_letm hE (fun S27 hE => ?_)
            refine pm_aloadn hG dX12_weigh_179 rfl ?_
            refine pm_getf hG dX12_weigh_180 (flX12_40 _ rfl) rfl rfl ?_
            refine pm_iloadi hG dX12_weigh_183 rfl ?_
            refine pm_iconst (v := 0) hG dX12_weigh_185 (by decide) ?_
            refine fx_iast hG dX12_weigh_186 rfl hj26 ?_
            refine ma_65 ?_
            refine fx_letm hE (fun S28 hE => ?_)
            refine pm_iincX (v := x9_4 + 1) (loc' := [some (.ref (B + 54)), some (.int za), some (.int x7_2), some (.int v8_3), some (.int (x9_4 + 1)), some (.int x22_5), some (.int x22_6)]) hG dX12_weigh_187 rfl (by rfl) (by decide) (pm_c1b rfl) rfl ?_
            refine pm_goto (tgt := 67) hG dX12_weigh_190 rfl ?_
            refine pm_fg 5 (loc' := [some (.ref (B + 54)), some (.int za), some (.int x7_2), some (.int v8_3), some (.int (x9_4 + 1)), none, some (.int x22_6)]) rfl ?_
            refine pm_fg 6 (loc' := [some (.ref (B + 54)), some (.int za), some (.int x7_2), some (.int v8_3), some (.int (x9_4 + 1)), none, none]) rfl ?_
            exact ih67 _ _ hE
          · replace hE := fx_f c25 hE
            refine pm_aloadn hG dX12_weigh_154 rfl ?_
            refine pm_iloadn hG dX12_weigh_155 rfl ?_
            refine pm_iloadi hG dX12_weigh_156 rfl ?_
            refine pm_iconst (v := (-1)) hG dX12_weigh_158 (by decide) ?_
            refine pm_aloadn hG dX12_weigh_159 rfl ?_
            refine pm_getf hG dX12_weigh_160 (flX12_7 _ rfl) rfl rfl ?_
            refine pm_bipush (v := 8) hG dX12_weigh_163 (by decide) ?_
            refine fx_iald hG dX12_weigh_165 rfl (ix_lit (by decide) rfl) ?_
            obtain ⟨r30, h29, hE⟩ := fb_some hE
            refine pm_callV (As := [.int v8_3, .int x9_4, .int (-1), .int (S22.2 55 8)]) (rest := [.int x9_4, .ref (B + 64)]) hG hR dX12_weigh_166 (lkX12_214 _ rfl) okV_X12_comesTo rfl rfl (c_X12_comesTo (d := 4) (by decide) h29) rfl rfl hdd (Nat.le_refl _) (Nat.le_refl _) (by first | decide | exact Nat.le_of_ble_eq_true rfl) (fx_ki ?_)
            refine pm_if_ne (tgt := 176) hG dX12_weigh_169 rfl (fun c31 => ?_) (fun c31 => ?_)
            · replace hE := fx_f c31 hE
              refine pm_iloadi hG dX12_weigh_176 rfl ?_
              obtain ⟨j32, hj32, hE⟩ := fb_some hE
              refine fx_iast hG dX12_weigh_178 rfl hj32 ?_
              refine ma_64 ?_
              refine fx_letm hE (fun S33 hE => ?_)
              refine pm_aloadn hG dX12_weigh_179 rfl ?_
              refine pm_getf hG dX12_weigh_180 (flX12_40 _ rfl) rfl rfl ?_
              refine pm_iloadi hG dX12_weigh_183 rfl ?_
              refine pm_iconst (v := 0) hG dX12_weigh_185 (by decide) ?_
              refine fx_iast hG dX12_weigh_186 rfl hj32 ?_
              refine ma_65 ?_
              refine fx_letm hE (fun S34 hE => ?_)
              refine pm_iincX (v := x9_4 + 1) (loc' := [some (.ref (B + 54)), some (.int za), some (.int x7_2), some (.int v8_3), some (.int (x9_4 + 1)), some (.int x22_5), some (.int x22_6)]) hG dX12_weigh_187 rfl (by rfl) (by decide) (pm_c1b rfl) rfl ?_
              refine pm_goto (tgt := 67) hG dX12_weigh_190 rfl ?_
              refine pm_fg 5 (loc' := [some (.ref (B + 54)), some (.int za), some (.int x7_2), some (.int v8_3), some (.int (x9_4 + 1)), none, some (.int x22_6)]) rfl ?_
              refine pm_fg 6 (loc' := [some (.ref (B + 54)), some (.int za), some (.int x7_2), some (.int v8_3), some (.int (x9_4 + 1)), none, none]) rfl ?_
              exact ih67 _ _ hE
            · replace hE := fx_t c31 hE
              refine pm_iconst (v := 0) hG dX12_weigh_172 (by decide) ?_
              refine pm_goto (tgt := 178) hG dX12_weigh_173 rfl ?_
              obtain ⟨j35, hj35, hE⟩ := fb_some hE
              refine fx_iast hG dX12_weigh_178 rfl hj35 ?_
              refine ma_64 ?_
              refine fx_letm hE (fun S36 hE => ?_)
              refine pm_aloadn hG dX12_weigh_179 rfl ?_
              refine pm_getf hG dX12_weigh_180 (flX12_40 _ rfl) rfl rfl ?_
              refine pm_iloadi hG dX12_weigh_183 rfl ?_
              refine pm_iconst (v := 0) hG dX12_weigh_185 (by decide) ?_
              refine fx_iast hG dX12_weigh_186 rfl hj35 ?_
              refine ma_65 ?_
              refine fx_letm hE (fun S37 hE => ?_)
              refine pm_iincX (v := x9_4 + 1) (loc' := [some (.ref (B + 54)), some (.int za), some (.int x7_2), some (.int v8_3), some (.int (x9_4 + 1)), some (.int x22_5), some (.int x22_6)]) hG dX12_weigh_187 rfl (by rfl) (by decide) (pm_c1b rfl) rfl ?_
              refine pm_goto (tgt := 67) hG dX12_weigh_190 rfl ?_
              refine pm_fg 5 (loc' := [some (.ref (B + 54)), some (.int za), some (.int x7_2), some (.int v8_3), some (.int (x9_4 + 1)), none, some (.int x22_6)]) rfl ?_
              refine pm_fg 6 (loc' := [some (.ref (B + 54)), some (.int za), some (.int x7_2), some (.int v8_3), some (.int (x9_4 + 1)), none, none]) rfl ?_
              exact ih67 _ _ hE
    refine loop67 _ (fun S38 x38_4 hE => ?_) _ _ _ hE
    refine pm_iconst (v := 0) hG dX12_weigh_193 (by decide) ?_
    refine pm_istoreXi (loc' := [some (.ref (B + 54)), some (.int za), some (.int x7_2), some (.int v8_3), some (.int 0), none, none]) hG dX12_weigh_194 (by decide) (pm_c1b rfl) rfl ?_
    have loop196 : ∀ (k196 : FS → Int32 → Option (Int32 × FS)), (∀ (S39 : FS) (x39_4 : Int32), k196 S39  x39_4 = some R → pm_wp mX12_weigh G B 262 [some (.ref (B + 54)), some (.int za), some (.int x7_2), some (.int v8_3), some (.int x39_4), none, none] [] 0 0 cnt (mst B S39 σ)) → ∀ (m196 : Nat) (S39 : FS) (x39_4 : Int32), l_X12_weigh_196 za k196 m196 S39  x39_4 = some R → pm_wp mX12_weigh G B 196 [some (.ref (B + 54)), some (.int za), some (.int x7_2), some (.int v8_3), some (.int x39_4), none, none] [] 0 0 cnt (mst B S39 σ) := by
      intro k196 hk196 m196
      induction m196 with
      | zero => intro S39  x39_4 hE; exact fx_no hE
      | succ m196 ih196 =>
        intro S39  x39_4 hE
        rw [l_X12_weigh_196] at hE
        refine pm_iloadi hG dX12_weigh_196 rfl ?_
        refine pm_aloadn hG dX12_weigh_198 rfl ?_
        refine pm_getf hG dX12_weigh_199 (flX12_7 _ rfl) rfl rfl ?_
        refine pm_bipush (v := 7) hG dX12_weigh_202 (by decide) ?_
        refine fx_iald hG dX12_weigh_204 rfl (ix_lit (by decide) rfl) ?_
        refine pm_icmp_ge (tgt := 262) hG dX12_weigh_205 rfl (fun c40 => ?_) (fun c40 => ?_)
        · replace c40 := Int32.not_lt.mpr c40
          replace hE := fx_f c40 hE
          exact hk196 _ _ hE
        · replace c40 := Int32.not_le.mp c40
          replace hE := fx_t c40 hE
          refine pm_aloadn hG dX12_weigh_208 rfl ?_
          refine pm_iloadi hG dX12_weigh_209 rfl ?_
          refine pm_iconst (v := 1) hG dX12_weigh_211 (by decide) ?_
          obtain ⟨x42, h41, hE⟩ := fb_some hE
          refine pm_callV (As := [.int x39_4, .int 1]) (rest := []) hG hR dX12_weigh_212 (lkX12_223 _ rfl) okV_X12_promised rfl rfl (c_X12_promised (d := 4) (by decide) h41) rfl rfl hdd (Nat.le_refl _) (Nat.le_refl _) (by decide) (fx_ki ?_)
          refine pm_iloadn hG dX12_weigh_215 rfl ?_
          refine pm_icmp_ne (tgt := 256) hG dX12_weigh_216 rfl (fun c43 => ?_) (fun c43 => ?_)
          · replace hE := fx_f c43 hE
            refine pm_iincX (v := x39_4 + 1) (loc' := [some (.ref (B + 54)), some (.int za), some (.int x7_2), some (.int v8_3), some (.int (x39_4 + 1)), none, none]) hG dX12_weigh_256 rfl (by rfl) (by decide) (pm_c1b rfl) rfl ?_
            refine pm_goto (tgt := 196) hG dX12_weigh_259 rfl ?_
            exact ih196 _ _ hE
          · replace hE := fx_t c43 hE
            refine pm_aloadn hG dX12_weigh_219 rfl ?_
            refine pm_iloadi hG dX12_weigh_220 rfl ?_
            obtain ⟨x45, h44, hE⟩ := fb_some hE
            refine pm_callV (As := [.int x39_4]) (rest := []) hG hR dX12_weigh_222 (lkX12_226 _ rfl) okV_X12_stands rfl rfl (c_X12_stands (d := 4) (by decide) h44) rfl rfl hdd (Nat.le_refl _) (Nat.le_refl _) (by decide) (fx_ki ?_)
            refine pm_if_eq (tgt := 256) hG dX12_weigh_225 rfl (fun c46 => ?_) (fun c46 => ?_)
            · replace hE := fx_t c46 hE
              refine pm_iincX (v := x39_4 + 1) (loc' := [some (.ref (B + 54)), some (.int za), some (.int x7_2), some (.int v8_3), some (.int (x39_4 + 1)), none, none]) hG dX12_weigh_256 rfl (by rfl) (by decide) (pm_c1b rfl) rfl ?_
              refine pm_goto (tgt := 196) hG dX12_weigh_259 rfl ?_
              exact ih196 _ _ hE
            · replace hE := fx_f c46 hE
              refine pm_aloadn hG dX12_weigh_228 rfl ?_
              refine pm_getf hG dX12_weigh_229 (flX12_40 _ rfl) rfl rfl ?_
              refine pm_aloadn hG dX12_weigh_232 rfl ?_
              refine pm_iloadi hG dX12_weigh_233 rfl ?_
              refine pm_iconst (v := 0) hG dX12_weigh_235 (by decide) ?_
              obtain ⟨x48, h47, hE⟩ := fb_some hE
              refine pm_callV (As := [.int x39_4, .int 0]) (rest := [.ref (B + 65)]) hG hR dX12_weigh_236 (lkX12_223 _ rfl) okV_X12_promised rfl rfl (c_X12_promised (d := 4) (by decide) h47) rfl rfl hdd (Nat.le_refl _) (Nat.le_refl _) (by first | decide | exact Nat.le_of_ble_eq_true rfl) (fx_ki ?_)
              refine pm_aloadn hG dX12_weigh_239 rfl ?_
              refine pm_iloadi hG dX12_weigh_240 rfl ?_
              refine pm_iconst (v := 3) hG dX12_weigh_242 (by decide) ?_
              obtain ⟨x50, h49, hE⟩ := fb_some hE
              refine pm_callV (As := [.int x39_4, .int 3]) (rest := [.int x48, .ref (B + 65)]) hG hR dX12_weigh_243 (lkX12_223 _ rfl) okV_X12_promised rfl rfl (c_X12_promised (d := 4) (by decide) h49) rfl rfl hdd (Nat.le_refl _) (Nat.le_refl _) (by first | decide | exact Nat.le_of_ble_eq_true rfl) (fx_ki ?_)
              refine pm_iconst (v := 1) hG dX12_weigh_246 (by decide) ?_
              refine pm_icmp_ne (tgt := 254) hG dX12_weigh_247 rfl (fun c51 => ?_) (fun c51 => ?_)
              · replace hE := fx_f c51 hE
                refine pm_iconst (v := (-1)) hG dX12_weigh_254 (by decide) ?_
                obtain ⟨j52, hj52, hE⟩ := fb_some hE
                refine fx_iast hG dX12_weigh_255 rfl hj52 ?_
                refine ma_65 ?_
                refine fx_letm hE (fun S53 hE => ?_)
                refine pm_iincX (v := x39_4 + 1) (loc' := [some (.ref (B + 54)), some (.int za), some (.int x7_2), some (.int v8_3), some (.int (x39_4 + 1)), none, none]) hG dX12_weigh_256 rfl (by rfl) (by decide) (pm_c1b rfl) rfl ?_
                refine pm_goto (tgt := 196) hG dX12_weigh_259 rfl ?_
                exact ih196 _ _ hE
              · replace hE := fx_t c51 hE
                refine pm_iconst (v := 1) hG dX12_weigh_250 (by decide) ?_
                refine pm_goto (tgt := 255) hG dX12_weigh_251 rfl ?_
                obtain ⟨j54, hj54, hE⟩ := fb_some hE
                refine fx_iast hG dX12_weigh_255 rfl hj54 ?_
                refine ma_65 ?_
                refine fx_letm hE (fun S55 hE => ?_)
                refine pm_iincX (v := x39_4 + 1) (loc' := [some (.ref (B + 54)), some (.int za), some (.int x7_2), some (.int v8_3), some (.int (x39_4 + 1)), none, none]) hG dX12_weigh_256 rfl (by rfl) (by decide) (pm_c1b rfl) rfl ?_
                refine pm_goto (tgt := 196) hG dX12_weigh_259 rfl ?_
                exact ih196 _ _ hE
    refine loop196 _ (fun S56 x56_4 hE => ?_) _ _ _ hE
    exact pm_vret hG hF dX12_weigh_262 rfl (Nat.le_refl _) (Nat.le_refl _) (fx_rvm hE)
  refine pm_iloadn hG dX12_weigh_38 rfl ?_
  refine pm_if_ge (tgt := 46) hG dX12_weigh_39 rfl (fun c57 => ?_) (fun c57 => ?_)
  · replace c57 := Int32.not_lt.mpr c57
    replace hE := fx_f c57 hE
    refine pm_aloadn hG dX12_weigh_46 rfl ?_
    refine pm_iconst (v := 0) hG dX12_weigh_47 (by decide) ?_
    refine pm_aloadn hG dX12_weigh_48 rfl ?_
    refine pm_getf hG dX12_weigh_49 (flX12_7 _ rfl) rfl rfl ?_
    refine pm_bipush (v := 8) hG dX12_weigh_52 (by decide) ?_
    refine fx_iald hG dX12_weigh_54 rfl (ix_lit (by decide) rfl) ?_
    refine pm_aloadn hG dX12_weigh_55 rfl ?_
    refine pm_iloadn hG dX12_weigh_56 rfl ?_
    obtain ⟨r59, h58, hE⟩ := fb_some hE
    refine pm_callV (As := [.int x7_2]) (rest := [.int (S7.2 55 8), .int 0, .ref (B + 54)]) hG hR dX12_weigh_57 (lkX12_104 _ rfl) okV_X12_knownTo rfl rfl (c_X12_knownTo (d := 4) (by decide) h58) rfl rfl hdd (Nat.le_refl _) (Nat.le_refl _) (by first | decide | exact Nat.le_of_ble_eq_true rfl) (fx_ki ?_)
    obtain ⟨x61, h60, hE⟩ := fb_some hE
    refine pm_callV (As := [.int 0, .int (S7.2 55 8), .int r59.1]) (rest := []) hG hR dX12_weigh_60 (lkX12_195 _ rfl) okV_X12_inForce rfl rfl (c_X12_inForce (d := 4) (by decide) h60) rfl rfl hdd (Nat.le_refl _) (Nat.le_refl _) (by decide) (fx_ki ?_)
    refine pm_istoreXn (loc' := [some (.ref (B + 54)), some (.int za), some (.int x7_2), some (.int x61), none, none, none]) hG dX12_weigh_63 (by decide) (pm_c1b rfl) rfl ?_
    exact join64 _ _ hE
  · replace c57 := Int32.not_le.mp c57
    replace hE := fx_t c57 hE
    refine pm_iconst (v := (-1)) hG dX12_weigh_42 (by decide) ?_
    refine pm_goto (tgt := 63) hG dX12_weigh_43 rfl ?_
    refine pm_istoreXn (loc' := [some (.ref (B + 54)), some (.int za), some (.int x7_2), some (.int (-1)), none, none, none]) hG dX12_weigh_63 (by decide) (pm_c1b rfl) rfl ?_
    exact join64 _ _ hE
end
