set_option maxRecDepth 100000 in
set_option maxHeartbeats 4000000 in
theorem c_X12_in {d : Nat} {B cnt : Nat} {σ : pm_S} {S : FS} {za : Int32} {zb : Int32} {zc : Int32} {R : Int32} (hdd : 1 ≤ d) (hE : p_X12_in S za zb zc = R) : pm_met mX12_in d 0 0 B [.int za, .int zb, .int zc] cnt (mst B S σ) (pm_Qi (fun v σ' cnt' => v = R ∧ σ' = (mst B S σ) ∧ cnt' = cnt)) := by
  refine pm_enter 0 (by decide) (Nat.le_of_ble_eq_true rfl) rfl (fun G hG hR hF => ?_)
  unfold p_X12_in at hE
  refine pm_iloadn hG dX12_in_0 rfl ?_
  refine pm_iloadn hG dX12_in_1 rfl ?_
  refine pm_icmp_lt (tgt := 14) hG dX12_in_2 rfl (fun c1 => ?_) (fun c1 => ?_)
  · replace hE := fx_t c1 hE
    refine pm_iconst (v := 0) hG dX12_in_14 (by decide) ?_
    exact pm_zret hG hF dX12_in_15 rfl (by rfl) (Nat.le_refl _) (Nat.le_refl _) (fx_pi hE)
  · replace hE := fx_f c1 hE
    refine pm_iloadn hG dX12_in_5 rfl ?_
    refine pm_iloadn hG dX12_in_6 rfl ?_
    refine pm_icmp_gt (tgt := 14) hG dX12_in_7 rfl (fun c2 => ?_) (fun c2 => ?_)
    · replace hE := fx_t c2 hE
      refine pm_iconst (v := 0) hG dX12_in_14 (by decide) ?_
      exact pm_zret hG hF dX12_in_15 rfl (by rfl) (Nat.le_refl _) (Nat.le_refl _) (fx_pi hE)
    · replace hE := fx_f c2 hE
      refine pm_iconst (v := 1) hG dX12_in_10 (by decide) ?_
      refine pm_goto (tgt := 15) hG dX12_in_11 rfl ?_
      exact pm_zret hG hF dX12_in_15 rfl (by rfl) (Nat.le_refl _) (Nat.le_refl _) (fx_pi hE)

set_option maxRecDepth 100000 in
set_option maxHeartbeats 4000000 in
theorem c_X12_isPerson {d : Nat} {B cnt : Nat} {σ : pm_S} {S : FS} {za : Int32} {R : Int32} (hdd : 2 ≤ d) (hE : p_X12_isPerson S za = R) : pm_met mX12_isPerson d 0 0 B [.ref (B + 54), .int za] cnt (mst B S σ) (pm_Qi (fun v σ' cnt' => v = R ∧ σ' = (mst B S σ) ∧ cnt' = cnt)) := by
  refine pm_enter 0 (by decide) (Nat.le_of_ble_eq_true rfl) rfl (fun G hG hR hF => ?_)
  unfold p_X12_isPerson at hE
  refine pm_iloadn hG dX12_isPerson_0 rfl ?_
  refine pm_iconst (v := 0) hG dX12_isPerson_1 (by decide) ?_
  refine pm_aloadn hG dX12_isPerson_2 rfl ?_
  refine pm_getf hG dX12_isPerson_3 (flX12_7 _ rfl) rfl rfl ?_
  refine pm_iconst (v := 2) hG dX12_isPerson_6 (by decide) ?_
  refine fx_iald hG dX12_isPerson_7 rfl (ix_lit (by decide) rfl) ?_
  refine pm_iconst (v := 1) hG dX12_isPerson_8 (by decide) ?_
  refine pm_isub hG dX12_isPerson_9 ?_
  refine pm_callS (As := [.int za, .int 0, .int ((S.2 55 2) - 1)]) (rest := []) hG hR dX12_isPerson_10 (lkX12_68 _ rfl) okS_X12_in (c_X12_in (d := 1) (by decide) rfl) rfl rfl hdd (Nat.le_refl _) (Nat.le_refl _) (by decide) (fx_ki ?_)
  exact pm_zret hG hF dX12_isPerson_13 rfl (pm_nz pb_X12_in) (Nat.le_refl _) (Nat.le_refl _) (fx_pi hE)

set_option maxRecDepth 100000 in
set_option maxHeartbeats 4000000 in
theorem c_X12_man {d : Nat} {B cnt : Nat} {σ : pm_S} {S : FS} {za : Int32} {zb : Int32} {R : Int32} (hdd : 1 ≤ d) (hE : q_X12_man S za zb = some R) : pm_met mX12_man d 0 0 B [.ref (B + 54), .int za, .int zb] cnt (mst B S σ) (pm_Qi (fun v σ' cnt' => v = R ∧ σ' = (mst B S σ) ∧ cnt' = cnt)) := by
  refine pm_enter 0 (by decide) (Nat.le_of_ble_eq_true rfl) rfl (fun G hG hR hF => ?_)
  unfold q_X12_man at hE
  refine pm_aloadn hG dX12_man_0 rfl ?_
  refine pm_getf hG dX12_man_1 (flX12_7 _ rfl) rfl rfl ?_
  refine pm_bipush (v := 110) hG dX12_man_4 (by decide) ?_
  refine pm_bipush (v := 14) hG dX12_man_6 (by decide) ?_
  refine pm_iloadn hG dX12_man_8 rfl ?_
  refine pm_imul hG dX12_man_9 ?_
  refine pm_iadd hG dX12_man_10 ?_
  refine pm_iloadn hG dX12_man_11 rfl ?_
  refine pm_iadd hG dX12_man_12 ?_
  obtain ⟨j1, hj1, hE⟩ := fb_some hE
  refine fx_iald hG dX12_man_13 rfl hj1 ?_
  exact pm_iret hG hF dX12_man_14 rfl (Nat.le_refl _) (Nat.le_refl _) (fx_pi (Option.some.inj hE))

set_option maxRecDepth 100000 in
set_option maxHeartbeats 4000000 in
theorem c_X12_lives {d : Nat} {B cnt : Nat} {σ : pm_S} {S : FS} {za : Int32} {R : Int32} (hdd : 2 ≤ d) (hE : q_X12_lives S za = some R) : pm_met mX12_lives d 0 0 B [.ref (B + 54), .int za] cnt (mst B S σ) (pm_Qi (fun v σ' cnt' => v = R ∧ σ' = (mst B S σ) ∧ cnt' = cnt)) := by
  refine pm_enter 0 (by decide) (Nat.le_of_ble_eq_true rfl) rfl (fun G hG hR hF => ?_)
  unfold q_X12_lives at hE
  refine pm_aloadn hG dX12_lives_0 rfl ?_
  refine pm_iloadn hG dX12_lives_1 rfl ?_
  refine pm_bipush (v := 9) hG dX12_lives_2 (by decide) ?_
  obtain ⟨x2, h1, hE⟩ := fb_some hE
  refine pm_callV (As := [.int za, .int 9]) (rest := []) hG hR dX12_lives_4 (lkX12_72 _ rfl) okV_X12_man rfl rfl (c_X12_man (d := 1) (by decide) h1) rfl rfl hdd (Nat.le_refl _) (Nat.le_refl _) (by decide) (fx_ki ?_)
  refine pm_if_ge (tgt := 14) hG dX12_lives_7 rfl (fun c3 => ?_) (fun c3 => ?_)
  · replace c3 := Int32.not_lt.mpr c3
    replace hE := fx_f c3 hE
    refine pm_iconst (v := 0) hG dX12_lives_14 (by decide) ?_
    exact pm_zret hG hF dX12_lives_15 rfl (by rfl) (Nat.le_refl _) (Nat.le_refl _) (fx_pi (Option.some.inj hE))
  · replace c3 := Int32.not_le.mp c3
    replace hE := fx_t c3 hE
    refine pm_iconst (v := 1) hG dX12_lives_10 (by decide) ?_
    refine pm_goto (tgt := 15) hG dX12_lives_11 rfl ?_
    exact pm_zret hG hF dX12_lives_15 rfl (by rfl) (Nat.le_refl _) (Nat.le_refl _) (fx_pi (Option.some.inj hE))

set_option maxRecDepth 100000 in
set_option maxHeartbeats 4000000 in
theorem c_X12_findDays {d : Nat} {B cnt : Nat} {σ : pm_S} {S : FS} {za : Int32} {R : Int32 × FS} (hdd : 1 ≤ d) (hE : f_X12_findDays S za = some R) : pm_met mX12_findDays d 0 0 B [.ref (B + 54), .int za] cnt (mst B S σ) (pm_Qv (fun σ' cnt' => σ' = (mst B R.2 σ) ∧ cnt' = cnt)) := by
  refine pm_enter 6 (by decide) (Nat.le_of_ble_eq_true rfl) rfl (fun G hG hR hF => ?_)
  unfold f_X12_findDays at hE
  refine pm_iconst (v := 0) hG dX12_findDays_0 (by decide) ?_
  refine pm_istoreXn (loc' := [some (.ref (B + 54)), some (.int za), some (.int 0), none, none, none, none, none]) hG dX12_findDays_1 (by decide) (pm_c1b rfl) rfl ?_
  have loop2 : ∀ (k2 : FS → Int32 → Option (Int32 × FS)), (∀ (S1 : FS) (x1_2 : Int32), k2 S1  x1_2 = some R → pm_wp mX12_findDays G B 30 [some (.ref (B + 54)), some (.int za), some (.int x1_2), none, none, none, none, none] [] 0 0 cnt (mst B S1 σ)) → ∀ (m2 : Nat) (S1 : FS) (x1_2 : Int32), l_X12_findDays_2 za k2 m2 S1  x1_2 = some R → pm_wp mX12_findDays G B 2 [some (.ref (B + 54)), some (.int za), some (.int x1_2), none, none, none, none, none] [] 0 0 cnt (mst B S1 σ) := by
    intro k2 hk2 m2
    induction m2 with
    | zero => intro S1  x1_2 hE; exact fx_no hE
    | succ m2 ih2 =>
      intro S1  x1_2 hE
      rw [l_X12_findDays_2] at hE
      refine pm_iloadn hG dX12_findDays_2 rfl ?_
      refine pm_bipush (v := 10) hG dX12_findDays_3 (by decide) ?_
      refine pm_icmp_ge (tgt := 30) hG dX12_findDays_5 rfl (fun c2 => ?_) (fun c2 => ?_)
      · replace c2 := Int32.not_lt.mpr c2
        replace hE := fx_f c2 hE
        exact hk2 _ _ hE
      · replace c2 := Int32.not_le.mp c2
        replace hE := fx_t c2 hE
        refine pm_aloadn hG dX12_findDays_8 rfl ?_
        refine pm_getf hG dX12_findDays_9 (flX12_19 _ rfl) rfl rfl ?_
        refine pm_iloadn hG dX12_findDays_12 rfl ?_
        refine pm_iloadn hG dX12_findDays_13 rfl ?_
        refine pm_iloadn hG dX12_findDays_14 rfl ?_
        refine pm_icmp_ne (tgt := 22) hG dX12_findDays_15 rfl (fun c3 => ?_) (fun c3 => ?_)
        · replace hE := fx_f c3 hE
          refine pm_iconst (v := (-1)) hG dX12_findDays_22 (by decide) ?_
          obtain ⟨j4, hj4, hE⟩ := fb_some hE
          refine fx_iast hG dX12_findDays_23 rfl hj4 ?_
          refine ma_58 ?_
          refine fx_letm hE (fun S5 hE => ?_)
          refine pm_iincX (v := x1_2 + 1) (loc' := [some (.ref (B + 54)), some (.int za), some (.int (x1_2 + 1)), none, none, none, none, none]) hG dX12_findDays_24 rfl (by rfl) (by decide) (pm_c1b rfl) rfl ?_
          refine pm_goto (tgt := 2) hG dX12_findDays_27 rfl ?_
          exact ih2 _ _ hE
        · replace hE := fx_t c3 hE
          refine pm_iconst (v := 0) hG dX12_findDays_18 (by decide) ?_
          refine pm_goto (tgt := 23) hG dX12_findDays_19 rfl ?_
          obtain ⟨j6, hj6, hE⟩ := fb_some hE
          refine fx_iast hG dX12_findDays_23 rfl hj6 ?_
          refine ma_58 ?_
          refine fx_letm hE (fun S7 hE => ?_)
          refine pm_iincX (v := x1_2 + 1) (loc' := [some (.ref (B + 54)), some (.int za), some (.int (x1_2 + 1)), none, none, none, none, none]) hG dX12_findDays_24 rfl (by rfl) (by decide) (pm_c1b rfl) rfl ?_
          refine pm_goto (tgt := 2) hG dX12_findDays_27 rfl ?_
          exact ih2 _ _ hE
  refine loop2 _ (fun S8 x8_2 hE => ?_) _ _ _ hE
  refine pm_iconst (v := 1) hG dX12_findDays_30 (by decide) ?_
  refine pm_istoreXn (loc' := [some (.ref (B + 54)), some (.int za), some (.int 1), none, none, none, none, none]) hG dX12_findDays_31 (by decide) (pm_c1b rfl) rfl ?_
  have loop32 : ∀ (k32 : FS → Int32 → Option (Int32 × FS)), (∀ (S9 : FS) (x9_2 : Int32), k32 S9  x9_2 = some R → pm_wp mX12_findDays G B 177 [some (.ref (B + 54)), some (.int za), some (.int x9_2), none, none, none, none, none] [] 0 0 cnt (mst B S9 σ)) → ∀ (m32 : Nat) (S9 : FS) (x9_2 : Int32), l_X12_findDays_32 k32 m32 S9  x9_2 = some R → pm_wp mX12_findDays G B 32 [some (.ref (B + 54)), some (.int za), some (.int x9_2), none, none, none, none, none] [] 0 0 cnt (mst B S9 σ) := by
    intro k32 hk32 m32
    induction m32 with
    | zero => intro S9  x9_2 hE; exact fx_no hE
    | succ m32 ih32 =>
      intro S9  x9_2 hE
      rw [l_X12_findDays_32] at hE
      refine pm_iloadn hG dX12_findDays_32 rfl ?_
      refine pm_if_eq (tgt := 177) hG dX12_findDays_33 rfl (fun c10 => ?_) (fun c10 => ?_)
      · replace hE := fx_t c10 hE
        exact hk32 _ _ hE
      · replace hE := fx_f c10 hE
        refine pm_iconst (v := 0) hG dX12_findDays_36 (by decide) ?_
        refine pm_istoreXn (loc' := [some (.ref (B + 54)), some (.int za), some (.int 0), none, none, none, none, none]) hG dX12_findDays_37 (by decide) (pm_c1b rfl) rfl ?_
        refine pm_iconst (v := 0) hG dX12_findDays_38 (by decide) ?_
        refine pm_istoreXn (loc' := [some (.ref (B + 54)), some (.int za), some (.int 0), some (.int 0), none, none, none, none]) hG dX12_findDays_39 (by decide) (pm_c1b rfl) rfl ?_
        have loop40 : ∀ (k40 : FS → Int32 → Int32 → Option (Int32 × FS)), (∀ (S11 : FS) (x11_2 : Int32) (x11_3 : Int32), k40 S11  x11_2 x11_3 = some R → pm_wp mX12_findDays G B 174 [some (.ref (B + 54)), some (.int za), some (.int x11_2), some (.int x11_3), none, none, none, none] [] 0 0 cnt (mst B S11 σ)) → ∀ (m40 : Nat) (S11 : FS) (x11_2 : Int32) (x11_3 : Int32), l_X12_findDays_40 k40 m40 S11  x11_2 x11_3 = some R → pm_wp mX12_findDays G B 40 [some (.ref (B + 54)), some (.int za), some (.int x11_2), some (.int x11_3), none, none, none, none] [] 0 0 cnt (mst B S11 σ) := by
          intro k40 hk40 m40
          induction m40 with
          | zero => intro S11  x11_2 x11_3 hE; exact fx_no hE
          | succ m40 ih40 =>
            intro S11  x11_2 x11_3 hE
            rw [l_X12_findDays_40] at hE
            refine pm_iloadn hG dX12_findDays_40 rfl ?_
            refine pm_aloadn hG dX12_findDays_41 rfl ?_
            refine pm_getf hG dX12_findDays_42 (flX12_7 _ rfl) rfl rfl ?_
            refine pm_iconst (v := 1) hG dX12_findDays_45 (by decide) ?_
            refine fx_iald hG dX12_findDays_46 rfl (ix_lit (by decide) rfl) ?_
            refine pm_icmp_ge (tgt := 174) hG dX12_findDays_47 rfl (fun c12 => ?_) (fun c12 => ?_)
            · replace c12 := Int32.not_lt.mpr c12
              replace hE := fx_f c12 hE
              exact hk40 _ _ _ hE
            · replace c12 := Int32.not_le.mp c12
              replace hE := fx_t c12 hE
              refine pm_iconst (v := 0) hG dX12_findDays_50 (by decide) ?_
              refine pm_istoreXi (loc' := [some (.ref (B + 54)), some (.int za), some (.int x11_2), some (.int x11_3), some (.int 0), none, none, none]) hG dX12_findDays_51 (by decide) (pm_c1b rfl) rfl ?_
              have loop53 : ∀ (k53 : FS → Int32 → Int32 → Option (Int32 × FS)), (∀ (S13 : FS) (x13_2 : Int32) (x13_4 : Int32), k53 S13  x13_2 x13_4 = some R → pm_wp mX12_findDays G B 168 [some (.ref (B + 54)), some (.int za), some (.int x13_2), some (.int x11_3), some (.int x13_4), none, none, none] [] 0 0 cnt (mst B S13 σ)) → ∀ (m53 : Nat) (S13 : FS) (x13_2 : Int32) (x13_4 : Int32), l_X12_findDays_53 x11_3 k53 m53 S13  x13_2 x13_4 = some R → pm_wp mX12_findDays G B 53 [some (.ref (B + 54)), some (.int za), some (.int x13_2), some (.int x11_3), some (.int x13_4), none, none, none] [] 0 0 cnt (mst B S13 σ) := by
                intro k53 hk53 m53
                induction m53 with
                | zero => intro S13  x13_2 x13_4 hE; exact fx_no hE
                | succ m53 ih53 =>
                  intro S13  x13_2 x13_4 hE
                  rw [l_X12_findDays_53] at hE
                  refine pm_iloadi hG dX12_findDays_53 rfl ?_
                  refine pm_iconst (v := 2) hG dX12_findDays_55 (by decide) ?_
                  refine pm_icmp_ge (tgt := 168) hG dX12_findDays_56 rfl (fun c14 => ?_) (fun c14 => ?_)
                  · replace c14 := Int32.not_lt.mpr c14
                    replace hE := fx_f c14 hE
                    exact hk53 _ _ _ hE
                  · replace c14 := Int32.not_le.mp c14
                    replace hE := fx_t c14 hE
                    refine pm_aloadn hG dX12_findDays_59 rfl ?_
                    refine pm_getf hG dX12_findDays_60 (flX12_7 _ rfl) rfl rfl ?_
                    refine pm_bipush (v := 50) hG dX12_findDays_63 (by decide) ?_
                    refine pm_iconst (v := 3) hG dX12_findDays_65 (by decide) ?_
                    refine pm_iloadn hG dX12_findDays_66 rfl ?_
                    refine pm_imul hG dX12_findDays_67 ?_
                    refine pm_iadd hG dX12_findDays_68 ?_
                    refine pm_iloadi hG dX12_findDays_69 rfl ?_
                    refine pm_iadd hG dX12_findDays_71 ?_
                    obtain ⟨j15, hj15, hE⟩ := fb_some hE
                    refine fx_iald hG dX12_findDays_72 rfl hj15 ?_
                    refine fx_letv hE (fun x16 hE => ?_)
                    refine pm_istoreXi (loc' := [some (.ref (B + 54)), some (.int za), some (.int x13_2), some (.int x11_3), some (.int x13_4), some (.int x16), none, none]) hG dX12_findDays_73 (by decide) (pm_c1b rfl) rfl ?_
                    refine pm_aloadn hG dX12_findDays_75 rfl ?_
                    refine pm_getf hG dX12_findDays_76 (flX12_7 _ rfl) rfl rfl ?_
                    refine pm_bipush (v := 50) hG dX12_findDays_79 (by decide) ?_
                    refine pm_iconst (v := 3) hG dX12_findDays_81 (by decide) ?_
                    refine pm_iloadn hG dX12_findDays_82 rfl ?_
                    refine pm_imul hG dX12_findDays_83 ?_
                    refine pm_iadd hG dX12_findDays_84 ?_
                    refine pm_iconst (v := 1) hG dX12_findDays_85 (by decide) ?_
                    refine pm_iadd hG dX12_findDays_86 ?_
                    refine pm_iloadi hG dX12_findDays_87 rfl ?_
                    refine pm_isub hG dX12_findDays_89 ?_
                    obtain ⟨j17, hj17, hE⟩ := fb_some hE
                    refine fx_iald hG dX12_findDays_90 rfl hj17 ?_
                    refine fx_letv hE (fun x18 hE => ?_)
                    refine pm_istoreXi (loc' := [some (.ref (B + 54)), some (.int za), some (.int x13_2), some (.int x11_3), some (.int x13_4), some (.int x16), some (.int x18), none]) hG dX12_findDays_91 (by decide) (pm_c1b rfl) rfl ?_
                    refine pm_aloadn hG dX12_findDays_93 rfl ?_
                    refine pm_getf hG dX12_findDays_94 (flX12_19 _ rfl) rfl rfl ?_
                    refine pm_iloadi hG dX12_findDays_97 rfl ?_
                    obtain ⟨j19, hj19, hE⟩ := fb_some hE
                    refine fx_iald hG dX12_findDays_99 rfl hj19 ?_
                    refine pm_aloadn hG dX12_findDays_100 rfl ?_
                    refine pm_getf hG dX12_findDays_101 (flX12_7 _ rfl) rfl rfl ?_
                    refine pm_bipush (v := 50) hG dX12_findDays_104 (by decide) ?_
                    refine pm_iconst (v := 3) hG dX12_findDays_106 (by decide) ?_
                    refine pm_iloadn hG dX12_findDays_107 rfl ?_
                    refine pm_imul hG dX12_findDays_108 ?_
                    refine pm_iadd hG dX12_findDays_109 ?_
                    refine pm_iconst (v := 2) hG dX12_findDays_110 (by decide) ?_
                    refine pm_iadd hG dX12_findDays_111 ?_
                    obtain ⟨j20, hj20, hE⟩ := fb_some hE
                    refine fx_iald hG dX12_findDays_112 rfl hj20 ?_
                    refine pm_iadd hG dX12_findDays_113 ?_
                    refine fx_letv hE (fun x21 hE => ?_)
                    refine pm_istoreXi (loc' := [some (.ref (B + 54)), some (.int za), some (.int x13_2), some (.int x11_3), some (.int x13_4), some (.int x16), some (.int x18), some (.int x21)]) hG dX12_findDays_114 (by decide) (pm_c1b rfl) rfl ?_
                    refine pm_aloadn hG dX12_findDays_116 rfl ?_
                    refine pm_getf hG dX12_findDays_117 (flX12_19 _ rfl) rfl rfl ?_
                    refine pm_iloadi hG dX12_findDays_120 rfl ?_
                    refine fx_iald hG dX12_findDays_122 rfl hj19 ?_
                    refine pm_if_lt (tgt := 162) hG dX12_findDays_123 rfl (fun c22 => ?_) (fun c22 => ?_)
                    · replace hE := fx_t c22 hE
                      refine pm_iincX (v := x13_4 + 1) (loc' := [some (.ref (B + 54)), some (.int za), some (.int x13_2), some (.int x11_3), some (.int (x13_4 + 1)), some (.int x16), some (.int x18), some (.int x21)]) hG dX12_findDays_162 rfl (by rfl) (by decide) (pm_c1b rfl) rfl ?_
                      refine pm_goto (tgt := 53) hG dX12_findDays_165 rfl ?_
                      refine pm_fg 5 (loc' := [some (.ref (B + 54)), some (.int za), some (.int x13_2), some (.int x11_3), some (.int (x13_4 + 1)), none, some (.int x18), some (.int x21)]) rfl ?_
                      refine pm_fg 6 (loc' := [some (.ref (B + 54)), some (.int za), some (.int x13_2), some (.int x11_3), some (.int (x13_4 + 1)), none, none, some (.int x21)]) rfl ?_
                      refine pm_fg 7 (loc' := [some (.ref (B + 54)), some (.int za), some (.int x13_2), some (.int x11_3), some (.int (x13_4 + 1)), none, none, none]) rfl ?_
                      exact ih53 _ _ _ hE
                    · replace hE := fx_f c22 hE
                      refine pm_aloadn hG dX12_findDays_126 rfl ?_
                      refine pm_getf hG dX12_findDays_127 (flX12_19 _ rfl) rfl rfl ?_
                      refine pm_iloadi hG dX12_findDays_130 rfl ?_
                      obtain ⟨j23, hj23, hE⟩ := fb_some hE
                      refine fx_iald hG dX12_findDays_132 rfl hj23 ?_
                      refine pm_if_lt (tgt := 151) hG dX12_findDays_133 rfl (fun c24 => ?_) (fun c24 => ?_)
                      · replace hE := fx_t c24 hE
                        refine pm_aloadn hG dX12_findDays_151 rfl ?_
                        refine pm_getf hG dX12_findDays_152 (flX12_19 _ rfl) rfl rfl ?_
                        refine pm_iloadi hG dX12_findDays_155 rfl ?_
                        refine pm_iloadi hG dX12_findDays_157 rfl ?_
                        refine fx_iast hG dX12_findDays_159 rfl hj23 ?_
                        refine ma_58 ?_
                        refine fx_letm hE (fun S25 hE => ?_)
                        refine pm_iconst (v := 1) hG dX12_findDays_160 (by decide) ?_
                        refine pm_istoreXn (loc' := [some (.ref (B + 54)), some (.int za), some (.int 1), some (.int x11_3), some (.int x13_4), some (.int x16), some (.int x18), some (.int x21)]) hG dX12_findDays_161 (by decide) (pm_c1b rfl) rfl ?_
                        refine pm_iincX (v := x13_4 + 1) (loc' := [some (.ref (B + 54)), some (.int za), some (.int 1), some (.int x11_3), some (.int (x13_4 + 1)), some (.int x16), some (.int x18), some (.int x21)]) hG dX12_findDays_162 rfl (by rfl) (by decide) (pm_c1b rfl) rfl ?_
                        refine pm_goto (tgt := 53) hG dX12_findDays_165 rfl ?_
                        refine pm_fg 5 (loc' := [some (.ref (B + 54)), some (.int za), some (.int 1), some (.int x11_3), some (.int (x13_4 + 1)), none, some (.int x18), some (.int x21)]) rfl ?_
                        refine pm_fg 6 (loc' := [some (.ref (B + 54)), some (.int za), some (.int 1), some (.int x11_3), some (.int (x13_4 + 1)), none, none, some (.int x21)]) rfl ?_
                        refine pm_fg 7 (loc' := [some (.ref (B + 54)), some (.int za), some (.int 1), some (.int x11_3), some (.int (x13_4 + 1)), none, none, none]) rfl ?_
                        exact ih53 _ _ _ hE
                      · replace hE := fx_f c24 hE
                        refine pm_aloadn hG dX12_findDays_136 rfl ?_
                        refine pm_getf hG dX12_findDays_137 (flX12_19 _ rfl) rfl rfl ?_
                        refine pm_iloadi hG dX12_findDays_140 rfl ?_
                        refine fx_iald hG dX12_findDays_142 rfl hj23 ?_
                        refine pm_iloadi hG dX12_findDays_143 rfl ?_
                        refine pm_icmp_gt (tgt := 151) hG dX12_findDays_145 rfl (fun c26 => ?_) (fun c26 => ?_)
                        · replace hE := fx_t c26 hE
                          refine pm_aloadn hG dX12_findDays_151 rfl ?_
                          refine pm_getf hG dX12_findDays_152 (flX12_19 _ rfl) rfl rfl ?_
                          refine pm_iloadi hG dX12_findDays_155 rfl ?_
                          refine pm_iloadi hG dX12_findDays_157 rfl ?_
                          refine fx_iast hG dX12_findDays_159 rfl hj23 ?_
                          refine ma_58 ?_
                          refine fx_letm hE (fun S27 hE => ?_)
                          refine pm_iconst (v := 1) hG dX12_findDays_160 (by decide) ?_
                          refine pm_istoreXn (loc' := [some (.ref (B + 54)), some (.int za), some (.int 1), some (.int x11_3), some (.int x13_4), some (.int x16), some (.int x18), some (.int x21)]) hG dX12_findDays_161 (by decide) (pm_c1b rfl) rfl ?_
                          refine pm_iincX (v := x13_4 + 1) (loc' := [some (.ref (B + 54)), some (.int za), some (.int 1), some (.int x11_3), some (.int (x13_4 + 1)), some (.int x16), some (.int x18), some (.int x21)]) hG dX12_findDays_162 rfl (by rfl) (by decide) (pm_c1b rfl) rfl ?_
                          refine pm_goto (tgt := 53) hG dX12_findDays_165 rfl ?_
                          refine pm_fg 5 (loc' := [some (.ref (B + 54)), some (.int za), some (.int 1), some (.int x11_3), some (.int (x13_4 + 1)), none, some (.int x18), some (.int x21)]) rfl ?_
                          refine pm_fg 6 (loc' := [some (.ref (B + 54)), some (.int za), some (.int 1), some (.int x11_3), some (.int (x13_4 + 1)), none, none, some (.int x21)]) rfl ?_
                          refine pm_fg 7 (loc' := [some (.ref (B + 54)), some (.int za), some (.int 1), some (.int x11_3), some (.int (x13_4 + 1)), none, none, none]) rfl ?_
                          exact ih53 _ _ _ hE
                        · replace hE := fx_f c26 hE
                          refine pm_goto (tgt := 162) hG dX12_findDays_148 rfl ?_
                          refine pm_iincX (v := x13_4 + 1) (loc' := [some (.ref (B + 54)), some (.int za), some (.int x13_2), some (.int x11_3), some (.int (x13_4 + 1)), some (.int x16), some (.int x18), some (.int x21)]) hG dX12_findDays_162 rfl (by rfl) (by decide) (pm_c1b rfl) rfl ?_
                          refine pm_goto (tgt := 53) hG dX12_findDays_165 rfl ?_
                          refine pm_fg 5 (loc' := [some (.ref (B + 54)), some (.int za), some (.int x13_2), some (.int x11_3), some (.int (x13_4 + 1)), none, some (.int x18), some (.int x21)]) rfl ?_
                          refine pm_fg 6 (loc' := [some (.ref (B + 54)), some (.int za), some (.int x13_2), some (.int x11_3), some (.int (x13_4 + 1)), none, none, some (.int x21)]) rfl ?_
                          refine pm_fg 7 (loc' := [some (.ref (B + 54)), some (.int za), some (.int x13_2), some (.int x11_3), some (.int (x13_4 + 1)), none, none, none]) rfl ?_
                          exact ih53 _ _ _ hE
              refine loop53 _ (fun S28 x28_2 x28_4 hE => ?_) _ _ _ _ hE
              refine pm_iincX (v := x11_3 + 1) (loc' := [some (.ref (B + 54)), some (.int za), some (.int x28_2), some (.int (x11_3 + 1)), some (.int x28_4), none, none, none]) hG dX12_findDays_168 rfl (by rfl) (by decide) (pm_c1b rfl) rfl ?_
              refine pm_goto (tgt := 40) hG dX12_findDays_171 rfl ?_
              refine pm_fg 4 (loc' := [some (.ref (B + 54)), some (.int za), some (.int x28_2), some (.int (x11_3 + 1)), none, none, none, none]) rfl ?_
              exact ih40 _ _ _ hE
        refine loop40 _ (fun S29 x29_2 x29_3 hE => ?_) _ _ _ _ hE
        refine pm_goto (tgt := 32) hG dX12_findDays_174 rfl ?_
        refine pm_fg 3 (loc' := [some (.ref (B + 54)), some (.int za), some (.int x29_2), none, none, none, none, none]) rfl ?_
        exact ih32 _ _ hE
  refine loop32 _ (fun S30 x30_2 hE => ?_) _ _ _ hE
  exact pm_vret hG hF dX12_findDays_177 rfl (Nat.le_refl _) (Nat.le_refl _) (fx_rvm hE)

set_option maxRecDepth 100000 in
set_option maxHeartbeats 4000000 in
theorem c_X12_farOf {d : Nat} {B cnt : Nat} {σ : pm_S} {S : FS} {za : Int32} {zb : Int32} {R : Int32 × FS} (hdd : 2 ≤ d) (hE : f_X12_farOf S za zb = some R) : pm_met mX12_farOf d 0 0 B [.ref (B + 54), .int za, .int zb] cnt (mst B S σ) (pm_Qi (fun v σ' cnt' => v = R.1 ∧ σ' = (mst B R.2 σ) ∧ cnt' = cnt)) := by
  refine pm_enter 0 (by decide) (Nat.le_of_ble_eq_true rfl) rfl (fun G hG hR hF => ?_)
  unfold f_X12_farOf at hE
  refine pm_aloadn hG dX12_farOf_0 rfl ?_
  refine pm_iloadn hG dX12_farOf_1 rfl ?_
  obtain ⟨r2, h1, hE⟩ := fb_some hE
  refine pm_callV (As := [.int za]) (rest := []) hG hR dX12_farOf_2 (lkX12_76 _ rfl) okV_X12_findDays rfl rfl (c_X12_findDays (d := 1) (by decide) h1) rfl rfl hdd (Nat.le_refl _) (Nat.le_refl _) (by decide) (fx_kv ?_)
  refine pm_aloadn hG dX12_farOf_5 rfl ?_
  refine pm_getf hG dX12_farOf_6 (flX12_19 _ rfl) rfl rfl ?_
  refine pm_iloadn hG dX12_farOf_9 rfl ?_
  obtain ⟨j3, hj3, hE⟩ := fb_some hE
  refine fx_iald hG dX12_farOf_10 rfl hj3 ?_
  exact pm_iret hG hF dX12_farOf_11 rfl (Nat.le_refl _) (Nat.le_refl _) (fx_rim hE)

set_option maxRecDepth 100000 in
set_option maxHeartbeats 4000000 in
theorem c_X12_knownTo {d : Nat} {B cnt : Nat} {σ : pm_S} {S : FS} {za : Int32} {R : Int32 × FS} (hdd : 3 ≤ d) (hE : f_X12_knownTo S za = some R) : pm_met mX12_knownTo d 0 0 B [.ref (B + 54), .int za] cnt (mst B S σ) (pm_Qi (fun v σ' cnt' => v = R.1 ∧ σ' = (mst B R.2 σ) ∧ cnt' = cnt)) := by
  refine pm_enter 1 (by decide) (Nat.le_of_ble_eq_true rfl) rfl (fun G hG hR hF => ?_)
  unfold f_X12_knownTo at hE
  refine pm_aloadn hG dX12_knownTo_0 rfl ?_
  refine pm_iloadn hG dX12_knownTo_1 rfl ?_
  refine pm_iconst (v := 4) hG dX12_knownTo_2 (by decide) ?_
  obtain ⟨x2, h1, hE⟩ := fb_some hE
  refine pm_callV (As := [.int za, .int 4]) (rest := []) hG hR dX12_knownTo_3 (lkX12_72 _ rfl) okV_X12_man rfl rfl (c_X12_man (d := 2) (by decide) h1) rfl rfl hdd (Nat.le_refl _) (Nat.le_refl _) (by decide) (fx_ki ?_)
  refine pm_if_lt (tgt := 17) hG dX12_knownTo_6 rfl (fun c3 => ?_) (fun c3 => ?_)
  · replace hE := fx_t c3 hE
    refine pm_aloadn hG dX12_knownTo_17 rfl ?_
    refine pm_iloadn hG dX12_knownTo_18 rfl ?_
    refine pm_bipush (v := 10) hG dX12_knownTo_19 (by decide) ?_
    obtain ⟨x5, h4, hE⟩ := fb_some hE
    refine pm_callV (As := [.int za, .int 10]) (rest := []) hG hR dX12_knownTo_21 (lkX12_72 _ rfl) okV_X12_man rfl rfl (c_X12_man (d := 2) (by decide) h4) rfl rfl hdd (Nat.le_refl _) (Nat.le_refl _) (by decide) (fx_ki ?_)
    exact pm_iret hG hF dX12_knownTo_24 rfl (Nat.le_refl _) (Nat.le_refl _) (fx_rim hE)
  · replace hE := fx_f c3 hE
    refine pm_aloadn hG dX12_knownTo_9 rfl ?_
    refine pm_iloadn hG dX12_knownTo_10 rfl ?_
    obtain ⟨x7, h6, hE⟩ := fb_some hE
    refine pm_callV (As := [.int za]) (rest := []) hG hR dX12_knownTo_11 (lkX12_101 _ rfl) okV_X12_lives rfl rfl (c_X12_lives (d := 2) (by decide) h6) rfl rfl hdd (Nat.le_refl _) (Nat.le_refl _) (by decide) (fx_ki ?_)
    refine pm_if_ne (tgt := 25) hG dX12_knownTo_14 rfl (fun c8 => ?_) (fun c8 => ?_)
    · replace hE := fx_f c8 hE
      refine pm_aloadn hG dX12_knownTo_25 rfl ?_
      refine pm_iconst (v := 0) hG dX12_knownTo_26 (by decide) ?_
      refine pm_aloadn hG dX12_knownTo_27 rfl ?_
      refine pm_iloadn hG dX12_knownTo_28 rfl ?_
      refine pm_iconst (v := 4) hG dX12_knownTo_29 (by decide) ?_
      obtain ⟨x10, h9, hE⟩ := fb_some hE
      refine pm_callV (As := [.int za, .int 4]) (rest := [.int 0, .ref (B + 54)]) hG hR dX12_knownTo_30 (lkX12_72 _ rfl) okV_X12_man rfl rfl (c_X12_man (d := 2) (by decide) h9) rfl rfl hdd (Nat.le_refl _) (Nat.le_refl _) (by first | decide | exact Nat.le_of_ble_eq_true rfl) (fx_ki ?_)
      obtain ⟨r12, h11, hE⟩ := fb_some hE
      refine pm_callV (As := [.int 0, .int x10]) (rest := []) hG hR dX12_knownTo_33 (lkX12_88 _ rfl) okV_X12_farOf rfl rfl (c_X12_farOf (d := 2) (by decide) h11) rfl rfl hdd (Nat.le_refl _) (Nat.le_refl _) (by decide) (fx_ki ?_)
      refine pm_istoreXn (loc' := [some (.ref (B + 54)), some (.int za), some (.int r12.1)]) hG dX12_knownTo_36 (by decide) (pm_c1b rfl) rfl ?_
      refine pm_iloadn hG dX12_knownTo_37 rfl ?_
      refine pm_if_lt (tgt := 60) hG dX12_knownTo_38 rfl (fun c13 => ?_) (fun c13 => ?_)
      · replace hE := fx_t c13 hE
        refine pm_aloadn hG dX12_knownTo_60 rfl ?_
        refine pm_iloadn hG dX12_knownTo_61 rfl ?_
        refine pm_bipush (v := 10) hG dX12_knownTo_62 (by decide) ?_
        obtain ⟨x15, h14, hE⟩ := fb_some hE
        refine pm_callV (As := [.int za, .int 10]) (rest := []) hG hR dX12_knownTo_64 (lkX12_72 _ rfl) okV_X12_man rfl rfl (c_X12_man (d := 2) (by decide) h14) rfl rfl hdd (Nat.le_refl _) (Nat.le_refl _) (by decide) (fx_ki ?_)
        refine pm_goto (tgt := 79) hG dX12_knownTo_67 rfl ?_
        exact pm_iret hG hF dX12_knownTo_79 rfl (Nat.le_refl _) (Nat.le_refl _) (fx_rim hE)
      · replace hE := fx_f c13 hE
        refine pm_aloadn hG dX12_knownTo_41 rfl ?_
        refine pm_getf hG dX12_knownTo_42 (flX12_7 _ rfl) rfl rfl ?_
        refine pm_bipush (v := 8) hG dX12_knownTo_45 (by decide) ?_
        refine fx_iald hG dX12_knownTo_47 rfl (ix_lit (by decide) rfl) ?_
        refine pm_iloadn hG dX12_knownTo_48 rfl ?_
        refine pm_isub hG dX12_knownTo_49 ?_
        refine pm_aloadn hG dX12_knownTo_50 rfl ?_
        refine pm_iloadn hG dX12_knownTo_51 rfl ?_
        refine pm_bipush (v := 10) hG dX12_knownTo_52 (by decide) ?_
        obtain ⟨x17, h16, hE⟩ := fb_some hE
        refine pm_callV (As := [.int za, .int 10]) (rest := [.int ((r12.2.2 55 8) - r12.1)]) hG hR dX12_knownTo_54 (lkX12_72 _ rfl) okV_X12_man rfl rfl (c_X12_man (d := 2) (by decide) h16) rfl rfl hdd (Nat.le_refl _) (Nat.le_refl _) (by first | decide | exact Nat.le_of_ble_eq_true rfl) (fx_ki ?_)
        refine pm_icmp_ge (tgt := 70) hG dX12_knownTo_57 rfl (fun c18 => ?_) (fun c18 => ?_)
        · replace c18 := Int32.not_lt.mpr c18
          replace hE := fx_f c18 hE
          refine pm_aloadn hG dX12_knownTo_70 rfl ?_
          refine pm_getf hG dX12_knownTo_71 (flX12_7 _ rfl) rfl rfl ?_
          refine pm_bipush (v := 8) hG dX12_knownTo_74 (by decide) ?_
          refine fx_iald hG dX12_knownTo_76 rfl (ix_lit (by decide) rfl) ?_
          refine pm_iloadn hG dX12_knownTo_77 rfl ?_
          refine pm_isub hG dX12_knownTo_78 ?_
          exact pm_iret hG hF dX12_knownTo_79 rfl (Nat.le_refl _) (Nat.le_refl _) (fx_rim hE)
        · replace c18 := Int32.not_le.mp c18
          replace hE := fx_t c18 hE
          refine pm_aloadn hG dX12_knownTo_60 rfl ?_
          refine pm_iloadn hG dX12_knownTo_61 rfl ?_
          refine pm_bipush (v := 10) hG dX12_knownTo_62 (by decide) ?_
          obtain ⟨x20, h19, hE⟩ := fb_some hE
          refine pm_callV (As := [.int za, .int 10]) (rest := []) hG hR dX12_knownTo_64 (lkX12_72 _ rfl) okV_X12_man rfl rfl (c_X12_man (d := 2) (by decide) h19) rfl rfl hdd (Nat.le_refl _) (Nat.le_refl _) (by decide) (fx_ki ?_)
          refine pm_goto (tgt := 79) hG dX12_knownTo_67 rfl ?_
          exact pm_iret hG hF dX12_knownTo_79 rfl (Nat.le_refl _) (Nat.le_refl _) (fx_rim hE)
    · replace hE := fx_t c8 hE
      refine pm_aloadn hG dX12_knownTo_17 rfl ?_
      refine pm_iloadn hG dX12_knownTo_18 rfl ?_
      refine pm_bipush (v := 10) hG dX12_knownTo_19 (by decide) ?_
      obtain ⟨x22, h21, hE⟩ := fb_some hE
      refine pm_callV (As := [.int za, .int 10]) (rest := []) hG hR dX12_knownTo_21 (lkX12_72 _ rfl) okV_X12_man rfl rfl (c_X12_man (d := 2) (by decide) h21) rfl rfl hdd (Nat.le_refl _) (Nat.le_refl _) (by decide) (fx_ki ?_)
      exact pm_iret hG hF dX12_knownTo_24 rfl (Nat.le_refl _) (Nat.le_refl _) (fx_rim hE)

set_option maxRecDepth 100000 in
set_option maxHeartbeats 4000000 in
theorem c_X12_its {d : Nat} {B cnt : Nat} {σ : pm_S} {S : FS} {za : Int32} {zb : Int32} {R : Int32} (hdd : 1 ≤ d) (hE : q_X12_its S za zb = some R) : pm_met mX12_its d 0 0 B [.ref (B + 54), .int za, .int zb] cnt (mst B S σ) (pm_Qi (fun v σ' cnt' => v = R ∧ σ' = (mst B S σ) ∧ cnt' = cnt)) := by
  refine pm_enter 0 (by decide) (Nat.le_of_ble_eq_true rfl) rfl (fun G hG hR hF => ?_)
  unfold q_X12_its at hE
  refine pm_aloadn hG dX12_its_0 rfl ?_
  refine pm_getf hG dX12_its_1 (flX12_7 _ rfl) rfl rfl ?_
  refine pm_sipush (v := 390) hG dX12_its_4 (by decide) ?_
  refine pm_bipush (v := 6) hG dX12_its_7 (by decide) ?_
  refine pm_iloadn hG dX12_its_9 rfl ?_
  refine pm_imul hG dX12_its_10 ?_
  refine pm_iadd hG dX12_its_11 ?_
  refine pm_iloadn hG dX12_its_12 rfl ?_
  refine pm_iadd hG dX12_its_13 ?_
  obtain ⟨j1, hj1, hE⟩ := fb_some hE
  refine fx_iald hG dX12_its_14 rfl hj1 ?_
  exact pm_iret hG hF dX12_its_15 rfl (Nat.le_refl _) (Nat.le_refl _) (fx_pi (Option.some.inj hE))

set_option maxRecDepth 100000 in
set_option maxHeartbeats 4000000 in
theorem c_X12_holdsMany {d : Nat} {B cnt : Nat} {σ : pm_S} {S : FS} {za : Int32} {R : Int32} (hdd : 2 ≤ d) (hE : q_X12_holdsMany S za = some R) : pm_met mX12_holdsMany d 0 0 B [.ref (B + 54), .int za] cnt (mst B S σ) (pm_Qi (fun v σ' cnt' => v = R ∧ σ' = (mst B S σ) ∧ cnt' = cnt)) := by
  refine pm_enter 2 (by decide) (Nat.le_of_ble_eq_true rfl) rfl (fun G hG hR hF => ?_)
  unfold q_X12_holdsMany at hE
  refine pm_iconst (v := 0) hG dX12_holdsMany_0 (by decide) ?_
  refine pm_istoreXn (loc' := [some (.ref (B + 54)), some (.int za), some (.int 0), none]) hG dX12_holdsMany_1 (by decide) (pm_c1b rfl) rfl ?_
  refine pm_iconst (v := 0) hG dX12_holdsMany_2 (by decide) ?_
  refine pm_istoreXn (loc' := [some (.ref (B + 54)), some (.int za), some (.int 0), some (.int 0)]) hG dX12_holdsMany_3 (by decide) (pm_c1b rfl) rfl ?_
  have loop4 : ∀ (k4 : Int32 → Int32 → Option Int32), (∀  (x1_2 : Int32) (x1_3 : Int32), k4  x1_2 x1_3 = some R → pm_wp mX12_holdsMany G B 38 [some (.ref (B + 54)), some (.int za), some (.int x1_2), some (.int x1_3)] [] 0 0 cnt (mst B S σ)) → ∀ (m4 : Nat)  (x1_2 : Int32) (x1_3 : Int32), l_X12_holdsMany_4 za S k4 m4  x1_2 x1_3 = some R → pm_wp mX12_holdsMany G B 4 [some (.ref (B + 54)), some (.int za), some (.int x1_2), some (.int x1_3)] [] 0 0 cnt (mst B S σ) := by
    intro k4 hk4 m4
    induction m4 with
    | zero => intro  x1_2 x1_3 hE; exact fx_no hE
    | succ m4 ih4 =>
      intro  x1_2 x1_3 hE
      rw [l_X12_holdsMany_4] at hE
      refine pm_iloadn hG dX12_holdsMany_4 rfl ?_
      refine pm_aloadn hG dX12_holdsMany_5 rfl ?_
      refine pm_getf hG dX12_holdsMany_6 (flX12_7 _ rfl) rfl rfl ?_
      refine pm_iconst (v := 3) hG dX12_holdsMany_9 (by decide) ?_
      refine fx_iald hG dX12_holdsMany_10 rfl (ix_lit (by decide) rfl) ?_
      refine pm_icmp_ge (tgt := 38) hG dX12_holdsMany_11 rfl (fun c2 => ?_) (fun c2 => ?_)
      · replace c2 := Int32.not_lt.mpr c2
        replace hE := fx_f c2 hE
        exact hk4 _ _ hE
      · replace c2 := Int32.not_le.mp c2
        replace hE := fx_t c2 hE
        refine pm_iloadn hG dX12_holdsMany_14 rfl ?_
        refine pm_aloadn hG dX12_holdsMany_15 rfl ?_
        refine pm_iloadn hG dX12_holdsMany_16 rfl ?_
        refine pm_iconst (v := 1) hG dX12_holdsMany_17 (by decide) ?_
        obtain ⟨x4, h3, hE⟩ := fb_some hE
        refine pm_callV (As := [.int x1_3, .int 1]) (rest := [.int x1_2]) hG hR dX12_holdsMany_18 (lkX12_110 _ rfl) okV_X12_its rfl rfl (c_X12_its (d := 1) (by decide) h3) rfl rfl hdd (Nat.le_refl _) (Nat.le_refl _) (by first | decide | exact Nat.le_of_ble_eq_true rfl) (fx_ki ?_)
        refine pm_iloadn hG dX12_holdsMany_21 rfl ?_
        refine pm_icmp_ne (tgt := 29) hG dX12_holdsMany_22 rfl (fun c5 => ?_) (fun c5 => ?_)
        · replace hE := fx_f c5 hE
          refine pm_iconst (v := 0) hG dX12_holdsMany_29 (by decide) ?_
          refine pm_iadd hG dX12_holdsMany_30 ?_
          refine fx_letv hE (fun x6 hE => ?_)
          refine pm_istoreXn (loc' := [some (.ref (B + 54)), some (.int za), some (.int x6), some (.int x1_3)]) hG dX12_holdsMany_31 (by decide) (pm_c1b rfl) rfl ?_
          refine pm_iincX (v := x1_3 + 1) (loc' := [some (.ref (B + 54)), some (.int za), some (.int x6), some (.int (x1_3 + 1))]) hG dX12_holdsMany_32 rfl (by rfl) (by decide) (pm_c1b rfl) rfl ?_
          refine pm_goto (tgt := 4) hG dX12_holdsMany_35 rfl ?_
          exact ih4 _ _ hE
        · replace hE := fx_t c5 hE
          refine pm_iconst (v := 1) hG dX12_holdsMany_25 (by decide) ?_
          refine pm_goto (tgt := 30) hG dX12_holdsMany_26 rfl ?_
          refine pm_iadd hG dX12_holdsMany_30 ?_
          refine fx_letv hE (fun x7 hE => ?_)
          refine pm_istoreXn (loc' := [some (.ref (B + 54)), some (.int za), some (.int x7), some (.int x1_3)]) hG dX12_holdsMany_31 (by decide) (pm_c1b rfl) rfl ?_
          refine pm_iincX (v := x1_3 + 1) (loc' := [some (.ref (B + 54)), some (.int za), some (.int x7), some (.int (x1_3 + 1))]) hG dX12_holdsMany_32 rfl (by rfl) (by decide) (pm_c1b rfl) rfl ?_
          refine pm_goto (tgt := 4) hG dX12_holdsMany_35 rfl ?_
          exact ih4 _ _ hE
  refine loop4 _ (fun  x8_2 x8_3 hE => ?_) _ _ _ hE
  refine pm_iloadn hG dX12_holdsMany_38 rfl ?_
  exact pm_iret hG hF dX12_holdsMany_39 rfl (Nat.le_refl _) (Nat.le_refl _) (fx_pi (Option.some.inj hE))

set_option maxRecDepth 100000 in
set_option maxHeartbeats 4000000 in
theorem c_X12_stepsOf {d : Nat} {B cnt : Nat} {σ : pm_S} {S : FS} {za : Int32} {R : Int32 × FS} (hdd : 2 ≤ d) (hE : f_X12_stepsOf S za = some R) : pm_met mX12_stepsOf d 0 0 B [.ref (B + 54), .int za] cnt (mst B S σ) (pm_Qi (fun v σ' cnt' => v = R.1 ∧ σ' = (mst B R.2 σ) ∧ cnt' = cnt)) := by
  refine pm_enter 4 (by decide) (Nat.le_of_ble_eq_true rfl) rfl (fun G hG hR hF => ?_)
  unfold f_X12_stepsOf at hE
  refine pm_iconst (v := 0) hG dX12_stepsOf_0 (by decide) ?_
  refine pm_istoreXn (loc' := [some (.ref (B + 54)), some (.int za), some (.int 0), none, none, none]) hG dX12_stepsOf_1 (by decide) (pm_c1b rfl) rfl ?_
  have loop2 : ∀ (k2 : FS → Int32 → Option (Int32 × FS)), (∀ (S1 : FS) (x1_2 : Int32), k2 S1  x1_2 = some R → pm_wp mX12_stepsOf G B 30 [some (.ref (B + 54)), some (.int za), some (.int x1_2), none, none, none] [] 0 0 cnt (mst B S1 σ)) → ∀ (m2 : Nat) (S1 : FS) (x1_2 : Int32), l_X12_stepsOf_2 k2 m2 S1  x1_2 = some R → pm_wp mX12_stepsOf G B 2 [some (.ref (B + 54)), some (.int za), some (.int x1_2), none, none, none] [] 0 0 cnt (mst B S1 σ) := by
    intro k2 hk2 m2
    induction m2 with
    | zero => intro S1  x1_2 hE; exact fx_no hE
    | succ m2 ih2 =>
      intro S1  x1_2 hE
      rw [l_X12_stepsOf_2] at hE
      refine pm_iloadn hG dX12_stepsOf_2 rfl ?_
      refine pm_bipush (v := 20) hG dX12_stepsOf_3 (by decide) ?_
      refine pm_icmp_ge (tgt := 30) hG dX12_stepsOf_5 rfl (fun c2 => ?_) (fun c2 => ?_)
      · replace c2 := Int32.not_lt.mpr c2
        replace hE := fx_f c2 hE
        exact hk2 _ _ hE
      · replace c2 := Int32.not_le.mp c2
        replace hE := fx_t c2 hE
        refine pm_aloadn hG dX12_stepsOf_8 rfl ?_
        refine pm_getf hG dX12_stepsOf_9 (flX12_22 _ rfl) rfl rfl ?_
        refine pm_iloadn hG dX12_stepsOf_12 rfl ?_
        refine pm_iloadn hG dX12_stepsOf_13 rfl ?_
        refine pm_if_ne (tgt := 21) hG dX12_stepsOf_14 rfl (fun c3 => ?_) (fun c3 => ?_)
        · replace hE := fx_f c3 hE
          refine pm_bipush (v := 99) hG dX12_stepsOf_21 (by decide) ?_
          obtain ⟨j4, hj4, hE⟩ := fb_some hE
          refine fx_iast hG dX12_stepsOf_23 rfl hj4 ?_
          refine ma_59 ?_
          refine fx_letm hE (fun S5 hE => ?_)
          refine pm_iincX (v := x1_2 + 1) (loc' := [some (.ref (B + 54)), some (.int za), some (.int (x1_2 + 1)), none, none, none]) hG dX12_stepsOf_24 rfl (by rfl) (by decide) (pm_c1b rfl) rfl ?_
          refine pm_goto (tgt := 2) hG dX12_stepsOf_27 rfl ?_
          exact ih2 _ _ hE
        · replace hE := fx_t c3 hE
          refine pm_iconst (v := 0) hG dX12_stepsOf_17 (by decide) ?_
          refine pm_goto (tgt := 23) hG dX12_stepsOf_18 rfl ?_
          obtain ⟨j6, hj6, hE⟩ := fb_some hE
          refine fx_iast hG dX12_stepsOf_23 rfl hj6 ?_
          refine ma_59 ?_
          refine fx_letm hE (fun S7 hE => ?_)
          refine pm_iincX (v := x1_2 + 1) (loc' := [some (.ref (B + 54)), some (.int za), some (.int (x1_2 + 1)), none, none, none]) hG dX12_stepsOf_24 rfl (by rfl) (by decide) (pm_c1b rfl) rfl ?_
          refine pm_goto (tgt := 2) hG dX12_stepsOf_27 rfl ?_
          exact ih2 _ _ hE
  refine loop2 _ (fun S8 x8_2 hE => ?_) _ _ _ hE
  refine pm_iconst (v := 1) hG dX12_stepsOf_30 (by decide) ?_
  refine pm_istoreXn (loc' := [some (.ref (B + 54)), some (.int za), some (.int 1), none, none, none]) hG dX12_stepsOf_31 (by decide) (pm_c1b rfl) rfl ?_
  have loop32 : ∀ (k32 : FS → Int32 → Option (Int32 × FS)), (∀ (S9 : FS) (x9_2 : Int32), k32 S9  x9_2 = some R → pm_wp mX12_stepsOf G B 155 [some (.ref (B + 54)), some (.int za), some (.int x9_2), none, none, none] [] 0 0 cnt (mst B S9 σ)) → ∀ (m32 : Nat) (S9 : FS) (x9_2 : Int32), l_X12_stepsOf_32 k32 m32 S9  x9_2 = some R → pm_wp mX12_stepsOf G B 32 [some (.ref (B + 54)), some (.int za), some (.int x9_2), none, none, none] [] 0 0 cnt (mst B S9 σ) := by
    intro k32 hk32 m32
    induction m32 with
    | zero => intro S9  x9_2 hE; exact fx_no hE
    | succ m32 ih32 =>
      intro S9  x9_2 hE
      rw [l_X12_stepsOf_32] at hE
      refine pm_iloadn hG dX12_stepsOf_32 rfl ?_
      refine pm_bipush (v := 20) hG dX12_stepsOf_33 (by decide) ?_
      refine pm_icmp_ge (tgt := 155) hG dX12_stepsOf_35 rfl (fun c10 => ?_) (fun c10 => ?_)
      · replace c10 := Int32.not_lt.mpr c10
        replace hE := fx_f c10 hE
        exact hk32 _ _ hE
      · replace c10 := Int32.not_le.mp c10
        replace hE := fx_t c10 hE
        refine pm_iconst (v := 0) hG dX12_stepsOf_38 (by decide) ?_
        refine pm_istoreXn (loc' := [some (.ref (B + 54)), some (.int za), some (.int x9_2), some (.int 0), none, none]) hG dX12_stepsOf_39 (by decide) (pm_c1b rfl) rfl ?_
        have loop40 : ∀ (k40 : FS → Int32 → Option (Int32 × FS)), (∀ (S11 : FS) (x11_3 : Int32), k40 S11  x11_3 = some R → pm_wp mX12_stepsOf G B 149 [some (.ref (B + 54)), some (.int za), some (.int x9_2), some (.int x11_3), none, none] [] 0 0 cnt (mst B S11 σ)) → ∀ (m40 : Nat) (S11 : FS) (x11_3 : Int32), l_X12_stepsOf_40 x9_2 k40 m40 S11  x11_3 = some R → pm_wp mX12_stepsOf G B 40 [some (.ref (B + 54)), some (.int za), some (.int x9_2), some (.int x11_3), none, none] [] 0 0 cnt (mst B S11 σ) := by
          intro k40 hk40 m40
          induction m40 with
          | zero => intro S11  x11_3 hE; exact fx_no hE
          | succ m40 ih40 =>
            intro S11  x11_3 hE
            rw [l_X12_stepsOf_40] at hE
            refine pm_iloadn hG dX12_stepsOf_40 rfl ?_
            refine pm_aloadn hG dX12_stepsOf_41 rfl ?_
            refine pm_getf hG dX12_stepsOf_42 (flX12_7 _ rfl) rfl rfl ?_
            refine pm_iconst (v := 2) hG dX12_stepsOf_45 (by decide) ?_
            refine fx_iald hG dX12_stepsOf_46 rfl (ix_lit (by decide) rfl) ?_
            refine pm_icmp_ge (tgt := 149) hG dX12_stepsOf_47 rfl (fun c12 => ?_) (fun c12 => ?_)
            · replace c12 := Int32.not_lt.mpr c12
              replace hE := fx_f c12 hE
              exact hk40 _ _ hE
            · replace c12 := Int32.not_le.mp c12
              replace hE := fx_t c12 hE
              refine pm_iconst (v := 2) hG dX12_stepsOf_50 (by decide) ?_
              refine pm_istoreXi (loc' := [some (.ref (B + 54)), some (.int za), some (.int x9_2), some (.int x11_3), some (.int 2), none]) hG dX12_stepsOf_51 (by decide) (pm_c1b rfl) rfl ?_
              have loop53 : ∀ (k53 : FS → Int32 → Option (Int32 × FS)), (∀ (S13 : FS) (x13_4 : Int32), k53 S13  x13_4 = some R → pm_wp mX12_stepsOf G B 143 [some (.ref (B + 54)), some (.int za), some (.int x9_2), some (.int x11_3), some (.int x13_4), none] [] 0 0 cnt (mst B S13 σ)) → ∀ (m53 : Nat) (S13 : FS) (x13_4 : Int32), l_X12_stepsOf_53 x9_2 x11_3 k53 m53 S13  x13_4 = some R → pm_wp mX12_stepsOf G B 53 [some (.ref (B + 54)), some (.int za), some (.int x9_2), some (.int x11_3), some (.int x13_4), none] [] 0 0 cnt (mst B S13 σ) := by
                intro k53 hk53 m53
                induction m53 with
                | zero => intro S13  x13_4 hE; exact fx_no hE
                | succ m53 ih53 =>
                  intro S13  x13_4 hE
                  rw [l_X12_stepsOf_53] at hE
                  refine pm_iloadi hG dX12_stepsOf_53 rfl ?_
                  refine pm_iconst (v := 3) hG dX12_stepsOf_55 (by decide) ?_
                  refine pm_icmp_gt (tgt := 143) hG dX12_stepsOf_56 rfl (fun c14 => ?_) (fun c14 => ?_)
                  · replace hE := fx_t c14 hE
                    exact hk53 _ _ hE
                  · replace hE := fx_f c14 hE
                    refine pm_aloadn hG dX12_stepsOf_59 rfl ?_
                    refine pm_iloadn hG dX12_stepsOf_60 rfl ?_
                    refine pm_iloadi hG dX12_stepsOf_61 rfl ?_
                    obtain ⟨x16, h15, hE⟩ := fb_some hE
                    refine pm_callV (As := [.int x11_3, .int x13_4]) (rest := []) hG hR dX12_stepsOf_63 (lkX12_72 _ rfl) okV_X12_man rfl rfl (c_X12_man (d := 1) (by decide) h15) rfl rfl hdd (Nat.le_refl _) (Nat.le_refl _) (by decide) (fx_ki ?_)
                    refine pm_istoreXi (loc' := [some (.ref (B + 54)), some (.int za), some (.int x9_2), some (.int x11_3), some (.int x13_4), some (.int x16)]) hG dX12_stepsOf_66 (by decide) (pm_c1b rfl) rfl ?_
                    refine pm_iloadi hG dX12_stepsOf_68 rfl ?_
                    refine pm_if_ge (tgt := 76) hG dX12_stepsOf_70 rfl (fun c17 => ?_) (fun c17 => ?_)
                    · replace c17 := Int32.not_lt.mpr c17
                      replace hE := fx_f c17 hE
                      refine pm_aloadn hG dX12_stepsOf_76 rfl ?_
                      refine pm_getf hG dX12_stepsOf_77 (flX12_22 _ rfl) rfl rfl ?_
                      refine pm_iloadi hG dX12_stepsOf_80 rfl ?_
                      obtain ⟨j18, hj18, hE⟩ := fb_some hE
                      refine fx_iald hG dX12_stepsOf_82 rfl hj18 ?_
                      refine pm_iloadn hG dX12_stepsOf_83 rfl ?_
                      refine pm_iconst (v := 1) hG dX12_stepsOf_84 (by decide) ?_
                      refine pm_isub hG dX12_stepsOf_85 ?_
                      refine pm_icmp_ne (tgt := 106) hG dX12_stepsOf_86 rfl (fun c19 => ?_) (fun c19 => ?_)
                      · replace hE := fx_f c19 hE
                        refine pm_aloadn hG dX12_stepsOf_106 rfl ?_
                        refine pm_getf hG dX12_stepsOf_107 (flX12_22 _ rfl) rfl rfl ?_
                        refine pm_iloadn hG dX12_stepsOf_110 rfl ?_
                        obtain ⟨j20, hj20, hE⟩ := fb_some hE
                        refine fx_iald hG dX12_stepsOf_111 rfl hj20 ?_
                        refine pm_iloadn hG dX12_stepsOf_112 rfl ?_
                        refine pm_iconst (v := 1) hG dX12_stepsOf_113 (by decide) ?_
                        refine pm_isub hG dX12_stepsOf_114 ?_
                        refine pm_icmp_ne (tgt := 137) hG dX12_stepsOf_115 rfl (fun c21 => ?_) (fun c21 => ?_)
                        · replace hE := fx_f c21 hE
                          refine pm_iincX (v := x13_4 + 1) (loc' := [some (.ref (B + 54)), some (.int za), some (.int x9_2), some (.int x11_3), some (.int (x13_4 + 1)), some (.int x16)]) hG dX12_stepsOf_137 rfl (by rfl) (by decide) (pm_c1b rfl) rfl ?_
                          refine pm_goto (tgt := 53) hG dX12_stepsOf_140 rfl ?_
                          refine pm_fg 5 (loc' := [some (.ref (B + 54)), some (.int za), some (.int x9_2), some (.int x11_3), some (.int (x13_4 + 1)), none]) rfl ?_
                          exact ih53 _ _ hE
                        · replace hE := fx_t c21 hE
                          refine pm_aloadn hG dX12_stepsOf_118 rfl ?_
                          refine pm_getf hG dX12_stepsOf_119 (flX12_22 _ rfl) rfl rfl ?_
                          refine pm_iloadi hG dX12_stepsOf_122 rfl ?_
                          refine fx_iald hG dX12_stepsOf_124 rfl hj18 ?_
                          refine pm_iloadn hG dX12_stepsOf_125 rfl ?_
                          refine pm_icmp_le (tgt := 137) hG dX12_stepsOf_126 rfl (fun c22 => ?_) (fun c22 => ?_)
                          · replace c22 := Int32.not_lt.mpr c22
                            replace hE := fx_f c22 hE
                            refine pm_iincX (v := x13_4 + 1) (loc' := [some (.ref (B + 54)), some (.int za), some (.int x9_2), some (.int x11_3), some (.int (x13_4 + 1)), some (.int x16)]) hG dX12_stepsOf_137 rfl (by rfl) (by decide) (pm_c1b rfl) rfl ?_
                            refine pm_goto (tgt := 53) hG dX12_stepsOf_140 rfl ?_
                            refine pm_fg 5 (loc' := [some (.ref (B + 54)), some (.int za), some (.int x9_2), some (.int x11_3), some (.int (x13_4 + 1)), none]) rfl ?_
                            exact ih53 _ _ hE
                          · replace c22 := Int32.not_le.mp c22
                            replace hE := fx_t c22 hE
                            refine pm_aloadn hG dX12_stepsOf_129 rfl ?_
                            refine pm_getf hG dX12_stepsOf_130 (flX12_22 _ rfl) rfl rfl ?_
                            refine pm_iloadi hG dX12_stepsOf_133 rfl ?_
                            refine pm_iloadn hG dX12_stepsOf_135 rfl ?_
                            refine fx_iast hG dX12_stepsOf_136 rfl hj18 ?_
                            refine ma_59 ?_
                            refine fx_letm hE (fun S23 hE => ?_)
                            refine pm_iincX (v := x13_4 + 1) (loc' := [some (.ref (B + 54)), some (.int za), some (.int x9_2), some (.int x11_3), some (.int (x13_4 + 1)), some (.int x16)]) hG dX12_stepsOf_137 rfl (by rfl) (by decide) (pm_c1b rfl) rfl ?_
                            refine pm_goto (tgt := 53) hG dX12_stepsOf_140 rfl ?_
                            refine pm_fg 5 (loc' := [some (.ref (B + 54)), some (.int za), some (.int x9_2), some (.int x11_3), some (.int (x13_4 + 1)), none]) rfl ?_
                            exact ih53 _ _ hE
                      · replace hE := fx_t c19 hE
                        refine pm_aloadn hG dX12_stepsOf_89 rfl ?_
                        refine pm_getf hG dX12_stepsOf_90 (flX12_22 _ rfl) rfl rfl ?_
                        refine pm_iloadn hG dX12_stepsOf_93 rfl ?_
                        obtain ⟨j24, hj24, hE⟩ := fb_some hE
                        refine fx_iald hG dX12_stepsOf_94 rfl hj24 ?_
                        refine pm_iloadn hG dX12_stepsOf_95 rfl ?_
                        refine pm_icmp_le (tgt := 106) hG dX12_stepsOf_96 rfl (fun c25 => ?_) (fun c25 => ?_)
                        · replace c25 := Int32.not_lt.mpr c25
                          replace hE := fx_f c25 hE
                          refine pm_aloadn hG dX12_stepsOf_106 rfl ?_
                          refine pm_getf hG dX12_stepsOf_107 (flX12_22 _ rfl) rfl rfl ?_
                          refine pm_iloadn hG dX12_stepsOf_110 rfl ?_
                          refine fx_iald hG dX12_stepsOf_111 rfl hj24 ?_
                          refine pm_iloadn hG dX12_stepsOf_112 rfl ?_
                          refine pm_iconst (v := 1) hG dX12_stepsOf_113 (by decide) ?_
                          refine pm_isub hG dX12_stepsOf_114 ?_
                          refine pm_icmp_ne (tgt := 137) hG dX12_stepsOf_115 rfl (fun c26 => ?_) (fun c26 => ?_)
                          · replace hE := fx_f c26 hE
                            refine pm_iincX (v := x13_4 + 1) (loc' := [some (.ref (B + 54)), some (.int za), some (.int x9_2), some (.int x11_3), some (.int (x13_4 + 1)), some (.int x16)]) hG dX12_stepsOf_137 rfl (by rfl) (by decide) (pm_c1b rfl) rfl ?_
                            refine pm_goto (tgt := 53) hG dX12_stepsOf_140 rfl ?_
                            refine pm_fg 5 (loc' := [some (.ref (B + 54)), some (.int za), some (.int x9_2), some (.int x11_3), some (.int (x13_4 + 1)), none]) rfl ?_
                            exact ih53 _ _ hE
                          · replace hE := fx_t c26 hE
                            refine pm_aloadn hG dX12_stepsOf_118 rfl ?_
                            refine pm_getf hG dX12_stepsOf_119 (flX12_22 _ rfl) rfl rfl ?_
                            refine pm_iloadi hG dX12_stepsOf_122 rfl ?_
                            refine fx_iald hG dX12_stepsOf_124 rfl hj18 ?_
                            refine pm_iloadn hG dX12_stepsOf_125 rfl ?_
                            refine pm_icmp_le (tgt := 137) hG dX12_stepsOf_126 rfl (fun c27 => ?_) (fun c27 => ?_)
                            · replace c27 := Int32.not_lt.mpr c27
                              replace hE := fx_f c27 hE
                              refine pm_iincX (v := x13_4 + 1) (loc' := [some (.ref (B + 54)), some (.int za), some (.int x9_2), some (.int x11_3), some (.int (x13_4 + 1)), some (.int x16)]) hG dX12_stepsOf_137 rfl (by rfl) (by decide) (pm_c1b rfl) rfl ?_
                              refine pm_goto (tgt := 53) hG dX12_stepsOf_140 rfl ?_
                              refine pm_fg 5 (loc' := [some (.ref (B + 54)), some (.int za), some (.int x9_2), some (.int x11_3), some (.int (x13_4 + 1)), none]) rfl ?_
                              exact ih53 _ _ hE
                            · replace c27 := Int32.not_le.mp c27
                              replace hE := fx_t c27 hE
                              refine pm_aloadn hG dX12_stepsOf_129 rfl ?_
                              refine pm_getf hG dX12_stepsOf_130 (flX12_22 _ rfl) rfl rfl ?_
                              refine pm_iloadi hG dX12_stepsOf_133 rfl ?_
                              refine pm_iloadn hG dX12_stepsOf_135 rfl ?_
                              refine fx_iast hG dX12_stepsOf_136 rfl hj18 ?_
                              refine ma_59 ?_
                              refine fx_letm hE (fun S28 hE => ?_)
                              refine pm_iincX (v := x13_4 + 1) (loc' := [some (.ref (B + 54)), some (.int za), some (.int x9_2), some (.int x11_3), some (.int (x13_4 + 1)), some (.int x16)]) hG dX12_stepsOf_137 rfl (by rfl) (by decide) (pm_c1b rfl) rfl ?_
                              refine pm_goto (tgt := 53) hG dX12_stepsOf_140 rfl ?_
                              refine pm_fg 5 (loc' := [some (.ref (B + 54)), some (.int za), some (.int x9_2), some (.int x11_3), some (.int (x13_4 + 1)), none]) rfl ?_
                              exact ih53 _ _ hE
                        · replace c25 := Int32.not_le.mp c25
                          replace hE := fx_t c25 hE
                          refine pm_aloadn hG dX12_stepsOf_99 rfl ?_
                          refine pm_getf hG dX12_stepsOf_100 (flX12_22 _ rfl) rfl rfl ?_
                          refine pm_iloadn hG dX12_stepsOf_103 rfl ?_
                          refine pm_iloadn hG dX12_stepsOf_104 rfl ?_
                          refine fx_iast hG dX12_stepsOf_105 rfl hj24 ?_
                          refine ma_59 ?_
                          refine fx_letm hE (fun S29 hE => ?_)
                          refine pm_aloadn hG dX12_stepsOf_106 rfl ?_
                          refine pm_getf hG dX12_stepsOf_107 (flX12_22 _ rfl) rfl rfl ?_
                          refine pm_iloadn hG dX12_stepsOf_110 rfl ?_
                          refine fx_iald hG dX12_stepsOf_111 rfl hj24 ?_
                          refine pm_iloadn hG dX12_stepsOf_112 rfl ?_
                          refine pm_iconst (v := 1) hG dX12_stepsOf_113 (by decide) ?_
                          refine pm_isub hG dX12_stepsOf_114 ?_
                          refine pm_icmp_ne (tgt := 137) hG dX12_stepsOf_115 rfl (fun c30 => ?_) (fun c30 => ?_)
                          · replace hE := fx_f c30 hE
                            refine pm_iincX (v := x13_4 + 1) (loc' := [some (.ref (B + 54)), some (.int za), some (.int x9_2), some (.int x11_3), some (.int (x13_4 + 1)), some (.int x16)]) hG dX12_stepsOf_137 rfl (by rfl) (by decide) (pm_c1b rfl) rfl ?_
                            refine pm_goto (tgt := 53) hG dX12_stepsOf_140 rfl ?_
                            refine pm_fg 5 (loc' := [some (.ref (B + 54)), some (.int za), some (.int x9_2), some (.int x11_3), some (.int (x13_4 + 1)), none]) rfl ?_
                            exact ih53 _ _ hE
                          · replace hE := fx_t c30 hE
                            refine pm_aloadn hG dX12_stepsOf_118 rfl ?_
                            refine pm_getf hG dX12_stepsOf_119 (flX12_22 _ rfl) rfl rfl ?_
                            refine pm_iloadi hG dX12_stepsOf_122 rfl ?_
                            refine fx_iald hG dX12_stepsOf_124 rfl hj18 ?_
                            refine pm_iloadn hG dX12_stepsOf_125 rfl ?_
                            refine pm_icmp_le (tgt := 137) hG dX12_stepsOf_126 rfl (fun c31 => ?_) (fun c31 => ?_)
                            · replace c31 := Int32.not_lt.mpr c31
                              replace hE := fx_f c31 hE
                              refine pm_iincX (v := x13_4 + 1) (loc' := [some (.ref (B + 54)), some (.int za), some (.int x9_2), some (.int x11_3), some (.int (x13_4 + 1)), some (.int x16)]) hG dX12_stepsOf_137 rfl (by rfl) (by decide) (pm_c1b rfl) rfl ?_
                              refine pm_goto (tgt := 53) hG dX12_stepsOf_140 rfl ?_
                              refine pm_fg 5 (loc' := [some (.ref (B + 54)), some (.int za), some (.int x9_2), some (.int x11_3), some (.int (x13_4 + 1)), none]) rfl ?_
                              exact ih53 _ _ hE
                            · replace c31 := Int32.not_le.mp c31
                              replace hE := fx_t c31 hE
                              refine pm_aloadn hG dX12_stepsOf_129 rfl ?_
                              refine pm_getf hG dX12_stepsOf_130 (flX12_22 _ rfl) rfl rfl ?_
                              refine pm_iloadi hG dX12_stepsOf_133 rfl ?_
                              refine pm_iloadn hG dX12_stepsOf_135 rfl ?_
                              refine fx_iast hG dX12_stepsOf_136 rfl hj18 ?_
                              refine ma_59 ?_
                              refine fx_letm hE (fun S32 hE => ?_)
                              refine pm_iincX (v := x13_4 + 1) (loc' := [some (.ref (B + 54)), some (.int za), some (.int x9_2), some (.int x11_3), some (.int (x13_4 + 1)), some (.int x16)]) hG dX12_stepsOf_137 rfl (by rfl) (by decide) (pm_c1b rfl) rfl ?_
                              refine pm_goto (tgt := 53) hG dX12_stepsOf_140 rfl ?_
                              refine pm_fg 5 (loc' := [some (.ref (B + 54)), some (.int za), some (.int x9_2), some (.int x11_3), some (.int (x13_4 + 1)), none]) rfl ?_
                              exact ih53 _ _ hE
                    · replace c17 := Int32.not_le.mp c17
                      replace hE := fx_t c17 hE
                      refine pm_goto (tgt := 137) hG dX12_stepsOf_73 rfl ?_
                      refine pm_iincX (v := x13_4 + 1) (loc' := [some (.ref (B + 54)), some (.int za), some (.int x9_2), some (.int x11_3), some (.int (x13_4 + 1)), some (.int x16)]) hG dX12_stepsOf_137 rfl (by rfl) (by decide) (pm_c1b rfl) rfl ?_
                      refine pm_goto (tgt := 53) hG dX12_stepsOf_140 rfl ?_
                      refine pm_fg 5 (loc' := [some (.ref (B + 54)), some (.int za), some (.int x9_2), some (.int x11_3), some (.int (x13_4 + 1)), none]) rfl ?_
                      exact ih53 _ _ hE
              refine loop53 _ (fun S33 x33_4 hE => ?_) _ _ _ hE
              refine pm_iincX (v := x11_3 + 1) (loc' := [some (.ref (B + 54)), some (.int za), some (.int x9_2), some (.int (x11_3 + 1)), some (.int x33_4), none]) hG dX12_stepsOf_143 rfl (by rfl) (by decide) (pm_c1b rfl) rfl ?_
              refine pm_goto (tgt := 40) hG dX12_stepsOf_146 rfl ?_
              refine pm_fg 4 (loc' := [some (.ref (B + 54)), some (.int za), some (.int x9_2), some (.int (x11_3 + 1)), none, none]) rfl ?_
              exact ih40 _ _ hE
        refine loop40 _ (fun S34 x34_3 hE => ?_) _ _ _ hE
        refine pm_iincX (v := x9_2 + 1) (loc' := [some (.ref (B + 54)), some (.int za), some (.int (x9_2 + 1)), some (.int x34_3), none, none]) hG dX12_stepsOf_149 rfl (by rfl) (by decide) (pm_c1b rfl) rfl ?_
        refine pm_goto (tgt := 32) hG dX12_stepsOf_152 rfl ?_
        refine pm_fg 3 (loc' := [some (.ref (B + 54)), some (.int za), some (.int (x9_2 + 1)), none, none, none]) rfl ?_
        exact ih32 _ _ hE
  refine loop32 _ (fun S35 x35_2 hE => ?_) _ _ _ hE
  refine pm_aloadn hG dX12_stepsOf_155 rfl ?_
  refine pm_getf hG dX12_stepsOf_156 (flX12_22 _ rfl) rfl rfl ?_
  refine pm_iloadn hG dX12_stepsOf_159 rfl ?_
  obtain ⟨j36, hj36, hE⟩ := fb_some hE
  refine fx_iald hG dX12_stepsOf_160 rfl hj36 ?_
  exact pm_iret hG hF dX12_stepsOf_161 rfl (Nat.le_refl _) (Nat.le_refl _) (fx_rim hE)

set_option maxRecDepth 100000 in
set_option maxHeartbeats 4000000 in
theorem c_X12_finds {d : Nat} {B cnt : Nat} {σ : pm_S} {S : FS} {za : Int32} {R : Int32 × FS} (hdd : 1 ≤ d) (hE : f_X12_finds S za = some R) : pm_met mX12_finds d 0 0 B [.ref (B + 54), .int za] cnt (mst B S σ) (pm_Qi (fun v σ' cnt' => v = R.1 ∧ σ' = (mst B R.2 σ) ∧ cnt' = cnt)) := by
  refine pm_enter 0 (by decide) (Nat.le_of_ble_eq_true rfl) rfl (fun G hG hR hF => ?_)
  unfold f_X12_finds at hE
  refine pm_aloadn hG dX12_finds_0 rfl ?_
  refine pm_getf hG dX12_finds_1 (flX12_16 _ rfl) rfl rfl ?_
  refine pm_iloadn hG dX12_finds_4 rfl ?_
  refine pm_dup2 hG dX12_finds_5 rfl rfl ?_
  obtain ⟨j1, hj1, hE⟩ := fb_some hE
  refine fx_iald hG dX12_finds_6 rfl hj1 ?_
  refine pm_iconst (v := 1) hG dX12_finds_7 (by decide) ?_
  refine pm_iadd hG dX12_finds_8 ?_
  refine fx_iast hG dX12_finds_9 rfl hj1 ?_
  refine ma_57 ?_
  refine fx_letm hE (fun S2 hE => ?_)
  refine pm_ldc hG dX12_finds_10 (ctX12_67 _ rfl) ?_
  refine pm_iloadn hG dX12_finds_12 rfl ?_
  refine pm_isub hG dX12_finds_13 ?_
  exact pm_iret hG hF dX12_finds_14 rfl (Nat.le_refl _) (Nat.le_refl _) (fx_rim hE)

set_option maxRecDepth 100000 in
set_option maxHeartbeats 4000000 in
theorem c_X12_about {d : Nat} {B cnt : Nat} {σ : pm_S} {S : FS} {za : Int32} {zb : Int32} {R : Int32 × FS} (hdd : 4 ≤ d) (hE : f_X12_about S za zb = some R) : pm_met mX12_about d 0 0 B [.ref (B + 54), .int za, .int zb] cnt (mst B S σ) (pm_Qi (fun v σ' cnt' => v = R.1 ∧ σ' = (mst B R.2 σ) ∧ cnt' = cnt)) := by
  refine pm_enter 0 (by decide) (Nat.le_of_ble_eq_true rfl) rfl (fun G hG hR hF => ?_)
  unfold f_X12_about at hE
  refine pm_aloadn hG dX12_about_0 rfl ?_
  refine pm_iloadn hG dX12_about_1 rfl ?_
  refine pm_callV (As := [.int za]) (rest := []) hG hR dX12_about_2 (lkX12_91 _ rfl) okV_X12_isPerson rfl rfl (c_X12_isPerson (d := 3) (by decide) rfl) rfl rfl hdd (Nat.le_refl _) (Nat.le_refl _) (by decide) (fx_ki ?_)
  refine pm_if_ne (tgt := 14) hG dX12_about_5 rfl (fun c1 => ?_) (fun c1 => ?_)
  · replace hE := fx_f c1 hE
    refine pm_iloadn hG dX12_about_14 rfl ?_
    by_cases c2 : zb = 0
    · replace hE := fx_t c2 hE
      refine pm_top (v := 0) c2 ?_
      refine pm_tswIn (tgt := 68) hG dX12_about_15 (by decide) (by decide) rfl rfl ?_
      refine pm_aloadn hG dX12_about_68 rfl ?_
      refine pm_iloadn hG dX12_about_69 rfl ?_
      refine pm_iconst (v := 4) hG dX12_about_70 (by decide) ?_
      obtain ⟨x4, h3, hE⟩ := fb_some hE
      refine pm_callV (As := [.int za, .int 4]) (rest := []) hG hR dX12_about_71 (lkX12_72 _ rfl) okV_X12_man rfl rfl (c_X12_man (d := 3) (by decide) h3) rfl rfl hdd (Nat.le_refl _) (Nat.le_refl _) (by decide) (fx_ki ?_)
      exact pm_iret hG hF dX12_about_74 rfl (Nat.le_refl _) (Nat.le_refl _) (fx_rim hE)
    replace hE := fx_f c2 hE
    by_cases c5 : zb = 1
    · replace hE := fx_t c5 hE
      refine pm_top (v := 1) c5 ?_
      refine pm_tswIn (tgt := 75) hG dX12_about_15 (by decide) (by decide) rfl rfl ?_
      refine pm_aloadn hG dX12_about_75 rfl ?_
      refine pm_iloadn hG dX12_about_76 rfl ?_
      refine pm_bipush (v := 7) hG dX12_about_77 (by decide) ?_
      obtain ⟨x7, h6, hE⟩ := fb_some hE
      refine pm_callV (As := [.int za, .int 7]) (rest := []) hG hR dX12_about_79 (lkX12_72 _ rfl) okV_X12_man rfl rfl (c_X12_man (d := 3) (by decide) h6) rfl rfl hdd (Nat.le_refl _) (Nat.le_refl _) (by decide) (fx_ki ?_)
      exact pm_iret hG hF dX12_about_82 rfl (Nat.le_refl _) (Nat.le_refl _) (fx_rim hE)
    replace hE := fx_f c5 hE
    by_cases c8 : zb = 2
    · replace hE := fx_t c8 hE
      refine pm_top (v := 2) c8 ?_
      refine pm_tswIn (tgt := 83) hG dX12_about_15 (by decide) (by decide) rfl rfl ?_
      refine pm_aloadn hG dX12_about_83 rfl ?_
      refine pm_iloadn hG dX12_about_84 rfl ?_
      refine pm_bipush (v := 8) hG dX12_about_85 (by decide) ?_
      obtain ⟨x10, h9, hE⟩ := fb_some hE
      refine pm_callV (As := [.int za, .int 8]) (rest := []) hG hR dX12_about_87 (lkX12_72 _ rfl) okV_X12_man rfl rfl (c_X12_man (d := 3) (by decide) h9) rfl rfl hdd (Nat.le_refl _) (Nat.le_refl _) (by decide) (fx_ki ?_)
      exact pm_iret hG hF dX12_about_90 rfl (Nat.le_refl _) (Nat.le_refl _) (fx_rim hE)
    replace hE := fx_f c8 hE
    by_cases c11 : zb = 3
    · replace hE := fx_t c11 hE
      refine pm_top (v := 3) c11 ?_
      refine pm_tswIn (tgt := 91) hG dX12_about_15 (by decide) (by decide) rfl rfl ?_
      refine pm_aloadn hG dX12_about_91 rfl ?_
      refine pm_getf hG dX12_about_92 (flX12_7 _ rfl) rfl rfl ?_
      refine pm_bipush (v := 8) hG dX12_about_95 (by decide) ?_
      refine fx_iald hG dX12_about_97 rfl (ix_lit (by decide) rfl) ?_
      refine pm_aloadn hG dX12_about_98 rfl ?_
      refine pm_iloadn hG dX12_about_99 rfl ?_
      refine pm_iconst (v := 1) hG dX12_about_100 (by decide) ?_
      obtain ⟨x13, h12, hE⟩ := fb_some hE
      refine pm_callV (As := [.int za, .int 1]) (rest := [.int (S.2 55 8)]) hG hR dX12_about_101 (lkX12_72 _ rfl) okV_X12_man rfl rfl (c_X12_man (d := 3) (by decide) h12) rfl rfl hdd (Nat.le_refl _) (Nat.le_refl _) (by first | decide | exact Nat.le_of_ble_eq_true rfl) (fx_ki ?_)
      refine pm_isub hG dX12_about_104 ?_
      refine pm_sipush (v := 360) hG dX12_about_105 (by decide) ?_
      refine pm_idiv hG dX12_about_108 (by decide) ?_
      exact pm_iret hG hF dX12_about_109 rfl (Nat.le_refl _) (Nat.le_refl _) (fx_rim hE)
    replace hE := fx_f c11 hE
    by_cases c14 : zb = 4
    · replace hE := fx_t c14 hE
      refine pm_top (v := 4) c14 ?_
      refine pm_tswIn (tgt := 110) hG dX12_about_15 (by decide) (by decide) rfl rfl ?_
      refine pm_aloadn hG dX12_about_110 rfl ?_
      refine pm_iloadn hG dX12_about_111 rfl ?_
      obtain ⟨r16, h15, hE⟩ := fb_some hE
      refine pm_callV (As := [.int za]) (rest := []) hG hR dX12_about_112 (lkX12_104 _ rfl) okV_X12_knownTo rfl rfl (c_X12_knownTo (d := 3) (by decide) h15) rfl rfl hdd (Nat.le_refl _) (Nat.le_refl _) (by decide) (fx_ki ?_)
      exact pm_iret hG hF dX12_about_115 rfl (Nat.le_refl _) (Nat.le_refl _) (fx_rim hE)
    replace hE := fx_f c14 hE
    by_cases c17 : zb = 5
    · replace hE := fx_t c17 hE
      refine pm_top (v := 5) c17 ?_
      refine pm_tswIn (tgt := 116) hG dX12_about_15 (by decide) (by decide) rfl rfl ?_
      refine pm_aloadn hG dX12_about_116 rfl ?_
      refine pm_iloadn hG dX12_about_117 rfl ?_
      obtain ⟨x19, h18, hE⟩ := fb_some hE
      refine pm_callV (As := [.int za]) (rest := []) hG hR dX12_about_118 (lkX12_122 _ rfl) okV_X12_holdsMany rfl rfl (c_X12_holdsMany (d := 3) (by decide) h18) rfl rfl hdd (Nat.le_refl _) (Nat.le_refl _) (by decide) (fx_ki ?_)
      exact pm_iret hG hF dX12_about_121 rfl (Nat.le_refl _) (Nat.le_refl _) (fx_rim hE)
    replace hE := fx_f c17 hE
    by_cases c20 : zb = 6
    · replace hE := fx_t c20 hE
      refine pm_top (v := 6) c20 ?_
      refine pm_tswIn (tgt := 122) hG dX12_about_15 (by decide) (by decide) rfl rfl ?_
      refine pm_aloadn hG dX12_about_122 rfl ?_
      refine pm_iloadn hG dX12_about_123 rfl ?_
      obtain ⟨x22, h21, hE⟩ := fb_some hE
      refine pm_callV (As := [.int za]) (rest := []) hG hR dX12_about_124 (lkX12_101 _ rfl) okV_X12_lives rfl rfl (c_X12_lives (d := 3) (by decide) h21) rfl rfl hdd (Nat.le_refl _) (Nat.le_refl _) (by decide) (fx_ki ?_)
      refine pm_if_eq (tgt := 134) hG dX12_about_127 rfl (fun c23 => ?_) (fun c23 => ?_)
      · replace hE := fx_t c23 hE
        refine pm_iconst (v := 1) hG dX12_about_134 (by decide) ?_
        exact pm_iret hG hF dX12_about_135 rfl (Nat.le_refl _) (Nat.le_refl _) (fx_rim hE)
      · replace hE := fx_f c23 hE
        refine pm_iconst (v := 0) hG dX12_about_130 (by decide) ?_
        refine pm_goto (tgt := 135) hG dX12_about_131 rfl ?_
        exact pm_iret hG hF dX12_about_135 rfl (Nat.le_refl _) (Nat.le_refl _) (fx_rim hE)
    replace hE := fx_f c20 hE
    by_cases c24 : zb = 7
    · replace hE := fx_t c24 hE
      refine pm_top (v := 7) c24 ?_
      refine pm_tswIn (tgt := 136) hG dX12_about_15 (by decide) (by decide) rfl rfl ?_
      refine pm_aloadn hG dX12_about_136 rfl ?_
      refine pm_iloadn hG dX12_about_137 rfl ?_
      refine pm_bipush (v := 11) hG dX12_about_138 (by decide) ?_
      obtain ⟨x26, h25, hE⟩ := fb_some hE
      refine pm_callV (As := [.int za, .int 11]) (rest := []) hG hR dX12_about_140 (lkX12_72 _ rfl) okV_X12_man rfl rfl (c_X12_man (d := 3) (by decide) h25) rfl rfl hdd (Nat.le_refl _) (Nat.le_refl _) (by decide) (fx_ki ?_)
      exact pm_iret hG hF dX12_about_143 rfl (Nat.le_refl _) (Nat.le_refl _) (fx_rim hE)
    replace hE := fx_f c24 hE
    by_cases c27 : zb = 8
    · replace hE := fx_t c27 hE
      refine pm_top (v := 8) c27 ?_
      refine pm_tswIn (tgt := 144) hG dX12_about_15 (by decide) (by decide) rfl rfl ?_
      refine pm_aloadn hG dX12_about_144 rfl ?_
      refine pm_iloadn hG dX12_about_145 rfl ?_
      obtain ⟨r29, h28, hE⟩ := fb_some hE
      refine pm_callV (As := [.int za]) (rest := []) hG hR dX12_about_146 (lkX12_125 _ rfl) okV_X12_stepsOf rfl rfl (c_X12_stepsOf (d := 3) (by decide) h28) rfl rfl hdd (Nat.le_refl _) (Nat.le_refl _) (by decide) (fx_ki ?_)
      exact pm_iret hG hF dX12_about_149 rfl (Nat.le_refl _) (Nat.le_refl _) (fx_rim hE)
    replace hE := fx_f c27 hE
    by_cases c30 : zb = 9
    · replace hE := fx_t c30 hE
      refine pm_top (v := 9) c30 ?_
      refine pm_tswIn (tgt := 150) hG dX12_about_15 (by decide) (by decide) rfl rfl ?_
      refine pm_aloadn hG dX12_about_150 rfl ?_
      refine pm_iloadn hG dX12_about_151 rfl ?_
      refine pm_bipush (v := 12) hG dX12_about_152 (by decide) ?_
      obtain ⟨x32, h31, hE⟩ := fb_some hE
      refine pm_callV (As := [.int za, .int 12]) (rest := []) hG hR dX12_about_154 (lkX12_72 _ rfl) okV_X12_man rfl rfl (c_X12_man (d := 3) (by decide) h31) rfl rfl hdd (Nat.le_refl _) (Nat.le_refl _) (by decide) (fx_ki ?_)
      exact pm_iret hG hF dX12_about_157 rfl (Nat.le_refl _) (Nat.le_refl _) (fx_rim hE)
    replace hE := fx_f c30 hE
    have tc2 : ¬ zb.toInt = 0 := fun q => c2 (Int32.toInt_inj.mp q)
    have tc5 : ¬ zb.toInt = 1 := fun q => c5 (Int32.toInt_inj.mp q)
    have tc8 : ¬ zb.toInt = 2 := fun q => c8 (Int32.toInt_inj.mp q)
    have tc11 : ¬ zb.toInt = 3 := fun q => c11 (Int32.toInt_inj.mp q)
    have tc14 : ¬ zb.toInt = 4 := fun q => c14 (Int32.toInt_inj.mp q)
    have tc17 : ¬ zb.toInt = 5 := fun q => c17 (Int32.toInt_inj.mp q)
    have tc20 : ¬ zb.toInt = 6 := fun q => c20 (Int32.toInt_inj.mp q)
    have tc24 : ¬ zb.toInt = 7 := fun q => c24 (Int32.toInt_inj.mp q)
    have tc27 : ¬ zb.toInt = 8 := fun q => c27 (Int32.toInt_inj.mp q)
    have tc30 : ¬ zb.toInt = 9 := fun q => c30 (Int32.toInt_inj.mp q)
    refine pm_tswOut (tgt := 158) hG dX12_about_15 (by omega) rfl ?_
    refine pm_aloadn hG dX12_about_158 rfl ?_
    refine pm_iconst (v := 1) hG dX12_about_159 (by decide) ?_
    obtain ⟨r34, h33, hE⟩ := fb_some hE
    refine pm_callV (As := [.int 1]) (rest := []) hG hR dX12_about_160 (lkX12_80 _ rfl) okV_X12_finds rfl rfl (c_X12_finds (d := 3) (by decide) h33) rfl rfl hdd (Nat.le_refl _) (Nat.le_refl _) (by decide) (fx_ki ?_)
    exact pm_iret hG hF dX12_about_163 rfl (Nat.le_refl _) (Nat.le_refl _) (fx_rim hE)
  · replace hE := fx_t c1 hE
    refine pm_aloadn hG dX12_about_8 rfl ?_
    refine pm_iconst (v := 1) hG dX12_about_9 (by decide) ?_
    obtain ⟨r36, h35, hE⟩ := fb_some hE
    refine pm_callV (As := [.int 1]) (rest := []) hG hR dX12_about_10 (lkX12_80 _ rfl) okV_X12_finds rfl rfl (c_X12_finds (d := 3) (by decide) h35) rfl rfl hdd (Nat.le_refl _) (Nat.le_refl _) (by decide) (fx_ki ?_)
    exact pm_iret hG hF dX12_about_13 rfl (Nat.le_refl _) (Nat.le_refl _) (fx_rim hE)
