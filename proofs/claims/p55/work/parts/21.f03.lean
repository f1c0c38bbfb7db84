section
set_option maxRecDepth 100000 in
set_option maxHeartbeats 4000000 in
theorem c_X12_weightOf {d : Nat} {B cnt : Nat} {σ : pm_S} {S : FS} {za : Int32} {R : Int32} (hdd : 1 ≤ d) (hE : q_X12_weightOf S za = some R) : pm_met mX12_weightOf d 0 0 B [.ref (B + 54), .int za] cnt (mst B S σ) (pm_Qi (fun v σ' cnt' => v = R ∧ σ' = (mst B S σ) ∧ cnt' = cnt)) := by
  refine pm_enter 2 (by decide) (Nat.le_of_ble_eq_true rfl) rfl (fun G hG hR hF => ?_)
  unfold q_X12_weightOf at hE
  refine pm_iconst (v := 0) hG dX12_weightOf_0 (by decide) ?_
  refine pm_istoreXn (loc' := [some (.ref (B + 54)), some (.int za), some (.int 0), none]) hG dX12_weightOf_1 (by decide) (pm_c1b rfl) rfl ?_
  refine pm_iconst (v := 0) hG dX12_weightOf_2 (by decide) ?_
  refine pm_istoreXn (loc' := [some (.ref (B + 54)), some (.int za), some (.int 0), some (.int 0)]) hG dX12_weightOf_3 (by decide) (pm_c1b rfl) rfl ?_
  have loop4 : ∀ (k4 : Int32 → Int32 → Option Int32), (∀  (x1_2 : Int32) (x1_3 : Int32), k4  x1_2 x1_3 = some R → pm_wp mX12_weightOf G B 47 [some (.ref (B + 54)), some (.int za), some (.int x1_2), some (.int x1_3)] [] 0 0 cnt (mst B S σ)) → ∀ (m4 : Nat)  (x1_2 : Int32) (x1_3 : Int32), l_X12_weightOf_4 za S k4 m4  x1_2 x1_3 = some R → pm_wp mX12_weightOf G B 4 [some (.ref (B + 54)), some (.int za), some (.int x1_2), some (.int x1_3)] [] 0 0 cnt (mst B S σ) := by
    intro k4 hk4 m4
    induction m4 with
    | zero => intro  x1_2 x1_3 hE; exact fx_no hE
    | succ m4 ih4 =>
      intro  x1_2 x1_3 hE
      rw [l_X12_weightOf_4] at hE
      refine pm_iloadn hG dX12_weightOf_4 rfl ?_
      refine pm_aloadn hG dX12_weightOf_5 rfl ?_
      refine pm_getf hG dX12_weightOf_6 (flX12_7 _ rfl) rfl rfl ?_
      refine pm_iconst (v := 2) hG dX12_weightOf_9 (by decide) ?_
      refine fx_iald hG dX12_weightOf_10 rfl (ix_lit (by decide) rfl) ?_
      refine pm_icmp_ge (tgt := 47) hG dX12_weightOf_11 rfl (fun c2 => ?_) (fun c2 => ?_)
      · replace c2 := Int32.not_lt.mpr c2
        replace hE := fx_f c2 hE
        exact hk4 _ _ hE
      · replace c2 := Int32.not_le.mp c2
        replace hE := fx_t c2 hE
        refine pm_iloadn hG dX12_weightOf_14 rfl ?_
        refine pm_iloadn hG dX12_weightOf_15 rfl ?_
        refine pm_if_ne (tgt := 29) hG dX12_weightOf_16 rfl (fun c3 => ?_) (fun c3 => ?_)
        · replace hE := fx_f c3 hE
          refine pm_aloadn hG dX12_weightOf_29 rfl ?_
          refine pm_getf hG dX12_weightOf_30 (flX12_37 _ rfl) rfl rfl ?_
          refine pm_iloadn hG dX12_weightOf_33 rfl ?_
          obtain ⟨j4, hj4, hE⟩ := fb_some hE
          refine fx_iald hG dX12_weightOf_34 rfl hj4 ?_
          refine pm_goto (tgt := 39) hG dX12_weightOf_35 rfl ?_
          refine pm_iadd hG dX12_weightOf_39 ?_
          refine fx_letv hE (fun x5 hE => ?_)
          refine pm_istoreXn (loc' := [some (.ref (B + 54)), some (.int za), some (.int x5), some (.int x1_3)]) hG dX12_weightOf_40 (by decide) (pm_c1b rfl) rfl ?_
          refine pm_iincX (v := x1_3 + 1) (loc' := [some (.ref (B + 54)), some (.int za), some (.int x5), some (.int (x1_3 + 1))]) hG dX12_weightOf_41 rfl (by rfl) (by decide) (pm_c1b rfl) rfl ?_
          refine pm_goto (tgt := 4) hG dX12_weightOf_44 rfl ?_
          exact ih4 _ _ hE
        · replace hE := fx_t c3 hE
          refine pm_aloadn hG dX12_weightOf_19 rfl ?_
          refine pm_getf hG dX12_weightOf_20 (flX12_40 _ rfl) rfl rfl ?_
          refine pm_iloadn hG dX12_weightOf_23 rfl ?_
          obtain ⟨j6, hj6, hE⟩ := fb_some hE
          refine fx_iald hG dX12_weightOf_24 rfl hj6 ?_
          refine pm_iconst (v := 1) hG dX12_weightOf_25 (by decide) ?_
          refine pm_icmp_ne (tgt := 38) hG dX12_weightOf_26 rfl (fun c7 => ?_) (fun c7 => ?_)
          · replace hE := fx_f c7 hE
            refine pm_iconst (v := 0) hG dX12_weightOf_38 (by decide) ?_
            refine pm_iadd hG dX12_weightOf_39 ?_
            refine fx_letv hE (fun x8 hE => ?_)
            refine pm_istoreXn (loc' := [some (.ref (B + 54)), some (.int za), some (.int x8), some (.int x1_3)]) hG dX12_weightOf_40 (by decide) (pm_c1b rfl) rfl ?_
            refine pm_iincX (v := x1_3 + 1) (loc' := [some (.ref (B + 54)), some (.int za), some (.int x8), some (.int (x1_3 + 1))]) hG dX12_weightOf_41 rfl (by rfl) (by decide) (pm_c1b rfl) rfl ?_
            refine pm_goto (tgt := 4) hG dX12_weightOf_44 rfl ?_
            exact ih4 _ _ hE
          · replace hE := fx_t c7 hE
            refine pm_aloadn hG dX12_weightOf_29 rfl ?_
            refine pm_getf hG dX12_weightOf_30 (flX12_37 _ rfl) rfl rfl ?_
            refine pm_iloadn hG dX12_weightOf_33 rfl ?_
            refine fx_iald hG dX12_weightOf_34 rfl hj6 ?_
            refine pm_goto (tgt := 39) hG dX12_weightOf_35 rfl ?_
            refine pm_iadd hG dX12_weightOf_39 ?_
            refine fx_letv hE (fun x9 hE => ?_)
            refine pm_istoreXn (loc' := [some (.ref (B + 54)), some (.int za), some (.int x9), some (.int x1_3)]) hG dX12_weightOf_40 (by decide) (pm_c1b rfl) rfl ?_
            refine pm_iincX (v := x1_3 + 1) (loc' := [some (.ref (B + 54)), some (.int za), some (.int x9), some (.int (x1_3 + 1))]) hG dX12_weightOf_41 rfl (by rfl) (by decide) (pm_c1b rfl) rfl ?_
            refine pm_goto (tgt := 4) hG dX12_weightOf_44 rfl ?_
            exact ih4 _ _ hE
  refine loop4 _ (fun  x10_2 x10_3 hE => ?_) _ _ _ hE
  refine pm_iloadn hG dX12_weightOf_47 rfl ?_
  exact pm_iret hG hF dX12_weightOf_48 rfl (Nat.le_refl _) (Nat.le_refl _) (fx_pi (Option.some.inj hE))

set_option maxRecDepth 100000 in
set_option maxHeartbeats 4000000 in
theorem c_X12_buying {d : Nat} {B cnt : Nat} {σ : pm_S} {S : FS} {za : Int32} {zb : Int32} {R : Int32 × FS} (hdd : 6 ≤ d) (h74 : 74 ≤ cnt) (hE : f_X12_buying S za zb = some R) : pm_met mX12_buying d 1 9 B [.ref (B + 54), .int za, .int zb] cnt (mst B S σ) (pm_Qi (fun v σ' cnt' => v = R.1 ∧ (∃ τ : pm_S, σ' = (mst B R.2 τ) ∧ ∀ j : Nat, j < cnt → τ j = σ j) ∧ cnt ≤ cnt')) := by
  refine pm_enter 11 (by decide) (Nat.le_of_ble_eq_true rfl) rfl (fun G hG hR hF => ?_)
  unfold f_X12_buying at hE
  refine pm_iloadn hG dX12_buying_0 rfl ?_
  refine pm_iconst (v := 0) hG dX12_buying_1 (by decide) ?_
  refine pm_iconst (v := 5) hG dX12_buying_2 (by decide) ?_
  refine pm_callS (As := [.int za, .int 0, .int 5]) (rest := []) hG hR dX12_buying_3 (lkX12_68 _ rfl) okS_X12_in (c_X12_in (d := 5) (by decide) rfl) rfl rfl hdd (by decide) (by decide) (by decide) (fx_ki ?_)
  refine pm_if_eq (tgt := 18) hG dX12_buying_6 rfl (fun c1 => ?_) (fun c1 => ?_)
  · replace hE := fx_t c1 hE
    refine pm_aloadn hG dX12_buying_18 rfl ?_
    refine pm_iconst (v := 1) hG dX12_buying_19 (by decide) ?_
    obtain ⟨r3, h2, hE⟩ := fb_some hE
    refine pm_callV (As := [.int 1]) (rest := []) hG hR dX12_buying_20 (lkX12_80 _ rfl) okV_X12_finds rfl rfl (c_X12_finds (d := 5) (by decide) h2) rfl rfl hdd (by decide) (by decide) (by decide) (fx_ki ?_)
    exact pm_iret hG hF dX12_buying_23 rfl (by decide) (by decide) (fx_rix hE (fun j hj => rfl) (by omega))
  · replace hE := fx_f c1 hE
    refine pm_iloadn hG dX12_buying_9 rfl ?_
    refine pm_iconst (v := 0) hG dX12_buying_10 (by decide) ?_
    refine pm_iconst (v := 1) hG dX12_buying_11 (by decide) ?_
    refine pm_callS (As := [.int zb, .int 0, .int 1]) (rest := []) hG hR dX12_buying_12 (lkX12_68 _ rfl) okS_X12_in (c_X12_in (d := 5) (by decide) rfl) rfl rfl hdd (by decide) (by decide) (by decide) (fx_ki ?_)
    refine pm_if_ne (tgt := 24) hG dX12_buying_15 rfl (fun c4 => ?_) (fun c4 => ?_)
    · replace hE := fx_f c4 hE
      refine pm_aloadn hG dX12_buying_24 rfl ?_
      refine pm_iloadn hG dX12_buying_25 rfl ?_
      obtain ⟨r6, h5, hE⟩ := fb_some hE
      refine pm_callV (As := [.int za]) (rest := []) hG hR dX12_buying_26 (lkX12_246 _ rfl) okV_X12_weigh rfl rfl (c_X12_weigh (d := 5) (by decide) h5) rfl rfl hdd (by decide) (by decide) (by decide) (fx_kv ?_)
      refine pm_bipush (v := 9) hG dX12_buying_29 (by decide) ?_
      refine pm_newi (N := 9) hG hR dX12_buying_31 (by decide) (by decide) (by decide) (by decide) (by decide) ?_
      refine pm_nrw (by omega) ?_
      refine fx_letw (F := fun q => (mst B r6.2 (pm_up σ cnt (.inl (9, q))))) hE (fun w7 hE => ?_)
      refine pm_nums (cs' := 1) (zs' := 9) (cnt' := cnt + 1) rfl rfl rfl ?_
      refine pm_astoreXn (loc' := [some (.ref (B + 54)), some (.int za), some (.int zb), some (.ref (B + cnt)), none, none, none, none, none, none, none, none, none, none]) hG dX12_buying_33 (by decide) (pm_c1b rfl) rfl ?_
      refine pm_iconst (v := 0) hG dX12_buying_34 (by decide) ?_
      refine pm_istoreXi (loc' := [some (.ref (B + 54)), some (.int za), some (.int zb), some (.ref (B + cnt)), some (.int 0), none, none, none, none, none, none, none, none, none]) hG dX12_buying_35 (by decide) (pm_c1b rfl) rfl ?_
      refine pm_iconst (v := 0) hG dX12_buying_37 (by decide) ?_
      refine pm_istoreXi (loc' := [some (.ref (B + 54)), some (.int za), some (.int zb), some (.ref (B + cnt)), some (.int 0), some (.int 0), none, none, none, none, none, none, none, none]) hG dX12_buying_38 (by decide) (pm_c1b rfl) rfl ?_
      have loop40 : ∀ (k40 : FS → Int32 → Int32 → (Nat → Int32) → Option (Int32 × FS)), (∀ (S8 : FS) (x8_4 : Int32) (x8_5 : Int32) (w8_0 : (Nat → Int32)), k40 S8  x8_4 x8_5 w8_0 = some R → pm_wp mX12_buying G B 91 [some (.ref (B + 54)), some (.int za), some (.int zb), some (.ref (B + cnt)), some (.int x8_4), some (.int x8_5), none, none, none, none, none, none, none, none] [] 1 9 (cnt + 1) (mst B S8 (pm_up σ cnt (.inl (9, w8_0))))) → ∀ (m40 : Nat) (S8 : FS) (x8_4 : Int32) (x8_5 : Int32) (w8_0 : (Nat → Int32)), l_X12_buying_40 k40 m40 S8  x8_4 x8_5 w8_0 = some R → pm_wp mX12_buying G B 40 [some (.ref (B + 54)), some (.int za), some (.int zb), some (.ref (B + cnt)), some (.int x8_4), some (.int x8_5), none, none, none, none, none, none, none, none] [] 1 9 (cnt + 1) (mst B S8 (pm_up σ cnt (.inl (9, w8_0)))) := by
        intro k40 hk40 m40
        induction m40 with
        | zero => intro S8  x8_4 x8_5 w8_0 hE; exact fx_no hE
        | succ m40 ih40 =>
          intro S8  x8_4 x8_5 w8_0 hE
          rw [l_X12_buying_40] at hE
          refine pm_iloadi hG dX12_buying_40 rfl ?_
          refine pm_aloadn hG dX12_buying_42 rfl ?_
          refine pm_getf hG dX12_buying_43 (flX12_7 _ rfl) rfl rfl ?_
          refine pm_iconst (v := 2) hG dX12_buying_46 (by decide) ?_
          refine fx_iald hG dX12_buying_47 rfl (ix_lit (by decide) rfl) ?_
          refine pm_icmp_ge (tgt := 91) hG dX12_buying_48 rfl (fun c9 => ?_) (fun c9 => ?_)
          · replace c9 := Int32.not_lt.mpr c9
            replace hE := fx_f c9 hE
            exact hk40 _ _ _ _ hE
          · replace c9 := Int32.not_le.mp c9
            replace hE := fx_t c9 hE
            refine pm_aloadn hG dX12_buying_51 rfl ?_
            refine pm_iloadi hG dX12_buying_52 rfl ?_
            refine pm_bipush (v := 11) hG dX12_buying_54 (by decide) ?_
            obtain ⟨x11, h10, hE⟩ := fb_some hE
            refine pm_callV (As := [.int x8_5, .int 11]) (rest := []) hG hR dX12_buying_56 (lkX12_72 _ rfl) okV_X12_man rfl rfl (c_X12_man (d := 5) (by decide) h10) rfl rfl hdd (by decide) (by decide) (by decide) (fx_ki ?_)
            refine pm_if_eq (tgt := 85) hG dX12_buying_59 rfl (fun c12 => ?_) (fun c12 => ?_)
            · replace hE := fx_t c12 hE
              refine pm_iincX (v := x8_5 + 1) (loc' := [some (.ref (B + 54)), some (.int za), some (.int zb), some (.ref (B + cnt)), some (.int x8_4), some (.int (x8_5 + 1)), none, none, none, none, none, none, none, none]) hG dX12_buying_85 rfl (by rfl) (by decide) (pm_c1b rfl) rfl ?_
              refine pm_goto (tgt := 40) hG dX12_buying_88 rfl ?_
              exact ih40 _ _ _ _ hE
            · replace hE := fx_f c12 hE
              refine pm_aloadn hG dX12_buying_62 rfl ?_
              refine pm_getf hG dX12_buying_63 (flX12_40 _ rfl) rfl rfl ?_
              refine pm_iloadi hG dX12_buying_66 rfl ?_
              obtain ⟨j13, hj13, hE⟩ := fb_some hE
              refine fx_iald hG dX12_buying_68 rfl hj13 ?_
              refine pm_iconst (v := 1) hG dX12_buying_69 (by decide) ?_
              refine pm_icmp_ne (tgt := 76) hG dX12_buying_70 rfl (fun c14 => ?_) (fun c14 => ?_)
              · replace hE := fx_f c14 hE
                refine pm_aloadn hG dX12_buying_76 rfl ?_
                refine pm_iloadi hG dX12_buying_77 rfl ?_
                refine pm_iloadi hG dX12_buying_79 rfl ?_
                obtain ⟨j15, hj15, hE⟩ := fb_some hE
                refine fx_iast hG dX12_buying_81 (fxm_a1_0 h74) hj15 ?_
                refine fxm_w1_0 h74 ?_
                refine fx_letw (F := fun q => (mst B S8 (pm_up σ cnt (.inl (9, q))))) hE (fun w16 hE => ?_)
                refine pm_iincX (v := x8_4 + 1) (loc' := [some (.ref (B + 54)), some (.int za), some (.int zb), some (.ref (B + cnt)), some (.int (x8_4 + 1)), some (.int x8_5), none, none, none, none, none, none, none, none]) hG dX12_buying_82 rfl (by rfl) (by decide) (pm_c1b rfl) rfl ?_
                refine pm_iincX (v := x8_5 + 1) (loc' := [some (.ref (B + 54)), some (.int za), some (.int zb), some (.ref (B + cnt)), some (.int (x8_4 + 1)), some (.int (x8_5 + 1)), none, none, none, none, none, none, none, none]) hG dX12_buying_85 rfl (by rfl) (by decide) (pm_c1b rfl) rfl ?_
                refine pm_goto (tgt := 40) hG dX12_buying_88 rfl ?_
                exact ih40 _ _ _ _ hE
              · replace hE := fx_t c14 hE
                refine pm_goto (tgt := 85) hG dX12_buying_73 rfl ?_
                refine pm_iincX (v := x8_5 + 1) (loc' := [some (.ref (B + 54)), some (.int za), some (.int zb), some (.ref (B + cnt)), some (.int x8_4), some (.int (x8_5 + 1)), none, none, none, none, none, none, none, none]) hG dX12_buying_85 rfl (by rfl) (by decide) (pm_c1b rfl) rfl ?_
                refine pm_goto (tgt := 40) hG dX12_buying_88 rfl ?_
                exact ih40 _ _ _ _ hE
      refine loop40 _ (fun S17 x17_4 x17_5 w17_0 hE => ?_) _ _ _ _ _ hE
      refine pm_aloadn hG dX12_buying_91 rfl ?_
      refine pm_iconst (v := 0) hG dX12_buying_92 (by decide) ?_
      obtain ⟨x19, h18, hE⟩ := fb_some hE
      refine pm_callV (As := [.int 0]) (rest := []) hG hR dX12_buying_93 (lkX12_249 _ rfl) okV_X12_weightOf rfl rfl (c_X12_weightOf (d := 5) (by decide) h18) rfl rfl hdd (by decide) (by decide) (by decide) (fx_ki ?_)
      refine pm_istoreXi (loc' := [some (.ref (B + 54)), some (.int za), some (.int zb), some (.ref (B + cnt)), some (.int x17_4), some (.int x19), none, none, none, none, none, none, none, none]) hG dX12_buying_96 (by decide) (pm_c1b rfl) rfl ?_
      refine pm_aloadn hG dX12_buying_98 rfl ?_
      refine pm_iconst (v := 1) hG dX12_buying_99 (by decide) ?_
      obtain ⟨x21, h20, hE⟩ := fb_some hE
      refine pm_callV (As := [.int 1]) (rest := []) hG hR dX12_buying_100 (lkX12_249 _ rfl) okV_X12_weightOf rfl rfl (c_X12_weightOf (d := 5) (by decide) h20) rfl rfl hdd (by decide) (by decide) (by decide) (fx_ki ?_)
      refine pm_istoreXi (loc' := [some (.ref (B + 54)), some (.int za), some (.int zb), some (.ref (B + cnt)), some (.int x17_4), some (.int x19), some (.int x21), none, none, none, none, none, none, none]) hG dX12_buying_103 (by decide) (pm_c1b rfl) rfl ?_
      refine pm_iconst (v := (-1)) hG dX12_buying_105 (by decide) ?_
      refine pm_istoreXi (loc' := [some (.ref (B + 54)), some (.int za), some (.int zb), some (.ref (B + cnt)), some (.int x17_4), some (.int x19), some (.int x21), some (.int (-1)), none, none, none, none, none, none]) hG dX12_buying_106 (by decide) (pm_c1b rfl) rfl ?_
      refine pm_iconst (v := 0) hG dX12_buying_108 (by decide) ?_
      refine pm_istoreXi (loc' := [some (.ref (B + 54)), some (.int za), some (.int zb), some (.ref (B + cnt)), some (.int x17_4), some (.int x19), some (.int x21), some (.int (-1)), some (.int 0), none, none, none, none, none]) hG dX12_buying_109 (by decide) (pm_c1b rfl) rfl ?_
      refine pm_iconst (v := 0) hG dX12_buying_111 (by decide) ?_
      refine pm_istoreXi (loc' := [some (.ref (B + 54)), some (.int za), some (.int zb), some (.ref (B + cnt)), some (.int x17_4), some (.int x19), some (.int x21), some (.int (-1)), some (.int 0), some (.int 0), none, none, none, none]) hG dX12_buying_112 (by decide) (pm_c1b rfl) rfl ?_
      have loop114 : ∀ (k114 : FS → Int32 → Int32 → Int32 → Option (Int32 × FS)), (∀ (S22 : FS) (x22_7 : Int32) (x22_8 : Int32) (x22_9 : Int32), k114 S22  x22_7 x22_8 x22_9 = some R → pm_wp mX12_buying G B 280 [some (.ref (B + 54)), some (.int za), some (.int zb), some (.ref (B + cnt)), some (.int x17_4), some (.int x19), some (.int x21), some (.int x22_7), some (.int x22_8), some (.int x22_9), none, none, none, none] [] 1 9 (cnt + 1) (mst B S22 (pm_up σ cnt (.inl (9, w17_0))))) → ∀ (m114 : Nat) (S22 : FS) (x22_7 : Int32) (x22_8 : Int32) (x22_9 : Int32), l_X12_buying_114 x17_4 w17_0 x19 x21 k114 m114 S22  x22_7 x22_8 x22_9 = some R → pm_wp mX12_buying G B 114 [some (.ref (B + 54)), some (.int za), some (.int zb), some (.ref (B + cnt)), some (.int x17_4), some (.int x19), some (.int x21), some (.int x22_7), some (.int x22_8), some (.int x22_9), none, none, none, none] [] 1 9 (cnt + 1) (mst B S22 (pm_up σ cnt (.inl (9, w17_0)))) := by
        intro k114 hk114 m114
        induction m114 with
        | zero => intro S22  x22_7 x22_8 x22_9 hE; exact fx_no hE
        | succ m114 ih114 =>
          intro S22  x22_7 x22_8 x22_9 hE
          rw [l_X12_buying_114] at hE
          refine pm_iloadi hG dX12_buying_114 rfl ?_
          refine pm_iconst (v := 1) hG dX12_buying_116 (by decide) ?_
          refine pm_iloadi hG dX12_buying_117 rfl ?_
          refine pm_ishl hG dX12_buying_119 ?_
          refine pm_icmp_ge (tgt := 280) hG dX12_buying_120 rfl (fun c23 => ?_) (fun c23 => ?_)
          · replace c23 := Int32.not_lt.mpr c23
            replace hE := fx_f c23 hE
            exact hk114 _ _ _ _ hE
          · replace c23 := Int32.not_le.mp c23
            replace hE := fx_t c23 hE
            refine pm_iloadi hG dX12_buying_123 rfl ?_
            refine pm_istoreXi (loc' := [some (.ref (B + 54)), some (.int za), some (.int zb), some (.ref (B + cnt)), some (.int x17_4), some (.int x19), some (.int x21), some (.int x22_7), some (.int x22_8), some (.int x22_9), some (.int x19), none, none, none]) hG dX12_buying_125 (by decide) (pm_c1b rfl) rfl ?_
            refine pm_iconst (v := 0) hG dX12_buying_127 (by decide) ?_
            refine pm_istoreXi (loc' := [some (.ref (B + 54)), some (.int za), some (.int zb), some (.ref (B + cnt)), some (.int x17_4), some (.int x19), some (.int x21), some (.int x22_7), some (.int x22_8), some (.int x22_9), some (.int x19), some (.int 0), none, none]) hG dX12_buying_128 (by decide) (pm_c1b rfl) rfl ?_
            refine pm_iconst (v := 0) hG dX12_buying_130 (by decide) ?_
            refine pm_istoreXi (loc' := [some (.ref (B + 54)), some (.int za), some (.int zb), some (.ref (B + cnt)), some (.int x17_4), some (.int x19), some (.int x21), some (.int x22_7), some (.int x22_8), some (.int x22_9), some (.int x19), some (.int 0), some (.int 0), none]) hG dX12_buying_131 (by decide) (pm_c1b rfl) rfl ?_
            refine pm_iconst (v := 0) hG dX12_buying_133 (by decide) ?_
            refine pm_istoreXi (loc' := [some (.ref (B + 54)), some (.int za), some (.int zb), some (.ref (B + cnt)), some (.int x17_4), some (.int x19), some (.int x21), some (.int x22_7), some (.int x22_8), some (.int x22_9), some (.int x19), some (.int 0), some (.int 0), some (.int 0)]) hG dX12_buying_134 (by decide) (pm_c1b rfl) rfl ?_
            have loop136 : ∀ (k136 : FS → Int32 → Int32 → Int32 → Int32 → Option (Int32 × FS)), (∀ (S24 : FS) (x24_10 : Int32) (x24_11 : Int32) (x24_12 : Int32) (x24_13 : Int32), k136 S24  x24_10 x24_11 x24_12 x24_13 = some R → pm_wp mX12_buying G B 202 [some (.ref (B + 54)), some (.int za), some (.int zb), some (.ref (B + cnt)), some (.int x17_4), some (.int x19), some (.int x21), some (.int x22_7), some (.int x22_8), some (.int x22_9), some (.int x24_10), some (.int x24_11), some (.int x24_12), some (.int x24_13)] [] 1 9 (cnt + 1) (mst B S24 (pm_up σ cnt (.inl (9, w17_0))))) → ∀ (m136 : Nat) (S24 : FS) (x24_10 : Int32) (x24_11 : Int32) (x24_12 : Int32) (x24_13 : Int32), l_X12_buying_136 x17_4 w17_0 x22_9 k136 m136 S24  x24_10 x24_11 x24_12 x24_13 = some R → pm_wp mX12_buying G B 136 [some (.ref (B + 54)), some (.int za), some (.int zb), some (.ref (B + cnt)), some (.int x17_4), some (.int x19), some (.int x21), some (.int x22_7), some (.int x22_8), some (.int x22_9), some (.int x24_10), some (.int x24_11), some (.int x24_12), some (.int x24_13)] [] 1 9 (cnt + 1) (mst B S24 (pm_up σ cnt (.inl (9, w17_0)))) := by
              intro k136 hk136 m136
              induction m136 with
              | zero => intro S24  x24_10 x24_11 x24_12 x24_13 hE; exact fx_no hE
              | succ m136 ih136 =>
                intro S24  x24_10 x24_11 x24_12 x24_13 hE
                rw [l_X12_buying_136] at hE
                refine pm_iloadi hG dX12_buying_136 rfl ?_
                refine pm_iloadi hG dX12_buying_138 rfl ?_
                refine pm_icmp_ge (tgt := 202) hG dX12_buying_140 rfl (fun c25 => ?_) (fun c25 => ?_)
                · replace c25 := Int32.not_lt.mpr c25
                  replace hE := fx_f c25 hE
                  exact hk136 _ _ _ _ _ hE
                · replace c25 := Int32.not_le.mp c25
                  replace hE := fx_t c25 hE
                  refine pm_iloadi hG dX12_buying_143 rfl ?_
                  refine pm_iloadi hG dX12_buying_145 rfl ?_
                  refine pm_ishr hG dX12_buying_147 ?_
                  refine pm_iconst (v := 1) hG dX12_buying_148 (by decide) ?_
                  refine pm_iand hG dX12_buying_149 ?_
                  refine pm_if_ne (tgt := 156) hG dX12_buying_150 rfl (fun c26 => ?_) (fun c26 => ?_)
                  · replace hE := fx_f c26 hE
                    refine pm_iloadi hG dX12_buying_156 rfl ?_
                    refine pm_aloadn hG dX12_buying_158 rfl ?_
                    refine pm_getf hG dX12_buying_159 (flX12_37 _ rfl) rfl rfl ?_
                    refine pm_aloadn hG dX12_buying_162 rfl ?_
                    refine pm_iloadi hG dX12_buying_163 rfl ?_
                    obtain ⟨j27, hj27, hE⟩ := fb_some hE
                    refine fx_iald hG dX12_buying_165 (fxm_a1_0 h74) hj27 ?_
                    obtain ⟨j28, hj28, hE⟩ := fb_some hE
                    refine fx_iald hG dX12_buying_166 rfl hj28 ?_
                    refine pm_iadd hG dX12_buying_167 ?_
                    refine fx_letv hE (fun x29 hE => ?_)
                    refine pm_istoreXi (loc' := [some (.ref (B + 54)), some (.int za), some (.int zb), some (.ref (B + cnt)), some (.int x17_4), some (.int x19), some (.int x21), some (.int x22_7), some (.int x22_8), some (.int x22_9), some (.int x29), some (.int x24_11), some (.int x24_12), some (.int x24_13)]) hG dX12_buying_168 (by decide) (pm_c1b rfl) rfl ?_
                    refine pm_iloadi hG dX12_buying_170 rfl ?_
                    refine pm_aloadn hG dX12_buying_172 rfl ?_
                    refine pm_aloadn hG dX12_buying_173 rfl ?_
                    refine pm_iloadi hG dX12_buying_174 rfl ?_
                    refine fx_iald hG dX12_buying_176 (fxm_a1_0 h74) hj27 ?_
                    refine pm_bipush (v := 12) hG dX12_buying_177 (by decide) ?_
                    obtain ⟨x31, h30, hE⟩ := fb_some hE
                    refine pm_callV (As := [.int (w17_0 j27), .int 12]) (rest := [.int x24_11]) hG hR dX12_buying_179 (lkX12_72 _ rfl) okV_X12_man rfl rfl (c_X12_man (d := 5) (by decide) h30) rfl rfl hdd (by decide) (by decide) (by first | decide | exact Nat.le_of_ble_eq_true rfl) (fx_ki ?_)
                    refine pm_iadd hG dX12_buying_182 ?_
                    refine fx_letv hE (fun x32 hE => ?_)
                    refine pm_istoreXi (loc' := [some (.ref (B + 54)), some (.int za), some (.int zb), some (.ref (B + cnt)), some (.int x17_4), some (.int x19), some (.int x21), some (.int x22_7), some (.int x22_8), some (.int x22_9), some (.int x29), some (.int x32), some (.int x24_12), some (.int x24_13)]) hG dX12_buying_183 (by decide) (pm_c1b rfl) rfl ?_
                    refine pm_iloadi hG dX12_buying_185 rfl ?_
                    refine pm_iconst (v := 1) hG dX12_buying_187 (by decide) ?_
                    refine pm_aloadn hG dX12_buying_188 rfl ?_
                    refine pm_iloadi hG dX12_buying_189 rfl ?_
                    refine fx_iald hG dX12_buying_191 (fxm_a1_0 h74) hj27 ?_
                    refine pm_ishl hG dX12_buying_192 ?_
                    refine pm_ior hG dX12_buying_193 ?_
                    refine fx_letv hE (fun x33 hE => ?_)
                    refine pm_istoreXi (loc' := [some (.ref (B + 54)), some (.int za), some (.int zb), some (.ref (B + cnt)), some (.int x17_4), some (.int x19), some (.int x21), some (.int x22_7), some (.int x22_8), some (.int x22_9), some (.int x29), some (.int x32), some (.int x33), some (.int x24_13)]) hG dX12_buying_194 (by decide) (pm_c1b rfl) rfl ?_
                    refine pm_iincX (v := x24_13 + 1) (loc' := [some (.ref (B + 54)), some (.int za), some (.int zb), some (.ref (B + cnt)), some (.int x17_4), some (.int x19), some (.int x21), some (.int x22_7), some (.int x22_8), some (.int x22_9), some (.int x29), some (.int x32), some (.int x33), some (.int (x24_13 + 1))]) hG dX12_buying_196 rfl (by rfl) (by decide) (pm_c1b rfl) rfl ?_
                    refine pm_goto (tgt := 136) hG dX12_buying_199 rfl ?_
                    exact ih136 _ _ _ _ _ hE
                  · replace hE := fx_t c26 hE
                    refine pm_goto (tgt := 196) hG dX12_buying_153 rfl ?_
                    refine pm_iincX (v := x24_13 + 1) (loc' := [some (.ref (B + 54)), some (.int za), some (.int zb), some (.ref (B + cnt)), some (.int x17_4), some (.int x19), some (.int x21), some (.int x22_7), some (.int x22_8), some (.int x22_9), some (.int x24_10), some (.int x24_11), some (.int x24_12), some (.int (x24_13 + 1))]) hG dX12_buying_196 rfl (by rfl) (by decide) (pm_c1b rfl) rfl ?_
                    refine pm_goto (tgt := 136) hG dX12_buying_199 rfl ?_
                    exact ih136 _ _ _ _ _ hE
            refine loop136 _ (fun S34 x34_10 x34_11 x34_12 x34_13 hE => ?_) _ _ _ _ _ _ hE
            refine pm_iconst (v := 2) hG dX12_buying_202 (by decide) ?_
            refine pm_iloadi hG dX12_buying_203 rfl ?_
            refine pm_imul hG dX12_buying_205 ?_
            refine pm_iloadi hG dX12_buying_206 rfl ?_
            refine pm_icmp_le (tgt := 274) hG dX12_buying_208 rfl (fun c35 => ?_) (fun c35 => ?_)
            · replace c35 := Int32.not_lt.mpr c35
              replace hE := fx_f c35 hE
              refine pm_iincX (v := x22_9 + 1) (loc' := [some (.ref (B + 54)), some (.int za), some (.int zb), some (.ref (B + cnt)), some (.int x17_4), some (.int x19), some (.int x21), some (.int x22_7), some (.int x22_8), some (.int (x22_9 + 1)), some (.int x34_10), some (.int x34_11), some (.int x34_12), some (.int x34_13)]) hG dX12_buying_274 rfl (by rfl) (by decide) (pm_c1b rfl) rfl ?_
              refine pm_goto (tgt := 114) hG dX12_buying_277 rfl ?_
              refine pm_fg 10 (loc' := [some (.ref (B + 54)), some (.int za), some (.int zb), some (.ref (B + cnt)), some (.int x17_4), some (.int x19), some (.int x21), some (.int x22_7), some (.int x22_8), some (.int (x22_9 + 1)), none, some (.int x34_11), some (.int x34_12), some (.int x34_13)]) rfl ?_
              refine pm_fg 11 (loc' := [some (.ref (B + 54)), some (.int za), some (.int zb), some (.ref (B + cnt)), some (.int x17_4), some (.int x19), some (.int x21), some (.int x22_7), some (.int x22_8), some (.int (x22_9 + 1)), none, none, some (.int x34_12), some (.int x34_13)]) rfl ?_
              refine pm_fg 12 (loc' := [some (.ref (B + 54)), some (.int za), some (.int zb), some (.ref (B + cnt)), some (.int x17_4), some (.int x19), some (.int x21), some (.int x22_7), some (.int x22_8), some (.int (x22_9 + 1)), none, none, none, some (.int x34_13)]) rfl ?_
              refine pm_fg 13 (loc' := [some (.ref (B + 54)), some (.int za), some (.int zb), some (.ref (B + cnt)), some (.int x17_4), some (.int x19), some (.int x21), some (.int x22_7), some (.int x22_8), some (.int (x22_9 + 1)), none, none, none, none]) rfl ?_
              exact ih114 _ _ _ _ hE
            · replace c35 := Int32.not_le.mp c35
              replace hE := fx_t c35 hE
              refine pm_iloadi hG dX12_buying_211 rfl ?_
              refine pm_if_lt (tgt := 266) hG dX12_buying_213 rfl (fun c36 => ?_) (fun c36 => ?_)
              · replace hE := fx_t c36 hE
                refine pm_iloadi hG dX12_buying_266 rfl ?_
                refine pm_istoreXi (loc' := [some (.ref (B + 54)), some (.int za), some (.int zb), some (.ref (B + cnt)), some (.int x17_4), some (.int x19), some (.int x21), some (.int x34_12), some (.int x22_8), some (.int x22_9), some (.int x34_10), some (.int x34_11), some (.int x34_12), some (.int x34_13)]) hG dX12_buying_268 (by decide) (pm_c1b rfl) rfl ?_
                refine pm_iloadi hG dX12_buying_270 rfl ?_
                refine pm_istoreXi (loc' := [some (.ref (B + 54)), some (.int za), some (.int zb), some (.ref (B + cnt)), some (.int x17_4), some (.int x19), some (.int x21), some (.int x34_12), some (.int x34_11), some (.int x22_9), some (.int x34_10), some (.int x34_11), some (.int x34_12), some (.int x34_13)]) hG dX12_buying_272 (by decide) (pm_c1b rfl) rfl ?_
                refine pm_iincX (v := x22_9 + 1) (loc' := [some (.ref (B + 54)), some (.int za), some (.int zb), some (.ref (B + cnt)), some (.int x17_4), some (.int x19), some (.int x21), some (.int x34_12), some (.int x34_11), some (.int (x22_9 + 1)), some (.int x34_10), some (.int x34_11), some (.int x34_12), some (.int x34_13)]) hG dX12_buying_274 rfl (by rfl) (by decide) (pm_c1b rfl) rfl ?_
                refine pm_goto (tgt := 114) hG dX12_buying_277 rfl ?_
                refine pm_fg 10 (loc' := [some (.ref (B + 54)), some (.int za), some (.int zb), some (.ref (B + cnt)), some (.int x17_4), some (.int x19), some (.int x21), some (.int x34_12), some (.int x34_11), some (.int (x22_9 + 1)), none, some (.int x34_11), some (.int x34_12), some (.int x34_13)]) rfl ?_
                refine pm_fg 11 (loc' := [some (.ref (B + 54)), some (.int za), some (.int zb), some (.ref (B + cnt)), some (.int x17_4), some (.int x19), some (.int x21), some (.int x34_12), some (.int x34_11), some (.int (x22_9 + 1)), none, none, some (.int x34_12), some (.int x34_13)]) rfl ?_
                refine pm_fg 12 (loc' := [some (.ref (B + 54)), some (.int za), some (.int zb), some (.ref (B + cnt)), some (.int x17_4), some (.int x19), some (.int x21), some (.int x34_12), some (.int x34_11), some (.int (x22_9 + 1)), none, none, none, some (.int x34_13)]) rfl ?_
                refine pm_fg 13 (loc' := [some (.ref (B + 54)), some (.int za), some (.int zb), some (.ref (B + cnt)), some (.int x17_4), some (.int x19), some (.int x21), some (.int x34_12), some (.int x34_11), some (.int (x22_9 + 1)), none, none, none, none]) rfl ?_
                exact ih114 _ _ _ _ hE
              · replace hE := fx_f c36 hE
                refine pm_iloadi hG dX12_buying_216 rfl ?_
                refine pm_iloadi hG dX12_buying_218 rfl ?_
                refine pm_icmp_gt (tgt := 274) hG dX12_buying_220 rfl (fun c37 => ?_) (fun c37 => ?_)
                · replace hE := fx_t c37 hE
                  refine pm_iincX (v := x22_9 + 1) (loc' := [some (.ref (B + 54)), some (.int za), some (.int zb), some (.ref (B + cnt)), some (.int x17_4), some (.int x19), some (.int x21), some (.int x22_7), some (.int x22_8), some (.int (x22_9 + 1)), some (.int x34_10), some (.int x34_11), some (.int x34_12), some (.int x34_13)]) hG dX12_buying_274 rfl (by rfl) (by decide) (pm_c1b rfl) rfl ?_
                  refine pm_goto (tgt := 114) hG dX12_buying_277 rfl ?_
                  refine pm_fg 10 (loc' := [some (.ref (B + 54)), some (.int za), some (.int zb), some (.ref (B + cnt)), some (.int x17_4), some (.int x19), some (.int x21), some (.int x22_7), some (.int x22_8), some (.int (x22_9 + 1)), none, some (.int x34_11), some (.int x34_12), some (.int x34_13)]) rfl ?_
                  refine pm_fg 11 (loc' := [some (.ref (B + 54)), some (.int za), some (.int zb), some (.ref (B + cnt)), some (.int x17_4), some (.int x19), some (.int x21), some (.int x22_7), some (.int x22_8), some (.int (x22_9 + 1)), none, none, some (.int x34_12), some (.int x34_13)]) rfl ?_
                  refine pm_fg 12 (loc' := [some (.ref (B + 54)), some (.int za), some (.int zb), some (.ref (B + cnt)), some (.int x17_4), some (.int x19), some (.int x21), some (.int x22_7), some (.int x22_8), some (.int (x22_9 + 1)), none, none, none, some (.int x34_13)]) rfl ?_
                  refine pm_fg 13 (loc' := [some (.ref (B + 54)), some (.int za), some (.int zb), some (.ref (B + cnt)), some (.int x17_4), some (.int x19), some (.int x21), some (.int x22_7), some (.int x22_8), some (.int (x22_9 + 1)), none, none, none, none]) rfl ?_
                  exact ih114 _ _ _ _ hE
                · replace hE := fx_f c37 hE
                  refine pm_iloadi hG dX12_buying_223 rfl ?_
                  refine pm_iloadi hG dX12_buying_225 rfl ?_
                  refine pm_icmp_ne (tgt := 266) hG dX12_buying_227 rfl (fun c38 => ?_) (fun c38 => ?_)
                  · replace hE := fx_f c38 hE
                    refine pm_iloadi hG dX12_buying_266 rfl ?_
                    refine pm_istoreXi (loc' := [some (.ref (B + 54)), some (.int za), some (.int zb), some (.ref (B + cnt)), some (.int x17_4), some (.int x19), some (.int x21), some (.int x34_12), some (.int x22_8), some (.int x22_9), some (.int x34_10), some (.int x34_11), some (.int x34_12), some (.int x34_13)]) hG dX12_buying_268 (by decide) (pm_c1b rfl) rfl ?_
                    refine pm_iloadi hG dX12_buying_270 rfl ?_
                    refine pm_istoreXi (loc' := [some (.ref (B + 54)), some (.int za), some (.int zb), some (.ref (B + cnt)), some (.int x17_4), some (.int x19), some (.int x21), some (.int x34_12), some (.int x34_11), some (.int x22_9), some (.int x34_10), some (.int x34_11), some (.int x34_12), some (.int x34_13)]) hG dX12_buying_272 (by decide) (pm_c1b rfl) rfl ?_
                    refine pm_iincX (v := x22_9 + 1) (loc' := [some (.ref (B + 54)), some (.int za), some (.int zb), some (.ref (B + cnt)), some (.int x17_4), some (.int x19), some (.int x21), some (.int x34_12), some (.int x34_11), some (.int (x22_9 + 1)), some (.int x34_10), some (.int x34_11), some (.int x34_12), some (.int x34_13)]) hG dX12_buying_274 rfl (by rfl) (by decide) (pm_c1b rfl) rfl ?_
                    refine pm_goto (tgt := 114) hG dX12_buying_277 rfl ?_
                    refine pm_fg 10 (loc' := [some (.ref (B + 54)), some (.int za), some (.int zb), some (.ref (B + cnt)), some (.int x17_4), some (.int x19), some (.int x21), some (.int x34_12), some (.int x34_11), some (.int (x22_9 + 1)), none, some (.int x34_11), some (.int x34_12), some (.int x34_13)]) rfl ?_
                    refine pm_fg 11 (loc' := [some (.ref (B + 54)), some (.int za), some (.int zb), some (.ref (B + cnt)), some (.int x17_4), some (.int x19), some (.int x21), some (.int x34_12), some (.int x34_11), some (.int (x22_9 + 1)), none, none, some (.int x34_12), some (.int x34_13)]) rfl ?_
                    refine pm_fg 12 (loc' := [some (.ref (B + 54)), some (.int za), some (.int zb), some (.ref (B + cnt)), some (.int x17_4), some (.int x19), some (.int x21), some (.int x34_12), some (.int x34_11), some (.int (x22_9 + 1)), none, none, none, some (.int x34_13)]) rfl ?_
                    refine pm_fg 13 (loc' := [some (.ref (B + 54)), some (.int za), some (.int zb), some (.ref (B + cnt)), some (.int x17_4), some (.int x19), some (.int x21), some (.int x34_12), some (.int x34_11), some (.int (x22_9 + 1)), none, none, none, none]) rfl ?_
                    exact ih114 _ _ _ _ hE
                  · replace hE := fx_t c38 hE
                    refine pm_iloadi hG dX12_buying_230 rfl ?_
                    obtain ⟨x40, h39, hE⟩ := fb_some hE
                    refine pm_callS (As := [.int x34_12]) (rest := []) hG hR dX12_buying_232 (lkX12_202 _ rfl) okS_X12_bits (c_X12_bits (d := 5) (by decide) h39) rfl rfl hdd (by decide) (by decide) (by decide) (fx_ki ?_)
                    refine pm_iloadi hG dX12_buying_235 rfl ?_
                    obtain ⟨x42, h41, hE⟩ := fb_some hE
                    refine pm_callS (As := [.int x22_7]) (rest := [.int x40]) hG hR dX12_buying_237 (lkX12_202 _ rfl) okS_X12_bits (c_X12_bits (d := 5) (by decide) h41) rfl rfl hdd (by decide) (by decide) (by first | decide | exact Nat.le_of_ble_eq_true rfl) (fx_ki ?_)
                    refine pm_icmp_gt (tgt := 274) hG dX12_buying_240 rfl (fun c43 => ?_) (fun c43 => ?_)
                    · replace hE := fx_t c43 hE
                      refine pm_iincX (v := x22_9 + 1) (loc' := [some (.ref (B + 54)), some (.int za), some (.int zb), some (.ref (B + cnt)), some (.int x17_4), some (.int x19), some (.int x21), some (.int x22_7), some (.int x22_8), some (.int (x22_9 + 1)), some (.int x34_10), some (.int x34_11), some (.int x34_12), some (.int x34_13)]) hG dX12_buying_274 rfl (by rfl) (by decide) (pm_c1b rfl) rfl ?_
                      refine pm_goto (tgt := 114) hG dX12_buying_277 rfl ?_
                      refine pm_fg 10 (loc' := [some (.ref (B + 54)), some (.int za), some (.int zb), some (.ref (B + cnt)), some (.int x17_4), some (.int x19), some (.int x21), some (.int x22_7), some (.int x22_8), some (.int (x22_9 + 1)), none, some (.int x34_11), some (.int x34_12), some (.int x34_13)]) rfl ?_
                      refine pm_fg 11 (loc' := [some (.ref (B + 54)), some (.int za), some (.int zb), some (.ref (B + cnt)), some (.int x17_4), some (.int x19), some (.int x21), some (.int x22_7), some (.int x22_8), some (.int (x22_9 + 1)), none, none, some (.int x34_12), some (.int x34_13)]) rfl ?_
                      refine pm_fg 12 (loc' := [some (.ref (B + 54)), some (.int za), some (.int zb), some (.ref (B + cnt)), some (.int x17_4), some (.int x19), some (.int x21), some (.int x22_7), some (.int x22_8), some (.int (x22_9 + 1)), none, none, none, some (.int x34_13)]) rfl ?_
                      refine pm_fg 13 (loc' := [some (.ref (B + 54)), some (.int za), some (.int zb), some (.ref (B + cnt)), some (.int x17_4), some (.int x19), some (.int x21), some (.int x22_7), some (.int x22_8), some (.int (x22_9 + 1)), none, none, none, none]) rfl ?_
                      exact ih114 _ _ _ _ hE
                    · replace hE := fx_f c43 hE
                      refine pm_iloadi hG dX12_buying_243 rfl ?_
                      obtain ⟨x45, h44, hE⟩ := fb_some hE
                      refine pm_callS (As := [.int x34_12]) (rest := []) hG hR dX12_buying_245 (lkX12_202 _ rfl) okS_X12_bits (c_X12_bits (d := 5) (by decide) h44) rfl rfl hdd (by decide) (by decide) (by decide) (fx_ki ?_)
                      refine pm_iloadi hG dX12_buying_248 rfl ?_
                      obtain ⟨x47, h46, hE⟩ := fb_some hE
                      refine pm_callS (As := [.int x22_7]) (rest := [.int x45]) hG hR dX12_buying_250 (lkX12_202 _ rfl) okS_X12_bits (c_X12_bits (d := 5) (by decide) h46) rfl rfl hdd (by decide) (by decide) (by first | decide | exact Nat.le_of_ble_eq_true rfl) (fx_ki ?_)
                      refine pm_icmp_ne (tgt := 266) hG dX12_buying_253 rfl (fun c48 => ?_) (fun c48 => ?_)
                      · replace hE := fx_f c48 hE
                        refine pm_iloadi hG dX12_buying_266 rfl ?_
                        refine pm_istoreXi (loc' := [some (.ref (B + 54)), some (.int za), some (.int zb), some (.ref (B + cnt)), some (.int x17_4), some (.int x19), some (.int x21), some (.int x34_12), some (.int x22_8), some (.int x22_9), some (.int x34_10), some (.int x34_11), some (.int x34_12), some (.int x34_13)]) hG dX12_buying_268 (by decide) (pm_c1b rfl) rfl ?_
                        refine pm_iloadi hG dX12_buying_270 rfl ?_
                        refine pm_istoreXi (loc' := [some (.ref (B + 54)), some (.int za), some (.int zb), some (.ref (B + cnt)), some (.int x17_4), some (.int x19), some (.int x21), some (.int x34_12), some (.int x34_11), some (.int x22_9), some (.int x34_10), some (.int x34_11), some (.int x34_12), some (.int x34_13)]) hG dX12_buying_272 (by decide) (pm_c1b rfl) rfl ?_
                        refine pm_iincX (v := x22_9 + 1) (loc' := [some (.ref (B + 54)), some (.int za), some (.int zb), some (.ref (B + cnt)), some (.int x17_4), some (.int x19), some (.int x21), some (.int x34_12), some (.int x34_11), some (.int (x22_9 + 1)), some (.int x34_10), some (.int x34_11), some (.int x34_12), some (.int x34_13)]) hG dX12_buying_274 rfl (by rfl) (by decide) (pm_c1b rfl) rfl ?_
                        refine pm_goto (tgt := 114) hG dX12_buying_277 rfl ?_
                        refine pm_fg 10 (loc' := [some (.ref (B + 54)), some (.int za), some (.int zb), some (.ref (B + cnt)), some (.int x17_4), some (.int x19), some (.int x21), some (.int x34_12), some (.int x34_11), some (.int (x22_9 + 1)), none, some (.int x34_11), some (.int x34_12), some (.int x34_13)]) rfl ?_
                        refine pm_fg 11 (loc' := [some (.ref (B + 54)), some (.int za), some (.int zb), some (.ref (B + cnt)), some (.int x17_4), some (.int x19), some (.int x21), some (.int x34_12), some (.int x34_11), some (.int (x22_9 + 1)), none, none, some (.int x34_12), some (.int x34_13)]) rfl ?_
                        refine pm_fg 12 (loc' := [some (.ref (B + 54)), some (.int za), some (.int zb), some (.ref (B + cnt)), some (.int x17_4), some (.int x19), some (.int x21), some (.int x34_12), some (.int x34_11), some (.int (x22_9 + 1)), none, none, none, some (.int x34_13)]) rfl ?_
                        refine pm_fg 13 (loc' := [some (.ref (B + 54)), some (.int za), some (.int zb), some (.ref (B + cnt)), some (.int x17_4), some (.int x19), some (.int x21), some (.int x34_12), some (.int x34_11), some (.int (x22_9 + 1)), none, none, none, none]) rfl ?_
                        exact ih114 _ _ _ _ hE
                      · replace hE := fx_t c48 hE
                        refine pm_iloadi hG dX12_buying_256 rfl ?_
                        refine pm_iloadi hG dX12_buying_258 rfl ?_
                        refine pm_icmp_lt (tgt := 266) hG dX12_buying_260 rfl (fun c49 => ?_) (fun c49 => ?_)
                        · replace hE := fx_t c49 hE
                          refine pm_iloadi hG dX12_buying_266 rfl ?_
                          refine pm_istoreXi (loc' := [some (.ref (B + 54)), some (.int za), some (.int zb), some (.ref (B + cnt)), some (.int x17_4), some (.int x19), some (.int x21), some (.int x34_12), some (.int x22_8), some (.int x22_9), some (.int x34_10), some (.int x34_11), some (.int x34_12), some (.int x34_13)]) hG dX12_buying_268 (by decide) (pm_c1b rfl) rfl ?_
                          refine pm_iloadi hG dX12_buying_270 rfl ?_
                          refine pm_istoreXi (loc' := [some (.ref (B + 54)), some (.int za), some (.int zb), some (.ref (B + cnt)), some (.int x17_4), some (.int x19), some (.int x21), some (.int x34_12), some (.int x34_11), some (.int x22_9), some (.int x34_10), some (.int x34_11), some (.int x34_12), some (.int x34_13)]) hG dX12_buying_272 (by decide) (pm_c1b rfl) rfl ?_
                          refine pm_iincX (v := x22_9 + 1) (loc' := [some (.ref (B + 54)), some (.int za), some (.int zb), some (.ref (B + cnt)), some (.int x17_4), some (.int x19), some (.int x21), some (.int x34_12), some (.int x34_11), some (.int (x22_9 + 1)), some (.int x34_10), some (.int x34_11), some (.int x34_12), some (.int x34_13)]) hG dX12_buying_274 rfl (by rfl) (by decide) (pm_c1b rfl) rfl ?_
                          refine pm_goto (tgt := 114) hG dX12_buying_277 rfl ?_
                          refine pm_fg 10 (loc' := [some (.ref (B + 54)), some (.int za), some (.int zb), some (.ref (B + cnt)), some (.int x17_4), some (.int x19), some (.int x21), some (.int x34_12), some (.int x34_11), some (.int (x22_9 + 1)), none, some (.int x34_11), some (.int x34_12), some (.int x34_13)]) rfl ?_
                          refine pm_fg 11 (loc' := [some (.ref (B + 54)), some (.int za), some (.int zb), some (.ref (B + cnt)), some (.int x17_4), some (.int x19), some (.int x21), some (.int x34_12), some (.int x34_11), some (.int (x22_9 + 1)), none, none, some (.int x34_12), some (.int x34_13)]) rfl ?_
                          refine pm_fg 12 (loc' := [some (.ref (B + 54)), some (.int za), some (.int zb), some (.ref (B + cnt)), some (.int x17_4), some (.int x19), some (.int x21), some (.int x34_12), some (.int x34_11), some (.int (x22_9 + 1)), none, none, none, some (.int x34_13)]) rfl ?_
                          refine pm_fg 13 (loc' := [some (.ref (B + 54)), some (.int za), some (.int zb), some (.ref (B + cnt)), some (.int x17_4), some (.int x19), some (.int x21), some (.int x34_12), some (.int x34_11), some (.int (x22_9 + 1)), none, none, none, none]) rfl ?_
                          exact ih114 _ _ _ _ hE
                        · replace hE := fx_f c49 hE
                          refine pm_goto (tgt := 274) hG dX12_buying_263 rfl ?_
                          refine pm_iincX (v := x22_9 + 1) (loc' := [some (.ref (B + 54)), some (.int za), some (.int zb), some (.ref (B + cnt)), some (.int x17_4), some (.int x19), some (.int x21), some (.int x22_7), some (.int x22_8), some (.int (x22_9 + 1)), some (.int x34_10), some (.int x34_11), some (.int x34_12), some (.int x34_13)]) hG dX12_buying_274 rfl (by rfl) (by decide) (pm_c1b rfl) rfl ?_
                          refine pm_goto (tgt := 114) hG dX12_buying_277 rfl ?_
                          refine pm_fg 10 (loc' := [some (.ref (B + 54)), some (.int za), some (.int zb), some (.ref (B + cnt)), some (.int x17_4), some (.int x19), some (.int x21), some (.int x22_7), some (.int x22_8), some (.int (x22_9 + 1)), none, some (.int x34_11), some (.int x34_12), some (.int x34_13)]) rfl ?_
                          refine pm_fg 11 (loc' := [some (.ref (B + 54)), some (.int za), some (.int zb), some (.ref (B + cnt)), some (.int x17_4), some (.int x19), some (.int x21), some (.int x22_7), some (.int x22_8), some (.int (x22_9 + 1)), none, none, some (.int x34_12), some (.int x34_13)]) rfl ?_
                          refine pm_fg 12 (loc' := [some (.ref (B + 54)), some (.int za), some (.int zb), some (.ref (B + cnt)), some (.int x17_4), some (.int x19), some (.int x21), some (.int x22_7), some (.int x22_8), some (.int (x22_9 + 1)), none, none, none, some (.int x34_13)]) rfl ?_
                          refine pm_fg 13 (loc' := [some (.ref (B + 54)), some (.int za), some (.int zb), some (.ref (B + cnt)), some (.int x17_4), some (.int x19), some (.int x21), some (.int x22_7), some (.int x22_8), some (.int (x22_9 + 1)), none, none, none, none]) rfl ?_
                          exact ih114 _ _ _ _ hE
      refine loop114 _ (fun S50 x50_7 x50_8 x50_9 hE => ?_) _ _ _ _ _ hE
      refine pm_iloadi hG dX12_buying_280 rfl ?_
      refine pm_if_ge (tgt := 293) hG dX12_buying_282 rfl (fun c51 => ?_) (fun c51 => ?_)
      · replace c51 := Int32.not_lt.mpr c51
        replace hE := fx_f c51 hE
        refine pm_iloadn hG dX12_buying_293 rfl ?_
        refine pm_if_ne (tgt := 302) hG dX12_buying_294 rfl (fun c52 => ?_) (fun c52 => ?_)
        · replace hE := fx_f c52 hE
          refine pm_iloadi hG dX12_buying_302 rfl ?_
          exact pm_iret hG hF dX12_buying_304 rfl (by decide) (by decide) (fx_rix hE (fun j hj => pm_up_ne _ _ (by omega)) (by omega))
        · replace hE := fx_t c52 hE
          refine pm_iloadi hG dX12_buying_297 rfl ?_
          refine pm_goto (tgt := 304) hG dX12_buying_299 rfl ?_
          exact pm_iret hG hF dX12_buying_304 rfl (by decide) (by decide) (fx_rix hE (fun j hj => pm_up_ne _ _ (by omega)) (by omega))
      · replace c51 := Int32.not_le.mp c51
        replace hE := fx_t c51 hE
        refine pm_aloadn hG dX12_buying_285 rfl ?_
        refine pm_iconst (v := 2) hG dX12_buying_286 (by decide) ?_
        obtain ⟨r54, h53, hE⟩ := fb_some hE
        refine pm_callV (As := [.int 2]) (rest := []) hG hR dX12_buying_287 (lkX12_80 _ rfl) okV_X12_finds rfl rfl (c_X12_finds (d := 5) (by decide) h53) rfl rfl hdd (by decide) (by decide) (by decide) (fx_ki ?_)
        refine pm_goto (tgt := 304) hG dX12_buying_290 rfl ?_
        exact pm_iret hG hF dX12_buying_304 rfl (by decide) (by decide) (fx_rix hE (fun j hj => pm_up_ne _ _ (by omega)) (by omega))
    · replace hE := fx_t c4 hE
      refine pm_aloadn hG dX12_buying_18 rfl ?_
      refine pm_iconst (v := 1) hG dX12_buying_19 (by decide) ?_
      obtain ⟨r56, h55, hE⟩ := fb_some hE
      refine pm_callV (As := [.int 1]) (rest := []) hG hR dX12_buying_20 (lkX12_80 _ rfl) okV_X12_finds rfl rfl (c_X12_finds (d := 5) (by decide) h55) rfl rfl hdd (by decide) (by decide) (by decide) (fx_ki ?_)
      exact pm_iret hG hF dX12_buying_23 rfl (by decide) (by decide) (fx_rix hE (fun j hj => rfl) (by omega))

set_option maxRecDepth 100000 in
set_option maxHeartbeats 4000000 in
theorem c_X12_byteAt {d : Nat} {B cnt : Nat} {σ : pm_S} {S : FS} {za : Int32} {R : Int32} (hdd : 1 ≤ d) (hE : q_X12_byteAt S za = some R) : pm_met mX12_byteAt d 0 0 B [.ref (B + 54), .int za] cnt (mst B S σ) (pm_Qi (fun v σ' cnt' => v = R ∧ σ' = (mst B S σ) ∧ cnt' = cnt)) := by
  refine pm_enter 0 (by decide) (Nat.le_of_ble_eq_true rfl) rfl (fun G hG hR hF => ?_)
  unfold q_X12_byteAt at hE
  refine pm_iloadn hG dX12_byteAt_0 rfl ?_
  refine pm_aloadn hG dX12_byteAt_1 rfl ?_
  refine pm_getf hG dX12_byteAt_2 (flX12_7 _ rfl) rfl rfl ?_
  refine pm_bipush (v := 10) hG dX12_byteAt_5 (by decide) ?_
  refine fx_iald hG dX12_byteAt_7 rfl (ix_lit (by decide) rfl) ?_
  refine pm_icmp_ge (tgt := 24) hG dX12_byteAt_8 rfl (fun c1 => ?_) (fun c1 => ?_)
  · replace c1 := Int32.not_lt.mpr c1
    replace hE := fx_f c1 hE
    refine pm_iconst (v := (-1)) hG dX12_byteAt_24 (by decide) ?_
    exact pm_iret hG hF dX12_byteAt_25 rfl (Nat.le_refl _) (Nat.le_refl _) (fx_pi (Option.some.inj hE))
  · replace c1 := Int32.not_le.mp c1
    replace hE := fx_t c1 hE
    refine pm_aloadn hG dX12_byteAt_11 rfl ?_
    refine pm_getf hG dX12_byteAt_12 (flX12_7 _ rfl) rfl rfl ?_
    refine pm_sipush (v := 1991) hG dX12_byteAt_15 (by decide) ?_
    refine pm_iloadn hG dX12_byteAt_18 rfl ?_
    refine pm_iadd hG dX12_byteAt_19 ?_
    obtain ⟨j2, hj2, hE⟩ := fb_some hE
    refine fx_iald hG dX12_byteAt_20 rfl hj2 ?_
    refine pm_goto (tgt := 25) hG dX12_byteAt_21 rfl ?_
    exact pm_iret hG hF dX12_byteAt_25 rfl (Nat.le_refl _) (Nat.le_refl _) (fx_pi (Option.some.inj hE))

set_option maxRecDepth 100000 in
set_option maxHeartbeats 4000000 in
theorem c_X12_isTaken {d : Nat} {B cnt : Nat} {σ : pm_S} {S : FS} {za : Int32} {zb : Int32} {R : Int32} (hdd : 2 ≤ d) (hE : p_X12_isTaken S za zb = R) : pm_met mX12_isTaken d 0 0 B [.int za, .int zb] cnt (mst B S σ) (pm_Qi (fun v σ' cnt' => v = R ∧ σ' = (mst B S σ) ∧ cnt' = cnt)) := by
  refine pm_enter 0 (by decide) (Nat.le_of_ble_eq_true rfl) rfl (fun G hG hR hF => ?_)
  unfold p_X12_isTaken at hE
  refine pm_iloadn hG dX12_isTaken_0 rfl ?_
  refine pm_iconst (v := 0) hG dX12_isTaken_1 (by decide) ?_
  refine pm_iconst (v := 4) hG dX12_isTaken_2 (by decide) ?_
  refine pm_callS (As := [.int zb, .int 0, .int 4]) (rest := []) hG hR dX12_isTaken_3 (lkX12_68 _ rfl) okS_X12_in (c_X12_in (d := 1) (by decide) rfl) rfl rfl hdd (Nat.le_refl _) (Nat.le_refl _) (by decide) (fx_ki ?_)
  refine pm_if_eq (tgt := 22) hG dX12_isTaken_6 rfl (fun c1 => ?_) (fun c1 => ?_)
  · replace hE := fx_t c1 hE
    refine pm_iconst (v := 0) hG dX12_isTaken_22 (by decide) ?_
    exact pm_zret hG hF dX12_isTaken_23 rfl (by rfl) (Nat.le_refl _) (Nat.le_refl _) (fx_pi hE)
  · replace hE := fx_f c1 hE
    refine pm_iloadn hG dX12_isTaken_9 rfl ?_
    refine pm_iloadn hG dX12_isTaken_10 rfl ?_
    refine pm_ishr hG dX12_isTaken_11 ?_
    refine pm_iconst (v := 1) hG dX12_isTaken_12 (by decide) ?_
    refine pm_iand hG dX12_isTaken_13 ?_
    refine pm_iconst (v := 1) hG dX12_isTaken_14 (by decide) ?_
    refine pm_icmp_ne (tgt := 22) hG dX12_isTaken_15 rfl (fun c2 => ?_) (fun c2 => ?_)
    · replace hE := fx_f c2 hE
      refine pm_iconst (v := 0) hG dX12_isTaken_22 (by decide) ?_
      exact pm_zret hG hF dX12_isTaken_23 rfl (by rfl) (Nat.le_refl _) (Nat.le_refl _) (fx_pi hE)
    · replace hE := fx_t c2 hE
      refine pm_iconst (v := 1) hG dX12_isTaken_18 (by decide) ?_
      refine pm_goto (tgt := 23) hG dX12_isTaken_19 rfl ?_
      exact pm_zret hG hF dX12_isTaken_23 rfl (by rfl) (Nat.le_refl _) (Nat.le_refl _) (fx_pi hE)

set_option maxRecDepth 100000 in
set_option maxHeartbeats 4000000 in
theorem c_X12_canTake {d : Nat} {B cnt : Nat} {σ : pm_S} {S : FS} {za : Int32} {zb : Int32} {zc : Int32} {R : Int32} (hdd : 3 ≤ d) (hE : q_X12_canTake S za zb zc = some R) : pm_met mX12_canTake d 0 0 B [.ref (B + 54), .int za, .int zb, .int zc] cnt (mst B S σ) (pm_Qi (fun v σ' cnt' => v = R ∧ σ' = (mst B S σ) ∧ cnt' = cnt)) := by
  refine pm_enter 0 (by decide) (Nat.le_of_ble_eq_true rfl) rfl (fun G hG hR hF => ?_)
  unfold q_X12_canTake at hE
  refine pm_iloadn hG dX12_canTake_0 rfl ?_
  refine pm_iloadn hG dX12_canTake_1 rfl ?_
  refine pm_callS (As := [.int za, .int zc]) (rest := []) hG hR dX12_canTake_2 (lkX12_253 _ rfl) okS_X12_isTaken (c_X12_isTaken (d := 2) (by decide) rfl) rfl rfl hdd (Nat.le_refl _) (Nat.le_refl _) (by decide) (fx_ki ?_)
  refine pm_if_ne (tgt := 46) hG dX12_canTake_5 rfl (fun c1 => ?_) (fun c1 => ?_)
  · replace hE := fx_f c1 hE
    refine pm_iconst (v := 0) hG dX12_canTake_46 (by decide) ?_
    exact pm_zret hG hF dX12_canTake_47 rfl (by rfl) (Nat.le_refl _) (Nat.le_refl _) (fx_pi (Option.some.inj hE))
  · replace hE := fx_t c1 hE
    refine pm_iloadn hG dX12_canTake_8 rfl ?_
    refine pm_if_eq (tgt := 32) hG dX12_canTake_9 rfl (fun c2 => ?_) (fun c2 => ?_)
    · replace hE := fx_t c2 hE
      refine pm_iloadn hG dX12_canTake_32 rfl ?_
      refine pm_aloadn hG dX12_canTake_33 rfl ?_
      refine pm_getf hG dX12_canTake_34 (flX12_43 _ rfl) rfl rfl ?_
      refine pm_iloadn hG dX12_canTake_37 rfl ?_
      obtain ⟨j3, hj3, hE⟩ := fb_some hE
      refine fx_iald hG dX12_canTake_38 rfl hj3 ?_
      refine pm_icmp_le (tgt := 46) hG dX12_canTake_39 rfl (fun c4 => ?_) (fun c4 => ?_)
      · replace c4 := Int32.not_lt.mpr c4
        replace hE := fx_f c4 hE
        refine pm_iconst (v := 0) hG dX12_canTake_46 (by decide) ?_
        exact pm_zret hG hF dX12_canTake_47 rfl (by rfl) (Nat.le_refl _) (Nat.le_refl _) (fx_pi (Option.some.inj hE))
      · replace c4 := Int32.not_le.mp c4
        replace hE := fx_t c4 hE
        refine pm_iconst (v := 1) hG dX12_canTake_42 (by decide) ?_
        refine pm_goto (tgt := 47) hG dX12_canTake_43 rfl ?_
        exact pm_zret hG hF dX12_canTake_47 rfl (by rfl) (Nat.le_refl _) (Nat.le_refl _) (fx_pi (Option.some.inj hE))
    · replace hE := fx_f c2 hE
      refine pm_iloadn hG dX12_canTake_12 rfl ?_
      refine pm_iloadn hG dX12_canTake_13 rfl ?_
      refine pm_iconst (v := 1) hG dX12_canTake_14 (by decide) ?_
      refine pm_isub hG dX12_canTake_15 ?_
      refine pm_callS (As := [.int za, .int (zc - 1)]) (rest := []) hG hR dX12_canTake_16 (lkX12_253 _ rfl) okS_X12_isTaken (c_X12_isTaken (d := 2) (by decide) rfl) rfl rfl hdd (Nat.le_refl _) (Nat.le_refl _) (by decide) (fx_ki ?_)
      refine pm_if_ne (tgt := 32) hG dX12_canTake_19 rfl (fun c5 => ?_) (fun c5 => ?_)
      · replace hE := fx_f c5 hE
        refine pm_iloadn hG dX12_canTake_32 rfl ?_
        refine pm_aloadn hG dX12_canTake_33 rfl ?_
        refine pm_getf hG dX12_canTake_34 (flX12_43 _ rfl) rfl rfl ?_
        refine pm_iloadn hG dX12_canTake_37 rfl ?_
        obtain ⟨j6, hj6, hE⟩ := fb_some hE
        refine fx_iald hG dX12_canTake_38 rfl hj6 ?_
        refine pm_icmp_le (tgt := 46) hG dX12_canTake_39 rfl (fun c7 => ?_) (fun c7 => ?_)
        · replace c7 := Int32.not_lt.mpr c7
          replace hE := fx_f c7 hE
          refine pm_iconst (v := 0) hG dX12_canTake_46 (by decide) ?_
          exact pm_zret hG hF dX12_canTake_47 rfl (by rfl) (Nat.le_refl _) (Nat.le_refl _) (fx_pi (Option.some.inj hE))
        · replace c7 := Int32.not_le.mp c7
          replace hE := fx_t c7 hE
          refine pm_iconst (v := 1) hG dX12_canTake_42 (by decide) ?_
          refine pm_goto (tgt := 47) hG dX12_canTake_43 rfl ?_
          exact pm_zret hG hF dX12_canTake_47 rfl (by rfl) (Nat.le_refl _) (Nat.le_refl _) (fx_pi (Option.some.inj hE))
      · replace hE := fx_t c5 hE
        refine pm_iloadn hG dX12_canTake_22 rfl ?_
        refine pm_iloadn hG dX12_canTake_23 rfl ?_
        refine pm_iconst (v := 1) hG dX12_canTake_24 (by decide) ?_
        refine pm_iadd hG dX12_canTake_25 ?_
        refine pm_callS (As := [.int za, .int (zc + 1)]) (rest := []) hG hR dX12_canTake_26 (lkX12_253 _ rfl) okS_X12_isTaken (c_X12_isTaken (d := 2) (by decide) rfl) rfl rfl hdd (Nat.le_refl _) (Nat.le_refl _) (by decide) (fx_ki ?_)
        refine pm_if_eq (tgt := 46) hG dX12_canTake_29 rfl (fun c8 => ?_) (fun c8 => ?_)
        · replace hE := fx_t c8 hE
          refine pm_iconst (v := 0) hG dX12_canTake_46 (by decide) ?_
          exact pm_zret hG hF dX12_canTake_47 rfl (by rfl) (Nat.le_refl _) (Nat.le_refl _) (fx_pi (Option.some.inj hE))
        · replace hE := fx_f c8 hE
          refine pm_iloadn hG dX12_canTake_32 rfl ?_
          refine pm_aloadn hG dX12_canTake_33 rfl ?_
          refine pm_getf hG dX12_canTake_34 (flX12_43 _ rfl) rfl rfl ?_
          refine pm_iloadn hG dX12_canTake_37 rfl ?_
          obtain ⟨j9, hj9, hE⟩ := fb_some hE
          refine fx_iald hG dX12_canTake_38 rfl hj9 ?_
          refine pm_icmp_le (tgt := 46) hG dX12_canTake_39 rfl (fun c10 => ?_) (fun c10 => ?_)
          · replace c10 := Int32.not_lt.mpr c10
            replace hE := fx_f c10 hE
            refine pm_iconst (v := 0) hG dX12_canTake_46 (by decide) ?_
            exact pm_zret hG hF dX12_canTake_47 rfl (by rfl) (Nat.le_refl _) (Nat.le_refl _) (fx_pi (Option.some.inj hE))
          · replace c10 := Int32.not_le.mp c10
            replace hE := fx_t c10 hE
            refine pm_iconst (v := 1) hG dX12_canTake_42 (by decide) ?_
            refine pm_goto (tgt := 47) hG dX12_canTake_43 rfl ?_
            exact pm_zret hG hF dX12_canTake_47 rfl (by rfl) (Nat.le_refl _) (Nat.le_refl _) (fx_pi (Option.some.inj hE))

set_option maxRecDepth 100000 in
set_option maxHeartbeats 4000000 in
theorem c_X12_isLaw {d : Nat} {B cnt : Nat} {σ : pm_S} {S : FS} {za : Int32} {R : Int32} (hdd : 2 ≤ d) (hE : p_X12_isLaw S za = R) : pm_met mX12_isLaw d 0 0 B [.ref (B + 54), .int za] cnt (mst B S σ) (pm_Qi (fun v σ' cnt' => v = R ∧ σ' = (mst B S σ) ∧ cnt' = cnt)) := by
  refine pm_enter 0 (by decide) (Nat.le_of_ble_eq_true rfl) rfl (fun G hG hR hF => ?_)
  unfold p_X12_isLaw at hE
  refine pm_iloadn hG dX12_isLaw_0 rfl ?_
  refine pm_iconst (v := 0) hG dX12_isLaw_1 (by decide) ?_
  refine pm_aloadn hG dX12_isLaw_2 rfl ?_
  refine pm_getf hG dX12_isLaw_3 (flX12_7 _ rfl) rfl rfl ?_
  refine pm_iconst (v := 4) hG dX12_isLaw_6 (by decide) ?_
  refine fx_iald hG dX12_isLaw_7 rfl (ix_lit (by decide) rfl) ?_
  refine pm_iconst (v := 1) hG dX12_isLaw_8 (by decide) ?_
  refine pm_isub hG dX12_isLaw_9 ?_
  refine pm_callS (As := [.int za, .int 0, .int ((S.2 55 4) - 1)]) (rest := []) hG hR dX12_isLaw_10 (lkX12_68 _ rfl) okS_X12_in (c_X12_in (d := 1) (by decide) rfl) rfl rfl hdd (Nat.le_refl _) (Nat.le_refl _) (by decide) (fx_ki ?_)
  exact pm_zret hG hF dX12_isLaw_13 rfl (pm_nz pb_X12_in) (Nat.le_refl _) (Nat.le_refl _) (fx_pi hE)

set_option maxRecDepth 100000 in
set_option maxHeartbeats 4000000 in
theorem c_X12_cannot {d : Nat} {B cnt : Nat} {σ : pm_S} {S : FS} {za : Int32} {R : Int32 × FS} (hdd : 3 ≤ d) (hE : f_X12_cannot S za = some R) : pm_met mX12_cannot d 0 0 B [.ref (B + 54), .int za] cnt (mst B S σ) (pm_Qi (fun v σ' cnt' => v = R.1 ∧ σ' = (mst B R.2 σ) ∧ cnt' = cnt)) := by
  refine pm_enter 2 (by decide) (Nat.le_of_ble_eq_true rfl) rfl (fun G hG hR hF => ?_)
  unfold f_X12_cannot at hE
  refine pm_aloadn hG dX12_cannot_0 rfl ?_
  refine pm_iloadn hG dX12_cannot_1 rfl ?_
  refine pm_iconst (v := 4) hG dX12_cannot_2 (by decide) ?_
  obtain ⟨x2, h1, hE⟩ := fb_some hE
  refine pm_callV (As := [.int za, .int 4]) (rest := []) hG hR dX12_cannot_3 (lkX12_199 _ rfl) okV_X12_of rfl rfl (c_X12_of (d := 2) (by decide) h1) rfl rfl hdd (Nat.le_refl _) (Nat.le_refl _) (by decide) (fx_ki ?_)
  refine pm_istoreXn (loc' := [some (.ref (B + 54)), some (.int za), some (.int x2), none]) hG dX12_cannot_6 (by decide) (pm_c1b rfl) rfl ?_
  refine pm_aloadn hG dX12_cannot_7 rfl ?_
  refine pm_iloadn hG dX12_cannot_8 rfl ?_
  refine pm_iconst (v := 2) hG dX12_cannot_9 (by decide) ?_
  obtain ⟨x4, h3, hE⟩ := fb_some hE
  refine pm_callV (As := [.int za, .int 2]) (rest := []) hG hR dX12_cannot_10 (lkX12_199 _ rfl) okV_X12_of rfl rfl (c_X12_of (d := 2) (by decide) h3) rfl rfl hdd (Nat.le_refl _) (Nat.le_refl _) (by decide) (fx_ki ?_)
  refine pm_istoreXn (loc' := [some (.ref (B + 54)), some (.int za), some (.int x2), some (.int x4)]) hG dX12_cannot_13 (by decide) (pm_c1b rfl) rfl ?_
  refine pm_aloadn hG dX12_cannot_14 rfl ?_
  refine pm_iloadn hG dX12_cannot_15 rfl ?_
  refine pm_iconst (v := 1) hG dX12_cannot_16 (by decide) ?_
  obtain ⟨x6, h5, hE⟩ := fb_some hE
  refine pm_callV (As := [.int za, .int 1]) (rest := []) hG hR dX12_cannot_17 (lkX12_199 _ rfl) okV_X12_of rfl rfl (c_X12_of (d := 2) (by decide) h5) rfl rfl hdd (Nat.le_refl _) (Nat.le_refl _) (by decide) (fx_ki ?_)
  by_cases c7 : x6 = 0
  · replace hE := fx_t c7 hE
    refine pm_top (v := 0) c7 ?_
    refine pm_tswIn (tgt := 52) hG dX12_cannot_20 (by decide) (by decide) rfl rfl ?_
    refine pm_aloadn hG dX12_cannot_52 rfl ?_
    refine pm_getf hG dX12_cannot_53 (flX12_7 _ rfl) rfl rfl ?_
    refine pm_bipush (v := 9) hG dX12_cannot_56 (by decide) ?_
    refine fx_iald hG dX12_cannot_58 rfl (ix_lit (by decide) rfl) ?_
    refine pm_iloadn hG dX12_cannot_59 rfl ?_
    refine pm_icmp_ge (tgt := 67) hG dX12_cannot_60 rfl (fun c8 => ?_) (fun c8 => ?_)
    · replace c8 := Int32.not_lt.mpr c8
      replace hE := fx_f c8 hE
      refine pm_iconst (v := 0) hG dX12_cannot_67 (by decide) ?_
      exact pm_zret hG hF dX12_cannot_68 rfl (by rfl) (Nat.le_refl _) (Nat.le_refl _) (fx_rim hE)
    · replace c8 := Int32.not_le.mp c8
      replace hE := fx_t c8 hE
      refine pm_iconst (v := 1) hG dX12_cannot_63 (by decide) ?_
      refine pm_goto (tgt := 68) hG dX12_cannot_64 rfl ?_
      exact pm_zret hG hF dX12_cannot_68 rfl (by rfl) (Nat.le_refl _) (Nat.le_refl _) (fx_rim hE)
  replace hE := fx_f c7 hE
  by_cases c9 : x6 = 1
  · replace hE := fx_t c9 hE
    refine pm_top (v := 1) c9 ?_
    refine pm_tswIn (tgt := 69) hG dX12_cannot_20 (by decide) (by decide) rfl rfl ?_
    refine pm_aloadn hG dX12_cannot_69 rfl ?_
    refine pm_iloadn hG dX12_cannot_70 rfl ?_
    refine pm_iconst (v := 4) hG dX12_cannot_71 (by decide) ?_
    obtain ⟨x11, h10, hE⟩ := fb_some hE
    refine pm_callV (As := [.int x2, .int 4]) (rest := []) hG hR dX12_cannot_72 (lkX12_72 _ rfl) okV_X12_man rfl rfl (c_X12_man (d := 2) (by decide) h10) rfl rfl hdd (Nat.le_refl _) (Nat.le_refl _) (by decide) (fx_ki ?_)
    refine pm_if_lt (tgt := 99) hG dX12_cannot_75 rfl (fun c12 => ?_) (fun c12 => ?_)
    · replace hE := fx_t c12 hE
      refine pm_iconst (v := 1) hG dX12_cannot_99 (by decide) ?_
      refine pm_goto (tgt := 104) hG dX12_cannot_100 rfl ?_
      exact pm_zret hG hF dX12_cannot_104 rfl (by rfl) (Nat.le_refl _) (Nat.le_refl _) (fx_rim hE)
    · replace hE := fx_f c12 hE
      refine pm_aloadn hG dX12_cannot_78 rfl ?_
      refine pm_aloadn hG dX12_cannot_79 rfl ?_
      refine pm_iloadn hG dX12_cannot_80 rfl ?_
      refine pm_iconst (v := 4) hG dX12_cannot_81 (by decide) ?_
      obtain ⟨x14, h13, hE⟩ := fb_some hE
      refine pm_callV (As := [.int x2, .int 4]) (rest := [.ref (B + 54)]) hG hR dX12_cannot_82 (lkX12_72 _ rfl) okV_X12_man rfl rfl (c_X12_man (d := 2) (by decide) h13) rfl rfl hdd (Nat.le_refl _) (Nat.le_refl _) (by first | decide | exact Nat.le_of_ble_eq_true rfl) (fx_ki ?_)
      refine pm_iloadn hG dX12_cannot_85 rfl ?_
      refine pm_aloadn hG dX12_cannot_86 rfl ?_
      refine pm_getf hG dX12_cannot_87 (flX12_7 _ rfl) rfl rfl ?_
      refine pm_iconst (v := 0) hG dX12_cannot_90 (by decide) ?_
      refine fx_iald hG dX12_cannot_91 rfl (ix_lit (by decide) rfl) ?_
      obtain ⟨u16, h15, hE⟩ := fb_some hE
      refine pm_irem hG dX12_cannot_92 (nz_n h15) ?_
      obtain ⟨r18, h17, hE⟩ := fb_some hE
      refine pm_callV (As := [.int x14, .int (x4 - x4 / (S.2 55 0) * (S.2 55 0))]) (rest := []) hG hR dX12_cannot_93 (lkX12_88 _ rfl) okV_X12_farOf rfl rfl (c_X12_farOf (d := 2) (by decide) h17) rfl rfl hdd (Nat.le_refl _) (Nat.le_refl _) (by decide) (fx_ki ?_)
      refine pm_if_ge (tgt := 103) hG dX12_cannot_96 rfl (fun c19 => ?_) (fun c19 => ?_)
      · replace c19 := Int32.not_lt.mpr c19
        replace hE := fx_f c19 hE
        refine pm_iconst (v := 0) hG dX12_cannot_103 (by decide) ?_
        exact pm_zret hG hF dX12_cannot_104 rfl (by rfl) (Nat.le_refl _) (Nat.le_refl _) (fx_rim hE)
      · replace c19 := Int32.not_le.mp c19
        replace hE := fx_t c19 hE
        refine pm_iconst (v := 1) hG dX12_cannot_99 (by decide) ?_
        refine pm_goto (tgt := 104) hG dX12_cannot_100 rfl ?_
        exact pm_zret hG hF dX12_cannot_104 rfl (by rfl) (Nat.le_refl _) (Nat.le_refl _) (fx_rim hE)
  replace hE := fx_f c9 hE
  by_cases c20 : x6 = 2
  · replace hE := fx_t c20 hE
    refine pm_top (v := 2) c20 ?_
    refine pm_tswIn (tgt := 105) hG dX12_cannot_20 (by decide) (by decide) rfl rfl ?_
    refine pm_aloadn hG dX12_cannot_105 rfl ?_
    refine pm_iloadn hG dX12_cannot_106 rfl ?_
    refine pm_callV (As := [.int x4]) (rest := []) hG hR dX12_cannot_107 (lkX12_132 _ rfl) okV_X12_isPower rfl rfl (c_X12_isPower (d := 2) (by decide) rfl) rfl rfl hdd (Nat.le_refl _) (Nat.le_refl _) (by decide) (fx_ki ?_)
    refine pm_if_ne (tgt := 117) hG dX12_cannot_110 rfl (fun c21 => ?_) (fun c21 => ?_)
    · replace hE := fx_f c21 hE
      refine pm_iconst (v := 0) hG dX12_cannot_117 (by decide) ?_
      exact pm_zret hG hF dX12_cannot_118 rfl (by rfl) (Nat.le_refl _) (Nat.le_refl _) (fx_rim hE)
    · replace hE := fx_t c21 hE
      refine pm_iconst (v := 1) hG dX12_cannot_113 (by decide) ?_
      refine pm_goto (tgt := 118) hG dX12_cannot_114 rfl ?_
      exact pm_zret hG hF dX12_cannot_118 rfl (by rfl) (Nat.le_refl _) (Nat.le_refl _) (fx_rim hE)
  replace hE := fx_f c20 hE
  by_cases c22 : x6 = 3
  · replace hE := fx_t c22 hE
    refine pm_top (v := 3) c22 ?_
    refine pm_tswIn (tgt := 119) hG dX12_cannot_20 (by decide) (by decide) rfl rfl ?_
    refine pm_aloadn hG dX12_cannot_119 rfl ?_
    refine pm_iloadn hG dX12_cannot_120 rfl ?_
    refine pm_callV (As := [.int x4]) (rest := []) hG hR dX12_cannot_121 (lkX12_192 _ rfl) okV_X12_isLaw rfl rfl (c_X12_isLaw (d := 2) (by decide) rfl) rfl rfl hdd (Nat.le_refl _) (Nat.le_refl _) (by decide) (fx_ki ?_)
    refine pm_if_eq (tgt := 145) hG dX12_cannot_124 rfl (fun c23 => ?_) (fun c23 => ?_)
    · replace hE := fx_t c23 hE
      refine pm_iconst (v := 1) hG dX12_cannot_145 (by decide) ?_
      refine pm_goto (tgt := 150) hG dX12_cannot_146 rfl ?_
      exact pm_zret hG hF dX12_cannot_150 rfl (by rfl) (Nat.le_refl _) (Nat.le_refl _) (fx_rim hE)
    · replace hE := fx_f c23 hE
      refine pm_aloadn hG dX12_cannot_127 rfl ?_
      refine pm_getf hG dX12_cannot_128 (flX12_7 _ rfl) rfl rfl ?_
      refine pm_sipush (v := 510) hG dX12_cannot_131 (by decide) ?_
      refine pm_bipush (v := 65) hG dX12_cannot_134 (by decide) ?_
      refine pm_iloadn hG dX12_cannot_136 rfl ?_
      refine pm_imul hG dX12_cannot_137 ?_
      refine pm_iadd hG dX12_cannot_138 ?_
      refine pm_iconst (v := 3) hG dX12_cannot_139 (by decide) ?_
      refine pm_iadd hG dX12_cannot_140 ?_
      obtain ⟨j24, hj24, hE⟩ := fb_some hE
      refine fx_iald hG dX12_cannot_141 rfl hj24 ?_
      refine pm_if_lt (tgt := 149) hG dX12_cannot_142 rfl (fun c25 => ?_) (fun c25 => ?_)
      · replace hE := fx_t c25 hE
        refine pm_iconst (v := 0) hG dX12_cannot_149 (by decide) ?_
        exact pm_zret hG hF dX12_cannot_150 rfl (by rfl) (Nat.le_refl _) (Nat.le_refl _) (fx_rim hE)
      · replace hE := fx_f c25 hE
        refine pm_iconst (v := 1) hG dX12_cannot_145 (by decide) ?_
        refine pm_goto (tgt := 150) hG dX12_cannot_146 rfl ?_
        exact pm_zret hG hF dX12_cannot_150 rfl (by rfl) (Nat.le_refl _) (Nat.le_refl _) (fx_rim hE)
  replace hE := fx_f c22 hE
  have tc7 : ¬ x6.toInt = 0 := fun q => c7 (Int32.toInt_inj.mp q)
  have tc9 : ¬ x6.toInt = 1 := fun q => c9 (Int32.toInt_inj.mp q)
  have tc20 : ¬ x6.toInt = 2 := fun q => c20 (Int32.toInt_inj.mp q)
  have tc22 : ¬ x6.toInt = 3 := fun q => c22 (Int32.toInt_inj.mp q)
  refine pm_tswOut (tgt := 151) hG dX12_cannot_20 (by omega) rfl ?_
  refine pm_iconst (v := 0) hG dX12_cannot_151 (by decide) ?_
  exact pm_zret hG hF dX12_cannot_152 rfl (by rfl) (Nat.le_refl _) (Nat.le_refl _) (fx_rim hE)

set_option maxRecDepth 100000 in
set_option maxHeartbeats 4000000 in
theorem c_X12_cause {d : Nat} {B cnt : Nat} {σ : pm_S} {S : FS} {za : Int32} {zb : Int32} {R : Int32 × FS} (hdd : 6 ≤ d) (hE : f_X12_cause S za zb = some R) : pm_met mX12_cause d 0 0 B [.ref (B + 54), .int za, .int zb] cnt (mst B S σ) (pm_Qi (fun v σ' cnt' => v = R.1 ∧ σ' = (mst B R.2 σ) ∧ cnt' = cnt)) := by
  refine pm_enter 2 (by decide) (Nat.le_of_ble_eq_true rfl) rfl (fun G hG hR hF => ?_)
  unfold f_X12_cause at hE
  refine pm_iloadn hG dX12_cause_0 rfl ?_
  refine pm_iconst (v := 0) hG dX12_cause_1 (by decide) ?_
  refine pm_iconst (v := 5) hG dX12_cause_2 (by decide) ?_
  refine pm_callS (As := [.int za, .int 0, .int 5]) (rest := []) hG hR dX12_cause_3 (lkX12_68 _ rfl) okS_X12_in (c_X12_in (d := 5) (by decide) rfl) rfl rfl hdd (Nat.le_refl _) (Nat.le_refl _) (by decide) (fx_ki ?_)
  refine pm_if_eq (tgt := 18) hG dX12_cause_6 rfl (fun c1 => ?_) (fun c1 => ?_)
  · replace hE := fx_t c1 hE
    refine pm_aloadn hG dX12_cause_18 rfl ?_
    refine pm_iconst (v := 1) hG dX12_cause_19 (by decide) ?_
    obtain ⟨r3, h2, hE⟩ := fb_some hE
    refine pm_callV (As := [.int 1]) (rest := []) hG hR dX12_cause_20 (lkX12_80 _ rfl) okV_X12_finds rfl rfl (c_X12_finds (d := 5) (by decide) h2) rfl rfl hdd (Nat.le_refl _) (Nat.le_refl _) (by decide) (fx_ki ?_)
    exact pm_iret hG hF dX12_cause_23 rfl (Nat.le_refl _) (Nat.le_refl _) (fx_rim hE)
  · replace hE := fx_f c1 hE
    refine pm_iloadn hG dX12_cause_9 rfl ?_
    refine pm_iconst (v := 0) hG dX12_cause_10 (by decide) ?_
    refine pm_iconst (v := 3) hG dX12_cause_11 (by decide) ?_
    refine pm_callS (As := [.int zb, .int 0, .int 3]) (rest := []) hG hR dX12_cause_12 (lkX12_68 _ rfl) okS_X12_in (c_X12_in (d := 5) (by decide) rfl) rfl rfl hdd (Nat.le_refl _) (Nat.le_refl _) (by decide) (fx_ki ?_)
    refine pm_if_ne (tgt := 24) hG dX12_cause_15 rfl (fun c4 => ?_) (fun c4 => ?_)
    · replace hE := fx_f c4 hE
      refine pm_iloadn hG dX12_cause_24 rfl ?_
      refine pm_iconst (v := 3) hG dX12_cause_25 (by decide) ?_
      refine pm_icmp_ne (tgt := 82) hG dX12_cause_26 rfl (fun c5 => ?_) (fun c5 => ?_)
      · replace hE := fx_f c5 hE
        refine pm_aloadn hG dX12_cause_82 rfl ?_
        refine pm_iloadn hG dX12_cause_83 rfl ?_
        obtain ⟨r7, h6, hE⟩ := fb_some hE
        refine pm_callV (As := [.int za]) (rest := []) hG hR dX12_cause_84 (lkX12_246 _ rfl) okV_X12_weigh rfl rfl (c_X12_weigh (d := 5) (by decide) h6) rfl rfl hdd (Nat.le_refl _) (Nat.le_refl _) (by decide) (fx_kv ?_)
        refine pm_aloadn hG dX12_cause_87 rfl ?_
        refine pm_iconst (v := 0) hG dX12_cause_88 (by decide) ?_
        obtain ⟨x9, h8, hE⟩ := fb_some hE
        refine pm_callV (As := [.int 0]) (rest := []) hG hR dX12_cause_89 (lkX12_249 _ rfl) okV_X12_weightOf rfl rfl (c_X12_weightOf (d := 5) (by decide) h8) rfl rfl hdd (Nat.le_refl _) (Nat.le_refl _) (by decide) (fx_ki ?_)
        refine pm_istoreXn (loc' := [some (.ref (B + 54)), some (.int za), some (.int zb), some (.int x9), none]) hG dX12_cause_92 (by decide) (pm_c1b rfl) rfl ?_
        refine pm_aloadn hG dX12_cause_93 rfl ?_
        refine pm_iconst (v := 1) hG dX12_cause_94 (by decide) ?_
        obtain ⟨x11, h10, hE⟩ := fb_some hE
        refine pm_callV (As := [.int 1]) (rest := []) hG hR dX12_cause_95 (lkX12_249 _ rfl) okV_X12_weightOf rfl rfl (c_X12_weightOf (d := 5) (by decide) h10) rfl rfl hdd (Nat.le_refl _) (Nat.le_refl _) (by decide) (fx_ki ?_)
        refine pm_istoreXi (loc' := [some (.ref (B + 54)), some (.int za), some (.int zb), some (.int x9), some (.int x11)]) hG dX12_cause_98 (by decide) (pm_c1b rfl) rfl ?_
        refine pm_iloadn hG dX12_cause_100 rfl ?_
        refine pm_if_ne (tgt := 108) hG dX12_cause_101 rfl (fun c12 => ?_) (fun c12 => ?_)
        · replace hE := fx_f c12 hE
          refine pm_iloadn hG dX12_cause_108 rfl ?_
          refine pm_iconst (v := 1) hG dX12_cause_109 (by decide) ?_
          refine pm_icmp_ne (tgt := 118) hG dX12_cause_110 rfl (fun c13 => ?_) (fun c13 => ?_)
          · replace hE := fx_f c13 hE
            refine pm_iconst (v := 2) hG dX12_cause_118 (by decide) ?_
            refine pm_iloadn hG dX12_cause_119 rfl ?_
            refine pm_imul hG dX12_cause_120 ?_
            refine pm_iloadi hG dX12_cause_121 rfl ?_
            refine pm_icmp_le (tgt := 130) hG dX12_cause_123 rfl (fun c14 => ?_) (fun c14 => ?_)
            · replace c14 := Int32.not_lt.mpr c14
              replace hE := fx_f c14 hE
              refine pm_iconst (v := 0) hG dX12_cause_130 (by decide) ?_
              exact pm_iret hG hF dX12_cause_131 rfl (Nat.le_refl _) (Nat.le_refl _) (fx_rim hE)
            · replace c14 := Int32.not_le.mp c14
              replace hE := fx_t c14 hE
              refine pm_iconst (v := 1) hG dX12_cause_126 (by decide) ?_
              refine pm_goto (tgt := 131) hG dX12_cause_127 rfl ?_
              exact pm_iret hG hF dX12_cause_131 rfl (Nat.le_refl _) (Nat.le_refl _) (fx_rim hE)
          · replace hE := fx_t c13 hE
            refine pm_iloadi hG dX12_cause_113 rfl ?_
            refine pm_goto (tgt := 131) hG dX12_cause_115 rfl ?_
            exact pm_iret hG hF dX12_cause_131 rfl (Nat.le_refl _) (Nat.le_refl _) (fx_rim hE)
        · replace hE := fx_t c12 hE
          refine pm_iloadn hG dX12_cause_104 rfl ?_
          refine pm_goto (tgt := 131) hG dX12_cause_105 rfl ?_
          exact pm_iret hG hF dX12_cause_131 rfl (Nat.le_refl _) (Nat.le_refl _) (fx_rim hE)
      · replace hE := fx_t c5 hE
        refine pm_iconst (v := 0) hG dX12_cause_29 (by decide) ?_
        refine pm_istoreXn (loc' := [some (.ref (B + 54)), some (.int za), some (.int zb), some (.int 0), none]) hG dX12_cause_30 (by decide) (pm_c1b rfl) rfl ?_
        have loop31 : ∀ (k31 : FS → Int32 → Option (Int32 × FS)), (∀ (S15 : FS) (x15_3 : Int32), k31 S15  x15_3 = some R → pm_wp mX12_cause G B 80 [some (.ref (B + 54)), some (.int za), some (.int zb), some (.int x15_3), none] [] 0 0 cnt (mst B S15 σ)) → ∀ (m31 : Nat) (S15 : FS) (x15_3 : Int32), l_X12_cause_31 za k31 m31 S15  x15_3 = some R → pm_wp mX12_cause G B 31 [some (.ref (B + 54)), some (.int za), some (.int zb), some (.int x15_3), none] [] 0 0 cnt (mst B S15 σ) := by
          intro k31 hk31 m31
          induction m31 with
          | zero => intro S15  x15_3 hE; exact fx_no hE
          | succ m31 ih31 =>
            intro S15  x15_3 hE
            rw [l_X12_cause_31] at hE
            refine pm_iloadn hG dX12_cause_31 rfl ?_
            refine pm_aloadn hG dX12_cause_32 rfl ?_
            refine pm_getf hG dX12_cause_33 (flX12_7 _ rfl) rfl rfl ?_
            refine pm_bipush (v := 7) hG dX12_cause_36 (by decide) ?_
            refine fx_iald hG dX12_cause_38 rfl (ix_lit (by decide) rfl) ?_
            refine pm_icmp_ge (tgt := 80) hG dX12_cause_39 rfl (fun c16 => ?_) (fun c16 => ?_)
            · replace c16 := Int32.not_lt.mpr c16
              replace hE := fx_f c16 hE
              exact hk31 _ _ hE
            · replace c16 := Int32.not_le.mp c16
              replace hE := fx_t c16 hE
              refine pm_aloadn hG dX12_cause_42 rfl ?_
              refine pm_iloadn hG dX12_cause_43 rfl ?_
              refine pm_iconst (v := 1) hG dX12_cause_44 (by decide) ?_
              obtain ⟨x18, h17, hE⟩ := fb_some hE
              refine pm_callV (As := [.int x15_3, .int 1]) (rest := []) hG hR dX12_cause_45 (lkX12_223 _ rfl) okV_X12_promised rfl rfl (c_X12_promised (d := 5) (by decide) h17) rfl rfl hdd (Nat.le_refl _) (Nat.le_refl _) (by decide) (fx_ki ?_)
              refine pm_iloadn hG dX12_cause_48 rfl ?_
              refine pm_icmp_ne (tgt := 74) hG dX12_cause_49 rfl (fun c19 => ?_) (fun c19 => ?_)
              · replace hE := fx_f c19 hE
                refine pm_iincX (v := x15_3 + 1) (loc' := [some (.ref (B + 54)), some (.int za), some (.int zb), some (.int (x15_3 + 1)), none]) hG dX12_cause_74 rfl (by rfl) (by decide) (pm_c1b rfl) rfl ?_
                refine pm_goto (tgt := 31) hG dX12_cause_77 rfl ?_
                exact ih31 _ _ hE
              · replace hE := fx_t c19 hE
                refine pm_aloadn hG dX12_cause_52 rfl ?_
                refine pm_iloadn hG dX12_cause_53 rfl ?_
                refine pm_iconst (v := 3) hG dX12_cause_54 (by decide) ?_
                obtain ⟨x21, h20, hE⟩ := fb_some hE
                refine pm_callV (As := [.int x15_3, .int 3]) (rest := []) hG hR dX12_cause_55 (lkX12_223 _ rfl) okV_X12_promised rfl rfl (c_X12_promised (d := 5) (by decide) h20) rfl rfl hdd (Nat.le_refl _) (Nat.le_refl _) (by decide) (fx_ki ?_)
                refine pm_iconst (v := 1) hG dX12_cause_58 (by decide) ?_
                refine pm_icmp_ne (tgt := 74) hG dX12_cause_59 rfl (fun c22 => ?_) (fun c22 => ?_)
                · replace hE := fx_f c22 hE
                  refine pm_iincX (v := x15_3 + 1) (loc' := [some (.ref (B + 54)), some (.int za), some (.int zb), some (.int (x15_3 + 1)), none]) hG dX12_cause_74 rfl (by rfl) (by decide) (pm_c1b rfl) rfl ?_
                  refine pm_goto (tgt := 31) hG dX12_cause_77 rfl ?_
                  exact ih31 _ _ hE
                · replace hE := fx_t c22 hE
                  refine pm_aloadn hG dX12_cause_62 rfl ?_
                  refine pm_iloadn hG dX12_cause_63 rfl ?_
                  refine pm_iconst (v := 4) hG dX12_cause_64 (by decide) ?_
                  obtain ⟨x24, h23, hE⟩ := fb_some hE
                  refine pm_callV (As := [.int x15_3, .int 4]) (rest := []) hG hR dX12_cause_65 (lkX12_223 _ rfl) okV_X12_promised rfl rfl (c_X12_promised (d := 5) (by decide) h23) rfl rfl hdd (Nat.le_refl _) (Nat.le_refl _) (by decide) (fx_ki ?_)
                  refine pm_iconst (v := 1) hG dX12_cause_68 (by decide) ?_
                  refine pm_icmp_ne (tgt := 74) hG dX12_cause_69 rfl (fun c25 => ?_) (fun c25 => ?_)
                  · replace hE := fx_f c25 hE
                    refine pm_iincX (v := x15_3 + 1) (loc' := [some (.ref (B + 54)), some (.int za), some (.int zb), some (.int (x15_3 + 1)), none]) hG dX12_cause_74 rfl (by rfl) (by decide) (pm_c1b rfl) rfl ?_
                    refine pm_goto (tgt := 31) hG dX12_cause_77 rfl ?_
                    exact ih31 _ _ hE
                  · replace hE := fx_t c25 hE
                    refine pm_iloadn hG dX12_cause_72 rfl ?_
                    exact pm_iret hG hF dX12_cause_73 rfl (Nat.le_refl _) (Nat.le_refl _) (fx_rim hE)
        refine loop31 _ (fun S26 x26_3 hE => ?_) _ _ _ hE
        refine pm_iconst (v := (-1)) hG dX12_cause_80 (by decide) ?_
        exact pm_iret hG hF dX12_cause_81 rfl (Nat.le_refl _) (Nat.le_refl _) (fx_rim hE)
    · replace hE := fx_t c4 hE
      refine pm_aloadn hG dX12_cause_18 rfl ?_
      refine pm_iconst (v := 1) hG dX12_cause_19 (by decide) ?_
      obtain ⟨r28, h27, hE⟩ := fb_some hE
      refine pm_callV (As := [.int 1]) (rest := []) hG hR dX12_cause_20 (lkX12_80 _ rfl) okV_X12_finds rfl rfl (c_X12_finds (d := 5) (by decide) h27) rfl rfl hdd (Nat.le_refl _) (Nat.le_refl _) (by decide) (fx_ki ?_)
      exact pm_iret hG hF dX12_cause_23 rfl (Nat.le_refl _) (Nat.le_refl _) (fx_rim hE)
end
section
set_option maxRecDepth 100000 in
set_option maxHeartbeats 4000000 in
theorem c_X12_check {d : Nat} {B cnt : Nat} {σ : pm_S} {S : FS} {R : Int32 × FS} (hdd : 2 ≤ d) (hE : f_X12_check S = some R) : pm_met mX12_check d 0 0 B [.ref (B + 54)] cnt (mst B S σ) (pm_Qi (fun v σ' cnt' => v = R.1 ∧ σ' = (mst B R.2 σ) ∧ cnt' = cnt)) := by
  refine pm_enter 3 (by decide) (Nat.le_of_ble_eq_true rfl) rfl (fun G hG hR hF => ?_)
  unfold f_X12_check at hE
  refine pm_aloadn hG dX12_check_0 rfl ?_
  refine pm_getf hG dX12_check_1 (flX12_7 _ rfl) rfl rfl ?_
  refine pm_bipush (v := 11) hG dX12_check_4 (by decide) ?_
  refine fx_iald hG dX12_check_6 rfl (ix_lit (by decide) rfl) ?_
  refine fx_letv hE (fun x1 hE => ?_)
  refine pm_istoreXn (loc' := [some (.ref (B + 54)), some (.int x1), none, none]) hG dX12_check_7 (by decide) (pm_c1b rfl) rfl ?_
  refine pm_aloadn hG dX12_check_8 rfl ?_
  refine pm_getf hG dX12_check_9 (flX12_7 _ rfl) rfl rfl ?_
  refine pm_bipush (v := 11) hG dX12_check_12 (by decide) ?_
  refine pm_iconst (v := 0) hG dX12_check_14 (by decide) ?_
  refine fx_iast hG dX12_check_15 rfl (ix_lit (by decide) rfl) ?_
  refine ma_55 ?_
  refine fx_letm hE (fun S2 hE => ?_)
  refine pm_iconst (v := 0) hG dX12_check_16 (by decide) ?_
  refine pm_istoreXn (loc' := [some (.ref (B + 54)), some (.int x1), some (.int 0), none]) hG dX12_check_17 (by decide) (pm_c1b rfl) rfl ?_
  have loop18 : ∀ (k18 : FS → Int32 → Option (Int32 × FS)), (∀ (S3 : FS) (x3_2 : Int32), k18 S3  x3_2 = some R → pm_wp mX12_check G B 111 [some (.ref (B + 54)), some (.int x1), some (.int x3_2), none] [] 0 0 cnt (mst B S3 σ)) → ∀ (m18 : Nat) (S3 : FS) (x3_2 : Int32), l_X12_check_18 x1 k18 m18 S3  x3_2 = some R → pm_wp mX12_check G B 18 [some (.ref (B + 54)), some (.int x1), some (.int x3_2), none] [] 0 0 cnt (mst B S3 σ) := by
    intro k18 hk18 m18
    induction m18 with
    | zero => intro S3  x3_2 hE; exact fx_no hE
    | succ m18 ih18 =>
      intro S3  x3_2 hE
      rw [l_X12_check_18] at hE
      refine pm_iloadn hG dX12_check_18 rfl ?_
      refine pm_iloadn hG dX12_check_19 rfl ?_
      refine pm_icmp_ge (tgt := 111) hG dX12_check_20 rfl (fun c4 => ?_) (fun c4 => ?_)
      · replace c4 := Int32.not_lt.mpr c4
        replace hE := fx_f c4 hE
        exact hk18 _ _ hE
      · replace c4 := Int32.not_le.mp c4
        replace hE := fx_t c4 hE
        refine pm_iloadn hG dX12_check_23 rfl ?_
        refine pm_aloadn hG dX12_check_24 rfl ?_
        refine pm_getf hG dX12_check_25 (flX12_7 _ rfl) rfl rfl ?_
        refine pm_iconst (v := 2) hG dX12_check_28 (by decide) ?_
        refine fx_iald hG dX12_check_29 rfl (ix_lit (by decide) rfl) ?_
        refine pm_icmp_ge (tgt := 61) hG dX12_check_30 rfl (fun c5 => ?_) (fun c5 => ?_)
        · replace c5 := Int32.not_lt.mpr c5
          replace hE := fx_f c5 hE
          refine pm_iloadn hG dX12_check_61 rfl ?_
          refine pm_aloadn hG dX12_check_62 rfl ?_
          refine pm_getf hG dX12_check_63 (flX12_7 _ rfl) rfl rfl ?_
          refine pm_iconst (v := 2) hG dX12_check_66 (by decide) ?_
          refine fx_iald hG dX12_check_67 rfl (ix_lit (by decide) rfl) ?_
          refine pm_icmp_ne (tgt := 95) hG dX12_check_68 rfl (fun c6 => ?_) (fun c6 => ?_)
          · replace hE := fx_f c6 hE
            refine pm_iconst (v := 0) hG dX12_check_95 (by decide) ?_
            refine pm_istoreXn (loc' := [some (.ref (B + 54)), some (.int x1), some (.int x3_2), some (.int 0)]) hG dX12_check_96 (by decide) (pm_c1b rfl) rfl ?_
            refine pm_iloadn hG dX12_check_97 rfl ?_
            refine pm_if_ne (tgt := 105) hG dX12_check_98 rfl (fun q => absurd q (by decide)) (fun _ => ?_)
            refine pm_iconst (v := 1) hG dX12_check_101 (by decide) ?_
            refine pm_iloadn hG dX12_check_102 rfl ?_
            refine pm_iadd hG dX12_check_103 ?_
            exact pm_iret hG hF dX12_check_104 rfl (Nat.le_refl _) (Nat.le_refl _) (fx_rim hE)
          · replace hE := fx_t c6 hE
            refine pm_aloadn hG dX12_check_71 rfl ?_
            refine pm_getf hG dX12_check_72 (flX12_7 _ rfl) rfl rfl ?_
            refine pm_sipush (v := 2051) hG dX12_check_75 (by decide) ?_
            refine pm_iloadn hG dX12_check_78 rfl ?_
            refine pm_iadd hG dX12_check_79 ?_
            obtain ⟨j7, hj7, hE⟩ := fb_some hE
            refine fx_iald hG dX12_check_80 rfl hj7 ?_
            refine pm_aloadn hG dX12_check_81 rfl ?_
            refine pm_getf hG dX12_check_82 (flX12_7 _ rfl) rfl rfl ?_
            refine pm_bipush (v := 9) hG dX12_check_85 (by decide) ?_
            refine fx_iald hG dX12_check_87 rfl (ix_lit (by decide) rfl) ?_
            refine pm_icmp_ne (tgt := 95) hG dX12_check_88 rfl (fun c8 => ?_) (fun c8 => ?_)
            · replace hE := fx_f c8 hE
              refine pm_iconst (v := 0) hG dX12_check_95 (by decide) ?_
              refine pm_istoreXn (loc' := [some (.ref (B + 54)), some (.int x1), some (.int x3_2), some (.int 0)]) hG dX12_check_96 (by decide) (pm_c1b rfl) rfl ?_
              refine pm_iloadn hG dX12_check_97 rfl ?_
              refine pm_if_ne (tgt := 105) hG dX12_check_98 rfl (fun q => absurd q (by decide)) (fun _ => ?_)
              refine pm_iconst (v := 1) hG dX12_check_101 (by decide) ?_
              refine pm_iloadn hG dX12_check_102 rfl ?_
              refine pm_iadd hG dX12_check_103 ?_
              exact pm_iret hG hF dX12_check_104 rfl (Nat.le_refl _) (Nat.le_refl _) (fx_rim hE)
            · replace hE := fx_t c8 hE
              refine pm_iconst (v := 1) hG dX12_check_91 (by decide) ?_
              refine pm_goto (tgt := 96) hG dX12_check_92 rfl ?_
              refine pm_istoreXn (loc' := [some (.ref (B + 54)), some (.int x1), some (.int x3_2), some (.int 1)]) hG dX12_check_96 (by decide) (pm_c1b rfl) rfl ?_
              refine pm_iloadn hG dX12_check_97 rfl ?_
              refine pm_if_ne (tgt := 105) hG dX12_check_98 rfl (fun _ => ?_) (fun q => absurd q (by decide))
              refine pm_iincX (v := x3_2 + 1) (loc' := [some (.ref (B + 54)), some (.int x1), some (.int (x3_2 + 1)), some (.int 1)]) hG dX12_check_105 rfl (by rfl) (by decide) (pm_c1b rfl) rfl ?_
              refine pm_goto (tgt := 18) hG dX12_check_108 rfl ?_
              refine pm_fg 3 (loc' := [some (.ref (B + 54)), some (.int x1), some (.int (x3_2 + 1)), none]) rfl ?_
              exact ih18 _ _ hE
        · replace c5 := Int32.not_le.mp c5
          replace hE := fx_t c5 hE
          refine pm_aloadn hG dX12_check_33 rfl ?_
          refine pm_getf hG dX12_check_34 (flX12_7 _ rfl) rfl rfl ?_
          refine pm_sipush (v := 2051) hG dX12_check_37 (by decide) ?_
          refine pm_iloadn hG dX12_check_40 rfl ?_
          refine pm_iadd hG dX12_check_41 ?_
          obtain ⟨j9, hj9, hE⟩ := fb_some hE
          refine fx_iald hG dX12_check_42 rfl hj9 ?_
          refine pm_aloadn hG dX12_check_43 rfl ?_
          refine pm_iloadn hG dX12_check_44 rfl ?_
          refine pm_bipush (v := 7) hG dX12_check_45 (by decide) ?_
          obtain ⟨x11, h10, hE⟩ := fb_some hE
          refine pm_callV (As := [.int x3_2, .int 7]) (rest := [.int (S3.2 55 j9)]) hG hR dX12_check_47 (lkX12_72 _ rfl) okV_X12_man rfl rfl (c_X12_man (d := 1) (by decide) h10) rfl rfl hdd (Nat.le_refl _) (Nat.le_refl _) (by first | decide | exact Nat.le_of_ble_eq_true rfl) (fx_ki ?_)
          refine pm_icmp_ne (tgt := 57) hG dX12_check_50 rfl (fun c12 => ?_) (fun c12 => ?_)
          · replace hE := fx_f c12 hE
            refine pm_iconst (v := 0) hG dX12_check_57 (by decide) ?_
            refine pm_goto (tgt := 96) hG dX12_check_58 rfl ?_
            refine pm_istoreXn (loc' := [some (.ref (B + 54)), some (.int x1), some (.int x3_2), some (.int 0)]) hG dX12_check_96 (by decide) (pm_c1b rfl) rfl ?_
            refine pm_iloadn hG dX12_check_97 rfl ?_
            refine pm_if_ne (tgt := 105) hG dX12_check_98 rfl (fun q => absurd q (by decide)) (fun _ => ?_)
            refine pm_iconst (v := 1) hG dX12_check_101 (by decide) ?_
            refine pm_iloadn hG dX12_check_102 rfl ?_
            refine pm_iadd hG dX12_check_103 ?_
            exact pm_iret hG hF dX12_check_104 rfl (Nat.le_refl _) (Nat.le_refl _) (fx_rim hE)
          · replace hE := fx_t c12 hE
            refine pm_iconst (v := 1) hG dX12_check_53 (by decide) ?_
            refine pm_goto (tgt := 96) hG dX12_check_54 rfl ?_
            refine pm_istoreXn (loc' := [some (.ref (B + 54)), some (.int x1), some (.int x3_2), some (.int 1)]) hG dX12_check_96 (by decide) (pm_c1b rfl) rfl ?_
            refine pm_iloadn hG dX12_check_97 rfl ?_
            refine pm_if_ne (tgt := 105) hG dX12_check_98 rfl (fun _ => ?_) (fun q => absurd q (by decide))
            refine pm_iincX (v := x3_2 + 1) (loc' := [some (.ref (B + 54)), some (.int x1), some (.int (x3_2 + 1)), some (.int 1)]) hG dX12_check_105 rfl (by rfl) (by decide) (pm_c1b rfl) rfl ?_
            refine pm_goto (tgt := 18) hG dX12_check_108 rfl ?_
            refine pm_fg 3 (loc' := [some (.ref (B + 54)), some (.int x1), some (.int (x3_2 + 1)), none]) rfl ?_
            exact ih18 _ _ hE
  refine loop18 _ (fun S13 x13_2 hE => ?_) _ _ _ hE
  refine pm_iconst (v := 0) hG dX12_check_111 (by decide) ?_
  exact pm_iret hG hF dX12_check_112 rfl (Nat.le_refl _) (Nat.le_refl _) (fx_rim hE)

set_option maxRecDepth 100000 in
set_option maxHeartbeats 4000000 in
theorem c_X12_makes {d : Nat} {B cnt : Nat} {σ : pm_S} {S : FS} {za : Int32} {zb : Int32} {zc : Int32} {R : Int32 × FS} (hdd : 1 ≤ d) (hE : f_X12_makes S za zb zc = some R) : pm_met mX12_makes d 0 0 B [.ref (B + 54), .int za, .int zb, .int zc] cnt (mst B S σ) (pm_Qv (fun σ' cnt' => σ' = (mst B R.2 σ) ∧ cnt' = cnt)) := by
  refine pm_enter 0 (by decide) (Nat.le_of_ble_eq_true rfl) rfl (fun G hG hR hF => ?_)
  unfold f_X12_makes at hE
  refine pm_aloadn hG dX12_makes_0 rfl ?_
  refine pm_getf hG dX12_makes_1 (flX12_7 _ rfl) rfl rfl ?_
  refine pm_sipush (v := 390) hG dX12_makes_4 (by decide) ?_
  refine pm_bipush (v := 6) hG dX12_makes_7 (by decide) ?_
  refine pm_iloadn hG dX12_makes_9 rfl ?_
  refine pm_imul hG dX12_makes_10 ?_
  refine pm_iadd hG dX12_makes_11 ?_
  refine pm_iloadn hG dX12_makes_12 rfl ?_
  refine pm_iadd hG dX12_makes_13 ?_
  refine pm_iloadn hG dX12_makes_14 rfl ?_
  obtain ⟨j1, hj1, hE⟩ := fb_some hE
  refine fx_iast hG dX12_makes_15 rfl hj1 ?_
  refine ma_55 ?_
  refine fx_letm hE (fun S2 hE => ?_)
  exact pm_vret hG hF dX12_makes_16 rfl (Nat.le_refl _) (Nat.le_refl _) (fx_rvm hE)

set_option maxRecDepth 100000 in
set_option maxHeartbeats 4000000 in
theorem c_X12_comesBack {d : Nat} {B cnt : Nat} {σ : pm_S} {S : FS} {za : Int32} {R : Int32 × FS} (hdd : 2 ≤ d) (hE : f_X12_comesBack S za = some R) : pm_met mX12_comesBack d 0 0 B [.ref (B + 54), .int za] cnt (mst B S σ) (pm_Qv (fun σ' cnt' => σ' = (mst B R.2 σ) ∧ cnt' = cnt)) := by
  refine pm_enter 0 (by decide) (Nat.le_of_ble_eq_true rfl) rfl (fun G hG hR hF => ?_)
  unfold f_X12_comesBack at hE
  refine pm_aloadn hG dX12_comesBack_0 rfl ?_
  refine pm_iloadn hG dX12_comesBack_1 rfl ?_
  refine pm_iconst (v := 2) hG dX12_comesBack_2 (by decide) ?_
  refine pm_iconst (v := (-1)) hG dX12_comesBack_3 (by decide) ?_
  obtain ⟨r2, h1, hE⟩ := fb_some hE
  refine pm_callV (As := [.int za, .int 2, .int (-1)]) (rest := []) hG hR dX12_comesBack_4 (lkX12_113 _ rfl) okV_X12_makes rfl rfl (c_X12_makes (d := 1) (by decide) h1) rfl rfl hdd (Nat.le_refl _) (Nat.le_refl _) (by decide) (fx_kv ?_)
  refine pm_aloadn hG dX12_comesBack_7 rfl ?_
  refine pm_iloadn hG dX12_comesBack_8 rfl ?_
  refine pm_iconst (v := 3) hG dX12_comesBack_9 (by decide) ?_
  refine pm_iconst (v := (-1)) hG dX12_comesBack_10 (by decide) ?_
  obtain ⟨r4, h3, hE⟩ := fb_some hE
  refine pm_callV (As := [.int za, .int 3, .int (-1)]) (rest := []) hG hR dX12_comesBack_11 (lkX12_113 _ rfl) okV_X12_makes rfl rfl (c_X12_makes (d := 1) (by decide) h3) rfl rfl hdd (Nat.le_refl _) (Nat.le_refl _) (by decide) (fx_kv ?_)
  exact pm_vret hG hF dX12_comesBack_14 rfl (Nat.le_refl _) (Nat.le_refl _) (fx_rvm hE)

set_option maxRecDepth 100000 in
set_option maxHeartbeats 4000000 in
theorem c_X12_whoHas {d : Nat} {B cnt : Nat} {σ : pm_S} {S : FS} {za : Int32} {R : Int32} (hdd : 2 ≤ d) (hE : q_X12_whoHas S za = some R) : pm_met mX12_whoHas d 0 0 B [.ref (B + 54), .int za] cnt (mst B S σ) (pm_Qi (fun v σ' cnt' => v = R ∧ σ' = (mst B S σ) ∧ cnt' = cnt)) := by
  refine pm_enter 0 (by decide) (Nat.le_of_ble_eq_true rfl) rfl (fun G hG hR hF => ?_)
  unfold q_X12_whoHas at hE
  refine pm_aloadn hG dX12_whoHas_0 rfl ?_
  refine pm_iloadn hG dX12_whoHas_1 rfl ?_
  refine pm_iconst (v := 2) hG dX12_whoHas_2 (by decide) ?_
  obtain ⟨x2, h1, hE⟩ := fb_some hE
  refine pm_callV (As := [.int za, .int 2]) (rest := []) hG hR dX12_whoHas_3 (lkX12_110 _ rfl) okV_X12_its rfl rfl (c_X12_its (d := 1) (by decide) h1) rfl rfl hdd (Nat.le_refl _) (Nat.le_refl _) (by decide) (fx_ki ?_)
  refine pm_if_lt (tgt := 18) hG dX12_whoHas_6 rfl (fun c3 => ?_) (fun c3 => ?_)
  · replace hE := fx_t c3 hE
    refine pm_aloadn hG dX12_whoHas_18 rfl ?_
    refine pm_iloadn hG dX12_whoHas_19 rfl ?_
    refine pm_iconst (v := 1) hG dX12_whoHas_20 (by decide) ?_
    obtain ⟨x5, h4, hE⟩ := fb_some hE
    refine pm_callV (As := [.int za, .int 1]) (rest := []) hG hR dX12_whoHas_21 (lkX12_110 _ rfl) okV_X12_its rfl rfl (c_X12_its (d := 1) (by decide) h4) rfl rfl hdd (Nat.le_refl _) (Nat.le_refl _) (by decide) (fx_ki ?_)
    exact pm_iret hG hF dX12_whoHas_24 rfl (Nat.le_refl _) (Nat.le_refl _) (fx_pi (Option.some.inj hE))
  · replace hE := fx_f c3 hE
    refine pm_aloadn hG dX12_whoHas_9 rfl ?_
    refine pm_iloadn hG dX12_whoHas_10 rfl ?_
    refine pm_iconst (v := 2) hG dX12_whoHas_11 (by decide) ?_
    obtain ⟨x7, h6, hE⟩ := fb_some hE
    refine pm_callV (As := [.int za, .int 2]) (rest := []) hG hR dX12_whoHas_12 (lkX12_110 _ rfl) okV_X12_its rfl rfl (c_X12_its (d := 1) (by decide) h6) rfl rfl hdd (Nat.le_refl _) (Nat.le_refl _) (by decide) (fx_ki ?_)
    refine pm_goto (tgt := 24) hG dX12_whoHas_15 rfl ?_
    exact pm_iret hG hF dX12_whoHas_24 rfl (Nat.le_refl _) (Nat.le_refl _) (fx_pi (Option.some.inj hE))

set_option maxRecDepth 100000 in
set_option maxHeartbeats 4000000 in
theorem c_X12_newPower {d : Nat} {B cnt : Nat} {σ : pm_S} {S : FS} {za : Int32} {zb : Int32} {zc : Int32} {zd : Int32} {R : Int32 × FS} (hdd : 3 ≤ d) (hE : f_X12_newPower S za zb zc zd = some R) : pm_met mX12_newPower d 0 0 B [.ref (B + 54), .int za, .int zb, .int zc, .int zd] cnt (mst B S σ) (pm_Qi (fun v σ' cnt' => v = R.1 ∧ σ' = (mst B R.2 σ) ∧ cnt' = cnt)) := by
  refine pm_enter 1 (by decide) (Nat.le_of_ble_eq_true rfl) rfl (fun G hG hR hF => ?_)
  unfold f_X12_newPower at hE
  refine pm_aloadn hG dX12_newPower_0 rfl ?_
  refine pm_getf hG dX12_newPower_1 (flX12_7 _ rfl) rfl rfl ?_
  refine pm_iconst (v := 3) hG dX12_newPower_4 (by decide) ?_
  refine fx_iald hG dX12_newPower_5 rfl (ix_lit (by decide) rfl) ?_
  refine fx_letv hE (fun x1 hE => ?_)
  refine pm_istoreXi (loc' := [some (.ref (B + 54)), some (.int za), some (.int zb), some (.int zc), some (.int zd), some (.int x1)]) hG dX12_newPower_6 (by decide) (pm_c1b rfl) rfl ?_
  refine pm_aloadn hG dX12_newPower_8 rfl ?_
  refine pm_getf hG dX12_newPower_9 (flX12_7 _ rfl) rfl rfl ?_
  refine pm_iconst (v := 3) hG dX12_newPower_12 (by decide) ?_
  refine pm_dup2 hG dX12_newPower_13 rfl rfl ?_
  refine fx_iald hG dX12_newPower_14 rfl (ix_lit (by decide) rfl) ?_
  refine pm_iconst (v := 1) hG dX12_newPower_15 (by decide) ?_
  refine pm_iadd hG dX12_newPower_16 ?_
  refine fx_iast hG dX12_newPower_17 rfl (ix_lit (by decide) rfl) ?_
  refine ma_55 ?_
  refine fx_letm hE (fun S2 hE => ?_)
  refine pm_aloadn hG dX12_newPower_18 rfl ?_
  refine pm_iloadi hG dX12_newPower_19 rfl ?_
  refine pm_iconst (v := 0) hG dX12_newPower_21 (by decide) ?_
  refine pm_iloadn hG dX12_newPower_22 rfl ?_
  obtain ⟨r4, h3, hE⟩ := fb_some hE
  refine pm_callV (As := [.int x1, .int 0, .int za]) (rest := []) hG hR dX12_newPower_23 (lkX12_113 _ rfl) okV_X12_makes rfl rfl (c_X12_makes (d := 2) (by decide) h3) rfl rfl hdd (Nat.le_refl _) (Nat.le_refl _) (by decide) (fx_kv ?_)
  refine pm_aloadn hG dX12_newPower_26 rfl ?_
  refine pm_iloadi hG dX12_newPower_27 rfl ?_
  refine pm_iconst (v := 1) hG dX12_newPower_29 (by decide) ?_
  refine pm_iloadn hG dX12_newPower_30 rfl ?_
  obtain ⟨r6, h5, hE⟩ := fb_some hE
  refine pm_callV (As := [.int x1, .int 1, .int zb]) (rest := []) hG hR dX12_newPower_31 (lkX12_113 _ rfl) okV_X12_makes rfl rfl (c_X12_makes (d := 2) (by decide) h5) rfl rfl hdd (Nat.le_refl _) (Nat.le_refl _) (by decide) (fx_kv ?_)
  refine pm_aloadn hG dX12_newPower_34 rfl ?_
  refine pm_iloadi hG dX12_newPower_35 rfl ?_
  refine pm_iconst (v := 4) hG dX12_newPower_37 (by decide) ?_
  refine pm_iloadn hG dX12_newPower_38 rfl ?_
  obtain ⟨r8, h7, hE⟩ := fb_some hE
  refine pm_callV (As := [.int x1, .int 4, .int zc]) (rest := []) hG hR dX12_newPower_39 (lkX12_113 _ rfl) okV_X12_makes rfl rfl (c_X12_makes (d := 2) (by decide) h7) rfl rfl hdd (Nat.le_refl _) (Nat.le_refl _) (by decide) (fx_kv ?_)
  refine pm_aloadn hG dX12_newPower_42 rfl ?_
  refine pm_iloadi hG dX12_newPower_43 rfl ?_
  refine pm_iconst (v := 5) hG dX12_newPower_45 (by decide) ?_
  refine pm_iloadi hG dX12_newPower_46 rfl ?_
  refine pm_if_ge (tgt := 56) hG dX12_newPower_48 rfl (fun c9 => ?_) (fun c9 => ?_)
  · replace c9 := Int32.not_lt.mpr c9
    replace hE := fx_f c9 hE
    refine pm_iloadi hG dX12_newPower_56 rfl ?_
    obtain ⟨r11, h10, hE⟩ := fb_some hE
    refine pm_callV (As := [.int x1, .int 5, .int zd]) (rest := []) hG hR dX12_newPower_58 (lkX12_113 _ rfl) okV_X12_makes rfl rfl (c_X12_makes (d := 2) (by decide) h10) rfl rfl hdd (Nat.le_refl _) (Nat.le_refl _) (by decide) (fx_kv ?_)
    refine pm_aloadn hG dX12_newPower_61 rfl ?_
    refine pm_iloadi hG dX12_newPower_62 rfl ?_
    obtain ⟨r13, h12, hE⟩ := fb_some hE
    refine pm_callV (As := [.int x1]) (rest := []) hG hR dX12_newPower_64 (lkX12_116 _ rfl) okV_X12_comesBack rfl rfl (c_X12_comesBack (d := 2) (by decide) h12) rfl rfl hdd (Nat.le_refl _) (Nat.le_refl _) (by decide) (fx_kv ?_)
    refine pm_iloadi hG dX12_newPower_67 rfl ?_
    exact pm_iret hG hF dX12_newPower_69 rfl (Nat.le_refl _) (Nat.le_refl _) (fx_rim hE)
  · replace c9 := Int32.not_le.mp c9
    replace hE := fx_t c9 hE
    refine pm_iloadi hG dX12_newPower_51 rfl ?_
    refine pm_goto (tgt := 58) hG dX12_newPower_53 rfl ?_
    obtain ⟨r15, h14, hE⟩ := fb_some hE
    refine pm_callV (As := [.int x1, .int 5, .int x1]) (rest := []) hG hR dX12_newPower_58 (lkX12_113 _ rfl) okV_X12_makes rfl rfl (c_X12_makes (d := 2) (by decide) h14) rfl rfl hdd (Nat.le_refl _) (Nat.le_refl _) (by decide) (fx_kv ?_)
    refine pm_aloadn hG dX12_newPower_61 rfl ?_
    refine pm_iloadi hG dX12_newPower_62 rfl ?_
    obtain ⟨r17, h16, hE⟩ := fb_some hE
    refine pm_callV (As := [.int x1]) (rest := []) hG hR dX12_newPower_64 (lkX12_116 _ rfl) okV_X12_comesBack rfl rfl (c_X12_comesBack (d := 2) (by decide) h16) rfl rfl hdd (Nat.le_refl _) (Nat.le_refl _) (by decide) (fx_kv ?_)
    refine pm_iloadi hG dX12_newPower_67 rfl ?_
    exact pm_iret hG hF dX12_newPower_69 rfl (Nat.le_refl _) (Nat.le_refl _) (fx_rim hE)

set_option maxRecDepth 100000 in
set_option maxHeartbeats 4000000 in
theorem c_X12_copy {d : Nat} {B cnt : Nat} {σ : pm_S} {S : FS} {za : Int32} {R : Int32 × FS} (hdd : 4 ≤ d) (hE : f_X12_copy S za = some R) : pm_met mX12_copy d 0 0 B [.ref (B + 54), .int za] cnt (mst B S σ) (pm_Qi (fun v σ' cnt' => v = R.1 ∧ σ' = (mst B R.2 σ) ∧ cnt' = cnt)) := by
  refine pm_enter 0 (by decide) (Nat.le_of_ble_eq_true rfl) rfl (fun G hG hR hF => ?_)
  unfold f_X12_copy at hE
  refine pm_aloadn hG dX12_copy_0 rfl ?_
  refine pm_iloadn hG dX12_copy_1 rfl ?_
  refine pm_callV (As := [.int za]) (rest := []) hG hR dX12_copy_2 (lkX12_132 _ rfl) okV_X12_isPower rfl rfl (c_X12_isPower (d := 3) (by decide) rfl) rfl rfl hdd (Nat.le_refl _) (Nat.le_refl _) (by decide) (fx_ki ?_)
  refine pm_if_ne (tgt := 14) hG dX12_copy_5 rfl (fun c1 => ?_) (fun c1 => ?_)
  · replace hE := fx_f c1 hE
    refine pm_aloadn hG dX12_copy_14 rfl ?_
    refine pm_iloadn hG dX12_copy_15 rfl ?_
    refine pm_iconst (v := 0) hG dX12_copy_16 (by decide) ?_
    obtain ⟨x3, h2, hE⟩ := fb_some hE
    refine pm_callV (As := [.int za, .int 0]) (rest := []) hG hR dX12_copy_17 (lkX12_110 _ rfl) okV_X12_its rfl rfl (c_X12_its (d := 3) (by decide) h2) rfl rfl hdd (Nat.le_refl _) (Nat.le_refl _) (by decide) (fx_ki ?_)
    refine pm_iconst (v := 2) hG dX12_copy_20 (by decide) ?_
    refine pm_icmp_eq (tgt := 30) hG dX12_copy_21 rfl (fun c4 => ?_) (fun c4 => ?_)
    · replace hE := fx_t c4 hE
      refine pm_aloadn hG dX12_copy_30 rfl ?_
      refine pm_iloadn hG dX12_copy_31 rfl ?_
      obtain ⟨x6, h5, hE⟩ := fb_some hE
      refine pm_callV (As := [.int za]) (rest := []) hG hR dX12_copy_32 (lkX12_139 _ rfl) okV_X12_whoHas rfl rfl (c_X12_whoHas (d := 3) (by decide) h5) rfl rfl hdd (Nat.le_refl _) (Nat.le_refl _) (by decide) (fx_ki ?_)
      refine pm_if_ge (tgt := 44) hG dX12_copy_35 rfl (fun c7 => ?_) (fun c7 => ?_)
      · replace c7 := Int32.not_lt.mpr c7
        replace hE := fx_f c7 hE
        refine pm_aloadn hG dX12_copy_44 rfl ?_
        refine pm_getf hG dX12_copy_45 (flX12_7 _ rfl) rfl rfl ?_
        refine pm_iconst (v := 3) hG dX12_copy_48 (by decide) ?_
        refine fx_iald hG dX12_copy_49 rfl (ix_lit (by decide) rfl) ?_
        refine pm_bipush (v := 20) hG dX12_copy_50 (by decide) ?_
        refine pm_icmp_ne (tgt := 63) hG dX12_copy_52 rfl (fun c8 => ?_) (fun c8 => ?_)
        · replace hE := fx_f c8 hE
          refine pm_aloadn hG dX12_copy_63 rfl ?_
          refine pm_iconst (v := 2) hG dX12_copy_64 (by decide) ?_
          refine pm_aloadn hG dX12_copy_65 rfl ?_
          refine pm_iloadn hG dX12_copy_66 rfl ?_
          obtain ⟨x10, h9, hE⟩ := fb_some hE
          refine pm_callV (As := [.int za]) (rest := [.int 2, .ref (B + 54)]) hG hR dX12_copy_67 (lkX12_139 _ rfl) okV_X12_whoHas rfl rfl (c_X12_whoHas (d := 3) (by decide) h9) rfl rfl hdd (Nat.le_refl _) (Nat.le_refl _) (by first | decide | exact Nat.le_of_ble_eq_true rfl) (fx_ki ?_)
          refine pm_iconst (v := 0) hG dX12_copy_70 (by decide) ?_
          refine pm_aloadn hG dX12_copy_71 rfl ?_
          refine pm_iloadn hG dX12_copy_72 rfl ?_
          refine pm_iconst (v := 5) hG dX12_copy_73 (by decide) ?_
          obtain ⟨x12, h11, hE⟩ := fb_some hE
          refine pm_callV (As := [.int za, .int 5]) (rest := [.int 0, .int x10, .int 2, .ref (B + 54)]) hG hR dX12_copy_74 (lkX12_110 _ rfl) okV_X12_its rfl rfl (c_X12_its (d := 3) (by decide) h11) rfl rfl hdd (Nat.le_refl _) (Nat.le_refl _) (by first | decide | exact Nat.le_of_ble_eq_true rfl) (fx_ki ?_)
          obtain ⟨r14, h13, hE⟩ := fb_some hE
          refine pm_callV (As := [.int 2, .int x10, .int 0, .int x12]) (rest := []) hG hR dX12_copy_77 (lkX12_128 _ rfl) okV_X12_newPower rfl rfl (c_X12_newPower (d := 3) (by decide) h13) rfl rfl hdd (Nat.le_refl _) (Nat.le_refl _) (by decide) (fx_ki ?_)
          exact pm_iret hG hF dX12_copy_80 rfl (Nat.le_refl _) (Nat.le_refl _) (fx_rim hE)
        · replace hE := fx_t c8 hE
          refine pm_aloadn hG dX12_copy_55 rfl ?_
          refine pm_iconst (v := 4) hG dX12_copy_56 (by decide) ?_
          obtain ⟨r16, h15, hE⟩ := fb_some hE
          refine pm_callV (As := [.int 4]) (rest := []) hG hR dX12_copy_57 (lkX12_80 _ rfl) okV_X12_finds rfl rfl (c_X12_finds (d := 3) (by decide) h15) rfl rfl hdd (Nat.le_refl _) (Nat.le_refl _) (by decide) (fx_ki ?_)
          refine pm_goto (tgt := 80) hG dX12_copy_60 rfl ?_
          exact pm_iret hG hF dX12_copy_80 rfl (Nat.le_refl _) (Nat.le_refl _) (fx_rim hE)
      · replace c7 := Int32.not_le.mp c7
        replace hE := fx_t c7 hE
        refine pm_aloadn hG dX12_copy_38 rfl ?_
        refine pm_iconst (v := 3) hG dX12_copy_39 (by decide) ?_
        obtain ⟨r18, h17, hE⟩ := fb_some hE
        refine pm_callV (As := [.int 3]) (rest := []) hG hR dX12_copy_40 (lkX12_80 _ rfl) okV_X12_finds rfl rfl (c_X12_finds (d := 3) (by decide) h17) rfl rfl hdd (Nat.le_refl _) (Nat.le_refl _) (by decide) (fx_ki ?_)
        exact pm_iret hG hF dX12_copy_43 rfl (Nat.le_refl _) (Nat.le_refl _) (fx_rim hE)
    · replace hE := fx_f c4 hE
      refine pm_aloadn hG dX12_copy_24 rfl ?_
      refine pm_iconst (v := 5) hG dX12_copy_25 (by decide) ?_
      obtain ⟨r20, h19, hE⟩ := fb_some hE
      refine pm_callV (As := [.int 5]) (rest := []) hG hR dX12_copy_26 (lkX12_80 _ rfl) okV_X12_finds rfl rfl (c_X12_finds (d := 3) (by decide) h19) rfl rfl hdd (Nat.le_refl _) (Nat.le_refl _) (by decide) (fx_ki ?_)
      exact pm_iret hG hF dX12_copy_29 rfl (Nat.le_refl _) (Nat.le_refl _) (fx_rim hE)
  · replace hE := fx_t c1 hE
    refine pm_aloadn hG dX12_copy_8 rfl ?_
    refine pm_iconst (v := 1) hG dX12_copy_9 (by decide) ?_
    obtain ⟨r22, h21, hE⟩ := fb_some hE
    refine pm_callV (As := [.int 1]) (rest := []) hG hR dX12_copy_10 (lkX12_80 _ rfl) okV_X12_finds rfl rfl (c_X12_finds (d := 3) (by decide) h21) rfl rfl hdd (Nat.le_refl _) (Nat.le_refl _) (by decide) (fx_ki ?_)
    exact pm_iret hG hF dX12_copy_13 rfl (Nat.le_refl _) (Nat.le_refl _) (fx_rim hE)

set_option maxRecDepth 100000 in
set_option maxHeartbeats 4000000 in
theorem c_X12_seatedMany {d : Nat} {B cnt : Nat} {σ : pm_S} {S : FS} {R : Int32} (hdd : 2 ≤ d) (hE : q_X12_seatedMany S = some R) : pm_met mX12_seatedMany d 0 0 B [.ref (B + 54)] cnt (mst B S σ) (pm_Qi (fun v σ' cnt' => v = R ∧ σ' = (mst B S σ) ∧ cnt' = cnt)) := by
  refine pm_enter 2 (by decide) (Nat.le_of_ble_eq_true rfl) rfl (fun G hG hR hF => ?_)
  unfold q_X12_seatedMany at hE
  refine pm_iconst (v := 0) hG dX12_seatedMany_0 (by decide) ?_
  refine pm_istoreXn (loc' := [some (.ref (B + 54)), some (.int 0), none]) hG dX12_seatedMany_1 (by decide) (pm_c1b rfl) rfl ?_
  refine pm_iconst (v := 0) hG dX12_seatedMany_2 (by decide) ?_
  refine pm_istoreXn (loc' := [some (.ref (B + 54)), some (.int 0), some (.int 0)]) hG dX12_seatedMany_3 (by decide) (pm_c1b rfl) rfl ?_
  have loop4 : ∀ (k4 : Int32 → Int32 → Option Int32), (∀  (x1_1 : Int32) (x1_2 : Int32), k4  x1_1 x1_2 = some R → pm_wp mX12_seatedMany G B 30 [some (.ref (B + 54)), some (.int x1_1), some (.int x1_2)] [] 0 0 cnt (mst B S σ)) → ∀ (m4 : Nat)  (x1_1 : Int32) (x1_2 : Int32), l_X12_seatedMany_4 S k4 m4  x1_1 x1_2 = some R → pm_wp mX12_seatedMany G B 4 [some (.ref (B + 54)), some (.int x1_1), some (.int x1_2)] [] 0 0 cnt (mst B S σ) := by
    intro k4 hk4 m4
    induction m4 with
    | zero => intro  x1_1 x1_2 hE; exact fx_no hE
    | succ m4 ih4 =>
      intro  x1_1 x1_2 hE
      rw [l_X12_seatedMany_4] at hE
      refine pm_iloadn hG dX12_seatedMany_4 rfl ?_
      refine pm_aloadn hG dX12_seatedMany_5 rfl ?_
      refine pm_getf hG dX12_seatedMany_6 (flX12_7 _ rfl) rfl rfl ?_
      refine pm_iconst (v := 2) hG dX12_seatedMany_9 (by decide) ?_
      refine fx_iald hG dX12_seatedMany_10 rfl (ix_lit (by decide) rfl) ?_
      refine pm_icmp_ge (tgt := 30) hG dX12_seatedMany_11 rfl (fun c2 => ?_) (fun c2 => ?_)
      · replace c2 := Int32.not_lt.mpr c2
        replace hE := fx_f c2 hE
        exact hk4 _ _ hE
      · replace c2 := Int32.not_le.mp c2
        replace hE := fx_t c2 hE
        refine pm_iloadn hG dX12_seatedMany_14 rfl ?_
        refine pm_aloadn hG dX12_seatedMany_15 rfl ?_
        refine pm_iloadn hG dX12_seatedMany_16 rfl ?_
        refine pm_bipush (v := 11) hG dX12_seatedMany_17 (by decide) ?_
        obtain ⟨x4, h3, hE⟩ := fb_some hE
        refine pm_callV (As := [.int x1_2, .int 11]) (rest := [.int x1_1]) hG hR dX12_seatedMany_19 (lkX12_72 _ rfl) okV_X12_man rfl rfl (c_X12_man (d := 1) (by decide) h3) rfl rfl hdd (Nat.le_refl _) (Nat.le_refl _) (by first | decide | exact Nat.le_of_ble_eq_true rfl) (fx_ki ?_)
        refine pm_iadd hG dX12_seatedMany_22 ?_
        refine fx_letv hE (fun x5 hE => ?_)
        refine pm_istoreXn (loc' := [some (.ref (B + 54)), some (.int x5), some (.int x1_2)]) hG dX12_seatedMany_23 (by decide) (pm_c1b rfl) rfl ?_
        refine pm_iincX (v := x1_2 + 1) (loc' := [some (.ref (B + 54)), some (.int x5), some (.int (x1_2 + 1))]) hG dX12_seatedMany_24 rfl (by rfl) (by decide) (pm_c1b rfl) rfl ?_
        refine pm_goto (tgt := 4) hG dX12_seatedMany_27 rfl ?_
        exact ih4 _ _ hE
  refine loop4 _ (fun  x6_1 x6_2 hE => ?_) _ _ _ hE
  refine pm_iloadn hG dX12_seatedMany_30 rfl ?_
  exact pm_iret hG hF dX12_seatedMany_31 rfl (Nat.le_refl _) (Nat.le_refl _) (fx_pi (Option.some.inj hE))

set_option maxRecDepth 100000 in
set_option maxHeartbeats 4000000 in
theorem c_X12_count {d : Nat} {B cnt : Nat} {σ : pm_S} {S : FS} {za : Int32} {R : Int32 × FS} (hdd : 3 ≤ d) (hE : f_X12_count S za = some R) : pm_met mX12_count d 0 0 B [.ref (B + 54), .int za] cnt (mst B S σ) (pm_Qi (fun v σ' cnt' => v = R.1 ∧ σ' = (mst B R.2 σ) ∧ cnt' = cnt)) := by
  refine pm_enter 2 (by decide) (Nat.le_of_ble_eq_true rfl) rfl (fun G hG hR hF => ?_)
  unfold f_X12_count at hE
  refine pm_iconst (v := 0) hG dX12_count_0 (by decide) ?_
  refine pm_istoreXn (loc' := [some (.ref (B + 54)), some (.int za), some (.int 0), none]) hG dX12_count_1 (by decide) (pm_c1b rfl) rfl ?_
  refine pm_iloadn hG dX12_count_2 rfl ?_
  by_cases c1 : za = 0
  · replace hE := fx_t c1 hE
    refine pm_top (v := 0) c1 ?_
    refine pm_tswIn (tgt := 80) hG dX12_count_3 (by decide) (by decide) rfl rfl ?_
    refine pm_aloadn hG dX12_count_80 rfl ?_
    refine pm_getf hG dX12_count_81 (flX12_7 _ rfl) rfl rfl ?_
    refine pm_iloadn hG dX12_count_84 rfl ?_
    obtain ⟨j2, hj2, hE⟩ := fb_some hE
    refine fx_iald hG dX12_count_85 rfl hj2 ?_
    exact pm_iret hG hF dX12_count_86 rfl (Nat.le_refl _) (Nat.le_refl _) (fx_rim hE)
  replace hE := fx_f c1 hE
  by_cases c3 : za = 1
  · replace hE := fx_t c3 hE
    refine pm_top (v := 1) c3 ?_
    refine pm_tswIn (tgt := 80) hG dX12_count_3 (by decide) (by decide) rfl rfl ?_
    refine pm_aloadn hG dX12_count_80 rfl ?_
    refine pm_getf hG dX12_count_81 (flX12_7 _ rfl) rfl rfl ?_
    refine pm_iloadn hG dX12_count_84 rfl ?_
    obtain ⟨j4, hj4, hE⟩ := fb_some hE
    refine fx_iald hG dX12_count_85 rfl hj4 ?_
    exact pm_iret hG hF dX12_count_86 rfl (Nat.le_refl _) (Nat.le_refl _) (fx_rim hE)
  replace hE := fx_f c3 hE
  by_cases c5 : za = 2
  · replace hE := fx_t c5 hE
    refine pm_top (v := 2) c5 ?_
    refine pm_tswIn (tgt := 80) hG dX12_count_3 (by decide) (by decide) rfl rfl ?_
    refine pm_aloadn hG dX12_count_80 rfl ?_
    refine pm_getf hG dX12_count_81 (flX12_7 _ rfl) rfl rfl ?_
    refine pm_iloadn hG dX12_count_84 rfl ?_
    obtain ⟨j6, hj6, hE⟩ := fb_some hE
    refine fx_iald hG dX12_count_85 rfl hj6 ?_
    exact pm_iret hG hF dX12_count_86 rfl (Nat.le_refl _) (Nat.le_refl _) (fx_rim hE)
  replace hE := fx_f c5 hE
  by_cases c7 : za = 3
  · replace hE := fx_t c7 hE
    refine pm_top (v := 3) c7 ?_
    refine pm_tswIn (tgt := 80) hG dX12_count_3 (by decide) (by decide) rfl rfl ?_
    refine pm_aloadn hG dX12_count_80 rfl ?_
    refine pm_getf hG dX12_count_81 (flX12_7 _ rfl) rfl rfl ?_
    refine pm_iloadn hG dX12_count_84 rfl ?_
    obtain ⟨j8, hj8, hE⟩ := fb_some hE
    refine fx_iald hG dX12_count_85 rfl hj8 ?_
    exact pm_iret hG hF dX12_count_86 rfl (Nat.le_refl _) (Nat.le_refl _) (fx_rim hE)
  replace hE := fx_f c7 hE
  by_cases c9 : za = 4
  · replace hE := fx_t c9 hE
    refine pm_top (v := 4) c9 ?_
    refine pm_tswIn (tgt := 80) hG dX12_count_3 (by decide) (by decide) rfl rfl ?_
    refine pm_aloadn hG dX12_count_80 rfl ?_
    refine pm_getf hG dX12_count_81 (flX12_7 _ rfl) rfl rfl ?_
    refine pm_iloadn hG dX12_count_84 rfl ?_
    obtain ⟨j10, hj10, hE⟩ := fb_some hE
    refine fx_iald hG dX12_count_85 rfl hj10 ?_
    exact pm_iret hG hF dX12_count_86 rfl (Nat.le_refl _) (Nat.le_refl _) (fx_rim hE)
  replace hE := fx_f c9 hE
  by_cases c11 : za = 5
  · replace hE := fx_t c11 hE
    refine pm_top (v := 5) c11 ?_
    refine pm_tswIn (tgt := 80) hG dX12_count_3 (by decide) (by decide) rfl rfl ?_
    refine pm_aloadn hG dX12_count_80 rfl ?_
    refine pm_getf hG dX12_count_81 (flX12_7 _ rfl) rfl rfl ?_
    refine pm_iloadn hG dX12_count_84 rfl ?_
    obtain ⟨j12, hj12, hE⟩ := fb_some hE
    refine fx_iald hG dX12_count_85 rfl hj12 ?_
    exact pm_iret hG hF dX12_count_86 rfl (Nat.le_refl _) (Nat.le_refl _) (fx_rim hE)
  replace hE := fx_f c11 hE
  by_cases c13 : za = 6
  · replace hE := fx_t c13 hE
    refine pm_top (v := 6) c13 ?_
    refine pm_tswIn (tgt := 80) hG dX12_count_3 (by decide) (by decide) rfl rfl ?_
    refine pm_aloadn hG dX12_count_80 rfl ?_
    refine pm_getf hG dX12_count_81 (flX12_7 _ rfl) rfl rfl ?_
    refine pm_iloadn hG dX12_count_84 rfl ?_
    obtain ⟨j14, hj14, hE⟩ := fb_some hE
    refine fx_iald hG dX12_count_85 rfl hj14 ?_
    exact pm_iret hG hF dX12_count_86 rfl (Nat.le_refl _) (Nat.le_refl _) (fx_rim hE)
  replace hE := fx_f c13 hE
  by_cases c15 : za = 7
  · replace hE := fx_t c15 hE
    refine pm_top (v := 7) c15 ?_
    refine pm_tswIn (tgt := 80) hG dX12_count_3 (by decide) (by decide) rfl rfl ?_
    refine pm_aloadn hG dX12_count_80 rfl ?_
    refine pm_getf hG dX12_count_81 (flX12_7 _ rfl) rfl rfl ?_
    refine pm_iloadn hG dX12_count_84 rfl ?_
    obtain ⟨j16, hj16, hE⟩ := fb_some hE
    refine fx_iald hG dX12_count_85 rfl hj16 ?_
    exact pm_iret hG hF dX12_count_86 rfl (Nat.le_refl _) (Nat.le_refl _) (fx_rim hE)
  replace hE := fx_f c15 hE
  by_cases c17 : za = 8
  · replace hE := fx_t c17 hE
    refine pm_top (v := 8) c17 ?_
    refine pm_tswIn (tgt := 80) hG dX12_count_3 (by decide) (by decide) rfl rfl ?_
    refine pm_aloadn hG dX12_count_80 rfl ?_
    refine pm_getf hG dX12_count_81 (flX12_7 _ rfl) rfl rfl ?_
    refine pm_iloadn hG dX12_count_84 rfl ?_
    obtain ⟨j18, hj18, hE⟩ := fb_some hE
    refine fx_iald hG dX12_count_85 rfl hj18 ?_
    exact pm_iret hG hF dX12_count_86 rfl (Nat.le_refl _) (Nat.le_refl _) (fx_rim hE)
  replace hE := fx_f c17 hE
  by_cases c19 : za = 9
  · replace hE := fx_t c19 hE
    refine pm_top (v := 9) c19 ?_
    refine pm_tswIn (tgt := 80) hG dX12_count_3 (by decide) (by decide) rfl rfl ?_
    refine pm_aloadn hG dX12_count_80 rfl ?_
    refine pm_getf hG dX12_count_81 (flX12_7 _ rfl) rfl rfl ?_
    refine pm_iloadn hG dX12_count_84 rfl ?_
    obtain ⟨j20, hj20, hE⟩ := fb_some hE
    refine fx_iald hG dX12_count_85 rfl hj20 ?_
    exact pm_iret hG hF dX12_count_86 rfl (Nat.le_refl _) (Nat.le_refl _) (fx_rim hE)
  replace hE := fx_f c19 hE
  by_cases c21 : za = 10
  · replace hE := fx_t c21 hE
    refine pm_top (v := 10) c21 ?_
    refine pm_tswIn (tgt := 80) hG dX12_count_3 (by decide) (by decide) rfl rfl ?_
    refine pm_aloadn hG dX12_count_80 rfl ?_
    refine pm_getf hG dX12_count_81 (flX12_7 _ rfl) rfl rfl ?_
    refine pm_iloadn hG dX12_count_84 rfl ?_
    obtain ⟨j22, hj22, hE⟩ := fb_some hE
    refine fx_iald hG dX12_count_85 rfl hj22 ?_
    exact pm_iret hG hF dX12_count_86 rfl (Nat.le_refl _) (Nat.le_refl _) (fx_rim hE)
  replace hE := fx_f c21 hE
  by_cases c23 : za = 11
  · replace hE := fx_t c23 hE
    refine pm_top (v := 11) c23 ?_
    refine pm_tswIn (tgt := 87) hG dX12_count_3 (by decide) (by decide) rfl rfl ?_
    refine pm_aloadn hG dX12_count_87 rfl ?_
    obtain ⟨x25, h24, hE⟩ := fb_some hE
    refine pm_callV (As := []) (rest := []) hG hR dX12_count_88 (lkX12_243 _ rfl) okV_X12_seatedMany rfl rfl (c_X12_seatedMany (d := 2) (by decide) h24) rfl rfl hdd (Nat.le_refl _) (Nat.le_refl _) (by decide) (fx_ki ?_)
    exact pm_iret hG hF dX12_count_91 rfl (Nat.le_refl _) (Nat.le_refl _) (fx_rim hE)
  replace hE := fx_f c23 hE
  by_cases c26 : za = 12
  · replace hE := fx_t c26 hE
    refine pm_top (v := 12) c26 ?_
    refine pm_tswIn (tgt := 92) hG dX12_count_3 (by decide) (by decide) rfl rfl ?_
    refine pm_aloadn hG dX12_count_92 rfl ?_
    refine pm_getf hG dX12_count_93 (flX12_283 _ rfl) rfl rfl ?_
    exact pm_iret hG hF dX12_count_96 rfl (Nat.le_refl _) (Nat.le_refl _) (fx_rim hE)
  replace hE := fx_f c26 hE
  by_cases c27 : za = 13
  · replace hE := fx_t c27 hE
    refine pm_top (v := 13) c27 ?_
    refine pm_tswIn (tgt := 97) hG dX12_count_3 (by decide) (by decide) rfl rfl ?_
    refine pm_aloadn hG dX12_count_97 rfl ?_
    refine pm_getf hG dX12_count_98 (flX12_7 _ rfl) rfl rfl ?_
    refine pm_bipush (v := 11) hG dX12_count_101 (by decide) ?_
    refine fx_iald hG dX12_count_103 rfl (ix_lit (by decide) rfl) ?_
    exact pm_iret hG hF dX12_count_104 rfl (Nat.le_refl _) (Nat.le_refl _) (fx_rim hE)
  replace hE := fx_f c27 hE
  by_cases c28 : za = 14
  · replace hE := fx_t c28 hE
    refine pm_top (v := 14) c28 ?_
    refine pm_tswIn (tgt := 105) hG dX12_count_3 (by decide) (by decide) rfl rfl ?_
    refine pm_iconst (v := 0) hG dX12_count_105 (by decide) ?_
    refine pm_istoreXn (loc' := [some (.ref (B + 54)), some (.int za), some (.int 0), some (.int 0)]) hG dX12_count_106 (by decide) (pm_c1b rfl) rfl ?_
    have loop107 : ∀ (k107 : FS → Int32 → Int32 → Option (Int32 × FS)), (∀ (S29 : FS) (x29_2 : Int32) (x29_3 : Int32), k107 S29  x29_2 x29_3 = some R → pm_wp mX12_count G B 133 [some (.ref (B + 54)), some (.int za), some (.int x29_2), some (.int x29_3)] [] 0 0 cnt (mst B S29 σ)) → ∀ (m107 : Nat) (S29 : FS) (x29_2 : Int32) (x29_3 : Int32), l_X12_count_107 k107 m107 S29  x29_2 x29_3 = some R → pm_wp mX12_count G B 107 [some (.ref (B + 54)), some (.int za), some (.int x29_2), some (.int x29_3)] [] 0 0 cnt (mst B S29 σ) := by
      intro k107 hk107 m107
      induction m107 with
      | zero => intro S29  x29_2 x29_3 hE; exact fx_no hE
      | succ m107 ih107 =>
        intro S29  x29_2 x29_3 hE
        rw [l_X12_count_107] at hE
        refine pm_iloadn hG dX12_count_107 rfl ?_
        refine pm_aloadn hG dX12_count_108 rfl ?_
        refine pm_getf hG dX12_count_109 (flX12_7 _ rfl) rfl rfl ?_
        refine pm_iconst (v := 2) hG dX12_count_112 (by decide) ?_
        refine fx_iald hG dX12_count_113 rfl (ix_lit (by decide) rfl) ?_
        refine pm_icmp_ge (tgt := 133) hG dX12_count_114 rfl (fun c30 => ?_) (fun c30 => ?_)
        · replace c30 := Int32.not_lt.mpr c30
          replace hE := fx_f c30 hE
          exact hk107 _ _ _ hE
        · replace c30 := Int32.not_le.mp c30
          replace hE := fx_t c30 hE
          refine pm_iloadn hG dX12_count_117 rfl ?_
          refine pm_aloadn hG dX12_count_118 rfl ?_
          refine pm_iloadn hG dX12_count_119 rfl ?_
          refine pm_bipush (v := 7) hG dX12_count_120 (by decide) ?_
          obtain ⟨x32, h31, hE⟩ := fb_some hE
          refine pm_callV (As := [.int x29_3, .int 7]) (rest := [.int x29_2]) hG hR dX12_count_122 (lkX12_72 _ rfl) okV_X12_man rfl rfl (c_X12_man (d := 2) (by decide) h31) rfl rfl hdd (Nat.le_refl _) (Nat.le_refl _) (by first | decide | exact Nat.le_of_ble_eq_true rfl) (fx_ki ?_)
          refine pm_iadd hG dX12_count_125 ?_
          refine fx_letv hE (fun x33 hE => ?_)
          refine pm_istoreXn (loc' := [some (.ref (B + 54)), some (.int za), some (.int x33), some (.int x29_3)]) hG dX12_count_126 (by decide) (pm_c1b rfl) rfl ?_
          refine pm_iincX (v := x29_3 + 1) (loc' := [some (.ref (B + 54)), some (.int za), some (.int x33), some (.int (x29_3 + 1))]) hG dX12_count_127 rfl (by rfl) (by decide) (pm_c1b rfl) rfl ?_
          refine pm_goto (tgt := 107) hG dX12_count_130 rfl ?_
          exact ih107 _ _ _ hE
    refine loop107 _ (fun S34 x34_2 x34_3 hE => ?_) _ _ _ _ hE
    refine pm_iloadn hG dX12_count_133 rfl ?_
    exact pm_iret hG hF dX12_count_134 rfl (Nat.le_refl _) (Nat.le_refl _) (fx_rim hE)
  replace hE := fx_f c28 hE
  by_cases c35 : za = 15
  · replace hE := fx_t c35 hE
    refine pm_top (v := 15) c35 ?_
    refine pm_tswIn (tgt := 135) hG dX12_count_3 (by decide) (by decide) rfl rfl ?_
    refine pm_iconst (v := 0) hG dX12_count_135 (by decide) ?_
    refine pm_istoreXn (loc' := [some (.ref (B + 54)), some (.int za), some (.int 0), some (.int 0)]) hG dX12_count_136 (by decide) (pm_c1b rfl) rfl ?_
    have loop137 : ∀ (k137 : FS → Int32 → Int32 → Option (Int32 × FS)), (∀ (S36 : FS) (x36_2 : Int32) (x36_3 : Int32), k137 S36  x36_2 x36_3 = some R → pm_wp mX12_count G B 186 [some (.ref (B + 54)), some (.int za), some (.int x36_2), some (.int x36_3)] [] 0 0 cnt (mst B S36 σ)) → ∀ (m137 : Nat) (S36 : FS) (x36_2 : Int32) (x36_3 : Int32), l_X12_count_137 k137 m137 S36  x36_2 x36_3 = some R → pm_wp mX12_count G B 137 [some (.ref (B + 54)), some (.int za), some (.int x36_2), some (.int x36_3)] [] 0 0 cnt (mst B S36 σ) := by
      intro k137 hk137 m137
      induction m137 with
      | zero => intro S36  x36_2 x36_3 hE; exact fx_no hE
      | succ m137 ih137 =>
        intro S36  x36_2 x36_3 hE
        rw [l_X12_count_137] at hE
        refine pm_iloadn hG dX12_count_137 rfl ?_
        refine pm_aloadn hG dX12_count_138 rfl ?_
        refine pm_getf hG dX12_count_139 (flX12_7 _ rfl) rfl rfl ?_
        refine pm_iconst (v := 5) hG dX12_count_142 (by decide) ?_
        refine fx_iald hG dX12_count_143 rfl (ix_lit (by decide) rfl) ?_
        refine pm_icmp_ge (tgt := 186) hG dX12_count_144 rfl (fun c37 => ?_) (fun c37 => ?_)
        · replace c37 := Int32.not_lt.mpr c37
          replace hE := fx_f c37 hE
          exact hk137 _ _ _ hE
        · replace c37 := Int32.not_le.mp c37
          replace hE := fx_t c37 hE
          refine pm_iloadn hG dX12_count_147 rfl ?_
          refine pm_aloadn hG dX12_count_148 rfl ?_
          refine pm_iloadn hG dX12_count_149 rfl ?_
          refine pm_iconst (v := 4) hG dX12_count_150 (by decide) ?_
          obtain ⟨x39, h38, hE⟩ := fb_some hE
          refine pm_callV (As := [.int x36_3, .int 4]) (rest := [.int x36_2]) hG hR dX12_count_151 (lkX12_199 _ rfl) okV_X12_of rfl rfl (c_X12_of (d := 2) (by decide) h38) rfl rfl hdd (Nat.le_refl _) (Nat.le_refl _) (by first | decide | exact Nat.le_of_ble_eq_true rfl) (fx_ki ?_)
          refine pm_if_lt (tgt := 177) hG dX12_count_154 rfl (fun c40 => ?_) (fun c40 => ?_)
          · replace hE := fx_t c40 hE
            refine pm_iconst (v := 0) hG dX12_count_177 (by decide) ?_
            refine pm_iadd hG dX12_count_178 ?_
            refine fx_letv hE (fun x41 hE => ?_)
            refine pm_istoreXn (loc' := [some (.ref (B + 54)), some (.int za), some (.int x41), some (.int x36_3)]) hG dX12_count_179 (by decide) (pm_c1b rfl) rfl ?_
            refine pm_iincX (v := x36_3 + 1) (loc' := [some (.ref (B + 54)), some (.int za), some (.int x41), some (.int (x36_3 + 1))]) hG dX12_count_180 rfl (by rfl) (by decide) (pm_c1b rfl) rfl ?_
            refine pm_goto (tgt := 137) hG dX12_count_183 rfl ?_
            exact ih137 _ _ _ hE
          · replace hE := fx_f c40 hE
            refine pm_aloadn hG dX12_count_157 rfl ?_
            refine pm_iloadn hG dX12_count_158 rfl ?_
            refine pm_iconst (v := 5) hG dX12_count_159 (by decide) ?_
            obtain ⟨x43, h42, hE⟩ := fb_some hE
            refine pm_callV (As := [.int x36_3, .int 5]) (rest := [.int x36_2]) hG hR dX12_count_160 (lkX12_199 _ rfl) okV_X12_of rfl rfl (c_X12_of (d := 2) (by decide) h42) rfl rfl hdd (Nat.le_refl _) (Nat.le_refl _) (by first | decide | exact Nat.le_of_ble_eq_true rfl) (fx_ki ?_)
            refine pm_aloadn hG dX12_count_163 rfl ?_
            refine pm_getf hG dX12_count_164 (flX12_7 _ rfl) rfl rfl ?_
            refine pm_bipush (v := 8) hG dX12_count_167 (by decide) ?_
            refine fx_iald hG dX12_count_169 rfl (ix_lit (by decide) rfl) ?_
            refine pm_icmp_le (tgt := 177) hG dX12_count_170 rfl (fun c44 => ?_) (fun c44 => ?_)
            · replace c44 := Int32.not_lt.mpr c44
              replace hE := fx_f c44 hE
              refine pm_iconst (v := 0) hG dX12_count_177 (by decide) ?_
              refine pm_iadd hG dX12_count_178 ?_
              refine fx_letv hE (fun x45 hE => ?_)
              refine pm_istoreXn (loc' := [some (.ref (B + 54)), some (.int za), some (.int x45), some (.int x36_3)]) hG dX12_count_179 (by decide) (pm_c1b rfl) rfl ?_
              refine pm_iincX (v := x36_3 + 1) (loc' := [some (.ref (B + 54)), some (.int za), some (.int x45), some (.int (x36_3 + 1))]) hG dX12_count_180 rfl (by rfl) (by decide) (pm_c1b rfl) rfl ?_
              refine pm_goto (tgt := 137) hG dX12_count_183 rfl ?_
              exact ih137 _ _ _ hE
            · replace c44 := Int32.not_le.mp c44
              replace hE := fx_t c44 hE
              refine pm_iconst (v := 1) hG dX12_count_173 (by decide) ?_
              refine pm_goto (tgt := 178) hG dX12_count_174 rfl ?_
              refine pm_iadd hG dX12_count_178 ?_
              refine fx_letv hE (fun x46 hE => ?_)
              refine pm_istoreXn (loc' := [some (.ref (B + 54)), some (.int za), some (.int x46), some (.int x36_3)]) hG dX12_count_179 (by decide) (pm_c1b rfl) rfl ?_
              refine pm_iincX (v := x36_3 + 1) (loc' := [some (.ref (B + 54)), some (.int za), some (.int x46), some (.int (x36_3 + 1))]) hG dX12_count_180 rfl (by rfl) (by decide) (pm_c1b rfl) rfl ?_
              refine pm_goto (tgt := 137) hG dX12_count_183 rfl ?_
              exact ih137 _ _ _ hE
    refine loop137 _ (fun S47 x47_2 x47_3 hE => ?_) _ _ _ _ hE
    refine pm_iloadn hG dX12_count_186 rfl ?_
    exact pm_iret hG hF dX12_count_187 rfl (Nat.le_refl _) (Nat.le_refl _) (fx_rim hE)
  replace hE := fx_f c35 hE
  have tc1 : ¬ za.toInt = 0 := fun q => c1 (Int32.toInt_inj.mp q)
  have tc3 : ¬ za.toInt = 1 := fun q => c3 (Int32.toInt_inj.mp q)
  have tc5 : ¬ za.toInt = 2 := fun q => c5 (Int32.toInt_inj.mp q)
  have tc7 : ¬ za.toInt = 3 := fun q => c7 (Int32.toInt_inj.mp q)
  have tc9 : ¬ za.toInt = 4 := fun q => c9 (Int32.toInt_inj.mp q)
  have tc11 : ¬ za.toInt = 5 := fun q => c11 (Int32.toInt_inj.mp q)
  have tc13 : ¬ za.toInt = 6 := fun q => c13 (Int32.toInt_inj.mp q)
  have tc15 : ¬ za.toInt = 7 := fun q => c15 (Int32.toInt_inj.mp q)
  have tc17 : ¬ za.toInt = 8 := fun q => c17 (Int32.toInt_inj.mp q)
  have tc19 : ¬ za.toInt = 9 := fun q => c19 (Int32.toInt_inj.mp q)
  have tc21 : ¬ za.toInt = 10 := fun q => c21 (Int32.toInt_inj.mp q)
  have tc23 : ¬ za.toInt = 11 := fun q => c23 (Int32.toInt_inj.mp q)
  have tc26 : ¬ za.toInt = 12 := fun q => c26 (Int32.toInt_inj.mp q)
  have tc27 : ¬ za.toInt = 13 := fun q => c27 (Int32.toInt_inj.mp q)
  have tc28 : ¬ za.toInt = 14 := fun q => c28 (Int32.toInt_inj.mp q)
  have tc35 : ¬ za.toInt = 15 := fun q => c35 (Int32.toInt_inj.mp q)
  refine pm_tswOut (tgt := 188) hG dX12_count_3 (by omega) rfl ?_
  refine pm_aloadn hG dX12_count_188 rfl ?_
  refine pm_iconst (v := 1) hG dX12_count_189 (by decide) ?_
  obtain ⟨r49, h48, hE⟩ := fb_some hE
  refine pm_callV (As := [.int 1]) (rest := []) hG hR dX12_count_190 (lkX12_80 _ rfl) okV_X12_finds rfl rfl (c_X12_finds (d := 2) (by decide) h48) rfl rfl hdd (Nat.le_refl _) (Nat.le_refl _) (by decide) (fx_ki ?_)
  exact pm_iret hG hF dX12_count_193 rfl (Nat.le_refl _) (Nat.le_refl _) (fx_rim hE)

set_option maxRecDepth 100000 in
set_option maxHeartbeats 4000000 in
theorem c_X12_sets {d : Nat} {B cnt : Nat} {σ : pm_S} {S : FS} {za : Int32} {zb : Int32} {zc : Int32} {R : Int32 × FS} (hdd : 1 ≤ d) (hE : f_X12_sets S za zb zc = some R) : pm_met mX12_sets d 0 0 B [.ref (B + 54), .int za, .int zb, .int zc] cnt (mst B S σ) (pm_Qv (fun σ' cnt' => σ' = (mst B R.2 σ) ∧ cnt' = cnt)) := by
  refine pm_enter 0 (by decide) (Nat.le_of_ble_eq_true rfl) rfl (fun G hG hR hF => ?_)
  unfold f_X12_sets at hE
  refine pm_aloadn hG dX12_sets_0 rfl ?_
  refine pm_getf hG dX12_sets_1 (flX12_7 _ rfl) rfl rfl ?_
  refine pm_bipush (v := 110) hG dX12_sets_4 (by decide) ?_
  refine pm_bipush (v := 14) hG dX12_sets_6 (by decide) ?_
  refine pm_iloadn hG dX12_sets_8 rfl ?_
  refine pm_imul hG dX12_sets_9 ?_
  refine pm_iadd hG dX12_sets_10 ?_
  refine pm_iloadn hG dX12_sets_11 rfl ?_
  refine pm_iadd hG dX12_sets_12 ?_
  refine pm_iloadn hG dX12_sets_13 rfl ?_
  obtain ⟨j1, hj1, hE⟩ := fb_some hE
  refine fx_iast hG dX12_sets_14 rfl hj1 ?_
  refine ma_55 ?_
  refine fx_letm hE (fun S2 hE => ?_)
  exact pm_vret hG hF dX12_sets_15 rfl (Nat.le_refl _) (Nat.le_refl _) (fx_rvm hE)

set_option maxRecDepth 100000 in
set_option maxHeartbeats 4000000 in
theorem c_X12_quarter {d : Nat} {B cnt : Nat} {σ : pm_S} {S : FS} {R : Int32 × FS} (hdd : 3 ≤ d) (hE : f_X12_quarter S = some R) : pm_met mX12_quarter d 0 0 B [.ref (B + 54)] cnt (mst B S σ) (pm_Qv (fun σ' cnt' => σ' = (mst B R.2 σ) ∧ cnt' = cnt)) := by
  refine pm_enter 4 (by decide) (Nat.le_of_ble_eq_true rfl) rfl (fun G hG hR hF => ?_)
  unfold f_X12_quarter at hE
  refine pm_iconst (v := 0) hG dX12_quarter_0 (by decide) ?_
  refine pm_istoreXn (loc' := [some (.ref (B + 54)), some (.int 0), none, none, none]) hG dX12_quarter_1 (by decide) (pm_c1b rfl) rfl ?_
  have loop2 : ∀ (k2 : FS → Int32 → Option (Int32 × FS)), (∀ (S1 : FS) (x1_1 : Int32), k2 S1  x1_1 = some R → pm_wp mX12_quarter G B 101 [some (.ref (B + 54)), some (.int x1_1), none, none, none] [] 0 0 cnt (mst B S1 σ)) → ∀ (m2 : Nat) (S1 : FS) (x1_1 : Int32), l_X12_quarter_2 k2 m2 S1  x1_1 = some R → pm_wp mX12_quarter G B 2 [some (.ref (B + 54)), some (.int x1_1), none, none, none] [] 0 0 cnt (mst B S1 σ) := by
    intro k2 hk2 m2
    induction m2 with
    | zero => intro S1  x1_1 hE; exact fx_no hE
    | succ m2 ih2 =>
      intro S1  x1_1 hE
      rw [l_X12_quarter_2] at hE
      refine pm_iloadn hG dX12_quarter_2 rfl ?_
      refine pm_aloadn hG dX12_quarter_3 rfl ?_
      refine pm_getf hG dX12_quarter_4 (flX12_7 _ rfl) rfl rfl ?_
      refine pm_iconst (v := 0) hG dX12_quarter_7 (by decide) ?_
      refine fx_iald hG dX12_quarter_8 rfl (ix_lit (by decide) rfl) ?_
      refine pm_icmp_ge (tgt := 101) hG dX12_quarter_9 rfl (fun c2 => ?_) (fun c2 => ?_)
      · replace c2 := Int32.not_lt.mpr c2
        replace hE := fx_f c2 hE
        exact hk2 _ _ hE
      · replace c2 := Int32.not_le.mp c2
        replace hE := fx_t c2 hE
        refine pm_bipush (v := 20) hG dX12_quarter_12 (by decide) ?_
        refine pm_iconst (v := 3) hG dX12_quarter_14 (by decide) ?_
        refine pm_iloadn hG dX12_quarter_15 rfl ?_
        refine pm_imul hG dX12_quarter_16 ?_
        refine pm_iadd hG dX12_quarter_17 ?_
        refine fx_letv hE (fun x3 hE => ?_)
        refine pm_istoreXn (loc' := [some (.ref (B + 54)), some (.int x1_1), some (.int x3), none, none]) hG dX12_quarter_18 (by decide) (pm_c1b rfl) rfl ?_
        refine pm_aloadn hG dX12_quarter_19 rfl ?_
        refine pm_getf hG dX12_quarter_20 (flX12_7 _ rfl) rfl rfl ?_
        refine pm_iloadn hG dX12_quarter_23 rfl ?_
        refine pm_iconst (v := 1) hG dX12_quarter_24 (by decide) ?_
        refine pm_iadd hG dX12_quarter_25 ?_
        obtain ⟨j4, hj4, hE⟩ := fb_some hE
        refine fx_iald hG dX12_quarter_26 rfl hj4 ?_
        refine fx_letv hE (fun x5 hE => ?_)
        refine pm_istoreXn (loc' := [some (.ref (B + 54)), some (.int x1_1), some (.int x3), some (.int x5), none]) hG dX12_quarter_27 (by decide) (pm_c1b rfl) rfl ?_
        refine pm_aloadn hG dX12_quarter_28 rfl ?_
        refine pm_getf hG dX12_quarter_29 (flX12_7 _ rfl) rfl rfl ?_
        refine pm_iloadn hG dX12_quarter_32 rfl ?_
        refine pm_iconst (v := 2) hG dX12_quarter_33 (by decide) ?_
        refine pm_iadd hG dX12_quarter_34 ?_
        obtain ⟨j6, hj6, hE⟩ := fb_some hE
        refine fx_iald hG dX12_quarter_35 rfl hj6 ?_
        refine pm_iconst (v := 1) hG dX12_quarter_36 (by decide) ?_
        refine pm_icmp_ne (tgt := 43) hG dX12_quarter_37 rfl (fun c7 => ?_) (fun c7 => ?_)
        · replace hE := fx_f c7 hE
          refine pm_iloadn hG dX12_quarter_43 rfl ?_
          refine pm_if_lt (tgt := 79) hG dX12_quarter_44 rfl (fun c8 => ?_) (fun c8 => ?_)
          · replace hE := fx_t c8 hE
            refine pm_aloadn hG dX12_quarter_79 rfl ?_
            refine pm_getf hG dX12_quarter_80 (flX12_7 _ rfl) rfl rfl ?_
            refine pm_bipush (v := 9) hG dX12_quarter_83 (by decide) ?_
            refine pm_dup2 hG dX12_quarter_85 rfl rfl ?_
            refine fx_iald hG dX12_quarter_86 rfl (ix_lit (by decide) rfl) ?_
            refine pm_aloadn hG dX12_quarter_87 rfl ?_
            refine pm_getf hG dX12_quarter_88 (flX12_7 _ rfl) rfl rfl ?_
            refine pm_iloadn hG dX12_quarter_91 rfl ?_
            obtain ⟨j9, hj9, hE⟩ := fb_some hE
            refine fx_iald hG dX12_quarter_92 rfl hj9 ?_
            refine pm_iadd hG dX12_quarter_93 ?_
            refine fx_iast hG dX12_quarter_94 rfl (ix_lit (by decide) rfl) ?_
            refine ma_55 ?_
            refine fx_letm hE (fun S10 hE => ?_)
            refine pm_iincX (v := x1_1 + 1) (loc' := [some (.ref (B + 54)), some (.int (x1_1 + 1)), some (.int x3), some (.int x5), none]) hG dX12_quarter_95 rfl (by rfl) (by decide) (pm_c1b rfl) rfl ?_
            refine pm_goto (tgt := 2) hG dX12_quarter_98 rfl ?_
            refine pm_fg 2 (loc' := [some (.ref (B + 54)), some (.int (x1_1 + 1)), none, some (.int x5), none]) rfl ?_
            refine pm_fg 3 (loc' := [some (.ref (B + 54)), some (.int (x1_1 + 1)), none, none, none]) rfl ?_
            exact ih2 _ _ hE
          · replace hE := fx_f c8 hE
            refine pm_aloadn hG dX12_quarter_47 rfl ?_
            refine pm_iloadn hG dX12_quarter_48 rfl ?_
            obtain ⟨x12, h11, hE⟩ := fb_some hE
            refine pm_callV (As := [.int x5]) (rest := []) hG hR dX12_quarter_49 (lkX12_101 _ rfl) okV_X12_lives rfl rfl (c_X12_lives (d := 2) (by decide) h11) rfl rfl hdd (Nat.le_refl _) (Nat.le_refl _) (by decide) (fx_ki ?_)
            refine pm_if_eq (tgt := 79) hG dX12_quarter_52 rfl (fun c13 => ?_) (fun c13 => ?_)
            · replace hE := fx_t c13 hE
              refine pm_aloadn hG dX12_quarter_79 rfl ?_
              refine pm_getf hG dX12_quarter_80 (flX12_7 _ rfl) rfl rfl ?_
              refine pm_bipush (v := 9) hG dX12_quarter_83 (by decide) ?_
              refine pm_dup2 hG dX12_quarter_85 rfl rfl ?_
              refine fx_iald hG dX12_quarter_86 rfl (ix_lit (by decide) rfl) ?_
              refine pm_aloadn hG dX12_quarter_87 rfl ?_
              refine pm_getf hG dX12_quarter_88 (flX12_7 _ rfl) rfl rfl ?_
              refine pm_iloadn hG dX12_quarter_91 rfl ?_
              obtain ⟨j14, hj14, hE⟩ := fb_some hE
              refine fx_iald hG dX12_quarter_92 rfl hj14 ?_
              refine pm_iadd hG dX12_quarter_93 ?_
              refine fx_iast hG dX12_quarter_94 rfl (ix_lit (by decide) rfl) ?_
              refine ma_55 ?_
              refine fx_letm hE (fun S15 hE => ?_)
              refine pm_iincX (v := x1_1 + 1) (loc' := [some (.ref (B + 54)), some (.int (x1_1 + 1)), some (.int x3), some (.int x5), none]) hG dX12_quarter_95 rfl (by rfl) (by decide) (pm_c1b rfl) rfl ?_
              refine pm_goto (tgt := 2) hG dX12_quarter_98 rfl ?_
              refine pm_fg 2 (loc' := [some (.ref (B + 54)), some (.int (x1_1 + 1)), none, some (.int x5), none]) rfl ?_
              refine pm_fg 3 (loc' := [some (.ref (B + 54)), some (.int (x1_1 + 1)), none, none, none]) rfl ?_
              exact ih2 _ _ hE
            · replace hE := fx_f c13 hE
              refine pm_aloadn hG dX12_quarter_55 rfl ?_
              refine pm_iloadn hG dX12_quarter_56 rfl ?_
              refine pm_bipush (v := 7) hG dX12_quarter_57 (by decide) ?_
              refine pm_aloadn hG dX12_quarter_59 rfl ?_
              refine pm_iloadn hG dX12_quarter_60 rfl ?_
              refine pm_bipush (v := 7) hG dX12_quarter_61 (by decide) ?_
              obtain ⟨x17, h16, hE⟩ := fb_some hE
              refine pm_callV (As := [.int x5, .int 7]) (rest := [.int 7, .int x5, .ref (B + 54)]) hG hR dX12_quarter_63 (lkX12_72 _ rfl) okV_X12_man rfl rfl (c_X12_man (d := 2) (by decide) h16) rfl rfl hdd (Nat.le_refl _) (Nat.le_refl _) (by first | decide | exact Nat.le_of_ble_eq_true rfl) (fx_ki ?_)
              refine pm_aloadn hG dX12_quarter_66 rfl ?_
              refine pm_getf hG dX12_quarter_67 (flX12_7 _ rfl) rfl rfl ?_
              refine pm_iloadn hG dX12_quarter_70 rfl ?_
              obtain ⟨j18, hj18, hE⟩ := fb_some hE
              refine fx_iald hG dX12_quarter_71 rfl hj18 ?_
              refine pm_iadd hG dX12_quarter_72 ?_
              obtain ⟨r20, h19, hE⟩ := fb_some hE
              refine pm_callV (As := [.int x5, .int 7, .int (x17 + (S1.2 55 j18))]) (rest := []) hG hR dX12_quarter_73 (lkX12_97 _ rfl) okV_X12_sets rfl rfl (c_X12_sets (d := 2) (by decide) h19) rfl rfl hdd (Nat.le_refl _) (Nat.le_refl _) (by decide) (fx_kv ?_)
              refine pm_goto (tgt := 95) hG dX12_quarter_76 rfl ?_
              refine pm_iincX (v := x1_1 + 1) (loc' := [some (.ref (B + 54)), some (.int (x1_1 + 1)), some (.int x3), some (.int x5), none]) hG dX12_quarter_95 rfl (by rfl) (by decide) (pm_c1b rfl) rfl ?_
              refine pm_goto (tgt := 2) hG dX12_quarter_98 rfl ?_
              refine pm_fg 2 (loc' := [some (.ref (B + 54)), some (.int (x1_1 + 1)), none, some (.int x5), none]) rfl ?_
              refine pm_fg 3 (loc' := [some (.ref (B + 54)), some (.int (x1_1 + 1)), none, none, none]) rfl ?_
              exact ih2 _ _ hE
        · replace hE := fx_t c7 hE
          refine pm_goto (tgt := 95) hG dX12_quarter_40 rfl ?_
          refine pm_iincX (v := x1_1 + 1) (loc' := [some (.ref (B + 54)), some (.int (x1_1 + 1)), some (.int x3), some (.int x5), none]) hG dX12_quarter_95 rfl (by rfl) (by decide) (pm_c1b rfl) rfl ?_
          refine pm_goto (tgt := 2) hG dX12_quarter_98 rfl ?_
          refine pm_fg 2 (loc' := [some (.ref (B + 54)), some (.int (x1_1 + 1)), none, some (.int x5), none]) rfl ?_
          refine pm_fg 3 (loc' := [some (.ref (B + 54)), some (.int (x1_1 + 1)), none, none, none]) rfl ?_
          exact ih2 _ _ hE
  refine loop2 _ (fun S21 x21_1 hE => ?_) _ _ _ hE
  refine pm_iconst (v := 0) hG dX12_quarter_101 (by decide) ?_
  refine pm_istoreXn (loc' := [some (.ref (B + 54)), some (.int 0), none, none, none]) hG dX12_quarter_102 (by decide) (pm_c1b rfl) rfl ?_
  have loop103 : ∀ (k103 : FS → Int32 → Option (Int32 × FS)), (∀ (S22 : FS) (x22_1 : Int32), k103 S22  x22_1 = some R → pm_wp mX12_quarter G B 178 [some (.ref (B + 54)), some (.int x22_1), none, none, none] [] 0 0 cnt (mst B S22 σ)) → ∀ (m103 : Nat) (S22 : FS) (x22_1 : Int32), l_X12_quarter_103 k103 m103 S22  x22_1 = some R → pm_wp mX12_quarter G B 103 [some (.ref (B + 54)), some (.int x22_1), none, none, none] [] 0 0 cnt (mst B S22 σ) := by
    intro k103 hk103 m103
    induction m103 with
    | zero => intro S22  x22_1 hE; exact fx_no hE
    | succ m103 ih103 =>
      intro S22  x22_1 hE
      rw [l_X12_quarter_103] at hE
      refine pm_iloadn hG dX12_quarter_103 rfl ?_
      refine pm_aloadn hG dX12_quarter_104 rfl ?_
      refine pm_getf hG dX12_quarter_105 (flX12_7 _ rfl) rfl rfl ?_
      refine pm_iconst (v := 2) hG dX12_quarter_108 (by decide) ?_
      refine fx_iald hG dX12_quarter_109 rfl (ix_lit (by decide) rfl) ?_
      refine pm_icmp_ge (tgt := 178) hG dX12_quarter_110 rfl (fun c23 => ?_) (fun c23 => ?_)
      · replace c23 := Int32.not_lt.mpr c23
        replace hE := fx_f c23 hE
        exact hk103 _ _ hE
      · replace c23 := Int32.not_le.mp c23
        replace hE := fx_t c23 hE
        refine pm_aloadn hG dX12_quarter_113 rfl ?_
        refine pm_iloadn hG dX12_quarter_114 rfl ?_
        refine pm_bipush (v := 7) hG dX12_quarter_115 (by decide) ?_
        obtain ⟨x25, h24, hE⟩ := fb_some hE
        refine pm_callV (As := [.int x22_1, .int 7]) (rest := []) hG hR dX12_quarter_117 (lkX12_72 _ rfl) okV_X12_man rfl rfl (c_X12_man (d := 2) (by decide) h24) rfl rfl hdd (Nat.le_refl _) (Nat.le_refl _) (by decide) (fx_ki ?_)
        refine pm_aloadn hG dX12_quarter_120 rfl ?_
        refine pm_iloadn hG dX12_quarter_121 rfl ?_
        refine pm_bipush (v := 8) hG dX12_quarter_122 (by decide) ?_
        obtain ⟨x27, h26, hE⟩ := fb_some hE
        refine pm_callV (As := [.int x22_1, .int 8]) (rest := [.int x25]) hG hR dX12_quarter_124 (lkX12_72 _ rfl) okV_X12_man rfl rfl (c_X12_man (d := 2) (by decide) h26) rfl rfl hdd (Nat.le_refl _) (Nat.le_refl _) (by first | decide | exact Nat.le_of_ble_eq_true rfl) (fx_ki ?_)
        refine pm_icmp_ge (tgt := 140) hG dX12_quarter_127 rfl (fun c28 => ?_) (fun c28 => ?_)
        · replace c28 := Int32.not_lt.mpr c28
          replace hE := fx_f c28 hE
          refine pm_aloadn hG dX12_quarter_140 rfl ?_
          refine pm_iloadn hG dX12_quarter_141 rfl ?_
          refine pm_bipush (v := 8) hG dX12_quarter_142 (by decide) ?_
          obtain ⟨x30, h29, hE⟩ := fb_some hE
          refine pm_callV (As := [.int x22_1, .int 8]) (rest := []) hG hR dX12_quarter_144 (lkX12_72 _ rfl) okV_X12_man rfl rfl (c_X12_man (d := 2) (by decide) h29) rfl rfl hdd (Nat.le_refl _) (Nat.le_refl _) (by decide) (fx_ki ?_)
          refine pm_istoreXn (loc' := [some (.ref (B + 54)), some (.int x22_1), some (.int x30), none, none]) hG dX12_quarter_147 (by decide) (pm_c1b rfl) rfl ?_
          refine pm_aloadn hG dX12_quarter_148 rfl ?_
          refine pm_iloadn hG dX12_quarter_149 rfl ?_
          refine pm_bipush (v := 7) hG dX12_quarter_150 (by decide) ?_
          refine pm_aloadn hG dX12_quarter_152 rfl ?_
          refine pm_iloadn hG dX12_quarter_153 rfl ?_
          refine pm_bipush (v := 7) hG dX12_quarter_154 (by decide) ?_
          obtain ⟨x32, h31, hE⟩ := fb_some hE
          refine pm_callV (As := [.int x22_1, .int 7]) (rest := [.int 7, .int x22_1, .ref (B + 54)]) hG hR dX12_quarter_156 (lkX12_72 _ rfl) okV_X12_man rfl rfl (c_X12_man (d := 2) (by decide) h31) rfl rfl hdd (Nat.le_refl _) (Nat.le_refl _) (by first | decide | exact Nat.le_of_ble_eq_true rfl) (fx_ki ?_)
          refine pm_iloadn hG dX12_quarter_159 rfl ?_
          refine pm_isub hG dX12_quarter_160 ?_
          obtain ⟨r34, h33, hE⟩ := fb_some hE
          refine pm_callV (As := [.int x22_1, .int 7, .int (x32 - x30)]) (rest := []) hG hR dX12_quarter_161 (lkX12_97 _ rfl) okV_X12_sets rfl rfl (c_X12_sets (d := 2) (by decide) h33) rfl rfl hdd (Nat.le_refl _) (Nat.le_refl _) (by decide) (fx_kv ?_)
          refine pm_aloadn hG dX12_quarter_164 rfl ?_
          refine pm_iloadn hG dX12_quarter_165 rfl ?_
          refine pm_bipush (v := 8) hG dX12_quarter_166 (by decide) ?_
          refine pm_iloadn hG dX12_quarter_168 rfl ?_
          obtain ⟨r36, h35, hE⟩ := fb_some hE
          refine pm_callV (As := [.int x22_1, .int 8, .int x30]) (rest := []) hG hR dX12_quarter_169 (lkX12_97 _ rfl) okV_X12_sets rfl rfl (c_X12_sets (d := 2) (by decide) h35) rfl rfl hdd (Nat.le_refl _) (Nat.le_refl _) (by decide) (fx_kv ?_)
          refine pm_iincX (v := x22_1 + 1) (loc' := [some (.ref (B + 54)), some (.int (x22_1 + 1)), some (.int x30), none, none]) hG dX12_quarter_172 rfl (by rfl) (by decide) (pm_c1b rfl) rfl ?_
          refine pm_goto (tgt := 103) hG dX12_quarter_175 rfl ?_
          refine pm_fg 2 (loc' := [some (.ref (B + 54)), some (.int (x22_1 + 1)), none, none, none]) rfl ?_
          exact ih103 _ _ hE
        · replace c28 := Int32.not_le.mp c28
          replace hE := fx_t c28 hE
          refine pm_aloadn hG dX12_quarter_130 rfl ?_
          refine pm_iloadn hG dX12_quarter_131 rfl ?_
          refine pm_bipush (v := 7) hG dX12_quarter_132 (by decide) ?_
          obtain ⟨x38, h37, hE⟩ := fb_some hE
          refine pm_callV (As := [.int x22_1, .int 7]) (rest := []) hG hR dX12_quarter_134 (lkX12_72 _ rfl) okV_X12_man rfl rfl (c_X12_man (d := 2) (by decide) h37) rfl rfl hdd (Nat.le_refl _) (Nat.le_refl _) (by decide) (fx_ki ?_)
          refine pm_goto (tgt := 147) hG dX12_quarter_137 rfl ?_
          refine pm_istoreXn (loc' := [some (.ref (B + 54)), some (.int x22_1), some (.int x38), none, none]) hG dX12_quarter_147 (by decide) (pm_c1b rfl) rfl ?_
          refine pm_aloadn hG dX12_quarter_148 rfl ?_
          refine pm_iloadn hG dX12_quarter_149 rfl ?_
          refine pm_bipush (v := 7) hG dX12_quarter_150 (by decide) ?_
          refine pm_aloadn hG dX12_quarter_152 rfl ?_
          refine pm_iloadn hG dX12_quarter_153 rfl ?_
          refine pm_bipush (v := 7) hG dX12_quarter_154 (by decide) ?_
          obtain ⟨x40, h39, hE⟩ := fb_some hE
          refine pm_callV (As := [.int x22_1, .int 7]) (rest := [.int 7, .int x22_1, .ref (B + 54)]) hG hR dX12_quarter_156 (lkX12_72 _ rfl) okV_X12_man rfl rfl (c_X12_man (d := 2) (by decide) h39) rfl rfl hdd (Nat.le_refl _) (Nat.le_refl _) (by first | decide | exact Nat.le_of_ble_eq_true rfl) (fx_ki ?_)
          refine pm_iloadn hG dX12_quarter_159 rfl ?_
          refine pm_isub hG dX12_quarter_160 ?_
          obtain ⟨r42, h41, hE⟩ := fb_some hE
          refine pm_callV (As := [.int x22_1, .int 7, .int (x40 - x38)]) (rest := []) hG hR dX12_quarter_161 (lkX12_97 _ rfl) okV_X12_sets rfl rfl (c_X12_sets (d := 2) (by decide) h41) rfl rfl hdd (Nat.le_refl _) (Nat.le_refl _) (by decide) (fx_kv ?_)
          refine pm_aloadn hG dX12_quarter_164 rfl ?_
          refine pm_iloadn hG dX12_quarter_165 rfl ?_
          refine pm_bipush (v := 8) hG dX12_quarter_166 (by decide) ?_
          refine pm_iloadn hG dX12_quarter_168 rfl ?_
          obtain ⟨r44, h43, hE⟩ := fb_some hE
          refine pm_callV (As := [.int x22_1, .int 8, .int x38]) (rest := []) hG hR dX12_quarter_169 (lkX12_97 _ rfl) okV_X12_sets rfl rfl (c_X12_sets (d := 2) (by decide) h43) rfl rfl hdd (Nat.le_refl _) (Nat.le_refl _) (by decide) (fx_kv ?_)
          refine pm_iincX (v := x22_1 + 1) (loc' := [some (.ref (B + 54)), some (.int (x22_1 + 1)), some (.int x38), none, none]) hG dX12_quarter_172 rfl (by rfl) (by decide) (pm_c1b rfl) rfl ?_
          refine pm_goto (tgt := 103) hG dX12_quarter_175 rfl ?_
          refine pm_fg 2 (loc' := [some (.ref (B + 54)), some (.int (x22_1 + 1)), none, none, none]) rfl ?_
          exact ih103 _ _ hE
  refine loop103 _ (fun S45 x45_1 hE => ?_) _ _ _ hE
  refine pm_iconst (v := 0) hG dX12_quarter_178 (by decide) ?_
  refine pm_istoreXn (loc' := [some (.ref (B + 54)), some (.int 0), none, none, none]) hG dX12_quarter_179 (by decide) (pm_c1b rfl) rfl ?_
  have loop180 : ∀ (k180 : FS → Int32 → Option (Int32 × FS)), (∀ (S46 : FS) (x46_1 : Int32), k180 S46  x46_1 = some R → pm_wp mX12_quarter G B 369 [some (.ref (B + 54)), some (.int x46_1), none, none, none] [] 0 0 cnt (mst B S46 σ)) → ∀ (m180 : Nat) (S46 : FS) (x46_1 : Int32), l_X12_quarter_180 k180 m180 S46  x46_1 = some R → pm_wp mX12_quarter G B 180 [some (.ref (B + 54)), some (.int x46_1), none, none, none] [] 0 0 cnt (mst B S46 σ) := by
    intro k180 hk180 m180
    induction m180 with
    | zero => intro S46  x46_1 hE; exact fx_no hE
    | succ m180 ih180 =>
      intro S46  x46_1 hE
      rw [l_X12_quarter_180] at hE
      refine pm_iloadn hG dX12_quarter_180 rfl ?_
      refine pm_aloadn hG dX12_quarter_181 rfl ?_
      refine pm_getf hG dX12_quarter_182 (flX12_7 _ rfl) rfl rfl ?_
      refine pm_bipush (v := 6) hG dX12_quarter_185 (by decide) ?_
      refine fx_iald hG dX12_quarter_187 rfl (ix_lit (by decide) rfl) ?_
      refine pm_icmp_ge (tgt := 369) hG dX12_quarter_188 rfl (fun c47 => ?_) (fun c47 => ?_)
      · replace c47 := Int32.not_lt.mpr c47
        replace hE := fx_f c47 hE
        exact hk180 _ _ hE
      · replace c47 := Int32.not_le.mp c47
        replace hE := fx_t c47 hE
        refine pm_sipush (v := 1770) hG dX12_quarter_191 (by decide) ?_
        refine pm_bipush (v := 6) hG dX12_quarter_194 (by decide) ?_
        refine pm_iloadn hG dX12_quarter_196 rfl ?_
        refine pm_imul hG dX12_quarter_197 ?_
        refine pm_iadd hG dX12_quarter_198 ?_
        refine fx_letv hE (fun x48 hE => ?_)
        refine pm_istoreXn (loc' := [some (.ref (B + 54)), some (.int x46_1), some (.int x48), none, none]) hG dX12_quarter_199 (by decide) (pm_c1b rfl) rfl ?_
        refine pm_aloadn hG dX12_quarter_200 rfl ?_
        refine pm_getf hG dX12_quarter_201 (flX12_7 _ rfl) rfl rfl ?_
        refine pm_iloadn hG dX12_quarter_204 rfl ?_
        obtain ⟨j49, hj49, hE⟩ := fb_some hE
        refine fx_iald hG dX12_quarter_205 rfl hj49 ?_
        refine pm_aloadn hG dX12_quarter_206 rfl ?_
        refine pm_getf hG dX12_quarter_207 (flX12_7 _ rfl) rfl rfl ?_
        refine pm_iloadn hG dX12_quarter_210 rfl ?_
        refine fx_iald hG dX12_quarter_211 rfl hj49 ?_
        refine pm_aloadn hG dX12_quarter_212 rfl ?_
        refine pm_getf hG dX12_quarter_213 (flX12_7 _ rfl) rfl rfl ?_
        refine pm_iloadn hG dX12_quarter_216 rfl ?_
        refine pm_iconst (v := 1) hG dX12_quarter_217 (by decide) ?_
        refine pm_iadd hG dX12_quarter_218 ?_
        obtain ⟨j50, hj50, hE⟩ := fb_some hE
        refine fx_iald hG dX12_quarter_219 rfl hj50 ?_
        refine pm_imul hG dX12_quarter_220 ?_
        refine pm_bipush (v := 100) hG dX12_quarter_221 (by decide) ?_
        refine pm_idiv hG dX12_quarter_223 (by decide) ?_
        refine pm_iadd hG dX12_quarter_224 ?_
        refine fx_letv hE (fun x51 hE => ?_)
        refine pm_istoreXn (loc' := [some (.ref (B + 54)), some (.int x46_1), some (.int x48), some (.int x51), none]) hG dX12_quarter_225 (by decide) (pm_c1b rfl) rfl ?_
        refine pm_aloadn hG dX12_quarter_226 rfl ?_
        refine pm_getf hG dX12_quarter_227 (flX12_7 _ rfl) rfl rfl ?_
        refine pm_iloadn hG dX12_quarter_230 rfl ?_
        refine pm_iloadn hG dX12_quarter_231 rfl ?_
        refine pm_ldc hG dX12_quarter_232 (ctX12_235 _ rfl) ?_
        refine pm_icmp_ge (tgt := 241) hG dX12_quarter_234 rfl (fun c52 => ?_) (fun c52 => ?_)
        · replace c52 := Int32.not_lt.mpr c52
          replace hE := fx_f c52 hE
          refine pm_ldc hG dX12_quarter_241 (ctX12_235 _ rfl) ?_
          refine fx_iast hG dX12_quarter_243 rfl hj49 ?_
          refine ma_55 ?_
          refine fx_letm hE (fun S53 hE => ?_)
          refine pm_aloadn hG dX12_quarter_244 rfl ?_
          refine pm_getf hG dX12_quarter_245 (flX12_7 _ rfl) rfl rfl ?_
          refine pm_iloadn hG dX12_quarter_248 rfl ?_
          refine fx_iald hG dX12_quarter_249 rfl hj49 ?_
          refine pm_aloadn hG dX12_quarter_250 rfl ?_
          refine pm_getf hG dX12_quarter_251 (flX12_7 _ rfl) rfl rfl ?_
          refine pm_iloadn hG dX12_quarter_254 rfl ?_
          refine pm_iconst (v := 2) hG dX12_quarter_255 (by decide) ?_
          refine pm_iadd hG dX12_quarter_256 ?_
          obtain ⟨j54, hj54, hE⟩ := fb_some hE
          refine fx_iald hG dX12_quarter_257 rfl hj54 ?_
          refine pm_icmp_ge (tgt := 270) hG dX12_quarter_258 rfl (fun c55 => ?_) (fun c55 => ?_)
          · replace c55 := Int32.not_lt.mpr c55
            replace hE := fx_f c55 hE
            refine pm_aloadn hG dX12_quarter_270 rfl ?_
            refine pm_getf hG dX12_quarter_271 (flX12_7 _ rfl) rfl rfl ?_
            refine pm_iloadn hG dX12_quarter_274 rfl ?_
            refine pm_iconst (v := 2) hG dX12_quarter_275 (by decide) ?_
            refine pm_iadd hG dX12_quarter_276 ?_
            refine fx_iald hG dX12_quarter_277 rfl hj54 ?_
            refine fx_letv hE (fun x56 hE => ?_)
            refine pm_istoreXi (loc' := [some (.ref (B + 54)), some (.int x46_1), some (.int x48), some (.int x51), some (.int x56)]) hG dX12_quarter_278 (by decide) (pm_c1b rfl) rfl ?_
            refine pm_aloadn hG dX12_quarter_280 rfl ?_
            refine pm_getf hG dX12_quarter_281 (flX12_7 _ rfl) rfl rfl ?_
            refine pm_bipush (v := 9) hG dX12_quarter_284 (by decide) ?_
            refine fx_iald hG dX12_quarter_286 rfl (ix_lit (by decide) rfl) ?_
            refine pm_iloadi hG dX12_quarter_287 rfl ?_
            refine pm_icmp_lt (tgt := 318) hG dX12_quarter_289 rfl (fun c57 => ?_) (fun c57 => ?_)
            · replace hE := fx_t c57 hE
              refine pm_aloadn hG dX12_quarter_318 rfl ?_
              refine pm_getf hG dX12_quarter_319 (flX12_7 _ rfl) rfl rfl ?_
              refine pm_iloadn hG dX12_quarter_322 rfl ?_
              refine pm_iconst (v := 3) hG dX12_quarter_323 (by decide) ?_
              refine pm_iadd hG dX12_quarter_324 ?_
              refine pm_dup2 hG dX12_quarter_325 rfl rfl ?_
              obtain ⟨j58, hj58, hE⟩ := fb_some hE
              refine fx_iald hG dX12_quarter_326 rfl hj58 ?_
              refine pm_iconst (v := 1) hG dX12_quarter_327 (by decide) ?_
              refine pm_iadd hG dX12_quarter_328 ?_
              refine fx_iast hG dX12_quarter_329 rfl hj58 ?_
              refine ma_55 ?_
              refine fx_letm hE (fun S59 hE => ?_)
              refine pm_aloadn hG dX12_quarter_330 rfl ?_
              refine pm_getf hG dX12_quarter_331 (flX12_7 _ rfl) rfl rfl ?_
              refine pm_iloadn hG dX12_quarter_334 rfl ?_
              refine pm_iconst (v := 3) hG dX12_quarter_335 (by decide) ?_
              refine pm_iadd hG dX12_quarter_336 ?_
              refine fx_iald hG dX12_quarter_337 rfl hj58 ?_
              refine pm_iconst (v := 2) hG dX12_quarter_338 (by decide) ?_
              refine pm_icmp_ne (tgt := 363) hG dX12_quarter_339 rfl (fun c60 => ?_) (fun c60 => ?_)
              · replace hE := fx_f c60 hE
                refine pm_iincX (v := x46_1 + 1) (loc' := [some (.ref (B + 54)), some (.int (x46_1 + 1)), some (.int x48), some (.int x51), some (.int x56)]) hG dX12_quarter_363 rfl (by rfl) (by decide) (pm_c1b rfl) rfl ?_
                refine pm_goto (tgt := 180) hG dX12_quarter_366 rfl ?_
                refine pm_fg 2 (loc' := [some (.ref (B + 54)), some (.int (x46_1 + 1)), none, some (.int x51), some (.int x56)]) rfl ?_
                refine pm_fg 3 (loc' := [some (.ref (B + 54)), some (.int (x46_1 + 1)), none, none, some (.int x56)]) rfl ?_
                refine pm_fg 4 (loc' := [some (.ref (B + 54)), some (.int (x46_1 + 1)), none, none, none]) rfl ?_
                exact ih180 _ _ hE
              · replace hE := fx_t c60 hE
                refine pm_aloadn hG dX12_quarter_342 rfl ?_
                refine pm_getf hG dX12_quarter_343 (flX12_7 _ rfl) rfl rfl ?_
                refine pm_bipush (v := 20) hG dX12_quarter_346 (by decide) ?_
                refine pm_iconst (v := 3) hG dX12_quarter_348 (by decide) ?_
                refine pm_aloadn hG dX12_quarter_349 rfl ?_
                refine pm_getf hG dX12_quarter_350 (flX12_7 _ rfl) rfl rfl ?_
                refine pm_iloadn hG dX12_quarter_353 rfl ?_
                refine pm_iconst (v := 4) hG dX12_quarter_354 (by decide) ?_
                refine pm_iadd hG dX12_quarter_355 ?_
                obtain ⟨j61, hj61, hE⟩ := fb_some hE
                refine fx_iald hG dX12_quarter_356 rfl hj61 ?_
                refine pm_imul hG dX12_quarter_357 ?_
                refine pm_iadd hG dX12_quarter_358 ?_
                refine pm_iconst (v := 2) hG dX12_quarter_359 (by decide) ?_
                refine pm_iadd hG dX12_quarter_360 ?_
                refine pm_iconst (v := 1) hG dX12_quarter_361 (by decide) ?_
                obtain ⟨j62, hj62, hE⟩ := fb_some hE
                refine fx_iast hG dX12_quarter_362 rfl hj62 ?_
                refine ma_55 ?_
                refine fx_letm hE (fun S63 hE => ?_)
                refine pm_iincX (v := x46_1 + 1) (loc' := [some (.ref (B + 54)), some (.int (x46_1 + 1)), some (.int x48), some (.int x51), some (.int x56)]) hG dX12_quarter_363 rfl (by rfl) (by decide) (pm_c1b rfl) rfl ?_
                refine pm_goto (tgt := 180) hG dX12_quarter_366 rfl ?_
                refine pm_fg 2 (loc' := [some (.ref (B + 54)), some (.int (x46_1 + 1)), none, some (.int x51), some (.int x56)]) rfl ?_
                refine pm_fg 3 (loc' := [some (.ref (B + 54)), some (.int (x46_1 + 1)), none, none, some (.int x56)]) rfl ?_
                refine pm_fg 4 (loc' := [some (.ref (B + 54)), some (.int (x46_1 + 1)), none, none, none]) rfl ?_
                exact ih180 _ _ hE
            · replace hE := fx_f c57 hE
              refine pm_aloadn hG dX12_quarter_292 rfl ?_
              refine pm_getf hG dX12_quarter_293 (flX12_7 _ rfl) rfl rfl ?_
              refine pm_bipush (v := 9) hG dX12_quarter_296 (by decide) ?_
              refine pm_dup2 hG dX12_quarter_298 rfl rfl ?_
              refine fx_iald hG dX12_quarter_299 rfl (ix_lit (by decide) rfl) ?_
              refine pm_iloadi hG dX12_quarter_300 rfl ?_
              refine pm_isub hG dX12_quarter_302 ?_
              refine fx_iast hG dX12_quarter_303 rfl (ix_lit (by decide) rfl) ?_
              refine ma_55 ?_
              refine fx_letm hE (fun S64 hE => ?_)
              refine pm_aloadn hG dX12_quarter_304 rfl ?_
              refine pm_getf hG dX12_quarter_305 (flX12_7 _ rfl) rfl rfl ?_
              refine pm_iloadn hG dX12_quarter_308 rfl ?_
              refine pm_dup2 hG dX12_quarter_309 rfl rfl ?_
              refine fx_iald hG dX12_quarter_310 rfl hj49 ?_
              refine pm_iloadi hG dX12_quarter_311 rfl ?_
              refine pm_isub hG dX12_quarter_313 ?_
              refine fx_iast hG dX12_quarter_314 rfl hj49 ?_
              refine ma_55 ?_
              refine fx_letm hE (fun S65 hE => ?_)
              refine pm_goto (tgt := 363) hG dX12_quarter_315 rfl ?_
              refine pm_iincX (v := x46_1 + 1) (loc' := [some (.ref (B + 54)), some (.int (x46_1 + 1)), some (.int x48), some (.int x51), some (.int x56)]) hG dX12_quarter_363 rfl (by rfl) (by decide) (pm_c1b rfl) rfl ?_
              refine pm_goto (tgt := 180) hG dX12_quarter_366 rfl ?_
              refine pm_fg 2 (loc' := [some (.ref (B + 54)), some (.int (x46_1 + 1)), none, some (.int x51), some (.int x56)]) rfl ?_
              refine pm_fg 3 (loc' := [some (.ref (B + 54)), some (.int (x46_1 + 1)), none, none, some (.int x56)]) rfl ?_
              refine pm_fg 4 (loc' := [some (.ref (B + 54)), some (.int (x46_1 + 1)), none, none, none]) rfl ?_
              exact ih180 _ _ hE
          · replace c55 := Int32.not_le.mp c55
            replace hE := fx_t c55 hE
            refine pm_aloadn hG dX12_quarter_261 rfl ?_
            refine pm_getf hG dX12_quarter_262 (flX12_7 _ rfl) rfl rfl ?_
            refine pm_iloadn hG dX12_quarter_265 rfl ?_
            refine fx_iald hG dX12_quarter_266 rfl hj49 ?_
            refine pm_goto (tgt := 278) hG dX12_quarter_267 rfl ?_
            refine fx_letv hE (fun x66 hE => ?_)
            refine pm_istoreXi (loc' := [some (.ref (B + 54)), some (.int x46_1), some (.int x48), some (.int x51), some (.int x66)]) hG dX12_quarter_278 (by decide) (pm_c1b rfl) rfl ?_
            refine pm_aloadn hG dX12_quarter_280 rfl ?_
            refine pm_getf hG dX12_quarter_281 (flX12_7 _ rfl) rfl rfl ?_
            refine pm_bipush (v := 9) hG dX12_quarter_284 (by decide) ?_
            refine fx_iald hG dX12_quarter_286 rfl (ix_lit (by decide) rfl) ?_
            refine pm_iloadi hG dX12_quarter_287 rfl ?_
            refine pm_icmp_lt (tgt := 318) hG dX12_quarter_289 rfl (fun c67 => ?_) (fun c67 => ?_)
            · replace hE := fx_t c67 hE
              refine pm_aloadn hG dX12_quarter_318 rfl ?_
              refine pm_getf hG dX12_quarter_319 (flX12_7 _ rfl) rfl rfl ?_
              refine pm_iloadn hG dX12_quarter_322 rfl ?_
              refine pm_iconst (v := 3) hG dX12_quarter_323 (by decide) ?_
              refine pm_iadd hG dX12_quarter_324 ?_
              refine pm_dup2 hG dX12_quarter_325 rfl rfl ?_
              obtain ⟨j68, hj68, hE⟩ := fb_some hE
              refine fx_iald hG dX12_quarter_326 rfl hj68 ?_
              refine pm_iconst (v := 1) hG dX12_quarter_327 (by decide) ?_
              refine pm_iadd hG dX12_quarter_328 ?_
              refine fx_iast hG dX12_quarter_329 rfl hj68 ?_
              refine ma_55 ?_
              refine fx_letm hE (fun S69 hE => ?_)
              refine pm_aloadn hG dX12_quarter_330 rfl ?_
              refine pm_getf hG dX12_quarter_331 (flX12_7 _ rfl) rfl rfl ?_
              refine pm_iloadn hG dX12_quarter_334 rfl ?_
              refine pm_iconst (v := 3) hG dX12_quarter_335 (by decide) ?_
              refine pm_iadd hG dX12_quarter_336 ?_
              refine fx_iald hG dX12_quarter_337 rfl hj68 ?_
              refine pm_iconst (v := 2) hG dX12_quarter_338 (by decide) ?_
              refine pm_icmp_ne (tgt := 363) hG dX12_quarter_339 rfl (fun c70 => ?_) (fun c70 => ?_)
              · replace hE := fx_f c70 hE
                refine pm_iincX (v := x46_1 + 1) (loc' := [some (.ref (B + 54)), some (.int (x46_1 + 1)), some (.int x48), some (.int x51), some (.int x66)]) hG dX12_quarter_363 rfl (by rfl) (by decide) (pm_c1b rfl) rfl ?_
                refine pm_goto (tgt := 180) hG dX12_quarter_366 rfl ?_
                refine pm_fg 2 (loc' := [some (.ref (B + 54)), some (.int (x46_1 + 1)), none, some (.int x51), some (.int x66)]) rfl ?_
                refine pm_fg 3 (loc' := [some (.ref (B + 54)), some (.int (x46_1 + 1)), none, none, some (.int x66)]) rfl ?_
                refine pm_fg 4 (loc' := [some (.ref (B + 54)), some (.int (x46_1 + 1)), none, none, none]) rfl ?_
                exact ih180 _ _ hE
              · replace hE := fx_t c70 hE
                refine pm_aloadn hG dX12_quarter_342 rfl ?_
                refine pm_getf hG dX12_quarter_343 (flX12_7 _ rfl) rfl rfl ?_
                refine pm_bipush (v := 20) hG dX12_quarter_346 (by decide) ?_
                refine pm_iconst (v := 3) hG dX12_quarter_348 (by decide) ?_
                refine pm_aloadn hG dX12_quarter_349 rfl ?_
                refine pm_getf hG dX12_quarter_350 (flX12_7 _ rfl) rfl rfl ?_
                refine pm_iloadn hG dX12_quarter_353 rfl ?_
                refine pm_iconst (v := 4) hG dX12_quarter_354 (by decide) ?_
                refine pm_iadd hG dX12_quarter_355 ?_
                obtain ⟨j71, hj71, hE⟩ := fb_some hE
                refine fx_iald hG dX12_quarter_356 rfl hj71 ?_
                refine pm_imul hG dX12_quarter_357 ?_
                refine pm_iadd hG dX12_quarter_358 ?_
                refine pm_iconst (v := 2) hG dX12_quarter_359 (by decide) ?_
                refine pm_iadd hG dX12_quarter_360 ?_
                refine pm_iconst (v := 1) hG dX12_quarter_361 (by decide) ?_
                obtain ⟨j72, hj72, hE⟩ := fb_some hE
                refine fx_iast hG dX12_quarter_362 rfl hj72 ?_
                refine ma_55 ?_
                refine fx_letm hE (fun S73 hE => ?_)
                refine pm_iincX (v := x46_1 + 1) (loc' := [some (.ref (B + 54)), some (.int (x46_1 + 1)), some (.int x48), some (.int x51), some (.int x66)]) hG dX12_quarter_363 rfl (by rfl) (by decide) (pm_c1b rfl) rfl ?_
                refine pm_goto (tgt := 180) hG dX12_quarter_366 rfl ?_
                refine pm_fg 2 (loc' := [some (.ref (B + 54)), some (.int (x46_1 + 1)), none, some (.int x51), some (.int x66)]) rfl ?_
                refine pm_fg 3 (loc' := [some (.ref (B + 54)), some (.int (x46_1 + 1)), none, none, some (.int x66)]) rfl ?_
                refine pm_fg 4 (loc' := [some (.ref (B + 54)), some (.int (x46_1 + 1)), none, none, none]) rfl ?_
                exact ih180 _ _ hE
            · replace hE := fx_f c67 hE
              refine pm_aloadn hG dX12_quarter_292 rfl ?_
              refine pm_getf hG dX12_quarter_293 (flX12_7 _ rfl) rfl rfl ?_
              refine pm_bipush (v := 9) hG dX12_quarter_296 (by decide) ?_
              refine pm_dup2 hG dX12_quarter_298 rfl rfl ?_
              refine fx_iald hG dX12_quarter_299 rfl (ix_lit (by decide) rfl) ?_
              refine pm_iloadi hG dX12_quarter_300 rfl ?_
              refine pm_isub hG dX12_quarter_302 ?_
              refine fx_iast hG dX12_quarter_303 rfl (ix_lit (by decide) rfl) ?_
              refine ma_55 ?_
              refine fx_letm hE (fun S74 hE => ?_)
              refine pm_aloadn hG dX12_quarter_304 rfl ?_
              refine pm_getf hG dX12_quarter_305 (flX12_7 _ rfl) rfl rfl ?_
              refine pm_iloadn hG dX12_quarter_308 rfl ?_
              refine pm_dup2 hG dX12_quarter_309 rfl rfl ?_
              refine fx_iald hG dX12_quarter_310 rfl hj49 ?_
              refine pm_iloadi hG dX12_quarter_311 rfl ?_
              refine pm_isub hG dX12_quarter_313 ?_
              refine fx_iast hG dX12_quarter_314 rfl hj49 ?_
              refine ma_55 ?_
              refine fx_letm hE (fun S75 hE => ?_)
              refine pm_goto (tgt := 363) hG dX12_quarter_315 rfl ?_
              refine pm_iincX (v := x46_1 + 1) (loc' := [some (.ref (B + 54)), some (.int (x46_1 + 1)), some (.int x48), some (.int x51), some (.int x66)]) hG dX12_quarter_363 rfl (by rfl) (by decide) (pm_c1b rfl) rfl ?_
              refine pm_goto (tgt := 180) hG dX12_quarter_366 rfl ?_
              refine pm_fg 2 (loc' := [some (.ref (B + 54)), some (.int (x46_1 + 1)), none, some (.int x51), some (.int x66)]) rfl ?_
              refine pm_fg 3 (loc' := [some (.ref (B + 54)), some (.int (x46_1 + 1)), none, none, some (.int x66)]) rfl ?_
              refine pm_fg 4 (loc' := [some (.ref (B + 54)), some (.int (x46_1 + 1)), none, none, none]) rfl ?_
              exact ih180 _ _ hE
        · replace c52 := Int32.not_le.mp c52
          replace hE := fx_t c52 hE
          refine pm_iloadn hG dX12_quarter_237 rfl ?_
          refine pm_goto (tgt := 243) hG dX12_quarter_238 rfl ?_
          refine fx_iast hG dX12_quarter_243 rfl hj49 ?_
          refine ma_55 ?_
          refine fx_letm hE (fun S76 hE => ?_)
          refine pm_aloadn hG dX12_quarter_244 rfl ?_
          refine pm_getf hG dX12_quarter_245 (flX12_7 _ rfl) rfl rfl ?_
          refine pm_iloadn hG dX12_quarter_248 rfl ?_
          refine fx_iald hG dX12_quarter_249 rfl hj49 ?_
          refine pm_aloadn hG dX12_quarter_250 rfl ?_
          refine pm_getf hG dX12_quarter_251 (flX12_7 _ rfl) rfl rfl ?_
          refine pm_iloadn hG dX12_quarter_254 rfl ?_
          refine pm_iconst (v := 2) hG dX12_quarter_255 (by decide) ?_
          refine pm_iadd hG dX12_quarter_256 ?_
          obtain ⟨j77, hj77, hE⟩ := fb_some hE
          refine fx_iald hG dX12_quarter_257 rfl hj77 ?_
          refine pm_icmp_ge (tgt := 270) hG dX12_quarter_258 rfl (fun c78 => ?_) (fun c78 => ?_)
          · replace c78 := Int32.not_lt.mpr c78
            replace hE := fx_f c78 hE
            refine pm_aloadn hG dX12_quarter_270 rfl ?_
            refine pm_getf hG dX12_quarter_271 (flX12_7 _ rfl) rfl rfl ?_
            refine pm_iloadn hG dX12_quarter_274 rfl ?_
            refine pm_iconst (v := 2) hG dX12_quarter_275 (by decide) ?_
            refine pm_iadd hG dX12_quarter_276 ?_
            refine fx_iald hG dX12_quarter_277 rfl hj77 ?_
            refine fx_letv hE (fun x79 hE => ?_)
            refine pm_istoreXi (loc' := [some (.ref (B + 54)), some (.int x46_1), some (.int x48), some (.int x51), some (.int x79)]) hG dX12_quarter_278 (by decide) (pm_c1b rfl) rfl ?_
            refine pm_aloadn hG dX12_quarter_280 rfl ?_
            refine pm_getf hG dX12_quarter_281 (flX12_7 _ rfl) rfl rfl ?_
            refine pm_bipush (v := 9) hG dX12_quarter_284 (by decide) ?_
            refine fx_iald hG dX12_quarter_286 rfl (ix_lit (by decide) rfl) ?_
            refine pm_iloadi hG dX12_quarter_287 rfl ?_
            refine pm_icmp_lt (tgt := 318) hG dX12_quarter_289 rfl (fun c80 => ?_) (fun c80 => ?_)
            · replace hE := fx_t c80 hE
              refine pm_aloadn hG dX12_quarter_318 rfl ?_
              refine pm_getf hG dX12_quarter_319 (flX12_7 _ rfl) rfl rfl ?_
              refine pm_iloadn hG dX12_quarter_322 rfl ?_
              refine pm_iconst (v := 3) hG dX12_quarter_323 (by decide) ?_
              refine pm_iadd hG dX12_quarter_324 ?_
              refine pm_dup2 hG dX12_quarter_325 rfl rfl ?_
              obtain ⟨j81, hj81, hE⟩ := fb_some hE
              refine fx_iald hG dX12_quarter_326 rfl hj81 ?_
              refine pm_iconst (v := 1) hG dX12_quarter_327 (by decide) ?_
              refine pm_iadd hG dX12_quarter_328 ?_
              refine fx_iast hG dX12_quarter_329 rfl hj81 ?_
              refine ma_55 ?_
              refine fx_letm hE (fun S82 hE => ?_)
              refine pm_aloadn hG dX12_quarter_330 rfl ?_
              refine pm_getf hG dX12_quarter_331 (flX12_7 _ rfl) rfl rfl ?_
              refine pm_iloadn hG dX12_quarter_334 rfl ?_
              refine pm_iconst (v := 3) hG dX12_quarter_335 (by decide) ?_
              refine pm_iadd hG dX12_quarter_336 ?_
              refine fx_iald hG dX12_quarter_337 rfl hj81 ?_
              refine pm_iconst (v := 2) hG dX12_quarter_338 (by decide) ?_
              refine pm_icmp_ne (tgt := 363) hG dX12_quarter_339 rfl (fun c83 => ?_) (fun c83 => ?_)
              · replace hE := fx_f c83 hE
                refine pm_iincX (v := x46_1 + 1) (loc' := [some (.ref (B + 54)), some (.int (x46_1 + 1)), some (.int x48), some (.int x51), some (.int x79)]) hG dX12_quarter_363 rfl (by rfl) (by decide) (pm_c1b rfl) rfl ?_
                refine pm_goto (tgt := 180) hG dX12_quarter_366 rfl ?_
                refine pm_fg 2 (loc' := [some (.ref (B + 54)), some (.int (x46_1 + 1)), none, some (.int x51), some (.int x79)]) rfl ?_
                refine pm_fg 3 (loc' := [some (.ref (B + 54)), some (.int (x46_1 + 1)), none, none, some (.int x79)]) rfl ?_
                refine pm_fg 4 (loc' := [some (.ref (B + 54)), some (.int (x46_1 + 1)), none, none, none]) rfl ?_
                exact ih180 _ _ hE
              · replace hE := fx_t c83 hE
                refine pm_aloadn hG dX12_quarter_342 rfl ?_
                refine pm_getf hG dX12_quarter_343 (flX12_7 _ rfl) rfl rfl ?_
                refine pm_bipush (v := 20) hG dX12_quarter_346 (by decide) ?_
                refine pm_iconst (v := 3) hG dX12_quarter_348 (by decide) ?_
                refine pm_aloadn hG dX12_quarter_349 rfl ?_
                refine pm_getf hG dX12_quarter_350 (flX12_7 _ rfl) rfl rfl ?_
                refine pm_iloadn hG dX12_quarter_353 rfl ?_
                refine pm_iconst (v := 4) hG dX12_quarter_354 (by decide) ?_
                refine pm_iadd hG dX12_quarter_355 ?_
                obtain ⟨j84, hj84, hE⟩ := fb_some hE
                refine fx_iald hG dX12_quarter_356 rfl hj84 ?_
                refine pm_imul hG dX12_quarter_357 ?_
                refine pm_iadd hG dX12_quarter_358 ?_
                refine pm_iconst (v := 2) hG dX12_quarter_359 (by decide) ?_
                refine pm_iadd hG dX12_quarter_360 ?_
                refine pm_iconst (v := 1) hG dX12_quarter_361 (by decide) ?_
                obtain ⟨j85, hj85, hE⟩ := fb_some hE
                refine fx_iast hG dX12_quarter_362 rfl hj85 ?_
                refine ma_55 ?_
                refine fx_letm hE (fun S86 hE => ?_)
                refine pm_iincX (v := x46_1 + 1) (loc' := [some (.ref (B + 54)), some (.int (x46_1 + 1)), some (.int x48), some (.int x51), some (.int x79)]) hG dX12_quarter_363 rfl (by rfl) (by decide) (pm_c1b rfl) rfl ?_
                refine pm_goto (tgt := 180) hG dX12_quarter_366 rfl ?_
                refine pm_fg 2 (loc' := [some (.ref (B + 54)), some (.int (x46_1 + 1)), none, some (.int x51), some (.int x79)]) rfl ?_
                refine pm_fg 3 (loc' := [some (.ref (B + 54)), some (.int (x46_1 + 1)), none, none, some (.int x79)]) rfl ?_
                refine pm_fg 4 (loc' := [some (.ref (B + 54)), some (.int (x46_1 + 1)), none, none, none]) rfl ?_
                exact ih180 _ _ hE
            · replace hE := fx_f c80 hE
              refine pm_aloadn hG dX12_quarter_292 rfl ?_
              refine pm_getf hG dX12_quarter_293 (flX12_7 _ rfl) rfl rfl ?_
              refine pm_bipush (v := 9) hG dX12_quarter_296 (by decide) ?_
              refine pm_dup2 hG dX12_quarter_298 rfl rfl ?_
              refine fx_iald hG dX12_quarter_299 rfl (ix_lit (by decide) rfl) ?_
              refine pm_iloadi hG dX12_quarter_300 rfl ?_
              refine pm_isub hG dX12_quarter_302 ?_
              refine fx_iast hG dX12_quarter_303 rfl (ix_lit (by decide) rfl) ?_
              refine ma_55 ?_
              refine fx_letm hE (fun S87 hE => ?_)
              refine pm_aloadn hG dX12_quarter_304 rfl ?_
              refine pm_getf hG dX12_quarter_305 (flX12_7 _ rfl) rfl rfl ?_
              refine pm_iloadn hG dX12_quarter_308 rfl ?_
              refine pm_dup2 hG dX12_quarter_309 rfl rfl ?_
              refine fx_iald hG dX12_quarter_310 rfl hj49 ?_
              refine pm_iloadi hG dX12_quarter_311 rfl ?_
              refine pm_isub hG dX12_quarter_313 ?_
              refine fx_iast hG dX12_quarter_314 rfl hj49 ?_
              refine ma_55 ?_
              refine fx_letm hE (fun S88 hE => ?_)
              refine pm_goto (tgt := 363) hG dX12_quarter_315 rfl ?_
              refine pm_iincX (v := x46_1 + 1) (loc' := [some (.ref (B + 54)), some (.int (x46_1 + 1)), some (.int x48), some (.int x51), some (.int x79)]) hG dX12_quarter_363 rfl (by rfl) (by decide) (pm_c1b rfl) rfl ?_
              refine pm_goto (tgt := 180) hG dX12_quarter_366 rfl ?_
              refine pm_fg 2 (loc' := [some (.ref (B + 54)), some (.int (x46_1 + 1)), none, some (.int x51), some (.int x79)]) rfl ?_
              refine pm_fg 3 (loc' := [some (.ref (B + 54)), some (.int (x46_1 + 1)), none, none, some (.int x79)]) rfl ?_
              refine pm_fg 4 (loc' := [some (.ref (B + 54)), some (.int (x46_1 + 1)), none, none, none]) rfl ?_
              exact ih180 _ _ hE
          · replace c78 := Int32.not_le.mp c78
            replace hE := fx_t c78 hE
            refine pm_aloadn hG dX12_quarter_261 rfl ?_
            refine pm_getf hG dX12_quarter_262 (flX12_7 _ rfl) rfl rfl ?_
            refine pm_iloadn hG dX12_quarter_265 rfl ?_
            refine fx_iald hG dX12_quarter_266 rfl hj49 ?_
            refine pm_goto (tgt := 278) hG dX12_quarter_267 rfl ?_
            refine fx_letv hE (fun x89 hE => ?_)
            refine pm_istoreXi (loc' := [some (.ref (B + 54)), some (.int x46_1), some (.int x48), some (.int x51), some (.int x89)]) hG dX12_quarter_278 (by decide) (pm_c1b rfl) rfl ?_
            refine pm_aloadn hG dX12_quarter_280 rfl ?_
            refine pm_getf hG dX12_quarter_281 (flX12_7 _ rfl) rfl rfl ?_
            refine pm_bipush (v := 9) hG dX12_quarter_284 (by decide) ?_
            refine fx_iald hG dX12_quarter_286 rfl (ix_lit (by decide) rfl) ?_
            refine pm_iloadi hG dX12_quarter_287 rfl ?_
            refine pm_icmp_lt (tgt := 318) hG dX12_quarter_289 rfl (fun c90 => ?_) (fun c90 => ?_)
            · replace hE := fx_t c90 hE
              refine pm_aloadn hG dX12_quarter_318 rfl ?_
              refine pm_getf hG dX12_quarter_319 (flX12_7 _ rfl) rfl rfl ?_
              refine pm_iloadn hG dX12_quarter_322 rfl ?_
              refine pm_iconst (v := 3) hG dX12_quarter_323 (by decide) ?_
              refine pm_iadd hG dX12_quarter_324 ?_
              refine pm_dup2 hG dX12_quarter_325 rfl rfl ?_
              obtain ⟨j91, hj91, hE⟩ := fb_some hE
              refine fx_iald hG dX12_quarter_326 rfl hj91 ?_
              refine pm_iconst (v := 1) hG dX12_quarter_327 (by decide) ?_
              refine pm_iadd hG dX12_quarter_328 ?_
              refine fx_iast hG dX12_quarter_329 rfl hj91 ?_
              refine ma_55 ?_
              refine fx_letm hE (fun S92 hE => ?_)
              refine pm_aloadn hG dX12_quarter_330 rfl ?_
              refine pm_getf hG dX12_quarter_331 (flX12_7 _ rfl) rfl rfl ?_
              refine pm_iloadn hG dX12_quarter_334 rfl ?_
              refine pm_iconst (v := 3) hG dX12_quarter_335 (by decide) ?_
              refine pm_iadd hG dX12_quarter_336 ?_
              refine fx_iald hG dX12_quarter_337 rfl hj91 ?_
              refine pm_iconst (v := 2) hG dX12_quarter_338 (by decide) ?_
              refine pm_icmp_ne (tgt := 363) hG dX12_quarter_339 rfl (fun c93 => ?_) (fun c93 => ?_)
              · replace hE := fx_f c93 hE
                refine pm_iincX (v := x46_1 + 1) (loc' := [some (.ref (B + 54)), some (.int (x46_1 + 1)), some (.int x48), some (.int x51), some (.int x89)]) hG dX12_quarter_363 rfl (by rfl) (by decide) (pm_c1b rfl) rfl ?_
                refine pm_goto (tgt := 180) hG dX12_quarter_366 rfl ?_
                refine pm_fg 2 (loc' := [some (.ref (B + 54)), some (.int (x46_1 + 1)), none, some (.int x51), some (.int x89)]) rfl ?_
                refine pm_fg 3 (loc' := [some (.ref (B + 54)), some (.int (x46_1 + 1)), none, none, some (.int x89)]) rfl ?_
                refine pm_fg 4 (loc' := [some (.ref (B + 54)), some (.int (x46_1 + 1)), none, none, none]) rfl ?_
                exact ih180 _ _ hE
              · replace hE := fx_t c93 hE
                refine pm_aloadn hG dX12_quarter_342 rfl ?_
                refine pm_getf hG dX12_quarter_343 (flX12_7 _ rfl) rfl rfl ?_
                refine pm_bipush (v := 20) hG dX12_quarter_346 (by decide) ?_
                refine pm_iconst (v := 3) hG dX12_quarter_348 (by decide) ?_
                refine pm_aloadn hG dX12_quarter_349 rfl ?_
                refine pm_getf hG dX12_quarter_350 (flX12_7 _ rfl) rfl rfl ?_
                refine pm_iloadn hG dX12_quarter_353 rfl ?_
                refine pm_iconst (v := 4) hG dX12_quarter_354 (by decide) ?_
                refine pm_iadd hG dX12_quarter_355 ?_
                obtain ⟨j94, hj94, hE⟩ := fb_some hE
                refine fx_iald hG dX12_quarter_356 rfl hj94 ?_
                refine pm_imul hG dX12_quarter_357 ?_
                refine pm_iadd hG dX12_quarter_358 ?_
                refine pm_iconst (v := 2) hG dX12_quarter_359 (by decide) ?_
                refine pm_iadd hG dX12_quarter_360 ?_
                refine pm_iconst (v := 1) hG dX12_quarter_361 (by decide) ?_
                obtain ⟨j95, hj95, hE⟩ := fb_some hE
                refine fx_iast hG dX12_quarter_362 rfl hj95 ?_
                refine ma_55 ?_
                refine fx_letm hE (fun S96 hE => ?_)
                refine pm_iincX (v := x46_1 + 1) (loc' := [some (.ref (B + 54)), some (.int (x46_1 + 1)), some (.int x48), some (.int x51), some (.int x89)]) hG dX12_quarter_363 rfl (by rfl) (by decide) (pm_c1b rfl) rfl ?_
                refine pm_goto (tgt := 180) hG dX12_quarter_366 rfl ?_
                refine pm_fg 2 (loc' := [some (.ref (B + 54)), some (.int (x46_1 + 1)), none, some (.int x51), some (.int x89)]) rfl ?_
                refine pm_fg 3 (loc' := [some (.ref (B + 54)), some (.int (x46_1 + 1)), none, none, some (.int x89)]) rfl ?_
                refine pm_fg 4 (loc' := [some (.ref (B + 54)), some (.int (x46_1 + 1)), none, none, none]) rfl ?_
                exact ih180 _ _ hE
            · replace hE := fx_f c90 hE
              refine pm_aloadn hG dX12_quarter_292 rfl ?_
              refine pm_getf hG dX12_quarter_293 (flX12_7 _ rfl) rfl rfl ?_
              refine pm_bipush (v := 9) hG dX12_quarter_296 (by decide) ?_
              refine pm_dup2 hG dX12_quarter_298 rfl rfl ?_
              refine fx_iald hG dX12_quarter_299 rfl (ix_lit (by decide) rfl) ?_
              refine pm_iloadi hG dX12_quarter_300 rfl ?_
              refine pm_isub hG dX12_quarter_302 ?_
              refine fx_iast hG dX12_quarter_303 rfl (ix_lit (by decide) rfl) ?_
              refine ma_55 ?_
              refine fx_letm hE (fun S97 hE => ?_)
              refine pm_aloadn hG dX12_quarter_304 rfl ?_
              refine pm_getf hG dX12_quarter_305 (flX12_7 _ rfl) rfl rfl ?_
              refine pm_iloadn hG dX12_quarter_308 rfl ?_
              refine pm_dup2 hG dX12_quarter_309 rfl rfl ?_
              refine fx_iald hG dX12_quarter_310 rfl hj49 ?_
              refine pm_iloadi hG dX12_quarter_311 rfl ?_
              refine pm_isub hG dX12_quarter_313 ?_
              refine fx_iast hG dX12_quarter_314 rfl hj49 ?_
              refine ma_55 ?_
              refine fx_letm hE (fun S98 hE => ?_)
              refine pm_goto (tgt := 363) hG dX12_quarter_315 rfl ?_
              refine pm_iincX (v := x46_1 + 1) (loc' := [some (.ref (B + 54)), some (.int (x46_1 + 1)), some (.int x48), some (.int x51), some (.int x89)]) hG dX12_quarter_363 rfl (by rfl) (by decide) (pm_c1b rfl) rfl ?_
              refine pm_goto (tgt := 180) hG dX12_quarter_366 rfl ?_
              refine pm_fg 2 (loc' := [some (.ref (B + 54)), some (.int (x46_1 + 1)), none, some (.int x51), some (.int x89)]) rfl ?_
              refine pm_fg 3 (loc' := [some (.ref (B + 54)), some (.int (x46_1 + 1)), none, none, some (.int x89)]) rfl ?_
              refine pm_fg 4 (loc' := [some (.ref (B + 54)), some (.int (x46_1 + 1)), none, none, none]) rfl ?_
              exact ih180 _ _ hE
  refine loop180 _ (fun S99 x99_1 hE => ?_) _ _ _ hE
  exact pm_vret hG hF dX12_quarter_369 rfl (Nat.le_refl _) (Nat.le_refl _) (fx_rvm hE)
end
