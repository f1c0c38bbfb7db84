set_option maxRecDepth 100000 in
set_option maxHeartbeats 4000000 in
theorem c_X12_weightOf {d : Nat} {B cnt : Nat} {σ : pm_S} {S : FS} {za : Int32} {R : Int32} (hdd : 1 ≤ d) (hE : q_X12_weightOf S za = some R) : pm_met mX12_weightOf d 0 0 B [.ref (B + 54), .int za] cnt (mst B S σ) (pm_Qi (fun v σ' cnt' => v = R ∧ σ' = (mst B S σ) ∧ cnt' = cnt)) := by
  refine pm_enter 2 (by decide) (Nat.le_of_ble_eq_true rfl) rfl (fun G hG hR hF => ?_)
  unfold q_X12_weightOf at hE
  refine pm_iconst (v := 0) hG dX12_weightOf_0 (by decide) ?_
  refine pm_istoreXn (loc' := [some (.ref (B + 54)), some (.int za), some (.int 0), none]) hG dX12_weightOf_1 (by decide) (pm_c1b rfl) rfl ?_
  refine pm_iconst (v := 0) hG dX12_weightOf_2 (by decide) ?_
  refine pm_istoreXn (loc' := [some (.ref (B + 54)), some (.int za), some (.int 0), some (.int 0)]) hG dX12_weightOf_3 (by decide) (pm_c1b rfl) rfl ?_
  have loop4 : ∀ (k4 : Int32 → Int32 → Option Int32), (∀  (x1_2 : Int32) (x1_3 : Int32), k4  x1_2 x1_3 = some R → pm_wp mX12_weightOf G B 47 [some (.ref (B + 54)), some (.int za), some (.int x1_2), some (.int x1_3)] [] 0 0 cnt (mst B S σ)) → ∀ (m4 : Nat)  (x1_2 : Int32) (x1_3 : Int32), l_X12_weightOf_4 za S k4 m4  x1_2 x1_3 = some R → pm_wp mX12_weightOf G B 4 [some (.ref (B + 54)), some (.int za), some (.int x1_2), some (.int x1_3)] [] 0 0 cnt (mst B S σ) := by
    intro k4 hk4 m4
    induction m4 with
    | zero => intro  x1_2 x1_3 hE; exact fx_no hE
    | succ m4 ih4 =>
      intro  x1_2 x1_3 hE
      rw [l_X12_weightOf_4] at hE
      refine pm_iloadn hG dX12_weightOf_4 rfl ?_
      refine pm_aloadn hG dX12_weightOf_5 rfl ?_
      refine pm_getf hG dX12_weightOf_6 (flX12_7 _ rfl) rfl rfl ?_
      refine pm_iconst (v := 2) hG dX12_weightOf_9 (by decide) ?_
      refine fx_iald hG dX12_weightOf_10 rfl (ix_lit (by decide) rfl) ?_
      refine pm_icmp_ge (tgt := 47) hG dX12_weightOf_11 rfl (fun c2 => ?_) (fun c2 => ?_)
      · replace c2 := Int32.not_lt.mpr c2
        replace hE := fx_f c2 hE
        exact hk4 _ _ hE
      · replace c2 := Int32.not_le.mp c2
        replace hE := fx_t c2 hE
        refine pm_iloadn hG dX12_weightOf_14 rfl ?_
        refine pm_iloadn hG dX12_weightOf_15 rfl ?_
        refine pm_if_ne (tgt := 29) hG dX12_weightOf_16 rfl (fun c3 => ?_) (fun c3 => ?_)
        · replace hE := fx_f c3 hE
          refine pm_aloadn hG dX12_weightOf_29 rfl ?_
          refine pm_getf hG dX12_weightOf_30 (flX12_37 _ rfl) rfl rfl ?_
          refine pm_iloadn hG dX12_weightOf_33 rfl ?_
          obtain ⟨j4, hj4, hE⟩ := fb_some hE
          refine fx_iald hG dX12_weightOf_34 rfl hj4 ?_
          refine pm_goto (tgt := 39) hG dX12_weightOf_35 rfl ?_
          refine pm_iadd hG dX12_weightOf_39 ?_
          refine fx_letv hE (fun x5 hE => ?_)
          refine pm_istoreXn (loc' := [some (.ref (B + 54)), some (.int za), some (.int x5), some (.int x1_3)]) hG dX12_weightOf_40 (by decide) (pm_c1b rfl) rfl ?_
          refine pm_iincX (v := x1_3 + 1) (loc' := [some (.ref (B + 54)), some (.int za), some (.int x5), some (.int (x1_3 + 1))]) hG dX12_weightOf_41 rfl (by rfl) (by decide) (pm_c1b rfl) rfl ?_
          refine pm_goto (tgt := 4) hG dX12_weightOf_44 rfl ?_
          exact ih4 _ _ hE
        · replace hE := fx_t c3 hE
          refine pm_aloadn hG dX12_weightOf_19 rfl ?_
          refine pm_getf hG dX12_weightOf_20 (flX12_40 _ rfl) rfl rfl ?_
          refine pm_iloadn hG dX12_weightOf_23 rfl ?_
          obtain ⟨j6, hj6, hE⟩ := fb_some hE
          refine fx_iald hG dX12_weightOf_24 rfl hj6 ?_
          refine pm_iconst (v := 1) hG dX12_weightOf_25 (by decide) ?_
          refine pm_icmp_ne (tgt := 38) hG dX12_weightOf_26 rfl (fun c7 => ?_) (fun c7 => ?_)
          · replace hE := fx_f c7 hE
            refine pm_iconst (v := 0) hG dX12_weightOf_38 (by decide) ?_
            refine pm_iadd hG dX12_weightOf_39 ?_
            refine fx_letv hE (fun x8 hE => ?_)
            refine pm_istoreXn (loc' := [some (.ref (B + 54)), some (.int za), some (.int x8), some (.int x1_3)]) hG dX12_weightOf_40 (by decide) (pm_c1b rfl) rfl ?_
            refine pm_iincX (v := x1_3 + 1) (loc' := [some (.ref (B + 54)), some (.int za), some (.int x8), some (.int (x1_3 + 1))]) hG dX12_weightOf_41 rfl (by rfl) (by decide) (pm_c1b rfl) rfl ?_
            refine pm_goto (tgt := 4) hG dX12_weightOf_44 rfl ?_
            exact ih4 _ _ hE
          · replace hE := fx_t c7 hE
            refine pm_aloadn hG dX12_weightOf_29 rfl ?_
            refine pm_getf hG dX12_weightOf_30 (flX12_37 _ rfl) rfl rfl ?_
            refine pm_iloadn hG dX12_weightOf_33 rfl ?_
            refine fx_iald hG dX12_weightOf_34 rfl hj6 ?_
            refine pm_goto (tgt := 39) hG dX12_weightOf_35 rfl ?_
            refine pm_iadd hG dX12_weightOf_39 ?_
            refine fx_letv hE (fun x9 hE => ?_)
            refine pm_istoreXn (loc' := [some (.ref (B + 54)), some (.int za), some (.int x9), some (.int x1_3)]) hG dX12_weightOf_40 (by decide) (pm_c1b rfl) rfl ?_
            refine pm_iincX (v := x1_3 + 1) (loc' := [some (.ref (B + 54)), some (.int za), some (.int x9), some (.int (x1_3 + 1))]) hG dX12_weightOf_41 rfl (by rfl) (by decide) (pm_c1b rfl) rfl ?_
            refine pm_goto (tgt := 4) hG dX12_weightOf_44 rfl ?_
            exact ih4 _ _ hE
  refine loop4 _ (fun  x10_2 x10_3 hE => ?_) _ _ _ hE
  refine pm_iloadn hG dX12_weightOf_47 rfl ?_
  exact pm_iret hG hF dX12_weightOf_48 rfl (Nat.le_refl _) (Nat.le_refl _) (fx_pi (Option.some.inj hE))

set_option maxRecDepth 100000 in
set_option maxHeartbeats 4000000 in
theorem c_X12_buying {d : Nat} {B cnt : Nat} {σ : pm_S} {S : FS} {za : Int32} {zb : Int32} {R : Int32 × FS} (hdd : 6 ≤ d) (h74 : 74 ≤ cnt) (hE : f_X12_buying S za zb = some R) : pm_met mX12_buying d 1 9 B [.ref (B + 54), .int za, .int zb] cnt (mst B S σ) (pm_Qi (fun v σ' cnt' => v = R.1 ∧ (∃ τ : pm_S, σ' = (mst B R.2 τ) ∧ ∀ j : Nat, j < cnt → τ j = σ j) ∧ cnt ≤ cnt')) := by
  refine pm_enter 11 (by decide) (Nat.le_of_ble_eq_true rfl) rfl (fun G hG hR hF => ?_)
  unfold f_X12_buying at hE
  refine pm_iloadn hG dX12_buying_0 rfl ?_
  refine pm_iconst (v := 0) hG dX12_buying_1 (by decide) ?_
  refine pm_iconst (v := 5) hG dX12_buying_2 (by decide) ?_
  refine pm_callS (As := [.int za, .int 0, .int 5]) (rest := []) hG hR dX12_buying_3 (lkX12_68 _ rfl) okS_X12_in (c_X12_in (d := 5) (by decide) rfl) rfl rfl hdd (by decide) (by decide) (by decide) (fx_ki ?_)
  refine pm_if_eq (tgt := 18) hG dX12_buying_6 rfl (fun c1 => ?_) (fun c1 => ?_)
  · replace hE := fx_t c1 hE
    refine pm_aloadn hG dX12_buying_18 rfl ?_
    refine pm_iconst (v := 1) hG dX12_buying_19 (by decide) ?_
    obtain ⟨r3, h2, hE⟩ := fb_some hE
    refine pm_callV (As := [.int 1]) (rest := []) hG hR dX12_buying_20 (lkX12_80 _ rfl) okV_X12_finds rfl rfl (c_X12_finds (d := 5) (by decide) h2) rfl rfl hdd (by decide) (by decide) (by decide) (fx_ki ?_)
    exact pm_iret hG hF dX12_buying_23 rfl (by decide) (by decide) (fx_rix hE (fun j hj => rfl) (by omega))
  · replace hE := fx_f c1 hE
    refine pm_iloadn hG dX12_buying_9 rfl ?_
    refine pm_iconst (v := 0) hG dX12_buying_10 (by decide) ?_
    refine pm_iconst (v := 1) hG dX12_buying_11 (by decide) ?_
    refine pm_callS (As := [.int zb, .int 0, .int 1]) (rest := []) hG hR dX12_buying_12 (lkX12_68 _ rfl) okS_X12_in (c_X12_in (d := 5) (by decide) rfl) rfl rfl hdd (by decide) (by decide) (by decide) (fx_ki ?_)
    refine pm_if_ne (tgt := 24) hG dX12_buying_15 rfl (fun c4 => ?_) (fun c4 => ?_)
    · replace hE := fx_f c4 hE
      refine pm_aloadn hG dX12_buying_24 rfl ?_
      refine pm_iloadn hG dX12_buying_25 rfl ?_
      obtain ⟨r6, h5, hE⟩ := fb_some hE
      refine pm_callV (As := [.int za]) (rest := []) hG hR dX12_buying_26 (lkX12_246 _ rfl) okV_X12_weigh rfl rfl (c_X12_weigh (d := 5) (by decide) h5) rfl rfl hdd (by decide) (by decide) (by decide) (fx_kv ?_)
      refine pm_bipush (v := 9) hG dX12_buying_29 (by decide) ?_
      refine pm_newi (N := 9) hG hR dX12_buying_31 (by decide) (by decide) (by decide) (by decide) (by decide) ?_
      refine pm_nrw (by omega) ?_
      refine fx_letw (F := fun q => (mst B r6.2 (pm_up σ cnt (.inl (9, q))))) hE (fun w7 hE => ?_)
      refine pm_nums (cs' := 1) (zs' := 9) (cnt' := cnt + 1) rfl rfl rfl ?_
      refine pm_astoreXn (loc' := [some (.ref (B + 54)), some (.int za), some (.int zb), some (.ref (B + cnt)), none, none, none, none, none, none, none, none, none, none]) hG dX12_buying_33 (by decide) (pm_c1b rfl) rfl ?_
      refine pm_iconst (v := 0) hG dX12_buying_34 (by decide) ?_
      refine pm_istoreXi (loc' := [some (.ref (B + 54)), some (.int za), some (.int zb), some (.ref (B + cnt)), some (.int 0), none, none, none, none, none, none, none, none, none]) hG dX12_buying_35 (by decide) (pm_c1b rfl) rfl ?_
      refine pm_iconst (v := 0) hG dX12_buying_37 (by decide) ?_
      refine pm_istoreXi (loc' := [some (.ref (B + 54)), some (.int za), some (.int zb), some (.ref (B + cnt)), some (.int 0), some (.int 0), none, none, none, none, none, none, none, none]) hG dX12_buying_38 (by decide) (pm_c1b rfl) rfl ?_
      have loop40 : ∀ (k40 : FS → Int32 → Int32 → (Nat → Int32) → Option (Int32 × FS)), (∀ (S8 : FS) (x8_4 : Int32) (x8_5 : Int32) (w8_0 : (Nat → Int32)), k40 S8  x8_4 x8_5 w8_0 = some R → pm_wp mX12_buying G B 91 [some (.ref (B + 54)), some (.int za), some (.int zb), some (.ref (B + cnt)), some (.int x8_4), some (.int x8_5), none, none, none, none, none, none, none, none] [] 1 9 (cnt + 1) (mst B S8 (pm_up σ cnt (.inl (9, w8_0))))) → ∀ (m40 : Nat) (S8 : FS) (x8_4 : Int32) (x8_5 : Int32) (w8_0 : (Nat → Int32)), l_X12_buying_40 k40 m40 S8  x8_4 x8_5 w8_0 = some R → pm_wp mX12_buying G B 40 [some (.ref (B + 54)), some (.int za), some (.int zb), some (.ref (B + cnt)), some (.int x8_4), some (.int x8_5), none, none, none, none, none, none, none, none] [] 1 9 (cnt + 1) (mst B S8 (pm_up σ cnt (.inl (9, w8_0)))) := by
        intro k40 hk40 m40
        induction m40 with
        | zero => intro S8  x8_4 x8_5 w8_0 hE; exact fx_no hE
        | succ m40 ih40 =>
          intro S8  x8_4 x8_5 w8_0 hE
          rw [l_X12_buying_40] at hE
          refine pm_iloadi hG dX12_buying_40 rfl ?_
          refine pm_aloadn hG dX12_buying_42 rfl ?_
          refine pm_getf hG dX12_buying_43 (flX12_7 _ rfl) rfl rfl ?_
          refine pm_iconst (v := 2) hG dX12_buying_46 (by decide) ?_
          refine fx_iald hG dX12_buying_47 rfl (ix_lit (by decide) rfl) ?_
          refine pm_icmp_ge (tgt := 91) hG dX12_buying_48 rfl (fun c9 => ?_) (fun c9 => ?_)
          · replace c9 := Int32.not_lt.mpr c9
            replace hE := fx_f c9 hE
            exact hk40 _ _ _ _ hE
          · replace c9 := Int32.not_le.mp c9
            replace hE := fx_t c9 hE
            refine pm_aloadn hG dX12_buying_51 rfl ?_
            refine pm_iloadi hG dX12_buying_52 rfl ?_
            refine pm_bipush (v := 11) hG dX12_buying_54 (by decide) ?_
            obtain ⟨x11, h10, hE⟩ := fb_some hE
            refine pm_callV (As := [.int x8_5, .int 11]) (rest := []) hG hR dX12_buying_56 (lkX12_72 _ rfl) okV_X12_man rfl rfl (c_X12_man (d := 5) (by decide) h10) rfl rfl hdd (by decide) (by decide) (by decide) (fx_ki ?_)
            refine pm_if_eq (tgt := 85) hG dX12_buying_59 rfl (fun c12 => ?_) (fun c12 => ?_)
            · replace hE := fx_t c12 hE
              refine pm_iincX (v := x8_5 + 1) (loc' := [some (.ref (B + 54)), some (.int za), some (.int zb), some (.ref (B + cnt)), some (.int x8_4), some (.int (x8_5 + 1)), none, none, none, none, none, none, none, none]) hG dX12_buying_85 rfl (by rfl) (by decide) (pm_c1b rfl) rfl ?_
              refine pm_goto (tgt := 40) hG dX12_buying_88 rfl ?_
              exact ih40 _ _ _ _ hE
            · replace hE := fx_f c12 hE
              refine pm_aloadn hG dX12_buying_62 rfl ?_
              refine pm_getf hG dX12_buying_63 (flX12_40 _ rfl) rfl rfl ?_
              refine pm_iloadi hG dX12_buying_66 rfl ?_
              obtain ⟨j13, hj13, hE⟩ := fb_some hE
              refine fx_iald hG dX12_buying_68 rfl hj13 ?_
              refine pm_iconst (v := 1) hG dX12_buying_69 (by decide) ?_
              refine pm_icmp_ne (tgt := 76) hG dX12_buying_70 rfl (fun c14 => ?_) (fun c14 => ?_)
              · replace hE := fx_f c14 hE
                refine pm_aloadn hG dX12_buying_76 rfl ?_
                refine pm_iloadi hG dX12_buying_77 rfl ?_
                refine pm_iloadi hG dX12_buying_79 rfl ?_
                obtain ⟨j15, hj15, hE⟩ := fb_some hE
                refine fx_iast hG dX12_buying_81 (fxm_a1_0 h74) hj15 ?_
                refine fxm_w1_0 h74 ?_
                refine fx_letw (F := fun q => (mst B S8 (pm_up σ cnt (.inl (9, q))))) hE (fun w16 hE => ?_)
                refine pm_iincX (v := x8_4 + 1) (loc' := [some (.ref (B + 54)), some (.int za), some (.int zb), some (.ref (B + cnt)), some (.int (x8_4 + 1)), some (.int x8_5), none, none, none, none, none, none, none, none]) hG dX12_buying_82 rfl (by rfl) (by decide) (pm_c1b rfl) rfl ?_
                refine pm_iincX (v := x8_5 + 1) (loc' := [some (.ref (B + 54)), some (.int za), some (.int zb), some (.ref (B + cnt)), some (.int (x8_4 + 1)), some (.int (x8_5 + 1)), none, none, none, none, none, none, none, none]) hG dX12_buying_85 rfl (by rfl) (by decide) (pm_c1b rfl) rfl ?_
                refine pm_goto (tgt := 40) hG dX12_buying_88 rfl ?_
                exact ih40 _ _ _ _ hE
              · replace hE := fx_t c14 hE
                refine pm_goto (tgt := 85) hG dX12_buying_73 rfl ?_
                refine pm_iincX (v := x8_5 + 1) (loc' := [some (.ref (B + 54)), some (.int za), some (.int zb), some (.ref (B + cnt)), some (.int x8_4), some (.int (x8_5 + 1)), none, none, none, none, none, none, none, none]) hG dX12_buying_85 rfl (by rfl) (by decide) (pm_c1b rfl) rfl ?_
                refine pm_goto (tgt := 40) hG dX12_buying_88 rfl ?_
                exact ih40 _ _ _ _ hE
      refine loop40 _ (fun S17 x17_4 x17_5 w17_0 hE => ?_) _ _ _ _ _ hE
      refine pm_aloadn hG dX12_buying_91 rfl ?_
      refine pm_iconst (v := 0) hG dX12_buying_92 (by decide) ?_
      obtain ⟨x19, h18, hE⟩ := fb_some hE
      refine pm_callV (As := [.int 0]) (rest := []) hG hR dX12_buying_93 (lkX12_249 _ rfl) okV_X12_weightOf rfl rfl (c_X12_weightOf (d := 5) (by decide) h18) rfl rfl hdd (by decide) (by decide) (by decide) (fx_ki ?_)
      refine pm_istoreXi (loc' := [some (.ref (B + 54)), some (.int za), some (.int zb), some (.ref (B + cnt)), some (.int x17_4), some (.int x19), none, none, none, none, none, none, none, none]) hG dX12_buying_96 (by decide) (pm_c1b rfl) rfl ?_
      refine pm_aloadn hG dX12_buying_98 rfl ?_
      refine pm_iconst (v := 1) hG dX12_buying_99 (by decide) ?_
      obtain ⟨x21, h20, hE⟩ := fb_some hE
      refine pm_callV (As := [.int 1]) (rest := []) hG hR dX12_buying_100 (lkX12_249 _ rfl) okV_X12_weightOf rfl rfl (c_X12_weightOf (d := 5) (by decide) h20) rfl rfl hdd (by decide) (by decide) (by decide) (fx_ki ?_)
      refine pm_istoreXi (loc' := [some (.ref (B + 54)), some (.int za), some (.int zb), some (.ref (B + cnt)), some (.int x17_4), some (.int x19), some (.int x21), none, none, none, none, none, none, none]) hG dX12_buying_103 (by decide) (pm_c1b rfl) rfl ?_
      refine pm_iconst (v := (-1)) hG dX12_buying_105 (by decide) ?_
      refine pm_istoreXi (loc' := [some (.ref (B + 54)), some (.int za), some (.int zb), some (.ref (B + cnt)), some (.int x17_4), some (.int x19), some (.int x21), some (.int (-1)), none, none, none, none, none, none]) hG dX12_buying_106 (by decide) (pm_c1b rfl) rfl ?_
      refine pm_iconst (v := 0) hG dX12_buying_108 (by decide) ?_
      refine pm_istoreXi (loc' := [some (.ref (B + 54)), some (.int za), some (.int zb), some (.ref (B + cnt)), some (.int x17_4), some (.int x19), some (.int x21), some (.int (-1)), some (.int 0), none, none, none, none, none]) hG dX12_buying_109 (by decide) (pm_c1b rfl) rfl ?_
      refine pm_iconst (v := 0) hG dX12_buying_111 (by decide) ?_
      refine pm_istoreXi (loc' := [some (.ref (B + 54)), some (.int za), some (.int zb), some (.ref (B + cnt)), some (.int x17_4), some (.int x19), some (.int x21), some (.int (-1)), some (.int 0), some (.int 0), none, none, none, none]) hG dX12_buying_112 (by decide) (pm_c1b rfl) rfl ?_
      have loop114 : ∀ (k114 : FS → Int32 → Int32 → Int32 → Option (Int32 × FS)), (∀ (S22 : FS) (x22_7 : Int32) (x22_8 : Int32) (x22_9 : Int32), k114 S22  x22_7 x22_8 x22_9 = some R → pm_wp mX12_buying G B 280 [some (.ref (B + 54)), some (.int za), some (.int zb), some (.ref (B + cnt)), some (.int x17_4), some (.int x19), some (.int x21), some (.int x22_7), some (.int x22_8), some (.int x22_9), none, none, none, none] [] 1 9 (cnt + 1) (mst B S22 (pm_up σ cnt (.inl (9, w17_0))))) → ∀ (m114 : Nat) (S22 : FS) (x22_7 : Int32) (x22_8 : Int32) (x22_9 : Int32), l_X12_buying_114 x17_4 w17_0 x19 x21 k114 m114 S22  x22_7 x22_8 x22_9 = some R → pm_wp mX12_buying G B 114 [some (.ref (B + 54)), some (.int za), some (.int zb), some (.ref (B + cnt)), some (.int x17_4), some (.int x19), some (.int x21), some (.int x22_7), some (.int x22_8), some (.int x22_9), none, none, none, none] [] 1 9 (cnt + 1) (mst B S22 (pm_up σ cnt (.inl (9, w17_0)))) := by
        intro k114 hk114 m114
        induction m114 with
        | zero => intro S22  x22_7 x22_8 x22_9 hE; exact fx_no hE
        | succ m114 ih114 =>
          intro S22  x22_7 x22_8 x22_9 hE
          rw [l_X12_buying_114] at hE
          refine pm_iloadi hG dX12_buying_114 rfl ?_
          refine pm_iconst (v := 1) hG dX12_buying_116 (by decide) ?_
          refine pm_iloadi hG dX12_buying_117 rfl ?_
          refine pm_ishl hG dX12_buying_119 ?_
          refine pm_icmp_ge (tgt := 280) hG dX12_buying_120 rfl (fun c23 => ?_) (fun c23 => ?_)
          · replace c23 := Int32.not_lt.mpr c23
            replace hE := fx_f c23 hE
            exact hk114 _ _ _ _ hE
          · replace c23 := Int32.not_le.mp c23
            replace hE := fx_t c23 hE
            refine pm_iloadi hG dX12_buying_123 rfl ?_
            refine pm_istoreXi (loc' := [some (.ref (B + 54)), some (.int za), some (.int zb), some (.ref (B + cnt)), some (.int x17_4), some (.int x19), some (.int x21), some (.int x22_7), some (.int x22_8), some (.int x22_9), some (.int x19), none, none, none]) hG dX12_buying_125 (by decide) (pm_c1b rfl) rfl ?_
            refine pm_iconst (v := 0) hG dX12_buying_127 (by decide) ?_
            refine pm_istoreXi (loc' := [some (.ref (B + 54)), some (.int za), some (.int zb), some (.ref (B + cnt)), some (.int x17_4), some (.int x19), some (.int x21), some (.int x22_7), some (.int x22_8), some (.int x22_9), some (.int x19), some (.int 0), none, none]) hG dX12_buying_128 (by decide) (pm_c1b rfl) rfl ?_
            refine pm_iconst (v := 0) hG dX12_buying_130 (by decide) ?_
            refine pm_istoreXi (loc' := [some (.ref (B + 54)), some (.int za), some (.int zb), some (.ref (B + cnt)), some (.int x17_4), some (.int x19), some (.int x21), some (.int x22_7), some (.int x22_8), some (.int x22_9), some (.int x19), some (.int 0), some (.int 0), none]) hG dX12_buying_131 (by decide) (pm_c1b rfl) rfl ?_
            refine pm_iconst (v := 0) hG dX12_buying_133 (by decide) ?_
            refine pm_istoreXi (loc' := [some (.ref (B + 54)), some (.int za), some (.int zb), some (.ref (B + cnt)), some (.int x17_4), some (.int x19), some (.int x21), some (.int x22_7), some (.int x22_8), some (.int x22_9), some (.int x19), some (.int 0), some (.int 0), some (.int 0)]) hG dX12_buying_134 (by decide) (pm_c1b rfl) rfl ?_
            have loop136 : ∀ (k136 : FS → Int32 → Int32 → Int32 → Int32 → Option (Int32 × FS)), (∀ (S24 : FS) (x24_10 : Int32) (x24_11 : Int32) (x24_12 : Int32) (x24_13 : Int32), k136 S24  x24_10 x24_11 x24_12 x24_13 = some R → pm_wp mX12_buying G B 202 [some (.ref (B + 54)), some (.int za), some (.int zb), some (.ref (B + cnt)), some (.int x17_4), some (.int x19), some (.int x21), some (.int x22_7), some (.int x22_8), some (.int x22_9), some (.int x24_10), some (.int x24_11), some (.int x24_12), some (.int x24_13)] [] 1 9 (cnt + 1) (mst B S24 (pm_up σ cnt (.inl (9, w17_0))))) → ∀ (m136 : Nat) (S24 : FS) (x24_10 : Int32) (x24_11 : Int32) (x24_12 : Int32) (x24_13 : Int32), l_X12_buying_136 x17_4 w17_0 x22_9 k136 m136 S24  x24_10 x24_11 x24_12 x24_13 = some R → pm_wp mX12_buying G B 136 [some (.ref (B + 54)), some (.int za), some (.int zb), some (.ref (B + cnt)), some (.int x17_4), some (.int x19), some (.int x21), some (.int x22_7), some (.int x22_8), some (.int x22_9), some (.int x24_10), some (.int x24_11), some (.int x24_12), some (.int x24_13)] [] 1 9 (cnt + 1) (mst B S24 (pm_up σ cnt (.inl (9, w17_0)))) := by
              intro k136 hk136 m136
              induction m136 with
              | zero => intro S24  x24_10 x24_11 x24_12 x24_13 hE; exact fx_no hE
              | succ m136 ih136 =>
                intro S24  x24_10 x24_11 x24_12 x24_13 hE
                rw [l_X12_buying_136] at hE
                refine pm_iloadi hG dX12_buying_136 rfl ?_
                refine pm_iloadi hG dX12_buying_138 rfl ?_
                refine pm_icmp_ge (tgt := 202) hG dX12_buying_140 rfl (fun c25 => ?_) (fun c25 => ?_)
                · replace c25 := Int32.not_lt.mpr c25
                  replace hE := fx_f c25 hE
                  exact hk136 _ _ _ _ _ hE
                · replace c25 := Int32.not_le.mp c25
                  replace hE := fx_t c25 hE
                  refine pm_iloadi hG dX12_buying_143 rfl ?_
                  refine pm_iloadi hG dX12_buying_145 rfl ?_
                  refine pm_ishr hG dX12_buying_147 ?_
                  refine pm_iconst (v := 1) hG dX12_buying_148 (by decide) ?_
                  refine pm_iand hG dX12_buying_149 ?_
                  refine pm_if_ne (tgt := 156) hG dX12_buying_150 rfl (fun c26 => ?_) (fun c26 => ?_)
                  · replace hE := fx_f c26 hE
                    refine pm_iloadi hG dX12_buying_156 rfl ?_
                    refine pm_aloadn hG dX12_buying_158 rfl ?_
                    refine pm_getf hG dX12_buying_159 (flX12_37 _ rfl) rfl rfl ?_
                    refine pm_aloadn hG dX12_buying_162 rfl ?_
                    refine pm_iloadi hG dX12_buying_163 rfl ?_
                    obtain ⟨j27, hj27, hE⟩ := fb_some hE
                    refine fx_iald hG dX12_buying_165 (fxm_a1_0 h74) hj27 ?_
                    obtain ⟨j28, hj28, hE⟩ := fb_some hE
                    refine fx_iald hG dX12_buying_166 rfl hj28 ?_
                    refine pm_iadd hG dX12_buying_167 ?_
                    refine fx_letv hE (fun x29 hE => ?_)
                    refine pm_istoreXi (loc' := [some (.ref (B + 54)), some (.int za), some (.int zb), some (.ref (B + cnt)), some (.int x17_4), some (.int x19), some (.int x21), some (.int x22_7), some (.int x22_8), some (.int x22_9), some (.int x29), some (.int x24_11), some (.int x24_12), some (.int x24_13)]) hG dX12_buying_168 (by decide) (pm_c1b rfl) rfl ?_
                    refine pm_iloadi hG dX12_buying_170 rfl ?_
                    refine pm_aloadn hG dX12_buying_172 rfl ?_
                    refine pm_aloadn hG dX12_buying_173 rfl ?_
                    refine pm_iloadi hG dX12_buying_174 rfl ?_
                    refine fx_iald hG dX12_buying_176 (fxm_a1_0 h74) hj27 ?_
                    refine pm_bipush (v := 12) hG dX12_buying_177 (by decide) ?_
                    obtain ⟨x31, h30, hE⟩ := fb_some hE
                    refine pm_callV (As := [.int (w17_0 j27), .int 12]) (rest := [.int x24_11]) hG hR dX12_buying_179 (lkX12_72 _ rfl) okV_X12_man rfl rfl (c_X12_man (d := 5) (by decide) h30) rfl rfl hdd (by decide) (by decide) (by first | decide | exact Nat.le_of_ble_eq_true rfl) (fx_ki ?_)
                    refine pm_iadd hG dX12_buying_182 ?_
                    refine fx_letv hE (fun x32 hE => ?_)
                    refine pm_istoreXi (loc' := [some (.ref (B + 54)), some (.int za), some (.int zb), some (.ref (B + cnt)), some (.int x17_4), some (.int x19), some (.int x21), some (.int x22_7), some (.int x22_8), some (.int x22_9), some (.int x29), some (.int x32), some (.int x24_12), some (.int x24_13)]) hG dX12_buying_183 (by decide) (pm_c1b rfl) rfl ?_
                    refine pm_iloadi hG dX12_buying_185 rfl ?_
                    refine pm_iconst (v := 1) hG dX12_buying_187 (by decide) ?_
                    refine pm_aloadn hG dX12_buying_188 rfl ?_
                    refine pm_iloadi hG dX12_buying_189 rfl ?_
                    refine fx_iald hG dX12_buying_191 (fxm_a1_0 h74) hj27 ?_
                    refine pm_ishl hG dX12_buying_192 ?_
                    refine pm_ior hG dX12_buying_193 ?_
                    refine fx_letv hE (fun x33 hE => ?_)
                    refine pm_istoreXi (loc' := [some (.ref (B + 54)), some (.int za), some (.int zb), some (.ref (B + cnt)), some (.int x17_4), some (.int x19), some (.int x21), some (.int x22_7), some (.int x22_8), some (.int x22_9), some (.int x29), some (.int x32), some (.int x33), some (.int x24_13)]) hG dX12_buying_194 (by decide) (pm_c1b rfl) rfl ?_
                    refine pm_iincX (v := x24_13 + 1) (loc' := [some (.ref (B + 54)), some (.int za), some (.int zb), some (.ref (B + cnt)), some (.int x17_4), some (.int x19), some (.int x21), some (.int x22_7), some (.int x22_8), some (.int x22_9), some (.int x29), some (.int x32), some (.int x33), some (.int (x24_13 + 1))]) hG dX12_buying_196 rfl (by rfl) (by decide) (pm_c1b rfl) rfl ?_
                    refine pm_goto (tgt := 136) hG dX12_buying_199 rfl ?_
                    exact ih136 _ _ _ _ _ hE
                  · replace hE := fx_t c26 hE
                    refine pm_goto (tgt := 196) hG dX12_buying_153 rfl ?_
                    refine pm_iincX (v := x24_13 + 1) (loc' := [some (.ref (B + 54)), some (.int za), some (.int zb), some (.ref (B + cnt)), some (.int x17_4), some (.int x19), some (.int x21), some (.int x22_7), some (.int x22_8), some (.int x22_9), some (.int x24_10), some (.int x24_11), some (.int x24_12), some (.int (x24_13 + 1))]) hG dX12_buying_196 rfl (by rfl) (by decide) (pm_c1b rfl) rfl ?_
                    refine pm_goto (tgt := 136) hG dX12_buying_199 rfl ?_
                    exact ih136 _ _ _ _ _ hE
            refine loop136 _ (fun S34 x34_10 x34_11 x34_12 x34_13 hE => ?_) _ _ _ _ _ _ hE
            refine pm_iconst (v := 2) hG dX12_buying_202 (by decide) ?_
            refine pm_iloadi hG dX12_buying_203 rfl ?_
            refine pm_imul hG dX12_buying_205 ?_
            refine pm_iloadi hG dX12_buying_206 rfl ?_
            refine pm_icmp_le (tgt := 274) hG dX12_buying_208 rfl (fun c35 => ?_) (fun c35 => ?_)
            · replace c35 := Int32.not_lt.mpr c35
              replace hE := fx_f c35 hE
              refine pm_iincX (v := x22_9 + 1) (loc' := [some (.ref (B + 54)), some (.int za), some (.int zb), some (.ref (B + cnt)), some (.int x17_4), some (.int x19), some (.int x21), some (.int x22_7), some (.int x22_8), some (.int (x22_9 + 1)), some (.int x34_10), some (.int x34_11), some (.int x34_12), some (.int x34_13)]) hG dX12_buying_274 rfl (by rfl) (by decide) (pm_c1b rfl) rfl ?_
              refine pm_goto (tgt := 114) hG dX12_buying_277 rfl ?_
              refine pm_fg 10 (loc' := [some (.ref (B + 54)), some (.int za), some (.int zb), some (.ref (B + cnt)), some (.int x17_4), some (.int x19), some (.int x21), some (.int x22_7), some (.int x22_8), some (.int (x22_9 + 1)), none, some (.int x34_11), some (.int x34_12), some (.int x34_13)]) rfl ?_
              refine pm_fg 11 (loc' := [some (.ref (B + 54)), some (.int za), some (.int zb), some (.ref (B + cnt)), some (.int x17_4), some (.int x19), some (.int x21), some (.int x22_7), some (.int x22_8), some (.int (x22_9 + 1)), none, none, some (.int x34_12), some (.int x34_13)]) rfl ?_
              refine pm_fg 12 (loc' := [some (.ref (B + 54)), some (.int za), some (.int zb), some (.ref (B + cnt)), some (.int x17_4), some (.int x19), some (.int x21), some (.int x22_7), some (.int x22_8), some (.int (x22_9 + 1)), none, none, none, some (.int x34_13)]) rfl ?_
              refine pm_fg 13 (loc' := [some (.ref (B + 54)), some (.int za), some (.int zb), some (.ref (B + cnt)), some (.int x17_4), some (.int x19), some (.int x21), some (.int x22_7), some (.int x22_8), some (.int (x22_9 + 1)), none, none, none, none]) rfl ?_
              exact ih114 _ _ _ _ hE
            · replace c35 := Int32.not_le.mp c35
              replace hE := fx_t c35 hE
              refine pm_iloadi hG dX12_buying_211 rfl ?_
              refine pm_if_lt (tgt := 266) hG dX12_buying_213 rfl (fun c36 => ?_) (fun c36 => ?_)
              · replace hE := fx_t c36 hE
                refine pm_iloadi hG dX12_buying_266 rfl ?_
                refine pm_istoreXi (loc' := [some (.ref (B + 54)), some (.int za), some (.int zb), some (.ref (B + cnt)), some (.int x17_4), some (.int x19), some (.int x21), some (.int x34_12), some (.int x22_8), some (.int x22_9), some (.int x34_10), some (.int x34_11), some (.int x34_12), some (.int x34_13)]) hG dX12_buying_268 (by decide) (pm_c1b rfl) rfl ?_
                refine pm_iloadi hG dX12_buying_270 rfl ?_
                refine pm_istoreXi (loc' := [some (.ref (B + 54)), some (.int za), some (.int zb), some (.ref (B + cnt)), some (.int x17_4), some (.int x19), some (.int x21), some (.int x34_12), some (.int x34_11), some (.int x22_9), some (.int x34_10), some (.int x34_11), some (.int x34_12), some (.int x34_13)]) hG dX12_buying_272 (by decide) (pm_c1b rfl) rfl ?_
                refine pm_iincX (v := x22_9 + 1) (loc' := [some (.ref (B + 54)), some (.int za), some (.int zb), some (.ref (B + cnt)), some (.int x17_4), some (.int x19), some (.int x21), some (.int x34_12), some (.int x34_11), some (.int (x22_9 + 1)), some (.int x34_10), some (.int x34_11), some (.int x34_12), some (.int x34_13)]) hG dX12_buying_274 rfl (by rfl) (by decide) (pm_c1b rfl) rfl ?_
                refine pm_goto (tgt := 114) hG dX12_buying_277 rfl ?_
                refine pm_fg 10 (loc' := [some (.ref (B + 54)), some (.int za), some (.int zb), some (.ref (B + cnt)), some (.int x17_4), some (.int x19), some (.int x21), some (.int x34_12), some (.int x34_11), some (.int (x22_9 + 1)), none, some (.int x34_11), some (.int x34_12), some (.int x34_13)]) rfl ?_
                refine pm_fg 11 (loc' := [some (.ref (B + 54)), some (.int za), some (.int zb), some (.ref (B + cnt)), some (.int x17_4), some (.int x19), some (.int x21), some (.int x34_12), some (.int x34_11), some (.int (x22_9 + 1)), none, none, some (.int x34_12), some (.int x34_13)]) rfl ?_
                refine pm_fg 12 (loc' := [some (.ref (B + 54)), some (.int za), some (.int zb), some (.ref (B + cnt)), some (.int x17_4), some (.int x19), some (.int x21), some (.int x34_12), some (.int x34_11), some (.int (x22_9 + 1)), none, none, none, some (.int x34_13)]) rfl ?_
                refine pm_fg 13 (loc' := [some (.ref (B + 54)), some (.int za), some (.int zb), some (.ref (B + cnt)), some (.int x17_4), some (.int x19), some (.int x21), some (.int x34_12), some (.int x34_11), some (.int (x22_9 + 1)), none, none, none, none]) rfl ?_
                exact ih114 _ _ _ _ hE
              · replace hE := fx_f c36 hE
                refine pm_iloadi hG dX12_buying_216 rfl ?_
                refine pm_iloadi hG dX12_buying_218 rfl ?_
                refine pm_icmp_gt (tgt := 274) hG dX12_buying_220 rfl (fun c37 => ?_) (fun c37 => ?_)
                · replace hE := fx_t c37 hE
                  refine pm_iincX (v := x22_9 + 1) (loc' := [some (.ref (B + 54)), some (.int za), some (.int zb), some (.ref (B + cnt)), some (.int x17_4), some (.int x19), some (.int x21), some (.int x22_7), some (.int x22_8), some (.int (x22_9 + 1)), some (.int x34_10), some (.int x34_11), some (.int x34_12), some (.int x34_13)]) hG dX12_buying_274 rfl (by rfl) (by decide) (pm_c1b rfl) rfl ?_
                  refine pm_goto (tgt := 114) hG dX12_buying_277 rfl ?_
                  refine pm_fg 10 (loc' := [some (.ref (B + 54)), some (.int za), some (.int zb), some (.ref (B + cnt)), some (.int x17_4), some (.int x19), some (.int x21), some (.int x22_7), some (.int x22_8), some (.int (x22_9 + 1)), none, some (.int x34_11), some (.int x34_12), some (.int x34_13)]) rfl ?_
                  refine pm_fg 11 (loc' := [some (.ref (B + 54)), some (.int za), some (.int zb), some (.ref (B + cnt)), some (.int x17_4), some (.int x19), some (.int x21), some (.int x22_7), some (.int x22_8), some (.int (x22_9 + 1)), none, none, some (.int x34_12), some (.int x34_13)]) rfl ?_
                  refine pm_fg 12 (loc' := [some (.ref (B + 54)), some (.int za), some (.int zb), some (.ref (B + cnt)), some (.int x17_4), some (.int x19), some (.int x21), some (.int x22_7), some (.int x22_8), some (.int (x22_9 + 1)), none, none, none, some (.int x34_13)]) rfl ?_
                  refine pm_fg 13 (loc' := [some (.ref (B + 54)), some (.int za), some (.int zb), some (.ref (B + cnt)), some (.int x17_4), some (.int x19), some (.int x21), some (.int x22_7), some (.int x22_8), some (.int (x22_9 + 1)), none, none, none, none]) rfl ?_
                  exact ih114 _ _ _ _ hE
                · replace hE := fx_f c37 hE
                  refine pm_iloadi hG dX12_buying_223 rfl ?_
                  refine pm_iloadi hG dX12_buying_225 rfl ?_
                  refine pm_icmp_ne (tgt := 266) hG dX12_buying_227 rfl (fun c38 => ?_) (fun c38 => ?_)
                  · replace hE := fx_f c38 hE
                    refine pm_iloadi hG dX12_buying_266 rfl ?_
                    refine pm_istoreXi (loc' := [some (.ref (B + 54)), some (.int za), some (.int zb), some (.ref (B + cnt)), some (.int x17_4), some (.int x19), some (.int x21), some (.int x34_12), some (.int x22_8), some (.int x22_9), some (.int x34_10), some (.int x34_11), some (.int x34_12), some (.int x34_13)]) hG dX12_buying_268 (by decide) (pm_c1b rfl) rfl ?_
                    refine pm_iloadi hG dX12_buying_270 rfl ?_
                    refine pm_istoreXi (loc' := [some (.ref (B + 54)), some (.int za), some (.int zb), some (.ref (B + cnt)), some (.int x17_4), some (.int x19), some (.int x21), some (.int x34_12), some (.int x34_11), some (.int x22_9), some (.int x34_10), some (.int x34_11), some (.int x34_12), some (.int x34_13)]) hG dX12_buying_272 (by decide) (pm_c1b rfl) rfl ?_
                    refine pm_iincX (v := x22_9 + 1) (loc' := [some (.ref (B + 54)), some (.int za), some (.int zb), some (.ref (B + cnt)), some (.int x17_4), some (.int x19), some (.int x21), some (.int x34_12), some (.int x34_11), some (.int (x22_9 + 1)), some (.int x34_10), some (.int x34_11), some (.int x34_12), some (.int x34_13)]) hG dX12_buying_274 rfl (by rfl) (by decide) (pm_c1b rfl) rfl ?_
                    refine pm_goto (tgt := 114) hG dX12_buying_277 rfl ?_
                    refine pm_fg 10 (loc' := [some (.ref (B + 54)), some (.int za), some (.int zb), some (.ref (B + cnt)), some (.int x17_4), some (.int x19), some (.int x21), some (.int x34_12), some (.int x34_11), some (.int (x22_9 + 1)), none, some (.int x34_11), some (.int x34_12), some (.int x34_13)]) rfl ?_
                    refine pm_fg 11 (loc' := [some (.ref (B + 54)), some (.int za), some (.int zb), some (.ref (B + cnt)), some (.int x17_4), some (.int x19), some (.int x21), some (.int x34_12), some (.int x34_11), some (.int (x22_9 + 1)), none, none, some (.int x34_12), some (.int x34_13)]) rfl ?_
                    refine pm_fg 12 (loc' := [some (.ref (B + 54)), some (.int za), some (.int zb), some (.ref (B + cnt)), some (.int x17_4), some (.int x19), some (.int x21), some (.int x34_12), some (.int x34_11), some (.int (x22_9 + 1)), none, none, none, some (.int x34_13)]) rfl ?_
                    refine pm_fg 13 (loc' := [some (.ref (B + 54)), some (.int za), some (.int zb), some (.ref (B + cnt)), some (.int x17_4), some (.int x19), some (.int x21), some (.int x34_12), some (.int x34_11), some (.int (x22_9 + 1)), none, none, none, none]) rfl ?_
                    exact ih114 _ _ _ _ hE
                  · replace hE := fx_t c38 hE
                    refine pm_iloadi hG dX12_buying_230 rfl ?_
                    obtain ⟨x40, h39, hE⟩ := fb_some hE
                    refine pm_callS (As := [.int x34_12]) (rest := []) hG hR dX12_buying_232 (lkX12_202 _ rfl) okS_X12_bits (c_X12_bits (d := 5) (by decide) h39) rfl rfl hdd (by decide) (by decide) (by decide) (fx_ki ?_)
                    refine pm_iloadi hG dX12_buying_235 rfl ?_
                    obtain ⟨x42, h41, hE⟩ := fb_some hE
                    refine pm_callS (As := [.int x22_7]) (rest := [.int x40]) hG hR dX12_buying_237 (lkX12_202 _ rfl) okS_X12_bits (c_X12_bits (d := 5) (by decide) h41) rfl rfl hdd (by decide) (by decide) (by first | decide | exact Nat.le_of_ble_eq_true rfl) (fx_ki ?_)
                    refine pm_icmp_gt (tgt := 274) hG dX12_buying_240 rfl (fun c43 => ?_) (fun c43 => ?_)
                    · replace hE := fx_t c43 hE
                      refine pm_iincX (v := x22_9 + 1) (loc' := [some (.ref (B + 54)), some (.int za), some (.int zb), some (.ref (B + cnt)), some (.int x17_4), some (.int x19), some (.int x21), some (.int x22_7), some (.int x22_8), some (.int (x22_9 + 1)), some (.int x34_10), some (.int x34_11), some (.int x34_12), some (.int x34_13)]) hG dX12_buying_274 rfl (by rfl) (by decide) (pm_c1b rfl) rfl ?_
                      refine pm_goto (tgt := 114) hG dX12_buying_277 rfl ?_
                      refine pm_fg 10 (loc' := [some (.ref (B + 54)), some (.int za), some (.int zb), some (.ref (B + cnt)), some (.int x17_4), some (.int x19), some (.int x21), some (.int x22_7), some (.int x22_8), some (.int (x22_9 + 1)), none, some (.int x34_11), some (.int x34_12), some (.int x34_13)]) rfl ?_
                      refine pm_fg 11 (loc' := [some (.ref (B + 54)), some (.int za), some (.int zb), some (.ref (B + cnt)), some (.int x17_4), some (.int x19), some (.int x21), some (.int x22_7), some (.int x22_8), some (.int (x22_9 + 1)), none, none, some (.int x34_12), some (.int x34_13)]) rfl ?_
                      refine pm_fg 12 (loc' := [some (.ref (B + 54)), some (.int za), some (.int zb), some (.ref (B + cnt)), some (.int x17_4), some (.int x19), some (.int x21), some (.int x22_7), some (.int x22_8), some (.int (x22_9 + 1)), none, none, none, some (.int x34_13)]) rfl ?_
                      refine pm_fg 13 (loc' := [some (.ref (B + 54)), some (.int za), some (.int zb), some (.ref (B + cnt)), some (.int x17_4), some (.int x19), some (.int x21), some (.int x22_7), some (.int x22_8), some (.int (x22_9 + 1)), none, none, none, none]) rfl ?_
                      exact ih114 _ _ _ _ hE
                    · replace hE := fx_f c43 hE
                      refine pm_iloadi hG dX12_buying_243 rfl ?_
                      obtain ⟨x45, h44, hE⟩ := fb_some hE
                      refine pm_callS (As := [.int x34_12]) (rest := []) hG hR dX12_buying_245 (lkX12_202 _ rfl) okS_X12_bits (c_X12_bits (d := 5) (by decide) h44) rfl rfl hdd (by decide) (by decide) (by decide) (fx_ki ?_)
                      refine pm_iloadi hG dX12_buying_248 rfl ?_
                      obtain ⟨x47, h46, hE⟩ := fb_some hE
                      refine pm_callS (As := [.int x22_7]) (rest := [.int x45]) hG hR dX12_buying_250 (lkX12_202 _ rfl) okS_X12_bits (c_X12_bits (d := 5) (by decide) h46) rfl rfl hdd (by decide) (by decide) (by first | decide | exact Nat.le_of_ble_eq_true rfl) (fx_ki ?_)
                      refine pm_icmp_ne (tgt := 266) hG dX12_buying_253 rfl (fun c48 => ?_) (fun c48 => ?_)
                      · replace hE := fx_f c48 hE
                        refine pm_iloadi hG dX12_buying_266 rfl ?_
                        refine pm_istoreXi (loc' := [some (.ref (B + 54)), some (.int za), some (.int zb), some (.ref (B + cnt)), some (.int x17_4), some (.int x19), some (.int x21), some (.int x34_12), some (.int x22_8), some (.int x22_9), some (.int x34_10), some (.int x34_11), some (.int x34_12), some (.int x34_13)]) hG dX12_buying_268 (by decide) (pm_c1b rfl) rfl ?_
                        refine pm_iloadi hG dX12_buying_270 rfl ?_
                        refine pm_istoreXi (loc' := [some (.ref (B + 54)), some (.int za), some (.int zb), some (.ref (B + cnt)), some (.int x17_4), some (.int x19), some (.int x21), some (.int x34_12), some (.int x34_11), some (.int x22_9), some (.int x34_10), some (.int x34_11), some (.int x34_12), some (.int x34_13)]) hG dX12_buying_272 (by decide) (pm_c1b rfl) rfl ?_
                        refine pm_iincX (v := x22_9 + 1) (loc' := [some (.ref (B + 54)), some (.int za), some (.int zb), some (.ref (B + cnt)), some (.int x17_4), some (.int x19), some (.int x21), some (.int x34_12), some (.int x34_11), some (.int (x22_9 + 1)), some (.int x34_10), some (.int x34_11), some (.int x34_12), some (.int x34_13)]) hG dX12_buying_274 rfl (by rfl) (by decide) (pm_c1b rfl) rfl ?_
                        refine pm_goto (tgt := 114) hG dX12_buying_277 rfl ?_
                        refine pm_fg 10 (loc' := [some (.ref (B + 54)), some (.int za), some (.int zb), some (.ref (B + cnt)), some (.int x17_4), some (.int x19), some (.int x21), some (.int x34_12), some (.int x34_11), some (.int (x22_9 + 1)), none, some (.int x34_11), some (.int x34_12), some (.int x34_13)]) rfl ?_
                        refine pm_fg 11 (loc' := [some (.ref (B + 54)), some (.int za), some (.int zb), some (.ref (B + cnt)), some (.int x17_4), some (.int x19), some (.int x21), some (.int x34_12), some (.int x34_11), some (.int (x22_9 + 1)), none, none, some (.int x34_12), some (.int x34_13)]) rfl ?_
                        refine pm_fg 12 (loc' := [some (.ref (B + 54)), some (.int za), some (.int zb), some (.ref (B + cnt)), some (.int x17_4), some (.int x19), some (.int x21), some (.int x34_12), some (.int x34_11), some (.int (x22_9 + 1)), none, none, none, some (.int x34_13)]) rfl ?_
                        refine pm_fg 13 (loc' := [some (.ref (B + 54)), some (.int za), some (.int zb), some (.ref (B + cnt)), some (.int x17_4), some (.int x19), some (.int x21), some (.int x34_12), some (.int x34_11), some (.int (x22_9 + 1)), none, none, none, none]) rfl ?_
                        exact ih114 _ _ _ _ hE
                      · replace hE := fx_t c48 hE
                        refine pm_iloadi hG dX12_buying_256 rfl ?_
                        refine pm_iloadi hG dX12_buying_258 rfl ?_
                        refine pm_icmp_lt (tgt := 266) hG dX12_buying_260 rfl (fun c49 => ?_) (fun c49 => ?_)
                        · replace hE := fx_t c49 hE
                          refine pm_iloadi hG dX12_buying_266 rfl ?_
                          refine pm_istoreXi (loc' := [some (.ref (B + 54)), some (.int za), some (.int zb), some (.ref (B + cnt)), some (.int x17_4), some (.int x19), some (.int x21), some (.int x34_12), some (.int x22_8), some (.int x22_9), some (.int x34_10), some (.int x34_11), some (.int x34_12), some (.int x34_13)]) hG dX12_buying_268 (by decide) (pm_c1b rfl) rfl ?_
                          refine pm_iloadi hG dX12_buying_270 rfl ?_
                          refine pm_istoreXi (loc' := [some (.ref (B + 54)), some (.int za), some (.int zb), some (.ref (B + cnt)), some (.int x17_4), some (.int x19), some (.int x21), some (.int x34_12), some (.int x34_11), some (.int x22_9), some (.int x34_10), some (.int x34_11), some (.int x34_12), some (.int x34_13)]) hG dX12_buying_272 (by decide) (pm_c1b rfl) rfl ?_
                          refine pm_iincX (v := x22_9 + 1) (loc' := [some (.ref (B + 54)), some (.int za), some (.int zb), some (.ref (B + cnt)), some (.int x17_4), some (.int x19), some (.int x21), some (.int x34_12), some (.int x34_11), some (.int (x22_9 + 1)), some (.int x34_10), some (.int x34_11), some (.int x34_12), some (.int x34_13)]) hG dX12_buying_274 rfl (by rfl) (by decide) (pm_c1b rfl) rfl ?_
                          refine pm_goto (tgt := 114) hG dX12_buying_277 rfl ?_
                          refine pm_fg 10 (loc' := [some (.ref (B + 54)), some (.int za), some (.int zb), some (.ref (B + cnt)), some (.int x17_4), some (.int x19), some (.int x21), some (.int x34_12), some (.int x34_11), some (.int (x22_9 + 1)), none, some (.int x34_11), some (.int x34_12), some (.int x34_13)]) rfl ?_
                          refine pm_fg 11 (loc' := [some (.ref (B + 54)), some (.int za), some (.int zb), some (.ref (B + cnt)), some (.int x17_4), some (.int x19), some (.int x21), some (.int x34_12), some (.int x34_11), some (.int (x22_9 + 1)), none, none, some (.int x34_12), some (.int x34_13)]) rfl ?_
                          refine pm_fg 12 (loc' := [some (.ref (B + 54)), some (.int za), some (.int zb), some (.ref (B + cnt)), some (.int x17_4), some (.int x19), some (.int x21), some (.int x34_12), some (.int x34_11), some (.int (x22_9 + 1)), none, none, none, some (.int x34_13)]) rfl ?_
                          refine pm_fg 13 (loc' := [some (.ref (B + 54)), some (.int za), some (.int zb), some (.ref (B + cnt)), some (.int x17_4), some (.int x19), some (.int x21), some (.int x34_12), some (.int x34_11), some (.int (x22_9 + 1)), none, none, none, none]) rfl ?_
                          exact ih114 _ _ _ _ hE
                        · replace hE := fx_f c49 hE
                          refine pm_goto (tgt := 274) hG dX12_buying_263 rfl ?_
                          refine pm_iincX (v := x22_9 + 1) (loc' := [some (.ref (B + 54)), some (.int za), some (.int zb), some (.ref (B + cnt)), some (.int x17_4), some (.int x19), some (.int x21), some (.int x22_7), some (.int x22_8), some (.int (x22_9 + 1)), some (.int x34_10), some (.int x34_11), some (.int x34_12), some (.int x34_13)]) hG dX12_buying_274 rfl (by rfl) (by decide) (pm_c1b rfl) rfl ?_
                          refine pm_goto (tgt := 114) hG dX12_buying_277 rfl ?_
                          refine pm_fg 10 (loc' := [some (.ref (B + 54)), some (.int za), some (.int zb), some (.ref (B + cnt)), some (.int x17_4), some (.int x19), some (.int x21), some (.int x22_7), some (.int x22_8), some (.int (x22_9 + 1)), none, some (.int x34_11), some (.int x34_12), some (.int x34_13)]) rfl ?_
                          refine pm_fg 11 (loc' := [some (.ref (B + 54)), some (.int za), some (.int zb), some (.ref (B + cnt)), some (.int x17_4), some (.int x19), some (.int x21), some (.int x22_7), some (.int x22_8), some (.int (x22_9 + 1)), none, none, some (.int x34_12), some (.int x34_13)]) rfl ?_
                          refine pm_fg 12 (loc' := [some (.ref (B + 54)), some (.int za), some (.int zb), some (.ref (B + cnt)), some (.int x17_4), some (.int x19), some (.int x21), some (.int x22_7), some (.int x22_8), some (.int (x22_9 + 1)), none, none, none, some (.int x34_13)]) rfl ?_
                          refine pm_fg 13 (loc' := [some (.ref (B + 54)), some (.int za), some (.int zb), some (.ref (B + cnt)), some (.int x17_4), some (.int x19), some (.int x21), some (.int x22_7), some (.int x22_8), some (.int (x22_9 + 1)), none, none, none, none]) rfl ?_
                          exact ih114 _ _ _ _ hE
      refine loop114 _ (fun S50 x50_7 x50_8 x50_9 hE => ?_) _ _ _ _ _ hE
      refine pm_iloadi hG dX12_buying_280 rfl ?_
      refine pm_if_ge (tgt := 293) hG dX12_buying_282 rfl (fun c51 => ?_) (fun c51 => ?_)
      · replace c51 := Int32.not_lt.mpr c51
        replace hE := fx_f c51 hE
        refine pm_iloadn hG dX12_buying_293 rfl ?_
        refine pm_if_ne (tgt := 302) hG dX12_buying_294 rfl (fun c52 => ?_) (fun c52 => ?_)
        · replace hE := fx_f c52 hE
          refine pm_iloadi hG dX12_buying_302 rfl ?_
          exact pm_iret hG hF dX12_buying_304 rfl (by decide) (by decide) (fx_rix hE (fun j hj => pm_up_ne _ _ (by omega)) (by omega))
        · replace hE := fx_t c52 hE
          refine pm_iloadi hG dX12_buying_297 rfl ?_
          refine pm_goto (tgt := 304) hG dX12_buying_299 rfl ?_
          exact pm_iret hG hF dX12_buying_304 rfl (by decide) (by decide) (fx_rix hE (fun j hj => pm_up_ne _ _ (by omega)) (by omega))
      · replace c51 := Int32.not_le.mp c51
        replace hE := fx_t c51 hE
        refine pm_aloadn hG dX12_buying_285 rfl ?_
        refine pm_iconst (v := 2) hG dX12_buying_286 (by decide) ?_
        obtain ⟨r54, h53, hE⟩ := fb_some hE
        refine pm_callV (As := [.int 2]) (rest := []) hG hR dX12_buying_287 (lkX12_80 _ rfl) okV_X12_finds rfl rfl (c_X12_finds (d := 5) (by decide) h53) rfl rfl hdd (by decide) (by decide) (by decide) (fx_ki ?_)
        refine pm_goto (tgt := 304) hG dX12_buying_290 rfl ?_
        exact pm_iret hG hF dX12_buying_304 rfl (by decide) (by decide) (fx_rix hE (fun j hj => pm_up_ne _ _ (by omega)) (by omega))
    · replace hE := fx_t c4 hE
      refine pm_aloadn hG dX12_buying_18 rfl ?_
      refine pm_iconst (v := 1) hG dX12_buying_19 (by decide) ?_
      obtain ⟨r56, h55, hE⟩ := fb_some hE
      refine pm_callV (As := [.int 1]) (rest := []) hG hR dX12_buying_20 (lkX12_80 _ rfl) okV_X12_finds rfl rfl (c_X12_finds (d := 5) (by decide) h55) rfl rfl hdd (by decide) (by decide) (by decide) (fx_ki ?_)
      exact pm_iret hG hF dX12_buying_23 rfl (by decide) (by decide) (fx_rix hE (fun j hj => rfl) (by omega))

set_option maxRecDepth 100000 in
set_option maxHeartbeats 4000000 in
theorem c_X12_byteAt {d : Nat} {B cnt : Nat} {σ : pm_S} {S : FS} {za : Int32} {R : Int32} (hdd : 1 ≤ d) (hE : q_X12_byteAt S za = some R) : pm_met mX12_byteAt d 0 0 B [.ref (B + 54), .int za] cnt (mst B S σ) (pm_Qi (fun v σ' cnt' => v = R ∧ σ' = (mst B S σ) ∧ cnt' = cnt)) := by
  refine pm_enter 0 (by decide) (Nat.le_of_ble_eq_true rfl) rfl (fun G hG hR hF => ?_)
  unfold q_X12_byteAt at hE
  refine pm_iloadn hG dX12_byteAt_0 rfl ?_
  refine pm_aloadn hG dX12_byteAt_1 rfl ?_
  refine pm_getf hG dX12_byteAt_2 (flX12_7 _ rfl) rfl rfl ?_
  refine pm_bipush (v := 10) hG dX12_byteAt_5 (by decide) ?_
  refine fx_iald hG dX12_byteAt_7 rfl (ix_lit (by decide) rfl) ?_
  refine pm_icmp_ge (tgt := 24) hG dX12_byteAt_8 rfl (fun c1 => ?_) (fun c1 => ?_)
  · replace c1 := Int32.not_lt.mpr c1
    replace hE := fx_f c1 hE
    refine pm_iconst (v := (-1)) hG dX12_byteAt_24 (by decide) ?_
    exact pm_iret hG hF dX12_byteAt_25 rfl (Nat.le_refl _) (Nat.le_refl _) (fx_pi (Option.some.inj hE))
  · replace c1 := Int32.not_le.mp c1
    replace hE := fx_t c1 hE
    refine pm_aloadn hG dX12_byteAt_11 rfl ?_
    refine pm_getf hG dX12_byteAt_12 (flX12_7 _ rfl) rfl rfl ?_
    refine pm_sipush (v := 1991) hG dX12_byteAt_15 (by decide) ?_
    refine pm_iloadn hG dX12_byteAt_18 rfl ?_
    refine pm_iadd hG dX12_byteAt_19 ?_
    obtain ⟨j2, hj2, hE⟩ := fb_some hE
    refine fx_iald hG dX12_byteAt_20 rfl hj2 ?_
    refine pm_goto (tgt := 25) hG dX12_byteAt_21 rfl ?_
    exact pm_iret hG hF dX12_byteAt_25 rfl (Nat.le_refl _) (Nat.le_refl _) (fx_pi (Option.some.inj hE))

set_option maxRecDepth 100000 in
set_option maxHeartbeats 4000000 in
theorem c_X12_isTaken {d : Nat} {B cnt : Nat} {σ : pm_S} {S : FS} {za : Int32} {zb : Int32} {R : Int32} (hdd : 2 ≤ d) (hE : p_X12_isTaken S za zb = R) : pm_met mX12_isTaken d 0 0 B [.int za, .int zb] cnt (mst B S σ) (pm_Qi (fun v σ' cnt' => v = R ∧ σ' = (mst B S σ) ∧ cnt' = cnt)) := by
  refine pm_enter 0 (by decide) (Nat.le_of_ble_eq_true rfl) rfl (fun G hG hR hF => ?_)
  unfold p_X12_isTaken at hE
  refine pm_iloadn hG dX12_isTaken_0 rfl ?_
  refine pm_iconst (v := 0) hG dX12_isTaken_1 (by decide) ?_
  refine pm_iconst (v := 4) hG dX12_isTaken_2 (by decide) ?_
  refine pm_callS (As := [.int zb, .int 0, .int 4]) (rest := []) hG hR dX12_isTaken_3 (lkX12_68 _ rfl) okS_X12_in (c_X12_in (d := 1) (by decide) rfl) rfl rfl hdd (Nat.le_refl _) (Nat.le_refl _) (by decide) (fx_ki ?_)
  refine pm_if_eq (tgt := 22) hG dX12_isTaken_6 rfl (fun c1 => ?_) (fun c1 => ?_)
  · replace hE := fx_t c1 hE
    refine pm_iconst (v := 0) hG dX12_isTaken_22 (by decide) ?_
    exact pm_zret hG hF dX12_isTaken_23 rfl (by rfl) (Nat.le_refl _) (Nat.le_refl _) (fx_pi hE)
  · replace hE := fx_f c1 hE
    refine pm_iloadn hG dX12_isTaken_9 rfl ?_
    refine pm_iloadn hG dX12_isTaken_10 rfl ?_
    refine pm_ishr hG dX12_isTaken_11 ?_
    refine pm_iconst (v := 1) hG dX12_isTaken_12 (by decide) ?_
    refine pm_iand hG dX12_isTaken_13 ?_
    refine pm_iconst (v := 1) hG dX12_isTaken_14 (by decide) ?_
    refine pm_icmp_ne (tgt := 22) hG dX12_isTaken_15 rfl (fun c2 => ?_) (fun c2 => ?_)
    · replace hE := fx_f c2 hE
      refine pm_iconst (v := 0) hG dX12_isTaken_22 (by decide) ?_
      exact pm_zret hG hF dX12_isTaken_23 rfl (by rfl) (Nat.le_refl _) (Nat.le_refl _) (fx_pi hE)
    · replace hE := fx_t c2 hE
      refine pm_iconst (v := 1) hG dX12_isTaken_18 (by decide) ?_
      refine pm_goto (tgt := 23) hG dX12_isTaken_19 rfl ?_
      exact pm_zret hG hF dX12_isTaken_23 rfl (by rfl) (Nat.le_refl _) (Nat.le_refl _) (fx_pi hE)

set_option maxRecDepth 100000 in
set_option maxHeartbeats 4000000 in
theorem c_X12_canTake {d : Nat} {B cnt : Nat} {σ : pm_S} {S : FS} {za : Int32} {zb : Int32} {zc : Int32} {R : Int32} (hdd : 3 ≤ d) (hE : q_X12_canTake S za zb zc = some R) : pm_met mX12_canTake d 0 0 B [.ref (B + 54), .int za, .int zb, .int zc] cnt (mst B S σ) (pm_Qi (fun v σ' cnt' => v = R ∧ σ' = (mst B S σ) ∧ cnt' = cnt)) := by
  refine pm_enter 0 (by decide) (Nat.le_of_ble_eq_true rfl) rfl (fun G hG hR hF => ?_)
  unfold q_X12_canTake at hE
  refine pm_iloadn hG dX12_canTake_0 rfl ?_
  refine pm_iloadn hG dX12_canTake_1 rfl ?_
  refine pm_callS (As := [.int za, .int zc]) (rest := []) hG hR dX12_canTake_2 (lkX12_253 _ rfl) okS_X12_isTaken (c_X12_isTaken (d := 2) (by decide) rfl) rfl rfl hdd (Nat.le_refl _) (Nat.le_refl _) (by decide) (fx_ki ?_)
  refine pm_if_ne (tgt := 46) hG dX12_canTake_5 rfl (fun c1 => ?_) (fun c1 => ?_)
  · replace hE := fx_f c1 hE
    refine pm_iconst (v := 0) hG dX12_canTake_46 (by decide) ?_
    exact pm_zret hG hF dX12_canTake_47 rfl (by rfl) (Nat.le_refl _) (Nat.le_refl _) (fx_pi (Option.some.inj hE))
  · replace hE := fx_t c1 hE
    refine pm_iloadn hG dX12_canTake_8 rfl ?_
    refine pm_if_eq (tgt := 32) hG dX12_canTake_9 rfl (fun c2 => ?_) (fun c2 => ?_)
    · replace hE := fx_t c2 hE
      refine pm_iloadn hG dX12_canTake_32 rfl ?_
      refine pm_aloadn hG dX12_canTake_33 rfl ?_
      refine pm_getf hG dX12_canTake_34 (flX12_43 _ rfl) rfl rfl ?_
      refine pm_iloadn hG dX12_canTake_37 rfl ?_
      obtain ⟨j3, hj3, hE⟩ := fb_some hE
      refine fx_iald hG dX12_canTake_38 rfl hj3 ?_
      refine pm_icmp_le (tgt := 46) hG dX12_canTake_39 rfl (fun c4 => ?_) (fun c4 => ?_)
      · replace c4 := Int32.not_lt.mpr c4
        replace hE := fx_f c4 hE
        refine pm_iconst (v := 0) hG dX12_canTake_46 (by decide) ?_
        exact pm_zret hG hF dX12_canTake_47 rfl (by rfl) (Nat.le_refl _) (Nat.le_refl _) (fx_pi (Option.some.inj hE))
      · replace c4 := Int32.not_le.mp c4
        replace hE := fx_t c4 hE
        refine pm_iconst (v := 1) hG dX12_canTake_42 (by decide) ?_
        refine pm_goto (tgt := 47) hG dX12_canTake_43 rfl ?_
        exact pm_zret hG hF dX12_canTake_47 rfl (by rfl) (Nat.le_refl _) (Nat.le_refl _) (fx_pi (Option.some.inj hE))
    · replace hE := fx_f c2 hE
      refine pm_iloadn hG dX12_canTake_12 rfl ?_
      refine pm_iloadn hG dX12_canTake_13 rfl ?_
      refine pm_iconst (v := 1) hG dX12_canTake_14 (by decide) ?_
      refine pm_isub hG dX12_canTake_15 ?_
      refine pm_callS (As := [.int za, .int (zc - 1)]) (rest := []) hG hR dX12_canTake_16 (lkX12_253 _ rfl) okS_X12_isTaken (c_X12_isTaken (d := 2) (by decide) rfl) rfl rfl hdd (Nat.le_refl _) (Nat.le_refl _) (by decide) (fx_ki ?_)
      refine pm_if_ne (tgt := 32) hG dX12_canTake_19 rfl (fun c5 => ?_) (fun c5 => ?_)
      · replace hE := fx_f c5 hE
        refine pm_iloadn hG dX12_canTake_32 rfl ?_
        refine pm_aloadn hG dX12_canTake_33 rfl ?_
        refine pm_getf hG dX12_canTake_34 (flX12_43 _ rfl) rfl rfl ?_
        refine pm_iloadn hG dX12_canTake_37 rfl ?_
        obtain ⟨j6, hj6, hE⟩ := fb_some hE
        refine fx_iald hG dX12_canTake_38 rfl hj6 ?_
        refine pm_icmp_le (tgt := 46) hG dX12_canTake_39 rfl (fun c7 => ?_) (fun c7 => ?_)
        · replace c7 := Int32.not_lt.mpr c7
          replace hE := fx_f c7 hE
          refine pm_iconst (v := 0) hG dX12_canTake_46 (by decide) ?_
          exact pm_zret hG hF dX12_canTake_47 rfl (by rfl) (Nat.le_refl _) (Nat.le_refl _) (fx_pi (Option.some.inj hE))
        · replace c7 := Int32.not_le.mp c7
          replace hE := fx_t c7 hE
          refine pm_iconst (v := 1) hG dX12_canTake_42 (by decide) ?_
          refine pm_goto (tgt := 47) hG dX12_canTake_43 rfl ?_
          exact pm_zret hG hF dX12_canTake_47 rfl (by rfl) (Nat.le_refl _) (Nat.le_refl _) (fx_pi (Option.some.inj hE))
      · replace hE := fx_t c5 hE
        refine pm_iloadn hG dX12_canTake_22 rfl ?_
        refine pm_iloadn hG dX12_canTake_23 rfl ?_
        refine pm_iconst (v := 1) hG dX12_canTake_24 (by decide) ?_
        refine pm_iadd hG dX12_canTake_25 ?_
        refine pm_callS (As := [.int za, .int (zc + 1)]) (rest := []) hG hR dX12_canTake_26 (lkX12_253 _ rfl) okS_X12_isTaken (c_X12_isTaken (d := 2) (by decide) rfl) rfl rfl hdd (Nat.le_refl _) (Nat.le_refl _) (by decide) (fx_ki ?_)
        refine pm_if_eq (tgt := 46) hG dX12_canTake_29 rfl (fun c8 => ?_) (fun c8 => ?_)
        · replace hE := fx_t c8 hE
          refine pm_iconst (v := 0) hG dX12_canTake_46 (by decide) ?_
          exact pm_zret hG hF dX12_canTake_47 rfl (by rfl) (Nat.le_refl _) (Nat.le_refl _) (fx_pi (Option.some.inj hE))
        · replace hE := fx_f c8 hE
          refine pm_iloadn hG dX12_canTake_32 rfl ?_
          refine pm_aloadn hG dX12_canTake_33 rfl ?_
          refine pm_getf hG dX12_canTake_34 (flX12_43 _ rfl) rfl rfl ?_
          refine pm_iloadn hG dX12_canTake_37 rfl ?_
          obtain ⟨j9, hj9, hE⟩ := fb_some hE
          refine fx_iald hG dX12_canTake_38 rfl hj9 ?_
          refine pm_icmp_le (tgt := 46) hG dX12_canTake_39 rfl (fun c10 => ?_) (fun c10 => ?_)
          · replace c10 := Int32.not_lt.mpr c10
            replace hE := fx_f c10 hE
            refine pm_iconst (v := 0) hG dX12_canTake_46 (by decide) ?_
            exact pm_zret hG hF dX12_canTake_47 rfl (by rfl) (Nat.le_refl _) (Nat.le_refl _) (fx_pi (Option.some.inj hE))
          · replace c10 := Int32.not_le.mp c10
            replace hE := fx_t c10 hE
            refine pm_iconst (v := 1) hG dX12_canTake_42 (by decide) ?_
            refine pm_goto (tgt := 47) hG dX12_canTake_43 rfl ?_
            exact pm_zret hG hF dX12_canTake_47 rfl (by rfl) (Nat.le_refl _) (Nat.le_refl _) (fx_pi (Option.some.inj hE))

set_option maxRecDepth 100000 in
set_option maxHeartbeats 4000000 in
theorem c_X12_isLaw {d : Nat} {B cnt : Nat} {σ : pm_S} {S : FS} {za : Int32} {R : Int32} (hdd : 2 ≤ d) (hE : p_X12_isLaw S za = R) : pm_met mX12_isLaw d 0 0 B [.ref (B + 54), .int za] cnt (mst B S σ) (pm_Qi (fun v σ' cnt' => v = R ∧ σ' = (mst B S σ) ∧ cnt' = cnt)) := by
  refine pm_enter 0 (by decide) (Nat.le_of_ble_eq_true rfl) rfl (fun G hG hR hF => ?_)
  unfold p_X12_isLaw at hE
  refine pm_iloadn hG dX12_isLaw_0 rfl ?_
  refine pm_iconst (v := 0) hG dX12_isLaw_1 (by decide) ?_
  refine pm_aloadn hG dX12_isLaw_2 rfl ?_
  refine pm_getf hG dX12_isLaw_3 (flX12_7 _ rfl) rfl rfl ?_
  refine pm_iconst (v := 4) hG dX12_isLaw_6 (by decide) ?_
  refine fx_iald hG dX12_isLaw_7 rfl (ix_lit (by decide) rfl) ?_
  refine pm_iconst (v := 1) hG dX12_isLaw_8 (by decide) ?_
  refine pm_isub hG dX12_isLaw_9 ?_
  refine pm_callS (As := [.int za, .int 0, .int ((S.2 55 4) - 1)]) (rest := []) hG hR dX12_isLaw_10 (lkX12_68 _ rfl) okS_X12_in (c_X12_in (d := 1) (by decide) rfl) rfl rfl hdd (Nat.le_refl _) (Nat.le_refl _) (by decide) (fx_ki ?_)
  exact pm_zret hG hF dX12_isLaw_13 rfl (pm_nz pb_X12_in) (Nat.le_refl _) (Nat.le_refl _) (fx_pi hE)

set_option maxRecDepth 100000 in
set_option maxHeartbeats 4000000 in
theorem c_X12_cannot {d : Nat} {B cnt : Nat} {σ : pm_S} {S : FS} {za : Int32} {R : Int32 × FS} (hdd : 3 ≤ d) (hE : f_X12_cannot S za = some R) : pm_met mX12_cannot d 0 0 B [.ref (B + 54), .int za] cnt (mst B S σ) (pm_Qi (fun v σ' cnt' => v = R.1 ∧ σ' = (mst B R.2 σ) ∧ cnt' = cnt)) := by
  refine pm_enter 2 (by decide) (Nat.le_of_ble_eq_true rfl) rfl (fun G hG hR hF => ?_)
  unfold f_X12_cannot at hE
  refine pm_aloadn hG dX12_cannot_0 rfl ?_
  refine pm_iloadn hG dX12_cannot_1 rfl ?_
  refine pm_iconst (v := 4) hG dX12_cannot_2 (by decide) ?_
  obtain ⟨x2, h1, hE⟩ := fb_some hE
  refine pm_callV (As := [.int za, .int 4]) (rest := []) hG hR dX12_cannot_3 (lkX12_199 _ rfl) okV_X12_of rfl rfl (c_X12_of (d := 2) (by decide) h1) rfl rfl hdd (Nat.le_refl _) (Nat.le_refl _) (by decide) (fx_ki ?_)
  refine pm_istoreXn (loc' := [some (.ref (B + 54)), some (.int za), some (.int x2), none]) hG dX12_cannot_6 (by decide) (pm_c1b rfl) rfl ?_
  refine pm_aloadn hG dX12_cannot_7 rfl ?_
  refine pm_iloadn hG dX12_cannot_8 rfl ?_
  refine pm_iconst (v := 2) hG dX12_cannot_9 (by decide) ?_
  obtain ⟨x4, h3, hE⟩ := fb_some hE
  refine pm_callV (As := [.int za, .int 2]) (rest := []) hG hR dX12_cannot_10 (lkX12_199 _ rfl) okV_X12_of rfl rfl (c_X12_of (d := 2) (by decide) h3) rfl rfl hdd (Nat.le_refl _) (Nat.le_refl _) (by decide) (fx_ki ?_)
  refine pm_istoreXn (loc' := [some (.ref (B + 54)), some (.int za), some (.int x2), some (.int x4)]) hG dX12_cannot_13 (by decide) (pm_c1b rfl) rfl ?_
  refine pm_aloadn hG dX12_cannot_14 rfl ?_
  refine pm_iloadn hG dX12_cannot_15 rfl ?_
  refine pm_iconst (v := 1) hG dX12_cannot_16 (by decide) ?_
  obtain ⟨x6, h5, hE⟩ := fb_some hE
  refine pm_callV (As := [.int za, .int 1]) (rest := []) hG hR dX12_cannot_17 (lkX12_199 _ rfl) okV_X12_of rfl rfl (c_X12_of (d := 2) (by decide) h5) rfl rfl hdd (Nat.le_refl _) (Nat.le_refl _) (by decide) (fx_ki ?_)
  by_cases c7 : x6 = 0
  · replace hE := fx_t c7 hE
    refine pm_top (v := 0) c7 ?_
    refine pm_tswIn (tgt := 52) hG dX12_cannot_20 (by decide) (by decide) rfl rfl ?_
    refine pm_aloadn hG dX12_cannot_52 rfl ?_
    refine pm_getf hG dX12_cannot_53 (flX12_7 _ rfl) rfl rfl ?_
    refine pm_bipush (v := 9) hG dX12_cannot_56 (by decide) ?_
    refine fx_iald hG dX12_cannot_58 rfl (ix_lit (by decide) rfl) ?_
    refine pm_iloadn hG dX12_cannot_59 rfl ?_
    refine pm_icmp_ge (tgt := 67) hG dX12_cannot_60 rfl (fun c8 => ?_) (fun c8 => ?_)
    · replace c8 := Int32.not_lt.mpr c8
      replace hE := fx_f c8 hE
      refine pm_iconst (v := 0) hG dX12_cannot_67 (by decide) ?_
      exact pm_zret hG hF dX12_cannot_68 rfl (by rfl) (Nat.le_refl _) (Nat.le_refl _) (fx_rim hE)
    · replace c8 := Int32.not_le.mp c8
      replace hE := fx_t c8 hE
      refine pm_iconst (v := 1) hG dX12_cannot_63 (by decide) ?_
      refine pm_goto (tgt := 68) hG dX12_cannot_64 rfl ?_
      exact pm_zret hG hF dX12_cannot_68 rfl (by rfl) (Nat.le_refl _) (Nat.le_refl _) (fx_rim hE)
  replace hE := fx_f c7 hE
  by_cases c9 : x6 = 1
  · replace hE := fx_t c9 hE
    refine pm_top (v := 1) c9 ?_
    refine pm_tswIn (tgt := 69) hG dX12_cannot_20 (by decide) (by decide) rfl rfl ?_
    refine pm_aloadn hG dX12_cannot_69 rfl ?_
    refine pm_iloadn hG dX12_cannot_70 rfl ?_
    refine pm_iconst (v := 4) hG dX12_cannot_71 (by decide) ?_
    obtain ⟨x11, h10, hE⟩ := fb_some hE
    refine pm_callV (As := [.int x2, .int 4]) (rest := []) hG hR dX12_cannot_72 (lkX12_72 _ rfl) okV_X12_man rfl rfl (c_X12_man (d := 2) (by decide) h10) rfl rfl hdd (Nat.le_refl _) (Nat.le_refl _) (by decide) (fx_ki ?_)
    refine pm_if_lt (tgt := 99) hG dX12_cannot_75 rfl (fun c12 => ?_) (fun c12 => ?_)
    · replace hE := fx_t c12 hE
      refine pm_iconst (v := 1) hG dX12_cannot_99 (by decide) ?_
      refine pm_goto (tgt := 104) hG dX12_cannot_100 rfl ?_
      exact pm_zret hG hF dX12_cannot_104 rfl (by rfl) (Nat.le_refl _) (Nat.le_refl _) (fx_rim hE)
    · replace hE := fx_f c12 hE
      refine pm_aloadn hG dX12_cannot_78 rfl ?_
      refine pm_aloadn hG dX12_cannot_79 rfl ?_
      refine pm_iloadn hG dX12_cannot_80 rfl ?_
      refine pm_iconst (v := 4) hG dX12_cannot_81 (by decide) ?_
      obtain ⟨x14, h13, hE⟩ := fb_some hE
      refine pm_callV (As := [.int x2, .int 4]) (rest := [.ref (B + 54)]) hG hR dX12_cannot_82 (lkX12_72 _ rfl) okV_X12_man rfl rfl (c_X12_man (d := 2) (by decide) h13) rfl rfl hdd (Nat.le_refl _) (Nat.le_refl _) (by first | decide | exact Nat.le_of_ble_eq_true rfl) (fx_ki ?_)
      refine pm_iloadn hG dX12_cannot_85 rfl ?_
      refine pm_aloadn hG dX12_cannot_86 rfl ?_
      refine pm_getf hG dX12_cannot_87 (flX12_7 _ rfl) rfl rfl ?_
      refine pm_iconst (v := 0) hG dX12_cannot_90 (by decide) ?_
      refine fx_iald hG dX12_cannot_91 rfl (ix_lit (by decide) rfl) ?_
      obtain ⟨u16, h15, hE⟩ := fb_some hE
      refine pm_irem hG dX12_cannot_92 (nz_n h15) ?_
      obtain ⟨r18, h17, hE⟩ := fb_some hE
      refine pm_callV (As := [.int x14, .int (x4 - x4 / (S.2 55 0) * (S.2 55 0))]) (rest := []) hG hR dX12_cannot_93 (lkX12_88 _ rfl) okV_X12_farOf rfl rfl (c_X12_farOf (d := 2) (by decide) h17) rfl rfl hdd (Nat.le_refl _) (Nat.le_refl _) (by decide) (fx_ki ?_)
      refine pm_if_ge (tgt := 103) hG dX12_cannot_96 rfl (fun c19 => ?_) (fun c19 => ?_)
      · replace c19 := Int32.not_lt.mpr c19
        replace hE := fx_f c19 hE
        refine pm_iconst (v := 0) hG dX12_cannot_103 (by decide) ?_
        exact pm_zret hG hF dX12_cannot_104 rfl (by rfl) (Nat.le_refl _) (Nat.le_refl _) (fx_rim hE)
      · replace c19 := Int32.not_le.mp c19
        replace hE := fx_t c19 hE
        refine pm_iconst (v := 1) hG dX12_cannot_99 (by decide) ?_
        refine pm_goto (tgt := 104) hG dX12_cannot_100 rfl ?_
        exact pm_zret hG hF dX12_cannot_104 rfl (by rfl) (Nat.le_refl _) (Nat.le_refl _) (fx_rim hE)
  replace hE := fx_f c9 hE
  by_cases c20 : x6 = 2
  · replace hE := fx_t c20 hE
    refine pm_top (v := 2) c20 ?_
    refine pm_tswIn (tgt := 105) hG dX12_cannot_20 (by decide) (by decide) rfl rfl ?_
    refine pm_aloadn hG dX12_cannot_105 rfl ?_
    refine pm_iloadn hG dX12_cannot_106 rfl ?_
    refine pm_callV (As := [.int x4]) (rest := []) hG hR dX12_cannot_107 (lkX12_132 _ rfl) okV_X12_isPower rfl rfl (c_X12_isPower (d := 2) (by decide) rfl) rfl rfl hdd (Nat.le_refl _) (Nat.le_refl _) (by decide) (fx_ki ?_)
    refine pm_if_ne (tgt := 117) hG dX12_cannot_110 rfl (fun c21 => ?_) (fun c21 => ?_)
    · replace hE := fx_f c21 hE
      refine pm_iconst (v := 0) hG dX12_cannot_117 (by decide) ?_
      exact pm_zret hG hF dX12_cannot_118 rfl (by rfl) (Nat.le_refl _) (Nat.le_refl _) (fx_rim hE)
    · replace hE := fx_t c21 hE
      refine pm_iconst (v := 1) hG dX12_cannot_113 (by decide) ?_
      refine pm_goto (tgt := 118) hG dX12_cannot_114 rfl ?_
      exact pm_zret hG hF dX12_cannot_118 rfl (by rfl) (Nat.le_refl _) (Nat.le_refl _) (fx_rim hE)
  replace hE := fx_f c20 hE
  by_cases c22 : x6 = 3
  · replace hE := fx_t c22 hE
    refine pm_top (v := 3) c22 ?_
    refine pm_tswIn (tgt := 119) hG dX12_cannot_20 (by decide) (by decide) rfl rfl ?_
    refine pm_aloadn hG dX12_cannot_119 rfl ?_
    refine pm_iloadn hG dX12_cannot_120 rfl ?_
    refine pm_callV (As := [.int x4]) (rest := []) hG hR dX12_cannot_121 (lkX12_192 _ rfl) okV_X12_isLaw rfl rfl (c_X12_isLaw (d := 2) (by decide) rfl) rfl rfl hdd (Nat.le_refl _) (Nat.le_refl _) (by decide) (fx_ki ?_)
    refine pm_if_eq (tgt := 145) hG dX12_cannot_124 rfl (fun c23 => ?_) (fun c23 => ?_)
    · replace hE := fx_t c23 hE
      refine pm_iconst (v := 1) hG dX12_cannot_145 (by decide) ?_
      refine pm_goto (tgt := 150) hG dX12_cannot_146 rfl ?_
      exact pm_zret hG hF dX12_cannot_150 rfl (by rfl) (Nat.le_refl _) (Nat.le_refl _) (fx_rim hE)
    · replace hE := fx_f c23 hE
      refine pm_aloadn hG dX12_cannot_127 rfl ?_
      refine pm_getf hG dX12_cannot_128 (flX12_7 _ rfl) rfl rfl ?_
      refine pm_sipush (v := 510) hG dX12_cannot_131 (by decide) ?_
      refine pm_bipush (v := 65) hG dX12_cannot_134 (by decide) ?_
      refine pm_iloadn hG dX12_cannot_136 rfl ?_
      refine pm_imul hG dX12_cannot_137 ?_
      refine pm_iadd hG dX12_cannot_138 ?_
      refine pm_iconst (v := 3) hG dX12_cannot_139 (by decide) ?_
      refine pm_iadd hG dX12_cannot_140 ?_
      obtain ⟨j24, hj24, hE⟩ := fb_some hE
      refine fx_iald hG dX12_cannot_141 rfl hj24 ?_
      refine pm_if_lt (tgt := 149) hG dX12_cannot_142 rfl (fun c25 => ?_) (fun c25 => ?_)
      · replace hE := fx_t c25 hE
        refine pm_iconst (v := 0) hG dX12_cannot_149 (by decide) ?_
        exact pm_zret hG hF dX12_cannot_150 rfl (by rfl) (Nat.le_refl _) (Nat.le_refl _) (fx_rim hE)
      · replace hE := fx_f c25 hE
        refine pm_iconst (v := 1) hG dX12_cannot_145 (by decide) ?_
        refine pm_goto (tgt := 150) hG dX12_cannot_146 rfl ?_
        exact pm_zret hG hF dX12_cannot_150 rfl (by rfl) (Nat.le_refl _) (Nat.le_refl _) (fx_rim hE)
  replace hE := fx_f c22 hE
  have tc7 : ¬ x6.toInt = 0 := fun q => c7 (Int32.toInt_inj.mp q)
  have tc9 : ¬ x6.toInt = 1 := fun q => c9 (Int32.toInt_inj.mp q)
  have tc20 : ¬ x6.toInt = 2 := fun q => c20 (Int32.toInt_inj.mp q)
  have tc22 : ¬ x6.toInt = 3 := fun q => c22 (Int32.toInt_inj.mp q)
  refine pm_tswOut (tgt := 151) hG dX12_cannot_20 (by omega) rfl ?_
  refine pm_iconst (v := 0) hG dX12_cannot_151 (by decide) ?_
  exact pm_zret hG hF dX12_cannot_152 rfl (by rfl) (Nat.le_refl _) (Nat.le_refl _) (fx_rim hE)

set_option maxRecDepth 100000 in
set_option maxHeartbeats 4000000 in
theorem c_X12_cause {d : Nat} {B cnt : Nat} {σ : pm_S} {S : FS} {za : Int32} {zb : Int32} {R : Int32 × FS} (hdd : 6 ≤ d) (hE : f_X12_cause S za zb = some R) : pm_met mX12_cause d 0 0 B [.ref (B + 54), .int za, .int zb] cnt (mst B S σ) (pm_Qi (fun v σ' cnt' => v = R.1 ∧ σ' = (mst B R.2 σ) ∧ cnt' = cnt)) := by
  refine pm_enter 2 (by decide) (Nat.le_of_ble_eq_true rfl) rfl (fun G hG hR hF => ?_)
  unfold f_X12_cause at hE
  refine pm_iloadn hG dX12_cause_0 rfl ?_
  refine pm_iconst (v := 0) hG dX12_cause_1 (by decide) ?_
  refine pm_iconst (v := 5) hG dX12_cause_2 (by decide) ?_
  refine pm_callS (As := [.int za, .int 0, .int 5]) (rest := []) hG hR dX12_cause_3 (lkX12_68 _ rfl) okS_X12_in (c_X12_in (d := 5) (by decide) rfl) rfl rfl hdd (Nat.le_refl _) (Nat.le_refl _) (by decide) (fx_ki ?_)
  refine pm_if_eq (tgt := 18) hG dX12_cause_6 rfl (fun c1 => ?_) (fun c1 => ?_)
  · replace hE := fx_t c1 hE
    refine pm_aloadn hG dX12_cause_18 rfl ?_
    refine pm_iconst (v := 1) hG dX12_cause_19 (by decide) ?_
    obtain ⟨r3, h2, hE⟩ := fb_some hE
    refine pm_callV (As := [.int 1]) (rest := []) hG hR dX12_cause_20 (lkX12_80 _ rfl) okV_X12_finds rfl rfl (c_X12_finds (d := 5) (by decide) h2) rfl rfl hdd (Nat.le_refl _) (Nat.le_refl _) (by decide) (fx_ki ?_)
    exact pm_iret hG hF dX12_cause_23 rfl (Nat.le_refl _) (Nat.le_refl _) (fx_rim hE)
  · replace hE := fx_f c1 hE
    refine pm_iloadn hG dX12_cause_9 rfl ?_
    refine pm_iconst (v := 0) hG dX12_cause_10 (by decide) ?_
    refine pm_iconst (v := 3) hG dX12_cause_11 (by decide) ?_
    refine pm_callS (As := [.int zb, .int 0, .int 3]) (rest := []) hG hR dX12_cause_12 (lkX12_68 _ rfl) okS_X12_in (c_X12_in (d := 5) (by decide) rfl) rfl rfl hdd (Nat.le_refl _) (Nat.le_refl _) (by decide) (fx_ki ?_)
    refine pm_if_ne (tgt := 24) hG dX12_cause_15 rfl (fun c4 => ?_) (fun c4 => ?_)
    · replace hE := fx_f c4 hE
      refine pm_iloadn hG dX12_cause_24 rfl ?_
      refine pm_iconst (v := 3) hG dX12_cause_25 (by decide) ?_
      refine pm_icmp_ne (tgt := 82) hG dX12_cause_26 rfl (fun c5 => ?_) (fun c5 => ?_)
      · replace hE := fx_f c5 hE
        refine pm_aloadn hG dX12_cause_82 rfl ?_
        refine pm_iloadn hG dX12_cause_83 rfl ?_
        obtain ⟨r7, h6, hE⟩ := fb_some hE
        refine pm_callV (As := [.int za]) (rest := []) hG hR dX12_cause_84 (lkX12_246 _ rfl) okV_X12_weigh rfl rfl (c_X12_weigh (d := 5) (by decide) h6) rfl rfl hdd (Nat.le_refl _) (Nat.le_refl _) (by decide) (fx_kv ?_)
        refine pm_aloadn hG dX12_cause_87 rfl ?_
        refine pm_iconst (v := 0) hG dX12_cause_88 (by decide) ?_
        obtain ⟨x9, h8, hE⟩ := fb_some hE
        refine pm_callV (As := [.int 0]) (rest := []) hG hR dX12_cause_89 (lkX12_249 _ rfl) okV_X12_weightOf rfl rfl (c_X12_weightOf (d := 5) (by decide) h8) rfl rfl hdd (Nat.le_refl _) (Nat.le_refl _) (by decide) (fx_ki ?_)
        refine pm_istoreXn (loc' := [some (.ref (B + 54)), some (.int za), some (.int zb), some (.int x9), none]) hG dX12_cause_92 (by decide) (pm_c1b rfl) rfl ?_
        refine pm_aloadn hG dX12_cause_93 rfl ?_
        refine pm_iconst (v := 1) hG dX12_cause_94 (by decide) ?_
        obtain ⟨x11, h10, hE⟩ := fb_some hE
        refine pm_callV (As := [.int 1]) (rest := []) hG hR dX12_cause_95 (lkX12_249 _ rfl) okV_X12_weightOf rfl rfl (c_X12_weightOf (d := 5) (by decide) h10) rfl rfl hdd (Nat.le_refl _) (Nat.le_refl _) (by decide) (fx_ki ?_)
        refine pm_istoreXi (loc' := [some (.ref (B + 54)), some (.int za), some (.int zb), some (.int x9), some (.int x11)]) hG dX12_cause_98 (by decide) (pm_c1b rfl) rfl ?_
        refine pm_iloadn hG dX12_cause_100 rfl ?_
        refine pm_if_ne (tgt := 108) hG dX12_cause_101 rfl (fun c12 => ?_) (fun c12 => ?_)
        · replace hE := fx_f c12 hE
          refine pm_iloadn hG dX12_cause_108 rfl ?_
          refine pm_iconst (v := 1) hG dX12_cause_109 (by decide) ?_
          refine pm_icmp_ne (tgt := 118) hG dX12_cause_110 rfl (fun c13 => ?_) (fun c13 => ?_)
          · replace hE := fx_f c13 hE
            refine pm_iconst (v := 2) hG dX12_cause_118 (by decide) ?_
            refine pm_iloadn hG dX12_cause_119 rfl ?_
            refine pm_imul hG dX12_cause_120 ?_
            refine pm_iloadi hG dX12_cause_121 rfl ?_
            refine pm_icmp_le (tgt := 130) hG dX12_cause_123 rfl (fun c14 => ?_) (fun c14 => ?_)
            · replace c14 := Int32.not_lt.mpr c14
              replace hE := fx_f c14 hE
              refine pm_iconst (v := 0) hG dX12_cause_130 (by decide) ?_
              exact pm_iret hG hF dX12_cause_131 rfl (Nat.le_refl _) (Nat.le_refl _) (fx_rim hE)
            · replace c14 := Int32.not_le.mp c14
              replace hE := fx_t c14 hE
              refine pm_iconst (v := 1) hG dX12_cause_126 (by decide) ?_
              refine pm_goto (tgt := 131) hG dX12_cause_127 rfl ?_
              exact pm_iret hG hF dX12_cause_131 rfl (Nat.le_refl _) (Nat.le_refl _) (fx_rim hE)
          · replace hE := fx_t c13 hE
            refine pm_iloadi hG dX12_cause_113 rfl ?_
            refine pm_goto (tgt := 131) hG dX12_cause_115 rfl ?_
            exact pm_iret hG hF dX12_cause_131 rfl (Nat.le_refl _) (Nat.le_refl _) (fx_rim hE)
        · replace hE := fx_t c12 hE
          refine pm_iloadn hG dX12_cause_104 rfl ?_
          refine pm_goto (tgt := 131) hG dX12_cause_105 rfl ?_
          exact pm_iret hG hF dX12_cause_131 rfl (Nat.le_refl _) (Nat.le_refl _) (fx_rim hE)
      · replace hE := fx_t c5 hE
        refine pm_iconst (v := 0) hG dX12_cause_29 (by decide) ?_
        refine pm_istoreXn (loc' := [some (.ref (B + 54)), some (.int za), some (.int zb), some (.int 0), none]) hG dX12_cause_30 (by decide) (pm_c1b rfl) rfl ?_
        have loop31 : ∀ (k31 : FS → Int32 → Option (Int32 × FS)), (∀ (S15 : FS) (x15_3 : Int32), k31 S15  x15_3 = some R → pm_wp mX12_cause G B 80 [some (.ref (B + 54)), some (.int za), some (.int zb), some (.int x15_3), none] [] 0 0 cnt (mst B S15 σ)) → ∀ (m31 : Nat) (S15 : FS) (x15_3 : Int32), l_X12_cause_31 za k31 m31 S15  x15_3 = some R → pm_wp mX12_cause G B 31 [some (.ref (B + 54)), some (.int za), some (.int zb), some (.int x15_3), none] [] 0 0 cnt (mst B S15 σ) := by
          intro k31 hk31 m31
          induction m31 with
          | zero => intro S15  x15_3 hE; exact fx_no hE
          | succ m31 ih31 =>
            intro S15  x15_3 hE
            rw [l_X12_cause_31] at hE
            refine pm_iloadn hG dX12_cause_31 rfl ?_
            refine pm_aloadn hG dX12_cause_32 rfl ?_
            refine pm_getf hG dX12_cause_33 (flX12_7 _ rfl) rfl rfl ?_
            refine pm_bipush (v := 7) hG dX12_cause_36 (by decide) ?_
            refine fx_iald hG dX12_cause_38 rfl (ix_lit (by decide) rfl) ?_
            refine pm_icmp_ge (tgt := 80) hG dX12_cause_39 rfl (fun c16 => ?_) (fun c16 => ?_)
            · replace c16 := Int32.not_lt.mpr c16
              replace hE := fx_f c16 hE
              exact hk31 _ _ hE
            · replace c16 := Int32.not_le.mp c16
              replace hE := fx_t c16 hE
              refine pm_aloadn hG dX12_cause_42 rfl ?_
              refine pm_iloadn hG dX12_cause_43 rfl ?_
              refine pm_iconst (v := 1) hG dX12_cause_44 (by decide) ?_
              obtain ⟨x18, h17, hE⟩ := fb_some hE
              refine pm_callV (As := [.int x15_3, .int 1]) (rest := []) hG hR dX12_cause_45 (lkX12_223 _ rfl) okV_X12_promised rfl rfl (c_X12_promised (d := 5) (by decide) h17) rfl rfl hdd (Nat.le_refl _) (Nat.le_refl _) (by decide) (fx_ki ?_)
              refine pm_iloadn hG dX12_cause_48 rfl ?_
              refine pm_icmp_ne (tgt := 74) hG dX12_cause_49 rfl (fun c19 => ?_) (fun c19 => ?_)
              · replace hE := fx_f c19 hE
                refine pm_iincX (v := x15_3 + 1) (loc' := [some (.ref (B + 54)), some (.int za), some (.int zb), some (.int (x15_3 + 1)), none]) hG dX12_cause_74 rfl (by rfl) (by decide) (pm_c1b rfl) rfl ?_
                refine pm_goto (tgt := 31) hG dX12_cause_77 rfl ?_
                exact ih31 _ _ hE
              · replace hE := fx_t c19 hE
                refine pm_aloadn hG dX12_cause_52 rfl ?_
                refine pm_iloadn hG dX12_cause_53 rfl ?_
                refine pm_iconst (v := 3) hG dX12_cause_54 (by decide) ?_
                obtain ⟨x21, h20, hE⟩ := fb_some hE
                refine pm_callV (As := [.int x15_3, .int 3]) (rest := []) hG hR dX12_cause_55 (lkX12_223 _ rfl) okV_X12_promised rfl rfl (c_X12_promised (d := 5) (by decide) h20) rfl rfl hdd (Nat.le_refl _) (Nat.le_refl _) (by decide) (fx_ki ?_)
                refine pm_iconst (v := 1) hG dX12_cause_58 (by decide) ?_
                refine pm_icmp_ne (tgt := 74) hG dX12_cause_59 rfl (fun c22 => ?_) (fun c22 => ?_)
                · replace hE := fx_f c22 hE
                  refine pm_iincX (v := x15_3 + 1) (loc' := [some (.ref (B + 54)), some (.int za), some (.int zb), some (.int (x15_3 + 1)), none]) hG dX12_cause_74 rfl (by rfl) (by decide) (pm_c1b rfl) rfl ?_
                  refine pm_goto (tgt := 31) hG dX12_cause_77 rfl ?_
                  exact ih31 _ _ hE
                · replace hE := fx_t c22 hE
                  refine pm_aloadn hG dX12_cause_62 rfl ?_
                  refine pm_iloadn hG dX12_cause_63 rfl ?_
                  refine pm_iconst (v := 4) hG dX12_cause_64 (by decide) ?_
                  obtain ⟨x24, h23, hE⟩ := fb_some hE
                  refine pm_callV (As := [.int x15_3, .int 4]) (rest := []) hG hR dX12_cause_65 (lkX12_223 _ rfl) okV_X12_promised rfl rfl (c_X12_promised (d := 5) (by decide) h23) rfl rfl hdd (Nat.le_refl _) (Nat.le_refl _) (by decide) (fx_ki ?_)
                  refine pm_iconst (v := 1) hG dX12_cause_68 (by decide) ?_
                  refine pm_icmp_ne (tgt := 74) hG dX12_cause_69 rfl (fun c25 => ?_) (fun c25 => ?_)
                  · replace hE := fx_f c25 hE
                    refine pm_iincX (v := x15_3 + 1) (loc' := [some (.ref (B + 54)), some (.int za), some (.int zb), some (.int (x15_3 + 1)), none]) hG dX12_cause_74 rfl (by rfl) (by decide) (pm_c1b rfl) rfl ?_
                    refine pm_goto (tgt := 31) hG dX12_cause_77 rfl ?_
                    exact ih31 _ _ hE
                  · replace hE := fx_t c25 hE
                    refine pm_iloadn hG dX12_cause_72 rfl ?_
                    exact pm_iret hG hF dX12_cause_73 rfl (Nat.le_refl _) (Nat.le_refl _) (fx_rim hE)
        refine loop31 _ (fun S26 x26_3 hE => ?_) _ _ _ hE
        refine pm_iconst (v := (-1)) hG dX12_cause_80 (by decide) ?_
        exact pm_iret hG hF dX12_cause_81 rfl (Nat.le_refl _) (Nat.le_refl _) (fx_rim hE)
    · replace hE := fx_t c4 hE
      refine pm_aloadn hG dX12_cause_18 rfl ?_
      refine pm_iconst (v := 1) hG dX12_cause_19 (by decide) ?_
      obtain ⟨r28, h27, hE⟩ := fb_some hE
      refine pm_callV (As := [.int 1]) (rest := []) hG hR dX12_cause_20 (lkX12_80 _ rfl) okV_X12_finds rfl rfl (c_X12_finds (d := 5) (by decide) h27) rfl rfl hdd (Nat.le_refl _) (Nat.le_refl _) (by decide) (fx_ki ?_)
      exact pm_iret hG hF dX12_cause_23 rfl (Nat.le_refl _) (Nat.le_refl _) (fx_rim hE)
