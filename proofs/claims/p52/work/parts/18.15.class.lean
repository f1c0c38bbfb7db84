set_option maxRecDepth 100000 in
set_option maxHeartbeats 4000000 in
theorem g_X5_pledgedIn {ε : Nat → Int32} {d B cnt : Nat} {kp : Value} {ρ : pm_S} {I : Nat → Int32} {A : Nat → Nat → Int32} {za zb : Int32} (hdd : 1 ≤ d) (h : gq ε I) : pm_met mX5_pledgedIn d 0 0 B [.ref (B + 42), .int za, .int zb] cnt (pm_two (cl_L B kp I A) ρ) (pm_Qi (fun _ σ' cnt' => hvq ε B kp ρ cnt σ' cnt')) := by
  refine pm_enter 2 (by decide) (Nat.le_of_ble_eq_true rfl) rfl (fun G hG hR hF => ?_)
  refine pm_aloadn hG dX5_pledgedIn_0 rfl ?_
  refine pm_getf hG dX5_pledgedIn_1 (flX5_73 _ rfl) rfl rfl ?_
  refine pm_istoreXn (loc' := [some (.ref (B + 42)), some (.int za), some (.int zb), some (.int (I 114)), none]) hG dX5_pledgedIn_4 (by decide) (pm_c1b rfl) rfl ?_
  refine pm_iloadn hG dX5_pledgedIn_5 rfl ?_
  refine pm_iconst (v := 1) hG dX5_pledgedIn_6 (by decide) ?_
  refine pm_isub hG dX5_pledgedIn_7 ?_
  refine pm_istoreXi (loc' := [some (.ref (B + 42)), some (.int za), some (.int zb), some (.int (I 114)), some (.int (zb - 1))]) hG dX5_pledgedIn_8 (by decide) (pm_c1b rfl) rfl ?_
  have loop10 : ∀ (m10 : Nat) (I1 : Nat → Int32) (A1 : Nat → Nat → Int32) (x1_3 x1_4 : Int32), gq ε I1 → (x1_4.toInt - (za : Int32).toInt).toNat < m10 → pm_wp mX5_pledgedIn G B 10 [some (.ref (B + 42)), some (.int za), some (.int zb), some (.int x1_3), some (.int x1_4)] [] 0 0 cnt (pm_two (cl_L B kp I1 A1) ρ) := by
    intro m10
    induction m10 with
    | zero => intro I1 A1 x1_3 x1_4 _  hm; exact absurd hm (Nat.not_lt_zero _)
    | succ m10 ih10 =>
      intro I1 A1 x1_3 x1_4 h1  hm10
      refine pm_iloadi hG dX5_pledgedIn_10 rfl ?_
      refine pm_iloadn hG dX5_pledgedIn_12 rfl ?_
      refine pm_icmp_le (tgt := 27) hG dX5_pledgedIn_13 rfl (fun c2 => ?_) (fun c2 => ?_)
      · refine pm_iloadn hG dX5_pledgedIn_27 rfl ?_
        refine pm_bipush (v := 7) hG dX5_pledgedIn_28 (by decide) ?_
        refine pm_irem hG dX5_pledgedIn_30 (by decide) ?_
        refine pm_iconst (v := 1) hG dX5_pledgedIn_31 (by decide) ?_
        refine pm_isub hG dX5_pledgedIn_32 ?_
        exact pm_iret hG hF dX5_pledgedIn_33 rfl (Nat.le_refl _) (Nat.le_refl _) ⟨_, rfl, _, _, rfl, rfl, h1⟩
      · refine pm_iloadn hG dX5_pledgedIn_16 rfl ?_
        refine pm_bipush (v := 7) hG dX5_pledgedIn_17 (by decide) ?_
        refine pm_idiv hG dX5_pledgedIn_19 (by decide) ?_
        refine pm_istoreXn (loc' := [some (.ref (B + 42)), some (.int za), some (.int zb), some (.int (x1_3 / 7)), some (.int x1_4)]) hG dX5_pledgedIn_20 (by decide) (pm_c1b rfl) rfl ?_
        refine pm_iincX (v := x1_4 + (-1)) (loc' := [some (.ref (B + 42)), some (.int za), some (.int zb), some (.int (x1_3 / 7)), some (.int (x1_4 + (-1)))]) hG dX5_pledgedIn_21 rfl (by rfl) (by decide) (pm_c1b rfl) rfl ?_
        refine pm_goto (tgt := 10) hG dX5_pledgedIn_24 rfl ?_
        exact ih10 _ _ (x1_3 / 7) (x1_4 + (-1)) h1 (Nat.lt_of_lt_of_le (pm_md2 c2) (Nat.le_of_lt_succ hm10))
  exact loop10 _ _ _ (I 114) (zb - 1) h (Nat.lt_succ_self _)

set_option maxRecDepth 100000 in
set_option maxHeartbeats 4000000 in
theorem g_X5_leftBy {ε : Nat → Int32} {d B cnt : Nat} {kp : Value} {ρ : pm_S} {I : Nat → Int32} {A : Nat → Nat → Int32} {za zb zc : Int32} (hdd : 1 ≤ d) (h : gq ε I) : pm_met mX5_leftBy d 0 0 B [.ref (B + 42), .int za, .int zb, .int zc] cnt (pm_two (cl_L B kp I A) ρ) (pm_Qi (fun _ σ' cnt' => hvq ε B kp ρ cnt σ' cnt')) := by
  refine pm_enter 3 (by decide) (Nat.le_of_ble_eq_true rfl) rfl (fun G hG hR hF => ?_)
  refine pm_iloadn hG dX5_leftBy_0 rfl ?_
  refine pm_iloadn hG dX5_leftBy_1 rfl ?_
  refine pm_callS (As := [.int za, .int zb]) (rest := []) hG hR dX5_leftBy_2 (lkX5_62 _ rfl) okS_X5_before (gj_before (d := 0)) rfl rfl hdd (Nat.le_refl _) (Nat.le_refl _) (by decide) (pm_ki (fun v1 σ' cnt' hq => ?_))
  obtain ⟨l1, u1, hq⟩ := hq
  obtain ⟨I1, A1, rfl, rfl, h1⟩ := hv_id (kp := kp) (I := I) (A := A) h hq
  refine pm_istoreXi (loc' := [some (.ref (B + 42)), some (.int za), some (.int zb), some (.int zc), some (.int v1), none, none]) hG dX5_leftBy_5 (by decide) (pm_c1b rfl) rfl ?_
  refine pm_iloadn hG dX5_leftBy_7 rfl ?_
  refine pm_if_eq (tgt := 30) hG dX5_leftBy_8 rfl (fun c2 => ?_) (fun c2 => ?_)
  · refine pm_iconst (v := 1) hG dX5_leftBy_30 (by decide) ?_
    refine pm_goto (tgt := 35) hG dX5_leftBy_31 rfl ?_
    refine pm_istoreXi (loc' := [some (.ref (B + 42)), some (.int za), some (.int zb), some (.int zc), some (.int v1), some (.int 1), none]) hG dX5_leftBy_35 (by decide) (pm_c1b rfl) rfl ?_
    refine pm_iloadi hG dX5_leftBy_37 rfl ?_
    refine pm_if_eq (tgt := 52) hG dX5_leftBy_39 rfl (fun q => absurd q (by decide)) (fun _ => ?_)
    refine pm_aloadn hG dX5_leftBy_42 rfl ?_
    refine pm_getf hG dX5_leftBy_43 (flX5_11 _ rfl) rfl rfl ?_
    refine pm_iloadi hG dX5_leftBy_46 rfl ?_
    refine pm_iald hG dX5_leftBy_48 rfl (pm_ib2 rfl l1 u1) ?_
    refine pm_if_ge (tgt := 54) hG dX5_leftBy_49 rfl (fun c3 => ?_) (fun c3 => ?_)
    · refine pm_iloadn hG dX5_leftBy_54 rfl ?_
      refine pm_if_ne (tgt := 62) hG dX5_leftBy_55 rfl (fun c4 => ?_) (fun c4 => ?_)
      · refine pm_iconst (v := 4) hG dX5_leftBy_62 (by decide) ?_
        refine pm_aloadn hG dX5_leftBy_63 rfl ?_
        refine pm_getf hG dX5_leftBy_64 (flX5_21 _ rfl) rfl rfl ?_
        refine pm_getf hG dX5_leftBy_67 (flX5_40 _ rfl) rfl rfl ?_
        refine pm_iloadn hG dX5_leftBy_70 rfl ?_
        refine pm_iconst (v := 1) hG dX5_leftBy_71 (by decide) ?_
        refine pm_isub hG dX5_leftBy_72 ?_
        refine pm_iconst (v := 0) hG dX5_leftBy_73 (by decide) ?_
        refine pm_callV (As := [.int (zb - 1), .int 0]) (rest := [.int 4]) hG hR dX5_leftBy_74 (lkX5_50 _ rfl) okV_X9_get rfl rfl (tb_get (d := 0) rfl rfl (pm_tw_of 10 3 (by decide) (by decide) (by decide))) rfl rfl hdd (Nat.le_refl _) (Nat.le_refl _) (by first | decide | exact Nat.le_of_ble_eq_true rfl) (pm_ki (fun v5 σ' cnt' hq => ?_))
        obtain ⟨I5, A5, rfl, rfl, h5⟩ := hv_id (kp := kp) (I := I1) (A := A1) h1 hq.2
        refine pm_imul hG dX5_leftBy_77 ?_
        refine pm_istoreXi (loc' := [some (.ref (B + 42)), some (.int za), some (.int zb), some (.int zc), some (.int v1), some (.int 1), some (.int (4 * v5))]) hG dX5_leftBy_78 (by decide) (pm_c1b rfl) rfl ?_
        refine pm_iconst (v := (-1)) hG dX5_leftBy_80 (by decide) ?_
        refine pm_aloadn hG dX5_leftBy_81 rfl ?_
        refine pm_getf hG dX5_leftBy_82 (flX5_11 _ rfl) rfl rfl ?_
        refine pm_iloadi hG dX5_leftBy_85 rfl ?_
        refine pm_iald hG dX5_leftBy_87 rfl (pm_ib2 rfl l1 u1) ?_
        refine pm_aloadn hG dX5_leftBy_88 rfl ?_
        refine pm_getf hG dX5_leftBy_89 (flX5_18 _ rfl) rfl rfl ?_
        refine pm_iloadi hG dX5_leftBy_92 rfl ?_
        refine pm_iald hG dX5_leftBy_94 rfl (pm_ib2 rfl l1 u1) ?_
        refine pm_iadd hG dX5_leftBy_95 ?_
        refine pm_iloadi hG dX5_leftBy_96 rfl ?_
        refine pm_iadd hG dX5_leftBy_98 ?_
        refine pm_iloadn hG dX5_leftBy_99 rfl ?_
        refine pm_isub hG dX5_leftBy_100 ?_
        refine pm_mmax hG hR dX5_leftBy_101 (mmX5_65 _ rfl) pm_mwmax (by omega) (by first | decide | exact Nat.le_of_ble_eq_true rfl) (Nat.le_refl _) (Nat.le_refl _) ?_
        exact pm_iret hG hF dX5_leftBy_104 rfl (Nat.le_refl _) (Nat.le_refl _) ⟨_, rfl, _, _, rfl, rfl, h5⟩
      · refine pm_iconst (v := 0) hG dX5_leftBy_58 (by decide) ?_
        refine pm_goto (tgt := 78) hG dX5_leftBy_59 rfl ?_
        refine pm_istoreXi (loc' := [some (.ref (B + 42)), some (.int za), some (.int zb), some (.int zc), some (.int v1), some (.int 1), some (.int 0)]) hG dX5_leftBy_78 (by decide) (pm_c1b rfl) rfl ?_
        refine pm_iconst (v := (-1)) hG dX5_leftBy_80 (by decide) ?_
        refine pm_aloadn hG dX5_leftBy_81 rfl ?_
        refine pm_getf hG dX5_leftBy_82 (flX5_11 _ rfl) rfl rfl ?_
        refine pm_iloadi hG dX5_leftBy_85 rfl ?_
        refine pm_iald hG dX5_leftBy_87 rfl (pm_ib2 rfl l1 u1) ?_
        refine pm_aloadn hG dX5_leftBy_88 rfl ?_
        refine pm_getf hG dX5_leftBy_89 (flX5_18 _ rfl) rfl rfl ?_
        refine pm_iloadi hG dX5_leftBy_92 rfl ?_
        refine pm_iald hG dX5_leftBy_94 rfl (pm_ib2 rfl l1 u1) ?_
        refine pm_iadd hG dX5_leftBy_95 ?_
        refine pm_iloadi hG dX5_leftBy_96 rfl ?_
        refine pm_iadd hG dX5_leftBy_98 ?_
        refine pm_top (v := ((A1 43) v1.toNatClampNeg) + ((A1 45) v1.toNatClampNeg)) (Int32.add_zero _) ?_
        refine pm_iloadn hG dX5_leftBy_99 rfl ?_
        refine pm_isub hG dX5_leftBy_100 ?_
        refine pm_mmax hG hR dX5_leftBy_101 (mmX5_65 _ rfl) pm_mwmax (by omega) (by first | decide | exact Nat.le_of_ble_eq_true rfl) (Nat.le_refl _) (Nat.le_refl _) ?_
        exact pm_iret hG hF dX5_leftBy_104 rfl (Nat.le_refl _) (Nat.le_refl _) ⟨_, rfl, _, _, rfl, rfl, h1⟩
    · refine pm_iconst (v := (-1)) hG dX5_leftBy_52 (by decide) ?_
      exact pm_iret hG hF dX5_leftBy_53 rfl (Nat.le_refl _) (Nat.le_refl _) ⟨_, rfl, _, _, rfl, rfl, h1⟩
  · refine pm_iloadi hG dX5_leftBy_11 rfl ?_
    refine pm_iloadn hG dX5_leftBy_13 rfl ?_
    refine pm_icmp_eq (tgt := 34) hG dX5_leftBy_14 rfl (fun c6 => ?_) (fun c6 => ?_)
    · refine pm_iconst (v := 0) hG dX5_leftBy_34 (by decide) ?_
      refine pm_istoreXi (loc' := [some (.ref (B + 42)), some (.int za), some (.int zb), some (.int zc), some (.int v1), some (.int 0), none]) hG dX5_leftBy_35 (by decide) (pm_c1b rfl) rfl ?_
      refine pm_iloadi hG dX5_leftBy_37 rfl ?_
      refine pm_if_eq (tgt := 52) hG dX5_leftBy_39 rfl (fun _ => ?_) (fun q => absurd q (by decide))
      refine pm_iconst (v := (-1)) hG dX5_leftBy_52 (by decide) ?_
      exact pm_iret hG hF dX5_leftBy_53 rfl (Nat.le_refl _) (Nat.le_refl _) ⟨_, rfl, _, _, rfl, rfl, h1⟩
    · refine pm_aloadn hG dX5_leftBy_17 rfl ?_
      refine pm_getf hG dX5_leftBy_18 (flX5_37 _ rfl) rfl rfl ?_
      refine pm_iloadn hG dX5_leftBy_21 rfl ?_
      refine pm_iconst (v := 1) hG dX5_leftBy_22 (by decide) ?_
      refine pm_isub hG dX5_leftBy_23 ?_
      refine pm_ishr hG dX5_leftBy_24 ?_
      refine pm_iconst (v := 1) hG dX5_leftBy_25 (by decide) ?_
      refine pm_iand hG dX5_leftBy_26 ?_
      refine pm_if_eq (tgt := 34) hG dX5_leftBy_27 rfl (fun c7 => ?_) (fun c7 => ?_)
      · refine pm_iconst (v := 0) hG dX5_leftBy_34 (by decide) ?_
        refine pm_istoreXi (loc' := [some (.ref (B + 42)), some (.int za), some (.int zb), some (.int zc), some (.int v1), some (.int 0), none]) hG dX5_leftBy_35 (by decide) (pm_c1b rfl) rfl ?_
        refine pm_iloadi hG dX5_leftBy_37 rfl ?_
        refine pm_if_eq (tgt := 52) hG dX5_leftBy_39 rfl (fun _ => ?_) (fun q => absurd q (by decide))
        refine pm_iconst (v := (-1)) hG dX5_leftBy_52 (by decide) ?_
        exact pm_iret hG hF dX5_leftBy_53 rfl (Nat.le_refl _) (Nat.le_refl _) ⟨_, rfl, _, _, rfl, rfl, h1⟩
      · refine pm_iconst (v := 1) hG dX5_leftBy_30 (by decide) ?_
        refine pm_goto (tgt := 35) hG dX5_leftBy_31 rfl ?_
        refine pm_istoreXi (loc' := [some (.ref (B + 42)), some (.int za), some (.int zb), some (.int zc), some (.int v1), some (.int 1), none]) hG dX5_leftBy_35 (by decide) (pm_c1b rfl) rfl ?_
        refine pm_iloadi hG dX5_leftBy_37 rfl ?_
        refine pm_if_eq (tgt := 52) hG dX5_leftBy_39 rfl (fun q => absurd q (by decide)) (fun _ => ?_)
        refine pm_aloadn hG dX5_leftBy_42 rfl ?_
        refine pm_getf hG dX5_leftBy_43 (flX5_11 _ rfl) rfl rfl ?_
        refine pm_iloadi hG dX5_leftBy_46 rfl ?_
        refine pm_iald hG dX5_leftBy_48 rfl (pm_ib2 rfl l1 u1) ?_
        refine pm_if_ge (tgt := 54) hG dX5_leftBy_49 rfl (fun c8 => ?_) (fun c8 => ?_)
        · refine pm_iloadn hG dX5_leftBy_54 rfl ?_
          refine pm_if_ne (tgt := 62) hG dX5_leftBy_55 rfl (fun c9 => ?_) (fun c9 => ?_)
          · refine pm_iconst (v := 4) hG dX5_leftBy_62 (by decide) ?_
            refine pm_aloadn hG dX5_leftBy_63 rfl ?_
            refine pm_getf hG dX5_leftBy_64 (flX5_21 _ rfl) rfl rfl ?_
            refine pm_getf hG dX5_leftBy_67 (flX5_40 _ rfl) rfl rfl ?_
            refine pm_iloadn hG dX5_leftBy_70 rfl ?_
            refine pm_iconst (v := 1) hG dX5_leftBy_71 (by decide) ?_
            refine pm_isub hG dX5_leftBy_72 ?_
            refine pm_iconst (v := 0) hG dX5_leftBy_73 (by decide) ?_
            refine pm_callV (As := [.int (zb - 1), .int 0]) (rest := [.int 4]) hG hR dX5_leftBy_74 (lkX5_50 _ rfl) okV_X9_get rfl rfl (tb_get (d := 0) rfl rfl (pm_tw_of 10 3 (by decide) (by decide) (by decide))) rfl rfl hdd (Nat.le_refl _) (Nat.le_refl _) (by first | decide | exact Nat.le_of_ble_eq_true rfl) (pm_ki (fun v10 σ' cnt' hq => ?_))
            obtain ⟨I10, A10, rfl, rfl, h10⟩ := hv_id (kp := kp) (I := I1) (A := A1) h1 hq.2
            refine pm_imul hG dX5_leftBy_77 ?_
            refine pm_istoreXi (loc' := [some (.ref (B + 42)), some (.int za), some (.int zb), some (.int zc), some (.int v1), some (.int 1), some (.int (4 * v10))]) hG dX5_leftBy_78 (by decide) (pm_c1b rfl) rfl ?_
            refine pm_iconst (v := (-1)) hG dX5_leftBy_80 (by decide) ?_
            refine pm_aloadn hG dX5_leftBy_81 rfl ?_
            refine pm_getf hG dX5_leftBy_82 (flX5_11 _ rfl) rfl rfl ?_
            refine pm_iloadi hG dX5_leftBy_85 rfl ?_
            refine pm_iald hG dX5_leftBy_87 rfl (pm_ib2 rfl l1 u1) ?_
            refine pm_aloadn hG dX5_leftBy_88 rfl ?_
            refine pm_getf hG dX5_leftBy_89 (flX5_18 _ rfl) rfl rfl ?_
            refine pm_iloadi hG dX5_leftBy_92 rfl ?_
            refine pm_iald hG dX5_leftBy_94 rfl (pm_ib2 rfl l1 u1) ?_
            refine pm_iadd hG dX5_leftBy_95 ?_
            refine pm_iloadi hG dX5_leftBy_96 rfl ?_
            refine pm_iadd hG dX5_leftBy_98 ?_
            refine pm_iloadn hG dX5_leftBy_99 rfl ?_
            refine pm_isub hG dX5_leftBy_100 ?_
            refine pm_mmax hG hR dX5_leftBy_101 (mmX5_65 _ rfl) pm_mwmax (by omega) (by first | decide | exact Nat.le_of_ble_eq_true rfl) (Nat.le_refl _) (Nat.le_refl _) ?_
            exact pm_iret hG hF dX5_leftBy_104 rfl (Nat.le_refl _) (Nat.le_refl _) ⟨_, rfl, _, _, rfl, rfl, h10⟩
          · refine pm_iconst (v := 0) hG dX5_leftBy_58 (by decide) ?_
            refine pm_goto (tgt := 78) hG dX5_leftBy_59 rfl ?_
            refine pm_istoreXi (loc' := [some (.ref (B + 42)), some (.int za), some (.int zb), some (.int zc), some (.int v1), some (.int 1), some (.int 0)]) hG dX5_leftBy_78 (by decide) (pm_c1b rfl) rfl ?_
            refine pm_iconst (v := (-1)) hG dX5_leftBy_80 (by decide) ?_
            refine pm_aloadn hG dX5_leftBy_81 rfl ?_
            refine pm_getf hG dX5_leftBy_82 (flX5_11 _ rfl) rfl rfl ?_
            refine pm_iloadi hG dX5_leftBy_85 rfl ?_
            refine pm_iald hG dX5_leftBy_87 rfl (pm_ib2 rfl l1 u1) ?_
            refine pm_aloadn hG dX5_leftBy_88 rfl ?_
            refine pm_getf hG dX5_leftBy_89 (flX5_18 _ rfl) rfl rfl ?_
            refine pm_iloadi hG dX5_leftBy_92 rfl ?_
            refine pm_iald hG dX5_leftBy_94 rfl (pm_ib2 rfl l1 u1) ?_
            refine pm_iadd hG dX5_leftBy_95 ?_
            refine pm_iloadi hG dX5_leftBy_96 rfl ?_
            refine pm_iadd hG dX5_leftBy_98 ?_
            refine pm_top (v := ((A1 43) v1.toNatClampNeg) + ((A1 45) v1.toNatClampNeg)) (Int32.add_zero _) ?_
            refine pm_iloadn hG dX5_leftBy_99 rfl ?_
            refine pm_isub hG dX5_leftBy_100 ?_
            refine pm_mmax hG hR dX5_leftBy_101 (mmX5_65 _ rfl) pm_mwmax (by omega) (by first | decide | exact Nat.le_of_ble_eq_true rfl) (Nat.le_refl _) (Nat.le_refl _) ?_
            exact pm_iret hG hF dX5_leftBy_104 rfl (Nat.le_refl _) (Nat.le_refl _) ⟨_, rfl, _, _, rfl, rfl, h1⟩
        · refine pm_iconst (v := (-1)) hG dX5_leftBy_52 (by decide) ?_
          exact pm_iret hG hF dX5_leftBy_53 rfl (Nat.le_refl _) (Nat.le_refl _) ⟨_, rfl, _, _, rfl, rfl, h1⟩

set_option maxRecDepth 100000 in
set_option maxHeartbeats 4000000 in
theorem g_X5_passQuarter {ε : Nat → Int32} {d B cnt : Nat} {kp : Value} {ρ : pm_S} {I : Nat → Int32} {A : Nat → Nat → Int32} {za : Int32} (hdd : 2 ≤ d) (h : gq ε I) : pm_met mX5_passQuarter d 0 0 B [.ref (B + 42), .int za] cnt (pm_two (cl_L B kp I A) ρ) (pm_Qv (fun σ' cnt' => hvq ε B kp ρ cnt σ' cnt')) := by
  refine pm_enter 6 (by decide) (Nat.le_of_ble_eq_true rfl) rfl (fun G hG hR hF => ?_)
  refine pm_bipush (v := 63) hG dX5_passQuarter_0 (by decide) ?_
  refine pm_istoreXn (loc' := [some (.ref (B + 42)), some (.int za), some (.int 63), none, none, none, none, none]) hG dX5_passQuarter_2 (by decide) (pm_c1b rfl) rfl ?_
  have loop3 : ∀ (m3 : Nat) (I1 : Nat → Int32) (A1 : Nat → Nat → Int32) (x1_2 : Int32), gq ε I1 → (¬ 63 < x1_2) → (x1_2.toInt + 1 - (0 : Int32).toInt).toNat < m3 → pm_wp mX5_passQuarter G B 3 [some (.ref (B + 42)), some (.int za), some (.int x1_2), none, none, none, none, none] [] 0 0 cnt (pm_two (cl_L B kp I1 A1) ρ) := by
    intro m3
    induction m3 with
    | zero => intro I1 A1 x1_2 _  _ hm; exact absurd hm (Nat.not_lt_zero _)
    | succ m3 ih3 =>
      intro I1 A1 x1_2 h1 s3 hm3
      refine pm_iloadn hG dX5_passQuarter_3 rfl ?_
      refine pm_if_lt (tgt := 118) hG dX5_passQuarter_4 rfl (fun c2 => ?_) (fun c2 => ?_)
      · exact pm_vret hG hF dX5_passQuarter_118 rfl (Nat.le_refl _) (Nat.le_refl _) ⟨rfl, _, _, rfl, rfl, h1⟩
      · refine pm_iconst (v := (-1)) hG dX5_passQuarter_7 (by decide) ?_
        refine pm_istoreXn (loc' := [some (.ref (B + 42)), some (.int za), some (.int x1_2), some (.int (-1)), none, none, none, none]) hG dX5_passQuarter_8 (by decide) (pm_c1b rfl) rfl ?_
        refine pm_iconst (v := 0) hG dX5_passQuarter_9 (by decide) ?_
        refine pm_istoreXi (loc' := [some (.ref (B + 42)), some (.int za), some (.int x1_2), some (.int (-1)), some (.int 0), none, none, none]) hG dX5_passQuarter_10 (by decide) (pm_c1b rfl) rfl ?_
        refine pm_iconst (v := 0) hG dX5_passQuarter_12 (by decide) ?_
        refine pm_istoreXi (loc' := [some (.ref (B + 42)), some (.int za), some (.int x1_2), some (.int (-1)), some (.int 0), some (.int 0), none, none]) hG dX5_passQuarter_13 (by decide) (pm_c1b rfl) rfl ?_
        have loop15 : ∀ (m15 : Nat) (I3 : Nat → Int32) (A3 : Nat → Nat → Int32) (x3_3 x3_4 x3_5 : Int32), gq ε I3 → (¬ x3_5 < 0) → ((7 : Int32).toInt - x3_5.toInt).toNat < m15 → pm_wp mX5_passQuarter G B 15 [some (.ref (B + 42)), some (.int za), some (.int x1_2), some (.int x3_3), some (.int x3_4), some (.int x3_5), none, none] [] 0 0 cnt (pm_two (cl_L B kp I3 A3) ρ) := by
          intro m15
          induction m15 with
          | zero => intro I3 A3 x3_3 x3_4 x3_5 _  _ hm; exact absurd hm (Nat.not_lt_zero _)
          | succ m15 ih15 =>
            intro I3 A3 x3_3 x3_4 x3_5 h3 s15 hm15
            refine pm_iloadi hG dX5_passQuarter_15 rfl ?_
            refine pm_bipush (v := 7) hG dX5_passQuarter_17 (by decide) ?_
            refine pm_icmp_ge (tgt := 97) hG dX5_passQuarter_19 rfl (fun c4 => ?_) (fun c4 => ?_)
            · refine pm_aloadn hG dX5_passQuarter_97 rfl ?_
              refine pm_getf hG dX5_passQuarter_98 (flX5_11 _ rfl) rfl rfl ?_
              refine pm_iloadn hG dX5_passQuarter_101 rfl ?_
              refine pm_iloadn hG dX5_passQuarter_102 rfl ?_
              refine pm_iast hG dX5_passQuarter_103 rfl (pm_ibt (by have q := And.intro True.intro True.intro;  simp only [Int32.lt_iff_toInt_lt, Int32.le_iff_toInt_le, ← Int32.toInt_inj, (show (0 : Int32).toInt = 0 from rfl), (show (7 : Int32).toInt = 7 from rfl), (show (63 : Int32).toInt = 63 from rfl)] at *; omega)) ?_
              refine nm_a43 (fun A5 => ?_)
              refine pm_aloadn hG dX5_passQuarter_104 rfl ?_
              refine pm_getf hG dX5_passQuarter_105 (flX5_15 _ rfl) rfl rfl ?_
              refine pm_iloadn hG dX5_passQuarter_108 rfl ?_
              refine pm_iloadi hG dX5_passQuarter_109 rfl ?_
              refine pm_iast hG dX5_passQuarter_111 rfl (pm_ibt (by have q := And.intro True.intro True.intro;  simp only [Int32.lt_iff_toInt_lt, Int32.le_iff_toInt_le, ← Int32.toInt_inj, (show (0 : Int32).toInt = 0 from rfl), (show (7 : Int32).toInt = 7 from rfl), (show (63 : Int32).toInt = 63 from rfl)] at *; omega)) ?_
              refine nm_a44 (fun A6 => ?_)
              refine pm_iincX (v := x1_2 + (-1)) (loc' := [some (.ref (B + 42)), some (.int za), some (.int (x1_2 + (-1))), some (.int x3_3), some (.int x3_4), some (.int x3_5), none, none]) hG dX5_passQuarter_112 rfl (by rfl) (by decide) (pm_c1b rfl) rfl ?_
              refine pm_goto (tgt := 3) hG dX5_passQuarter_115 rfl ?_
              refine pm_fg 3 (loc' := [some (.ref (B + 42)), some (.int za), some (.int (x1_2 + (-1))), none, some (.int x3_4), some (.int x3_5), none, none]) rfl ?_
              refine pm_fg 4 (loc' := [some (.ref (B + 42)), some (.int za), some (.int (x1_2 + (-1))), none, none, some (.int x3_5), none, none]) rfl ?_
              refine pm_fg 5 (loc' := [some (.ref (B + 42)), some (.int za), some (.int (x1_2 + (-1))), none, none, none, none, none]) rfl ?_
              exact ih3 _ _ (x1_2 + (-1)) h3 (pm_sd2 c2 s3) (Nat.lt_of_lt_of_le (pm_md1 c2 (by decide)) (Nat.le_of_lt_succ hm3))
            · refine pm_aloadn hG dX5_passQuarter_22 rfl ?_
              refine pm_iloadn hG dX5_passQuarter_23 rfl ?_
              refine pm_iloadi hG dX5_passQuarter_24 rfl ?_
              refine pm_iloadn hG dX5_passQuarter_26 rfl ?_
              refine pm_callV (As := [.int x1_2, .int x3_5, .int za]) (rest := []) hG hR dX5_passQuarter_27 (lkX5_58 _ rfl) okV_X5_leftBy rfl rfl (g_X5_leftBy (d := 1) (by decide) h3) rfl rfl hdd (Nat.le_refl _) (Nat.le_refl _) (by decide) (pm_ki (fun v7 σ' cnt' hq => ?_))
              obtain ⟨I7, A7, rfl, rfl, h7⟩ := hq
              refine pm_istoreXi (loc' := [some (.ref (B + 42)), some (.int za), some (.int x1_2), some (.int x3_3), some (.int x3_4), some (.int x3_5), some (.int v7), none]) hG dX5_passQuarter_30 (by decide) (pm_c1b rfl) rfl ?_
              refine pm_iloadi hG dX5_passQuarter_32 rfl ?_
              refine pm_if_ge (tgt := 41) hG dX5_passQuarter_34 rfl (fun c8 => ?_) (fun c8 => ?_)
              · refine pm_aloadn hG dX5_passQuarter_41 rfl ?_
                refine pm_getf hG dX5_passQuarter_42 (flX5_15 _ rfl) rfl rfl ?_
                refine pm_iloadn hG dX5_passQuarter_45 rfl ?_
                refine pm_iloadi hG dX5_passQuarter_46 rfl ?_
                refine pm_callS (As := [.int x1_2, .int x3_5]) (rest := [.ref (B + 44)]) hG hR dX5_passQuarter_48 (lkX5_62 _ rfl) okS_X5_before (gj_before (d := 1)) rfl rfl hdd (Nat.le_refl _) (Nat.le_refl _) (by first | decide | exact Nat.le_of_ble_eq_true rfl) (pm_ki (fun v9 σ' cnt' hq => ?_))
                obtain ⟨l9, u9, hq⟩ := hq
                obtain ⟨I9, A9, rfl, rfl, h9⟩ := hv_id (kp := kp) (I := I7) (A := A7) h7 hq
                refine pm_iald hG dX5_passQuarter_51 rfl (pm_ib2 rfl l9 u9) ?_
                refine pm_bipush (v := 7) hG dX5_passQuarter_52 (by decide) ?_
                refine pm_imul hG dX5_passQuarter_54 ?_
                refine pm_iloadi hG dX5_passQuarter_55 rfl ?_
                refine pm_iadd hG dX5_passQuarter_57 ?_
                refine pm_istoreXi (loc' := [some (.ref (B + 42)), some (.int za), some (.int x1_2), some (.int x3_3), some (.int x3_4), some (.int x3_5), some (.int v7), some (.int ((((A9 44) v9.toNatClampNeg) * 7) + x3_5))]) hG dX5_passQuarter_58 (by decide) (pm_c1b rfl) rfl ?_
                refine pm_iloadi hG dX5_passQuarter_60 rfl ?_
                refine pm_iloadn hG dX5_passQuarter_62 rfl ?_
                refine pm_icmp_gt (tgt := 84) hG dX5_passQuarter_63 rfl (fun c10 => ?_) (fun c10 => ?_)
                · refine pm_iloadi hG dX5_passQuarter_84 rfl ?_
                  refine pm_istoreXn (loc' := [some (.ref (B + 42)), some (.int za), some (.int x1_2), some (.int v7), some (.int x3_4), some (.int x3_5), some (.int v7), some (.int ((((A9 44) v9.toNatClampNeg) * 7) + x3_5))]) hG dX5_passQuarter_86 (by decide) (pm_c1b rfl) rfl ?_
                  refine pm_iloadi hG dX5_passQuarter_87 rfl ?_
                  refine pm_istoreXi (loc' := [some (.ref (B + 42)), some (.int za), some (.int x1_2), some (.int v7), some (.int ((((A9 44) v9.toNatClampNeg) * 7) + x3_5)), some (.int x3_5), some (.int v7), some (.int ((((A9 44) v9.toNatClampNeg) * 7) + x3_5))]) hG dX5_passQuarter_89 (by decide) (pm_c1b rfl) rfl ?_
                  refine pm_iincX (v := x3_5 + 1) (loc' := [some (.ref (B + 42)), some (.int za), some (.int x1_2), some (.int v7), some (.int ((((A9 44) v9.toNatClampNeg) * 7) + x3_5)), some (.int (x3_5 + 1)), some (.int v7), some (.int ((((A9 44) v9.toNatClampNeg) * 7) + x3_5))]) hG dX5_passQuarter_91 rfl (by rfl) (by decide) (pm_c1b rfl) rfl ?_
                  refine pm_goto (tgt := 15) hG dX5_passQuarter_94 rfl ?_
                  refine pm_fg 6 (loc' := [some (.ref (B + 42)), some (.int za), some (.int x1_2), some (.int v7), some (.int ((((A9 44) v9.toNatClampNeg) * 7) + x3_5)), some (.int (x3_5 + 1)), none, some (.int ((((A9 44) v9.toNatClampNeg) * 7) + x3_5))]) rfl ?_
                  refine pm_fg 7 (loc' := [some (.ref (B + 42)), some (.int za), some (.int x1_2), some (.int v7), some (.int ((((A9 44) v9.toNatClampNeg) * 7) + x3_5)), some (.int (x3_5 + 1)), none, none]) rfl ?_
                  exact ih15 _ _ v7 ((((A9 44) v9.toNatClampNeg) * 7) + x3_5) (x3_5 + 1) h9 (pm_sd1 c4 s15) (Nat.lt_of_lt_of_le (pm_mu1 c4) (Nat.le_of_lt_succ hm15))
                · refine pm_iloadi hG dX5_passQuarter_66 rfl ?_
                  refine pm_if_lt (tgt := 91) hG dX5_passQuarter_68 rfl (fun c11 => ?_) (fun c11 => ?_)
                  · refine pm_iincX (v := x3_5 + 1) (loc' := [some (.ref (B + 42)), some (.int za), some (.int x1_2), some (.int x3_3), some (.int x3_4), some (.int (x3_5 + 1)), some (.int v7), some (.int ((((A9 44) v9.toNatClampNeg) * 7) + x3_5))]) hG dX5_passQuarter_91 rfl (by rfl) (by decide) (pm_c1b rfl) rfl ?_
                    refine pm_goto (tgt := 15) hG dX5_passQuarter_94 rfl ?_
                    refine pm_fg 6 (loc' := [some (.ref (B + 42)), some (.int za), some (.int x1_2), some (.int x3_3), some (.int x3_4), some (.int (x3_5 + 1)), none, some (.int ((((A9 44) v9.toNatClampNeg) * 7) + x3_5))]) rfl ?_
                    refine pm_fg 7 (loc' := [some (.ref (B + 42)), some (.int za), some (.int x1_2), some (.int x3_3), some (.int x3_4), some (.int (x3_5 + 1)), none, none]) rfl ?_
                    exact ih15 _ _ x3_3 x3_4 (x3_5 + 1) h9 (pm_sd1 c4 s15) (Nat.lt_of_lt_of_le (pm_mu1 c4) (Nat.le_of_lt_succ hm15))
                  · refine pm_iloadi hG dX5_passQuarter_71 rfl ?_
                    refine pm_iloadn hG dX5_passQuarter_73 rfl ?_
                    refine pm_icmp_ne (tgt := 91) hG dX5_passQuarter_74 rfl (fun c12 => ?_) (fun c12 => ?_)
                    · refine pm_iincX (v := x3_5 + 1) (loc' := [some (.ref (B + 42)), some (.int za), some (.int x1_2), some (.int x3_3), some (.int x3_4), some (.int (x3_5 + 1)), some (.int v7), some (.int ((((A9 44) v9.toNatClampNeg) * 7) + x3_5))]) hG dX5_passQuarter_91 rfl (by rfl) (by decide) (pm_c1b rfl) rfl ?_
                      refine pm_goto (tgt := 15) hG dX5_passQuarter_94 rfl ?_
                      refine pm_fg 6 (loc' := [some (.ref (B + 42)), some (.int za), some (.int x1_2), some (.int x3_3), some (.int x3_4), some (.int (x3_5 + 1)), none, some (.int ((((A9 44) v9.toNatClampNeg) * 7) + x3_5))]) rfl ?_
                      refine pm_fg 7 (loc' := [some (.ref (B + 42)), some (.int za), some (.int x1_2), some (.int x3_3), some (.int x3_4), some (.int (x3_5 + 1)), none, none]) rfl ?_
                      exact ih15 _ _ x3_3 x3_4 (x3_5 + 1) h9 (pm_sd1 c4 s15) (Nat.lt_of_lt_of_le (pm_mu1 c4) (Nat.le_of_lt_succ hm15))
                    · refine pm_iloadi hG dX5_passQuarter_77 rfl ?_
                      refine pm_iloadi hG dX5_passQuarter_79 rfl ?_
                      refine pm_icmp_ge (tgt := 91) hG dX5_passQuarter_81 rfl (fun c13 => ?_) (fun c13 => ?_)
                      · refine pm_iincX (v := x3_5 + 1) (loc' := [some (.ref (B + 42)), some (.int za), some (.int x1_2), some (.int x3_3), some (.int x3_4), some (.int (x3_5 + 1)), some (.int v7), some (.int ((((A9 44) v9.toNatClampNeg) * 7) + x3_5))]) hG dX5_passQuarter_91 rfl (by rfl) (by decide) (pm_c1b rfl) rfl ?_
                        refine pm_goto (tgt := 15) hG dX5_passQuarter_94 rfl ?_
                        refine pm_fg 6 (loc' := [some (.ref (B + 42)), some (.int za), some (.int x1_2), some (.int x3_3), some (.int x3_4), some (.int (x3_5 + 1)), none, some (.int ((((A9 44) v9.toNatClampNeg) * 7) + x3_5))]) rfl ?_
                        refine pm_fg 7 (loc' := [some (.ref (B + 42)), some (.int za), some (.int x1_2), some (.int x3_3), some (.int x3_4), some (.int (x3_5 + 1)), none, none]) rfl ?_
                        exact ih15 _ _ x3_3 x3_4 (x3_5 + 1) h9 (pm_sd1 c4 s15) (Nat.lt_of_lt_of_le (pm_mu1 c4) (Nat.le_of_lt_succ hm15))
                      · refine pm_iloadi hG dX5_passQuarter_84 rfl ?_
                        refine pm_istoreXn (loc' := [some (.ref (B + 42)), some (.int za), some (.int x1_2), some (.int v7), some (.int x3_4), some (.int x3_5), some (.int v7), some (.int ((((A9 44) v9.toNatClampNeg) * 7) + x3_5))]) hG dX5_passQuarter_86 (by decide) (pm_c1b rfl) rfl ?_
                        refine pm_iloadi hG dX5_passQuarter_87 rfl ?_
                        refine pm_istoreXi (loc' := [some (.ref (B + 42)), some (.int za), some (.int x1_2), some (.int v7), some (.int ((((A9 44) v9.toNatClampNeg) * 7) + x3_5)), some (.int x3_5), some (.int v7), some (.int ((((A9 44) v9.toNatClampNeg) * 7) + x3_5))]) hG dX5_passQuarter_89 (by decide) (pm_c1b rfl) rfl ?_
                        refine pm_iincX (v := x3_5 + 1) (loc' := [some (.ref (B + 42)), some (.int za), some (.int x1_2), some (.int v7), some (.int ((((A9 44) v9.toNatClampNeg) * 7) + x3_5)), some (.int (x3_5 + 1)), some (.int v7), some (.int ((((A9 44) v9.toNatClampNeg) * 7) + x3_5))]) hG dX5_passQuarter_91 rfl (by rfl) (by decide) (pm_c1b rfl) rfl ?_
                        refine pm_goto (tgt := 15) hG dX5_passQuarter_94 rfl ?_
                        refine pm_fg 6 (loc' := [some (.ref (B + 42)), some (.int za), some (.int x1_2), some (.int v7), some (.int ((((A9 44) v9.toNatClampNeg) * 7) + x3_5)), some (.int (x3_5 + 1)), none, some (.int ((((A9 44) v9.toNatClampNeg) * 7) + x3_5))]) rfl ?_
                        refine pm_fg 7 (loc' := [some (.ref (B + 42)), some (.int za), some (.int x1_2), some (.int v7), some (.int ((((A9 44) v9.toNatClampNeg) * 7) + x3_5)), some (.int (x3_5 + 1)), none, none]) rfl ?_
                        exact ih15 _ _ v7 ((((A9 44) v9.toNatClampNeg) * 7) + x3_5) (x3_5 + 1) h9 (pm_sd1 c4 s15) (Nat.lt_of_lt_of_le (pm_mu1 c4) (Nat.le_of_lt_succ hm15))
              · refine pm_iconst (v := 0) hG dX5_passQuarter_37 (by decide) ?_
                refine pm_goto (tgt := 58) hG dX5_passQuarter_38 rfl ?_
                refine pm_istoreXi (loc' := [some (.ref (B + 42)), some (.int za), some (.int x1_2), some (.int x3_3), some (.int x3_4), some (.int x3_5), some (.int v7), some (.int 0)]) hG dX5_passQuarter_58 (by decide) (pm_c1b rfl) rfl ?_
                refine pm_iloadi hG dX5_passQuarter_60 rfl ?_
                refine pm_iloadn hG dX5_passQuarter_62 rfl ?_
                refine pm_icmp_gt (tgt := 84) hG dX5_passQuarter_63 rfl (fun c14 => ?_) (fun c14 => ?_)
                · refine pm_iloadi hG dX5_passQuarter_84 rfl ?_
                  refine pm_istoreXn (loc' := [some (.ref (B + 42)), some (.int za), some (.int x1_2), some (.int v7), some (.int x3_4), some (.int x3_5), some (.int v7), some (.int 0)]) hG dX5_passQuarter_86 (by decide) (pm_c1b rfl) rfl ?_
                  refine pm_iloadi hG dX5_passQuarter_87 rfl ?_
                  refine pm_istoreXi (loc' := [some (.ref (B + 42)), some (.int za), some (.int x1_2), some (.int v7), some (.int 0), some (.int x3_5), some (.int v7), some (.int 0)]) hG dX5_passQuarter_89 (by decide) (pm_c1b rfl) rfl ?_
                  refine pm_iincX (v := x3_5 + 1) (loc' := [some (.ref (B + 42)), some (.int za), some (.int x1_2), some (.int v7), some (.int 0), some (.int (x3_5 + 1)), some (.int v7), some (.int 0)]) hG dX5_passQuarter_91 rfl (by rfl) (by decide) (pm_c1b rfl) rfl ?_
                  refine pm_goto (tgt := 15) hG dX5_passQuarter_94 rfl ?_
                  refine pm_fg 6 (loc' := [some (.ref (B + 42)), some (.int za), some (.int x1_2), some (.int v7), some (.int 0), some (.int (x3_5 + 1)), none, some (.int 0)]) rfl ?_
                  refine pm_fg 7 (loc' := [some (.ref (B + 42)), some (.int za), some (.int x1_2), some (.int v7), some (.int 0), some (.int (x3_5 + 1)), none, none]) rfl ?_
                  exact ih15 _ _ v7 0 (x3_5 + 1) h7 (pm_sd1 c4 s15) (Nat.lt_of_lt_of_le (pm_mu1 c4) (Nat.le_of_lt_succ hm15))
                · refine pm_iloadi hG dX5_passQuarter_66 rfl ?_
                  refine pm_if_lt (tgt := 91) hG dX5_passQuarter_68 rfl (fun c15 => ?_) (fun c15 => ?_)
                  · refine pm_iincX (v := x3_5 + 1) (loc' := [some (.ref (B + 42)), some (.int za), some (.int x1_2), some (.int x3_3), some (.int x3_4), some (.int (x3_5 + 1)), some (.int v7), some (.int 0)]) hG dX5_passQuarter_91 rfl (by rfl) (by decide) (pm_c1b rfl) rfl ?_
                    refine pm_goto (tgt := 15) hG dX5_passQuarter_94 rfl ?_
                    refine pm_fg 6 (loc' := [some (.ref (B + 42)), some (.int za), some (.int x1_2), some (.int x3_3), some (.int x3_4), some (.int (x3_5 + 1)), none, some (.int 0)]) rfl ?_
                    refine pm_fg 7 (loc' := [some (.ref (B + 42)), some (.int za), some (.int x1_2), some (.int x3_3), some (.int x3_4), some (.int (x3_5 + 1)), none, none]) rfl ?_
                    exact ih15 _ _ x3_3 x3_4 (x3_5 + 1) h7 (pm_sd1 c4 s15) (Nat.lt_of_lt_of_le (pm_mu1 c4) (Nat.le_of_lt_succ hm15))
                  · refine pm_iloadi hG dX5_passQuarter_71 rfl ?_
                    refine pm_iloadn hG dX5_passQuarter_73 rfl ?_
                    refine pm_icmp_ne (tgt := 91) hG dX5_passQuarter_74 rfl (fun c16 => ?_) (fun c16 => ?_)
                    · refine pm_iincX (v := x3_5 + 1) (loc' := [some (.ref (B + 42)), some (.int za), some (.int x1_2), some (.int x3_3), some (.int x3_4), some (.int (x3_5 + 1)), some (.int v7), some (.int 0)]) hG dX5_passQuarter_91 rfl (by rfl) (by decide) (pm_c1b rfl) rfl ?_
                      refine pm_goto (tgt := 15) hG dX5_passQuarter_94 rfl ?_
                      refine pm_fg 6 (loc' := [some (.ref (B + 42)), some (.int za), some (.int x1_2), some (.int x3_3), some (.int x3_4), some (.int (x3_5 + 1)), none, some (.int 0)]) rfl ?_
                      refine pm_fg 7 (loc' := [some (.ref (B + 42)), some (.int za), some (.int x1_2), some (.int x3_3), some (.int x3_4), some (.int (x3_5 + 1)), none, none]) rfl ?_
                      exact ih15 _ _ x3_3 x3_4 (x3_5 + 1) h7 (pm_sd1 c4 s15) (Nat.lt_of_lt_of_le (pm_mu1 c4) (Nat.le_of_lt_succ hm15))
                    · refine pm_iloadi hG dX5_passQuarter_77 rfl ?_
                      refine pm_iloadi hG dX5_passQuarter_79 rfl ?_
                      refine pm_icmp_ge (tgt := 91) hG dX5_passQuarter_81 rfl (fun c17 => ?_) (fun c17 => ?_)
                      · refine pm_iincX (v := x3_5 + 1) (loc' := [some (.ref (B + 42)), some (.int za), some (.int x1_2), some (.int x3_3), some (.int x3_4), some (.int (x3_5 + 1)), some (.int v7), some (.int 0)]) hG dX5_passQuarter_91 rfl (by rfl) (by decide) (pm_c1b rfl) rfl ?_
                        refine pm_goto (tgt := 15) hG dX5_passQuarter_94 rfl ?_
                        refine pm_fg 6 (loc' := [some (.ref (B + 42)), some (.int za), some (.int x1_2), some (.int x3_3), some (.int x3_4), some (.int (x3_5 + 1)), none, some (.int 0)]) rfl ?_
                        refine pm_fg 7 (loc' := [some (.ref (B + 42)), some (.int za), some (.int x1_2), some (.int x3_3), some (.int x3_4), some (.int (x3_5 + 1)), none, none]) rfl ?_
                        exact ih15 _ _ x3_3 x3_4 (x3_5 + 1) h7 (pm_sd1 c4 s15) (Nat.lt_of_lt_of_le (pm_mu1 c4) (Nat.le_of_lt_succ hm15))
                      · refine pm_iloadi hG dX5_passQuarter_84 rfl ?_
                        refine pm_istoreXn (loc' := [some (.ref (B + 42)), some (.int za), some (.int x1_2), some (.int v7), some (.int x3_4), some (.int x3_5), some (.int v7), some (.int 0)]) hG dX5_passQuarter_86 (by decide) (pm_c1b rfl) rfl ?_
                        refine pm_iloadi hG dX5_passQuarter_87 rfl ?_
                        refine pm_istoreXi (loc' := [some (.ref (B + 42)), some (.int za), some (.int x1_2), some (.int v7), some (.int 0), some (.int x3_5), some (.int v7), some (.int 0)]) hG dX5_passQuarter_89 (by decide) (pm_c1b rfl) rfl ?_
                        refine pm_iincX (v := x3_5 + 1) (loc' := [some (.ref (B + 42)), some (.int za), some (.int x1_2), some (.int v7), some (.int 0), some (.int (x3_5 + 1)), some (.int v7), some (.int 0)]) hG dX5_passQuarter_91 rfl (by rfl) (by decide) (pm_c1b rfl) rfl ?_
                        refine pm_goto (tgt := 15) hG dX5_passQuarter_94 rfl ?_
                        refine pm_fg 6 (loc' := [some (.ref (B + 42)), some (.int za), some (.int x1_2), some (.int v7), some (.int 0), some (.int (x3_5 + 1)), none, some (.int 0)]) rfl ?_
                        refine pm_fg 7 (loc' := [some (.ref (B + 42)), some (.int za), some (.int x1_2), some (.int v7), some (.int 0), some (.int (x3_5 + 1)), none, none]) rfl ?_
                        exact ih15 _ _ v7 0 (x3_5 + 1) h7 (pm_sd1 c4 s15) (Nat.lt_of_lt_of_le (pm_mu1 c4) (Nat.le_of_lt_succ hm15))
        exact loop15 _ _ _ (-1) 0 0 h1 (by decide) (Nat.lt_succ_self _)
  exact loop3 _ _ _ 63 h (by decide) (Nat.lt_succ_self _)

set_option maxRecDepth 100000 in
set_option maxHeartbeats 4000000 in
theorem g_X11_plan {ε : Nat → Int32} {d B cnt : Nat} {kp : Value} {ρ : pm_S} {I : Nat → Int32} {A : Nat → Nat → Int32} {za zb : Int32} (hdd : 3 ≤ d) (h : gq ε I) : pm_met mX11_plan d 0 0 B [.ref (B + 0), .int za, .int zb] cnt (pm_two (cl_L B kp I A) ρ) (pm_Qi (fun _ σ' cnt' => hvq ε B kp ρ cnt σ' cnt')) := by
  refine pm_enter 2 (by decide) (Nat.le_of_ble_eq_true rfl) rfl (fun G hG hR hF => ?_)
  refine pm_aloadn hG dX11_plan_0 rfl ?_
  refine pm_getf hG dX11_plan_1 (flX11_74 _ rfl) rfl rfl ?_
  refine pm_iloadn hG dX11_plan_4 rfl ?_
  refine pm_callV (As := [.int za]) (rest := []) hG hR dX11_plan_5 (lkX11_251 _ rfl) okV_X8_has rfl rfl (g_X8_has (d := 2) (by decide) h) rfl rfl hdd (Nat.le_refl _) (Nat.le_refl _) (by decide) (pm_ki (fun v1 σ' cnt' hq => ?_))
  obtain ⟨b1, I1, A1, rfl, rfl, h1⟩ := hq
  refine pm_if_ne (tgt := 18) hG dX11_plan_8 rfl (fun c2 => ?_) (fun c2 => ?_)
  · refine pm_aloadn hG dX11_plan_18 rfl ?_
    refine pm_getf hG dX11_plan_19 (flX11_74 _ rfl) rfl rfl ?_
    refine pm_iloadn hG dX11_plan_22 rfl ?_
    refine pm_callV (As := [.int za]) (rest := []) hG hR dX11_plan_23 (lkX11_255 _ rfl) okV_X8_isMissing rfl rfl (g_X8_isMissing (d := 2) (by decide) h1) rfl rfl hdd (Nat.le_refl _) (Nat.le_refl _) (by decide) (pm_ki (fun v3 σ' cnt' hq => ?_))
    obtain ⟨b3, I3, A3, rfl, rfl, h3⟩ := hq
    refine pm_if_eq (tgt := 36) hG dX11_plan_26 rfl (fun c4 => ?_) (fun c4 => ?_)
    · refine pm_aloadn hG dX11_plan_36 rfl ?_
      refine pm_getf hG dX11_plan_37 (flX11_74 _ rfl) rfl rfl ?_
      refine pm_iloadn hG dX11_plan_40 rfl ?_
      refine pm_callV (As := [.int za]) (rest := []) hG hR dX11_plan_41 (lkX11_261 _ rfl) okV_X8_sizeOf rfl rfl (g_X8_sizeOf (d := 2) (by decide) h3) rfl rfl hdd (Nat.le_refl _) (Nat.le_refl _) (by decide) (pm_ki (fun v5 σ' cnt' hq => ?_))
      obtain ⟨I5, A5, rfl, rfl, h5⟩ := hq
      refine pm_istoreXn (loc' := [some (.ref (B + 0)), some (.int za), some (.int zb), some (.int v5), none]) hG dX11_plan_44 (by decide) (pm_c1b rfl) rfl ?_
      refine pm_iloadn hG dX11_plan_45 rfl ?_
      refine pm_iconst (v := 1) hG dX11_plan_46 (by decide) ?_
      refine pm_bipush (v := 8) hG dX11_plan_47 (by decide) ?_
      refine pm_callS (As := [.int v5, .int 1, .int 8]) (rest := []) hG hR dX11_plan_49 (lkX11_105 _ rfl) okS_X11_isOutside (sx_isOutside (d := 2)) rfl rfl hdd (Nat.le_refl _) (Nat.le_refl _) (by decide) (pm_ki (fun v6 σ' cnt' hq => ?_))
      have o6 := hq.1
      have b6 := pm_b10 hq.1
      obtain ⟨I6, A6, rfl, rfl, h6⟩ := hv_id (kp := kp) (I := I5) (A := A5) h5 hq.2
      refine pm_if_ne (tgt := 81) hG dX11_plan_52 rfl (fun c7 => ?_) (fun c7 => ?_)
      · refine pm_aloadn hG dX11_plan_81 rfl ?_
        refine pm_ldc hG dX11_plan_82 (ctX11_109 _ rfl) ?_
        refine pm_callV (As := [.int (-1000001)]) (rest := []) hG hR dX11_plan_84 (lkX11_97 _ rfl) okV_X11_told rfl rfl (sx_told (d := 2) (by decide) rfl rfl) rfl rfl hdd (Nat.le_refl _) (Nat.le_refl _) (by decide) (pm_ki (fun v8 σ' cnt' hq => ?_))
        obtain ⟨-, ⟨g8, hg8⟩, hc8⟩ := hq
        obtain ⟨I8, A8, rfl, rfl, h8⟩ := hv_a53 (kp := kp) (I := I6) (A := A6) h6 ⟨hg8, hc8⟩
        exact pm_iret hG hF dX11_plan_87 rfl (Nat.le_refl _) (Nat.le_refl _) ⟨_, rfl, _, _, rfl, rfl, h8⟩
      · refine pm_aloadn hG dX11_plan_55 rfl ?_
        refine pm_getf hG dX11_plan_56 (flX11_74 _ rfl) rfl rfl ?_
        refine pm_iloadn hG dX11_plan_59 rfl ?_
        refine pm_iconst (v := 0) hG dX11_plan_60 (by decide) ?_
        refine pm_sipush (v := 9999) hG dX11_plan_61 (by decide) ?_
        refine pm_callV (As := [.int za, .int 0, .int 9999]) (rest := []) hG hR dX11_plan_64 (lkX11_264 _ rfl) okV_X8_areAllWithin rfl rfl (g_X8_areAllWithin (d := 2) (by decide) h6) rfl rfl hdd (Nat.le_refl _) (Nat.le_refl _) (by decide) (pm_ki (fun v9 σ' cnt' hq => ?_))
        obtain ⟨b9, I9, A9, rfl, rfl, h9⟩ := hq
        refine pm_if_eq (tgt := 81) hG dX11_plan_67 rfl (fun c10 => ?_) (fun c10 => ?_)
        · refine pm_aloadn hG dX11_plan_81 rfl ?_
          refine pm_ldc hG dX11_plan_82 (ctX11_109 _ rfl) ?_
          refine pm_callV (As := [.int (-1000001)]) (rest := []) hG hR dX11_plan_84 (lkX11_97 _ rfl) okV_X11_told rfl rfl (sx_told (d := 2) (by decide) rfl rfl) rfl rfl hdd (Nat.le_refl _) (Nat.le_refl _) (by decide) (pm_ki (fun v11 σ' cnt' hq => ?_))
          obtain ⟨-, ⟨g11, hg11⟩, hc11⟩ := hq
          obtain ⟨I11, A11, rfl, rfl, h11⟩ := hv_a53 (kp := kp) (I := I9) (A := A9) h9 ⟨hg11, hc11⟩
          exact pm_iret hG hF dX11_plan_87 rfl (Nat.le_refl _) (Nat.le_refl _) ⟨_, rfl, _, _, rfl, rfl, h11⟩
        · refine pm_iloadn hG dX11_plan_70 rfl ?_
          refine pm_iconst (v := (-1)) hG dX11_plan_71 (by decide) ?_
          refine pm_iloadn hG dX11_plan_72 rfl ?_
          refine pm_iconst (v := 1) hG dX11_plan_73 (by decide) ?_
          refine pm_isub hG dX11_plan_74 ?_
          refine pm_callS (As := [.int zb, .int (-1), .int (v5 - 1)]) (rest := []) hG hR dX11_plan_75 (lkX11_105 _ rfl) okS_X11_isOutside (sx_isOutside (d := 2)) rfl rfl hdd (Nat.le_refl _) (Nat.le_refl _) (by decide) (pm_ki (fun v12 σ' cnt' hq => ?_))
          have o12 := hq.1
          have b12 := pm_b10 hq.1
          obtain ⟨I12, A12, rfl, rfl, h12⟩ := hv_id (kp := kp) (I := I9) (A := A9) h9 hq.2
          refine pm_if_eq (tgt := 88) hG dX11_plan_78 rfl (fun c13 => ?_) (fun c13 => ?_)
          · refine pm_aloadn hG dX11_plan_88 rfl ?_
            refine pm_getf hG dX11_plan_89 (flX11_60 _ rfl) rfl rfl ?_
            refine pm_callV (As := []) (rest := []) hG hR dX11_plan_92 (lkX11_335 _ rfl) okV_X5_begin rfl rfl (g_X5_begin (d := 2) (by decide) h12) rfl rfl hdd (Nat.le_refl _) (Nat.le_refl _) (by decide) (pm_kv (fun σ' cnt' hq => ?_))
            obtain ⟨I14, A14, rfl, rfl, h14⟩ := hq
            refine pm_iconst (v := 0) hG dX11_plan_95 (by decide) ?_
            refine pm_istoreXi (loc' := [some (.ref (B + 0)), some (.int za), some (.int zb), some (.int v5), some (.int 0)]) hG dX11_plan_96 (by decide) (pm_c1b rfl) rfl ?_
            have loop98 : ∀ (m98 : Nat) (I15 : Nat → Int32) (A15 : Nat → Nat → Int32) (x15_4 : Int32), gq ε I15 → (¬ x15_4 < 0) → ((v5 : Int32).toInt - x15_4.toInt).toNat < m98 → pm_wp mX11_plan G B 98 [some (.ref (B + 0)), some (.int za), some (.int zb), some (.int v5), some (.int x15_4)] [] 0 0 cnt (pm_two (cl_L B kp I15 A15) ρ) := by
              intro m98
              induction m98 with
              | zero => intro I15 A15 x15_4 _  _ hm; exact absurd hm (Nat.not_lt_zero _)
              | succ m98 ih98 =>
                intro I15 A15 x15_4 h15 s98 hm98
                refine pm_iloadi hG dX11_plan_98 rfl ?_
                refine pm_iloadn hG dX11_plan_100 rfl ?_
                refine pm_icmp_ge (tgt := 127) hG dX11_plan_101 rfl (fun c16 => ?_) (fun c16 => ?_)
                · refine pm_aloadn hG dX11_plan_127 rfl ?_
                  refine pm_getf hG dX11_plan_128 (flX11_60 _ rfl) rfl rfl ?_
                  refine pm_callV (As := []) (rest := []) hG hR dX11_plan_131 (lkX11_344 _ rfl) okV_X5_findBest rfl rfl (g_X5_findBest (d := 2) (by decide) h15) rfl rfl hdd (Nat.le_refl _) (Nat.le_refl _) (by decide) (pm_ki (fun v17 σ' cnt' hq => ?_))
                  obtain ⟨b17, I17, A17, rfl, rfl, h17⟩ := hq
                  refine pm_if_ne (tgt := 144) hG dX11_plan_134 rfl (fun c18 => ?_) (fun c18 => ?_)
                  · refine pm_iloadn hG dX11_plan_144 rfl ?_
                    refine pm_if_ge (tgt := 158) hG dX11_plan_145 rfl (fun c19 => ?_) (fun c19 => ?_)
                    · refine pm_aloadn hG dX11_plan_158 rfl ?_
                      refine pm_getf hG dX11_plan_159 (flX11_60 _ rfl) rfl rfl ?_
                      refine pm_iloadn hG dX11_plan_162 rfl ?_
                      refine pm_iloadn hG dX11_plan_163 rfl ?_
                      refine pm_callV (As := [.int zb, .int v5]) (rest := []) hG hR dX11_plan_164 (lkX11_350 _ rfl) okV_X5_pledgedIn rfl rfl (g_X5_pledgedIn (d := 2) (by decide) h17) rfl rfl hdd (Nat.le_refl _) (Nat.le_refl _) (by decide) (pm_ki (fun v20 σ' cnt' hq => ?_))
                      obtain ⟨I20, A20, rfl, rfl, h20⟩ := hq
                      exact pm_iret hG hF dX11_plan_167 rfl (Nat.le_refl _) (Nat.le_refl _) ⟨_, rfl, _, _, rfl, rfl, h20⟩
                    · refine pm_aloadn hG dX11_plan_148 rfl ?_
                      refine pm_getf hG dX11_plan_149 (flX11_60 _ rfl) rfl rfl ?_
                      refine pm_getf hG dX11_plan_152 (flX11_347 _ rfl) rfl rfl ?_
                      refine pm_goto (tgt := 167) hG dX11_plan_155 rfl ?_
                      exact pm_iret hG hF dX11_plan_167 rfl (Nat.le_refl _) (Nat.le_refl _) ⟨_, rfl, _, _, rfl, rfl, h17⟩
                  · refine pm_aloadn hG dX11_plan_137 rfl ?_
                    refine pm_ldc hG dX11_plan_138 (ctX11_138 _ rfl) ?_
                    refine pm_callV (As := [.int (-1000003)]) (rest := []) hG hR dX11_plan_140 (lkX11_97 _ rfl) okV_X11_told rfl rfl (sx_told (d := 2) (by decide) rfl rfl) rfl rfl hdd (Nat.le_refl _) (Nat.le_refl _) (by decide) (pm_ki (fun v21 σ' cnt' hq => ?_))
                    obtain ⟨-, ⟨g21, hg21⟩, hc21⟩ := hq
                    obtain ⟨I21, A21, rfl, rfl, h21⟩ := hv_a53 (kp := kp) (I := I17) (A := A17) h17 ⟨hg21, hc21⟩
                    exact pm_iret hG hF dX11_plan_143 rfl (Nat.le_refl _) (Nat.le_refl _) ⟨_, rfl, _, _, rfl, rfl, h21⟩
                · refine pm_aloadn hG dX11_plan_104 rfl ?_
                  refine pm_getf hG dX11_plan_105 (flX11_60 _ rfl) rfl rfl ?_
                  refine pm_aloadn hG dX11_plan_108 rfl ?_
                  refine pm_getf hG dX11_plan_109 (flX11_74 _ rfl) rfl rfl ?_
                  refine pm_iloadn hG dX11_plan_112 rfl ?_
                  refine pm_iloadi hG dX11_plan_113 rfl ?_
                  refine pm_callV (As := [.int za, .int x15_4]) (rest := [.ref (B + 42)]) hG hR dX11_plan_115 (lkX11_338 _ rfl) okV_X8_numberAt rfl rfl (g_X8_numberAt (d := 2) (by decide) h15) rfl rfl hdd (Nat.le_refl _) (Nat.le_refl _) (by first | decide | exact Nat.le_of_ble_eq_true rfl) (pm_ki (fun v22 σ' cnt' hq => ?_))
                  obtain ⟨I22, A22, rfl, rfl, h22⟩ := hq
                  refine pm_callV (As := [.int v22]) (rest := []) hG hR dX11_plan_118 (lkX11_341 _ rfl) okV_X5_passQuarter rfl rfl (g_X5_passQuarter (d := 2) (by decide) h22) rfl rfl hdd (Nat.le_refl _) (Nat.le_refl _) (by decide) (pm_kv (fun σ' cnt' hq => ?_))
                  obtain ⟨I23, A23, rfl, rfl, h23⟩ := hq
                  refine pm_iincX (v := x15_4 + 1) (loc' := [some (.ref (B + 0)), some (.int za), some (.int zb), some (.int v5), some (.int (x15_4 + 1))]) hG dX11_plan_121 rfl (by rfl) (by decide) (pm_c1b rfl) rfl ?_
                  refine pm_goto (tgt := 98) hG dX11_plan_124 rfl ?_
                  exact ih98 _ _ (x15_4 + 1) h23 (pm_sd1 c16 s98) (Nat.lt_of_lt_of_le (pm_mu1 c16) (Nat.le_of_lt_succ hm98))
            exact loop98 _ _ _ 0 h14 (by decide) (Nat.lt_succ_self _)
          · refine pm_aloadn hG dX11_plan_81 rfl ?_
            refine pm_ldc hG dX11_plan_82 (ctX11_109 _ rfl) ?_
            refine pm_callV (As := [.int (-1000001)]) (rest := []) hG hR dX11_plan_84 (lkX11_97 _ rfl) okV_X11_told rfl rfl (sx_told (d := 2) (by decide) rfl rfl) rfl rfl hdd (Nat.le_refl _) (Nat.le_refl _) (by decide) (pm_ki (fun v24 σ' cnt' hq => ?_))
            obtain ⟨-, ⟨g24, hg24⟩, hc24⟩ := hq
            obtain ⟨I24, A24, rfl, rfl, h24⟩ := hv_a53 (kp := kp) (I := I12) (A := A12) h12 ⟨hg24, hc24⟩
            exact pm_iret hG hF dX11_plan_87 rfl (Nat.le_refl _) (Nat.le_refl _) ⟨_, rfl, _, _, rfl, rfl, h24⟩
    · refine pm_aloadn hG dX11_plan_29 rfl ?_
      refine pm_ldc hG dX11_plan_30 (ctX11_223 _ rfl) ?_
      refine pm_callV (As := [.int (-1000002)]) (rest := []) hG hR dX11_plan_32 (lkX11_97 _ rfl) okV_X11_told rfl rfl (sx_told (d := 2) (by decide) rfl rfl) rfl rfl hdd (Nat.le_refl _) (Nat.le_refl _) (by decide) (pm_ki (fun v25 σ' cnt' hq => ?_))
      obtain ⟨-, ⟨g25, hg25⟩, hc25⟩ := hq
      obtain ⟨I25, A25, rfl, rfl, h25⟩ := hv_a53 (kp := kp) (I := I3) (A := A3) h3 ⟨hg25, hc25⟩
      exact pm_iret hG hF dX11_plan_35 rfl (Nat.le_refl _) (Nat.le_refl _) ⟨_, rfl, _, _, rfl, rfl, h25⟩
  · refine pm_aloadn hG dX11_plan_11 rfl ?_
    refine pm_ldc hG dX11_plan_12 (ctX11_109 _ rfl) ?_
    refine pm_callV (As := [.int (-1000001)]) (rest := []) hG hR dX11_plan_14 (lkX11_97 _ rfl) okV_X11_told rfl rfl (sx_told (d := 2) (by decide) rfl rfl) rfl rfl hdd (Nat.le_refl _) (Nat.le_refl _) (by decide) (pm_ki (fun v26 σ' cnt' hq => ?_))
    obtain ⟨-, ⟨g26, hg26⟩, hc26⟩ := hq
    obtain ⟨I26, A26, rfl, rfl, h26⟩ := hv_a53 (kp := kp) (I := I1) (A := A1) h1 ⟨hg26, hc26⟩
    exact pm_iret hG hF dX11_plan_17 rfl (Nat.le_refl _) (Nat.le_refl _) ⟨_, rfl, _, _, rfl, rfl, h26⟩

set_option maxRecDepth 100000 in
set_option maxHeartbeats 4000000 in
theorem g_X11_power {ε : Nat → Int32} {d B cnt : Nat} {kp : Value} {ρ : pm_S} {I : Nat → Int32} {A : Nat → Nat → Int32} {za zb zc : Int32} (hdd : 3 ≤ d) (h : gq ε I) : pm_met mX11_power d 0 0 B [.ref (B + 0), .int za, .int zb, .int zc] cnt (pm_two (cl_L B kp I A) ρ) (pm_Qi (fun _ σ' cnt' => hvq ε B kp ρ cnt σ' cnt')) := by
  refine pm_enter 0 (by decide) (Nat.le_of_ble_eq_true rfl) rfl (fun G hG hR hF => ?_)
  refine pm_iloadn hG dX11_power_0 rfl ?_
  refine pm_iconst (v := 0) hG dX11_power_1 (by decide) ?_
  refine pm_iconst (v := 5) hG dX11_power_2 (by decide) ?_
  refine pm_callS (As := [.int za, .int 0, .int 5]) (rest := []) hG hR dX11_power_3 (lkX11_105 _ rfl) okS_X11_isOutside (sx_isOutside (d := 2)) rfl rfl hdd (Nat.le_refl _) (Nat.le_refl _) (by decide) (pm_ki (fun v1 σ' cnt' hq => ?_))
  have o1 := hq.1
  have b1 := pm_b10 hq.1
  obtain ⟨I1, A1, rfl, rfl, h1⟩ := hv_id (kp := kp) (I := I) (A := A) h hq.2
  refine pm_if_ne (tgt := 30) hG dX11_power_6 rfl (fun c2 => ?_) (fun c2 => ?_)
  · refine pm_aloadn hG dX11_power_30 rfl ?_
    refine pm_ldc hG dX11_power_31 (ctX11_109 _ rfl) ?_
    refine pm_callV (As := [.int (-1000001)]) (rest := []) hG hR dX11_power_33 (lkX11_97 _ rfl) okV_X11_told rfl rfl (sx_told (d := 2) (by decide) rfl rfl) rfl rfl hdd (Nat.le_refl _) (Nat.le_refl _) (by decide) (pm_ki (fun v3 σ' cnt' hq => ?_))
    obtain ⟨-, ⟨g3, hg3⟩, hc3⟩ := hq
    obtain ⟨I3, A3, rfl, rfl, h3⟩ := hv_a53 (kp := kp) (I := I1) (A := A1) h1 ⟨hg3, hc3⟩
    exact pm_iret hG hF dX11_power_36 rfl (Nat.le_refl _) (Nat.le_refl _) ⟨_, rfl, _, _, rfl, rfl, h3⟩
  · refine pm_aloadn hG dX11_power_9 rfl ?_
    refine pm_getf hG dX11_power_10 (flX11_12 _ rfl) rfl rfl ?_
    refine pm_iloadn hG dX11_power_13 rfl ?_
    refine pm_callV (As := [.int zb]) (rest := []) hG hR dX11_power_14 (lkX11_174 _ rfl) okV_X7_isLivingOrNobody rfl rfl (g_X7_isLivingOrNobody (d := 2) (by decide) h1) rfl rfl hdd (Nat.le_refl _) (Nat.le_refl _) (by decide) (pm_ki (fun v4 σ' cnt' hq => ?_))
    obtain ⟨b4, I4, A4, rfl, rfl, h4⟩ := hq
    refine pm_if_eq (tgt := 30) hG dX11_power_17 rfl (fun c5 => ?_) (fun c5 => ?_)
    · refine pm_aloadn hG dX11_power_30 rfl ?_
      refine pm_ldc hG dX11_power_31 (ctX11_109 _ rfl) ?_
      refine pm_callV (As := [.int (-1000001)]) (rest := []) hG hR dX11_power_33 (lkX11_97 _ rfl) okV_X11_told rfl rfl (sx_told (d := 2) (by decide) rfl rfl) rfl rfl hdd (Nat.le_refl _) (Nat.le_refl _) (by decide) (pm_ki (fun v6 σ' cnt' hq => ?_))
      obtain ⟨-, ⟨g6, hg6⟩, hc6⟩ := hq
      obtain ⟨I6, A6, rfl, rfl, h6⟩ := hv_a53 (kp := kp) (I := I4) (A := A4) h4 ⟨hg6, hc6⟩
      exact pm_iret hG hF dX11_power_36 rfl (Nat.le_refl _) (Nat.le_refl _) ⟨_, rfl, _, _, rfl, rfl, h6⟩
    · refine pm_iloadn hG dX11_power_20 rfl ?_
      refine pm_iconst (v := 0) hG dX11_power_21 (by decide) ?_
      refine pm_bipush (v := 99) hG dX11_power_22 (by decide) ?_
      refine pm_callS (As := [.int zc, .int 0, .int 99]) (rest := []) hG hR dX11_power_24 (lkX11_105 _ rfl) okS_X11_isOutside (sx_isOutside (d := 2)) rfl rfl hdd (Nat.le_refl _) (Nat.le_refl _) (by decide) (pm_ki (fun v7 σ' cnt' hq => ?_))
      have o7 := hq.1
      have b7 := pm_b10 hq.1
      obtain ⟨I7, A7, rfl, rfl, h7⟩ := hv_id (kp := kp) (I := I4) (A := A4) h4 hq.2
      refine pm_if_eq (tgt := 37) hG dX11_power_27 rfl (fun c8 => ?_) (fun c8 => ?_)
      · refine pm_aloadn hG dX11_power_37 rfl ?_
        refine pm_aloadn hG dX11_power_38 rfl ?_
        refine pm_getf hG dX11_power_39 (flX11_12 _ rfl) rfl rfl ?_
        refine pm_getf hG dX11_power_42 (flX11_161 _ rfl) rfl rfl ?_
        refine pm_callV (As := []) (rest := [.ref (B + 0)]) hG hR dX11_power_45 (lkX11_86 _ rfl) okV_X9_isFull rfl rfl (tb_isFull (d := 2) rfl) rfl rfl hdd (Nat.le_refl _) (Nat.le_refl _) (by first | decide | exact Nat.le_of_ble_eq_true rfl) (pm_ki (fun v9 σ' cnt' hq => ?_))
        have b9 := pm_b01 hq.1
        obtain ⟨I9, A9, rfl, rfl, h9⟩ := hv_id (kp := kp) (I := I7) (A := A7) h7 hq.2
        refine pm_if_eq (tgt := 56) hG dX11_power_48 rfl (fun c10 => ?_) (fun c10 => ?_)
        · refine pm_aloadn hG dX11_power_56 rfl ?_
          refine pm_getf hG dX11_power_57 (flX11_12 _ rfl) rfl rfl ?_
          refine pm_iloadn hG dX11_power_60 rfl ?_
          refine pm_iloadn hG dX11_power_61 rfl ?_
          refine pm_iloadn hG dX11_power_62 rfl ?_
          refine pm_callV (As := [.int za, .int zb, .int zc]) (rest := [.ref (B + 0)]) hG hR dX11_power_63 (lkX11_177 _ rfl) okV_X7_addPower rfl rfl (g_X7_addPower (d := 2) (by decide) h9) rfl rfl hdd (Nat.le_refl _) (Nat.le_refl _) (by first | decide | exact Nat.le_of_ble_eq_true rfl) (pm_ki (fun v11 σ' cnt' hq => ?_))
          obtain ⟨I11, A11, rfl, rfl, h11⟩ := hq
          refine pm_callV (As := [.int v11]) (rest := []) hG hR dX11_power_66 (lkX11_97 _ rfl) okV_X11_told rfl rfl (sx_told (d := 2) (by decide) rfl rfl) rfl rfl hdd (Nat.le_refl _) (Nat.le_refl _) (by decide) (pm_ki (fun v12 σ' cnt' hq => ?_))
          obtain ⟨-, ⟨g12, hg12⟩, hc12⟩ := hq
          obtain ⟨I12, A12, rfl, rfl, h12⟩ := hv_a53 (kp := kp) (I := I11) (A := A11) h11 ⟨hg12, hc12⟩
          exact pm_iret hG hF dX11_power_69 rfl (Nat.le_refl _) (Nat.le_refl _) ⟨_, rfl, _, _, rfl, rfl, h12⟩
        · refine pm_ldc hG dX11_power_51 (ctX11_92 _ rfl) ?_
          refine pm_goto (tgt := 66) hG dX11_power_53 rfl ?_
          refine pm_callV (As := [.int (-1000004)]) (rest := []) hG hR dX11_power_66 (lkX11_97 _ rfl) okV_X11_told rfl rfl (sx_told (d := 2) (by decide) rfl rfl) rfl rfl hdd (Nat.le_refl _) (Nat.le_refl _) (by decide) (pm_ki (fun v13 σ' cnt' hq => ?_))
          obtain ⟨-, ⟨g13, hg13⟩, hc13⟩ := hq
          obtain ⟨I13, A13, rfl, rfl, h13⟩ := hv_a53 (kp := kp) (I := I9) (A := A9) h9 ⟨hg13, hc13⟩
          exact pm_iret hG hF dX11_power_69 rfl (Nat.le_refl _) (Nat.le_refl _) ⟨_, rfl, _, _, rfl, rfl, h13⟩
      · refine pm_aloadn hG dX11_power_30 rfl ?_
        refine pm_ldc hG dX11_power_31 (ctX11_109 _ rfl) ?_
        refine pm_callV (As := [.int (-1000001)]) (rest := []) hG hR dX11_power_33 (lkX11_97 _ rfl) okV_X11_told rfl rfl (sx_told (d := 2) (by decide) rfl rfl) rfl rfl hdd (Nat.le_refl _) (Nat.le_refl _) (by decide) (pm_ki (fun v14 σ' cnt' hq => ?_))
        obtain ⟨-, ⟨g14, hg14⟩, hc14⟩ := hq
        obtain ⟨I14, A14, rfl, rfl, h14⟩ := hv_a53 (kp := kp) (I := I7) (A := A7) h7 ⟨hg14, hc14⟩
        exact pm_iret hG hF dX11_power_36 rfl (Nat.le_refl _) (Nat.le_refl _) ⟨_, rfl, _, _, rfl, rfl, h14⟩

set_option maxRecDepth 100000 in
set_option maxHeartbeats 4000000 in
theorem g_X3_handsWith {ε : Nat → Int32} {d B cnt : Nat} {kp : Value} {ρ : pm_S} {I : Nat → Int32} {A : Nat → Nat → Int32} {za : Int32} (hdd : 3 ≤ d) (h : gq ε I) : pm_met mX3_handsWith d 0 0 B [.ref (B + 36), .int za] cnt (pm_two (cl_L B kp I A) ρ) (pm_Qi (fun _ σ' cnt' => hvq ε B kp ρ cnt σ' cnt')) := by
  refine pm_enter 4 (by decide) (Nat.le_of_ble_eq_true rfl) rfl (fun G hG hR hF => ?_)
  refine pm_iconst (v := 0) hG dX3_handsWith_0 (by decide) ?_
  refine pm_istoreXn (loc' := [some (.ref (B + 36)), some (.int za), some (.int 0), none, none, none]) hG dX3_handsWith_1 (by decide) (pm_c1b rfl) rfl ?_
  refine pm_aloadn hG dX3_handsWith_2 rfl ?_
  refine pm_getf hG dX3_handsWith_3 (flX3_9 _ rfl) rfl rfl ?_
  refine pm_getf hG dX3_handsWith_6 (flX3_63 _ rfl) rfl rfl ?_
  refine pm_callV (As := []) (rest := []) hG hR dX3_handsWith_9 (lkX3_74 _ rfl) okV_X9_used rfl rfl (tb_used (d := 2) rfl) rfl rfl hdd (Nat.le_refl _) (Nat.le_refl _) (by decide) (pm_ki (fun v1 σ' cnt' hq => ?_))
  obtain ⟨I1, A1, rfl, rfl, h1⟩ := hv_id (kp := kp) (I := I) (A := A) h hq.2
  refine pm_istoreXn (loc' := [some (.ref (B + 36)), some (.int za), some (.int 0), some (.int v1), none, none]) hG dX3_handsWith_12 (by decide) (pm_c1b rfl) rfl ?_
  refine pm_iconst (v := 0) hG dX3_handsWith_13 (by decide) ?_
  refine pm_istoreXi (loc' := [some (.ref (B + 36)), some (.int za), some (.int 0), some (.int v1), some (.int 0), none]) hG dX3_handsWith_14 (by decide) (pm_c1b rfl) rfl ?_
  have loop16 : ∀ (m16 : Nat) (I2 : Nat → Int32) (A2 : Nat → Nat → Int32) (x2_2 x2_4 : Int32), gq ε I2 → (¬ x2_4 < 0) → ((v1 : Int32).toInt - x2_4.toInt).toNat < m16 → pm_wp mX3_handsWith G B 16 [some (.ref (B + 36)), some (.int za), some (.int x2_2), some (.int v1), some (.int x2_4), none] [] 0 0 cnt (pm_two (cl_L B kp I2 A2) ρ) := by
    intro m16
    induction m16 with
    | zero => intro I2 A2 x2_2 x2_4 _  _ hm; exact absurd hm (Nat.not_lt_zero _)
    | succ m16 ih16 =>
      intro I2 A2 x2_2 x2_4 h2 s16 hm16
      refine pm_iloadi hG dX3_handsWith_16 rfl ?_
      refine pm_iloadn hG dX3_handsWith_18 rfl ?_
      refine pm_icmp_ge (tgt := 68) hG dX3_handsWith_19 rfl (fun c3 => ?_) (fun c3 => ?_)
      · refine pm_iloadn hG dX3_handsWith_68 rfl ?_
        exact pm_iret hG hF dX3_handsWith_69 rfl (Nat.le_refl _) (Nat.le_refl _) ⟨_, rfl, _, _, rfl, rfl, h2⟩
      · refine pm_aloadn hG dX3_handsWith_22 rfl ?_
        refine pm_getf hG dX3_handsWith_23 (flX3_9 _ rfl) rfl rfl ?_
        refine pm_iloadi hG dX3_handsWith_26 rfl ?_
        refine pm_callV (As := [.int x2_4]) (rest := []) hG hR dX3_handsWith_28 (lkX3_52 _ rfl) okV_X7_whoHas rfl rfl (g_X7_whoHas (d := 2) (by decide) h2) rfl rfl hdd (Nat.le_refl _) (Nat.le_refl _) (by decide) (pm_ki (fun v4 σ' cnt' hq => ?_))
        obtain ⟨I4, A4, rfl, rfl, h4⟩ := hq
        refine pm_istoreXi (loc' := [some (.ref (B + 36)), some (.int za), some (.int x2_2), some (.int v1), some (.int x2_4), some (.int v4)]) hG dX3_handsWith_31 (by decide) (pm_c1b rfl) rfl ?_
        refine pm_iloadi hG dX3_handsWith_33 rfl ?_
        refine pm_if_lt (tgt := 62) hG dX3_handsWith_35 rfl (fun c5 => ?_) (fun c5 => ?_)
        · refine pm_iincX (v := x2_4 + 1) (loc' := [some (.ref (B + 36)), some (.int za), some (.int x2_2), some (.int v1), some (.int (x2_4 + 1)), some (.int v4)]) hG dX3_handsWith_62 rfl (by rfl) (by decide) (pm_c1b rfl) rfl ?_
          refine pm_goto (tgt := 16) hG dX3_handsWith_65 rfl ?_
          refine pm_fg 5 (loc' := [some (.ref (B + 36)), some (.int za), some (.int x2_2), some (.int v1), some (.int (x2_4 + 1)), none]) rfl ?_
          exact ih16 _ _ x2_2 (x2_4 + 1) h4 (pm_sd1 c3 s16) (Nat.lt_of_lt_of_le (pm_mu1 c3) (Nat.le_of_lt_succ hm16))
        · refine pm_aloadn hG dX3_handsWith_38 rfl ?_
          refine pm_getf hG dX3_handsWith_39 (flX3_9 _ rfl) rfl rfl ?_
          refine pm_getf hG dX3_handsWith_42 (flX3_63 _ rfl) rfl rfl ?_
          refine pm_iloadi hG dX3_handsWith_45 rfl ?_
          refine pm_iconst (v := 5) hG dX3_handsWith_47 (by decide) ?_
          refine pm_callV (As := [.int x2_4, .int 5]) (rest := []) hG hR dX3_handsWith_48 (lkX3_35 _ rfl) okV_X9_get rfl rfl (tb_get (d := 2) rfl rfl (pm_tw_of 20 6 (by decide) (by decide) (by decide))) rfl rfl hdd (Nat.le_refl _) (Nat.le_refl _) (by decide) (pm_ki (fun v6 σ' cnt' hq => ?_))
          obtain ⟨I6, A6, rfl, rfl, h6⟩ := hv_id (kp := kp) (I := I4) (A := A4) h4 hq.2
          refine pm_iloadn hG dX3_handsWith_51 rfl ?_
          refine pm_icmp_ne (tgt := 62) hG dX3_handsWith_52 rfl (fun c7 => ?_) (fun c7 => ?_)
          · refine pm_iincX (v := x2_4 + 1) (loc' := [some (.ref (B + 36)), some (.int za), some (.int x2_2), some (.int v1), some (.int (x2_4 + 1)), some (.int v4)]) hG dX3_handsWith_62 rfl (by rfl) (by decide) (pm_c1b rfl) rfl ?_
            refine pm_goto (tgt := 16) hG dX3_handsWith_65 rfl ?_
            refine pm_fg 5 (loc' := [some (.ref (B + 36)), some (.int za), some (.int x2_2), some (.int v1), some (.int (x2_4 + 1)), none]) rfl ?_
            exact ih16 _ _ x2_2 (x2_4 + 1) h6 (pm_sd1 c3 s16) (Nat.lt_of_lt_of_le (pm_mu1 c3) (Nat.le_of_lt_succ hm16))
          · refine pm_iloadn hG dX3_handsWith_55 rfl ?_
            refine pm_iconst (v := 1) hG dX3_handsWith_56 (by decide) ?_
            refine pm_iloadi hG dX3_handsWith_57 rfl ?_
            refine pm_ishl hG dX3_handsWith_59 ?_
            refine pm_ior hG dX3_handsWith_60 ?_
            refine pm_istoreXn (loc' := [some (.ref (B + 36)), some (.int za), some (.int (x2_2 ||| (1 <<< (v4 &&& 31)))), some (.int v1), some (.int x2_4), some (.int v4)]) hG dX3_handsWith_61 (by decide) (pm_c1b rfl) rfl ?_
            refine pm_iincX (v := x2_4 + 1) (loc' := [some (.ref (B + 36)), some (.int za), some (.int (x2_2 ||| (1 <<< (v4 &&& 31)))), some (.int v1), some (.int (x2_4 + 1)), some (.int v4)]) hG dX3_handsWith_62 rfl (by rfl) (by decide) (pm_c1b rfl) rfl ?_
            refine pm_goto (tgt := 16) hG dX3_handsWith_65 rfl ?_
            refine pm_fg 5 (loc' := [some (.ref (B + 36)), some (.int za), some (.int (x2_2 ||| (1 <<< (v4 &&& 31)))), some (.int v1), some (.int (x2_4 + 1)), none]) rfl ?_
            exact ih16 _ _ (x2_2 ||| (1 <<< (v4 &&& 31))) (x2_4 + 1) h6 (pm_sd1 c3 s16) (Nat.lt_of_lt_of_le (pm_mu1 c3) (Nat.le_of_lt_succ hm16))
  exact loop16 _ _ _ 0 0 h1 (by decide) (Nat.lt_succ_self _)

set_option maxRecDepth 100000 in
set_option maxHeartbeats 4000000 in
theorem g_X3_mark {ε : Nat → Int32} {d B cnt : Nat} {kp : Value} {ρ : pm_S} {I : Nat → Int32} {A : Nat → Nat → Int32} {za zb : Int32} (hdd : 4 ≤ d) (h : gq ε I) : pm_met mX3_mark d 0 0 B [.ref (B + 36), .int za, .int zb] cnt (pm_two (cl_L B kp I A) ρ) (pm_Qi (fun _ σ' cnt' => hvq ε B kp ρ cnt σ' cnt')) := by
  refine pm_enter 5 (by decide) (Nat.le_of_ble_eq_true rfl) rfl (fun G hG hR hF => ?_)
  refine pm_aloadn hG dX3_mark_0 rfl ?_
  refine pm_getf hG dX3_mark_1 (flX3_9 _ rfl) rfl rfl ?_
  refine pm_iloadn hG dX3_mark_4 rfl ?_
  refine pm_callV (As := [.int zb]) (rest := []) hG hR dX3_mark_5 (lkX3_52 _ rfl) okV_X7_whoHas rfl rfl (g_X7_whoHas (d := 3) (by decide) h) rfl rfl hdd (Nat.le_refl _) (Nat.le_refl _) (by decide) (pm_ki (fun v1 σ' cnt' hq => ?_))
  obtain ⟨I1, A1, rfl, rfl, h1⟩ := hq
  refine pm_istoreXn (loc' := [some (.ref (B + 36)), some (.int za), some (.int zb), some (.int v1), none, none, none, none]) hG dX3_mark_8 (by decide) (pm_c1b rfl) rfl ?_
  refine pm_aloadn hG dX3_mark_9 rfl ?_
  refine pm_getf hG dX3_mark_10 (flX3_29 _ rfl) rfl rfl ?_
  refine pm_iloadn hG dX3_mark_13 rfl ?_
  refine pm_iconst (v := 3) hG dX3_mark_14 (by decide) ?_
  refine pm_callV (As := [.int za, .int 3]) (rest := []) hG hR dX3_mark_15 (lkX3_35 _ rfl) okV_X9_get rfl rfl (tb_get (d := 3) rfl rfl (pm_tw_of 40 12 (by decide) (by decide) (by decide))) rfl rfl hdd (Nat.le_refl _) (Nat.le_refl _) (by decide) (pm_ki (fun v2 σ' cnt' hq => ?_))
  obtain ⟨I2, A2, rfl, rfl, h2⟩ := hv_id (kp := kp) (I := I1) (A := A1) h1 hq.2
  refine pm_istoreXi (loc' := [some (.ref (B + 36)), some (.int za), some (.int zb), some (.int v1), some (.int v2), none, none, none]) hG dX3_mark_18 (by decide) (pm_c1b rfl) rfl ?_
  refine pm_aloadn hG dX3_mark_20 rfl ?_
  refine pm_iloadn hG dX3_mark_21 rfl ?_
  refine pm_callV (As := [.int za]) (rest := []) hG hR dX3_mark_22 (lkX3_55 _ rfl) okV_X3_isSent rfl rfl (g_X3_isSent (d := 3) (by decide) h2) rfl rfl hdd (Nat.le_refl _) (Nat.le_refl _) (by decide) (pm_ki (fun v3 σ' cnt' hq => ?_))
  obtain ⟨b3, I3, A3, rfl, rfl, h3⟩ := hq
  refine pm_if_ne (tgt := 56) hG dX3_mark_25 rfl (fun c4 => ?_) (fun c4 => ?_)
  · refine pm_ldc hG dX3_mark_56 (ctX3_62 _ rfl) ?_
    exact pm_iret hG hF dX3_mark_58 rfl (Nat.le_refl _) (Nat.le_refl _) ⟨_, rfl, _, _, rfl, rfl, h3⟩
  · refine pm_aloadn hG dX3_mark_28 rfl ?_
    refine pm_getf hG dX3_mark_29 (flX3_9 _ rfl) rfl rfl ?_
    refine pm_iloadn hG dX3_mark_32 rfl ?_
    refine pm_callV (As := [.int v1]) (rest := []) hG hR dX3_mark_33 (lkX3_59 _ rfl) okV_X7_isInTown rfl rfl (g_X7_isInTown (d := 3) (by decide) h3) rfl rfl hdd (Nat.le_refl _) (Nat.le_refl _) (by decide) (pm_ki (fun v5 σ' cnt' hq => ?_))
    obtain ⟨b5, I5, A5, rfl, rfl, h5⟩ := hq
    refine pm_if_eq (tgt := 56) hG dX3_mark_36 rfl (fun c6 => ?_) (fun c6 => ?_)
    · refine pm_ldc hG dX3_mark_56 (ctX3_62 _ rfl) ?_
      exact pm_iret hG hF dX3_mark_58 rfl (Nat.le_refl _) (Nat.le_refl _) ⟨_, rfl, _, _, rfl, rfl, h5⟩
    · refine pm_aloadn hG dX3_mark_39 rfl ?_
      refine pm_getf hG dX3_mark_40 (flX3_9 _ rfl) rfl rfl ?_
      refine pm_getf hG dX3_mark_43 (flX3_32 _ rfl) rfl rfl ?_
      refine pm_iloadn hG dX3_mark_46 rfl ?_
      refine pm_iconst (v := 4) hG dX3_mark_47 (by decide) ?_
      refine pm_callV (As := [.int v1, .int 4]) (rest := []) hG hR dX3_mark_48 (lkX3_35 _ rfl) okV_X9_get rfl rfl (tb_get (d := 3) rfl rfl (pm_tw_of 20 14 (by decide) (by decide) (by decide))) rfl rfl hdd (Nat.le_refl _) (Nat.le_refl _) (by decide) (pm_ki (fun v7 σ' cnt' hq => ?_))
      obtain ⟨I7, A7, rfl, rfl, h7⟩ := hv_id (kp := kp) (I := I5) (A := A5) h5 hq.2
      refine pm_iloadi hG dX3_mark_51 rfl ?_
      refine pm_icmp_eq (tgt := 59) hG dX3_mark_53 rfl (fun c8 => ?_) (fun c8 => ?_)
      · refine pm_aloadn hG dX3_mark_59 rfl ?_
        refine pm_getf hG dX3_mark_60 (flX3_9 _ rfl) rfl rfl ?_
        refine pm_getf hG dX3_mark_63 (flX3_63 _ rfl) rfl rfl ?_
        refine pm_iloadn hG dX3_mark_66 rfl ?_
        refine pm_iconst (v := 5) hG dX3_mark_67 (by decide) ?_
        refine pm_callV (As := [.int zb, .int 5]) (rest := []) hG hR dX3_mark_68 (lkX3_35 _ rfl) okV_X9_get rfl rfl (tb_get (d := 3) rfl rfl (pm_tw_of 20 6 (by decide) (by decide) (by decide))) rfl rfl hdd (Nat.le_refl _) (Nat.le_refl _) (by decide) (pm_ki (fun v9 σ' cnt' hq => ?_))
        obtain ⟨I9, A9, rfl, rfl, h9⟩ := hv_id (kp := kp) (I := I7) (A := A7) h7 hq.2
        refine pm_istoreXi (loc' := [some (.ref (B + 36)), some (.int za), some (.int zb), some (.int v1), some (.int v2), some (.int v9), none, none]) hG dX3_mark_71 (by decide) (pm_c1b rfl) rfl ?_
        refine pm_aloadn hG dX3_mark_73 rfl ?_
        refine pm_getf hG dX3_mark_74 (flX3_29 _ rfl) rfl rfl ?_
        refine pm_iloadn hG dX3_mark_77 rfl ?_
        refine pm_iconst (v := 4) hG dX3_mark_78 (by decide) ?_
        refine pm_callV (As := [.int za, .int 4]) (rest := []) hG hR dX3_mark_79 (lkX3_35 _ rfl) okV_X9_get rfl rfl (tb_get (d := 3) rfl rfl (pm_tw_of 40 12 (by decide) (by decide) (by decide))) rfl rfl hdd (Nat.le_refl _) (Nat.le_refl _) (by decide) (pm_ki (fun v10 σ' cnt' hq => ?_))
        obtain ⟨I10, A10, rfl, rfl, h10⟩ := hv_id (kp := kp) (I := I9) (A := A9) h9 hq.2
        refine pm_istoreXi (loc' := [some (.ref (B + 36)), some (.int za), some (.int zb), some (.int v1), some (.int v2), some (.int v9), some (.int v10), none]) hG dX3_mark_82 (by decide) (pm_c1b rfl) rfl ?_
        refine pm_aloadn hG dX3_mark_84 rfl ?_
        refine pm_iloadi hG dX3_mark_85 rfl ?_
        refine pm_callV (As := [.int v9]) (rest := []) hG hR dX3_mark_87 (lkX3_66 _ rfl) okV_X3_handsWith rfl rfl (g_X3_handsWith (d := 3) (by decide) h10) rfl rfl hdd (Nat.le_refl _) (Nat.le_refl _) (by decide) (pm_ki (fun v11 σ' cnt' hq => ?_))
        obtain ⟨I11, A11, rfl, rfl, h11⟩ := hq
        refine pm_aloadn hG dX3_mark_90 rfl ?_
        refine pm_getf hG dX3_mark_91 (flX3_9 _ rfl) rfl rfl ?_
        refine pm_iloadi hG dX3_mark_94 rfl ?_
        refine pm_callV (As := [.int v2]) (rest := [.int v11]) hG hR dX3_mark_96 (lkX3_49 _ rfl) okV_X7_livingIn rfl rfl (g_X7_livingIn (d := 3) (by decide) h11) rfl rfl hdd (Nat.le_refl _) (Nat.le_refl _) (by first | decide | exact Nat.le_of_ble_eq_true rfl) (pm_ki (fun v12 σ' cnt' hq => ?_))
        obtain ⟨I12, A12, rfl, rfl, h12⟩ := hq
        refine pm_iand hG dX3_mark_99 ?_
        refine pm_istoreXi (loc' := [some (.ref (B + 36)), some (.int za), some (.int zb), some (.int v1), some (.int v2), some (.int v9), some (.int v10), some (.int (v11 &&& v12))]) hG dX3_mark_100 (by decide) (pm_c1b rfl) rfl ?_
        refine pm_aloadn hG dX3_mark_102 rfl ?_
        refine pm_getf hG dX3_mark_103 (flX3_29 _ rfl) rfl rfl ?_
        refine pm_iloadn hG dX3_mark_106 rfl ?_
        refine pm_iconst (v := 5) hG dX3_mark_107 (by decide) ?_
        refine pm_iloadi hG dX3_mark_108 rfl ?_
        refine pm_if_ne (tgt := 118) hG dX3_mark_110 rfl (fun c13 => ?_) (fun c13 => ?_)
        · refine pm_aloadn hG dX3_mark_118 rfl ?_
          refine pm_getf hG dX3_mark_119 (flX3_29 _ rfl) rfl rfl ?_
          refine pm_iloadn hG dX3_mark_122 rfl ?_
          refine pm_iconst (v := 5) hG dX3_mark_123 (by decide) ?_
          refine pm_callV (As := [.int za, .int 5]) (rest := [.int 5, .int za, .ref (B + 14)]) hG hR dX3_mark_124 (lkX3_35 _ rfl) okV_X9_get rfl rfl (tb_get (d := 3) rfl rfl (pm_tw_of 40 12 (by decide) (by decide) (by decide))) rfl rfl hdd (Nat.le_refl _) (Nat.le_refl _) (by first | decide | exact Nat.le_of_ble_eq_true rfl) (pm_ki (fun v14 σ' cnt' hq => ?_))
          obtain ⟨I14, A14, rfl, rfl, h14⟩ := hv_id (kp := kp) (I := I12) (A := A12) h12 hq.2
          refine pm_iloadi hG dX3_mark_127 rfl ?_
          refine pm_iand hG dX3_mark_129 ?_
          refine pm_callV (As := [.int za, .int 5, .int (v14 &&& (v11 &&& v12))]) (rest := []) hG hR dX3_mark_130 (lkX3_45 _ rfl) okV_X9_set rfl rfl (tb_set (d := 3) rfl rfl (pm_tw_of 40 12 (by decide) (by decide) (by decide)) (by decide)) rfl rfl hdd (Nat.le_refl _) (Nat.le_refl _) (by decide) (pm_kv (fun σ' cnt' hq => ?_))
          obtain ⟨I15, A15, rfl, rfl, h15⟩ := hv_a15 (kp := kp) (I := I14) (A := A14) h14 hq
          refine pm_aloadn hG dX3_mark_133 rfl ?_
          refine pm_getf hG dX3_mark_134 (flX3_29 _ rfl) rfl rfl ?_
          refine pm_iloadn hG dX3_mark_137 rfl ?_
          refine pm_iconst (v := 4) hG dX3_mark_138 (by decide) ?_
          refine pm_iloadi hG dX3_mark_139 rfl ?_
          refine pm_iconst (v := 1) hG dX3_mark_141 (by decide) ?_
          refine pm_iloadi hG dX3_mark_142 rfl ?_
          refine pm_ishl hG dX3_mark_144 ?_
          refine pm_ior hG dX3_mark_145 ?_
          refine pm_callV (As := [.int za, .int 4, .int (v10 ||| (1 <<< (v9 &&& 31)))]) (rest := []) hG hR dX3_mark_146 (lkX3_45 _ rfl) okV_X9_set rfl rfl (tb_set (d := 3) rfl rfl (pm_tw_of 40 12 (by decide) (by decide) (by decide)) (by decide)) rfl rfl hdd (Nat.le_refl _) (Nat.le_refl _) (by decide) (pm_kv (fun σ' cnt' hq => ?_))
          obtain ⟨I16, A16, rfl, rfl, h16⟩ := hv_a15 (kp := kp) (I := I15) (A := A15) h15 hq
          refine pm_aloadn hG dX3_mark_149 rfl ?_
          refine pm_getf hG dX3_mark_150 (flX3_29 _ rfl) rfl rfl ?_
          refine pm_iloadn hG dX3_mark_153 rfl ?_
          refine pm_iconst (v := 4) hG dX3_mark_154 (by decide) ?_
          refine pm_callV (As := [.int za, .int 4]) (rest := []) hG hR dX3_mark_155 (lkX3_35 _ rfl) okV_X9_get rfl rfl (tb_get (d := 3) rfl rfl (pm_tw_of 40 12 (by decide) (by decide) (by decide))) rfl rfl hdd (Nat.le_refl _) (Nat.le_refl _) (by decide) (pm_ki (fun v17 σ' cnt' hq => ?_))
          obtain ⟨I17, A17, rfl, rfl, h17⟩ := hv_id (kp := kp) (I := I16) (A := A16) h16 hq.2
          refine pm_callS (As := [.int v17]) (rest := []) hG hR dX3_mark_158 (lkX3_69 _ rfl) okS_J6_bitCount_0f7a4 (gj_bitCount (d := 3)) rfl rfl hdd (Nat.le_refl _) (Nat.le_refl _) (by decide) (pm_ki (fun v18 σ' cnt' hq => ?_))
          obtain ⟨I18, A18, rfl, rfl, h18⟩ := hv_id (kp := kp) (I := I17) (A := A17) h17 hq
          exact pm_iret hG hF dX3_mark_161 rfl (Nat.le_refl _) (Nat.le_refl _) ⟨_, rfl, _, _, rfl, rfl, h18⟩
        · refine pm_iloadi hG dX3_mark_113 rfl ?_
          refine pm_goto (tgt := 130) hG dX3_mark_115 rfl ?_
          refine pm_callV (As := [.int za, .int 5, .int (v11 &&& v12)]) (rest := []) hG hR dX3_mark_130 (lkX3_45 _ rfl) okV_X9_set rfl rfl (tb_set (d := 3) rfl rfl (pm_tw_of 40 12 (by decide) (by decide) (by decide)) (by decide)) rfl rfl hdd (Nat.le_refl _) (Nat.le_refl _) (by decide) (pm_kv (fun σ' cnt' hq => ?_))
          obtain ⟨I19, A19, rfl, rfl, h19⟩ := hv_a15 (kp := kp) (I := I12) (A := A12) h12 hq
          refine pm_aloadn hG dX3_mark_133 rfl ?_
          refine pm_getf hG dX3_mark_134 (flX3_29 _ rfl) rfl rfl ?_
          refine pm_iloadn hG dX3_mark_137 rfl ?_
          refine pm_iconst (v := 4) hG dX3_mark_138 (by decide) ?_
          refine pm_iloadi hG dX3_mark_139 rfl ?_
          refine pm_iconst (v := 1) hG dX3_mark_141 (by decide) ?_
          refine pm_iloadi hG dX3_mark_142 rfl ?_
          refine pm_ishl hG dX3_mark_144 ?_
          refine pm_ior hG dX3_mark_145 ?_
          refine pm_callV (As := [.int za, .int 4, .int (v10 ||| (1 <<< (v9 &&& 31)))]) (rest := []) hG hR dX3_mark_146 (lkX3_45 _ rfl) okV_X9_set rfl rfl (tb_set (d := 3) rfl rfl (pm_tw_of 40 12 (by decide) (by decide) (by decide)) (by decide)) rfl rfl hdd (Nat.le_refl _) (Nat.le_refl _) (by decide) (pm_kv (fun σ' cnt' hq => ?_))
          obtain ⟨I20, A20, rfl, rfl, h20⟩ := hv_a15 (kp := kp) (I := I19) (A := A19) h19 hq
          refine pm_aloadn hG dX3_mark_149 rfl ?_
          refine pm_getf hG dX3_mark_150 (flX3_29 _ rfl) rfl rfl ?_
          refine pm_iloadn hG dX3_mark_153 rfl ?_
          refine pm_iconst (v := 4) hG dX3_mark_154 (by decide) ?_
          refine pm_callV (As := [.int za, .int 4]) (rest := []) hG hR dX3_mark_155 (lkX3_35 _ rfl) okV_X9_get rfl rfl (tb_get (d := 3) rfl rfl (pm_tw_of 40 12 (by decide) (by decide) (by decide))) rfl rfl hdd (Nat.le_refl _) (Nat.le_refl _) (by decide) (pm_ki (fun v21 σ' cnt' hq => ?_))
          obtain ⟨I21, A21, rfl, rfl, h21⟩ := hv_id (kp := kp) (I := I20) (A := A20) h20 hq.2
          refine pm_callS (As := [.int v21]) (rest := []) hG hR dX3_mark_158 (lkX3_69 _ rfl) okS_J6_bitCount_0f7a4 (gj_bitCount (d := 3)) rfl rfl hdd (Nat.le_refl _) (Nat.le_refl _) (by decide) (pm_ki (fun v22 σ' cnt' hq => ?_))
          obtain ⟨I22, A22, rfl, rfl, h22⟩ := hv_id (kp := kp) (I := I21) (A := A21) h21 hq
          exact pm_iret hG hF dX3_mark_161 rfl (Nat.le_refl _) (Nat.le_refl _) ⟨_, rfl, _, _, rfl, rfl, h22⟩
      · refine pm_ldc hG dX3_mark_56 (ctX3_62 _ rfl) ?_
        exact pm_iret hG hF dX3_mark_58 rfl (Nat.le_refl _) (Nat.le_refl _) ⟨_, rfl, _, _, rfl, rfl, h7⟩

set_option maxRecDepth 100000 in
set_option maxHeartbeats 4000000 in
theorem g_X11_press {ε : Nat → Int32} {d B cnt : Nat} {kp : Value} {ρ : pm_S} {I : Nat → Int32} {A : Nat → Nat → Int32} {za zb : Int32} (hdd : 5 ≤ d) (h : gq ε I) : pm_met mX11_press d 0 0 B [.ref (B + 0), .int za, .int zb] cnt (pm_two (cl_L B kp I A) ρ) (pm_Qi (fun _ σ' cnt' => hvq ε B kp ρ cnt σ' cnt')) := by
  refine pm_enter 0 (by decide) (Nat.le_of_ble_eq_true rfl) rfl (fun G hG hR hF => ?_)
  refine pm_aloadn hG dX11_press_0 rfl ?_
  refine pm_getf hG dX11_press_1 (flX11_12 _ rfl) rfl rfl ?_
  refine pm_getf hG dX11_press_4 (flX11_224 _ rfl) rfl rfl ?_
  refine pm_iloadn hG dX11_press_7 rfl ?_
  refine pm_callV (As := [.int za]) (rest := []) hG hR dX11_press_8 (lkX11_101 _ rfl) okV_X9_has rfl rfl (tb_has (d := 4) rfl) rfl rfl hdd (Nat.le_refl _) (Nat.le_refl _) (by decide) (pm_ki (fun v1 σ' cnt' hq => ?_))
  have b1 := pm_b01 hq.1
  obtain ⟨I1, A1, rfl, rfl, h1⟩ := hv_id (kp := kp) (I := I) (A := A) h hq.2
  refine pm_if_eq (tgt := 28) hG dX11_press_11 rfl (fun c2 => ?_) (fun c2 => ?_)
  · refine pm_aloadn hG dX11_press_28 rfl ?_
    refine pm_ldc hG dX11_press_29 (ctX11_109 _ rfl) ?_
    refine pm_callV (As := [.int (-1000001)]) (rest := []) hG hR dX11_press_31 (lkX11_97 _ rfl) okV_X11_told rfl rfl (sx_told (d := 4) (by decide) rfl rfl) rfl rfl hdd (Nat.le_refl _) (Nat.le_refl _) (by decide) (pm_ki (fun v3 σ' cnt' hq => ?_))
    obtain ⟨-, ⟨g3, hg3⟩, hc3⟩ := hq
    obtain ⟨I3, A3, rfl, rfl, h3⟩ := hv_a53 (kp := kp) (I := I1) (A := A1) h1 ⟨hg3, hc3⟩
    exact pm_iret hG hF dX11_press_34 rfl (Nat.le_refl _) (Nat.le_refl _) ⟨_, rfl, _, _, rfl, rfl, h3⟩
  · refine pm_aloadn hG dX11_press_14 rfl ?_
    refine pm_getf hG dX11_press_15 (flX11_12 _ rfl) rfl rfl ?_
    refine pm_getf hG dX11_press_18 (flX11_161 _ rfl) rfl rfl ?_
    refine pm_iloadn hG dX11_press_21 rfl ?_
    refine pm_callV (As := [.int zb]) (rest := []) hG hR dX11_press_22 (lkX11_101 _ rfl) okV_X9_has rfl rfl (tb_has (d := 4) rfl) rfl rfl hdd (Nat.le_refl _) (Nat.le_refl _) (by decide) (pm_ki (fun v4 σ' cnt' hq => ?_))
    have b4 := pm_b01 hq.1
    obtain ⟨I4, A4, rfl, rfl, h4⟩ := hv_id (kp := kp) (I := I1) (A := A1) h1 hq.2
    refine pm_if_ne (tgt := 35) hG dX11_press_25 rfl (fun c5 => ?_) (fun c5 => ?_)
    · refine pm_aloadn hG dX11_press_35 rfl ?_
      refine pm_aloadn hG dX11_press_36 rfl ?_
      refine pm_getf hG dX11_press_37 (flX11_12 _ rfl) rfl rfl ?_
      refine pm_iloadn hG dX11_press_40 rfl ?_
      refine pm_iconst (v := 2) hG dX11_press_41 (by decide) ?_
      refine pm_callV (As := [.int zb, .int 2]) (rest := [.ref (B + 0)]) hG hR dX11_press_42 (lkX11_180 _ rfl) okV_X7_isOfKind rfl rfl (g_X7_isOfKind (d := 4) (by decide) h4) rfl rfl hdd (Nat.le_refl _) (Nat.le_refl _) (by first | decide | exact Nat.le_of_ble_eq_true rfl) (pm_ki (fun v6 σ' cnt' hq => ?_))
      obtain ⟨b6, I6, A6, rfl, rfl, h6⟩ := hq
      refine pm_if_eq (tgt := 60) hG dX11_press_45 rfl (fun c7 => ?_) (fun c7 => ?_)
      · refine pm_ldc hG dX11_press_60 (ctX11_184 _ rfl) ?_
        refine pm_callV (As := [.int (-1000005)]) (rest := []) hG hR dX11_press_62 (lkX11_97 _ rfl) okV_X11_told rfl rfl (sx_told (d := 4) (by decide) rfl rfl) rfl rfl hdd (Nat.le_refl _) (Nat.le_refl _) (by decide) (pm_ki (fun v8 σ' cnt' hq => ?_))
        obtain ⟨-, ⟨g8, hg8⟩, hc8⟩ := hq
        obtain ⟨I8, A8, rfl, rfl, h8⟩ := hv_a53 (kp := kp) (I := I6) (A := A6) h6 ⟨hg8, hc8⟩
        exact pm_iret hG hF dX11_press_65 rfl (Nat.le_refl _) (Nat.le_refl _) ⟨_, rfl, _, _, rfl, rfl, h8⟩
      · refine pm_aloadn hG dX11_press_48 rfl ?_
        refine pm_getf hG dX11_press_49 (flX11_39 _ rfl) rfl rfl ?_
        refine pm_iloadn hG dX11_press_52 rfl ?_
        refine pm_iloadn hG dX11_press_53 rfl ?_
        refine pm_callV (As := [.int za, .int zb]) (rest := [.ref (B + 0)]) hG hR dX11_press_54 (lkX11_233 _ rfl) okV_X3_mark rfl rfl (g_X3_mark (d := 4) (by decide) h6) rfl rfl hdd (Nat.le_refl _) (Nat.le_refl _) (by first | decide | exact Nat.le_of_ble_eq_true rfl) (pm_ki (fun v9 σ' cnt' hq => ?_))
        obtain ⟨I9, A9, rfl, rfl, h9⟩ := hq
        refine pm_goto (tgt := 62) hG dX11_press_57 rfl ?_
        refine pm_callV (As := [.int v9]) (rest := []) hG hR dX11_press_62 (lkX11_97 _ rfl) okV_X11_told rfl rfl (sx_told (d := 4) (by decide) rfl rfl) rfl rfl hdd (Nat.le_refl _) (Nat.le_refl _) (by decide) (pm_ki (fun v10 σ' cnt' hq => ?_))
        obtain ⟨-, ⟨g10, hg10⟩, hc10⟩ := hq
        obtain ⟨I10, A10, rfl, rfl, h10⟩ := hv_a53 (kp := kp) (I := I9) (A := A9) h9 ⟨hg10, hc10⟩
        exact pm_iret hG hF dX11_press_65 rfl (Nat.le_refl _) (Nat.le_refl _) ⟨_, rfl, _, _, rfl, rfl, h10⟩
    · refine pm_aloadn hG dX11_press_28 rfl ?_
      refine pm_ldc hG dX11_press_29 (ctX11_109 _ rfl) ?_
      refine pm_callV (As := [.int (-1000001)]) (rest := []) hG hR dX11_press_31 (lkX11_97 _ rfl) okV_X11_told rfl rfl (sx_told (d := 4) (by decide) rfl rfl) rfl rfl hdd (Nat.le_refl _) (Nat.le_refl _) (by decide) (pm_ki (fun v11 σ' cnt' hq => ?_))
      obtain ⟨-, ⟨g11, hg11⟩, hc11⟩ := hq
      obtain ⟨I11, A11, rfl, rfl, h11⟩ := hv_a53 (kp := kp) (I := I4) (A := A4) h4 ⟨hg11, hc11⟩
      exact pm_iret hG hF dX11_press_34 rfl (Nat.le_refl _) (Nat.le_refl _) ⟨_, rfl, _, _, rfl, rfl, h11⟩
