abbrev l_k_class (B : Nat) (fw : Nat → Int32) : List pm_C := [.inr (11, [.ref (B + 1), .ref (B + 26), .ref (B + 31), .ref (B + 36), .ref (B + 37), .ref (B + 40), .ref (B + 42), .ref (B + 46), .ref (B + 48), .ref (B + 53), .null, .int 0]), .inr (7, [.ref (B + 2), .ref (B + 4), .ref (B + 6), .ref (B + 8), .ref (B + 10), .ref (B + 12), .ref (B + 14), .ref (B + 16), .ref (B + 18), .ref (B + 20), .ref (B + 22), .ref (B + 24), .int 0, .int 0, .int 1000]), .inr (9, [.int 10, .int 3, .ref (B + 3), .int 0]), .inl (30, fun _ => 0), .inr (9, [.int 10, .int 10, .ref (B + 5), .int 0]), .inl (100, fw), .inr (9, [.int 20, .int 14, .ref (B + 7), .int 0]), .inl (280, fun _ => 0), .inr (9, [.int 20, .int 6, .ref (B + 9), .int 0]), .inl (120, fun _ => 0), .inr (9, [.int 12, .int 6, .ref (B + 11), .int 0]), .inl (72, fun _ => 0), .inr (9, [.int 12, .int 60, .ref (B + 13), .int 0]), .inl (720, fun _ => 0), .inr (9, [.int 40, .int 12, .ref (B + 15), .int 0]), .inl (480, fun _ => 0), .inr (9, [.int 6, .int 5, .ref (B + 17), .int 0]), .inl (30, fun _ => 0), .inr (9, [.int 30, .int 5, .ref (B + 19), .int 0]), .inl (150, fun _ => 0), .inr (9, [.int 5, .int 1, .ref (B + 21), .int 0]), .inl (5, fun _ => 0), .inr (9, [.int 20, .int 1, .ref (B + 23), .int 0]), .inl (20, fun _ => 0), .inr (9, [.int 60, .int 1, .ref (B + 25), .int 0]), .inl (60, fun _ => 0), .inr (2, [.ref (B + 1), .ref (B + 27), .ref (B + 30), .int 0]), .inr (6, [.ref (B + 24), .ref (B + 28), .int 0, .int 0]), .inr (9, [.int 60, .int 1, .ref (B + 29), .int 0]), .inl (60, fun _ => 0), .inl (60, (fun _ => 0)), .inr (0, [.ref (B + 1), .ref (B + 26), .ref (B + 18), .ref (B + 32), .ref (B + 34), .int 0, .int 0, .int 0, .int 0]), .inr (9, [.int 20, .int 1, .ref (B + 33), .int 0]), .inl (20, fun _ => 0), .inr (9, [.int 9, .int 1, .ref (B + 35), .int 0]), .inl (9, fun _ => 0), .inr (3, [.ref (B + 1), .ref (B + 26), .ref (B + 31), .ref (B + 14)]), .inr (4, [.ref (B + 1), .ref (B + 26), .ref (B + 38)]), .inr (9, [.int 20, .int 1, .ref (B + 39), .int 0]), .inl (20, fun _ => 0), .inr (1, [.ref (B + 1), .ref (B + 41), .int 0]), .inl (5, (fun _ => 0)), .inr (5, [.ref (B + 1), .ref (B + 43), .ref (B + 44), .ref (B + 45), .int 0, .int 0, .int 0]), .inl (64, (fun _ => 0)), .inl (64, (fun _ => 0)), .inl (64, (fun _ => 0)), .inr (10, [.ref (B + 47), .int 0, .int 0, .int 0, .int 0]), .inl (40, (fun _ => 0)), .inr (8, [.ref (B + 49), .ref (B + 50), .ref (B + 51)]), .inl (4, (fun _ => 0)), .inl (4, (fun _ => 0)), .inr (9, [.int 4, .int 24, .ref (B + 52), .int 0]), .inl (96, fun _ => 0), .inl (6, (fun _ => 0))]
set_option maxRecDepth 100000 in
set_option maxHeartbeats 4000000 in
theorem k_class {d B : Nat} {σ : pm_S} (hdd : 6 ≤ d) (hk : σ 0 = some (.inr (11, [.null, .null, .null, .null, .null, .null, .null, .null, .null, .null, .null, .int 0]))) : pm_met mX11_init d 53 2708 B [.ref (B + 0)] 1 σ (pm_Qv (fun σ' cnt' => (∃ fw : Nat → Int32, pm_lies σ' 0 (l_k_class B fw) ∧ (∀ j : Nat, j < 100 → fw j = wY0 j)) ∧ pm_old 0 σ σ' ∧ cnt' = 54)) := by
  refine pm_enter 0 (by decide) (Nat.le_of_ble_eq_true rfl) rfl (fun G hG hR hF => ?_)
  refine pm_weak (σ2 := pm_cat σ 0 [.inr (11, [.null, .null, .null, .null, .null, .null, .null, .null, .null, .null, .null, .int 0])]) (pm_cat_sub pm_old.rf (pm_lies_cons hk pm_lies_nil)) ?_
  refine pm_aloadn hG dX11_init_0 rfl ?_
  refine pm_objInit hG hR dX11_init_1 (oiX11_3 _ rfl) pm_oi (by omega) (by decide) ?_
  refine pm_aloadn hG dX11_init_4 rfl ?_
  refine pm_new hG hR dX11_init_5 (nwX11_9 _ rfl) (by decide) (by decide) ?_
  refine pm_nums (cs' := 1) (zs' := 15) (cnt' := 2) rfl rfl rfl ?_
  refine pm_dup hG dX11_init_8 rfl ?_
  refine pm_callI (As := []) (rest := [.ref (B + 1), .ref (B + 0)]) hG hR dX11_init_9 (lkX11_11 _ rfl) okI_X7_init (k_realm1 (d := 5) (by decide) rfl) rfl rfl hdd (by decide) (by decide) (by first | decide | exact Nat.le_of_ble_eq_true rfl) (pm_kv (fun σ' cnt' hq => ?_))
  obtain ⟨⟨fw, hq1, hfw⟩, hq2, rfl⟩ := hq
  refine pm_weak (pm_cat_sub hq2 hq1) ?_
  refine pm_nums (cs' := 25) (zs' := 2130) (cnt' := 26) rfl rfl rfl ?_
  refine pm_putF hG dX11_init_12 (ffX11_12 _ rfl rfl) rfl rfl rfl ?_
  refine pm_aloadn hG dX11_init_15 rfl ?_
  refine pm_new hG hR dX11_init_16 (nwX11_16 _ rfl) (by decide) (by decide) ?_
  refine pm_nums (cs' := 26) (zs' := 2134) (cnt' := 27) rfl rfl rfl ?_
  refine pm_dup hG dX11_init_19 rfl ?_
  refine pm_aloadn hG dX11_init_20 rfl ?_
  refine pm_getf hG dX11_init_21 (flX11_12 _ rfl) rfl rfl ?_
  refine pm_callI (As := [.ref (B + 1)]) (rest := [.ref (B + 26), .ref (B + 0)]) hG hR dX11_init_24 (lkX11_18 _ rfl) okI_X2_init (k_laws (d := 5) (by decide) rfl rfl) rfl rfl hdd (by decide) (by decide) (by first | decide | exact Nat.le_of_ble_eq_true rfl) (pm_kv (fun σ' cnt' hq => ?_))
  obtain ⟨hq1, hq2, rfl⟩ := hq
  refine pm_weak (pm_cat_sub hq2 hq1) ?_
  refine pm_nums (cs' := 30) (zs' := 2262) (cnt' := 31) rfl rfl rfl ?_
  refine pm_putF hG dX11_init_27 (ffX11_21 _ rfl rfl) rfl rfl rfl ?_
  refine pm_aloadn hG dX11_init_30 rfl ?_
  refine pm_new hG hR dX11_init_31 (nwX11_25 _ rfl) (by decide) (by decide) ?_
  refine pm_nums (cs' := 31) (zs' := 2271) (cnt' := 32) rfl rfl rfl ?_
  refine pm_dup hG dX11_init_34 rfl ?_
  refine pm_aloadn hG dX11_init_35 rfl ?_
  refine pm_getf hG dX11_init_36 (flX11_12 _ rfl) rfl rfl ?_
  refine pm_aloadn hG dX11_init_39 rfl ?_
  refine pm_getf hG dX11_init_40 (flX11_21 _ rfl) rfl rfl ?_
  refine pm_callI (As := [.ref (B + 1), .ref (B + 26)]) (rest := [.ref (B + 31), .ref (B + 0)]) hG hR dX11_init_43 (lkX11_27 _ rfl) okI_X0_init (k_council (d := 5) (by decide) rfl rfl) rfl rfl hdd (by decide) (by decide) (by first | decide | exact Nat.le_of_ble_eq_true rfl) (pm_kv (fun σ' cnt' hq => ?_))
  obtain ⟨hq1, hq2, rfl⟩ := hq
  refine pm_weak (pm_cat_sub hq2 hq1) ?_
  refine pm_nums (cs' := 35) (zs' := 2308) (cnt' := 36) rfl rfl rfl ?_
  refine pm_putF hG dX11_init_46 (ffX11_30 _ rfl rfl) rfl rfl rfl ?_
  refine pm_aloadn hG dX11_init_49 rfl ?_
  refine pm_new hG hR dX11_init_50 (nwX11_34 _ rfl) (by decide) (by decide) ?_
  refine pm_nums (cs' := 36) (zs' := 2312) (cnt' := 37) rfl rfl rfl ?_
  refine pm_dup hG dX11_init_53 rfl ?_
  refine pm_aloadn hG dX11_init_54 rfl ?_
  refine pm_getf hG dX11_init_55 (flX11_12 _ rfl) rfl rfl ?_
  refine pm_aloadn hG dX11_init_58 rfl ?_
  refine pm_getf hG dX11_init_59 (flX11_21 _ rfl) rfl rfl ?_
  refine pm_aloadn hG dX11_init_62 rfl ?_
  refine pm_getf hG dX11_init_63 (flX11_30 _ rfl) rfl rfl ?_
  refine pm_callI (As := [.ref (B + 1), .ref (B + 26), .ref (B + 31)]) (rest := [.ref (B + 36), .ref (B + 0)]) hG hR dX11_init_66 (lkX11_36 _ rfl) okI_X3_init (k_letters (d := 5) (by decide) rfl rfl) rfl rfl hdd (by decide) (by decide) (by first | decide | exact Nat.le_of_ble_eq_true rfl) (pm_kv (fun σ' cnt' hq => ?_))
  obtain ⟨hq1, hq2, rfl⟩ := hq
  refine pm_weak (pm_cat_sub hq2 hq1) ?_
  refine pm_nums (cs' := 36) (zs' := 2312) (cnt' := 37) rfl rfl rfl ?_
  refine pm_putF hG dX11_init_69 (ffX11_39 _ rfl rfl) rfl rfl rfl ?_
  refine pm_aloadn hG dX11_init_72 rfl ?_
  refine pm_new hG hR dX11_init_73 (nwX11_43 _ rfl) (by decide) (by decide) ?_
  refine pm_nums (cs' := 37) (zs' := 2315) (cnt' := 38) rfl rfl rfl ?_
  refine pm_dup hG dX11_init_76 rfl ?_
  refine pm_aloadn hG dX11_init_77 rfl ?_
  refine pm_getf hG dX11_init_78 (flX11_12 _ rfl) rfl rfl ?_
  refine pm_aloadn hG dX11_init_81 rfl ?_
  refine pm_getf hG dX11_init_82 (flX11_21 _ rfl) rfl rfl ?_
  refine pm_callI (As := [.ref (B + 1), .ref (B + 26)]) (rest := [.ref (B + 37), .ref (B + 0)]) hG hR dX11_init_85 (lkX11_45 _ rfl) okI_X4_init (k_lineage (d := 5) (by decide) rfl) rfl rfl hdd (by decide) (by decide) (by first | decide | exact Nat.le_of_ble_eq_true rfl) (pm_kv (fun σ' cnt' hq => ?_))
  obtain ⟨hq1, hq2, rfl⟩ := hq
  refine pm_weak (pm_cat_sub hq2 hq1) ?_
  refine pm_nums (cs' := 39) (zs' := 2339) (cnt' := 40) rfl rfl rfl ?_
  refine pm_putF hG dX11_init_88 (ffX11_46 _ rfl rfl) rfl rfl rfl ?_
  refine pm_aloadn hG dX11_init_91 rfl ?_
  refine pm_new hG hR dX11_init_92 (nwX11_50 _ rfl) (by decide) (by decide) ?_
  refine pm_nums (cs' := 40) (zs' := 2342) (cnt' := 41) rfl rfl rfl ?_
  refine pm_dup hG dX11_init_95 rfl ?_
  refine pm_aloadn hG dX11_init_96 rfl ?_
  refine pm_getf hG dX11_init_97 (flX11_12 _ rfl) rfl rfl ?_
  refine pm_callI (As := [.ref (B + 1)]) (rest := [.ref (B + 40), .ref (B + 0)]) hG hR dX11_init_100 (lkX11_52 _ rfl) okI_X1_init (k_gates (d := 5) (by decide) rfl) rfl rfl hdd (by decide) (by decide) (by first | decide | exact Nat.le_of_ble_eq_true rfl) (pm_kv (fun σ' cnt' hq => ?_))
  obtain ⟨hq1, hq2, rfl⟩ := hq
  refine pm_weak (pm_cat_sub hq2 hq1) ?_
  refine pm_nums (cs' := 41) (zs' := 2347) (cnt' := 42) rfl rfl rfl ?_
  refine pm_putF hG dX11_init_103 (ffX11_53 _ rfl rfl) rfl rfl rfl ?_
  refine pm_aloadn hG dX11_init_106 rfl ?_
  refine pm_new hG hR dX11_init_107 (nwX11_57 _ rfl) (by decide) (by decide) ?_
  refine pm_nums (cs' := 42) (zs' := 2354) (cnt' := 43) rfl rfl rfl ?_
  refine pm_dup hG dX11_init_110 rfl ?_
  refine pm_aloadn hG dX11_init_111 rfl ?_
  refine pm_getf hG dX11_init_112 (flX11_12 _ rfl) rfl rfl ?_
  refine pm_callI (As := [.ref (B + 1)]) (rest := [.ref (B + 42), .ref (B + 0)]) hG hR dX11_init_115 (lkX11_59 _ rfl) okI_X5_init (k_planner (d := 5) (by decide) rfl) rfl rfl hdd (by decide) (by decide) (by first | decide | exact Nat.le_of_ble_eq_true rfl) (pm_kv (fun σ' cnt' hq => ?_))
  obtain ⟨hq1, hq2, rfl⟩ := hq
  refine pm_weak (pm_cat_sub hq2 hq1) ?_
  refine pm_nums (cs' := 45) (zs' := 2546) (cnt' := 46) rfl rfl rfl ?_
  refine pm_putF hG dX11_init_118 (ffX11_60 _ rfl rfl) rfl rfl rfl ?_
  refine pm_aloadn hG dX11_init_121 rfl ?_
  refine pm_new hG hR dX11_init_122 (nwX11_64 _ rfl) (by decide) (by decide) ?_
  refine pm_nums (cs' := 46) (zs' := 2551) (cnt' := 47) rfl rfl rfl ?_
  refine pm_dup hG dX11_init_125 rfl ?_
  refine pm_callI (As := []) (rest := [.ref (B + 46), .ref (B + 0)]) hG hR dX11_init_126 (lkX11_66 _ rfl) okI_X10_init (k_voices (d := 5) (by decide) rfl) rfl rfl hdd (by decide) (by decide) (by first | decide | exact Nat.le_of_ble_eq_true rfl) (pm_kv (fun σ' cnt' hq => ?_))
  obtain ⟨hq1, hq2, rfl⟩ := hq
  refine pm_weak (pm_cat_sub hq2 hq1) ?_
  refine pm_nums (cs' := 47) (zs' := 2591) (cnt' := 48) rfl rfl rfl ?_
  refine pm_putF hG dX11_init_129 (ffX11_67 _ rfl rfl) rfl rfl rfl ?_
  refine pm_aloadn hG dX11_init_132 rfl ?_
  refine pm_new hG hR dX11_init_133 (nwX11_71 _ rfl) (by decide) (by decide) ?_
  refine pm_nums (cs' := 48) (zs' := 2594) (cnt' := 49) rfl rfl rfl ?_
  refine pm_dup hG dX11_init_136 rfl ?_
  refine pm_callI (As := []) (rest := [.ref (B + 48), .ref (B + 0)]) hG hR dX11_init_137 (lkX11_73 _ rfl) okI_X8_init (k_sheets (d := 5) (by decide) rfl) rfl rfl hdd (by decide) (by decide) (by first | decide | exact Nat.le_of_ble_eq_true rfl) (pm_kv (fun σ' cnt' hq => ?_))
  obtain ⟨hq1, hq2, rfl⟩ := hq
  refine pm_weak (pm_cat_sub hq2 hq1) ?_
  refine pm_nums (cs' := 52) (zs' := 2702) (cnt' := 53) rfl rfl rfl ?_
  refine pm_putF hG dX11_init_140 (ffX11_74 _ rfl rfl) rfl rfl rfl ?_
  refine pm_aloadn hG dX11_init_143 rfl ?_
  refine pm_bipush (v := 6) hG dX11_init_144 (by decide) ?_
  refine pm_newi (N := 6) hG hR dX11_init_146 (by decide) (by decide) (by decide) (by decide) (by decide) ?_
  refine pm_nums (cs' := 53) (zs' := 2708) (cnt' := 54) rfl rfl rfl ?_
  refine pm_putF hG dX11_init_148 (ffX11_78 _ rfl rfl) rfl rfl rfl ?_
  exact pm_vret hG hF dX11_init_151 rfl (by decide) (by decide) ⟨rfl, ⟨_, (pm_lies_cons rfl (pm_lies_cons rfl (pm_lies_cons rfl (pm_lies_cons rfl (pm_lies_cons rfl (pm_lies_cons rfl (pm_lies_cons rfl (pm_lies_cons rfl (pm_lies_cons rfl (pm_lies_cons rfl (pm_lies_cons rfl (pm_lies_cons rfl (pm_lies_cons rfl (pm_lies_cons rfl (pm_lies_cons rfl (pm_lies_cons rfl (pm_lies_cons rfl (pm_lies_cons rfl (pm_lies_cons rfl (pm_lies_cons rfl (pm_lies_cons rfl (pm_lies_cons rfl (pm_lies_cons rfl (pm_lies_cons rfl (pm_lies_cons rfl (pm_lies_cons rfl (pm_lies_cons rfl (pm_lies_cons rfl (pm_lies_cons rfl (pm_lies_cons rfl (pm_lies_cons rfl (pm_lies_cons rfl (pm_lies_cons rfl (pm_lies_cons rfl (pm_lies_cons rfl (pm_lies_cons rfl (pm_lies_cons rfl (pm_lies_cons rfl (pm_lies_cons rfl (pm_lies_cons rfl (pm_lies_cons rfl (pm_lies_cons rfl (pm_lies_cons rfl (pm_lies_cons rfl (pm_lies_cons rfl (pm_lies_cons rfl (pm_lies_cons rfl (pm_lies_cons rfl (pm_lies_cons rfl (pm_lies_cons rfl (pm_lies_cons rfl (pm_lies_cons rfl (pm_lies_cons rfl (pm_lies_cons rfl pm_lies_nil)))))))))))))))))))))))))))))))))))))))))))))))))))))), hfw⟩, (by repeat (first | exact pm_old.rf | refine pm_old.up (by decide) ?_ | refine pm_old.cat (by decide) ?_)), rfl⟩
