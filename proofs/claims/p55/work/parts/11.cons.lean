/-! ===== constructors ===== -/
abbrev l_k_realm1 (B : Nat) (fw : Nat → Int32) : List pm_C := [.inr (7, [.ref (B + 2), .ref (B + 4), .ref (B + 6), .ref (B + 8), .ref (B + 10), .ref (B + 12), .ref (B + 14), .ref (B + 16), .ref (B + 18), .ref (B + 20), .ref (B + 22), .ref (B + 24), .int 0, .int 0, .int 1000]), .inr (9, [.int 10, .int 3, .ref (B + 3), .int 0]), .inl (30, fun _ => 0), .inr (9, [.int 10, .int 10, .ref (B + 5), .int 0]), .inl (100, fw), .inr (9, [.int 20, .int 14, .ref (B + 7), .int 0]), .inl (280, fun _ => 0), .inr (9, [.int 20, .int 6, .ref (B + 9), .int 0]), .inl (120, fun _ => 0), .inr (9, [.int 12, .int 6, .ref (B + 11), .int 0]), .inl (72, fun _ => 0), .inr (9, [.int 12, .int 60, .ref (B + 13), .int 0]), .inl (720, fun _ => 0), .inr (9, [.int 40, .int 12, .ref (B + 15), .int 0]), .inl (480, fun _ => 0), .inr (9, [.int 6, .int 5, .ref (B + 17), .int 0]), .inl (30, fun _ => 0), .inr (9, [.int 30, .int 5, .ref (B + 19), .int 0]), .inl (150, fun _ => 0), .inr (9, [.int 5, .int 1, .ref (B + 21), .int 0]), .inl (5, fun _ => 0), .inr (9, [.int 20, .int 1, .ref (B + 23), .int 0]), .inl (20, fun _ => 0), .inr (9, [.int 60, .int 1, .ref (B + 25), .int 0]), .inl (60, fun _ => 0)]
set_option maxRecDepth 100000 in
set_option maxHeartbeats 4000000 in
theorem k_realm1 {d B : Nat} {σ : pm_S} (hdd : 3 ≤ d) (hk : σ 1 = some (.inr (7, [.null, .null, .null, .null, .null, .null, .null, .null, .null, .null, .null, .null, .int 0, .int 0, .int 0]))) : pm_met mX7_init d 24 2115 B [.ref (B + 1)] 2 σ (pm_Qv (fun σ' cnt' => (∃ fw : Nat → Int32, pm_lies σ' 1 (l_k_realm1 B fw) ∧ (∀ j : Nat, j < 100 → fw j = wY0 j)) ∧ pm_old 1 σ σ' ∧ cnt' = 26)) := by
  refine pm_enter 1 (by decide) (Nat.le_of_ble_eq_true rfl) rfl (fun G hG hR hF => ?_)
  refine pm_weak (σ2 := pm_cat σ 1 [.inr (7, [.null, .null, .null, .null, .null, .null, .null, .null, .null, .null, .null, .null, .int 0, .int 0, .int 0])]) (pm_cat_sub pm_old.rf (pm_lies_cons hk pm_lies_nil)) ?_
  refine pm_aloadn hG dX7_init_0 rfl ?_
  refine pm_objInit hG hR dX7_init_1 (oiX7_3 _ rfl) pm_oi (by omega) (by decide) ?_
  refine pm_aloadn hG dX7_init_4 rfl ?_
  refine pm_new hG hR dX7_init_5 (nwX7_9 _ rfl) (by decide) (by decide) ?_
  refine pm_nums (cs' := 1) (zs' := 4) (cnt' := 3) rfl rfl rfl ?_
  refine pm_dup hG dX7_init_8 rfl ?_
  refine pm_bipush (v := 10) hG dX7_init_9 (by decide) ?_
  refine pm_iconst (v := 3) hG dX7_init_11 (by decide) ?_
  refine pm_callI (As := [.int 10, .int 3]) (rest := [.ref (B + 2), .ref (B + 1)]) hG hR dX7_init_12 (lkX7_11 _ rfl) okI_X9_init (tb_init (d := 2) (N := 30) (by decide) rfl (by decide) (by decide) (by decide) (by decide) (by decide) (by decide) (by decide) (by decide)) rfl rfl hdd (by decide) (by decide) (by first | decide | exact Nat.le_of_ble_eq_true rfl) (pm_kv (fun σ' cnt' hq => ?_))
  obtain ⟨rfl, rfl⟩ := hq
  refine pm_nums (cs' := 2) (zs' := 34) (cnt' := 4) rfl rfl rfl ?_
  refine pm_putF hG dX7_init_15 (ffX7_14 _ rfl rfl) rfl rfl rfl ?_
  refine pm_aloadn hG dX7_init_18 rfl ?_
  refine pm_new hG hR dX7_init_19 (nwX7_9 _ rfl) (by decide) (by decide) ?_
  refine pm_nums (cs' := 3) (zs' := 38) (cnt' := 5) rfl rfl rfl ?_
  refine pm_dup hG dX7_init_22 rfl ?_
  refine pm_bipush (v := 10) hG dX7_init_23 (by decide) ?_
  refine pm_bipush (v := 10) hG dX7_init_25 (by decide) ?_
  refine pm_callI (As := [.int 10, .int 10]) (rest := [.ref (B + 4), .ref (B + 1)]) hG hR dX7_init_27 (lkX7_11 _ rfl) okI_X9_init (tb_init (d := 2) (N := 100) (by decide) rfl (by decide) (by decide) (by decide) (by decide) (by decide) (by decide) (by decide) (by decide)) rfl rfl hdd (by decide) (by decide) (by first | decide | exact Nat.le_of_ble_eq_true rfl) (pm_kv (fun σ' cnt' hq => ?_))
  obtain ⟨rfl, rfl⟩ := hq
  refine pm_nums (cs' := 4) (zs' := 138) (cnt' := 6) rfl rfl rfl ?_
  refine pm_putF hG dX7_init_30 (ffX7_20 _ rfl rfl) rfl rfl rfl ?_
  refine pm_aloadn hG dX7_init_33 rfl ?_
  refine pm_new hG hR dX7_init_34 (nwX7_9 _ rfl) (by decide) (by decide) ?_
  refine pm_nums (cs' := 5) (zs' := 142) (cnt' := 7) rfl rfl rfl ?_
  refine pm_dup hG dX7_init_37 rfl ?_
  refine pm_bipush (v := 20) hG dX7_init_38 (by decide) ?_
  refine pm_bipush (v := 14) hG dX7_init_40 (by decide) ?_
  refine pm_callI (As := [.int 20, .int 14]) (rest := [.ref (B + 6), .ref (B + 1)]) hG hR dX7_init_42 (lkX7_11 _ rfl) okI_X9_init (tb_init (d := 2) (N := 280) (by decide) rfl (by decide) (by decide) (by decide) (by decide) (by decide) (by decide) (by decide) (by decide)) rfl rfl hdd (by decide) (by decide) (by first | decide | exact Nat.le_of_ble_eq_true rfl) (pm_kv (fun σ' cnt' hq => ?_))
  obtain ⟨rfl, rfl⟩ := hq
  refine pm_nums (cs' := 6) (zs' := 422) (cnt' := 8) rfl rfl rfl ?_
  refine pm_putF hG dX7_init_45 (ffX7_23 _ rfl rfl) rfl rfl rfl ?_
  refine pm_aloadn hG dX7_init_48 rfl ?_
  refine pm_new hG hR dX7_init_49 (nwX7_9 _ rfl) (by decide) (by decide) ?_
  refine pm_nums (cs' := 7) (zs' := 426) (cnt' := 9) rfl rfl rfl ?_
  refine pm_dup hG dX7_init_52 rfl ?_
  refine pm_bipush (v := 20) hG dX7_init_53 (by decide) ?_
  refine pm_bipush (v := 6) hG dX7_init_55 (by decide) ?_
  refine pm_callI (As := [.int 20, .int 6]) (rest := [.ref (B + 8), .ref (B + 1)]) hG hR dX7_init_57 (lkX7_11 _ rfl) okI_X9_init (tb_init (d := 2) (N := 120) (by decide) rfl (by decide) (by decide) (by decide) (by decide) (by decide) (by decide) (by decide) (by decide)) rfl rfl hdd (by decide) (by decide) (by first | decide | exact Nat.le_of_ble_eq_true rfl) (pm_kv (fun σ' cnt' hq => ?_))
  obtain ⟨rfl, rfl⟩ := hq
  refine pm_nums (cs' := 8) (zs' := 546) (cnt' := 10) rfl rfl rfl ?_
  refine pm_putF hG dX7_init_60 (ffX7_26 _ rfl rfl) rfl rfl rfl ?_
  refine pm_aloadn hG dX7_init_63 rfl ?_
  refine pm_new hG hR dX7_init_64 (nwX7_9 _ rfl) (by decide) (by decide) ?_
  refine pm_nums (cs' := 9) (zs' := 550) (cnt' := 11) rfl rfl rfl ?_
  refine pm_dup hG dX7_init_67 rfl ?_
  refine pm_bipush (v := 12) hG dX7_init_68 (by decide) ?_
  refine pm_bipush (v := 6) hG dX7_init_70 (by decide) ?_
  refine pm_callI (As := [.int 12, .int 6]) (rest := [.ref (B + 10), .ref (B + 1)]) hG hR dX7_init_72 (lkX7_11 _ rfl) okI_X9_init (tb_init (d := 2) (N := 72) (by decide) rfl (by decide) (by decide) (by decide) (by decide) (by decide) (by decide) (by decide) (by decide)) rfl rfl hdd (by decide) (by decide) (by first | decide | exact Nat.le_of_ble_eq_true rfl) (pm_kv (fun σ' cnt' hq => ?_))
  obtain ⟨rfl, rfl⟩ := hq
  refine pm_nums (cs' := 10) (zs' := 622) (cnt' := 12) rfl rfl rfl ?_
  refine pm_putF hG dX7_init_75 (ffX7_29 _ rfl rfl) rfl rfl rfl ?_
  refine pm_aloadn hG dX7_init_78 rfl ?_
  refine pm_new hG hR dX7_init_79 (nwX7_9 _ rfl) (by decide) (by decide) ?_
  refine pm_nums (cs' := 11) (zs' := 626) (cnt' := 13) rfl rfl rfl ?_
  refine pm_dup hG dX7_init_82 rfl ?_
  refine pm_bipush (v := 12) hG dX7_init_83 (by decide) ?_
  refine pm_bipush (v := 60) hG dX7_init_85 (by decide) ?_
  refine pm_callI (As := [.int 12, .int 60]) (rest := [.ref (B + 12), .ref (B + 1)]) hG hR dX7_init_87 (lkX7_11 _ rfl) okI_X9_init (tb_init (d := 2) (N := 720) (by decide) rfl (by decide) (by decide) (by decide) (by decide) (by decide) (by decide) (by decide) (by decide)) rfl rfl hdd (by decide) (by decide) (by first | decide | exact Nat.le_of_ble_eq_true rfl) (pm_kv (fun σ' cnt' hq => ?_))
  obtain ⟨rfl, rfl⟩ := hq
  refine pm_nums (cs' := 12) (zs' := 1346) (cnt' := 14) rfl rfl rfl ?_
  refine pm_putF hG dX7_init_90 (ffX7_32 _ rfl rfl) rfl rfl rfl ?_
  refine pm_aloadn hG dX7_init_93 rfl ?_
  refine pm_new hG hR dX7_init_94 (nwX7_9 _ rfl) (by decide) (by decide) ?_
  refine pm_nums (cs' := 13) (zs' := 1350) (cnt' := 15) rfl rfl rfl ?_
  refine pm_dup hG dX7_init_97 rfl ?_
  refine pm_bipush (v := 40) hG dX7_init_98 (by decide) ?_
  refine pm_bipush (v := 12) hG dX7_init_100 (by decide) ?_
  refine pm_callI (As := [.int 40, .int 12]) (rest := [.ref (B + 14), .ref (B + 1)]) hG hR dX7_init_102 (lkX7_11 _ rfl) okI_X9_init (tb_init (d := 2) (N := 480) (by decide) rfl (by decide) (by decide) (by decide) (by decide) (by decide) (by decide) (by decide) (by decide)) rfl rfl hdd (by decide) (by decide) (by first | decide | exact Nat.le_of_ble_eq_true rfl) (pm_kv (fun σ' cnt' hq => ?_))
  obtain ⟨rfl, rfl⟩ := hq
  refine pm_nums (cs' := 14) (zs' := 1830) (cnt' := 16) rfl rfl rfl ?_
  refine pm_putF hG dX7_init_105 (ffX7_35 _ rfl rfl) rfl rfl rfl ?_
  refine pm_aloadn hG dX7_init_108 rfl ?_
  refine pm_new hG hR dX7_init_109 (nwX7_9 _ rfl) (by decide) (by decide) ?_
  refine pm_nums (cs' := 15) (zs' := 1834) (cnt' := 17) rfl rfl rfl ?_
  refine pm_dup hG dX7_init_112 rfl ?_
  refine pm_bipush (v := 6) hG dX7_init_113 (by decide) ?_
  refine pm_iconst (v := 5) hG dX7_init_115 (by decide) ?_
  refine pm_callI (As := [.int 6, .int 5]) (rest := [.ref (B + 16), .ref (B + 1)]) hG hR dX7_init_116 (lkX7_11 _ rfl) okI_X9_init (tb_init (d := 2) (N := 30) (by decide) rfl (by decide) (by decide) (by decide) (by decide) (by decide) (by decide) (by decide) (by decide)) rfl rfl hdd (by decide) (by decide) (by first | decide | exact Nat.le_of_ble_eq_true rfl) (pm_kv (fun σ' cnt' hq => ?_))
  obtain ⟨rfl, rfl⟩ := hq
  refine pm_nums (cs' := 16) (zs' := 1864) (cnt' := 18) rfl rfl rfl ?_
  refine pm_putF hG dX7_init_119 (ffX7_38 _ rfl rfl) rfl rfl rfl ?_
  refine pm_aloadn hG dX7_init_122 rfl ?_
  refine pm_new hG hR dX7_init_123 (nwX7_9 _ rfl) (by decide) (by decide) ?_
  refine pm_nums (cs' := 17) (zs' := 1868) (cnt' := 19) rfl rfl rfl ?_
  refine pm_dup hG dX7_init_126 rfl ?_
  refine pm_bipush (v := 30) hG dX7_init_127 (by decide) ?_
  refine pm_iconst (v := 5) hG dX7_init_129 (by decide) ?_
  refine pm_callI (As := [.int 30, .int 5]) (rest := [.ref (B + 18), .ref (B + 1)]) hG hR dX7_init_130 (lkX7_11 _ rfl) okI_X9_init (tb_init (d := 2) (N := 150) (by decide) rfl (by decide) (by decide) (by decide) (by decide) (by decide) (by decide) (by decide) (by decide)) rfl rfl hdd (by decide) (by decide) (by first | decide | exact Nat.le_of_ble_eq_true rfl) (pm_kv (fun σ' cnt' hq => ?_))
  obtain ⟨rfl, rfl⟩ := hq
  refine pm_nums (cs' := 18) (zs' := 2018) (cnt' := 20) rfl rfl rfl ?_
  refine pm_putF hG dX7_init_133 (ffX7_41 _ rfl rfl) rfl rfl rfl ?_
  refine pm_aloadn hG dX7_init_136 rfl ?_
  refine pm_new hG hR dX7_init_137 (nwX7_9 _ rfl) (by decide) (by decide) ?_
  refine pm_nums (cs' := 19) (zs' := 2022) (cnt' := 21) rfl rfl rfl ?_
  refine pm_dup hG dX7_init_140 rfl ?_
  refine pm_iconst (v := 5) hG dX7_init_141 (by decide) ?_
  refine pm_iconst (v := 1) hG dX7_init_142 (by decide) ?_
  refine pm_callI (As := [.int 5, .int 1]) (rest := [.ref (B + 20), .ref (B + 1)]) hG hR dX7_init_143 (lkX7_11 _ rfl) okI_X9_init (tb_init (d := 2) (N := 5) (by decide) rfl (by decide) (by decide) (by decide) (by decide) (by decide) (by decide) (by decide) (by decide)) rfl rfl hdd (by decide) (by decide) (by first | decide | exact Nat.le_of_ble_eq_true rfl) (pm_kv (fun σ' cnt' hq => ?_))
  obtain ⟨rfl, rfl⟩ := hq
  refine pm_nums (cs' := 20) (zs' := 2027) (cnt' := 22) rfl rfl rfl ?_
  refine pm_putF hG dX7_init_146 (ffX7_44 _ rfl rfl) rfl rfl rfl ?_
  refine pm_aloadn hG dX7_init_149 rfl ?_
  refine pm_new hG hR dX7_init_150 (nwX7_9 _ rfl) (by decide) (by decide) ?_
  refine pm_nums (cs' := 21) (zs' := 2031) (cnt' := 23) rfl rfl rfl ?_
  refine pm_dup hG dX7_init_153 rfl ?_
  refine pm_bipush (v := 20) hG dX7_init_154 (by decide) ?_
  refine pm_iconst (v := 1) hG dX7_init_156 (by decide) ?_
  refine pm_callI (As := [.int 20, .int 1]) (rest := [.ref (B + 22), .ref (B + 1)]) hG hR dX7_init_157 (lkX7_11 _ rfl) okI_X9_init (tb_init (d := 2) (N := 20) (by decide) rfl (by decide) (by decide) (by decide) (by decide) (by decide) (by decide) (by decide) (by decide)) rfl rfl hdd (by decide) (by decide) (by first | decide | exact Nat.le_of_ble_eq_true rfl) (pm_kv (fun σ' cnt' hq => ?_))
  obtain ⟨rfl, rfl⟩ := hq
  refine pm_nums (cs' := 22) (zs' := 2051) (cnt' := 24) rfl rfl rfl ?_
  refine pm_putF hG dX7_init_160 (ffX7_47 _ rfl rfl) rfl rfl rfl ?_
  refine pm_aloadn hG dX7_init_163 rfl ?_
  refine pm_new hG hR dX7_init_164 (nwX7_9 _ rfl) (by decide) (by decide) ?_
  refine pm_nums (cs' := 23) (zs' := 2055) (cnt' := 25) rfl rfl rfl ?_
  refine pm_dup hG dX7_init_167 rfl ?_
  refine pm_bipush (v := 60) hG dX7_init_168 (by decide) ?_
  refine pm_iconst (v := 1) hG dX7_init_170 (by decide) ?_
  refine pm_callI (As := [.int 60, .int 1]) (rest := [.ref (B + 24), .ref (B + 1)]) hG hR dX7_init_171 (lkX7_11 _ rfl) okI_X9_init (tb_init (d := 2) (N := 60) (by decide) rfl (by decide) (by decide) (by decide) (by decide) (by decide) (by decide) (by decide) (by decide)) rfl rfl hdd (by decide) (by decide) (by first | decide | exact Nat.le_of_ble_eq_true rfl) (pm_kv (fun σ' cnt' hq => ?_))
  obtain ⟨rfl, rfl⟩ := hq
  refine pm_nums (cs' := 24) (zs' := 2115) (cnt' := 26) rfl rfl rfl ?_
  refine pm_putF hG dX7_init_174 (ffX7_50 _ rfl rfl) rfl rfl rfl ?_
  refine pm_aloadn hG dX7_init_177 rfl ?_
  refine pm_sipush (v := 1000) hG dX7_init_178 (by decide) ?_
  refine pm_putf hG dX7_init_181 (fwX7_53 _ rfl) rfl rfl rfl ?_
  refine pm_aloadn hG dX7_init_184 rfl ?_
  refine pm_getf hG dX7_init_185 (flX7_20 _ rfl) rfl rfl ?_
  refine pm_sipush (v := 1000) hG dX7_init_188 (by decide) ?_
  refine pm_callV (As := [.int 1000]) (rest := []) hG hR dX7_init_191 (lkX7_57 _ rfl) okV_X9_fill rfl rfl (tb_fillX (d := 2) (by decide) rfl rfl (by decide)) rfl rfl hdd (by decide) (by decide) (by decide) (pm_kv (fun σ' cnt' hq => ?_))
  obtain ⟨⟨g, rfl, hg⟩, rfl⟩ := hq
  refine pm_iconst (v := 0) hG dX7_init_194 (by decide) ?_
  refine pm_istoreXn (loc' := [some (.ref (B + 1)), some (.int 0)]) hG dX7_init_195 (by decide) (pm_c1b rfl) rfl ?_
  refine pm_iloadn hG dX7_init_196 rfl ?_
  refine pm_bipush (v := 10) hG dX7_init_197 (by decide) ?_
  refine pm_icmp_ge (tgt := 218) hG dX7_init_199 rfl (fun q => absurd q (by decide)) (fun _ => ?_)
  refine pm_aloadn hG dX7_init_202 rfl ?_
  refine pm_getf hG dX7_init_203 (flX7_20 _ rfl) rfl rfl ?_
  refine pm_iloadn hG dX7_init_206 rfl ?_
  refine pm_iloadn hG dX7_init_207 rfl ?_
  refine pm_iconst (v := 0) hG dX7_init_208 (by decide) ?_
  refine pm_callV (As := [.int 0, .int 0, .int 0]) (rest := []) hG hR dX7_init_209 (lkX7_61 _ rfl) okV_X9_set rfl rfl (tb_set (d := 2) rfl rfl (pm_tw_of 10 10 (by decide) (by decide) (by decide)) (by decide)) rfl rfl hdd (by decide) (by decide) (by decide) (pm_kv (fun σ' cnt' hq => ?_))
  obtain ⟨rfl, rfl⟩ := hq
  refine pm_iincX (v := 1) (loc' := [some (.ref (B + 1)), some (.int 1)]) hG dX7_init_212 rfl (by rfl) (by decide) (pm_c1b rfl) rfl ?_
  refine pm_goto (tgt := 196) hG dX7_init_215 rfl ?_
  refine pm_iloadn hG dX7_init_196 rfl ?_
  refine pm_bipush (v := 10) hG dX7_init_197 (by decide) ?_
  refine pm_icmp_ge (tgt := 218) hG dX7_init_199 rfl (fun q => absurd q (by decide)) (fun _ => ?_)
  refine pm_aloadn hG dX7_init_202 rfl ?_
  refine pm_getf hG dX7_init_203 (flX7_20 _ rfl) rfl rfl ?_
  refine pm_iloadn hG dX7_init_206 rfl ?_
  refine pm_iloadn hG dX7_init_207 rfl ?_
  refine pm_iconst (v := 0) hG dX7_init_208 (by decide) ?_
  refine pm_callV (As := [.int 1, .int 1, .int 0]) (rest := []) hG hR dX7_init_209 (lkX7_61 _ rfl) okV_X9_set rfl rfl (tb_set (d := 2) rfl rfl (pm_tw_of 10 10 (by decide) (by decide) (by decide)) (by decide)) rfl rfl hdd (by decide) (by decide) (by decide) (pm_kv (fun σ' cnt' hq => ?_))
  obtain ⟨rfl, rfl⟩ := hq
  refine pm_iincX (v := 2) (loc' := [some (.ref (B + 1)), some (.int 2)]) hG dX7_init_212 rfl (by rfl) (by decide) (pm_c1b rfl) rfl ?_
  refine pm_goto (tgt := 196) hG dX7_init_215 rfl ?_
  refine pm_iloadn hG dX7_init_196 rfl ?_
  refine pm_bipush (v := 10) hG dX7_init_197 (by decide) ?_
  refine pm_icmp_ge (tgt := 218) hG dX7_init_199 rfl (fun q => absurd q (by decide)) (fun _ => ?_)
  refine pm_aloadn hG dX7_init_202 rfl ?_
  refine pm_getf hG dX7_init_203 (flX7_20 _ rfl) rfl rfl ?_
  refine pm_iloadn hG dX7_init_206 rfl ?_
  refine pm_iloadn hG dX7_init_207 rfl ?_
  refine pm_iconst (v := 0) hG dX7_init_208 (by decide) ?_
  refine pm_callV (As := [.int 2, .int 2, .int 0]) (rest := []) hG hR dX7_init_209 (lkX7_61 _ rfl) okV_X9_set rfl rfl (tb_set (d := 2) rfl rfl (pm_tw_of 10 10 (by decide) (by decide) (by decide)) (by decide)) rfl rfl hdd (by decide) (by decide) (by decide) (pm_kv (fun σ' cnt' hq => ?_))
  obtain ⟨rfl, rfl⟩ := hq
  refine pm_iincX (v := 3) (loc' := [some (.ref (B + 1)), some (.int 3)]) hG dX7_init_212 rfl (by rfl) (by decide) (pm_c1b rfl) rfl ?_
  refine pm_goto (tgt := 196) hG dX7_init_215 rfl ?_
  refine pm_iloadn hG dX7_init_196 rfl ?_
  refine pm_bipush (v := 10) hG dX7_init_197 (by decide) ?_
  refine pm_icmp_ge (tgt := 218) hG dX7_init_199 rfl (fun q => absurd q (by decide)) (fun _ => ?_)
  refine pm_aloadn hG dX7_init_202 rfl ?_
  refine pm_getf hG dX7_init_203 (flX7_20 _ rfl) rfl rfl ?_
  refine pm_iloadn hG dX7_init_206 rfl ?_
  refine pm_iloadn hG dX7_init_207 rfl ?_
  refine pm_iconst (v := 0) hG dX7_init_208 (by decide) ?_
  refine pm_callV (As := [.int 3, .int 3, .int 0]) (rest := []) hG hR dX7_init_209 (lkX7_61 _ rfl) okV_X9_set rfl rfl (tb_set (d := 2) rfl rfl (pm_tw_of 10 10 (by decide) (by decide) (by decide)) (by decide)) rfl rfl hdd (by decide) (by decide) (by decide) (pm_kv (fun σ' cnt' hq => ?_))
  obtain ⟨rfl, rfl⟩ := hq
  refine pm_iincX (v := 4) (loc' := [some (.ref (B + 1)), some (.int 4)]) hG dX7_init_212 rfl (by rfl) (by decide) (pm_c1b rfl) rfl ?_
  refine pm_goto (tgt := 196) hG dX7_init_215 rfl ?_
  refine pm_iloadn hG dX7_init_196 rfl ?_
  refine pm_bipush (v := 10) hG dX7_init_197 (by decide) ?_
  refine pm_icmp_ge (tgt := 218) hG dX7_init_199 rfl (fun q => absurd q (by decide)) (fun _ => ?_)
  refine pm_aloadn hG dX7_init_202 rfl ?_
  refine pm_getf hG dX7_init_203 (flX7_20 _ rfl) rfl rfl ?_
  refine pm_iloadn hG dX7_init_206 rfl ?_
  refine pm_iloadn hG dX7_init_207 rfl ?_
  refine pm_iconst (v := 0) hG dX7_init_208 (by decide) ?_
  refine pm_callV (As := [.int 4, .int 4, .int 0]) (rest := []) hG hR dX7_init_209 (lkX7_61 _ rfl) okV_X9_set rfl rfl (tb_set (d := 2) rfl rfl (pm_tw_of 10 10 (by decide) (by decide) (by decide)) (by decide)) rfl rfl hdd (by decide) (by decide) (by decide) (pm_kv (fun σ' cnt' hq => ?_))
  obtain ⟨rfl, rfl⟩ := hq
  refine pm_iincX (v := 5) (loc' := [some (.ref (B + 1)), some (.int 5)]) hG dX7_init_212 rfl (by rfl) (by decide) (pm_c1b rfl) rfl ?_
  refine pm_goto (tgt := 196) hG dX7_init_215 rfl ?_
  refine pm_iloadn hG dX7_init_196 rfl ?_
  refine pm_bipush (v := 10) hG dX7_init_197 (by decide) ?_
  refine pm_icmp_ge (tgt := 218) hG dX7_init_199 rfl (fun q => absurd q (by decide)) (fun _ => ?_)
  refine pm_aloadn hG dX7_init_202 rfl ?_
  refine pm_getf hG dX7_init_203 (flX7_20 _ rfl) rfl rfl ?_
  refine pm_iloadn hG dX7_init_206 rfl ?_
  refine pm_iloadn hG dX7_init_207 rfl ?_
  refine pm_iconst (v := 0) hG dX7_init_208 (by decide) ?_
  refine pm_callV (As := [.int 5, .int 5, .int 0]) (rest := []) hG hR dX7_init_209 (lkX7_61 _ rfl) okV_X9_set rfl rfl (tb_set (d := 2) rfl rfl (pm_tw_of 10 10 (by decide) (by decide) (by decide)) (by decide)) rfl rfl hdd (by decide) (by decide) (by decide) (pm_kv (fun σ' cnt' hq => ?_))
  obtain ⟨rfl, rfl⟩ := hq
  refine pm_iincX (v := 6) (loc' := [some (.ref (B + 1)), some (.int 6)]) hG dX7_init_212 rfl (by rfl) (by decide) (pm_c1b rfl) rfl ?_
  refine pm_goto (tgt := 196) hG dX7_init_215 rfl ?_
  refine pm_iloadn hG dX7_init_196 rfl ?_
  refine pm_bipush (v := 10) hG dX7_init_197 (by decide) ?_
  refine pm_icmp_ge (tgt := 218) hG dX7_init_199 rfl (fun q => absurd q (by decide)) (fun _ => ?_)
  refine pm_aloadn hG dX7_init_202 rfl ?_
  refine pm_getf hG dX7_init_203 (flX7_20 _ rfl) rfl rfl ?_
  refine pm_iloadn hG dX7_init_206 rfl ?_
  refine pm_iloadn hG dX7_init_207 rfl ?_
  refine pm_iconst (v := 0) hG dX7_init_208 (by decide) ?_
  refine pm_callV (As := [.int 6, .int 6, .int 0]) (rest := []) hG hR dX7_init_209 (lkX7_61 _ rfl) okV_X9_set rfl rfl (tb_set (d := 2) rfl rfl (pm_tw_of 10 10 (by decide) (by decide) (by decide)) (by decide)) rfl rfl hdd (by decide) (by decide) (by decide) (pm_kv (fun σ' cnt' hq => ?_))
  obtain ⟨rfl, rfl⟩ := hq
  refine pm_iincX (v := 7) (loc' := [some (.ref (B + 1)), some (.int 7)]) hG dX7_init_212 rfl (by rfl) (by decide) (pm_c1b rfl) rfl ?_
  refine pm_goto (tgt := 196) hG dX7_init_215 rfl ?_
  refine pm_iloadn hG dX7_init_196 rfl ?_
  refine pm_bipush (v := 10) hG dX7_init_197 (by decide) ?_
  refine pm_icmp_ge (tgt := 218) hG dX7_init_199 rfl (fun q => absurd q (by decide)) (fun _ => ?_)
  refine pm_aloadn hG dX7_init_202 rfl ?_
  refine pm_getf hG dX7_init_203 (flX7_20 _ rfl) rfl rfl ?_
  refine pm_iloadn hG dX7_init_206 rfl ?_
  refine pm_iloadn hG dX7_init_207 rfl ?_
  refine pm_iconst (v := 0) hG dX7_init_208 (by decide) ?_
  refine pm_callV (As := [.int 7, .int 7, .int 0]) (rest := []) hG hR dX7_init_209 (lkX7_61 _ rfl) okV_X9_set rfl rfl (tb_set (d := 2) rfl rfl (pm_tw_of 10 10 (by decide) (by decide) (by decide)) (by decide)) rfl rfl hdd (by decide) (by decide) (by decide) (pm_kv (fun σ' cnt' hq => ?_))
  obtain ⟨rfl, rfl⟩ := hq
  refine pm_iincX (v := 8) (loc' := [some (.ref (B + 1)), some (.int 8)]) hG dX7_init_212 rfl (by rfl) (by decide) (pm_c1b rfl) rfl ?_
  refine pm_goto (tgt := 196) hG dX7_init_215 rfl ?_
  refine pm_iloadn hG dX7_init_196 rfl ?_
  refine pm_bipush (v := 10) hG dX7_init_197 (by decide) ?_
  refine pm_icmp_ge (tgt := 218) hG dX7_init_199 rfl (fun q => absurd q (by decide)) (fun _ => ?_)
  refine pm_aloadn hG dX7_init_202 rfl ?_
  refine pm_getf hG dX7_init_203 (flX7_20 _ rfl) rfl rfl ?_
  refine pm_iloadn hG dX7_init_206 rfl ?_
  refine pm_iloadn hG dX7_init_207 rfl ?_
  refine pm_iconst (v := 0) hG dX7_init_208 (by decide) ?_
  refine pm_callV (As := [.int 8, .int 8, .int 0]) (rest := []) hG hR dX7_init_209 (lkX7_61 _ rfl) okV_X9_set rfl rfl (tb_set (d := 2) rfl rfl (pm_tw_of 10 10 (by decide) (by decide) (by decide)) (by decide)) rfl rfl hdd (by decide) (by decide) (by decide) (pm_kv (fun σ' cnt' hq => ?_))
  obtain ⟨rfl, rfl⟩ := hq
  refine pm_iincX (v := 9) (loc' := [some (.ref (B + 1)), some (.int 9)]) hG dX7_init_212 rfl (by rfl) (by decide) (pm_c1b rfl) rfl ?_
  refine pm_goto (tgt := 196) hG dX7_init_215 rfl ?_
  refine pm_iloadn hG dX7_init_196 rfl ?_
  refine pm_bipush (v := 10) hG dX7_init_197 (by decide) ?_
  refine pm_icmp_ge (tgt := 218) hG dX7_init_199 rfl (fun q => absurd q (by decide)) (fun _ => ?_)
  refine pm_aloadn hG dX7_init_202 rfl ?_
  refine pm_getf hG dX7_init_203 (flX7_20 _ rfl) rfl rfl ?_
  refine pm_iloadn hG dX7_init_206 rfl ?_
  refine pm_iloadn hG dX7_init_207 rfl ?_
  refine pm_iconst (v := 0) hG dX7_init_208 (by decide) ?_
  refine pm_callV (As := [.int 9, .int 9, .int 0]) (rest := []) hG hR dX7_init_209 (lkX7_61 _ rfl) okV_X9_set rfl rfl (tb_set (d := 2) rfl rfl (pm_tw_of 10 10 (by decide) (by decide) (by decide)) (by decide)) rfl rfl hdd (by decide) (by decide) (by decide) (pm_kv (fun σ' cnt' hq => ?_))
  obtain ⟨rfl, rfl⟩ := hq
  refine pm_iincX (v := 10) (loc' := [some (.ref (B + 1)), some (.int 10)]) hG dX7_init_212 rfl (by rfl) (by decide) (pm_c1b rfl) rfl ?_
  refine pm_goto (tgt := 196) hG dX7_init_215 rfl ?_
  refine pm_iloadn hG dX7_init_196 rfl ?_
  refine pm_bipush (v := 10) hG dX7_init_197 (by decide) ?_
  refine pm_icmp_ge (tgt := 218) hG dX7_init_199 rfl (fun _ => ?_) (fun q => absurd q (by decide))
  exact pm_vret hG hF dX7_init_218 rfl (by decide) (by decide) ⟨rfl, ⟨_, (pm_lies_cons rfl (pm_lies_cons rfl (pm_lies_cons rfl (pm_lies_cons rfl (pm_lies_cons rfl (pm_lies_cons rfl (pm_lies_cons rfl (pm_lies_cons rfl (pm_lies_cons rfl (pm_lies_cons rfl (pm_lies_cons rfl (pm_lies_cons rfl (pm_lies_cons rfl (pm_lies_cons rfl (pm_lies_cons rfl (pm_lies_cons rfl (pm_lies_cons rfl (pm_lies_cons rfl (pm_lies_cons rfl (pm_lies_cons rfl (pm_lies_cons rfl (pm_lies_cons rfl (pm_lies_cons rfl (pm_lies_cons rfl (pm_lies_cons rfl pm_lies_nil))))))))))))))))))))))))), wi_ok hg⟩, (by repeat (first | exact pm_old.rf | refine pm_old.up (by decide) ?_ | refine pm_old.cat (by decide) ?_)), rfl⟩

abbrev l_k_reader (B : Nat) : List pm_C := [.inr (6, [.ref (B + 24), .ref (B + 28), .int 0, .int 0]), .inr (9, [.int 60, .int 1, .ref (B + 29), .int 0]), .inl (60, fun _ => 0)]
set_option maxRecDepth 100000 in
set_option maxHeartbeats 4000000 in
theorem k_reader {d B : Nat} {σ : pm_S} (hdd : 3 ≤ d) (hk : σ 27 = some (.inr (6, [.null, .null, .int 0, .int 0]))) : pm_met mX6_init d 2 64 B [.ref (B + 27), .ref (B + 24)] 28 σ (pm_Qv (fun σ' cnt' => pm_lies σ' 27 (l_k_reader B) ∧ pm_old 27 σ σ' ∧ cnt' = 30)) := by
  refine pm_enter 0 (by decide) (Nat.le_of_ble_eq_true rfl) rfl (fun G hG hR hF => ?_)
  refine pm_weak (σ2 := pm_cat σ 27 [.inr (6, [.null, .null, .int 0, .int 0])]) (pm_cat_sub pm_old.rf (pm_lies_cons hk pm_lies_nil)) ?_
  refine pm_aloadn hG dX6_init_0 rfl ?_
  refine pm_objInit hG hR dX6_init_1 (oiX6_3 _ rfl) pm_oi (by omega) (by decide) ?_
  refine pm_aloadn hG dX6_init_4 rfl ?_
  refine pm_aloadn hG dX6_init_5 rfl ?_
  refine pm_putF hG dX6_init_6 (ffX6_9 _ rfl rfl) rfl rfl rfl ?_
  refine pm_aloadn hG dX6_init_9 rfl ?_
  refine pm_new hG hR dX6_init_10 (nwX6_15 _ rfl) (by decide) (by decide) ?_
  refine pm_nums (cs' := 1) (zs' := 4) (cnt' := 29) rfl rfl rfl ?_
  refine pm_dup hG dX6_init_13 rfl ?_
  refine pm_bipush (v := 60) hG dX6_init_14 (by decide) ?_
  refine pm_iconst (v := 1) hG dX6_init_16 (by decide) ?_
  refine pm_callI (As := [.int 60, .int 1]) (rest := [.ref (B + 28), .ref (B + 27)]) hG hR dX6_init_17 (lkX6_17 _ rfl) okI_X9_init (tb_init (d := 2) (N := 60) (by decide) rfl (by decide) (by decide) (by decide) (by decide) (by decide) (by decide) (by decide) (by decide)) rfl rfl hdd (by decide) (by decide) (by first | decide | exact Nat.le_of_ble_eq_true rfl) (pm_kv (fun σ' cnt' hq => ?_))
  obtain ⟨rfl, rfl⟩ := hq
  refine pm_nums (cs' := 2) (zs' := 64) (cnt' := 30) rfl rfl rfl ?_
  refine pm_putF hG dX6_init_20 (ffX6_20 _ rfl rfl) rfl rfl rfl ?_
  exact pm_vret hG hF dX6_init_23 rfl (by decide) (by decide) ⟨rfl, (pm_lies_cons rfl (pm_lies_cons rfl (pm_lies_cons rfl pm_lies_nil))), (by repeat (first | exact pm_old.rf | refine pm_old.up (by decide) ?_ | refine pm_old.cat (by decide) ?_)), rfl⟩

abbrev l_k_laws (B : Nat) : List pm_C := [.inr (2, [.ref (B + 1), .ref (B + 27), .ref (B + 30), .int 0]), .inr (6, [.ref (B + 24), .ref (B + 28), .int 0, .int 0]), .inr (9, [.int 60, .int 1, .ref (B + 29), .int 0]), .inl (60, fun _ => 0), .inl (60, (fun _ => 0))]
set_option maxRecDepth 100000 in
set_option maxHeartbeats 4000000 in
theorem k_laws {d B : Nat} {σ : pm_S} (hdd : 4 ≤ d) (hk : σ 26 = some (.inr (2, [.null, .null, .null, .int 0]))) (h1 : σ 1 = some (.inr (7, [.ref (B + 2), .ref (B + 4), .ref (B + 6), .ref (B + 8), .ref (B + 10), .ref (B + 12), .ref (B + 14), .ref (B + 16), .ref (B + 18), .ref (B + 20), .ref (B + 22), .ref (B + 24), .int 0, .int 0, .int 1000]))) : pm_met mX2_init d 4 128 B [.ref (B + 26), .ref (B + 1)] 27 σ (pm_Qv (fun σ' cnt' => pm_lies σ' 26 (l_k_laws B) ∧ pm_old 26 σ σ' ∧ cnt' = 31)) := by
  refine pm_enter 0 (by decide) (Nat.le_of_ble_eq_true rfl) rfl (fun G hG hR hF => ?_)
  refine pm_weak (σ2 := pm_cat σ 26 [.inr (2, [.null, .null, .null, .int 0])]) (pm_cat_sub pm_old.rf (pm_lies_cons hk pm_lies_nil)) ?_
  refine pm_aloadn hG dX2_init_0 rfl ?_
  refine pm_objInit hG hR dX2_init_1 (oiX2_3 _ rfl) pm_oi (by omega) (by decide) ?_
  refine pm_aloadn hG dX2_init_4 rfl ?_
  refine pm_aloadn hG dX2_init_5 rfl ?_
  refine pm_putF hG dX2_init_6 (ffX2_9 _ rfl rfl) rfl rfl rfl ?_
  refine pm_aloadn hG dX2_init_9 rfl ?_
  refine pm_new hG hR dX2_init_10 (nwX2_15 _ rfl) (by decide) (by decide) ?_
  refine pm_nums (cs' := 1) (zs' := 4) (cnt' := 28) rfl rfl rfl ?_
  refine pm_dup hG dX2_init_13 rfl ?_
  refine pm_aloadn hG dX2_init_14 rfl ?_
  refine pm_getf hG dX2_init_15 (flX2_17 _ rfl) h1 rfl ?_
  refine pm_callI (As := [.ref (B + 24)]) (rest := [.ref (B + 27), .ref (B + 26)]) hG hR dX2_init_18 (lkX2_23 _ rfl) okI_X6_init (k_reader (d := 3) (by decide) rfl) rfl rfl hdd (by decide) (by decide) (by first | decide | exact Nat.le_of_ble_eq_true rfl) (pm_kv (fun σ' cnt' hq => ?_))
  obtain ⟨hq1, hq2, rfl⟩ := hq
  refine pm_weak (pm_cat_sub hq2 hq1) ?_
  refine pm_nums (cs' := 3) (zs' := 68) (cnt' := 30) rfl rfl rfl ?_
  refine pm_putF hG dX2_init_21 (ffX2_26 _ rfl rfl) rfl rfl rfl ?_
  refine pm_aloadn hG dX2_init_24 rfl ?_
  refine pm_bipush (v := 60) hG dX2_init_25 (by decide) ?_
  refine pm_newi (N := 60) hG hR dX2_init_27 (by decide) (by decide) (by decide) (by decide) (by decide) ?_
  refine pm_nums (cs' := 4) (zs' := 128) (cnt' := 31) rfl rfl rfl ?_
  refine pm_putF hG dX2_init_29 (ffX2_30 _ rfl rfl) rfl rfl rfl ?_
  exact pm_vret hG hF dX2_init_32 rfl (by decide) (by decide) ⟨rfl, (pm_lies_cons rfl (pm_lies_cons rfl (pm_lies_cons rfl (pm_lies_cons rfl (pm_lies_cons rfl pm_lies_nil))))), (by repeat (first | exact pm_old.rf | refine pm_old.up (by decide) ?_ | refine pm_old.cat (by decide) ?_)), rfl⟩

abbrev l_k_council (B : Nat) : List pm_C := [.inr (0, [.ref (B + 1), .ref (B + 26), .ref (B + 18), .ref (B + 32), .ref (B + 34), .int 0, .int 0, .int 0, .int 0]), .inr (9, [.int 20, .int 1, .ref (B + 33), .int 0]), .inl (20, fun _ => 0), .inr (9, [.int 9, .int 1, .ref (B + 35), .int 0]), .inl (9, fun _ => 0)]
set_option maxRecDepth 100000 in
set_option maxHeartbeats 4000000 in
theorem k_council {d B : Nat} {σ : pm_S} (hdd : 3 ≤ d) (hk : σ 31 = some (.inr (0, [.null, .null, .null, .null, .null, .int 0, .int 0, .int 0, .int 0]))) (h1 : σ 1 = some (.inr (7, [.ref (B + 2), .ref (B + 4), .ref (B + 6), .ref (B + 8), .ref (B + 10), .ref (B + 12), .ref (B + 14), .ref (B + 16), .ref (B + 18), .ref (B + 20), .ref (B + 22), .ref (B + 24), .int 0, .int 0, .int 1000]))) : pm_met mX0_init d 4 37 B [.ref (B + 31), .ref (B + 1), .ref (B + 26)] 32 σ (pm_Qv (fun σ' cnt' => pm_lies σ' 31 (l_k_council B) ∧ pm_old 31 σ σ' ∧ cnt' = 36)) := by
  refine pm_enter 0 (by decide) (Nat.le_of_ble_eq_true rfl) rfl (fun G hG hR hF => ?_)
  refine pm_weak (σ2 := pm_cat σ 31 [.inr (0, [.null, .null, .null, .null, .null, .int 0, .int 0, .int 0, .int 0])]) (pm_cat_sub pm_old.rf (pm_lies_cons hk pm_lies_nil)) ?_
  refine pm_aloadn hG dX0_init_0 rfl ?_
  refine pm_objInit hG hR dX0_init_1 (oiX0_3 _ rfl) pm_oi (by omega) (by decide) ?_
  refine pm_aloadn hG dX0_init_4 rfl ?_
  refine pm_aloadn hG dX0_init_5 rfl ?_
  refine pm_putF hG dX0_init_6 (ffX0_9 _ rfl rfl) rfl rfl rfl ?_
  refine pm_aloadn hG dX0_init_9 rfl ?_
  refine pm_aloadn hG dX0_init_10 rfl ?_
  refine pm_putF hG dX0_init_11 (ffX0_15 _ rfl rfl) rfl rfl rfl ?_
  refine pm_aloadn hG dX0_init_14 rfl ?_
  refine pm_aloadn hG dX0_init_15 rfl ?_
  refine pm_getf hG dX0_init_16 (flX0_19 _ rfl) h1 rfl ?_
  refine pm_putF hG dX0_init_19 (ffX0_25 _ rfl rfl) rfl rfl rfl ?_
  refine pm_aloadn hG dX0_init_22 rfl ?_
  refine pm_new hG hR dX0_init_23 (nwX0_28 _ rfl) (by decide) (by decide) ?_
  refine pm_nums (cs' := 1) (zs' := 4) (cnt' := 33) rfl rfl rfl ?_
  refine pm_dup hG dX0_init_26 rfl ?_
  refine pm_bipush (v := 20) hG dX0_init_27 (by decide) ?_
  refine pm_iconst (v := 1) hG dX0_init_29 (by decide) ?_
  refine pm_callI (As := [.int 20, .int 1]) (rest := [.ref (B + 32), .ref (B + 31)]) hG hR dX0_init_30 (lkX0_30 _ rfl) okI_X9_init (tb_init (d := 2) (N := 20) (by decide) rfl (by decide) (by decide) (by decide) (by decide) (by decide) (by decide) (by decide) (by decide)) rfl rfl hdd (by decide) (by decide) (by first | decide | exact Nat.le_of_ble_eq_true rfl) (pm_kv (fun σ' cnt' hq => ?_))
  obtain ⟨rfl, rfl⟩ := hq
  refine pm_nums (cs' := 2) (zs' := 24) (cnt' := 34) rfl rfl rfl ?_
  refine pm_putF hG dX0_init_33 (ffX0_33 _ rfl rfl) rfl rfl rfl ?_
  refine pm_aloadn hG dX0_init_36 rfl ?_
  refine pm_new hG hR dX0_init_37 (nwX0_28 _ rfl) (by decide) (by decide) ?_
  refine pm_nums (cs' := 3) (zs' := 28) (cnt' := 35) rfl rfl rfl ?_
  refine pm_dup hG dX0_init_40 rfl ?_
  refine pm_bipush (v := 9) hG dX0_init_41 (by decide) ?_
  refine pm_iconst (v := 1) hG dX0_init_43 (by decide) ?_
  refine pm_callI (As := [.int 9, .int 1]) (rest := [.ref (B + 34), .ref (B + 31)]) hG hR dX0_init_44 (lkX0_30 _ rfl) okI_X9_init (tb_init (d := 2) (N := 9) (by decide) rfl (by decide) (by decide) (by decide) (by decide) (by decide) (by decide) (by decide) (by decide)) rfl rfl hdd (by decide) (by decide) (by first | decide | exact Nat.le_of_ble_eq_true rfl) (pm_kv (fun σ' cnt' hq => ?_))
  obtain ⟨rfl, rfl⟩ := hq
  refine pm_nums (cs' := 4) (zs' := 37) (cnt' := 36) rfl rfl rfl ?_
  refine pm_putF hG dX0_init_47 (ffX0_36 _ rfl rfl) rfl rfl rfl ?_
  exact pm_vret hG hF dX0_init_50 rfl (by decide) (by decide) ⟨rfl, (pm_lies_cons rfl (pm_lies_cons rfl (pm_lies_cons rfl (pm_lies_cons rfl (pm_lies_cons rfl pm_lies_nil))))), (by repeat (first | exact pm_old.rf | refine pm_old.up (by decide) ?_ | refine pm_old.cat (by decide) ?_)), rfl⟩

abbrev l_k_letters (B : Nat) : List pm_C := [.inr (3, [.ref (B + 1), .ref (B + 26), .ref (B + 31), .ref (B + 14)])]
set_option maxRecDepth 100000 in
set_option maxHeartbeats 4000000 in
theorem k_letters {d B : Nat} {σ : pm_S} (hdd : 1 ≤ d) (hk : σ 36 = some (.inr (3, [.null, .null, .null, .null]))) (h1 : σ 1 = some (.inr (7, [.ref (B + 2), .ref (B + 4), .ref (B + 6), .ref (B + 8), .ref (B + 10), .ref (B + 12), .ref (B + 14), .ref (B + 16), .ref (B + 18), .ref (B + 20), .ref (B + 22), .ref (B + 24), .int 0, .int 0, .int 1000]))) : pm_met mX3_init d 0 0 B [.ref (B + 36), .ref (B + 1), .ref (B + 26), .ref (B + 31)] 37 σ (pm_Qv (fun σ' cnt' => pm_lies σ' 36 (l_k_letters B) ∧ pm_old 36 σ σ' ∧ cnt' = 37)) := by
  refine pm_enter 0 (by decide) (Nat.le_of_ble_eq_true rfl) rfl (fun G hG hR hF => ?_)
  refine pm_weak (σ2 := pm_cat σ 36 [.inr (3, [.null, .null, .null, .null])]) (pm_cat_sub pm_old.rf (pm_lies_cons hk pm_lies_nil)) ?_
  refine pm_aloadn hG dX3_init_0 rfl ?_
  refine pm_objInit hG hR dX3_init_1 (oiX3_3 _ rfl) pm_oi (by omega) (by decide) ?_
  refine pm_aloadn hG dX3_init_4 rfl ?_
  refine pm_aloadn hG dX3_init_5 rfl ?_
  refine pm_putF hG dX3_init_6 (ffX3_9 _ rfl rfl) rfl rfl rfl ?_
  refine pm_aloadn hG dX3_init_9 rfl ?_
  refine pm_aloadn hG dX3_init_10 rfl ?_
  refine pm_putF hG dX3_init_11 (ffX3_15 _ rfl rfl) rfl rfl rfl ?_
  refine pm_aloadn hG dX3_init_14 rfl ?_
  refine pm_aloadn hG dX3_init_15 rfl ?_
  refine pm_putF hG dX3_init_16 (ffX3_19 _ rfl rfl) rfl rfl rfl ?_
  refine pm_aloadn hG dX3_init_19 rfl ?_
  refine pm_aloadn hG dX3_init_20 rfl ?_
  refine pm_getf hG dX3_init_21 (flX3_23 _ rfl) h1 rfl ?_
  refine pm_putF hG dX3_init_24 (ffX3_29 _ rfl rfl) rfl rfl rfl ?_
  exact pm_vret hG hF dX3_init_27 rfl (by decide) (by decide) ⟨rfl, (pm_lies_cons rfl pm_lies_nil), (by repeat (first | exact pm_old.rf | refine pm_old.up (by decide) ?_ | refine pm_old.cat (by decide) ?_)), rfl⟩

abbrev l_k_lineage (B : Nat) : List pm_C := [.inr (4, [.ref (B + 1), .ref (B + 26), .ref (B + 38)]), .inr (9, [.int 20, .int 1, .ref (B + 39), .int 0]), .inl (20, fun _ => 0)]
set_option maxRecDepth 100000 in
set_option maxHeartbeats 4000000 in
theorem k_lineage {d B : Nat} {σ : pm_S} (hdd : 3 ≤ d) (hk : σ 37 = some (.inr (4, [.null, .null, .null]))) : pm_met mX4_init d 2 24 B [.ref (B + 37), .ref (B + 1), .ref (B + 26)] 38 σ (pm_Qv (fun σ' cnt' => pm_lies σ' 37 (l_k_lineage B) ∧ pm_old 37 σ σ' ∧ cnt' = 40)) := by
  refine pm_enter 0 (by decide) (Nat.le_of_ble_eq_true rfl) rfl (fun G hG hR hF => ?_)
  refine pm_weak (σ2 := pm_cat σ 37 [.inr (4, [.null, .null, .null])]) (pm_cat_sub pm_old.rf (pm_lies_cons hk pm_lies_nil)) ?_
  refine pm_aloadn hG dX4_init_0 rfl ?_
  refine pm_objInit hG hR dX4_init_1 (oiX4_3 _ rfl) pm_oi (by omega) (by decide) ?_
  refine pm_aloadn hG dX4_init_4 rfl ?_
  refine pm_aloadn hG dX4_init_5 rfl ?_
  refine pm_putF hG dX4_init_6 (ffX4_9 _ rfl rfl) rfl rfl rfl ?_
  refine pm_aloadn hG dX4_init_9 rfl ?_
  refine pm_aloadn hG dX4_init_10 rfl ?_
  refine pm_putF hG dX4_init_11 (ffX4_15 _ rfl rfl) rfl rfl rfl ?_
  refine pm_aloadn hG dX4_init_14 rfl ?_
  refine pm_new hG hR dX4_init_15 (nwX4_19 _ rfl) (by decide) (by decide) ?_
  refine pm_nums (cs' := 1) (zs' := 4) (cnt' := 39) rfl rfl rfl ?_
  refine pm_dup hG dX4_init_18 rfl ?_
  refine pm_bipush (v := 20) hG dX4_init_19 (by decide) ?_
  refine pm_iconst (v := 1) hG dX4_init_21 (by decide) ?_
  refine pm_callI (As := [.int 20, .int 1]) (rest := [.ref (B + 38), .ref (B + 37)]) hG hR dX4_init_22 (lkX4_21 _ rfl) okI_X9_init (tb_init (d := 2) (N := 20) (by decide) rfl (by decide) (by decide) (by decide) (by decide) (by decide) (by decide) (by decide) (by decide)) rfl rfl hdd (by decide) (by decide) (by first | decide | exact Nat.le_of_ble_eq_true rfl) (pm_kv (fun σ' cnt' hq => ?_))
  obtain ⟨rfl, rfl⟩ := hq
  refine pm_nums (cs' := 2) (zs' := 24) (cnt' := 40) rfl rfl rfl ?_
  refine pm_putF hG dX4_init_25 (ffX4_24 _ rfl rfl) rfl rfl rfl ?_
  exact pm_vret hG hF dX4_init_28 rfl (by decide) (by decide) ⟨rfl, (pm_lies_cons rfl (pm_lies_cons rfl (pm_lies_cons rfl pm_lies_nil))), (by repeat (first | exact pm_old.rf | refine pm_old.up (by decide) ?_ | refine pm_old.cat (by decide) ?_)), rfl⟩

abbrev l_k_gates (B : Nat) : List pm_C := [.inr (1, [.ref (B + 1), .ref (B + 41), .int 0]), .inl (5, (fun _ => 0))]
set_option maxRecDepth 100000 in
set_option maxHeartbeats 4000000 in
theorem k_gates {d B : Nat} {σ : pm_S} (hdd : 1 ≤ d) (hk : σ 40 = some (.inr (1, [.null, .null, .int 0]))) : pm_met mX1_init d 1 5 B [.ref (B + 40), .ref (B + 1)] 41 σ (pm_Qv (fun σ' cnt' => pm_lies σ' 40 (l_k_gates B) ∧ pm_old 40 σ σ' ∧ cnt' = 42)) := by
  refine pm_enter 0 (by decide) (Nat.le_of_ble_eq_true rfl) rfl (fun G hG hR hF => ?_)
  refine pm_weak (σ2 := pm_cat σ 40 [.inr (1, [.null, .null, .int 0])]) (pm_cat_sub pm_old.rf (pm_lies_cons hk pm_lies_nil)) ?_
  refine pm_aloadn hG dX1_init_0 rfl ?_
  refine pm_objInit hG hR dX1_init_1 (oiX1_3 _ rfl) pm_oi (by omega) (by decide) ?_
  refine pm_aloadn hG dX1_init_4 rfl ?_
  refine pm_aloadn hG dX1_init_5 rfl ?_
  refine pm_putF hG dX1_init_6 (ffX1_9 _ rfl rfl) rfl rfl rfl ?_
  refine pm_aloadn hG dX1_init_9 rfl ?_
  refine pm_iconst (v := 5) hG dX1_init_10 (by decide) ?_
  refine pm_newi (N := 5) hG hR dX1_init_11 (by decide) (by decide) (by decide) (by decide) (by decide) ?_
  refine pm_nums (cs' := 1) (zs' := 5) (cnt' := 42) rfl rfl rfl ?_
  refine pm_putF hG dX1_init_13 (ffX1_15 _ rfl rfl) rfl rfl rfl ?_
  exact pm_vret hG hF dX1_init_16 rfl (by decide) (by decide) ⟨rfl, (pm_lies_cons rfl (pm_lies_cons rfl pm_lies_nil)), (by repeat (first | exact pm_old.rf | refine pm_old.up (by decide) ?_ | refine pm_old.cat (by decide) ?_)), rfl⟩

abbrev l_k_planner (B : Nat) : List pm_C := [.inr (5, [.ref (B + 1), .ref (B + 43), .ref (B + 44), .ref (B + 45), .int 0, .int 0, .int 0]), .inl (64, (fun _ => 0)), .inl (64, (fun _ => 0)), .inl (64, (fun _ => 0))]
set_option maxRecDepth 100000 in
set_option maxHeartbeats 4000000 in
theorem k_planner {d B : Nat} {σ : pm_S} (hdd : 1 ≤ d) (hk : σ 42 = some (.inr (5, [.null, .null, .null, .null, .int 0, .int 0, .int 0]))) : pm_met mX5_init d 3 192 B [.ref (B + 42), .ref (B + 1)] 43 σ (pm_Qv (fun σ' cnt' => pm_lies σ' 42 (l_k_planner B) ∧ pm_old 42 σ σ' ∧ cnt' = 46)) := by
  refine pm_enter 0 (by decide) (Nat.le_of_ble_eq_true rfl) rfl (fun G hG hR hF => ?_)
  refine pm_weak (σ2 := pm_cat σ 42 [.inr (5, [.null, .null, .null, .null, .int 0, .int 0, .int 0])]) (pm_cat_sub pm_old.rf (pm_lies_cons hk pm_lies_nil)) ?_
  refine pm_aloadn hG dX5_init_0 rfl ?_
  refine pm_objInit hG hR dX5_init_1 (oiX5_5 _ rfl) pm_oi (by omega) (by decide) ?_
  refine pm_aloadn hG dX5_init_4 rfl ?_
  refine pm_bipush (v := 64) hG dX5_init_5 (by decide) ?_
  refine pm_newi (N := 64) hG hR dX5_init_7 (by decide) (by decide) (by decide) (by decide) (by decide) ?_
  refine pm_nums (cs' := 1) (zs' := 64) (cnt' := 44) rfl rfl rfl ?_
  refine pm_putF hG dX5_init_9 (ffX5_11 _ rfl rfl) rfl rfl rfl ?_
  refine pm_aloadn hG dX5_init_12 rfl ?_
  refine pm_bipush (v := 64) hG dX5_init_13 (by decide) ?_
  refine pm_newi (N := 64) hG hR dX5_init_15 (by decide) (by decide) (by decide) (by decide) (by decide) ?_
  refine pm_nums (cs' := 2) (zs' := 128) (cnt' := 45) rfl rfl rfl ?_
  refine pm_putF hG dX5_init_17 (ffX5_15 _ rfl rfl) rfl rfl rfl ?_
  refine pm_aloadn hG dX5_init_20 rfl ?_
  refine pm_bipush (v := 64) hG dX5_init_21 (by decide) ?_
  refine pm_newi (N := 64) hG hR dX5_init_23 (by decide) (by decide) (by decide) (by decide) (by decide) ?_
  refine pm_nums (cs' := 3) (zs' := 192) (cnt' := 46) rfl rfl rfl ?_
  refine pm_putF hG dX5_init_25 (ffX5_18 _ rfl rfl) rfl rfl rfl ?_
  refine pm_aloadn hG dX5_init_28 rfl ?_
  refine pm_aloadn hG dX5_init_29 rfl ?_
  refine pm_putF hG dX5_init_30 (ffX5_21 _ rfl rfl) rfl rfl rfl ?_
  exact pm_vret hG hF dX5_init_33 rfl (by decide) (by decide) ⟨rfl, (pm_lies_cons rfl (pm_lies_cons rfl (pm_lies_cons rfl (pm_lies_cons rfl pm_lies_nil)))), (by repeat (first | exact pm_old.rf | refine pm_old.up (by decide) ?_ | refine pm_old.cat (by decide) ?_)), rfl⟩

abbrev l_k_voices (B : Nat) : List pm_C := [.inr (10, [.ref (B + 47), .int 0, .int 0, .int 0, .int 0]), .inl (40, (fun _ => 0))]
set_option maxRecDepth 100000 in
set_option maxHeartbeats 4000000 in
theorem k_voices {d B : Nat} {σ : pm_S} (hdd : 1 ≤ d) (hk : σ 46 = some (.inr (10, [.null, .int 0, .int 0, .int 0, .int 0]))) : pm_met mX10_init d 1 40 B [.ref (B + 46)] 47 σ (pm_Qv (fun σ' cnt' => pm_lies σ' 46 (l_k_voices B) ∧ pm_old 46 σ σ' ∧ cnt' = 48)) := by
  refine pm_enter 0 (by decide) (Nat.le_of_ble_eq_true rfl) rfl (fun G hG hR hF => ?_)
  refine pm_weak (σ2 := pm_cat σ 46 [.inr (10, [.null, .int 0, .int 0, .int 0, .int 0])]) (pm_cat_sub pm_old.rf (pm_lies_cons hk pm_lies_nil)) ?_
  refine pm_aloadn hG dX10_init_0 rfl ?_
  refine pm_objInit hG hR dX10_init_1 (oiX10_3 _ rfl) pm_oi (by omega) (by decide) ?_
  refine pm_aloadn hG dX10_init_4 rfl ?_
  refine pm_bipush (v := 40) hG dX10_init_5 (by decide) ?_
  refine pm_newi (N := 40) hG hR dX10_init_7 (by decide) (by decide) (by decide) (by decide) (by decide) ?_
  refine pm_nums (cs' := 1) (zs' := 40) (cnt' := 48) rfl rfl rfl ?_
  refine pm_putF hG dX10_init_9 (ffX10_11 _ rfl rfl) rfl rfl rfl ?_
  exact pm_vret hG hF dX10_init_12 rfl (by decide) (by decide) ⟨rfl, (pm_lies_cons rfl (pm_lies_cons rfl pm_lies_nil)), (by repeat (first | exact pm_old.rf | refine pm_old.up (by decide) ?_ | refine pm_old.cat (by decide) ?_)), rfl⟩

abbrev l_k_sheets (B : Nat) : List pm_C := [.inr (8, [.ref (B + 49), .ref (B + 50), .ref (B + 51)]), .inl (4, (fun _ => 0)), .inl (4, (fun _ => 0)), .inr (9, [.int 4, .int 24, .ref (B + 52), .int 0]), .inl (96, fun _ => 0)]
set_option maxRecDepth 100000 in
set_option maxHeartbeats 4000000 in
theorem k_sheets {d B : Nat} {σ : pm_S} (hdd : 3 ≤ d) (hk : σ 48 = some (.inr (8, [.null, .null, .null]))) : pm_met mX8_init d 4 108 B [.ref (B + 48)] 49 σ (pm_Qv (fun σ' cnt' => pm_lies σ' 48 (l_k_sheets B) ∧ pm_old 48 σ σ' ∧ cnt' = 53)) := by
  refine pm_enter 0 (by decide) (Nat.le_of_ble_eq_true rfl) rfl (fun G hG hR hF => ?_)
  refine pm_weak (σ2 := pm_cat σ 48 [.inr (8, [.null, .null, .null])]) (pm_cat_sub pm_old.rf (pm_lies_cons hk pm_lies_nil)) ?_
  refine pm_aloadn hG dX8_init_0 rfl ?_
  refine pm_objInit hG hR dX8_init_1 (oiX8_3 _ rfl) pm_oi (by omega) (by decide) ?_
  refine pm_aloadn hG dX8_init_4 rfl ?_
  refine pm_iconst (v := 4) hG dX8_init_5 (by decide) ?_
  refine pm_newi (N := 4) hG hR dX8_init_6 (by decide) (by decide) (by decide) (by decide) (by decide) ?_
  refine pm_nums (cs' := 1) (zs' := 4) (cnt' := 50) rfl rfl rfl ?_
  refine pm_putF hG dX8_init_8 (ffX8_9 _ rfl rfl) rfl rfl rfl ?_
  refine pm_aloadn hG dX8_init_11 rfl ?_
  refine pm_iconst (v := 4) hG dX8_init_12 (by decide) ?_
  refine pm_newi (N := 4) hG hR dX8_init_13 (by decide) (by decide) (by decide) (by decide) (by decide) ?_
  refine pm_nums (cs' := 2) (zs' := 8) (cnt' := 51) rfl rfl rfl ?_
  refine pm_putF hG dX8_init_15 (ffX8_15 _ rfl rfl) rfl rfl rfl ?_
  refine pm_aloadn hG dX8_init_18 rfl ?_
  refine pm_new hG hR dX8_init_19 (nwX8_18 _ rfl) (by decide) (by decide) ?_
  refine pm_nums (cs' := 3) (zs' := 12) (cnt' := 52) rfl rfl rfl ?_
  refine pm_dup hG dX8_init_22 rfl ?_
  refine pm_iconst (v := 4) hG dX8_init_23 (by decide) ?_
  refine pm_bipush (v := 24) hG dX8_init_24 (by decide) ?_
  refine pm_callI (As := [.int 4, .int 24]) (rest := [.ref (B + 51), .ref (B + 48)]) hG hR dX8_init_26 (lkX8_20 _ rfl) okI_X9_init (tb_init (d := 2) (N := 96) (by decide) rfl (by decide) (by decide) (by decide) (by decide) (by decide) (by decide) (by decide) (by decide)) rfl rfl hdd (by decide) (by decide) (by first | decide | exact Nat.le_of_ble_eq_true rfl) (pm_kv (fun σ' cnt' hq => ?_))
  obtain ⟨rfl, rfl⟩ := hq
  refine pm_nums (cs' := 4) (zs' := 108) (cnt' := 53) rfl rfl rfl ?_
  refine pm_putF hG dX8_init_29 (ffX8_23 _ rfl rfl) rfl rfl rfl ?_
  exact pm_vret hG hF dX8_init_32 rfl (by decide) (by decide) ⟨rfl, (pm_lies_cons rfl (pm_lies_cons rfl (pm_lies_cons rfl (pm_lies_cons rfl (pm_lies_cons rfl pm_lies_nil))))), (by repeat (first | exact pm_old.rf | refine pm_old.up (by decide) ?_ | refine pm_old.cat (by decide) ?_)), rfl⟩
