abbrev l_k_realm0 (B : Nat) (fw : Nat → Int32) : List pm_C := [.inr (7, [.ref (B + 1), .ref (B + 3), .ref (B + 5), .ref (B + 7), .ref (B + 9), .ref (B + 11), .ref (B + 13), .ref (B + 15), .ref (B + 17), .ref (B + 19), .ref (B + 21), .ref (B + 23), .int 0, .int 0, .int 1000]), .inr (9, [.int 10, .int 3, .ref (B + 2), .int 0]), .inl (30, fun _ => 0), .inr (9, [.int 10, .int 10, .ref (B + 4), .int 0]), .inl (100, fw), .inr (9, [.int 20, .int 14, .ref (B + 6), .int 0]), .inl (280, fun _ => 0), .inr (9, [.int 20, .int 6, .ref (B + 8), .int 0]), .inl (120, fun _ => 0), .inr (9, [.int 12, .int 6, .ref (B + 10), .int 0]), .inl (72, fun _ => 0), .inr (9, [.int 12, .int 60, .ref (B + 12), .int 0]), .inl (720, fun _ => 0), .inr (9, [.int 40, .int 12, .ref (B + 14), .int 0]), .inl (480, fun _ => 0), .inr (9, [.int 6, .int 5, .ref (B + 16), .int 0]), .inl (30, fun _ => 0), .inr (9, [.int 30, .int 5, .ref (B + 18), .int 0]), .inl (150, fun _ => 0), .inr (9, [.int 5, .int 1, .ref (B + 20), .int 0]), .inl (5, fun _ => 0), .inr (9, [.int 20, .int 1, .ref (B + 22), .int 0]), .inl (20, fun _ => 0), .inr (9, [.int 60, .int 1, .ref (B + 24), .int 0]), .inl (60, fun _ => 0)]
set_option maxRecDepth 100000 in
set_option maxHeartbeats 4000000 in
theorem k_realm0 {d B : Nat} {σ : pm_S} (hdd : 3 ≤ d) (hk : σ 0 = some (.inr (7, [.null, .null, .null, .null, .null, .null, .null, .null, .null, .null, .null, .null, .int 0, .int 0, .int 0]))) : pm_met mX7_init d 24 2115 B [.ref (B + 0)] 1 σ (pm_Qv (fun σ' cnt' => (∃ fw : Nat → Int32, pm_lies σ' 0 (l_k_realm0 B fw)) ∧ pm_old 0 σ σ' ∧ cnt' = 25)) := by
  refine pm_enter 1 (by decide) (Nat.le_of_ble_eq_true rfl) rfl (fun G hG hR hF => ?_)
  refine pm_weak (σ2 := pm_cat σ 0 [.inr (7, [.null, .null, .null, .null, .null, .null, .null, .null, .null, .null, .null, .null, .int 0, .int 0, .int 0])]) (pm_cat_sub pm_old.rf (pm_lies_cons hk pm_lies_nil)) ?_
  refine pm_aloadn hG dX7_init_0 rfl ?_
  refine pm_objInit hG hR dX7_init_1 (oiX7_3 _ rfl) pm_oi (by omega) (by decide) ?_
  refine pm_aloadn hG dX7_init_4 rfl ?_
  refine pm_new hG hR dX7_init_5 (nwX7_9 _ rfl) (by decide) (by decide) ?_
  refine pm_nums (cs' := 1) (zs' := 4) (cnt' := 2) rfl rfl rfl ?_
  refine pm_dup hG dX7_init_8 rfl ?_
  refine pm_bipush (v := 10) hG dX7_init_9 (by decide) ?_
  refine pm_iconst (v := 3) hG dX7_init_11 (by decide) ?_
  refine pm_callI (As := [.int 10, .int 3]) (rest := [.ref (B + 1), .ref (B + 0)]) hG hR dX7_init_12 (lkX7_11 _ rfl) okI_X9_init (tb_init (d := 2) (N := 30) (by decide) rfl (by decide) (by decide) (by decide) (by decide) (by decide) (by decide) (by decide) (by decide)) rfl rfl hdd (by decide) (by decide) (by first | decide | exact Nat.le_of_ble_eq_true rfl) (pm_kv (fun σ' cnt' hq => ?_))
  obtain ⟨rfl, rfl⟩ := hq
  refine pm_nums (cs' := 2) (zs' := 34) (cnt' := 3) rfl rfl rfl ?_
  refine pm_putF hG dX7_init_15 (ffX7_14 _ rfl rfl) rfl rfl rfl ?_
  refine pm_aloadn hG dX7_init_18 rfl ?_
  refine pm_new hG hR dX7_init_19 (nwX7_9 _ rfl) (by decide) (by decide) ?_
  refine pm_nums (cs' := 3) (zs' := 38) (cnt' := 4) rfl rfl rfl ?_
  refine pm_dup hG dX7_init_22 rfl ?_
  refine pm_bipush (v := 10) hG dX7_init_23 (by decide) ?_
  refine pm_bipush (v := 10) hG dX7_init_25 (by decide) ?_
  refine pm_callI (As := [.int 10, .int 10]) (rest := [.ref (B + 3), .ref (B + 0)]) hG hR dX7_init_27 (lkX7_11 _ rfl) okI_X9_init (tb_init (d := 2) (N := 100) (by decide) rfl (by decide) (by decide) (by decide) (by decide) (by decide) (by decide) (by decide) (by decide)) rfl rfl hdd (by decide) (by decide) (by first | decide | exact Nat.le_of_ble_eq_true rfl) (pm_kv (fun σ' cnt' hq => ?_))
  obtain ⟨rfl, rfl⟩ := hq
  refine pm_nums (cs' := 4) (zs' := 138) (cnt' := 5) rfl rfl rfl ?_
  refine pm_putF hG dX7_init_30 (ffX7_20 _ rfl rfl) rfl rfl rfl ?_
  refine pm_aloadn hG dX7_init_33 rfl ?_
  refine pm_new hG hR dX7_init_34 (nwX7_9 _ rfl) (by decide) (by decide) ?_
  refine pm_nums (cs' := 5) (zs' := 142) (cnt' := 6) rfl rfl rfl ?_
  refine pm_dup hG dX7_init_37 rfl ?_
  refine pm_bipush (v := 20) hG dX7_init_38 (by decide) ?_
  refine pm_bipush (v := 14) hG dX7_init_40 (by decide) ?_
  refine pm_callI (As := [.int 20, .int 14]) (rest := [.ref (B + 5), .ref (B + 0)]) hG hR dX7_init_42 (lkX7_11 _ rfl) okI_X9_init (tb_init (d := 2) (N := 280) (by decide) rfl (by decide) (by decide) (by decide) (by decide) (by decide) (by decide) (by decide) (by decide)) rfl rfl hdd (by decide) (by decide) (by first | decide | exact Nat.le_of_ble_eq_true rfl) (pm_kv (fun σ' cnt' hq => ?_))
  obtain ⟨rfl, rfl⟩ := hq
  refine pm_nums (cs' := 6) (zs' := 422) (cnt' := 7) rfl rfl rfl ?_
  refine pm_putF hG dX7_init_45 (ffX7_23 _ rfl rfl) rfl rfl rfl ?_
  refine pm_aloadn hG dX7_init_48 rfl ?_
  refine pm_new hG hR dX7_init_49 (nwX7_9 _ rfl) (by decide) (by decide) ?_
  refine pm_nums (cs' := 7) (zs' := 426) (cnt' := 8) rfl rfl rfl ?_
  refine pm_dup hG dX7_init_52 rfl ?_
  refine pm_bipush (v := 20) hG dX7_init_53 (by decide) ?_
  refine pm_bipush (v := 6) hG dX7_init_55 (by decide) ?_
  refine pm_callI (As := [.int 20, .int 6]) (rest := [.ref (B + 7), .ref (B + 0)]) hG hR dX7_init_57 (lkX7_11 _ rfl) okI_X9_init (tb_init (d := 2) (N := 120) (by decide) rfl (by decide) (by decide) (by decide) (by decide) (by decide) (by decide) (by decide) (by decide)) rfl rfl hdd (by decide) (by decide) (by first | decide | exact Nat.le_of_ble_eq_true rfl) (pm_kv (fun σ' cnt' hq => ?_))
  obtain ⟨rfl, rfl⟩ := hq
  refine pm_nums (cs' := 8) (zs' := 546) (cnt' := 9) rfl rfl rfl ?_
  refine pm_putF hG dX7_init_60 (ffX7_26 _ rfl rfl) rfl rfl rfl ?_
  refine pm_aloadn hG dX7_init_63 rfl ?_
  refine pm_new hG hR dX7_init_64 (nwX7_9 _ rfl) (by decide) (by decide) ?_
  refine pm_nums (cs' := 9) (zs' := 550) (cnt' := 10) rfl rfl rfl ?_
  refine pm_dup hG dX7_init_67 rfl ?_
  refine pm_bipush (v := 12) hG dX7_init_68 (by decide) ?_
  refine pm_bipush (v := 6) hG dX7_init_70 (by decide) ?_
  refine pm_callI (As := [.int 12, .int 6]) (rest := [.ref (B + 9), .ref (B + 0)]) hG hR dX7_init_72 (lkX7_11 _ rfl) okI_X9_init (tb_init (d := 2) (N := 72) (by decide) rfl (by decide) (by decide) (by decide) (by decide) (by decide) (by decide) (by decide) (by decide)) rfl rfl hdd (by decide) (by decide) (by first | decide | exact Nat.le_of_ble_eq_true rfl) (pm_kv (fun σ' cnt' hq => ?_))
  obtain ⟨rfl, rfl⟩ := hq
  refine pm_nums (cs' := 10) (zs' := 622) (cnt' := 11) rfl rfl rfl ?_
  refine pm_putF hG dX7_init_75 (ffX7_29 _ rfl rfl) rfl rfl rfl ?_
  refine pm_aloadn hG dX7_init_78 rfl ?_
  refine pm_new hG hR dX7_init_79 (nwX7_9 _ rfl) (by decide) (by decide) ?_
  refine pm_nums (cs' := 11) (zs' := 626) (cnt' := 12) rfl rfl rfl ?_
  refine pm_dup hG dX7_init_82 rfl ?_
  refine pm_bipush (v := 12) hG dX7_init_83 (by decide) ?_
  refine pm_bipush (v := 60) hG dX7_init_85 (by decide) ?_
  refine pm_callI (As := [.int 12, .int 60]) (rest := [.ref (B + 11), .ref (B + 0)]) hG hR dX7_init_87 (lkX7_11 _ rfl) okI_X9_init (tb_init (d := 2) (N := 720) (by decide) rfl (by decide) (by decide) (by decide) (by decide) (by decide) (by decide) (by decide) (by decide)) rfl rfl hdd (by decide) (by decide) (by first | decide | exact Nat.le_of_ble_eq_true rfl) (pm_kv (fun σ' cnt' hq => ?_))
  obtain ⟨rfl, rfl⟩ := hq
  refine pm_nums (cs' := 12) (zs' := 1346) (cnt' := 13) rfl rfl rfl ?_
  refine pm_putF hG dX7_init_90 (ffX7_32 _ rfl rfl) rfl rfl rfl ?_
  refine pm_aloadn hG dX7_init_93 rfl ?_
  refine pm_new hG hR dX7_init_94 (nwX7_9 _ rfl) (by decide) (by decide) ?_
  refine pm_nums (cs' := 13) (zs' := 1350) (cnt' := 14) rfl rfl rfl ?_
  refine pm_dup hG dX7_init_97 rfl ?_
  refine pm_bipush (v := 40) hG dX7_init_98 (by decide) ?_
  refine pm_bipush (v := 12) hG dX7_init_100 (by decide) ?_
  refine pm_callI (As := [.int 40, .int 12]) (rest := [.ref (B + 13), .ref (B + 0)]) hG hR dX7_init_102 (lkX7_11 _ rfl) okI_X9_init (tb_init (d := 2) (N := 480) (by decide) rfl (by decide) (by decide) (by decide) (by decide) (by decide) (by decide) (by decide) (by decide)) rfl rfl hdd (by decide) (by decide) (by first | decide | exact Nat.le_of_ble_eq_true rfl) (pm_kv (fun σ' cnt' hq => ?_))
  obtain ⟨rfl, rfl⟩ := hq
  refine pm_nums (cs' := 14) (zs' := 1830) (cnt' := 15) rfl rfl rfl ?_
  refine pm_putF hG dX7_init_105 (ffX7_35 _ rfl rfl) rfl rfl rfl ?_
  refine pm_aloadn hG dX7_init_108 rfl ?_
  refine pm_new hG hR dX7_init_109 (nwX7_9 _ rfl) (by decide) (by decide) ?_
  refine pm_nums (cs' := 15) (zs' := 1834) (cnt' := 16) rfl rfl rfl ?_
  refine pm_dup hG dX7_init_112 rfl ?_
  refine pm_bipush (v := 6) hG dX7_init_113 (by decide) ?_
  refine pm_iconst (v := 5) hG dX7_init_115 (by decide) ?_
  refine pm_callI (As := [.int 6, .int 5]) (rest := [.ref (B + 15), .ref (B + 0)]) hG hR dX7_init_116 (lkX7_11 _ rfl) okI_X9_init (tb_init (d := 2) (N := 30) (by decide) rfl (by decide) (by decide) (by decide) (by decide) (by decide) (by decide) (by decide) (by decide)) rfl rfl hdd (by decide) (by decide) (by first | decide | exact Nat.le_of_ble_eq_true rfl) (pm_kv (fun σ' cnt' hq => ?_))
  obtain ⟨rfl, rfl⟩ := hq
  refine pm_nums (cs' := 16) (zs' := 1864) (cnt' := 17) rfl rfl rfl ?_
  refine pm_putF hG dX7_init_119 (ffX7_38 _ rfl rfl) rfl rfl rfl ?_
  refine pm_aloadn hG dX7_init_122 rfl ?_
  refine pm_new hG hR dX7_init_123 (nwX7_9 _ rfl) (by decide) (by decide) ?_
  refine pm_nums (cs' := 17) (zs' := 1868) (cnt' := 18) rfl rfl rfl ?_
  refine pm_dup hG dX7_init_126 rfl ?_
  refine pm_bipush (v := 30) hG dX7_init_127 (by decide) ?_
  refine pm_iconst (v := 5) hG dX7_init_129 (by decide) ?_
  refine pm_callI (As := [.int 30, .int 5]) (rest := [.ref (B + 17), .ref (B + 0)]) hG hR dX7_init_130 (lkX7_11 _ rfl) okI_X9_init (tb_init (d := 2) (N := 150) (by decide) rfl (by decide) (by decide) (by decide) (by decide) (by decide) (by decide) (by decide) (by decide)) rfl rfl hdd (by decide) (by decide) (by first | decide | exact Nat.le_of_ble_eq_true rfl) (pm_kv (fun σ' cnt' hq => ?_))
  obtain ⟨rfl, rfl⟩ := hq
  refine pm_nums (cs' := 18) (zs' := 2018) (cnt' := 19) rfl rfl rfl ?_
  refine pm_putF hG dX7_init_133 (ffX7_41 _ rfl rfl) rfl rfl rfl ?_
  refine pm_aloadn hG dX7_init_136 rfl ?_
  refine pm_new hG hR dX7_init_137 (nwX7_9 _ rfl) (by decide) (by decide) ?_
  refine pm_nums (cs' := 19) (zs' := 2022) (cnt' := 20) rfl rfl rfl ?_
  refine pm_dup hG dX7_init_140 rfl ?_
  refine pm_iconst (v := 5) hG dX7_init_141 (by decide) ?_
  refine pm_iconst (v := 1) hG dX7_init_142 (by decide) ?_
  refine pm_callI (As := [.int 5, .int 1]) (rest := [.ref (B + 19), .ref (B + 0)]) hG hR dX7_init_143 (lkX7_11 _ rfl) okI_X9_init (tb_init (d := 2) (N := 5) (by decide) rfl (by decide) (by decide) (by decide) (by decide) (by decide) (by decide) (by decide) (by decide)) rfl rfl hdd (by decide) (by decide) (by first | decide | exact Nat.le_of_ble_eq_true rfl) (pm_kv (fun σ' cnt' hq => ?_))
  obtain ⟨rfl, rfl⟩ := hq
  refine pm_nums (cs' := 20) (zs' := 2027) (cnt' := 21) rfl rfl rfl ?_
  refine pm_putF hG dX7_init_146 (ffX7_44 _ rfl rfl) rfl rfl rfl ?_
  refine pm_aloadn hG dX7_init_149 rfl ?_
  refine pm_new hG hR dX7_init_150 (nwX7_9 _ rfl) (by decide) (by decide) ?_
  refine pm_nums (cs' := 21) (zs' := 2031) (cnt' := 22) rfl rfl rfl ?_
  refine pm_dup hG dX7_init_153 rfl ?_
  refine pm_bipush (v := 20) hG dX7_init_154 (by decide) ?_
  refine pm_iconst (v := 1) hG dX7_init_156 (by decide) ?_
  refine pm_callI (As := [.int 20, .int 1]) (rest := [.ref (B + 21), .ref (B + 0)]) hG hR dX7_init_157 (lkX7_11 _ rfl) okI_X9_init (tb_init (d := 2) (N := 20) (by decide) rfl (by decide) (by decide) (by decide) (by decide) (by decide) (by decide) (by decide) (by decide)) rfl rfl hdd (by decide) (by decide) (by first | decide | exact Nat.le_of_ble_eq_true rfl) (pm_kv (fun σ' cnt' hq => ?_))
  obtain ⟨rfl, rfl⟩ := hq
  refine pm_nums (cs' := 22) (zs' := 2051) (cnt' := 23) rfl rfl rfl ?_
  refine pm_putF hG dX7_init_160 (ffX7_47 _ rfl rfl) rfl rfl rfl ?_
  refine pm_aloadn hG dX7_init_163 rfl ?_
  refine pm_new hG hR dX7_init_164 (nwX7_9 _ rfl) (by decide) (by decide) ?_
  refine pm_nums (cs' := 23) (zs' := 2055) (cnt' := 24) rfl rfl rfl ?_
  refine pm_dup hG dX7_init_167 rfl ?_
  refine pm_bipush (v := 60) hG dX7_init_168 (by decide) ?_
  refine pm_iconst (v := 1) hG dX7_init_170 (by decide) ?_
  refine pm_callI (As := [.int 60, .int 1]) (rest := [.ref (B + 23), .ref (B + 0)]) hG hR dX7_init_171 (lkX7_11 _ rfl) okI_X9_init (tb_init (d := 2) (N := 60) (by decide) rfl (by decide) (by decide) (by decide) (by decide) (by decide) (by decide) (by decide) (by decide)) rfl rfl hdd (by decide) (by decide) (by first | decide | exact Nat.le_of_ble_eq_true rfl) (pm_kv (fun σ' cnt' hq => ?_))
  obtain ⟨rfl, rfl⟩ := hq
  refine pm_nums (cs' := 24) (zs' := 2115) (cnt' := 25) rfl rfl rfl ?_
  refine pm_putF hG dX7_init_174 (ffX7_50 _ rfl rfl) rfl rfl rfl ?_
  refine pm_aloadn hG dX7_init_177 rfl ?_
  refine pm_sipush (v := 1000) hG dX7_init_178 (by decide) ?_
  refine pm_putf hG dX7_init_181 (fwX7_53 _ rfl) rfl rfl rfl ?_
  refine pm_aloadn hG dX7_init_184 rfl ?_
  refine pm_getf hG dX7_init_185 (flX7_20 _ rfl) rfl rfl ?_
  refine pm_sipush (v := 1000) hG dX7_init_188 (by decide) ?_
  refine pm_callV (As := [.int 1000]) (rest := []) hG hR dX7_init_191 (lkX7_57 _ rfl) okV_X9_fill rfl rfl (tb_fill (d := 2) (by decide) rfl rfl (by decide)) rfl rfl hdd (by decide) (by decide) (by decide) (pm_kv (fun σ' cnt' hq => ?_))
  obtain ⟨⟨g, rfl⟩, rfl⟩ := hq
  refine pm_iconst (v := 0) hG dX7_init_194 (by decide) ?_
  refine pm_istoreXn (loc' := [some (.ref (B + 0)), some (.int 0)]) hG dX7_init_195 (by decide) (pm_c1b rfl) rfl ?_
  refine pm_iloadn hG dX7_init_196 rfl ?_
  refine pm_bipush (v := 10) hG dX7_init_197 (by decide) ?_
  refine pm_icmp_ge (tgt := 218) hG dX7_init_199 rfl (fun q => absurd q (by decide)) (fun _ => ?_)
  refine pm_aloadn hG dX7_init_202 rfl ?_
  refine pm_getf hG dX7_init_203 (flX7_20 _ rfl) rfl rfl ?_
  refine pm_iloadn hG dX7_init_206 rfl ?_
  refine pm_iloadn hG dX7_init_207 rfl ?_
  refine pm_iconst (v := 0) hG dX7_init_208 (by decide) ?_
  refine pm_callV (As := [.int 0, .int 0, .int 0]) (rest := []) hG hR dX7_init_209 (lkX7_61 _ rfl) okV_X9_set rfl rfl (tb_set (d := 2) rfl rfl (pm_tw_of 10 10 (by decide) (by decide) (by decide)) (by decide)) rfl rfl hdd (by decide) (by decide) (by decide) (pm_kv (fun σ' cnt' hq => ?_))
  obtain ⟨rfl, rfl⟩ := hq
  refine pm_iincX (v := 1) (loc' := [some (.ref (B + 0)), some (.int 1)]) hG dX7_init_212 rfl (by rfl) (by decide) (pm_c1b rfl) rfl ?_
  refine pm_goto (tgt := 196) hG dX7_init_215 rfl ?_
  refine pm_iloadn hG dX7_init_196 rfl ?_
  refine pm_bipush (v := 10) hG dX7_init_197 (by decide) ?_
  refine pm_icmp_ge (tgt := 218) hG dX7_init_199 rfl (fun q => absurd q (by decide)) (fun _ => ?_)
  refine pm_aloadn hG dX7_init_202 rfl ?_
  refine pm_getf hG dX7_init_203 (flX7_20 _ rfl) rfl rfl ?_
  refine pm_iloadn hG dX7_init_206 rfl ?_
  refine pm_iloadn hG dX7_init_207 rfl ?_
  refine pm_iconst (v := 0) hG dX7_init_208 (by decide) ?_
  refine pm_callV (As := [.int 1, .int 1, .int 0]) (rest := []) hG hR dX7_init_209 (lkX7_61 _ rfl) okV_X9_set rfl rfl (tb_set (d := 2) rfl rfl (pm_tw_of 10 10 (by decide) (by decide) (by decide)) (by decide)) rfl rfl hdd (by decide) (by decide) (by decide) (pm_kv (fun σ' cnt' hq => ?_))
  obtain ⟨rfl, rfl⟩ := hq
  refine pm_iincX (v := 2) (loc' := [some (.ref (B + 0)), some (.int 2)]) hG dX7_init_212 rfl (by rfl) (by decide) (pm_c1b rfl) rfl ?_
  refine pm_goto (tgt := 196) hG dX7_init_215 rfl ?_
  refine pm_iloadn hG dX7_init_196 rfl ?_
  refine pm_bipush (v := 10) hG dX7_init_197 (by decide) ?_
  refine pm_icmp_ge (tgt := 218) hG dX7_init_199 rfl (fun q => absurd q (by decide)) (fun _ => ?_)
  refine pm_aloadn hG dX7_init_202 rfl ?_
  refine pm_getf hG dX7_init_203 (flX7_20 _ rfl) rfl rfl ?_
  refine pm_iloadn hG dX7_init_206 rfl ?_
  refine pm_iloadn hG dX7_init_207 rfl ?_
  refine pm_iconst (v := 0) hG dX7_init_208 (by decide) ?_
  refine pm_callV (As := [.int 2, .int 2, .int 0]) (rest := []) hG hR dX7_init_209 (lkX7_61 _ rfl) okV_X9_set rfl rfl (tb_set (d := 2) rfl rfl (pm_tw_of 10 10 (by decide) (by decide) (by decide)) (by decide)) rfl rfl hdd (by decide) (by decide) (by decide) (pm_kv (fun σ' cnt' hq => ?_))
  obtain ⟨rfl, rfl⟩ := hq
  refine pm_iincX (v := 3) (loc' := [some (.ref (B + 0)), some (.int 3)]) hG dX7_init_212 rfl (by rfl) (by decide) (pm_c1b rfl) rfl ?_
  refine pm_goto (tgt := 196) hG dX7_init_215 rfl ?_
  refine pm_iloadn hG dX7_init_196 rfl ?_
  refine pm_bipush (v := 10) hG dX7_init_197 (by decide) ?_
  refine pm_icmp_ge (tgt := 218) hG dX7_init_199 rfl (fun q => absurd q (by decide)) (fun _ => ?_)
  refine pm_aloadn hG dX7_init_202 rfl ?_
  refine pm_getf hG dX7_init_203 (flX7_20 _ rfl) rfl rfl ?_
  refine pm_iloadn hG dX7_init_206 rfl ?_
  refine pm_iloadn hG dX7_init_207 rfl ?_
  refine pm_iconst (v := 0) hG dX7_init_208 (by decide) ?_
  refine pm_callV (As := [.int 3, .int 3, .int 0]) (rest := []) hG hR dX7_init_209 (lkX7_61 _ rfl) okV_X9_set rfl rfl (tb_set (d := 2) rfl rfl (pm_tw_of 10 10 (by decide) (by decide) (by decide)) (by decide)) rfl rfl hdd (by decide) (by decide) (by decide) (pm_kv (fun σ' cnt' hq => ?_))
  obtain ⟨rfl, rfl⟩ := hq
  refine pm_iincX (v := 4) (loc' := [some (.ref (B + 0)), some (.int 4)]) hG dX7_init_212 rfl (by rfl) (by decide) (pm_c1b rfl) rfl ?_
  refine pm_goto (tgt := 196) hG dX7_init_215 rfl ?_
  refine pm_iloadn hG dX7_init_196 rfl ?_
  refine pm_bipush (v := 10) hG dX7_init_197 (by decide) ?_
  refine pm_icmp_ge (tgt := 218) hG dX7_init_199 rfl (fun q => absurd q (by decide)) (fun _ => ?_)
  refine pm_aloadn hG dX7_init_202 rfl ?_
  refine pm_getf hG dX7_init_203 (flX7_20 _ rfl) rfl rfl ?_
  refine pm_iloadn hG dX7_init_206 rfl ?_
  refine pm_iloadn hG dX7_init_207 rfl ?_
  refine pm_iconst (v := 0) hG dX7_init_208 (by decide) ?_
  refine pm_callV (As := [.int 4, .int 4, .int 0]) (rest := []) hG hR dX7_init_209 (lkX7_61 _ rfl) okV_X9_set rfl rfl (tb_set (d := 2) rfl rfl (pm_tw_of 10 10 (by decide) (by decide) (by decide)) (by decide)) rfl rfl hdd (by decide) (by decide) (by decide) (pm_kv (fun σ' cnt' hq => ?_))
  obtain ⟨rfl, rfl⟩ := hq
  refine pm_iincX (v := 5) (loc' := [some (.ref (B + 0)), some (.int 5)]) hG dX7_init_212 rfl (by rfl) (by decide) (pm_c1b rfl) rfl ?_
  refine pm_goto (tgt := 196) hG dX7_init_215 rfl ?_
  refine pm_iloadn hG dX7_init_196 rfl ?_
  refine pm_bipush (v := 10) hG dX7_init_197 (by decide) ?_
  refine pm_icmp_ge (tgt := 218) hG dX7_init_199 rfl (fun q => absurd q (by decide)) (fun _ => ?_)
  refine pm_aloadn hG dX7_init_202 rfl ?_
  refine pm_getf hG dX7_init_203 (flX7_20 _ rfl) rfl rfl ?_
  refine pm_iloadn hG dX7_init_206 rfl ?_
  refine pm_iloadn hG dX7_init_207 rfl ?_
  refine pm_iconst (v := 0) hG dX7_init_208 (by decide) ?_
  refine pm_callV (As := [.int 5, .int 5, .int 0]) (rest := []) hG hR dX7_init_209 (lkX7_61 _ rfl) okV_X9_set rfl rfl (tb_set (d := 2) rfl rfl (pm_tw_of 10 10 (by decide) (by decide) (by decide)) (by decide)) rfl rfl hdd (by decide) (by decide) (by decide) (pm_kv (fun σ' cnt' hq => ?_))
  obtain ⟨rfl, rfl⟩ := hq
  refine pm_iincX (v := 6) (loc' := [some (.ref (B + 0)), some (.int 6)]) hG dX7_init_212 rfl (by rfl) (by decide) (pm_c1b rfl) rfl ?_
  refine pm_goto (tgt := 196) hG dX7_init_215 rfl ?_
  refine pm_iloadn hG dX7_init_196 rfl ?_
  refine pm_bipush (v := 10) hG dX7_init_197 (by decide) ?_
  refine pm_icmp_ge (tgt := 218) hG dX7_init_199 rfl (fun q => absurd q (by decide)) (fun _ => ?_)
  refine pm_aloadn hG dX7_init_202 rfl ?_
  refine pm_getf hG dX7_init_203 (flX7_20 _ rfl) rfl rfl ?_
  refine pm_iloadn hG dX7_init_206 rfl ?_
  refine pm_iloadn hG dX7_init_207 rfl ?_
  refine pm_iconst (v := 0) hG dX7_init_208 (by decide) ?_
  refine pm_callV (As := [.int 6, .int 6, .int 0]) (rest := []) hG hR dX7_init_209 (lkX7_61 _ rfl) okV_X9_set rfl rfl (tb_set (d := 2) rfl rfl (pm_tw_of 10 10 (by decide) (by decide) (by decide)) (by decide)) rfl rfl hdd (by decide) (by decide) (by decide) (pm_kv (fun σ' cnt' hq => ?_))
  obtain ⟨rfl, rfl⟩ := hq
  refine pm_iincX (v := 7) (loc' := [some (.ref (B + 0)), some (.int 7)]) hG dX7_init_212 rfl (by rfl) (by decide) (pm_c1b rfl) rfl ?_
  refine pm_goto (tgt := 196) hG dX7_init_215 rfl ?_
  refine pm_iloadn hG dX7_init_196 rfl ?_
  refine pm_bipush (v := 10) hG dX7_init_197 (by decide) ?_
  refine pm_icmp_ge (tgt := 218) hG dX7_init_199 rfl (fun q => absurd q (by decide)) (fun _ => ?_)
  refine pm_aloadn hG dX7_init_202 rfl ?_
  refine pm_getf hG dX7_init_203 (flX7_20 _ rfl) rfl rfl ?_
  refine pm_iloadn hG dX7_init_206 rfl ?_
  refine pm_iloadn hG dX7_init_207 rfl ?_
  refine pm_iconst (v := 0) hG dX7_init_208 (by decide) ?_
  refine pm_callV (As := [.int 7, .int 7, .int 0]) (rest := []) hG hR dX7_init_209 (lkX7_61 _ rfl) okV_X9_set rfl rfl (tb_set (d := 2) rfl rfl (pm_tw_of 10 10 (by decide) (by decide) (by decide)) (by decide)) rfl rfl hdd (by decide) (by decide) (by decide) (pm_kv (fun σ' cnt' hq => ?_))
  obtain ⟨rfl, rfl⟩ := hq
  refine pm_iincX (v := 8) (loc' := [some (.ref (B + 0)), some (.int 8)]) hG dX7_init_212 rfl (by rfl) (by decide) (pm_c1b rfl) rfl ?_
  refine pm_goto (tgt := 196) hG dX7_init_215 rfl ?_
  refine pm_iloadn hG dX7_init_196 rfl ?_
  refine pm_bipush (v := 10) hG dX7_init_197 (by decide) ?_
  refine pm_icmp_ge (tgt := 218) hG dX7_init_199 rfl (fun q => absurd q (by decide)) (fun _ => ?_)
  refine pm_aloadn hG dX7_init_202 rfl ?_
  refine pm_getf hG dX7_init_203 (flX7_20 _ rfl) rfl rfl ?_
  refine pm_iloadn hG dX7_init_206 rfl ?_
  refine pm_iloadn hG dX7_init_207 rfl ?_
  refine pm_iconst (v := 0) hG dX7_init_208 (by decide) ?_
  refine pm_callV (As := [.int 8, .int 8, .int 0]) (rest := []) hG hR dX7_init_209 (lkX7_61 _ rfl) okV_X9_set rfl rfl (tb_set (d := 2) rfl rfl (pm_tw_of 10 10 (by decide) (by decide) (by decide)) (by decide)) rfl rfl hdd (by decide) (by decide) (by decide) (pm_kv (fun σ' cnt' hq => ?_))
  obtain ⟨rfl, rfl⟩ := hq
  refine pm_iincX (v := 9) (loc' := [some (.ref (B + 0)), some (.int 9)]) hG dX7_init_212 rfl (by rfl) (by decide) (pm_c1b rfl) rfl ?_
  refine pm_goto (tgt := 196) hG dX7_init_215 rfl ?_
  refine pm_iloadn hG dX7_init_196 rfl ?_
  refine pm_bipush (v := 10) hG dX7_init_197 (by decide) ?_
  refine pm_icmp_ge (tgt := 218) hG dX7_init_199 rfl (fun q => absurd q (by decide)) (fun _ => ?_)
  refine pm_aloadn hG dX7_init_202 rfl ?_
  refine pm_getf hG dX7_init_203 (flX7_20 _ rfl) rfl rfl ?_
  refine pm_iloadn hG dX7_init_206 rfl ?_
  refine pm_iloadn hG dX7_init_207 rfl ?_
  refine pm_iconst (v := 0) hG dX7_init_208 (by decide) ?_
  refine pm_callV (As := [.int 9, .int 9, .int 0]) (rest := []) hG hR dX7_init_209 (lkX7_61 _ rfl) okV_X9_set rfl rfl (tb_set (d := 2) rfl rfl (pm_tw_of 10 10 (by decide) (by decide) (by decide)) (by decide)) rfl rfl hdd (by decide) (by decide) (by decide) (pm_kv (fun σ' cnt' hq => ?_))
  obtain ⟨rfl, rfl⟩ := hq
  refine pm_iincX (v := 10) (loc' := [some (.ref (B + 0)), some (.int 10)]) hG dX7_init_212 rfl (by rfl) (by decide) (pm_c1b rfl) rfl ?_
  refine pm_goto (tgt := 196) hG dX7_init_215 rfl ?_
  refine pm_iloadn hG dX7_init_196 rfl ?_
  refine pm_bipush (v := 10) hG dX7_init_197 (by decide) ?_
  refine pm_icmp_ge (tgt := 218) hG dX7_init_199 rfl (fun _ => ?_) (fun q => absurd q (by decide))
  exact pm_vret hG hF dX7_init_218 rfl (by decide) (by decide) ⟨rfl, ⟨_, (pm_lies_cons rfl (pm_lies_cons rfl (pm_lies_cons rfl (pm_lies_cons rfl (pm_lies_cons rfl (pm_lies_cons rfl (pm_lies_cons rfl (pm_lies_cons rfl (pm_lies_cons rfl (pm_lies_cons rfl (pm_lies_cons rfl (pm_lies_cons rfl (pm_lies_cons rfl (pm_lies_cons rfl (pm_lies_cons rfl (pm_lies_cons rfl (pm_lies_cons rfl (pm_lies_cons rfl (pm_lies_cons rfl (pm_lies_cons rfl (pm_lies_cons rfl (pm_lies_cons rfl (pm_lies_cons rfl (pm_lies_cons rfl (pm_lies_cons rfl pm_lies_nil)))))))))))))))))))))))))⟩, (by repeat (first | exact pm_old.rf | refine pm_old.up (by decide) ?_ | refine pm_old.cat (by decide) ?_)), rfl⟩

