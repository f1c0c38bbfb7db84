
abbrev l_k_realm0 (B : Nat) (fw : Nat → Int32) : List pm_C := [.inr (7, [.ref (B + 1), .ref (B + 3), .ref (B + 5), .ref (B + 7), .ref (B + 9), .ref (B + 11), .ref (B + 13), .ref (B + 15), .ref (B + 17), .ref (B + 19), .ref (B + 21), .ref (B + 23), .int 0, .int 0, .int 1000]), .inr (9, [.int 10, .int 3, .ref (B + 2), .int 0]), .inl (30, fun _ => 0), .inr (9, [.int 10, .int 10, .ref (B + 4), .int 0]), .inl (100, fw), .inr (9, [.int 20, .int 14, .ref (B + 6), .int 0]), .inl (280, fun _ => 0), .inr (9, [.int 20, .int 6, .ref (B + 8), .int 0]), .inl (120, fun _ => 0), .inr (9, [.int 12, .int 6, .ref (B + 10), .int 0]), .inl (72, fun _ => 0), .inr (9, [.int 12, .int 60, .ref (B + 12), .int 0]), .inl (720, fun _ => 0), .inr (9, [.int 40, .int 12, .ref (B + 14), .int 0]), .inl (480, fun _ => 0), .inr (9, [.int 6, .int 5, .ref (B + 16), .int 0]), .inl (30, fun _ => 0), .inr (9, [.int 30, .int 5, .ref (B + 18), .int 0]), .inl (150, fun _ => 0), .inr (9, [.int 5, .int 1, .ref (B + 20), .int 0]), .inl (5, fun _ => 0), .inr (9, [.int 20, .int 1, .ref (B + 22), .int 0]), .inl (20, fun _ => 0), .inr (9, [.int 60, .int 1, .ref (B + 24), .int 0]), .inl (60, fun _ => 0)]
set_option maxRecDepth 100000 in
set_option maxHeartbeats 4000000 in
theorem k_realm0 {d B : Nat} {σ : pm_S} (hdd : 3 ≤ d) (hk : σ 0 = some (.inr (7, [.null, .null, .null, .null, .null, .null, .null, .null, .null, .null, .null, .null, .int 0, .int 0, .int 0]))) : pm_met mX7_init d 24 2115 B [.ref (B + 0)] 1 σ (pm_Qv (fun σ' cnt' => (∃ fw : Nat → Int32, pm_lies σ' 0 (l_k_realm0 B fw)) ∧ pm_old 0 σ σ' ∧ cnt' = 25)) := by
  refine pm_enter 1 (by decide) (Nat.le_of_ble_eq_true rfl) rfl (fun G hG hR hF => ?_)
  refine pm_weak (σ2 := pm_cat σ 0 [.inr (7, [.null, .null, .null, .null, .null, .null, .null, .null, .null, .null, .null, .null, .int 0, .int 0, .int 0])]) (pm_cat_sub pm_old.rf (pm_lies_cons hk pm_lies_nil)) ?_
  refine pm_aloadn hG dX7_init_0 rfl ?_
  refine pm_objInit hG hR dX7_init_1 (oiX7_3 _ rfl) pm_oi (by omega) (by decide) ?_
  refine pm_aloadn hG dX7_init_4 rfl ?_
  refine pm_new hG hR dX7_init_5 (nwX7_9 _ rfl) (by decide) (by decide) ?_
  refine pm_nums (cs' := 1) (zs' := 4) (cnt' := 2) rfl rfl rfl ?_
  refine pm_dup hG dX7_init_8 rfl ?_
  refine pm_bipush (v := 10) hG dX7_init_9 (by decide) ?_
  refine pm_iconst (v := 3) hG dX7_init_11 (by decide) ?_
  refine pm_callI (As := [.int 10, .int 3]) (rest := [.ref (B + 1), .ref (B + 0)]) hG hR dX7_init_12 (lkX7_11 _ rfl) okI_X9_init (tb_init (d := 2) (N := 30) (by decide) rfl (by decide) (by decide) (by decide) (by decide) (by decide) (by decide) (by decide) (by decide)) rfl rfl hdd (by decide) (by decide) (by first | decide | exact Nat.le_of_ble_eq_true rfl) (pm_kv (fun σ' cnt' hq => ?_))
  obtain ⟨rfl, rfl⟩ := hq
  refine pm_nums (cs' := 2) (zs' := 34) (cnt' := 3) rfl rfl rfl ?_
  refine pm_putF hG dX7_init_15 (ffX7_14 _ rfl rfl) rfl rfl rfl ?_
  refine pm_aloadn hG dX7_init_18 rfl ?_
  refine pm_new hG hR dX7_init_19 (nwX7_9 _ rfl) (by decide) (by decide) ?_
  refine pm_nums (cs' := 3) (zs' := 38) (cnt' := 4) rfl rfl rfl ?_
  refine pm_dup hG dX7_init_22 rfl ?_
  refine pm_bipush (v := 10) hG dX7_init_23 (by decide) ?_
  refine pm_bipush (v := 10) hG dX7_init_25 (by decide) ?_
  refine pm_callI (As := [.int 10, .int 10]) (rest := [.ref (B + 3), .ref (B + 0)]) hG hR dX7_init_27 (lkX7_11 _ rfl) okI_X9_init (tb_init (d := 2) (N := 100) (by decide) rfl (by decide) (by decide) (by decide) (by decide) (by decide) (by decide) (by decide) (by decide)) rfl rfl hdd (by decide) (by decide) (by first | decide | exact Nat.le_of_ble_eq_true rfl) (pm_kv (fun σ' cnt' hq => ?_))
  obtain ⟨rfl, rfl⟩ := hq
  refine pm_nums (cs' := 4) (zs' := 138) (cnt' := 5) rfl rfl rfl ?_
  refine pm_putF hG dX7_init_30 (ffX7_20 _ rfl rfl) rfl rfl rfl ?_
  refine pm_aloadn hG dX7_init_33 rfl ?_
  refine pm_new hG hR dX7_init_34 (nwX7_9 _ rfl) (by decide) (by decide) ?_
  refine pm_nums (cs' := 5) (zs' := 142) (cnt' := 6) rfl rfl rfl ?_
  refine pm_dup hG dX7_init_37 rfl ?_
  refine pm_bipush (v := 20) hG dX7_init_38 (by decide) ?_
  refine pm_bipush (v := 14) hG dX7_init_40 (by decide) ?_
  refine pm_callI (As := [.int 20, .int 14]) (rest := [.ref (B + 5), .ref (B + 0)]) hG hR dX7_init_42 (lkX7_11 _ rfl) okI_X9_init (tb_init (d := 2) (N := 280) (by decide) rfl (by decide) (by decide) (by decide) (by decide) (by decide) (by decide) (by decide) (by decide)) rfl rfl hdd (by decide) (by decide) (by first | decide | exact Nat.le_of_ble_eq_true rfl) (pm_kv (fun σ' cnt' hq => ?_))
  obtain ⟨rfl, rfl⟩ := hq
  refine pm_nums (cs' := 6) (zs' := 422) (cnt' := 7) rfl rfl rfl ?_
  refine pm_putF hG dX7_init_45 (ffX7_23 _ rfl rfl) rfl rfl rfl ?_
  refine pm_aloadn hG dX7_init_48 rfl ?_
  refine pm_new hG hR dX7_init_49 (nwX7_9 _ rfl) (by decide) (by decide) ?_
  refine pm_nums (cs' := 7) (zs' := 426) (cnt' := 8) rfl rfl rfl ?_
  refine pm_dup hG dX7_init_52 rfl ?_
  refine pm_bipush (v := 20) hG dX7_init_53 (by decide) ?_
  refine pm_bipush (v := 6) hG dX7_init_55 (by decide) ?_
  refine pm_callI (As := [.int 20, .int 6]) (rest := [.ref (B + 7), .ref (B + 0)]) hG hR dX7_init_57 (lkX7_11 _ rfl) okI_X9_init (tb_init (d := 2) (N := 120) (by decide) rfl (by decide) (by decide) (by decide) (by decide) (by decide) (by decide) (by decide) (by decide)) rfl rfl hdd (by decide) (by decide) (by first | decide | exact Nat.le_of_ble_eq_true rfl) (pm_kv (fun σ' cnt' hq => ?_))
  obtain ⟨rfl, rfl⟩ := hq
  refine pm_nums (cs' := 8) (zs' := 546) (cnt' := 9) rfl rfl rfl ?_
  refine pm_putF hG dX7_init_60 (ffX7_26 _ rfl rfl) rfl rfl rfl ?_
  refine pm_aloadn hG dX7_init_63 rfl ?_
  refine pm_new hG hR dX7_init_64 (nwX7_9 _ rfl) (by decide) (by decide) ?_
  refine pm_nums (cs' := 9) (zs' := 550) (cnt' := 10) rfl rfl rfl ?_
  refine pm_dup hG dX7_init_67 rfl ?_
  refine pm_bipush (v := 12) hG dX7_init_68 (by decide) ?_
  refine pm_bipush (v := 6) hG dX7_init_70 (by decide) ?_
  refine pm_callI (As := [.int 12, .int 6]) (rest := [.ref (B + 9), .ref (B + 0)]) hG hR dX7_init_72 (lkX7_11 _ rfl) okI_X9_init (tb_init (d := 2) (N := 72) (by decide) rfl (by decide) (by decide) (by decide) (by decide) (by decide) (by decide) (by decide) (by decide)) rfl rfl hdd (by decide) (by decide) (by first | decide | exact Nat.le_of_ble_eq_true rfl) (pm_kv (fun σ' cnt' hq => ?_))
  obtain ⟨rfl, rfl⟩ := hq
  refine pm_nums (cs' := 10) (zs' := 622) (cnt' := 11) rfl rfl rfl ?_
  refine pm_putF hG dX7_init_75 (ffX7_29 _ rfl rfl) rfl rfl rfl ?_
  refine pm_aloadn hG dX7_init_78 rfl ?_
  refine pm_new hG hR dX7_init_79 (nwX7_9 _ rfl) (by decide) (by decide) ?_
  refine pm_nums (cs' := 11) (zs' := 626) (cnt' := 12) rfl rfl rfl ?_
  refine pm_dup hG dX7_init_82 rfl ?_
  refine pm_bipush (v := 12) hG dX7_init_83 (by decide) ?_
  refine pm_bipush (v := 60) hG dX7_init_85 (by decide) ?_
  refine pm_callI (As := [.int 12, .int 60]) (rest := [.ref (B + 11), .ref (B + 0)]) hG hR dX7_init_87 (lkX7_11 _ rfl) okI_X9_init (tb_init (d := 2) (N := 720) (by decide) rfl (by decide) (by decide) (by decide) (by decide) (by decide) (by decide) (by decide) (by decide)) rfl rfl hdd (by decide) (by decide) (by first | decide | exact Nat.le_of_ble_eq_true rfl) (pm_kv (fun σ' cnt' hq => ?_))
  obtain ⟨rfl, rfl⟩ := hq
  refine pm_nums (cs' := 12) (zs' := 1346) (cnt' := 13) rfl rfl rfl ?_
  refine pm_putF hG dX7_init_90 (ffX7_32 _ rfl rfl) rfl rfl rfl ?_
  refine pm_aloadn hG dX7_init_93 rfl ?_
  refine pm_new hG hR dX7_init_94 (nwX7_9 _ rfl) (by decide) (by decide) ?_
  refine pm_nums (cs' := 13) (zs' := 1350) (cnt' := 14) rfl rfl rfl ?_
  refine pm_dup hG dX7_init_97 rfl ?_
  refine pm_bipush (v := 40) hG dX7_init_98 (by decide) ?_
  refine pm_bipush (v := 12) hG dX7_init_100 (by decide) ?_
  refine pm_callI (As := [.int 40, .int 12]) (rest := [.ref (B + 13), .ref (B + 0)]) hG hR dX7_init_102 (lkX7_11 _ rfl) okI_X9_init (tb_init (d := 2) (N := 480) (by decide) rfl (by decide) (by decide) (by decide) (by decide) (by decide) (by decide) (by decide) (by decide)) rfl rfl hdd (by decide) (by decide) (by first | decide | exact Nat.le_of_ble_eq_true rfl) (pm_kv (fun σ' cnt' hq => ?_))
  obtain ⟨rfl, rfl⟩ := hq
  refine pm_nums (cs' := 14) (zs' := 1830) (cnt' := 15) rfl rfl rfl ?_
  refine pm_putF hG dX7_init_105 (ffX7_35 _ rfl rfl) rfl rfl rfl ?_
  refine pm_aloadn hG dX7_init_108 rfl ?_
  refine pm_new hG hR dX7_init_109 (nwX7_9 _ rfl) (by decide) (by decide) ?_
  refine pm_nums (cs' := 15) (zs' := 1834) (cnt' := 16) rfl rfl rfl ?_
  refine pm_dup hG dX7_init_112 rfl ?_
  refine pm_bipush (v := 6) hG dX7_init_113 (by decide) ?_
  refine pm_iconst (v := 5) hG dX7_init_115 (by decide) ?_
  refine pm_callI (As := [.int 6, .int 5]) (rest := [.ref (B + 15), .ref (B + 0)]) hG hR dX7_init_116 (lkX7_11 _ rfl) okI_X9_init (tb_init (d := 2) (N := 30) (by decide) rfl (by decide) (by decide) (by decide) (by decide) (by decide) (by decide) (by decide) (by decide)) rfl rfl hdd (by decide) (by decide) (by first | decide | exact Nat.le_of_ble_eq_true rfl) (pm_kv (fun σ' cnt' hq => ?_))
  obtain ⟨rfl, rfl⟩ := hq
  refine pm_nums (cs' := 16) (zs' := 1864) (cnt' := 17) rfl rfl rfl ?_
  refine pm_putF hG dX7_init_119 (ffX7_38 _ rfl rfl) rfl rfl rfl ?_
  refine pm_aloadn hG dX7_init_122 rfl ?_
  refine pm_new hG hR dX7_init_123 (nwX7_9 _ rfl) (by decide) (by decide) ?_
  refine pm_nums (cs' := 17) (zs' := 1868) (cnt' := 18) rfl rfl rfl ?_
  refine pm_dup hG dX7_init_126 rfl ?_
  refine pm_bipush (v := 30) hG dX7_init_127 (by decide) ?_
  refine pm_iconst (v := 5) hG dX7_init_129 (by decide) ?_
  refine pm_callI (As := [.int 30, .int 5]) (rest := [.ref (B + 17), .ref (B + 0)]) hG hR dX7_init_130 (lkX7_11 _ rfl) okI_X9_init (tb_init (d := 2) (N := 150) (by decide) rfl (by decide) (by decide) (by decide) (by decide) (by decide) (by decide) (by decide) (by decide)) rfl rfl hdd (by decide) (by decide) (by first | decide | exact Nat.le_of_ble_eq_true rfl) (pm_kv (fun σ' cnt' hq => ?_))
  obtain ⟨rfl, rfl⟩ := hq
  refine pm_nums (cs' := 18) (zs' := 2018) (cnt' := 19) rfl rfl rfl ?_
  refine pm_putF hG dX7_init_133 (ffX7_41 _ rfl rfl) rfl rfl rfl ?_
  refine pm_aloadn hG dX7_init_136 rfl ?_
  refine pm_new hG hR dX7_init_137 (nwX7_9 _ rfl) (by decide) (by decide) ?_
  refine pm_nums (cs' := 19) (zs' := 2022) (cnt' := 20) rfl rfl rfl ?_
  refine pm_dup hG dX7_init_140 rfl ?_
  refine pm_iconst (v := 5) hG dX7_init_141 (by decide) ?_
  refine pm_iconst (v := 1) hG dX7_init_142 (by decide) ?_
  refine pm_callI (As := [.int 5, .int 1]) (rest := [.ref (B + 19), .ref (B + 0)]) hG hR dX7_init_143 (lkX7_11 _ rfl) okI_X9_init (tb_init (d := 2) (N := 5) (by decide) rfl (by decide) (by decide) (by decide) (by decide) (by decide) (by decide) (by decide) (by decide)) rfl rfl hdd (by decide) (by decide) (by first | decide | exact Nat.le_of_ble_eq_true rfl) (pm_kv (fun σ' cnt' hq => ?_))
  obtain ⟨rfl, rfl⟩ := hq
  refine pm_nums (cs' := 20) (zs' := 2027) (cnt' := 21) rfl rfl rfl ?_
  refine pm_putF hG dX7_init_146 (ffX7_44 _ rfl rfl) rfl rfl rfl ?_
  refine pm_aloadn hG dX7_init_149 rfl ?_
  refine pm_new hG hR dX7_init_150 (nwX7_9 _ rfl) (by decide) (by decide) ?_
  refine pm_nums (cs' := 21) (zs' := 2031) (cnt' := 22) rfl rfl rfl ?_
  refine pm_dup hG dX7_init_153 rfl ?_
  refine pm_bipush (v := 20) hG dX7_init_154 (by decide) ?_
  refine pm_iconst (v := 1) hG dX7_init_156 (by decide) ?_
  refine pm_callI (As := [.int 20, .int 1]) (rest := [.ref (B + 21), .ref (B + 0)]) hG hR dX7_init_157 (lkX7_11 _ rfl) okI_X9_init (tb_init (d := 2) (N := 20) (by decide) rfl (by decide) (by decide) (by decide) (by decide) (by decide) (by decide) (by decide) (by decide)) rfl rfl hdd (by decide) (by decide) (by first | decide | exact Nat.le_of_ble_eq_true rfl) (pm_kv (fun σ' cnt' hq => ?_))
  obtain ⟨rfl, rfl⟩ := hq
  refine pm_nums (cs' := 22) (zs' := 2051) (cnt' := 23) rfl rfl rfl ?_
  refine pm_putF hG dX7_init_160 (ffX7_47 _ rfl rfl) rfl rfl rfl ?_
  refine pm_aloadn hG dX7_init_163 rfl ?_
  refine pm_new hG hR dX7_init_164 (nwX7_9 _ rfl) (by decide) (by decide) ?_
  refine pm_nums (cs' := 23) (zs' := 2055) (cnt' := 24) rfl rfl rfl ?_
  refine pm_dup hG dX7_init_167 rfl ?_
  refine pm_bipush (v := 60) hG dX7_init_168 (by decide) ?_
  refine pm_iconst (v := 1) hG dX7_init_170 (by decide) ?_
  refine pm_callI (As := [.int 60, .int 1]) (rest := [.ref (B + 23), .ref (B + 0)]) hG hR dX7_init_171 (lkX7_11 _ rfl) okI_X9_init (tb_init (d := 2) (N := 60) (by decide) rfl (by decide) (by decide) (by decide) (by decide) (by decide) (by decide) (by decide) (by decide)) rfl rfl hdd (by decide) (by decide) (by first | decide | exact Nat.le_of_ble_eq_true rfl) (pm_kv (fun σ' cnt' hq => ?_))
  obtain ⟨rfl, rfl⟩ := hq
  refine pm_nums (cs' := 24) (zs' := 2115) (cnt' := 25) rfl rfl rfl ?_
  refine pm_putF hG dX7_init_174 (ffX7_50 _ rfl rfl) rfl rfl rfl ?_
  refine pm_aloadn hG dX7_init_177 rfl ?_
  refine pm_sipush (v := 1000) hG dX7_init_178 (by decide) ?_
  refine pm_putf hG dX7_init_181 (fwX7_53 _ rfl) rfl rfl rfl ?_
  refine pm_aloadn hG dX7_init_184 rfl ?_
  refine pm_getf hG dX7_init_185 (flX7_20 _ rfl) rfl rfl ?_
  refine pm_sipush (v := 1000) hG dX7_init_188 (by decide) ?_
  refine pm_callV (As := [.int 1000]) (rest := []) hG hR dX7_init_191 (lkX7_57 _ rfl) okV_X9_fill rfl rfl (tb_fill (d := 2) (by decide) rfl rfl (by decide)) rfl rfl hdd (by decide) (by decide) (by decide) (pm_kv (fun σ' cnt' hq => ?_))
  obtain ⟨⟨g, rfl⟩, rfl⟩ := hq
  refine pm_iconst (v := 0) hG dX7_init_194 (by decide) ?_
  refine pm_istoreXn (loc' := [some (.ref (B + 0)), some (.int 0)]) hG dX7_init_195 (by decide) (pm_c1b rfl) rfl ?_
  refine pm_iloadn hG dX7_init_196 rfl ?_
  refine pm_bipush (v := 10) hG dX7_init_197 (by decide) ?_
  refine pm_icmp_ge (tgt := 218) hG dX7_init_199 rfl (fun q => absurd q (by decide)) (fun _ => ?_)
  refine pm_aloadn hG dX7_init_202 rfl ?_
  refine pm_getf hG dX7_init_203 (flX7_20 _ rfl) rfl rfl ?_
  refine pm_iloadn hG dX7_init_206 rfl ?_
  refine pm_iloadn hG dX7_init_207 rfl ?_
  refine pm_iconst (v := 0) hG dX7_init_208 (by decide) ?_
  refine pm_callV (As := [.int 0, .int 0, .int 0]) (rest := []) hG hR dX7_init_209 (lkX7_61 _ rfl) okV_X9_set rfl rfl (tb_set (d := 2) rfl rfl (pm_tw_of 10 10 (by decide) (by decide) (by decide)) (by decide)) rfl rfl hdd (by decide) (by decide) (by decide) (pm_kv (fun σ' cnt' hq => ?_))
  obtain ⟨rfl, rfl⟩ := hq
  refine pm_iincX (v := 1) (loc' := [some (.ref (B + 0)), some (.int 1)]) hG dX7_init_212 rfl (by rfl) (by decide) (pm_c1b rfl) rfl ?_
  refine pm_goto (tgt := 196) hG dX7_init_215 rfl ?_
  refine pm_iloadn hG dX7_init_196 rfl ?_
  refine pm_bipush (v := 10) hG dX7_init_197 (by decide) ?_
  refine pm_icmp_ge (tgt := 218) hG dX7_init_199 rfl (fun q => absurd q (by decide)) (fun _ => ?_)
  refine pm_aloadn hG dX7_init_202 rfl ?_
  refine pm_getf hG dX7_init_203 (flX7_20 _ rfl) rfl rfl ?_
  refine pm_iloadn hG dX7_init_206 rfl ?_
  refine pm_iloadn hG dX7_init_207 rfl ?_
  refine pm_iconst (v := 0) hG dX7_init_208 (by decide) ?_
  refine pm_callV (As := [.int 1, .int 1, .int 0]) (rest := []) hG hR dX7_init_209 (lkX7_61 _ rfl) okV_X9_set rfl rfl (tb_set (d := 2) rfl rfl (pm_tw_of 10 10 (by decide) (by decide) (by decide)) (by decide)) rfl rfl hdd (by decide) (by decide) (by decide) (pm_kv (fun σ' cnt' hq => ?_))
  obtain ⟨rfl, rfl⟩ := hq
  refine pm_iincX (v := 2) (loc' := [some (.ref (B + 0)), some (.int 2)]) hG dX7_init_212 rfl (by rfl) (by decide) (pm_c1b rfl) rfl ?_
  refine pm_goto (tgt := 196) hG dX7_init_215 rfl ?_
  refine pm_iloadn hG dX7_init_196 rfl ?_
  refine pm_bipush (v := 10) hG dX7_init_197 (by decide) ?_
  refine pm_icmp_ge (tgt := 218) hG dX7_init_199 rfl (fun q => absurd q (by decide)) (fun _ => ?_)
  refine pm_aloadn hG dX7_init_202 rfl ?_
  refine pm_getf hG dX7_init_203 (flX7_20 _ rfl) rfl rfl ?_
  refine pm_iloadn hG dX7_init_206 rfl ?_
  refine pm_iloadn hG dX7_init_207 rfl ?_
  refine pm_iconst (v := 0) hG dX7_init_208 (by decide) ?_
  refine pm_callV (As := [.int 2, .int 2, .int 0]) (rest := []) hG hR dX7_init_209 (lkX7_61 _ rfl) okV_X9_set rfl rfl (tb_set (d := 2) rfl rfl (pm_tw_of 10 10 (by decide) (by decide) (by decide)) (by decide)) rfl rfl hdd (by decide) (by decide) (by decide) (pm_kv (fun σ' cnt' hq => ?_))
  obtain ⟨rfl, rfl⟩ := hq
  refine pm_iincX (v := 3) (loc' := [some (.ref (B + 0)), some (.int 3)]) hG dX7_init_212 rfl (by rfl) (by decide) (pm_c1b rfl) rfl ?_
  refine pm_goto (tgt := 196) hG dX7_init_215 rfl ?_
  refine pm_iloadn hG dX7_init_196 rfl ?_
  refine pm_bipush (v := 10) hG dX7_init_197 (by decide) ?_
  refine pm_icmp_ge (tgt := 218) hG dX7_init_199 rfl (fun q => absurd q (by decide)) (fun _ => ?_)
  refine pm_aloadn hG dX7_init_202 rfl ?_
  refine pm_getf hG dX7_init_203 (flX7_20 _ rfl) rfl rfl ?_
  refine pm_iloadn hG dX7_init_206 rfl ?_
  refine pm_iloadn hG dX7_init_207 rfl ?_
  refine pm_iconst (v := 0) hG dX7_init_208 (by decide) ?_
  refine pm_callV (As := [.int 3, .int 3, .int 0]) (rest := []) hG hR dX7_init_209 (lkX7_61 _ rfl) okV_X9_set rfl rfl (tb_set (d := 2) rfl rfl (pm_tw_of 10 10 (by decide) (by decide) (by decide)) (by decide)) rfl rfl hdd (by decide) (by decide) (by decide) (pm_kv (fun σ' cnt' hq => ?_))
  obtain ⟨rfl, rfl⟩ := hq
  refine pm_iincX (v := 4) (loc' := [some (.ref (B + 0)), some (.int 4)]) hG dX7_init_212 rfl (by rfl) (by decide) (pm_c1b rfl) rfl ?_
  refine pm_goto (tgt := 196) hG dX7_init_215 rfl ?_
  refine pm_iloadn hG dX7_init_196 rfl ?_
  refine pm_bipush (v := 10) hG dX7_init_197 (by decide) ?_
  refine pm_icmp_ge (tgt := 218) hG dX7_init_199 rfl (fun q => absurd q (by decide)) (fun _ => ?_)
  refine pm_aloadn hG dX7_init_202 rfl ?_
  refine pm_getf hG dX7_init_203 (flX7_20 _ rfl) rfl rfl ?_
  refine pm_iloadn hG dX7_init_206 rfl ?_
  refine pm_iloadn hG dX7_init_207 rfl ?_
  refine pm_iconst (v := 0) hG dX7_init_208 (by decide) ?_
  refine pm_callV (As := [.int 4, .int 4, .int 0]) (rest := []) hG hR dX7_init_209 (lkX7_61 _ rfl) okV_X9_set rfl rfl (tb_set (d := 2) rfl rfl (pm_tw_of 10 10 (by decide) (by decide) (by decide)) (by decide)) rfl rfl hdd (by decide) (by decide) (by decide) (pm_kv (fun σ' cnt' hq => ?_))
  obtain ⟨rfl, rfl⟩ := hq
  refine pm_iincX (v := 5) (loc' := [some (.ref (B + 0)), some (.int 5)]) hG dX7_init_212 rfl (by rfl) (by decide) (pm_c1b rfl) rfl ?_
  refine pm_goto (tgt := 196) hG dX7_init_215 rfl ?_
  refine pm_iloadn hG dX7_init_196 rfl ?_
  refine pm_bipush (v := 10) hG dX7_init_197 (by decide) ?_
  refine pm_icmp_ge (tgt := 218) hG dX7_init_199 rfl (fun q => absurd q (by decide)) (fun _ => ?_)
  refine pm_aloadn hG dX7_init_202 rfl ?_
  refine pm_getf hG dX7_init_203 (flX7_20 _ rfl) rfl rfl ?_
  refine pm_iloadn hG dX7_init_206 rfl ?_
  refine pm_iloadn hG dX7_init_207 rfl ?_
  refine pm_iconst (v := 0) hG dX7_init_208 (by decide) ?_
  refine pm_callV (As := [.int 5, .int 5, .int 0]) (rest := []) hG hR dX7_init_209 (lkX7_61 _ rfl) okV_X9_set rfl rfl (tb_set (d := 2) rfl rfl (pm_tw_of 10 10 (by decide) (by decide) (by decide)) (by decide)) rfl rfl hdd (by decide) (by decide) (by decide) (pm_kv (fun σ' cnt' hq => ?_))
  obtain ⟨rfl, rfl⟩ := hq
  refine pm_iincX (v := 6) (loc' := [some (.ref (B + 0)), some (.int 6)]) hG dX7_init_212 rfl (by rfl) (by decide) (pm_c1b rfl) rfl ?_
  refine pm_goto (tgt := 196) hG dX7_init_215 rfl ?_
  refine pm_iloadn hG dX7_init_196 rfl ?_
  refine pm_bipush (v := 10) hG dX7_init_197 (by decide) ?_
  refine pm_icmp_ge (tgt := 218) hG dX7_init_199 rfl (fun q => absurd q (by decide)) (fun _ => ?_)
  refine pm_aloadn hG dX7_init_202 rfl ?_
  refine pm_getf hG dX7_init_203 (flX7_20 _ rfl) rfl rfl ?_
  refine pm_iloadn hG dX7_init_206 rfl ?_
  refine pm_iloadn hG dX7_init_207 rfl ?_
  refine pm_iconst (v := 0) hG dX7_init_208 (by decide) ?_
  refine pm_callV (As := [.int 6, .int 6, .int 0]) (rest := []) hG hR dX7_init_209 (lkX7_61 _ rfl) okV_X9_set rfl rfl (tb_set (d := 2) rfl rfl (pm_tw_of 10 10 (by decide) (by decide) (by decide)) (by decide)) rfl rfl hdd (by decide) (by decide) (by decide) (pm_kv (fun σ' cnt' hq => ?_))
  obtain ⟨rfl, rfl⟩ := hq
  refine pm_iincX (v := 7) (loc' := [some (.ref (B + 0)), some (.int 7)]) hG dX7_init_212 rfl (by rfl) (by decide) (pm_c1b rfl) rfl ?_
  refine pm_goto (tgt := 196) hG dX7_init_215 rfl ?_
  refine pm_iloadn hG dX7_init_196 rfl ?_
  refine pm_bipush (v := 10) hG dX7_init_197 (by decide) ?_
  refine pm_icmp_ge (tgt := 218) hG dX7_init_199 rfl (fun q => absurd q (by decide)) (fun _ => ?_)
  refine pm_aloadn hG dX7_init_202 rfl ?_
  refine pm_getf hG dX7_init_203 (flX7_20 _ rfl) rfl rfl ?_
  refine pm_iloadn hG dX7_init_206 rfl ?_
  refine pm_iloadn hG dX7_init_207 rfl ?_
  refine pm_iconst (v := 0) hG dX7_init_208 (by decide) ?_
  refine pm_callV (As := [.int 7, .int 7, .int 0]) (rest := []) hG hR dX7_init_209 (lkX7_61 _ rfl) okV_X9_set rfl rfl (tb_set (d := 2) rfl rfl (pm_tw_of 10 10 (by decide) (by decide) (by decide)) (by decide)) rfl rfl hdd (by decide) (by decide) (by decide) (pm_kv (fun σ' cnt' hq => ?_))
  obtain ⟨rfl, rfl⟩ := hq
  refine pm_iincX (v := 8) (loc' := [some (.ref (B + 0)), some (.int 8)]) hG dX7_init_212 rfl (by rfl) (by decide) (pm_c1b rfl) rfl ?_
  refine pm_goto (tgt := 196) hG dX7_init_215 rfl ?_
  refine pm_iloadn hG dX7_init_196 rfl ?_
  refine pm_bipush (v := 10) hG dX7_init_197 (by decide) ?_
  refine pm_icmp_ge (tgt := 218) hG dX7_init_199 rfl (fun q => absurd q (by decide)) (fun _ => ?_)
  refine pm_aloadn hG dX7_init_202 rfl ?_
  refine pm_getf hG dX7_init_203 (flX7_20 _ rfl) rfl rfl ?_
  refine pm_iloadn hG dX7_init_206 rfl ?_
  refine pm_iloadn hG dX7_init_207 rfl ?_
  refine pm_iconst (v := 0) hG dX7_init_208 (by decide) ?_
  refine pm_callV (As := [.int 8, .int 8, .int 0]) (rest := []) hG hR dX7_init_209 (lkX7_61 _ rfl) okV_X9_set rfl rfl (tb_set (d := 2) rfl rfl (pm_tw_of 10 10 (by decide) (by decide) (by decide)) (by decide)) rfl rfl hdd (by decide) (by decide) (by decide) (pm_kv (fun σ' cnt' hq => ?_))
  obtain ⟨rfl, rfl⟩ := hq
  refine pm_iincX (v := 9) (loc' := [some (.ref (B + 0)), some (.int 9)]) hG dX7_init_212 rfl (by rfl) (by decide) (pm_c1b rfl) rfl ?_
  refine pm_goto (tgt := 196) hG dX7_init_215 rfl ?_
  refine pm_iloadn hG dX7_init_196 rfl ?_
  refine pm_bipush (v := 10) hG dX7_init_197 (by decide) ?_
  refine pm_icmp_ge (tgt := 218) hG dX7_init_199 rfl (fun q => absurd q (by decide)) (fun _ => ?_)
  refine pm_aloadn hG dX7_init_202 rfl ?_
  refine pm_getf hG dX7_init_203 (flX7_20 _ rfl) rfl rfl ?_
  refine pm_iloadn hG dX7_init_206 rfl ?_
  refine pm_iloadn hG dX7_init_207 rfl ?_
  refine pm_iconst (v := 0) hG dX7_init_208 (by decide) ?_
  refine pm_callV (As := [.int 9, .int 9, .int 0]) (rest := []) hG hR dX7_init_209 (lkX7_61 _ rfl) okV_X9_set rfl rfl (tb_set (d := 2) rfl rfl (pm_tw_of 10 10 (by decide) (by decide) (by decide)) (by decide)) rfl rfl hdd (by decide) (by decide) (by decide) (pm_kv (fun σ' cnt' hq => ?_))
  obtain ⟨rfl, rfl⟩ := hq
  refine pm_iincX (v := 10) (loc' := [some (.ref (B + 0)), some (.int 10)]) hG dX7_init_212 rfl (by rfl) (by decide) (pm_c1b rfl) rfl ?_
  refine pm_goto (tgt := 196) hG dX7_init_215 rfl ?_
  refine pm_iloadn hG dX7_init_196 rfl ?_
  refine pm_bipush (v := 10) hG dX7_init_197 (by decide) ?_
  refine pm_icmp_ge (tgt := 218) hG dX7_init_199 rfl (fun _ => ?_) (fun q => absurd q (by decide))
  exact pm_vret hG hF dX7_init_218 rfl (by decide) (by decide) ⟨rfl, ⟨_, (pm_lies_cons rfl (pm_lies_cons rfl (pm_lies_cons rfl (pm_lies_cons rfl (pm_lies_cons rfl (pm_lies_cons rfl (pm_lies_cons rfl (pm_lies_cons rfl (pm_lies_cons rfl (pm_lies_cons rfl (pm_lies_cons rfl (pm_lies_cons rfl (pm_lies_cons rfl (pm_lies_cons rfl (pm_lies_cons rfl (pm_lies_cons rfl (pm_lies_cons rfl (pm_lies_cons rfl (pm_lies_cons rfl (pm_lies_cons rfl (pm_lies_cons rfl (pm_lies_cons rfl (pm_lies_cons rfl (pm_lies_cons rfl (pm_lies_cons rfl pm_lies_nil)))))))))))))))))))))))))⟩, (by repeat (first | exact pm_old.rf | refine pm_old.up (by decide) ?_ | refine pm_old.cat (by decide) ?_)), rfl⟩
/-! ===== a Realm at r; one takes all from another ===== -/
def rl_L (B r : Nat) (J : Nat → Int32) (K : Nat → Nat → Int32) : List pm_C := [.inr (7, [.ref (B + (r + 1)), .ref (B + (r + 3)), .ref (B + (r + 5)), .ref (B + (r + 7)), .ref (B + (r + 9)), .ref (B + (r + 11)), .ref (B + (r + 13)), .ref (B + (r + 15)), .ref (B + (r + 17)), .ref (B + (r + 19)), .ref (B + (r + 21)), .ref (B + (r + 23)), .int (J 101), .int (J 102), .int (J 103)]), .inr (9, [.int (nI 10), .int (nI 3), .ref (B + (r + 2)), .int (J 2)]), .inl (30, K 3), .inr (9, [.int (nI 10), .int (nI 10), .ref (B + (r + 4)), .int (J 4)]), .inl (100, K 5), .inr (9, [.int (nI 20), .int (nI 14), .ref (B + (r + 6)), .int (J 6)]), .inl (280, cmx (K 107) (K 7)), .inr (9, [.int (nI 20), .int (nI 6), .ref (B + (r + 8)), .int (J 8)]), .inl (120, K 9), .inr (9, [.int (nI 12), .int (nI 6), .ref (B + (r + 10)), .int (J 10)]), .inl (72, K 11), .inr (9, [.int (nI 12), .int (nI 60), .ref (B + (r + 12)), .int (J 12)]), .inl (720, K 13), .inr (9, [.int (nI 40), .int (nI 12), .ref (B + (r + 14)), .int (J 14)]), .inl (480, K 15), .inr (9, [.int (nI 6), .int (nI 5), .ref (B + (r + 16)), .int (J 16)]), .inl (30, K 17), .inr (9, [.int (nI 30), .int (nI 5), .ref (B + (r + 18)), .int (J 18)]), .inl (150, K 19), .inr (9, [.int (nI 5), .int (nI 1), .ref (B + (r + 20)), .int (J 20)]), .inl (5, K 21), .inr (9, [.int (nI 20), .int (nI 1), .ref (B + (r + 22)), .int (J 22)]), .inl (20, K 23), .inr (9, [.int (nI 60), .int (nI 1), .ref (B + (r + 24)), .int (J 24)]), .inl (60, K 25)]

def rl_oth (r : Nat) (σ σ' : pm_S) : Prop := ∀ j : Nat, (j < r ∨ r + 25 ≤ j) → σ' j = σ j
theorem rl_oth.rf {r : Nat} {σ : pm_S} : rl_oth r σ σ := fun _ _ => rfl
theorem rl_oth.up {r a : Nat} {σ σ' : pm_S} {x : pm_C} (h : rl_oth r σ σ') (h1 : r ≤ a) (h2 : a < r + 25) : rl_oth r σ (pm_up σ' a x) := fun j hj => (pm_up_ne _ _ (by omega)).trans (h j hj)
theorem rl_up {σ : pm_S} {r : Nat} {L L' : List pm_C} {x : pm_C} (h : pm_lies σ r L) (i : Nat) (e : L.set i x = L') : pm_lies (pm_up σ (r + i) x) r L' := by
  subst e
  intro j y hj
  by_cases hij : i = j
  · subst hij
    rw [pm_up_same]
    rw [List.getElem?_set] at hj
    split at hj
    · split at hj
      · exact hj
      · cases hj
    · next h9 => exact absurd rfl h9
  · rw [pm_up_ne _ _ (by omega)]
    rw [List.getElem?_set_ne hij] at hj
    exact h j y hj
theorem rl_ot {σ : pm_S} {r B k : Nat} {J : Nat → Int32} {K : Nat → Nat → Int32} {x : pm_C} (h : pm_lies σ r (rl_L B r J K)) (hk : k < r ∨ r + 25 ≤ k) : pm_lies (pm_up σ k x) r (rl_L B r J K) := by
  intro j y hj
  have hl : j < (rl_L B r J K).length := (List.getElem?_eq_some_iff.mp hj).1
  have hl2 : (rl_L B r J K).length = 25 := rfl
  rw [pm_up_ne _ _ (by omega)]
  exact h j y hj
def tkd (S : List (Nat × Nat)) (J : Nat → Int32) (K : Nat → Nat → Int32) (J2 : Nat → Int32) (K2 : Nat → Nat → Int32) : Prop := ∀ q ∈ S, J q.1 = J2 q.1 ∧ ∀ j : Nat, j < q.2 → K (q.1 + 1) j = K2 (q.1 + 1) j
theorem tkd.nil {J : Nat → Int32} {K : Nat → Nat → Int32} {J2 : Nat → Int32} {K2 : Nat → Nat → Int32} : tkd [] J K J2 K2 := fun q hq => by cases hq
theorem tkd.cons {S : List (Nat × Nat)} {J : Nat → Int32} {K : Nat → Nat → Int32} {J2 : Nat → Int32} {K2 : Nat → Nat → Int32} {a n : Nat} {v : Int32} {g : Nat → Int32} (ha : S.all (fun q => q.1 != a) = true) (hv : v = J2 a) (hg : ∀ j : Nat, j < n → g j = K2 (a + 1) j) (h : tkd S J K J2 K2) : tkd ((a, n) :: S) (ui J a v) (ua K (a + 1) g) J2 K2 := by
  simp only [List.all_eq_true, bne_iff_ne] at ha
  intro q hq
  rcases List.mem_cons.mp hq with rfl | hq
  · exact ⟨by rw [ui_eq]; exact hv, fun j hj => by rw [ua_eq]; exact hg j hj⟩
  · have h1 := ha q hq
    have h2 := h q hq
    exact ⟨by rw [ui_ne h1]; exact h2.1, fun j hj => by rw [ua_ne (by omega)]; exact h2.2 j hj⟩
theorem tkd_ui {S : List (Nat × Nat)} {J : Nat → Int32} {K : Nat → Nat → Int32} {J2 : Nat → Int32} {K2 : Nat → Nat → Int32} {a : Nat} {v : Int32} (ha : S.all (fun q => q.1 != a) = true) (h : tkd S J K J2 K2) : tkd S (ui J a v) K J2 K2 := by
  simp only [List.all_eq_true, bne_iff_ne] at ha
  intro q hq
  exact ⟨by rw [ui_ne (ha q hq)]; exact (h q hq).1, (h q hq).2⟩
theorem pm_genS {M : pm_M} {G : pm_G} {B pc : Nat} {loc : List (Option Value)} {st : List Value} {cs zs cnt : Nat} {σ : pm_S} (h : ∀ τ : pm_S, σ = τ → pm_wp M G B pc loc st cs zs cnt τ) : pm_wp M G B pc loc st cs zs cnt σ := h σ rfl
theorem pm_cpy0 {f g : Nat → Int32} {n : Nat} (hn : n < 2 ^ 31) : ∀ j : Nat, j < n → va_cpy f g (0 : Int32).toNatClampNeg (0 : Int32).toNatClampNeg (nI n).toNatClampNeg j = f j := by
  intro j hj
  have h0 : (0 : Int32).toNatClampNeg = 0 := rfl
  unfold va_cpy
  rw [nI_clamp hn, h0, if_pos (by omega)]
  congr 1
  omega
theorem pm_ow.narrow {B κ : Nat} {U : State} (h : pm_ow B U) : pm_ow (B + κ) U := by
  obtain ⟨⟨z, h1, h2⟩, h3, adK, adV, h4, h5⟩ := h
  have hk : ∀ q : Nat, B + κ ≤ q → B ≤ q := fun q hq => by omega
  exact ⟨⟨z, h1.narrow hk, h2.narrow hk⟩, h3.narrow hk, adK, adV, h4.narrow hk, h5⟩
/-- a contract at a higher base -/
theorem pm_shift {M : pm_M} {d mc ms B κ c1 : Nat} {av : List Value} {σ σ1 : pm_S} {Q Q1 : Option Value → pm_S → Nat → Prop} (hM : pm_met M d mc ms (B + κ) av c1 σ1 Q1) (hs : ∀ (j : Nat) (x : pm_C), σ1 j = some x → σ (κ + j) = some x)
    (hQ : ∀ (r : Option Value) (σ' : pm_S) (c' : Nat), Q1 r σ' c' → Q r (fun j => if j < κ then σ j else σ' (j - κ)) (κ + c')) : pm_met M d mc ms B av (κ + c1) σ Q := by
  intro l D cI p e ha hf hc s m args below g1 g2 hP hK
  obtain ⟨e1, ⟨e2, e3⟩, e4⟩ := hP
  obtain ⟨n, o, k1, k2, k3, ⟨r, σ', c', q1, q2, q3, q4⟩, L, q5, q6⟩ := hM l D cI p e ha hf hc s m args below g1 g2 ⟨e1, ⟨e2, e3.narrow⟩, by rw [e4.1]; omega, fun j x hj => by rw [Nat.add_assoc]; exact e4.2 (κ + j) x (hs j x hj)⟩ hK
  refine ⟨n, o, k1, k2, k3, ⟨r, _, _, q1, hQ _ _ _ q2, ⟨by rw [q3.1]; omega, fun j x hj => ?_⟩, fun q hq => q4 q (by omega)⟩, L, q5, fun q hq => by have := q6 q hq; omega⟩
  by_cases hj2 : j < κ
  · simp only [if_pos hj2] at hj
    exact (e4.2 j x hj).kept (q4 _ (by omega))
  · simp only [if_neg hj2] at hj
    have h9 := q3.2 _ x hj
    rw [show B + κ + (j - κ) = B + j by omega] at h9
    exact h9
theorem pm_two_lies {L : List pm_C} {ρ : pm_S} (h : L.length ≤ 54) : pm_lies (pm_two L ρ) 0 L := by
  intro i x hi
  have hl : i < L.length := (List.getElem?_eq_some_iff.mp hi).1
  unfold pm_two
  rw [Nat.zero_add, if_pos (by omega)]
  exact hi
theorem pm_two_hi {L : List pm_C} {ρ : pm_S} {j : Nat} (h : 54 ≤ j) : pm_two L ρ j = ρ j := if_neg (by omega)
theorem pm_lies.same {σ σ' : pm_S} {k : Nat} {L : List pm_C} (h : pm_lies σ k L) (hs : ∀ j : Nat, k ≤ j → j < k + L.length → σ' j = σ j) : pm_lies σ' k L := by
  intro i x hi
  have hl : i < L.length := (List.getElem?_eq_some_iff.mp hi).1
  rw [hs _ (by omega) (by omega)]
  exact h i x hi
theorem pm_sub_two {L : List pm_C} {σ : pm_S} (h : pm_lies σ 0 L) : pm_sub (pm_two L σ) σ := by
  intro j x hj
  unfold pm_two at hj
  split at hj
  · have := h j x hj
    rwa [Nat.zero_add] at this
  · exact hj
def rl_J0 (k : Nat) : Int32 := if k = 103 then 1000 else 0
def rl_K0 (fw : Nat → Int32) (a : Nat) : Nat → Int32 := if a = 5 then fw else fun _ => 0
def tk (J : Nat → Int32) (K : Nat → Nat → Int32) (J2 : Nat → Int32) (K2 : Nat → Nat → Int32) (S : List (Nat × Nat)) : Prop := tkd S J K J2 K2 ∧ J 101 = J2 101 ∧ J 102 = J2 102 ∧ J 103 = J2 103 ∧ K 107 = K2 107

theorem tkd_ua {S : List (Nat × Nat)} {J : Nat → Int32} {K : Nat → Nat → Int32} {J2 : Nat → Int32} {K2 : Nat → Nat → Int32} {g : Nat → Int32} (ha : S.all (fun q => decide (q.1 < 100)) = true) (h : tkd S J K J2 K2) : tkd S J (ua K 107 g) J2 K2 := by
  simp only [List.all_eq_true, decide_eq_true_eq] at ha
  intro q hq
  have h1 := ha q hq
  exact ⟨(h q hq).1, fun j hj => by rw [ua_ne (by omega)]; exact (h q hq).2 j hj⟩

def tk_all : List (Nat × Nat) := [(24, 60), (22, 20), (20, 5), (18, 150), (16, 30), (14, 480), (12, 720), (10, 72), (8, 120), (6, 0), (4, 100), (2, 30)]

def gcR : List (Nat × Nat) := [(2, 10), (4, 10), (6, 20), (8, 20), (10, 12), (12, 12), (14, 40), (16, 6), (18, 30), (20, 5), (22, 20), (24, 60)]

def gsr (J : Nat → Int32) : Prop := ∀ q ∈ gcR, ∃ k : Nat, k ≤ q.2 ∧ J q.1 = nI k

theorem gsr.of {J J2 : Nat → Int32} {K K2 : Nat → Nat → Int32} (h : tkd tk_all J K J2 K2) (h2 : gsr J2) : gsr J := by
  intro q hq
  obtain ⟨k, hk, e⟩ := h2 q hq
  have h3 : ∀ q ∈ gcR, ∃ p ∈ tk_all, p.1 = q.1 := by decide
  obtain ⟨p, hp, ep⟩ := h3 q hq
  have h4 := (h p hp).1
  rw [ep] at h4
  exact ⟨k, hk, h4.trans e⟩
theorem gs.r {I : Nat → Int32} (h : gs I) : gsr I := by
  intro q hq
  have h3 : ∀ q ∈ gcR, q ∈ gcT := by decide
  exact h q (h3 q hq)

set_option maxRecDepth 100000 in
theorem tb_takeFrom {d B cnt t c t2 c2 n R W u : Nat} {σ : pm_S} {used : Int32} {f f2 : Nat → Int32} (hdd : 1 ≤ d) (ht : σ t = some (.inr (9, [.int (nI R), .int (nI W), .ref (B + c), .int used]))) (hc : σ c = some (.inl (n, f))) (ht2 : σ t2 = some (.inr (9, [.int (nI R), .int (nI W), .ref (B + c2), .int (nI u)]))) (hc2 : σ c2 = some (.inl (n, f2))) (hu : u ≤ R) (hR : R < 2 ^ 31) (hn : n < 2 ^ 31) (htc : t ≠ c) (htt2 : t ≠ t2) (htc2 : t ≠ c2) (hct2 : c ≠ t2) (hcc2 : c ≠ c2) (ht2c2 : t2 ≠ c2) : pm_met mX9_takeFrom d 0 0 B [.ref (B + t), .ref (B + t2)] cnt σ (pm_Qv (fun σ' cnt' => (∃ g : Nat → Int32, (∀ j : Nat, j < n → g j = f2 j) ∧ σ' = pm_up (pm_up σ t (.inr (9, [.int (nI R), .int (nI W), .ref (B + c), .int (nI u)]))) c (.inl (n, g))) ∧ cnt' = cnt)) := by
  refine pm_enter 0 (by decide) (Nat.le_of_ble_eq_true rfl) rfl (fun G hG hRm hF => ?_)
  refine pm_aloadn hG dX9_takeFrom_0 rfl ?_
  refine pm_aloadn hG dX9_takeFrom_1 rfl ?_
  refine pm_getf hG dX9_takeFrom_2 (flX9_29 _ rfl) ht2 rfl ?_
  refine pm_aloadn hG dX9_takeFrom_5 rfl ?_
  refine pm_getf hG dX9_takeFrom_6 (flX9_16 _ rfl) ht rfl ?_
  refine pm_mmin hG hRm dX9_takeFrom_9 (mmX9_7 _ rfl) pm_mwmin (by omega) (by first | decide | exact Nat.le_of_ble_eq_true rfl) (Nat.le_refl _) (Nat.le_refl _) ?_
  refine pm_top (v := nI u) (if_neg (nI_nlt hu hR)) ?_
  refine pm_putf hG dX9_takeFrom_12 (fwX9_29 _ rfl) ht rfl rfl ?_
  refine pm_aloadn hG dX9_takeFrom_15 rfl ?_
  refine pm_getf hG dX9_takeFrom_16 (flX9_25 _ rfl) ((pm_up_ne _ _ htt2.symm).trans ht2) rfl ?_
  refine pm_iconst (v := 0) hG dX9_takeFrom_19 (by decide) ?_
  refine pm_aloadn hG dX9_takeFrom_20 rfl ?_
  refine pm_getf hG dX9_takeFrom_21 (flX9_25 _ rfl) (pm_up_same _ _ _) rfl ?_
  refine pm_iconst (v := 0) hG dX9_takeFrom_24 (by decide) ?_
  refine pm_aloadn hG dX9_takeFrom_25 rfl ?_
  refine pm_getf hG dX9_takeFrom_26 (flX9_25 _ rfl) (pm_up_same _ _ _) rfl ?_
  refine pm_alen hG dX9_takeFrom_29 ((pm_up_ne _ _ htc.symm).trans hc) rfl ?_
  refine pm_aloadn hG dX9_takeFrom_30 rfl ?_
  refine pm_getf hG dX9_takeFrom_31 (flX9_25 _ rfl) ((pm_up_ne _ _ htt2.symm).trans ht2) rfl ?_
  refine pm_alen hG dX9_takeFrom_34 ((pm_up_ne _ _ htc2.symm).trans hc2) rfl ?_
  refine pm_mmin hG hRm dX9_takeFrom_35 (mmX9_7 _ rfl) pm_mwmin (by omega) (by first | decide | exact Nat.le_of_ble_eq_true rfl) (Nat.le_refl _) (Nat.le_refl _) ?_
  refine pm_top (v := nI n) (ite_self _) ?_
  refine pm_acopy hG hRm dX9_takeFrom_38 (acX9_49 _ rfl) pm_cwok hdd (by decide) ((pm_up_ne _ _ htc2.symm).trans hc2) ((pm_up_ne _ _ htc.symm).trans hc) (by decide) (by decide) (nI_pos hn) (by rw [nI_clamp hn]; exact Nat.le_of_eq (Nat.zero_add _)) (by rw [nI_clamp hn]; exact Nat.le_of_eq (Nat.zero_add _)) ?_
  exact pm_vret hG hF dX9_takeFrom_41 rfl (by decide) (by decide) ⟨rfl, ⟨_, pm_cpy0 hn, rfl⟩, rfl⟩

set_option maxRecDepth 100000 in
set_option maxHeartbeats 4000000 in
theorem g_takeFrom {d B cnt r1 r2 : Nat} {σ : pm_S} {J1 J2 : Nat → Int32} {K1 K2 : Nat → Nat → Int32} (hdd : 2 ≤ d) (hr : r1 + 25 ≤ r2 ∨ r2 + 25 ≤ r1) (h1 : pm_lies σ r1 (rl_L B r1 J1 K1)) (h2 : pm_lies σ r2 (rl_L B r2 J2 K2)) (hJ2 : gsr J2) : pm_met mX7_takeFrom d 0 0 B [.ref (B + (r1 + 0)), .ref (B + (r2 + 0))] cnt σ (pm_Qv (fun σ' cnt' => ∃ (J : Nat → Int32) (K : Nat → Nat → Int32), pm_lies σ' r1 (rl_L B r1 J K) ∧ tk J K J2 K2 tk_all ∧ rl_oth r1 σ σ' ∧ cnt' = cnt)) := by
  refine pm_enter 0 (by decide) (Nat.le_of_ble_eq_true rfl) rfl (fun G hG hR hF => ?_)
  refine pm_aloadn hG dX7_takeFrom_0 rfl ?_
  refine pm_getf hG dX7_takeFrom_1 (flX7_14 _ rfl) (h1 0 _ rfl) rfl ?_
  refine pm_aloadn hG dX7_takeFrom_4 rfl ?_
  refine pm_getf hG dX7_takeFrom_5 (flX7_14 _ rfl) (h2 0 _ rfl) rfl ?_
  obtain ⟨u0, hu0, eu0⟩ := hJ2 (2, 10) (by decide)
  refine pm_callV (As := [.ref (B + (r2 + 1))]) (rest := []) hG hR dX7_takeFrom_8 (lkX7_65 _ rfl) okV_X9_takeFrom (h1 1 _ rfl) rfl (tb_takeFrom (d := 1) (t := r1 + 1) (c := r1 + 2) (t2 := r2 + 1) (c2 := r2 + 2) (n := 30) (R := 10) (W := 3) (u := u0) (by decide) (h1 1 _ rfl) (h1 2 _ rfl) (by rw [← eu0]; exact h2 1 _ rfl) (h2 2 _ rfl) hu0 (by decide) (by decide) (by omega) (by omega) (by omega) (by omega) (by omega) (by omega)) rfl rfl hdd (Nat.le_refl _) (Nat.le_refl _) (by decide) (pm_kv (fun σ0 cnt0 hq => ?_))
  obtain ⟨⟨g0, hg0, es0⟩, rfl⟩ := hq
  have a0 : pm_lies σ0 r1 (rl_L B r1 (ui J1 2 (nI u0)) (ua K1 3 g0)) := by rw [es0]; exact rl_up (rl_up h1 1 rfl) 2 rfl
  have b0 : pm_lies σ0 r2 (rl_L B r2 J2 K2) := by rw [es0]; exact rl_ot (rl_ot h2 (by omega)) (by omega)
  have o0 : rl_oth r1 σ σ0 := by rw [es0]; exact rl_oth.up (rl_oth.up rl_oth.rf (by omega) (by omega)) (by omega) (by omega)
  have k0 : tkd [(2, 30)] (ui J1 2 (nI u0)) (ua K1 3 g0) J2 K2 := tkd.cons (by decide) eu0.symm hg0 tkd.nil
  clear es0
  generalize (ui J1 2 (nI u0)) = J0_, (ua K1 3 g0) = K0_ at a0 k0
  refine pm_aloadn hG dX7_takeFrom_11 rfl ?_
  refine pm_getf hG dX7_takeFrom_12 (flX7_20 _ rfl) (a0 0 _ rfl) rfl ?_
  refine pm_aloadn hG dX7_takeFrom_15 rfl ?_
  refine pm_getf hG dX7_takeFrom_16 (flX7_20 _ rfl) (b0 0 _ rfl) rfl ?_
  obtain ⟨u1, hu1, eu1⟩ := hJ2 (4, 10) (by decide)
  refine pm_callV (As := [.ref (B + (r2 + 3))]) (rest := []) hG hR dX7_takeFrom_19 (lkX7_65 _ rfl) okV_X9_takeFrom (a0 3 _ rfl) rfl (tb_takeFrom (d := 1) (t := r1 + 3) (c := r1 + 4) (t2 := r2 + 3) (c2 := r2 + 4) (n := 100) (R := 10) (W := 10) (u := u1) (by decide) (a0 3 _ rfl) (a0 4 _ rfl) (by rw [← eu1]; exact b0 3 _ rfl) (b0 4 _ rfl) hu1 (by decide) (by decide) (by omega) (by omega) (by omega) (by omega) (by omega) (by omega)) rfl rfl hdd (Nat.le_refl _) (Nat.le_refl _) (by decide) (pm_kv (fun σ1 cnt1 hq => ?_))
  obtain ⟨⟨g1, hg1, es1⟩, rfl⟩ := hq
  have a1 : pm_lies σ1 r1 (rl_L B r1 (ui J0_ 4 (nI u1)) (ua K0_ 5 g1)) := by rw [es1]; exact rl_up (rl_up a0 3 rfl) 4 rfl
  have b1 : pm_lies σ1 r2 (rl_L B r2 J2 K2) := by rw [es1]; exact rl_ot (rl_ot b0 (by omega)) (by omega)
  have o1 : rl_oth r1 σ σ1 := by rw [es1]; exact rl_oth.up (rl_oth.up (o0) (by omega) (by omega)) (by omega) (by omega)
  have k1 : tkd [(4, 100), (2, 30)] (ui J0_ 4 (nI u1)) (ua K0_ 5 g1) J2 K2 := tkd.cons (by decide) eu1.symm hg1 k0
  clear es1
  generalize (ui J0_ 4 (nI u1)) = J1_, (ua K0_ 5 g1) = K1_ at a1 k1
  refine pm_aloadn hG dX7_takeFrom_22 rfl ?_
  refine pm_getf hG dX7_takeFrom_23 (flX7_23 _ rfl) (a1 0 _ rfl) rfl ?_
  refine pm_aloadn hG dX7_takeFrom_26 rfl ?_
  refine pm_getf hG dX7_takeFrom_27 (flX7_23 _ rfl) (b1 0 _ rfl) rfl ?_
  obtain ⟨u2, hu2, eu2⟩ := hJ2 (6, 20) (by decide)
  refine pm_callV (As := [.ref (B + (r2 + 5))]) (rest := []) hG hR dX7_takeFrom_30 (lkX7_65 _ rfl) okV_X9_takeFrom (a1 5 _ rfl) rfl (tb_takeFrom (d := 1) (f2 := cmx (K2 107) (K2 7)) (t := r1 + 5) (c := r1 + 6) (t2 := r2 + 5) (c2 := r2 + 6) (n := 280) (R := 20) (W := 14) (u := u2) (by decide) (a1 5 _ rfl) (a1 6 _ rfl) (by rw [← eu2]; exact b1 5 _ rfl) (b1 6 _ rfl) hu2 (by decide) (by decide) (by omega) (by omega) (by omega) (by omega) (by omega) (by omega)) rfl rfl hdd (Nat.le_refl _) (Nat.le_refl _) (by decide) (pm_kv (fun σ2 cnt2 hq => ?_))
  obtain ⟨⟨g2, hg2, es2⟩, rfl⟩ := hq
  have hT2 : ∀ j : Nat, t7 j = true → g2 j = K2 107 j := fun j hj => (hg2 j (t7_iff.mp hj).1).trans (cmx_t hj)
  have a2 : pm_lies σ2 r1 (rl_L B r1 (ui J1_ 6 (nI u2)) (ua (ua K1_ 107 (K2 107)) 7 g2)) := by
    rw [es2]
    have e : (rl_L B r1 (ui J1_ 6 (nI u2)) K1_).set 6 (.inl (280, cmx (K2 107) g2)) = rl_L B r1 (ui J1_ 6 (nI u2)) (ua (ua K1_ 107 (K2 107)) 7 g2) := rfl
    rw [cmx_of hT2] at e
    exact rl_up (L := rl_L B r1 (ui J1_ 6 (nI u2)) K1_) (rl_up a1 5 rfl) 6 e
  have k2 : tkd [(6, 0), (4, 100), (2, 30)] (ui J1_ 6 (nI u2)) (ua (ua K1_ 107 (K2 107)) 7 g2) J2 K2 := tkd.cons (by decide) eu2.symm (fun _ hj => absurd hj (Nat.not_lt_zero _)) (tkd_ua (by decide) k1)
  have y2 : (ua (ua K1_ 107 (K2 107)) 7 g2) 107 = K2 107 := (ua_ne (by decide)).trans ua_eq
  have b2 : pm_lies σ2 r2 (rl_L B r2 J2 K2) := by rw [es2]; exact rl_ot (rl_ot b1 (by omega)) (by omega)
  have o2 : rl_oth r1 σ σ2 := by rw [es2]; exact rl_oth.up (rl_oth.up (o1) (by omega) (by omega)) (by omega) (by omega)
  clear es2
  generalize (ui J1_ 6 (nI u2)) = J2_, (ua (ua K1_ 107 (K2 107)) 7 g2) = K2_ at a2 k2 y2
  refine pm_aloadn hG dX7_takeFrom_33 rfl ?_
  refine pm_getf hG dX7_takeFrom_34 (flX7_26 _ rfl) (a2 0 _ rfl) rfl ?_
  refine pm_aloadn hG dX7_takeFrom_37 rfl ?_
  refine pm_getf hG dX7_takeFrom_38 (flX7_26 _ rfl) (b2 0 _ rfl) rfl ?_
  obtain ⟨u3, hu3, eu3⟩ := hJ2 (8, 20) (by decide)
  refine pm_callV (As := [.ref (B + (r2 + 7))]) (rest := []) hG hR dX7_takeFrom_41 (lkX7_65 _ rfl) okV_X9_takeFrom (a2 7 _ rfl) rfl (tb_takeFrom (d := 1) (t := r1 + 7) (c := r1 + 8) (t2 := r2 + 7) (c2 := r2 + 8) (n := 120) (R := 20) (W := 6) (u := u3) (by decide) (a2 7 _ rfl) (a2 8 _ rfl) (by rw [← eu3]; exact b2 7 _ rfl) (b2 8 _ rfl) hu3 (by decide) (by decide) (by omega) (by omega) (by omega) (by omega) (by omega) (by omega)) rfl rfl hdd (Nat.le_refl _) (Nat.le_refl _) (by decide) (pm_kv (fun σ3 cnt3 hq => ?_))
  obtain ⟨⟨g3, hg3, es3⟩, rfl⟩ := hq
  have y3 : (ua K2_ 9 g3) 107 = K2 107 := (ua_ne (by decide)).trans y2
  have a3 : pm_lies σ3 r1 (rl_L B r1 (ui J2_ 8 (nI u3)) (ua K2_ 9 g3)) := by rw [es3]; exact rl_up (rl_up a2 7 rfl) 8 rfl
  have b3 : pm_lies σ3 r2 (rl_L B r2 J2 K2) := by rw [es3]; exact rl_ot (rl_ot b2 (by omega)) (by omega)
  have o3 : rl_oth r1 σ σ3 := by rw [es3]; exact rl_oth.up (rl_oth.up (o2) (by omega) (by omega)) (by omega) (by omega)
  have k3 : tkd [(8, 120), (6, 0), (4, 100), (2, 30)] (ui J2_ 8 (nI u3)) (ua K2_ 9 g3) J2 K2 := tkd.cons (by decide) eu3.symm hg3 k2
  clear es3
  generalize (ui J2_ 8 (nI u3)) = J3_, (ua K2_ 9 g3) = K3_ at a3 k3 y3
  refine pm_aloadn hG dX7_takeFrom_44 rfl ?_
  refine pm_getf hG dX7_takeFrom_45 (flX7_29 _ rfl) (a3 0 _ rfl) rfl ?_
  refine pm_aloadn hG dX7_takeFrom_48 rfl ?_
  refine pm_getf hG dX7_takeFrom_49 (flX7_29 _ rfl) (b3 0 _ rfl) rfl ?_
  obtain ⟨u4, hu4, eu4⟩ := hJ2 (10, 12) (by decide)
  refine pm_callV (As := [.ref (B + (r2 + 9))]) (rest := []) hG hR dX7_takeFrom_52 (lkX7_65 _ rfl) okV_X9_takeFrom (a3 9 _ rfl) rfl (tb_takeFrom (d := 1) (t := r1 + 9) (c := r1 + 10) (t2 := r2 + 9) (c2 := r2 + 10) (n := 72) (R := 12) (W := 6) (u := u4) (by decide) (a3 9 _ rfl) (a3 10 _ rfl) (by rw [← eu4]; exact b3 9 _ rfl) (b3 10 _ rfl) hu4 (by decide) (by decide) (by omega) (by omega) (by omega) (by omega) (by omega) (by omega)) rfl rfl hdd (Nat.le_refl _) (Nat.le_refl _) (by decide) (pm_kv (fun σ4 cnt4 hq => ?_))
  obtain ⟨⟨g4, hg4, es4⟩, rfl⟩ := hq
  have y4 : (ua K3_ 11 g4) 107 = K2 107 := (ua_ne (by decide)).trans y3
  have a4 : pm_lies σ4 r1 (rl_L B r1 (ui J3_ 10 (nI u4)) (ua K3_ 11 g4)) := by rw [es4]; exact rl_up (rl_up a3 9 rfl) 10 rfl
  have b4 : pm_lies σ4 r2 (rl_L B r2 J2 K2) := by rw [es4]; exact rl_ot (rl_ot b3 (by omega)) (by omega)
  have o4 : rl_oth r1 σ σ4 := by rw [es4]; exact rl_oth.up (rl_oth.up (o3) (by omega) (by omega)) (by omega) (by omega)
  have k4 : tkd [(10, 72), (8, 120), (6, 0), (4, 100), (2, 30)] (ui J3_ 10 (nI u4)) (ua K3_ 11 g4) J2 K2 := tkd.cons (by decide) eu4.symm hg4 k3
  clear es4
  generalize (ui J3_ 10 (nI u4)) = J4_, (ua K3_ 11 g4) = K4_ at a4 k4 y4
  refine pm_aloadn hG dX7_takeFrom_55 rfl ?_
  refine pm_getf hG dX7_takeFrom_56 (flX7_32 _ rfl) (a4 0 _ rfl) rfl ?_
  refine pm_aloadn hG dX7_takeFrom_59 rfl ?_
  refine pm_getf hG dX7_takeFrom_60 (flX7_32 _ rfl) (b4 0 _ rfl) rfl ?_
  obtain ⟨u5, hu5, eu5⟩ := hJ2 (12, 12) (by decide)
  refine pm_callV (As := [.ref (B + (r2 + 11))]) (rest := []) hG hR dX7_takeFrom_63 (lkX7_65 _ rfl) okV_X9_takeFrom (a4 11 _ rfl) rfl (tb_takeFrom (d := 1) (t := r1 + 11) (c := r1 + 12) (t2 := r2 + 11) (c2 := r2 + 12) (n := 720) (R := 12) (W := 60) (u := u5) (by decide) (a4 11 _ rfl) (a4 12 _ rfl) (by rw [← eu5]; exact b4 11 _ rfl) (b4 12 _ rfl) hu5 (by decide) (by decide) (by omega) (by omega) (by omega) (by omega) (by omega) (by omega)) rfl rfl hdd (Nat.le_refl _) (Nat.le_refl _) (by decide) (pm_kv (fun σ5 cnt5 hq => ?_))
  obtain ⟨⟨g5, hg5, es5⟩, rfl⟩ := hq
  have y5 : (ua K4_ 13 g5) 107 = K2 107 := (ua_ne (by decide)).trans y4
  have a5 : pm_lies σ5 r1 (rl_L B r1 (ui J4_ 12 (nI u5)) (ua K4_ 13 g5)) := by rw [es5]; exact rl_up (rl_up a4 11 rfl) 12 rfl
  have b5 : pm_lies σ5 r2 (rl_L B r2 J2 K2) := by rw [es5]; exact rl_ot (rl_ot b4 (by omega)) (by omega)
  have o5 : rl_oth r1 σ σ5 := by rw [es5]; exact rl_oth.up (rl_oth.up (o4) (by omega) (by omega)) (by omega) (by omega)
  have k5 : tkd [(12, 720), (10, 72), (8, 120), (6, 0), (4, 100), (2, 30)] (ui J4_ 12 (nI u5)) (ua K4_ 13 g5) J2 K2 := tkd.cons (by decide) eu5.symm hg5 k4
  clear es5
  generalize (ui J4_ 12 (nI u5)) = J5_, (ua K4_ 13 g5) = K5_ at a5 k5 y5
  refine pm_aloadn hG dX7_takeFrom_66 rfl ?_
  refine pm_getf hG dX7_takeFrom_67 (flX7_35 _ rfl) (a5 0 _ rfl) rfl ?_
  refine pm_aloadn hG dX7_takeFrom_70 rfl ?_
  refine pm_getf hG dX7_takeFrom_71 (flX7_35 _ rfl) (b5 0 _ rfl) rfl ?_
  obtain ⟨u6, hu6, eu6⟩ := hJ2 (14, 40) (by decide)
  refine pm_callV (As := [.ref (B + (r2 + 13))]) (rest := []) hG hR dX7_takeFrom_74 (lkX7_65 _ rfl) okV_X9_takeFrom (a5 13 _ rfl) rfl (tb_takeFrom (d := 1) (t := r1 + 13) (c := r1 + 14) (t2 := r2 + 13) (c2 := r2 + 14) (n := 480) (R := 40) (W := 12) (u := u6) (by decide) (a5 13 _ rfl) (a5 14 _ rfl) (by rw [← eu6]; exact b5 13 _ rfl) (b5 14 _ rfl) hu6 (by decide) (by decide) (by omega) (by omega) (by omega) (by omega) (by omega) (by omega)) rfl rfl hdd (Nat.le_refl _) (Nat.le_refl _) (by decide) (pm_kv (fun σ6 cnt6 hq => ?_))
  obtain ⟨⟨g6, hg6, es6⟩, rfl⟩ := hq
  have y6 : (ua K5_ 15 g6) 107 = K2 107 := (ua_ne (by decide)).trans y5
  have a6 : pm_lies σ6 r1 (rl_L B r1 (ui J5_ 14 (nI u6)) (ua K5_ 15 g6)) := by rw [es6]; exact rl_up (rl_up a5 13 rfl) 14 rfl
  have b6 : pm_lies σ6 r2 (rl_L B r2 J2 K2) := by rw [es6]; exact rl_ot (rl_ot b5 (by omega)) (by omega)
  have o6 : rl_oth r1 σ σ6 := by rw [es6]; exact rl_oth.up (rl_oth.up (o5) (by omega) (by omega)) (by omega) (by omega)
  have k6 : tkd [(14, 480), (12, 720), (10, 72), (8, 120), (6, 0), (4, 100), (2, 30)] (ui J5_ 14 (nI u6)) (ua K5_ 15 g6) J2 K2 := tkd.cons (by decide) eu6.symm hg6 k5
  clear es6
  generalize (ui J5_ 14 (nI u6)) = J6_, (ua K5_ 15 g6) = K6_ at a6 k6 y6
  refine pm_aloadn hG dX7_takeFrom_77 rfl ?_
  refine pm_getf hG dX7_takeFrom_78 (flX7_38 _ rfl) (a6 0 _ rfl) rfl ?_
  refine pm_aloadn hG dX7_takeFrom_81 rfl ?_
  refine pm_getf hG dX7_takeFrom_82 (flX7_38 _ rfl) (b6 0 _ rfl) rfl ?_
  obtain ⟨u7, hu7, eu7⟩ := hJ2 (16, 6) (by decide)
  refine pm_callV (As := [.ref (B + (r2 + 15))]) (rest := []) hG hR dX7_takeFrom_85 (lkX7_65 _ rfl) okV_X9_takeFrom (a6 15 _ rfl) rfl (tb_takeFrom (d := 1) (t := r1 + 15) (c := r1 + 16) (t2 := r2 + 15) (c2 := r2 + 16) (n := 30) (R := 6) (W := 5) (u := u7) (by decide) (a6 15 _ rfl) (a6 16 _ rfl) (by rw [← eu7]; exact b6 15 _ rfl) (b6 16 _ rfl) hu7 (by decide) (by decide) (by omega) (by omega) (by omega) (by omega) (by omega) (by omega)) rfl rfl hdd (Nat.le_refl _) (Nat.le_refl _) (by decide) (pm_kv (fun σ7 cnt7 hq => ?_))
  obtain ⟨⟨g7, hg7, es7⟩, rfl⟩ := hq
  have y7 : (ua K6_ 17 g7) 107 = K2 107 := (ua_ne (by decide)).trans y6
  have a7 : pm_lies σ7 r1 (rl_L B r1 (ui J6_ 16 (nI u7)) (ua K6_ 17 g7)) := by rw [es7]; exact rl_up (rl_up a6 15 rfl) 16 rfl
  have b7 : pm_lies σ7 r2 (rl_L B r2 J2 K2) := by rw [es7]; exact rl_ot (rl_ot b6 (by omega)) (by omega)
  have o7 : rl_oth r1 σ σ7 := by rw [es7]; exact rl_oth.up (rl_oth.up (o6) (by omega) (by omega)) (by omega) (by omega)
  have k7 : tkd [(16, 30), (14, 480), (12, 720), (10, 72), (8, 120), (6, 0), (4, 100), (2, 30)] (ui J6_ 16 (nI u7)) (ua K6_ 17 g7) J2 K2 := tkd.cons (by decide) eu7.symm hg7 k6
  clear es7
  generalize (ui J6_ 16 (nI u7)) = J7_, (ua K6_ 17 g7) = K7_ at a7 k7 y7
  refine pm_aloadn hG dX7_takeFrom_88 rfl ?_
  refine pm_getf hG dX7_takeFrom_89 (flX7_41 _ rfl) (a7 0 _ rfl) rfl ?_
  refine pm_aloadn hG dX7_takeFrom_92 rfl ?_
  refine pm_getf hG dX7_takeFrom_93 (flX7_41 _ rfl) (b7 0 _ rfl) rfl ?_
  obtain ⟨u8, hu8, eu8⟩ := hJ2 (18, 30) (by decide)
  refine pm_callV (As := [.ref (B + (r2 + 17))]) (rest := []) hG hR dX7_takeFrom_96 (lkX7_65 _ rfl) okV_X9_takeFrom (a7 17 _ rfl) rfl (tb_takeFrom (d := 1) (t := r1 + 17) (c := r1 + 18) (t2 := r2 + 17) (c2 := r2 + 18) (n := 150) (R := 30) (W := 5) (u := u8) (by decide) (a7 17 _ rfl) (a7 18 _ rfl) (by rw [← eu8]; exact b7 17 _ rfl) (b7 18 _ rfl) hu8 (by decide) (by decide) (by omega) (by omega) (by omega) (by omega) (by omega) (by omega)) rfl rfl hdd (Nat.le_refl _) (Nat.le_refl _) (by decide) (pm_kv (fun σ8 cnt8 hq => ?_))
  obtain ⟨⟨g8, hg8, es8⟩, rfl⟩ := hq
  have y8 : (ua K7_ 19 g8) 107 = K2 107 := (ua_ne (by decide)).trans y7
  have a8 : pm_lies σ8 r1 (rl_L B r1 (ui J7_ 18 (nI u8)) (ua K7_ 19 g8)) := by rw [es8]; exact rl_up (rl_up a7 17 rfl) 18 rfl
  have b8 : pm_lies σ8 r2 (rl_L B r2 J2 K2) := by rw [es8]; exact rl_ot (rl_ot b7 (by omega)) (by omega)
  have o8 : rl_oth r1 σ σ8 := by rw [es8]; exact rl_oth.up (rl_oth.up (o7) (by omega) (by omega)) (by omega) (by omega)
  have k8 : tkd [(18, 150), (16, 30), (14, 480), (12, 720), (10, 72), (8, 120), (6, 0), (4, 100), (2, 30)] (ui J7_ 18 (nI u8)) (ua K7_ 19 g8) J2 K2 := tkd.cons (by decide) eu8.symm hg8 k7
  clear es8
  generalize (ui J7_ 18 (nI u8)) = J8_, (ua K7_ 19 g8) = K8_ at a8 k8 y8
  refine pm_aloadn hG dX7_takeFrom_99 rfl ?_
  refine pm_getf hG dX7_takeFrom_100 (flX7_44 _ rfl) (a8 0 _ rfl) rfl ?_
  refine pm_aloadn hG dX7_takeFrom_103 rfl ?_
  refine pm_getf hG dX7_takeFrom_104 (flX7_44 _ rfl) (b8 0 _ rfl) rfl ?_
  obtain ⟨u9, hu9, eu9⟩ := hJ2 (20, 5) (by decide)
  refine pm_callV (As := [.ref (B + (r2 + 19))]) (rest := []) hG hR dX7_takeFrom_107 (lkX7_65 _ rfl) okV_X9_takeFrom (a8 19 _ rfl) rfl (tb_takeFrom (d := 1) (t := r1 + 19) (c := r1 + 20) (t2 := r2 + 19) (c2 := r2 + 20) (n := 5) (R := 5) (W := 1) (u := u9) (by decide) (a8 19 _ rfl) (a8 20 _ rfl) (by rw [← eu9]; exact b8 19 _ rfl) (b8 20 _ rfl) hu9 (by decide) (by decide) (by omega) (by omega) (by omega) (by omega) (by omega) (by omega)) rfl rfl hdd (Nat.le_refl _) (Nat.le_refl _) (by decide) (pm_kv (fun σ9 cnt9 hq => ?_))
  obtain ⟨⟨g9, hg9, es9⟩, rfl⟩ := hq
  have y9 : (ua K8_ 21 g9) 107 = K2 107 := (ua_ne (by decide)).trans y8
  have a9 : pm_lies σ9 r1 (rl_L B r1 (ui J8_ 20 (nI u9)) (ua K8_ 21 g9)) := by rw [es9]; exact rl_up (rl_up a8 19 rfl) 20 rfl
  have b9 : pm_lies σ9 r2 (rl_L B r2 J2 K2) := by rw [es9]; exact rl_ot (rl_ot b8 (by omega)) (by omega)
  have o9 : rl_oth r1 σ σ9 := by rw [es9]; exact rl_oth.up (rl_oth.up (o8) (by omega) (by omega)) (by omega) (by omega)
  have k9 : tkd [(20, 5), (18, 150), (16, 30), (14, 480), (12, 720), (10, 72), (8, 120), (6, 0), (4, 100), (2, 30)] (ui J8_ 20 (nI u9)) (ua K8_ 21 g9) J2 K2 := tkd.cons (by decide) eu9.symm hg9 k8
  clear es9
  generalize (ui J8_ 20 (nI u9)) = J9_, (ua K8_ 21 g9) = K9_ at a9 k9 y9
  refine pm_aloadn hG dX7_takeFrom_110 rfl ?_
  refine pm_getf hG dX7_takeFrom_111 (flX7_47 _ rfl) (a9 0 _ rfl) rfl ?_
  refine pm_aloadn hG dX7_takeFrom_114 rfl ?_
  refine pm_getf hG dX7_takeFrom_115 (flX7_47 _ rfl) (b9 0 _ rfl) rfl ?_
  obtain ⟨u10, hu10, eu10⟩ := hJ2 (22, 20) (by decide)
  refine pm_callV (As := [.ref (B + (r2 + 21))]) (rest := []) hG hR dX7_takeFrom_118 (lkX7_65 _ rfl) okV_X9_takeFrom (a9 21 _ rfl) rfl (tb_takeFrom (d := 1) (t := r1 + 21) (c := r1 + 22) (t2 := r2 + 21) (c2 := r2 + 22) (n := 20) (R := 20) (W := 1) (u := u10) (by decide) (a9 21 _ rfl) (a9 22 _ rfl) (by rw [← eu10]; exact b9 21 _ rfl) (b9 22 _ rfl) hu10 (by decide) (by decide) (by omega) (by omega) (by omega) (by omega) (by omega) (by omega)) rfl rfl hdd (Nat.le_refl _) (Nat.le_refl _) (by decide) (pm_kv (fun σ10 cnt10 hq => ?_))
  obtain ⟨⟨g10, hg10, es10⟩, rfl⟩ := hq
  have y10 : (ua K9_ 23 g10) 107 = K2 107 := (ua_ne (by decide)).trans y9
  have a10 : pm_lies σ10 r1 (rl_L B r1 (ui J9_ 22 (nI u10)) (ua K9_ 23 g10)) := by rw [es10]; exact rl_up (rl_up a9 21 rfl) 22 rfl
  have b10 : pm_lies σ10 r2 (rl_L B r2 J2 K2) := by rw [es10]; exact rl_ot (rl_ot b9 (by omega)) (by omega)
  have o10 : rl_oth r1 σ σ10 := by rw [es10]; exact rl_oth.up (rl_oth.up (o9) (by omega) (by omega)) (by omega) (by omega)
  have k10 : tkd [(22, 20), (20, 5), (18, 150), (16, 30), (14, 480), (12, 720), (10, 72), (8, 120), (6, 0), (4, 100), (2, 30)] (ui J9_ 22 (nI u10)) (ua K9_ 23 g10) J2 K2 := tkd.cons (by decide) eu10.symm hg10 k9
  clear es10
  generalize (ui J9_ 22 (nI u10)) = J10_, (ua K9_ 23 g10) = K10_ at a10 k10 y10
  refine pm_aloadn hG dX7_takeFrom_121 rfl ?_
  refine pm_getf hG dX7_takeFrom_122 (flX7_50 _ rfl) (a10 0 _ rfl) rfl ?_
  refine pm_aloadn hG dX7_takeFrom_125 rfl ?_
  refine pm_getf hG dX7_takeFrom_126 (flX7_50 _ rfl) (b10 0 _ rfl) rfl ?_
  obtain ⟨u11, hu11, eu11⟩ := hJ2 (24, 60) (by decide)
  refine pm_callV (As := [.ref (B + (r2 + 23))]) (rest := []) hG hR dX7_takeFrom_129 (lkX7_65 _ rfl) okV_X9_takeFrom (a10 23 _ rfl) rfl (tb_takeFrom (d := 1) (t := r1 + 23) (c := r1 + 24) (t2 := r2 + 23) (c2 := r2 + 24) (n := 60) (R := 60) (W := 1) (u := u11) (by decide) (a10 23 _ rfl) (a10 24 _ rfl) (by rw [← eu11]; exact b10 23 _ rfl) (b10 24 _ rfl) hu11 (by decide) (by decide) (by omega) (by omega) (by omega) (by omega) (by omega) (by omega)) rfl rfl hdd (Nat.le_refl _) (Nat.le_refl _) (by decide) (pm_kv (fun σ11 cnt11 hq => ?_))
  obtain ⟨⟨g11, hg11, es11⟩, rfl⟩ := hq
  have y11 : (ua K10_ 25 g11) 107 = K2 107 := (ua_ne (by decide)).trans y10
  have a11 : pm_lies σ11 r1 (rl_L B r1 (ui J10_ 24 (nI u11)) (ua K10_ 25 g11)) := by rw [es11]; exact rl_up (rl_up a10 23 rfl) 24 rfl
  have b11 : pm_lies σ11 r2 (rl_L B r2 J2 K2) := by rw [es11]; exact rl_ot (rl_ot b10 (by omega)) (by omega)
  have o11 : rl_oth r1 σ σ11 := by rw [es11]; exact rl_oth.up (rl_oth.up (o10) (by omega) (by omega)) (by omega) (by omega)
  have k11 : tkd [(24, 60), (22, 20), (20, 5), (18, 150), (16, 30), (14, 480), (12, 720), (10, 72), (8, 120), (6, 0), (4, 100), (2, 30)] (ui J10_ 24 (nI u11)) (ua K10_ 25 g11) J2 K2 := tkd.cons (by decide) eu11.symm hg11 k10
  clear es11
  generalize (ui J10_ 24 (nI u11)) = J11_, (ua K10_ 25 g11) = K11_ at a11 k11 y11
  refine pm_aloadn hG dX7_takeFrom_132 rfl ?_
  refine pm_aloadn hG dX7_takeFrom_133 rfl ?_
  refine pm_getf hG dX7_takeFrom_134 (flX7_69 _ rfl) (b11 0 _ rfl) rfl ?_
  refine pm_putf hG dX7_takeFrom_137 (fwX7_69 _ rfl) (a11 0 _ rfl) rfl rfl ?_
  have a20 : pm_lies (pm_up σ11 (r1 + 0) (.inr (7, [.ref (B + (r1 + 1)), .ref (B + (r1 + 3)), .ref (B + (r1 + 5)), .ref (B + (r1 + 7)), .ref (B + (r1 + 9)), .ref (B + (r1 + 11)), .ref (B + (r1 + 13)), .ref (B + (r1 + 15)), .ref (B + (r1 + 17)), .ref (B + (r1 + 19)), .ref (B + (r1 + 21)), .ref (B + (r1 + 23)), .int (J2 101), .int (J11_ 102), .int (J11_ 103)]))) r1 (rl_L B r1 (ui J11_ 101 (J2 101)) K11_) := rl_up a11 0 rfl
  have b20 := rl_ot (k := r1 + 0) (x := .inr (7, [.ref (B + (r1 + 1)), .ref (B + (r1 + 3)), .ref (B + (r1 + 5)), .ref (B + (r1 + 7)), .ref (B + (r1 + 9)), .ref (B + (r1 + 11)), .ref (B + (r1 + 13)), .ref (B + (r1 + 15)), .ref (B + (r1 + 17)), .ref (B + (r1 + 19)), .ref (B + (r1 + 21)), .ref (B + (r1 + 23)), .int (J2 101), .int (J11_ 102), .int (J11_ 103)])) b11 (by omega)
  have o20 := rl_oth.up (a := r1 + 0) (x := .inr (7, [.ref (B + (r1 + 1)), .ref (B + (r1 + 3)), .ref (B + (r1 + 5)), .ref (B + (r1 + 7)), .ref (B + (r1 + 9)), .ref (B + (r1 + 11)), .ref (B + (r1 + 13)), .ref (B + (r1 + 15)), .ref (B + (r1 + 17)), .ref (B + (r1 + 19)), .ref (B + (r1 + 21)), .ref (B + (r1 + 23)), .int (J2 101), .int (J11_ 102), .int (J11_ 103)])) o11 (by omega) (by omega)
  have k20 : tkd tk_all (ui J11_ 101 (J2 101)) K11_ J2 K2 := tkd_ui (by decide) k11
  refine pm_genS (fun τ0 eτ0 => ?_)
  have a30 : pm_lies τ0 r1 _ := eτ0 ▸ a20
  have b30 : pm_lies τ0 r2 _ := eτ0 ▸ b20
  have o30 : rl_oth r1 σ τ0 := eτ0 ▸ o20
  refine pm_aloadn hG dX7_takeFrom_140 rfl ?_
  refine pm_aloadn hG dX7_takeFrom_141 rfl ?_
  refine pm_getf hG dX7_takeFrom_142 (flX7_72 _ rfl) (b30 0 _ rfl) rfl ?_
  refine pm_putf hG dX7_takeFrom_145 (fwX7_72 _ rfl) (a30 0 _ rfl) rfl rfl ?_
  have a21 : pm_lies (pm_up τ0 (r1 + 0) (.inr (7, [.ref (B + (r1 + 1)), .ref (B + (r1 + 3)), .ref (B + (r1 + 5)), .ref (B + (r1 + 7)), .ref (B + (r1 + 9)), .ref (B + (r1 + 11)), .ref (B + (r1 + 13)), .ref (B + (r1 + 15)), .ref (B + (r1 + 17)), .ref (B + (r1 + 19)), .ref (B + (r1 + 21)), .ref (B + (r1 + 23)), .int ((ui J11_ 101 (J2 101)) 101), .int (J2 102), .int ((ui J11_ 101 (J2 101)) 103)]))) r1 (rl_L B r1 (ui (ui J11_ 101 (J2 101)) 102 (J2 102)) K11_) := rl_up a30 0 rfl
  have b21 := rl_ot (k := r1 + 0) (x := .inr (7, [.ref (B + (r1 + 1)), .ref (B + (r1 + 3)), .ref (B + (r1 + 5)), .ref (B + (r1 + 7)), .ref (B + (r1 + 9)), .ref (B + (r1 + 11)), .ref (B + (r1 + 13)), .ref (B + (r1 + 15)), .ref (B + (r1 + 17)), .ref (B + (r1 + 19)), .ref (B + (r1 + 21)), .ref (B + (r1 + 23)), .int ((ui J11_ 101 (J2 101)) 101), .int (J2 102), .int ((ui J11_ 101 (J2 101)) 103)])) b30 (by omega)
  have o21 := rl_oth.up (a := r1 + 0) (x := .inr (7, [.ref (B + (r1 + 1)), .ref (B + (r1 + 3)), .ref (B + (r1 + 5)), .ref (B + (r1 + 7)), .ref (B + (r1 + 9)), .ref (B + (r1 + 11)), .ref (B + (r1 + 13)), .ref (B + (r1 + 15)), .ref (B + (r1 + 17)), .ref (B + (r1 + 19)), .ref (B + (r1 + 21)), .ref (B + (r1 + 23)), .int ((ui J11_ 101 (J2 101)) 101), .int (J2 102), .int ((ui J11_ 101 (J2 101)) 103)])) o30 (by omega) (by omega)
  have k21 : tkd tk_all (ui (ui J11_ 101 (J2 101)) 102 (J2 102)) K11_ J2 K2 := tkd_ui (by decide) k20
  refine pm_genS (fun τ1 eτ1 => ?_)
  have a31 : pm_lies τ1 r1 _ := eτ1 ▸ a21
  have b31 : pm_lies τ1 r2 _ := eτ1 ▸ b21
  have o31 : rl_oth r1 σ τ1 := eτ1 ▸ o21
  refine pm_aloadn hG dX7_takeFrom_148 rfl ?_
  refine pm_aloadn hG dX7_takeFrom_149 rfl ?_
  refine pm_getf hG dX7_takeFrom_150 (flX7_53 _ rfl) (b31 0 _ rfl) rfl ?_
  refine pm_putf hG dX7_takeFrom_153 (fwX7_53 _ rfl) (a31 0 _ rfl) rfl rfl ?_
  have a22 : pm_lies (pm_up τ1 (r1 + 0) (.inr (7, [.ref (B + (r1 + 1)), .ref (B + (r1 + 3)), .ref (B + (r1 + 5)), .ref (B + (r1 + 7)), .ref (B + (r1 + 9)), .ref (B + (r1 + 11)), .ref (B + (r1 + 13)), .ref (B + (r1 + 15)), .ref (B + (r1 + 17)), .ref (B + (r1 + 19)), .ref (B + (r1 + 21)), .ref (B + (r1 + 23)), .int ((ui (ui J11_ 101 (J2 101)) 102 (J2 102)) 101), .int ((ui (ui J11_ 101 (J2 101)) 102 (J2 102)) 102), .int (J2 103)]))) r1 (rl_L B r1 (ui (ui (ui J11_ 101 (J2 101)) 102 (J2 102)) 103 (J2 103)) K11_) := rl_up a31 0 rfl
  have b22 := rl_ot (k := r1 + 0) (x := .inr (7, [.ref (B + (r1 + 1)), .ref (B + (r1 + 3)), .ref (B + (r1 + 5)), .ref (B + (r1 + 7)), .ref (B + (r1 + 9)), .ref (B + (r1 + 11)), .ref (B + (r1 + 13)), .ref (B + (r1 + 15)), .ref (B + (r1 + 17)), .ref (B + (r1 + 19)), .ref (B + (r1 + 21)), .ref (B + (r1 + 23)), .int ((ui (ui J11_ 101 (J2 101)) 102 (J2 102)) 101), .int ((ui (ui J11_ 101 (J2 101)) 102 (J2 102)) 102), .int (J2 103)])) b31 (by omega)
  have o22 := rl_oth.up (a := r1 + 0) (x := .inr (7, [.ref (B + (r1 + 1)), .ref (B + (r1 + 3)), .ref (B + (r1 + 5)), .ref (B + (r1 + 7)), .ref (B + (r1 + 9)), .ref (B + (r1 + 11)), .ref (B + (r1 + 13)), .ref (B + (r1 + 15)), .ref (B + (r1 + 17)), .ref (B + (r1 + 19)), .ref (B + (r1 + 21)), .ref (B + (r1 + 23)), .int ((ui (ui J11_ 101 (J2 101)) 102 (J2 102)) 101), .int ((ui (ui J11_ 101 (J2 101)) 102 (J2 102)) 102), .int (J2 103)])) o31 (by omega) (by omega)
  have k22 : tkd tk_all (ui (ui (ui J11_ 101 (J2 101)) 102 (J2 102)) 103 (J2 103)) K11_ J2 K2 := tkd_ui (by decide) k21
  refine pm_genS (fun τ2 eτ2 => ?_)
  have a32 : pm_lies τ2 r1 _ := eτ2 ▸ a22
  have b32 : pm_lies τ2 r2 _ := eτ2 ▸ b22
  have o32 : rl_oth r1 σ τ2 := eτ2 ▸ o22
  exact pm_vret hG hF dX7_takeFrom_156 rfl (Nat.le_refl _) (Nat.le_refl _) ⟨rfl, _, _, a32, ⟨k22, rfl, rfl, rfl, y11⟩, o32, rfl⟩

theorem rl_new {B κ : Nat} {fw : Nat → Int32} : l_k_realm0 (B + κ) fw = rl_L B κ rl_J0 (rl_K0 fw) := by
  unfold rl_L l_k_realm0
  simp only [Nat.add_assoc]
  rw [show cmx (rl_K0 fw 107) (rl_K0 fw 7) = fun _ => 0 from cmx_0]
  rfl
theorem gsr.new : gsr rl_J0 := by
  intro q hq
  have h3 : ∀ q ∈ gcR, rl_J0 q.1 = nI 0 := by decide
  exact ⟨0, Nat.zero_le _, h3 q hq⟩
theorem k_realmAt {d B κ : Nat} {σ : pm_S} (hdd : 3 ≤ d) (hk : σ κ = some (.inr (7, [.null, .null, .null, .null, .null, .null, .null, .null, .null, .null, .null, .null, .int 0, .int 0, .int 0]))) : pm_met mX7_init d 24 2115 B [.ref (B + κ)] (κ + 1) σ (pm_Qv (fun σ' cnt' => (∃ (J : Nat → Int32) (K : Nat → Nat → Int32), gsr J ∧ pm_lies σ' κ (rl_L B κ J K)) ∧ pm_old κ σ σ' ∧ cnt' = κ + 25)) := by
  refine pm_shift (k_realm0 (B := B + κ) (σ := fun j => σ (κ + j)) hdd hk) (fun j x hj => hj) ?_
  rintro r σ' c' ⟨rfl, ⟨fw, hl⟩, -, rfl⟩
  refine ⟨rfl, ⟨rl_J0, rl_K0 fw, gsr.new, fun i x hi => ?_⟩, fun j hj => if_pos hj, rfl⟩
  rw [← rl_new] at hi
  have h1 := hl i x hi
  rw [Nat.zero_add] at h1
  show (if κ + i < κ then σ (κ + i) else σ' (κ + i - κ)) = some x
  rw [if_neg (by omega), Nat.add_sub_cancel_left]
  exact h1

theorem rl_of_cl {B : Nat} {kp : pm_KP} {I : Nat → Int32} {A : Nat → Nat → Int32} {σ : pm_S} (h : pm_lies σ 0 (cl_L B kp I A)) : pm_lies σ 1 (rl_L B 1 I (ua A 107 kp.2)) := by
  intro i x hi
  have h1 : rl_L B 1 I (ua A 107 kp.2) = ((cl_L B kp I A).drop 1).take 25 := rfl
  rw [h1, List.getElem?_take] at hi
  split at hi
  · rw [List.getElem?_drop] at hi
    have := h (1 + i) x hi
    rwa [Nat.zero_add] at this
  · cases hi
def mI (I J : Nat → Int32) (k : Nat) : Int32 := if (k ≤ 24 ∧ k % 2 = 0) ∨ k = 101 ∨ k = 102 ∨ k = 103 then J k else I k
def mA (A K : Nat → Nat → Int32) (a : Nat) : Nat → Int32 := if a ≤ 25 then K a else A a
set_option maxRecDepth 100000 in
set_option maxHeartbeats 4000000 in
theorem cl_of_rl {B : Nat} {kp : Value} {T I J : Nat → Int32} {A K : Nat → Nat → Int32} {σ σ' : pm_S} (h0 : pm_lies σ 0 (cl_L B (kp, T) I A)) (h1 : pm_lies σ' 1 (rl_L B 1 J K)) (ho : rl_oth 1 σ σ') : pm_lies σ' 0 (cl_L B (kp, K 107) (mI I J) (mA A K)) := by
  exact (pm_lies_cons ((ho 0 (by omega)).trans (h0 0 _ rfl)) (pm_lies_cons (h1 0 _ rfl) (pm_lies_cons (h1 1 _ rfl) (pm_lies_cons (h1 2 _ rfl) (pm_lies_cons (h1 3 _ rfl) (pm_lies_cons (h1 4 _ rfl) (pm_lies_cons (h1 5 _ rfl) (pm_lies_cons (h1 6 _ rfl) (pm_lies_cons (h1 7 _ rfl) (pm_lies_cons (h1 8 _ rfl) (pm_lies_cons (h1 9 _ rfl) (pm_lies_cons (h1 10 _ rfl) (pm_lies_cons (h1 11 _ rfl) (pm_lies_cons (h1 12 _ rfl) (pm_lies_cons (h1 13 _ rfl) (pm_lies_cons (h1 14 _ rfl) (pm_lies_cons (h1 15 _ rfl) (pm_lies_cons (h1 16 _ rfl) (pm_lies_cons (h1 17 _ rfl) (pm_lies_cons (h1 18 _ rfl) (pm_lies_cons (h1 19 _ rfl) (pm_lies_cons (h1 20 _ rfl) (pm_lies_cons (h1 21 _ rfl) (pm_lies_cons (h1 22 _ rfl) (pm_lies_cons (h1 23 _ rfl) (pm_lies_cons (h1 24 _ rfl) (pm_lies_cons ((ho 26 (by omega)).trans (h0 26 _ rfl)) (pm_lies_cons ((ho 27 (by omega)).trans (h0 27 _ rfl)) (pm_lies_cons ((ho 28 (by omega)).trans (h0 28 _ rfl)) (pm_lies_cons ((ho 29 (by omega)).trans (h0 29 _ rfl)) (pm_lies_cons ((ho 30 (by omega)).trans (h0 30 _ rfl)) (pm_lies_cons ((ho 31 (by omega)).trans (h0 31 _ rfl)) (pm_lies_cons ((ho 32 (by omega)).trans (h0 32 _ rfl)) (pm_lies_cons ((ho 33 (by omega)).trans (h0 33 _ rfl)) (pm_lies_cons ((ho 34 (by omega)).trans (h0 34 _ rfl)) (pm_lies_cons ((ho 35 (by omega)).trans (h0 35 _ rfl)) (pm_lies_cons ((ho 36 (by omega)).trans (h0 36 _ rfl)) (pm_lies_cons ((ho 37 (by omega)).trans (h0 37 _ rfl)) (pm_lies_cons ((ho 38 (by omega)).trans (h0 38 _ rfl)) (pm_lies_cons ((ho 39 (by omega)).trans (h0 39 _ rfl)) (pm_lies_cons ((ho 40 (by omega)).trans (h0 40 _ rfl)) (pm_lies_cons ((ho 41 (by omega)).trans (h0 41 _ rfl)) (pm_lies_cons ((ho 42 (by omega)).trans (h0 42 _ rfl)) (pm_lies_cons ((ho 43 (by omega)).trans (h0 43 _ rfl)) (pm_lies_cons ((ho 44 (by omega)).trans (h0 44 _ rfl)) (pm_lies_cons ((ho 45 (by omega)).trans (h0 45 _ rfl)) (pm_lies_cons ((ho 46 (by omega)).trans (h0 46 _ rfl)) (pm_lies_cons ((ho 47 (by omega)).trans (h0 47 _ rfl)) (pm_lies_cons ((ho 48 (by omega)).trans (h0 48 _ rfl)) (pm_lies_cons ((ho 49 (by omega)).trans (h0 49 _ rfl)) (pm_lies_cons ((ho 50 (by omega)).trans (h0 50 _ rfl)) (pm_lies_cons ((ho 51 (by omega)).trans (h0 51 _ rfl)) (pm_lies_cons ((ho 52 (by omega)).trans (h0 52 _ rfl)) (pm_lies_cons ((ho 53 (by omega)).trans (h0 53 _ rfl)) pm_lies_nil))))))))))))))))))))))))))))))))))))))))))))))))))))))
theorem gs.m {I J : Nat → Int32} (h : gs I) (hJ : gsr J) : gs (mI I J) := by
  intro q hq
  by_cases e : (q.1 ≤ 24 ∧ q.1 % 2 = 0) ∨ q.1 = 101 ∨ q.1 = 102 ∨ q.1 = 103
  · have h3 : ∀ q ∈ gcT, ((q.1 ≤ 24 ∧ q.1 % 2 = 0) ∨ q.1 = 101 ∨ q.1 = 102 ∨ q.1 = 103) → q ∈ gcR := by decide
    obtain ⟨k, hk, e2⟩ := hJ q (h3 q hq e)
    exact ⟨k, hk, by unfold mI; rw [if_pos e]; exact e2⟩
  · obtain ⟨k, hk, e2⟩ := h q hq
    exact ⟨k, hk, by unfold mI; rw [if_neg e]; exact e2⟩
/-- what the class keeps of an image -/
def gqR : List Nat := [2, 6, 102, 18]
def mE (ε εk : Nat → Int32) (k : Nat) : Int32 := if k ∈ gqR then εk k else ε k
def kpi (B cnt : Nat) (kp : Value) (σ : pm_S) (εk Tk : Nat → Int32) : Prop := kp = .null ∨ ∃ (κ : Nat) (J : Nat → Int32) (K : Nat → Nat → Int32), kp = .ref (B + (κ + 0)) ∧ 74 ≤ κ ∧ κ + 25 ≤ cnt ∧ pm_lies σ κ (rl_L B κ J K) ∧ gsr J ∧ (∀ k ∈ gqR, J k = εk k) ∧ K 107 = Tk
def hvi (B : Nat) (ρ : pm_S) (cnt : Nat) (σ' : pm_S) (cnt' : Nat) (ε εk T Tk : Nat → Int32) (nul : Bool) : Prop := ∃ (kp : Value) (I : Nat → Int32) (A : Nat → Nat → Int32), pm_lies σ' 0 (cl_L B (kp, T) I A) ∧ gq ε I ∧ kpi B cnt' kp σ' εk Tk ∧ (nul = true ↔ kp = .null) ∧ cnt ≤ cnt' ∧ ∀ j : Nat, 54 ≤ j → j < 74 → σ' j = ρ j
theorem tk_at {J J2 : Nat → Int32} {K K2 : Nat → Nat → Int32} (h : tk J K J2 K2 tk_all) : ∀ k ∈ gqR, J k = J2 k := by
  intro k hk
  have h3 : ∀ k ∈ gqR, (∃ p ∈ tk_all, p.1 = k) ∨ k = 101 ∨ k = 102 ∨ k = 103 := by decide
  rcases h3 k hk with ⟨p, hp, rfl⟩ | rfl | rfl | rfl
  · exact (h.1 p hp).1
  · exact h.2.1
  · exact h.2.2.1
  · exact h.2.2.2.1
theorem gqR_T : ∀ k ∈ gqR, k ∈ gqT := by decide
theorem gq.m {ε εk I J J2 : Nat → Int32} (h : gq ε I) (hJ : gsr J) (e1 : ∀ k ∈ gqR, J k = J2 k) (e2 : ∀ k ∈ gqR, J2 k = εk k) : gq (mE ε εk) (mI I J) := by
  refine ⟨h.1.m hJ, fun k hk => ?_⟩
  have h3 : ∀ k ∈ gqT, (k ∈ gqR ∧ ((k ≤ 24 ∧ k % 2 = 0) ∨ k = 101 ∨ k = 102 ∨ k = 103)) ∨ (k ∉ gqR ∧ ¬ ((k ≤ 24 ∧ k % 2 = 0) ∨ k = 101 ∨ k = 102 ∨ k = 103)) := by decide
  unfold mE mI
  rcases h3 k hk with ⟨q1, q2⟩ | ⟨q1, q2⟩
  · rw [if_pos q1, if_pos q2, e1 k q1, e2 k q1]
  · rw [if_neg q1, if_neg q2]; exact h.2 k hk

set_option maxRecDepth 100000 in
theorem im_tail {G : pm_G} {d B cnt c0 cs zs κ : Nat} {σ ρ : pm_S} {ε T I J : Nat → Int32} {A K : Nat → Nat → Int32} (hG : pm_ok mX11_image G B) (hR : pm_rm G d 25 2130) (hF : pm_fin G B 25 2130 (pm_Qi (fun _ σ' cnt' => hvi B ρ c0 σ' cnt' ε ε T T false))) (hdd : 4 ≤ d) (hcs : cs ≤ 25) (hzs : zs ≤ 2130) (hc : c0 ≤ cnt) (h : gq ε I) (h74 : 74 ≤ κ) (hκ : κ + 25 ≤ cnt) (l0 : pm_lies σ 0 (cl_L B (.ref (B + (κ + 0)), T) I A)) (lk : pm_lies σ κ (rl_L B κ J K)) (ho : ∀ j : Nat, 54 ≤ j → j < 74 → σ j = ρ j) : pm_wp mX11_image G B 18 [some (.ref (B + 0))] [] cs zs cnt σ := by
  refine pm_aloadn hG dX11_image_18 rfl ?_
  refine pm_getf hG dX11_image_19 (flX11_377 _ rfl) (l0 0 _ rfl) rfl ?_
  refine pm_aloadn hG dX11_image_22 rfl ?_
  refine pm_getf hG dX11_image_23 (flX11_12 _ rfl) (l0 0 _ rfl) rfl ?_
  refine pm_callV (As := [.ref (B + (1 + 0))]) (rest := []) hG hR dX11_image_26 (lkX11_380 _ rfl) okV_X7_takeFrom (lk 0 _ rfl) rfl (g_takeFrom (d := 3) (by decide) (Or.inr (by omega)) lk (rl_of_cl l0) h.1.r) rfl rfl hdd hcs hzs (by decide) (pm_kv (fun σ' cnt' hq => ?_))
  obtain ⟨J', K', lk', ht, hoth, rfl⟩ := hq
  have l0' : pm_lies σ' 0 (cl_L B (.ref (B + (κ + 0)), T) I A) := l0.same (fun j _ hj => hoth j (Or.inl (by have h9 : (cl_L B (.ref (B + (κ + 0)), T) I A).length = 54 := rfl; omega)))
  have ho' : ∀ j : Nat, 54 ≤ j → j < 74 → σ' j = ρ j := fun j h1 h2 => (hoth j (Or.inl (by omega))).trans (ho j h1 h2)
  refine pm_aloadn hG dX11_image_29 rfl ?_
  refine pm_dup hG dX11_image_30 rfl ?_
  refine pm_getf hG dX11_image_31 (flX11_383 _ rfl) (l0' 0 _ rfl) rfl ?_
  refine pm_iconst (v := 1) hG dX11_image_34 (by decide) ?_
  refine pm_iadd hG dX11_image_35 ?_
  refine pm_putf hG dX11_image_36 (fwX11_383 _ rfl) (l0' 0 _ rfl) rfl rfl ?_
  refine pm_genS (fun τ eτ => ?_)
  have l0s : pm_lies τ 0 (cl_L B (.ref (B + (κ + 0)), T) (ui I 100 (I 100 + 1)) A) := eτ ▸ rl_up l0' 0 rfl
  have lks : pm_lies τ κ (rl_L B κ J' K') := eτ ▸ rl_ot lk' (Or.inl (by omega))
  have hos : ∀ j : Nat, 54 ≤ j → j < 74 → τ j = ρ j := fun j h1 h2 => by
    rw [← eτ, pm_up_ne _ _ (by omega)]; exact ho' j h1 h2
  clear eτ
  refine pm_aloadn hG dX11_image_39 rfl ?_
  refine pm_getf hG dX11_image_40 (flX11_383 _ rfl) (l0s 0 _ rfl) rfl ?_
  exact pm_iret hG hF dX11_image_43 rfl hcs hzs ⟨_, rfl, _, _, _, l0s, gq.wi (k := 100) rfl h, Or.inr ⟨κ, J', K', rfl, h74, hκ, lks, gsr.of ht.1 h.1.r, fun k hk => (tk_at ht k hk).trans (h.2 k (gqR_T k hk)), ht.2.2.2.2.trans ua_eq⟩, ⟨fun q => (by cases q), fun q => (by cases q)⟩, hc, hos⟩

set_option maxRecDepth 100000 in
theorem g_X11_image {d B cnt : Nat} {kp : Value} {ρ : pm_S} {ε εk T Tk I : Nat → Int32} {A : Nat → Nat → Int32} (hdd : 4 ≤ d) (h : gq ε I) (hc : 74 ≤ cnt) (hk : kpi B cnt kp ρ εk Tk) : pm_met mX11_image d 25 2130 B [.ref (B + 0)] cnt (pm_two (cl_L B (kp, T) I A) ρ) (pm_Qi (fun _ σ' cnt' => hvi B ρ cnt σ' cnt' ε ε T T false)) := by
  refine pm_enter 0 (by decide) (Nat.le_of_ble_eq_true rfl) rfl (fun G hG hR hF => ?_)
  refine pm_aloadn hG dX11_image_0 rfl ?_
  refine pm_getf hG dX11_image_1 (flX11_377 _ rfl) rfl rfl ?_
  rcases hk with rfl | ⟨κ, J, K, rfl, h74, hκ, lk, hJ, -⟩
  · refine pm_ifnonnullN hG dX11_image_4 ?_
    refine pm_aloadn hG dX11_image_7 rfl ?_
    refine pm_new hG hR dX11_image_8 (nwX11_9 _ rfl) (by decide) (by decide) ?_
    refine pm_dup hG dX11_image_11 rfl ?_
    refine pm_callI (As := []) (rest := [.ref (B + cnt), .ref (B + 0)]) hG hR dX11_image_12 (lkX11_11 _ rfl) okI_X7_init (k_realmAt (d := 3) (by decide) (pm_up_same _ _ _)) rfl rfl hdd (by decide) (by decide) (Nat.le_of_ble_eq_true rfl) (pm_kv (fun σ' cnt' hq => ?_))
    obtain ⟨⟨J, K, hJ, lk⟩, hold, rfl⟩ := hq
    have l0 : pm_lies σ' 0 (cl_L B (.null, T) I A) := (pm_two_lies (ρ := ρ) (Nat.le_of_ble_eq_true rfl)).same (fun j _ hj => by
      have h9 : (cl_L B (.null, T) I A).length = 54 := rfl
      rw [hold j (by omega), pm_up_ne _ _ (by omega)])
    have ho : ∀ j : Nat, 54 ≤ j → j < 74 → σ' j = ρ j := fun j h1 h2 => by
      rw [hold j (by omega), pm_up_ne _ _ (by omega), pm_two_hi h1]
    refine pm_putf hG dX11_image_15 (fwX11_377 _ rfl) (l0 0 _ rfl) rfl rfl ?_
    refine pm_genS (fun τ eτ => ?_)
    have l0s : pm_lies τ 0 (cl_L B (.ref (B + (cnt + 0)), T) I A) := eτ ▸ rl_up l0 0 rfl
    have lks : pm_lies τ cnt (rl_L B cnt J K) := eτ ▸ rl_ot lk (Or.inl (by omega))
    have hos : ∀ j : Nat, 54 ≤ j → j < 74 → τ j = ρ j := fun j h1 h2 => by
      rw [← eτ, pm_up_ne _ _ (by omega)]; exact ho j h1 h2
    clear eτ
    exact im_tail hG hR hF hdd (by decide) (by decide) (by omega) h hc (Nat.le_refl _) l0s lks hos
  · refine pm_ifnonnull (tgt := 18) hG dX11_image_4 rfl ?_
    exact im_tail hG hR hF hdd (by decide) (by decide) (Nat.le_refl _) h h74 hκ (pm_two_lies (Nat.le_of_ble_eq_true rfl)) (lk.same (fun j hj _ => pm_two_hi (by omega))) (fun j h1 _ => pm_two_hi h1)

set_option maxRecDepth 100000 in
theorem g_X11_restore {d B cnt : Nat} {kp : Value} {ρ : pm_S} {ε εk T Tk I : Nat → Int32} {A : Nat → Nat → Int32} (hdd : 3 ≤ d) (h : gq ε I) (hk : kpi B cnt kp ρ εk Tk) : pm_met mX11_restore d 0 0 B [.ref (B + 0)] cnt (pm_two (cl_L B (kp, T) I A) ρ) (pm_Qi (fun v σ' cnt' => (kp = .null ∧ v = -1000002 ∧ hvi B ρ cnt σ' cnt' ε εk T Tk true) ∨ (kp ≠ .null ∧ v = εk 102 ∧ hvi B ρ cnt σ' cnt' (mE ε εk) εk Tk Tk false))) := by
  refine pm_enter 0 (by decide) (Nat.le_of_ble_eq_true rfl) rfl (fun G hG hR hF => ?_)
  refine pm_aloadn hG dX11_restore_0 rfl ?_
  refine pm_getf hG dX11_restore_1 (flX11_377 _ rfl) rfl rfl ?_
  rcases hk with rfl | ⟨κ, J, K, rfl, h74, hκ, lk, hJ, hJe, rfl⟩
  · refine pm_ifnonnullN hG dX11_restore_4 ?_
    refine pm_aloadn hG dX11_restore_7 rfl ?_
    refine pm_ldc hG dX11_restore_8 (ctX11_223 _ rfl) ?_
    refine pm_callV (As := [.int (-1000002)]) (rest := []) hG hR dX11_restore_10 (lkX11_97 _ rfl) okV_X11_told rfl rfl (sx_told (d := 2) (by decide) rfl rfl) rfl rfl hdd (Nat.le_refl _) (Nat.le_refl _) (by decide) (pm_ki (fun v σ' cnt' hq => ?_))
    obtain ⟨ev, ⟨g, hg⟩, hc⟩ := hq
    obtain ⟨I', A', rfl, rfl, h'⟩ := hv_a53 (kp := (.null, T)) (I := I) (A := A) h ⟨hg, hc⟩
    exact pm_iret hG hF dX11_restore_13 rfl (Nat.le_refl _) (Nat.le_refl _) ⟨_, rfl, Or.inl ⟨rfl, ev, _, _, _, pm_two_lies (Nat.le_of_ble_eq_true rfl), h', Or.inl rfl, ⟨fun _ => rfl, fun _ => rfl⟩, Nat.le_refl _, fun j h1 _ => pm_two_hi h1⟩⟩
  · refine pm_ifnonnull (tgt := 14) hG dX11_restore_4 rfl ?_
    have l0 : pm_lies (pm_two (cl_L B (.ref (B + (κ + 0)), T) I A) ρ) 0 (cl_L B (.ref (B + (κ + 0)), T) I A) := pm_two_lies (Nat.le_of_ble_eq_true rfl)
    refine pm_aloadn hG dX11_restore_14 rfl ?_
    refine pm_getf hG dX11_restore_15 (flX11_12 _ rfl) rfl rfl ?_
    refine pm_aloadn hG dX11_restore_18 rfl ?_
    refine pm_getf hG dX11_restore_19 (flX11_377 _ rfl) rfl rfl ?_
    have lk' : pm_lies (pm_two (cl_L B (.ref (B + (κ + 0)), T) I A) ρ) κ (rl_L B κ J K) := lk.same (fun j hj _ => pm_two_hi (by omega))
    refine pm_callV (k := 1 + 0) (As := [.ref (B + (κ + 0))]) (rest := []) hG hR dX11_restore_22 (lkX11_380 _ rfl) okV_X7_takeFrom (rl_of_cl l0 0 _ rfl) rfl (g_takeFrom (d := 2) (by decide) (Or.inl (by omega)) (rl_of_cl l0) lk' hJ) rfl rfl hdd (Nat.le_refl _) (Nat.le_refl _) (by decide) (pm_kv (fun σ' cnt' hq => ?_))
    obtain ⟨J', K', l1, ht, hoth, rfl⟩ := hq
    have l0' := cl_of_rl l0 l1 hoth
    rw [show K' 107 = K 107 from ht.2.2.2.2] at l0'
    have hJ' := gsr.of ht.1 hJ
    refine pm_aloadn hG dX11_restore_25 rfl ?_
    refine pm_getf hG dX11_restore_26 (flX11_12 _ rfl) (l0' 0 _ rfl) rfl ?_
    refine pm_getf hG dX11_restore_29 (flX11_122 _ rfl) (l0' 1 _ rfl) rfl ?_
    exact pm_iret hG hF dX11_restore_32 rfl (Nat.le_refl _) (Nat.le_refl _) ⟨_, rfl, Or.inr ⟨(fun q => by cases q), (show mI I J' 102 = J' 102 from if_pos (by decide)).trans ((tk_at ht 102 (by decide)).trans (hJe 102 (by decide))), _, _, _, l0', h.m hJ' (tk_at ht) hJe, Or.inr ⟨κ, J, K, rfl, h74, hκ, lk'.same (fun j hj _ => hoth j (Or.inr (by omega))), hJ, hJe, rfl⟩, ⟨fun q => (by cases q), fun q => (by cases q)⟩, Nat.le_refl _, fun j h1 _ => (hoth j (Or.inr (by omega))).trans (pm_two_hi h1)⟩⟩
