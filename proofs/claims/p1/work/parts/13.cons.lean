abbrev l_k_model (B : Nat) : List pm_C := [.inr (12, [.ref (B + 55), .ref (B + 56), .ref (B + 57), .int 0, .ref (B + 58), .ref (B + 59), .ref (B + 60), .ref (B + 61), .ref (B + 62), .ref (B + 63), .int 0, .int 0, .int 0, .ref (B + 64), .ref (B + 65), .ref (B + 66), .ref (B + 67), .ref (B + 68), .int 0, .int 0, .int 0, .ref (B + 69), .int 0, .ref (B + 70), .ref (B + 71), .ref (B + 72), .ref (B + 73)]), .inl (2071, upd (fun _ => 0) (9 : Int32).toNatClampNeg 1000), .inl (2071, (fun _ => 0)), .inl (6, (fun _ => 0)), .inl (10, (fun _ => 0)), .inl (20, (fun _ => 0)), .inl (60, (fun _ => 0)), .inl (60, (fun _ => 0)), .inl (60, (fun _ => 0)), .inl (11, (fun _ => 0)), .inl (20, (fun _ => 0)), .inl (20, (fun _ => 0)), .inl (5, (fun _ => 0)), .inl (8, (fun _ => 0)), .inl (8, (fun _ => 0)), .inl (40, (fun _ => 0)), .inl (4, (fun _ => 0)), .inl (4, (fun _ => 0)), .inl (96, (fun _ => 0)), .inl (24, (fun _ => 0))]
set_option maxRecDepth 100000 in
set_option maxHeartbeats 4000000 in
theorem k_model {d B : Nat} {σ : pm_S} (hdd : 1 ≤ d) (hk : σ 54 = some (.inr (12, [.null, .null, .null, .int 0, .null, .null, .null, .null, .null, .null, .int 0, .int 0, .int 0, .null, .null, .null, .null, .null, .int 0, .int 0, .int 0, .null, .int 0, .null, .null, .null, .null]))) : pm_met mX12_init d 19 4598 B [.ref (B + 54)] 55 σ (pm_Qv (fun σ' cnt' => pm_lies σ' 54 (l_k_model B) ∧ pm_old 54 σ σ' ∧ cnt' = 74)) := by
  refine pm_enter 0 (by decide) (Nat.le_of_ble_eq_true rfl) rfl (fun G hG hR hF => ?_)
  refine pm_weak (σ2 := pm_cat σ 54 [.inr (12, [.null, .null, .null, .int 0, .null, .null, .null, .null, .null, .null, .int 0, .int 0, .int 0, .null, .null, .null, .null, .null, .int 0, .int 0, .int 0, .null, .int 0, .null, .null, .null, .null])]) (pm_cat_sub pm_old.rf (pm_lies_cons hk pm_lies_nil)) ?_
  refine pm_aloadn hG dX12_init_0 rfl ?_
  refine pm_objInit hG hR dX12_init_1 (oiX12_1 _ rfl) pm_oi (by omega) (by decide) ?_
  refine pm_aloadn hG dX12_init_4 rfl ?_
  refine pm_sipush (v := 2071) hG dX12_init_5 (by decide) ?_
  refine pm_newi (N := 2071) hG hR dX12_init_8 (by decide) (by decide) (by decide) (by decide) (by decide) ?_
  refine pm_nums (cs' := 1) (zs' := 2071) (cnt' := 56) rfl rfl rfl ?_
  refine pm_putF hG dX12_init_10 (ffX12_7 _ rfl rfl) rfl rfl rfl ?_
  refine pm_aloadn hG dX12_init_13 rfl ?_
  refine pm_sipush (v := 2071) hG dX12_init_14 (by decide) ?_
  refine pm_newi (N := 2071) hG hR dX12_init_17 (by decide) (by decide) (by decide) (by decide) (by decide) ?_
  refine pm_nums (cs' := 2) (zs' := 4142) (cnt' := 57) rfl rfl rfl ?_
  refine pm_putF hG dX12_init_19 (ffX12_13 _ rfl rfl) rfl rfl rfl ?_
  refine pm_aloadn hG dX12_init_22 rfl ?_
  refine pm_bipush (v := 6) hG dX12_init_23 (by decide) ?_
  refine pm_newi (N := 6) hG hR dX12_init_25 (by decide) (by decide) (by decide) (by decide) (by decide) ?_
  refine pm_nums (cs' := 3) (zs' := 4148) (cnt' := 58) rfl rfl rfl ?_
  refine pm_putF hG dX12_init_27 (ffX12_16 _ rfl rfl) rfl rfl rfl ?_
  refine pm_aloadn hG dX12_init_30 rfl ?_
  refine pm_bipush (v := 10) hG dX12_init_31 (by decide) ?_
  refine pm_newi (N := 10) hG hR dX12_init_33 (by decide) (by decide) (by decide) (by decide) (by decide) ?_
  refine pm_nums (cs' := 4) (zs' := 4158) (cnt' := 59) rfl rfl rfl ?_
  refine pm_putF hG dX12_init_35 (ffX12_19 _ rfl rfl) rfl rfl rfl ?_
  refine pm_aloadn hG dX12_init_38 rfl ?_
  refine pm_bipush (v := 20) hG dX12_init_39 (by decide) ?_
  refine pm_newi (N := 20) hG hR dX12_init_41 (by decide) (by decide) (by decide) (by decide) (by decide) ?_
  refine pm_nums (cs' := 5) (zs' := 4178) (cnt' := 60) rfl rfl rfl ?_
  refine pm_putF hG dX12_init_43 (ffX12_22 _ rfl rfl) rfl rfl rfl ?_
  refine pm_aloadn hG dX12_init_46 rfl ?_
  refine pm_bipush (v := 60) hG dX12_init_47 (by decide) ?_
  refine pm_newi (N := 60) hG hR dX12_init_49 (by decide) (by decide) (by decide) (by decide) (by decide) ?_
  refine pm_nums (cs' := 6) (zs' := 4238) (cnt' := 61) rfl rfl rfl ?_
  refine pm_putF hG dX12_init_51 (ffX12_25 _ rfl rfl) rfl rfl rfl ?_
  refine pm_aloadn hG dX12_init_54 rfl ?_
  refine pm_bipush (v := 60) hG dX12_init_55 (by decide) ?_
  refine pm_newi (N := 60) hG hR dX12_init_57 (by decide) (by decide) (by decide) (by decide) (by decide) ?_
  refine pm_nums (cs' := 7) (zs' := 4298) (cnt' := 62) rfl rfl rfl ?_
  refine pm_putF hG dX12_init_59 (ffX12_28 _ rfl rfl) rfl rfl rfl ?_
  refine pm_aloadn hG dX12_init_62 rfl ?_
  refine pm_bipush (v := 60) hG dX12_init_63 (by decide) ?_
  refine pm_newi (N := 60) hG hR dX12_init_65 (by decide) (by decide) (by decide) (by decide) (by decide) ?_
  refine pm_nums (cs' := 8) (zs' := 4358) (cnt' := 63) rfl rfl rfl ?_
  refine pm_putF hG dX12_init_67 (ffX12_31 _ rfl rfl) rfl rfl rfl ?_
  refine pm_aloadn hG dX12_init_70 rfl ?_
  refine pm_bipush (v := 11) hG dX12_init_71 (by decide) ?_
  refine pm_newi (N := 11) hG hR dX12_init_73 (by decide) (by decide) (by decide) (by decide) (by decide) ?_
  refine pm_nums (cs' := 9) (zs' := 4369) (cnt' := 64) rfl rfl rfl ?_
  refine pm_putF hG dX12_init_75 (ffX12_34 _ rfl rfl) rfl rfl rfl ?_
  refine pm_aloadn hG dX12_init_78 rfl ?_
  refine pm_bipush (v := 20) hG dX12_init_79 (by decide) ?_
  refine pm_newi (N := 20) hG hR dX12_init_81 (by decide) (by decide) (by decide) (by decide) (by decide) ?_
  refine pm_nums (cs' := 10) (zs' := 4389) (cnt' := 65) rfl rfl rfl ?_
  refine pm_putF hG dX12_init_83 (ffX12_37 _ rfl rfl) rfl rfl rfl ?_
  refine pm_aloadn hG dX12_init_86 rfl ?_
  refine pm_bipush (v := 20) hG dX12_init_87 (by decide) ?_
  refine pm_newi (N := 20) hG hR dX12_init_89 (by decide) (by decide) (by decide) (by decide) (by decide) ?_
  refine pm_nums (cs' := 11) (zs' := 4409) (cnt' := 66) rfl rfl rfl ?_
  refine pm_putF hG dX12_init_91 (ffX12_40 _ rfl rfl) rfl rfl rfl ?_
  refine pm_aloadn hG dX12_init_94 rfl ?_
  refine pm_iconst (v := 5) hG dX12_init_95 (by decide) ?_
  refine pm_newi (N := 5) hG hR dX12_init_96 (by decide) (by decide) (by decide) (by decide) (by decide) ?_
  refine pm_nums (cs' := 12) (zs' := 4414) (cnt' := 67) rfl rfl rfl ?_
  refine pm_putF hG dX12_init_98 (ffX12_43 _ rfl rfl) rfl rfl rfl ?_
  refine pm_aloadn hG dX12_init_101 rfl ?_
  refine pm_bipush (v := 8) hG dX12_init_102 (by decide) ?_
  refine pm_newi (N := 8) hG hR dX12_init_104 (by decide) (by decide) (by decide) (by decide) (by decide) ?_
  refine pm_nums (cs' := 13) (zs' := 4422) (cnt' := 68) rfl rfl rfl ?_
  refine pm_putF hG dX12_init_106 (ffX12_46 _ rfl rfl) rfl rfl rfl ?_
  refine pm_aloadn hG dX12_init_109 rfl ?_
  refine pm_bipush (v := 8) hG dX12_init_110 (by decide) ?_
  refine pm_newi (N := 8) hG hR dX12_init_112 (by decide) (by decide) (by decide) (by decide) (by decide) ?_
  refine pm_nums (cs' := 14) (zs' := 4430) (cnt' := 69) rfl rfl rfl ?_
  refine pm_putF hG dX12_init_114 (ffX12_49 _ rfl rfl) rfl rfl rfl ?_
  refine pm_aloadn hG dX12_init_117 rfl ?_
  refine pm_bipush (v := 40) hG dX12_init_118 (by decide) ?_
  refine pm_newi (N := 40) hG hR dX12_init_120 (by decide) (by decide) (by decide) (by decide) (by decide) ?_
  refine pm_nums (cs' := 15) (zs' := 4470) (cnt' := 70) rfl rfl rfl ?_
  refine pm_putF hG dX12_init_122 (ffX12_52 _ rfl rfl) rfl rfl rfl ?_
  refine pm_aloadn hG dX12_init_125 rfl ?_
  refine pm_iconst (v := 4) hG dX12_init_126 (by decide) ?_
  refine pm_newi (N := 4) hG hR dX12_init_127 (by decide) (by decide) (by decide) (by decide) (by decide) ?_
  refine pm_nums (cs' := 16) (zs' := 4474) (cnt' := 71) rfl rfl rfl ?_
  refine pm_putF hG dX12_init_129 (ffX12_55 _ rfl rfl) rfl rfl rfl ?_
  refine pm_aloadn hG dX12_init_132 rfl ?_
  refine pm_iconst (v := 4) hG dX12_init_133 (by decide) ?_
  refine pm_newi (N := 4) hG hR dX12_init_134 (by decide) (by decide) (by decide) (by decide) (by decide) ?_
  refine pm_nums (cs' := 17) (zs' := 4478) (cnt' := 72) rfl rfl rfl ?_
  refine pm_putF hG dX12_init_136 (ffX12_58 _ rfl rfl) rfl rfl rfl ?_
  refine pm_aloadn hG dX12_init_139 rfl ?_
  refine pm_bipush (v := 96) hG dX12_init_140 (by decide) ?_
  refine pm_newi (N := 96) hG hR dX12_init_142 (by decide) (by decide) (by decide) (by decide) (by decide) ?_
  refine pm_nums (cs' := 18) (zs' := 4574) (cnt' := 73) rfl rfl rfl ?_
  refine pm_putF hG dX12_init_144 (ffX12_61 _ rfl rfl) rfl rfl rfl ?_
  refine pm_aloadn hG dX12_init_147 rfl ?_
  refine pm_bipush (v := 24) hG dX12_init_148 (by decide) ?_
  refine pm_newi (N := 24) hG hR dX12_init_150 (by decide) (by decide) (by decide) (by decide) (by decide) ?_
  refine pm_nums (cs' := 19) (zs' := 4598) (cnt' := 74) rfl rfl rfl ?_
  refine pm_putF hG dX12_init_152 (ffX12_64 _ rfl rfl) rfl rfl rfl ?_
  refine pm_aloadn hG dX12_init_155 rfl ?_
  refine pm_getf hG dX12_init_156 (flX12_7 _ rfl) rfl rfl ?_
  refine pm_bipush (v := 9) hG dX12_init_159 (by decide) ?_
  refine pm_sipush (v := 1000) hG dX12_init_161 (by decide) ?_
  refine pm_iast hG dX12_init_164 rfl (pm_inb (by decide)) ?_
  exact pm_vret hG hF dX12_init_165 rfl (by decide) (by decide) ⟨rfl, (pm_lies_cons rfl (pm_lies_cons rfl (pm_lies_cons rfl (pm_lies_cons rfl (pm_lies_cons rfl (pm_lies_cons rfl (pm_lies_cons rfl (pm_lies_cons rfl (pm_lies_cons rfl (pm_lies_cons rfl (pm_lies_cons rfl (pm_lies_cons rfl (pm_lies_cons rfl (pm_lies_cons rfl (pm_lies_cons rfl (pm_lies_cons rfl (pm_lies_cons rfl (pm_lies_cons rfl (pm_lies_cons rfl (pm_lies_cons rfl pm_lies_nil)))))))))))))))))))), (by repeat (first | exact pm_old.rf | refine pm_old.up (by decide) ?_ | refine pm_old.cat (by decide) ?_)), rfl⟩
