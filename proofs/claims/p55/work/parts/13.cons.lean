abbrev l_k_model (B : Nat) : List pm_C := [.inr (12, [.ref (B + 55), .ref (B + 56), .ref (B + 57), .int 0, .ref (B + 58), .ref (B + 59), .ref (B + 60), .ref (B + 61), .ref (B + 62), .ref (B + 63), .int 0, .int 0, .int 0, .ref (B + 64), .ref (B + 65), .ref (B + 66), .ref (B + 67), .ref (B + 68), .int 0, .int 0, .int 0, .ref (B + 69), .int 0, .ref (B + 70), .ref (B + 71), .ref (B + 72), .ref (B + 73)]), .inl (2071, upd (fun _ => 0) (9 : Int32).toNatClampNeg 1000), .inl (2071, (fun _ => 0)), .inl (6, (fun _ => 0)), .inl (10, (fun _ => 0)), .inl (20, (fun _ => 0)), .inl (60, (fun _ => 0)), .inl (60, (fun _ => 0)), .inl (60, (fun _ => 0)), .inl (11, (fun _ => 0)), .inl (20, (fun _ => 0)), .inl (20, (fun _ => 0)), .inl (5, (fun _ => 0)), .inl (8, (fun _ => 0)), .inl (8, (fun _ => 0)), .inl (40, (fun _ => 0)), .inl (4, (fun _ => 0)), .inl (4, (fun _ => 0)), .inl (96, (fun _ => 0)), .inl (24, (fun _ => 0))]
set_option maxRecDepth 100000 in
set_option maxHeartbeats 4000000 in
theorem k_model {d B : Nat} {σ : pm_S} (hdd : 1 ≤ d) (hk : σ 54 = some (.inr (12, [.null, .null, .null, .int 0, .null, .null, .null, .null, .null, .null, .int 0, .int 0, .int 0, .null, .null, .null, .null, .null, .int 0, .int 0, .int 0, .null, .int 0, .null, .null, .null, .null]))) : pm_met mX12_init d 19 4598 B [.ref (B + 54)] 55 σ (pm_Qv (fun σ' cnt' => pm_lies σ' 54 (l_k_model B) ∧ pm_old 54 σ σ' ∧ cnt' = 74)) := by
  refine pm_enter 0 (by decide) (Nat.le_of_ble_eq_true rfl) rfl (fun G hG hR hF => ?_)
  refine pm_weak (σ2 := pm_cat σ 54 [.inr (12, [.null, .null, .null, .int 0, .null, .null, .null, .null, .null, .null, .int 0, .int 0, .int 0, .null, .null, .null, .null, .null, .int 0, .int 0, .int 0, .null, .int 0, .null, .null, .null, .null])]) (pm_cat_sub pm_old.rf (pm_lies_cons hk pm_lies_nil)) ?_
  refine pm_aloadn hG dX12_init_0 rfl ?_
  refine pm_objInit hG hR dX12_init_1 (oiX12_1 _ rfl) pm_oi (by omega) (by decide) ?_
  refine pm_aloadn hG dX12_init_4 rfl ?_
  refine pm_sipush (v := 2071) hG dX12_init_5 (by decide) ?_
  refine pm_newi (N := 2071) hG hR dX12_init_8 (by decide) (by decide) (by decide) (by decide) (by decide) ?_
  refine pm_nums (cs' := 1) (zs' := 2071) (cnt' := 56) rfl rfl rfl ?_
  refine pm_putF hG dX12_init_10 (ffX12_7 _ rfl rfl) rfl rfl rfl ?_
  refine pm_weak (σ2 := pm_cat σ 54 [.inr (12, [.ref (B + 55), .null, .null, .int 0, .null, .null, .null, .null, .null, .null, .int 0, .int 0, .int 0, .null, .null, .null, .null, .null, .int 0, .int 0, .int 0, .null, .int 0, .null, .null, .null, .null]), .inl (2071, (fun _ => 0))]) (pm_cat_sub (by repeat (first | exact pm_old.rf | refine pm_old.up (by decide) ?_ | refine pm_old.cat (by decide) ?_)) (pm_lies_cons rfl (pm_lies_cons rfl pm_lies_nil))) ?_
  refine pm_aloadn hG dX12_init_13 rfl ?_
  refine pm_sipush (v := 2071) hG dX12_init_14 (by decide) ?_
  refine pm_newi (N := 2071) hG hR dX12_init_17 (by decide) (by decide) (by decide) (by decide) (by decide) ?_
  refine pm_nums (cs' := 2) (zs' := 4142) (cnt' := 57) rfl rfl rfl ?_
  refine pm_putF hG dX12_init_19 (ffX12_13 _ rfl rfl) rfl rfl rfl ?_
  refine pm_weak (σ2 := pm_cat σ 54 [.inr (12, [.ref (B + 55), .ref (B + 56), .null, .int 0, .null, .null, .null, .null, .null, .null, .int 0, .int 0, .int 0, .null, .null, .null, .null, .null, .int 0, .int 0, .int 0, .null, .int 0, .null, .null, .null, .null]), .inl (2071, (fun _ => 0)), .inl (2071, (fun _ => 0))]) (pm_cat_sub (by repeat (first | exact pm_old.rf | refine pm_old.up (by decide) ?_ | refine pm_old.cat (by decide) ?_)) (pm_lies_cons rfl (pm_lies_cons rfl (pm_lies_cons rfl pm_lies_nil)))) ?_
  refine pm_aloadn hG dX12_init_22 rfl ?_
  refine pm_bipush (v := 6) hG dX12_init_23 (by decide) ?_
  refine pm_newi (N := 6) hG hR dX12_init_25 (by decide) (by decide) (by decide) (by decide) (by decide) ?_
  refine pm_nums (cs' := 3) (zs' := 4148) (cnt' := 58) rfl rfl rfl ?_
  refine pm_putF hG dX12_init_27 (ffX12_16 _ rfl rfl) rfl rfl rfl ?_
  refine pm_weak (σ2 := pm_cat σ 54 [.inr (12, [.ref (B + 55), .ref (B + 56), .ref (B + 57), .int 0, .null, .null, .null, .null, .null, .null, .int 0, .int 0, .int 0, .null, .null, .null, .null, .null, .int 0, .int 0, .int 0, .null, .int 0, .null, .null, .null, .null]), .inl (2071, (fun _ => 0)), .inl (2071, (fun _ => 0)), .inl (6, (fun _ => 0))]) (pm_cat_sub (by repeat (first | exact pm_old.rf | refine pm_old.up (by decide) ?_ | refine pm_old.cat (by decide) ?_)) (pm_lies_cons rfl (pm_lies_cons rfl (pm_lies_cons rfl (pm_lies_cons rfl pm_lies_nil))))) ?_
  refine pm_aloadn hG dX12_init_30 rfl ?_
  refine pm_bipush (v := 10) hG dX12_init_31 (by decide) ?_
  refine pm_newi (N := 10) hG hR dX12_init_33 (by decide) (by decide) (by decide) (by decide) (by decide) ?_
  refine pm_nums (cs' := 4) (zs' := 4158) (cnt' := 59) rfl rfl rfl ?_
  refine pm_putF hG dX12_init_35 (ffX12_19 _ rfl rfl) rfl rfl rfl ?_
  refine pm_weak (σ2 := pm_cat σ 54 [.inr (12, [.ref (B + 55), .ref (B + 56), .ref (B + 57), .int 0, .ref (B + 58), .null, .null, .null, .null, .null, .int 0, .int 0, .int 0, .null, .null, .null, .null, .null, .int 0, .int 0, .int 0, .null, .int 0, .null, .null, .null, .null]), .inl (2071, (fun _ => 0)), .inl (2071, (fun _ => 0)), .inl (6, (fun _ => 0)), .inl (10, (fun _ => 0))]) (pm_cat_sub (by repeat (first | exact pm_old.rf | refine pm_old.up (by decide) ?_ | refine pm_old.cat (by decide) ?_)) (pm_lies_cons rfl (pm_lies_cons rfl (pm_lies_cons rfl (pm_lies_cons rfl (pm_lies_cons rfl pm_lies_nil)))))) ?_
  refine pm_aloadn hG dX12_init_38 rfl ?_
  refine pm_bipush (v := 20) hG dX12_init_39 (by decide) ?_
  refine pm_newi (N := 20) hG hR dX12_init_41 (by decide) (by decide) (by decide) (by decide) (by decide) ?_
  refine pm_nums (cs' := 5) (zs' := 4178) (cnt' := 60) rfl rfl rfl ?_
  refine pm_putF hG dX12_init_43 (ffX12_22 _ rfl rfl) rfl rfl rfl ?_
  refine pm_weak (σ2 := pm_cat σ 54 [.inr (12, [.ref (B + 55), .ref (B + 56), .ref (B + 57), .int 0, .ref (B + 58), .ref (B + 59), .null, .null, .null, .null, .int 0, .int 0, .int 0, .null, .null, .null, .null, .null, .int 0, .int 0, .int 0, .null, .int 0, .null, .null, .null, .null]), .inl (2071, (fun _ => 0)), .inl (2071, (fun _ => 0)), .inl (6, (fun _ => 0)), .inl (10, (fun _ => 0)), .inl (20, (fun _ => 0))]) (pm_cat_sub (by repeat (first | exact pm_old.rf | refine pm_old.up (by decide) ?_ | refine pm_old.cat (by decide) ?_)) (pm_lies_cons rfl (pm_lies_cons rfl (pm_lies_cons rfl (pm_lies_cons rfl (pm_lies_cons rfl (pm_lies_cons rfl pm_lies_nil))))))) ?_
  refine pm_aloadn hG dX12_init_46 rfl ?_
  refine pm_bipush (v := 60) hG dX12_init_47 (by decide) ?_
  refine pm_newi (N := 60) hG hR dX12_init_49 (by decide) (by decide) (by decide) (by decide) (by decide) ?_
  refine pm_nums (cs' := 6) (zs' := 4238) (cnt' := 61) rfl rfl rfl ?_
  refine pm_putF hG dX12_init_51 (ffX12_25 _ rfl rfl) rfl rfl rfl ?_
  refine pm_weak (σ2 := pm_cat σ 54 [.inr (12, [.ref (B + 55), .ref (B + 56), .ref (B + 57), .int 0, .ref (B + 58), .ref (B + 59), .ref (B + 60), .null, .null, .null, .int 0, .int 0, .int 0, .null, .null, .null, .null, .null, .int 0, .int 0, .int 0, .null, .int 0, .null, .null, .null, .null]), .inl (2071, (fun _ => 0)), .inl (2071, (fun _ => 0)), .inl (6, (fun _ => 0)), .inl (10, (fun _ => 0)), .inl (20, (fun _ => 0)), .inl (60, (fun _ => 0))]) (pm_cat_sub (by repeat (first | exact pm_old.rf | refine pm_old.up (by decide) ?_ | refine pm_old.cat (by decide) ?_)) (pm_lies_cons rfl (pm_lies_cons rfl (pm_lies_cons rfl (pm_lies_cons rfl (pm_lies_cons rfl (pm_lies_cons rfl (pm_lies_cons rfl pm_lies_nil)))))))) ?_
  refine pm_aloadn hG dX12_init_54 rfl ?_
  refine pm_bipush (v := 60) hG dX12_init_55 (by decide) ?_
  refine pm_newi (N := 60) hG hR dX12_init_57 (by decide) (by decide) (by decide) (by decide) (by decide) ?_
  refine pm_nums (cs' := 7) (zs' := 4298) (cnt' := 62) rfl rfl rfl ?_
  refine pm_putF hG dX12_init_59 (ffX12_28 _ rfl rfl) rfl rfl rfl ?_
  refine pm_weak (σ2 := pm_cat σ 54 [.inr (12, [.ref (B + 55), .ref (B + 56), .ref (B + 57), .int 0, .ref (B + 58), .ref (B + 59), .ref (B + 60), .ref (B + 61), .null, .null, .int 0, .int 0, .int 0, .null, .null, .null, .null, .null, .int 0, .int 0, .int 0, .null, .int 0, .null, .null, .null, .null]), .inl (2071, (fun _ => 0)), .inl (2071, (fun _ => 0)), .inl (6, (fun _ => 0)), .inl (10, (fun _ => 0)), .inl (20, (fun _ => 0)), .inl (60, (fun _ => 0)), .inl (60, (fun _ => 0))]) (pm_cat_sub (by repeat (first | exact pm_old.rf | refine pm_old.up (by decide) ?_ | refine pm_old.cat (by decide) ?_)) (pm_lies_cons rfl (pm_lies_cons rfl (pm_lies_cons rfl (pm_lies_cons rfl (pm_lies_cons rfl (pm_lies_cons rfl (pm_lies_cons rfl (pm_lies_cons rfl pm_lies_nil))))))))) ?_
  refine pm_aloadn hG dX12_init_62 rfl ?_
  refine pm_bipush (v := 60) hG dX12_init_63 (by decide) ?_
  refine pm_newi (N := 60) hG hR dX12_init_65 (by decide) (by decide) (by decide) (by decide) (by decide) ?_
  refine pm_nums (cs' := 8) (zs' := 4358) (cnt' := 63) rfl rfl rfl ?_
  refine pm_putF hG dX12_init_67 (ffX12_31 _ rfl rfl) rfl rfl rfl ?_
  refine pm_weak (σ2 := pm_cat σ 54 [.inr (12, [.ref (B + 55), .ref (B + 56), .ref (B + 57), .int 0, .ref (B + 58), .ref (B + 59), .ref (B + 60), .ref (B + 61), .ref (B + 62), .null, .int 0, .int 0, .int 0, .null, .null, .null, .null, .null, .int 0, .int 0, .int 0, .null, .int 0, .null, .null, .null, .null]), .inl (2071, (fun _ => 0)), .inl (2071, (fun _ => 0)), .inl (6, (fun _ => 0)), .inl (10, (fun _ => 0)), .inl (20, (fun _ => 0)), .inl (60, (fun _ => 0)), .inl (60, (fun _ => 0)), .inl (60, (fun _ => 0))]) (pm_cat_sub (by repeat (first | exact pm_old.rf | refine pm_old.up (by decide) ?_ | refine pm_old.cat (by decide) ?_)) (pm_lies_cons rfl (pm_lies_cons rfl (pm_lies_cons rfl (pm_lies_cons rfl (pm_lies_cons rfl (pm_lies_cons rfl (pm_lies_cons rfl (pm_lies_cons rfl (pm_lies_cons rfl pm_lies_nil)))))))))) ?_
  refine pm_aloadn hG dX12_init_70 rfl ?_
  refine pm_bipush (v := 11) hG dX12_init_71 (by decide) ?_
  refine pm_newi (N := 11) hG hR dX12_init_73 (by decide) (by decide) (by decide) (by decide) (by decide) ?_
  refine pm_nums (cs' := 9) (zs' := 4369) (cnt' := 64) rfl rfl rfl ?_
  refine pm_putF hG dX12_init_75 (ffX12_34 _ rfl rfl) rfl rfl rfl ?_
  refine pm_weak (σ2 := pm_cat σ 54 [.inr (12, [.ref (B + 55), .ref (B + 56), .ref (B + 57), .int 0, .ref (B + 58), .ref (B + 59), .ref (B + 60), .ref (B + 61), .ref (B + 62), .ref (B + 63), .int 0, .int 0, .int 0, .null, .null, .null, .null, .null, .int 0, .int 0, .int 0, .null, .int 0, .null, .null, .null, .null]), .inl (2071, (fun _ => 0)), .inl (2071, (fun _ => 0)), .inl (6, (fun _ => 0)), .inl (10, (fun _ => 0)), .inl (20, (fun _ => 0)), .inl (60, (fun _ => 0)), .inl (60, (fun _ => 0)), .inl (60, (fun _ => 0)), .inl (11, (fun _ => 0))]) (pm_cat_sub (by repeat (first | exact pm_old.rf | refine pm_old.up (by decide) ?_ | refine pm_old.cat (by decide) ?_)) (pm_lies_cons rfl (pm_lies_cons rfl (pm_lies_cons rfl (pm_lies_cons rfl (pm_lies_cons rfl (pm_lies_cons rfl (pm_lies_cons rfl (pm_lies_cons rfl (pm_lies_cons rfl (pm_lies_cons rfl pm_lies_nil))))))))))) ?_
  refine pm_aloadn hG dX12_init_78 rfl ?_
  refine pm_bipush (v := 20) hG dX12_init_79 (by decide) ?_
  refine pm_newi (N := 20) hG hR dX12_init_81 (by decide) (by decide) (by decide) (by decide) (by decide) ?_
  refine pm_nums (cs' := 10) (zs' := 4389) (cnt' := 65) rfl rfl rfl ?_
  refine pm_putF hG dX12_init_83 (ffX12_37 _ rfl rfl) rfl rfl rfl ?_
  refine pm_weak (σ2 := pm_cat σ 54 [.inr (12, [.ref (B + 55), .ref (B + 56), .ref (B + 57), .int 0, .ref (B + 58), .ref (B + 59), .ref (B + 60), .ref (B + 61), .ref (B + 62), .ref (B + 63), .int 0, .int 0, .int 0, .ref (B + 64), .null, .null, .null, .null, .int 0, .int 0, .int 0, .null, .int 0, .null, .null, .null, .null]), .inl (2071, (fun _ => 0)), .inl (2071, (fun _ => 0)), .inl (6, (fun _ => 0)), .inl (10, (fun _ => 0)), .inl (20, (fun _ => 0)), .inl (60, (fun _ => 0)), .inl (60, (fun _ => 0)), .inl (60, (fun _ => 0)), .inl (11, (fun _ => 0)), .inl (20, (fun _ => 0))]) (pm_cat_sub (by repeat (first | exact pm_old.rf | refine pm_old.up (by decide) ?_ | refine pm_old.cat (by decide) ?_)) (pm_lies_cons rfl (pm_lies_cons rfl (pm_lies_cons rfl (pm_lies_cons rfl (pm_lies_cons rfl (pm_lies_cons rfl (pm_lies_cons rfl (pm_lies_cons rfl (pm_lies_cons rfl (pm_lies_cons rfl (pm_lies_cons rfl pm_lies_nil)))))))))))) ?_
  refine pm_aloadn hG dX12_init_86 rfl ?_
  refine pm_bipush (v := 20) hG dX12_init_87 (by decide) ?_
  refine pm_newi (N := 20) hG hR dX12_init_89 (by decide) (by decide) (by decide) (by decide) (by decide) ?_
  refine pm_nums (cs' := 11) (zs' := 4409) (cnt' := 66) rfl rfl rfl ?_
  refine pm_putF hG dX12_init_91 (ffX12_40 _ rfl rfl) rfl rfl rfl ?_
  refine pm_weak (σ2 := pm_cat σ 54 [.inr (12, [.ref (B + 55), .ref (B + 56), .ref (B + 57), .int 0, .ref (B + 58), .ref (B + 59), .ref (B + 60), .ref (B + 61), .ref (B + 62), .ref (B + 63), .int 0, .int 0, .int 0, .ref (B + 64), .ref (B + 65), .null, .null, .null, .int 0, .int 0, .int 0, .null, .int 0, .null, .null, .null, .null]), .inl (2071, (fun _ => 0)), .inl (2071, (fun _ => 0)), .inl (6, (fun _ => 0)), .inl (10, (fun _ => 0)), .inl (20, (fun _ => 0)), .inl (60, (fun _ => 0)), .inl (60, (fun _ => 0)), .inl (60, (fun _ => 0)), .inl (11, (fun _ => 0)), .inl (20, (fun _ => 0)), .inl (20, (fun _ => 0))]) (pm_cat_sub (by repeat (first | exact pm_old.rf | refine pm_old.up (by decide) ?_ | refine pm_old.cat (by decide) ?_)) (pm_lies_cons rfl (pm_lies_cons rfl (pm_lies_cons rfl (pm_lies_cons rfl (pm_lies_cons rfl (pm_lies_cons rfl (pm_lies_cons rfl (pm_lies_cons rfl (pm_lies_cons rfl (pm_lies_cons rfl (pm_lies_cons rfl (pm_lies_cons rfl pm_lies_nil))))))))))))) ?_
  refine pm_aloadn hG dX12_init_94 rfl ?_
  refine pm_iconst (v := 5) hG dX12_init_95 (by decide) ?_
  refine pm_newi (N := 5) hG hR dX12_init_96 (by decide) (by decide) (by decide) (by decide) (by decide) ?_
  refine pm_nums (cs' := 12) (zs' := 4414) (cnt' := 67) rfl rfl rfl ?_
  refine pm_putF hG dX12_init_98 (ffX12_43 _ rfl rfl) rfl rfl rfl ?_
  refine pm_weak (σ2 := pm_cat σ 54 [.inr (12, [.ref (B + 55), .ref (B + 56), .ref (B + 57), .int 0, .ref (B + 58), .ref (B + 59), .ref (B + 60), .ref (B + 61), .ref (B + 62), .ref (B + 63), .int 0, .int 0, .int 0, .ref (B + 64), .ref (B + 65), .ref (B + 66), .null, .null, .int 0, .int 0, .int 0, .null, .int 0, .null, .null, .null, .null]), .inl (2071, (fun _ => 0)), .inl (2071, (fun _ => 0)), .inl (6, (fun _ => 0)), .inl (10, (fun _ => 0)), .inl (20, (fun _ => 0)), .inl (60, (fun _ => 0)), .inl (60, (fun _ => 0)), .inl (60, (fun _ => 0)), .inl (11, (fun _ => 0)), .inl (20, (fun _ => 0)), .inl (20, (fun _ => 0)), .inl (5, (fun _ => 0))]) (pm_cat_sub (by repeat (first | exact pm_old.rf | refine pm_old.up (by decide) ?_ | refine pm_old.cat (by decide) ?_)) (pm_lies_cons rfl (pm_lies_cons rfl (pm_lies_cons rfl (pm_lies_cons rfl (pm_lies_cons rfl (pm_lies_cons rfl (pm_lies_cons rfl (pm_lies_cons rfl (pm_lies_cons rfl (pm_lies_cons rfl (pm_lies_cons rfl (pm_lies_cons rfl (pm_lies_cons rfl pm_lies_nil)))))))))))))) ?_
  refine pm_aloadn hG dX12_init_101 rfl ?_
  refine pm_bipush (v := 8) hG dX12_init_102 (by decide) ?_
  refine pm_newi (N := 8) hG hR dX12_init_104 (by decide) (by decide) (by decide) (by decide) (by decide) ?_
  refine pm_nums (cs' := 13) (zs' := 4422) (cnt' := 68) rfl rfl rfl ?_
  refine pm_putF hG dX12_init_106 (ffX12_46 _ rfl rfl) rfl rfl rfl ?_
  refine pm_weak (σ2 := pm_cat σ 54 [.inr (12, [.ref (B + 55), .ref (B + 56), .ref (B + 57), .int 0, .ref (B + 58), .ref (B + 59), .ref (B + 60), .ref (B + 61), .ref (B + 62), .ref (B + 63), .int 0, .int 0, .int 0, .ref (B + 64), .ref (B + 65), .ref (B + 66), .ref (B + 67), .null, .int 0, .int 0, .int 0, .null, .int 0, .null, .null, .null, .null]), .inl (2071, (fun _ => 0)), .inl (2071, (fun _ => 0)), .inl (6, (fun _ => 0)), .inl (10, (fun _ => 0)), .inl (20, (fun _ => 0)), .inl (60, (fun _ => 0)), .inl (60, (fun _ => 0)), .inl (60, (fun _ => 0)), .inl (11, (fun _ => 0)), .inl (20, (fun _ => 0)), .inl (20, (fun _ => 0)), .inl (5, (fun _ => 0)), .inl (8, (fun _ => 0))]) (pm_cat_sub (by repeat (first | exact pm_old.rf | refine pm_old.up (by decide) ?_ | refine pm_old.cat (by decide) ?_)) (pm_lies_cons rfl (pm_lies_cons rfl (pm_lies_cons rfl (pm_lies_cons rfl (pm_lies_cons rfl (pm_lies_cons rfl (pm_lies_cons rfl (pm_lies_cons rfl (pm_lies_cons rfl (pm_lies_cons rfl (pm_lies_cons rfl (pm_lies_cons rfl (pm_lies_cons rfl (pm_lies_cons rfl pm_lies_nil))))))))))))))) ?_
  refine pm_aloadn hG dX12_init_109 rfl ?_
  refine pm_bipush (v := 8) hG dX12_init_110 (by decide) ?_
  refine pm_newi (N := 8) hG hR dX12_init_112 (by decide) (by decide) (by decide) (by decide) (by decide) ?_
  refine pm_nums (cs' := 14) (zs' := 4430) (cnt' := 69) rfl rfl rfl ?_
  refine pm_putF hG dX12_init_114 (ffX12_49 _ rfl rfl) rfl rfl rfl ?_
  refine pm_weak (σ2 := pm_cat σ 54 [.inr (12, [.ref (B + 55), .ref (B + 56), .ref (B + 57), .int 0, .ref (B + 58), .ref (B + 59), .ref (B + 60), .ref (B + 61), .ref (B + 62), .ref (B + 63), .int 0, .int 0, .int 0, .ref (B + 64), .ref (B + 65), .ref (B + 66), .ref (B + 67), .ref (B + 68), .int 0, .int 0, .int 0, .null, .int 0, .null, .null, .null, .null]), .inl (2071, (fun _ => 0)), .inl (2071, (fun _ => 0)), .inl (6, (fun _ => 0)), .inl (10, (fun _ => 0)), .inl (20, (fun _ => 0)), .inl (60, (fun _ => 0)), .inl (60, (fun _ => 0)), .inl (60, (fun _ => 0)), .inl (11, (fun _ => 0)), .inl (20, (fun _ => 0)), .inl (20, (fun _ => 0)), .inl (5, (fun _ => 0)), .inl (8, (fun _ => 0)), .inl (8, (fun _ => 0))]) (pm_cat_sub (by repeat (first | exact pm_old.rf | refine pm_old.up (by decide) ?_ | refine pm_old.cat (by decide) ?_)) (pm_lies_cons rfl (pm_lies_cons rfl (pm_lies_cons rfl (pm_lies_cons rfl (pm_lies_cons rfl (pm_lies_cons rfl (pm_lies_cons rfl (pm_lies_cons rfl (pm_lies_cons rfl (pm_lies_cons rfl (pm_lies_cons rfl (pm_lies_cons rfl (pm_lies_cons rfl (pm_lies_cons rfl (pm_lies_cons rfl pm_lies_nil)))))))))))))))) ?_
  refine pm_aloadn hG dX12_init_117 rfl ?_
  refine pm_bipush (v := 40) hG dX12_init_118 (by decide) ?_
  refine pm_newi (N := 40) hG hR dX12_init_120 (by decide) (by decide) (by decide) (by decide) (by decide) ?_
  refine pm_nums (cs' := 15) (zs' := 4470) (cnt' := 70) rfl rfl rfl ?_
  refine pm_putF hG dX12_init_122 (ffX12_52 _ rfl rfl) rfl rfl rfl ?_
  refine pm_weak (σ2 := pm_cat σ 54 [.inr (12, [.ref (B + 55), .ref (B + 56), .ref (B + 57), .int 0, .ref (B + 58), .ref (B + 59), .ref (B + 60), .ref (B + 61), .ref (B + 62), .ref (B + 63), .int 0, .int 0, .int 0, .ref (B + 64), .ref (B + 65), .ref (B + 66), .ref (B + 67), .ref (B + 68), .int 0, .int 0, .int 0, .ref (B + 69), .int 0, .null, .null, .null, .null]), .inl (2071, (fun _ => 0)), .inl (2071, (fun _ => 0)), .inl (6, (fun _ => 0)), .inl (10, (fun _ => 0)), .inl (20, (fun _ => 0)), .inl (60, (fun _ => 0)), .inl (60, (fun _ => 0)), .inl (60, (fun _ => 0)), .inl (11, (fun _ => 0)), .inl (20, (fun _ => 0)), .inl (20, (fun _ => 0)), .inl (5, (fun _ => 0)), .inl (8, (fun _ => 0)), .inl (8, (fun _ => 0)), .inl (40, (fun _ => 0))]) (pm_cat_sub (by repeat (first | exact pm_old.rf | refine pm_old.up (by decide) ?_ | refine pm_old.cat (by decide) ?_)) (pm_lies_cons rfl (pm_lies_cons rfl (pm_lies_cons rfl (pm_lies_cons rfl (pm_lies_cons rfl (pm_lies_cons rfl (pm_lies_cons rfl (pm_lies_cons rfl (pm_lies_cons rfl (pm_lies_cons rfl (pm_lies_cons rfl (pm_lies_cons rfl (pm_lies_cons rfl (pm_lies_cons rfl (pm_lies_cons rfl (pm_lies_cons rfl pm_lies_nil))))))))))))))))) ?_
  refine pm_aloadn hG dX12_init_125 rfl ?_
  refine pm_iconst (v := 4) hG dX12_init_126 (by decide) ?_
  refine pm_newi (N := 4) hG hR dX12_init_127 (by decide) (by decide) (by decide) (by decide) (by decide) ?_
  refine pm_nums (cs' := 16) (zs' := 4474) (cnt' := 71) rfl rfl rfl ?_
  refine pm_putF hG dX12_init_129 (ffX12_55 _ rfl rfl) rfl rfl rfl ?_
  refine pm_weak (σ2 := pm_cat σ 54 [.inr (12, [.ref (B + 55), .ref (B + 56), .ref (B + 57), .int 0, .ref (B + 58), .ref (B + 59), .ref (B + 60), .ref (B + 61), .ref (B + 62), .ref (B + 63), .int 0, .int 0, .int 0, .ref (B + 64), .ref (B + 65), .ref (B + 66), .ref (B + 67), .ref (B + 68), .int 0, .int 0, .int 0, .ref (B + 69), .int 0, .ref (B + 70), .null, .null, .null]), .inl (2071, (fun _ => 0)), .inl (2071, (fun _ => 0)), .inl (6, (fun _ => 0)), .inl (10, (fun _ => 0)), .inl (20, (fun _ => 0)), .inl (60, (fun _ => 0)), .inl (60, (fun _ => 0)), .inl (60, (fun _ => 0)), .inl (11, (fun _ => 0)), .inl (20, (fun _ => 0)), .inl (20, (fun _ => 0)), .inl (5, (fun _ => 0)), .inl (8, (fun _ => 0)), .inl (8, (fun _ => 0)), .inl (40, (fun _ => 0)), .inl (4, (fun _ => 0))]) (pm_cat_sub (by repeat (first | exact pm_old.rf | refine pm_old.up (by decide) ?_ | refine pm_old.cat (by decide) ?_)) (pm_lies_cons rfl (pm_lies_cons rfl (pm_lies_cons rfl (pm_lies_cons rfl (pm_lies_cons rfl (pm_lies_cons rfl (pm_lies_cons rfl (pm_lies_cons rfl (pm_lies_cons rfl (pm_lies_cons rfl (pm_lies_cons rfl (pm_lies_cons rfl (pm_lies_cons rfl (pm_lies_cons rfl (pm_lies_cons rfl (pm_lies_cons rfl (pm_lies_cons rfl pm_lies_nil)))))))))))))))))) ?_
  refine pm_aloadn hG dX12_init_132 rfl ?_
  refine pm_iconst (v := 4) hG dX12_init_133 (by decide) ?_
  refine pm_newi (N := 4) hG hR dX12_init_134 (by decide) (by decide) (by decide) (by decide) (by decide) ?_
  refine pm_nums (cs' := 17) (zs' := 4478) (cnt' := 72) rfl rfl rfl ?_
  refine pm_putF hG dX12_init_136 (ffX12_58 _ rfl rfl) rfl rfl rfl ?_
  refine pm_weak (σ2 := pm_cat σ 54 [.inr (12, [.ref (B + 55), .ref (B + 56), .ref (B + 57), .int 0, .ref (B + 58), .ref (B + 59), .ref (B + 60), .ref (B + 61), .ref (B + 62), .ref (B + 63), .int 0, .int 0, .int 0, .ref (B + 64), .ref (B + 65), .ref (B + 66), .ref (B + 67), .ref (B + 68), .int 0, .int 0, .int 0, .ref (B + 69), .int 0, .ref (B + 70), .ref (B + 71), .null, .null]), .inl (2071, (fun _ => 0)), .inl (2071, (fun _ => 0)), .inl (6, (fun _ => 0)), .inl (10, (fun _ => 0)), .inl (20, (fun _ => 0)), .inl (60, (fun _ => 0)), .inl (60, (fun _ => 0)), .inl (60, (fun _ => 0)), .inl (11, (fun _ => 0)), .inl (20, (fun _ => 0)), .inl (20, (fun _ => 0)), .inl (5, (fun _ => 0)), .inl (8, (fun _ => 0)), .inl (8, (fun _ => 0)), .inl (40, (fun _ => 0)), .inl (4, (fun _ => 0)), .inl (4, (fun _ => 0))]) (pm_cat_sub (by repeat (first | exact pm_old.rf | refine pm_old.up (by decide) ?_ | refine pm_old.cat (by decide) ?_)) (pm_lies_cons rfl (pm_lies_cons rfl (pm_lies_cons rfl (pm_lies_cons rfl (pm_lies_cons rfl (pm_lies_cons rfl (pm_lies_cons rfl (pm_lies_cons rfl (pm_lies_cons rfl (pm_lies_cons rfl (pm_lies_cons rfl (pm_lies_cons rfl (pm_lies_cons rfl (pm_lies_cons rfl (pm_lies_cons rfl (pm_lies_cons rfl (pm_lies_cons rfl (pm_lies_cons rfl pm_lies_nil))))))))))))))))))) ?_
  refine pm_aloadn hG dX12_init_139 rfl ?_
  refine pm_bipush (v := 96) hG dX12_init_140 (by decide) ?_
  refine pm_newi (N := 96) hG hR dX12_init_142 (by decide) (by decide) (by decide) (by decide) (by decide) ?_
  refine pm_nums (cs' := 18) (zs' := 4574) (cnt' := 73) rfl rfl rfl ?_
  refine pm_putF hG dX12_init_144 (ffX12_61 _ rfl rfl) rfl rfl rfl ?_
  refine pm_weak (σ2 := pm_cat σ 54 [.inr (12, [.ref (B + 55), .ref (B + 56), .ref (B + 57), .int 0, .ref (B + 58), .ref (B + 59), .ref (B + 60), .ref (B + 61), .ref (B + 62), .ref (B + 63), .int 0, .int 0, .int 0, .ref (B + 64), .ref (B + 65), .ref (B + 66), .ref (B + 67), .ref (B + 68), .int 0, .int 0, .int 0, .ref (B + 69), .int 0, .ref (B + 70), .ref (B + 71), .ref (B + 72), .null]), .inl (2071, (fun _ => 0)), .inl (2071, (fun _ => 0)), .inl (6, (fun _ => 0)), .inl (10, (fun _ => 0)), .inl (20, (fun _ => 0)), .inl (60, (fun _ => 0)), .inl (60, (fun _ => 0)), .inl (60, (fun _ => 0)), .inl (11, (fun _ => 0)), .inl (20, (fun _ => 0)), .inl (20, (fun _ => 0)), .inl (5, (fun _ => 0)), .inl (8, (fun _ => 0)), .inl (8, (fun _ => 0)), .inl (40, (fun _ => 0)), .inl (4, (fun _ => 0)), .inl (4, (fun _ => 0)), .inl (96, (fun _ => 0))]) (pm_cat_sub (by repeat (first | exact pm_old.rf | refine pm_old.up (by decide) ?_ | refine pm_old.cat (by decide) ?_)) (pm_lies_cons rfl (pm_lies_cons rfl (pm_lies_cons rfl (pm_lies_cons rfl (pm_lies_cons rfl (pm_lies_cons rfl (pm_lies_cons rfl (pm_lies_cons rfl (pm_lies_cons rfl (pm_lies_cons rfl (pm_lies_cons rfl (pm_lies_cons rfl (pm_lies_cons rfl (pm_lies_cons rfl (pm_lies_cons rfl (pm_lies_cons rfl (pm_lies_cons rfl (pm_lies_cons rfl (pm_lies_cons rfl pm_lies_nil)))))))))))))))))))) ?_
  refine pm_aloadn hG dX12_init_147 rfl ?_
  refine pm_bipush (v := 24) hG dX12_init_148 (by decide) ?_
  refine pm_newi (N := 24) hG hR dX12_init_150 (by decide) (by decide) (by decide) (by decide) (by decide) ?_
  refine pm_nums (cs' := 19) (zs' := 4598) (cnt' := 74) rfl rfl rfl ?_
  refine pm_putF hG dX12_init_152 (ffX12_64 _ rfl rfl) rfl rfl rfl ?_
  refine pm_weak (σ2 := pm_cat σ 54 [.inr (12, [.ref (B + 55), .ref (B + 56), .ref (B + 57), .int 0, .ref (B + 58), .ref (B + 59), .ref (B + 60), .ref (B + 61), .ref (B + 62), .ref (B + 63), .int 0, .int 0, .int 0, .ref (B + 64), .ref (B + 65), .ref (B + 66), .ref (B + 67), .ref (B + 68), .int 0, .int 0, .int 0, .ref (B + 69), .int 0, .ref (B + 70), .ref (B + 71), .ref (B + 72), .ref (B + 73)]), .inl (2071, (fun _ => 0)), .inl (2071, (fun _ => 0)), .inl (6, (fun _ => 0)), .inl (10, (fun _ => 0)), .inl (20, (fun _ => 0)), .inl (60, (fun _ => 0)), .inl (60, (fun _ => 0)), .inl (60, (fun _ => 0)), .inl (11, (fun _ => 0)), .inl (20, (fun _ => 0)), .inl (20, (fun _ => 0)), .inl (5, (fun _ => 0)), .inl (8, (fun _ => 0)), .inl (8, (fun _ => 0)), .inl (40, (fun _ => 0)), .inl (4, (fun _ => 0)), .inl (4, (fun _ => 0)), .inl (96, (fun _ => 0)), .inl (24, (fun _ => 0))]) (pm_cat_sub (by repeat (first | exact pm_old.rf | refine pm_old.up (by decide) ?_ | refine pm_old.cat (by decide) ?_)) (pm_lies_cons rfl (pm_lies_cons rfl (pm_lies_cons rfl (pm_lies_cons rfl (pm_lies_cons rfl (pm_lies_cons rfl (pm_lies_cons rfl (pm_lies_cons rfl (pm_lies_cons rfl (pm_lies_cons rfl (pm_lies_cons rfl (pm_lies_cons rfl (pm_lies_cons rfl (pm_lies_cons rfl (pm_lies_cons rfl (pm_lies_cons rfl (pm_lies_cons rfl (pm_lies_cons rfl (pm_lies_cons rfl (pm_lies_cons rfl pm_lies_nil))))))))))))))))))))) ?_
  refine pm_aloadn hG dX12_init_155 rfl ?_
  refine pm_getf hG dX12_init_156 (flX12_7 _ rfl) rfl rfl ?_
  refine pm_bipush (v := 9) hG dX12_init_159 (by decide) ?_
  refine pm_sipush (v := 1000) hG dX12_init_161 (by decide) ?_
  refine pm_iast hG dX12_init_164 rfl (pm_inb (by decide)) ?_
  exact pm_vret hG hF dX12_init_165 rfl (by decide) (by decide) ⟨rfl, (pm_lies_cons rfl (pm_lies_cons rfl (pm_lies_cons rfl (pm_lies_cons rfl (pm_lies_cons rfl (pm_lies_cons rfl (pm_lies_cons rfl (pm_lies_cons rfl (pm_lies_cons rfl (pm_lies_cons rfl (pm_lies_cons rfl (pm_lies_cons rfl (pm_lies_cons rfl (pm_lies_cons rfl (pm_lies_cons rfl (pm_lies_cons rfl (pm_lies_cons rfl (pm_lies_cons rfl (pm_lies_cons rfl (pm_lies_cons rfl pm_lies_nil)))))))))))))))))))), (by repeat (first | exact pm_old.rf | refine pm_old.up (by decide) ?_ | refine pm_old.cat (by decide) ?_)), rfl⟩

abbrev l_k_realm74 (B : Nat) (fv : Nat → Int32) : List pm_C := [.inr (7, [.ref (B + 75), .ref (B + 77), .ref (B + 79), .ref (B + 81), .ref (B + 83), .ref (B + 85), .ref (B + 87), .ref (B + 89), .ref (B + 91), .ref (B + 93), .ref (B + 95), .ref (B + 97), .int 0, .int 0, .int 1000]), .inr (9, [.int 10, .int 3, .ref (B + 76), .int 0]), .inl (30, fun _ => 0), .inr (9, [.int 10, .int 10, .ref (B + 78), .int 0]), .inl (100, fv), .inr (9, [.int 20, .int 14, .ref (B + 80), .int 0]), .inl (280, fun _ => 0), .inr (9, [.int 20, .int 6, .ref (B + 82), .int 0]), .inl (120, fun _ => 0), .inr (9, [.int 12, .int 6, .ref (B + 84), .int 0]), .inl (72, fun _ => 0), .inr (9, [.int 12, .int 60, .ref (B + 86), .int 0]), .inl (720, fun _ => 0), .inr (9, [.int 40, .int 12, .ref (B + 88), .int 0]), .inl (480, fun _ => 0), .inr (9, [.int 6, .int 5, .ref (B + 90), .int 0]), .inl (30, fun _ => 0), .inr (9, [.int 30, .int 5, .ref (B + 92), .int 0]), .inl (150, fun _ => 0), .inr (9, [.int 5, .int 1, .ref (B + 94), .int 0]), .inl (5, fun _ => 0), .inr (9, [.int 20, .int 1, .ref (B + 96), .int 0]), .inl (20, fun _ => 0), .inr (9, [.int 60, .int 1, .ref (B + 98), .int 0]), .inl (60, fun _ => 0)]
set_option maxRecDepth 100000 in
set_option maxHeartbeats 4000000 in
theorem k_realm74 {d B : Nat} {σ : pm_S} (hdd : 3 ≤ d) (hk : σ 74 = some (.inr (7, [.null, .null, .null, .null, .null, .null, .null, .null, .null, .null, .null, .null, .int 0, .int 0, .int 0]))) : pm_met mX7_init d 24 2115 B [.ref (B + 74)] 75 σ (pm_Qv (fun σ' cnt' => (∃ fv : Nat → Int32, pm_lies σ' 74 (l_k_realm74 B fv)) ∧ pm_old 74 σ σ' ∧ cnt' = 99)) := by
  refine pm_enter 1 (by decide) (Nat.le_of_ble_eq_true rfl) rfl (fun G hG hR hF => ?_)
  refine pm_weak (σ2 := pm_cat σ 74 [.inr (7, [.null, .null, .null, .null, .null, .null, .null, .null, .null, .null, .null, .null, .int 0, .int 0, .int 0])]) (pm_cat_sub pm_old.rf (pm_lies_cons hk pm_lies_nil)) ?_
  refine pm_aloadn hG dX7_init_0 rfl ?_
  refine pm_objInit hG hR dX7_init_1 (oiX7_3 _ rfl) pm_oi (by omega) (by decide) ?_
  refine pm_aloadn hG dX7_init_4 rfl ?_
  refine pm_new hG hR dX7_init_5 (nwX7_9 _ rfl) (by decide) (by decide) ?_
  refine pm_nums (cs' := 1) (zs' := 4) (cnt' := 76) rfl rfl rfl ?_
  refine pm_dup hG dX7_init_8 rfl ?_
  refine pm_bipush (v := 10) hG dX7_init_9 (by decide) ?_
  refine pm_iconst (v := 3) hG dX7_init_11 (by decide) ?_
  refine pm_callI (As := [.int 10, .int 3]) (rest := [.ref (B + 75), .ref (B + 74)]) hG hR dX7_init_12 (lkX7_11 _ rfl) okI_X9_init (tb_init (d := 2) (N := 30) (by decide) rfl (by decide) (by decide) (by decide) (by decide) (by decide) (by decide) (by decide) (by decide)) rfl rfl hdd (by decide) (by decide) (by first | decide | exact Nat.le_of_ble_eq_true rfl) (pm_kv (fun σ' cnt' hq => ?_))
  obtain ⟨rfl, rfl⟩ := hq
  refine pm_nums (cs' := 2) (zs' := 34) (cnt' := 77) rfl rfl rfl ?_
  refine pm_putF hG dX7_init_15 (ffX7_14 _ rfl rfl) rfl rfl rfl ?_
  refine pm_aloadn hG dX7_init_18 rfl ?_
  refine pm_new hG hR dX7_init_19 (nwX7_9 _ rfl) (by decide) (by decide) ?_
  refine pm_nums (cs' := 3) (zs' := 38) (cnt' := 78) rfl rfl rfl ?_
  refine pm_dup hG dX7_init_22 rfl ?_
  refine pm_bipush (v := 10) hG dX7_init_23 (by decide) ?_
  refine pm_bipush (v := 10) hG dX7_init_25 (by decide) ?_
  refine pm_callI (As := [.int 10, .int 10]) (rest := [.ref (B + 77), .ref (B + 74)]) hG hR dX7_init_27 (lkX7_11 _ rfl) okI_X9_init (tb_init (d := 2) (N := 100) (by decide) rfl (by decide) (by decide) (by decide) (by decide) (by decide) (by decide) (by decide) (by decide)) rfl rfl hdd (by decide) (by decide) (by first | decide | exact Nat.le_of_ble_eq_true rfl) (pm_kv (fun σ' cnt' hq => ?_))
  obtain ⟨rfl, rfl⟩ := hq
  refine pm_nums (cs' := 4) (zs' := 138) (cnt' := 79) rfl rfl rfl ?_
  refine pm_putF hG dX7_init_30 (ffX7_20 _ rfl rfl) rfl rfl rfl ?_
  refine pm_aloadn hG dX7_init_33 rfl ?_
  refine pm_new hG hR dX7_init_34 (nwX7_9 _ rfl) (by decide) (by decide) ?_
  refine pm_nums (cs' := 5) (zs' := 142) (cnt' := 80) rfl rfl rfl ?_
  refine pm_dup hG dX7_init_37 rfl ?_
  refine pm_bipush (v := 20) hG dX7_init_38 (by decide) ?_
  refine pm_bipush (v := 14) hG dX7_init_40 (by decide) ?_
  refine pm_callI (As := [.int 20, .int 14]) (rest := [.ref (B + 79), .ref (B + 74)]) hG hR dX7_init_42 (lkX7_11 _ rfl) okI_X9_init (tb_init (d := 2) (N := 280) (by decide) rfl (by decide) (by decide) (by decide) (by decide) (by decide) (by decide) (by decide) (by decide)) rfl rfl hdd (by decide) (by decide) (by first | decide | exact Nat.le_of_ble_eq_true rfl) (pm_kv (fun σ' cnt' hq => ?_))
  obtain ⟨rfl, rfl⟩ := hq
  refine pm_nums (cs' := 6) (zs' := 422) (cnt' := 81) rfl rfl rfl ?_
  refine pm_putF hG dX7_init_45 (ffX7_23 _ rfl rfl) rfl rfl rfl ?_
  refine pm_aloadn hG dX7_init_48 rfl ?_
  refine pm_new hG hR dX7_init_49 (nwX7_9 _ rfl) (by decide) (by decide) ?_
  refine pm_nums (cs' := 7) (zs' := 426) (cnt' := 82) rfl rfl rfl ?_
  refine pm_dup hG dX7_init_52 rfl ?_
  refine pm_bipush (v := 20) hG dX7_init_53 (by decide) ?_
  refine pm_bipush (v := 6) hG dX7_init_55 (by decide) ?_
  refine pm_callI (As := [.int 20, .int 6]) (rest := [.ref (B + 81), .ref (B + 74)]) hG hR dX7_init_57 (lkX7_11 _ rfl) okI_X9_init (tb_init (d := 2) (N := 120) (by decide) rfl (by decide) (by decide) (by decide) (by decide) (by decide) (by decide) (by decide) (by decide)) rfl rfl hdd (by decide) (by decide) (by first | decide | exact Nat.le_of_ble_eq_true rfl) (pm_kv (fun σ' cnt' hq => ?_))
  obtain ⟨rfl, rfl⟩ := hq
  refine pm_nums (cs' := 8) (zs' := 546) (cnt' := 83) rfl rfl rfl ?_
  refine pm_putF hG dX7_init_60 (ffX7_26 _ rfl rfl) rfl rfl rfl ?_
  refine pm_aloadn hG dX7_init_63 rfl ?_
  refine pm_new hG hR dX7_init_64 (nwX7_9 _ rfl) (by decide) (by decide) ?_
  refine pm_nums (cs' := 9) (zs' := 550) (cnt' := 84) rfl rfl rfl ?_
  refine pm_dup hG dX7_init_67 rfl ?_
  refine pm_bipush (v := 12) hG dX7_init_68 (by decide) ?_
  refine pm_bipush (v := 6) hG dX7_init_70 (by decide) ?_
  refine pm_callI (As := [.int 12, .int 6]) (rest := [.ref (B + 83), .ref (B + 74)]) hG hR dX7_init_72 (lkX7_11 _ rfl) okI_X9_init (tb_init (d := 2) (N := 72) (by decide) rfl (by decide) (by decide) (by decide) (by decide) (by decide) (by decide) (by decide) (by decide)) rfl rfl hdd (by decide) (by decide) (by first | decide | exact Nat.le_of_ble_eq_true rfl) (pm_kv (fun σ' cnt' hq => ?_))
  obtain ⟨rfl, rfl⟩ := hq
  refine pm_nums (cs' := 10) (zs' := 622) (cnt' := 85) rfl rfl rfl ?_
  refine pm_putF hG dX7_init_75 (ffX7_29 _ rfl rfl) rfl rfl rfl ?_
  refine pm_aloadn hG dX7_init_78 rfl ?_
  refine pm_new hG hR dX7_init_79 (nwX7_9 _ rfl) (by decide) (by decide) ?_
  refine pm_nums (cs' := 11) (zs' := 626) (cnt' := 86) rfl rfl rfl ?_
  refine pm_dup hG dX7_init_82 rfl ?_
  refine pm_bipush (v := 12) hG dX7_init_83 (by decide) ?_
  refine pm_bipush (v := 60) hG dX7_init_85 (by decide) ?_
  refine pm_callI (As := [.int 12, .int 60]) (rest := [.ref (B + 85), .ref (B + 74)]) hG hR dX7_init_87 (lkX7_11 _ rfl) okI_X9_init (tb_init (d := 2) (N := 720) (by decide) rfl (by decide) (by decide) (by decide) (by decide) (by decide) (by decide) (by decide) (by decide)) rfl rfl hdd (by decide) (by decide) (by first | decide | exact Nat.le_of_ble_eq_true rfl) (pm_kv (fun σ' cnt' hq => ?_))
  obtain ⟨rfl, rfl⟩ := hq
  refine pm_nums (cs' := 12) (zs' := 1346) (cnt' := 87) rfl rfl rfl ?_
  refine pm_putF hG dX7_init_90 (ffX7_32 _ rfl rfl) rfl rfl rfl ?_
  refine pm_aloadn hG dX7_init_93 rfl ?_
  refine pm_new hG hR dX7_init_94 (nwX7_9 _ rfl) (by decide) (by decide) ?_
  refine pm_nums (cs' := 13) (zs' := 1350) (cnt' := 88) rfl rfl rfl ?_
  refine pm_dup hG dX7_init_97 rfl ?_
  refine pm_bipush (v := 40) hG dX7_init_98 (by decide) ?_
  refine pm_bipush (v := 12) hG dX7_init_100 (by decide) ?_
  refine pm_callI (As := [.int 40, .int 12]) (rest := [.ref (B + 87), .ref (B + 74)]) hG hR dX7_init_102 (lkX7_11 _ rfl) okI_X9_init (tb_init (d := 2) (N := 480) (by decide) rfl (by decide) (by decide) (by decide) (by decide) (by decide) (by decide) (by decide) (by decide)) rfl rfl hdd (by decide) (by decide) (by first | decide | exact Nat.le_of_ble_eq_true rfl) (pm_kv (fun σ' cnt' hq => ?_))
  obtain ⟨rfl, rfl⟩ := hq
  refine pm_nums (cs' := 14) (zs' := 1830) (cnt' := 89) rfl rfl rfl ?_
  refine pm_putF hG dX7_init_105 (ffX7_35 _ rfl rfl) rfl rfl rfl ?_
  refine pm_aloadn hG dX7_init_108 rfl ?_
  refine pm_new hG hR dX7_init_109 (nwX7_9 _ rfl) (by decide) (by decide) ?_
  refine pm_nums (cs' := 15) (zs' := 1834) (cnt' := 90) rfl rfl rfl ?_
  refine pm_dup hG dX7_init_112 rfl ?_
  refine pm_bipush (v := 6) hG dX7_init_113 (by decide) ?_
  refine pm_iconst (v := 5) hG dX7_init_115 (by decide) ?_
  refine pm_callI (As := [.int 6, .int 5]) (rest := [.ref (B + 89), .ref (B + 74)]) hG hR dX7_init_116 (lkX7_11 _ rfl) okI_X9_init (tb_init (d := 2) (N := 30) (by decide) rfl (by decide) (by decide) (by decide) (by decide) (by decide) (by decide) (by decide) (by decide)) rfl rfl hdd (by decide) (by decide) (by first | decide | exact Nat.le_of_ble_eq_true rfl) (pm_kv (fun σ' cnt' hq => ?_))
  obtain ⟨rfl, rfl⟩ := hq
  refine pm_nums (cs' := 16) (zs' := 1864) (cnt' := 91) rfl rfl rfl ?_
  refine pm_putF hG dX7_init_119 (ffX7_38 _ rfl rfl) rfl rfl rfl ?_
  refine pm_aloadn hG dX7_init_122 rfl ?_
  refine pm_new hG hR dX7_init_123 (nwX7_9 _ rfl) (by decide) (by decide) ?_
  refine pm_nums (cs' := 17) (zs' := 1868) (cnt' := 92) rfl rfl rfl ?_
  refine pm_dup hG dX7_init_126 rfl ?_
  refine pm_bipush (v := 30) hG dX7_init_127 (by decide) ?_
  refine pm_iconst (v := 5) hG dX7_init_129 (by decide) ?_
  refine pm_callI (As := [.int 30, .int 5]) (rest := [.ref (B + 91), .ref (B + 74)]) hG hR dX7_init_130 (lkX7_11 _ rfl) okI_X9_init (tb_init (d := 2) (N := 150) (by decide) rfl (by decide) (by decide) (by decide) (by decide) (by decide) (by decide) (by decide) (by decide)) rfl rfl hdd (by decide) (by decide) (by first | decide | exact Nat.le_of_ble_eq_true rfl) (pm_kv (fun σ' cnt' hq => ?_))
  obtain ⟨rfl, rfl⟩ := hq
  refine pm_nums (cs' := 18) (zs' := 2018) (cnt' := 93) rfl rfl rfl ?_
  refine pm_putF hG dX7_init_133 (ffX7_41 _ rfl rfl) rfl rfl rfl ?_
  refine pm_aloadn hG dX7_init_136 rfl ?_
  refine pm_new hG hR dX7_init_137 (nwX7_9 _ rfl) (by decide) (by decide) ?_
  refine pm_nums (cs' := 19) (zs' := 2022) (cnt' := 94) rfl rfl rfl ?_
  refine pm_dup hG dX7_init_140 rfl ?_
  refine pm_iconst (v := 5) hG dX7_init_141 (by decide) ?_
  refine pm_iconst (v := 1) hG dX7_init_142 (by decide) ?_
  refine pm_callI (As := [.int 5, .int 1]) (rest := [.ref (B + 93), .ref (B + 74)]) hG hR dX7_init_143 (lkX7_11 _ rfl) okI_X9_init (tb_init (d := 2) (N := 5) (by decide) rfl (by decide) (by decide) (by decide) (by decide) (by decide) (by decide) (by decide) (by decide)) rfl rfl hdd (by decide) (by decide) (by first | decide | exact Nat.le_of_ble_eq_true rfl) (pm_kv (fun σ' cnt' hq => ?_))
  obtain ⟨rfl, rfl⟩ := hq
  refine pm_nums (cs' := 20) (zs' := 2027) (cnt' := 95) rfl rfl rfl ?_
  refine pm_putF hG dX7_init_146 (ffX7_44 _ rfl rfl) rfl rfl rfl ?_
  refine pm_aloadn hG dX7_init_149 rfl ?_
  refine pm_new hG hR dX7_init_150 (nwX7_9 _ rfl) (by decide) (by decide) ?_
  refine pm_nums (cs' := 21) (zs' := 2031) (cnt' := 96) rfl rfl rfl ?_
  refine pm_dup hG dX7_init_153 rfl ?_
  refine pm_bipush (v := 20) hG dX7_init_154 (by decide) ?_
  refine pm_iconst (v := 1) hG dX7_init_156 (by decide) ?_
  refine pm_callI (As := [.int 20, .int 1]) (rest := [.ref (B + 95), .ref (B + 74)]) hG hR dX7_init_157 (lkX7_11 _ rfl) okI_X9_init (tb_init (d := 2) (N := 20) (by decide) rfl (by decide) (by decide) (by decide) (by decide) (by decide) (by decide) (by decide) (by decide)) rfl rfl hdd (by decide) (by decide) (by first | decide | exact Nat.le_of_ble_eq_true rfl) (pm_kv (fun σ' cnt' hq => ?_))
  obtain ⟨rfl, rfl⟩ := hq
  refine pm_nums (cs' := 22) (zs' := 2051) (cnt' := 97) rfl rfl rfl ?_
  refine pm_putF hG dX7_init_160 (ffX7_47 _ rfl rfl) rfl rfl rfl ?_
  refine pm_aloadn hG dX7_init_163 rfl ?_
  refine pm_new hG hR dX7_init_164 (nwX7_9 _ rfl) (by decide) (by decide) ?_
  refine pm_nums (cs' := 23) (zs' := 2055) (cnt' := 98) rfl rfl rfl ?_
  refine pm_dup hG dX7_init_167 rfl ?_
  refine pm_bipush (v := 60) hG dX7_init_168 (by decide) ?_
  refine pm_iconst (v := 1) hG dX7_init_170 (by decide) ?_
  refine pm_callI (As := [.int 60, .int 1]) (rest := [.ref (B + 97), .ref (B + 74)]) hG hR dX7_init_171 (lkX7_11 _ rfl) okI_X9_init (tb_init (d := 2) (N := 60) (by decide) rfl (by decide) (by decide) (by decide) (by decide) (by decide) (by decide) (by decide) (by decide)) rfl rfl hdd (by decide) (by decide) (by first | decide | exact Nat.le_of_ble_eq_true rfl) (pm_kv (fun σ' cnt' hq => ?_))
  obtain ⟨rfl, rfl⟩ := hq
  refine pm_nums (cs' := 24) (zs' := 2115) (cnt' := 99) rfl rfl rfl ?_
  refine pm_putF hG dX7_init_174 (ffX7_50 _ rfl rfl) rfl rfl rfl ?_
  refine pm_aloadn hG dX7_init_177 rfl ?_
  refine pm_sipush (v := 1000) hG dX7_init_178 (by decide) ?_
  refine pm_putf hG dX7_init_181 (fwX7_53 _ rfl) rfl rfl rfl ?_
  refine pm_aloadn hG dX7_init_184 rfl ?_
  refine pm_getf hG dX7_init_185 (flX7_20 _ rfl) rfl rfl ?_
  refine pm_sipush (v := 1000) hG dX7_init_188 (by decide) ?_
  refine pm_callV (As := [.int 1000]) (rest := []) hG hR dX7_init_191 (lkX7_57 _ rfl) okV_X9_fill rfl rfl (tb_fill (d := 2) (by decide) rfl rfl (by decide)) rfl rfl hdd (by decide) (by decide) (by decide) (pm_kv (fun σ' cnt' hq => ?_))
  obtain ⟨⟨g, rfl⟩, rfl⟩ := hq
  refine pm_iconst (v := 0) hG dX7_init_194 (by decide) ?_
  refine pm_istoreXn (loc' := [some (.ref (B + 74)), some (.int 0)]) hG dX7_init_195 (by decide) (pm_c1b rfl) rfl ?_
  refine pm_iloadn hG dX7_init_196 rfl ?_
  refine pm_bipush (v := 10) hG dX7_init_197 (by decide) ?_
  refine pm_icmp_ge (tgt := 218) hG dX7_init_199 rfl (fun q => absurd q (by decide)) (fun _ => ?_)
  refine pm_aloadn hG dX7_init_202 rfl ?_
  refine pm_getf hG dX7_init_203 (flX7_20 _ rfl) rfl rfl ?_
  refine pm_iloadn hG dX7_init_206 rfl ?_
  refine pm_iloadn hG dX7_init_207 rfl ?_
  refine pm_iconst (v := 0) hG dX7_init_208 (by decide) ?_
  refine pm_callV (As := [.int 0, .int 0, .int 0]) (rest := []) hG hR dX7_init_209 (lkX7_61 _ rfl) okV_X9_set rfl rfl (tb_set (d := 2) rfl rfl (pm_tw_of 10 10 (by decide) (by decide) (by decide)) (by decide)) rfl rfl hdd (by decide) (by decide) (by decide) (pm_kv (fun σ' cnt' hq => ?_))
  obtain ⟨rfl, rfl⟩ := hq
  refine pm_iincX (v := 1) (loc' := [some (.ref (B + 74)), some (.int 1)]) hG dX7_init_212 rfl (by rfl) (by decide) (pm_c1b rfl) rfl ?_
  refine pm_goto (tgt := 196) hG dX7_init_215 rfl ?_
  refine pm_iloadn hG dX7_init_196 rfl ?_
  refine pm_bipush (v := 10) hG dX7_init_197 (by decide) ?_
  refine pm_icmp_ge (tgt := 218) hG dX7_init_199 rfl (fun q => absurd q (by decide)) (fun _ => ?_)
  refine pm_aloadn hG dX7_init_202 rfl ?_
  refine pm_getf hG dX7_init_203 (flX7_20 _ rfl) rfl rfl ?_
  refine pm_iloadn hG dX7_init_206 rfl ?_
  refine pm_iloadn hG dX7_init_207 rfl ?_
  refine pm_iconst (v := 0) hG dX7_init_208 (by decide) ?_
  refine pm_callV (As := [.int 1, .int 1, .int 0]) (rest := []) hG hR dX7_init_209 (lkX7_61 _ rfl) okV_X9_set rfl rfl (tb_set (d := 2) rfl rfl (pm_tw_of 10 10 (by decide) (by decide) (by decide)) (by decide)) rfl rfl hdd (by decide) (by decide) (by decide) (pm_kv (fun σ' cnt' hq => ?_))
  obtain ⟨rfl, rfl⟩ := hq
  refine pm_iincX (v := 2) (loc' := [some (.ref (B + 74)), some (.int 2)]) hG dX7_init_212 rfl (by rfl) (by decide) (pm_c1b rfl) rfl ?_
  refine pm_goto (tgt := 196) hG dX7_init_215 rfl ?_
  refine pm_iloadn hG dX7_init_196 rfl ?_
  refine pm_bipush (v := 10) hG dX7_init_197 (by decide) ?_
  refine pm_icmp_ge (tgt := 218) hG dX7_init_199 rfl (fun q => absurd q (by decide)) (fun _ => ?_)
  refine pm_aloadn hG dX7_init_202 rfl ?_
  refine pm_getf hG dX7_init_203 (flX7_20 _ rfl) rfl rfl ?_
  refine pm_iloadn hG dX7_init_206 rfl ?_
  refine pm_iloadn hG dX7_init_207 rfl ?_
  refine pm_iconst (v := 0) hG dX7_init_208 (by decide) ?_
  refine pm_callV (As := [.int 2, .int 2, .int 0]) (rest := []) hG hR dX7_init_209 (lkX7_61 _ rfl) okV_X9_set rfl rfl (tb_set (d := 2) rfl rfl (pm_tw_of 10 10 (by decide) (by decide) (by decide)) (by decide)) rfl rfl hdd (by decide) (by decide) (by decide) (pm_kv (fun σ' cnt' hq => ?_))
  obtain ⟨rfl, rfl⟩ := hq
  refine pm_iincX (v := 3) (loc' := [some (.ref (B + 74)), some (.int 3)]) hG dX7_init_212 rfl (by rfl) (by decide) (pm_c1b rfl) rfl ?_
  refine pm_goto (tgt := 196) hG dX7_init_215 rfl ?_
  refine pm_iloadn hG dX7_init_196 rfl ?_
  refine pm_bipush (v := 10) hG dX7_init_197 (by decide) ?_
  refine pm_icmp_ge (tgt := 218) hG dX7_init_199 rfl (fun q => absurd q (by decide)) (fun _ => ?_)
  refine pm_aloadn hG dX7_init_202 rfl ?_
  refine pm_getf hG dX7_init_203 (flX7_20 _ rfl) rfl rfl ?_
  refine pm_iloadn hG dX7_init_206 rfl ?_
  refine pm_iloadn hG dX7_init_207 rfl ?_
  refine pm_iconst (v := 0) hG dX7_init_208 (by decide) ?_
  refine pm_callV (As := [.int 3, .int 3, .int 0]) (rest := []) hG hR dX7_init_209 (lkX7_61 _ rfl) okV_X9_set rfl rfl (tb_set (d := 2) rfl rfl (pm_tw_of 10 10 (by decide) (by decide) (by decide)) (by decide)) rfl rfl hdd (by decide) (by decide) (by decide) (pm_kv (fun σ' cnt' hq => ?_))
  obtain ⟨rfl, rfl⟩ := hq
  refine pm_iincX (v := 4) (loc' := [some (.ref (B + 74)), some (.int 4)]) hG dX7_init_212 rfl (by rfl) (by decide) (pm_c1b rfl) rfl ?_
  refine pm_goto (tgt := 196) hG dX7_init_215 rfl ?_
  refine pm_iloadn hG dX7_init_196 rfl ?_
  refine pm_bipush (v := 10) hG dX7_init_197 (by decide) ?_
  refine pm_icmp_ge (tgt := 218) hG dX7_init_199 rfl (fun q => absurd q (by decide)) (fun _ => ?_)
  refine pm_aloadn hG dX7_init_202 rfl ?_
  refine pm_getf hG dX7_init_203 (flX7_20 _ rfl) rfl rfl ?_
  refine pm_iloadn hG dX7_init_206 rfl ?_
  refine pm_iloadn hG dX7_init_207 rfl ?_
  refine pm_iconst (v := 0) hG dX7_init_208 (by decide) ?_
  refine pm_callV (As := [.int 4, .int 4, .int 0]) (rest := []) hG hR dX7_init_209 (lkX7_61 _ rfl) okV_X9_set rfl rfl (tb_set (d := 2) rfl rfl (pm_tw_of 10 10 (by decide) (by decide) (by decide)) (by decide)) rfl rfl hdd (by decide) (by decide) (by decide) (pm_kv (fun σ' cnt' hq => ?_))
  obtain ⟨rfl, rfl⟩ := hq
  refine pm_iincX (v := 5) (loc' := [some (.ref (B + 74)), some (.int 5)]) hG dX7_init_212 rfl (by rfl) (by decide) (pm_c1b rfl) rfl ?_
  refine pm_goto (tgt := 196) hG dX7_init_215 rfl ?_
  refine pm_iloadn hG dX7_init_196 rfl ?_
  refine pm_bipush (v := 10) hG dX7_init_197 (by decide) ?_
  refine pm_icmp_ge (tgt := 218) hG dX7_init_199 rfl (fun q => absurd q (by decide)) (fun _ => ?_)
  refine pm_aloadn hG dX7_init_202 rfl ?_
  refine pm_getf hG dX7_init_203 (flX7_20 _ rfl) rfl rfl ?_
  refine pm_iloadn hG dX7_init_206 rfl ?_
  refine pm_iloadn hG dX7_init_207 rfl ?_
  refine pm_iconst (v := 0) hG dX7_init_208 (by decide) ?_
  refine pm_callV (As := [.int 5, .int 5, .int 0]) (rest := []) hG hR dX7_init_209 (lkX7_61 _ rfl) okV_X9_set rfl rfl (tb_set (d := 2) rfl rfl (pm_tw_of 10 10 (by decide) (by decide) (by decide)) (by decide)) rfl rfl hdd (by decide) (by decide) (by decide) (pm_kv (fun σ' cnt' hq => ?_))
  obtain ⟨rfl, rfl⟩ := hq
  refine pm_iincX (v := 6) (loc' := [some (.ref (B + 74)), some (.int 6)]) hG dX7_init_212 rfl (by rfl) (by decide) (pm_c1b rfl) rfl ?_
  refine pm_goto (tgt := 196) hG dX7_init_215 rfl ?_
  refine pm_iloadn hG dX7_init_196 rfl ?_
  refine pm_bipush (v := 10) hG dX7_init_197 (by decide) ?_
  refine pm_icmp_ge (tgt := 218) hG dX7_init_199 rfl (fun q => absurd q (by decide)) (fun _ => ?_)
  refine pm_aloadn hG dX7_init_202 rfl ?_
  refine pm_getf hG dX7_init_203 (flX7_20 _ rfl) rfl rfl ?_
  refine pm_iloadn hG dX7_init_206 rfl ?_
  refine pm_iloadn hG dX7_init_207 rfl ?_
  refine pm_iconst (v := 0) hG dX7_init_208 (by decide) ?_
  refine pm_callV (As := [.int 6, .int 6, .int 0]) (rest := []) hG hR dX7_init_209 (lkX7_61 _ rfl) okV_X9_set rfl rfl (tb_set (d := 2) rfl rfl (pm_tw_of 10 10 (by decide) (by decide) (by decide)) (by decide)) rfl rfl hdd (by decide) (by decide) (by decide) (pm_kv (fun σ' cnt' hq => ?_))
  obtain ⟨rfl, rfl⟩ := hq
  refine pm_iincX (v := 7) (loc' := [some (.ref (B + 74)), some (.int 7)]) hG dX7_init_212 rfl (by rfl) (by decide) (pm_c1b rfl) rfl ?_
  refine pm_goto (tgt := 196) hG dX7_init_215 rfl ?_
  refine pm_iloadn hG dX7_init_196 rfl ?_
  refine pm_bipush (v := 10) hG dX7_init_197 (by decide) ?_
  refine pm_icmp_ge (tgt := 218) hG dX7_init_199 rfl (fun q => absurd q (by decide)) (fun _ => ?_)
  refine pm_aloadn hG dX7_init_202 rfl ?_
  refine pm_getf hG dX7_init_203 (flX7_20 _ rfl) rfl rfl ?_
  refine pm_iloadn hG dX7_init_206 rfl ?_
  refine pm_iloadn hG dX7_init_207 rfl ?_
  refine pm_iconst (v := 0) hG dX7_init_208 (by decide) ?_
  refine pm_callV (As := [.int 7, .int 7, .int 0]) (rest := []) hG hR dX7_init_209 (lkX7_61 _ rfl) okV_X9_set rfl rfl (tb_set (d := 2) rfl rfl (pm_tw_of 10 10 (by decide) (by decide) (by decide)) (by decide)) rfl rfl hdd (by decide) (by decide) (by decide) (pm_kv (fun σ' cnt' hq => ?_))
  obtain ⟨rfl, rfl⟩ := hq
  refine pm_iincX (v := 8) (loc' := [some (.ref (B + 74)), some (.int 8)]) hG dX7_init_212 rfl (by rfl) (by decide) (pm_c1b rfl) rfl ?_
  refine pm_goto (tgt := 196) hG dX7_init_215 rfl ?_
  refine pm_iloadn hG dX7_init_196 rfl ?_
  refine pm_bipush (v := 10) hG dX7_init_197 (by decide) ?_
  refine pm_icmp_ge (tgt := 218) hG dX7_init_199 rfl (fun q => absurd q (by decide)) (fun _ => ?_)
  refine pm_aloadn hG dX7_init_202 rfl ?_
  refine pm_getf hG dX7_init_203 (flX7_20 _ rfl) rfl rfl ?_
  refine pm_iloadn hG dX7_init_206 rfl ?_
  refine pm_iloadn hG dX7_init_207 rfl ?_
  refine pm_iconst (v := 0) hG dX7_init_208 (by decide) ?_
  refine pm_callV (As := [.int 8, .int 8, .int 0]) (rest := []) hG hR dX7_init_209 (lkX7_61 _ rfl) okV_X9_set rfl rfl (tb_set (d := 2) rfl rfl (pm_tw_of 10 10 (by decide) (by decide) (by decide)) (by decide)) rfl rfl hdd (by decide) (by decide) (by decide) (pm_kv (fun σ' cnt' hq => ?_))
  obtain ⟨rfl, rfl⟩ := hq
  refine pm_iincX (v := 9) (loc' := [some (.ref (B + 74)), some (.int 9)]) hG dX7_init_212 rfl (by rfl) (by decide) (pm_c1b rfl) rfl ?_
  refine pm_goto (tgt := 196) hG dX7_init_215 rfl ?_
  refine pm_iloadn hG dX7_init_196 rfl ?_
  refine pm_bipush (v := 10) hG dX7_init_197 (by decide) ?_
  refine pm_icmp_ge (tgt := 218) hG dX7_init_199 rfl (fun q => absurd q (by decide)) (fun _ => ?_)
  refine pm_aloadn hG dX7_init_202 rfl ?_
  refine pm_getf hG dX7_init_203 (flX7_20 _ rfl) rfl rfl ?_
  refine pm_iloadn hG dX7_init_206 rfl ?_
  refine pm_iloadn hG dX7_init_207 rfl ?_
  refine pm_iconst (v := 0) hG dX7_init_208 (by decide) ?_
  refine pm_callV (As := [.int 9, .int 9, .int 0]) (rest := []) hG hR dX7_init_209 (lkX7_61 _ rfl) okV_X9_set rfl rfl (tb_set (d := 2) rfl rfl (pm_tw_of 10 10 (by decide) (by decide) (by decide)) (by decide)) rfl rfl hdd (by decide) (by decide) (by decide) (pm_kv (fun σ' cnt' hq => ?_))
  obtain ⟨rfl, rfl⟩ := hq
  refine pm_iincX (v := 10) (loc' := [some (.ref (B + 74)), some (.int 10)]) hG dX7_init_212 rfl (by rfl) (by decide) (pm_c1b rfl) rfl ?_
  refine pm_goto (tgt := 196) hG dX7_init_215 rfl ?_
  refine pm_iloadn hG dX7_init_196 rfl ?_
  refine pm_bipush (v := 10) hG dX7_init_197 (by decide) ?_
  refine pm_icmp_ge (tgt := 218) hG dX7_init_199 rfl (fun _ => ?_) (fun q => absurd q (by decide))
  exact pm_vret hG hF dX7_init_218 rfl (by decide) (by decide) ⟨rfl, ⟨_, (pm_lies_cons rfl (pm_lies_cons rfl (pm_lies_cons rfl (pm_lies_cons rfl (pm_lies_cons rfl (pm_lies_cons rfl (pm_lies_cons rfl (pm_lies_cons rfl (pm_lies_cons rfl (pm_lies_cons rfl (pm_lies_cons rfl (pm_lies_cons rfl (pm_lies_cons rfl (pm_lies_cons rfl (pm_lies_cons rfl (pm_lies_cons rfl (pm_lies_cons rfl (pm_lies_cons rfl (pm_lies_cons rfl (pm_lies_cons rfl (pm_lies_cons rfl (pm_lies_cons rfl (pm_lies_cons rfl (pm_lies_cons rfl (pm_lies_cons rfl pm_lies_nil)))))))))))))))))))))))))⟩, (by repeat (first | exact pm_old.rf | refine pm_old.up (by decide) ?_ | refine pm_old.cat (by decide) ?_)), rfl⟩
