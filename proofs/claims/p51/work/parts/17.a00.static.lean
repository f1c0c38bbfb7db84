def dt_J6_bitCount_0f7a4_0 : List (Nat × (Instr × Nat)) := [(0, (.iload_n 0, 1)), (1, (.iload_n 0, 1)), (2, (.iconst 1, 1)), (3, (.iushr, 1)), (4, (.ldc_w 265, 3)), (7, (.iand, 1)), (8, (.isub, 1)), (9, (.istore_n 0, 1)), (10, (.iload_n 0, 1)), (11, (.ldc_w 266, 3)), (14, (.iand, 1)), (15, (.iload_n 0, 1)), (16, (.iconst 2, 1)), (17, (.iushr, 1)), (18, (.ldc_w 266, 3)), (21, (.iand, 1)), (22, (.iadd, 1)), (23, (.istore_n 0, 1)), (24, (.iload_n 0, 1)), (25, (.iload_n 0, 1)), (26, (.iconst 4, 1)), (27, (.iushr, 1)), (28, (.iadd, 1)), (29, (.ldc_w 267, 3)), (32, (.iand, 1)), (33, (.istore_n 0, 1)), (34, (.iload_n 0, 1)), (35, (.iload_n 0, 1)), (36, (.bipush 8, 2)), (38, (.iushr, 1)), (39, (.iadd, 1)), (40, (.istore_n 0, 1))]
theorem dk_J6_bitCount_0f7a4_0 : pm_dc mJ6_bitCount_0f7a4.2.1 dt_J6_bitCount_0f7a4_0 = true := by decide +kernel
theorem dJ6_bitCount_0f7a4_0 : pm_dec mJ6_bitCount_0f7a4 0 (.iload_n 0, 1) 1 := ⟨pm_dcA dk_J6_bitCount_0f7a4_0 0 rfl, rfl⟩
theorem dJ6_bitCount_0f7a4_1 : pm_dec mJ6_bitCount_0f7a4 1 (.iload_n 0, 1) 2 := ⟨pm_dcA dk_J6_bitCount_0f7a4_0 1 rfl, rfl⟩
theorem dJ6_bitCount_0f7a4_2 : pm_dec mJ6_bitCount_0f7a4 2 (.iconst 1, 1) 3 := ⟨pm_dcA dk_J6_bitCount_0f7a4_0 2 rfl, rfl⟩
theorem dJ6_bitCount_0f7a4_3 : pm_dec mJ6_bitCount_0f7a4 3 (.iushr, 1) 4 := ⟨pm_dcA dk_J6_bitCount_0f7a4_0 3 rfl, rfl⟩
theorem dJ6_bitCount_0f7a4_4 : pm_dec mJ6_bitCount_0f7a4 4 (.ldc_w 265, 3) 7 := ⟨pm_dcA dk_J6_bitCount_0f7a4_0 4 rfl, rfl⟩
theorem dJ6_bitCount_0f7a4_7 : pm_dec mJ6_bitCount_0f7a4 7 (.iand, 1) 8 := ⟨pm_dcA dk_J6_bitCount_0f7a4_0 5 rfl, rfl⟩
theorem dJ6_bitCount_0f7a4_8 : pm_dec mJ6_bitCount_0f7a4 8 (.isub, 1) 9 := ⟨pm_dcA dk_J6_bitCount_0f7a4_0 6 rfl, rfl⟩
theorem dJ6_bitCount_0f7a4_9 : pm_dec mJ6_bitCount_0f7a4 9 (.istore_n 0, 1) 10 := ⟨pm_dcA dk_J6_bitCount_0f7a4_0 7 rfl, rfl⟩
theorem dJ6_bitCount_0f7a4_10 : pm_dec mJ6_bitCount_0f7a4 10 (.iload_n 0, 1) 11 := ⟨pm_dcA dk_J6_bitCount_0f7a4_0 8 rfl, rfl⟩
theorem dJ6_bitCount_0f7a4_11 : pm_dec mJ6_bitCount_0f7a4 11 (.ldc_w 266, 3) 14 := ⟨pm_dcA dk_J6_bitCount_0f7a4_0 9 rfl, rfl⟩
theorem dJ6_bitCount_0f7a4_14 : pm_dec mJ6_bitCount_0f7a4 14 (.iand, 1) 15 := ⟨pm_dcA dk_J6_bitCount_0f7a4_0 10 rfl, rfl⟩
theorem dJ6_bitCount_0f7a4_15 : pm_dec mJ6_bitCount_0f7a4 15 (.iload_n 0, 1) 16 := ⟨pm_dcA dk_J6_bitCount_0f7a4_0 11 rfl, rfl⟩
theorem dJ6_bitCount_0f7a4_16 : pm_dec mJ6_bitCount_0f7a4 16 (.iconst 2, 1) 17 := ⟨pm_dcA dk_J6_bitCount_0f7a4_0 12 rfl, rfl⟩
theorem dJ6_bitCount_0f7a4_17 : pm_dec mJ6_bitCount_0f7a4 17 (.iushr, 1) 18 := ⟨pm_dcA dk_J6_bitCount_0f7a4_0 13 rfl, rfl⟩
theorem dJ6_bitCount_0f7a4_18 : pm_dec mJ6_bitCount_0f7a4 18 (.ldc_w 266, 3) 21 := ⟨pm_dcA dk_J6_bitCount_0f7a4_0 14 rfl, rfl⟩
theorem dJ6_bitCount_0f7a4_21 : pm_dec mJ6_bitCount_0f7a4 21 (.iand, 1) 22 := ⟨pm_dcA dk_J6_bitCount_0f7a4_0 15 rfl, rfl⟩
theorem dJ6_bitCount_0f7a4_22 : pm_dec mJ6_bitCount_0f7a4 22 (.iadd, 1) 23 := ⟨pm_dcA dk_J6_bitCount_0f7a4_0 16 rfl, rfl⟩
theorem dJ6_bitCount_0f7a4_23 : pm_dec mJ6_bitCount_0f7a4 23 (.istore_n 0, 1) 24 := ⟨pm_dcA dk_J6_bitCount_0f7a4_0 17 rfl, rfl⟩
theorem dJ6_bitCount_0f7a4_24 : pm_dec mJ6_bitCount_0f7a4 24 (.iload_n 0, 1) 25 := ⟨pm_dcA dk_J6_bitCount_0f7a4_0 18 rfl, rfl⟩
theorem dJ6_bitCount_0f7a4_25 : pm_dec mJ6_bitCount_0f7a4 25 (.iload_n 0, 1) 26 := ⟨pm_dcA dk_J6_bitCount_0f7a4_0 19 rfl, rfl⟩
theorem dJ6_bitCount_0f7a4_26 : pm_dec mJ6_bitCount_0f7a4 26 (.iconst 4, 1) 27 := ⟨pm_dcA dk_J6_bitCount_0f7a4_0 20 rfl, rfl⟩
theorem dJ6_bitCount_0f7a4_27 : pm_dec mJ6_bitCount_0f7a4 27 (.iushr, 1) 28 := ⟨pm_dcA dk_J6_bitCount_0f7a4_0 21 rfl, rfl⟩
theorem dJ6_bitCount_0f7a4_28 : pm_dec mJ6_bitCount_0f7a4 28 (.iadd, 1) 29 := ⟨pm_dcA dk_J6_bitCount_0f7a4_0 22 rfl, rfl⟩
theorem dJ6_bitCount_0f7a4_29 : pm_dec mJ6_bitCount_0f7a4 29 (.ldc_w 267, 3) 32 := ⟨pm_dcA dk_J6_bitCount_0f7a4_0 23 rfl, rfl⟩
theorem dJ6_bitCount_0f7a4_32 : pm_dec mJ6_bitCount_0f7a4 32 (.iand, 1) 33 := ⟨pm_dcA dk_J6_bitCount_0f7a4_0 24 rfl, rfl⟩
theorem dJ6_bitCount_0f7a4_33 : pm_dec mJ6_bitCount_0f7a4 33 (.istore_n 0, 1) 34 := ⟨pm_dcA dk_J6_bitCount_0f7a4_0 25 rfl, rfl⟩
theorem dJ6_bitCount_0f7a4_34 : pm_dec mJ6_bitCount_0f7a4 34 (.iload_n 0, 1) 35 := ⟨pm_dcA dk_J6_bitCount_0f7a4_0 26 rfl, rfl⟩
theorem dJ6_bitCount_0f7a4_35 : pm_dec mJ6_bitCount_0f7a4 35 (.iload_n 0, 1) 36 := ⟨pm_dcA dk_J6_bitCount_0f7a4_0 27 rfl, rfl⟩
theorem dJ6_bitCount_0f7a4_36 : pm_dec mJ6_bitCount_0f7a4 36 (.bipush 8, 2) 38 := ⟨pm_dcA dk_J6_bitCount_0f7a4_0 28 rfl, rfl⟩
theorem dJ6_bitCount_0f7a4_38 : pm_dec mJ6_bitCount_0f7a4 38 (.iushr, 1) 39 := ⟨pm_dcA dk_J6_bitCount_0f7a4_0 29 rfl, rfl⟩
theorem dJ6_bitCount_0f7a4_39 : pm_dec mJ6_bitCount_0f7a4 39 (.iadd, 1) 40 := ⟨pm_dcA dk_J6_bitCount_0f7a4_0 30 rfl, rfl⟩
theorem dJ6_bitCount_0f7a4_40 : pm_dec mJ6_bitCount_0f7a4 40 (.istore_n 0, 1) 41 := ⟨pm_dcA dk_J6_bitCount_0f7a4_0 31 rfl, rfl⟩
def dt_J6_bitCount_0f7a4_41 : List (Nat × (Instr × Nat)) := [(41, (.iload_n 0, 1)), (42, (.iload_n 0, 1)), (43, (.bipush 16, 2)), (45, (.iushr, 1)), (46, (.iadd, 1)), (47, (.istore_n 0, 1)), (48, (.iload_n 0, 1)), (49, (.bipush 63, 2)), (51, (.iand, 1)), (52, (.ireturn, 1))]
theorem dk_J6_bitCount_0f7a4_41 : pm_dc mJ6_bitCount_0f7a4.2.1 dt_J6_bitCount_0f7a4_41 = true := by decide +kernel
theorem dJ6_bitCount_0f7a4_41 : pm_dec mJ6_bitCount_0f7a4 41 (.iload_n 0, 1) 42 := ⟨pm_dcA dk_J6_bitCount_0f7a4_41 0 rfl, rfl⟩
theorem dJ6_bitCount_0f7a4_42 : pm_dec mJ6_bitCount_0f7a4 42 (.iload_n 0, 1) 43 := ⟨pm_dcA dk_J6_bitCount_0f7a4_41 1 rfl, rfl⟩
theorem dJ6_bitCount_0f7a4_43 : pm_dec mJ6_bitCount_0f7a4 43 (.bipush 16, 2) 45 := ⟨pm_dcA dk_J6_bitCount_0f7a4_41 2 rfl, rfl⟩
theorem dJ6_bitCount_0f7a4_45 : pm_dec mJ6_bitCount_0f7a4 45 (.iushr, 1) 46 := ⟨pm_dcA dk_J6_bitCount_0f7a4_41 3 rfl, rfl⟩
theorem dJ6_bitCount_0f7a4_46 : pm_dec mJ6_bitCount_0f7a4 46 (.iadd, 1) 47 := ⟨pm_dcA dk_J6_bitCount_0f7a4_41 4 rfl, rfl⟩
theorem dJ6_bitCount_0f7a4_47 : pm_dec mJ6_bitCount_0f7a4 47 (.istore_n 0, 1) 48 := ⟨pm_dcA dk_J6_bitCount_0f7a4_41 5 rfl, rfl⟩
theorem dJ6_bitCount_0f7a4_48 : pm_dec mJ6_bitCount_0f7a4 48 (.iload_n 0, 1) 49 := ⟨pm_dcA dk_J6_bitCount_0f7a4_41 6 rfl, rfl⟩
theorem dJ6_bitCount_0f7a4_49 : pm_dec mJ6_bitCount_0f7a4 49 (.bipush 63, 2) 51 := ⟨pm_dcA dk_J6_bitCount_0f7a4_41 7 rfl, rfl⟩
theorem dJ6_bitCount_0f7a4_51 : pm_dec mJ6_bitCount_0f7a4 51 (.iand, 1) 52 := ⟨pm_dcA dk_J6_bitCount_0f7a4_41 8 rfl, rfl⟩
theorem dJ6_bitCount_0f7a4_52 : pm_dec mJ6_bitCount_0f7a4 52 (.ireturn, 1) 53 := ⟨pm_dcA dk_J6_bitCount_0f7a4_41 9 rfl, rfl⟩
def dt_X0_addPromise_0 : List (Nat × (Instr × Nat)) := [(0, (.aload_n 0, 1)), (1, (.getfield 25, 3)), (4, (.invokevirtual 47, 3)), (7, (.istore 5, 2)), (9, (.iconst 0, 1)), (10, (.istore 6, 2)), (12, (.iload 6, 2)), (14, (.iload 5, 2)), (16, (.if_icmp .ge 57, 3)), (19, (.aload_n 0, 1)), (20, (.iload 6, 2)), (22, (.invokevirtual 51, 3)), (25, (.ifCond .eq 42, 3)), (28, (.aload_n 0, 1)), (29, (.getfield 25, 3)), (32, (.iload 6, 2)), (34, (.iconst 0, 1)), (35, (.invokevirtual 39, 3)), (38, (.iload_n 1, 1)), (39, (.if_icmp .ne 28, 3)), (42, (.aload_n 0, 1)), (43, (.getfield 25, 3)), (46, (.iload 6, 2)), (48, (.iconst 1, 1)), (49, (.invokevirtual 39, 3)), (52, (.iload_n 2, 1)), (53, (.if_icmp .ne 14, 3)), (56, (.aload_n 0, 1)), (57, (.getfield 25, 3)), (60, (.iload 6, 2)), (62, (.iconst 4, 1)), (63, (.iconst 1, 1))]
theorem dk_X0_addPromise_0 : pm_dc mX0_addPromise.2.1 dt_X0_addPromise_0 = true := by decide +kernel
theorem dX0_addPromise_0 : pm_dec mX0_addPromise 0 (.aload_n 0, 1) 1 := ⟨pm_dcA dk_X0_addPromise_0 0 rfl, rfl⟩
theorem dX0_addPromise_1 : pm_dec mX0_addPromise 1 (.getfield 25, 3) 4 := ⟨pm_dcA dk_X0_addPromise_0 1 rfl, rfl⟩
theorem dX0_addPromise_4 : pm_dec mX0_addPromise 4 (.invokevirtual 47, 3) 7 := ⟨pm_dcA dk_X0_addPromise_0 2 rfl, rfl⟩
theorem dX0_addPromise_7 : pm_dec mX0_addPromise 7 (.istore 5, 2) 9 := ⟨pm_dcA dk_X0_addPromise_0 3 rfl, rfl⟩
theorem dX0_addPromise_9 : pm_dec mX0_addPromise 9 (.iconst 0, 1) 10 := ⟨pm_dcA dk_X0_addPromise_0 4 rfl, rfl⟩
theorem dX0_addPromise_10 : pm_dec mX0_addPromise 10 (.istore 6, 2) 12 := ⟨pm_dcA dk_X0_addPromise_0 5 rfl, rfl⟩
theorem dX0_addPromise_12 : pm_dec mX0_addPromise 12 (.iload 6, 2) 14 := ⟨pm_dcA dk_X0_addPromise_0 6 rfl, rfl⟩
theorem dX0_addPromise_14 : pm_dec mX0_addPromise 14 (.iload 5, 2) 16 := ⟨pm_dcA dk_X0_addPromise_0 7 rfl, rfl⟩
theorem dX0_addPromise_16 : pm_dec mX0_addPromise 16 (.if_icmp .ge 57, 3) 19 := ⟨pm_dcA dk_X0_addPromise_0 8 rfl, rfl⟩
theorem dX0_addPromise_19 : pm_dec mX0_addPromise 19 (.aload_n 0, 1) 20 := ⟨pm_dcA dk_X0_addPromise_0 9 rfl, rfl⟩
theorem dX0_addPromise_20 : pm_dec mX0_addPromise 20 (.iload 6, 2) 22 := ⟨pm_dcA dk_X0_addPromise_0 10 rfl, rfl⟩
theorem dX0_addPromise_22 : pm_dec mX0_addPromise 22 (.invokevirtual 51, 3) 25 := ⟨pm_dcA dk_X0_addPromise_0 11 rfl, rfl⟩
theorem dX0_addPromise_25 : pm_dec mX0_addPromise 25 (.ifCond .eq 42, 3) 28 := ⟨pm_dcA dk_X0_addPromise_0 12 rfl, rfl⟩
theorem dX0_addPromise_28 : pm_dec mX0_addPromise 28 (.aload_n 0, 1) 29 := ⟨pm_dcA dk_X0_addPromise_0 13 rfl, rfl⟩
theorem dX0_addPromise_29 : pm_dec mX0_addPromise 29 (.getfield 25, 3) 32 := ⟨pm_dcA dk_X0_addPromise_0 14 rfl, rfl⟩
theorem dX0_addPromise_32 : pm_dec mX0_addPromise 32 (.iload 6, 2) 34 := ⟨pm_dcA dk_X0_addPromise_0 15 rfl, rfl⟩
theorem dX0_addPromise_34 : pm_dec mX0_addPromise 34 (.iconst 0, 1) 35 := ⟨pm_dcA dk_X0_addPromise_0 16 rfl, rfl⟩
theorem dX0_addPromise_35 : pm_dec mX0_addPromise 35 (.invokevirtual 39, 3) 38 := ⟨pm_dcA dk_X0_addPromise_0 17 rfl, rfl⟩
theorem dX0_addPromise_38 : pm_dec mX0_addPromise 38 (.iload_n 1, 1) 39 := ⟨pm_dcA dk_X0_addPromise_0 18 rfl, rfl⟩
theorem dX0_addPromise_39 : pm_dec mX0_addPromise 39 (.if_icmp .ne 28, 3) 42 := ⟨pm_dcA dk_X0_addPromise_0 19 rfl, rfl⟩
theorem dX0_addPromise_42 : pm_dec mX0_addPromise 42 (.aload_n 0, 1) 43 := ⟨pm_dcA dk_X0_addPromise_0 20 rfl, rfl⟩
theorem dX0_addPromise_43 : pm_dec mX0_addPromise 43 (.getfield 25, 3) 46 := ⟨pm_dcA dk_X0_addPromise_0 21 rfl, rfl⟩
theorem dX0_addPromise_46 : pm_dec mX0_addPromise 46 (.iload 6, 2) 48 := ⟨pm_dcA dk_X0_addPromise_0 22 rfl, rfl⟩
theorem dX0_addPromise_48 : pm_dec mX0_addPromise 48 (.iconst 1, 1) 49 := ⟨pm_dcA dk_X0_addPromise_0 23 rfl, rfl⟩
theorem dX0_addPromise_49 : pm_dec mX0_addPromise 49 (.invokevirtual 39, 3) 52 := ⟨pm_dcA dk_X0_addPromise_0 24 rfl, rfl⟩
theorem dX0_addPromise_52 : pm_dec mX0_addPromise 52 (.iload_n 2, 1) 53 := ⟨pm_dcA dk_X0_addPromise_0 25 rfl, rfl⟩
theorem dX0_addPromise_53 : pm_dec mX0_addPromise 53 (.if_icmp .ne 14, 3) 56 := ⟨pm_dcA dk_X0_addPromise_0 26 rfl, rfl⟩
theorem dX0_addPromise_56 : pm_dec mX0_addPromise 56 (.aload_n 0, 1) 57 := ⟨pm_dcA dk_X0_addPromise_0 27 rfl, rfl⟩
theorem dX0_addPromise_57 : pm_dec mX0_addPromise 57 (.getfield 25, 3) 60 := ⟨pm_dcA dk_X0_addPromise_0 28 rfl, rfl⟩
theorem dX0_addPromise_60 : pm_dec mX0_addPromise 60 (.iload 6, 2) 62 := ⟨pm_dcA dk_X0_addPromise_0 29 rfl, rfl⟩
theorem dX0_addPromise_62 : pm_dec mX0_addPromise 62 (.iconst 4, 1) 63 := ⟨pm_dcA dk_X0_addPromise_0 30 rfl, rfl⟩
theorem dX0_addPromise_63 : pm_dec mX0_addPromise 63 (.iconst 1, 1) 64 := ⟨pm_dcA dk_X0_addPromise_0 31 rfl, rfl⟩
def dt_X0_addPromise_64 : List (Nat × (Instr × Nat)) := [(64, (.invokevirtual 55, 3)), (67, (.iinc 6 1, 3)), (70, (.goto (-58), 3)), (73, (.aload_n 0, 1)), (74, (.getfield 25, 3)), (77, (.iload_n 1, 1)), (78, (.invokevirtual 59, 3)), (81, (.istore 6, 2)), (83, (.aload_n 0, 1)), (84, (.getfield 25, 3)), (87, (.iload 6, 2)), (89, (.iconst 1, 1)), (90, (.iload_n 2, 1)), (91, (.invokevirtual 55, 3)), (94, (.aload_n 0, 1)), (95, (.getfield 25, 3)), (98, (.iload 6, 2)), (100, (.iconst 2, 1)), (101, (.iload_n 3, 1)), (102, (.invokevirtual 55, 3)), (105, (.aload_n 0, 1)), (106, (.getfield 25, 3)), (109, (.iload 6, 2)), (111, (.iconst 3, 1)), (112, (.iload 4, 2)), (114, (.ifCond .eq 7, 3)), (117, (.iconst 1, 1)), (118, (.goto 4, 3)), (121, (.iconst 0, 1)), (122, (.invokevirtual 55, 3)), (125, (.aload_n 0, 1)), (126, (.getfield 25, 3))]
theorem dk_X0_addPromise_64 : pm_dc mX0_addPromise.2.1 dt_X0_addPromise_64 = true := by decide +kernel
theorem dX0_addPromise_64 : pm_dec mX0_addPromise 64 (.invokevirtual 55, 3) 67 := ⟨pm_dcA dk_X0_addPromise_64 0 rfl, rfl⟩
theorem dX0_addPromise_67 : pm_dec mX0_addPromise 67 (.iinc 6 1, 3) 70 := ⟨pm_dcA dk_X0_addPromise_64 1 rfl, rfl⟩
theorem dX0_addPromise_70 : pm_dec mX0_addPromise 70 (.goto (-58), 3) 73 := ⟨pm_dcA dk_X0_addPromise_64 2 rfl, rfl⟩
theorem dX0_addPromise_73 : pm_dec mX0_addPromise 73 (.aload_n 0, 1) 74 := ⟨pm_dcA dk_X0_addPromise_64 3 rfl, rfl⟩
theorem dX0_addPromise_74 : pm_dec mX0_addPromise 74 (.getfield 25, 3) 77 := ⟨pm_dcA dk_X0_addPromise_64 4 rfl, rfl⟩
theorem dX0_addPromise_77 : pm_dec mX0_addPromise 77 (.iload_n 1, 1) 78 := ⟨pm_dcA dk_X0_addPromise_64 5 rfl, rfl⟩
theorem dX0_addPromise_78 : pm_dec mX0_addPromise 78 (.invokevirtual 59, 3) 81 := ⟨pm_dcA dk_X0_addPromise_64 6 rfl, rfl⟩
theorem dX0_addPromise_81 : pm_dec mX0_addPromise 81 (.istore 6, 2) 83 := ⟨pm_dcA dk_X0_addPromise_64 7 rfl, rfl⟩
theorem dX0_addPromise_83 : pm_dec mX0_addPromise 83 (.aload_n 0, 1) 84 := ⟨pm_dcA dk_X0_addPromise_64 8 rfl, rfl⟩
theorem dX0_addPromise_84 : pm_dec mX0_addPromise 84 (.getfield 25, 3) 87 := ⟨pm_dcA dk_X0_addPromise_64 9 rfl, rfl⟩
theorem dX0_addPromise_87 : pm_dec mX0_addPromise 87 (.iload 6, 2) 89 := ⟨pm_dcA dk_X0_addPromise_64 10 rfl, rfl⟩
theorem dX0_addPromise_89 : pm_dec mX0_addPromise 89 (.iconst 1, 1) 90 := ⟨pm_dcA dk_X0_addPromise_64 11 rfl, rfl⟩
theorem dX0_addPromise_90 : pm_dec mX0_addPromise 90 (.iload_n 2, 1) 91 := ⟨pm_dcA dk_X0_addPromise_64 12 rfl, rfl⟩
theorem dX0_addPromise_91 : pm_dec mX0_addPromise 91 (.invokevirtual 55, 3) 94 := ⟨pm_dcA dk_X0_addPromise_64 13 rfl, rfl⟩
theorem dX0_addPromise_94 : pm_dec mX0_addPromise 94 (.aload_n 0, 1) 95 := ⟨pm_dcA dk_X0_addPromise_64 14 rfl, rfl⟩
theorem dX0_addPromise_95 : pm_dec mX0_addPromise 95 (.getfield 25, 3) 98 := ⟨pm_dcA dk_X0_addPromise_64 15 rfl, rfl⟩
theorem dX0_addPromise_98 : pm_dec mX0_addPromise 98 (.iload 6, 2) 100 := ⟨pm_dcA dk_X0_addPromise_64 16 rfl, rfl⟩
theorem dX0_addPromise_100 : pm_dec mX0_addPromise 100 (.iconst 2, 1) 101 := ⟨pm_dcA dk_X0_addPromise_64 17 rfl, rfl⟩
theorem dX0_addPromise_101 : pm_dec mX0_addPromise 101 (.iload_n 3, 1) 102 := ⟨pm_dcA dk_X0_addPromise_64 18 rfl, rfl⟩
theorem dX0_addPromise_102 : pm_dec mX0_addPromise 102 (.invokevirtual 55, 3) 105 := ⟨pm_dcA dk_X0_addPromise_64 19 rfl, rfl⟩
theorem dX0_addPromise_105 : pm_dec mX0_addPromise 105 (.aload_n 0, 1) 106 := ⟨pm_dcA dk_X0_addPromise_64 20 rfl, rfl⟩
theorem dX0_addPromise_106 : pm_dec mX0_addPromise 106 (.getfield 25, 3) 109 := ⟨pm_dcA dk_X0_addPromise_64 21 rfl, rfl⟩
theorem dX0_addPromise_109 : pm_dec mX0_addPromise 109 (.iload 6, 2) 111 := ⟨pm_dcA dk_X0_addPromise_64 22 rfl, rfl⟩
theorem dX0_addPromise_111 : pm_dec mX0_addPromise 111 (.iconst 3, 1) 112 := ⟨pm_dcA dk_X0_addPromise_64 23 rfl, rfl⟩
theorem dX0_addPromise_112 : pm_dec mX0_addPromise 112 (.iload 4, 2) 114 := ⟨pm_dcA dk_X0_addPromise_64 24 rfl, rfl⟩
theorem dX0_addPromise_114 : pm_dec mX0_addPromise 114 (.ifCond .eq 7, 3) 117 := ⟨pm_dcA dk_X0_addPromise_64 25 rfl, rfl⟩
theorem dX0_addPromise_117 : pm_dec mX0_addPromise 117 (.iconst 1, 1) 118 := ⟨pm_dcA dk_X0_addPromise_64 26 rfl, rfl⟩
theorem dX0_addPromise_118 : pm_dec mX0_addPromise 118 (.goto 4, 3) 121 := ⟨pm_dcA dk_X0_addPromise_64 27 rfl, rfl⟩
theorem dX0_addPromise_121 : pm_dec mX0_addPromise 121 (.iconst 0, 1) 122 := ⟨pm_dcA dk_X0_addPromise_64 28 rfl, rfl⟩
theorem dX0_addPromise_122 : pm_dec mX0_addPromise 122 (.invokevirtual 55, 3) 125 := ⟨pm_dcA dk_X0_addPromise_64 29 rfl, rfl⟩
theorem dX0_addPromise_125 : pm_dec mX0_addPromise 125 (.aload_n 0, 1) 126 := ⟨pm_dcA dk_X0_addPromise_64 30 rfl, rfl⟩
theorem dX0_addPromise_126 : pm_dec mX0_addPromise 126 (.getfield 25, 3) 129 := ⟨pm_dcA dk_X0_addPromise_64 31 rfl, rfl⟩
def dt_X0_addPromise_129 : List (Nat × (Instr × Nat)) := [(129, (.iload 6, 2)), (131, (.iconst 4, 1)), (132, (.iconst 0, 1)), (133, (.invokevirtual 55, 3)), (136, (.iload 6, 2)), (138, (.ireturn, 1))]
theorem dk_X0_addPromise_129 : pm_dc mX0_addPromise.2.1 dt_X0_addPromise_129 = true := by decide +kernel
theorem dX0_addPromise_129 : pm_dec mX0_addPromise 129 (.iload 6, 2) 131 := ⟨pm_dcA dk_X0_addPromise_129 0 rfl, rfl⟩
theorem dX0_addPromise_131 : pm_dec mX0_addPromise 131 (.iconst 4, 1) 132 := ⟨pm_dcA dk_X0_addPromise_129 1 rfl, rfl⟩
theorem dX0_addPromise_132 : pm_dec mX0_addPromise 132 (.iconst 0, 1) 133 := ⟨pm_dcA dk_X0_addPromise_129 2 rfl, rfl⟩
theorem dX0_addPromise_133 : pm_dec mX0_addPromise 133 (.invokevirtual 55, 3) 136 := ⟨pm_dcA dk_X0_addPromise_129 3 rfl, rfl⟩
theorem dX0_addPromise_136 : pm_dec mX0_addPromise 136 (.iload 6, 2) 138 := ⟨pm_dcA dk_X0_addPromise_129 4 rfl, rfl⟩
theorem dX0_addPromise_138 : pm_dec mX0_addPromise 138 (.ireturn, 1) 139 := ⟨pm_dcA dk_X0_addPromise_129 5 rfl, rfl⟩
def dt_X0_breakAllOf_0 : List (Nat × (Instr × Nat)) := [(0, (.aload_n 0, 1)), (1, (.iload_n 1, 1)), (2, (.iconst 2, 1)), (3, (.invokevirtual 66, 3)), (6, (.ireturn, 1))]
theorem dk_X0_breakAllOf_0 : pm_dc mX0_breakAllOf.2.1 dt_X0_breakAllOf_0 = true := by decide +kernel
theorem dX0_breakAllOf_0 : pm_dec mX0_breakAllOf 0 (.aload_n 0, 1) 1 := ⟨pm_dcA dk_X0_breakAllOf_0 0 rfl, rfl⟩
theorem dX0_breakAllOf_1 : pm_dec mX0_breakAllOf 1 (.iload_n 1, 1) 2 := ⟨pm_dcA dk_X0_breakAllOf_0 1 rfl, rfl⟩
theorem dX0_breakAllOf_2 : pm_dec mX0_breakAllOf 2 (.iconst 2, 1) 3 := ⟨pm_dcA dk_X0_breakAllOf_0 2 rfl, rfl⟩
theorem dX0_breakAllOf_3 : pm_dec mX0_breakAllOf 3 (.invokevirtual 66, 3) 6 := ⟨pm_dcA dk_X0_breakAllOf_0 3 rfl, rfl⟩
theorem dX0_breakAllOf_6 : pm_dec mX0_breakAllOf 6 (.ireturn, 1) 7 := ⟨pm_dcA dk_X0_breakAllOf_0 4 rfl, rfl⟩
def dt_X0_choose_0 : List (Nat × (Instr × Nat)) := [(0, (.iload_n 3, 1)), (1, (.aload_n 0, 1)), (2, (.getfield 115, 3)), (5, (.if_icmp .le 4, 3)), (8, (.return_, 1)), (9, (.aload_n 0, 1)), (10, (.iload 4, 2)), (12, (.invokevirtual 125, 3)), (15, (.ifCond .eq 9, 3)), (18, (.aload_n 0, 1)), (19, (.iload_n 2, 1)), (20, (.iload_n 3, 1)), (21, (.invokevirtual 128, 3)), (24, (.iload_n 1, 1)), (25, (.bipush 9, 2)), (27, (.if_icmp .ge 78, 3)), (30, (.aload_n 0, 1)), (31, (.getfield 36, 3)), (34, (.iload_n 1, 1)), (35, (.invokevirtual 131, 3)), (38, (.ifCond .eq 67, 3)), (41, (.aload_n 0, 1)), (42, (.getfield 36, 3)), (45, (.iload_n 1, 1)), (46, (.iconst 0, 1)), (47, (.invokevirtual 39, 3)), (50, (.istore 5, 2)), (52, (.aload_n 0, 1)), (53, (.iload_n 1, 1)), (54, (.iconst 1, 1)), (55, (.iadd, 1)), (56, (.iload_n 2, 1))]
theorem dk_X0_choose_0 : pm_dc mX0_choose.2.1 dt_X0_choose_0 = true := by decide +kernel
theorem dX0_choose_0 : pm_dec mX0_choose 0 (.iload_n 3, 1) 1 := ⟨pm_dcA dk_X0_choose_0 0 rfl, rfl⟩
theorem dX0_choose_1 : pm_dec mX0_choose 1 (.aload_n 0, 1) 2 := ⟨pm_dcA dk_X0_choose_0 1 rfl, rfl⟩
theorem dX0_choose_2 : pm_dec mX0_choose 2 (.getfield 115, 3) 5 := ⟨pm_dcA dk_X0_choose_0 2 rfl, rfl⟩
theorem dX0_choose_5 : pm_dec mX0_choose 5 (.if_icmp .le 4, 3) 8 := ⟨pm_dcA dk_X0_choose_0 3 rfl, rfl⟩
theorem dX0_choose_8 : pm_dec mX0_choose 8 (.return_, 1) 9 := ⟨pm_dcA dk_X0_choose_0 4 rfl, rfl⟩
theorem dX0_choose_9 : pm_dec mX0_choose 9 (.aload_n 0, 1) 10 := ⟨pm_dcA dk_X0_choose_0 5 rfl, rfl⟩
theorem dX0_choose_10 : pm_dec mX0_choose 10 (.iload 4, 2) 12 := ⟨pm_dcA dk_X0_choose_0 6 rfl, rfl⟩
theorem dX0_choose_12 : pm_dec mX0_choose 12 (.invokevirtual 125, 3) 15 := ⟨pm_dcA dk_X0_choose_0 7 rfl, rfl⟩
theorem dX0_choose_15 : pm_dec mX0_choose 15 (.ifCond .eq 9, 3) 18 := ⟨pm_dcA dk_X0_choose_0 8 rfl, rfl⟩
theorem dX0_choose_18 : pm_dec mX0_choose 18 (.aload_n 0, 1) 19 := ⟨pm_dcA dk_X0_choose_0 9 rfl, rfl⟩
theorem dX0_choose_19 : pm_dec mX0_choose 19 (.iload_n 2, 1) 20 := ⟨pm_dcA dk_X0_choose_0 10 rfl, rfl⟩
theorem dX0_choose_20 : pm_dec mX0_choose 20 (.iload_n 3, 1) 21 := ⟨pm_dcA dk_X0_choose_0 11 rfl, rfl⟩
theorem dX0_choose_21 : pm_dec mX0_choose 21 (.invokevirtual 128, 3) 24 := ⟨pm_dcA dk_X0_choose_0 12 rfl, rfl⟩
theorem dX0_choose_24 : pm_dec mX0_choose 24 (.iload_n 1, 1) 25 := ⟨pm_dcA dk_X0_choose_0 13 rfl, rfl⟩
theorem dX0_choose_25 : pm_dec mX0_choose 25 (.bipush 9, 2) 27 := ⟨pm_dcA dk_X0_choose_0 14 rfl, rfl⟩
theorem dX0_choose_27 : pm_dec mX0_choose 27 (.if_icmp .ge 78, 3) 30 := ⟨pm_dcA dk_X0_choose_0 15 rfl, rfl⟩
theorem dX0_choose_30 : pm_dec mX0_choose 30 (.aload_n 0, 1) 31 := ⟨pm_dcA dk_X0_choose_0 16 rfl, rfl⟩
theorem dX0_choose_31 : pm_dec mX0_choose 31 (.getfield 36, 3) 34 := ⟨pm_dcA dk_X0_choose_0 17 rfl, rfl⟩
theorem dX0_choose_34 : pm_dec mX0_choose 34 (.iload_n 1, 1) 35 := ⟨pm_dcA dk_X0_choose_0 18 rfl, rfl⟩
theorem dX0_choose_35 : pm_dec mX0_choose 35 (.invokevirtual 131, 3) 38 := ⟨pm_dcA dk_X0_choose_0 19 rfl, rfl⟩
theorem dX0_choose_38 : pm_dec mX0_choose 38 (.ifCond .eq 67, 3) 41 := ⟨pm_dcA dk_X0_choose_0 20 rfl, rfl⟩
theorem dX0_choose_41 : pm_dec mX0_choose 41 (.aload_n 0, 1) 42 := ⟨pm_dcA dk_X0_choose_0 21 rfl, rfl⟩
theorem dX0_choose_42 : pm_dec mX0_choose 42 (.getfield 36, 3) 45 := ⟨pm_dcA dk_X0_choose_0 22 rfl, rfl⟩
theorem dX0_choose_45 : pm_dec mX0_choose 45 (.iload_n 1, 1) 46 := ⟨pm_dcA dk_X0_choose_0 23 rfl, rfl⟩
theorem dX0_choose_46 : pm_dec mX0_choose 46 (.iconst 0, 1) 47 := ⟨pm_dcA dk_X0_choose_0 24 rfl, rfl⟩
theorem dX0_choose_47 : pm_dec mX0_choose 47 (.invokevirtual 39, 3) 50 := ⟨pm_dcA dk_X0_choose_0 25 rfl, rfl⟩
theorem dX0_choose_50 : pm_dec mX0_choose 50 (.istore 5, 2) 52 := ⟨pm_dcA dk_X0_choose_0 26 rfl, rfl⟩
theorem dX0_choose_52 : pm_dec mX0_choose 52 (.aload_n 0, 1) 53 := ⟨pm_dcA dk_X0_choose_0 27 rfl, rfl⟩
theorem dX0_choose_53 : pm_dec mX0_choose 53 (.iload_n 1, 1) 54 := ⟨pm_dcA dk_X0_choose_0 28 rfl, rfl⟩
theorem dX0_choose_54 : pm_dec mX0_choose 54 (.iconst 1, 1) 55 := ⟨pm_dcA dk_X0_choose_0 29 rfl, rfl⟩
theorem dX0_choose_55 : pm_dec mX0_choose 55 (.iadd, 1) 56 := ⟨pm_dcA dk_X0_choose_0 30 rfl, rfl⟩
theorem dX0_choose_56 : pm_dec mX0_choose 56 (.iload_n 2, 1) 57 := ⟨pm_dcA dk_X0_choose_0 31 rfl, rfl⟩
def dt_X0_choose_57 : List (Nat × (Instr × Nat)) := [(57, (.iload_n 3, 1)), (58, (.iload 4, 2)), (60, (.invokevirtual 121, 3)), (63, (.aload_n 0, 1)), (64, (.iload_n 1, 1)), (65, (.iconst 1, 1)), (66, (.iadd, 1)), (67, (.iload_n 2, 1)), (68, (.iconst 1, 1)), (69, (.iload 5, 2)), (71, (.ishl, 1)), (72, (.ior, 1)), (73, (.iload_n 3, 1)), (74, (.aload_n 0, 1)), (75, (.getfield 9, 3)), (78, (.getfield 63, 3)), (81, (.iload 5, 2)), (83, (.bipush 12, 2)), (85, (.invokevirtual 39, 3)), (88, (.iadd, 1)), (89, (.iload 4, 2)), (91, (.aload_n 0, 1)), (92, (.getfield 33, 3)), (95, (.iload 5, 2)), (97, (.iconst 0, 1)), (98, (.invokevirtual 39, 3)), (101, (.iadd, 1)), (102, (.invokevirtual 121, 3)), (105, (.return_, 1))]
theorem dk_X0_choose_57 : pm_dc mX0_choose.2.1 dt_X0_choose_57 = true := by decide +kernel
theorem dX0_choose_57 : pm_dec mX0_choose 57 (.iload_n 3, 1) 58 := ⟨pm_dcA dk_X0_choose_57 0 rfl, rfl⟩
theorem dX0_choose_58 : pm_dec mX0_choose 58 (.iload 4, 2) 60 := ⟨pm_dcA dk_X0_choose_57 1 rfl, rfl⟩
theorem dX0_choose_60 : pm_dec mX0_choose 60 (.invokevirtual 121, 3) 63 := ⟨pm_dcA dk_X0_choose_57 2 rfl, rfl⟩
theorem dX0_choose_63 : pm_dec mX0_choose 63 (.aload_n 0, 1) 64 := ⟨pm_dcA dk_X0_choose_57 3 rfl, rfl⟩
theorem dX0_choose_64 : pm_dec mX0_choose 64 (.iload_n 1, 1) 65 := ⟨pm_dcA dk_X0_choose_57 4 rfl, rfl⟩
theorem dX0_choose_65 : pm_dec mX0_choose 65 (.iconst 1, 1) 66 := ⟨pm_dcA dk_X0_choose_57 5 rfl, rfl⟩
theorem dX0_choose_66 : pm_dec mX0_choose 66 (.iadd, 1) 67 := ⟨pm_dcA dk_X0_choose_57 6 rfl, rfl⟩
theorem dX0_choose_67 : pm_dec mX0_choose 67 (.iload_n 2, 1) 68 := ⟨pm_dcA dk_X0_choose_57 7 rfl, rfl⟩
theorem dX0_choose_68 : pm_dec mX0_choose 68 (.iconst 1, 1) 69 := ⟨pm_dcA dk_X0_choose_57 8 rfl, rfl⟩
theorem dX0_choose_69 : pm_dec mX0_choose 69 (.iload 5, 2) 71 := ⟨pm_dcA dk_X0_choose_57 9 rfl, rfl⟩
theorem dX0_choose_71 : pm_dec mX0_choose 71 (.ishl, 1) 72 := ⟨pm_dcA dk_X0_choose_57 10 rfl, rfl⟩
theorem dX0_choose_72 : pm_dec mX0_choose 72 (.ior, 1) 73 := ⟨pm_dcA dk_X0_choose_57 11 rfl, rfl⟩
theorem dX0_choose_73 : pm_dec mX0_choose 73 (.iload_n 3, 1) 74 := ⟨pm_dcA dk_X0_choose_57 12 rfl, rfl⟩
theorem dX0_choose_74 : pm_dec mX0_choose 74 (.aload_n 0, 1) 75 := ⟨pm_dcA dk_X0_choose_57 13 rfl, rfl⟩
theorem dX0_choose_75 : pm_dec mX0_choose 75 (.getfield 9, 3) 78 := ⟨pm_dcA dk_X0_choose_57 14 rfl, rfl⟩
theorem dX0_choose_78 : pm_dec mX0_choose 78 (.getfield 63, 3) 81 := ⟨pm_dcA dk_X0_choose_57 15 rfl, rfl⟩
theorem dX0_choose_81 : pm_dec mX0_choose 81 (.iload 5, 2) 83 := ⟨pm_dcA dk_X0_choose_57 16 rfl, rfl⟩
theorem dX0_choose_83 : pm_dec mX0_choose 83 (.bipush 12, 2) 85 := ⟨pm_dcA dk_X0_choose_57 17 rfl, rfl⟩
theorem dX0_choose_85 : pm_dec mX0_choose 85 (.invokevirtual 39, 3) 88 := ⟨pm_dcA dk_X0_choose_57 18 rfl, rfl⟩
theorem dX0_choose_88 : pm_dec mX0_choose 88 (.iadd, 1) 89 := ⟨pm_dcA dk_X0_choose_57 19 rfl, rfl⟩
theorem dX0_choose_89 : pm_dec mX0_choose 89 (.iload 4, 2) 91 := ⟨pm_dcA dk_X0_choose_57 20 rfl, rfl⟩
theorem dX0_choose_91 : pm_dec mX0_choose 91 (.aload_n 0, 1) 92 := ⟨pm_dcA dk_X0_choose_57 21 rfl, rfl⟩
theorem dX0_choose_92 : pm_dec mX0_choose 92 (.getfield 33, 3) 95 := ⟨pm_dcA dk_X0_choose_57 22 rfl, rfl⟩
theorem dX0_choose_95 : pm_dec mX0_choose 95 (.iload 5, 2) 97 := ⟨pm_dcA dk_X0_choose_57 23 rfl, rfl⟩
theorem dX0_choose_97 : pm_dec mX0_choose 97 (.iconst 0, 1) 98 := ⟨pm_dcA dk_X0_choose_57 24 rfl, rfl⟩
theorem dX0_choose_98 : pm_dec mX0_choose 98 (.invokevirtual 39, 3) 101 := ⟨pm_dcA dk_X0_choose_57 25 rfl, rfl⟩
theorem dX0_choose_101 : pm_dec mX0_choose 101 (.iadd, 1) 102 := ⟨pm_dcA dk_X0_choose_57 26 rfl, rfl⟩
theorem dX0_choose_102 : pm_dec mX0_choose 102 (.invokevirtual 121, 3) 105 := ⟨pm_dcA dk_X0_choose_57 27 rfl, rfl⟩
theorem dX0_choose_105 : pm_dec mX0_choose 105 (.return_, 1) 106 := ⟨pm_dcA dk_X0_choose_57 28 rfl, rfl⟩
def dt_X0_endAllOf_0 : List (Nat × (Instr × Nat)) := [(0, (.iconst 0, 1)), (1, (.istore_n 3, 1)), (2, (.aload_n 0, 1)), (3, (.getfield 25, 3)), (6, (.invokevirtual 47, 3)), (9, (.istore 4, 2)), (11, (.iconst 0, 1)), (12, (.istore 5, 2)), (14, (.iload 5, 2)), (16, (.iload 4, 2)), (18, (.if_icmp .ge 46, 3)), (21, (.aload_n 0, 1)), (22, (.iload 5, 2)), (24, (.invokevirtual 51, 3)), (27, (.ifCond .eq 31, 3)), (30, (.aload_n 0, 1)), (31, (.getfield 25, 3)), (34, (.iload 5, 2)), (36, (.iconst 0, 1)), (37, (.invokevirtual 39, 3)), (40, (.iload_n 1, 1)), (41, (.if_icmp .ne 17, 3)), (44, (.aload_n 0, 1)), (45, (.getfield 25, 3)), (48, (.iload 5, 2)), (50, (.iconst 4, 1)), (51, (.iload_n 2, 1)), (52, (.invokevirtual 55, 3)), (55, (.iinc 3 1, 3)), (58, (.iinc 5 1, 3)), (61, (.goto (-47), 3)), (64, (.iload_n 3, 1))]
theorem dk_X0_endAllOf_0 : pm_dc mX0_endAllOf.2.1 dt_X0_endAllOf_0 = true := by decide +kernel
theorem dX0_endAllOf_0 : pm_dec mX0_endAllOf 0 (.iconst 0, 1) 1 := ⟨pm_dcA dk_X0_endAllOf_0 0 rfl, rfl⟩
theorem dX0_endAllOf_1 : pm_dec mX0_endAllOf 1 (.istore_n 3, 1) 2 := ⟨pm_dcA dk_X0_endAllOf_0 1 rfl, rfl⟩
theorem dX0_endAllOf_2 : pm_dec mX0_endAllOf 2 (.aload_n 0, 1) 3 := ⟨pm_dcA dk_X0_endAllOf_0 2 rfl, rfl⟩
theorem dX0_endAllOf_3 : pm_dec mX0_endAllOf 3 (.getfield 25, 3) 6 := ⟨pm_dcA dk_X0_endAllOf_0 3 rfl, rfl⟩
theorem dX0_endAllOf_6 : pm_dec mX0_endAllOf 6 (.invokevirtual 47, 3) 9 := ⟨pm_dcA dk_X0_endAllOf_0 4 rfl, rfl⟩
theorem dX0_endAllOf_9 : pm_dec mX0_endAllOf 9 (.istore 4, 2) 11 := ⟨pm_dcA dk_X0_endAllOf_0 5 rfl, rfl⟩
theorem dX0_endAllOf_11 : pm_dec mX0_endAllOf 11 (.iconst 0, 1) 12 := ⟨pm_dcA dk_X0_endAllOf_0 6 rfl, rfl⟩
theorem dX0_endAllOf_12 : pm_dec mX0_endAllOf 12 (.istore 5, 2) 14 := ⟨pm_dcA dk_X0_endAllOf_0 7 rfl, rfl⟩
theorem dX0_endAllOf_14 : pm_dec mX0_endAllOf 14 (.iload 5, 2) 16 := ⟨pm_dcA dk_X0_endAllOf_0 8 rfl, rfl⟩
theorem dX0_endAllOf_16 : pm_dec mX0_endAllOf 16 (.iload 4, 2) 18 := ⟨pm_dcA dk_X0_endAllOf_0 9 rfl, rfl⟩
theorem dX0_endAllOf_18 : pm_dec mX0_endAllOf 18 (.if_icmp .ge 46, 3) 21 := ⟨pm_dcA dk_X0_endAllOf_0 10 rfl, rfl⟩
theorem dX0_endAllOf_21 : pm_dec mX0_endAllOf 21 (.aload_n 0, 1) 22 := ⟨pm_dcA dk_X0_endAllOf_0 11 rfl, rfl⟩
theorem dX0_endAllOf_22 : pm_dec mX0_endAllOf 22 (.iload 5, 2) 24 := ⟨pm_dcA dk_X0_endAllOf_0 12 rfl, rfl⟩
theorem dX0_endAllOf_24 : pm_dec mX0_endAllOf 24 (.invokevirtual 51, 3) 27 := ⟨pm_dcA dk_X0_endAllOf_0 13 rfl, rfl⟩
theorem dX0_endAllOf_27 : pm_dec mX0_endAllOf 27 (.ifCond .eq 31, 3) 30 := ⟨pm_dcA dk_X0_endAllOf_0 14 rfl, rfl⟩
theorem dX0_endAllOf_30 : pm_dec mX0_endAllOf 30 (.aload_n 0, 1) 31 := ⟨pm_dcA dk_X0_endAllOf_0 15 rfl, rfl⟩
theorem dX0_endAllOf_31 : pm_dec mX0_endAllOf 31 (.getfield 25, 3) 34 := ⟨pm_dcA dk_X0_endAllOf_0 16 rfl, rfl⟩
theorem dX0_endAllOf_34 : pm_dec mX0_endAllOf 34 (.iload 5, 2) 36 := ⟨pm_dcA dk_X0_endAllOf_0 17 rfl, rfl⟩
theorem dX0_endAllOf_36 : pm_dec mX0_endAllOf 36 (.iconst 0, 1) 37 := ⟨pm_dcA dk_X0_endAllOf_0 18 rfl, rfl⟩
theorem dX0_endAllOf_37 : pm_dec mX0_endAllOf 37 (.invokevirtual 39, 3) 40 := ⟨pm_dcA dk_X0_endAllOf_0 19 rfl, rfl⟩
theorem dX0_endAllOf_40 : pm_dec mX0_endAllOf 40 (.iload_n 1, 1) 41 := ⟨pm_dcA dk_X0_endAllOf_0 20 rfl, rfl⟩
theorem dX0_endAllOf_41 : pm_dec mX0_endAllOf 41 (.if_icmp .ne 17, 3) 44 := ⟨pm_dcA dk_X0_endAllOf_0 21 rfl, rfl⟩
theorem dX0_endAllOf_44 : pm_dec mX0_endAllOf 44 (.aload_n 0, 1) 45 := ⟨pm_dcA dk_X0_endAllOf_0 22 rfl, rfl⟩
theorem dX0_endAllOf_45 : pm_dec mX0_endAllOf 45 (.getfield 25, 3) 48 := ⟨pm_dcA dk_X0_endAllOf_0 23 rfl, rfl⟩
theorem dX0_endAllOf_48 : pm_dec mX0_endAllOf 48 (.iload 5, 2) 50 := ⟨pm_dcA dk_X0_endAllOf_0 24 rfl, rfl⟩
theorem dX0_endAllOf_50 : pm_dec mX0_endAllOf 50 (.iconst 4, 1) 51 := ⟨pm_dcA dk_X0_endAllOf_0 25 rfl, rfl⟩
theorem dX0_endAllOf_51 : pm_dec mX0_endAllOf 51 (.iload_n 2, 1) 52 := ⟨pm_dcA dk_X0_endAllOf_0 26 rfl, rfl⟩
theorem dX0_endAllOf_52 : pm_dec mX0_endAllOf 52 (.invokevirtual 55, 3) 55 := ⟨pm_dcA dk_X0_endAllOf_0 27 rfl, rfl⟩
theorem dX0_endAllOf_55 : pm_dec mX0_endAllOf 55 (.iinc 3 1, 3) 58 := ⟨pm_dcA dk_X0_endAllOf_0 28 rfl, rfl⟩
theorem dX0_endAllOf_58 : pm_dec mX0_endAllOf 58 (.iinc 5 1, 3) 61 := ⟨pm_dcA dk_X0_endAllOf_0 29 rfl, rfl⟩
theorem dX0_endAllOf_61 : pm_dec mX0_endAllOf 61 (.goto (-47), 3) 64 := ⟨pm_dcA dk_X0_endAllOf_0 30 rfl, rfl⟩
theorem dX0_endAllOf_64 : pm_dec mX0_endAllOf 64 (.iload_n 3, 1) 65 := ⟨pm_dcA dk_X0_endAllOf_0 31 rfl, rfl⟩
def dt_X0_endAllOf_65 : List (Nat × (Instr × Nat)) := [(65, (.ireturn, 1))]
theorem dk_X0_endAllOf_65 : pm_dc mX0_endAllOf.2.1 dt_X0_endAllOf_65 = true := by decide +kernel
theorem dX0_endAllOf_65 : pm_dec mX0_endAllOf 65 (.ireturn, 1) 66 := ⟨pm_dcA dk_X0_endAllOf_65 0 rfl, rfl⟩
def dt_X0_findCheapest_0 : List (Nat × (Instr × Nat)) := [(0, (.aload_n 0, 1)), (1, (.iload_n 1, 1)), (2, (.invokevirtual 110, 3)), (5, (.aload_n 0, 1)), (6, (.ldc 114, 2)), (8, (.putfield 115, 3)), (11, (.aload_n 0, 1)), (12, (.iconst 0, 1)), (13, (.putfield 118, 3)), (16, (.aload_n 0, 1)), (17, (.iconst 0, 1)), (18, (.iconst 0, 1)), (19, (.iconst 0, 1)), (20, (.iconst 0, 1)), (21, (.invokevirtual 121, 3)), (24, (.aload_n 0, 1)), (25, (.getfield 115, 3)), (28, (.ldc 114, 2)), (30, (.if_icmp .ge 7, 3)), (33, (.iconst 1, 1)), (34, (.goto 4, 3)), (37, (.iconst 0, 1)), (38, (.ireturn, 1))]
theorem dk_X0_findCheapest_0 : pm_dc mX0_findCheapest.2.1 dt_X0_findCheapest_0 = true := by decide +kernel
theorem dX0_findCheapest_0 : pm_dec mX0_findCheapest 0 (.aload_n 0, 1) 1 := ⟨pm_dcA dk_X0_findCheapest_0 0 rfl, rfl⟩
theorem dX0_findCheapest_1 : pm_dec mX0_findCheapest 1 (.iload_n 1, 1) 2 := ⟨pm_dcA dk_X0_findCheapest_0 1 rfl, rfl⟩
theorem dX0_findCheapest_2 : pm_dec mX0_findCheapest 2 (.invokevirtual 110, 3) 5 := ⟨pm_dcA dk_X0_findCheapest_0 2 rfl, rfl⟩
theorem dX0_findCheapest_5 : pm_dec mX0_findCheapest 5 (.aload_n 0, 1) 6 := ⟨pm_dcA dk_X0_findCheapest_0 3 rfl, rfl⟩
theorem dX0_findCheapest_6 : pm_dec mX0_findCheapest 6 (.ldc 114, 2) 8 := ⟨pm_dcA dk_X0_findCheapest_0 4 rfl, rfl⟩
theorem dX0_findCheapest_8 : pm_dec mX0_findCheapest 8 (.putfield 115, 3) 11 := ⟨pm_dcA dk_X0_findCheapest_0 5 rfl, rfl⟩
theorem dX0_findCheapest_11 : pm_dec mX0_findCheapest 11 (.aload_n 0, 1) 12 := ⟨pm_dcA dk_X0_findCheapest_0 6 rfl, rfl⟩
theorem dX0_findCheapest_12 : pm_dec mX0_findCheapest 12 (.iconst 0, 1) 13 := ⟨pm_dcA dk_X0_findCheapest_0 7 rfl, rfl⟩
theorem dX0_findCheapest_13 : pm_dec mX0_findCheapest 13 (.putfield 118, 3) 16 := ⟨pm_dcA dk_X0_findCheapest_0 8 rfl, rfl⟩
theorem dX0_findCheapest_16 : pm_dec mX0_findCheapest 16 (.aload_n 0, 1) 17 := ⟨pm_dcA dk_X0_findCheapest_0 9 rfl, rfl⟩
theorem dX0_findCheapest_17 : pm_dec mX0_findCheapest 17 (.iconst 0, 1) 18 := ⟨pm_dcA dk_X0_findCheapest_0 10 rfl, rfl⟩
theorem dX0_findCheapest_18 : pm_dec mX0_findCheapest 18 (.iconst 0, 1) 19 := ⟨pm_dcA dk_X0_findCheapest_0 11 rfl, rfl⟩
theorem dX0_findCheapest_19 : pm_dec mX0_findCheapest 19 (.iconst 0, 1) 20 := ⟨pm_dcA dk_X0_findCheapest_0 12 rfl, rfl⟩
theorem dX0_findCheapest_20 : pm_dec mX0_findCheapest 20 (.iconst 0, 1) 21 := ⟨pm_dcA dk_X0_findCheapest_0 13 rfl, rfl⟩
theorem dX0_findCheapest_21 : pm_dec mX0_findCheapest 21 (.invokevirtual 121, 3) 24 := ⟨pm_dcA dk_X0_findCheapest_0 14 rfl, rfl⟩
theorem dX0_findCheapest_24 : pm_dec mX0_findCheapest 24 (.aload_n 0, 1) 25 := ⟨pm_dcA dk_X0_findCheapest_0 15 rfl, rfl⟩
theorem dX0_findCheapest_25 : pm_dec mX0_findCheapest 25 (.getfield 115, 3) 28 := ⟨pm_dcA dk_X0_findCheapest_0 16 rfl, rfl⟩
theorem dX0_findCheapest_28 : pm_dec mX0_findCheapest 28 (.ldc 114, 2) 30 := ⟨pm_dcA dk_X0_findCheapest_0 17 rfl, rfl⟩
theorem dX0_findCheapest_30 : pm_dec mX0_findCheapest 30 (.if_icmp .ge 7, 3) 33 := ⟨pm_dcA dk_X0_findCheapest_0 18 rfl, rfl⟩
theorem dX0_findCheapest_33 : pm_dec mX0_findCheapest 33 (.iconst 1, 1) 34 := ⟨pm_dcA dk_X0_findCheapest_0 19 rfl, rfl⟩
theorem dX0_findCheapest_34 : pm_dec mX0_findCheapest 34 (.goto 4, 3) 37 := ⟨pm_dcA dk_X0_findCheapest_0 20 rfl, rfl⟩
theorem dX0_findCheapest_37 : pm_dec mX0_findCheapest 37 (.iconst 0, 1) 38 := ⟨pm_dcA dk_X0_findCheapest_0 21 rfl, rfl⟩
theorem dX0_findCheapest_38 : pm_dec mX0_findCheapest 38 (.ireturn, 1) 39 := ⟨pm_dcA dk_X0_findCheapest_0 22 rfl, rfl⟩
def dt_X0_firstBroken_0 : List (Nat × (Instr × Nat)) := [(0, (.aload_n 0, 1)), (1, (.getfield 25, 3)), (4, (.invokevirtual 47, 3)), (7, (.istore_n 2, 1)), (8, (.iconst 0, 1)), (9, (.istore_n 3, 1)), (10, (.iload_n 3, 1)), (11, (.iload_n 2, 1)), (12, (.if_icmp .ge 50, 3)), (15, (.aload_n 0, 1)), (16, (.getfield 25, 3)), (19, (.iload_n 3, 1)), (20, (.iconst 4, 1)), (21, (.invokevirtual 39, 3)), (24, (.iconst 2, 1)), (25, (.if_icmp .ne 31, 3)), (28, (.aload_n 0, 1)), (29, (.getfield 25, 3)), (32, (.iload_n 3, 1)), (33, (.iconst 1, 1)), (34, (.invokevirtual 39, 3)), (37, (.iload_n 1, 1)), (38, (.if_icmp .ne 18, 3)), (41, (.aload_n 0, 1)), (42, (.getfield 25, 3)), (45, (.iload_n 3, 1)), (46, (.iconst 3, 1)), (47, (.invokevirtual 39, 3)), (50, (.iconst 1, 1)), (51, (.if_icmp .ne 5, 3)), (54, (.iload_n 3, 1)), (55, (.ireturn, 1))]
theorem dk_X0_firstBroken_0 : pm_dc mX0_firstBroken.2.1 dt_X0_firstBroken_0 = true := by decide +kernel
theorem dX0_firstBroken_0 : pm_dec mX0_firstBroken 0 (.aload_n 0, 1) 1 := ⟨pm_dcA dk_X0_firstBroken_0 0 rfl, rfl⟩
theorem dX0_firstBroken_1 : pm_dec mX0_firstBroken 1 (.getfield 25, 3) 4 := ⟨pm_dcA dk_X0_firstBroken_0 1 rfl, rfl⟩
theorem dX0_firstBroken_4 : pm_dec mX0_firstBroken 4 (.invokevirtual 47, 3) 7 := ⟨pm_dcA dk_X0_firstBroken_0 2 rfl, rfl⟩
theorem dX0_firstBroken_7 : pm_dec mX0_firstBroken 7 (.istore_n 2, 1) 8 := ⟨pm_dcA dk_X0_firstBroken_0 3 rfl, rfl⟩
theorem dX0_firstBroken_8 : pm_dec mX0_firstBroken 8 (.iconst 0, 1) 9 := ⟨pm_dcA dk_X0_firstBroken_0 4 rfl, rfl⟩
theorem dX0_firstBroken_9 : pm_dec mX0_firstBroken 9 (.istore_n 3, 1) 10 := ⟨pm_dcA dk_X0_firstBroken_0 5 rfl, rfl⟩
theorem dX0_firstBroken_10 : pm_dec mX0_firstBroken 10 (.iload_n 3, 1) 11 := ⟨pm_dcA dk_X0_firstBroken_0 6 rfl, rfl⟩
theorem dX0_firstBroken_11 : pm_dec mX0_firstBroken 11 (.iload_n 2, 1) 12 := ⟨pm_dcA dk_X0_firstBroken_0 7 rfl, rfl⟩
theorem dX0_firstBroken_12 : pm_dec mX0_firstBroken 12 (.if_icmp .ge 50, 3) 15 := ⟨pm_dcA dk_X0_firstBroken_0 8 rfl, rfl⟩
theorem dX0_firstBroken_15 : pm_dec mX0_firstBroken 15 (.aload_n 0, 1) 16 := ⟨pm_dcA dk_X0_firstBroken_0 9 rfl, rfl⟩
theorem dX0_firstBroken_16 : pm_dec mX0_firstBroken 16 (.getfield 25, 3) 19 := ⟨pm_dcA dk_X0_firstBroken_0 10 rfl, rfl⟩
theorem dX0_firstBroken_19 : pm_dec mX0_firstBroken 19 (.iload_n 3, 1) 20 := ⟨pm_dcA dk_X0_firstBroken_0 11 rfl, rfl⟩
theorem dX0_firstBroken_20 : pm_dec mX0_firstBroken 20 (.iconst 4, 1) 21 := ⟨pm_dcA dk_X0_firstBroken_0 12 rfl, rfl⟩
theorem dX0_firstBroken_21 : pm_dec mX0_firstBroken 21 (.invokevirtual 39, 3) 24 := ⟨pm_dcA dk_X0_firstBroken_0 13 rfl, rfl⟩
theorem dX0_firstBroken_24 : pm_dec mX0_firstBroken 24 (.iconst 2, 1) 25 := ⟨pm_dcA dk_X0_firstBroken_0 14 rfl, rfl⟩
theorem dX0_firstBroken_25 : pm_dec mX0_firstBroken 25 (.if_icmp .ne 31, 3) 28 := ⟨pm_dcA dk_X0_firstBroken_0 15 rfl, rfl⟩
theorem dX0_firstBroken_28 : pm_dec mX0_firstBroken 28 (.aload_n 0, 1) 29 := ⟨pm_dcA dk_X0_firstBroken_0 16 rfl, rfl⟩
theorem dX0_firstBroken_29 : pm_dec mX0_firstBroken 29 (.getfield 25, 3) 32 := ⟨pm_dcA dk_X0_firstBroken_0 17 rfl, rfl⟩
theorem dX0_firstBroken_32 : pm_dec mX0_firstBroken 32 (.iload_n 3, 1) 33 := ⟨pm_dcA dk_X0_firstBroken_0 18 rfl, rfl⟩
theorem dX0_firstBroken_33 : pm_dec mX0_firstBroken 33 (.iconst 1, 1) 34 := ⟨pm_dcA dk_X0_firstBroken_0 19 rfl, rfl⟩
theorem dX0_firstBroken_34 : pm_dec mX0_firstBroken 34 (.invokevirtual 39, 3) 37 := ⟨pm_dcA dk_X0_firstBroken_0 20 rfl, rfl⟩
theorem dX0_firstBroken_37 : pm_dec mX0_firstBroken 37 (.iload_n 1, 1) 38 := ⟨pm_dcA dk_X0_firstBroken_0 21 rfl, rfl⟩
theorem dX0_firstBroken_38 : pm_dec mX0_firstBroken 38 (.if_icmp .ne 18, 3) 41 := ⟨pm_dcA dk_X0_firstBroken_0 22 rfl, rfl⟩
theorem dX0_firstBroken_41 : pm_dec mX0_firstBroken 41 (.aload_n 0, 1) 42 := ⟨pm_dcA dk_X0_firstBroken_0 23 rfl, rfl⟩
theorem dX0_firstBroken_42 : pm_dec mX0_firstBroken 42 (.getfield 25, 3) 45 := ⟨pm_dcA dk_X0_firstBroken_0 24 rfl, rfl⟩
theorem dX0_firstBroken_45 : pm_dec mX0_firstBroken 45 (.iload_n 3, 1) 46 := ⟨pm_dcA dk_X0_firstBroken_0 25 rfl, rfl⟩
theorem dX0_firstBroken_46 : pm_dec mX0_firstBroken 46 (.iconst 3, 1) 47 := ⟨pm_dcA dk_X0_firstBroken_0 26 rfl, rfl⟩
theorem dX0_firstBroken_47 : pm_dec mX0_firstBroken 47 (.invokevirtual 39, 3) 50 := ⟨pm_dcA dk_X0_firstBroken_0 27 rfl, rfl⟩
theorem dX0_firstBroken_50 : pm_dec mX0_firstBroken 50 (.iconst 1, 1) 51 := ⟨pm_dcA dk_X0_firstBroken_0 28 rfl, rfl⟩
theorem dX0_firstBroken_51 : pm_dec mX0_firstBroken 51 (.if_icmp .ne 5, 3) 54 := ⟨pm_dcA dk_X0_firstBroken_0 29 rfl, rfl⟩
theorem dX0_firstBroken_54 : pm_dec mX0_firstBroken 54 (.iload_n 3, 1) 55 := ⟨pm_dcA dk_X0_firstBroken_0 30 rfl, rfl⟩
theorem dX0_firstBroken_55 : pm_dec mX0_firstBroken 55 (.ireturn, 1) 56 := ⟨pm_dcA dk_X0_firstBroken_0 31 rfl, rfl⟩
def dt_X0_firstBroken_56 : List (Nat × (Instr × Nat)) := [(56, (.iinc 3 1, 3)), (59, (.goto (-49), 3)), (62, (.iconst (-1), 1)), (63, (.ireturn, 1))]
theorem dk_X0_firstBroken_56 : pm_dc mX0_firstBroken.2.1 dt_X0_firstBroken_56 = true := by decide +kernel
theorem dX0_firstBroken_56 : pm_dec mX0_firstBroken 56 (.iinc 3 1, 3) 59 := ⟨pm_dcA dk_X0_firstBroken_56 0 rfl, rfl⟩
theorem dX0_firstBroken_59 : pm_dec mX0_firstBroken 59 (.goto (-49), 3) 62 := ⟨pm_dcA dk_X0_firstBroken_56 1 rfl, rfl⟩
theorem dX0_firstBroken_62 : pm_dec mX0_firstBroken 62 (.iconst (-1), 1) 63 := ⟨pm_dcA dk_X0_firstBroken_56 2 rfl, rfl⟩
theorem dX0_firstBroken_63 : pm_dec mX0_firstBroken 63 (.ireturn, 1) 64 := ⟨pm_dcA dk_X0_firstBroken_56 3 rfl, rfl⟩
def dt_X0_isCarriedWith_0 : List (Nat × (Instr × Nat)) := [(0, (.iconst 2, 1)), (1, (.aload_n 0, 1)), (2, (.getfield 69, 3)), (5, (.iload_n 1, 1)), (6, (.iadd, 1)), (7, (.imul, 1)), (8, (.aload_n 0, 1)), (9, (.getfield 72, 3)), (12, (.if_icmp .le 7, 3)), (15, (.iconst 1, 1)), (16, (.goto 4, 3)), (19, (.iconst 0, 1)), (20, (.ireturn, 1))]
theorem dk_X0_isCarriedWith_0 : pm_dc mX0_isCarriedWith.2.1 dt_X0_isCarriedWith_0 = true := by decide +kernel
theorem dX0_isCarriedWith_0 : pm_dec mX0_isCarriedWith 0 (.iconst 2, 1) 1 := ⟨pm_dcA dk_X0_isCarriedWith_0 0 rfl, rfl⟩
theorem dX0_isCarriedWith_1 : pm_dec mX0_isCarriedWith 1 (.aload_n 0, 1) 2 := ⟨pm_dcA dk_X0_isCarriedWith_0 1 rfl, rfl⟩
theorem dX0_isCarriedWith_2 : pm_dec mX0_isCarriedWith 2 (.getfield 69, 3) 5 := ⟨pm_dcA dk_X0_isCarriedWith_0 2 rfl, rfl⟩
theorem dX0_isCarriedWith_5 : pm_dec mX0_isCarriedWith 5 (.iload_n 1, 1) 6 := ⟨pm_dcA dk_X0_isCarriedWith_0 3 rfl, rfl⟩
theorem dX0_isCarriedWith_6 : pm_dec mX0_isCarriedWith 6 (.iadd, 1) 7 := ⟨pm_dcA dk_X0_isCarriedWith_0 4 rfl, rfl⟩
theorem dX0_isCarriedWith_7 : pm_dec mX0_isCarriedWith 7 (.imul, 1) 8 := ⟨pm_dcA dk_X0_isCarriedWith_0 5 rfl, rfl⟩
theorem dX0_isCarriedWith_8 : pm_dec mX0_isCarriedWith 8 (.aload_n 0, 1) 9 := ⟨pm_dcA dk_X0_isCarriedWith_0 6 rfl, rfl⟩
theorem dX0_isCarriedWith_9 : pm_dec mX0_isCarriedWith 9 (.getfield 72, 3) 12 := ⟨pm_dcA dk_X0_isCarriedWith_0 7 rfl, rfl⟩
theorem dX0_isCarriedWith_12 : pm_dec mX0_isCarriedWith 12 (.if_icmp .le 7, 3) 15 := ⟨pm_dcA dk_X0_isCarriedWith_0 8 rfl, rfl⟩
theorem dX0_isCarriedWith_15 : pm_dec mX0_isCarriedWith 15 (.iconst 1, 1) 16 := ⟨pm_dcA dk_X0_isCarriedWith_0 9 rfl, rfl⟩
theorem dX0_isCarriedWith_16 : pm_dec mX0_isCarriedWith 16 (.goto 4, 3) 19 := ⟨pm_dcA dk_X0_isCarriedWith_0 10 rfl, rfl⟩
theorem dX0_isCarriedWith_19 : pm_dec mX0_isCarriedWith 19 (.iconst 0, 1) 20 := ⟨pm_dcA dk_X0_isCarriedWith_0 11 rfl, rfl⟩
theorem dX0_isCarriedWith_20 : pm_dec mX0_isCarriedWith 20 (.ireturn, 1) 21 := ⟨pm_dcA dk_X0_isCarriedWith_0 12 rfl, rfl⟩
def dt_X0_isPromisedFor_0 : List (Nat × (Instr × Nat)) := [(0, (.aload_n 0, 1)), (1, (.getfield 25, 3)), (4, (.invokevirtual 47, 3)), (7, (.istore_n 3, 1)), (8, (.iconst 0, 1)), (9, (.istore 4, 2)), (11, (.iload 4, 2)), (13, (.iload_n 3, 1)), (14, (.if_icmp .ge 62, 3)), (17, (.aload_n 0, 1)), (18, (.getfield 25, 3)), (21, (.iload 4, 2)), (23, (.iconst 0, 1)), (24, (.invokevirtual 39, 3)), (27, (.iload_n 1, 1)), (28, (.if_icmp .ne 42, 3)), (31, (.aload_n 0, 1)), (32, (.getfield 25, 3)), (35, (.iload 4, 2)), (37, (.iconst 1, 1)), (38, (.invokevirtual 39, 3)), (41, (.iload_n 2, 1)), (42, (.if_icmp .ne 28, 3)), (45, (.aload_n 0, 1)), (46, (.getfield 25, 3)), (49, (.iload 4, 2)), (51, (.iconst 3, 1)), (52, (.invokevirtual 39, 3)), (55, (.iconst 1, 1)), (56, (.if_icmp .ne 14, 3)), (59, (.aload_n 0, 1)), (60, (.iload 4, 2))]
theorem dk_X0_isPromisedFor_0 : pm_dc mX0_isPromisedFor.2.1 dt_X0_isPromisedFor_0 = true := by decide +kernel
theorem dX0_isPromisedFor_0 : pm_dec mX0_isPromisedFor 0 (.aload_n 0, 1) 1 := ⟨pm_dcA dk_X0_isPromisedFor_0 0 rfl, rfl⟩
theorem dX0_isPromisedFor_1 : pm_dec mX0_isPromisedFor 1 (.getfield 25, 3) 4 := ⟨pm_dcA dk_X0_isPromisedFor_0 1 rfl, rfl⟩
theorem dX0_isPromisedFor_4 : pm_dec mX0_isPromisedFor 4 (.invokevirtual 47, 3) 7 := ⟨pm_dcA dk_X0_isPromisedFor_0 2 rfl, rfl⟩
theorem dX0_isPromisedFor_7 : pm_dec mX0_isPromisedFor 7 (.istore_n 3, 1) 8 := ⟨pm_dcA dk_X0_isPromisedFor_0 3 rfl, rfl⟩
theorem dX0_isPromisedFor_8 : pm_dec mX0_isPromisedFor 8 (.iconst 0, 1) 9 := ⟨pm_dcA dk_X0_isPromisedFor_0 4 rfl, rfl⟩
theorem dX0_isPromisedFor_9 : pm_dec mX0_isPromisedFor 9 (.istore 4, 2) 11 := ⟨pm_dcA dk_X0_isPromisedFor_0 5 rfl, rfl⟩
theorem dX0_isPromisedFor_11 : pm_dec mX0_isPromisedFor 11 (.iload 4, 2) 13 := ⟨pm_dcA dk_X0_isPromisedFor_0 6 rfl, rfl⟩
theorem dX0_isPromisedFor_13 : pm_dec mX0_isPromisedFor 13 (.iload_n 3, 1) 14 := ⟨pm_dcA dk_X0_isPromisedFor_0 7 rfl, rfl⟩
theorem dX0_isPromisedFor_14 : pm_dec mX0_isPromisedFor 14 (.if_icmp .ge 62, 3) 17 := ⟨pm_dcA dk_X0_isPromisedFor_0 8 rfl, rfl⟩
theorem dX0_isPromisedFor_17 : pm_dec mX0_isPromisedFor 17 (.aload_n 0, 1) 18 := ⟨pm_dcA dk_X0_isPromisedFor_0 9 rfl, rfl⟩
theorem dX0_isPromisedFor_18 : pm_dec mX0_isPromisedFor 18 (.getfield 25, 3) 21 := ⟨pm_dcA dk_X0_isPromisedFor_0 10 rfl, rfl⟩
theorem dX0_isPromisedFor_21 : pm_dec mX0_isPromisedFor 21 (.iload 4, 2) 23 := ⟨pm_dcA dk_X0_isPromisedFor_0 11 rfl, rfl⟩
theorem dX0_isPromisedFor_23 : pm_dec mX0_isPromisedFor 23 (.iconst 0, 1) 24 := ⟨pm_dcA dk_X0_isPromisedFor_0 12 rfl, rfl⟩
theorem dX0_isPromisedFor_24 : pm_dec mX0_isPromisedFor 24 (.invokevirtual 39, 3) 27 := ⟨pm_dcA dk_X0_isPromisedFor_0 13 rfl, rfl⟩
theorem dX0_isPromisedFor_27 : pm_dec mX0_isPromisedFor 27 (.iload_n 1, 1) 28 := ⟨pm_dcA dk_X0_isPromisedFor_0 14 rfl, rfl⟩
theorem dX0_isPromisedFor_28 : pm_dec mX0_isPromisedFor 28 (.if_icmp .ne 42, 3) 31 := ⟨pm_dcA dk_X0_isPromisedFor_0 15 rfl, rfl⟩
theorem dX0_isPromisedFor_31 : pm_dec mX0_isPromisedFor 31 (.aload_n 0, 1) 32 := ⟨pm_dcA dk_X0_isPromisedFor_0 16 rfl, rfl⟩
theorem dX0_isPromisedFor_32 : pm_dec mX0_isPromisedFor 32 (.getfield 25, 3) 35 := ⟨pm_dcA dk_X0_isPromisedFor_0 17 rfl, rfl⟩
theorem dX0_isPromisedFor_35 : pm_dec mX0_isPromisedFor 35 (.iload 4, 2) 37 := ⟨pm_dcA dk_X0_isPromisedFor_0 18 rfl, rfl⟩
theorem dX0_isPromisedFor_37 : pm_dec mX0_isPromisedFor 37 (.iconst 1, 1) 38 := ⟨pm_dcA dk_X0_isPromisedFor_0 19 rfl, rfl⟩
theorem dX0_isPromisedFor_38 : pm_dec mX0_isPromisedFor 38 (.invokevirtual 39, 3) 41 := ⟨pm_dcA dk_X0_isPromisedFor_0 20 rfl, rfl⟩
theorem dX0_isPromisedFor_41 : pm_dec mX0_isPromisedFor 41 (.iload_n 2, 1) 42 := ⟨pm_dcA dk_X0_isPromisedFor_0 21 rfl, rfl⟩
theorem dX0_isPromisedFor_42 : pm_dec mX0_isPromisedFor 42 (.if_icmp .ne 28, 3) 45 := ⟨pm_dcA dk_X0_isPromisedFor_0 22 rfl, rfl⟩
theorem dX0_isPromisedFor_45 : pm_dec mX0_isPromisedFor 45 (.aload_n 0, 1) 46 := ⟨pm_dcA dk_X0_isPromisedFor_0 23 rfl, rfl⟩
theorem dX0_isPromisedFor_46 : pm_dec mX0_isPromisedFor 46 (.getfield 25, 3) 49 := ⟨pm_dcA dk_X0_isPromisedFor_0 24 rfl, rfl⟩
theorem dX0_isPromisedFor_49 : pm_dec mX0_isPromisedFor 49 (.iload 4, 2) 51 := ⟨pm_dcA dk_X0_isPromisedFor_0 25 rfl, rfl⟩
theorem dX0_isPromisedFor_51 : pm_dec mX0_isPromisedFor 51 (.iconst 3, 1) 52 := ⟨pm_dcA dk_X0_isPromisedFor_0 26 rfl, rfl⟩
theorem dX0_isPromisedFor_52 : pm_dec mX0_isPromisedFor 52 (.invokevirtual 39, 3) 55 := ⟨pm_dcA dk_X0_isPromisedFor_0 27 rfl, rfl⟩
theorem dX0_isPromisedFor_55 : pm_dec mX0_isPromisedFor 55 (.iconst 1, 1) 56 := ⟨pm_dcA dk_X0_isPromisedFor_0 28 rfl, rfl⟩
theorem dX0_isPromisedFor_56 : pm_dec mX0_isPromisedFor 56 (.if_icmp .ne 14, 3) 59 := ⟨pm_dcA dk_X0_isPromisedFor_0 29 rfl, rfl⟩
theorem dX0_isPromisedFor_59 : pm_dec mX0_isPromisedFor 59 (.aload_n 0, 1) 60 := ⟨pm_dcA dk_X0_isPromisedFor_0 30 rfl, rfl⟩
theorem dX0_isPromisedFor_60 : pm_dec mX0_isPromisedFor 60 (.iload 4, 2) 62 := ⟨pm_dcA dk_X0_isPromisedFor_0 31 rfl, rfl⟩
def dt_X0_isPromisedFor_62 : List (Nat × (Instr × Nat)) := [(62, (.invokevirtual 51, 3)), (65, (.ifCond .eq 5, 3)), (68, (.iconst 1, 1)), (69, (.ireturn, 1)), (70, (.iinc 4 1, 3)), (73, (.goto (-62), 3)), (76, (.iconst 0, 1)), (77, (.ireturn, 1))]
theorem dk_X0_isPromisedFor_62 : pm_dc mX0_isPromisedFor.2.1 dt_X0_isPromisedFor_62 = true := by decide +kernel
theorem dX0_isPromisedFor_62 : pm_dec mX0_isPromisedFor 62 (.invokevirtual 51, 3) 65 := ⟨pm_dcA dk_X0_isPromisedFor_62 0 rfl, rfl⟩
theorem dX0_isPromisedFor_65 : pm_dec mX0_isPromisedFor 65 (.ifCond .eq 5, 3) 68 := ⟨pm_dcA dk_X0_isPromisedFor_62 1 rfl, rfl⟩
theorem dX0_isPromisedFor_68 : pm_dec mX0_isPromisedFor 68 (.iconst 1, 1) 69 := ⟨pm_dcA dk_X0_isPromisedFor_62 2 rfl, rfl⟩
theorem dX0_isPromisedFor_69 : pm_dec mX0_isPromisedFor 69 (.ireturn, 1) 70 := ⟨pm_dcA dk_X0_isPromisedFor_62 3 rfl, rfl⟩
theorem dX0_isPromisedFor_70 : pm_dec mX0_isPromisedFor 70 (.iinc 4 1, 3) 73 := ⟨pm_dcA dk_X0_isPromisedFor_62 4 rfl, rfl⟩
theorem dX0_isPromisedFor_73 : pm_dec mX0_isPromisedFor 73 (.goto (-62), 3) 76 := ⟨pm_dcA dk_X0_isPromisedFor_62 5 rfl, rfl⟩
theorem dX0_isPromisedFor_76 : pm_dec mX0_isPromisedFor 76 (.iconst 0, 1) 77 := ⟨pm_dcA dk_X0_isPromisedFor_62 6 rfl, rfl⟩
theorem dX0_isPromisedFor_77 : pm_dec mX0_isPromisedFor 77 (.ireturn, 1) 78 := ⟨pm_dcA dk_X0_isPromisedFor_62 7 rfl, rfl⟩
def dt_X0_keepIfBetter_0 : List (Nat × (Instr × Nat)) := [(0, (.iload_n 1, 1)), (1, (.invokestatic 134, 3)), (4, (.aload_n 0, 1)), (5, (.getfield 118, 3)), (8, (.invokestatic 134, 3)), (11, (.isub, 1)), (12, (.istore_n 3, 1)), (13, (.iload_n 3, 1)), (14, (.ifCond .lt 15, 3)), (17, (.iload_n 3, 1)), (18, (.ifCond .ne 15, 3)), (21, (.iload_n 1, 1)), (22, (.aload_n 0, 1)), (23, (.getfield 118, 3)), (26, (.if_icmp .ge 7, 3)), (29, (.iconst 1, 1)), (30, (.goto 4, 3)), (33, (.iconst 0, 1)), (34, (.istore 4, 2)), (36, (.iload_n 2, 1)), (37, (.aload_n 0, 1)), (38, (.getfield 115, 3)), (41, (.if_icmp .lt 16, 3)), (44, (.iload_n 2, 1)), (45, (.aload_n 0, 1)), (46, (.getfield 115, 3)), (49, (.if_icmp .ne 18, 3)), (52, (.iload 4, 2)), (54, (.ifCond .eq 13, 3)), (57, (.aload_n 0, 1)), (58, (.iload_n 2, 1)), (59, (.putfield 115, 3))]
theorem dk_X0_keepIfBetter_0 : pm_dc mX0_keepIfBetter.2.1 dt_X0_keepIfBetter_0 = true := by decide +kernel
theorem dX0_keepIfBetter_0 : pm_dec mX0_keepIfBetter 0 (.iload_n 1, 1) 1 := ⟨pm_dcA dk_X0_keepIfBetter_0 0 rfl, rfl⟩
theorem dX0_keepIfBetter_1 : pm_dec mX0_keepIfBetter 1 (.invokestatic 134, 3) 4 := ⟨pm_dcA dk_X0_keepIfBetter_0 1 rfl, rfl⟩
theorem dX0_keepIfBetter_4 : pm_dec mX0_keepIfBetter 4 (.aload_n 0, 1) 5 := ⟨pm_dcA dk_X0_keepIfBetter_0 2 rfl, rfl⟩
theorem dX0_keepIfBetter_5 : pm_dec mX0_keepIfBetter 5 (.getfield 118, 3) 8 := ⟨pm_dcA dk_X0_keepIfBetter_0 3 rfl, rfl⟩
theorem dX0_keepIfBetter_8 : pm_dec mX0_keepIfBetter 8 (.invokestatic 134, 3) 11 := ⟨pm_dcA dk_X0_keepIfBetter_0 4 rfl, rfl⟩
theorem dX0_keepIfBetter_11 : pm_dec mX0_keepIfBetter 11 (.isub, 1) 12 := ⟨pm_dcA dk_X0_keepIfBetter_0 5 rfl, rfl⟩
theorem dX0_keepIfBetter_12 : pm_dec mX0_keepIfBetter 12 (.istore_n 3, 1) 13 := ⟨pm_dcA dk_X0_keepIfBetter_0 6 rfl, rfl⟩
theorem dX0_keepIfBetter_13 : pm_dec mX0_keepIfBetter 13 (.iload_n 3, 1) 14 := ⟨pm_dcA dk_X0_keepIfBetter_0 7 rfl, rfl⟩
theorem dX0_keepIfBetter_14 : pm_dec mX0_keepIfBetter 14 (.ifCond .lt 15, 3) 17 := ⟨pm_dcA dk_X0_keepIfBetter_0 8 rfl, rfl⟩
theorem dX0_keepIfBetter_17 : pm_dec mX0_keepIfBetter 17 (.iload_n 3, 1) 18 := ⟨pm_dcA dk_X0_keepIfBetter_0 9 rfl, rfl⟩
theorem dX0_keepIfBetter_18 : pm_dec mX0_keepIfBetter 18 (.ifCond .ne 15, 3) 21 := ⟨pm_dcA dk_X0_keepIfBetter_0 10 rfl, rfl⟩
theorem dX0_keepIfBetter_21 : pm_dec mX0_keepIfBetter 21 (.iload_n 1, 1) 22 := ⟨pm_dcA dk_X0_keepIfBetter_0 11 rfl, rfl⟩
theorem dX0_keepIfBetter_22 : pm_dec mX0_keepIfBetter 22 (.aload_n 0, 1) 23 := ⟨pm_dcA dk_X0_keepIfBetter_0 12 rfl, rfl⟩
theorem dX0_keepIfBetter_23 : pm_dec mX0_keepIfBetter 23 (.getfield 118, 3) 26 := ⟨pm_dcA dk_X0_keepIfBetter_0 13 rfl, rfl⟩
theorem dX0_keepIfBetter_26 : pm_dec mX0_keepIfBetter 26 (.if_icmp .ge 7, 3) 29 := ⟨pm_dcA dk_X0_keepIfBetter_0 14 rfl, rfl⟩
theorem dX0_keepIfBetter_29 : pm_dec mX0_keepIfBetter 29 (.iconst 1, 1) 30 := ⟨pm_dcA dk_X0_keepIfBetter_0 15 rfl, rfl⟩
theorem dX0_keepIfBetter_30 : pm_dec mX0_keepIfBetter 30 (.goto 4, 3) 33 := ⟨pm_dcA dk_X0_keepIfBetter_0 16 rfl, rfl⟩
theorem dX0_keepIfBetter_33 : pm_dec mX0_keepIfBetter 33 (.iconst 0, 1) 34 := ⟨pm_dcA dk_X0_keepIfBetter_0 17 rfl, rfl⟩
theorem dX0_keepIfBetter_34 : pm_dec mX0_keepIfBetter 34 (.istore 4, 2) 36 := ⟨pm_dcA dk_X0_keepIfBetter_0 18 rfl, rfl⟩
theorem dX0_keepIfBetter_36 : pm_dec mX0_keepIfBetter 36 (.iload_n 2, 1) 37 := ⟨pm_dcA dk_X0_keepIfBetter_0 19 rfl, rfl⟩
theorem dX0_keepIfBetter_37 : pm_dec mX0_keepIfBetter 37 (.aload_n 0, 1) 38 := ⟨pm_dcA dk_X0_keepIfBetter_0 20 rfl, rfl⟩
theorem dX0_keepIfBetter_38 : pm_dec mX0_keepIfBetter 38 (.getfield 115, 3) 41 := ⟨pm_dcA dk_X0_keepIfBetter_0 21 rfl, rfl⟩
theorem dX0_keepIfBetter_41 : pm_dec mX0_keepIfBetter 41 (.if_icmp .lt 16, 3) 44 := ⟨pm_dcA dk_X0_keepIfBetter_0 22 rfl, rfl⟩
theorem dX0_keepIfBetter_44 : pm_dec mX0_keepIfBetter 44 (.iload_n 2, 1) 45 := ⟨pm_dcA dk_X0_keepIfBetter_0 23 rfl, rfl⟩
theorem dX0_keepIfBetter_45 : pm_dec mX0_keepIfBetter 45 (.aload_n 0, 1) 46 := ⟨pm_dcA dk_X0_keepIfBetter_0 24 rfl, rfl⟩
theorem dX0_keepIfBetter_46 : pm_dec mX0_keepIfBetter 46 (.getfield 115, 3) 49 := ⟨pm_dcA dk_X0_keepIfBetter_0 25 rfl, rfl⟩
theorem dX0_keepIfBetter_49 : pm_dec mX0_keepIfBetter 49 (.if_icmp .ne 18, 3) 52 := ⟨pm_dcA dk_X0_keepIfBetter_0 26 rfl, rfl⟩
theorem dX0_keepIfBetter_52 : pm_dec mX0_keepIfBetter 52 (.iload 4, 2) 54 := ⟨pm_dcA dk_X0_keepIfBetter_0 27 rfl, rfl⟩
theorem dX0_keepIfBetter_54 : pm_dec mX0_keepIfBetter 54 (.ifCond .eq 13, 3) 57 := ⟨pm_dcA dk_X0_keepIfBetter_0 28 rfl, rfl⟩
theorem dX0_keepIfBetter_57 : pm_dec mX0_keepIfBetter 57 (.aload_n 0, 1) 58 := ⟨pm_dcA dk_X0_keepIfBetter_0 29 rfl, rfl⟩
theorem dX0_keepIfBetter_58 : pm_dec mX0_keepIfBetter 58 (.iload_n 2, 1) 59 := ⟨pm_dcA dk_X0_keepIfBetter_0 30 rfl, rfl⟩
theorem dX0_keepIfBetter_59 : pm_dec mX0_keepIfBetter 59 (.putfield 115, 3) 62 := ⟨pm_dcA dk_X0_keepIfBetter_0 31 rfl, rfl⟩
def dt_X0_keepIfBetter_62 : List (Nat × (Instr × Nat)) := [(62, (.aload_n 0, 1)), (63, (.iload_n 1, 1)), (64, (.putfield 118, 3)), (67, (.return_, 1))]
theorem dk_X0_keepIfBetter_62 : pm_dc mX0_keepIfBetter.2.1 dt_X0_keepIfBetter_62 = true := by decide +kernel
theorem dX0_keepIfBetter_62 : pm_dec mX0_keepIfBetter 62 (.aload_n 0, 1) 63 := ⟨pm_dcA dk_X0_keepIfBetter_62 0 rfl, rfl⟩
theorem dX0_keepIfBetter_63 : pm_dec mX0_keepIfBetter 63 (.iload_n 1, 1) 64 := ⟨pm_dcA dk_X0_keepIfBetter_62 1 rfl, rfl⟩
theorem dX0_keepIfBetter_64 : pm_dec mX0_keepIfBetter 64 (.putfield 118, 3) 67 := ⟨pm_dcA dk_X0_keepIfBetter_62 2 rfl, rfl⟩
theorem dX0_keepIfBetter_67 : pm_dec mX0_keepIfBetter 67 (.return_, 1) 68 := ⟨pm_dcA dk_X0_keepIfBetter_62 3 rfl, rfl⟩
def dt_X0_ruleInForce_0 : List (Nat × (Instr × Nat)) := [(0, (.aload_n 0, 1)), (1, (.getfield 9, 3)), (4, (.getfield 63, 3)), (7, (.invokevirtual 47, 3)), (10, (.istore_n 1, 1)), (11, (.iconst 0, 1)), (12, (.istore_n 2, 1)), (13, (.iload_n 2, 1)), (14, (.iload_n 1, 1)), (15, (.if_icmp .ge 49, 3)), (18, (.aload_n 0, 1)), (19, (.getfield 9, 3)), (22, (.getfield 63, 3)), (25, (.iload_n 2, 1)), (26, (.bipush 13, 2)), (28, (.invokevirtual 39, 3)), (31, (.ifCond .eq 27, 3)), (34, (.aload_n 0, 1)), (35, (.getfield 15, 3)), (38, (.iconst 0, 1)), (39, (.aload_n 0, 1)), (40, (.getfield 9, 3)), (43, (.getfield 43, 3)), (46, (.aload_n 0, 1)), (47, (.getfield 9, 3)), (50, (.iload_n 2, 1)), (51, (.invokevirtual 91, 3)), (54, (.invokevirtual 94, 3)), (57, (.ireturn, 1)), (58, (.iinc 2 1, 3)), (61, (.goto (-48), 3)), (64, (.iconst (-1), 1))]
theorem dk_X0_ruleInForce_0 : pm_dc mX0_ruleInForce.2.1 dt_X0_ruleInForce_0 = true := by decide +kernel
theorem dX0_ruleInForce_0 : pm_dec mX0_ruleInForce 0 (.aload_n 0, 1) 1 := ⟨pm_dcA dk_X0_ruleInForce_0 0 rfl, rfl⟩
theorem dX0_ruleInForce_1 : pm_dec mX0_ruleInForce 1 (.getfield 9, 3) 4 := ⟨pm_dcA dk_X0_ruleInForce_0 1 rfl, rfl⟩
theorem dX0_ruleInForce_4 : pm_dec mX0_ruleInForce 4 (.getfield 63, 3) 7 := ⟨pm_dcA dk_X0_ruleInForce_0 2 rfl, rfl⟩
theorem dX0_ruleInForce_7 : pm_dec mX0_ruleInForce 7 (.invokevirtual 47, 3) 10 := ⟨pm_dcA dk_X0_ruleInForce_0 3 rfl, rfl⟩
theorem dX0_ruleInForce_10 : pm_dec mX0_ruleInForce 10 (.istore_n 1, 1) 11 := ⟨pm_dcA dk_X0_ruleInForce_0 4 rfl, rfl⟩
theorem dX0_ruleInForce_11 : pm_dec mX0_ruleInForce 11 (.iconst 0, 1) 12 := ⟨pm_dcA dk_X0_ruleInForce_0 5 rfl, rfl⟩
theorem dX0_ruleInForce_12 : pm_dec mX0_ruleInForce 12 (.istore_n 2, 1) 13 := ⟨pm_dcA dk_X0_ruleInForce_0 6 rfl, rfl⟩
theorem dX0_ruleInForce_13 : pm_dec mX0_ruleInForce 13 (.iload_n 2, 1) 14 := ⟨pm_dcA dk_X0_ruleInForce_0 7 rfl, rfl⟩
theorem dX0_ruleInForce_14 : pm_dec mX0_ruleInForce 14 (.iload_n 1, 1) 15 := ⟨pm_dcA dk_X0_ruleInForce_0 8 rfl, rfl⟩
theorem dX0_ruleInForce_15 : pm_dec mX0_ruleInForce 15 (.if_icmp .ge 49, 3) 18 := ⟨pm_dcA dk_X0_ruleInForce_0 9 rfl, rfl⟩
theorem dX0_ruleInForce_18 : pm_dec mX0_ruleInForce 18 (.aload_n 0, 1) 19 := ⟨pm_dcA dk_X0_ruleInForce_0 10 rfl, rfl⟩
theorem dX0_ruleInForce_19 : pm_dec mX0_ruleInForce 19 (.getfield 9, 3) 22 := ⟨pm_dcA dk_X0_ruleInForce_0 11 rfl, rfl⟩
theorem dX0_ruleInForce_22 : pm_dec mX0_ruleInForce 22 (.getfield 63, 3) 25 := ⟨pm_dcA dk_X0_ruleInForce_0 12 rfl, rfl⟩
theorem dX0_ruleInForce_25 : pm_dec mX0_ruleInForce 25 (.iload_n 2, 1) 26 := ⟨pm_dcA dk_X0_ruleInForce_0 13 rfl, rfl⟩
theorem dX0_ruleInForce_26 : pm_dec mX0_ruleInForce 26 (.bipush 13, 2) 28 := ⟨pm_dcA dk_X0_ruleInForce_0 14 rfl, rfl⟩
theorem dX0_ruleInForce_28 : pm_dec mX0_ruleInForce 28 (.invokevirtual 39, 3) 31 := ⟨pm_dcA dk_X0_ruleInForce_0 15 rfl, rfl⟩
theorem dX0_ruleInForce_31 : pm_dec mX0_ruleInForce 31 (.ifCond .eq 27, 3) 34 := ⟨pm_dcA dk_X0_ruleInForce_0 16 rfl, rfl⟩
theorem dX0_ruleInForce_34 : pm_dec mX0_ruleInForce 34 (.aload_n 0, 1) 35 := ⟨pm_dcA dk_X0_ruleInForce_0 17 rfl, rfl⟩
theorem dX0_ruleInForce_35 : pm_dec mX0_ruleInForce 35 (.getfield 15, 3) 38 := ⟨pm_dcA dk_X0_ruleInForce_0 18 rfl, rfl⟩
theorem dX0_ruleInForce_38 : pm_dec mX0_ruleInForce 38 (.iconst 0, 1) 39 := ⟨pm_dcA dk_X0_ruleInForce_0 19 rfl, rfl⟩
theorem dX0_ruleInForce_39 : pm_dec mX0_ruleInForce 39 (.aload_n 0, 1) 40 := ⟨pm_dcA dk_X0_ruleInForce_0 20 rfl, rfl⟩
theorem dX0_ruleInForce_40 : pm_dec mX0_ruleInForce 40 (.getfield 9, 3) 43 := ⟨pm_dcA dk_X0_ruleInForce_0 21 rfl, rfl⟩
theorem dX0_ruleInForce_43 : pm_dec mX0_ruleInForce 43 (.getfield 43, 3) 46 := ⟨pm_dcA dk_X0_ruleInForce_0 22 rfl, rfl⟩
theorem dX0_ruleInForce_46 : pm_dec mX0_ruleInForce 46 (.aload_n 0, 1) 47 := ⟨pm_dcA dk_X0_ruleInForce_0 23 rfl, rfl⟩
theorem dX0_ruleInForce_47 : pm_dec mX0_ruleInForce 47 (.getfield 9, 3) 50 := ⟨pm_dcA dk_X0_ruleInForce_0 24 rfl, rfl⟩
theorem dX0_ruleInForce_50 : pm_dec mX0_ruleInForce 50 (.iload_n 2, 1) 51 := ⟨pm_dcA dk_X0_ruleInForce_0 25 rfl, rfl⟩
theorem dX0_ruleInForce_51 : pm_dec mX0_ruleInForce 51 (.invokevirtual 91, 3) 54 := ⟨pm_dcA dk_X0_ruleInForce_0 26 rfl, rfl⟩
theorem dX0_ruleInForce_54 : pm_dec mX0_ruleInForce 54 (.invokevirtual 94, 3) 57 := ⟨pm_dcA dk_X0_ruleInForce_0 27 rfl, rfl⟩
theorem dX0_ruleInForce_57 : pm_dec mX0_ruleInForce 57 (.ireturn, 1) 58 := ⟨pm_dcA dk_X0_ruleInForce_0 28 rfl, rfl⟩
theorem dX0_ruleInForce_58 : pm_dec mX0_ruleInForce 58 (.iinc 2 1, 3) 61 := ⟨pm_dcA dk_X0_ruleInForce_0 29 rfl, rfl⟩
theorem dX0_ruleInForce_61 : pm_dec mX0_ruleInForce 61 (.goto (-48), 3) 64 := ⟨pm_dcA dk_X0_ruleInForce_0 30 rfl, rfl⟩
theorem dX0_ruleInForce_64 : pm_dec mX0_ruleInForce 64 (.iconst (-1), 1) 65 := ⟨pm_dcA dk_X0_ruleInForce_0 31 rfl, rfl⟩
def dt_X0_ruleInForce_65 : List (Nat × (Instr × Nat)) := [(65, (.ireturn, 1))]
theorem dk_X0_ruleInForce_65 : pm_dc mX0_ruleInForce.2.1 dt_X0_ruleInForce_65 = true := by decide +kernel
theorem dX0_ruleInForce_65 : pm_dec mX0_ruleInForce 65 (.ireturn, 1) 66 := ⟨pm_dcA dk_X0_ruleInForce_65 0 rfl, rfl⟩
def dt_X0_stands_0 : List (Nat × (Instr × Nat)) := [(0, (.aload_n 0, 1)), (1, (.getfield 25, 3)), (4, (.iload_n 1, 1)), (5, (.iconst 4, 1)), (6, (.invokevirtual 39, 3)), (9, (.ifCond .ne 26, 3)), (12, (.aload_n 0, 1)), (13, (.getfield 25, 3)), (16, (.iload_n 1, 1)), (17, (.iconst 2, 1)), (18, (.invokevirtual 39, 3)), (21, (.aload_n 0, 1)), (22, (.getfield 9, 3)), (25, (.getfield 43, 3)), (28, (.if_icmp .lt 7, 3)), (31, (.iconst 1, 1)), (32, (.goto 4, 3)), (35, (.iconst 0, 1)), (36, (.ireturn, 1))]
theorem dk_X0_stands_0 : pm_dc mX0_stands.2.1 dt_X0_stands_0 = true := by decide +kernel
theorem dX0_stands_0 : pm_dec mX0_stands 0 (.aload_n 0, 1) 1 := ⟨pm_dcA dk_X0_stands_0 0 rfl, rfl⟩
theorem dX0_stands_1 : pm_dec mX0_stands 1 (.getfield 25, 3) 4 := ⟨pm_dcA dk_X0_stands_0 1 rfl, rfl⟩
theorem dX0_stands_4 : pm_dec mX0_stands 4 (.iload_n 1, 1) 5 := ⟨pm_dcA dk_X0_stands_0 2 rfl, rfl⟩
theorem dX0_stands_5 : pm_dec mX0_stands 5 (.iconst 4, 1) 6 := ⟨pm_dcA dk_X0_stands_0 3 rfl, rfl⟩
theorem dX0_stands_6 : pm_dec mX0_stands 6 (.invokevirtual 39, 3) 9 := ⟨pm_dcA dk_X0_stands_0 4 rfl, rfl⟩
theorem dX0_stands_9 : pm_dec mX0_stands 9 (.ifCond .ne 26, 3) 12 := ⟨pm_dcA dk_X0_stands_0 5 rfl, rfl⟩
theorem dX0_stands_12 : pm_dec mX0_stands 12 (.aload_n 0, 1) 13 := ⟨pm_dcA dk_X0_stands_0 6 rfl, rfl⟩
theorem dX0_stands_13 : pm_dec mX0_stands 13 (.getfield 25, 3) 16 := ⟨pm_dcA dk_X0_stands_0 7 rfl, rfl⟩
theorem dX0_stands_16 : pm_dec mX0_stands 16 (.iload_n 1, 1) 17 := ⟨pm_dcA dk_X0_stands_0 8 rfl, rfl⟩
theorem dX0_stands_17 : pm_dec mX0_stands 17 (.iconst 2, 1) 18 := ⟨pm_dcA dk_X0_stands_0 9 rfl, rfl⟩
theorem dX0_stands_18 : pm_dec mX0_stands 18 (.invokevirtual 39, 3) 21 := ⟨pm_dcA dk_X0_stands_0 10 rfl, rfl⟩
theorem dX0_stands_21 : pm_dec mX0_stands 21 (.aload_n 0, 1) 22 := ⟨pm_dcA dk_X0_stands_0 11 rfl, rfl⟩
theorem dX0_stands_22 : pm_dec mX0_stands 22 (.getfield 9, 3) 25 := ⟨pm_dcA dk_X0_stands_0 12 rfl, rfl⟩
theorem dX0_stands_25 : pm_dec mX0_stands 25 (.getfield 43, 3) 28 := ⟨pm_dcA dk_X0_stands_0 13 rfl, rfl⟩
theorem dX0_stands_28 : pm_dec mX0_stands 28 (.if_icmp .lt 7, 3) 31 := ⟨pm_dcA dk_X0_stands_0 14 rfl, rfl⟩
theorem dX0_stands_31 : pm_dec mX0_stands 31 (.iconst 1, 1) 32 := ⟨pm_dcA dk_X0_stands_0 15 rfl, rfl⟩
theorem dX0_stands_32 : pm_dec mX0_stands 32 (.goto 4, 3) 35 := ⟨pm_dcA dk_X0_stands_0 16 rfl, rfl⟩
theorem dX0_stands_35 : pm_dec mX0_stands 35 (.iconst 0, 1) 36 := ⟨pm_dcA dk_X0_stands_0 17 rfl, rfl⟩
theorem dX0_stands_36 : pm_dec mX0_stands 36 (.ireturn, 1) 37 := ⟨pm_dcA dk_X0_stands_0 18 rfl, rfl⟩
def dt_X0_unseat_0 : List (Nat × (Instr × Nat)) := [(0, (.aload_n 0, 1)), (1, (.getfield 9, 3)), (4, (.getfield 63, 3)), (7, (.iload_n 1, 1)), (8, (.bipush 13, 2)), (10, (.iconst 0, 1)), (11, (.invokevirtual 55, 3)), (14, (.aload_n 0, 1)), (15, (.iload_n 1, 1)), (16, (.iconst 1, 1)), (17, (.invokevirtual 66, 3)), (20, (.pop, 1)), (21, (.return_, 1))]
theorem dk_X0_unseat_0 : pm_dc mX0_unseat.2.1 dt_X0_unseat_0 = true := by decide +kernel
theorem dX0_unseat_0 : pm_dec mX0_unseat 0 (.aload_n 0, 1) 1 := ⟨pm_dcA dk_X0_unseat_0 0 rfl, rfl⟩
theorem dX0_unseat_1 : pm_dec mX0_unseat 1 (.getfield 9, 3) 4 := ⟨pm_dcA dk_X0_unseat_0 1 rfl, rfl⟩
theorem dX0_unseat_4 : pm_dec mX0_unseat 4 (.getfield 63, 3) 7 := ⟨pm_dcA dk_X0_unseat_0 2 rfl, rfl⟩
theorem dX0_unseat_7 : pm_dec mX0_unseat 7 (.iload_n 1, 1) 8 := ⟨pm_dcA dk_X0_unseat_0 3 rfl, rfl⟩
theorem dX0_unseat_8 : pm_dec mX0_unseat 8 (.bipush 13, 2) 10 := ⟨pm_dcA dk_X0_unseat_0 4 rfl, rfl⟩
theorem dX0_unseat_10 : pm_dec mX0_unseat 10 (.iconst 0, 1) 11 := ⟨pm_dcA dk_X0_unseat_0 5 rfl, rfl⟩
theorem dX0_unseat_11 : pm_dec mX0_unseat 11 (.invokevirtual 55, 3) 14 := ⟨pm_dcA dk_X0_unseat_0 6 rfl, rfl⟩
theorem dX0_unseat_14 : pm_dec mX0_unseat 14 (.aload_n 0, 1) 15 := ⟨pm_dcA dk_X0_unseat_0 7 rfl, rfl⟩
theorem dX0_unseat_15 : pm_dec mX0_unseat 15 (.iload_n 1, 1) 16 := ⟨pm_dcA dk_X0_unseat_0 8 rfl, rfl⟩
theorem dX0_unseat_16 : pm_dec mX0_unseat 16 (.iconst 1, 1) 17 := ⟨pm_dcA dk_X0_unseat_0 9 rfl, rfl⟩
theorem dX0_unseat_17 : pm_dec mX0_unseat 17 (.invokevirtual 66, 3) 20 := ⟨pm_dcA dk_X0_unseat_0 10 rfl, rfl⟩
theorem dX0_unseat_20 : pm_dec mX0_unseat 20 (.pop, 1) 21 := ⟨pm_dcA dk_X0_unseat_0 11 rfl, rfl⟩
theorem dX0_unseat_21 : pm_dec mX0_unseat 21 (.return_, 1) 22 := ⟨pm_dcA dk_X0_unseat_0 12 rfl, rfl⟩
def dt_X0_weigh_0 : List (Nat × (Instr × Nat)) := [(0, (.aload_n 0, 1)), (1, (.iconst 0, 1)), (2, (.putfield 69, 3)), (5, (.aload_n 0, 1)), (6, (.iconst 0, 1)), (7, (.putfield 72, 3)), (10, (.aload_n 0, 1)), (11, (.getfield 36, 3)), (14, (.invokevirtual 75, 3)), (17, (.aload_n 0, 1)), (18, (.invokevirtual 78, 3)), (21, (.istore_n 2, 1)), (22, (.aload_n 0, 1)), (23, (.getfield 9, 3)), (26, (.getfield 63, 3)), (29, (.invokevirtual 47, 3)), (32, (.istore_n 3, 1)), (33, (.iconst 0, 1)), (34, (.istore 4, 2)), (36, (.iload 4, 2)), (38, (.iload_n 3, 1)), (39, (.if_icmp .ge 40, 3)), (42, (.aload_n 0, 1)), (43, (.getfield 9, 3)), (46, (.getfield 63, 3)), (49, (.iload 4, 2)), (51, (.bipush 13, 2)), (53, (.invokevirtual 39, 3)), (56, (.ifCond .eq 17, 3)), (59, (.aload_n 0, 1)), (60, (.iload 4, 2)), (62, (.iload_n 1, 1))]
theorem dk_X0_weigh_0 : pm_dc mX0_weigh.2.1 dt_X0_weigh_0 = true := by decide +kernel
theorem dX0_weigh_0 : pm_dec mX0_weigh 0 (.aload_n 0, 1) 1 := ⟨pm_dcA dk_X0_weigh_0 0 rfl, rfl⟩
theorem dX0_weigh_1 : pm_dec mX0_weigh 1 (.iconst 0, 1) 2 := ⟨pm_dcA dk_X0_weigh_0 1 rfl, rfl⟩
theorem dX0_weigh_2 : pm_dec mX0_weigh 2 (.putfield 69, 3) 5 := ⟨pm_dcA dk_X0_weigh_0 2 rfl, rfl⟩
theorem dX0_weigh_5 : pm_dec mX0_weigh 5 (.aload_n 0, 1) 6 := ⟨pm_dcA dk_X0_weigh_0 3 rfl, rfl⟩
theorem dX0_weigh_6 : pm_dec mX0_weigh 6 (.iconst 0, 1) 7 := ⟨pm_dcA dk_X0_weigh_0 4 rfl, rfl⟩
theorem dX0_weigh_7 : pm_dec mX0_weigh 7 (.putfield 72, 3) 10 := ⟨pm_dcA dk_X0_weigh_0 5 rfl, rfl⟩
theorem dX0_weigh_10 : pm_dec mX0_weigh 10 (.aload_n 0, 1) 11 := ⟨pm_dcA dk_X0_weigh_0 6 rfl, rfl⟩
theorem dX0_weigh_11 : pm_dec mX0_weigh 11 (.getfield 36, 3) 14 := ⟨pm_dcA dk_X0_weigh_0 7 rfl, rfl⟩
theorem dX0_weigh_14 : pm_dec mX0_weigh 14 (.invokevirtual 75, 3) 17 := ⟨pm_dcA dk_X0_weigh_0 8 rfl, rfl⟩
theorem dX0_weigh_17 : pm_dec mX0_weigh 17 (.aload_n 0, 1) 18 := ⟨pm_dcA dk_X0_weigh_0 9 rfl, rfl⟩
theorem dX0_weigh_18 : pm_dec mX0_weigh 18 (.invokevirtual 78, 3) 21 := ⟨pm_dcA dk_X0_weigh_0 10 rfl, rfl⟩
theorem dX0_weigh_21 : pm_dec mX0_weigh 21 (.istore_n 2, 1) 22 := ⟨pm_dcA dk_X0_weigh_0 11 rfl, rfl⟩
theorem dX0_weigh_22 : pm_dec mX0_weigh 22 (.aload_n 0, 1) 23 := ⟨pm_dcA dk_X0_weigh_0 12 rfl, rfl⟩
theorem dX0_weigh_23 : pm_dec mX0_weigh 23 (.getfield 9, 3) 26 := ⟨pm_dcA dk_X0_weigh_0 13 rfl, rfl⟩
theorem dX0_weigh_26 : pm_dec mX0_weigh 26 (.getfield 63, 3) 29 := ⟨pm_dcA dk_X0_weigh_0 14 rfl, rfl⟩
theorem dX0_weigh_29 : pm_dec mX0_weigh 29 (.invokevirtual 47, 3) 32 := ⟨pm_dcA dk_X0_weigh_0 15 rfl, rfl⟩
theorem dX0_weigh_32 : pm_dec mX0_weigh 32 (.istore_n 3, 1) 33 := ⟨pm_dcA dk_X0_weigh_0 16 rfl, rfl⟩
theorem dX0_weigh_33 : pm_dec mX0_weigh 33 (.iconst 0, 1) 34 := ⟨pm_dcA dk_X0_weigh_0 17 rfl, rfl⟩
theorem dX0_weigh_34 : pm_dec mX0_weigh 34 (.istore 4, 2) 36 := ⟨pm_dcA dk_X0_weigh_0 18 rfl, rfl⟩
theorem dX0_weigh_36 : pm_dec mX0_weigh 36 (.iload 4, 2) 38 := ⟨pm_dcA dk_X0_weigh_0 19 rfl, rfl⟩
theorem dX0_weigh_38 : pm_dec mX0_weigh 38 (.iload_n 3, 1) 39 := ⟨pm_dcA dk_X0_weigh_0 20 rfl, rfl⟩
theorem dX0_weigh_39 : pm_dec mX0_weigh 39 (.if_icmp .ge 40, 3) 42 := ⟨pm_dcA dk_X0_weigh_0 21 rfl, rfl⟩
theorem dX0_weigh_42 : pm_dec mX0_weigh 42 (.aload_n 0, 1) 43 := ⟨pm_dcA dk_X0_weigh_0 22 rfl, rfl⟩
theorem dX0_weigh_43 : pm_dec mX0_weigh 43 (.getfield 9, 3) 46 := ⟨pm_dcA dk_X0_weigh_0 23 rfl, rfl⟩
theorem dX0_weigh_46 : pm_dec mX0_weigh 46 (.getfield 63, 3) 49 := ⟨pm_dcA dk_X0_weigh_0 24 rfl, rfl⟩
theorem dX0_weigh_49 : pm_dec mX0_weigh 49 (.iload 4, 2) 51 := ⟨pm_dcA dk_X0_weigh_0 25 rfl, rfl⟩
theorem dX0_weigh_51 : pm_dec mX0_weigh 51 (.bipush 13, 2) 53 := ⟨pm_dcA dk_X0_weigh_0 26 rfl, rfl⟩
theorem dX0_weigh_53 : pm_dec mX0_weigh 53 (.invokevirtual 39, 3) 56 := ⟨pm_dcA dk_X0_weigh_0 27 rfl, rfl⟩
theorem dX0_weigh_56 : pm_dec mX0_weigh 56 (.ifCond .eq 17, 3) 59 := ⟨pm_dcA dk_X0_weigh_0 28 rfl, rfl⟩
theorem dX0_weigh_59 : pm_dec mX0_weigh 59 (.aload_n 0, 1) 60 := ⟨pm_dcA dk_X0_weigh_0 29 rfl, rfl⟩
theorem dX0_weigh_60 : pm_dec mX0_weigh 60 (.iload 4, 2) 62 := ⟨pm_dcA dk_X0_weigh_0 30 rfl, rfl⟩
theorem dX0_weigh_62 : pm_dec mX0_weigh 62 (.iload_n 1, 1) 63 := ⟨pm_dcA dk_X0_weigh_0 31 rfl, rfl⟩
def dt_X0_weigh_63 : List (Nat × (Instr × Nat)) := [(63, (.aload_n 0, 1)), (64, (.iload 4, 2)), (66, (.iload_n 2, 1)), (67, (.invokevirtual 81, 3)), (70, (.invokevirtual 84, 3)), (73, (.iinc 4 1, 3)), (76, (.goto (-40), 3)), (79, (.return_, 1))]
theorem dk_X0_weigh_63 : pm_dc mX0_weigh.2.1 dt_X0_weigh_63 = true := by decide +kernel
theorem dX0_weigh_63 : pm_dec mX0_weigh 63 (.aload_n 0, 1) 64 := ⟨pm_dcA dk_X0_weigh_63 0 rfl, rfl⟩
theorem dX0_weigh_64 : pm_dec mX0_weigh 64 (.iload 4, 2) 66 := ⟨pm_dcA dk_X0_weigh_63 1 rfl, rfl⟩
theorem dX0_weigh_66 : pm_dec mX0_weigh 66 (.iload_n 2, 1) 67 := ⟨pm_dcA dk_X0_weigh_63 2 rfl, rfl⟩
theorem dX0_weigh_67 : pm_dec mX0_weigh 67 (.invokevirtual 81, 3) 70 := ⟨pm_dcA dk_X0_weigh_63 3 rfl, rfl⟩
theorem dX0_weigh_70 : pm_dec mX0_weigh 70 (.invokevirtual 84, 3) 73 := ⟨pm_dcA dk_X0_weigh_63 4 rfl, rfl⟩
theorem dX0_weigh_73 : pm_dec mX0_weigh 73 (.iinc 4 1, 3) 76 := ⟨pm_dcA dk_X0_weigh_63 5 rfl, rfl⟩
theorem dX0_weigh_76 : pm_dec mX0_weigh 76 (.goto (-40), 3) 79 := ⟨pm_dcA dk_X0_weigh_63 6 rfl, rfl⟩
theorem dX0_weigh_79 : pm_dec mX0_weigh 79 (.return_, 1) 80 := ⟨pm_dcA dk_X0_weigh_63 7 rfl, rfl⟩
def dt_X0_weighOne_0 : List (Nat × (Instr × Nat)) := [(0, (.aload_n 0, 1)), (1, (.getfield 33, 3)), (4, (.iload_n 1, 1)), (5, (.iconst 0, 1)), (6, (.iload_n 3, 1)), (7, (.invokevirtual 55, 3)), (10, (.aload_n 0, 1)), (11, (.dup, 1)), (12, (.getfield 72, 3)), (15, (.iload_n 3, 1)), (16, (.iadd, 1)), (17, (.putfield 72, 3)), (20, (.aload_n 0, 1)), (21, (.iload_n 1, 1)), (22, (.iload_n 2, 1)), (23, (.invokevirtual 87, 3)), (26, (.ifCond .eq 16, 3)), (29, (.aload_n 0, 1)), (30, (.dup, 1)), (31, (.getfield 69, 3)), (34, (.iload_n 3, 1)), (35, (.iadd, 1)), (36, (.putfield 69, 3)), (39, (.goto 12, 3)), (42, (.aload_n 0, 1)), (43, (.getfield 36, 3)), (46, (.iload_n 1, 1)), (47, (.invokevirtual 59, 3)), (50, (.pop, 1)), (51, (.return_, 1))]
theorem dk_X0_weighOne_0 : pm_dc mX0_weighOne.2.1 dt_X0_weighOne_0 = true := by decide +kernel
theorem dX0_weighOne_0 : pm_dec mX0_weighOne 0 (.aload_n 0, 1) 1 := ⟨pm_dcA dk_X0_weighOne_0 0 rfl, rfl⟩
theorem dX0_weighOne_1 : pm_dec mX0_weighOne 1 (.getfield 33, 3) 4 := ⟨pm_dcA dk_X0_weighOne_0 1 rfl, rfl⟩
theorem dX0_weighOne_4 : pm_dec mX0_weighOne 4 (.iload_n 1, 1) 5 := ⟨pm_dcA dk_X0_weighOne_0 2 rfl, rfl⟩
theorem dX0_weighOne_5 : pm_dec mX0_weighOne 5 (.iconst 0, 1) 6 := ⟨pm_dcA dk_X0_weighOne_0 3 rfl, rfl⟩
theorem dX0_weighOne_6 : pm_dec mX0_weighOne 6 (.iload_n 3, 1) 7 := ⟨pm_dcA dk_X0_weighOne_0 4 rfl, rfl⟩
theorem dX0_weighOne_7 : pm_dec mX0_weighOne 7 (.invokevirtual 55, 3) 10 := ⟨pm_dcA dk_X0_weighOne_0 5 rfl, rfl⟩
theorem dX0_weighOne_10 : pm_dec mX0_weighOne 10 (.aload_n 0, 1) 11 := ⟨pm_dcA dk_X0_weighOne_0 6 rfl, rfl⟩
theorem dX0_weighOne_11 : pm_dec mX0_weighOne 11 (.dup, 1) 12 := ⟨pm_dcA dk_X0_weighOne_0 7 rfl, rfl⟩
theorem dX0_weighOne_12 : pm_dec mX0_weighOne 12 (.getfield 72, 3) 15 := ⟨pm_dcA dk_X0_weighOne_0 8 rfl, rfl⟩
theorem dX0_weighOne_15 : pm_dec mX0_weighOne 15 (.iload_n 3, 1) 16 := ⟨pm_dcA dk_X0_weighOne_0 9 rfl, rfl⟩
theorem dX0_weighOne_16 : pm_dec mX0_weighOne 16 (.iadd, 1) 17 := ⟨pm_dcA dk_X0_weighOne_0 10 rfl, rfl⟩
theorem dX0_weighOne_17 : pm_dec mX0_weighOne 17 (.putfield 72, 3) 20 := ⟨pm_dcA dk_X0_weighOne_0 11 rfl, rfl⟩
theorem dX0_weighOne_20 : pm_dec mX0_weighOne 20 (.aload_n 0, 1) 21 := ⟨pm_dcA dk_X0_weighOne_0 12 rfl, rfl⟩
theorem dX0_weighOne_21 : pm_dec mX0_weighOne 21 (.iload_n 1, 1) 22 := ⟨pm_dcA dk_X0_weighOne_0 13 rfl, rfl⟩
theorem dX0_weighOne_22 : pm_dec mX0_weighOne 22 (.iload_n 2, 1) 23 := ⟨pm_dcA dk_X0_weighOne_0 14 rfl, rfl⟩
theorem dX0_weighOne_23 : pm_dec mX0_weighOne 23 (.invokevirtual 87, 3) 26 := ⟨pm_dcA dk_X0_weighOne_0 15 rfl, rfl⟩
theorem dX0_weighOne_26 : pm_dec mX0_weighOne 26 (.ifCond .eq 16, 3) 29 := ⟨pm_dcA dk_X0_weighOne_0 16 rfl, rfl⟩
theorem dX0_weighOne_29 : pm_dec mX0_weighOne 29 (.aload_n 0, 1) 30 := ⟨pm_dcA dk_X0_weighOne_0 17 rfl, rfl⟩
theorem dX0_weighOne_30 : pm_dec mX0_weighOne 30 (.dup, 1) 31 := ⟨pm_dcA dk_X0_weighOne_0 18 rfl, rfl⟩
theorem dX0_weighOne_31 : pm_dec mX0_weighOne 31 (.getfield 69, 3) 34 := ⟨pm_dcA dk_X0_weighOne_0 19 rfl, rfl⟩
theorem dX0_weighOne_34 : pm_dec mX0_weighOne 34 (.iload_n 3, 1) 35 := ⟨pm_dcA dk_X0_weighOne_0 20 rfl, rfl⟩
theorem dX0_weighOne_35 : pm_dec mX0_weighOne 35 (.iadd, 1) 36 := ⟨pm_dcA dk_X0_weighOne_0 21 rfl, rfl⟩
theorem dX0_weighOne_36 : pm_dec mX0_weighOne 36 (.putfield 69, 3) 39 := ⟨pm_dcA dk_X0_weighOne_0 22 rfl, rfl⟩
theorem dX0_weighOne_39 : pm_dec mX0_weighOne 39 (.goto 12, 3) 42 := ⟨pm_dcA dk_X0_weighOne_0 23 rfl, rfl⟩
theorem dX0_weighOne_42 : pm_dec mX0_weighOne 42 (.aload_n 0, 1) 43 := ⟨pm_dcA dk_X0_weighOne_0 24 rfl, rfl⟩
theorem dX0_weighOne_43 : pm_dec mX0_weighOne 43 (.getfield 36, 3) 46 := ⟨pm_dcA dk_X0_weighOne_0 25 rfl, rfl⟩
theorem dX0_weighOne_46 : pm_dec mX0_weighOne 46 (.iload_n 1, 1) 47 := ⟨pm_dcA dk_X0_weighOne_0 26 rfl, rfl⟩
theorem dX0_weighOne_47 : pm_dec mX0_weighOne 47 (.invokevirtual 59, 3) 50 := ⟨pm_dcA dk_X0_weighOne_0 27 rfl, rfl⟩
theorem dX0_weighOne_50 : pm_dec mX0_weighOne 50 (.pop, 1) 51 := ⟨pm_dcA dk_X0_weighOne_0 28 rfl, rfl⟩
theorem dX0_weighOne_51 : pm_dec mX0_weighOne 51 (.return_, 1) 52 := ⟨pm_dcA dk_X0_weighOne_0 29 rfl, rfl⟩
def dt_X0_weightOf_0 : List (Nat × (Instr × Nat)) := [(0, (.iload_n 2, 1)), (1, (.ifCond .lt 25, 3)), (4, (.aload_n 0, 1)), (5, (.getfield 15, 3)), (8, (.iload_n 2, 1)), (9, (.iload_n 1, 1)), (10, (.iconst (-1), 1)), (11, (.aload_n 0, 1)), (12, (.getfield 9, 3)), (15, (.getfield 43, 3)), (18, (.invokevirtual 100, 3)), (21, (.ifCond .ne 5, 3)), (24, (.iconst 0, 1)), (25, (.ireturn, 1)), (26, (.iconst 1, 1)), (27, (.istore_n 3, 1)), (28, (.aload_n 0, 1)), (29, (.getfield 9, 3)), (32, (.getfield 104, 3)), (35, (.invokevirtual 47, 3)), (38, (.istore 4, 2)), (40, (.iconst 0, 1)), (41, (.istore 5, 2)), (43, (.iload 5, 2)), (45, (.iload 4, 2)), (47, (.if_icmp .ge 42, 3)), (50, (.aload_n 0, 1)), (51, (.getfield 9, 3)), (54, (.getfield 104, 3)), (57, (.iload 5, 2)), (59, (.iconst 2, 1)), (60, (.invokevirtual 39, 3))]
theorem dk_X0_weightOf_0 : pm_dc mX0_weightOf.2.1 dt_X0_weightOf_0 = true := by decide +kernel
theorem dX0_weightOf_0 : pm_dec mX0_weightOf 0 (.iload_n 2, 1) 1 := ⟨pm_dcA dk_X0_weightOf_0 0 rfl, rfl⟩
theorem dX0_weightOf_1 : pm_dec mX0_weightOf 1 (.ifCond .lt 25, 3) 4 := ⟨pm_dcA dk_X0_weightOf_0 1 rfl, rfl⟩
theorem dX0_weightOf_4 : pm_dec mX0_weightOf 4 (.aload_n 0, 1) 5 := ⟨pm_dcA dk_X0_weightOf_0 2 rfl, rfl⟩
theorem dX0_weightOf_5 : pm_dec mX0_weightOf 5 (.getfield 15, 3) 8 := ⟨pm_dcA dk_X0_weightOf_0 3 rfl, rfl⟩
theorem dX0_weightOf_8 : pm_dec mX0_weightOf 8 (.iload_n 2, 1) 9 := ⟨pm_dcA dk_X0_weightOf_0 4 rfl, rfl⟩
theorem dX0_weightOf_9 : pm_dec mX0_weightOf 9 (.iload_n 1, 1) 10 := ⟨pm_dcA dk_X0_weightOf_0 5 rfl, rfl⟩
theorem dX0_weightOf_10 : pm_dec mX0_weightOf 10 (.iconst (-1), 1) 11 := ⟨pm_dcA dk_X0_weightOf_0 6 rfl, rfl⟩
theorem dX0_weightOf_11 : pm_dec mX0_weightOf 11 (.aload_n 0, 1) 12 := ⟨pm_dcA dk_X0_weightOf_0 7 rfl, rfl⟩
theorem dX0_weightOf_12 : pm_dec mX0_weightOf 12 (.getfield 9, 3) 15 := ⟨pm_dcA dk_X0_weightOf_0 8 rfl, rfl⟩
theorem dX0_weightOf_15 : pm_dec mX0_weightOf 15 (.getfield 43, 3) 18 := ⟨pm_dcA dk_X0_weightOf_0 9 rfl, rfl⟩
theorem dX0_weightOf_18 : pm_dec mX0_weightOf 18 (.invokevirtual 100, 3) 21 := ⟨pm_dcA dk_X0_weightOf_0 10 rfl, rfl⟩
theorem dX0_weightOf_21 : pm_dec mX0_weightOf 21 (.ifCond .ne 5, 3) 24 := ⟨pm_dcA dk_X0_weightOf_0 11 rfl, rfl⟩
theorem dX0_weightOf_24 : pm_dec mX0_weightOf 24 (.iconst 0, 1) 25 := ⟨pm_dcA dk_X0_weightOf_0 12 rfl, rfl⟩
theorem dX0_weightOf_25 : pm_dec mX0_weightOf 25 (.ireturn, 1) 26 := ⟨pm_dcA dk_X0_weightOf_0 13 rfl, rfl⟩
theorem dX0_weightOf_26 : pm_dec mX0_weightOf 26 (.iconst 1, 1) 27 := ⟨pm_dcA dk_X0_weightOf_0 14 rfl, rfl⟩
theorem dX0_weightOf_27 : pm_dec mX0_weightOf 27 (.istore_n 3, 1) 28 := ⟨pm_dcA dk_X0_weightOf_0 15 rfl, rfl⟩
theorem dX0_weightOf_28 : pm_dec mX0_weightOf 28 (.aload_n 0, 1) 29 := ⟨pm_dcA dk_X0_weightOf_0 16 rfl, rfl⟩
theorem dX0_weightOf_29 : pm_dec mX0_weightOf 29 (.getfield 9, 3) 32 := ⟨pm_dcA dk_X0_weightOf_0 17 rfl, rfl⟩
theorem dX0_weightOf_32 : pm_dec mX0_weightOf 32 (.getfield 104, 3) 35 := ⟨pm_dcA dk_X0_weightOf_0 18 rfl, rfl⟩
theorem dX0_weightOf_35 : pm_dec mX0_weightOf 35 (.invokevirtual 47, 3) 38 := ⟨pm_dcA dk_X0_weightOf_0 19 rfl, rfl⟩
theorem dX0_weightOf_38 : pm_dec mX0_weightOf 38 (.istore 4, 2) 40 := ⟨pm_dcA dk_X0_weightOf_0 20 rfl, rfl⟩
theorem dX0_weightOf_40 : pm_dec mX0_weightOf 40 (.iconst 0, 1) 41 := ⟨pm_dcA dk_X0_weightOf_0 21 rfl, rfl⟩
theorem dX0_weightOf_41 : pm_dec mX0_weightOf 41 (.istore 5, 2) 43 := ⟨pm_dcA dk_X0_weightOf_0 22 rfl, rfl⟩
theorem dX0_weightOf_43 : pm_dec mX0_weightOf 43 (.iload 5, 2) 45 := ⟨pm_dcA dk_X0_weightOf_0 23 rfl, rfl⟩
theorem dX0_weightOf_45 : pm_dec mX0_weightOf 45 (.iload 4, 2) 47 := ⟨pm_dcA dk_X0_weightOf_0 24 rfl, rfl⟩
theorem dX0_weightOf_47 : pm_dec mX0_weightOf 47 (.if_icmp .ge 42, 3) 50 := ⟨pm_dcA dk_X0_weightOf_0 25 rfl, rfl⟩
theorem dX0_weightOf_50 : pm_dec mX0_weightOf 50 (.aload_n 0, 1) 51 := ⟨pm_dcA dk_X0_weightOf_0 26 rfl, rfl⟩
theorem dX0_weightOf_51 : pm_dec mX0_weightOf 51 (.getfield 9, 3) 54 := ⟨pm_dcA dk_X0_weightOf_0 27 rfl, rfl⟩
theorem dX0_weightOf_54 : pm_dec mX0_weightOf 54 (.getfield 104, 3) 57 := ⟨pm_dcA dk_X0_weightOf_0 28 rfl, rfl⟩
theorem dX0_weightOf_57 : pm_dec mX0_weightOf 57 (.iload 5, 2) 59 := ⟨pm_dcA dk_X0_weightOf_0 29 rfl, rfl⟩
theorem dX0_weightOf_59 : pm_dec mX0_weightOf 59 (.iconst 2, 1) 60 := ⟨pm_dcA dk_X0_weightOf_0 30 rfl, rfl⟩
theorem dX0_weightOf_60 : pm_dec mX0_weightOf 60 (.invokevirtual 39, 3) 63 := ⟨pm_dcA dk_X0_weightOf_0 31 rfl, rfl⟩
def dt_X0_weightOf_63 : List (Nat × (Instr × Nat)) := [(63, (.iload_n 1, 1)), (64, (.if_icmp .ne 19, 3)), (67, (.aload_n 0, 1)), (68, (.getfield 9, 3)), (71, (.iload 5, 2)), (73, (.iconst 1, 1)), (74, (.invokevirtual 107, 3)), (77, (.ifCond .eq 6, 3)), (80, (.iinc 3 1, 3)), (83, (.iinc 5 1, 3)), (86, (.goto (-43), 3)), (89, (.iload_n 3, 1)), (90, (.ireturn, 1))]
theorem dk_X0_weightOf_63 : pm_dc mX0_weightOf.2.1 dt_X0_weightOf_63 = true := by decide +kernel
theorem dX0_weightOf_63 : pm_dec mX0_weightOf 63 (.iload_n 1, 1) 64 := ⟨pm_dcA dk_X0_weightOf_63 0 rfl, rfl⟩
theorem dX0_weightOf_64 : pm_dec mX0_weightOf 64 (.if_icmp .ne 19, 3) 67 := ⟨pm_dcA dk_X0_weightOf_63 1 rfl, rfl⟩
theorem dX0_weightOf_67 : pm_dec mX0_weightOf 67 (.aload_n 0, 1) 68 := ⟨pm_dcA dk_X0_weightOf_63 2 rfl, rfl⟩
theorem dX0_weightOf_68 : pm_dec mX0_weightOf 68 (.getfield 9, 3) 71 := ⟨pm_dcA dk_X0_weightOf_63 3 rfl, rfl⟩
theorem dX0_weightOf_71 : pm_dec mX0_weightOf 71 (.iload 5, 2) 73 := ⟨pm_dcA dk_X0_weightOf_63 4 rfl, rfl⟩
theorem dX0_weightOf_73 : pm_dec mX0_weightOf 73 (.iconst 1, 1) 74 := ⟨pm_dcA dk_X0_weightOf_63 5 rfl, rfl⟩
theorem dX0_weightOf_74 : pm_dec mX0_weightOf 74 (.invokevirtual 107, 3) 77 := ⟨pm_dcA dk_X0_weightOf_63 6 rfl, rfl⟩
theorem dX0_weightOf_77 : pm_dec mX0_weightOf 77 (.ifCond .eq 6, 3) 80 := ⟨pm_dcA dk_X0_weightOf_63 7 rfl, rfl⟩
theorem dX0_weightOf_80 : pm_dec mX0_weightOf 80 (.iinc 3 1, 3) 83 := ⟨pm_dcA dk_X0_weightOf_63 8 rfl, rfl⟩
theorem dX0_weightOf_83 : pm_dec mX0_weightOf 83 (.iinc 5 1, 3) 86 := ⟨pm_dcA dk_X0_weightOf_63 9 rfl, rfl⟩
theorem dX0_weightOf_86 : pm_dec mX0_weightOf 86 (.goto (-43), 3) 89 := ⟨pm_dcA dk_X0_weightOf_63 10 rfl, rfl⟩
theorem dX0_weightOf_89 : pm_dec mX0_weightOf 89 (.iload_n 3, 1) 90 := ⟨pm_dcA dk_X0_weightOf_63 11 rfl, rfl⟩
theorem dX0_weightOf_90 : pm_dec mX0_weightOf 90 (.ireturn, 1) 91 := ⟨pm_dcA dk_X0_weightOf_63 12 rfl, rfl⟩
def dt_X10_actOf_0 : List (Nat × (Instr × Nat)) := [(0, (.iload_n 1, 1)), (1, (.tableswitch 67 1 4 #[49, 67, 49, 31], 31)), (32, (.aload_n 0, 1)), (33, (.bipush 50, 2)), (35, (.invokevirtual 41, 3)), (38, (.aload_n 0, 1)), (39, (.iconst 3, 1)), (40, (.iload_n 2, 1)), (41, (.aload_n 0, 1)), (42, (.getfield 25, 3)), (45, (.isub, 1)), (46, (.invokevirtual 28, 3)), (49, (.ireturn, 1)), (50, (.aload_n 0, 1)), (51, (.bipush 20, 2)), (53, (.invokevirtual 41, 3)), (56, (.aload_n 0, 1)), (57, (.iconst 0, 1)), (58, (.iload_n 2, 1)), (59, (.invokevirtual 28, 3)), (62, (.aload_n 0, 1)), (63, (.getfield 22, 3)), (66, (.iadd, 1)), (67, (.ireturn, 1)), (68, (.aload_n 0, 1)), (69, (.bipush 10, 2)), (71, (.invokevirtual 41, 3)), (74, (.iload_n 2, 1)), (75, (.aload_n 0, 1)), (76, (.getfield 25, 3)), (79, (.iadd, 1)), (80, (.ireturn, 1))]
theorem dk_X10_actOf_0 : pm_dc mX10_actOf.2.1 dt_X10_actOf_0 = true := by decide +kernel
theorem dX10_actOf_0 : pm_dec mX10_actOf 0 (.iload_n 1, 1) 1 := ⟨pm_dcA dk_X10_actOf_0 0 rfl, rfl⟩
theorem dX10_actOf_1 : pm_dec mX10_actOf 1 (.tableswitch 67 1 4 #[49, 67, 49, 31], 31) 32 := ⟨pm_dcA dk_X10_actOf_0 1 rfl, rfl⟩
theorem dX10_actOf_32 : pm_dec mX10_actOf 32 (.aload_n 0, 1) 33 := ⟨pm_dcA dk_X10_actOf_0 2 rfl, rfl⟩
theorem dX10_actOf_33 : pm_dec mX10_actOf 33 (.bipush 50, 2) 35 := ⟨pm_dcA dk_X10_actOf_0 3 rfl, rfl⟩
theorem dX10_actOf_35 : pm_dec mX10_actOf 35 (.invokevirtual 41, 3) 38 := ⟨pm_dcA dk_X10_actOf_0 4 rfl, rfl⟩
theorem dX10_actOf_38 : pm_dec mX10_actOf 38 (.aload_n 0, 1) 39 := ⟨pm_dcA dk_X10_actOf_0 5 rfl, rfl⟩
theorem dX10_actOf_39 : pm_dec mX10_actOf 39 (.iconst 3, 1) 40 := ⟨pm_dcA dk_X10_actOf_0 6 rfl, rfl⟩
theorem dX10_actOf_40 : pm_dec mX10_actOf 40 (.iload_n 2, 1) 41 := ⟨pm_dcA dk_X10_actOf_0 7 rfl, rfl⟩
theorem dX10_actOf_41 : pm_dec mX10_actOf 41 (.aload_n 0, 1) 42 := ⟨pm_dcA dk_X10_actOf_0 8 rfl, rfl⟩
theorem dX10_actOf_42 : pm_dec mX10_actOf 42 (.getfield 25, 3) 45 := ⟨pm_dcA dk_X10_actOf_0 9 rfl, rfl⟩
theorem dX10_actOf_45 : pm_dec mX10_actOf 45 (.isub, 1) 46 := ⟨pm_dcA dk_X10_actOf_0 10 rfl, rfl⟩
theorem dX10_actOf_46 : pm_dec mX10_actOf 46 (.invokevirtual 28, 3) 49 := ⟨pm_dcA dk_X10_actOf_0 11 rfl, rfl⟩
theorem dX10_actOf_49 : pm_dec mX10_actOf 49 (.ireturn, 1) 50 := ⟨pm_dcA dk_X10_actOf_0 12 rfl, rfl⟩
theorem dX10_actOf_50 : pm_dec mX10_actOf 50 (.aload_n 0, 1) 51 := ⟨pm_dcA dk_X10_actOf_0 13 rfl, rfl⟩
theorem dX10_actOf_51 : pm_dec mX10_actOf 51 (.bipush 20, 2) 53 := ⟨pm_dcA dk_X10_actOf_0 14 rfl, rfl⟩
theorem dX10_actOf_53 : pm_dec mX10_actOf 53 (.invokevirtual 41, 3) 56 := ⟨pm_dcA dk_X10_actOf_0 15 rfl, rfl⟩
theorem dX10_actOf_56 : pm_dec mX10_actOf 56 (.aload_n 0, 1) 57 := ⟨pm_dcA dk_X10_actOf_0 16 rfl, rfl⟩
theorem dX10_actOf_57 : pm_dec mX10_actOf 57 (.iconst 0, 1) 58 := ⟨pm_dcA dk_X10_actOf_0 17 rfl, rfl⟩
theorem dX10_actOf_58 : pm_dec mX10_actOf 58 (.iload_n 2, 1) 59 := ⟨pm_dcA dk_X10_actOf_0 18 rfl, rfl⟩
theorem dX10_actOf_59 : pm_dec mX10_actOf 59 (.invokevirtual 28, 3) 62 := ⟨pm_dcA dk_X10_actOf_0 19 rfl, rfl⟩
theorem dX10_actOf_62 : pm_dec mX10_actOf 62 (.aload_n 0, 1) 63 := ⟨pm_dcA dk_X10_actOf_0 20 rfl, rfl⟩
theorem dX10_actOf_63 : pm_dec mX10_actOf 63 (.getfield 22, 3) 66 := ⟨pm_dcA dk_X10_actOf_0 21 rfl, rfl⟩
theorem dX10_actOf_66 : pm_dec mX10_actOf 66 (.iadd, 1) 67 := ⟨pm_dcA dk_X10_actOf_0 22 rfl, rfl⟩
theorem dX10_actOf_67 : pm_dec mX10_actOf 67 (.ireturn, 1) 68 := ⟨pm_dcA dk_X10_actOf_0 23 rfl, rfl⟩
theorem dX10_actOf_68 : pm_dec mX10_actOf 68 (.aload_n 0, 1) 69 := ⟨pm_dcA dk_X10_actOf_0 24 rfl, rfl⟩
theorem dX10_actOf_69 : pm_dec mX10_actOf 69 (.bipush 10, 2) 71 := ⟨pm_dcA dk_X10_actOf_0 25 rfl, rfl⟩
theorem dX10_actOf_71 : pm_dec mX10_actOf 71 (.invokevirtual 41, 3) 74 := ⟨pm_dcA dk_X10_actOf_0 26 rfl, rfl⟩
theorem dX10_actOf_74 : pm_dec mX10_actOf 74 (.iload_n 2, 1) 75 := ⟨pm_dcA dk_X10_actOf_0 27 rfl, rfl⟩
theorem dX10_actOf_75 : pm_dec mX10_actOf 75 (.aload_n 0, 1) 76 := ⟨pm_dcA dk_X10_actOf_0 28 rfl, rfl⟩
theorem dX10_actOf_76 : pm_dec mX10_actOf 76 (.getfield 25, 3) 79 := ⟨pm_dcA dk_X10_actOf_0 29 rfl, rfl⟩
theorem dX10_actOf_79 : pm_dec mX10_actOf 79 (.iadd, 1) 80 := ⟨pm_dcA dk_X10_actOf_0 30 rfl, rfl⟩
theorem dX10_actOf_80 : pm_dec mX10_actOf 80 (.ireturn, 1) 81 := ⟨pm_dcA dk_X10_actOf_0 31 rfl, rfl⟩
def dt_X10_begin_0 : List (Nat × (Instr × Nat)) := [(0, (.aload_n 0, 1)), (1, (.iconst 0, 1)), (2, (.putfield 15, 3)), (5, (.aload_n 0, 1)), (6, (.iload_n 1, 1)), (7, (.putfield 19, 3)), (10, (.aload_n 0, 1)), (11, (.iload_n 2, 1)), (12, (.putfield 22, 3)), (15, (.aload_n 0, 1)), (16, (.iload_n 3, 1)), (17, (.putfield 25, 3)), (20, (.return_, 1))]
theorem dk_X10_begin_0 : pm_dc mX10_begin.2.1 dt_X10_begin_0 = true := by decide +kernel
theorem dX10_begin_0 : pm_dec mX10_begin 0 (.aload_n 0, 1) 1 := ⟨pm_dcA dk_X10_begin_0 0 rfl, rfl⟩
theorem dX10_begin_1 : pm_dec mX10_begin 1 (.iconst 0, 1) 2 := ⟨pm_dcA dk_X10_begin_0 1 rfl, rfl⟩
theorem dX10_begin_2 : pm_dec mX10_begin 2 (.putfield 15, 3) 5 := ⟨pm_dcA dk_X10_begin_0 2 rfl, rfl⟩
theorem dX10_begin_5 : pm_dec mX10_begin 5 (.aload_n 0, 1) 6 := ⟨pm_dcA dk_X10_begin_0 3 rfl, rfl⟩
theorem dX10_begin_6 : pm_dec mX10_begin 6 (.iload_n 1, 1) 7 := ⟨pm_dcA dk_X10_begin_0 4 rfl, rfl⟩
theorem dX10_begin_7 : pm_dec mX10_begin 7 (.putfield 19, 3) 10 := ⟨pm_dcA dk_X10_begin_0 5 rfl, rfl⟩
theorem dX10_begin_10 : pm_dec mX10_begin 10 (.aload_n 0, 1) 11 := ⟨pm_dcA dk_X10_begin_0 6 rfl, rfl⟩
theorem dX10_begin_11 : pm_dec mX10_begin 11 (.iload_n 2, 1) 12 := ⟨pm_dcA dk_X10_begin_0 7 rfl, rfl⟩
theorem dX10_begin_12 : pm_dec mX10_begin 12 (.putfield 22, 3) 15 := ⟨pm_dcA dk_X10_begin_0 8 rfl, rfl⟩
theorem dX10_begin_15 : pm_dec mX10_begin 15 (.aload_n 0, 1) 16 := ⟨pm_dcA dk_X10_begin_0 9 rfl, rfl⟩
theorem dX10_begin_16 : pm_dec mX10_begin 16 (.iload_n 3, 1) 17 := ⟨pm_dcA dk_X10_begin_0 10 rfl, rfl⟩
theorem dX10_begin_17 : pm_dec mX10_begin 17 (.putfield 25, 3) 20 := ⟨pm_dcA dk_X10_begin_0 11 rfl, rfl⟩
theorem dX10_begin_20 : pm_dec mX10_begin 20 (.return_, 1) 21 := ⟨pm_dcA dk_X10_begin_0 12 rfl, rfl⟩
def dt_X10_bindOf_0 : List (Nat × (Instr × Nat)) := [(0, (.iload_n 1, 1)), (1, (.tableswitch 68 3 5 #[27, 27, 50], 27)), (28, (.aload_n 0, 1)), (29, (.bipush 40, 2)), (31, (.invokevirtual 41, 3)), (34, (.aload_n 0, 1)), (35, (.iconst 1, 1)), (36, (.iload_n 2, 1)), (37, (.invokevirtual 32, 3)), (40, (.aload_n 0, 1)), (41, (.aload_n 0, 1)), (42, (.getfield 19, 3)), (45, (.iload_n 2, 1)), (46, (.invokevirtual 28, 3)), (49, (.isub, 1)), (50, (.ireturn, 1)), (51, (.aload_n 0, 1)), (52, (.bipush 60, 2)), (54, (.invokevirtual 41, 3)), (57, (.aload_n 0, 1)), (58, (.iconst 0, 1)), (59, (.iload_n 2, 1)), (60, (.invokevirtual 32, 3)), (63, (.aload_n 0, 1)), (64, (.getfield 25, 3)), (67, (.iadd, 1)), (68, (.ireturn, 1)), (69, (.aload_n 0, 1)), (70, (.bipush 11, 2)), (72, (.invokevirtual 41, 3)), (75, (.aload_n 0, 1)), (76, (.aload_n 0, 1))]
theorem dk_X10_bindOf_0 : pm_dc mX10_bindOf.2.1 dt_X10_bindOf_0 = true := by decide +kernel
theorem dX10_bindOf_0 : pm_dec mX10_bindOf 0 (.iload_n 1, 1) 1 := ⟨pm_dcA dk_X10_bindOf_0 0 rfl, rfl⟩
theorem dX10_bindOf_1 : pm_dec mX10_bindOf 1 (.tableswitch 68 3 5 #[27, 27, 50], 27) 28 := ⟨pm_dcA dk_X10_bindOf_0 1 rfl, rfl⟩
theorem dX10_bindOf_28 : pm_dec mX10_bindOf 28 (.aload_n 0, 1) 29 := ⟨pm_dcA dk_X10_bindOf_0 2 rfl, rfl⟩
theorem dX10_bindOf_29 : pm_dec mX10_bindOf 29 (.bipush 40, 2) 31 := ⟨pm_dcA dk_X10_bindOf_0 3 rfl, rfl⟩
theorem dX10_bindOf_31 : pm_dec mX10_bindOf 31 (.invokevirtual 41, 3) 34 := ⟨pm_dcA dk_X10_bindOf_0 4 rfl, rfl⟩
theorem dX10_bindOf_34 : pm_dec mX10_bindOf 34 (.aload_n 0, 1) 35 := ⟨pm_dcA dk_X10_bindOf_0 5 rfl, rfl⟩
theorem dX10_bindOf_35 : pm_dec mX10_bindOf 35 (.iconst 1, 1) 36 := ⟨pm_dcA dk_X10_bindOf_0 6 rfl, rfl⟩
theorem dX10_bindOf_36 : pm_dec mX10_bindOf 36 (.iload_n 2, 1) 37 := ⟨pm_dcA dk_X10_bindOf_0 7 rfl, rfl⟩
theorem dX10_bindOf_37 : pm_dec mX10_bindOf 37 (.invokevirtual 32, 3) 40 := ⟨pm_dcA dk_X10_bindOf_0 8 rfl, rfl⟩
theorem dX10_bindOf_40 : pm_dec mX10_bindOf 40 (.aload_n 0, 1) 41 := ⟨pm_dcA dk_X10_bindOf_0 9 rfl, rfl⟩
theorem dX10_bindOf_41 : pm_dec mX10_bindOf 41 (.aload_n 0, 1) 42 := ⟨pm_dcA dk_X10_bindOf_0 10 rfl, rfl⟩
theorem dX10_bindOf_42 : pm_dec mX10_bindOf 42 (.getfield 19, 3) 45 := ⟨pm_dcA dk_X10_bindOf_0 11 rfl, rfl⟩
theorem dX10_bindOf_45 : pm_dec mX10_bindOf 45 (.iload_n 2, 1) 46 := ⟨pm_dcA dk_X10_bindOf_0 12 rfl, rfl⟩
theorem dX10_bindOf_46 : pm_dec mX10_bindOf 46 (.invokevirtual 28, 3) 49 := ⟨pm_dcA dk_X10_bindOf_0 13 rfl, rfl⟩
theorem dX10_bindOf_49 : pm_dec mX10_bindOf 49 (.isub, 1) 50 := ⟨pm_dcA dk_X10_bindOf_0 14 rfl, rfl⟩
theorem dX10_bindOf_50 : pm_dec mX10_bindOf 50 (.ireturn, 1) 51 := ⟨pm_dcA dk_X10_bindOf_0 15 rfl, rfl⟩
theorem dX10_bindOf_51 : pm_dec mX10_bindOf 51 (.aload_n 0, 1) 52 := ⟨pm_dcA dk_X10_bindOf_0 16 rfl, rfl⟩
theorem dX10_bindOf_52 : pm_dec mX10_bindOf 52 (.bipush 60, 2) 54 := ⟨pm_dcA dk_X10_bindOf_0 17 rfl, rfl⟩
theorem dX10_bindOf_54 : pm_dec mX10_bindOf 54 (.invokevirtual 41, 3) 57 := ⟨pm_dcA dk_X10_bindOf_0 18 rfl, rfl⟩
theorem dX10_bindOf_57 : pm_dec mX10_bindOf 57 (.aload_n 0, 1) 58 := ⟨pm_dcA dk_X10_bindOf_0 19 rfl, rfl⟩
theorem dX10_bindOf_58 : pm_dec mX10_bindOf 58 (.iconst 0, 1) 59 := ⟨pm_dcA dk_X10_bindOf_0 20 rfl, rfl⟩
theorem dX10_bindOf_59 : pm_dec mX10_bindOf 59 (.iload_n 2, 1) 60 := ⟨pm_dcA dk_X10_bindOf_0 21 rfl, rfl⟩
theorem dX10_bindOf_60 : pm_dec mX10_bindOf 60 (.invokevirtual 32, 3) 63 := ⟨pm_dcA dk_X10_bindOf_0 22 rfl, rfl⟩
theorem dX10_bindOf_63 : pm_dec mX10_bindOf 63 (.aload_n 0, 1) 64 := ⟨pm_dcA dk_X10_bindOf_0 23 rfl, rfl⟩
theorem dX10_bindOf_64 : pm_dec mX10_bindOf 64 (.getfield 25, 3) 67 := ⟨pm_dcA dk_X10_bindOf_0 24 rfl, rfl⟩
theorem dX10_bindOf_67 : pm_dec mX10_bindOf 67 (.iadd, 1) 68 := ⟨pm_dcA dk_X10_bindOf_0 25 rfl, rfl⟩
theorem dX10_bindOf_68 : pm_dec mX10_bindOf 68 (.ireturn, 1) 69 := ⟨pm_dcA dk_X10_bindOf_0 26 rfl, rfl⟩
theorem dX10_bindOf_69 : pm_dec mX10_bindOf 69 (.aload_n 0, 1) 70 := ⟨pm_dcA dk_X10_bindOf_0 27 rfl, rfl⟩
theorem dX10_bindOf_70 : pm_dec mX10_bindOf 70 (.bipush 11, 2) 72 := ⟨pm_dcA dk_X10_bindOf_0 28 rfl, rfl⟩
theorem dX10_bindOf_72 : pm_dec mX10_bindOf 72 (.invokevirtual 41, 3) 75 := ⟨pm_dcA dk_X10_bindOf_0 29 rfl, rfl⟩
theorem dX10_bindOf_75 : pm_dec mX10_bindOf 75 (.aload_n 0, 1) 76 := ⟨pm_dcA dk_X10_bindOf_0 30 rfl, rfl⟩
theorem dX10_bindOf_76 : pm_dec mX10_bindOf 76 (.aload_n 0, 1) 77 := ⟨pm_dcA dk_X10_bindOf_0 31 rfl, rfl⟩
def dt_X10_bindOf_77 : List (Nat × (Instr × Nat)) := [(77, (.getfield 19, 3)), (80, (.iload_n 2, 1)), (81, (.invokevirtual 28, 3)), (84, (.iconst 2, 1)), (85, (.imul, 1)), (86, (.ireturn, 1))]
theorem dk_X10_bindOf_77 : pm_dc mX10_bindOf.2.1 dt_X10_bindOf_77 = true := by decide +kernel
theorem dX10_bindOf_77 : pm_dec mX10_bindOf 77 (.getfield 19, 3) 80 := ⟨pm_dcA dk_X10_bindOf_77 0 rfl, rfl⟩
theorem dX10_bindOf_80 : pm_dec mX10_bindOf 80 (.iload_n 2, 1) 81 := ⟨pm_dcA dk_X10_bindOf_77 1 rfl, rfl⟩
theorem dX10_bindOf_81 : pm_dec mX10_bindOf 81 (.invokevirtual 28, 3) 84 := ⟨pm_dcA dk_X10_bindOf_77 2 rfl, rfl⟩
theorem dX10_bindOf_84 : pm_dec mX10_bindOf 84 (.iconst 2, 1) 85 := ⟨pm_dcA dk_X10_bindOf_77 3 rfl, rfl⟩
theorem dX10_bindOf_85 : pm_dec mX10_bindOf 85 (.imul, 1) 86 := ⟨pm_dcA dk_X10_bindOf_77 4 rfl, rfl⟩
theorem dX10_bindOf_86 : pm_dec mX10_bindOf 86 (.ireturn, 1) 87 := ⟨pm_dcA dk_X10_bindOf_77 5 rfl, rfl⟩
def dt_X10_bodyAt_0 : List (Nat × (Instr × Nat)) := [(0, (.iload_n 1, 1)), (1, (.ifCond .lt 29, 3)), (4, (.iload_n 1, 1)), (5, (.aload_n 0, 1)), (6, (.getfield 15, 3)), (9, (.if_icmp .ge 21, 3)), (12, (.iload_n 1, 1)), (13, (.aload_n 0, 1)), (14, (.getfield 11, 3)), (17, (.arraylength, 1)), (18, (.if_icmp .ge 12, 3)), (21, (.aload_n 0, 1)), (22, (.getfield 11, 3)), (25, (.iload_n 1, 1)), (26, (.iaload, 1)), (27, (.goto 4, 3)), (30, (.iconst 0, 1)), (31, (.ireturn, 1))]
theorem dk_X10_bodyAt_0 : pm_dc mX10_bodyAt.2.1 dt_X10_bodyAt_0 = true := by decide +kernel
theorem dX10_bodyAt_0 : pm_dec mX10_bodyAt 0 (.iload_n 1, 1) 1 := ⟨pm_dcA dk_X10_bodyAt_0 0 rfl, rfl⟩
theorem dX10_bodyAt_1 : pm_dec mX10_bodyAt 1 (.ifCond .lt 29, 3) 4 := ⟨pm_dcA dk_X10_bodyAt_0 1 rfl, rfl⟩
theorem dX10_bodyAt_4 : pm_dec mX10_bodyAt 4 (.iload_n 1, 1) 5 := ⟨pm_dcA dk_X10_bodyAt_0 2 rfl, rfl⟩
theorem dX10_bodyAt_5 : pm_dec mX10_bodyAt 5 (.aload_n 0, 1) 6 := ⟨pm_dcA dk_X10_bodyAt_0 3 rfl, rfl⟩
theorem dX10_bodyAt_6 : pm_dec mX10_bodyAt 6 (.getfield 15, 3) 9 := ⟨pm_dcA dk_X10_bodyAt_0 4 rfl, rfl⟩
theorem dX10_bodyAt_9 : pm_dec mX10_bodyAt 9 (.if_icmp .ge 21, 3) 12 := ⟨pm_dcA dk_X10_bodyAt_0 5 rfl, rfl⟩
theorem dX10_bodyAt_12 : pm_dec mX10_bodyAt 12 (.iload_n 1, 1) 13 := ⟨pm_dcA dk_X10_bodyAt_0 6 rfl, rfl⟩
theorem dX10_bodyAt_13 : pm_dec mX10_bodyAt 13 (.aload_n 0, 1) 14 := ⟨pm_dcA dk_X10_bodyAt_0 7 rfl, rfl⟩
theorem dX10_bodyAt_14 : pm_dec mX10_bodyAt 14 (.getfield 11, 3) 17 := ⟨pm_dcA dk_X10_bodyAt_0 8 rfl, rfl⟩
theorem dX10_bodyAt_17 : pm_dec mX10_bodyAt 17 (.arraylength, 1) 18 := ⟨pm_dcA dk_X10_bodyAt_0 9 rfl, rfl⟩
theorem dX10_bodyAt_18 : pm_dec mX10_bodyAt 18 (.if_icmp .ge 12, 3) 21 := ⟨pm_dcA dk_X10_bodyAt_0 10 rfl, rfl⟩
theorem dX10_bodyAt_21 : pm_dec mX10_bodyAt 21 (.aload_n 0, 1) 22 := ⟨pm_dcA dk_X10_bodyAt_0 11 rfl, rfl⟩
theorem dX10_bodyAt_22 : pm_dec mX10_bodyAt 22 (.getfield 11, 3) 25 := ⟨pm_dcA dk_X10_bodyAt_0 12 rfl, rfl⟩
theorem dX10_bodyAt_25 : pm_dec mX10_bodyAt 25 (.iload_n 1, 1) 26 := ⟨pm_dcA dk_X10_bodyAt_0 13 rfl, rfl⟩
theorem dX10_bodyAt_26 : pm_dec mX10_bodyAt 26 (.iaload, 1) 27 := ⟨pm_dcA dk_X10_bodyAt_0 14 rfl, rfl⟩
theorem dX10_bodyAt_27 : pm_dec mX10_bodyAt 27 (.goto 4, 3) 30 := ⟨pm_dcA dk_X10_bodyAt_0 15 rfl, rfl⟩
theorem dX10_bodyAt_30 : pm_dec mX10_bodyAt 30 (.iconst 0, 1) 31 := ⟨pm_dcA dk_X10_bodyAt_0 16 rfl, rfl⟩
theorem dX10_bodyAt_31 : pm_dec mX10_bodyAt 31 (.ireturn, 1) 32 := ⟨pm_dcA dk_X10_bodyAt_0 17 rfl, rfl⟩
def dt_X10_note_0 : List (Nat × (Instr × Nat)) := [(0, (.aload_n 0, 1)), (1, (.getfield 15, 3)), (4, (.ifCond .lt 35, 3)), (7, (.aload_n 0, 1)), (8, (.getfield 15, 3)), (11, (.aload_n 0, 1)), (12, (.getfield 11, 3)), (15, (.arraylength, 1)), (16, (.if_icmp .ge 23, 3)), (19, (.aload_n 0, 1)), (20, (.getfield 11, 3)), (23, (.aload_n 0, 1)), (24, (.getfield 15, 3)), (27, (.iload_n 1, 1)), (28, (.iastore, 1)), (29, (.aload_n 0, 1)), (30, (.dup, 1)), (31, (.getfield 15, 3)), (34, (.iconst 1, 1)), (35, (.iadd, 1)), (36, (.putfield 15, 3)), (39, (.return_, 1))]
theorem dk_X10_note_0 : pm_dc mX10_note.2.1 dt_X10_note_0 = true := by decide +kernel
theorem dX10_note_0 : pm_dec mX10_note 0 (.aload_n 0, 1) 1 := ⟨pm_dcA dk_X10_note_0 0 rfl, rfl⟩
theorem dX10_note_1 : pm_dec mX10_note 1 (.getfield 15, 3) 4 := ⟨pm_dcA dk_X10_note_0 1 rfl, rfl⟩
theorem dX10_note_4 : pm_dec mX10_note 4 (.ifCond .lt 35, 3) 7 := ⟨pm_dcA dk_X10_note_0 2 rfl, rfl⟩
theorem dX10_note_7 : pm_dec mX10_note 7 (.aload_n 0, 1) 8 := ⟨pm_dcA dk_X10_note_0 3 rfl, rfl⟩
theorem dX10_note_8 : pm_dec mX10_note 8 (.getfield 15, 3) 11 := ⟨pm_dcA dk_X10_note_0 4 rfl, rfl⟩
theorem dX10_note_11 : pm_dec mX10_note 11 (.aload_n 0, 1) 12 := ⟨pm_dcA dk_X10_note_0 5 rfl, rfl⟩
theorem dX10_note_12 : pm_dec mX10_note 12 (.getfield 11, 3) 15 := ⟨pm_dcA dk_X10_note_0 6 rfl, rfl⟩
theorem dX10_note_15 : pm_dec mX10_note 15 (.arraylength, 1) 16 := ⟨pm_dcA dk_X10_note_0 7 rfl, rfl⟩
theorem dX10_note_16 : pm_dec mX10_note 16 (.if_icmp .ge 23, 3) 19 := ⟨pm_dcA dk_X10_note_0 8 rfl, rfl⟩
theorem dX10_note_19 : pm_dec mX10_note 19 (.aload_n 0, 1) 20 := ⟨pm_dcA dk_X10_note_0 9 rfl, rfl⟩
theorem dX10_note_20 : pm_dec mX10_note 20 (.getfield 11, 3) 23 := ⟨pm_dcA dk_X10_note_0 10 rfl, rfl⟩
theorem dX10_note_23 : pm_dec mX10_note 23 (.aload_n 0, 1) 24 := ⟨pm_dcA dk_X10_note_0 11 rfl, rfl⟩
theorem dX10_note_24 : pm_dec mX10_note 24 (.getfield 15, 3) 27 := ⟨pm_dcA dk_X10_note_0 12 rfl, rfl⟩
theorem dX10_note_27 : pm_dec mX10_note 27 (.iload_n 1, 1) 28 := ⟨pm_dcA dk_X10_note_0 13 rfl, rfl⟩
theorem dX10_note_28 : pm_dec mX10_note 28 (.iastore, 1) 29 := ⟨pm_dcA dk_X10_note_0 14 rfl, rfl⟩
theorem dX10_note_29 : pm_dec mX10_note 29 (.aload_n 0, 1) 30 := ⟨pm_dcA dk_X10_note_0 15 rfl, rfl⟩
theorem dX10_note_30 : pm_dec mX10_note 30 (.dup, 1) 31 := ⟨pm_dcA dk_X10_note_0 16 rfl, rfl⟩
theorem dX10_note_31 : pm_dec mX10_note 31 (.getfield 15, 3) 34 := ⟨pm_dcA dk_X10_note_0 17 rfl, rfl⟩
theorem dX10_note_34 : pm_dec mX10_note 34 (.iconst 1, 1) 35 := ⟨pm_dcA dk_X10_note_0 18 rfl, rfl⟩
theorem dX10_note_35 : pm_dec mX10_note 35 (.iadd, 1) 36 := ⟨pm_dcA dk_X10_note_0 19 rfl, rfl⟩
theorem dX10_note_36 : pm_dec mX10_note 36 (.putfield 15, 3) 39 := ⟨pm_dcA dk_X10_note_0 20 rfl, rfl⟩
theorem dX10_note_39 : pm_dec mX10_note 39 (.return_, 1) 40 := ⟨pm_dcA dk_X10_note_0 21 rfl, rfl⟩
def dt_X10_rankOf_0 : List (Nat × (Instr × Nat)) := [(0, (.iload_n 1, 1)), (1, (.iconst 2, 1)), (2, (.if_icmp .ne 18, 3)), (5, (.aload_n 0, 1)), (6, (.bipush 30, 2)), (8, (.invokevirtual 41, 3)), (11, (.aload_n 0, 1)), (12, (.iconst 0, 1)), (13, (.iload_n 2, 1)), (14, (.invokevirtual 35, 3)), (17, (.iconst 3, 1)), (18, (.imul, 1)), (19, (.ireturn, 1)), (20, (.aload_n 0, 1)), (21, (.bipush 12, 2)), (23, (.invokevirtual 41, 3)), (26, (.iload_n 2, 1)), (27, (.aload_n 0, 1)), (28, (.getfield 22, 3)), (31, (.isub, 1)), (32, (.ireturn, 1))]
theorem dk_X10_rankOf_0 : pm_dc mX10_rankOf.2.1 dt_X10_rankOf_0 = true := by decide +kernel
theorem dX10_rankOf_0 : pm_dec mX10_rankOf 0 (.iload_n 1, 1) 1 := ⟨pm_dcA dk_X10_rankOf_0 0 rfl, rfl⟩
theorem dX10_rankOf_1 : pm_dec mX10_rankOf 1 (.iconst 2, 1) 2 := ⟨pm_dcA dk_X10_rankOf_0 1 rfl, rfl⟩
theorem dX10_rankOf_2 : pm_dec mX10_rankOf 2 (.if_icmp .ne 18, 3) 5 := ⟨pm_dcA dk_X10_rankOf_0 2 rfl, rfl⟩
theorem dX10_rankOf_5 : pm_dec mX10_rankOf 5 (.aload_n 0, 1) 6 := ⟨pm_dcA dk_X10_rankOf_0 3 rfl, rfl⟩
theorem dX10_rankOf_6 : pm_dec mX10_rankOf 6 (.bipush 30, 2) 8 := ⟨pm_dcA dk_X10_rankOf_0 4 rfl, rfl⟩
theorem dX10_rankOf_8 : pm_dec mX10_rankOf 8 (.invokevirtual 41, 3) 11 := ⟨pm_dcA dk_X10_rankOf_0 5 rfl, rfl⟩
theorem dX10_rankOf_11 : pm_dec mX10_rankOf 11 (.aload_n 0, 1) 12 := ⟨pm_dcA dk_X10_rankOf_0 6 rfl, rfl⟩
theorem dX10_rankOf_12 : pm_dec mX10_rankOf 12 (.iconst 0, 1) 13 := ⟨pm_dcA dk_X10_rankOf_0 7 rfl, rfl⟩
theorem dX10_rankOf_13 : pm_dec mX10_rankOf 13 (.iload_n 2, 1) 14 := ⟨pm_dcA dk_X10_rankOf_0 8 rfl, rfl⟩
theorem dX10_rankOf_14 : pm_dec mX10_rankOf 14 (.invokevirtual 35, 3) 17 := ⟨pm_dcA dk_X10_rankOf_0 9 rfl, rfl⟩
theorem dX10_rankOf_17 : pm_dec mX10_rankOf 17 (.iconst 3, 1) 18 := ⟨pm_dcA dk_X10_rankOf_0 10 rfl, rfl⟩
theorem dX10_rankOf_18 : pm_dec mX10_rankOf 18 (.imul, 1) 19 := ⟨pm_dcA dk_X10_rankOf_0 11 rfl, rfl⟩
theorem dX10_rankOf_19 : pm_dec mX10_rankOf 19 (.ireturn, 1) 20 := ⟨pm_dcA dk_X10_rankOf_0 12 rfl, rfl⟩
theorem dX10_rankOf_20 : pm_dec mX10_rankOf 20 (.aload_n 0, 1) 21 := ⟨pm_dcA dk_X10_rankOf_0 13 rfl, rfl⟩
theorem dX10_rankOf_21 : pm_dec mX10_rankOf 21 (.bipush 12, 2) 23 := ⟨pm_dcA dk_X10_rankOf_0 14 rfl, rfl⟩
theorem dX10_rankOf_23 : pm_dec mX10_rankOf 23 (.invokevirtual 41, 3) 26 := ⟨pm_dcA dk_X10_rankOf_0 15 rfl, rfl⟩
theorem dX10_rankOf_26 : pm_dec mX10_rankOf 26 (.iload_n 2, 1) 27 := ⟨pm_dcA dk_X10_rankOf_0 16 rfl, rfl⟩
theorem dX10_rankOf_27 : pm_dec mX10_rankOf 27 (.aload_n 0, 1) 28 := ⟨pm_dcA dk_X10_rankOf_0 17 rfl, rfl⟩
theorem dX10_rankOf_28 : pm_dec mX10_rankOf 28 (.getfield 22, 3) 31 := ⟨pm_dcA dk_X10_rankOf_0 18 rfl, rfl⟩
theorem dX10_rankOf_31 : pm_dec mX10_rankOf 31 (.isub, 1) 32 := ⟨pm_dcA dk_X10_rankOf_0 19 rfl, rfl⟩
theorem dX10_rankOf_32 : pm_dec mX10_rankOf 32 (.ireturn, 1) 33 := ⟨pm_dcA dk_X10_rankOf_0 20 rfl, rfl⟩
def dt_X10_speak_0 : List (Nat × (Instr × Nat)) := [(0, (.iload_n 1, 1)), (1, (.tableswitch 57 0 2 #[27, 37, 47], 27)), (28, (.aload_n 0, 1)), (29, (.aload_n 0, 1)), (30, (.getfield 19, 3)), (33, (.iload_n 2, 1)), (34, (.invokevirtual 28, 3)), (37, (.ireturn, 1)), (38, (.aload_n 0, 1)), (39, (.aload_n 0, 1)), (40, (.getfield 19, 3)), (43, (.iload_n 2, 1)), (44, (.invokevirtual 32, 3)), (47, (.ireturn, 1)), (48, (.aload_n 0, 1)), (49, (.aload_n 0, 1)), (50, (.getfield 19, 3)), (53, (.iload_n 2, 1)), (54, (.invokevirtual 35, 3)), (57, (.ireturn, 1)), (58, (.aload_n 0, 1)), (59, (.aload_n 0, 1)), (60, (.getfield 19, 3)), (63, (.iload_n 2, 1)), (64, (.invokevirtual 38, 3)), (67, (.ireturn, 1))]
theorem dk_X10_speak_0 : pm_dc mX10_speak.2.1 dt_X10_speak_0 = true := by decide +kernel
theorem dX10_speak_0 : pm_dec mX10_speak 0 (.iload_n 1, 1) 1 := ⟨pm_dcA dk_X10_speak_0 0 rfl, rfl⟩
theorem dX10_speak_1 : pm_dec mX10_speak 1 (.tableswitch 57 0 2 #[27, 37, 47], 27) 28 := ⟨pm_dcA dk_X10_speak_0 1 rfl, rfl⟩
theorem dX10_speak_28 : pm_dec mX10_speak 28 (.aload_n 0, 1) 29 := ⟨pm_dcA dk_X10_speak_0 2 rfl, rfl⟩
theorem dX10_speak_29 : pm_dec mX10_speak 29 (.aload_n 0, 1) 30 := ⟨pm_dcA dk_X10_speak_0 3 rfl, rfl⟩
theorem dX10_speak_30 : pm_dec mX10_speak 30 (.getfield 19, 3) 33 := ⟨pm_dcA dk_X10_speak_0 4 rfl, rfl⟩
theorem dX10_speak_33 : pm_dec mX10_speak 33 (.iload_n 2, 1) 34 := ⟨pm_dcA dk_X10_speak_0 5 rfl, rfl⟩
theorem dX10_speak_34 : pm_dec mX10_speak 34 (.invokevirtual 28, 3) 37 := ⟨pm_dcA dk_X10_speak_0 6 rfl, rfl⟩
theorem dX10_speak_37 : pm_dec mX10_speak 37 (.ireturn, 1) 38 := ⟨pm_dcA dk_X10_speak_0 7 rfl, rfl⟩
theorem dX10_speak_38 : pm_dec mX10_speak 38 (.aload_n 0, 1) 39 := ⟨pm_dcA dk_X10_speak_0 8 rfl, rfl⟩
theorem dX10_speak_39 : pm_dec mX10_speak 39 (.aload_n 0, 1) 40 := ⟨pm_dcA dk_X10_speak_0 9 rfl, rfl⟩
theorem dX10_speak_40 : pm_dec mX10_speak 40 (.getfield 19, 3) 43 := ⟨pm_dcA dk_X10_speak_0 10 rfl, rfl⟩
theorem dX10_speak_43 : pm_dec mX10_speak 43 (.iload_n 2, 1) 44 := ⟨pm_dcA dk_X10_speak_0 11 rfl, rfl⟩
theorem dX10_speak_44 : pm_dec mX10_speak 44 (.invokevirtual 32, 3) 47 := ⟨pm_dcA dk_X10_speak_0 12 rfl, rfl⟩
theorem dX10_speak_47 : pm_dec mX10_speak 47 (.ireturn, 1) 48 := ⟨pm_dcA dk_X10_speak_0 13 rfl, rfl⟩
theorem dX10_speak_48 : pm_dec mX10_speak 48 (.aload_n 0, 1) 49 := ⟨pm_dcA dk_X10_speak_0 14 rfl, rfl⟩
theorem dX10_speak_49 : pm_dec mX10_speak 49 (.aload_n 0, 1) 50 := ⟨pm_dcA dk_X10_speak_0 15 rfl, rfl⟩
theorem dX10_speak_50 : pm_dec mX10_speak 50 (.getfield 19, 3) 53 := ⟨pm_dcA dk_X10_speak_0 16 rfl, rfl⟩
theorem dX10_speak_53 : pm_dec mX10_speak 53 (.iload_n 2, 1) 54 := ⟨pm_dcA dk_X10_speak_0 17 rfl, rfl⟩
theorem dX10_speak_54 : pm_dec mX10_speak 54 (.invokevirtual 35, 3) 57 := ⟨pm_dcA dk_X10_speak_0 18 rfl, rfl⟩
theorem dX10_speak_57 : pm_dec mX10_speak 57 (.ireturn, 1) 58 := ⟨pm_dcA dk_X10_speak_0 19 rfl, rfl⟩
theorem dX10_speak_58 : pm_dec mX10_speak 58 (.aload_n 0, 1) 59 := ⟨pm_dcA dk_X10_speak_0 20 rfl, rfl⟩
theorem dX10_speak_59 : pm_dec mX10_speak 59 (.aload_n 0, 1) 60 := ⟨pm_dcA dk_X10_speak_0 21 rfl, rfl⟩
theorem dX10_speak_60 : pm_dec mX10_speak 60 (.getfield 19, 3) 63 := ⟨pm_dcA dk_X10_speak_0 22 rfl, rfl⟩
theorem dX10_speak_63 : pm_dec mX10_speak 63 (.iload_n 2, 1) 64 := ⟨pm_dcA dk_X10_speak_0 23 rfl, rfl⟩
theorem dX10_speak_64 : pm_dec mX10_speak 64 (.invokevirtual 38, 3) 67 := ⟨pm_dcA dk_X10_speak_0 24 rfl, rfl⟩
theorem dX10_speak_67 : pm_dec mX10_speak 67 (.ireturn, 1) 68 := ⟨pm_dcA dk_X10_speak_0 25 rfl, rfl⟩
def dt_X10_tellOf_0 : List (Nat × (Instr × Nat)) := [(0, (.iload_n 1, 1)), (1, (.tableswitch 69 1 4 #[54, 69, 54, 31], 31)), (32, (.aload_n 0, 1)), (33, (.bipush 51, 2)), (35, (.invokevirtual 41, 3)), (38, (.aload_n 0, 1)), (39, (.aload_n 0, 1)), (40, (.getfield 19, 3)), (43, (.iload_n 2, 1)), (44, (.invokevirtual 35, 3)), (47, (.aload_n 0, 1)), (48, (.iconst 3, 1)), (49, (.iload_n 2, 1)), (50, (.invokevirtual 38, 3)), (53, (.isub, 1)), (54, (.ireturn, 1)), (55, (.aload_n 0, 1)), (56, (.bipush 21, 2)), (58, (.invokevirtual 41, 3)), (61, (.aload_n 0, 1)), (62, (.iconst 0, 1)), (63, (.iload_n 2, 1)), (64, (.iconst 1, 1)), (65, (.iadd, 1)), (66, (.invokevirtual 38, 3)), (69, (.ireturn, 1)), (70, (.aload_n 0, 1)), (71, (.bipush 13, 2)), (73, (.invokevirtual 41, 3)), (76, (.aload_n 0, 1)), (77, (.aload_n 0, 1)), (78, (.getfield 19, 3))]
theorem dk_X10_tellOf_0 : pm_dc mX10_tellOf.2.1 dt_X10_tellOf_0 = true := by decide +kernel
theorem dX10_tellOf_0 : pm_dec mX10_tellOf 0 (.iload_n 1, 1) 1 := ⟨pm_dcA dk_X10_tellOf_0 0 rfl, rfl⟩
theorem dX10_tellOf_1 : pm_dec mX10_tellOf 1 (.tableswitch 69 1 4 #[54, 69, 54, 31], 31) 32 := ⟨pm_dcA dk_X10_tellOf_0 1 rfl, rfl⟩
theorem dX10_tellOf_32 : pm_dec mX10_tellOf 32 (.aload_n 0, 1) 33 := ⟨pm_dcA dk_X10_tellOf_0 2 rfl, rfl⟩
theorem dX10_tellOf_33 : pm_dec mX10_tellOf 33 (.bipush 51, 2) 35 := ⟨pm_dcA dk_X10_tellOf_0 3 rfl, rfl⟩
theorem dX10_tellOf_35 : pm_dec mX10_tellOf 35 (.invokevirtual 41, 3) 38 := ⟨pm_dcA dk_X10_tellOf_0 4 rfl, rfl⟩
theorem dX10_tellOf_38 : pm_dec mX10_tellOf 38 (.aload_n 0, 1) 39 := ⟨pm_dcA dk_X10_tellOf_0 5 rfl, rfl⟩
theorem dX10_tellOf_39 : pm_dec mX10_tellOf 39 (.aload_n 0, 1) 40 := ⟨pm_dcA dk_X10_tellOf_0 6 rfl, rfl⟩
theorem dX10_tellOf_40 : pm_dec mX10_tellOf 40 (.getfield 19, 3) 43 := ⟨pm_dcA dk_X10_tellOf_0 7 rfl, rfl⟩
theorem dX10_tellOf_43 : pm_dec mX10_tellOf 43 (.iload_n 2, 1) 44 := ⟨pm_dcA dk_X10_tellOf_0 8 rfl, rfl⟩
theorem dX10_tellOf_44 : pm_dec mX10_tellOf 44 (.invokevirtual 35, 3) 47 := ⟨pm_dcA dk_X10_tellOf_0 9 rfl, rfl⟩
theorem dX10_tellOf_47 : pm_dec mX10_tellOf 47 (.aload_n 0, 1) 48 := ⟨pm_dcA dk_X10_tellOf_0 10 rfl, rfl⟩
theorem dX10_tellOf_48 : pm_dec mX10_tellOf 48 (.iconst 3, 1) 49 := ⟨pm_dcA dk_X10_tellOf_0 11 rfl, rfl⟩
theorem dX10_tellOf_49 : pm_dec mX10_tellOf 49 (.iload_n 2, 1) 50 := ⟨pm_dcA dk_X10_tellOf_0 12 rfl, rfl⟩
theorem dX10_tellOf_50 : pm_dec mX10_tellOf 50 (.invokevirtual 38, 3) 53 := ⟨pm_dcA dk_X10_tellOf_0 13 rfl, rfl⟩
theorem dX10_tellOf_53 : pm_dec mX10_tellOf 53 (.isub, 1) 54 := ⟨pm_dcA dk_X10_tellOf_0 14 rfl, rfl⟩
theorem dX10_tellOf_54 : pm_dec mX10_tellOf 54 (.ireturn, 1) 55 := ⟨pm_dcA dk_X10_tellOf_0 15 rfl, rfl⟩
theorem dX10_tellOf_55 : pm_dec mX10_tellOf 55 (.aload_n 0, 1) 56 := ⟨pm_dcA dk_X10_tellOf_0 16 rfl, rfl⟩
theorem dX10_tellOf_56 : pm_dec mX10_tellOf 56 (.bipush 21, 2) 58 := ⟨pm_dcA dk_X10_tellOf_0 17 rfl, rfl⟩
theorem dX10_tellOf_58 : pm_dec mX10_tellOf 58 (.invokevirtual 41, 3) 61 := ⟨pm_dcA dk_X10_tellOf_0 18 rfl, rfl⟩
theorem dX10_tellOf_61 : pm_dec mX10_tellOf 61 (.aload_n 0, 1) 62 := ⟨pm_dcA dk_X10_tellOf_0 19 rfl, rfl⟩
theorem dX10_tellOf_62 : pm_dec mX10_tellOf 62 (.iconst 0, 1) 63 := ⟨pm_dcA dk_X10_tellOf_0 20 rfl, rfl⟩
theorem dX10_tellOf_63 : pm_dec mX10_tellOf 63 (.iload_n 2, 1) 64 := ⟨pm_dcA dk_X10_tellOf_0 21 rfl, rfl⟩
theorem dX10_tellOf_64 : pm_dec mX10_tellOf 64 (.iconst 1, 1) 65 := ⟨pm_dcA dk_X10_tellOf_0 22 rfl, rfl⟩
theorem dX10_tellOf_65 : pm_dec mX10_tellOf 65 (.iadd, 1) 66 := ⟨pm_dcA dk_X10_tellOf_0 23 rfl, rfl⟩
theorem dX10_tellOf_66 : pm_dec mX10_tellOf 66 (.invokevirtual 38, 3) 69 := ⟨pm_dcA dk_X10_tellOf_0 24 rfl, rfl⟩
theorem dX10_tellOf_69 : pm_dec mX10_tellOf 69 (.ireturn, 1) 70 := ⟨pm_dcA dk_X10_tellOf_0 25 rfl, rfl⟩
theorem dX10_tellOf_70 : pm_dec mX10_tellOf 70 (.aload_n 0, 1) 71 := ⟨pm_dcA dk_X10_tellOf_0 26 rfl, rfl⟩
theorem dX10_tellOf_71 : pm_dec mX10_tellOf 71 (.bipush 13, 2) 73 := ⟨pm_dcA dk_X10_tellOf_0 27 rfl, rfl⟩
theorem dX10_tellOf_73 : pm_dec mX10_tellOf 73 (.invokevirtual 41, 3) 76 := ⟨pm_dcA dk_X10_tellOf_0 28 rfl, rfl⟩
theorem dX10_tellOf_76 : pm_dec mX10_tellOf 76 (.aload_n 0, 1) 77 := ⟨pm_dcA dk_X10_tellOf_0 29 rfl, rfl⟩
theorem dX10_tellOf_77 : pm_dec mX10_tellOf 77 (.aload_n 0, 1) 78 := ⟨pm_dcA dk_X10_tellOf_0 30 rfl, rfl⟩
theorem dX10_tellOf_78 : pm_dec mX10_tellOf 78 (.getfield 19, 3) 81 := ⟨pm_dcA dk_X10_tellOf_0 31 rfl, rfl⟩
def dt_X10_tellOf_81 : List (Nat × (Instr × Nat)) := [(81, (.iload_n 2, 1)), (82, (.invokevirtual 32, 3)), (85, (.aload_n 0, 1)), (86, (.aload_n 0, 1)), (87, (.getfield 19, 3)), (90, (.iload_n 2, 1)), (91, (.invokevirtual 35, 3)), (94, (.ixor, 1)), (95, (.ireturn, 1))]
theorem dk_X10_tellOf_81 : pm_dc mX10_tellOf.2.1 dt_X10_tellOf_81 = true := by decide +kernel
theorem dX10_tellOf_81 : pm_dec mX10_tellOf 81 (.iload_n 2, 1) 82 := ⟨pm_dcA dk_X10_tellOf_81 0 rfl, rfl⟩
theorem dX10_tellOf_82 : pm_dec mX10_tellOf 82 (.invokevirtual 32, 3) 85 := ⟨pm_dcA dk_X10_tellOf_81 1 rfl, rfl⟩
theorem dX10_tellOf_85 : pm_dec mX10_tellOf 85 (.aload_n 0, 1) 86 := ⟨pm_dcA dk_X10_tellOf_81 2 rfl, rfl⟩
theorem dX10_tellOf_86 : pm_dec mX10_tellOf 86 (.aload_n 0, 1) 87 := ⟨pm_dcA dk_X10_tellOf_81 3 rfl, rfl⟩
theorem dX10_tellOf_87 : pm_dec mX10_tellOf 87 (.getfield 19, 3) 90 := ⟨pm_dcA dk_X10_tellOf_81 4 rfl, rfl⟩
theorem dX10_tellOf_90 : pm_dec mX10_tellOf 90 (.iload_n 2, 1) 91 := ⟨pm_dcA dk_X10_tellOf_81 5 rfl, rfl⟩
theorem dX10_tellOf_91 : pm_dec mX10_tellOf 91 (.invokevirtual 35, 3) 94 := ⟨pm_dcA dk_X10_tellOf_81 6 rfl, rfl⟩
theorem dX10_tellOf_94 : pm_dec mX10_tellOf 94 (.ixor, 1) 95 := ⟨pm_dcA dk_X10_tellOf_81 7 rfl, rfl⟩
theorem dX10_tellOf_95 : pm_dec mX10_tellOf 95 (.ireturn, 1) 96 := ⟨pm_dcA dk_X10_tellOf_81 8 rfl, rfl⟩
def dt_X11_about_0 : List (Nat × (Instr × Nat)) := [(0, (.aload_n 0, 1)), (1, (.getfield 12, 3)), (4, (.getfield 128, 3)), (7, (.iload_n 1, 1)), (8, (.invokevirtual 101, 3)), (11, (.ifCond .ne 10, 3)), (14, (.aload_n 0, 1)), (15, (.ldc 109, 2)), (17, (.invokevirtual 97, 3)), (20, (.ireturn, 1)), (21, (.iload_n 2, 1)), (22, (.tableswitch 196 0 9 #[54, 67, 81, 95, 118, 127, 140, 154, 168, 182], 54)), (76, (.aload_n 0, 1)), (77, (.getfield 12, 3)), (80, (.getfield 128, 3)), (83, (.iload_n 1, 1)), (84, (.iconst 4, 1)), (85, (.invokevirtual 152, 3)), (88, (.ireturn, 1)), (89, (.aload_n 0, 1)), (90, (.getfield 12, 3)), (93, (.getfield 128, 3)), (96, (.iload_n 1, 1)), (97, (.bipush 7, 2)), (99, (.invokevirtual 152, 3)), (102, (.ireturn, 1)), (103, (.aload_n 0, 1)), (104, (.getfield 12, 3)), (107, (.getfield 128, 3)), (110, (.iload_n 1, 1)), (111, (.bipush 8, 2)), (113, (.invokevirtual 152, 3))]
theorem dk_X11_about_0 : pm_dc mX11_about.2.1 dt_X11_about_0 = true := by decide +kernel
theorem dX11_about_0 : pm_dec mX11_about 0 (.aload_n 0, 1) 1 := ⟨pm_dcA dk_X11_about_0 0 rfl, rfl⟩
theorem dX11_about_1 : pm_dec mX11_about 1 (.getfield 12, 3) 4 := ⟨pm_dcA dk_X11_about_0 1 rfl, rfl⟩
theorem dX11_about_4 : pm_dec mX11_about 4 (.getfield 128, 3) 7 := ⟨pm_dcA dk_X11_about_0 2 rfl, rfl⟩
theorem dX11_about_7 : pm_dec mX11_about 7 (.iload_n 1, 1) 8 := ⟨pm_dcA dk_X11_about_0 3 rfl, rfl⟩
theorem dX11_about_8 : pm_dec mX11_about 8 (.invokevirtual 101, 3) 11 := ⟨pm_dcA dk_X11_about_0 4 rfl, rfl⟩
theorem dX11_about_11 : pm_dec mX11_about 11 (.ifCond .ne 10, 3) 14 := ⟨pm_dcA dk_X11_about_0 5 rfl, rfl⟩
theorem dX11_about_14 : pm_dec mX11_about 14 (.aload_n 0, 1) 15 := ⟨pm_dcA dk_X11_about_0 6 rfl, rfl⟩
theorem dX11_about_15 : pm_dec mX11_about 15 (.ldc 109, 2) 17 := ⟨pm_dcA dk_X11_about_0 7 rfl, rfl⟩
theorem dX11_about_17 : pm_dec mX11_about 17 (.invokevirtual 97, 3) 20 := ⟨pm_dcA dk_X11_about_0 8 rfl, rfl⟩
theorem dX11_about_20 : pm_dec mX11_about 20 (.ireturn, 1) 21 := ⟨pm_dcA dk_X11_about_0 9 rfl, rfl⟩
theorem dX11_about_21 : pm_dec mX11_about 21 (.iload_n 2, 1) 22 := ⟨pm_dcA dk_X11_about_0 10 rfl, rfl⟩
theorem dX11_about_22 : pm_dec mX11_about 22 (.tableswitch 196 0 9 #[54, 67, 81, 95, 118, 127, 140, 154, 168, 182], 54) 76 := ⟨pm_dcA dk_X11_about_0 11 rfl, rfl⟩
theorem dX11_about_76 : pm_dec mX11_about 76 (.aload_n 0, 1) 77 := ⟨pm_dcA dk_X11_about_0 12 rfl, rfl⟩
theorem dX11_about_77 : pm_dec mX11_about 77 (.getfield 12, 3) 80 := ⟨pm_dcA dk_X11_about_0 13 rfl, rfl⟩
theorem dX11_about_80 : pm_dec mX11_about 80 (.getfield 128, 3) 83 := ⟨pm_dcA dk_X11_about_0 14 rfl, rfl⟩
theorem dX11_about_83 : pm_dec mX11_about 83 (.iload_n 1, 1) 84 := ⟨pm_dcA dk_X11_about_0 15 rfl, rfl⟩
theorem dX11_about_84 : pm_dec mX11_about 84 (.iconst 4, 1) 85 := ⟨pm_dcA dk_X11_about_0 16 rfl, rfl⟩
theorem dX11_about_85 : pm_dec mX11_about 85 (.invokevirtual 152, 3) 88 := ⟨pm_dcA dk_X11_about_0 17 rfl, rfl⟩
theorem dX11_about_88 : pm_dec mX11_about 88 (.ireturn, 1) 89 := ⟨pm_dcA dk_X11_about_0 18 rfl, rfl⟩
theorem dX11_about_89 : pm_dec mX11_about 89 (.aload_n 0, 1) 90 := ⟨pm_dcA dk_X11_about_0 19 rfl, rfl⟩
theorem dX11_about_90 : pm_dec mX11_about 90 (.getfield 12, 3) 93 := ⟨pm_dcA dk_X11_about_0 20 rfl, rfl⟩
theorem dX11_about_93 : pm_dec mX11_about 93 (.getfield 128, 3) 96 := ⟨pm_dcA dk_X11_about_0 21 rfl, rfl⟩
theorem dX11_about_96 : pm_dec mX11_about 96 (.iload_n 1, 1) 97 := ⟨pm_dcA dk_X11_about_0 22 rfl, rfl⟩
theorem dX11_about_97 : pm_dec mX11_about 97 (.bipush 7, 2) 99 := ⟨pm_dcA dk_X11_about_0 23 rfl, rfl⟩
theorem dX11_about_99 : pm_dec mX11_about 99 (.invokevirtual 152, 3) 102 := ⟨pm_dcA dk_X11_about_0 24 rfl, rfl⟩
theorem dX11_about_102 : pm_dec mX11_about 102 (.ireturn, 1) 103 := ⟨pm_dcA dk_X11_about_0 25 rfl, rfl⟩
theorem dX11_about_103 : pm_dec mX11_about 103 (.aload_n 0, 1) 104 := ⟨pm_dcA dk_X11_about_0 26 rfl, rfl⟩
theorem dX11_about_104 : pm_dec mX11_about 104 (.getfield 12, 3) 107 := ⟨pm_dcA dk_X11_about_0 27 rfl, rfl⟩
theorem dX11_about_107 : pm_dec mX11_about 107 (.getfield 128, 3) 110 := ⟨pm_dcA dk_X11_about_0 28 rfl, rfl⟩
theorem dX11_about_110 : pm_dec mX11_about 110 (.iload_n 1, 1) 111 := ⟨pm_dcA dk_X11_about_0 29 rfl, rfl⟩
theorem dX11_about_111 : pm_dec mX11_about 111 (.bipush 8, 2) 113 := ⟨pm_dcA dk_X11_about_0 30 rfl, rfl⟩
theorem dX11_about_113 : pm_dec mX11_about 113 (.invokevirtual 152, 3) 116 := ⟨pm_dcA dk_X11_about_0 31 rfl, rfl⟩
def dt_X11_about_116 : List (Nat × (Instr × Nat)) := [(116, (.ireturn, 1)), (117, (.aload_n 0, 1)), (118, (.getfield 12, 3)), (121, (.getfield 128, 3)), (124, (.iload_n 1, 1)), (125, (.iconst 1, 1)), (126, (.invokevirtual 152, 3)), (129, (.aload_n 0, 1)), (130, (.getfield 12, 3)), (133, (.getfield 122, 3)), (136, (.invokestatic 155, 3)), (139, (.ireturn, 1)), (140, (.aload_n 0, 1)), (141, (.getfield 12, 3)), (144, (.iload_n 1, 1)), (145, (.invokevirtual 158, 3)), (148, (.ireturn, 1)), (149, (.aload_n 0, 1)), (150, (.getfield 12, 3)), (153, (.getfield 161, 3)), (156, (.iconst 2, 1)), (157, (.iload_n 1, 1)), (158, (.invokevirtual 164, 3)), (161, (.ireturn, 1)), (162, (.aload_n 0, 1)), (163, (.getfield 12, 3)), (166, (.getfield 128, 3)), (169, (.iload_n 1, 1)), (170, (.bipush 9, 2)), (172, (.invokevirtual 152, 3)), (175, (.ireturn, 1)), (176, (.aload_n 0, 1))]
theorem dk_X11_about_116 : pm_dc mX11_about.2.1 dt_X11_about_116 = true := by decide +kernel
theorem dX11_about_116 : pm_dec mX11_about 116 (.ireturn, 1) 117 := ⟨pm_dcA dk_X11_about_116 0 rfl, rfl⟩
theorem dX11_about_117 : pm_dec mX11_about 117 (.aload_n 0, 1) 118 := ⟨pm_dcA dk_X11_about_116 1 rfl, rfl⟩
theorem dX11_about_118 : pm_dec mX11_about 118 (.getfield 12, 3) 121 := ⟨pm_dcA dk_X11_about_116 2 rfl, rfl⟩
theorem dX11_about_121 : pm_dec mX11_about 121 (.getfield 128, 3) 124 := ⟨pm_dcA dk_X11_about_116 3 rfl, rfl⟩
theorem dX11_about_124 : pm_dec mX11_about 124 (.iload_n 1, 1) 125 := ⟨pm_dcA dk_X11_about_116 4 rfl, rfl⟩
theorem dX11_about_125 : pm_dec mX11_about 125 (.iconst 1, 1) 126 := ⟨pm_dcA dk_X11_about_116 5 rfl, rfl⟩
theorem dX11_about_126 : pm_dec mX11_about 126 (.invokevirtual 152, 3) 129 := ⟨pm_dcA dk_X11_about_116 6 rfl, rfl⟩
theorem dX11_about_129 : pm_dec mX11_about 129 (.aload_n 0, 1) 130 := ⟨pm_dcA dk_X11_about_116 7 rfl, rfl⟩
theorem dX11_about_130 : pm_dec mX11_about 130 (.getfield 12, 3) 133 := ⟨pm_dcA dk_X11_about_116 8 rfl, rfl⟩
theorem dX11_about_133 : pm_dec mX11_about 133 (.getfield 122, 3) 136 := ⟨pm_dcA dk_X11_about_116 9 rfl, rfl⟩
theorem dX11_about_136 : pm_dec mX11_about 136 (.invokestatic 155, 3) 139 := ⟨pm_dcA dk_X11_about_116 10 rfl, rfl⟩
theorem dX11_about_139 : pm_dec mX11_about 139 (.ireturn, 1) 140 := ⟨pm_dcA dk_X11_about_116 11 rfl, rfl⟩
theorem dX11_about_140 : pm_dec mX11_about 140 (.aload_n 0, 1) 141 := ⟨pm_dcA dk_X11_about_116 12 rfl, rfl⟩
theorem dX11_about_141 : pm_dec mX11_about 141 (.getfield 12, 3) 144 := ⟨pm_dcA dk_X11_about_116 13 rfl, rfl⟩
theorem dX11_about_144 : pm_dec mX11_about 144 (.iload_n 1, 1) 145 := ⟨pm_dcA dk_X11_about_116 14 rfl, rfl⟩
theorem dX11_about_145 : pm_dec mX11_about 145 (.invokevirtual 158, 3) 148 := ⟨pm_dcA dk_X11_about_116 15 rfl, rfl⟩
theorem dX11_about_148 : pm_dec mX11_about 148 (.ireturn, 1) 149 := ⟨pm_dcA dk_X11_about_116 16 rfl, rfl⟩
theorem dX11_about_149 : pm_dec mX11_about 149 (.aload_n 0, 1) 150 := ⟨pm_dcA dk_X11_about_116 17 rfl, rfl⟩
theorem dX11_about_150 : pm_dec mX11_about 150 (.getfield 12, 3) 153 := ⟨pm_dcA dk_X11_about_116 18 rfl, rfl⟩
theorem dX11_about_153 : pm_dec mX11_about 153 (.getfield 161, 3) 156 := ⟨pm_dcA dk_X11_about_116 19 rfl, rfl⟩
theorem dX11_about_156 : pm_dec mX11_about 156 (.iconst 2, 1) 157 := ⟨pm_dcA dk_X11_about_116 20 rfl, rfl⟩
theorem dX11_about_157 : pm_dec mX11_about 157 (.iload_n 1, 1) 158 := ⟨pm_dcA dk_X11_about_116 21 rfl, rfl⟩
theorem dX11_about_158 : pm_dec mX11_about 158 (.invokevirtual 164, 3) 161 := ⟨pm_dcA dk_X11_about_116 22 rfl, rfl⟩
theorem dX11_about_161 : pm_dec mX11_about 161 (.ireturn, 1) 162 := ⟨pm_dcA dk_X11_about_116 23 rfl, rfl⟩
theorem dX11_about_162 : pm_dec mX11_about 162 (.aload_n 0, 1) 163 := ⟨pm_dcA dk_X11_about_116 24 rfl, rfl⟩
theorem dX11_about_163 : pm_dec mX11_about 163 (.getfield 12, 3) 166 := ⟨pm_dcA dk_X11_about_116 25 rfl, rfl⟩
theorem dX11_about_166 : pm_dec mX11_about 166 (.getfield 128, 3) 169 := ⟨pm_dcA dk_X11_about_116 26 rfl, rfl⟩
theorem dX11_about_169 : pm_dec mX11_about 169 (.iload_n 1, 1) 170 := ⟨pm_dcA dk_X11_about_116 27 rfl, rfl⟩
theorem dX11_about_170 : pm_dec mX11_about 170 (.bipush 9, 2) 172 := ⟨pm_dcA dk_X11_about_116 28 rfl, rfl⟩
theorem dX11_about_172 : pm_dec mX11_about 172 (.invokevirtual 152, 3) 175 := ⟨pm_dcA dk_X11_about_116 29 rfl, rfl⟩
theorem dX11_about_175 : pm_dec mX11_about 175 (.ireturn, 1) 176 := ⟨pm_dcA dk_X11_about_116 30 rfl, rfl⟩
theorem dX11_about_176 : pm_dec mX11_about 176 (.aload_n 0, 1) 177 := ⟨pm_dcA dk_X11_about_116 31 rfl, rfl⟩
def dt_X11_about_177 : List (Nat × (Instr × Nat)) := [(177, (.getfield 12, 3)), (180, (.getfield 128, 3)), (183, (.iload_n 1, 1)), (184, (.bipush 13, 2)), (186, (.invokevirtual 152, 3)), (189, (.ireturn, 1)), (190, (.aload_n 0, 1)), (191, (.getfield 12, 3)), (194, (.getfield 128, 3)), (197, (.iload_n 1, 1)), (198, (.bipush 11, 2)), (200, (.invokevirtual 152, 3)), (203, (.ireturn, 1)), (204, (.aload_n 0, 1)), (205, (.getfield 12, 3)), (208, (.getfield 128, 3)), (211, (.iload_n 1, 1)), (212, (.bipush 12, 2)), (214, (.invokevirtual 152, 3)), (217, (.ireturn, 1)), (218, (.aload_n 0, 1)), (219, (.ldc 109, 2)), (221, (.invokevirtual 97, 3)), (224, (.ireturn, 1))]
theorem dk_X11_about_177 : pm_dc mX11_about.2.1 dt_X11_about_177 = true := by decide +kernel
theorem dX11_about_177 : pm_dec mX11_about 177 (.getfield 12, 3) 180 := ⟨pm_dcA dk_X11_about_177 0 rfl, rfl⟩
theorem dX11_about_180 : pm_dec mX11_about 180 (.getfield 128, 3) 183 := ⟨pm_dcA dk_X11_about_177 1 rfl, rfl⟩
theorem dX11_about_183 : pm_dec mX11_about 183 (.iload_n 1, 1) 184 := ⟨pm_dcA dk_X11_about_177 2 rfl, rfl⟩
theorem dX11_about_184 : pm_dec mX11_about 184 (.bipush 13, 2) 186 := ⟨pm_dcA dk_X11_about_177 3 rfl, rfl⟩
theorem dX11_about_186 : pm_dec mX11_about 186 (.invokevirtual 152, 3) 189 := ⟨pm_dcA dk_X11_about_177 4 rfl, rfl⟩
theorem dX11_about_189 : pm_dec mX11_about 189 (.ireturn, 1) 190 := ⟨pm_dcA dk_X11_about_177 5 rfl, rfl⟩
theorem dX11_about_190 : pm_dec mX11_about 190 (.aload_n 0, 1) 191 := ⟨pm_dcA dk_X11_about_177 6 rfl, rfl⟩
theorem dX11_about_191 : pm_dec mX11_about 191 (.getfield 12, 3) 194 := ⟨pm_dcA dk_X11_about_177 7 rfl, rfl⟩
theorem dX11_about_194 : pm_dec mX11_about 194 (.getfield 128, 3) 197 := ⟨pm_dcA dk_X11_about_177 8 rfl, rfl⟩
theorem dX11_about_197 : pm_dec mX11_about 197 (.iload_n 1, 1) 198 := ⟨pm_dcA dk_X11_about_177 9 rfl, rfl⟩
theorem dX11_about_198 : pm_dec mX11_about 198 (.bipush 11, 2) 200 := ⟨pm_dcA dk_X11_about_177 10 rfl, rfl⟩
theorem dX11_about_200 : pm_dec mX11_about 200 (.invokevirtual 152, 3) 203 := ⟨pm_dcA dk_X11_about_177 11 rfl, rfl⟩
theorem dX11_about_203 : pm_dec mX11_about 203 (.ireturn, 1) 204 := ⟨pm_dcA dk_X11_about_177 12 rfl, rfl⟩
theorem dX11_about_204 : pm_dec mX11_about 204 (.aload_n 0, 1) 205 := ⟨pm_dcA dk_X11_about_177 13 rfl, rfl⟩
theorem dX11_about_205 : pm_dec mX11_about 205 (.getfield 12, 3) 208 := ⟨pm_dcA dk_X11_about_177 14 rfl, rfl⟩
theorem dX11_about_208 : pm_dec mX11_about 208 (.getfield 128, 3) 211 := ⟨pm_dcA dk_X11_about_177 15 rfl, rfl⟩
theorem dX11_about_211 : pm_dec mX11_about 211 (.iload_n 1, 1) 212 := ⟨pm_dcA dk_X11_about_177 16 rfl, rfl⟩
theorem dX11_about_212 : pm_dec mX11_about 212 (.bipush 12, 2) 214 := ⟨pm_dcA dk_X11_about_177 17 rfl, rfl⟩
theorem dX11_about_214 : pm_dec mX11_about 214 (.invokevirtual 152, 3) 217 := ⟨pm_dcA dk_X11_about_177 18 rfl, rfl⟩
theorem dX11_about_217 : pm_dec mX11_about 217 (.ireturn, 1) 218 := ⟨pm_dcA dk_X11_about_177 19 rfl, rfl⟩
theorem dX11_about_218 : pm_dec mX11_about 218 (.aload_n 0, 1) 219 := ⟨pm_dcA dk_X11_about_177 20 rfl, rfl⟩
theorem dX11_about_219 : pm_dec mX11_about 219 (.ldc 109, 2) 221 := ⟨pm_dcA dk_X11_about_177 21 rfl, rfl⟩
theorem dX11_about_221 : pm_dec mX11_about 221 (.invokevirtual 97, 3) 224 := ⟨pm_dcA dk_X11_about_177 22 rfl, rfl⟩
theorem dX11_about_224 : pm_dec mX11_about 224 (.ireturn, 1) 225 := ⟨pm_dcA dk_X11_about_177 23 rfl, rfl⟩
def dt_X11_after_0 : List (Nat × (Instr × Nat)) := [(0, (.aload_n 0, 1)), (1, (.aload_n 0, 1)), (2, (.getfield 12, 3)), (5, (.getfield 161, 3)), (8, (.iload_n 1, 1)), (9, (.invokevirtual 101, 3)), (12, (.ifCond .eq 14, 3)), (15, (.aload_n 0, 1)), (16, (.getfield 46, 3)), (19, (.iload_n 1, 1)), (20, (.invokevirtual 332, 3)), (23, (.goto 5, 3)), (26, (.ldc 109, 2)), (28, (.invokevirtual 97, 3)), (31, (.ireturn, 1))]
theorem dk_X11_after_0 : pm_dc mX11_after.2.1 dt_X11_after_0 = true := by decide +kernel
theorem dX11_after_0 : pm_dec mX11_after 0 (.aload_n 0, 1) 1 := ⟨pm_dcA dk_X11_after_0 0 rfl, rfl⟩
theorem dX11_after_1 : pm_dec mX11_after 1 (.aload_n 0, 1) 2 := ⟨pm_dcA dk_X11_after_0 1 rfl, rfl⟩
theorem dX11_after_2 : pm_dec mX11_after 2 (.getfield 12, 3) 5 := ⟨pm_dcA dk_X11_after_0 2 rfl, rfl⟩
theorem dX11_after_5 : pm_dec mX11_after 5 (.getfield 161, 3) 8 := ⟨pm_dcA dk_X11_after_0 3 rfl, rfl⟩
theorem dX11_after_8 : pm_dec mX11_after 8 (.iload_n 1, 1) 9 := ⟨pm_dcA dk_X11_after_0 4 rfl, rfl⟩
theorem dX11_after_9 : pm_dec mX11_after 9 (.invokevirtual 101, 3) 12 := ⟨pm_dcA dk_X11_after_0 5 rfl, rfl⟩
theorem dX11_after_12 : pm_dec mX11_after 12 (.ifCond .eq 14, 3) 15 := ⟨pm_dcA dk_X11_after_0 6 rfl, rfl⟩
theorem dX11_after_15 : pm_dec mX11_after 15 (.aload_n 0, 1) 16 := ⟨pm_dcA dk_X11_after_0 7 rfl, rfl⟩
theorem dX11_after_16 : pm_dec mX11_after 16 (.getfield 46, 3) 19 := ⟨pm_dcA dk_X11_after_0 8 rfl, rfl⟩
theorem dX11_after_19 : pm_dec mX11_after 19 (.iload_n 1, 1) 20 := ⟨pm_dcA dk_X11_after_0 9 rfl, rfl⟩
theorem dX11_after_20 : pm_dec mX11_after 20 (.invokevirtual 332, 3) 23 := ⟨pm_dcA dk_X11_after_0 10 rfl, rfl⟩
theorem dX11_after_23 : pm_dec mX11_after 23 (.goto 5, 3) 26 := ⟨pm_dcA dk_X11_after_0 11 rfl, rfl⟩
theorem dX11_after_26 : pm_dec mX11_after 26 (.ldc 109, 2) 28 := ⟨pm_dcA dk_X11_after_0 12 rfl, rfl⟩
theorem dX11_after_28 : pm_dec mX11_after 28 (.invokevirtual 97, 3) 31 := ⟨pm_dcA dk_X11_after_0 13 rfl, rfl⟩
theorem dX11_after_31 : pm_dec mX11_after 31 (.ireturn, 1) 32 := ⟨pm_dcA dk_X11_after_0 14 rfl, rfl⟩
def dt_X11_age_0 : List (Nat × (Instr × Nat)) := [(0, (.aload_n 0, 1)), (1, (.aload_n 0, 1)), (2, (.getfield 46, 3)), (5, (.invokevirtual 329, 3)), (8, (.invokevirtual 97, 3)), (11, (.ireturn, 1))]
theorem dk_X11_age_0 : pm_dc mX11_age.2.1 dt_X11_age_0 = true := by decide +kernel
theorem dX11_age_0 : pm_dec mX11_age 0 (.aload_n 0, 1) 1 := ⟨pm_dcA dk_X11_age_0 0 rfl, rfl⟩
theorem dX11_age_1 : pm_dec mX11_age 1 (.aload_n 0, 1) 2 := ⟨pm_dcA dk_X11_age_0 1 rfl, rfl⟩
theorem dX11_age_2 : pm_dec mX11_age 2 (.getfield 46, 3) 5 := ⟨pm_dcA dk_X11_age_0 2 rfl, rfl⟩
theorem dX11_age_5 : pm_dec mX11_age 5 (.invokevirtual 329, 3) 8 := ⟨pm_dcA dk_X11_age_0 3 rfl, rfl⟩
theorem dX11_age_8 : pm_dec mX11_age 8 (.invokevirtual 97, 3) 11 := ⟨pm_dcA dk_X11_age_0 4 rfl, rfl⟩
theorem dX11_age_11 : pm_dec mX11_age 11 (.ireturn, 1) 12 := ⟨pm_dcA dk_X11_age_0 5 rfl, rfl⟩
def dt_X11_as_0 : List (Nat × (Instr × Nat)) := [(0, (.aload_n 0, 1)), (1, (.getfield 12, 3)), (4, (.getfield 161, 3)), (7, (.iload_n 1, 1)), (8, (.invokevirtual 101, 3)), (11, (.ifCond .eq 12, 3)), (14, (.iload_n 2, 1)), (15, (.iconst 0, 1)), (16, (.iconst 5, 1)), (17, (.invokestatic 105, 3)), (20, (.ifCond .eq 10, 3)), (23, (.aload_n 0, 1)), (24, (.ldc 109, 2)), (26, (.invokevirtual 97, 3)), (29, (.ireturn, 1)), (30, (.aload_n 0, 1)), (31, (.aload_n 0, 1)), (32, (.getfield 12, 3)), (35, (.iload_n 1, 1)), (36, (.iload_n 2, 1)), (37, (.invokevirtual 180, 3)), (40, (.ifCond .eq 18, 3)), (43, (.aload_n 0, 1)), (44, (.getfield 12, 3)), (47, (.getfield 161, 3)), (50, (.iload_n 1, 1)), (51, (.iconst 1, 1)), (52, (.invokevirtual 152, 3)), (55, (.goto 5, 3)), (58, (.ldc 184, 2)), (60, (.invokevirtual 97, 3)), (63, (.ireturn, 1))]
theorem dk_X11_as_0 : pm_dc mX11_as.2.1 dt_X11_as_0 = true := by decide +kernel
theorem dX11_as_0 : pm_dec mX11_as 0 (.aload_n 0, 1) 1 := ⟨pm_dcA dk_X11_as_0 0 rfl, rfl⟩
theorem dX11_as_1 : pm_dec mX11_as 1 (.getfield 12, 3) 4 := ⟨pm_dcA dk_X11_as_0 1 rfl, rfl⟩
theorem dX11_as_4 : pm_dec mX11_as 4 (.getfield 161, 3) 7 := ⟨pm_dcA dk_X11_as_0 2 rfl, rfl⟩
theorem dX11_as_7 : pm_dec mX11_as 7 (.iload_n 1, 1) 8 := ⟨pm_dcA dk_X11_as_0 3 rfl, rfl⟩
theorem dX11_as_8 : pm_dec mX11_as 8 (.invokevirtual 101, 3) 11 := ⟨pm_dcA dk_X11_as_0 4 rfl, rfl⟩
theorem dX11_as_11 : pm_dec mX11_as 11 (.ifCond .eq 12, 3) 14 := ⟨pm_dcA dk_X11_as_0 5 rfl, rfl⟩
theorem dX11_as_14 : pm_dec mX11_as 14 (.iload_n 2, 1) 15 := ⟨pm_dcA dk_X11_as_0 6 rfl, rfl⟩
theorem dX11_as_15 : pm_dec mX11_as 15 (.iconst 0, 1) 16 := ⟨pm_dcA dk_X11_as_0 7 rfl, rfl⟩
theorem dX11_as_16 : pm_dec mX11_as 16 (.iconst 5, 1) 17 := ⟨pm_dcA dk_X11_as_0 8 rfl, rfl⟩
theorem dX11_as_17 : pm_dec mX11_as 17 (.invokestatic 105, 3) 20 := ⟨pm_dcA dk_X11_as_0 9 rfl, rfl⟩
theorem dX11_as_20 : pm_dec mX11_as 20 (.ifCond .eq 10, 3) 23 := ⟨pm_dcA dk_X11_as_0 10 rfl, rfl⟩
theorem dX11_as_23 : pm_dec mX11_as 23 (.aload_n 0, 1) 24 := ⟨pm_dcA dk_X11_as_0 11 rfl, rfl⟩
theorem dX11_as_24 : pm_dec mX11_as 24 (.ldc 109, 2) 26 := ⟨pm_dcA dk_X11_as_0 12 rfl, rfl⟩
theorem dX11_as_26 : pm_dec mX11_as 26 (.invokevirtual 97, 3) 29 := ⟨pm_dcA dk_X11_as_0 13 rfl, rfl⟩
theorem dX11_as_29 : pm_dec mX11_as 29 (.ireturn, 1) 30 := ⟨pm_dcA dk_X11_as_0 14 rfl, rfl⟩
theorem dX11_as_30 : pm_dec mX11_as 30 (.aload_n 0, 1) 31 := ⟨pm_dcA dk_X11_as_0 15 rfl, rfl⟩
theorem dX11_as_31 : pm_dec mX11_as 31 (.aload_n 0, 1) 32 := ⟨pm_dcA dk_X11_as_0 16 rfl, rfl⟩
theorem dX11_as_32 : pm_dec mX11_as 32 (.getfield 12, 3) 35 := ⟨pm_dcA dk_X11_as_0 17 rfl, rfl⟩
theorem dX11_as_35 : pm_dec mX11_as 35 (.iload_n 1, 1) 36 := ⟨pm_dcA dk_X11_as_0 18 rfl, rfl⟩
theorem dX11_as_36 : pm_dec mX11_as 36 (.iload_n 2, 1) 37 := ⟨pm_dcA dk_X11_as_0 19 rfl, rfl⟩
theorem dX11_as_37 : pm_dec mX11_as 37 (.invokevirtual 180, 3) 40 := ⟨pm_dcA dk_X11_as_0 20 rfl, rfl⟩
theorem dX11_as_40 : pm_dec mX11_as 40 (.ifCond .eq 18, 3) 43 := ⟨pm_dcA dk_X11_as_0 21 rfl, rfl⟩
theorem dX11_as_43 : pm_dec mX11_as 43 (.aload_n 0, 1) 44 := ⟨pm_dcA dk_X11_as_0 22 rfl, rfl⟩
theorem dX11_as_44 : pm_dec mX11_as 44 (.getfield 12, 3) 47 := ⟨pm_dcA dk_X11_as_0 23 rfl, rfl⟩
theorem dX11_as_47 : pm_dec mX11_as 47 (.getfield 161, 3) 50 := ⟨pm_dcA dk_X11_as_0 24 rfl, rfl⟩
theorem dX11_as_50 : pm_dec mX11_as 50 (.iload_n 1, 1) 51 := ⟨pm_dcA dk_X11_as_0 25 rfl, rfl⟩
theorem dX11_as_51 : pm_dec mX11_as 51 (.iconst 1, 1) 52 := ⟨pm_dcA dk_X11_as_0 26 rfl, rfl⟩
theorem dX11_as_52 : pm_dec mX11_as 52 (.invokevirtual 152, 3) 55 := ⟨pm_dcA dk_X11_as_0 27 rfl, rfl⟩
theorem dX11_as_55 : pm_dec mX11_as 55 (.goto 5, 3) 58 := ⟨pm_dcA dk_X11_as_0 28 rfl, rfl⟩
theorem dX11_as_58 : pm_dec mX11_as 58 (.ldc 184, 2) 60 := ⟨pm_dcA dk_X11_as_0 29 rfl, rfl⟩
theorem dX11_as_60 : pm_dec mX11_as 60 (.invokevirtual 97, 3) 63 := ⟨pm_dcA dk_X11_as_0 30 rfl, rfl⟩
theorem dX11_as_63 : pm_dec mX11_as 63 (.ireturn, 1) 64 := ⟨pm_dcA dk_X11_as_0 31 rfl, rfl⟩
def dt_X11_breaks_0 : List (Nat × (Instr × Nat)) := [(0, (.aload_n 0, 1)), (1, (.getfield 12, 3)), (4, (.getfield 277, 3)), (7, (.iload_n 1, 1)), (8, (.invokevirtual 101, 3)), (11, (.ifCond .ne 10, 3)), (14, (.aload_n 0, 1)), (15, (.ldc 109, 2)), (17, (.invokevirtual 97, 3)), (20, (.ireturn, 1)), (21, (.aload_n 0, 1)), (22, (.getfield 30, 3)), (25, (.iload_n 1, 1)), (26, (.invokevirtual 284, 3)), (29, (.ifCond .ne 10, 3)), (32, (.aload_n 0, 1)), (33, (.ldc 138, 2)), (35, (.invokevirtual 97, 3)), (38, (.ireturn, 1)), (39, (.aload_n 0, 1)), (40, (.getfield 12, 3)), (43, (.getfield 277, 3)), (46, (.iload_n 1, 1)), (47, (.iconst 4, 1)), (48, (.iconst 2, 1)), (49, (.invokevirtual 170, 3)), (52, (.iconst 1, 1)), (53, (.ireturn, 1))]
theorem dk_X11_breaks_0 : pm_dc mX11_breaks.2.1 dt_X11_breaks_0 = true := by decide +kernel
theorem dX11_breaks_0 : pm_dec mX11_breaks 0 (.aload_n 0, 1) 1 := ⟨pm_dcA dk_X11_breaks_0 0 rfl, rfl⟩
theorem dX11_breaks_1 : pm_dec mX11_breaks 1 (.getfield 12, 3) 4 := ⟨pm_dcA dk_X11_breaks_0 1 rfl, rfl⟩
theorem dX11_breaks_4 : pm_dec mX11_breaks 4 (.getfield 277, 3) 7 := ⟨pm_dcA dk_X11_breaks_0 2 rfl, rfl⟩
theorem dX11_breaks_7 : pm_dec mX11_breaks 7 (.iload_n 1, 1) 8 := ⟨pm_dcA dk_X11_breaks_0 3 rfl, rfl⟩
theorem dX11_breaks_8 : pm_dec mX11_breaks 8 (.invokevirtual 101, 3) 11 := ⟨pm_dcA dk_X11_breaks_0 4 rfl, rfl⟩
theorem dX11_breaks_11 : pm_dec mX11_breaks 11 (.ifCond .ne 10, 3) 14 := ⟨pm_dcA dk_X11_breaks_0 5 rfl, rfl⟩
theorem dX11_breaks_14 : pm_dec mX11_breaks 14 (.aload_n 0, 1) 15 := ⟨pm_dcA dk_X11_breaks_0 6 rfl, rfl⟩
theorem dX11_breaks_15 : pm_dec mX11_breaks 15 (.ldc 109, 2) 17 := ⟨pm_dcA dk_X11_breaks_0 7 rfl, rfl⟩
theorem dX11_breaks_17 : pm_dec mX11_breaks 17 (.invokevirtual 97, 3) 20 := ⟨pm_dcA dk_X11_breaks_0 8 rfl, rfl⟩
theorem dX11_breaks_20 : pm_dec mX11_breaks 20 (.ireturn, 1) 21 := ⟨pm_dcA dk_X11_breaks_0 9 rfl, rfl⟩
theorem dX11_breaks_21 : pm_dec mX11_breaks 21 (.aload_n 0, 1) 22 := ⟨pm_dcA dk_X11_breaks_0 10 rfl, rfl⟩
theorem dX11_breaks_22 : pm_dec mX11_breaks 22 (.getfield 30, 3) 25 := ⟨pm_dcA dk_X11_breaks_0 11 rfl, rfl⟩
theorem dX11_breaks_25 : pm_dec mX11_breaks 25 (.iload_n 1, 1) 26 := ⟨pm_dcA dk_X11_breaks_0 12 rfl, rfl⟩
theorem dX11_breaks_26 : pm_dec mX11_breaks 26 (.invokevirtual 284, 3) 29 := ⟨pm_dcA dk_X11_breaks_0 13 rfl, rfl⟩
theorem dX11_breaks_29 : pm_dec mX11_breaks 29 (.ifCond .ne 10, 3) 32 := ⟨pm_dcA dk_X11_breaks_0 14 rfl, rfl⟩
theorem dX11_breaks_32 : pm_dec mX11_breaks 32 (.aload_n 0, 1) 33 := ⟨pm_dcA dk_X11_breaks_0 15 rfl, rfl⟩
theorem dX11_breaks_33 : pm_dec mX11_breaks 33 (.ldc 138, 2) 35 := ⟨pm_dcA dk_X11_breaks_0 16 rfl, rfl⟩
theorem dX11_breaks_35 : pm_dec mX11_breaks 35 (.invokevirtual 97, 3) 38 := ⟨pm_dcA dk_X11_breaks_0 17 rfl, rfl⟩
theorem dX11_breaks_38 : pm_dec mX11_breaks 38 (.ireturn, 1) 39 := ⟨pm_dcA dk_X11_breaks_0 18 rfl, rfl⟩
theorem dX11_breaks_39 : pm_dec mX11_breaks 39 (.aload_n 0, 1) 40 := ⟨pm_dcA dk_X11_breaks_0 19 rfl, rfl⟩
theorem dX11_breaks_40 : pm_dec mX11_breaks 40 (.getfield 12, 3) 43 := ⟨pm_dcA dk_X11_breaks_0 20 rfl, rfl⟩
theorem dX11_breaks_43 : pm_dec mX11_breaks 43 (.getfield 277, 3) 46 := ⟨pm_dcA dk_X11_breaks_0 21 rfl, rfl⟩
theorem dX11_breaks_46 : pm_dec mX11_breaks 46 (.iload_n 1, 1) 47 := ⟨pm_dcA dk_X11_breaks_0 22 rfl, rfl⟩
theorem dX11_breaks_47 : pm_dec mX11_breaks 47 (.iconst 4, 1) 48 := ⟨pm_dcA dk_X11_breaks_0 23 rfl, rfl⟩
theorem dX11_breaks_48 : pm_dec mX11_breaks 48 (.iconst 2, 1) 49 := ⟨pm_dcA dk_X11_breaks_0 24 rfl, rfl⟩
theorem dX11_breaks_49 : pm_dec mX11_breaks 49 (.invokevirtual 170, 3) 52 := ⟨pm_dcA dk_X11_breaks_0 25 rfl, rfl⟩
theorem dX11_breaks_52 : pm_dec mX11_breaks 52 (.iconst 1, 1) 53 := ⟨pm_dcA dk_X11_breaks_0 26 rfl, rfl⟩
theorem dX11_breaks_53 : pm_dec mX11_breaks 53 (.ireturn, 1) 54 := ⟨pm_dcA dk_X11_breaks_0 27 rfl, rfl⟩
def dt_X11_buying_0 : List (Nat × (Instr × Nat)) := [(0, (.iload_n 1, 1)), (1, (.iconst 0, 1)), (2, (.iconst 5, 1)), (3, (.invokestatic 105, 3)), (6, (.ifCond .ne 12, 3)), (9, (.iload_n 2, 1)), (10, (.iconst 0, 1)), (11, (.iconst 1, 1)), (12, (.invokestatic 105, 3)), (15, (.ifCond .eq 10, 3)), (18, (.aload_n 0, 1)), (19, (.ldc 109, 2)), (21, (.invokevirtual 97, 3)), (24, (.ireturn, 1)), (25, (.aload_n 0, 1)), (26, (.getfield 30, 3)), (29, (.iload_n 1, 1)), (30, (.invokevirtual 302, 3)), (33, (.ifCond .ne 10, 3)), (36, (.aload_n 0, 1)), (37, (.ldc 223, 2)), (39, (.invokevirtual 97, 3)), (42, (.ireturn, 1)), (43, (.iload_n 2, 1)), (44, (.ifCond .ne 13, 3)), (47, (.aload_n 0, 1)), (48, (.getfield 30, 3)), (51, (.getfield 305, 3)), (54, (.goto 10, 3)), (57, (.aload_n 0, 1)), (58, (.getfield 30, 3)), (61, (.getfield 308, 3))]
theorem dk_X11_buying_0 : pm_dc mX11_buying.2.1 dt_X11_buying_0 = true := by decide +kernel
theorem dX11_buying_0 : pm_dec mX11_buying 0 (.iload_n 1, 1) 1 := ⟨pm_dcA dk_X11_buying_0 0 rfl, rfl⟩
theorem dX11_buying_1 : pm_dec mX11_buying 1 (.iconst 0, 1) 2 := ⟨pm_dcA dk_X11_buying_0 1 rfl, rfl⟩
theorem dX11_buying_2 : pm_dec mX11_buying 2 (.iconst 5, 1) 3 := ⟨pm_dcA dk_X11_buying_0 2 rfl, rfl⟩
theorem dX11_buying_3 : pm_dec mX11_buying 3 (.invokestatic 105, 3) 6 := ⟨pm_dcA dk_X11_buying_0 3 rfl, rfl⟩
theorem dX11_buying_6 : pm_dec mX11_buying 6 (.ifCond .ne 12, 3) 9 := ⟨pm_dcA dk_X11_buying_0 4 rfl, rfl⟩
theorem dX11_buying_9 : pm_dec mX11_buying 9 (.iload_n 2, 1) 10 := ⟨pm_dcA dk_X11_buying_0 5 rfl, rfl⟩
theorem dX11_buying_10 : pm_dec mX11_buying 10 (.iconst 0, 1) 11 := ⟨pm_dcA dk_X11_buying_0 6 rfl, rfl⟩
theorem dX11_buying_11 : pm_dec mX11_buying 11 (.iconst 1, 1) 12 := ⟨pm_dcA dk_X11_buying_0 7 rfl, rfl⟩
theorem dX11_buying_12 : pm_dec mX11_buying 12 (.invokestatic 105, 3) 15 := ⟨pm_dcA dk_X11_buying_0 8 rfl, rfl⟩
theorem dX11_buying_15 : pm_dec mX11_buying 15 (.ifCond .eq 10, 3) 18 := ⟨pm_dcA dk_X11_buying_0 9 rfl, rfl⟩
theorem dX11_buying_18 : pm_dec mX11_buying 18 (.aload_n 0, 1) 19 := ⟨pm_dcA dk_X11_buying_0 10 rfl, rfl⟩
theorem dX11_buying_19 : pm_dec mX11_buying 19 (.ldc 109, 2) 21 := ⟨pm_dcA dk_X11_buying_0 11 rfl, rfl⟩
theorem dX11_buying_21 : pm_dec mX11_buying 21 (.invokevirtual 97, 3) 24 := ⟨pm_dcA dk_X11_buying_0 12 rfl, rfl⟩
theorem dX11_buying_24 : pm_dec mX11_buying 24 (.ireturn, 1) 25 := ⟨pm_dcA dk_X11_buying_0 13 rfl, rfl⟩
theorem dX11_buying_25 : pm_dec mX11_buying 25 (.aload_n 0, 1) 26 := ⟨pm_dcA dk_X11_buying_0 14 rfl, rfl⟩
theorem dX11_buying_26 : pm_dec mX11_buying 26 (.getfield 30, 3) 29 := ⟨pm_dcA dk_X11_buying_0 15 rfl, rfl⟩
theorem dX11_buying_29 : pm_dec mX11_buying 29 (.iload_n 1, 1) 30 := ⟨pm_dcA dk_X11_buying_0 16 rfl, rfl⟩
theorem dX11_buying_30 : pm_dec mX11_buying 30 (.invokevirtual 302, 3) 33 := ⟨pm_dcA dk_X11_buying_0 17 rfl, rfl⟩
theorem dX11_buying_33 : pm_dec mX11_buying 33 (.ifCond .ne 10, 3) 36 := ⟨pm_dcA dk_X11_buying_0 18 rfl, rfl⟩
theorem dX11_buying_36 : pm_dec mX11_buying 36 (.aload_n 0, 1) 37 := ⟨pm_dcA dk_X11_buying_0 19 rfl, rfl⟩
theorem dX11_buying_37 : pm_dec mX11_buying 37 (.ldc 223, 2) 39 := ⟨pm_dcA dk_X11_buying_0 20 rfl, rfl⟩
theorem dX11_buying_39 : pm_dec mX11_buying 39 (.invokevirtual 97, 3) 42 := ⟨pm_dcA dk_X11_buying_0 21 rfl, rfl⟩
theorem dX11_buying_42 : pm_dec mX11_buying 42 (.ireturn, 1) 43 := ⟨pm_dcA dk_X11_buying_0 22 rfl, rfl⟩
theorem dX11_buying_43 : pm_dec mX11_buying 43 (.iload_n 2, 1) 44 := ⟨pm_dcA dk_X11_buying_0 23 rfl, rfl⟩
theorem dX11_buying_44 : pm_dec mX11_buying 44 (.ifCond .ne 13, 3) 47 := ⟨pm_dcA dk_X11_buying_0 24 rfl, rfl⟩
theorem dX11_buying_47 : pm_dec mX11_buying 47 (.aload_n 0, 1) 48 := ⟨pm_dcA dk_X11_buying_0 25 rfl, rfl⟩
theorem dX11_buying_48 : pm_dec mX11_buying 48 (.getfield 30, 3) 51 := ⟨pm_dcA dk_X11_buying_0 26 rfl, rfl⟩
theorem dX11_buying_51 : pm_dec mX11_buying 51 (.getfield 305, 3) 54 := ⟨pm_dcA dk_X11_buying_0 27 rfl, rfl⟩
theorem dX11_buying_54 : pm_dec mX11_buying 54 (.goto 10, 3) 57 := ⟨pm_dcA dk_X11_buying_0 28 rfl, rfl⟩
theorem dX11_buying_57 : pm_dec mX11_buying 57 (.aload_n 0, 1) 58 := ⟨pm_dcA dk_X11_buying_0 29 rfl, rfl⟩
theorem dX11_buying_58 : pm_dec mX11_buying 58 (.getfield 30, 3) 61 := ⟨pm_dcA dk_X11_buying_0 30 rfl, rfl⟩
theorem dX11_buying_61 : pm_dec mX11_buying 61 (.getfield 308, 3) 64 := ⟨pm_dcA dk_X11_buying_0 31 rfl, rfl⟩
def dt_X11_buying_64 : List (Nat × (Instr × Nat)) := [(64, (.ireturn, 1))]
theorem dk_X11_buying_64 : pm_dc mX11_buying.2.1 dt_X11_buying_64 = true := by decide +kernel
theorem dX11_buying_64 : pm_dec mX11_buying 64 (.ireturn, 1) 65 := ⟨pm_dcA dk_X11_buying_64 0 rfl, rfl⟩
def dt_X11_cause_0 : List (Nat × (Instr × Nat)) := [(0, (.iload_n 1, 1)), (1, (.iconst 0, 1)), (2, (.iconst 5, 1)), (3, (.invokestatic 105, 3)), (6, (.ifCond .ne 12, 3)), (9, (.iload_n 2, 1)), (10, (.iconst 0, 1)), (11, (.iconst 3, 1)), (12, (.invokestatic 105, 3)), (15, (.ifCond .eq 10, 3)), (18, (.aload_n 0, 1)), (19, (.ldc 109, 2)), (21, (.invokevirtual 97, 3)), (24, (.ireturn, 1)), (25, (.iload_n 2, 1)), (26, (.iconst 3, 1)), (27, (.if_icmp .ne 12, 3)), (30, (.aload_n 0, 1)), (31, (.getfield 30, 3)), (34, (.iload_n 1, 1)), (35, (.invokevirtual 287, 3)), (38, (.ireturn, 1)), (39, (.aload_n 0, 1)), (40, (.getfield 30, 3)), (43, (.iload_n 1, 1)), (44, (.invokevirtual 290, 3)), (47, (.iload_n 2, 1)), (48, (.lookupswitch 44 #[(0, 28), (1, 36)], 28)), (76, (.aload_n 0, 1)), (77, (.getfield 30, 3)), (80, (.getfield 293, 3)), (83, (.ireturn, 1))]
theorem dk_X11_cause_0 : pm_dc mX11_cause.2.1 dt_X11_cause_0 = true := by decide +kernel
theorem dX11_cause_0 : pm_dec mX11_cause 0 (.iload_n 1, 1) 1 := ⟨pm_dcA dk_X11_cause_0 0 rfl, rfl⟩
theorem dX11_cause_1 : pm_dec mX11_cause 1 (.iconst 0, 1) 2 := ⟨pm_dcA dk_X11_cause_0 1 rfl, rfl⟩
theorem dX11_cause_2 : pm_dec mX11_cause 2 (.iconst 5, 1) 3 := ⟨pm_dcA dk_X11_cause_0 2 rfl, rfl⟩
theorem dX11_cause_3 : pm_dec mX11_cause 3 (.invokestatic 105, 3) 6 := ⟨pm_dcA dk_X11_cause_0 3 rfl, rfl⟩
theorem dX11_cause_6 : pm_dec mX11_cause 6 (.ifCond .ne 12, 3) 9 := ⟨pm_dcA dk_X11_cause_0 4 rfl, rfl⟩
theorem dX11_cause_9 : pm_dec mX11_cause 9 (.iload_n 2, 1) 10 := ⟨pm_dcA dk_X11_cause_0 5 rfl, rfl⟩
theorem dX11_cause_10 : pm_dec mX11_cause 10 (.iconst 0, 1) 11 := ⟨pm_dcA dk_X11_cause_0 6 rfl, rfl⟩
theorem dX11_cause_11 : pm_dec mX11_cause 11 (.iconst 3, 1) 12 := ⟨pm_dcA dk_X11_cause_0 7 rfl, rfl⟩
theorem dX11_cause_12 : pm_dec mX11_cause 12 (.invokestatic 105, 3) 15 := ⟨pm_dcA dk_X11_cause_0 8 rfl, rfl⟩
theorem dX11_cause_15 : pm_dec mX11_cause 15 (.ifCond .eq 10, 3) 18 := ⟨pm_dcA dk_X11_cause_0 9 rfl, rfl⟩
theorem dX11_cause_18 : pm_dec mX11_cause 18 (.aload_n 0, 1) 19 := ⟨pm_dcA dk_X11_cause_0 10 rfl, rfl⟩
theorem dX11_cause_19 : pm_dec mX11_cause 19 (.ldc 109, 2) 21 := ⟨pm_dcA dk_X11_cause_0 11 rfl, rfl⟩
theorem dX11_cause_21 : pm_dec mX11_cause 21 (.invokevirtual 97, 3) 24 := ⟨pm_dcA dk_X11_cause_0 12 rfl, rfl⟩
theorem dX11_cause_24 : pm_dec mX11_cause 24 (.ireturn, 1) 25 := ⟨pm_dcA dk_X11_cause_0 13 rfl, rfl⟩
theorem dX11_cause_25 : pm_dec mX11_cause 25 (.iload_n 2, 1) 26 := ⟨pm_dcA dk_X11_cause_0 14 rfl, rfl⟩
theorem dX11_cause_26 : pm_dec mX11_cause 26 (.iconst 3, 1) 27 := ⟨pm_dcA dk_X11_cause_0 15 rfl, rfl⟩
theorem dX11_cause_27 : pm_dec mX11_cause 27 (.if_icmp .ne 12, 3) 30 := ⟨pm_dcA dk_X11_cause_0 16 rfl, rfl⟩
theorem dX11_cause_30 : pm_dec mX11_cause 30 (.aload_n 0, 1) 31 := ⟨pm_dcA dk_X11_cause_0 17 rfl, rfl⟩
theorem dX11_cause_31 : pm_dec mX11_cause 31 (.getfield 30, 3) 34 := ⟨pm_dcA dk_X11_cause_0 18 rfl, rfl⟩
theorem dX11_cause_34 : pm_dec mX11_cause 34 (.iload_n 1, 1) 35 := ⟨pm_dcA dk_X11_cause_0 19 rfl, rfl⟩
theorem dX11_cause_35 : pm_dec mX11_cause 35 (.invokevirtual 287, 3) 38 := ⟨pm_dcA dk_X11_cause_0 20 rfl, rfl⟩
theorem dX11_cause_38 : pm_dec mX11_cause 38 (.ireturn, 1) 39 := ⟨pm_dcA dk_X11_cause_0 21 rfl, rfl⟩
theorem dX11_cause_39 : pm_dec mX11_cause 39 (.aload_n 0, 1) 40 := ⟨pm_dcA dk_X11_cause_0 22 rfl, rfl⟩
theorem dX11_cause_40 : pm_dec mX11_cause 40 (.getfield 30, 3) 43 := ⟨pm_dcA dk_X11_cause_0 23 rfl, rfl⟩
theorem dX11_cause_43 : pm_dec mX11_cause 43 (.iload_n 1, 1) 44 := ⟨pm_dcA dk_X11_cause_0 24 rfl, rfl⟩
theorem dX11_cause_44 : pm_dec mX11_cause 44 (.invokevirtual 290, 3) 47 := ⟨pm_dcA dk_X11_cause_0 25 rfl, rfl⟩
theorem dX11_cause_47 : pm_dec mX11_cause 47 (.iload_n 2, 1) 48 := ⟨pm_dcA dk_X11_cause_0 26 rfl, rfl⟩
theorem dX11_cause_48 : pm_dec mX11_cause 48 (.lookupswitch 44 #[(0, 28), (1, 36)], 28) 76 := ⟨pm_dcA dk_X11_cause_0 27 rfl, rfl⟩
theorem dX11_cause_76 : pm_dec mX11_cause 76 (.aload_n 0, 1) 77 := ⟨pm_dcA dk_X11_cause_0 28 rfl, rfl⟩
theorem dX11_cause_77 : pm_dec mX11_cause 77 (.getfield 30, 3) 80 := ⟨pm_dcA dk_X11_cause_0 29 rfl, rfl⟩
theorem dX11_cause_80 : pm_dec mX11_cause 80 (.getfield 293, 3) 83 := ⟨pm_dcA dk_X11_cause_0 30 rfl, rfl⟩
theorem dX11_cause_83 : pm_dec mX11_cause 83 (.ireturn, 1) 84 := ⟨pm_dcA dk_X11_cause_0 31 rfl, rfl⟩
def dt_X11_cause_84 : List (Nat × (Instr × Nat)) := [(84, (.aload_n 0, 1)), (85, (.getfield 30, 3)), (88, (.getfield 296, 3)), (91, (.ireturn, 1)), (92, (.aload_n 0, 1)), (93, (.getfield 30, 3)), (96, (.iconst 0, 1)), (97, (.invokevirtual 299, 3)), (100, (.ifCond .eq 7, 3)), (103, (.iconst 1, 1)), (104, (.goto 4, 3)), (107, (.iconst 0, 1)), (108, (.ireturn, 1))]
theorem dk_X11_cause_84 : pm_dc mX11_cause.2.1 dt_X11_cause_84 = true := by decide +kernel
theorem dX11_cause_84 : pm_dec mX11_cause 84 (.aload_n 0, 1) 85 := ⟨pm_dcA dk_X11_cause_84 0 rfl, rfl⟩
theorem dX11_cause_85 : pm_dec mX11_cause 85 (.getfield 30, 3) 88 := ⟨pm_dcA dk_X11_cause_84 1 rfl, rfl⟩
theorem dX11_cause_88 : pm_dec mX11_cause 88 (.getfield 296, 3) 91 := ⟨pm_dcA dk_X11_cause_84 2 rfl, rfl⟩
theorem dX11_cause_91 : pm_dec mX11_cause 91 (.ireturn, 1) 92 := ⟨pm_dcA dk_X11_cause_84 3 rfl, rfl⟩
theorem dX11_cause_92 : pm_dec mX11_cause 92 (.aload_n 0, 1) 93 := ⟨pm_dcA dk_X11_cause_84 4 rfl, rfl⟩
theorem dX11_cause_93 : pm_dec mX11_cause 93 (.getfield 30, 3) 96 := ⟨pm_dcA dk_X11_cause_84 5 rfl, rfl⟩
theorem dX11_cause_96 : pm_dec mX11_cause 96 (.iconst 0, 1) 97 := ⟨pm_dcA dk_X11_cause_84 6 rfl, rfl⟩
theorem dX11_cause_97 : pm_dec mX11_cause 97 (.invokevirtual 299, 3) 100 := ⟨pm_dcA dk_X11_cause_84 7 rfl, rfl⟩
theorem dX11_cause_100 : pm_dec mX11_cause 100 (.ifCond .eq 7, 3) 103 := ⟨pm_dcA dk_X11_cause_84 8 rfl, rfl⟩
theorem dX11_cause_103 : pm_dec mX11_cause 103 (.iconst 1, 1) 104 := ⟨pm_dcA dk_X11_cause_84 9 rfl, rfl⟩
theorem dX11_cause_104 : pm_dec mX11_cause 104 (.goto 4, 3) 107 := ⟨pm_dcA dk_X11_cause_84 10 rfl, rfl⟩
theorem dX11_cause_107 : pm_dec mX11_cause 107 (.iconst 0, 1) 108 := ⟨pm_dcA dk_X11_cause_84 11 rfl, rfl⟩
theorem dX11_cause_108 : pm_dec mX11_cause 108 (.ireturn, 1) 109 := ⟨pm_dcA dk_X11_cause_84 12 rfl, rfl⟩
def dt_X11_check_0 : List (Nat × (Instr × Nat)) := [(0, (.aload_n 0, 1)), (1, (.getfield 12, 3)), (4, (.getfield 386, 3)), (7, (.invokevirtual 203, 3)), (10, (.istore_n 1, 1)), (11, (.iconst 0, 1)), (12, (.istore_n 2, 1)), (13, (.iconst 0, 1)), (14, (.istore_n 3, 1)), (15, (.iload_n 3, 1)), (16, (.iload_n 1, 1)), (17, (.if_icmp .ge 40, 3)), (20, (.iload_n 2, 1)), (21, (.ifCond .ne 36, 3)), (24, (.aload_n 0, 1)), (25, (.getfield 12, 3)), (28, (.iload_n 3, 1)), (29, (.aload_n 0, 1)), (30, (.getfield 12, 3)), (33, (.getfield 386, 3)), (36, (.iload_n 3, 1)), (37, (.iconst 0, 1)), (38, (.invokevirtual 152, 3)), (41, (.invokevirtual 389, 3)), (44, (.ifCond .ne 7, 3)), (47, (.iload_n 3, 1)), (48, (.iconst 1, 1)), (49, (.iadd, 1)), (50, (.istore_n 2, 1)), (51, (.iinc 3 1, 3)), (54, (.goto (-39), 3)), (57, (.aload_n 0, 1))]
theorem dk_X11_check_0 : pm_dc mX11_check.2.1 dt_X11_check_0 = true := by decide +kernel
theorem dX11_check_0 : pm_dec mX11_check 0 (.aload_n 0, 1) 1 := ⟨pm_dcA dk_X11_check_0 0 rfl, rfl⟩
theorem dX11_check_1 : pm_dec mX11_check 1 (.getfield 12, 3) 4 := ⟨pm_dcA dk_X11_check_0 1 rfl, rfl⟩
theorem dX11_check_4 : pm_dec mX11_check 4 (.getfield 386, 3) 7 := ⟨pm_dcA dk_X11_check_0 2 rfl, rfl⟩
theorem dX11_check_7 : pm_dec mX11_check 7 (.invokevirtual 203, 3) 10 := ⟨pm_dcA dk_X11_check_0 3 rfl, rfl⟩
theorem dX11_check_10 : pm_dec mX11_check 10 (.istore_n 1, 1) 11 := ⟨pm_dcA dk_X11_check_0 4 rfl, rfl⟩
theorem dX11_check_11 : pm_dec mX11_check 11 (.iconst 0, 1) 12 := ⟨pm_dcA dk_X11_check_0 5 rfl, rfl⟩
theorem dX11_check_12 : pm_dec mX11_check 12 (.istore_n 2, 1) 13 := ⟨pm_dcA dk_X11_check_0 6 rfl, rfl⟩
theorem dX11_check_13 : pm_dec mX11_check 13 (.iconst 0, 1) 14 := ⟨pm_dcA dk_X11_check_0 7 rfl, rfl⟩
theorem dX11_check_14 : pm_dec mX11_check 14 (.istore_n 3, 1) 15 := ⟨pm_dcA dk_X11_check_0 8 rfl, rfl⟩
theorem dX11_check_15 : pm_dec mX11_check 15 (.iload_n 3, 1) 16 := ⟨pm_dcA dk_X11_check_0 9 rfl, rfl⟩
theorem dX11_check_16 : pm_dec mX11_check 16 (.iload_n 1, 1) 17 := ⟨pm_dcA dk_X11_check_0 10 rfl, rfl⟩
theorem dX11_check_17 : pm_dec mX11_check 17 (.if_icmp .ge 40, 3) 20 := ⟨pm_dcA dk_X11_check_0 11 rfl, rfl⟩
theorem dX11_check_20 : pm_dec mX11_check 20 (.iload_n 2, 1) 21 := ⟨pm_dcA dk_X11_check_0 12 rfl, rfl⟩
theorem dX11_check_21 : pm_dec mX11_check 21 (.ifCond .ne 36, 3) 24 := ⟨pm_dcA dk_X11_check_0 13 rfl, rfl⟩
theorem dX11_check_24 : pm_dec mX11_check 24 (.aload_n 0, 1) 25 := ⟨pm_dcA dk_X11_check_0 14 rfl, rfl⟩
theorem dX11_check_25 : pm_dec mX11_check 25 (.getfield 12, 3) 28 := ⟨pm_dcA dk_X11_check_0 15 rfl, rfl⟩
theorem dX11_check_28 : pm_dec mX11_check 28 (.iload_n 3, 1) 29 := ⟨pm_dcA dk_X11_check_0 16 rfl, rfl⟩
theorem dX11_check_29 : pm_dec mX11_check 29 (.aload_n 0, 1) 30 := ⟨pm_dcA dk_X11_check_0 17 rfl, rfl⟩
theorem dX11_check_30 : pm_dec mX11_check 30 (.getfield 12, 3) 33 := ⟨pm_dcA dk_X11_check_0 18 rfl, rfl⟩
theorem dX11_check_33 : pm_dec mX11_check 33 (.getfield 386, 3) 36 := ⟨pm_dcA dk_X11_check_0 19 rfl, rfl⟩
theorem dX11_check_36 : pm_dec mX11_check 36 (.iload_n 3, 1) 37 := ⟨pm_dcA dk_X11_check_0 20 rfl, rfl⟩
theorem dX11_check_37 : pm_dec mX11_check 37 (.iconst 0, 1) 38 := ⟨pm_dcA dk_X11_check_0 21 rfl, rfl⟩
theorem dX11_check_38 : pm_dec mX11_check 38 (.invokevirtual 152, 3) 41 := ⟨pm_dcA dk_X11_check_0 22 rfl, rfl⟩
theorem dX11_check_41 : pm_dec mX11_check 41 (.invokevirtual 389, 3) 44 := ⟨pm_dcA dk_X11_check_0 23 rfl, rfl⟩
theorem dX11_check_44 : pm_dec mX11_check 44 (.ifCond .ne 7, 3) 47 := ⟨pm_dcA dk_X11_check_0 24 rfl, rfl⟩
theorem dX11_check_47 : pm_dec mX11_check 47 (.iload_n 3, 1) 48 := ⟨pm_dcA dk_X11_check_0 25 rfl, rfl⟩
theorem dX11_check_48 : pm_dec mX11_check 48 (.iconst 1, 1) 49 := ⟨pm_dcA dk_X11_check_0 26 rfl, rfl⟩
theorem dX11_check_49 : pm_dec mX11_check 49 (.iadd, 1) 50 := ⟨pm_dcA dk_X11_check_0 27 rfl, rfl⟩
theorem dX11_check_50 : pm_dec mX11_check 50 (.istore_n 2, 1) 51 := ⟨pm_dcA dk_X11_check_0 28 rfl, rfl⟩
theorem dX11_check_51 : pm_dec mX11_check 51 (.iinc 3 1, 3) 54 := ⟨pm_dcA dk_X11_check_0 29 rfl, rfl⟩
theorem dX11_check_54 : pm_dec mX11_check 54 (.goto (-39), 3) 57 := ⟨pm_dcA dk_X11_check_0 30 rfl, rfl⟩
theorem dX11_check_57 : pm_dec mX11_check 57 (.aload_n 0, 1) 58 := ⟨pm_dcA dk_X11_check_0 31 rfl, rfl⟩
def dt_X11_check_58 : List (Nat × (Instr × Nat)) := [(58, (.getfield 12, 3)), (61, (.getfield 386, 3)), (64, (.invokevirtual 392, 3)), (67, (.iload_n 2, 1)), (68, (.ireturn, 1))]
theorem dk_X11_check_58 : pm_dc mX11_check.2.1 dt_X11_check_58 = true := by decide +kernel
theorem dX11_check_58 : pm_dec mX11_check 58 (.getfield 12, 3) 61 := ⟨pm_dcA dk_X11_check_58 0 rfl, rfl⟩
theorem dX11_check_61 : pm_dec mX11_check 61 (.getfield 386, 3) 64 := ⟨pm_dcA dk_X11_check_58 1 rfl, rfl⟩
theorem dX11_check_64 : pm_dec mX11_check 64 (.invokevirtual 392, 3) 67 := ⟨pm_dcA dk_X11_check_58 2 rfl, rfl⟩
theorem dX11_check_67 : pm_dec mX11_check 67 (.iload_n 2, 1) 68 := ⟨pm_dcA dk_X11_check_58 3 rfl, rfl⟩
theorem dX11_check_68 : pm_dec mX11_check 68 (.ireturn, 1) 69 := ⟨pm_dcA dk_X11_check_58 4 rfl, rfl⟩
def dt_X11_copy_0 : List (Nat × (Instr × Nat)) := [(0, (.aload_n 0, 1)), (1, (.getfield 12, 3)), (4, (.getfield 161, 3)), (7, (.iload_n 1, 1)), (8, (.invokevirtual 101, 3)), (11, (.ifCond .ne 10, 3)), (14, (.aload_n 0, 1)), (15, (.ldc 109, 2)), (17, (.invokevirtual 97, 3)), (20, (.ireturn, 1)), (21, (.aload_n 0, 1)), (22, (.getfield 12, 3)), (25, (.iload_n 1, 1)), (26, (.iconst 2, 1)), (27, (.invokevirtual 180, 3)), (30, (.ifCond .ne 10, 3)), (33, (.aload_n 0, 1)), (34, (.ldc 184, 2)), (36, (.invokevirtual 97, 3)), (39, (.ireturn, 1)), (40, (.aload_n 0, 1)), (41, (.getfield 12, 3)), (44, (.iload_n 1, 1)), (45, (.invokevirtual 185, 3)), (48, (.iconst (-1), 1)), (49, (.if_icmp .ne 10, 3)), (52, (.aload_n 0, 1)), (53, (.ldc 138, 2)), (55, (.invokevirtual 97, 3)), (58, (.ireturn, 1)), (59, (.aload_n 0, 1)), (60, (.aload_n 0, 1))]
theorem dk_X11_copy_0 : pm_dc mX11_copy.2.1 dt_X11_copy_0 = true := by decide +kernel
theorem dX11_copy_0 : pm_dec mX11_copy 0 (.aload_n 0, 1) 1 := ⟨pm_dcA dk_X11_copy_0 0 rfl, rfl⟩
theorem dX11_copy_1 : pm_dec mX11_copy 1 (.getfield 12, 3) 4 := ⟨pm_dcA dk_X11_copy_0 1 rfl, rfl⟩
theorem dX11_copy_4 : pm_dec mX11_copy 4 (.getfield 161, 3) 7 := ⟨pm_dcA dk_X11_copy_0 2 rfl, rfl⟩
theorem dX11_copy_7 : pm_dec mX11_copy 7 (.iload_n 1, 1) 8 := ⟨pm_dcA dk_X11_copy_0 3 rfl, rfl⟩
theorem dX11_copy_8 : pm_dec mX11_copy 8 (.invokevirtual 101, 3) 11 := ⟨pm_dcA dk_X11_copy_0 4 rfl, rfl⟩
theorem dX11_copy_11 : pm_dec mX11_copy 11 (.ifCond .ne 10, 3) 14 := ⟨pm_dcA dk_X11_copy_0 5 rfl, rfl⟩
theorem dX11_copy_14 : pm_dec mX11_copy 14 (.aload_n 0, 1) 15 := ⟨pm_dcA dk_X11_copy_0 6 rfl, rfl⟩
theorem dX11_copy_15 : pm_dec mX11_copy 15 (.ldc 109, 2) 17 := ⟨pm_dcA dk_X11_copy_0 7 rfl, rfl⟩
theorem dX11_copy_17 : pm_dec mX11_copy 17 (.invokevirtual 97, 3) 20 := ⟨pm_dcA dk_X11_copy_0 8 rfl, rfl⟩
theorem dX11_copy_20 : pm_dec mX11_copy 20 (.ireturn, 1) 21 := ⟨pm_dcA dk_X11_copy_0 9 rfl, rfl⟩
theorem dX11_copy_21 : pm_dec mX11_copy 21 (.aload_n 0, 1) 22 := ⟨pm_dcA dk_X11_copy_0 10 rfl, rfl⟩
theorem dX11_copy_22 : pm_dec mX11_copy 22 (.getfield 12, 3) 25 := ⟨pm_dcA dk_X11_copy_0 11 rfl, rfl⟩
theorem dX11_copy_25 : pm_dec mX11_copy 25 (.iload_n 1, 1) 26 := ⟨pm_dcA dk_X11_copy_0 12 rfl, rfl⟩
theorem dX11_copy_26 : pm_dec mX11_copy 26 (.iconst 2, 1) 27 := ⟨pm_dcA dk_X11_copy_0 13 rfl, rfl⟩
theorem dX11_copy_27 : pm_dec mX11_copy 27 (.invokevirtual 180, 3) 30 := ⟨pm_dcA dk_X11_copy_0 14 rfl, rfl⟩
theorem dX11_copy_30 : pm_dec mX11_copy 30 (.ifCond .ne 10, 3) 33 := ⟨pm_dcA dk_X11_copy_0 15 rfl, rfl⟩
theorem dX11_copy_33 : pm_dec mX11_copy 33 (.aload_n 0, 1) 34 := ⟨pm_dcA dk_X11_copy_0 16 rfl, rfl⟩
theorem dX11_copy_34 : pm_dec mX11_copy 34 (.ldc 184, 2) 36 := ⟨pm_dcA dk_X11_copy_0 17 rfl, rfl⟩
theorem dX11_copy_36 : pm_dec mX11_copy 36 (.invokevirtual 97, 3) 39 := ⟨pm_dcA dk_X11_copy_0 18 rfl, rfl⟩
theorem dX11_copy_39 : pm_dec mX11_copy 39 (.ireturn, 1) 40 := ⟨pm_dcA dk_X11_copy_0 19 rfl, rfl⟩
theorem dX11_copy_40 : pm_dec mX11_copy 40 (.aload_n 0, 1) 41 := ⟨pm_dcA dk_X11_copy_0 20 rfl, rfl⟩
theorem dX11_copy_41 : pm_dec mX11_copy 41 (.getfield 12, 3) 44 := ⟨pm_dcA dk_X11_copy_0 21 rfl, rfl⟩
theorem dX11_copy_44 : pm_dec mX11_copy 44 (.iload_n 1, 1) 45 := ⟨pm_dcA dk_X11_copy_0 22 rfl, rfl⟩
theorem dX11_copy_45 : pm_dec mX11_copy 45 (.invokevirtual 185, 3) 48 := ⟨pm_dcA dk_X11_copy_0 23 rfl, rfl⟩
theorem dX11_copy_48 : pm_dec mX11_copy 48 (.iconst (-1), 1) 49 := ⟨pm_dcA dk_X11_copy_0 24 rfl, rfl⟩
theorem dX11_copy_49 : pm_dec mX11_copy 49 (.if_icmp .ne 10, 3) 52 := ⟨pm_dcA dk_X11_copy_0 25 rfl, rfl⟩
theorem dX11_copy_52 : pm_dec mX11_copy 52 (.aload_n 0, 1) 53 := ⟨pm_dcA dk_X11_copy_0 26 rfl, rfl⟩
theorem dX11_copy_53 : pm_dec mX11_copy 53 (.ldc 138, 2) 55 := ⟨pm_dcA dk_X11_copy_0 27 rfl, rfl⟩
theorem dX11_copy_55 : pm_dec mX11_copy 55 (.invokevirtual 97, 3) 58 := ⟨pm_dcA dk_X11_copy_0 28 rfl, rfl⟩
theorem dX11_copy_58 : pm_dec mX11_copy 58 (.ireturn, 1) 59 := ⟨pm_dcA dk_X11_copy_0 29 rfl, rfl⟩
theorem dX11_copy_59 : pm_dec mX11_copy 59 (.aload_n 0, 1) 60 := ⟨pm_dcA dk_X11_copy_0 30 rfl, rfl⟩
theorem dX11_copy_60 : pm_dec mX11_copy 60 (.aload_n 0, 1) 61 := ⟨pm_dcA dk_X11_copy_0 31 rfl, rfl⟩
def dt_X11_copy_61 : List (Nat × (Instr × Nat)) := [(61, (.getfield 12, 3)), (64, (.getfield 161, 3)), (67, (.invokevirtual 86, 3)), (70, (.ifCond .eq 8, 3)), (73, (.ldc 92, 2)), (75, (.goto 11, 3)), (78, (.aload_n 0, 1)), (79, (.getfield 12, 3)), (82, (.iload_n 1, 1)), (83, (.invokevirtual 197, 3)), (86, (.invokevirtual 97, 3)), (89, (.ireturn, 1))]
theorem dk_X11_copy_61 : pm_dc mX11_copy.2.1 dt_X11_copy_61 = true := by decide +kernel
theorem dX11_copy_61 : pm_dec mX11_copy 61 (.getfield 12, 3) 64 := ⟨pm_dcA dk_X11_copy_61 0 rfl, rfl⟩
theorem dX11_copy_64 : pm_dec mX11_copy 64 (.getfield 161, 3) 67 := ⟨pm_dcA dk_X11_copy_61 1 rfl, rfl⟩
theorem dX11_copy_67 : pm_dec mX11_copy 67 (.invokevirtual 86, 3) 70 := ⟨pm_dcA dk_X11_copy_61 2 rfl, rfl⟩
theorem dX11_copy_70 : pm_dec mX11_copy 70 (.ifCond .eq 8, 3) 73 := ⟨pm_dcA dk_X11_copy_61 3 rfl, rfl⟩
theorem dX11_copy_73 : pm_dec mX11_copy 73 (.ldc 92, 2) 75 := ⟨pm_dcA dk_X11_copy_61 4 rfl, rfl⟩
theorem dX11_copy_75 : pm_dec mX11_copy 75 (.goto 11, 3) 78 := ⟨pm_dcA dk_X11_copy_61 5 rfl, rfl⟩
theorem dX11_copy_78 : pm_dec mX11_copy 78 (.aload_n 0, 1) 79 := ⟨pm_dcA dk_X11_copy_61 6 rfl, rfl⟩
theorem dX11_copy_79 : pm_dec mX11_copy 79 (.getfield 12, 3) 82 := ⟨pm_dcA dk_X11_copy_61 7 rfl, rfl⟩
theorem dX11_copy_82 : pm_dec mX11_copy 82 (.iload_n 1, 1) 83 := ⟨pm_dcA dk_X11_copy_61 8 rfl, rfl⟩
theorem dX11_copy_83 : pm_dec mX11_copy 83 (.invokevirtual 197, 3) 86 := ⟨pm_dcA dk_X11_copy_61 9 rfl, rfl⟩
theorem dX11_copy_86 : pm_dec mX11_copy 86 (.invokevirtual 97, 3) 89 := ⟨pm_dcA dk_X11_copy_61 10 rfl, rfl⟩
theorem dX11_copy_89 : pm_dec mX11_copy 89 (.ireturn, 1) 90 := ⟨pm_dcA dk_X11_copy_61 11 rfl, rfl⟩
def dt_X11_count_0 : List (Nat × (Instr × Nat)) := [(0, (.iload_n 1, 1)), (1, (.tableswitch 245 0 15 #[79, 90, 98, 109, 120, 131, 142, 153, 164, 172, 180, 191, 205, 213, 224, 237], 79)), (80, (.aload_n 0, 1)), (81, (.getfield 12, 3)), (84, (.getfield 82, 3)), (87, (.invokevirtual 203, 3)), (90, (.ireturn, 1)), (91, (.aload_n 0, 1)), (92, (.getfield 12, 3)), (95, (.getfield 110, 3)), (98, (.ireturn, 1)), (99, (.aload_n 0, 1)), (100, (.getfield 12, 3)), (103, (.getfield 128, 3)), (106, (.invokevirtual 203, 3)), (109, (.ireturn, 1)), (110, (.aload_n 0, 1)), (111, (.getfield 12, 3)), (114, (.getfield 161, 3)), (117, (.invokevirtual 203, 3)), (120, (.ireturn, 1)), (121, (.aload_n 0, 1)), (122, (.getfield 12, 3)), (125, (.getfield 209, 3)), (128, (.invokevirtual 203, 3)), (131, (.ireturn, 1)), (132, (.aload_n 0, 1)), (133, (.getfield 12, 3)), (136, (.getfield 224, 3)), (139, (.invokevirtual 203, 3)), (142, (.ireturn, 1)), (143, (.aload_n 0, 1))]
theorem dk_X11_count_0 : pm_dc mX11_count.2.1 dt_X11_count_0 = true := by decide +kernel
theorem dX11_count_0 : pm_dec mX11_count 0 (.iload_n 1, 1) 1 := ⟨pm_dcA dk_X11_count_0 0 rfl, rfl⟩
theorem dX11_count_1 : pm_dec mX11_count 1 (.tableswitch 245 0 15 #[79, 90, 98, 109, 120, 131, 142, 153, 164, 172, 180, 191, 205, 213, 224, 237], 79) 80 := ⟨pm_dcA dk_X11_count_0 1 rfl, rfl⟩
theorem dX11_count_80 : pm_dec mX11_count 80 (.aload_n 0, 1) 81 := ⟨pm_dcA dk_X11_count_0 2 rfl, rfl⟩
theorem dX11_count_81 : pm_dec mX11_count 81 (.getfield 12, 3) 84 := ⟨pm_dcA dk_X11_count_0 3 rfl, rfl⟩
theorem dX11_count_84 : pm_dec mX11_count 84 (.getfield 82, 3) 87 := ⟨pm_dcA dk_X11_count_0 4 rfl, rfl⟩
theorem dX11_count_87 : pm_dec mX11_count 87 (.invokevirtual 203, 3) 90 := ⟨pm_dcA dk_X11_count_0 5 rfl, rfl⟩
theorem dX11_count_90 : pm_dec mX11_count 90 (.ireturn, 1) 91 := ⟨pm_dcA dk_X11_count_0 6 rfl, rfl⟩
theorem dX11_count_91 : pm_dec mX11_count 91 (.aload_n 0, 1) 92 := ⟨pm_dcA dk_X11_count_0 7 rfl, rfl⟩
theorem dX11_count_92 : pm_dec mX11_count 92 (.getfield 12, 3) 95 := ⟨pm_dcA dk_X11_count_0 8 rfl, rfl⟩
theorem dX11_count_95 : pm_dec mX11_count 95 (.getfield 110, 3) 98 := ⟨pm_dcA dk_X11_count_0 9 rfl, rfl⟩
theorem dX11_count_98 : pm_dec mX11_count 98 (.ireturn, 1) 99 := ⟨pm_dcA dk_X11_count_0 10 rfl, rfl⟩
theorem dX11_count_99 : pm_dec mX11_count 99 (.aload_n 0, 1) 100 := ⟨pm_dcA dk_X11_count_0 11 rfl, rfl⟩
theorem dX11_count_100 : pm_dec mX11_count 100 (.getfield 12, 3) 103 := ⟨pm_dcA dk_X11_count_0 12 rfl, rfl⟩
theorem dX11_count_103 : pm_dec mX11_count 103 (.getfield 128, 3) 106 := ⟨pm_dcA dk_X11_count_0 13 rfl, rfl⟩
theorem dX11_count_106 : pm_dec mX11_count 106 (.invokevirtual 203, 3) 109 := ⟨pm_dcA dk_X11_count_0 14 rfl, rfl⟩
theorem dX11_count_109 : pm_dec mX11_count 109 (.ireturn, 1) 110 := ⟨pm_dcA dk_X11_count_0 15 rfl, rfl⟩
theorem dX11_count_110 : pm_dec mX11_count 110 (.aload_n 0, 1) 111 := ⟨pm_dcA dk_X11_count_0 16 rfl, rfl⟩
theorem dX11_count_111 : pm_dec mX11_count 111 (.getfield 12, 3) 114 := ⟨pm_dcA dk_X11_count_0 17 rfl, rfl⟩
theorem dX11_count_114 : pm_dec mX11_count 114 (.getfield 161, 3) 117 := ⟨pm_dcA dk_X11_count_0 18 rfl, rfl⟩
theorem dX11_count_117 : pm_dec mX11_count 117 (.invokevirtual 203, 3) 120 := ⟨pm_dcA dk_X11_count_0 19 rfl, rfl⟩
theorem dX11_count_120 : pm_dec mX11_count 120 (.ireturn, 1) 121 := ⟨pm_dcA dk_X11_count_0 20 rfl, rfl⟩
theorem dX11_count_121 : pm_dec mX11_count 121 (.aload_n 0, 1) 122 := ⟨pm_dcA dk_X11_count_0 21 rfl, rfl⟩
theorem dX11_count_122 : pm_dec mX11_count 122 (.getfield 12, 3) 125 := ⟨pm_dcA dk_X11_count_0 22 rfl, rfl⟩
theorem dX11_count_125 : pm_dec mX11_count 125 (.getfield 209, 3) 128 := ⟨pm_dcA dk_X11_count_0 23 rfl, rfl⟩
theorem dX11_count_128 : pm_dec mX11_count 128 (.invokevirtual 203, 3) 131 := ⟨pm_dcA dk_X11_count_0 24 rfl, rfl⟩
theorem dX11_count_131 : pm_dec mX11_count 131 (.ireturn, 1) 132 := ⟨pm_dcA dk_X11_count_0 25 rfl, rfl⟩
theorem dX11_count_132 : pm_dec mX11_count 132 (.aload_n 0, 1) 133 := ⟨pm_dcA dk_X11_count_0 26 rfl, rfl⟩
theorem dX11_count_133 : pm_dec mX11_count 133 (.getfield 12, 3) 136 := ⟨pm_dcA dk_X11_count_0 27 rfl, rfl⟩
theorem dX11_count_136 : pm_dec mX11_count 136 (.getfield 224, 3) 139 := ⟨pm_dcA dk_X11_count_0 28 rfl, rfl⟩
theorem dX11_count_139 : pm_dec mX11_count 139 (.invokevirtual 203, 3) 142 := ⟨pm_dcA dk_X11_count_0 29 rfl, rfl⟩
theorem dX11_count_142 : pm_dec mX11_count 142 (.ireturn, 1) 143 := ⟨pm_dcA dk_X11_count_0 30 rfl, rfl⟩
theorem dX11_count_143 : pm_dec mX11_count 143 (.aload_n 0, 1) 144 := ⟨pm_dcA dk_X11_count_0 31 rfl, rfl⟩
def dt_X11_count_144 : List (Nat × (Instr × Nat)) := [(144, (.getfield 12, 3)), (147, (.getfield 271, 3)), (150, (.invokevirtual 203, 3)), (153, (.ireturn, 1)), (154, (.aload_n 0, 1)), (155, (.getfield 12, 3)), (158, (.getfield 277, 3)), (161, (.invokevirtual 203, 3)), (164, (.ireturn, 1)), (165, (.aload_n 0, 1)), (166, (.getfield 12, 3)), (169, (.getfield 122, 3)), (172, (.ireturn, 1)), (173, (.aload_n 0, 1)), (174, (.getfield 12, 3)), (177, (.getfield 395, 3)), (180, (.ireturn, 1)), (181, (.aload_n 0, 1)), (182, (.getfield 12, 3)), (185, (.getfield 200, 3)), (188, (.invokevirtual 203, 3)), (191, (.ireturn, 1)), (192, (.aload_n 0, 1)), (193, (.getfield 12, 3)), (196, (.getfield 128, 3)), (199, (.bipush 13, 2)), (201, (.iconst 1, 1)), (202, (.invokevirtual 164, 3)), (205, (.ireturn, 1)), (206, (.aload_n 0, 1)), (207, (.getfield 67, 3)), (210, (.getfield 358, 3))]
theorem dk_X11_count_144 : pm_dc mX11_count.2.1 dt_X11_count_144 = true := by decide +kernel
theorem dX11_count_144 : pm_dec mX11_count 144 (.getfield 12, 3) 147 := ⟨pm_dcA dk_X11_count_144 0 rfl, rfl⟩
theorem dX11_count_147 : pm_dec mX11_count 147 (.getfield 271, 3) 150 := ⟨pm_dcA dk_X11_count_144 1 rfl, rfl⟩
theorem dX11_count_150 : pm_dec mX11_count 150 (.invokevirtual 203, 3) 153 := ⟨pm_dcA dk_X11_count_144 2 rfl, rfl⟩
theorem dX11_count_153 : pm_dec mX11_count 153 (.ireturn, 1) 154 := ⟨pm_dcA dk_X11_count_144 3 rfl, rfl⟩
theorem dX11_count_154 : pm_dec mX11_count 154 (.aload_n 0, 1) 155 := ⟨pm_dcA dk_X11_count_144 4 rfl, rfl⟩
theorem dX11_count_155 : pm_dec mX11_count 155 (.getfield 12, 3) 158 := ⟨pm_dcA dk_X11_count_144 5 rfl, rfl⟩
theorem dX11_count_158 : pm_dec mX11_count 158 (.getfield 277, 3) 161 := ⟨pm_dcA dk_X11_count_144 6 rfl, rfl⟩
theorem dX11_count_161 : pm_dec mX11_count 161 (.invokevirtual 203, 3) 164 := ⟨pm_dcA dk_X11_count_144 7 rfl, rfl⟩
theorem dX11_count_164 : pm_dec mX11_count 164 (.ireturn, 1) 165 := ⟨pm_dcA dk_X11_count_144 8 rfl, rfl⟩
theorem dX11_count_165 : pm_dec mX11_count 165 (.aload_n 0, 1) 166 := ⟨pm_dcA dk_X11_count_144 9 rfl, rfl⟩
theorem dX11_count_166 : pm_dec mX11_count 166 (.getfield 12, 3) 169 := ⟨pm_dcA dk_X11_count_144 10 rfl, rfl⟩
theorem dX11_count_169 : pm_dec mX11_count 169 (.getfield 122, 3) 172 := ⟨pm_dcA dk_X11_count_144 11 rfl, rfl⟩
theorem dX11_count_172 : pm_dec mX11_count 172 (.ireturn, 1) 173 := ⟨pm_dcA dk_X11_count_144 12 rfl, rfl⟩
theorem dX11_count_173 : pm_dec mX11_count 173 (.aload_n 0, 1) 174 := ⟨pm_dcA dk_X11_count_144 13 rfl, rfl⟩
theorem dX11_count_174 : pm_dec mX11_count 174 (.getfield 12, 3) 177 := ⟨pm_dcA dk_X11_count_144 14 rfl, rfl⟩
theorem dX11_count_177 : pm_dec mX11_count 177 (.getfield 395, 3) 180 := ⟨pm_dcA dk_X11_count_144 15 rfl, rfl⟩
theorem dX11_count_180 : pm_dec mX11_count 180 (.ireturn, 1) 181 := ⟨pm_dcA dk_X11_count_144 16 rfl, rfl⟩
theorem dX11_count_181 : pm_dec mX11_count 181 (.aload_n 0, 1) 182 := ⟨pm_dcA dk_X11_count_144 17 rfl, rfl⟩
theorem dX11_count_182 : pm_dec mX11_count 182 (.getfield 12, 3) 185 := ⟨pm_dcA dk_X11_count_144 18 rfl, rfl⟩
theorem dX11_count_185 : pm_dec mX11_count 185 (.getfield 200, 3) 188 := ⟨pm_dcA dk_X11_count_144 19 rfl, rfl⟩
theorem dX11_count_188 : pm_dec mX11_count 188 (.invokevirtual 203, 3) 191 := ⟨pm_dcA dk_X11_count_144 20 rfl, rfl⟩
theorem dX11_count_191 : pm_dec mX11_count 191 (.ireturn, 1) 192 := ⟨pm_dcA dk_X11_count_144 21 rfl, rfl⟩
theorem dX11_count_192 : pm_dec mX11_count 192 (.aload_n 0, 1) 193 := ⟨pm_dcA dk_X11_count_144 22 rfl, rfl⟩
theorem dX11_count_193 : pm_dec mX11_count 193 (.getfield 12, 3) 196 := ⟨pm_dcA dk_X11_count_144 23 rfl, rfl⟩
theorem dX11_count_196 : pm_dec mX11_count 196 (.getfield 128, 3) 199 := ⟨pm_dcA dk_X11_count_144 24 rfl, rfl⟩
theorem dX11_count_199 : pm_dec mX11_count 199 (.bipush 13, 2) 201 := ⟨pm_dcA dk_X11_count_144 25 rfl, rfl⟩
theorem dX11_count_201 : pm_dec mX11_count 201 (.iconst 1, 1) 202 := ⟨pm_dcA dk_X11_count_144 26 rfl, rfl⟩
theorem dX11_count_202 : pm_dec mX11_count 202 (.invokevirtual 164, 3) 205 := ⟨pm_dcA dk_X11_count_144 27 rfl, rfl⟩
theorem dX11_count_205 : pm_dec mX11_count 205 (.ireturn, 1) 206 := ⟨pm_dcA dk_X11_count_144 28 rfl, rfl⟩
theorem dX11_count_206 : pm_dec mX11_count 206 (.aload_n 0, 1) 207 := ⟨pm_dcA dk_X11_count_144 29 rfl, rfl⟩
theorem dX11_count_207 : pm_dec mX11_count 207 (.getfield 67, 3) 210 := ⟨pm_dcA dk_X11_count_144 30 rfl, rfl⟩
theorem dX11_count_210 : pm_dec mX11_count 210 (.getfield 358, 3) 213 := ⟨pm_dcA dk_X11_count_144 31 rfl, rfl⟩
def dt_X11_count_213 : List (Nat × (Instr × Nat)) := [(213, (.ireturn, 1)), (214, (.aload_n 0, 1)), (215, (.getfield 12, 3)), (218, (.getfield 386, 3)), (221, (.invokevirtual 203, 3)), (224, (.ireturn, 1)), (225, (.aload_n 0, 1)), (226, (.getfield 12, 3)), (229, (.getfield 128, 3)), (232, (.bipush 7, 2)), (234, (.invokevirtual 398, 3)), (237, (.ireturn, 1)), (238, (.aload_n 0, 1)), (239, (.getfield 39, 3)), (242, (.invokevirtual 401, 3)), (245, (.ireturn, 1)), (246, (.aload_n 0, 1)), (247, (.ldc 109, 2)), (249, (.invokevirtual 97, 3)), (252, (.ireturn, 1))]
theorem dk_X11_count_213 : pm_dc mX11_count.2.1 dt_X11_count_213 = true := by decide +kernel
theorem dX11_count_213 : pm_dec mX11_count 213 (.ireturn, 1) 214 := ⟨pm_dcA dk_X11_count_213 0 rfl, rfl⟩
theorem dX11_count_214 : pm_dec mX11_count 214 (.aload_n 0, 1) 215 := ⟨pm_dcA dk_X11_count_213 1 rfl, rfl⟩
theorem dX11_count_215 : pm_dec mX11_count 215 (.getfield 12, 3) 218 := ⟨pm_dcA dk_X11_count_213 2 rfl, rfl⟩
theorem dX11_count_218 : pm_dec mX11_count 218 (.getfield 386, 3) 221 := ⟨pm_dcA dk_X11_count_213 3 rfl, rfl⟩
theorem dX11_count_221 : pm_dec mX11_count 221 (.invokevirtual 203, 3) 224 := ⟨pm_dcA dk_X11_count_213 4 rfl, rfl⟩
theorem dX11_count_224 : pm_dec mX11_count 224 (.ireturn, 1) 225 := ⟨pm_dcA dk_X11_count_213 5 rfl, rfl⟩
theorem dX11_count_225 : pm_dec mX11_count 225 (.aload_n 0, 1) 226 := ⟨pm_dcA dk_X11_count_213 6 rfl, rfl⟩
theorem dX11_count_226 : pm_dec mX11_count 226 (.getfield 12, 3) 229 := ⟨pm_dcA dk_X11_count_213 7 rfl, rfl⟩
theorem dX11_count_229 : pm_dec mX11_count 229 (.getfield 128, 3) 232 := ⟨pm_dcA dk_X11_count_213 8 rfl, rfl⟩
theorem dX11_count_232 : pm_dec mX11_count 232 (.bipush 7, 2) 234 := ⟨pm_dcA dk_X11_count_213 9 rfl, rfl⟩
theorem dX11_count_234 : pm_dec mX11_count 234 (.invokevirtual 398, 3) 237 := ⟨pm_dcA dk_X11_count_213 10 rfl, rfl⟩
theorem dX11_count_237 : pm_dec mX11_count 237 (.ireturn, 1) 238 := ⟨pm_dcA dk_X11_count_213 11 rfl, rfl⟩
theorem dX11_count_238 : pm_dec mX11_count 238 (.aload_n 0, 1) 239 := ⟨pm_dcA dk_X11_count_213 12 rfl, rfl⟩
theorem dX11_count_239 : pm_dec mX11_count 239 (.getfield 39, 3) 242 := ⟨pm_dcA dk_X11_count_213 13 rfl, rfl⟩
theorem dX11_count_242 : pm_dec mX11_count 242 (.invokevirtual 401, 3) 245 := ⟨pm_dcA dk_X11_count_213 14 rfl, rfl⟩
theorem dX11_count_245 : pm_dec mX11_count 245 (.ireturn, 1) 246 := ⟨pm_dcA dk_X11_count_213 15 rfl, rfl⟩
theorem dX11_count_246 : pm_dec mX11_count 246 (.aload_n 0, 1) 247 := ⟨pm_dcA dk_X11_count_213 16 rfl, rfl⟩
theorem dX11_count_247 : pm_dec mX11_count 247 (.ldc 109, 2) 249 := ⟨pm_dcA dk_X11_count_213 17 rfl, rfl⟩
theorem dX11_count_249 : pm_dec mX11_count 249 (.invokevirtual 97, 3) 252 := ⟨pm_dcA dk_X11_count_213 18 rfl, rfl⟩
theorem dX11_count_252 : pm_dec mX11_count 252 (.ireturn, 1) 253 := ⟨pm_dcA dk_X11_count_213 19 rfl, rfl⟩
def dt_X11_days_0 : List (Nat × (Instr × Nat)) := [(0, (.iload_n 1, 1)), (1, (.iconst 1, 1)), (2, (.sipush 400, 3)), (5, (.invokestatic 105, 3)), (8, (.ifCond .ne 18, 3)), (11, (.aload_n 0, 1)), (12, (.getfield 12, 3)), (15, (.getfield 122, 3)), (18, (.iload_n 1, 1)), (19, (.iadd, 1)), (20, (.sipush 2000, 3)), (23, (.if_icmp .le 10, 3)), (26, (.aload_n 0, 1)), (27, (.ldc 109, 2)), (29, (.invokevirtual 97, 3)), (32, (.ireturn, 1)), (33, (.iconst 0, 1)), (34, (.istore_n 2, 1)), (35, (.iload_n 2, 1)), (36, (.iload_n 1, 1)), (37, (.if_icmp .ge 16, 3)), (40, (.aload_n 0, 1)), (41, (.getfield 12, 3)), (44, (.invokevirtual 245, 3)), (47, (.iinc 2 1, 3)), (50, (.goto (-15), 3)), (53, (.aload_n 0, 1)), (54, (.getfield 12, 3)), (57, (.getfield 122, 3)), (60, (.ireturn, 1))]
theorem dk_X11_days_0 : pm_dc mX11_days.2.1 dt_X11_days_0 = true := by decide +kernel
theorem dX11_days_0 : pm_dec mX11_days 0 (.iload_n 1, 1) 1 := ⟨pm_dcA dk_X11_days_0 0 rfl, rfl⟩
theorem dX11_days_1 : pm_dec mX11_days 1 (.iconst 1, 1) 2 := ⟨pm_dcA dk_X11_days_0 1 rfl, rfl⟩
theorem dX11_days_2 : pm_dec mX11_days 2 (.sipush 400, 3) 5 := ⟨pm_dcA dk_X11_days_0 2 rfl, rfl⟩
theorem dX11_days_5 : pm_dec mX11_days 5 (.invokestatic 105, 3) 8 := ⟨pm_dcA dk_X11_days_0 3 rfl, rfl⟩
theorem dX11_days_8 : pm_dec mX11_days 8 (.ifCond .ne 18, 3) 11 := ⟨pm_dcA dk_X11_days_0 4 rfl, rfl⟩
theorem dX11_days_11 : pm_dec mX11_days 11 (.aload_n 0, 1) 12 := ⟨pm_dcA dk_X11_days_0 5 rfl, rfl⟩
theorem dX11_days_12 : pm_dec mX11_days 12 (.getfield 12, 3) 15 := ⟨pm_dcA dk_X11_days_0 6 rfl, rfl⟩
theorem dX11_days_15 : pm_dec mX11_days 15 (.getfield 122, 3) 18 := ⟨pm_dcA dk_X11_days_0 7 rfl, rfl⟩
theorem dX11_days_18 : pm_dec mX11_days 18 (.iload_n 1, 1) 19 := ⟨pm_dcA dk_X11_days_0 8 rfl, rfl⟩
theorem dX11_days_19 : pm_dec mX11_days 19 (.iadd, 1) 20 := ⟨pm_dcA dk_X11_days_0 9 rfl, rfl⟩
theorem dX11_days_20 : pm_dec mX11_days 20 (.sipush 2000, 3) 23 := ⟨pm_dcA dk_X11_days_0 10 rfl, rfl⟩
theorem dX11_days_23 : pm_dec mX11_days 23 (.if_icmp .le 10, 3) 26 := ⟨pm_dcA dk_X11_days_0 11 rfl, rfl⟩
theorem dX11_days_26 : pm_dec mX11_days 26 (.aload_n 0, 1) 27 := ⟨pm_dcA dk_X11_days_0 12 rfl, rfl⟩
theorem dX11_days_27 : pm_dec mX11_days 27 (.ldc 109, 2) 29 := ⟨pm_dcA dk_X11_days_0 13 rfl, rfl⟩
theorem dX11_days_29 : pm_dec mX11_days 29 (.invokevirtual 97, 3) 32 := ⟨pm_dcA dk_X11_days_0 14 rfl, rfl⟩
theorem dX11_days_32 : pm_dec mX11_days 32 (.ireturn, 1) 33 := ⟨pm_dcA dk_X11_days_0 15 rfl, rfl⟩
theorem dX11_days_33 : pm_dec mX11_days 33 (.iconst 0, 1) 34 := ⟨pm_dcA dk_X11_days_0 16 rfl, rfl⟩
theorem dX11_days_34 : pm_dec mX11_days 34 (.istore_n 2, 1) 35 := ⟨pm_dcA dk_X11_days_0 17 rfl, rfl⟩
theorem dX11_days_35 : pm_dec mX11_days 35 (.iload_n 2, 1) 36 := ⟨pm_dcA dk_X11_days_0 18 rfl, rfl⟩
theorem dX11_days_36 : pm_dec mX11_days 36 (.iload_n 1, 1) 37 := ⟨pm_dcA dk_X11_days_0 19 rfl, rfl⟩
theorem dX11_days_37 : pm_dec mX11_days 37 (.if_icmp .ge 16, 3) 40 := ⟨pm_dcA dk_X11_days_0 20 rfl, rfl⟩
theorem dX11_days_40 : pm_dec mX11_days 40 (.aload_n 0, 1) 41 := ⟨pm_dcA dk_X11_days_0 21 rfl, rfl⟩
theorem dX11_days_41 : pm_dec mX11_days 41 (.getfield 12, 3) 44 := ⟨pm_dcA dk_X11_days_0 22 rfl, rfl⟩
theorem dX11_days_44 : pm_dec mX11_days 44 (.invokevirtual 245, 3) 47 := ⟨pm_dcA dk_X11_days_0 23 rfl, rfl⟩
theorem dX11_days_47 : pm_dec mX11_days 47 (.iinc 2 1, 3) 50 := ⟨pm_dcA dk_X11_days_0 24 rfl, rfl⟩
theorem dX11_days_50 : pm_dec mX11_days 50 (.goto (-15), 3) 53 := ⟨pm_dcA dk_X11_days_0 25 rfl, rfl⟩
theorem dX11_days_53 : pm_dec mX11_days 53 (.aload_n 0, 1) 54 := ⟨pm_dcA dk_X11_days_0 26 rfl, rfl⟩
theorem dX11_days_54 : pm_dec mX11_days 54 (.getfield 12, 3) 57 := ⟨pm_dcA dk_X11_days_0 27 rfl, rfl⟩
theorem dX11_days_57 : pm_dec mX11_days 57 (.getfield 122, 3) 60 := ⟨pm_dcA dk_X11_days_0 28 rfl, rfl⟩
theorem dX11_days_60 : pm_dec mX11_days 60 (.ireturn, 1) 61 := ⟨pm_dcA dk_X11_days_0 29 rfl, rfl⟩
def dt_X11_debt_0 : List (Nat × (Instr × Nat)) := [(0, (.iload_n 2, 1)), (1, (.sipush 10000, 3)), (4, (.idiv, 1)), (5, (.istore 4, 2)), (7, (.iload_n 2, 1)), (8, (.sipush 10000, 3)), (11, (.irem, 1)), (12, (.istore 5, 2)), (14, (.iload_n 1, 1)), (15, (.iconst 0, 1)), (16, (.ldc_w 270, 3)), (19, (.invokestatic 105, 3)), (22, (.ifCond .ne 34, 3)), (25, (.iload 4, 2)), (27, (.iconst 0, 1)), (28, (.bipush 99, 2)), (30, (.invokestatic 105, 3)), (33, (.ifCond .ne 23, 3)), (36, (.iload 5, 2)), (38, (.iconst 1, 1)), (39, (.if_icmp .lt 17, 3)), (42, (.aload_n 0, 1)), (43, (.getfield 12, 3)), (46, (.getfield 82, 3)), (49, (.iload_n 3, 1)), (50, (.invokevirtual 101, 3)), (53, (.ifCond .ne 10, 3)), (56, (.aload_n 0, 1)), (57, (.ldc 109, 2)), (59, (.invokevirtual 97, 3)), (62, (.ireturn, 1)), (63, (.aload_n 0, 1))]
theorem dk_X11_debt_0 : pm_dc mX11_debt.2.1 dt_X11_debt_0 = true := by decide +kernel
theorem dX11_debt_0 : pm_dec mX11_debt 0 (.iload_n 2, 1) 1 := ⟨pm_dcA dk_X11_debt_0 0 rfl, rfl⟩
theorem dX11_debt_1 : pm_dec mX11_debt 1 (.sipush 10000, 3) 4 := ⟨pm_dcA dk_X11_debt_0 1 rfl, rfl⟩
theorem dX11_debt_4 : pm_dec mX11_debt 4 (.idiv, 1) 5 := ⟨pm_dcA dk_X11_debt_0 2 rfl, rfl⟩
theorem dX11_debt_5 : pm_dec mX11_debt 5 (.istore 4, 2) 7 := ⟨pm_dcA dk_X11_debt_0 3 rfl, rfl⟩
theorem dX11_debt_7 : pm_dec mX11_debt 7 (.iload_n 2, 1) 8 := ⟨pm_dcA dk_X11_debt_0 4 rfl, rfl⟩
theorem dX11_debt_8 : pm_dec mX11_debt 8 (.sipush 10000, 3) 11 := ⟨pm_dcA dk_X11_debt_0 5 rfl, rfl⟩
theorem dX11_debt_11 : pm_dec mX11_debt 11 (.irem, 1) 12 := ⟨pm_dcA dk_X11_debt_0 6 rfl, rfl⟩
theorem dX11_debt_12 : pm_dec mX11_debt 12 (.istore 5, 2) 14 := ⟨pm_dcA dk_X11_debt_0 7 rfl, rfl⟩
theorem dX11_debt_14 : pm_dec mX11_debt 14 (.iload_n 1, 1) 15 := ⟨pm_dcA dk_X11_debt_0 8 rfl, rfl⟩
theorem dX11_debt_15 : pm_dec mX11_debt 15 (.iconst 0, 1) 16 := ⟨pm_dcA dk_X11_debt_0 9 rfl, rfl⟩
theorem dX11_debt_16 : pm_dec mX11_debt 16 (.ldc_w 270, 3) 19 := ⟨pm_dcA dk_X11_debt_0 10 rfl, rfl⟩
theorem dX11_debt_19 : pm_dec mX11_debt 19 (.invokestatic 105, 3) 22 := ⟨pm_dcA dk_X11_debt_0 11 rfl, rfl⟩
theorem dX11_debt_22 : pm_dec mX11_debt 22 (.ifCond .ne 34, 3) 25 := ⟨pm_dcA dk_X11_debt_0 12 rfl, rfl⟩
theorem dX11_debt_25 : pm_dec mX11_debt 25 (.iload 4, 2) 27 := ⟨pm_dcA dk_X11_debt_0 13 rfl, rfl⟩
theorem dX11_debt_27 : pm_dec mX11_debt 27 (.iconst 0, 1) 28 := ⟨pm_dcA dk_X11_debt_0 14 rfl, rfl⟩
theorem dX11_debt_28 : pm_dec mX11_debt 28 (.bipush 99, 2) 30 := ⟨pm_dcA dk_X11_debt_0 15 rfl, rfl⟩
theorem dX11_debt_30 : pm_dec mX11_debt 30 (.invokestatic 105, 3) 33 := ⟨pm_dcA dk_X11_debt_0 16 rfl, rfl⟩
theorem dX11_debt_33 : pm_dec mX11_debt 33 (.ifCond .ne 23, 3) 36 := ⟨pm_dcA dk_X11_debt_0 17 rfl, rfl⟩
theorem dX11_debt_36 : pm_dec mX11_debt 36 (.iload 5, 2) 38 := ⟨pm_dcA dk_X11_debt_0 18 rfl, rfl⟩
theorem dX11_debt_38 : pm_dec mX11_debt 38 (.iconst 1, 1) 39 := ⟨pm_dcA dk_X11_debt_0 19 rfl, rfl⟩
theorem dX11_debt_39 : pm_dec mX11_debt 39 (.if_icmp .lt 17, 3) 42 := ⟨pm_dcA dk_X11_debt_0 20 rfl, rfl⟩
theorem dX11_debt_42 : pm_dec mX11_debt 42 (.aload_n 0, 1) 43 := ⟨pm_dcA dk_X11_debt_0 21 rfl, rfl⟩
theorem dX11_debt_43 : pm_dec mX11_debt 43 (.getfield 12, 3) 46 := ⟨pm_dcA dk_X11_debt_0 22 rfl, rfl⟩
theorem dX11_debt_46 : pm_dec mX11_debt 46 (.getfield 82, 3) 49 := ⟨pm_dcA dk_X11_debt_0 23 rfl, rfl⟩
theorem dX11_debt_49 : pm_dec mX11_debt 49 (.iload_n 3, 1) 50 := ⟨pm_dcA dk_X11_debt_0 24 rfl, rfl⟩
theorem dX11_debt_50 : pm_dec mX11_debt 50 (.invokevirtual 101, 3) 53 := ⟨pm_dcA dk_X11_debt_0 25 rfl, rfl⟩
theorem dX11_debt_53 : pm_dec mX11_debt 53 (.ifCond .ne 10, 3) 56 := ⟨pm_dcA dk_X11_debt_0 26 rfl, rfl⟩
theorem dX11_debt_56 : pm_dec mX11_debt 56 (.aload_n 0, 1) 57 := ⟨pm_dcA dk_X11_debt_0 27 rfl, rfl⟩
theorem dX11_debt_57 : pm_dec mX11_debt 57 (.ldc 109, 2) 59 := ⟨pm_dcA dk_X11_debt_0 28 rfl, rfl⟩
theorem dX11_debt_59 : pm_dec mX11_debt 59 (.invokevirtual 97, 3) 62 := ⟨pm_dcA dk_X11_debt_0 29 rfl, rfl⟩
theorem dX11_debt_62 : pm_dec mX11_debt 62 (.ireturn, 1) 63 := ⟨pm_dcA dk_X11_debt_0 30 rfl, rfl⟩
theorem dX11_debt_63 : pm_dec mX11_debt 63 (.aload_n 0, 1) 64 := ⟨pm_dcA dk_X11_debt_0 31 rfl, rfl⟩
def dt_X11_debt_64 : List (Nat × (Instr × Nat)) := [(64, (.aload_n 0, 1)), (65, (.getfield 12, 3)), (68, (.getfield 271, 3)), (71, (.invokevirtual 86, 3)), (74, (.ifCond .eq 8, 3)), (77, (.ldc 92, 2)), (79, (.goto 16, 3)), (82, (.aload_n 0, 1)), (83, (.getfield 12, 3)), (86, (.iload_n 1, 1)), (87, (.iload 4, 2)), (89, (.iload 5, 2)), (91, (.iload_n 3, 1)), (92, (.invokevirtual 274, 3)), (95, (.invokevirtual 97, 3)), (98, (.ireturn, 1))]
theorem dk_X11_debt_64 : pm_dc mX11_debt.2.1 dt_X11_debt_64 = true := by decide +kernel
theorem dX11_debt_64 : pm_dec mX11_debt 64 (.aload_n 0, 1) 65 := ⟨pm_dcA dk_X11_debt_64 0 rfl, rfl⟩
theorem dX11_debt_65 : pm_dec mX11_debt 65 (.getfield 12, 3) 68 := ⟨pm_dcA dk_X11_debt_64 1 rfl, rfl⟩
theorem dX11_debt_68 : pm_dec mX11_debt 68 (.getfield 271, 3) 71 := ⟨pm_dcA dk_X11_debt_64 2 rfl, rfl⟩
theorem dX11_debt_71 : pm_dec mX11_debt 71 (.invokevirtual 86, 3) 74 := ⟨pm_dcA dk_X11_debt_64 3 rfl, rfl⟩
theorem dX11_debt_74 : pm_dec mX11_debt 74 (.ifCond .eq 8, 3) 77 := ⟨pm_dcA dk_X11_debt_64 4 rfl, rfl⟩
theorem dX11_debt_77 : pm_dec mX11_debt 77 (.ldc 92, 2) 79 := ⟨pm_dcA dk_X11_debt_64 5 rfl, rfl⟩
theorem dX11_debt_79 : pm_dec mX11_debt 79 (.goto 16, 3) 82 := ⟨pm_dcA dk_X11_debt_64 6 rfl, rfl⟩
theorem dX11_debt_82 : pm_dec mX11_debt 82 (.aload_n 0, 1) 83 := ⟨pm_dcA dk_X11_debt_64 7 rfl, rfl⟩
theorem dX11_debt_83 : pm_dec mX11_debt 83 (.getfield 12, 3) 86 := ⟨pm_dcA dk_X11_debt_64 8 rfl, rfl⟩
theorem dX11_debt_86 : pm_dec mX11_debt 86 (.iload_n 1, 1) 87 := ⟨pm_dcA dk_X11_debt_64 9 rfl, rfl⟩
theorem dX11_debt_87 : pm_dec mX11_debt 87 (.iload 4, 2) 89 := ⟨pm_dcA dk_X11_debt_64 10 rfl, rfl⟩
theorem dX11_debt_89 : pm_dec mX11_debt 89 (.iload 5, 2) 91 := ⟨pm_dcA dk_X11_debt_64 11 rfl, rfl⟩
theorem dX11_debt_91 : pm_dec mX11_debt 91 (.iload_n 3, 1) 92 := ⟨pm_dcA dk_X11_debt_64 12 rfl, rfl⟩
theorem dX11_debt_92 : pm_dec mX11_debt 92 (.invokevirtual 274, 3) 95 := ⟨pm_dcA dk_X11_debt_64 13 rfl, rfl⟩
theorem dX11_debt_95 : pm_dec mX11_debt 95 (.invokevirtual 97, 3) 98 := ⟨pm_dcA dk_X11_debt_64 14 rfl, rfl⟩
theorem dX11_debt_98 : pm_dec mX11_debt 98 (.ireturn, 1) 99 := ⟨pm_dcA dk_X11_debt_64 15 rfl, rfl⟩
def dt_X11_die_0 : List (Nat × (Instr × Nat)) := [(0, (.aload_n 0, 1)), (1, (.getfield 12, 3)), (4, (.getfield 128, 3)), (7, (.iload_n 1, 1)), (8, (.invokevirtual 101, 3)), (11, (.ifCond .ne 10, 3)), (14, (.aload_n 0, 1)), (15, (.ldc 109, 2)), (17, (.invokevirtual 97, 3)), (20, (.ireturn, 1)), (21, (.aload_n 0, 1)), (22, (.getfield 12, 3)), (25, (.iload_n 1, 1)), (26, (.invokevirtual 135, 3)), (29, (.ifCond .ne 10, 3)), (32, (.aload_n 0, 1)), (33, (.ldc 138, 2)), (35, (.invokevirtual 97, 3)), (38, (.ireturn, 1)), (39, (.aload_n 0, 1)), (40, (.getfield 30, 3)), (43, (.iload_n 1, 1)), (44, (.invokevirtual 139, 3)), (47, (.aload_n 0, 1)), (48, (.aload_n 0, 1)), (49, (.getfield 12, 3)), (52, (.iload_n 1, 1)), (53, (.invokevirtual 143, 3)), (56, (.invokevirtual 97, 3)), (59, (.ireturn, 1))]
theorem dk_X11_die_0 : pm_dc mX11_die.2.1 dt_X11_die_0 = true := by decide +kernel
theorem dX11_die_0 : pm_dec mX11_die 0 (.aload_n 0, 1) 1 := ⟨pm_dcA dk_X11_die_0 0 rfl, rfl⟩
theorem dX11_die_1 : pm_dec mX11_die 1 (.getfield 12, 3) 4 := ⟨pm_dcA dk_X11_die_0 1 rfl, rfl⟩
theorem dX11_die_4 : pm_dec mX11_die 4 (.getfield 128, 3) 7 := ⟨pm_dcA dk_X11_die_0 2 rfl, rfl⟩
theorem dX11_die_7 : pm_dec mX11_die 7 (.iload_n 1, 1) 8 := ⟨pm_dcA dk_X11_die_0 3 rfl, rfl⟩
theorem dX11_die_8 : pm_dec mX11_die 8 (.invokevirtual 101, 3) 11 := ⟨pm_dcA dk_X11_die_0 4 rfl, rfl⟩
theorem dX11_die_11 : pm_dec mX11_die 11 (.ifCond .ne 10, 3) 14 := ⟨pm_dcA dk_X11_die_0 5 rfl, rfl⟩
theorem dX11_die_14 : pm_dec mX11_die 14 (.aload_n 0, 1) 15 := ⟨pm_dcA dk_X11_die_0 6 rfl, rfl⟩
theorem dX11_die_15 : pm_dec mX11_die 15 (.ldc 109, 2) 17 := ⟨pm_dcA dk_X11_die_0 7 rfl, rfl⟩
theorem dX11_die_17 : pm_dec mX11_die 17 (.invokevirtual 97, 3) 20 := ⟨pm_dcA dk_X11_die_0 8 rfl, rfl⟩
theorem dX11_die_20 : pm_dec mX11_die 20 (.ireturn, 1) 21 := ⟨pm_dcA dk_X11_die_0 9 rfl, rfl⟩
theorem dX11_die_21 : pm_dec mX11_die 21 (.aload_n 0, 1) 22 := ⟨pm_dcA dk_X11_die_0 10 rfl, rfl⟩
theorem dX11_die_22 : pm_dec mX11_die 22 (.getfield 12, 3) 25 := ⟨pm_dcA dk_X11_die_0 11 rfl, rfl⟩
theorem dX11_die_25 : pm_dec mX11_die 25 (.iload_n 1, 1) 26 := ⟨pm_dcA dk_X11_die_0 12 rfl, rfl⟩
theorem dX11_die_26 : pm_dec mX11_die 26 (.invokevirtual 135, 3) 29 := ⟨pm_dcA dk_X11_die_0 13 rfl, rfl⟩
theorem dX11_die_29 : pm_dec mX11_die 29 (.ifCond .ne 10, 3) 32 := ⟨pm_dcA dk_X11_die_0 14 rfl, rfl⟩
theorem dX11_die_32 : pm_dec mX11_die 32 (.aload_n 0, 1) 33 := ⟨pm_dcA dk_X11_die_0 15 rfl, rfl⟩
theorem dX11_die_33 : pm_dec mX11_die 33 (.ldc 138, 2) 35 := ⟨pm_dcA dk_X11_die_0 16 rfl, rfl⟩
theorem dX11_die_35 : pm_dec mX11_die 35 (.invokevirtual 97, 3) 38 := ⟨pm_dcA dk_X11_die_0 17 rfl, rfl⟩
theorem dX11_die_38 : pm_dec mX11_die 38 (.ireturn, 1) 39 := ⟨pm_dcA dk_X11_die_0 18 rfl, rfl⟩
theorem dX11_die_39 : pm_dec mX11_die 39 (.aload_n 0, 1) 40 := ⟨pm_dcA dk_X11_die_0 19 rfl, rfl⟩
theorem dX11_die_40 : pm_dec mX11_die 40 (.getfield 30, 3) 43 := ⟨pm_dcA dk_X11_die_0 20 rfl, rfl⟩
theorem dX11_die_43 : pm_dec mX11_die 43 (.iload_n 1, 1) 44 := ⟨pm_dcA dk_X11_die_0 21 rfl, rfl⟩
theorem dX11_die_44 : pm_dec mX11_die 44 (.invokevirtual 139, 3) 47 := ⟨pm_dcA dk_X11_die_0 22 rfl, rfl⟩
theorem dX11_die_47 : pm_dec mX11_die 47 (.aload_n 0, 1) 48 := ⟨pm_dcA dk_X11_die_0 23 rfl, rfl⟩
theorem dX11_die_48 : pm_dec mX11_die 48 (.aload_n 0, 1) 49 := ⟨pm_dcA dk_X11_die_0 24 rfl, rfl⟩
theorem dX11_die_49 : pm_dec mX11_die 49 (.getfield 12, 3) 52 := ⟨pm_dcA dk_X11_die_0 25 rfl, rfl⟩
theorem dX11_die_52 : pm_dec mX11_die 52 (.iload_n 1, 1) 53 := ⟨pm_dcA dk_X11_die_0 26 rfl, rfl⟩
theorem dX11_die_53 : pm_dec mX11_die 53 (.invokevirtual 143, 3) 56 := ⟨pm_dcA dk_X11_die_0 27 rfl, rfl⟩
theorem dX11_die_56 : pm_dec mX11_die 56 (.invokevirtual 97, 3) 59 := ⟨pm_dcA dk_X11_die_0 28 rfl, rfl⟩
theorem dX11_die_59 : pm_dec mX11_die 59 (.ireturn, 1) 60 := ⟨pm_dcA dk_X11_die_0 29 rfl, rfl⟩
def dt_X11_draw_0 : List (Nat × (Instr × Nat)) := [(0, (.aload_n 0, 1)), (1, (.getfield 12, 3)), (4, (.getfield 128, 3)), (7, (.iload_n 1, 1)), (8, (.invokevirtual 101, 3)), (11, (.ifCond .eq 23, 3)), (14, (.iload_n 2, 1)), (15, (.iconst 0, 1)), (16, (.iconst 4, 1)), (17, (.invokestatic 105, 3)), (20, (.ifCond .ne 14, 3)), (23, (.iload_n 3, 1)), (24, (.iconst 0, 1)), (25, (.sipush 999, 3)), (28, (.invokestatic 105, 3)), (31, (.ifCond .eq 10, 3)), (34, (.aload_n 0, 1)), (35, (.ldc 109, 2)), (37, (.invokevirtual 97, 3)), (40, (.ireturn, 1)), (41, (.aload_n 0, 1)), (42, (.getfield 12, 3)), (45, (.iload_n 1, 1)), (46, (.invokevirtual 146, 3)), (49, (.ifCond .ne 10, 3)), (52, (.aload_n 0, 1)), (53, (.ldc 138, 2)), (55, (.invokevirtual 97, 3)), (58, (.ireturn, 1)), (59, (.aload_n 0, 1)), (60, (.aload_n 0, 1)), (61, (.getfield 12, 3))]
theorem dk_X11_draw_0 : pm_dc mX11_draw.2.1 dt_X11_draw_0 = true := by decide +kernel
theorem dX11_draw_0 : pm_dec mX11_draw 0 (.aload_n 0, 1) 1 := ⟨pm_dcA dk_X11_draw_0 0 rfl, rfl⟩
theorem dX11_draw_1 : pm_dec mX11_draw 1 (.getfield 12, 3) 4 := ⟨pm_dcA dk_X11_draw_0 1 rfl, rfl⟩
theorem dX11_draw_4 : pm_dec mX11_draw 4 (.getfield 128, 3) 7 := ⟨pm_dcA dk_X11_draw_0 2 rfl, rfl⟩
theorem dX11_draw_7 : pm_dec mX11_draw 7 (.iload_n 1, 1) 8 := ⟨pm_dcA dk_X11_draw_0 3 rfl, rfl⟩
theorem dX11_draw_8 : pm_dec mX11_draw 8 (.invokevirtual 101, 3) 11 := ⟨pm_dcA dk_X11_draw_0 4 rfl, rfl⟩
theorem dX11_draw_11 : pm_dec mX11_draw 11 (.ifCond .eq 23, 3) 14 := ⟨pm_dcA dk_X11_draw_0 5 rfl, rfl⟩
theorem dX11_draw_14 : pm_dec mX11_draw 14 (.iload_n 2, 1) 15 := ⟨pm_dcA dk_X11_draw_0 6 rfl, rfl⟩
theorem dX11_draw_15 : pm_dec mX11_draw 15 (.iconst 0, 1) 16 := ⟨pm_dcA dk_X11_draw_0 7 rfl, rfl⟩
theorem dX11_draw_16 : pm_dec mX11_draw 16 (.iconst 4, 1) 17 := ⟨pm_dcA dk_X11_draw_0 8 rfl, rfl⟩
theorem dX11_draw_17 : pm_dec mX11_draw 17 (.invokestatic 105, 3) 20 := ⟨pm_dcA dk_X11_draw_0 9 rfl, rfl⟩
theorem dX11_draw_20 : pm_dec mX11_draw 20 (.ifCond .ne 14, 3) 23 := ⟨pm_dcA dk_X11_draw_0 10 rfl, rfl⟩
theorem dX11_draw_23 : pm_dec mX11_draw 23 (.iload_n 3, 1) 24 := ⟨pm_dcA dk_X11_draw_0 11 rfl, rfl⟩
theorem dX11_draw_24 : pm_dec mX11_draw 24 (.iconst 0, 1) 25 := ⟨pm_dcA dk_X11_draw_0 12 rfl, rfl⟩
theorem dX11_draw_25 : pm_dec mX11_draw 25 (.sipush 999, 3) 28 := ⟨pm_dcA dk_X11_draw_0 13 rfl, rfl⟩
theorem dX11_draw_28 : pm_dec mX11_draw 28 (.invokestatic 105, 3) 31 := ⟨pm_dcA dk_X11_draw_0 14 rfl, rfl⟩
theorem dX11_draw_31 : pm_dec mX11_draw 31 (.ifCond .eq 10, 3) 34 := ⟨pm_dcA dk_X11_draw_0 15 rfl, rfl⟩
theorem dX11_draw_34 : pm_dec mX11_draw 34 (.aload_n 0, 1) 35 := ⟨pm_dcA dk_X11_draw_0 16 rfl, rfl⟩
theorem dX11_draw_35 : pm_dec mX11_draw 35 (.ldc 109, 2) 37 := ⟨pm_dcA dk_X11_draw_0 17 rfl, rfl⟩
theorem dX11_draw_37 : pm_dec mX11_draw 37 (.invokevirtual 97, 3) 40 := ⟨pm_dcA dk_X11_draw_0 18 rfl, rfl⟩
theorem dX11_draw_40 : pm_dec mX11_draw 40 (.ireturn, 1) 41 := ⟨pm_dcA dk_X11_draw_0 19 rfl, rfl⟩
theorem dX11_draw_41 : pm_dec mX11_draw 41 (.aload_n 0, 1) 42 := ⟨pm_dcA dk_X11_draw_0 20 rfl, rfl⟩
theorem dX11_draw_42 : pm_dec mX11_draw 42 (.getfield 12, 3) 45 := ⟨pm_dcA dk_X11_draw_0 21 rfl, rfl⟩
theorem dX11_draw_45 : pm_dec mX11_draw 45 (.iload_n 1, 1) 46 := ⟨pm_dcA dk_X11_draw_0 22 rfl, rfl⟩
theorem dX11_draw_46 : pm_dec mX11_draw 46 (.invokevirtual 146, 3) 49 := ⟨pm_dcA dk_X11_draw_0 23 rfl, rfl⟩
theorem dX11_draw_49 : pm_dec mX11_draw 49 (.ifCond .ne 10, 3) 52 := ⟨pm_dcA dk_X11_draw_0 24 rfl, rfl⟩
theorem dX11_draw_52 : pm_dec mX11_draw 52 (.aload_n 0, 1) 53 := ⟨pm_dcA dk_X11_draw_0 25 rfl, rfl⟩
theorem dX11_draw_53 : pm_dec mX11_draw 53 (.ldc 138, 2) 55 := ⟨pm_dcA dk_X11_draw_0 26 rfl, rfl⟩
theorem dX11_draw_55 : pm_dec mX11_draw 55 (.invokevirtual 97, 3) 58 := ⟨pm_dcA dk_X11_draw_0 27 rfl, rfl⟩
theorem dX11_draw_58 : pm_dec mX11_draw 58 (.ireturn, 1) 59 := ⟨pm_dcA dk_X11_draw_0 28 rfl, rfl⟩
theorem dX11_draw_59 : pm_dec mX11_draw 59 (.aload_n 0, 1) 60 := ⟨pm_dcA dk_X11_draw_0 29 rfl, rfl⟩
theorem dX11_draw_60 : pm_dec mX11_draw 60 (.aload_n 0, 1) 61 := ⟨pm_dcA dk_X11_draw_0 30 rfl, rfl⟩
theorem dX11_draw_61 : pm_dec mX11_draw 61 (.getfield 12, 3) 64 := ⟨pm_dcA dk_X11_draw_0 31 rfl, rfl⟩
def dt_X11_draw_64 : List (Nat × (Instr × Nat)) := [(64, (.getfield 224, 3)), (67, (.invokevirtual 86, 3)), (70, (.ifCond .eq 8, 3)), (73, (.ldc 92, 2)), (75, (.goto 13, 3)), (78, (.aload_n 0, 1)), (79, (.getfield 39, 3)), (82, (.iload_n 1, 1)), (83, (.iload_n 2, 1)), (84, (.iload_n 3, 1)), (85, (.invokevirtual 230, 3)), (88, (.invokevirtual 97, 3)), (91, (.ireturn, 1))]
theorem dk_X11_draw_64 : pm_dc mX11_draw.2.1 dt_X11_draw_64 = true := by decide +kernel
theorem dX11_draw_64 : pm_dec mX11_draw 64 (.getfield 224, 3) 67 := ⟨pm_dcA dk_X11_draw_64 0 rfl, rfl⟩
theorem dX11_draw_67 : pm_dec mX11_draw 67 (.invokevirtual 86, 3) 70 := ⟨pm_dcA dk_X11_draw_64 1 rfl, rfl⟩
theorem dX11_draw_70 : pm_dec mX11_draw 70 (.ifCond .eq 8, 3) 73 := ⟨pm_dcA dk_X11_draw_64 2 rfl, rfl⟩
theorem dX11_draw_73 : pm_dec mX11_draw 73 (.ldc 92, 2) 75 := ⟨pm_dcA dk_X11_draw_64 3 rfl, rfl⟩
theorem dX11_draw_75 : pm_dec mX11_draw 75 (.goto 13, 3) 78 := ⟨pm_dcA dk_X11_draw_64 4 rfl, rfl⟩
theorem dX11_draw_78 : pm_dec mX11_draw 78 (.aload_n 0, 1) 79 := ⟨pm_dcA dk_X11_draw_64 5 rfl, rfl⟩
theorem dX11_draw_79 : pm_dec mX11_draw 79 (.getfield 39, 3) 82 := ⟨pm_dcA dk_X11_draw_64 6 rfl, rfl⟩
theorem dX11_draw_82 : pm_dec mX11_draw 82 (.iload_n 1, 1) 83 := ⟨pm_dcA dk_X11_draw_64 7 rfl, rfl⟩
theorem dX11_draw_83 : pm_dec mX11_draw 83 (.iload_n 2, 1) 84 := ⟨pm_dcA dk_X11_draw_64 8 rfl, rfl⟩
theorem dX11_draw_84 : pm_dec mX11_draw 84 (.iload_n 3, 1) 85 := ⟨pm_dcA dk_X11_draw_64 9 rfl, rfl⟩
theorem dX11_draw_85 : pm_dec mX11_draw 85 (.invokevirtual 230, 3) 88 := ⟨pm_dcA dk_X11_draw_64 10 rfl, rfl⟩
theorem dX11_draw_88 : pm_dec mX11_draw 88 (.invokevirtual 97, 3) 91 := ⟨pm_dcA dk_X11_draw_64 11 rfl, rfl⟩
theorem dX11_draw_91 : pm_dec mX11_draw 91 (.ireturn, 1) 92 := ⟨pm_dcA dk_X11_draw_64 12 rfl, rfl⟩
def dt_X11_far_0 : List (Nat × (Instr × Nat)) := [(0, (.aload_n 0, 1)), (1, (.getfield 12, 3)), (4, (.getfield 82, 3)), (7, (.iload_n 1, 1)), (8, (.invokevirtual 101, 3)), (11, (.ifCond .eq 17, 3)), (14, (.aload_n 0, 1)), (15, (.getfield 12, 3)), (18, (.getfield 82, 3)), (21, (.iload_n 2, 1)), (22, (.invokevirtual 101, 3)), (25, (.ifCond .ne 10, 3)), (28, (.aload_n 0, 1)), (29, (.ldc 109, 2)), (31, (.invokevirtual 97, 3)), (34, (.ireturn, 1)), (35, (.aload_n 0, 1)), (36, (.aload_n 0, 1)), (37, (.getfield 12, 3))]
theorem dk_X11_far_0 : pm_dc mX11_far.2.1 dt_X11_far_0 = true := by decide +kernel
theorem dX11_far_0 : pm_dec mX11_far 0 (.aload_n 0, 1) 1 := ⟨pm_dcA dk_X11_far_0 0 rfl, rfl⟩
theorem dX11_far_1 : pm_dec mX11_far 1 (.getfield 12, 3) 4 := ⟨pm_dcA dk_X11_far_0 1 rfl, rfl⟩
theorem dX11_far_4 : pm_dec mX11_far 4 (.getfield 82, 3) 7 := ⟨pm_dcA dk_X11_far_0 2 rfl, rfl⟩
theorem dX11_far_7 : pm_dec mX11_far 7 (.iload_n 1, 1) 8 := ⟨pm_dcA dk_X11_far_0 3 rfl, rfl⟩
theorem dX11_far_8 : pm_dec mX11_far 8 (.invokevirtual 101, 3) 11 := ⟨pm_dcA dk_X11_far_0 4 rfl, rfl⟩
theorem dX11_far_11 : pm_dec mX11_far 11 (.ifCond .eq 17, 3) 14 := ⟨pm_dcA dk_X11_far_0 5 rfl, rfl⟩
theorem dX11_far_14 : pm_dec mX11_far 14 (.aload_n 0, 1) 15 := ⟨pm_dcA dk_X11_far_0 6 rfl, rfl⟩
theorem dX11_far_15 : pm_dec mX11_far 15 (.getfield 12, 3) 18 := ⟨pm_dcA dk_X11_far_0 7 rfl, rfl⟩
theorem dX11_far_18 : pm_dec mX11_far 18 (.getfield 82, 3) 21 := ⟨pm_dcA dk_X11_far_0 8 rfl, rfl⟩
theorem dX11_far_21 : pm_dec mX11_far 21 (.iload_n 2, 1) 22 := ⟨pm_dcA dk_X11_far_0 9 rfl, rfl⟩
theorem dX11_far_22 : pm_dec mX11_far 22 (.invokevirtual 101, 3) 25 := ⟨pm_dcA dk_X11_far_0 10 rfl, rfl⟩
theorem dX11_far_25 : pm_dec mX11_far 25 (.ifCond .ne 10, 3) 28 := ⟨pm_dcA dk_X11_far_0 11 rfl, rfl⟩
theorem dX11_far_28 : pm_dec mX11_far 28 (.aload_n 0, 1) 29 := ⟨pm_dcA dk_X11_far_0 12 rfl, rfl⟩
theorem dX11_far_29 : pm_dec mX11_far 29 (.ldc 109, 2) 31 := ⟨pm_dcA dk_X11_far_0 13 rfl, rfl⟩
theorem dX11_far_31 : pm_dec mX11_far 31 (.invokevirtual 97, 3) 34 := ⟨pm_dcA dk_X11_far_0 14 rfl, rfl⟩
theorem dX11_far_34 : pm_dec mX11_far 34 (.ireturn, 1) 35 := ⟨pm_dcA dk_X11_far_0 15 rfl, rfl⟩
theorem dX11_far_35 : pm_dec mX11_far 35 (.aload_n 0, 1) 36 := ⟨pm_dcA dk_X11_far_0 16 rfl, rfl⟩
theorem dX11_far_36 : pm_dec mX11_far 36 (.aload_n 0, 1) 37 := ⟨pm_dcA dk_X11_far_0 17 rfl, rfl⟩
theorem dX11_far_37 : pm_dec mX11_far 37 (.getfield 12, 3) 40 := ⟨pm_dcA dk_X11_far_0 18 rfl, rfl⟩
theorem ctJ6_265 (M : pm_M) (h : M.1.cls = RJ6) : Cond.constant M.1.cls 265 (1431655765) ∈ pm_tbl := by rw [h]; exact (pm_it4 101 (by decide +kernel) (by decide +kernel))
theorem ctJ6_266 (M : pm_M) (h : M.1.cls = RJ6) : Cond.constant M.1.cls 266 (858993459) ∈ pm_tbl := by rw [h]; exact (pm_it4 102 (by decide +kernel) (by decide +kernel))
theorem ctJ6_267 (M : pm_M) (h : M.1.cls = RJ6) : Cond.constant M.1.cls 267 (252645135) ∈ pm_tbl := by rw [h]; exact (pm_it4 103 (by decide +kernel) (by decide +kernel))
theorem flX0_25 (M : pm_M) (h : M.1.cls = RX0) : pm_fl M 25 0 2 := ⟨RX0, TX0, 9, rfl, by decide, Or.inl (by rw [h]; exact (pm_it1 207 (by decide +kernel) (by decide +kernel)))⟩
theorem lkX0_47 (M : pm_M) (h : M.1.cls = RX0) : pm_lk M 47 mX9_used := Or.inl (by rw [h]; exact (pm_it3 15 (by decide +kernel) (by decide +kernel)))
theorem pd___I : (parseMethodDescriptor "()I").map (fun d => d.parameters.length) = some 0 := by decide +kernel
theorem okV_X9_used : pm_mokV mX9_used 0 := ⟨⟨⟨(pm_it2 201 (by decide +kernel) (by decide +kernel)), (pm_it1 3 (by decide +kernel) (by decide +kernel))⟩, ⟨cn_X9.1, cn_X9.2, pd___I⟩, by decide⟩, (pm_it2 199 (by decide +kernel) (by decide +kernel)), (pm_it2 200 (by decide +kernel) (by decide +kernel))⟩
theorem lkX0_51 (M : pm_M) (h : M.1.cls = RX0) : pm_lk M 51 mX0_stands := Or.inl (by rw [h]; exact (pm_it3 16 (by decide +kernel) (by decide +kernel)))
theorem pd__I_Z : (parseMethodDescriptor "(I)Z").map (fun d => d.parameters.length) = some 1 := by decide +kernel
theorem okV_X0_stands : pm_mokV mX0_stands 1 := ⟨⟨⟨(pm_it3 19 (by decide +kernel) (by decide +kernel)), (pm_it1 8 (by decide +kernel) (by decide +kernel))⟩, ⟨cn_X0.1, cn_X0.2, pd__I_Z⟩, by decide⟩, (pm_it3 17 (by decide +kernel) (by decide +kernel)), (pm_it3 18 (by decide +kernel) (by decide +kernel))⟩
theorem lkX0_39 (M : pm_M) (h : M.1.cls = RX0) : pm_lk M 39 mX9_get := Or.inl (by rw [h]; exact (pm_it3 20 (by decide +kernel) (by decide +kernel)))
theorem lkX0_55 (M : pm_M) (h : M.1.cls = RX0) : pm_lk M 55 mX9_set := Or.inl (by rw [h]; exact (pm_it3 10 (by decide +kernel) (by decide +kernel)))
theorem lkX0_59 (M : pm_M) (h : M.1.cls = RX0) : pm_lk M 59 mX9_append := Or.inl (by rw [h]; exact (pm_it5 76 (by decide +kernel) (by decide +kernel)))
theorem pd__I_I : (parseMethodDescriptor "(I)I").map (fun d => d.parameters.length) = some 1 := by decide +kernel
theorem okV_X9_append : pm_mokV mX9_append 1 := ⟨⟨⟨(pm_it2 173 (by decide +kernel) (by decide +kernel)), (pm_it1 3 (by decide +kernel) (by decide +kernel))⟩, ⟨cn_X9.1, cn_X9.2, pd__I_I⟩, by decide⟩, (pm_it2 171 (by decide +kernel) (by decide +kernel)), (pm_it2 172 (by decide +kernel) (by decide +kernel))⟩
theorem lkX0_66 (M : pm_M) (h : M.1.cls = RX0) : pm_lk M 66 mX0_endAllOf := Or.inl (by rw [h]; exact (pm_it3 11 (by decide +kernel) (by decide +kernel)))
theorem okV_X0_endAllOf : pm_mokV mX0_endAllOf 2 := ⟨⟨⟨(pm_it3 14 (by decide +kernel) (by decide +kernel)), (pm_it1 8 (by decide +kernel) (by decide +kernel))⟩, ⟨cn_X0.1, cn_X0.2, pd__II_I⟩, by decide⟩, (pm_it3 13 (by decide +kernel) (by decide +kernel)), (pm_in 3 (by decide +kernel) (by decide +kernel))⟩
theorem flX0_115 (M : pm_M) (h : M.1.cls = RX0) : pm_fl M 115 0 7 := ⟨RX0, TX0, 9, rfl, by decide, Or.inl (by rw [h]; exact (pm_it1 214 (by decide +kernel) (by decide +kernel)))⟩
theorem lkX0_125 (M : pm_M) (h : M.1.cls = RX0) : pm_lk M 125 mX0_isCarriedWith := Or.inl (by rw [h]; exact (pm_it5 137 (by decide +kernel) (by decide +kernel)))
theorem okV_X0_isCarriedWith : pm_mokV mX0_isCarriedWith 1 := ⟨⟨⟨(pm_it5 118 (by decide +kernel) (by decide +kernel)), (pm_it1 8 (by decide +kernel) (by decide +kernel))⟩, ⟨cn_X0.1, cn_X0.2, pd__I_Z⟩, by decide⟩, (pm_it5 116 (by decide +kernel) (by decide +kernel)), (pm_it5 117 (by decide +kernel) (by decide +kernel))⟩
theorem lkX0_128 (M : pm_M) (h : M.1.cls = RX0) : pm_lk M 128 mX0_keepIfBetter := Or.inl (by rw [h]; exact (pm_it5 138 (by decide +kernel) (by decide +kernel)))
theorem okV_X0_keepIfBetter : pm_mokV mX0_keepIfBetter 2 := ⟨⟨⟨(pm_it5 141 (by decide +kernel) (by decide +kernel)), (pm_it1 8 (by decide +kernel) (by decide +kernel))⟩, ⟨cn_X0.1, cn_X0.2, pd__II_V⟩, by decide⟩, (pm_it5 140 (by decide +kernel) (by decide +kernel)), (pm_in 33 (by decide +kernel) (by decide +kernel))⟩
theorem flX0_36 (M : pm_M) (h : M.1.cls = RX0) : pm_fl M 36 0 4 := ⟨RX0, TX0, 9, rfl, by decide, Or.inl (by rw [h]; exact (pm_it1 209 (by decide +kernel) (by decide +kernel)))⟩
theorem lkX0_131 (M : pm_M) (h : M.1.cls = RX0) : pm_lk M 131 mX9_has := Or.inl (by rw [h]; exact (pm_it5 143 (by decide +kernel) (by decide +kernel)))
theorem okV_X9_has : pm_mokV mX9_has 1 := ⟨⟨⟨(pm_it2 189 (by decide +kernel) (by decide +kernel)), (pm_it1 3 (by decide +kernel) (by decide +kernel))⟩, ⟨cn_X9.1, cn_X9.2, pd__I_Z⟩, by decide⟩, (pm_it2 187 (by decide +kernel) (by decide +kernel)), (pm_it2 188 (by decide +kernel) (by decide +kernel))⟩
theorem lkX0_121 (M : pm_M) (h : M.1.cls = RX0) : pm_lk M 121 mX0_choose := Or.inl (by rw [h]; exact (pm_it5 133 (by decide +kernel) (by decide +kernel)))
theorem pd__IIII_V : (parseMethodDescriptor "(IIII)V").map (fun d => d.parameters.length) = some 4 := by decide +kernel
theorem okV_X0_choose : pm_mokV mX0_choose 4 := ⟨⟨⟨(pm_it5 136 (by decide +kernel) (by decide +kernel)), (pm_it1 8 (by decide +kernel) (by decide +kernel))⟩, ⟨cn_X0.1, cn_X0.2, pd__IIII_V⟩, by decide⟩, (pm_it5 135 (by decide +kernel) (by decide +kernel)), (pm_in 32 (by decide +kernel) (by decide +kernel))⟩
theorem flX0_9 (M : pm_M) (h : M.1.cls = RX0) : pm_fl M 9 0 0 := ⟨RX0, TX0, 9, rfl, by decide, Or.inl (by rw [h]; exact (pm_it1 205 (by decide +kernel) (by decide +kernel)))⟩
theorem flX0_63 (M : pm_M) (h : M.1.cls = RX0) : pm_fl M 63 7 2 := ⟨RX7, TX7, 15, rfl, by decide, Or.inr ⟨"SealCouncil", by rw [h]; exact (pm_in1 82 (by decide +kernel) (by decide +kernel))⟩⟩
theorem flX0_33 (M : pm_M) (h : M.1.cls = RX0) : pm_fl M 33 0 3 := ⟨RX0, TX0, 9, rfl, by decide, Or.inl (by rw [h]; exact (pm_it1 208 (by decide +kernel) (by decide +kernel)))⟩
theorem lkX0_110 (M : pm_M) (h : M.1.cls = RX0) : pm_lk M 110 mX0_weigh := Or.inl (by rw [h]; exact (pm_it5 131 (by decide +kernel) (by decide +kernel)))
theorem okV_X0_weigh : pm_mokV mX0_weigh 1 := ⟨⟨⟨(pm_it5 93 (by decide +kernel) (by decide +kernel)), (pm_it1 8 (by decide +kernel) (by decide +kernel))⟩, ⟨cn_X0.1, cn_X0.2, pd__I_V⟩, by decide⟩, (pm_it5 91 (by decide +kernel) (by decide +kernel)), (pm_it5 92 (by decide +kernel) (by decide +kernel))⟩
theorem ctX0_114 (M : pm_M) (h : M.1.cls = RX0) : Cond.constant M.1.cls 114 (1000000) ∈ pm_tbl := by rw [h]; exact (pm_it5 132 (by decide +kernel) (by decide +kernel))
theorem fwX0_115 (M : pm_M) (h : M.1.cls = RX0) : pm_flw M 115 0 7 .int := ⟨RX0, TX0, 9, rfl, by decide, by rw [h]; exact (pm_it1 214 (by decide +kernel) (by decide +kernel)), rfl, by decide +kernel⟩
theorem fwX0_118 (M : pm_M) (h : M.1.cls = RX0) : pm_flw M 118 0 8 .int := ⟨RX0, TX0, 9, rfl, by decide, by rw [h]; exact (pm_it1 216 (by decide +kernel) (by decide +kernel)), rfl, by decide +kernel⟩
theorem flX0_69 (M : pm_M) (h : M.1.cls = RX0) : pm_fl M 69 0 5 := ⟨RX0, TX0, 9, rfl, by decide, Or.inl (by rw [h]; exact (pm_it1 210 (by decide +kernel) (by decide +kernel)))⟩
theorem flX0_72 (M : pm_M) (h : M.1.cls = RX0) : pm_fl M 72 0 6 := ⟨RX0, TX0, 9, rfl, by decide, Or.inl (by rw [h]; exact (pm_it1 212 (by decide +kernel) (by decide +kernel)))⟩
theorem lkX0_134 (M : pm_M) (h : M.1.cls = RX0) : pm_lk M 134 mJ6_bitCount_0f7a4 := Or.inl (by rw [h]; exact (pm_it5 142 (by decide +kernel) (by decide +kernel)))
theorem cn_J6 : RJ6 ≠ "java/lang/invoke/MethodHandle" ∧ RJ6 ≠ "java/lang/invoke/VarHandle" := by decide +kernel
theorem okS_J6_bitCount_0f7a4 : pm_mokS mJ6_bitCount_0f7a4 1 := ⟨⟨⟨(pm_it4 100 (by decide +kernel) (by decide +kernel)), (pm_it1 21 (by decide +kernel) (by decide +kernel))⟩, ⟨cn_J6.1, cn_J6.2, pd__I_I⟩, by decide⟩, (pm_it4 99 (by decide +kernel) (by decide +kernel))⟩
theorem flX0_118 (M : pm_M) (h : M.1.cls = RX0) : pm_fl M 118 0 8 := ⟨RX0, TX0, 9, rfl, by decide, Or.inl (by rw [h]; exact (pm_it1 216 (by decide +kernel) (by decide +kernel)))⟩
theorem flX0_15 (M : pm_M) (h : M.1.cls = RX0) : pm_fl M 15 0 1 := ⟨RX0, TX0, 9, rfl, by decide, Or.inl (by rw [h]; exact (pm_it1 206 (by decide +kernel) (by decide +kernel)))⟩
theorem flX0_43 (M : pm_M) (h : M.1.cls = RX0) : pm_fl M 43 7 13 := ⟨RX7, TX7, 15, rfl, by decide, Or.inr ⟨"SealCouncil", by rw [h]; exact (pm_in1 116 (by decide +kernel) (by decide +kernel))⟩⟩
theorem lkX0_91 (M : pm_M) (h : M.1.cls = RX0) : pm_lk M 91 mX7_knownTo := Or.inl (by rw [h]; exact (pm_it5 99 (by decide +kernel) (by decide +kernel)))
theorem okV_X7_knownTo : pm_mokV mX7_knownTo 1 := ⟨⟨⟨(pm_it3 33 (by decide +kernel) (by decide +kernel)), (pm_it1 2 (by decide +kernel) (by decide +kernel))⟩, ⟨cn_X7.1, cn_X7.2, pd__I_I⟩, by decide⟩, (pm_it3 31 (by decide +kernel) (by decide +kernel)), (pm_it3 32 (by decide +kernel) (by decide +kernel))⟩
theorem lkX0_94 (M : pm_M) (h : M.1.cls = RX0) : pm_lk M 94 mX2_inForce := Or.inl (by rw [h]; exact (pm_it5 100 (by decide +kernel) (by decide +kernel)))
theorem pd__III_I : (parseMethodDescriptor "(III)I").map (fun d => d.parameters.length) = some 3 := by decide +kernel
theorem okV_X2_inForce : pm_mokV mX2_inForce 3 := ⟨⟨⟨(pm_it4 76 (by decide +kernel) (by decide +kernel)), (pm_it1 6 (by decide +kernel) (by decide +kernel))⟩, ⟨cn_X2.1, cn_X2.2, pd__III_I⟩, by decide⟩, (pm_it4 74 (by decide +kernel) (by decide +kernel)), (pm_it4 75 (by decide +kernel) (by decide +kernel))⟩
theorem fwX0_69 (M : pm_M) (h : M.1.cls = RX0) : pm_flw M 69 0 5 .int := ⟨RX0, TX0, 9, rfl, by decide, by rw [h]; exact (pm_it1 210 (by decide +kernel) (by decide +kernel)), rfl, by decide +kernel⟩
theorem fwX0_72 (M : pm_M) (h : M.1.cls = RX0) : pm_flw M 72 0 6 .int := ⟨RX0, TX0, 9, rfl, by decide, by rw [h]; exact (pm_it1 212 (by decide +kernel) (by decide +kernel)), rfl, by decide +kernel⟩
theorem lkX0_75 (M : pm_M) (h : M.1.cls = RX0) : pm_lk M 75 mX9_clear := Or.inl (by rw [h]; exact (pm_it5 94 (by decide +kernel) (by decide +kernel)))
theorem okV_X9_clear : pm_mokV mX9_clear 0 := ⟨⟨⟨(pm_it3 164 (by decide +kernel) (by decide +kernel)), (pm_it1 3 (by decide +kernel) (by decide +kernel))⟩, ⟨cn_X9.1, cn_X9.2, pd___V⟩, by decide⟩, (pm_it3 162 (by decide +kernel) (by decide +kernel)), (pm_it3 163 (by decide +kernel) (by decide +kernel))⟩
theorem lkX0_78 (M : pm_M) (h : M.1.cls = RX0) : pm_lk M 78 mX0_ruleInForce := Or.inl (by rw [h]; exact (pm_it5 95 (by decide +kernel) (by decide +kernel)))
theorem okV_X0_ruleInForce : pm_mokV mX0_ruleInForce 0 := ⟨⟨⟨(pm_it5 98 (by decide +kernel) (by decide +kernel)), (pm_it1 8 (by decide +kernel) (by decide +kernel))⟩, ⟨cn_X0.1, cn_X0.2, pd___I⟩, by decide⟩, (pm_it5 97 (by decide +kernel) (by decide +kernel)), (pm_in 28 (by decide +kernel) (by decide +kernel))⟩
theorem lkX0_81 (M : pm_M) (h : M.1.cls = RX0) : pm_lk M 81 mX0_weightOf := Or.inl (by rw [h]; exact (pm_it5 101 (by decide +kernel) (by decide +kernel)))
theorem okV_X0_weightOf : pm_mokV mX0_weightOf 2 := ⟨⟨⟨(pm_it5 104 (by decide +kernel) (by decide +kernel)), (pm_it1 8 (by decide +kernel) (by decide +kernel))⟩, ⟨cn_X0.1, cn_X0.2, pd__II_I⟩, by decide⟩, (pm_it5 103 (by decide +kernel) (by decide +kernel)), (pm_in 29 (by decide +kernel) (by decide +kernel))⟩
theorem lkX0_84 (M : pm_M) (h : M.1.cls = RX0) : pm_lk M 84 mX0_weighOne := Or.inl (by rw [h]; exact (pm_it5 107 (by decide +kernel) (by decide +kernel)))
theorem okV_X0_weighOne : pm_mokV mX0_weighOne 3 := ⟨⟨⟨(pm_it5 110 (by decide +kernel) (by decide +kernel)), (pm_it1 8 (by decide +kernel) (by decide +kernel))⟩, ⟨cn_X0.1, cn_X0.2, pd__III_V⟩, by decide⟩, (pm_it5 109 (by decide +kernel) (by decide +kernel)), (pm_in 30 (by decide +kernel) (by decide +kernel))⟩
theorem lkX0_87 (M : pm_M) (h : M.1.cls = RX0) : pm_lk M 87 mX0_isPromisedFor := Or.inl (by rw [h]; exact (pm_it5 111 (by decide +kernel) (by decide +kernel)))
theorem pd__II_Z : (parseMethodDescriptor "(II)Z").map (fun d => d.parameters.length) = some 2 := by decide +kernel
theorem okV_X0_isPromisedFor : pm_mokV mX0_isPromisedFor 2 := ⟨⟨⟨(pm_it5 114 (by decide +kernel) (by decide +kernel)), (pm_it1 8 (by decide +kernel) (by decide +kernel))⟩, ⟨cn_X0.1, cn_X0.2, pd__II_Z⟩, by decide⟩, (pm_it5 113 (by decide +kernel) (by decide +kernel)), (pm_in 31 (by decide +kernel) (by decide +kernel))⟩
theorem lkX0_100 (M : pm_M) (h : M.1.cls = RX0) : pm_lk M 100 mX2_comesTo := Or.inl (by rw [h]; exact (pm_it5 105 (by decide +kernel) (by decide +kernel)))
theorem pd__IIII_I : (parseMethodDescriptor "(IIII)I").map (fun d => d.parameters.length) = some 4 := by decide +kernel
theorem okV_X2_comesTo : pm_mokV mX2_comesTo 4 := ⟨⟨⟨(pm_it4 85 (by decide +kernel) (by decide +kernel)), (pm_it1 6 (by decide +kernel) (by decide +kernel))⟩, ⟨cn_X2.1, cn_X2.2, pd__IIII_I⟩, by decide⟩, (pm_it4 83 (by decide +kernel) (by decide +kernel)), (pm_it4 84 (by decide +kernel) (by decide +kernel))⟩
theorem flX0_104 (M : pm_M) (h : M.1.cls = RX0) : pm_fl M 104 7 3 := ⟨RX7, TX7, 15, rfl, by decide, Or.inr ⟨"SealCouncil", by rw [h]; exact (pm_in1 89 (by decide +kernel) (by decide +kernel))⟩⟩
theorem lkX0_107 (M : pm_M) (h : M.1.cls = RX0) : pm_lk M 107 mX7_isOfKind := Or.inl (by rw [h]; exact (pm_it5 106 (by decide +kernel) (by decide +kernel)))
theorem okV_X7_isOfKind : pm_mokV mX7_isOfKind 2 := ⟨⟨⟨(pm_it3 106 (by decide +kernel) (by decide +kernel)), (pm_it1 2 (by decide +kernel) (by decide +kernel))⟩, ⟨cn_X7.1, cn_X7.2, pd__II_Z⟩, by decide⟩, (pm_it3 104 (by decide +kernel) (by decide +kernel)), (pm_it3 105 (by decide +kernel) (by decide +kernel))⟩
theorem lkX10_41 (M : pm_M) (h : M.1.cls = RX10) : pm_lk M 41 mX10_note := Or.inl (by rw [h]; exact (pm_it6 49 (by decide +kernel) (by decide +kernel)))
theorem okV_X10_note : pm_mokV mX10_note 1 := ⟨⟨⟨(pm_it6 52 (by decide +kernel) (by decide +kernel)), (pm_it1 13 (by decide +kernel) (by decide +kernel))⟩, ⟨cn_X10.1, cn_X10.2, pd__I_V⟩, by decide⟩, (pm_it6 51 (by decide +kernel) (by decide +kernel)), (pm_in 45 (by decide +kernel) (by decide +kernel))⟩
theorem flX10_25 (M : pm_M) (h : M.1.cls = RX10) : pm_fl M 25 10 4 := ⟨RX10, TX10, 5, rfl, by decide, Or.inl (by rw [h]; exact (pm_it2 90 (by decide +kernel) (by decide +kernel)))⟩
theorem lkX10_28 (M : pm_M) (h : M.1.cls = RX10) : pm_lk M 28 mX10_actOf := Or.inl (by rw [h]; exact (pm_it6 45 (by decide +kernel) (by decide +kernel)))
theorem okV_X10_actOf : pm_mokV mX10_actOf 2 := ⟨⟨⟨(pm_it6 48 (by decide +kernel) (by decide +kernel)), (pm_it1 13 (by decide +kernel) (by decide +kernel))⟩, ⟨cn_X10.1, cn_X10.2, pd__II_I⟩, by decide⟩, (pm_it6 47 (by decide +kernel) (by decide +kernel)), (pm_in 44 (by decide +kernel) (by decide +kernel))⟩
theorem flX10_22 (M : pm_M) (h : M.1.cls = RX10) : pm_fl M 22 10 3 := ⟨RX10, TX10, 5, rfl, by decide, Or.inl (by rw [h]; exact (pm_it2 89 (by decide +kernel) (by decide +kernel)))⟩
theorem fwX10_15 (M : pm_M) (h : M.1.cls = RX10) : pm_flw M 15 10 1 .int := ⟨RX10, TX10, 5, rfl, by decide, by rw [h]; exact (pm_it2 86 (by decide +kernel) (by decide +kernel)), rfl, by decide +kernel⟩
theorem fwX10_19 (M : pm_M) (h : M.1.cls = RX10) : pm_flw M 19 10 2 .int := ⟨RX10, TX10, 5, rfl, by decide, by rw [h]; exact (pm_it2 88 (by decide +kernel) (by decide +kernel)), rfl, by decide +kernel⟩
theorem fwX10_22 (M : pm_M) (h : M.1.cls = RX10) : pm_flw M 22 10 3 .int := ⟨RX10, TX10, 5, rfl, by decide, by rw [h]; exact (pm_it2 89 (by decide +kernel) (by decide +kernel)), rfl, by decide +kernel⟩
theorem fwX10_25 (M : pm_M) (h : M.1.cls = RX10) : pm_flw M 25 10 4 .int := ⟨RX10, TX10, 5, rfl, by decide, by rw [h]; exact (pm_it2 90 (by decide +kernel) (by decide +kernel)), rfl, by decide +kernel⟩
theorem lkX10_32 (M : pm_M) (h : M.1.cls = RX10) : pm_lk M 32 mX10_bindOf := Or.inl (by rw [h]; exact (pm_it6 53 (by decide +kernel) (by decide +kernel)))
theorem okV_X10_bindOf : pm_mokV mX10_bindOf 2 := ⟨⟨⟨(pm_it6 56 (by decide +kernel) (by decide +kernel)), (pm_it1 13 (by decide +kernel) (by decide +kernel))⟩, ⟨cn_X10.1, cn_X10.2, pd__II_I⟩, by decide⟩, (pm_it6 55 (by decide +kernel) (by decide +kernel)), (pm_in 46 (by decide +kernel) (by decide +kernel))⟩
theorem flX10_19 (M : pm_M) (h : M.1.cls = RX10) : pm_fl M 19 10 2 := ⟨RX10, TX10, 5, rfl, by decide, Or.inl (by rw [h]; exact (pm_it2 88 (by decide +kernel) (by decide +kernel)))⟩
theorem flX10_15 (M : pm_M) (h : M.1.cls = RX10) : pm_fl M 15 10 1 := ⟨RX10, TX10, 5, rfl, by decide, Or.inl (by rw [h]; exact (pm_it2 86 (by decide +kernel) (by decide +kernel)))⟩
theorem flX10_11 (M : pm_M) (h : M.1.cls = RX10) : pm_fl M 11 10 0 := ⟨RX10, TX10, 5, rfl, by decide, Or.inl (by rw [h]; exact (pm_it2 85 (by decide +kernel) (by decide +kernel)))⟩
theorem lkX10_35 (M : pm_M) (h : M.1.cls = RX10) : pm_lk M 35 mX10_rankOf := Or.inl (by rw [h]; exact (pm_it6 57 (by decide +kernel) (by decide +kernel)))
theorem okV_X10_rankOf : pm_mokV mX10_rankOf 2 := ⟨⟨⟨(pm_it6 60 (by decide +kernel) (by decide +kernel)), (pm_it1 13 (by decide +kernel) (by decide +kernel))⟩, ⟨cn_X10.1, cn_X10.2, pd__II_I⟩, by decide⟩, (pm_it6 59 (by decide +kernel) (by decide +kernel)), (pm_in 47 (by decide +kernel) (by decide +kernel))⟩
theorem lkX10_38 (M : pm_M) (h : M.1.cls = RX10) : pm_lk M 38 mX10_tellOf := Or.inl (by rw [h]; exact (pm_it6 61 (by decide +kernel) (by decide +kernel)))
theorem okV_X10_tellOf : pm_mokV mX10_tellOf 2 := ⟨⟨⟨(pm_it6 64 (by decide +kernel) (by decide +kernel)), (pm_it1 13 (by decide +kernel) (by decide +kernel))⟩, ⟨cn_X10.1, cn_X10.2, pd__II_I⟩, by decide⟩, (pm_it6 63 (by decide +kernel) (by decide +kernel)), (pm_in 48 (by decide +kernel) (by decide +kernel))⟩
theorem flX11_128 (M : pm_M) (h : M.1.cls = RX11) : pm_fl M 128 7 2 := ⟨RX7, TX7, 15, rfl, by decide, Or.inr ⟨"SealCouncil", by rw [h]; exact (pm_in1 83 (by decide +kernel) (by decide +kernel))⟩⟩
theorem lkX11_101 (M : pm_M) (h : M.1.cls = RX11) : pm_lk M 101 mX9_has := Or.inl (by rw [h]; exact (pm_it2 186 (by decide +kernel) (by decide +kernel)))
theorem ctX11_109 (M : pm_M) (h : M.1.cls = RX11) : Cond.constant M.1.cls 109 (-1000001) ∈ pm_tbl := by rw [h]; exact (pm_it2 193 (by decide +kernel) (by decide +kernel))
theorem lkX11_97 (M : pm_M) (h : M.1.cls = RX11) : pm_lk M 97 mX11_told := Or.inl (by rw [h]; exact (pm_it2 176 (by decide +kernel) (by decide +kernel)))
theorem cn_X11 : RX11 ≠ "java/lang/invoke/MethodHandle" ∧ RX11 ≠ "java/lang/invoke/VarHandle" := by decide +kernel
theorem okV_X11_told : pm_mokV mX11_told 1 := ⟨⟨⟨(pm_it2 179 (by decide +kernel) (by decide +kernel)), (pm_it1 1 (by decide +kernel) (by decide +kernel))⟩, ⟨cn_X11.1, cn_X11.2, pd__I_I⟩, by decide⟩, (pm_it2 178 (by decide +kernel) (by decide +kernel)), (pm_in 0 (by decide +kernel) (by decide +kernel))⟩
theorem lkX11_152 (M : pm_M) (h : M.1.cls = RX11) : pm_lk M 152 mX9_get := Or.inl (by rw [h]; exact (pm_it3 61 (by decide +kernel) (by decide +kernel)))
theorem flX11_122 (M : pm_M) (h : M.1.cls = RX11) : pm_fl M 122 7 13 := ⟨RX7, TX7, 15, rfl, by decide, Or.inr ⟨"SealCouncil", by rw [h]; exact (pm_in1 120 (by decide +kernel) (by decide +kernel))⟩⟩
theorem lkX11_155 (M : pm_M) (h : M.1.cls = RX11) : pm_lk M 155 mX11_yearsBetween := Or.inl (by rw [h]; exact (pm_it3 62 (by decide +kernel) (by decide +kernel)))
theorem okS_X11_yearsBetween : pm_mokS mX11_yearsBetween 2 := ⟨⟨⟨(pm_it3 64 (by decide +kernel) (by decide +kernel)), (pm_it1 1 (by decide +kernel) (by decide +kernel))⟩, ⟨cn_X11.1, cn_X11.2, pd__II_I⟩, by decide⟩, (pm_it3 63 (by decide +kernel) (by decide +kernel))⟩
theorem lkX11_158 (M : pm_M) (h : M.1.cls = RX11) : pm_lk M 158 mX7_knownTo := Or.inl (by rw [h]; exact (pm_it3 65 (by decide +kernel) (by decide +kernel)))
theorem flX11_161 (M : pm_M) (h : M.1.cls = RX11) : pm_fl M 161 7 3 := ⟨RX7, TX7, 15, rfl, by decide, Or.inr ⟨"SealCouncil", by rw [h]; exact (pm_in1 88 (by decide +kernel) (by decide +kernel))⟩⟩
theorem lkX11_164 (M : pm_M) (h : M.1.cls = RX11) : pm_lk M 164 mX9_rowsWith := Or.inl (by rw [h]; exact (pm_it3 66 (by decide +kernel) (by decide +kernel)))
theorem okV_X9_rowsWith : pm_mokV mX9_rowsWith 2 := ⟨⟨⟨(pm_it3 69 (by decide +kernel) (by decide +kernel)), (pm_it1 3 (by decide +kernel) (by decide +kernel))⟩, ⟨cn_X9.1, cn_X9.2, pd__II_I⟩, by decide⟩, (pm_it3 67 (by decide +kernel) (by decide +kernel)), (pm_it3 68 (by decide +kernel) (by decide +kernel))⟩
theorem flX11_46 (M : pm_M) (h : M.1.cls = RX11) : pm_fl M 46 11 4 := ⟨RX11, TX11, 12, rfl, by decide, Or.inl (by rw [h]; exact (pm_it2 124 (by decide +kernel) (by decide +kernel)))⟩
theorem lkX11_332 (M : pm_M) (h : M.1.cls = RX11) : pm_lk M 332 mX4_fateOf := Or.inl (by rw [h]; exact (pm_it5 233 (by decide +kernel) (by decide +kernel)))
theorem okV_X4_fateOf : pm_mokV mX4_fateOf 1 := ⟨⟨⟨(pm_it5 236 (by decide +kernel) (by decide +kernel)), (pm_it1 10 (by decide +kernel) (by decide +kernel))⟩, ⟨cn_X4.1, cn_X4.2, pd__I_I⟩, by decide⟩, (pm_it5 234 (by decide +kernel) (by decide +kernel)), (pm_it5 235 (by decide +kernel) (by decide +kernel))⟩
theorem lkX11_329 (M : pm_M) (h : M.1.cls = RX11) : pm_lk M 329 mX4_dayOfAge := Or.inl (by rw [h]; exact (pm_it5 214 (by decide +kernel) (by decide +kernel)))
theorem okV_X4_dayOfAge : pm_mokV mX4_dayOfAge 0 := ⟨⟨⟨(pm_it5 217 (by decide +kernel) (by decide +kernel)), (pm_it1 10 (by decide +kernel) (by decide +kernel))⟩, ⟨cn_X4.1, cn_X4.2, pd___I⟩, by decide⟩, (pm_it5 215 (by decide +kernel) (by decide +kernel)), (pm_it5 216 (by decide +kernel) (by decide +kernel))⟩
theorem lkX11_105 (M : pm_M) (h : M.1.cls = RX11) : pm_lk M 105 mX11_isOutside := Or.inl (by rw [h]; exact (pm_it2 190 (by decide +kernel) (by decide +kernel)))
theorem pd__III_Z : (parseMethodDescriptor "(III)Z").map (fun d => d.parameters.length) = some 3 := by decide +kernel
theorem okS_X11_isOutside : pm_mokS mX11_isOutside 3 := ⟨⟨⟨(pm_it2 192 (by decide +kernel) (by decide +kernel)), (pm_it1 1 (by decide +kernel) (by decide +kernel))⟩, ⟨cn_X11.1, cn_X11.2, pd__III_Z⟩, by decide⟩, (pm_it2 191 (by decide +kernel) (by decide +kernel))⟩
theorem lkX11_180 (M : pm_M) (h : M.1.cls = RX11) : pm_lk M 180 mX7_isOfKind := Or.inl (by rw [h]; exact (pm_it3 103 (by decide +kernel) (by decide +kernel)))
theorem ctX11_184 (M : pm_M) (h : M.1.cls = RX11) : Cond.constant M.1.cls 184 (-1000005) ∈ pm_tbl := by rw [h]; exact (pm_it3 109 (by decide +kernel) (by decide +kernel))
theorem flX11_277 (M : pm_M) (h : M.1.cls = RX11) : pm_fl M 277 7 8 := ⟨RX7, TX7, 15, rfl, by decide, Or.inr ⟨"SealCouncil", by rw [h]; exact (pm_in1 105 (by decide +kernel) (by decide +kernel))⟩⟩
theorem lkX11_284 (M : pm_M) (h : M.1.cls = RX11) : pm_lk M 284 mX0_stands := Or.inl (by rw [h]; exact (pm_it5 81 (by decide +kernel) (by decide +kernel)))
theorem ctX11_138 (M : pm_M) (h : M.1.cls = RX11) : Cond.constant M.1.cls 138 (-1000003) ∈ pm_tbl := by rw [h]; exact (pm_it3 5 (by decide +kernel) (by decide +kernel))
theorem lkX11_170 (M : pm_M) (h : M.1.cls = RX11) : pm_lk M 170 mX9_set := Or.inl (by rw [h]; exact (pm_it3 86 (by decide +kernel) (by decide +kernel)))
theorem lkX11_302 (M : pm_M) (h : M.1.cls = RX11) : pm_lk M 302 mX0_findCheapest := Or.inl (by rw [h]; exact (pm_it5 127 (by decide +kernel) (by decide +kernel)))
theorem okV_X0_findCheapest : pm_mokV mX0_findCheapest 1 := ⟨⟨⟨(pm_it5 130 (by decide +kernel) (by decide +kernel)), (pm_it1 8 (by decide +kernel) (by decide +kernel))⟩, ⟨cn_X0.1, cn_X0.2, pd__I_Z⟩, by decide⟩, (pm_it5 128 (by decide +kernel) (by decide +kernel)), (pm_it5 129 (by decide +kernel) (by decide +kernel))⟩
theorem ctX11_223 (M : pm_M) (h : M.1.cls = RX11) : Cond.constant M.1.cls 223 (-1000002) ∈ pm_tbl := by rw [h]; exact (pm_it4 77 (by decide +kernel) (by decide +kernel))
theorem flX11_305 (M : pm_M) (h : M.1.cls = RX11) : pm_fl M 305 0 7 := ⟨RX0, TX0, 9, rfl, by decide, Or.inr ⟨"SealCouncil", by rw [h]; exact (pm_in1 215 (by decide +kernel) (by decide +kernel))⟩⟩
theorem flX11_308 (M : pm_M) (h : M.1.cls = RX11) : pm_fl M 308 0 8 := ⟨RX0, TX0, 9, rfl, by decide, Or.inr ⟨"SealCouncil", by rw [h]; exact (pm_in1 217 (by decide +kernel) (by decide +kernel))⟩⟩
theorem lkX11_287 (M : pm_M) (h : M.1.cls = RX11) : pm_lk M 287 mX0_firstBroken := Or.inl (by rw [h]; exact (pm_it5 86 (by decide +kernel) (by decide +kernel)))
theorem okV_X0_firstBroken : pm_mokV mX0_firstBroken 1 := ⟨⟨⟨(pm_it5 89 (by decide +kernel) (by decide +kernel)), (pm_it1 8 (by decide +kernel) (by decide +kernel))⟩, ⟨cn_X0.1, cn_X0.2, pd__I_I⟩, by decide⟩, (pm_it5 87 (by decide +kernel) (by decide +kernel)), (pm_it5 88 (by decide +kernel) (by decide +kernel))⟩
theorem lkX11_290 (M : pm_M) (h : M.1.cls = RX11) : pm_lk M 290 mX0_weigh := Or.inl (by rw [h]; exact (pm_it5 90 (by decide +kernel) (by decide +kernel)))
theorem flX11_293 (M : pm_M) (h : M.1.cls = RX11) : pm_fl M 293 0 5 := ⟨RX0, TX0, 9, rfl, by decide, Or.inr ⟨"SealCouncil", by rw [h]; exact (pm_in1 211 (by decide +kernel) (by decide +kernel))⟩⟩
theorem flX11_296 (M : pm_M) (h : M.1.cls = RX11) : pm_fl M 296 0 6 := ⟨RX0, TX0, 9, rfl, by decide, Or.inr ⟨"SealCouncil", by rw [h]; exact (pm_in1 213 (by decide +kernel) (by decide +kernel))⟩⟩
theorem lkX11_299 (M : pm_M) (h : M.1.cls = RX11) : pm_lk M 299 mX0_isCarriedWith := Or.inl (by rw [h]; exact (pm_it5 115 (by decide +kernel) (by decide +kernel)))
theorem flX11_386 (M : pm_M) (h : M.1.cls = RX11) : pm_fl M 386 7 10 := ⟨RX7, TX7, 15, rfl, by decide, Or.inr ⟨"SealCouncil", by rw [h]; exact (pm_in1 110 (by decide +kernel) (by decide +kernel))⟩⟩
theorem lkX11_203 (M : pm_M) (h : M.1.cls = RX11) : pm_lk M 203 mX9_used := Or.inl (by rw [h]; exact (pm_it3 147 (by decide +kernel) (by decide +kernel)))
theorem lkX11_389 (M : pm_M) (h : M.1.cls = RX11) : pm_lk M 389 mX7_isCoinOf := Or.inl (by rw [h]; exact (pm_it6 133 (by decide +kernel) (by decide +kernel)))
theorem okV_X7_isCoinOf : pm_mokV mX7_isCoinOf 2 := ⟨⟨⟨(pm_it6 136 (by decide +kernel) (by decide +kernel)), (pm_it1 2 (by decide +kernel) (by decide +kernel))⟩, ⟨cn_X7.1, cn_X7.2, pd__II_Z⟩, by decide⟩, (pm_it6 134 (by decide +kernel) (by decide +kernel)), (pm_it6 135 (by decide +kernel) (by decide +kernel))⟩
theorem lkX11_392 (M : pm_M) (h : M.1.cls = RX11) : pm_lk M 392 mX9_clear := Or.inl (by rw [h]; exact (pm_it6 137 (by decide +kernel) (by decide +kernel)))
theorem lkX11_185 (M : pm_M) (h : M.1.cls = RX11) : pm_lk M 185 mX7_whoHas := Or.inl (by rw [h]; exact (pm_it3 114 (by decide +kernel) (by decide +kernel)))
theorem okV_X7_whoHas : pm_mokV mX7_whoHas 1 := ⟨⟨⟨(pm_it3 117 (by decide +kernel) (by decide +kernel)), (pm_it1 2 (by decide +kernel) (by decide +kernel))⟩, ⟨cn_X7.1, cn_X7.2, pd__I_I⟩, by decide⟩, (pm_it3 115 (by decide +kernel) (by decide +kernel)), (pm_it3 116 (by decide +kernel) (by decide +kernel))⟩
theorem lkX11_86 (M : pm_M) (h : M.1.cls = RX11) : pm_lk M 86 mX9_isFull := Or.inl (by rw [h]; exact (pm_it2 161 (by decide +kernel) (by decide +kernel)))
theorem ctX11_92 (M : pm_M) (h : M.1.cls = RX11) : Cond.constant M.1.cls 92 (-1000004) ∈ pm_tbl := by rw [h]; exact (pm_it2 165 (by decide +kernel) (by decide +kernel))
theorem lkX11_197 (M : pm_M) (h : M.1.cls = RX11) : pm_lk M 197 mX7_addCopy := Or.inl (by rw [h]; exact (pm_it3 137 (by decide +kernel) (by decide +kernel)))
theorem okV_X7_addCopy : pm_mokV mX7_addCopy 1 := ⟨⟨⟨(pm_it3 140 (by decide +kernel) (by decide +kernel)), (pm_it1 2 (by decide +kernel) (by decide +kernel))⟩, ⟨cn_X7.1, cn_X7.2, pd__I_I⟩, by decide⟩, (pm_it3 138 (by decide +kernel) (by decide +kernel)), (pm_it3 139 (by decide +kernel) (by decide +kernel))⟩
theorem flX11_82 (M : pm_M) (h : M.1.cls = RX11) : pm_fl M 82 7 0 := ⟨RX7, TX7, 15, rfl, by decide, Or.inr ⟨"SealCouncil", by rw [h]; exact (pm_in1 75 (by decide +kernel) (by decide +kernel))⟩⟩
theorem flX11_110 (M : pm_M) (h : M.1.cls = RX11) : pm_fl M 110 7 12 := ⟨RX7, TX7, 15, rfl, by decide, Or.inr ⟨"SealCouncil", by rw [h]; exact (pm_in1 115 (by decide +kernel) (by decide +kernel))⟩⟩
theorem flX11_209 (M : pm_M) (h : M.1.cls = RX11) : pm_fl M 209 7 4 := ⟨RX7, TX7, 15, rfl, by decide, Or.inr ⟨"SealCouncil", by rw [h]; exact (pm_in1 94 (by decide +kernel) (by decide +kernel))⟩⟩
theorem flX11_224 (M : pm_M) (h : M.1.cls = RX11) : pm_fl M 224 7 6 := ⟨RX7, TX7, 15, rfl, by decide, Or.inr ⟨"SealCouncil", by rw [h]; exact (pm_in1 100 (by decide +kernel) (by decide +kernel))⟩⟩
theorem flX11_271 (M : pm_M) (h : M.1.cls = RX11) : pm_fl M 271 7 7 := ⟨RX7, TX7, 15, rfl, by decide, Or.inr ⟨"SealCouncil", by rw [h]; exact (pm_in1 102 (by decide +kernel) (by decide +kernel))⟩⟩
theorem flX11_395 (M : pm_M) (h : M.1.cls = RX11) : pm_fl M 395 7 14 := ⟨RX7, TX7, 15, rfl, by decide, Or.inr ⟨"SealCouncil", by rw [h]; exact (pm_in1 124 (by decide +kernel) (by decide +kernel))⟩⟩
theorem flX11_200 (M : pm_M) (h : M.1.cls = RX11) : pm_fl M 200 7 11 := ⟨RX7, TX7, 15, rfl, by decide, Or.inr ⟨"SealCouncil", by rw [h]; exact (pm_in1 113 (by decide +kernel) (by decide +kernel))⟩⟩
theorem flX11_67 (M : pm_M) (h : M.1.cls = RX11) : pm_fl M 67 11 7 := ⟨RX11, TX11, 12, rfl, by decide, Or.inl (by rw [h]; exact (pm_it2 127 (by decide +kernel) (by decide +kernel)))⟩
theorem flX11_358 (M : pm_M) (h : M.1.cls = RX11) : pm_fl M 358 10 1 := ⟨RX10, TX10, 5, rfl, by decide, Or.inr ⟨"SealCouncil", by rw [h]; exact (pm_in2 87 (by decide +kernel) (by decide +kernel))⟩⟩
theorem lkX11_398 (M : pm_M) (h : M.1.cls = RX11) : pm_lk M 398 mX9_sumOf := Or.inl (by rw [h]; exact (pm_it6 142 (by decide +kernel) (by decide +kernel)))
theorem okV_X9_sumOf : pm_mokV mX9_sumOf 1 := ⟨⟨⟨(pm_it6 145 (by decide +kernel) (by decide +kernel)), (pm_it1 3 (by decide +kernel) (by decide +kernel))⟩, ⟨cn_X9.1, cn_X9.2, pd__I_I⟩, by decide⟩, (pm_it6 143 (by decide +kernel) (by decide +kernel)), (pm_it6 144 (by decide +kernel) (by decide +kernel))⟩
theorem flX11_39 (M : pm_M) (h : M.1.cls = RX11) : pm_fl M 39 11 3 := ⟨RX11, TX11, 12, rfl, by decide, Or.inl (by rw [h]; exact (pm_it2 123 (by decide +kernel) (by decide +kernel)))⟩
theorem lkX11_401 (M : pm_M) (h : M.1.cls = RX11) : pm_lk M 401 mX3_onTheirWay := Or.inl (by rw [h]; exact (pm_it6 146 (by decide +kernel) (by decide +kernel)))
theorem okV_X3_onTheirWay : pm_mokV mX3_onTheirWay 0 := ⟨⟨⟨(pm_it6 149 (by decide +kernel) (by decide +kernel)), (pm_it1 9 (by decide +kernel) (by decide +kernel))⟩, ⟨cn_X3.1, cn_X3.2, pd___I⟩, by decide⟩, (pm_it6 147 (by decide +kernel) (by decide +kernel)), (pm_it6 148 (by decide +kernel) (by decide +kernel))⟩
theorem lkX11_245 (M : pm_M) (h : M.1.cls = RX11) : pm_lk M 245 mX7_endDay := Or.inl (by rw [h]; exact (pm_it4 212 (by decide +kernel) (by decide +kernel)))
theorem okV_X7_endDay : pm_mokV mX7_endDay 0 := ⟨⟨⟨(pm_it4 215 (by decide +kernel) (by decide +kernel)), (pm_it1 2 (by decide +kernel) (by decide +kernel))⟩, ⟨cn_X7.1, cn_X7.2, pd___V⟩, by decide⟩, (pm_it4 213 (by decide +kernel) (by decide +kernel)), (pm_it4 214 (by decide +kernel) (by decide +kernel))⟩
theorem ctX11_270 (M : pm_M) (h : M.1.cls = RX11) : Cond.constant M.1.cls 270 (99999) ∈ pm_tbl := by rw [h]; exact (pm_it5 55 (by decide +kernel) (by decide +kernel))
theorem lkX11_274 (M : pm_M) (h : M.1.cls = RX11) : pm_lk M 274 mX7_addDebt := Or.inl (by rw [h]; exact (pm_it5 56 (by decide +kernel) (by decide +kernel)))
theorem okV_X7_addDebt : pm_mokV mX7_addDebt 4 := ⟨⟨⟨(pm_it5 59 (by decide +kernel) (by decide +kernel)), (pm_it1 2 (by decide +kernel) (by decide +kernel))⟩, ⟨cn_X7.1, cn_X7.2, pd__IIII_I⟩, by decide⟩, (pm_it5 57 (by decide +kernel) (by decide +kernel)), (pm_it5 58 (by decide +kernel) (by decide +kernel))⟩
theorem lkX11_135 (M : pm_M) (h : M.1.cls = RX11) : pm_lk M 135 mX7_isLiving := Or.inl (by rw [h]; exact (pm_it3 1 (by decide +kernel) (by decide +kernel)))
theorem okV_X7_isLiving : pm_mokV mX7_isLiving 1 := ⟨⟨⟨(pm_it3 4 (by decide +kernel) (by decide +kernel)), (pm_it1 2 (by decide +kernel) (by decide +kernel))⟩, ⟨cn_X7.1, cn_X7.2, pd__I_Z⟩, by decide⟩, (pm_it3 2 (by decide +kernel) (by decide +kernel)), (pm_it3 3 (by decide +kernel) (by decide +kernel))⟩
theorem lkX11_139 (M : pm_M) (h : M.1.cls = RX11) : pm_lk M 139 mX0_unseat := Or.inl (by rw [h]; exact (pm_it3 6 (by decide +kernel) (by decide +kernel)))
theorem okV_X0_unseat : pm_mokV mX0_unseat 1 := ⟨⟨⟨(pm_it3 9 (by decide +kernel) (by decide +kernel)), (pm_it1 8 (by decide +kernel) (by decide +kernel))⟩, ⟨cn_X0.1, cn_X0.2, pd__I_V⟩, by decide⟩, (pm_it3 7 (by decide +kernel) (by decide +kernel)), (pm_it3 8 (by decide +kernel) (by decide +kernel))⟩
theorem lkX11_143 (M : pm_M) (h : M.1.cls = RX11) : pm_lk M 143 mX7_bury := Or.inl (by rw [h]; exact (pm_it3 21 (by decide +kernel) (by decide +kernel)))
theorem okV_X7_bury : pm_mokV mX7_bury 1 := ⟨⟨⟨(pm_it3 24 (by decide +kernel) (by decide +kernel)), (pm_it1 2 (by decide +kernel) (by decide +kernel))⟩, ⟨cn_X7.1, cn_X7.2, pd__I_I⟩, by decide⟩, (pm_it3 22 (by decide +kernel) (by decide +kernel)), (pm_it3 23 (by decide +kernel) (by decide +kernel))⟩
theorem lkX11_146 (M : pm_M) (h : M.1.cls = RX11) : pm_lk M 146 mX7_isInTown := Or.inl (by rw [h]; exact (pm_it3 47 (by decide +kernel) (by decide +kernel)))
theorem okV_X7_isInTown : pm_mokV mX7_isInTown 1 := ⟨⟨⟨(pm_it3 50 (by decide +kernel) (by decide +kernel)), (pm_it1 2 (by decide +kernel) (by decide +kernel))⟩, ⟨cn_X7.1, cn_X7.2, pd__I_Z⟩, by decide⟩, (pm_it3 48 (by decide +kernel) (by decide +kernel)), (pm_it3 49 (by decide +kernel) (by decide +kernel))⟩
theorem lkX11_230 (M : pm_M) (h : M.1.cls = RX11) : pm_lk M 230 mX3_write := Or.inl (by rw [h]; exact (pm_it4 115 (by decide +kernel) (by decide +kernel)))
theorem okV_X3_write : pm_mokV mX3_write 3 := ⟨⟨⟨(pm_it4 118 (by decide +kernel) (by decide +kernel)), (pm_it1 9 (by decide +kernel) (by decide +kernel))⟩, ⟨cn_X3.1, cn_X3.2, pd__III_I⟩, by decide⟩, (pm_it4 116 (by decide +kernel) (by decide +kernel)), (pm_it4 117 (by decide +kernel) (by decide +kernel))⟩
