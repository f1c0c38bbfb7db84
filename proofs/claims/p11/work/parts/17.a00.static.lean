def dt_J6_bitCount_0f7a4_0 : List Nat := [26, 26, 4, 124, 19, 1, 9, 126, 100, 59, 26, 19, 1, 10, 126, 26, 5, 124, 19, 1, 10, 126, 96, 59, 26, 26, 7, 124, 96, 19, 1, 11, 126, 59, 26, 26, 16, 8, 124, 96, 59, 26, 26, 16, 16, 124, 96, 59]
theorem dk_J6_bitCount_0f7a4_0 : (((mJ6_bitCount_0f7a4.2.1).data.toList.drop 0).take 48).map UInt8.toNat = dt_J6_bitCount_0f7a4_0 := by decide +kernel
theorem dJ6_bitCount_0f7a4_0 : pm_dec mJ6_bitCount_0f7a4 0 (.iload_n 0, 1) 1 := ⟨dq_26 (d_b dk_J6_bitCount_0f7a4_0 0 rfl), rfl⟩
theorem dJ6_bitCount_0f7a4_1 : pm_dec mJ6_bitCount_0f7a4 1 (.iload_n 0, 1) 2 := ⟨dq_26 (d_b dk_J6_bitCount_0f7a4_0 1 rfl), rfl⟩
theorem dJ6_bitCount_0f7a4_2 : pm_dec mJ6_bitCount_0f7a4 2 (.iconst 1, 1) 3 := ⟨dq_4 (d_b dk_J6_bitCount_0f7a4_0 2 rfl), rfl⟩
theorem dJ6_bitCount_0f7a4_3 : pm_dec mJ6_bitCount_0f7a4 3 (.iushr, 1) 4 := ⟨dq_124 (d_b dk_J6_bitCount_0f7a4_0 3 rfl), rfl⟩
theorem dJ6_bitCount_0f7a4_4 : pm_dec mJ6_bitCount_0f7a4 4 (.ldc_w 265, 3) 7 := ⟨dq_19 (d_b dk_J6_bitCount_0f7a4_0 4 rfl) (d_b dk_J6_bitCount_0f7a4_0 5 rfl) (d_b dk_J6_bitCount_0f7a4_0 6 rfl) rfl, rfl⟩
theorem dJ6_bitCount_0f7a4_7 : pm_dec mJ6_bitCount_0f7a4 7 (.iand, 1) 8 := ⟨dq_126 (d_b dk_J6_bitCount_0f7a4_0 7 rfl), rfl⟩
theorem dJ6_bitCount_0f7a4_8 : pm_dec mJ6_bitCount_0f7a4 8 (.isub, 1) 9 := ⟨dq_100 (d_b dk_J6_bitCount_0f7a4_0 8 rfl), rfl⟩
theorem dJ6_bitCount_0f7a4_9 : pm_dec mJ6_bitCount_0f7a4 9 (.istore_n 0, 1) 10 := ⟨dq_59 (d_b dk_J6_bitCount_0f7a4_0 9 rfl), rfl⟩
theorem dJ6_bitCount_0f7a4_10 : pm_dec mJ6_bitCount_0f7a4 10 (.iload_n 0, 1) 11 := ⟨dq_26 (d_b dk_J6_bitCount_0f7a4_0 10 rfl), rfl⟩
theorem dJ6_bitCount_0f7a4_11 : pm_dec mJ6_bitCount_0f7a4 11 (.ldc_w 266, 3) 14 := ⟨dq_19 (d_b dk_J6_bitCount_0f7a4_0 11 rfl) (d_b dk_J6_bitCount_0f7a4_0 12 rfl) (d_b dk_J6_bitCount_0f7a4_0 13 rfl) rfl, rfl⟩
theorem dJ6_bitCount_0f7a4_14 : pm_dec mJ6_bitCount_0f7a4 14 (.iand, 1) 15 := ⟨dq_126 (d_b dk_J6_bitCount_0f7a4_0 14 rfl), rfl⟩
theorem dJ6_bitCount_0f7a4_15 : pm_dec mJ6_bitCount_0f7a4 15 (.iload_n 0, 1) 16 := ⟨dq_26 (d_b dk_J6_bitCount_0f7a4_0 15 rfl), rfl⟩
theorem dJ6_bitCount_0f7a4_16 : pm_dec mJ6_bitCount_0f7a4 16 (.iconst 2, 1) 17 := ⟨dq_5 (d_b dk_J6_bitCount_0f7a4_0 16 rfl), rfl⟩
theorem dJ6_bitCount_0f7a4_17 : pm_dec mJ6_bitCount_0f7a4 17 (.iushr, 1) 18 := ⟨dq_124 (d_b dk_J6_bitCount_0f7a4_0 17 rfl), rfl⟩
theorem dJ6_bitCount_0f7a4_18 : pm_dec mJ6_bitCount_0f7a4 18 (.ldc_w 266, 3) 21 := ⟨dq_19 (d_b dk_J6_bitCount_0f7a4_0 18 rfl) (d_b dk_J6_bitCount_0f7a4_0 19 rfl) (d_b dk_J6_bitCount_0f7a4_0 20 rfl) rfl, rfl⟩
theorem dJ6_bitCount_0f7a4_21 : pm_dec mJ6_bitCount_0f7a4 21 (.iand, 1) 22 := ⟨dq_126 (d_b dk_J6_bitCount_0f7a4_0 21 rfl), rfl⟩
theorem dJ6_bitCount_0f7a4_22 : pm_dec mJ6_bitCount_0f7a4 22 (.iadd, 1) 23 := ⟨dq_96 (d_b dk_J6_bitCount_0f7a4_0 22 rfl), rfl⟩
theorem dJ6_bitCount_0f7a4_23 : pm_dec mJ6_bitCount_0f7a4 23 (.istore_n 0, 1) 24 := ⟨dq_59 (d_b dk_J6_bitCount_0f7a4_0 23 rfl), rfl⟩
theorem dJ6_bitCount_0f7a4_24 : pm_dec mJ6_bitCount_0f7a4 24 (.iload_n 0, 1) 25 := ⟨dq_26 (d_b dk_J6_bitCount_0f7a4_0 24 rfl), rfl⟩
theorem dJ6_bitCount_0f7a4_25 : pm_dec mJ6_bitCount_0f7a4 25 (.iload_n 0, 1) 26 := ⟨dq_26 (d_b dk_J6_bitCount_0f7a4_0 25 rfl), rfl⟩
theorem dJ6_bitCount_0f7a4_26 : pm_dec mJ6_bitCount_0f7a4 26 (.iconst 4, 1) 27 := ⟨dq_7 (d_b dk_J6_bitCount_0f7a4_0 26 rfl), rfl⟩
theorem dJ6_bitCount_0f7a4_27 : pm_dec mJ6_bitCount_0f7a4 27 (.iushr, 1) 28 := ⟨dq_124 (d_b dk_J6_bitCount_0f7a4_0 27 rfl), rfl⟩
theorem dJ6_bitCount_0f7a4_28 : pm_dec mJ6_bitCount_0f7a4 28 (.iadd, 1) 29 := ⟨dq_96 (d_b dk_J6_bitCount_0f7a4_0 28 rfl), rfl⟩
theorem dJ6_bitCount_0f7a4_29 : pm_dec mJ6_bitCount_0f7a4 29 (.ldc_w 267, 3) 32 := ⟨dq_19 (d_b dk_J6_bitCount_0f7a4_0 29 rfl) (d_b dk_J6_bitCount_0f7a4_0 30 rfl) (d_b dk_J6_bitCount_0f7a4_0 31 rfl) rfl, rfl⟩
theorem dJ6_bitCount_0f7a4_32 : pm_dec mJ6_bitCount_0f7a4 32 (.iand, 1) 33 := ⟨dq_126 (d_b dk_J6_bitCount_0f7a4_0 32 rfl), rfl⟩
theorem dJ6_bitCount_0f7a4_33 : pm_dec mJ6_bitCount_0f7a4 33 (.istore_n 0, 1) 34 := ⟨dq_59 (d_b dk_J6_bitCount_0f7a4_0 33 rfl), rfl⟩
theorem dJ6_bitCount_0f7a4_34 : pm_dec mJ6_bitCount_0f7a4 34 (.iload_n 0, 1) 35 := ⟨dq_26 (d_b dk_J6_bitCount_0f7a4_0 34 rfl), rfl⟩
theorem dJ6_bitCount_0f7a4_35 : pm_dec mJ6_bitCount_0f7a4 35 (.iload_n 0, 1) 36 := ⟨dq_26 (d_b dk_J6_bitCount_0f7a4_0 35 rfl), rfl⟩
theorem dJ6_bitCount_0f7a4_36 : pm_dec mJ6_bitCount_0f7a4 36 (.bipush 8, 2) 38 := ⟨dq_16 (d_b dk_J6_bitCount_0f7a4_0 36 rfl) (d_b dk_J6_bitCount_0f7a4_0 37 rfl) (by decide), rfl⟩
theorem dJ6_bitCount_0f7a4_38 : pm_dec mJ6_bitCount_0f7a4 38 (.iushr, 1) 39 := ⟨dq_124 (d_b dk_J6_bitCount_0f7a4_0 38 rfl), rfl⟩
theorem dJ6_bitCount_0f7a4_39 : pm_dec mJ6_bitCount_0f7a4 39 (.iadd, 1) 40 := ⟨dq_96 (d_b dk_J6_bitCount_0f7a4_0 39 rfl), rfl⟩
theorem dJ6_bitCount_0f7a4_40 : pm_dec mJ6_bitCount_0f7a4 40 (.istore_n 0, 1) 41 := ⟨dq_59 (d_b dk_J6_bitCount_0f7a4_0 40 rfl), rfl⟩
theorem dJ6_bitCount_0f7a4_41 : pm_dec mJ6_bitCount_0f7a4 41 (.iload_n 0, 1) 42 := ⟨dq_26 (d_b dk_J6_bitCount_0f7a4_0 41 rfl), rfl⟩
theorem dJ6_bitCount_0f7a4_42 : pm_dec mJ6_bitCount_0f7a4 42 (.iload_n 0, 1) 43 := ⟨dq_26 (d_b dk_J6_bitCount_0f7a4_0 42 rfl), rfl⟩
theorem dJ6_bitCount_0f7a4_43 : pm_dec mJ6_bitCount_0f7a4 43 (.bipush 16, 2) 45 := ⟨dq_16 (d_b dk_J6_bitCount_0f7a4_0 43 rfl) (d_b dk_J6_bitCount_0f7a4_0 44 rfl) (by decide), rfl⟩
theorem dJ6_bitCount_0f7a4_45 : pm_dec mJ6_bitCount_0f7a4 45 (.iushr, 1) 46 := ⟨dq_124 (d_b dk_J6_bitCount_0f7a4_0 45 rfl), rfl⟩
theorem dJ6_bitCount_0f7a4_46 : pm_dec mJ6_bitCount_0f7a4 46 (.iadd, 1) 47 := ⟨dq_96 (d_b dk_J6_bitCount_0f7a4_0 46 rfl), rfl⟩
theorem dJ6_bitCount_0f7a4_47 : pm_dec mJ6_bitCount_0f7a4 47 (.istore_n 0, 1) 48 := ⟨dq_59 (d_b dk_J6_bitCount_0f7a4_0 47 rfl), rfl⟩
def dt_J6_bitCount_0f7a4_48 : List Nat := [26, 16, 63, 126, 172]
theorem dk_J6_bitCount_0f7a4_48 : (((mJ6_bitCount_0f7a4.2.1).data.toList.drop 48).take 5).map UInt8.toNat = dt_J6_bitCount_0f7a4_48 := by decide +kernel
theorem dJ6_bitCount_0f7a4_48 : pm_dec mJ6_bitCount_0f7a4 48 (.iload_n 0, 1) 49 := ⟨dq_26 (d_b dk_J6_bitCount_0f7a4_48 0 rfl), rfl⟩
theorem dJ6_bitCount_0f7a4_49 : pm_dec mJ6_bitCount_0f7a4 49 (.bipush 63, 2) 51 := ⟨dq_16 (d_b dk_J6_bitCount_0f7a4_48 1 rfl) (d_b dk_J6_bitCount_0f7a4_48 2 rfl) (by decide), rfl⟩
theorem dJ6_bitCount_0f7a4_51 : pm_dec mJ6_bitCount_0f7a4 51 (.iand, 1) 52 := ⟨dq_126 (d_b dk_J6_bitCount_0f7a4_48 3 rfl), rfl⟩
theorem dJ6_bitCount_0f7a4_52 : pm_dec mJ6_bitCount_0f7a4 52 (.ireturn, 1) 53 := ⟨dq_172 (d_b dk_J6_bitCount_0f7a4_48 4 rfl), rfl⟩
def dt_X0_addPromise_0 : List Nat := [42, 180, 0, 25, 182, 0, 47, 54, 5, 3, 54, 6, 21, 6, 21, 5, 162, 0, 57, 42, 21, 6, 182, 0, 51, 153, 0, 42, 42, 180, 0, 25, 21, 6, 3, 182, 0, 39, 27, 160, 0, 28, 42, 180, 0, 25, 21, 6]
theorem dk_X0_addPromise_0 : (((mX0_addPromise.2.1).data.toList.drop 0).take 48).map UInt8.toNat = dt_X0_addPromise_0 := by decide +kernel
theorem dX0_addPromise_0 : pm_dec mX0_addPromise 0 (.aload_n 0, 1) 1 := ⟨dq_42 (d_b dk_X0_addPromise_0 0 rfl), rfl⟩
theorem dX0_addPromise_1 : pm_dec mX0_addPromise 1 (.getfield 25, 3) 4 := ⟨dq_180 (d_b dk_X0_addPromise_0 1 rfl) (d_b dk_X0_addPromise_0 2 rfl) (d_b dk_X0_addPromise_0 3 rfl) rfl, rfl⟩
theorem dX0_addPromise_4 : pm_dec mX0_addPromise 4 (.invokevirtual 47, 3) 7 := ⟨dq_182 (d_b dk_X0_addPromise_0 4 rfl) (d_b dk_X0_addPromise_0 5 rfl) (d_b dk_X0_addPromise_0 6 rfl) rfl, rfl⟩
theorem dX0_addPromise_7 : pm_dec mX0_addPromise 7 (.istore 5, 2) 9 := ⟨dq_54 (d_b dk_X0_addPromise_0 7 rfl) (d_b dk_X0_addPromise_0 8 rfl), rfl⟩
theorem dX0_addPromise_9 : pm_dec mX0_addPromise 9 (.iconst 0, 1) 10 := ⟨dq_3 (d_b dk_X0_addPromise_0 9 rfl), rfl⟩
theorem dX0_addPromise_10 : pm_dec mX0_addPromise 10 (.istore 6, 2) 12 := ⟨dq_54 (d_b dk_X0_addPromise_0 10 rfl) (d_b dk_X0_addPromise_0 11 rfl), rfl⟩
theorem dX0_addPromise_12 : pm_dec mX0_addPromise 12 (.iload 6, 2) 14 := ⟨dq_21 (d_b dk_X0_addPromise_0 12 rfl) (d_b dk_X0_addPromise_0 13 rfl), rfl⟩
theorem dX0_addPromise_14 : pm_dec mX0_addPromise 14 (.iload 5, 2) 16 := ⟨dq_21 (d_b dk_X0_addPromise_0 14 rfl) (d_b dk_X0_addPromise_0 15 rfl), rfl⟩
theorem dX0_addPromise_16 : pm_dec mX0_addPromise 16 (.if_icmp .ge 57, 3) 19 := ⟨dq_162 (d_b dk_X0_addPromise_0 16 rfl) (d_b dk_X0_addPromise_0 17 rfl) (d_b dk_X0_addPromise_0 18 rfl) (by decide), rfl⟩
theorem dX0_addPromise_19 : pm_dec mX0_addPromise 19 (.aload_n 0, 1) 20 := ⟨dq_42 (d_b dk_X0_addPromise_0 19 rfl), rfl⟩
theorem dX0_addPromise_20 : pm_dec mX0_addPromise 20 (.iload 6, 2) 22 := ⟨dq_21 (d_b dk_X0_addPromise_0 20 rfl) (d_b dk_X0_addPromise_0 21 rfl), rfl⟩
theorem dX0_addPromise_22 : pm_dec mX0_addPromise 22 (.invokevirtual 51, 3) 25 := ⟨dq_182 (d_b dk_X0_addPromise_0 22 rfl) (d_b dk_X0_addPromise_0 23 rfl) (d_b dk_X0_addPromise_0 24 rfl) rfl, rfl⟩
theorem dX0_addPromise_25 : pm_dec mX0_addPromise 25 (.ifCond .eq 42, 3) 28 := ⟨dq_153 (d_b dk_X0_addPromise_0 25 rfl) (d_b dk_X0_addPromise_0 26 rfl) (d_b dk_X0_addPromise_0 27 rfl) (by decide), rfl⟩
theorem dX0_addPromise_28 : pm_dec mX0_addPromise 28 (.aload_n 0, 1) 29 := ⟨dq_42 (d_b dk_X0_addPromise_0 28 rfl), rfl⟩
theorem dX0_addPromise_29 : pm_dec mX0_addPromise 29 (.getfield 25, 3) 32 := ⟨dq_180 (d_b dk_X0_addPromise_0 29 rfl) (d_b dk_X0_addPromise_0 30 rfl) (d_b dk_X0_addPromise_0 31 rfl) rfl, rfl⟩
theorem dX0_addPromise_32 : pm_dec mX0_addPromise 32 (.iload 6, 2) 34 := ⟨dq_21 (d_b dk_X0_addPromise_0 32 rfl) (d_b dk_X0_addPromise_0 33 rfl), rfl⟩
theorem dX0_addPromise_34 : pm_dec mX0_addPromise 34 (.iconst 0, 1) 35 := ⟨dq_3 (d_b dk_X0_addPromise_0 34 rfl), rfl⟩
theorem dX0_addPromise_35 : pm_dec mX0_addPromise 35 (.invokevirtual 39, 3) 38 := ⟨dq_182 (d_b dk_X0_addPromise_0 35 rfl) (d_b dk_X0_addPromise_0 36 rfl) (d_b dk_X0_addPromise_0 37 rfl) rfl, rfl⟩
theorem dX0_addPromise_38 : pm_dec mX0_addPromise 38 (.iload_n 1, 1) 39 := ⟨dq_27 (d_b dk_X0_addPromise_0 38 rfl), rfl⟩
theorem dX0_addPromise_39 : pm_dec mX0_addPromise 39 (.if_icmp .ne 28, 3) 42 := ⟨dq_160 (d_b dk_X0_addPromise_0 39 rfl) (d_b dk_X0_addPromise_0 40 rfl) (d_b dk_X0_addPromise_0 41 rfl) (by decide), rfl⟩
theorem dX0_addPromise_42 : pm_dec mX0_addPromise 42 (.aload_n 0, 1) 43 := ⟨dq_42 (d_b dk_X0_addPromise_0 42 rfl), rfl⟩
theorem dX0_addPromise_43 : pm_dec mX0_addPromise 43 (.getfield 25, 3) 46 := ⟨dq_180 (d_b dk_X0_addPromise_0 43 rfl) (d_b dk_X0_addPromise_0 44 rfl) (d_b dk_X0_addPromise_0 45 rfl) rfl, rfl⟩
theorem dX0_addPromise_46 : pm_dec mX0_addPromise 46 (.iload 6, 2) 48 := ⟨dq_21 (d_b dk_X0_addPromise_0 46 rfl) (d_b dk_X0_addPromise_0 47 rfl), rfl⟩
def dt_X0_addPromise_48 : List Nat := [4, 182, 0, 39, 28, 160, 0, 14, 42, 180, 0, 25, 21, 6, 7, 4, 182, 0, 55, 132, 6, 1, 167, 255, 198, 42, 180, 0, 25, 27, 182, 0, 59, 54, 6, 42, 180, 0, 25, 21, 6, 4, 28, 182, 0, 55, 42, 180, 0, 25]
theorem dk_X0_addPromise_48 : (((mX0_addPromise.2.1).data.toList.drop 48).take 50).map UInt8.toNat = dt_X0_addPromise_48 := by decide +kernel
theorem dX0_addPromise_48 : pm_dec mX0_addPromise 48 (.iconst 1, 1) 49 := ⟨dq_4 (d_b dk_X0_addPromise_48 0 rfl), rfl⟩
theorem dX0_addPromise_49 : pm_dec mX0_addPromise 49 (.invokevirtual 39, 3) 52 := ⟨dq_182 (d_b dk_X0_addPromise_48 1 rfl) (d_b dk_X0_addPromise_48 2 rfl) (d_b dk_X0_addPromise_48 3 rfl) rfl, rfl⟩
theorem dX0_addPromise_52 : pm_dec mX0_addPromise 52 (.iload_n 2, 1) 53 := ⟨dq_28 (d_b dk_X0_addPromise_48 4 rfl), rfl⟩
theorem dX0_addPromise_53 : pm_dec mX0_addPromise 53 (.if_icmp .ne 14, 3) 56 := ⟨dq_160 (d_b dk_X0_addPromise_48 5 rfl) (d_b dk_X0_addPromise_48 6 rfl) (d_b dk_X0_addPromise_48 7 rfl) (by decide), rfl⟩
theorem dX0_addPromise_56 : pm_dec mX0_addPromise 56 (.aload_n 0, 1) 57 := ⟨dq_42 (d_b dk_X0_addPromise_48 8 rfl), rfl⟩
theorem dX0_addPromise_57 : pm_dec mX0_addPromise 57 (.getfield 25, 3) 60 := ⟨dq_180 (d_b dk_X0_addPromise_48 9 rfl) (d_b dk_X0_addPromise_48 10 rfl) (d_b dk_X0_addPromise_48 11 rfl) rfl, rfl⟩
theorem dX0_addPromise_60 : pm_dec mX0_addPromise 60 (.iload 6, 2) 62 := ⟨dq_21 (d_b dk_X0_addPromise_48 12 rfl) (d_b dk_X0_addPromise_48 13 rfl), rfl⟩
theorem dX0_addPromise_62 : pm_dec mX0_addPromise 62 (.iconst 4, 1) 63 := ⟨dq_7 (d_b dk_X0_addPromise_48 14 rfl), rfl⟩
theorem dX0_addPromise_63 : pm_dec mX0_addPromise 63 (.iconst 1, 1) 64 := ⟨dq_4 (d_b dk_X0_addPromise_48 15 rfl), rfl⟩
theorem dX0_addPromise_64 : pm_dec mX0_addPromise 64 (.invokevirtual 55, 3) 67 := ⟨dq_182 (d_b dk_X0_addPromise_48 16 rfl) (d_b dk_X0_addPromise_48 17 rfl) (d_b dk_X0_addPromise_48 18 rfl) rfl, rfl⟩
theorem dX0_addPromise_67 : pm_dec mX0_addPromise 67 (.iinc 6 1, 3) 70 := ⟨dq_132 (d_b dk_X0_addPromise_48 19 rfl) (d_b dk_X0_addPromise_48 20 rfl) (d_b dk_X0_addPromise_48 21 rfl) (by decide), rfl⟩
theorem dX0_addPromise_70 : pm_dec mX0_addPromise 70 (.goto (-58), 3) 73 := ⟨dq_167 (d_b dk_X0_addPromise_48 22 rfl) (d_b dk_X0_addPromise_48 23 rfl) (d_b dk_X0_addPromise_48 24 rfl) (by decide), rfl⟩
theorem dX0_addPromise_73 : pm_dec mX0_addPromise 73 (.aload_n 0, 1) 74 := ⟨dq_42 (d_b dk_X0_addPromise_48 25 rfl), rfl⟩
theorem dX0_addPromise_74 : pm_dec mX0_addPromise 74 (.getfield 25, 3) 77 := ⟨dq_180 (d_b dk_X0_addPromise_48 26 rfl) (d_b dk_X0_addPromise_48 27 rfl) (d_b dk_X0_addPromise_48 28 rfl) rfl, rfl⟩
theorem dX0_addPromise_77 : pm_dec mX0_addPromise 77 (.iload_n 1, 1) 78 := ⟨dq_27 (d_b dk_X0_addPromise_48 29 rfl), rfl⟩
theorem dX0_addPromise_78 : pm_dec mX0_addPromise 78 (.invokevirtual 59, 3) 81 := ⟨dq_182 (d_b dk_X0_addPromise_48 30 rfl) (d_b dk_X0_addPromise_48 31 rfl) (d_b dk_X0_addPromise_48 32 rfl) rfl, rfl⟩
theorem dX0_addPromise_81 : pm_dec mX0_addPromise 81 (.istore 6, 2) 83 := ⟨dq_54 (d_b dk_X0_addPromise_48 33 rfl) (d_b dk_X0_addPromise_48 34 rfl), rfl⟩
theorem dX0_addPromise_83 : pm_dec mX0_addPromise 83 (.aload_n 0, 1) 84 := ⟨dq_42 (d_b dk_X0_addPromise_48 35 rfl), rfl⟩
theorem dX0_addPromise_84 : pm_dec mX0_addPromise 84 (.getfield 25, 3) 87 := ⟨dq_180 (d_b dk_X0_addPromise_48 36 rfl) (d_b dk_X0_addPromise_48 37 rfl) (d_b dk_X0_addPromise_48 38 rfl) rfl, rfl⟩
theorem dX0_addPromise_87 : pm_dec mX0_addPromise 87 (.iload 6, 2) 89 := ⟨dq_21 (d_b dk_X0_addPromise_48 39 rfl) (d_b dk_X0_addPromise_48 40 rfl), rfl⟩
theorem dX0_addPromise_89 : pm_dec mX0_addPromise 89 (.iconst 1, 1) 90 := ⟨dq_4 (d_b dk_X0_addPromise_48 41 rfl), rfl⟩
theorem dX0_addPromise_90 : pm_dec mX0_addPromise 90 (.iload_n 2, 1) 91 := ⟨dq_28 (d_b dk_X0_addPromise_48 42 rfl), rfl⟩
theorem dX0_addPromise_91 : pm_dec mX0_addPromise 91 (.invokevirtual 55, 3) 94 := ⟨dq_182 (d_b dk_X0_addPromise_48 43 rfl) (d_b dk_X0_addPromise_48 44 rfl) (d_b dk_X0_addPromise_48 45 rfl) rfl, rfl⟩
theorem dX0_addPromise_94 : pm_dec mX0_addPromise 94 (.aload_n 0, 1) 95 := ⟨dq_42 (d_b dk_X0_addPromise_48 46 rfl), rfl⟩
theorem dX0_addPromise_95 : pm_dec mX0_addPromise 95 (.getfield 25, 3) 98 := ⟨dq_180 (d_b dk_X0_addPromise_48 47 rfl) (d_b dk_X0_addPromise_48 48 rfl) (d_b dk_X0_addPromise_48 49 rfl) rfl, rfl⟩
def dt_X0_addPromise_98 : List Nat := [21, 6, 5, 29, 182, 0, 55, 42, 180, 0, 25, 21, 6, 6, 21, 4, 153, 0, 7, 4, 167, 0, 4, 3, 182, 0, 55, 42, 180, 0, 25, 21, 6, 7, 3, 182, 0, 55, 21, 6, 172]
theorem dk_X0_addPromise_98 : (((mX0_addPromise.2.1).data.toList.drop 98).take 41).map UInt8.toNat = dt_X0_addPromise_98 := by decide +kernel
theorem dX0_addPromise_98 : pm_dec mX0_addPromise 98 (.iload 6, 2) 100 := ⟨dq_21 (d_b dk_X0_addPromise_98 0 rfl) (d_b dk_X0_addPromise_98 1 rfl), rfl⟩
theorem dX0_addPromise_100 : pm_dec mX0_addPromise 100 (.iconst 2, 1) 101 := ⟨dq_5 (d_b dk_X0_addPromise_98 2 rfl), rfl⟩
theorem dX0_addPromise_101 : pm_dec mX0_addPromise 101 (.iload_n 3, 1) 102 := ⟨dq_29 (d_b dk_X0_addPromise_98 3 rfl), rfl⟩
theorem dX0_addPromise_102 : pm_dec mX0_addPromise 102 (.invokevirtual 55, 3) 105 := ⟨dq_182 (d_b dk_X0_addPromise_98 4 rfl) (d_b dk_X0_addPromise_98 5 rfl) (d_b dk_X0_addPromise_98 6 rfl) rfl, rfl⟩
theorem dX0_addPromise_105 : pm_dec mX0_addPromise 105 (.aload_n 0, 1) 106 := ⟨dq_42 (d_b dk_X0_addPromise_98 7 rfl), rfl⟩
theorem dX0_addPromise_106 : pm_dec mX0_addPromise 106 (.getfield 25, 3) 109 := ⟨dq_180 (d_b dk_X0_addPromise_98 8 rfl) (d_b dk_X0_addPromise_98 9 rfl) (d_b dk_X0_addPromise_98 10 rfl) rfl, rfl⟩
theorem dX0_addPromise_109 : pm_dec mX0_addPromise 109 (.iload 6, 2) 111 := ⟨dq_21 (d_b dk_X0_addPromise_98 11 rfl) (d_b dk_X0_addPromise_98 12 rfl), rfl⟩
theorem dX0_addPromise_111 : pm_dec mX0_addPromise 111 (.iconst 3, 1) 112 := ⟨dq_6 (d_b dk_X0_addPromise_98 13 rfl), rfl⟩
theorem dX0_addPromise_112 : pm_dec mX0_addPromise 112 (.iload 4, 2) 114 := ⟨dq_21 (d_b dk_X0_addPromise_98 14 rfl) (d_b dk_X0_addPromise_98 15 rfl), rfl⟩
theorem dX0_addPromise_114 : pm_dec mX0_addPromise 114 (.ifCond .eq 7, 3) 117 := ⟨dq_153 (d_b dk_X0_addPromise_98 16 rfl) (d_b dk_X0_addPromise_98 17 rfl) (d_b dk_X0_addPromise_98 18 rfl) (by decide), rfl⟩
theorem dX0_addPromise_117 : pm_dec mX0_addPromise 117 (.iconst 1, 1) 118 := ⟨dq_4 (d_b dk_X0_addPromise_98 19 rfl), rfl⟩
theorem dX0_addPromise_118 : pm_dec mX0_addPromise 118 (.goto 4, 3) 121 := ⟨dq_167 (d_b dk_X0_addPromise_98 20 rfl) (d_b dk_X0_addPromise_98 21 rfl) (d_b dk_X0_addPromise_98 22 rfl) (by decide), rfl⟩
theorem dX0_addPromise_121 : pm_dec mX0_addPromise 121 (.iconst 0, 1) 122 := ⟨dq_3 (d_b dk_X0_addPromise_98 23 rfl), rfl⟩
theorem dX0_addPromise_122 : pm_dec mX0_addPromise 122 (.invokevirtual 55, 3) 125 := ⟨dq_182 (d_b dk_X0_addPromise_98 24 rfl) (d_b dk_X0_addPromise_98 25 rfl) (d_b dk_X0_addPromise_98 26 rfl) rfl, rfl⟩
theorem dX0_addPromise_125 : pm_dec mX0_addPromise 125 (.aload_n 0, 1) 126 := ⟨dq_42 (d_b dk_X0_addPromise_98 27 rfl), rfl⟩
theorem dX0_addPromise_126 : pm_dec mX0_addPromise 126 (.getfield 25, 3) 129 := ⟨dq_180 (d_b dk_X0_addPromise_98 28 rfl) (d_b dk_X0_addPromise_98 29 rfl) (d_b dk_X0_addPromise_98 30 rfl) rfl, rfl⟩
theorem dX0_addPromise_129 : pm_dec mX0_addPromise 129 (.iload 6, 2) 131 := ⟨dq_21 (d_b dk_X0_addPromise_98 31 rfl) (d_b dk_X0_addPromise_98 32 rfl), rfl⟩
theorem dX0_addPromise_131 : pm_dec mX0_addPromise 131 (.iconst 4, 1) 132 := ⟨dq_7 (d_b dk_X0_addPromise_98 33 rfl), rfl⟩
theorem dX0_addPromise_132 : pm_dec mX0_addPromise 132 (.iconst 0, 1) 133 := ⟨dq_3 (d_b dk_X0_addPromise_98 34 rfl), rfl⟩
theorem dX0_addPromise_133 : pm_dec mX0_addPromise 133 (.invokevirtual 55, 3) 136 := ⟨dq_182 (d_b dk_X0_addPromise_98 35 rfl) (d_b dk_X0_addPromise_98 36 rfl) (d_b dk_X0_addPromise_98 37 rfl) rfl, rfl⟩
theorem dX0_addPromise_136 : pm_dec mX0_addPromise 136 (.iload 6, 2) 138 := ⟨dq_21 (d_b dk_X0_addPromise_98 38 rfl) (d_b dk_X0_addPromise_98 39 rfl), rfl⟩
theorem dX0_addPromise_138 : pm_dec mX0_addPromise 138 (.ireturn, 1) 139 := ⟨dq_172 (d_b dk_X0_addPromise_98 40 rfl), rfl⟩
def dt_X0_breakAllOf_0 : List Nat := [42, 27, 5, 182, 0, 66, 172]
theorem dk_X0_breakAllOf_0 : (((mX0_breakAllOf.2.1).data.toList.drop 0).take 7).map UInt8.toNat = dt_X0_breakAllOf_0 := by decide +kernel
theorem dX0_breakAllOf_0 : pm_dec mX0_breakAllOf 0 (.aload_n 0, 1) 1 := ⟨dq_42 (d_b dk_X0_breakAllOf_0 0 rfl), rfl⟩
theorem dX0_breakAllOf_1 : pm_dec mX0_breakAllOf 1 (.iload_n 1, 1) 2 := ⟨dq_27 (d_b dk_X0_breakAllOf_0 1 rfl), rfl⟩
theorem dX0_breakAllOf_2 : pm_dec mX0_breakAllOf 2 (.iconst 2, 1) 3 := ⟨dq_5 (d_b dk_X0_breakAllOf_0 2 rfl), rfl⟩
theorem dX0_breakAllOf_3 : pm_dec mX0_breakAllOf 3 (.invokevirtual 66, 3) 6 := ⟨dq_182 (d_b dk_X0_breakAllOf_0 3 rfl) (d_b dk_X0_breakAllOf_0 4 rfl) (d_b dk_X0_breakAllOf_0 5 rfl) rfl, rfl⟩
theorem dX0_breakAllOf_6 : pm_dec mX0_breakAllOf 6 (.ireturn, 1) 7 := ⟨dq_172 (d_b dk_X0_breakAllOf_0 6 rfl), rfl⟩
def dt_X0_choose_0 : List Nat := [29, 42, 180, 0, 115, 164, 0, 4, 177, 42, 21, 4, 182, 0, 125, 153, 0, 9, 42, 28, 29, 182, 0, 128, 27, 16, 9, 162, 0, 78, 42, 180, 0, 36, 27, 182, 0, 131, 153, 0, 67, 42, 180, 0, 36, 27, 3, 182, 0, 39]
theorem dk_X0_choose_0 : (((mX0_choose.2.1).data.toList.drop 0).take 50).map UInt8.toNat = dt_X0_choose_0 := by decide +kernel
theorem dX0_choose_0 : pm_dec mX0_choose 0 (.iload_n 3, 1) 1 := ⟨dq_29 (d_b dk_X0_choose_0 0 rfl), rfl⟩
theorem dX0_choose_1 : pm_dec mX0_choose 1 (.aload_n 0, 1) 2 := ⟨dq_42 (d_b dk_X0_choose_0 1 rfl), rfl⟩
theorem dX0_choose_2 : pm_dec mX0_choose 2 (.getfield 115, 3) 5 := ⟨dq_180 (d_b dk_X0_choose_0 2 rfl) (d_b dk_X0_choose_0 3 rfl) (d_b dk_X0_choose_0 4 rfl) rfl, rfl⟩
theorem dX0_choose_5 : pm_dec mX0_choose 5 (.if_icmp .le 4, 3) 8 := ⟨dq_164 (d_b dk_X0_choose_0 5 rfl) (d_b dk_X0_choose_0 6 rfl) (d_b dk_X0_choose_0 7 rfl) (by decide), rfl⟩
theorem dX0_choose_8 : pm_dec mX0_choose 8 (.return_, 1) 9 := ⟨dq_177 (d_b dk_X0_choose_0 8 rfl), rfl⟩
theorem dX0_choose_9 : pm_dec mX0_choose 9 (.aload_n 0, 1) 10 := ⟨dq_42 (d_b dk_X0_choose_0 9 rfl), rfl⟩
theorem dX0_choose_10 : pm_dec mX0_choose 10 (.iload 4, 2) 12 := ⟨dq_21 (d_b dk_X0_choose_0 10 rfl) (d_b dk_X0_choose_0 11 rfl), rfl⟩
theorem dX0_choose_12 : pm_dec mX0_choose 12 (.invokevirtual 125, 3) 15 := ⟨dq_182 (d_b dk_X0_choose_0 12 rfl) (d_b dk_X0_choose_0 13 rfl) (d_b dk_X0_choose_0 14 rfl) rfl, rfl⟩
theorem dX0_choose_15 : pm_dec mX0_choose 15 (.ifCond .eq 9, 3) 18 := ⟨dq_153 (d_b dk_X0_choose_0 15 rfl) (d_b dk_X0_choose_0 16 rfl) (d_b dk_X0_choose_0 17 rfl) (by decide), rfl⟩
theorem dX0_choose_18 : pm_dec mX0_choose 18 (.aload_n 0, 1) 19 := ⟨dq_42 (d_b dk_X0_choose_0 18 rfl), rfl⟩
theorem dX0_choose_19 : pm_dec mX0_choose 19 (.iload_n 2, 1) 20 := ⟨dq_28 (d_b dk_X0_choose_0 19 rfl), rfl⟩
theorem dX0_choose_20 : pm_dec mX0_choose 20 (.iload_n 3, 1) 21 := ⟨dq_29 (d_b dk_X0_choose_0 20 rfl), rfl⟩
theorem dX0_choose_21 : pm_dec mX0_choose 21 (.invokevirtual 128, 3) 24 := ⟨dq_182 (d_b dk_X0_choose_0 21 rfl) (d_b dk_X0_choose_0 22 rfl) (d_b dk_X0_choose_0 23 rfl) rfl, rfl⟩
theorem dX0_choose_24 : pm_dec mX0_choose 24 (.iload_n 1, 1) 25 := ⟨dq_27 (d_b dk_X0_choose_0 24 rfl), rfl⟩
theorem dX0_choose_25 : pm_dec mX0_choose 25 (.bipush 9, 2) 27 := ⟨dq_16 (d_b dk_X0_choose_0 25 rfl) (d_b dk_X0_choose_0 26 rfl) (by decide), rfl⟩
theorem dX0_choose_27 : pm_dec mX0_choose 27 (.if_icmp .ge 78, 3) 30 := ⟨dq_162 (d_b dk_X0_choose_0 27 rfl) (d_b dk_X0_choose_0 28 rfl) (d_b dk_X0_choose_0 29 rfl) (by decide), rfl⟩
theorem dX0_choose_30 : pm_dec mX0_choose 30 (.aload_n 0, 1) 31 := ⟨dq_42 (d_b dk_X0_choose_0 30 rfl), rfl⟩
theorem dX0_choose_31 : pm_dec mX0_choose 31 (.getfield 36, 3) 34 := ⟨dq_180 (d_b dk_X0_choose_0 31 rfl) (d_b dk_X0_choose_0 32 rfl) (d_b dk_X0_choose_0 33 rfl) rfl, rfl⟩
theorem dX0_choose_34 : pm_dec mX0_choose 34 (.iload_n 1, 1) 35 := ⟨dq_27 (d_b dk_X0_choose_0 34 rfl), rfl⟩
theorem dX0_choose_35 : pm_dec mX0_choose 35 (.invokevirtual 131, 3) 38 := ⟨dq_182 (d_b dk_X0_choose_0 35 rfl) (d_b dk_X0_choose_0 36 rfl) (d_b dk_X0_choose_0 37 rfl) rfl, rfl⟩
theorem dX0_choose_38 : pm_dec mX0_choose 38 (.ifCond .eq 67, 3) 41 := ⟨dq_153 (d_b dk_X0_choose_0 38 rfl) (d_b dk_X0_choose_0 39 rfl) (d_b dk_X0_choose_0 40 rfl) (by decide), rfl⟩
theorem dX0_choose_41 : pm_dec mX0_choose 41 (.aload_n 0, 1) 42 := ⟨dq_42 (d_b dk_X0_choose_0 41 rfl), rfl⟩
theorem dX0_choose_42 : pm_dec mX0_choose 42 (.getfield 36, 3) 45 := ⟨dq_180 (d_b dk_X0_choose_0 42 rfl) (d_b dk_X0_choose_0 43 rfl) (d_b dk_X0_choose_0 44 rfl) rfl, rfl⟩
theorem dX0_choose_45 : pm_dec mX0_choose 45 (.iload_n 1, 1) 46 := ⟨dq_27 (d_b dk_X0_choose_0 45 rfl), rfl⟩
theorem dX0_choose_46 : pm_dec mX0_choose 46 (.iconst 0, 1) 47 := ⟨dq_3 (d_b dk_X0_choose_0 46 rfl), rfl⟩
theorem dX0_choose_47 : pm_dec mX0_choose 47 (.invokevirtual 39, 3) 50 := ⟨dq_182 (d_b dk_X0_choose_0 47 rfl) (d_b dk_X0_choose_0 48 rfl) (d_b dk_X0_choose_0 49 rfl) rfl, rfl⟩
def dt_X0_choose_50 : List Nat := [54, 5, 42, 27, 4, 96, 28, 29, 21, 4, 182, 0, 121, 42, 27, 4, 96, 28, 4, 21, 5, 120, 128, 29, 42, 180, 0, 9, 180, 0, 63, 21, 5, 16, 12, 182, 0, 39, 96, 21, 4, 42, 180, 0, 33, 21, 5, 3]
theorem dk_X0_choose_50 : (((mX0_choose.2.1).data.toList.drop 50).take 48).map UInt8.toNat = dt_X0_choose_50 := by decide +kernel
theorem dX0_choose_50 : pm_dec mX0_choose 50 (.istore 5, 2) 52 := ⟨dq_54 (d_b dk_X0_choose_50 0 rfl) (d_b dk_X0_choose_50 1 rfl), rfl⟩
theorem dX0_choose_52 : pm_dec mX0_choose 52 (.aload_n 0, 1) 53 := ⟨dq_42 (d_b dk_X0_choose_50 2 rfl), rfl⟩
theorem dX0_choose_53 : pm_dec mX0_choose 53 (.iload_n 1, 1) 54 := ⟨dq_27 (d_b dk_X0_choose_50 3 rfl), rfl⟩
theorem dX0_choose_54 : pm_dec mX0_choose 54 (.iconst 1, 1) 55 := ⟨dq_4 (d_b dk_X0_choose_50 4 rfl), rfl⟩
theorem dX0_choose_55 : pm_dec mX0_choose 55 (.iadd, 1) 56 := ⟨dq_96 (d_b dk_X0_choose_50 5 rfl), rfl⟩
theorem dX0_choose_56 : pm_dec mX0_choose 56 (.iload_n 2, 1) 57 := ⟨dq_28 (d_b dk_X0_choose_50 6 rfl), rfl⟩
theorem dX0_choose_57 : pm_dec mX0_choose 57 (.iload_n 3, 1) 58 := ⟨dq_29 (d_b dk_X0_choose_50 7 rfl), rfl⟩
theorem dX0_choose_58 : pm_dec mX0_choose 58 (.iload 4, 2) 60 := ⟨dq_21 (d_b dk_X0_choose_50 8 rfl) (d_b dk_X0_choose_50 9 rfl), rfl⟩
theorem dX0_choose_60 : pm_dec mX0_choose 60 (.invokevirtual 121, 3) 63 := ⟨dq_182 (d_b dk_X0_choose_50 10 rfl) (d_b dk_X0_choose_50 11 rfl) (d_b dk_X0_choose_50 12 rfl) rfl, rfl⟩
theorem dX0_choose_63 : pm_dec mX0_choose 63 (.aload_n 0, 1) 64 := ⟨dq_42 (d_b dk_X0_choose_50 13 rfl), rfl⟩
theorem dX0_choose_64 : pm_dec mX0_choose 64 (.iload_n 1, 1) 65 := ⟨dq_27 (d_b dk_X0_choose_50 14 rfl), rfl⟩
theorem dX0_choose_65 : pm_dec mX0_choose 65 (.iconst 1, 1) 66 := ⟨dq_4 (d_b dk_X0_choose_50 15 rfl), rfl⟩
theorem dX0_choose_66 : pm_dec mX0_choose 66 (.iadd, 1) 67 := ⟨dq_96 (d_b dk_X0_choose_50 16 rfl), rfl⟩
theorem dX0_choose_67 : pm_dec mX0_choose 67 (.iload_n 2, 1) 68 := ⟨dq_28 (d_b dk_X0_choose_50 17 rfl), rfl⟩
theorem dX0_choose_68 : pm_dec mX0_choose 68 (.iconst 1, 1) 69 := ⟨dq_4 (d_b dk_X0_choose_50 18 rfl), rfl⟩
theorem dX0_choose_69 : pm_dec mX0_choose 69 (.iload 5, 2) 71 := ⟨dq_21 (d_b dk_X0_choose_50 19 rfl) (d_b dk_X0_choose_50 20 rfl), rfl⟩
theorem dX0_choose_71 : pm_dec mX0_choose 71 (.ishl, 1) 72 := ⟨dq_120 (d_b dk_X0_choose_50 21 rfl), rfl⟩
theorem dX0_choose_72 : pm_dec mX0_choose 72 (.ior, 1) 73 := ⟨dq_128 (d_b dk_X0_choose_50 22 rfl), rfl⟩
theorem dX0_choose_73 : pm_dec mX0_choose 73 (.iload_n 3, 1) 74 := ⟨dq_29 (d_b dk_X0_choose_50 23 rfl), rfl⟩
theorem dX0_choose_74 : pm_dec mX0_choose 74 (.aload_n 0, 1) 75 := ⟨dq_42 (d_b dk_X0_choose_50 24 rfl), rfl⟩
theorem dX0_choose_75 : pm_dec mX0_choose 75 (.getfield 9, 3) 78 := ⟨dq_180 (d_b dk_X0_choose_50 25 rfl) (d_b dk_X0_choose_50 26 rfl) (d_b dk_X0_choose_50 27 rfl) rfl, rfl⟩
theorem dX0_choose_78 : pm_dec mX0_choose 78 (.getfield 63, 3) 81 := ⟨dq_180 (d_b dk_X0_choose_50 28 rfl) (d_b dk_X0_choose_50 29 rfl) (d_b dk_X0_choose_50 30 rfl) rfl, rfl⟩
theorem dX0_choose_81 : pm_dec mX0_choose 81 (.iload 5, 2) 83 := ⟨dq_21 (d_b dk_X0_choose_50 31 rfl) (d_b dk_X0_choose_50 32 rfl), rfl⟩
theorem dX0_choose_83 : pm_dec mX0_choose 83 (.bipush 12, 2) 85 := ⟨dq_16 (d_b dk_X0_choose_50 33 rfl) (d_b dk_X0_choose_50 34 rfl) (by decide), rfl⟩
theorem dX0_choose_85 : pm_dec mX0_choose 85 (.invokevirtual 39, 3) 88 := ⟨dq_182 (d_b dk_X0_choose_50 35 rfl) (d_b dk_X0_choose_50 36 rfl) (d_b dk_X0_choose_50 37 rfl) rfl, rfl⟩
theorem dX0_choose_88 : pm_dec mX0_choose 88 (.iadd, 1) 89 := ⟨dq_96 (d_b dk_X0_choose_50 38 rfl), rfl⟩
theorem dX0_choose_89 : pm_dec mX0_choose 89 (.iload 4, 2) 91 := ⟨dq_21 (d_b dk_X0_choose_50 39 rfl) (d_b dk_X0_choose_50 40 rfl), rfl⟩
theorem dX0_choose_91 : pm_dec mX0_choose 91 (.aload_n 0, 1) 92 := ⟨dq_42 (d_b dk_X0_choose_50 41 rfl), rfl⟩
theorem dX0_choose_92 : pm_dec mX0_choose 92 (.getfield 33, 3) 95 := ⟨dq_180 (d_b dk_X0_choose_50 42 rfl) (d_b dk_X0_choose_50 43 rfl) (d_b dk_X0_choose_50 44 rfl) rfl, rfl⟩
theorem dX0_choose_95 : pm_dec mX0_choose 95 (.iload 5, 2) 97 := ⟨dq_21 (d_b dk_X0_choose_50 45 rfl) (d_b dk_X0_choose_50 46 rfl), rfl⟩
theorem dX0_choose_97 : pm_dec mX0_choose 97 (.iconst 0, 1) 98 := ⟨dq_3 (d_b dk_X0_choose_50 47 rfl), rfl⟩
def dt_X0_choose_98 : List Nat := [182, 0, 39, 96, 182, 0, 121, 177]
theorem dk_X0_choose_98 : (((mX0_choose.2.1).data.toList.drop 98).take 8).map UInt8.toNat = dt_X0_choose_98 := by decide +kernel
theorem dX0_choose_98 : pm_dec mX0_choose 98 (.invokevirtual 39, 3) 101 := ⟨dq_182 (d_b dk_X0_choose_98 0 rfl) (d_b dk_X0_choose_98 1 rfl) (d_b dk_X0_choose_98 2 rfl) rfl, rfl⟩
theorem dX0_choose_101 : pm_dec mX0_choose 101 (.iadd, 1) 102 := ⟨dq_96 (d_b dk_X0_choose_98 3 rfl), rfl⟩
theorem dX0_choose_102 : pm_dec mX0_choose 102 (.invokevirtual 121, 3) 105 := ⟨dq_182 (d_b dk_X0_choose_98 4 rfl) (d_b dk_X0_choose_98 5 rfl) (d_b dk_X0_choose_98 6 rfl) rfl, rfl⟩
theorem dX0_choose_105 : pm_dec mX0_choose 105 (.return_, 1) 106 := ⟨dq_177 (d_b dk_X0_choose_98 7 rfl), rfl⟩
def dt_X0_endAllOf_0 : List Nat := [3, 62, 42, 180, 0, 25, 182, 0, 47, 54, 4, 3, 54, 5, 21, 5, 21, 4, 162, 0, 46, 42, 21, 5, 182, 0, 51, 153, 0, 31, 42, 180, 0, 25, 21, 5, 3, 182, 0, 39, 27, 160, 0, 17, 42, 180, 0, 25]
theorem dk_X0_endAllOf_0 : (((mX0_endAllOf.2.1).data.toList.drop 0).take 48).map UInt8.toNat = dt_X0_endAllOf_0 := by decide +kernel
theorem dX0_endAllOf_0 : pm_dec mX0_endAllOf 0 (.iconst 0, 1) 1 := ⟨dq_3 (d_b dk_X0_endAllOf_0 0 rfl), rfl⟩
theorem dX0_endAllOf_1 : pm_dec mX0_endAllOf 1 (.istore_n 3, 1) 2 := ⟨dq_62 (d_b dk_X0_endAllOf_0 1 rfl), rfl⟩
theorem dX0_endAllOf_2 : pm_dec mX0_endAllOf 2 (.aload_n 0, 1) 3 := ⟨dq_42 (d_b dk_X0_endAllOf_0 2 rfl), rfl⟩
theorem dX0_endAllOf_3 : pm_dec mX0_endAllOf 3 (.getfield 25, 3) 6 := ⟨dq_180 (d_b dk_X0_endAllOf_0 3 rfl) (d_b dk_X0_endAllOf_0 4 rfl) (d_b dk_X0_endAllOf_0 5 rfl) rfl, rfl⟩
theorem dX0_endAllOf_6 : pm_dec mX0_endAllOf 6 (.invokevirtual 47, 3) 9 := ⟨dq_182 (d_b dk_X0_endAllOf_0 6 rfl) (d_b dk_X0_endAllOf_0 7 rfl) (d_b dk_X0_endAllOf_0 8 rfl) rfl, rfl⟩
theorem dX0_endAllOf_9 : pm_dec mX0_endAllOf 9 (.istore 4, 2) 11 := ⟨dq_54 (d_b dk_X0_endAllOf_0 9 rfl) (d_b dk_X0_endAllOf_0 10 rfl), rfl⟩
theorem dX0_endAllOf_11 : pm_dec mX0_endAllOf 11 (.iconst 0, 1) 12 := ⟨dq_3 (d_b dk_X0_endAllOf_0 11 rfl), rfl⟩
theorem dX0_endAllOf_12 : pm_dec mX0_endAllOf 12 (.istore 5, 2) 14 := ⟨dq_54 (d_b dk_X0_endAllOf_0 12 rfl) (d_b dk_X0_endAllOf_0 13 rfl), rfl⟩
theorem dX0_endAllOf_14 : pm_dec mX0_endAllOf 14 (.iload 5, 2) 16 := ⟨dq_21 (d_b dk_X0_endAllOf_0 14 rfl) (d_b dk_X0_endAllOf_0 15 rfl), rfl⟩
theorem dX0_endAllOf_16 : pm_dec mX0_endAllOf 16 (.iload 4, 2) 18 := ⟨dq_21 (d_b dk_X0_endAllOf_0 16 rfl) (d_b dk_X0_endAllOf_0 17 rfl), rfl⟩
theorem dX0_endAllOf_18 : pm_dec mX0_endAllOf 18 (.if_icmp .ge 46, 3) 21 := ⟨dq_162 (d_b dk_X0_endAllOf_0 18 rfl) (d_b dk_X0_endAllOf_0 19 rfl) (d_b dk_X0_endAllOf_0 20 rfl) (by decide), rfl⟩
theorem dX0_endAllOf_21 : pm_dec mX0_endAllOf 21 (.aload_n 0, 1) 22 := ⟨dq_42 (d_b dk_X0_endAllOf_0 21 rfl), rfl⟩
theorem dX0_endAllOf_22 : pm_dec mX0_endAllOf 22 (.iload 5, 2) 24 := ⟨dq_21 (d_b dk_X0_endAllOf_0 22 rfl) (d_b dk_X0_endAllOf_0 23 rfl), rfl⟩
theorem dX0_endAllOf_24 : pm_dec mX0_endAllOf 24 (.invokevirtual 51, 3) 27 := ⟨dq_182 (d_b dk_X0_endAllOf_0 24 rfl) (d_b dk_X0_endAllOf_0 25 rfl) (d_b dk_X0_endAllOf_0 26 rfl) rfl, rfl⟩
theorem dX0_endAllOf_27 : pm_dec mX0_endAllOf 27 (.ifCond .eq 31, 3) 30 := ⟨dq_153 (d_b dk_X0_endAllOf_0 27 rfl) (d_b dk_X0_endAllOf_0 28 rfl) (d_b dk_X0_endAllOf_0 29 rfl) (by decide), rfl⟩
theorem dX0_endAllOf_30 : pm_dec mX0_endAllOf 30 (.aload_n 0, 1) 31 := ⟨dq_42 (d_b dk_X0_endAllOf_0 30 rfl), rfl⟩
theorem dX0_endAllOf_31 : pm_dec mX0_endAllOf 31 (.getfield 25, 3) 34 := ⟨dq_180 (d_b dk_X0_endAllOf_0 31 rfl) (d_b dk_X0_endAllOf_0 32 rfl) (d_b dk_X0_endAllOf_0 33 rfl) rfl, rfl⟩
theorem dX0_endAllOf_34 : pm_dec mX0_endAllOf 34 (.iload 5, 2) 36 := ⟨dq_21 (d_b dk_X0_endAllOf_0 34 rfl) (d_b dk_X0_endAllOf_0 35 rfl), rfl⟩
theorem dX0_endAllOf_36 : pm_dec mX0_endAllOf 36 (.iconst 0, 1) 37 := ⟨dq_3 (d_b dk_X0_endAllOf_0 36 rfl), rfl⟩
theorem dX0_endAllOf_37 : pm_dec mX0_endAllOf 37 (.invokevirtual 39, 3) 40 := ⟨dq_182 (d_b dk_X0_endAllOf_0 37 rfl) (d_b dk_X0_endAllOf_0 38 rfl) (d_b dk_X0_endAllOf_0 39 rfl) rfl, rfl⟩
theorem dX0_endAllOf_40 : pm_dec mX0_endAllOf 40 (.iload_n 1, 1) 41 := ⟨dq_27 (d_b dk_X0_endAllOf_0 40 rfl), rfl⟩
theorem dX0_endAllOf_41 : pm_dec mX0_endAllOf 41 (.if_icmp .ne 17, 3) 44 := ⟨dq_160 (d_b dk_X0_endAllOf_0 41 rfl) (d_b dk_X0_endAllOf_0 42 rfl) (d_b dk_X0_endAllOf_0 43 rfl) (by decide), rfl⟩
theorem dX0_endAllOf_44 : pm_dec mX0_endAllOf 44 (.aload_n 0, 1) 45 := ⟨dq_42 (d_b dk_X0_endAllOf_0 44 rfl), rfl⟩
theorem dX0_endAllOf_45 : pm_dec mX0_endAllOf 45 (.getfield 25, 3) 48 := ⟨dq_180 (d_b dk_X0_endAllOf_0 45 rfl) (d_b dk_X0_endAllOf_0 46 rfl) (d_b dk_X0_endAllOf_0 47 rfl) rfl, rfl⟩
def dt_X0_endAllOf_48 : List Nat := [21, 5, 7, 28, 182, 0, 55, 132, 3, 1, 132, 5, 1, 167, 255, 209, 29, 172]
theorem dk_X0_endAllOf_48 : (((mX0_endAllOf.2.1).data.toList.drop 48).take 18).map UInt8.toNat = dt_X0_endAllOf_48 := by decide +kernel
theorem dX0_endAllOf_48 : pm_dec mX0_endAllOf 48 (.iload 5, 2) 50 := ⟨dq_21 (d_b dk_X0_endAllOf_48 0 rfl) (d_b dk_X0_endAllOf_48 1 rfl), rfl⟩
theorem dX0_endAllOf_50 : pm_dec mX0_endAllOf 50 (.iconst 4, 1) 51 := ⟨dq_7 (d_b dk_X0_endAllOf_48 2 rfl), rfl⟩
theorem dX0_endAllOf_51 : pm_dec mX0_endAllOf 51 (.iload_n 2, 1) 52 := ⟨dq_28 (d_b dk_X0_endAllOf_48 3 rfl), rfl⟩
theorem dX0_endAllOf_52 : pm_dec mX0_endAllOf 52 (.invokevirtual 55, 3) 55 := ⟨dq_182 (d_b dk_X0_endAllOf_48 4 rfl) (d_b dk_X0_endAllOf_48 5 rfl) (d_b dk_X0_endAllOf_48 6 rfl) rfl, rfl⟩
theorem dX0_endAllOf_55 : pm_dec mX0_endAllOf 55 (.iinc 3 1, 3) 58 := ⟨dq_132 (d_b dk_X0_endAllOf_48 7 rfl) (d_b dk_X0_endAllOf_48 8 rfl) (d_b dk_X0_endAllOf_48 9 rfl) (by decide), rfl⟩
theorem dX0_endAllOf_58 : pm_dec mX0_endAllOf 58 (.iinc 5 1, 3) 61 := ⟨dq_132 (d_b dk_X0_endAllOf_48 10 rfl) (d_b dk_X0_endAllOf_48 11 rfl) (d_b dk_X0_endAllOf_48 12 rfl) (by decide), rfl⟩
theorem dX0_endAllOf_61 : pm_dec mX0_endAllOf 61 (.goto (-47), 3) 64 := ⟨dq_167 (d_b dk_X0_endAllOf_48 13 rfl) (d_b dk_X0_endAllOf_48 14 rfl) (d_b dk_X0_endAllOf_48 15 rfl) (by decide), rfl⟩
theorem dX0_endAllOf_64 : pm_dec mX0_endAllOf 64 (.iload_n 3, 1) 65 := ⟨dq_29 (d_b dk_X0_endAllOf_48 16 rfl), rfl⟩
theorem dX0_endAllOf_65 : pm_dec mX0_endAllOf 65 (.ireturn, 1) 66 := ⟨dq_172 (d_b dk_X0_endAllOf_48 17 rfl), rfl⟩
def dt_X0_findCheapest_0 : List Nat := [42, 27, 182, 0, 110, 42, 18, 114, 181, 0, 115, 42, 3, 181, 0, 118, 42, 3, 3, 3, 3, 182, 0, 121, 42, 180, 0, 115, 18, 114, 162, 0, 7, 4, 167, 0, 4, 3, 172]
theorem dk_X0_findCheapest_0 : (((mX0_findCheapest.2.1).data.toList.drop 0).take 39).map UInt8.toNat = dt_X0_findCheapest_0 := by decide +kernel
theorem dX0_findCheapest_0 : pm_dec mX0_findCheapest 0 (.aload_n 0, 1) 1 := ⟨dq_42 (d_b dk_X0_findCheapest_0 0 rfl), rfl⟩
theorem dX0_findCheapest_1 : pm_dec mX0_findCheapest 1 (.iload_n 1, 1) 2 := ⟨dq_27 (d_b dk_X0_findCheapest_0 1 rfl), rfl⟩
theorem dX0_findCheapest_2 : pm_dec mX0_findCheapest 2 (.invokevirtual 110, 3) 5 := ⟨dq_182 (d_b dk_X0_findCheapest_0 2 rfl) (d_b dk_X0_findCheapest_0 3 rfl) (d_b dk_X0_findCheapest_0 4 rfl) rfl, rfl⟩
theorem dX0_findCheapest_5 : pm_dec mX0_findCheapest 5 (.aload_n 0, 1) 6 := ⟨dq_42 (d_b dk_X0_findCheapest_0 5 rfl), rfl⟩
theorem dX0_findCheapest_6 : pm_dec mX0_findCheapest 6 (.ldc 114, 2) 8 := ⟨dq_18 (d_b dk_X0_findCheapest_0 6 rfl) (d_b dk_X0_findCheapest_0 7 rfl), rfl⟩
theorem dX0_findCheapest_8 : pm_dec mX0_findCheapest 8 (.putfield 115, 3) 11 := ⟨dq_181 (d_b dk_X0_findCheapest_0 8 rfl) (d_b dk_X0_findCheapest_0 9 rfl) (d_b dk_X0_findCheapest_0 10 rfl) rfl, rfl⟩
theorem dX0_findCheapest_11 : pm_dec mX0_findCheapest 11 (.aload_n 0, 1) 12 := ⟨dq_42 (d_b dk_X0_findCheapest_0 11 rfl), rfl⟩
theorem dX0_findCheapest_12 : pm_dec mX0_findCheapest 12 (.iconst 0, 1) 13 := ⟨dq_3 (d_b dk_X0_findCheapest_0 12 rfl), rfl⟩
theorem dX0_findCheapest_13 : pm_dec mX0_findCheapest 13 (.putfield 118, 3) 16 := ⟨dq_181 (d_b dk_X0_findCheapest_0 13 rfl) (d_b dk_X0_findCheapest_0 14 rfl) (d_b dk_X0_findCheapest_0 15 rfl) rfl, rfl⟩
theorem dX0_findCheapest_16 : pm_dec mX0_findCheapest 16 (.aload_n 0, 1) 17 := ⟨dq_42 (d_b dk_X0_findCheapest_0 16 rfl), rfl⟩
theorem dX0_findCheapest_17 : pm_dec mX0_findCheapest 17 (.iconst 0, 1) 18 := ⟨dq_3 (d_b dk_X0_findCheapest_0 17 rfl), rfl⟩
theorem dX0_findCheapest_18 : pm_dec mX0_findCheapest 18 (.iconst 0, 1) 19 := ⟨dq_3 (d_b dk_X0_findCheapest_0 18 rfl), rfl⟩
theorem dX0_findCheapest_19 : pm_dec mX0_findCheapest 19 (.iconst 0, 1) 20 := ⟨dq_3 (d_b dk_X0_findCheapest_0 19 rfl), rfl⟩
theorem dX0_findCheapest_20 : pm_dec mX0_findCheapest 20 (.iconst 0, 1) 21 := ⟨dq_3 (d_b dk_X0_findCheapest_0 20 rfl), rfl⟩
theorem dX0_findCheapest_21 : pm_dec mX0_findCheapest 21 (.invokevirtual 121, 3) 24 := ⟨dq_182 (d_b dk_X0_findCheapest_0 21 rfl) (d_b dk_X0_findCheapest_0 22 rfl) (d_b dk_X0_findCheapest_0 23 rfl) rfl, rfl⟩
theorem dX0_findCheapest_24 : pm_dec mX0_findCheapest 24 (.aload_n 0, 1) 25 := ⟨dq_42 (d_b dk_X0_findCheapest_0 24 rfl), rfl⟩
theorem dX0_findCheapest_25 : pm_dec mX0_findCheapest 25 (.getfield 115, 3) 28 := ⟨dq_180 (d_b dk_X0_findCheapest_0 25 rfl) (d_b dk_X0_findCheapest_0 26 rfl) (d_b dk_X0_findCheapest_0 27 rfl) rfl, rfl⟩
theorem dX0_findCheapest_28 : pm_dec mX0_findCheapest 28 (.ldc 114, 2) 30 := ⟨dq_18 (d_b dk_X0_findCheapest_0 28 rfl) (d_b dk_X0_findCheapest_0 29 rfl), rfl⟩
theorem dX0_findCheapest_30 : pm_dec mX0_findCheapest 30 (.if_icmp .ge 7, 3) 33 := ⟨dq_162 (d_b dk_X0_findCheapest_0 30 rfl) (d_b dk_X0_findCheapest_0 31 rfl) (d_b dk_X0_findCheapest_0 32 rfl) (by decide), rfl⟩
theorem dX0_findCheapest_33 : pm_dec mX0_findCheapest 33 (.iconst 1, 1) 34 := ⟨dq_4 (d_b dk_X0_findCheapest_0 33 rfl), rfl⟩
theorem dX0_findCheapest_34 : pm_dec mX0_findCheapest 34 (.goto 4, 3) 37 := ⟨dq_167 (d_b dk_X0_findCheapest_0 34 rfl) (d_b dk_X0_findCheapest_0 35 rfl) (d_b dk_X0_findCheapest_0 36 rfl) (by decide), rfl⟩
theorem dX0_findCheapest_37 : pm_dec mX0_findCheapest 37 (.iconst 0, 1) 38 := ⟨dq_3 (d_b dk_X0_findCheapest_0 37 rfl), rfl⟩
theorem dX0_findCheapest_38 : pm_dec mX0_findCheapest 38 (.ireturn, 1) 39 := ⟨dq_172 (d_b dk_X0_findCheapest_0 38 rfl), rfl⟩
def dt_X0_firstBroken_0 : List Nat := [42, 180, 0, 25, 182, 0, 47, 61, 3, 62, 29, 28, 162, 0, 50, 42, 180, 0, 25, 29, 7, 182, 0, 39, 5, 160, 0, 31, 42, 180, 0, 25, 29, 4, 182, 0, 39, 27, 160, 0, 18, 42, 180, 0, 25, 29, 6, 182, 0, 39]
theorem dk_X0_firstBroken_0 : (((mX0_firstBroken.2.1).data.toList.drop 0).take 50).map UInt8.toNat = dt_X0_firstBroken_0 := by decide +kernel
theorem dX0_firstBroken_0 : pm_dec mX0_firstBroken 0 (.aload_n 0, 1) 1 := ⟨dq_42 (d_b dk_X0_firstBroken_0 0 rfl), rfl⟩
theorem dX0_firstBroken_1 : pm_dec mX0_firstBroken 1 (.getfield 25, 3) 4 := ⟨dq_180 (d_b dk_X0_firstBroken_0 1 rfl) (d_b dk_X0_firstBroken_0 2 rfl) (d_b dk_X0_firstBroken_0 3 rfl) rfl, rfl⟩
theorem dX0_firstBroken_4 : pm_dec mX0_firstBroken 4 (.invokevirtual 47, 3) 7 := ⟨dq_182 (d_b dk_X0_firstBroken_0 4 rfl) (d_b dk_X0_firstBroken_0 5 rfl) (d_b dk_X0_firstBroken_0 6 rfl) rfl, rfl⟩
theorem dX0_firstBroken_7 : pm_dec mX0_firstBroken 7 (.istore_n 2, 1) 8 := ⟨dq_61 (d_b dk_X0_firstBroken_0 7 rfl), rfl⟩
theorem dX0_firstBroken_8 : pm_dec mX0_firstBroken 8 (.iconst 0, 1) 9 := ⟨dq_3 (d_b dk_X0_firstBroken_0 8 rfl), rfl⟩
theorem dX0_firstBroken_9 : pm_dec mX0_firstBroken 9 (.istore_n 3, 1) 10 := ⟨dq_62 (d_b dk_X0_firstBroken_0 9 rfl), rfl⟩
theorem dX0_firstBroken_10 : pm_dec mX0_firstBroken 10 (.iload_n 3, 1) 11 := ⟨dq_29 (d_b dk_X0_firstBroken_0 10 rfl), rfl⟩
theorem dX0_firstBroken_11 : pm_dec mX0_firstBroken 11 (.iload_n 2, 1) 12 := ⟨dq_28 (d_b dk_X0_firstBroken_0 11 rfl), rfl⟩
theorem dX0_firstBroken_12 : pm_dec mX0_firstBroken 12 (.if_icmp .ge 50, 3) 15 := ⟨dq_162 (d_b dk_X0_firstBroken_0 12 rfl) (d_b dk_X0_firstBroken_0 13 rfl) (d_b dk_X0_firstBroken_0 14 rfl) (by decide), rfl⟩
theorem dX0_firstBroken_15 : pm_dec mX0_firstBroken 15 (.aload_n 0, 1) 16 := ⟨dq_42 (d_b dk_X0_firstBroken_0 15 rfl), rfl⟩
theorem dX0_firstBroken_16 : pm_dec mX0_firstBroken 16 (.getfield 25, 3) 19 := ⟨dq_180 (d_b dk_X0_firstBroken_0 16 rfl) (d_b dk_X0_firstBroken_0 17 rfl) (d_b dk_X0_firstBroken_0 18 rfl) rfl, rfl⟩
theorem dX0_firstBroken_19 : pm_dec mX0_firstBroken 19 (.iload_n 3, 1) 20 := ⟨dq_29 (d_b dk_X0_firstBroken_0 19 rfl), rfl⟩
theorem dX0_firstBroken_20 : pm_dec mX0_firstBroken 20 (.iconst 4, 1) 21 := ⟨dq_7 (d_b dk_X0_firstBroken_0 20 rfl), rfl⟩
theorem dX0_firstBroken_21 : pm_dec mX0_firstBroken 21 (.invokevirtual 39, 3) 24 := ⟨dq_182 (d_b dk_X0_firstBroken_0 21 rfl) (d_b dk_X0_firstBroken_0 22 rfl) (d_b dk_X0_firstBroken_0 23 rfl) rfl, rfl⟩
theorem dX0_firstBroken_24 : pm_dec mX0_firstBroken 24 (.iconst 2, 1) 25 := ⟨dq_5 (d_b dk_X0_firstBroken_0 24 rfl), rfl⟩
theorem dX0_firstBroken_25 : pm_dec mX0_firstBroken 25 (.if_icmp .ne 31, 3) 28 := ⟨dq_160 (d_b dk_X0_firstBroken_0 25 rfl) (d_b dk_X0_firstBroken_0 26 rfl) (d_b dk_X0_firstBroken_0 27 rfl) (by decide), rfl⟩
theorem dX0_firstBroken_28 : pm_dec mX0_firstBroken 28 (.aload_n 0, 1) 29 := ⟨dq_42 (d_b dk_X0_firstBroken_0 28 rfl), rfl⟩
theorem dX0_firstBroken_29 : pm_dec mX0_firstBroken 29 (.getfield 25, 3) 32 := ⟨dq_180 (d_b dk_X0_firstBroken_0 29 rfl) (d_b dk_X0_firstBroken_0 30 rfl) (d_b dk_X0_firstBroken_0 31 rfl) rfl, rfl⟩
theorem dX0_firstBroken_32 : pm_dec mX0_firstBroken 32 (.iload_n 3, 1) 33 := ⟨dq_29 (d_b dk_X0_firstBroken_0 32 rfl), rfl⟩
theorem dX0_firstBroken_33 : pm_dec mX0_firstBroken 33 (.iconst 1, 1) 34 := ⟨dq_4 (d_b dk_X0_firstBroken_0 33 rfl), rfl⟩
theorem dX0_firstBroken_34 : pm_dec mX0_firstBroken 34 (.invokevirtual 39, 3) 37 := ⟨dq_182 (d_b dk_X0_firstBroken_0 34 rfl) (d_b dk_X0_firstBroken_0 35 rfl) (d_b dk_X0_firstBroken_0 36 rfl) rfl, rfl⟩
theorem dX0_firstBroken_37 : pm_dec mX0_firstBroken 37 (.iload_n 1, 1) 38 := ⟨dq_27 (d_b dk_X0_firstBroken_0 37 rfl), rfl⟩
theorem dX0_firstBroken_38 : pm_dec mX0_firstBroken 38 (.if_icmp .ne 18, 3) 41 := ⟨dq_160 (d_b dk_X0_firstBroken_0 38 rfl) (d_b dk_X0_firstBroken_0 39 rfl) (d_b dk_X0_firstBroken_0 40 rfl) (by decide), rfl⟩
theorem dX0_firstBroken_41 : pm_dec mX0_firstBroken 41 (.aload_n 0, 1) 42 := ⟨dq_42 (d_b dk_X0_firstBroken_0 41 rfl), rfl⟩
theorem dX0_firstBroken_42 : pm_dec mX0_firstBroken 42 (.getfield 25, 3) 45 := ⟨dq_180 (d_b dk_X0_firstBroken_0 42 rfl) (d_b dk_X0_firstBroken_0 43 rfl) (d_b dk_X0_firstBroken_0 44 rfl) rfl, rfl⟩
theorem dX0_firstBroken_45 : pm_dec mX0_firstBroken 45 (.iload_n 3, 1) 46 := ⟨dq_29 (d_b dk_X0_firstBroken_0 45 rfl), rfl⟩
theorem dX0_firstBroken_46 : pm_dec mX0_firstBroken 46 (.iconst 3, 1) 47 := ⟨dq_6 (d_b dk_X0_firstBroken_0 46 rfl), rfl⟩
theorem dX0_firstBroken_47 : pm_dec mX0_firstBroken 47 (.invokevirtual 39, 3) 50 := ⟨dq_182 (d_b dk_X0_firstBroken_0 47 rfl) (d_b dk_X0_firstBroken_0 48 rfl) (d_b dk_X0_firstBroken_0 49 rfl) rfl, rfl⟩
def dt_X0_firstBroken_50 : List Nat := [4, 160, 0, 5, 29, 172, 132, 3, 1, 167, 255, 207, 2, 172]
theorem dk_X0_firstBroken_50 : (((mX0_firstBroken.2.1).data.toList.drop 50).take 14).map UInt8.toNat = dt_X0_firstBroken_50 := by decide +kernel
theorem dX0_firstBroken_50 : pm_dec mX0_firstBroken 50 (.iconst 1, 1) 51 := ⟨dq_4 (d_b dk_X0_firstBroken_50 0 rfl), rfl⟩
theorem dX0_firstBroken_51 : pm_dec mX0_firstBroken 51 (.if_icmp .ne 5, 3) 54 := ⟨dq_160 (d_b dk_X0_firstBroken_50 1 rfl) (d_b dk_X0_firstBroken_50 2 rfl) (d_b dk_X0_firstBroken_50 3 rfl) (by decide), rfl⟩
theorem dX0_firstBroken_54 : pm_dec mX0_firstBroken 54 (.iload_n 3, 1) 55 := ⟨dq_29 (d_b dk_X0_firstBroken_50 4 rfl), rfl⟩
theorem dX0_firstBroken_55 : pm_dec mX0_firstBroken 55 (.ireturn, 1) 56 := ⟨dq_172 (d_b dk_X0_firstBroken_50 5 rfl), rfl⟩
theorem dX0_firstBroken_56 : pm_dec mX0_firstBroken 56 (.iinc 3 1, 3) 59 := ⟨dq_132 (d_b dk_X0_firstBroken_50 6 rfl) (d_b dk_X0_firstBroken_50 7 rfl) (d_b dk_X0_firstBroken_50 8 rfl) (by decide), rfl⟩
theorem dX0_firstBroken_59 : pm_dec mX0_firstBroken 59 (.goto (-49), 3) 62 := ⟨dq_167 (d_b dk_X0_firstBroken_50 9 rfl) (d_b dk_X0_firstBroken_50 10 rfl) (d_b dk_X0_firstBroken_50 11 rfl) (by decide), rfl⟩
theorem dX0_firstBroken_62 : pm_dec mX0_firstBroken 62 (.iconst (-1), 1) 63 := ⟨dq_2 (d_b dk_X0_firstBroken_50 12 rfl), rfl⟩
theorem dX0_firstBroken_63 : pm_dec mX0_firstBroken 63 (.ireturn, 1) 64 := ⟨dq_172 (d_b dk_X0_firstBroken_50 13 rfl), rfl⟩
def dt_X0_isCarriedWith_0 : List Nat := [5, 42, 180, 0, 69, 27, 96, 104, 42, 180, 0, 72, 164, 0, 7, 4, 167, 0, 4, 3, 172]
theorem dk_X0_isCarriedWith_0 : (((mX0_isCarriedWith.2.1).data.toList.drop 0).take 21).map UInt8.toNat = dt_X0_isCarriedWith_0 := by decide +kernel
theorem dX0_isCarriedWith_0 : pm_dec mX0_isCarriedWith 0 (.iconst 2, 1) 1 := ⟨dq_5 (d_b dk_X0_isCarriedWith_0 0 rfl), rfl⟩
theorem dX0_isCarriedWith_1 : pm_dec mX0_isCarriedWith 1 (.aload_n 0, 1) 2 := ⟨dq_42 (d_b dk_X0_isCarriedWith_0 1 rfl), rfl⟩
theorem dX0_isCarriedWith_2 : pm_dec mX0_isCarriedWith 2 (.getfield 69, 3) 5 := ⟨dq_180 (d_b dk_X0_isCarriedWith_0 2 rfl) (d_b dk_X0_isCarriedWith_0 3 rfl) (d_b dk_X0_isCarriedWith_0 4 rfl) rfl, rfl⟩
theorem dX0_isCarriedWith_5 : pm_dec mX0_isCarriedWith 5 (.iload_n 1, 1) 6 := ⟨dq_27 (d_b dk_X0_isCarriedWith_0 5 rfl), rfl⟩
theorem dX0_isCarriedWith_6 : pm_dec mX0_isCarriedWith 6 (.iadd, 1) 7 := ⟨dq_96 (d_b dk_X0_isCarriedWith_0 6 rfl), rfl⟩
theorem dX0_isCarriedWith_7 : pm_dec mX0_isCarriedWith 7 (.imul, 1) 8 := ⟨dq_104 (d_b dk_X0_isCarriedWith_0 7 rfl), rfl⟩
theorem dX0_isCarriedWith_8 : pm_dec mX0_isCarriedWith 8 (.aload_n 0, 1) 9 := ⟨dq_42 (d_b dk_X0_isCarriedWith_0 8 rfl), rfl⟩
theorem dX0_isCarriedWith_9 : pm_dec mX0_isCarriedWith 9 (.getfield 72, 3) 12 := ⟨dq_180 (d_b dk_X0_isCarriedWith_0 9 rfl) (d_b dk_X0_isCarriedWith_0 10 rfl) (d_b dk_X0_isCarriedWith_0 11 rfl) rfl, rfl⟩
theorem dX0_isCarriedWith_12 : pm_dec mX0_isCarriedWith 12 (.if_icmp .le 7, 3) 15 := ⟨dq_164 (d_b dk_X0_isCarriedWith_0 12 rfl) (d_b dk_X0_isCarriedWith_0 13 rfl) (d_b dk_X0_isCarriedWith_0 14 rfl) (by decide), rfl⟩
theorem dX0_isCarriedWith_15 : pm_dec mX0_isCarriedWith 15 (.iconst 1, 1) 16 := ⟨dq_4 (d_b dk_X0_isCarriedWith_0 15 rfl), rfl⟩
theorem dX0_isCarriedWith_16 : pm_dec mX0_isCarriedWith 16 (.goto 4, 3) 19 := ⟨dq_167 (d_b dk_X0_isCarriedWith_0 16 rfl) (d_b dk_X0_isCarriedWith_0 17 rfl) (d_b dk_X0_isCarriedWith_0 18 rfl) (by decide), rfl⟩
theorem dX0_isCarriedWith_19 : pm_dec mX0_isCarriedWith 19 (.iconst 0, 1) 20 := ⟨dq_3 (d_b dk_X0_isCarriedWith_0 19 rfl), rfl⟩
theorem dX0_isCarriedWith_20 : pm_dec mX0_isCarriedWith 20 (.ireturn, 1) 21 := ⟨dq_172 (d_b dk_X0_isCarriedWith_0 20 rfl), rfl⟩
def dt_X0_isPromisedFor_0 : List Nat := [42, 180, 0, 25, 182, 0, 47, 62, 3, 54, 4, 21, 4, 29, 162, 0, 62, 42, 180, 0, 25, 21, 4, 3, 182, 0, 39, 27, 160, 0, 42, 42, 180, 0, 25, 21, 4, 4, 182, 0, 39, 28, 160, 0, 28, 42, 180, 0, 25]
theorem dk_X0_isPromisedFor_0 : (((mX0_isPromisedFor.2.1).data.toList.drop 0).take 49).map UInt8.toNat = dt_X0_isPromisedFor_0 := by decide +kernel
theorem dX0_isPromisedFor_0 : pm_dec mX0_isPromisedFor 0 (.aload_n 0, 1) 1 := ⟨dq_42 (d_b dk_X0_isPromisedFor_0 0 rfl), rfl⟩
theorem dX0_isPromisedFor_1 : pm_dec mX0_isPromisedFor 1 (.getfield 25, 3) 4 := ⟨dq_180 (d_b dk_X0_isPromisedFor_0 1 rfl) (d_b dk_X0_isPromisedFor_0 2 rfl) (d_b dk_X0_isPromisedFor_0 3 rfl) rfl, rfl⟩
theorem dX0_isPromisedFor_4 : pm_dec mX0_isPromisedFor 4 (.invokevirtual 47, 3) 7 := ⟨dq_182 (d_b dk_X0_isPromisedFor_0 4 rfl) (d_b dk_X0_isPromisedFor_0 5 rfl) (d_b dk_X0_isPromisedFor_0 6 rfl) rfl, rfl⟩
theorem dX0_isPromisedFor_7 : pm_dec mX0_isPromisedFor 7 (.istore_n 3, 1) 8 := ⟨dq_62 (d_b dk_X0_isPromisedFor_0 7 rfl), rfl⟩
theorem dX0_isPromisedFor_8 : pm_dec mX0_isPromisedFor 8 (.iconst 0, 1) 9 := ⟨dq_3 (d_b dk_X0_isPromisedFor_0 8 rfl), rfl⟩
theorem dX0_isPromisedFor_9 : pm_dec mX0_isPromisedFor 9 (.istore 4, 2) 11 := ⟨dq_54 (d_b dk_X0_isPromisedFor_0 9 rfl) (d_b dk_X0_isPromisedFor_0 10 rfl), rfl⟩
theorem dX0_isPromisedFor_11 : pm_dec mX0_isPromisedFor 11 (.iload 4, 2) 13 := ⟨dq_21 (d_b dk_X0_isPromisedFor_0 11 rfl) (d_b dk_X0_isPromisedFor_0 12 rfl), rfl⟩
theorem dX0_isPromisedFor_13 : pm_dec mX0_isPromisedFor 13 (.iload_n 3, 1) 14 := ⟨dq_29 (d_b dk_X0_isPromisedFor_0 13 rfl), rfl⟩
theorem dX0_isPromisedFor_14 : pm_dec mX0_isPromisedFor 14 (.if_icmp .ge 62, 3) 17 := ⟨dq_162 (d_b dk_X0_isPromisedFor_0 14 rfl) (d_b dk_X0_isPromisedFor_0 15 rfl) (d_b dk_X0_isPromisedFor_0 16 rfl) (by decide), rfl⟩
theorem dX0_isPromisedFor_17 : pm_dec mX0_isPromisedFor 17 (.aload_n 0, 1) 18 := ⟨dq_42 (d_b dk_X0_isPromisedFor_0 17 rfl), rfl⟩
theorem dX0_isPromisedFor_18 : pm_dec mX0_isPromisedFor 18 (.getfield 25, 3) 21 := ⟨dq_180 (d_b dk_X0_isPromisedFor_0 18 rfl) (d_b dk_X0_isPromisedFor_0 19 rfl) (d_b dk_X0_isPromisedFor_0 20 rfl) rfl, rfl⟩
theorem dX0_isPromisedFor_21 : pm_dec mX0_isPromisedFor 21 (.iload 4, 2) 23 := ⟨dq_21 (d_b dk_X0_isPromisedFor_0 21 rfl) (d_b dk_X0_isPromisedFor_0 22 rfl), rfl⟩
theorem dX0_isPromisedFor_23 : pm_dec mX0_isPromisedFor 23 (.iconst 0, 1) 24 := ⟨dq_3 (d_b dk_X0_isPromisedFor_0 23 rfl), rfl⟩
theorem dX0_isPromisedFor_24 : pm_dec mX0_isPromisedFor 24 (.invokevirtual 39, 3) 27 := ⟨dq_182 (d_b dk_X0_isPromisedFor_0 24 rfl) (d_b dk_X0_isPromisedFor_0 25 rfl) (d_b dk_X0_isPromisedFor_0 26 rfl) rfl, rfl⟩
theorem dX0_isPromisedFor_27 : pm_dec mX0_isPromisedFor 27 (.iload_n 1, 1) 28 := ⟨dq_27 (d_b dk_X0_isPromisedFor_0 27 rfl), rfl⟩
theorem dX0_isPromisedFor_28 : pm_dec mX0_isPromisedFor 28 (.if_icmp .ne 42, 3) 31 := ⟨dq_160 (d_b dk_X0_isPromisedFor_0 28 rfl) (d_b dk_X0_isPromisedFor_0 29 rfl) (d_b dk_X0_isPromisedFor_0 30 rfl) (by decide), rfl⟩
theorem dX0_isPromisedFor_31 : pm_dec mX0_isPromisedFor 31 (.aload_n 0, 1) 32 := ⟨dq_42 (d_b dk_X0_isPromisedFor_0 31 rfl), rfl⟩
theorem dX0_isPromisedFor_32 : pm_dec mX0_isPromisedFor 32 (.getfield 25, 3) 35 := ⟨dq_180 (d_b dk_X0_isPromisedFor_0 32 rfl) (d_b dk_X0_isPromisedFor_0 33 rfl) (d_b dk_X0_isPromisedFor_0 34 rfl) rfl, rfl⟩
theorem dX0_isPromisedFor_35 : pm_dec mX0_isPromisedFor 35 (.iload 4, 2) 37 := ⟨dq_21 (d_b dk_X0_isPromisedFor_0 35 rfl) (d_b dk_X0_isPromisedFor_0 36 rfl), rfl⟩
theorem dX0_isPromisedFor_37 : pm_dec mX0_isPromisedFor 37 (.iconst 1, 1) 38 := ⟨dq_4 (d_b dk_X0_isPromisedFor_0 37 rfl), rfl⟩
theorem dX0_isPromisedFor_38 : pm_dec mX0_isPromisedFor 38 (.invokevirtual 39, 3) 41 := ⟨dq_182 (d_b dk_X0_isPromisedFor_0 38 rfl) (d_b dk_X0_isPromisedFor_0 39 rfl) (d_b dk_X0_isPromisedFor_0 40 rfl) rfl, rfl⟩
theorem dX0_isPromisedFor_41 : pm_dec mX0_isPromisedFor 41 (.iload_n 2, 1) 42 := ⟨dq_28 (d_b dk_X0_isPromisedFor_0 41 rfl), rfl⟩
theorem dX0_isPromisedFor_42 : pm_dec mX0_isPromisedFor 42 (.if_icmp .ne 28, 3) 45 := ⟨dq_160 (d_b dk_X0_isPromisedFor_0 42 rfl) (d_b dk_X0_isPromisedFor_0 43 rfl) (d_b dk_X0_isPromisedFor_0 44 rfl) (by decide), rfl⟩
theorem dX0_isPromisedFor_45 : pm_dec mX0_isPromisedFor 45 (.aload_n 0, 1) 46 := ⟨dq_42 (d_b dk_X0_isPromisedFor_0 45 rfl), rfl⟩
theorem dX0_isPromisedFor_46 : pm_dec mX0_isPromisedFor 46 (.getfield 25, 3) 49 := ⟨dq_180 (d_b dk_X0_isPromisedFor_0 46 rfl) (d_b dk_X0_isPromisedFor_0 47 rfl) (d_b dk_X0_isPromisedFor_0 48 rfl) rfl, rfl⟩
def dt_X0_isPromisedFor_49 : List Nat := [21, 4, 6, 182, 0, 39, 4, 160, 0, 14, 42, 21, 4, 182, 0, 51, 153, 0, 5, 4, 172, 132, 4, 1, 167, 255, 194, 3, 172]
theorem dk_X0_isPromisedFor_49 : (((mX0_isPromisedFor.2.1).data.toList.drop 49).take 29).map UInt8.toNat = dt_X0_isPromisedFor_49 := by decide +kernel
theorem dX0_isPromisedFor_49 : pm_dec mX0_isPromisedFor 49 (.iload 4, 2) 51 := ⟨dq_21 (d_b dk_X0_isPromisedFor_49 0 rfl) (d_b dk_X0_isPromisedFor_49 1 rfl), rfl⟩
theorem dX0_isPromisedFor_51 : pm_dec mX0_isPromisedFor 51 (.iconst 3, 1) 52 := ⟨dq_6 (d_b dk_X0_isPromisedFor_49 2 rfl), rfl⟩
theorem dX0_isPromisedFor_52 : pm_dec mX0_isPromisedFor 52 (.invokevirtual 39, 3) 55 := ⟨dq_182 (d_b dk_X0_isPromisedFor_49 3 rfl) (d_b dk_X0_isPromisedFor_49 4 rfl) (d_b dk_X0_isPromisedFor_49 5 rfl) rfl, rfl⟩
theorem dX0_isPromisedFor_55 : pm_dec mX0_isPromisedFor 55 (.iconst 1, 1) 56 := ⟨dq_4 (d_b dk_X0_isPromisedFor_49 6 rfl), rfl⟩
theorem dX0_isPromisedFor_56 : pm_dec mX0_isPromisedFor 56 (.if_icmp .ne 14, 3) 59 := ⟨dq_160 (d_b dk_X0_isPromisedFor_49 7 rfl) (d_b dk_X0_isPromisedFor_49 8 rfl) (d_b dk_X0_isPromisedFor_49 9 rfl) (by decide), rfl⟩
theorem dX0_isPromisedFor_59 : pm_dec mX0_isPromisedFor 59 (.aload_n 0, 1) 60 := ⟨dq_42 (d_b dk_X0_isPromisedFor_49 10 rfl), rfl⟩
theorem dX0_isPromisedFor_60 : pm_dec mX0_isPromisedFor 60 (.iload 4, 2) 62 := ⟨dq_21 (d_b dk_X0_isPromisedFor_49 11 rfl) (d_b dk_X0_isPromisedFor_49 12 rfl), rfl⟩
theorem dX0_isPromisedFor_62 : pm_dec mX0_isPromisedFor 62 (.invokevirtual 51, 3) 65 := ⟨dq_182 (d_b dk_X0_isPromisedFor_49 13 rfl) (d_b dk_X0_isPromisedFor_49 14 rfl) (d_b dk_X0_isPromisedFor_49 15 rfl) rfl, rfl⟩
theorem dX0_isPromisedFor_65 : pm_dec mX0_isPromisedFor 65 (.ifCond .eq 5, 3) 68 := ⟨dq_153 (d_b dk_X0_isPromisedFor_49 16 rfl) (d_b dk_X0_isPromisedFor_49 17 rfl) (d_b dk_X0_isPromisedFor_49 18 rfl) (by decide), rfl⟩
theorem dX0_isPromisedFor_68 : pm_dec mX0_isPromisedFor 68 (.iconst 1, 1) 69 := ⟨dq_4 (d_b dk_X0_isPromisedFor_49 19 rfl), rfl⟩
theorem dX0_isPromisedFor_69 : pm_dec mX0_isPromisedFor 69 (.ireturn, 1) 70 := ⟨dq_172 (d_b dk_X0_isPromisedFor_49 20 rfl), rfl⟩
theorem dX0_isPromisedFor_70 : pm_dec mX0_isPromisedFor 70 (.iinc 4 1, 3) 73 := ⟨dq_132 (d_b dk_X0_isPromisedFor_49 21 rfl) (d_b dk_X0_isPromisedFor_49 22 rfl) (d_b dk_X0_isPromisedFor_49 23 rfl) (by decide), rfl⟩
theorem dX0_isPromisedFor_73 : pm_dec mX0_isPromisedFor 73 (.goto (-62), 3) 76 := ⟨dq_167 (d_b dk_X0_isPromisedFor_49 24 rfl) (d_b dk_X0_isPromisedFor_49 25 rfl) (d_b dk_X0_isPromisedFor_49 26 rfl) (by decide), rfl⟩
theorem dX0_isPromisedFor_76 : pm_dec mX0_isPromisedFor 76 (.iconst 0, 1) 77 := ⟨dq_3 (d_b dk_X0_isPromisedFor_49 27 rfl), rfl⟩
theorem dX0_isPromisedFor_77 : pm_dec mX0_isPromisedFor 77 (.ireturn, 1) 78 := ⟨dq_172 (d_b dk_X0_isPromisedFor_49 28 rfl), rfl⟩
def dt_X0_keepIfBetter_0 : List Nat := [27, 184, 0, 134, 42, 180, 0, 118, 184, 0, 134, 100, 62, 29, 155, 0, 15, 29, 154, 0, 15, 27, 42, 180, 0, 118, 162, 0, 7, 4, 167, 0, 4, 3, 54, 4, 28, 42, 180, 0, 115, 161, 0, 16, 28, 42, 180, 0, 115]
theorem dk_X0_keepIfBetter_0 : (((mX0_keepIfBetter.2.1).data.toList.drop 0).take 49).map UInt8.toNat = dt_X0_keepIfBetter_0 := by decide +kernel
theorem dX0_keepIfBetter_0 : pm_dec mX0_keepIfBetter 0 (.iload_n 1, 1) 1 := ⟨dq_27 (d_b dk_X0_keepIfBetter_0 0 rfl), rfl⟩
theorem dX0_keepIfBetter_1 : pm_dec mX0_keepIfBetter 1 (.invokestatic 134, 3) 4 := ⟨dq_184 (d_b dk_X0_keepIfBetter_0 1 rfl) (d_b dk_X0_keepIfBetter_0 2 rfl) (d_b dk_X0_keepIfBetter_0 3 rfl) rfl, rfl⟩
theorem dX0_keepIfBetter_4 : pm_dec mX0_keepIfBetter 4 (.aload_n 0, 1) 5 := ⟨dq_42 (d_b dk_X0_keepIfBetter_0 4 rfl), rfl⟩
theorem dX0_keepIfBetter_5 : pm_dec mX0_keepIfBetter 5 (.getfield 118, 3) 8 := ⟨dq_180 (d_b dk_X0_keepIfBetter_0 5 rfl) (d_b dk_X0_keepIfBetter_0 6 rfl) (d_b dk_X0_keepIfBetter_0 7 rfl) rfl, rfl⟩
theorem dX0_keepIfBetter_8 : pm_dec mX0_keepIfBetter 8 (.invokestatic 134, 3) 11 := ⟨dq_184 (d_b dk_X0_keepIfBetter_0 8 rfl) (d_b dk_X0_keepIfBetter_0 9 rfl) (d_b dk_X0_keepIfBetter_0 10 rfl) rfl, rfl⟩
theorem dX0_keepIfBetter_11 : pm_dec mX0_keepIfBetter 11 (.isub, 1) 12 := ⟨dq_100 (d_b dk_X0_keepIfBetter_0 11 rfl), rfl⟩
theorem dX0_keepIfBetter_12 : pm_dec mX0_keepIfBetter 12 (.istore_n 3, 1) 13 := ⟨dq_62 (d_b dk_X0_keepIfBetter_0 12 rfl), rfl⟩
theorem dX0_keepIfBetter_13 : pm_dec mX0_keepIfBetter 13 (.iload_n 3, 1) 14 := ⟨dq_29 (d_b dk_X0_keepIfBetter_0 13 rfl), rfl⟩
theorem dX0_keepIfBetter_14 : pm_dec mX0_keepIfBetter 14 (.ifCond .lt 15, 3) 17 := ⟨dq_155 (d_b dk_X0_keepIfBetter_0 14 rfl) (d_b dk_X0_keepIfBetter_0 15 rfl) (d_b dk_X0_keepIfBetter_0 16 rfl) (by decide), rfl⟩
theorem dX0_keepIfBetter_17 : pm_dec mX0_keepIfBetter 17 (.iload_n 3, 1) 18 := ⟨dq_29 (d_b dk_X0_keepIfBetter_0 17 rfl), rfl⟩
theorem dX0_keepIfBetter_18 : pm_dec mX0_keepIfBetter 18 (.ifCond .ne 15, 3) 21 := ⟨dq_154 (d_b dk_X0_keepIfBetter_0 18 rfl) (d_b dk_X0_keepIfBetter_0 19 rfl) (d_b dk_X0_keepIfBetter_0 20 rfl) (by decide), rfl⟩
theorem dX0_keepIfBetter_21 : pm_dec mX0_keepIfBetter 21 (.iload_n 1, 1) 22 := ⟨dq_27 (d_b dk_X0_keepIfBetter_0 21 rfl), rfl⟩
theorem dX0_keepIfBetter_22 : pm_dec mX0_keepIfBetter 22 (.aload_n 0, 1) 23 := ⟨dq_42 (d_b dk_X0_keepIfBetter_0 22 rfl), rfl⟩
theorem dX0_keepIfBetter_23 : pm_dec mX0_keepIfBetter 23 (.getfield 118, 3) 26 := ⟨dq_180 (d_b dk_X0_keepIfBetter_0 23 rfl) (d_b dk_X0_keepIfBetter_0 24 rfl) (d_b dk_X0_keepIfBetter_0 25 rfl) rfl, rfl⟩
theorem dX0_keepIfBetter_26 : pm_dec mX0_keepIfBetter 26 (.if_icmp .ge 7, 3) 29 := ⟨dq_162 (d_b dk_X0_keepIfBetter_0 26 rfl) (d_b dk_X0_keepIfBetter_0 27 rfl) (d_b dk_X0_keepIfBetter_0 28 rfl) (by decide), rfl⟩
theorem dX0_keepIfBetter_29 : pm_dec mX0_keepIfBetter 29 (.iconst 1, 1) 30 := ⟨dq_4 (d_b dk_X0_keepIfBetter_0 29 rfl), rfl⟩
theorem dX0_keepIfBetter_30 : pm_dec mX0_keepIfBetter 30 (.goto 4, 3) 33 := ⟨dq_167 (d_b dk_X0_keepIfBetter_0 30 rfl) (d_b dk_X0_keepIfBetter_0 31 rfl) (d_b dk_X0_keepIfBetter_0 32 rfl) (by decide), rfl⟩
theorem dX0_keepIfBetter_33 : pm_dec mX0_keepIfBetter 33 (.iconst 0, 1) 34 := ⟨dq_3 (d_b dk_X0_keepIfBetter_0 33 rfl), rfl⟩
theorem dX0_keepIfBetter_34 : pm_dec mX0_keepIfBetter 34 (.istore 4, 2) 36 := ⟨dq_54 (d_b dk_X0_keepIfBetter_0 34 rfl) (d_b dk_X0_keepIfBetter_0 35 rfl), rfl⟩
theorem dX0_keepIfBetter_36 : pm_dec mX0_keepIfBetter 36 (.iload_n 2, 1) 37 := ⟨dq_28 (d_b dk_X0_keepIfBetter_0 36 rfl), rfl⟩
theorem dX0_keepIfBetter_37 : pm_dec mX0_keepIfBetter 37 (.aload_n 0, 1) 38 := ⟨dq_42 (d_b dk_X0_keepIfBetter_0 37 rfl), rfl⟩
theorem dX0_keepIfBetter_38 : pm_dec mX0_keepIfBetter 38 (.getfield 115, 3) 41 := ⟨dq_180 (d_b dk_X0_keepIfBetter_0 38 rfl) (d_b dk_X0_keepIfBetter_0 39 rfl) (d_b dk_X0_keepIfBetter_0 40 rfl) rfl, rfl⟩
theorem dX0_keepIfBetter_41 : pm_dec mX0_keepIfBetter 41 (.if_icmp .lt 16, 3) 44 := ⟨dq_161 (d_b dk_X0_keepIfBetter_0 41 rfl) (d_b dk_X0_keepIfBetter_0 42 rfl) (d_b dk_X0_keepIfBetter_0 43 rfl) (by decide), rfl⟩
theorem dX0_keepIfBetter_44 : pm_dec mX0_keepIfBetter 44 (.iload_n 2, 1) 45 := ⟨dq_28 (d_b dk_X0_keepIfBetter_0 44 rfl), rfl⟩
theorem dX0_keepIfBetter_45 : pm_dec mX0_keepIfBetter 45 (.aload_n 0, 1) 46 := ⟨dq_42 (d_b dk_X0_keepIfBetter_0 45 rfl), rfl⟩
theorem dX0_keepIfBetter_46 : pm_dec mX0_keepIfBetter 46 (.getfield 115, 3) 49 := ⟨dq_180 (d_b dk_X0_keepIfBetter_0 46 rfl) (d_b dk_X0_keepIfBetter_0 47 rfl) (d_b dk_X0_keepIfBetter_0 48 rfl) rfl, rfl⟩
def dt_X0_keepIfBetter_49 : List Nat := [160, 0, 18, 21, 4, 153, 0, 13, 42, 28, 181, 0, 115, 42, 27, 181, 0, 118, 177]
theorem dk_X0_keepIfBetter_49 : (((mX0_keepIfBetter.2.1).data.toList.drop 49).take 19).map UInt8.toNat = dt_X0_keepIfBetter_49 := by decide +kernel
theorem dX0_keepIfBetter_49 : pm_dec mX0_keepIfBetter 49 (.if_icmp .ne 18, 3) 52 := ⟨dq_160 (d_b dk_X0_keepIfBetter_49 0 rfl) (d_b dk_X0_keepIfBetter_49 1 rfl) (d_b dk_X0_keepIfBetter_49 2 rfl) (by decide), rfl⟩
theorem dX0_keepIfBetter_52 : pm_dec mX0_keepIfBetter 52 (.iload 4, 2) 54 := ⟨dq_21 (d_b dk_X0_keepIfBetter_49 3 rfl) (d_b dk_X0_keepIfBetter_49 4 rfl), rfl⟩
theorem dX0_keepIfBetter_54 : pm_dec mX0_keepIfBetter 54 (.ifCond .eq 13, 3) 57 := ⟨dq_153 (d_b dk_X0_keepIfBetter_49 5 rfl) (d_b dk_X0_keepIfBetter_49 6 rfl) (d_b dk_X0_keepIfBetter_49 7 rfl) (by decide), rfl⟩
theorem dX0_keepIfBetter_57 : pm_dec mX0_keepIfBetter 57 (.aload_n 0, 1) 58 := ⟨dq_42 (d_b dk_X0_keepIfBetter_49 8 rfl), rfl⟩
theorem dX0_keepIfBetter_58 : pm_dec mX0_keepIfBetter 58 (.iload_n 2, 1) 59 := ⟨dq_28 (d_b dk_X0_keepIfBetter_49 9 rfl), rfl⟩
theorem dX0_keepIfBetter_59 : pm_dec mX0_keepIfBetter 59 (.putfield 115, 3) 62 := ⟨dq_181 (d_b dk_X0_keepIfBetter_49 10 rfl) (d_b dk_X0_keepIfBetter_49 11 rfl) (d_b dk_X0_keepIfBetter_49 12 rfl) rfl, rfl⟩
theorem dX0_keepIfBetter_62 : pm_dec mX0_keepIfBetter 62 (.aload_n 0, 1) 63 := ⟨dq_42 (d_b dk_X0_keepIfBetter_49 13 rfl), rfl⟩
theorem dX0_keepIfBetter_63 : pm_dec mX0_keepIfBetter 63 (.iload_n 1, 1) 64 := ⟨dq_27 (d_b dk_X0_keepIfBetter_49 14 rfl), rfl⟩
theorem dX0_keepIfBetter_64 : pm_dec mX0_keepIfBetter 64 (.putfield 118, 3) 67 := ⟨dq_181 (d_b dk_X0_keepIfBetter_49 15 rfl) (d_b dk_X0_keepIfBetter_49 16 rfl) (d_b dk_X0_keepIfBetter_49 17 rfl) rfl, rfl⟩
theorem dX0_keepIfBetter_67 : pm_dec mX0_keepIfBetter 67 (.return_, 1) 68 := ⟨dq_177 (d_b dk_X0_keepIfBetter_49 18 rfl), rfl⟩
def dt_X0_ruleInForce_0 : List Nat := [42, 180, 0, 9, 180, 0, 63, 182, 0, 47, 60, 3, 61, 28, 27, 162, 0, 49, 42, 180, 0, 9, 180, 0, 63, 28, 16, 13, 182, 0, 39, 153, 0, 27, 42, 180, 0, 15, 3, 42, 180, 0, 9, 180, 0, 43, 42, 180, 0, 9]
theorem dk_X0_ruleInForce_0 : (((mX0_ruleInForce.2.1).data.toList.drop 0).take 50).map UInt8.toNat = dt_X0_ruleInForce_0 := by decide +kernel
theorem dX0_ruleInForce_0 : pm_dec mX0_ruleInForce 0 (.aload_n 0, 1) 1 := ⟨dq_42 (d_b dk_X0_ruleInForce_0 0 rfl), rfl⟩
theorem dX0_ruleInForce_1 : pm_dec mX0_ruleInForce 1 (.getfield 9, 3) 4 := ⟨dq_180 (d_b dk_X0_ruleInForce_0 1 rfl) (d_b dk_X0_ruleInForce_0 2 rfl) (d_b dk_X0_ruleInForce_0 3 rfl) rfl, rfl⟩
theorem dX0_ruleInForce_4 : pm_dec mX0_ruleInForce 4 (.getfield 63, 3) 7 := ⟨dq_180 (d_b dk_X0_ruleInForce_0 4 rfl) (d_b dk_X0_ruleInForce_0 5 rfl) (d_b dk_X0_ruleInForce_0 6 rfl) rfl, rfl⟩
theorem dX0_ruleInForce_7 : pm_dec mX0_ruleInForce 7 (.invokevirtual 47, 3) 10 := ⟨dq_182 (d_b dk_X0_ruleInForce_0 7 rfl) (d_b dk_X0_ruleInForce_0 8 rfl) (d_b dk_X0_ruleInForce_0 9 rfl) rfl, rfl⟩
theorem dX0_ruleInForce_10 : pm_dec mX0_ruleInForce 10 (.istore_n 1, 1) 11 := ⟨dq_60 (d_b dk_X0_ruleInForce_0 10 rfl), rfl⟩
theorem dX0_ruleInForce_11 : pm_dec mX0_ruleInForce 11 (.iconst 0, 1) 12 := ⟨dq_3 (d_b dk_X0_ruleInForce_0 11 rfl), rfl⟩
theorem dX0_ruleInForce_12 : pm_dec mX0_ruleInForce 12 (.istore_n 2, 1) 13 := ⟨dq_61 (d_b dk_X0_ruleInForce_0 12 rfl), rfl⟩
theorem dX0_ruleInForce_13 : pm_dec mX0_ruleInForce 13 (.iload_n 2, 1) 14 := ⟨dq_28 (d_b dk_X0_ruleInForce_0 13 rfl), rfl⟩
theorem dX0_ruleInForce_14 : pm_dec mX0_ruleInForce 14 (.iload_n 1, 1) 15 := ⟨dq_27 (d_b dk_X0_ruleInForce_0 14 rfl), rfl⟩
theorem dX0_ruleInForce_15 : pm_dec mX0_ruleInForce 15 (.if_icmp .ge 49, 3) 18 := ⟨dq_162 (d_b dk_X0_ruleInForce_0 15 rfl) (d_b dk_X0_ruleInForce_0 16 rfl) (d_b dk_X0_ruleInForce_0 17 rfl) (by decide), rfl⟩
theorem dX0_ruleInForce_18 : pm_dec mX0_ruleInForce 18 (.aload_n 0, 1) 19 := ⟨dq_42 (d_b dk_X0_ruleInForce_0 18 rfl), rfl⟩
theorem dX0_ruleInForce_19 : pm_dec mX0_ruleInForce 19 (.getfield 9, 3) 22 := ⟨dq_180 (d_b dk_X0_ruleInForce_0 19 rfl) (d_b dk_X0_ruleInForce_0 20 rfl) (d_b dk_X0_ruleInForce_0 21 rfl) rfl, rfl⟩
theorem dX0_ruleInForce_22 : pm_dec mX0_ruleInForce 22 (.getfield 63, 3) 25 := ⟨dq_180 (d_b dk_X0_ruleInForce_0 22 rfl) (d_b dk_X0_ruleInForce_0 23 rfl) (d_b dk_X0_ruleInForce_0 24 rfl) rfl, rfl⟩
theorem dX0_ruleInForce_25 : pm_dec mX0_ruleInForce 25 (.iload_n 2, 1) 26 := ⟨dq_28 (d_b dk_X0_ruleInForce_0 25 rfl), rfl⟩
theorem dX0_ruleInForce_26 : pm_dec mX0_ruleInForce 26 (.bipush 13, 2) 28 := ⟨dq_16 (d_b dk_X0_ruleInForce_0 26 rfl) (d_b dk_X0_ruleInForce_0 27 rfl) (by decide), rfl⟩
theorem dX0_ruleInForce_28 : pm_dec mX0_ruleInForce 28 (.invokevirtual 39, 3) 31 := ⟨dq_182 (d_b dk_X0_ruleInForce_0 28 rfl) (d_b dk_X0_ruleInForce_0 29 rfl) (d_b dk_X0_ruleInForce_0 30 rfl) rfl, rfl⟩
theorem dX0_ruleInForce_31 : pm_dec mX0_ruleInForce 31 (.ifCond .eq 27, 3) 34 := ⟨dq_153 (d_b dk_X0_ruleInForce_0 31 rfl) (d_b dk_X0_ruleInForce_0 32 rfl) (d_b dk_X0_ruleInForce_0 33 rfl) (by decide), rfl⟩
theorem dX0_ruleInForce_34 : pm_dec mX0_ruleInForce 34 (.aload_n 0, 1) 35 := ⟨dq_42 (d_b dk_X0_ruleInForce_0 34 rfl), rfl⟩
theorem dX0_ruleInForce_35 : pm_dec mX0_ruleInForce 35 (.getfield 15, 3) 38 := ⟨dq_180 (d_b dk_X0_ruleInForce_0 35 rfl) (d_b dk_X0_ruleInForce_0 36 rfl) (d_b dk_X0_ruleInForce_0 37 rfl) rfl, rfl⟩
theorem dX0_ruleInForce_38 : pm_dec mX0_ruleInForce 38 (.iconst 0, 1) 39 := ⟨dq_3 (d_b dk_X0_ruleInForce_0 38 rfl), rfl⟩
theorem dX0_ruleInForce_39 : pm_dec mX0_ruleInForce 39 (.aload_n 0, 1) 40 := ⟨dq_42 (d_b dk_X0_ruleInForce_0 39 rfl), rfl⟩
theorem dX0_ruleInForce_40 : pm_dec mX0_ruleInForce 40 (.getfield 9, 3) 43 := ⟨dq_180 (d_b dk_X0_ruleInForce_0 40 rfl) (d_b dk_X0_ruleInForce_0 41 rfl) (d_b dk_X0_ruleInForce_0 42 rfl) rfl, rfl⟩
theorem dX0_ruleInForce_43 : pm_dec mX0_ruleInForce 43 (.getfield 43, 3) 46 := ⟨dq_180 (d_b dk_X0_ruleInForce_0 43 rfl) (d_b dk_X0_ruleInForce_0 44 rfl) (d_b dk_X0_ruleInForce_0 45 rfl) rfl, rfl⟩
theorem dX0_ruleInForce_46 : pm_dec mX0_ruleInForce 46 (.aload_n 0, 1) 47 := ⟨dq_42 (d_b dk_X0_ruleInForce_0 46 rfl), rfl⟩
theorem dX0_ruleInForce_47 : pm_dec mX0_ruleInForce 47 (.getfield 9, 3) 50 := ⟨dq_180 (d_b dk_X0_ruleInForce_0 47 rfl) (d_b dk_X0_ruleInForce_0 48 rfl) (d_b dk_X0_ruleInForce_0 49 rfl) rfl, rfl⟩
def dt_X0_ruleInForce_50 : List Nat := [28, 182, 0, 91, 182, 0, 94, 172, 132, 2, 1, 167, 255, 208, 2, 172]
theorem dk_X0_ruleInForce_50 : (((mX0_ruleInForce.2.1).data.toList.drop 50).take 16).map UInt8.toNat = dt_X0_ruleInForce_50 := by decide +kernel
theorem dX0_ruleInForce_50 : pm_dec mX0_ruleInForce 50 (.iload_n 2, 1) 51 := ⟨dq_28 (d_b dk_X0_ruleInForce_50 0 rfl), rfl⟩
theorem dX0_ruleInForce_51 : pm_dec mX0_ruleInForce 51 (.invokevirtual 91, 3) 54 := ⟨dq_182 (d_b dk_X0_ruleInForce_50 1 rfl) (d_b dk_X0_ruleInForce_50 2 rfl) (d_b dk_X0_ruleInForce_50 3 rfl) rfl, rfl⟩
theorem dX0_ruleInForce_54 : pm_dec mX0_ruleInForce 54 (.invokevirtual 94, 3) 57 := ⟨dq_182 (d_b dk_X0_ruleInForce_50 4 rfl) (d_b dk_X0_ruleInForce_50 5 rfl) (d_b dk_X0_ruleInForce_50 6 rfl) rfl, rfl⟩
theorem dX0_ruleInForce_57 : pm_dec mX0_ruleInForce 57 (.ireturn, 1) 58 := ⟨dq_172 (d_b dk_X0_ruleInForce_50 7 rfl), rfl⟩
theorem dX0_ruleInForce_58 : pm_dec mX0_ruleInForce 58 (.iinc 2 1, 3) 61 := ⟨dq_132 (d_b dk_X0_ruleInForce_50 8 rfl) (d_b dk_X0_ruleInForce_50 9 rfl) (d_b dk_X0_ruleInForce_50 10 rfl) (by decide), rfl⟩
theorem dX0_ruleInForce_61 : pm_dec mX0_ruleInForce 61 (.goto (-48), 3) 64 := ⟨dq_167 (d_b dk_X0_ruleInForce_50 11 rfl) (d_b dk_X0_ruleInForce_50 12 rfl) (d_b dk_X0_ruleInForce_50 13 rfl) (by decide), rfl⟩
theorem dX0_ruleInForce_64 : pm_dec mX0_ruleInForce 64 (.iconst (-1), 1) 65 := ⟨dq_2 (d_b dk_X0_ruleInForce_50 14 rfl), rfl⟩
theorem dX0_ruleInForce_65 : pm_dec mX0_ruleInForce 65 (.ireturn, 1) 66 := ⟨dq_172 (d_b dk_X0_ruleInForce_50 15 rfl), rfl⟩
def dt_X0_stands_0 : List Nat := [42, 180, 0, 25, 27, 7, 182, 0, 39, 154, 0, 26, 42, 180, 0, 25, 27, 5, 182, 0, 39, 42, 180, 0, 9, 180, 0, 43, 161, 0, 7, 4, 167, 0, 4, 3, 172]
theorem dk_X0_stands_0 : (((mX0_stands.2.1).data.toList.drop 0).take 37).map UInt8.toNat = dt_X0_stands_0 := by decide +kernel
theorem dX0_stands_0 : pm_dec mX0_stands 0 (.aload_n 0, 1) 1 := ⟨dq_42 (d_b dk_X0_stands_0 0 rfl), rfl⟩
theorem dX0_stands_1 : pm_dec mX0_stands 1 (.getfield 25, 3) 4 := ⟨dq_180 (d_b dk_X0_stands_0 1 rfl) (d_b dk_X0_stands_0 2 rfl) (d_b dk_X0_stands_0 3 rfl) rfl, rfl⟩
theorem dX0_stands_4 : pm_dec mX0_stands 4 (.iload_n 1, 1) 5 := ⟨dq_27 (d_b dk_X0_stands_0 4 rfl), rfl⟩
theorem dX0_stands_5 : pm_dec mX0_stands 5 (.iconst 4, 1) 6 := ⟨dq_7 (d_b dk_X0_stands_0 5 rfl), rfl⟩
theorem dX0_stands_6 : pm_dec mX0_stands 6 (.invokevirtual 39, 3) 9 := ⟨dq_182 (d_b dk_X0_stands_0 6 rfl) (d_b dk_X0_stands_0 7 rfl) (d_b dk_X0_stands_0 8 rfl) rfl, rfl⟩
theorem dX0_stands_9 : pm_dec mX0_stands 9 (.ifCond .ne 26, 3) 12 := ⟨dq_154 (d_b dk_X0_stands_0 9 rfl) (d_b dk_X0_stands_0 10 rfl) (d_b dk_X0_stands_0 11 rfl) (by decide), rfl⟩
theorem dX0_stands_12 : pm_dec mX0_stands 12 (.aload_n 0, 1) 13 := ⟨dq_42 (d_b dk_X0_stands_0 12 rfl), rfl⟩
theorem dX0_stands_13 : pm_dec mX0_stands 13 (.getfield 25, 3) 16 := ⟨dq_180 (d_b dk_X0_stands_0 13 rfl) (d_b dk_X0_stands_0 14 rfl) (d_b dk_X0_stands_0 15 rfl) rfl, rfl⟩
theorem dX0_stands_16 : pm_dec mX0_stands 16 (.iload_n 1, 1) 17 := ⟨dq_27 (d_b dk_X0_stands_0 16 rfl), rfl⟩
theorem dX0_stands_17 : pm_dec mX0_stands 17 (.iconst 2, 1) 18 := ⟨dq_5 (d_b dk_X0_stands_0 17 rfl), rfl⟩
theorem dX0_stands_18 : pm_dec mX0_stands 18 (.invokevirtual 39, 3) 21 := ⟨dq_182 (d_b dk_X0_stands_0 18 rfl) (d_b dk_X0_stands_0 19 rfl) (d_b dk_X0_stands_0 20 rfl) rfl, rfl⟩
theorem dX0_stands_21 : pm_dec mX0_stands 21 (.aload_n 0, 1) 22 := ⟨dq_42 (d_b dk_X0_stands_0 21 rfl), rfl⟩
theorem dX0_stands_22 : pm_dec mX0_stands 22 (.getfield 9, 3) 25 := ⟨dq_180 (d_b dk_X0_stands_0 22 rfl) (d_b dk_X0_stands_0 23 rfl) (d_b dk_X0_stands_0 24 rfl) rfl, rfl⟩
theorem dX0_stands_25 : pm_dec mX0_stands 25 (.getfield 43, 3) 28 := ⟨dq_180 (d_b dk_X0_stands_0 25 rfl) (d_b dk_X0_stands_0 26 rfl) (d_b dk_X0_stands_0 27 rfl) rfl, rfl⟩
theorem dX0_stands_28 : pm_dec mX0_stands 28 (.if_icmp .lt 7, 3) 31 := ⟨dq_161 (d_b dk_X0_stands_0 28 rfl) (d_b dk_X0_stands_0 29 rfl) (d_b dk_X0_stands_0 30 rfl) (by decide), rfl⟩
theorem dX0_stands_31 : pm_dec mX0_stands 31 (.iconst 1, 1) 32 := ⟨dq_4 (d_b dk_X0_stands_0 31 rfl), rfl⟩
theorem dX0_stands_32 : pm_dec mX0_stands 32 (.goto 4, 3) 35 := ⟨dq_167 (d_b dk_X0_stands_0 32 rfl) (d_b dk_X0_stands_0 33 rfl) (d_b dk_X0_stands_0 34 rfl) (by decide), rfl⟩
theorem dX0_stands_35 : pm_dec mX0_stands 35 (.iconst 0, 1) 36 := ⟨dq_3 (d_b dk_X0_stands_0 35 rfl), rfl⟩
theorem dX0_stands_36 : pm_dec mX0_stands 36 (.ireturn, 1) 37 := ⟨dq_172 (d_b dk_X0_stands_0 36 rfl), rfl⟩
def dt_X0_unseat_0 : List Nat := [42, 180, 0, 9, 180, 0, 63, 27, 16, 13, 3, 182, 0, 55, 42, 27, 4, 182, 0, 66, 87, 177]
theorem dk_X0_unseat_0 : (((mX0_unseat.2.1).data.toList.drop 0).take 22).map UInt8.toNat = dt_X0_unseat_0 := by decide +kernel
theorem dX0_unseat_0 : pm_dec mX0_unseat 0 (.aload_n 0, 1) 1 := ⟨dq_42 (d_b dk_X0_unseat_0 0 rfl), rfl⟩
theorem dX0_unseat_1 : pm_dec mX0_unseat 1 (.getfield 9, 3) 4 := ⟨dq_180 (d_b dk_X0_unseat_0 1 rfl) (d_b dk_X0_unseat_0 2 rfl) (d_b dk_X0_unseat_0 3 rfl) rfl, rfl⟩
theorem dX0_unseat_4 : pm_dec mX0_unseat 4 (.getfield 63, 3) 7 := ⟨dq_180 (d_b dk_X0_unseat_0 4 rfl) (d_b dk_X0_unseat_0 5 rfl) (d_b dk_X0_unseat_0 6 rfl) rfl, rfl⟩
theorem dX0_unseat_7 : pm_dec mX0_unseat 7 (.iload_n 1, 1) 8 := ⟨dq_27 (d_b dk_X0_unseat_0 7 rfl), rfl⟩
theorem dX0_unseat_8 : pm_dec mX0_unseat 8 (.bipush 13, 2) 10 := ⟨dq_16 (d_b dk_X0_unseat_0 8 rfl) (d_b dk_X0_unseat_0 9 rfl) (by decide), rfl⟩
theorem dX0_unseat_10 : pm_dec mX0_unseat 10 (.iconst 0, 1) 11 := ⟨dq_3 (d_b dk_X0_unseat_0 10 rfl), rfl⟩
theorem dX0_unseat_11 : pm_dec mX0_unseat 11 (.invokevirtual 55, 3) 14 := ⟨dq_182 (d_b dk_X0_unseat_0 11 rfl) (d_b dk_X0_unseat_0 12 rfl) (d_b dk_X0_unseat_0 13 rfl) rfl, rfl⟩
theorem dX0_unseat_14 : pm_dec mX0_unseat 14 (.aload_n 0, 1) 15 := ⟨dq_42 (d_b dk_X0_unseat_0 14 rfl), rfl⟩
theorem dX0_unseat_15 : pm_dec mX0_unseat 15 (.iload_n 1, 1) 16 := ⟨dq_27 (d_b dk_X0_unseat_0 15 rfl), rfl⟩
theorem dX0_unseat_16 : pm_dec mX0_unseat 16 (.iconst 1, 1) 17 := ⟨dq_4 (d_b dk_X0_unseat_0 16 rfl), rfl⟩
theorem dX0_unseat_17 : pm_dec mX0_unseat 17 (.invokevirtual 66, 3) 20 := ⟨dq_182 (d_b dk_X0_unseat_0 17 rfl) (d_b dk_X0_unseat_0 18 rfl) (d_b dk_X0_unseat_0 19 rfl) rfl, rfl⟩
theorem dX0_unseat_20 : pm_dec mX0_unseat 20 (.pop, 1) 21 := ⟨dq_87 (d_b dk_X0_unseat_0 20 rfl), rfl⟩
theorem dX0_unseat_21 : pm_dec mX0_unseat 21 (.return_, 1) 22 := ⟨dq_177 (d_b dk_X0_unseat_0 21 rfl), rfl⟩
def dt_X0_weigh_0 : List Nat := [42, 3, 181, 0, 69, 42, 3, 181, 0, 72, 42, 180, 0, 36, 182, 0, 75, 42, 182, 0, 78, 61, 42, 180, 0, 9, 180, 0, 63, 182, 0, 47, 62, 3, 54, 4, 21, 4, 29, 162, 0, 40, 42, 180, 0, 9, 180, 0, 63]
theorem dk_X0_weigh_0 : (((mX0_weigh.2.1).data.toList.drop 0).take 49).map UInt8.toNat = dt_X0_weigh_0 := by decide +kernel
theorem dX0_weigh_0 : pm_dec mX0_weigh 0 (.aload_n 0, 1) 1 := ⟨dq_42 (d_b dk_X0_weigh_0 0 rfl), rfl⟩
theorem dX0_weigh_1 : pm_dec mX0_weigh 1 (.iconst 0, 1) 2 := ⟨dq_3 (d_b dk_X0_weigh_0 1 rfl), rfl⟩
theorem dX0_weigh_2 : pm_dec mX0_weigh 2 (.putfield 69, 3) 5 := ⟨dq_181 (d_b dk_X0_weigh_0 2 rfl) (d_b dk_X0_weigh_0 3 rfl) (d_b dk_X0_weigh_0 4 rfl) rfl, rfl⟩
theorem dX0_weigh_5 : pm_dec mX0_weigh 5 (.aload_n 0, 1) 6 := ⟨dq_42 (d_b dk_X0_weigh_0 5 rfl), rfl⟩
theorem dX0_weigh_6 : pm_dec mX0_weigh 6 (.iconst 0, 1) 7 := ⟨dq_3 (d_b dk_X0_weigh_0 6 rfl), rfl⟩
theorem dX0_weigh_7 : pm_dec mX0_weigh 7 (.putfield 72, 3) 10 := ⟨dq_181 (d_b dk_X0_weigh_0 7 rfl) (d_b dk_X0_weigh_0 8 rfl) (d_b dk_X0_weigh_0 9 rfl) rfl, rfl⟩
theorem dX0_weigh_10 : pm_dec mX0_weigh 10 (.aload_n 0, 1) 11 := ⟨dq_42 (d_b dk_X0_weigh_0 10 rfl), rfl⟩
theorem dX0_weigh_11 : pm_dec mX0_weigh 11 (.getfield 36, 3) 14 := ⟨dq_180 (d_b dk_X0_weigh_0 11 rfl) (d_b dk_X0_weigh_0 12 rfl) (d_b dk_X0_weigh_0 13 rfl) rfl, rfl⟩
theorem dX0_weigh_14 : pm_dec mX0_weigh 14 (.invokevirtual 75, 3) 17 := ⟨dq_182 (d_b dk_X0_weigh_0 14 rfl) (d_b dk_X0_weigh_0 15 rfl) (d_b dk_X0_weigh_0 16 rfl) rfl, rfl⟩
theorem dX0_weigh_17 : pm_dec mX0_weigh 17 (.aload_n 0, 1) 18 := ⟨dq_42 (d_b dk_X0_weigh_0 17 rfl), rfl⟩
theorem dX0_weigh_18 : pm_dec mX0_weigh 18 (.invokevirtual 78, 3) 21 := ⟨dq_182 (d_b dk_X0_weigh_0 18 rfl) (d_b dk_X0_weigh_0 19 rfl) (d_b dk_X0_weigh_0 20 rfl) rfl, rfl⟩
theorem dX0_weigh_21 : pm_dec mX0_weigh 21 (.istore_n 2, 1) 22 := ⟨dq_61 (d_b dk_X0_weigh_0 21 rfl), rfl⟩
theorem dX0_weigh_22 : pm_dec mX0_weigh 22 (.aload_n 0, 1) 23 := ⟨dq_42 (d_b dk_X0_weigh_0 22 rfl), rfl⟩
theorem dX0_weigh_23 : pm_dec mX0_weigh 23 (.getfield 9, 3) 26 := ⟨dq_180 (d_b dk_X0_weigh_0 23 rfl) (d_b dk_X0_weigh_0 24 rfl) (d_b dk_X0_weigh_0 25 rfl) rfl, rfl⟩
theorem dX0_weigh_26 : pm_dec mX0_weigh 26 (.getfield 63, 3) 29 := ⟨dq_180 (d_b dk_X0_weigh_0 26 rfl) (d_b dk_X0_weigh_0 27 rfl) (d_b dk_X0_weigh_0 28 rfl) rfl, rfl⟩
theorem dX0_weigh_29 : pm_dec mX0_weigh 29 (.invokevirtual 47, 3) 32 := ⟨dq_182 (d_b dk_X0_weigh_0 29 rfl) (d_b dk_X0_weigh_0 30 rfl) (d_b dk_X0_weigh_0 31 rfl) rfl, rfl⟩
theorem dX0_weigh_32 : pm_dec mX0_weigh 32 (.istore_n 3, 1) 33 := ⟨dq_62 (d_b dk_X0_weigh_0 32 rfl), rfl⟩
theorem dX0_weigh_33 : pm_dec mX0_weigh 33 (.iconst 0, 1) 34 := ⟨dq_3 (d_b dk_X0_weigh_0 33 rfl), rfl⟩
theorem dX0_weigh_34 : pm_dec mX0_weigh 34 (.istore 4, 2) 36 := ⟨dq_54 (d_b dk_X0_weigh_0 34 rfl) (d_b dk_X0_weigh_0 35 rfl), rfl⟩
theorem dX0_weigh_36 : pm_dec mX0_weigh 36 (.iload 4, 2) 38 := ⟨dq_21 (d_b dk_X0_weigh_0 36 rfl) (d_b dk_X0_weigh_0 37 rfl), rfl⟩
theorem dX0_weigh_38 : pm_dec mX0_weigh 38 (.iload_n 3, 1) 39 := ⟨dq_29 (d_b dk_X0_weigh_0 38 rfl), rfl⟩
theorem dX0_weigh_39 : pm_dec mX0_weigh 39 (.if_icmp .ge 40, 3) 42 := ⟨dq_162 (d_b dk_X0_weigh_0 39 rfl) (d_b dk_X0_weigh_0 40 rfl) (d_b dk_X0_weigh_0 41 rfl) (by decide), rfl⟩
theorem dX0_weigh_42 : pm_dec mX0_weigh 42 (.aload_n 0, 1) 43 := ⟨dq_42 (d_b dk_X0_weigh_0 42 rfl), rfl⟩
theorem dX0_weigh_43 : pm_dec mX0_weigh 43 (.getfield 9, 3) 46 := ⟨dq_180 (d_b dk_X0_weigh_0 43 rfl) (d_b dk_X0_weigh_0 44 rfl) (d_b dk_X0_weigh_0 45 rfl) rfl, rfl⟩
theorem dX0_weigh_46 : pm_dec mX0_weigh 46 (.getfield 63, 3) 49 := ⟨dq_180 (d_b dk_X0_weigh_0 46 rfl) (d_b dk_X0_weigh_0 47 rfl) (d_b dk_X0_weigh_0 48 rfl) rfl, rfl⟩
def dt_X0_weigh_49 : List Nat := [21, 4, 16, 13, 182, 0, 39, 153, 0, 17, 42, 21, 4, 27, 42, 21, 4, 28, 182, 0, 81, 182, 0, 84, 132, 4, 1, 167, 255, 216, 177]
theorem dk_X0_weigh_49 : (((mX0_weigh.2.1).data.toList.drop 49).take 31).map UInt8.toNat = dt_X0_weigh_49 := by decide +kernel
theorem dX0_weigh_49 : pm_dec mX0_weigh 49 (.iload 4, 2) 51 := ⟨dq_21 (d_b dk_X0_weigh_49 0 rfl) (d_b dk_X0_weigh_49 1 rfl), rfl⟩
theorem dX0_weigh_51 : pm_dec mX0_weigh 51 (.bipush 13, 2) 53 := ⟨dq_16 (d_b dk_X0_weigh_49 2 rfl) (d_b dk_X0_weigh_49 3 rfl) (by decide), rfl⟩
theorem dX0_weigh_53 : pm_dec mX0_weigh 53 (.invokevirtual 39, 3) 56 := ⟨dq_182 (d_b dk_X0_weigh_49 4 rfl) (d_b dk_X0_weigh_49 5 rfl) (d_b dk_X0_weigh_49 6 rfl) rfl, rfl⟩
theorem dX0_weigh_56 : pm_dec mX0_weigh 56 (.ifCond .eq 17, 3) 59 := ⟨dq_153 (d_b dk_X0_weigh_49 7 rfl) (d_b dk_X0_weigh_49 8 rfl) (d_b dk_X0_weigh_49 9 rfl) (by decide), rfl⟩
theorem dX0_weigh_59 : pm_dec mX0_weigh 59 (.aload_n 0, 1) 60 := ⟨dq_42 (d_b dk_X0_weigh_49 10 rfl), rfl⟩
theorem dX0_weigh_60 : pm_dec mX0_weigh 60 (.iload 4, 2) 62 := ⟨dq_21 (d_b dk_X0_weigh_49 11 rfl) (d_b dk_X0_weigh_49 12 rfl), rfl⟩
theorem dX0_weigh_62 : pm_dec mX0_weigh 62 (.iload_n 1, 1) 63 := ⟨dq_27 (d_b dk_X0_weigh_49 13 rfl), rfl⟩
theorem dX0_weigh_63 : pm_dec mX0_weigh 63 (.aload_n 0, 1) 64 := ⟨dq_42 (d_b dk_X0_weigh_49 14 rfl), rfl⟩
theorem dX0_weigh_64 : pm_dec mX0_weigh 64 (.iload 4, 2) 66 := ⟨dq_21 (d_b dk_X0_weigh_49 15 rfl) (d_b dk_X0_weigh_49 16 rfl), rfl⟩
theorem dX0_weigh_66 : pm_dec mX0_weigh 66 (.iload_n 2, 1) 67 := ⟨dq_28 (d_b dk_X0_weigh_49 17 rfl), rfl⟩
theorem dX0_weigh_67 : pm_dec mX0_weigh 67 (.invokevirtual 81, 3) 70 := ⟨dq_182 (d_b dk_X0_weigh_49 18 rfl) (d_b dk_X0_weigh_49 19 rfl) (d_b dk_X0_weigh_49 20 rfl) rfl, rfl⟩
theorem dX0_weigh_70 : pm_dec mX0_weigh 70 (.invokevirtual 84, 3) 73 := ⟨dq_182 (d_b dk_X0_weigh_49 21 rfl) (d_b dk_X0_weigh_49 22 rfl) (d_b dk_X0_weigh_49 23 rfl) rfl, rfl⟩
theorem dX0_weigh_73 : pm_dec mX0_weigh 73 (.iinc 4 1, 3) 76 := ⟨dq_132 (d_b dk_X0_weigh_49 24 rfl) (d_b dk_X0_weigh_49 25 rfl) (d_b dk_X0_weigh_49 26 rfl) (by decide), rfl⟩
theorem dX0_weigh_76 : pm_dec mX0_weigh 76 (.goto (-40), 3) 79 := ⟨dq_167 (d_b dk_X0_weigh_49 27 rfl) (d_b dk_X0_weigh_49 28 rfl) (d_b dk_X0_weigh_49 29 rfl) (by decide), rfl⟩
theorem dX0_weigh_79 : pm_dec mX0_weigh 79 (.return_, 1) 80 := ⟨dq_177 (d_b dk_X0_weigh_49 30 rfl), rfl⟩
def dt_X0_weighOne_0 : List Nat := [42, 180, 0, 33, 27, 3, 29, 182, 0, 55, 42, 89, 180, 0, 72, 29, 96, 181, 0, 72, 42, 27, 28, 182, 0, 87, 153, 0, 16, 42, 89, 180, 0, 69, 29, 96, 181, 0, 69, 167, 0, 12, 42, 180, 0, 36, 27, 182, 0, 59]
theorem dk_X0_weighOne_0 : (((mX0_weighOne.2.1).data.toList.drop 0).take 50).map UInt8.toNat = dt_X0_weighOne_0 := by decide +kernel
theorem dX0_weighOne_0 : pm_dec mX0_weighOne 0 (.aload_n 0, 1) 1 := ⟨dq_42 (d_b dk_X0_weighOne_0 0 rfl), rfl⟩
theorem dX0_weighOne_1 : pm_dec mX0_weighOne 1 (.getfield 33, 3) 4 := ⟨dq_180 (d_b dk_X0_weighOne_0 1 rfl) (d_b dk_X0_weighOne_0 2 rfl) (d_b dk_X0_weighOne_0 3 rfl) rfl, rfl⟩
theorem dX0_weighOne_4 : pm_dec mX0_weighOne 4 (.iload_n 1, 1) 5 := ⟨dq_27 (d_b dk_X0_weighOne_0 4 rfl), rfl⟩
theorem dX0_weighOne_5 : pm_dec mX0_weighOne 5 (.iconst 0, 1) 6 := ⟨dq_3 (d_b dk_X0_weighOne_0 5 rfl), rfl⟩
theorem dX0_weighOne_6 : pm_dec mX0_weighOne 6 (.iload_n 3, 1) 7 := ⟨dq_29 (d_b dk_X0_weighOne_0 6 rfl), rfl⟩
theorem dX0_weighOne_7 : pm_dec mX0_weighOne 7 (.invokevirtual 55, 3) 10 := ⟨dq_182 (d_b dk_X0_weighOne_0 7 rfl) (d_b dk_X0_weighOne_0 8 rfl) (d_b dk_X0_weighOne_0 9 rfl) rfl, rfl⟩
theorem dX0_weighOne_10 : pm_dec mX0_weighOne 10 (.aload_n 0, 1) 11 := ⟨dq_42 (d_b dk_X0_weighOne_0 10 rfl), rfl⟩
theorem dX0_weighOne_11 : pm_dec mX0_weighOne 11 (.dup, 1) 12 := ⟨dq_89 (d_b dk_X0_weighOne_0 11 rfl), rfl⟩
theorem dX0_weighOne_12 : pm_dec mX0_weighOne 12 (.getfield 72, 3) 15 := ⟨dq_180 (d_b dk_X0_weighOne_0 12 rfl) (d_b dk_X0_weighOne_0 13 rfl) (d_b dk_X0_weighOne_0 14 rfl) rfl, rfl⟩
theorem dX0_weighOne_15 : pm_dec mX0_weighOne 15 (.iload_n 3, 1) 16 := ⟨dq_29 (d_b dk_X0_weighOne_0 15 rfl), rfl⟩
theorem dX0_weighOne_16 : pm_dec mX0_weighOne 16 (.iadd, 1) 17 := ⟨dq_96 (d_b dk_X0_weighOne_0 16 rfl), rfl⟩
theorem dX0_weighOne_17 : pm_dec mX0_weighOne 17 (.putfield 72, 3) 20 := ⟨dq_181 (d_b dk_X0_weighOne_0 17 rfl) (d_b dk_X0_weighOne_0 18 rfl) (d_b dk_X0_weighOne_0 19 rfl) rfl, rfl⟩
theorem dX0_weighOne_20 : pm_dec mX0_weighOne 20 (.aload_n 0, 1) 21 := ⟨dq_42 (d_b dk_X0_weighOne_0 20 rfl), rfl⟩
theorem dX0_weighOne_21 : pm_dec mX0_weighOne 21 (.iload_n 1, 1) 22 := ⟨dq_27 (d_b dk_X0_weighOne_0 21 rfl), rfl⟩
theorem dX0_weighOne_22 : pm_dec mX0_weighOne 22 (.iload_n 2, 1) 23 := ⟨dq_28 (d_b dk_X0_weighOne_0 22 rfl), rfl⟩
theorem dX0_weighOne_23 : pm_dec mX0_weighOne 23 (.invokevirtual 87, 3) 26 := ⟨dq_182 (d_b dk_X0_weighOne_0 23 rfl) (d_b dk_X0_weighOne_0 24 rfl) (d_b dk_X0_weighOne_0 25 rfl) rfl, rfl⟩
theorem dX0_weighOne_26 : pm_dec mX0_weighOne 26 (.ifCond .eq 16, 3) 29 := ⟨dq_153 (d_b dk_X0_weighOne_0 26 rfl) (d_b dk_X0_weighOne_0 27 rfl) (d_b dk_X0_weighOne_0 28 rfl) (by decide), rfl⟩
theorem dX0_weighOne_29 : pm_dec mX0_weighOne 29 (.aload_n 0, 1) 30 := ⟨dq_42 (d_b dk_X0_weighOne_0 29 rfl), rfl⟩
theorem dX0_weighOne_30 : pm_dec mX0_weighOne 30 (.dup, 1) 31 := ⟨dq_89 (d_b dk_X0_weighOne_0 30 rfl), rfl⟩
theorem dX0_weighOne_31 : pm_dec mX0_weighOne 31 (.getfield 69, 3) 34 := ⟨dq_180 (d_b dk_X0_weighOne_0 31 rfl) (d_b dk_X0_weighOne_0 32 rfl) (d_b dk_X0_weighOne_0 33 rfl) rfl, rfl⟩
theorem dX0_weighOne_34 : pm_dec mX0_weighOne 34 (.iload_n 3, 1) 35 := ⟨dq_29 (d_b dk_X0_weighOne_0 34 rfl), rfl⟩
theorem dX0_weighOne_35 : pm_dec mX0_weighOne 35 (.iadd, 1) 36 := ⟨dq_96 (d_b dk_X0_weighOne_0 35 rfl), rfl⟩
theorem dX0_weighOne_36 : pm_dec mX0_weighOne 36 (.putfield 69, 3) 39 := ⟨dq_181 (d_b dk_X0_weighOne_0 36 rfl) (d_b dk_X0_weighOne_0 37 rfl) (d_b dk_X0_weighOne_0 38 rfl) rfl, rfl⟩
theorem dX0_weighOne_39 : pm_dec mX0_weighOne 39 (.goto 12, 3) 42 := ⟨dq_167 (d_b dk_X0_weighOne_0 39 rfl) (d_b dk_X0_weighOne_0 40 rfl) (d_b dk_X0_weighOne_0 41 rfl) (by decide), rfl⟩
theorem dX0_weighOne_42 : pm_dec mX0_weighOne 42 (.aload_n 0, 1) 43 := ⟨dq_42 (d_b dk_X0_weighOne_0 42 rfl), rfl⟩
theorem dX0_weighOne_43 : pm_dec mX0_weighOne 43 (.getfield 36, 3) 46 := ⟨dq_180 (d_b dk_X0_weighOne_0 43 rfl) (d_b dk_X0_weighOne_0 44 rfl) (d_b dk_X0_weighOne_0 45 rfl) rfl, rfl⟩
theorem dX0_weighOne_46 : pm_dec mX0_weighOne 46 (.iload_n 1, 1) 47 := ⟨dq_27 (d_b dk_X0_weighOne_0 46 rfl), rfl⟩
theorem dX0_weighOne_47 : pm_dec mX0_weighOne 47 (.invokevirtual 59, 3) 50 := ⟨dq_182 (d_b dk_X0_weighOne_0 47 rfl) (d_b dk_X0_weighOne_0 48 rfl) (d_b dk_X0_weighOne_0 49 rfl) rfl, rfl⟩
def dt_X0_weighOne_50 : List Nat := [87, 177]
theorem dk_X0_weighOne_50 : (((mX0_weighOne.2.1).data.toList.drop 50).take 2).map UInt8.toNat = dt_X0_weighOne_50 := by decide +kernel
theorem dX0_weighOne_50 : pm_dec mX0_weighOne 50 (.pop, 1) 51 := ⟨dq_87 (d_b dk_X0_weighOne_50 0 rfl), rfl⟩
theorem dX0_weighOne_51 : pm_dec mX0_weighOne 51 (.return_, 1) 52 := ⟨dq_177 (d_b dk_X0_weighOne_50 1 rfl), rfl⟩
def dt_X0_weightOf_0 : List Nat := [28, 155, 0, 25, 42, 180, 0, 15, 28, 27, 2, 42, 180, 0, 9, 180, 0, 43, 182, 0, 100, 154, 0, 5, 3, 172, 4, 62, 42, 180, 0, 9, 180, 0, 104, 182, 0, 47, 54, 4, 3, 54, 5, 21, 5, 21, 4, 162, 0, 42]
theorem dk_X0_weightOf_0 : (((mX0_weightOf.2.1).data.toList.drop 0).take 50).map UInt8.toNat = dt_X0_weightOf_0 := by decide +kernel
theorem dX0_weightOf_0 : pm_dec mX0_weightOf 0 (.iload_n 2, 1) 1 := ⟨dq_28 (d_b dk_X0_weightOf_0 0 rfl), rfl⟩
theorem dX0_weightOf_1 : pm_dec mX0_weightOf 1 (.ifCond .lt 25, 3) 4 := ⟨dq_155 (d_b dk_X0_weightOf_0 1 rfl) (d_b dk_X0_weightOf_0 2 rfl) (d_b dk_X0_weightOf_0 3 rfl) (by decide), rfl⟩
theorem dX0_weightOf_4 : pm_dec mX0_weightOf 4 (.aload_n 0, 1) 5 := ⟨dq_42 (d_b dk_X0_weightOf_0 4 rfl), rfl⟩
theorem dX0_weightOf_5 : pm_dec mX0_weightOf 5 (.getfield 15, 3) 8 := ⟨dq_180 (d_b dk_X0_weightOf_0 5 rfl) (d_b dk_X0_weightOf_0 6 rfl) (d_b dk_X0_weightOf_0 7 rfl) rfl, rfl⟩
theorem dX0_weightOf_8 : pm_dec mX0_weightOf 8 (.iload_n 2, 1) 9 := ⟨dq_28 (d_b dk_X0_weightOf_0 8 rfl), rfl⟩
theorem dX0_weightOf_9 : pm_dec mX0_weightOf 9 (.iload_n 1, 1) 10 := ⟨dq_27 (d_b dk_X0_weightOf_0 9 rfl), rfl⟩
theorem dX0_weightOf_10 : pm_dec mX0_weightOf 10 (.iconst (-1), 1) 11 := ⟨dq_2 (d_b dk_X0_weightOf_0 10 rfl), rfl⟩
theorem dX0_weightOf_11 : pm_dec mX0_weightOf 11 (.aload_n 0, 1) 12 := ⟨dq_42 (d_b dk_X0_weightOf_0 11 rfl), rfl⟩
theorem dX0_weightOf_12 : pm_dec mX0_weightOf 12 (.getfield 9, 3) 15 := ⟨dq_180 (d_b dk_X0_weightOf_0 12 rfl) (d_b dk_X0_weightOf_0 13 rfl) (d_b dk_X0_weightOf_0 14 rfl) rfl, rfl⟩
theorem dX0_weightOf_15 : pm_dec mX0_weightOf 15 (.getfield 43, 3) 18 := ⟨dq_180 (d_b dk_X0_weightOf_0 15 rfl) (d_b dk_X0_weightOf_0 16 rfl) (d_b dk_X0_weightOf_0 17 rfl) rfl, rfl⟩
theorem dX0_weightOf_18 : pm_dec mX0_weightOf 18 (.invokevirtual 100, 3) 21 := ⟨dq_182 (d_b dk_X0_weightOf_0 18 rfl) (d_b dk_X0_weightOf_0 19 rfl) (d_b dk_X0_weightOf_0 20 rfl) rfl, rfl⟩
theorem dX0_weightOf_21 : pm_dec mX0_weightOf 21 (.ifCond .ne 5, 3) 24 := ⟨dq_154 (d_b dk_X0_weightOf_0 21 rfl) (d_b dk_X0_weightOf_0 22 rfl) (d_b dk_X0_weightOf_0 23 rfl) (by decide), rfl⟩
theorem dX0_weightOf_24 : pm_dec mX0_weightOf 24 (.iconst 0, 1) 25 := ⟨dq_3 (d_b dk_X0_weightOf_0 24 rfl), rfl⟩
theorem dX0_weightOf_25 : pm_dec mX0_weightOf 25 (.ireturn, 1) 26 := ⟨dq_172 (d_b dk_X0_weightOf_0 25 rfl), rfl⟩
theorem dX0_weightOf_26 : pm_dec mX0_weightOf 26 (.iconst 1, 1) 27 := ⟨dq_4 (d_b dk_X0_weightOf_0 26 rfl), rfl⟩
theorem dX0_weightOf_27 : pm_dec mX0_weightOf 27 (.istore_n 3, 1) 28 := ⟨dq_62 (d_b dk_X0_weightOf_0 27 rfl), rfl⟩
theorem dX0_weightOf_28 : pm_dec mX0_weightOf 28 (.aload_n 0, 1) 29 := ⟨dq_42 (d_b dk_X0_weightOf_0 28 rfl), rfl⟩
theorem dX0_weightOf_29 : pm_dec mX0_weightOf 29 (.getfield 9, 3) 32 := ⟨dq_180 (d_b dk_X0_weightOf_0 29 rfl) (d_b dk_X0_weightOf_0 30 rfl) (d_b dk_X0_weightOf_0 31 rfl) rfl, rfl⟩
theorem dX0_weightOf_32 : pm_dec mX0_weightOf 32 (.getfield 104, 3) 35 := ⟨dq_180 (d_b dk_X0_weightOf_0 32 rfl) (d_b dk_X0_weightOf_0 33 rfl) (d_b dk_X0_weightOf_0 34 rfl) rfl, rfl⟩
theorem dX0_weightOf_35 : pm_dec mX0_weightOf 35 (.invokevirtual 47, 3) 38 := ⟨dq_182 (d_b dk_X0_weightOf_0 35 rfl) (d_b dk_X0_weightOf_0 36 rfl) (d_b dk_X0_weightOf_0 37 rfl) rfl, rfl⟩
theorem dX0_weightOf_38 : pm_dec mX0_weightOf 38 (.istore 4, 2) 40 := ⟨dq_54 (d_b dk_X0_weightOf_0 38 rfl) (d_b dk_X0_weightOf_0 39 rfl), rfl⟩
theorem dX0_weightOf_40 : pm_dec mX0_weightOf 40 (.iconst 0, 1) 41 := ⟨dq_3 (d_b dk_X0_weightOf_0 40 rfl), rfl⟩
theorem dX0_weightOf_41 : pm_dec mX0_weightOf 41 (.istore 5, 2) 43 := ⟨dq_54 (d_b dk_X0_weightOf_0 41 rfl) (d_b dk_X0_weightOf_0 42 rfl), rfl⟩
theorem dX0_weightOf_43 : pm_dec mX0_weightOf 43 (.iload 5, 2) 45 := ⟨dq_21 (d_b dk_X0_weightOf_0 43 rfl) (d_b dk_X0_weightOf_0 44 rfl), rfl⟩
theorem dX0_weightOf_45 : pm_dec mX0_weightOf 45 (.iload 4, 2) 47 := ⟨dq_21 (d_b dk_X0_weightOf_0 45 rfl) (d_b dk_X0_weightOf_0 46 rfl), rfl⟩
theorem dX0_weightOf_47 : pm_dec mX0_weightOf 47 (.if_icmp .ge 42, 3) 50 := ⟨dq_162 (d_b dk_X0_weightOf_0 47 rfl) (d_b dk_X0_weightOf_0 48 rfl) (d_b dk_X0_weightOf_0 49 rfl) (by decide), rfl⟩
def dt_X0_weightOf_50 : List Nat := [42, 180, 0, 9, 180, 0, 104, 21, 5, 5, 182, 0, 39, 27, 160, 0, 19, 42, 180, 0, 9, 21, 5, 4, 182, 0, 107, 153, 0, 6, 132, 3, 1, 132, 5, 1, 167, 255, 213, 29, 172]
theorem dk_X0_weightOf_50 : (((mX0_weightOf.2.1).data.toList.drop 50).take 41).map UInt8.toNat = dt_X0_weightOf_50 := by decide +kernel
theorem dX0_weightOf_50 : pm_dec mX0_weightOf 50 (.aload_n 0, 1) 51 := ⟨dq_42 (d_b dk_X0_weightOf_50 0 rfl), rfl⟩
theorem dX0_weightOf_51 : pm_dec mX0_weightOf 51 (.getfield 9, 3) 54 := ⟨dq_180 (d_b dk_X0_weightOf_50 1 rfl) (d_b dk_X0_weightOf_50 2 rfl) (d_b dk_X0_weightOf_50 3 rfl) rfl, rfl⟩
theorem dX0_weightOf_54 : pm_dec mX0_weightOf 54 (.getfield 104, 3) 57 := ⟨dq_180 (d_b dk_X0_weightOf_50 4 rfl) (d_b dk_X0_weightOf_50 5 rfl) (d_b dk_X0_weightOf_50 6 rfl) rfl, rfl⟩
theorem dX0_weightOf_57 : pm_dec mX0_weightOf 57 (.iload 5, 2) 59 := ⟨dq_21 (d_b dk_X0_weightOf_50 7 rfl) (d_b dk_X0_weightOf_50 8 rfl), rfl⟩
theorem dX0_weightOf_59 : pm_dec mX0_weightOf 59 (.iconst 2, 1) 60 := ⟨dq_5 (d_b dk_X0_weightOf_50 9 rfl), rfl⟩
theorem dX0_weightOf_60 : pm_dec mX0_weightOf 60 (.invokevirtual 39, 3) 63 := ⟨dq_182 (d_b dk_X0_weightOf_50 10 rfl) (d_b dk_X0_weightOf_50 11 rfl) (d_b dk_X0_weightOf_50 12 rfl) rfl, rfl⟩
theorem dX0_weightOf_63 : pm_dec mX0_weightOf 63 (.iload_n 1, 1) 64 := ⟨dq_27 (d_b dk_X0_weightOf_50 13 rfl), rfl⟩
theorem dX0_weightOf_64 : pm_dec mX0_weightOf 64 (.if_icmp .ne 19, 3) 67 := ⟨dq_160 (d_b dk_X0_weightOf_50 14 rfl) (d_b dk_X0_weightOf_50 15 rfl) (d_b dk_X0_weightOf_50 16 rfl) (by decide), rfl⟩
theorem dX0_weightOf_67 : pm_dec mX0_weightOf 67 (.aload_n 0, 1) 68 := ⟨dq_42 (d_b dk_X0_weightOf_50 17 rfl), rfl⟩
theorem dX0_weightOf_68 : pm_dec mX0_weightOf 68 (.getfield 9, 3) 71 := ⟨dq_180 (d_b dk_X0_weightOf_50 18 rfl) (d_b dk_X0_weightOf_50 19 rfl) (d_b dk_X0_weightOf_50 20 rfl) rfl, rfl⟩
theorem dX0_weightOf_71 : pm_dec mX0_weightOf 71 (.iload 5, 2) 73 := ⟨dq_21 (d_b dk_X0_weightOf_50 21 rfl) (d_b dk_X0_weightOf_50 22 rfl), rfl⟩
theorem dX0_weightOf_73 : pm_dec mX0_weightOf 73 (.iconst 1, 1) 74 := ⟨dq_4 (d_b dk_X0_weightOf_50 23 rfl), rfl⟩
theorem dX0_weightOf_74 : pm_dec mX0_weightOf 74 (.invokevirtual 107, 3) 77 := ⟨dq_182 (d_b dk_X0_weightOf_50 24 rfl) (d_b dk_X0_weightOf_50 25 rfl) (d_b dk_X0_weightOf_50 26 rfl) rfl, rfl⟩
theorem dX0_weightOf_77 : pm_dec mX0_weightOf 77 (.ifCond .eq 6, 3) 80 := ⟨dq_153 (d_b dk_X0_weightOf_50 27 rfl) (d_b dk_X0_weightOf_50 28 rfl) (d_b dk_X0_weightOf_50 29 rfl) (by decide), rfl⟩
theorem dX0_weightOf_80 : pm_dec mX0_weightOf 80 (.iinc 3 1, 3) 83 := ⟨dq_132 (d_b dk_X0_weightOf_50 30 rfl) (d_b dk_X0_weightOf_50 31 rfl) (d_b dk_X0_weightOf_50 32 rfl) (by decide), rfl⟩
theorem dX0_weightOf_83 : pm_dec mX0_weightOf 83 (.iinc 5 1, 3) 86 := ⟨dq_132 (d_b dk_X0_weightOf_50 33 rfl) (d_b dk_X0_weightOf_50 34 rfl) (d_b dk_X0_weightOf_50 35 rfl) (by decide), rfl⟩
theorem dX0_weightOf_86 : pm_dec mX0_weightOf 86 (.goto (-43), 3) 89 := ⟨dq_167 (d_b dk_X0_weightOf_50 36 rfl) (d_b dk_X0_weightOf_50 37 rfl) (d_b dk_X0_weightOf_50 38 rfl) (by decide), rfl⟩
theorem dX0_weightOf_89 : pm_dec mX0_weightOf 89 (.iload_n 3, 1) 90 := ⟨dq_29 (d_b dk_X0_weightOf_50 39 rfl), rfl⟩
theorem dX0_weightOf_90 : pm_dec mX0_weightOf 90 (.ireturn, 1) 91 := ⟨dq_172 (d_b dk_X0_weightOf_50 40 rfl), rfl⟩
def dt_X10_actOf_0 : List Nat := [27]
theorem dk_X10_actOf_0 : (((mX10_actOf.2.1).data.toList.drop 0).take 1).map UInt8.toNat = dt_X10_actOf_0 := by decide +kernel
theorem dX10_actOf_0 : pm_dec mX10_actOf 0 (.iload_n 1, 1) 1 := ⟨dq_27 (d_b dk_X10_actOf_0 0 rfl), rfl⟩
def dt_X10_actOf_32 : List Nat := [42, 16, 50, 182, 0, 41, 42, 6, 28, 42, 180, 0, 25, 100, 182, 0, 28, 172, 42, 16, 20, 182, 0, 41, 42, 3, 28, 182, 0, 28, 42, 180, 0, 22, 96, 172, 42, 16, 10, 182, 0, 41, 28, 42, 180, 0, 25, 96]
theorem dk_X10_actOf_32 : (((mX10_actOf.2.1).data.toList.drop 32).take 48).map UInt8.toNat = dt_X10_actOf_32 := by decide +kernel
theorem dX10_actOf_32 : pm_dec mX10_actOf 32 (.aload_n 0, 1) 33 := ⟨dq_42 (d_b dk_X10_actOf_32 0 rfl), rfl⟩
theorem dX10_actOf_33 : pm_dec mX10_actOf 33 (.bipush 50, 2) 35 := ⟨dq_16 (d_b dk_X10_actOf_32 1 rfl) (d_b dk_X10_actOf_32 2 rfl) (by decide), rfl⟩
theorem dX10_actOf_35 : pm_dec mX10_actOf 35 (.invokevirtual 41, 3) 38 := ⟨dq_182 (d_b dk_X10_actOf_32 3 rfl) (d_b dk_X10_actOf_32 4 rfl) (d_b dk_X10_actOf_32 5 rfl) rfl, rfl⟩
theorem dX10_actOf_38 : pm_dec mX10_actOf 38 (.aload_n 0, 1) 39 := ⟨dq_42 (d_b dk_X10_actOf_32 6 rfl), rfl⟩
theorem dX10_actOf_39 : pm_dec mX10_actOf 39 (.iconst 3, 1) 40 := ⟨dq_6 (d_b dk_X10_actOf_32 7 rfl), rfl⟩
theorem dX10_actOf_40 : pm_dec mX10_actOf 40 (.iload_n 2, 1) 41 := ⟨dq_28 (d_b dk_X10_actOf_32 8 rfl), rfl⟩
theorem dX10_actOf_41 : pm_dec mX10_actOf 41 (.aload_n 0, 1) 42 := ⟨dq_42 (d_b dk_X10_actOf_32 9 rfl), rfl⟩
theorem dX10_actOf_42 : pm_dec mX10_actOf 42 (.getfield 25, 3) 45 := ⟨dq_180 (d_b dk_X10_actOf_32 10 rfl) (d_b dk_X10_actOf_32 11 rfl) (d_b dk_X10_actOf_32 12 rfl) rfl, rfl⟩
theorem dX10_actOf_45 : pm_dec mX10_actOf 45 (.isub, 1) 46 := ⟨dq_100 (d_b dk_X10_actOf_32 13 rfl), rfl⟩
theorem dX10_actOf_46 : pm_dec mX10_actOf 46 (.invokevirtual 28, 3) 49 := ⟨dq_182 (d_b dk_X10_actOf_32 14 rfl) (d_b dk_X10_actOf_32 15 rfl) (d_b dk_X10_actOf_32 16 rfl) rfl, rfl⟩
theorem dX10_actOf_49 : pm_dec mX10_actOf 49 (.ireturn, 1) 50 := ⟨dq_172 (d_b dk_X10_actOf_32 17 rfl), rfl⟩
theorem dX10_actOf_50 : pm_dec mX10_actOf 50 (.aload_n 0, 1) 51 := ⟨dq_42 (d_b dk_X10_actOf_32 18 rfl), rfl⟩
theorem dX10_actOf_51 : pm_dec mX10_actOf 51 (.bipush 20, 2) 53 := ⟨dq_16 (d_b dk_X10_actOf_32 19 rfl) (d_b dk_X10_actOf_32 20 rfl) (by decide), rfl⟩
theorem dX10_actOf_53 : pm_dec mX10_actOf 53 (.invokevirtual 41, 3) 56 := ⟨dq_182 (d_b dk_X10_actOf_32 21 rfl) (d_b dk_X10_actOf_32 22 rfl) (d_b dk_X10_actOf_32 23 rfl) rfl, rfl⟩
theorem dX10_actOf_56 : pm_dec mX10_actOf 56 (.aload_n 0, 1) 57 := ⟨dq_42 (d_b dk_X10_actOf_32 24 rfl), rfl⟩
theorem dX10_actOf_57 : pm_dec mX10_actOf 57 (.iconst 0, 1) 58 := ⟨dq_3 (d_b dk_X10_actOf_32 25 rfl), rfl⟩
theorem dX10_actOf_58 : pm_dec mX10_actOf 58 (.iload_n 2, 1) 59 := ⟨dq_28 (d_b dk_X10_actOf_32 26 rfl), rfl⟩
theorem dX10_actOf_59 : pm_dec mX10_actOf 59 (.invokevirtual 28, 3) 62 := ⟨dq_182 (d_b dk_X10_actOf_32 27 rfl) (d_b dk_X10_actOf_32 28 rfl) (d_b dk_X10_actOf_32 29 rfl) rfl, rfl⟩
theorem dX10_actOf_62 : pm_dec mX10_actOf 62 (.aload_n 0, 1) 63 := ⟨dq_42 (d_b dk_X10_actOf_32 30 rfl), rfl⟩
theorem dX10_actOf_63 : pm_dec mX10_actOf 63 (.getfield 22, 3) 66 := ⟨dq_180 (d_b dk_X10_actOf_32 31 rfl) (d_b dk_X10_actOf_32 32 rfl) (d_b dk_X10_actOf_32 33 rfl) rfl, rfl⟩
theorem dX10_actOf_66 : pm_dec mX10_actOf 66 (.iadd, 1) 67 := ⟨dq_96 (d_b dk_X10_actOf_32 34 rfl), rfl⟩
theorem dX10_actOf_67 : pm_dec mX10_actOf 67 (.ireturn, 1) 68 := ⟨dq_172 (d_b dk_X10_actOf_32 35 rfl), rfl⟩
theorem dX10_actOf_68 : pm_dec mX10_actOf 68 (.aload_n 0, 1) 69 := ⟨dq_42 (d_b dk_X10_actOf_32 36 rfl), rfl⟩
theorem dX10_actOf_69 : pm_dec mX10_actOf 69 (.bipush 10, 2) 71 := ⟨dq_16 (d_b dk_X10_actOf_32 37 rfl) (d_b dk_X10_actOf_32 38 rfl) (by decide), rfl⟩
theorem dX10_actOf_71 : pm_dec mX10_actOf 71 (.invokevirtual 41, 3) 74 := ⟨dq_182 (d_b dk_X10_actOf_32 39 rfl) (d_b dk_X10_actOf_32 40 rfl) (d_b dk_X10_actOf_32 41 rfl) rfl, rfl⟩
theorem dX10_actOf_74 : pm_dec mX10_actOf 74 (.iload_n 2, 1) 75 := ⟨dq_28 (d_b dk_X10_actOf_32 42 rfl), rfl⟩
theorem dX10_actOf_75 : pm_dec mX10_actOf 75 (.aload_n 0, 1) 76 := ⟨dq_42 (d_b dk_X10_actOf_32 43 rfl), rfl⟩
theorem dX10_actOf_76 : pm_dec mX10_actOf 76 (.getfield 25, 3) 79 := ⟨dq_180 (d_b dk_X10_actOf_32 44 rfl) (d_b dk_X10_actOf_32 45 rfl) (d_b dk_X10_actOf_32 46 rfl) rfl, rfl⟩
theorem dX10_actOf_79 : pm_dec mX10_actOf 79 (.iadd, 1) 80 := ⟨dq_96 (d_b dk_X10_actOf_32 47 rfl), rfl⟩
def dt_X10_actOf_80 : List Nat := [172]
theorem dk_X10_actOf_80 : (((mX10_actOf.2.1).data.toList.drop 80).take 1).map UInt8.toNat = dt_X10_actOf_80 := by decide +kernel
theorem dX10_actOf_80 : pm_dec mX10_actOf 80 (.ireturn, 1) 81 := ⟨dq_172 (d_b dk_X10_actOf_80 0 rfl), rfl⟩
def dt_X10_begin_0 : List Nat := [42, 3, 181, 0, 15, 42, 27, 181, 0, 19, 42, 28, 181, 0, 22, 42, 29, 181, 0, 25, 177]
theorem dk_X10_begin_0 : (((mX10_begin.2.1).data.toList.drop 0).take 21).map UInt8.toNat = dt_X10_begin_0 := by decide +kernel
theorem dX10_begin_0 : pm_dec mX10_begin 0 (.aload_n 0, 1) 1 := ⟨dq_42 (d_b dk_X10_begin_0 0 rfl), rfl⟩
theorem dX10_begin_1 : pm_dec mX10_begin 1 (.iconst 0, 1) 2 := ⟨dq_3 (d_b dk_X10_begin_0 1 rfl), rfl⟩
theorem dX10_begin_2 : pm_dec mX10_begin 2 (.putfield 15, 3) 5 := ⟨dq_181 (d_b dk_X10_begin_0 2 rfl) (d_b dk_X10_begin_0 3 rfl) (d_b dk_X10_begin_0 4 rfl) rfl, rfl⟩
theorem dX10_begin_5 : pm_dec mX10_begin 5 (.aload_n 0, 1) 6 := ⟨dq_42 (d_b dk_X10_begin_0 5 rfl), rfl⟩
theorem dX10_begin_6 : pm_dec mX10_begin 6 (.iload_n 1, 1) 7 := ⟨dq_27 (d_b dk_X10_begin_0 6 rfl), rfl⟩
theorem dX10_begin_7 : pm_dec mX10_begin 7 (.putfield 19, 3) 10 := ⟨dq_181 (d_b dk_X10_begin_0 7 rfl) (d_b dk_X10_begin_0 8 rfl) (d_b dk_X10_begin_0 9 rfl) rfl, rfl⟩
theorem dX10_begin_10 : pm_dec mX10_begin 10 (.aload_n 0, 1) 11 := ⟨dq_42 (d_b dk_X10_begin_0 10 rfl), rfl⟩
theorem dX10_begin_11 : pm_dec mX10_begin 11 (.iload_n 2, 1) 12 := ⟨dq_28 (d_b dk_X10_begin_0 11 rfl), rfl⟩
theorem dX10_begin_12 : pm_dec mX10_begin 12 (.putfield 22, 3) 15 := ⟨dq_181 (d_b dk_X10_begin_0 12 rfl) (d_b dk_X10_begin_0 13 rfl) (d_b dk_X10_begin_0 14 rfl) rfl, rfl⟩
theorem dX10_begin_15 : pm_dec mX10_begin 15 (.aload_n 0, 1) 16 := ⟨dq_42 (d_b dk_X10_begin_0 15 rfl), rfl⟩
theorem dX10_begin_16 : pm_dec mX10_begin 16 (.iload_n 3, 1) 17 := ⟨dq_29 (d_b dk_X10_begin_0 16 rfl), rfl⟩
theorem dX10_begin_17 : pm_dec mX10_begin 17 (.putfield 25, 3) 20 := ⟨dq_181 (d_b dk_X10_begin_0 17 rfl) (d_b dk_X10_begin_0 18 rfl) (d_b dk_X10_begin_0 19 rfl) rfl, rfl⟩
theorem dX10_begin_20 : pm_dec mX10_begin 20 (.return_, 1) 21 := ⟨dq_177 (d_b dk_X10_begin_0 20 rfl), rfl⟩
def dt_X10_bindOf_0 : List Nat := [27]
theorem dk_X10_bindOf_0 : (((mX10_bindOf.2.1).data.toList.drop 0).take 1).map UInt8.toNat = dt_X10_bindOf_0 := by decide +kernel
theorem dX10_bindOf_0 : pm_dec mX10_bindOf 0 (.iload_n 1, 1) 1 := ⟨dq_27 (d_b dk_X10_bindOf_0 0 rfl), rfl⟩
def dt_X10_bindOf_28 : List Nat := [42, 16, 40, 182, 0, 41, 42, 4, 28, 182, 0, 32, 42, 42, 180, 0, 19, 28, 182, 0, 28, 100, 172, 42, 16, 60, 182, 0, 41, 42, 3, 28, 182, 0, 32, 42, 180, 0, 25, 96, 172, 42, 16, 11, 182, 0, 41, 42]
theorem dk_X10_bindOf_28 : (((mX10_bindOf.2.1).data.toList.drop 28).take 48).map UInt8.toNat = dt_X10_bindOf_28 := by decide +kernel
theorem dX10_bindOf_28 : pm_dec mX10_bindOf 28 (.aload_n 0, 1) 29 := ⟨dq_42 (d_b dk_X10_bindOf_28 0 rfl), rfl⟩
theorem dX10_bindOf_29 : pm_dec mX10_bindOf 29 (.bipush 40, 2) 31 := ⟨dq_16 (d_b dk_X10_bindOf_28 1 rfl) (d_b dk_X10_bindOf_28 2 rfl) (by decide), rfl⟩
theorem dX10_bindOf_31 : pm_dec mX10_bindOf 31 (.invokevirtual 41, 3) 34 := ⟨dq_182 (d_b dk_X10_bindOf_28 3 rfl) (d_b dk_X10_bindOf_28 4 rfl) (d_b dk_X10_bindOf_28 5 rfl) rfl, rfl⟩
theorem dX10_bindOf_34 : pm_dec mX10_bindOf 34 (.aload_n 0, 1) 35 := ⟨dq_42 (d_b dk_X10_bindOf_28 6 rfl), rfl⟩
theorem dX10_bindOf_35 : pm_dec mX10_bindOf 35 (.iconst 1, 1) 36 := ⟨dq_4 (d_b dk_X10_bindOf_28 7 rfl), rfl⟩
theorem dX10_bindOf_36 : pm_dec mX10_bindOf 36 (.iload_n 2, 1) 37 := ⟨dq_28 (d_b dk_X10_bindOf_28 8 rfl), rfl⟩
theorem dX10_bindOf_37 : pm_dec mX10_bindOf 37 (.invokevirtual 32, 3) 40 := ⟨dq_182 (d_b dk_X10_bindOf_28 9 rfl) (d_b dk_X10_bindOf_28 10 rfl) (d_b dk_X10_bindOf_28 11 rfl) rfl, rfl⟩
theorem dX10_bindOf_40 : pm_dec mX10_bindOf 40 (.aload_n 0, 1) 41 := ⟨dq_42 (d_b dk_X10_bindOf_28 12 rfl), rfl⟩
theorem dX10_bindOf_41 : pm_dec mX10_bindOf 41 (.aload_n 0, 1) 42 := ⟨dq_42 (d_b dk_X10_bindOf_28 13 rfl), rfl⟩
theorem dX10_bindOf_42 : pm_dec mX10_bindOf 42 (.getfield 19, 3) 45 := ⟨dq_180 (d_b dk_X10_bindOf_28 14 rfl) (d_b dk_X10_bindOf_28 15 rfl) (d_b dk_X10_bindOf_28 16 rfl) rfl, rfl⟩
theorem dX10_bindOf_45 : pm_dec mX10_bindOf 45 (.iload_n 2, 1) 46 := ⟨dq_28 (d_b dk_X10_bindOf_28 17 rfl), rfl⟩
theorem dX10_bindOf_46 : pm_dec mX10_bindOf 46 (.invokevirtual 28, 3) 49 := ⟨dq_182 (d_b dk_X10_bindOf_28 18 rfl) (d_b dk_X10_bindOf_28 19 rfl) (d_b dk_X10_bindOf_28 20 rfl) rfl, rfl⟩
theorem dX10_bindOf_49 : pm_dec mX10_bindOf 49 (.isub, 1) 50 := ⟨dq_100 (d_b dk_X10_bindOf_28 21 rfl), rfl⟩
theorem dX10_bindOf_50 : pm_dec mX10_bindOf 50 (.ireturn, 1) 51 := ⟨dq_172 (d_b dk_X10_bindOf_28 22 rfl), rfl⟩
theorem dX10_bindOf_51 : pm_dec mX10_bindOf 51 (.aload_n 0, 1) 52 := ⟨dq_42 (d_b dk_X10_bindOf_28 23 rfl), rfl⟩
theorem dX10_bindOf_52 : pm_dec mX10_bindOf 52 (.bipush 60, 2) 54 := ⟨dq_16 (d_b dk_X10_bindOf_28 24 rfl) (d_b dk_X10_bindOf_28 25 rfl) (by decide), rfl⟩
theorem dX10_bindOf_54 : pm_dec mX10_bindOf 54 (.invokevirtual 41, 3) 57 := ⟨dq_182 (d_b dk_X10_bindOf_28 26 rfl) (d_b dk_X10_bindOf_28 27 rfl) (d_b dk_X10_bindOf_28 28 rfl) rfl, rfl⟩
theorem dX10_bindOf_57 : pm_dec mX10_bindOf 57 (.aload_n 0, 1) 58 := ⟨dq_42 (d_b dk_X10_bindOf_28 29 rfl), rfl⟩
theorem dX10_bindOf_58 : pm_dec mX10_bindOf 58 (.iconst 0, 1) 59 := ⟨dq_3 (d_b dk_X10_bindOf_28 30 rfl), rfl⟩
theorem dX10_bindOf_59 : pm_dec mX10_bindOf 59 (.iload_n 2, 1) 60 := ⟨dq_28 (d_b dk_X10_bindOf_28 31 rfl), rfl⟩
theorem dX10_bindOf_60 : pm_dec mX10_bindOf 60 (.invokevirtual 32, 3) 63 := ⟨dq_182 (d_b dk_X10_bindOf_28 32 rfl) (d_b dk_X10_bindOf_28 33 rfl) (d_b dk_X10_bindOf_28 34 rfl) rfl, rfl⟩
theorem dX10_bindOf_63 : pm_dec mX10_bindOf 63 (.aload_n 0, 1) 64 := ⟨dq_42 (d_b dk_X10_bindOf_28 35 rfl), rfl⟩
theorem dX10_bindOf_64 : pm_dec mX10_bindOf 64 (.getfield 25, 3) 67 := ⟨dq_180 (d_b dk_X10_bindOf_28 36 rfl) (d_b dk_X10_bindOf_28 37 rfl) (d_b dk_X10_bindOf_28 38 rfl) rfl, rfl⟩
theorem dX10_bindOf_67 : pm_dec mX10_bindOf 67 (.iadd, 1) 68 := ⟨dq_96 (d_b dk_X10_bindOf_28 39 rfl), rfl⟩
theorem dX10_bindOf_68 : pm_dec mX10_bindOf 68 (.ireturn, 1) 69 := ⟨dq_172 (d_b dk_X10_bindOf_28 40 rfl), rfl⟩
theorem dX10_bindOf_69 : pm_dec mX10_bindOf 69 (.aload_n 0, 1) 70 := ⟨dq_42 (d_b dk_X10_bindOf_28 41 rfl), rfl⟩
theorem dX10_bindOf_70 : pm_dec mX10_bindOf 70 (.bipush 11, 2) 72 := ⟨dq_16 (d_b dk_X10_bindOf_28 42 rfl) (d_b dk_X10_bindOf_28 43 rfl) (by decide), rfl⟩
theorem dX10_bindOf_72 : pm_dec mX10_bindOf 72 (.invokevirtual 41, 3) 75 := ⟨dq_182 (d_b dk_X10_bindOf_28 44 rfl) (d_b dk_X10_bindOf_28 45 rfl) (d_b dk_X10_bindOf_28 46 rfl) rfl, rfl⟩
theorem dX10_bindOf_75 : pm_dec mX10_bindOf 75 (.aload_n 0, 1) 76 := ⟨dq_42 (d_b dk_X10_bindOf_28 47 rfl), rfl⟩
def dt_X10_bindOf_76 : List Nat := [42, 180, 0, 19, 28, 182, 0, 28, 5, 104, 172]
theorem dk_X10_bindOf_76 : (((mX10_bindOf.2.1).data.toList.drop 76).take 11).map UInt8.toNat = dt_X10_bindOf_76 := by decide +kernel
theorem dX10_bindOf_76 : pm_dec mX10_bindOf 76 (.aload_n 0, 1) 77 := ⟨dq_42 (d_b dk_X10_bindOf_76 0 rfl), rfl⟩
theorem dX10_bindOf_77 : pm_dec mX10_bindOf 77 (.getfield 19, 3) 80 := ⟨dq_180 (d_b dk_X10_bindOf_76 1 rfl) (d_b dk_X10_bindOf_76 2 rfl) (d_b dk_X10_bindOf_76 3 rfl) rfl, rfl⟩
theorem dX10_bindOf_80 : pm_dec mX10_bindOf 80 (.iload_n 2, 1) 81 := ⟨dq_28 (d_b dk_X10_bindOf_76 4 rfl), rfl⟩
theorem dX10_bindOf_81 : pm_dec mX10_bindOf 81 (.invokevirtual 28, 3) 84 := ⟨dq_182 (d_b dk_X10_bindOf_76 5 rfl) (d_b dk_X10_bindOf_76 6 rfl) (d_b dk_X10_bindOf_76 7 rfl) rfl, rfl⟩
theorem dX10_bindOf_84 : pm_dec mX10_bindOf 84 (.iconst 2, 1) 85 := ⟨dq_5 (d_b dk_X10_bindOf_76 8 rfl), rfl⟩
theorem dX10_bindOf_85 : pm_dec mX10_bindOf 85 (.imul, 1) 86 := ⟨dq_104 (d_b dk_X10_bindOf_76 9 rfl), rfl⟩
theorem dX10_bindOf_86 : pm_dec mX10_bindOf 86 (.ireturn, 1) 87 := ⟨dq_172 (d_b dk_X10_bindOf_76 10 rfl), rfl⟩
def dt_X10_bodyAt_0 : List Nat := [27, 155, 0, 29, 27, 42, 180, 0, 15, 162, 0, 21, 27, 42, 180, 0, 11, 190, 162, 0, 12, 42, 180, 0, 11, 27, 46, 167, 0, 4, 3, 172]
theorem dk_X10_bodyAt_0 : (((mX10_bodyAt.2.1).data.toList.drop 0).take 32).map UInt8.toNat = dt_X10_bodyAt_0 := by decide +kernel
theorem dX10_bodyAt_0 : pm_dec mX10_bodyAt 0 (.iload_n 1, 1) 1 := ⟨dq_27 (d_b dk_X10_bodyAt_0 0 rfl), rfl⟩
theorem dX10_bodyAt_1 : pm_dec mX10_bodyAt 1 (.ifCond .lt 29, 3) 4 := ⟨dq_155 (d_b dk_X10_bodyAt_0 1 rfl) (d_b dk_X10_bodyAt_0 2 rfl) (d_b dk_X10_bodyAt_0 3 rfl) (by decide), rfl⟩
theorem dX10_bodyAt_4 : pm_dec mX10_bodyAt 4 (.iload_n 1, 1) 5 := ⟨dq_27 (d_b dk_X10_bodyAt_0 4 rfl), rfl⟩
theorem dX10_bodyAt_5 : pm_dec mX10_bodyAt 5 (.aload_n 0, 1) 6 := ⟨dq_42 (d_b dk_X10_bodyAt_0 5 rfl), rfl⟩
theorem dX10_bodyAt_6 : pm_dec mX10_bodyAt 6 (.getfield 15, 3) 9 := ⟨dq_180 (d_b dk_X10_bodyAt_0 6 rfl) (d_b dk_X10_bodyAt_0 7 rfl) (d_b dk_X10_bodyAt_0 8 rfl) rfl, rfl⟩
theorem dX10_bodyAt_9 : pm_dec mX10_bodyAt 9 (.if_icmp .ge 21, 3) 12 := ⟨dq_162 (d_b dk_X10_bodyAt_0 9 rfl) (d_b dk_X10_bodyAt_0 10 rfl) (d_b dk_X10_bodyAt_0 11 rfl) (by decide), rfl⟩
theorem dX10_bodyAt_12 : pm_dec mX10_bodyAt 12 (.iload_n 1, 1) 13 := ⟨dq_27 (d_b dk_X10_bodyAt_0 12 rfl), rfl⟩
theorem dX10_bodyAt_13 : pm_dec mX10_bodyAt 13 (.aload_n 0, 1) 14 := ⟨dq_42 (d_b dk_X10_bodyAt_0 13 rfl), rfl⟩
theorem dX10_bodyAt_14 : pm_dec mX10_bodyAt 14 (.getfield 11, 3) 17 := ⟨dq_180 (d_b dk_X10_bodyAt_0 14 rfl) (d_b dk_X10_bodyAt_0 15 rfl) (d_b dk_X10_bodyAt_0 16 rfl) rfl, rfl⟩
theorem dX10_bodyAt_17 : pm_dec mX10_bodyAt 17 (.arraylength, 1) 18 := ⟨dq_190 (d_b dk_X10_bodyAt_0 17 rfl), rfl⟩
theorem dX10_bodyAt_18 : pm_dec mX10_bodyAt 18 (.if_icmp .ge 12, 3) 21 := ⟨dq_162 (d_b dk_X10_bodyAt_0 18 rfl) (d_b dk_X10_bodyAt_0 19 rfl) (d_b dk_X10_bodyAt_0 20 rfl) (by decide), rfl⟩
theorem dX10_bodyAt_21 : pm_dec mX10_bodyAt 21 (.aload_n 0, 1) 22 := ⟨dq_42 (d_b dk_X10_bodyAt_0 21 rfl), rfl⟩
theorem dX10_bodyAt_22 : pm_dec mX10_bodyAt 22 (.getfield 11, 3) 25 := ⟨dq_180 (d_b dk_X10_bodyAt_0 22 rfl) (d_b dk_X10_bodyAt_0 23 rfl) (d_b dk_X10_bodyAt_0 24 rfl) rfl, rfl⟩
theorem dX10_bodyAt_25 : pm_dec mX10_bodyAt 25 (.iload_n 1, 1) 26 := ⟨dq_27 (d_b dk_X10_bodyAt_0 25 rfl), rfl⟩
theorem dX10_bodyAt_26 : pm_dec mX10_bodyAt 26 (.iaload, 1) 27 := ⟨dq_46 (d_b dk_X10_bodyAt_0 26 rfl), rfl⟩
theorem dX10_bodyAt_27 : pm_dec mX10_bodyAt 27 (.goto 4, 3) 30 := ⟨dq_167 (d_b dk_X10_bodyAt_0 27 rfl) (d_b dk_X10_bodyAt_0 28 rfl) (d_b dk_X10_bodyAt_0 29 rfl) (by decide), rfl⟩
theorem dX10_bodyAt_30 : pm_dec mX10_bodyAt 30 (.iconst 0, 1) 31 := ⟨dq_3 (d_b dk_X10_bodyAt_0 30 rfl), rfl⟩
theorem dX10_bodyAt_31 : pm_dec mX10_bodyAt 31 (.ireturn, 1) 32 := ⟨dq_172 (d_b dk_X10_bodyAt_0 31 rfl), rfl⟩
def dt_X10_note_0 : List Nat := [42, 180, 0, 15, 155, 0, 35, 42, 180, 0, 15, 42, 180, 0, 11, 190, 162, 0, 23, 42, 180, 0, 11, 42, 180, 0, 15, 27, 79, 42, 89, 180, 0, 15, 4, 96, 181, 0, 15, 177]
theorem dk_X10_note_0 : (((mX10_note.2.1).data.toList.drop 0).take 40).map UInt8.toNat = dt_X10_note_0 := by decide +kernel
theorem dX10_note_0 : pm_dec mX10_note 0 (.aload_n 0, 1) 1 := ⟨dq_42 (d_b dk_X10_note_0 0 rfl), rfl⟩
theorem dX10_note_1 : pm_dec mX10_note 1 (.getfield 15, 3) 4 := ⟨dq_180 (d_b dk_X10_note_0 1 rfl) (d_b dk_X10_note_0 2 rfl) (d_b dk_X10_note_0 3 rfl) rfl, rfl⟩
theorem dX10_note_4 : pm_dec mX10_note 4 (.ifCond .lt 35, 3) 7 := ⟨dq_155 (d_b dk_X10_note_0 4 rfl) (d_b dk_X10_note_0 5 rfl) (d_b dk_X10_note_0 6 rfl) (by decide), rfl⟩
theorem dX10_note_7 : pm_dec mX10_note 7 (.aload_n 0, 1) 8 := ⟨dq_42 (d_b dk_X10_note_0 7 rfl), rfl⟩
theorem dX10_note_8 : pm_dec mX10_note 8 (.getfield 15, 3) 11 := ⟨dq_180 (d_b dk_X10_note_0 8 rfl) (d_b dk_X10_note_0 9 rfl) (d_b dk_X10_note_0 10 rfl) rfl, rfl⟩
theorem dX10_note_11 : pm_dec mX10_note 11 (.aload_n 0, 1) 12 := ⟨dq_42 (d_b dk_X10_note_0 11 rfl), rfl⟩
theorem dX10_note_12 : pm_dec mX10_note 12 (.getfield 11, 3) 15 := ⟨dq_180 (d_b dk_X10_note_0 12 rfl) (d_b dk_X10_note_0 13 rfl) (d_b dk_X10_note_0 14 rfl) rfl, rfl⟩
theorem dX10_note_15 : pm_dec mX10_note 15 (.arraylength, 1) 16 := ⟨dq_190 (d_b dk_X10_note_0 15 rfl), rfl⟩
theorem dX10_note_16 : pm_dec mX10_note 16 (.if_icmp .ge 23, 3) 19 := ⟨dq_162 (d_b dk_X10_note_0 16 rfl) (d_b dk_X10_note_0 17 rfl) (d_b dk_X10_note_0 18 rfl) (by decide), rfl⟩
theorem dX10_note_19 : pm_dec mX10_note 19 (.aload_n 0, 1) 20 := ⟨dq_42 (d_b dk_X10_note_0 19 rfl), rfl⟩
theorem dX10_note_20 : pm_dec mX10_note 20 (.getfield 11, 3) 23 := ⟨dq_180 (d_b dk_X10_note_0 20 rfl) (d_b dk_X10_note_0 21 rfl) (d_b dk_X10_note_0 22 rfl) rfl, rfl⟩
theorem dX10_note_23 : pm_dec mX10_note 23 (.aload_n 0, 1) 24 := ⟨dq_42 (d_b dk_X10_note_0 23 rfl), rfl⟩
theorem dX10_note_24 : pm_dec mX10_note 24 (.getfield 15, 3) 27 := ⟨dq_180 (d_b dk_X10_note_0 24 rfl) (d_b dk_X10_note_0 25 rfl) (d_b dk_X10_note_0 26 rfl) rfl, rfl⟩
theorem dX10_note_27 : pm_dec mX10_note 27 (.iload_n 1, 1) 28 := ⟨dq_27 (d_b dk_X10_note_0 27 rfl), rfl⟩
theorem dX10_note_28 : pm_dec mX10_note 28 (.iastore, 1) 29 := ⟨dq_79 (d_b dk_X10_note_0 28 rfl), rfl⟩
theorem dX10_note_29 : pm_dec mX10_note 29 (.aload_n 0, 1) 30 := ⟨dq_42 (d_b dk_X10_note_0 29 rfl), rfl⟩
theorem dX10_note_30 : pm_dec mX10_note 30 (.dup, 1) 31 := ⟨dq_89 (d_b dk_X10_note_0 30 rfl), rfl⟩
theorem dX10_note_31 : pm_dec mX10_note 31 (.getfield 15, 3) 34 := ⟨dq_180 (d_b dk_X10_note_0 31 rfl) (d_b dk_X10_note_0 32 rfl) (d_b dk_X10_note_0 33 rfl) rfl, rfl⟩
theorem dX10_note_34 : pm_dec mX10_note 34 (.iconst 1, 1) 35 := ⟨dq_4 (d_b dk_X10_note_0 34 rfl), rfl⟩
theorem dX10_note_35 : pm_dec mX10_note 35 (.iadd, 1) 36 := ⟨dq_96 (d_b dk_X10_note_0 35 rfl), rfl⟩
theorem dX10_note_36 : pm_dec mX10_note 36 (.putfield 15, 3) 39 := ⟨dq_181 (d_b dk_X10_note_0 36 rfl) (d_b dk_X10_note_0 37 rfl) (d_b dk_X10_note_0 38 rfl) rfl, rfl⟩
theorem dX10_note_39 : pm_dec mX10_note 39 (.return_, 1) 40 := ⟨dq_177 (d_b dk_X10_note_0 39 rfl), rfl⟩
def dt_X10_rankOf_0 : List Nat := [27, 5, 160, 0, 18, 42, 16, 30, 182, 0, 41, 42, 3, 28, 182, 0, 35, 6, 104, 172, 42, 16, 12, 182, 0, 41, 28, 42, 180, 0, 22, 100, 172]
theorem dk_X10_rankOf_0 : (((mX10_rankOf.2.1).data.toList.drop 0).take 33).map UInt8.toNat = dt_X10_rankOf_0 := by decide +kernel
theorem dX10_rankOf_0 : pm_dec mX10_rankOf 0 (.iload_n 1, 1) 1 := ⟨dq_27 (d_b dk_X10_rankOf_0 0 rfl), rfl⟩
theorem dX10_rankOf_1 : pm_dec mX10_rankOf 1 (.iconst 2, 1) 2 := ⟨dq_5 (d_b dk_X10_rankOf_0 1 rfl), rfl⟩
theorem dX10_rankOf_2 : pm_dec mX10_rankOf 2 (.if_icmp .ne 18, 3) 5 := ⟨dq_160 (d_b dk_X10_rankOf_0 2 rfl) (d_b dk_X10_rankOf_0 3 rfl) (d_b dk_X10_rankOf_0 4 rfl) (by decide), rfl⟩
theorem dX10_rankOf_5 : pm_dec mX10_rankOf 5 (.aload_n 0, 1) 6 := ⟨dq_42 (d_b dk_X10_rankOf_0 5 rfl), rfl⟩
theorem dX10_rankOf_6 : pm_dec mX10_rankOf 6 (.bipush 30, 2) 8 := ⟨dq_16 (d_b dk_X10_rankOf_0 6 rfl) (d_b dk_X10_rankOf_0 7 rfl) (by decide), rfl⟩
theorem dX10_rankOf_8 : pm_dec mX10_rankOf 8 (.invokevirtual 41, 3) 11 := ⟨dq_182 (d_b dk_X10_rankOf_0 8 rfl) (d_b dk_X10_rankOf_0 9 rfl) (d_b dk_X10_rankOf_0 10 rfl) rfl, rfl⟩
theorem dX10_rankOf_11 : pm_dec mX10_rankOf 11 (.aload_n 0, 1) 12 := ⟨dq_42 (d_b dk_X10_rankOf_0 11 rfl), rfl⟩
theorem dX10_rankOf_12 : pm_dec mX10_rankOf 12 (.iconst 0, 1) 13 := ⟨dq_3 (d_b dk_X10_rankOf_0 12 rfl), rfl⟩
theorem dX10_rankOf_13 : pm_dec mX10_rankOf 13 (.iload_n 2, 1) 14 := ⟨dq_28 (d_b dk_X10_rankOf_0 13 rfl), rfl⟩
theorem dX10_rankOf_14 : pm_dec mX10_rankOf 14 (.invokevirtual 35, 3) 17 := ⟨dq_182 (d_b dk_X10_rankOf_0 14 rfl) (d_b dk_X10_rankOf_0 15 rfl) (d_b dk_X10_rankOf_0 16 rfl) rfl, rfl⟩
theorem dX10_rankOf_17 : pm_dec mX10_rankOf 17 (.iconst 3, 1) 18 := ⟨dq_6 (d_b dk_X10_rankOf_0 17 rfl), rfl⟩
theorem dX10_rankOf_18 : pm_dec mX10_rankOf 18 (.imul, 1) 19 := ⟨dq_104 (d_b dk_X10_rankOf_0 18 rfl), rfl⟩
theorem dX10_rankOf_19 : pm_dec mX10_rankOf 19 (.ireturn, 1) 20 := ⟨dq_172 (d_b dk_X10_rankOf_0 19 rfl), rfl⟩
theorem dX10_rankOf_20 : pm_dec mX10_rankOf 20 (.aload_n 0, 1) 21 := ⟨dq_42 (d_b dk_X10_rankOf_0 20 rfl), rfl⟩
theorem dX10_rankOf_21 : pm_dec mX10_rankOf 21 (.bipush 12, 2) 23 := ⟨dq_16 (d_b dk_X10_rankOf_0 21 rfl) (d_b dk_X10_rankOf_0 22 rfl) (by decide), rfl⟩
theorem dX10_rankOf_23 : pm_dec mX10_rankOf 23 (.invokevirtual 41, 3) 26 := ⟨dq_182 (d_b dk_X10_rankOf_0 23 rfl) (d_b dk_X10_rankOf_0 24 rfl) (d_b dk_X10_rankOf_0 25 rfl) rfl, rfl⟩
theorem dX10_rankOf_26 : pm_dec mX10_rankOf 26 (.iload_n 2, 1) 27 := ⟨dq_28 (d_b dk_X10_rankOf_0 26 rfl), rfl⟩
theorem dX10_rankOf_27 : pm_dec mX10_rankOf 27 (.aload_n 0, 1) 28 := ⟨dq_42 (d_b dk_X10_rankOf_0 27 rfl), rfl⟩
theorem dX10_rankOf_28 : pm_dec mX10_rankOf 28 (.getfield 22, 3) 31 := ⟨dq_180 (d_b dk_X10_rankOf_0 28 rfl) (d_b dk_X10_rankOf_0 29 rfl) (d_b dk_X10_rankOf_0 30 rfl) rfl, rfl⟩
theorem dX10_rankOf_31 : pm_dec mX10_rankOf 31 (.isub, 1) 32 := ⟨dq_100 (d_b dk_X10_rankOf_0 31 rfl), rfl⟩
theorem dX10_rankOf_32 : pm_dec mX10_rankOf 32 (.ireturn, 1) 33 := ⟨dq_172 (d_b dk_X10_rankOf_0 32 rfl), rfl⟩
def dt_X10_speak_0 : List Nat := [27]
theorem dk_X10_speak_0 : (((mX10_speak.2.1).data.toList.drop 0).take 1).map UInt8.toNat = dt_X10_speak_0 := by decide +kernel
theorem dX10_speak_0 : pm_dec mX10_speak 0 (.iload_n 1, 1) 1 := ⟨dq_27 (d_b dk_X10_speak_0 0 rfl), rfl⟩
def dt_X10_speak_28 : List Nat := [42, 42, 180, 0, 19, 28, 182, 0, 28, 172, 42, 42, 180, 0, 19, 28, 182, 0, 32, 172, 42, 42, 180, 0, 19, 28, 182, 0, 35, 172, 42, 42, 180, 0, 19, 28, 182, 0, 38, 172]
theorem dk_X10_speak_28 : (((mX10_speak.2.1).data.toList.drop 28).take 40).map UInt8.toNat = dt_X10_speak_28 := by decide +kernel
theorem dX10_speak_28 : pm_dec mX10_speak 28 (.aload_n 0, 1) 29 := ⟨dq_42 (d_b dk_X10_speak_28 0 rfl), rfl⟩
theorem dX10_speak_29 : pm_dec mX10_speak 29 (.aload_n 0, 1) 30 := ⟨dq_42 (d_b dk_X10_speak_28 1 rfl), rfl⟩
theorem dX10_speak_30 : pm_dec mX10_speak 30 (.getfield 19, 3) 33 := ⟨dq_180 (d_b dk_X10_speak_28 2 rfl) (d_b dk_X10_speak_28 3 rfl) (d_b dk_X10_speak_28 4 rfl) rfl, rfl⟩
theorem dX10_speak_33 : pm_dec mX10_speak 33 (.iload_n 2, 1) 34 := ⟨dq_28 (d_b dk_X10_speak_28 5 rfl), rfl⟩
theorem dX10_speak_34 : pm_dec mX10_speak 34 (.invokevirtual 28, 3) 37 := ⟨dq_182 (d_b dk_X10_speak_28 6 rfl) (d_b dk_X10_speak_28 7 rfl) (d_b dk_X10_speak_28 8 rfl) rfl, rfl⟩
theorem dX10_speak_37 : pm_dec mX10_speak 37 (.ireturn, 1) 38 := ⟨dq_172 (d_b dk_X10_speak_28 9 rfl), rfl⟩
theorem dX10_speak_38 : pm_dec mX10_speak 38 (.aload_n 0, 1) 39 := ⟨dq_42 (d_b dk_X10_speak_28 10 rfl), rfl⟩
theorem dX10_speak_39 : pm_dec mX10_speak 39 (.aload_n 0, 1) 40 := ⟨dq_42 (d_b dk_X10_speak_28 11 rfl), rfl⟩
theorem dX10_speak_40 : pm_dec mX10_speak 40 (.getfield 19, 3) 43 := ⟨dq_180 (d_b dk_X10_speak_28 12 rfl) (d_b dk_X10_speak_28 13 rfl) (d_b dk_X10_speak_28 14 rfl) rfl, rfl⟩
theorem dX10_speak_43 : pm_dec mX10_speak 43 (.iload_n 2, 1) 44 := ⟨dq_28 (d_b dk_X10_speak_28 15 rfl), rfl⟩
theorem dX10_speak_44 : pm_dec mX10_speak 44 (.invokevirtual 32, 3) 47 := ⟨dq_182 (d_b dk_X10_speak_28 16 rfl) (d_b dk_X10_speak_28 17 rfl) (d_b dk_X10_speak_28 18 rfl) rfl, rfl⟩
theorem dX10_speak_47 : pm_dec mX10_speak 47 (.ireturn, 1) 48 := ⟨dq_172 (d_b dk_X10_speak_28 19 rfl), rfl⟩
theorem dX10_speak_48 : pm_dec mX10_speak 48 (.aload_n 0, 1) 49 := ⟨dq_42 (d_b dk_X10_speak_28 20 rfl), rfl⟩
theorem dX10_speak_49 : pm_dec mX10_speak 49 (.aload_n 0, 1) 50 := ⟨dq_42 (d_b dk_X10_speak_28 21 rfl), rfl⟩
theorem dX10_speak_50 : pm_dec mX10_speak 50 (.getfield 19, 3) 53 := ⟨dq_180 (d_b dk_X10_speak_28 22 rfl) (d_b dk_X10_speak_28 23 rfl) (d_b dk_X10_speak_28 24 rfl) rfl, rfl⟩
theorem dX10_speak_53 : pm_dec mX10_speak 53 (.iload_n 2, 1) 54 := ⟨dq_28 (d_b dk_X10_speak_28 25 rfl), rfl⟩
theorem dX10_speak_54 : pm_dec mX10_speak 54 (.invokevirtual 35, 3) 57 := ⟨dq_182 (d_b dk_X10_speak_28 26 rfl) (d_b dk_X10_speak_28 27 rfl) (d_b dk_X10_speak_28 28 rfl) rfl, rfl⟩
theorem dX10_speak_57 : pm_dec mX10_speak 57 (.ireturn, 1) 58 := ⟨dq_172 (d_b dk_X10_speak_28 29 rfl), rfl⟩
theorem dX10_speak_58 : pm_dec mX10_speak 58 (.aload_n 0, 1) 59 := ⟨dq_42 (d_b dk_X10_speak_28 30 rfl), rfl⟩
theorem dX10_speak_59 : pm_dec mX10_speak 59 (.aload_n 0, 1) 60 := ⟨dq_42 (d_b dk_X10_speak_28 31 rfl), rfl⟩
theorem dX10_speak_60 : pm_dec mX10_speak 60 (.getfield 19, 3) 63 := ⟨dq_180 (d_b dk_X10_speak_28 32 rfl) (d_b dk_X10_speak_28 33 rfl) (d_b dk_X10_speak_28 34 rfl) rfl, rfl⟩
theorem dX10_speak_63 : pm_dec mX10_speak 63 (.iload_n 2, 1) 64 := ⟨dq_28 (d_b dk_X10_speak_28 35 rfl), rfl⟩
theorem dX10_speak_64 : pm_dec mX10_speak 64 (.invokevirtual 38, 3) 67 := ⟨dq_182 (d_b dk_X10_speak_28 36 rfl) (d_b dk_X10_speak_28 37 rfl) (d_b dk_X10_speak_28 38 rfl) rfl, rfl⟩
theorem dX10_speak_67 : pm_dec mX10_speak 67 (.ireturn, 1) 68 := ⟨dq_172 (d_b dk_X10_speak_28 39 rfl), rfl⟩
def dt_X10_tellOf_0 : List Nat := [27]
theorem dk_X10_tellOf_0 : (((mX10_tellOf.2.1).data.toList.drop 0).take 1).map UInt8.toNat = dt_X10_tellOf_0 := by decide +kernel
theorem dX10_tellOf_0 : pm_dec mX10_tellOf 0 (.iload_n 1, 1) 1 := ⟨dq_27 (d_b dk_X10_tellOf_0 0 rfl), rfl⟩
def dt_X10_tellOf_32 : List Nat := [42, 16, 51, 182, 0, 41, 42, 42, 180, 0, 19, 28, 182, 0, 35, 42, 6, 28, 182, 0, 38, 100, 172, 42, 16, 21, 182, 0, 41, 42, 3, 28, 4, 96, 182, 0, 38, 172, 42, 16, 13, 182, 0, 41, 42, 42, 180, 0, 19]
theorem dk_X10_tellOf_32 : (((mX10_tellOf.2.1).data.toList.drop 32).take 49).map UInt8.toNat = dt_X10_tellOf_32 := by decide +kernel
theorem dX10_tellOf_32 : pm_dec mX10_tellOf 32 (.aload_n 0, 1) 33 := ⟨dq_42 (d_b dk_X10_tellOf_32 0 rfl), rfl⟩
theorem dX10_tellOf_33 : pm_dec mX10_tellOf 33 (.bipush 51, 2) 35 := ⟨dq_16 (d_b dk_X10_tellOf_32 1 rfl) (d_b dk_X10_tellOf_32 2 rfl) (by decide), rfl⟩
theorem dX10_tellOf_35 : pm_dec mX10_tellOf 35 (.invokevirtual 41, 3) 38 := ⟨dq_182 (d_b dk_X10_tellOf_32 3 rfl) (d_b dk_X10_tellOf_32 4 rfl) (d_b dk_X10_tellOf_32 5 rfl) rfl, rfl⟩
theorem dX10_tellOf_38 : pm_dec mX10_tellOf 38 (.aload_n 0, 1) 39 := ⟨dq_42 (d_b dk_X10_tellOf_32 6 rfl), rfl⟩
theorem dX10_tellOf_39 : pm_dec mX10_tellOf 39 (.aload_n 0, 1) 40 := ⟨dq_42 (d_b dk_X10_tellOf_32 7 rfl), rfl⟩
theorem dX10_tellOf_40 : pm_dec mX10_tellOf 40 (.getfield 19, 3) 43 := ⟨dq_180 (d_b dk_X10_tellOf_32 8 rfl) (d_b dk_X10_tellOf_32 9 rfl) (d_b dk_X10_tellOf_32 10 rfl) rfl, rfl⟩
theorem dX10_tellOf_43 : pm_dec mX10_tellOf 43 (.iload_n 2, 1) 44 := ⟨dq_28 (d_b dk_X10_tellOf_32 11 rfl), rfl⟩
theorem dX10_tellOf_44 : pm_dec mX10_tellOf 44 (.invokevirtual 35, 3) 47 := ⟨dq_182 (d_b dk_X10_tellOf_32 12 rfl) (d_b dk_X10_tellOf_32 13 rfl) (d_b dk_X10_tellOf_32 14 rfl) rfl, rfl⟩
theorem dX10_tellOf_47 : pm_dec mX10_tellOf 47 (.aload_n 0, 1) 48 := ⟨dq_42 (d_b dk_X10_tellOf_32 15 rfl), rfl⟩
theorem dX10_tellOf_48 : pm_dec mX10_tellOf 48 (.iconst 3, 1) 49 := ⟨dq_6 (d_b dk_X10_tellOf_32 16 rfl), rfl⟩
theorem dX10_tellOf_49 : pm_dec mX10_tellOf 49 (.iload_n 2, 1) 50 := ⟨dq_28 (d_b dk_X10_tellOf_32 17 rfl), rfl⟩
theorem dX10_tellOf_50 : pm_dec mX10_tellOf 50 (.invokevirtual 38, 3) 53 := ⟨dq_182 (d_b dk_X10_tellOf_32 18 rfl) (d_b dk_X10_tellOf_32 19 rfl) (d_b dk_X10_tellOf_32 20 rfl) rfl, rfl⟩
theorem dX10_tellOf_53 : pm_dec mX10_tellOf 53 (.isub, 1) 54 := ⟨dq_100 (d_b dk_X10_tellOf_32 21 rfl), rfl⟩
theorem dX10_tellOf_54 : pm_dec mX10_tellOf 54 (.ireturn, 1) 55 := ⟨dq_172 (d_b dk_X10_tellOf_32 22 rfl), rfl⟩
theorem dX10_tellOf_55 : pm_dec mX10_tellOf 55 (.aload_n 0, 1) 56 := ⟨dq_42 (d_b dk_X10_tellOf_32 23 rfl), rfl⟩
theorem dX10_tellOf_56 : pm_dec mX10_tellOf 56 (.bipush 21, 2) 58 := ⟨dq_16 (d_b dk_X10_tellOf_32 24 rfl) (d_b dk_X10_tellOf_32 25 rfl) (by decide), rfl⟩
theorem dX10_tellOf_58 : pm_dec mX10_tellOf 58 (.invokevirtual 41, 3) 61 := ⟨dq_182 (d_b dk_X10_tellOf_32 26 rfl) (d_b dk_X10_tellOf_32 27 rfl) (d_b dk_X10_tellOf_32 28 rfl) rfl, rfl⟩
theorem dX10_tellOf_61 : pm_dec mX10_tellOf 61 (.aload_n 0, 1) 62 := ⟨dq_42 (d_b dk_X10_tellOf_32 29 rfl), rfl⟩
theorem dX10_tellOf_62 : pm_dec mX10_tellOf 62 (.iconst 0, 1) 63 := ⟨dq_3 (d_b dk_X10_tellOf_32 30 rfl), rfl⟩
theorem dX10_tellOf_63 : pm_dec mX10_tellOf 63 (.iload_n 2, 1) 64 := ⟨dq_28 (d_b dk_X10_tellOf_32 31 rfl), rfl⟩
theorem dX10_tellOf_64 : pm_dec mX10_tellOf 64 (.iconst 1, 1) 65 := ⟨dq_4 (d_b dk_X10_tellOf_32 32 rfl), rfl⟩
theorem dX10_tellOf_65 : pm_dec mX10_tellOf 65 (.iadd, 1) 66 := ⟨dq_96 (d_b dk_X10_tellOf_32 33 rfl), rfl⟩
theorem dX10_tellOf_66 : pm_dec mX10_tellOf 66 (.invokevirtual 38, 3) 69 := ⟨dq_182 (d_b dk_X10_tellOf_32 34 rfl) (d_b dk_X10_tellOf_32 35 rfl) (d_b dk_X10_tellOf_32 36 rfl) rfl, rfl⟩
theorem dX10_tellOf_69 : pm_dec mX10_tellOf 69 (.ireturn, 1) 70 := ⟨dq_172 (d_b dk_X10_tellOf_32 37 rfl), rfl⟩
theorem dX10_tellOf_70 : pm_dec mX10_tellOf 70 (.aload_n 0, 1) 71 := ⟨dq_42 (d_b dk_X10_tellOf_32 38 rfl), rfl⟩
theorem dX10_tellOf_71 : pm_dec mX10_tellOf 71 (.bipush 13, 2) 73 := ⟨dq_16 (d_b dk_X10_tellOf_32 39 rfl) (d_b dk_X10_tellOf_32 40 rfl) (by decide), rfl⟩
theorem dX10_tellOf_73 : pm_dec mX10_tellOf 73 (.invokevirtual 41, 3) 76 := ⟨dq_182 (d_b dk_X10_tellOf_32 41 rfl) (d_b dk_X10_tellOf_32 42 rfl) (d_b dk_X10_tellOf_32 43 rfl) rfl, rfl⟩
theorem dX10_tellOf_76 : pm_dec mX10_tellOf 76 (.aload_n 0, 1) 77 := ⟨dq_42 (d_b dk_X10_tellOf_32 44 rfl), rfl⟩
theorem dX10_tellOf_77 : pm_dec mX10_tellOf 77 (.aload_n 0, 1) 78 := ⟨dq_42 (d_b dk_X10_tellOf_32 45 rfl), rfl⟩
theorem dX10_tellOf_78 : pm_dec mX10_tellOf 78 (.getfield 19, 3) 81 := ⟨dq_180 (d_b dk_X10_tellOf_32 46 rfl) (d_b dk_X10_tellOf_32 47 rfl) (d_b dk_X10_tellOf_32 48 rfl) rfl, rfl⟩
def dt_X10_tellOf_81 : List Nat := [28, 182, 0, 32, 42, 42, 180, 0, 19, 28, 182, 0, 35, 130, 172]
theorem dk_X10_tellOf_81 : (((mX10_tellOf.2.1).data.toList.drop 81).take 15).map UInt8.toNat = dt_X10_tellOf_81 := by decide +kernel
theorem dX10_tellOf_81 : pm_dec mX10_tellOf 81 (.iload_n 2, 1) 82 := ⟨dq_28 (d_b dk_X10_tellOf_81 0 rfl), rfl⟩
theorem dX10_tellOf_82 : pm_dec mX10_tellOf 82 (.invokevirtual 32, 3) 85 := ⟨dq_182 (d_b dk_X10_tellOf_81 1 rfl) (d_b dk_X10_tellOf_81 2 rfl) (d_b dk_X10_tellOf_81 3 rfl) rfl, rfl⟩
theorem dX10_tellOf_85 : pm_dec mX10_tellOf 85 (.aload_n 0, 1) 86 := ⟨dq_42 (d_b dk_X10_tellOf_81 4 rfl), rfl⟩
theorem dX10_tellOf_86 : pm_dec mX10_tellOf 86 (.aload_n 0, 1) 87 := ⟨dq_42 (d_b dk_X10_tellOf_81 5 rfl), rfl⟩
theorem dX10_tellOf_87 : pm_dec mX10_tellOf 87 (.getfield 19, 3) 90 := ⟨dq_180 (d_b dk_X10_tellOf_81 6 rfl) (d_b dk_X10_tellOf_81 7 rfl) (d_b dk_X10_tellOf_81 8 rfl) rfl, rfl⟩
theorem dX10_tellOf_90 : pm_dec mX10_tellOf 90 (.iload_n 2, 1) 91 := ⟨dq_28 (d_b dk_X10_tellOf_81 9 rfl), rfl⟩
theorem dX10_tellOf_91 : pm_dec mX10_tellOf 91 (.invokevirtual 35, 3) 94 := ⟨dq_182 (d_b dk_X10_tellOf_81 10 rfl) (d_b dk_X10_tellOf_81 11 rfl) (d_b dk_X10_tellOf_81 12 rfl) rfl, rfl⟩
theorem dX10_tellOf_94 : pm_dec mX10_tellOf 94 (.ixor, 1) 95 := ⟨dq_130 (d_b dk_X10_tellOf_81 13 rfl), rfl⟩
theorem dX10_tellOf_95 : pm_dec mX10_tellOf 95 (.ireturn, 1) 96 := ⟨dq_172 (d_b dk_X10_tellOf_81 14 rfl), rfl⟩
def dt_X11_about_0 : List Nat := [42, 180, 0, 12, 180, 0, 128, 27, 182, 0, 101, 154, 0, 10, 42, 18, 109, 182, 0, 97, 172, 28]
theorem dk_X11_about_0 : (((mX11_about.2.1).data.toList.drop 0).take 22).map UInt8.toNat = dt_X11_about_0 := by decide +kernel
theorem dX11_about_0 : pm_dec mX11_about 0 (.aload_n 0, 1) 1 := ⟨dq_42 (d_b dk_X11_about_0 0 rfl), rfl⟩
theorem dX11_about_1 : pm_dec mX11_about 1 (.getfield 12, 3) 4 := ⟨dq_180 (d_b dk_X11_about_0 1 rfl) (d_b dk_X11_about_0 2 rfl) (d_b dk_X11_about_0 3 rfl) rfl, rfl⟩
theorem dX11_about_4 : pm_dec mX11_about 4 (.getfield 128, 3) 7 := ⟨dq_180 (d_b dk_X11_about_0 4 rfl) (d_b dk_X11_about_0 5 rfl) (d_b dk_X11_about_0 6 rfl) rfl, rfl⟩
theorem dX11_about_7 : pm_dec mX11_about 7 (.iload_n 1, 1) 8 := ⟨dq_27 (d_b dk_X11_about_0 7 rfl), rfl⟩
theorem dX11_about_8 : pm_dec mX11_about 8 (.invokevirtual 101, 3) 11 := ⟨dq_182 (d_b dk_X11_about_0 8 rfl) (d_b dk_X11_about_0 9 rfl) (d_b dk_X11_about_0 10 rfl) rfl, rfl⟩
theorem dX11_about_11 : pm_dec mX11_about 11 (.ifCond .ne 10, 3) 14 := ⟨dq_154 (d_b dk_X11_about_0 11 rfl) (d_b dk_X11_about_0 12 rfl) (d_b dk_X11_about_0 13 rfl) (by decide), rfl⟩
theorem dX11_about_14 : pm_dec mX11_about 14 (.aload_n 0, 1) 15 := ⟨dq_42 (d_b dk_X11_about_0 14 rfl), rfl⟩
theorem dX11_about_15 : pm_dec mX11_about 15 (.ldc 109, 2) 17 := ⟨dq_18 (d_b dk_X11_about_0 15 rfl) (d_b dk_X11_about_0 16 rfl), rfl⟩
theorem dX11_about_17 : pm_dec mX11_about 17 (.invokevirtual 97, 3) 20 := ⟨dq_182 (d_b dk_X11_about_0 17 rfl) (d_b dk_X11_about_0 18 rfl) (d_b dk_X11_about_0 19 rfl) rfl, rfl⟩
theorem dX11_about_20 : pm_dec mX11_about 20 (.ireturn, 1) 21 := ⟨dq_172 (d_b dk_X11_about_0 20 rfl), rfl⟩
theorem dX11_about_21 : pm_dec mX11_about 21 (.iload_n 2, 1) 22 := ⟨dq_28 (d_b dk_X11_about_0 21 rfl), rfl⟩
def dt_X11_about_76 : List Nat := [42, 180, 0, 12, 180, 0, 128, 27, 7, 182, 0, 152, 172, 42, 180, 0, 12, 180, 0, 128, 27, 16, 7, 182, 0, 152, 172, 42, 180, 0, 12, 180, 0, 128, 27, 16, 8, 182, 0, 152, 172, 42, 180, 0, 12, 180, 0, 128]
theorem dk_X11_about_76 : (((mX11_about.2.1).data.toList.drop 76).take 48).map UInt8.toNat = dt_X11_about_76 := by decide +kernel
theorem dX11_about_76 : pm_dec mX11_about 76 (.aload_n 0, 1) 77 := ⟨dq_42 (d_b dk_X11_about_76 0 rfl), rfl⟩
theorem dX11_about_77 : pm_dec mX11_about 77 (.getfield 12, 3) 80 := ⟨dq_180 (d_b dk_X11_about_76 1 rfl) (d_b dk_X11_about_76 2 rfl) (d_b dk_X11_about_76 3 rfl) rfl, rfl⟩
theorem dX11_about_80 : pm_dec mX11_about 80 (.getfield 128, 3) 83 := ⟨dq_180 (d_b dk_X11_about_76 4 rfl) (d_b dk_X11_about_76 5 rfl) (d_b dk_X11_about_76 6 rfl) rfl, rfl⟩
theorem dX11_about_83 : pm_dec mX11_about 83 (.iload_n 1, 1) 84 := ⟨dq_27 (d_b dk_X11_about_76 7 rfl), rfl⟩
theorem dX11_about_84 : pm_dec mX11_about 84 (.iconst 4, 1) 85 := ⟨dq_7 (d_b dk_X11_about_76 8 rfl), rfl⟩
theorem dX11_about_85 : pm_dec mX11_about 85 (.invokevirtual 152, 3) 88 := ⟨dq_182 (d_b dk_X11_about_76 9 rfl) (d_b dk_X11_about_76 10 rfl) (d_b dk_X11_about_76 11 rfl) rfl, rfl⟩
theorem dX11_about_88 : pm_dec mX11_about 88 (.ireturn, 1) 89 := ⟨dq_172 (d_b dk_X11_about_76 12 rfl), rfl⟩
theorem dX11_about_89 : pm_dec mX11_about 89 (.aload_n 0, 1) 90 := ⟨dq_42 (d_b dk_X11_about_76 13 rfl), rfl⟩
theorem dX11_about_90 : pm_dec mX11_about 90 (.getfield 12, 3) 93 := ⟨dq_180 (d_b dk_X11_about_76 14 rfl) (d_b dk_X11_about_76 15 rfl) (d_b dk_X11_about_76 16 rfl) rfl, rfl⟩
theorem dX11_about_93 : pm_dec mX11_about 93 (.getfield 128, 3) 96 := ⟨dq_180 (d_b dk_X11_about_76 17 rfl) (d_b dk_X11_about_76 18 rfl) (d_b dk_X11_about_76 19 rfl) rfl, rfl⟩
theorem dX11_about_96 : pm_dec mX11_about 96 (.iload_n 1, 1) 97 := ⟨dq_27 (d_b dk_X11_about_76 20 rfl), rfl⟩
theorem dX11_about_97 : pm_dec mX11_about 97 (.bipush 7, 2) 99 := ⟨dq_16 (d_b dk_X11_about_76 21 rfl) (d_b dk_X11_about_76 22 rfl) (by decide), rfl⟩
theorem dX11_about_99 : pm_dec mX11_about 99 (.invokevirtual 152, 3) 102 := ⟨dq_182 (d_b dk_X11_about_76 23 rfl) (d_b dk_X11_about_76 24 rfl) (d_b dk_X11_about_76 25 rfl) rfl, rfl⟩
theorem dX11_about_102 : pm_dec mX11_about 102 (.ireturn, 1) 103 := ⟨dq_172 (d_b dk_X11_about_76 26 rfl), rfl⟩
theorem dX11_about_103 : pm_dec mX11_about 103 (.aload_n 0, 1) 104 := ⟨dq_42 (d_b dk_X11_about_76 27 rfl), rfl⟩
theorem dX11_about_104 : pm_dec mX11_about 104 (.getfield 12, 3) 107 := ⟨dq_180 (d_b dk_X11_about_76 28 rfl) (d_b dk_X11_about_76 29 rfl) (d_b dk_X11_about_76 30 rfl) rfl, rfl⟩
theorem dX11_about_107 : pm_dec mX11_about 107 (.getfield 128, 3) 110 := ⟨dq_180 (d_b dk_X11_about_76 31 rfl) (d_b dk_X11_about_76 32 rfl) (d_b dk_X11_about_76 33 rfl) rfl, rfl⟩
theorem dX11_about_110 : pm_dec mX11_about 110 (.iload_n 1, 1) 111 := ⟨dq_27 (d_b dk_X11_about_76 34 rfl), rfl⟩
theorem dX11_about_111 : pm_dec mX11_about 111 (.bipush 8, 2) 113 := ⟨dq_16 (d_b dk_X11_about_76 35 rfl) (d_b dk_X11_about_76 36 rfl) (by decide), rfl⟩
theorem dX11_about_113 : pm_dec mX11_about 113 (.invokevirtual 152, 3) 116 := ⟨dq_182 (d_b dk_X11_about_76 37 rfl) (d_b dk_X11_about_76 38 rfl) (d_b dk_X11_about_76 39 rfl) rfl, rfl⟩
theorem dX11_about_116 : pm_dec mX11_about 116 (.ireturn, 1) 117 := ⟨dq_172 (d_b dk_X11_about_76 40 rfl), rfl⟩
theorem dX11_about_117 : pm_dec mX11_about 117 (.aload_n 0, 1) 118 := ⟨dq_42 (d_b dk_X11_about_76 41 rfl), rfl⟩
theorem dX11_about_118 : pm_dec mX11_about 118 (.getfield 12, 3) 121 := ⟨dq_180 (d_b dk_X11_about_76 42 rfl) (d_b dk_X11_about_76 43 rfl) (d_b dk_X11_about_76 44 rfl) rfl, rfl⟩
theorem dX11_about_121 : pm_dec mX11_about 121 (.getfield 128, 3) 124 := ⟨dq_180 (d_b dk_X11_about_76 45 rfl) (d_b dk_X11_about_76 46 rfl) (d_b dk_X11_about_76 47 rfl) rfl, rfl⟩
def dt_X11_about_124 : List Nat := [27, 4, 182, 0, 152, 42, 180, 0, 12, 180, 0, 122, 184, 0, 155, 172, 42, 180, 0, 12, 27, 182, 0, 158, 172, 42, 180, 0, 12, 180, 0, 161, 5, 27, 182, 0, 164, 172, 42, 180, 0, 12, 180, 0, 128, 27, 16, 9]
theorem dk_X11_about_124 : (((mX11_about.2.1).data.toList.drop 124).take 48).map UInt8.toNat = dt_X11_about_124 := by decide +kernel
theorem dX11_about_124 : pm_dec mX11_about 124 (.iload_n 1, 1) 125 := ⟨dq_27 (d_b dk_X11_about_124 0 rfl), rfl⟩
theorem dX11_about_125 : pm_dec mX11_about 125 (.iconst 1, 1) 126 := ⟨dq_4 (d_b dk_X11_about_124 1 rfl), rfl⟩
theorem dX11_about_126 : pm_dec mX11_about 126 (.invokevirtual 152, 3) 129 := ⟨dq_182 (d_b dk_X11_about_124 2 rfl) (d_b dk_X11_about_124 3 rfl) (d_b dk_X11_about_124 4 rfl) rfl, rfl⟩
theorem dX11_about_129 : pm_dec mX11_about 129 (.aload_n 0, 1) 130 := ⟨dq_42 (d_b dk_X11_about_124 5 rfl), rfl⟩
theorem dX11_about_130 : pm_dec mX11_about 130 (.getfield 12, 3) 133 := ⟨dq_180 (d_b dk_X11_about_124 6 rfl) (d_b dk_X11_about_124 7 rfl) (d_b dk_X11_about_124 8 rfl) rfl, rfl⟩
theorem dX11_about_133 : pm_dec mX11_about 133 (.getfield 122, 3) 136 := ⟨dq_180 (d_b dk_X11_about_124 9 rfl) (d_b dk_X11_about_124 10 rfl) (d_b dk_X11_about_124 11 rfl) rfl, rfl⟩
theorem dX11_about_136 : pm_dec mX11_about 136 (.invokestatic 155, 3) 139 := ⟨dq_184 (d_b dk_X11_about_124 12 rfl) (d_b dk_X11_about_124 13 rfl) (d_b dk_X11_about_124 14 rfl) rfl, rfl⟩
theorem dX11_about_139 : pm_dec mX11_about 139 (.ireturn, 1) 140 := ⟨dq_172 (d_b dk_X11_about_124 15 rfl), rfl⟩
theorem dX11_about_140 : pm_dec mX11_about 140 (.aload_n 0, 1) 141 := ⟨dq_42 (d_b dk_X11_about_124 16 rfl), rfl⟩
theorem dX11_about_141 : pm_dec mX11_about 141 (.getfield 12, 3) 144 := ⟨dq_180 (d_b dk_X11_about_124 17 rfl) (d_b dk_X11_about_124 18 rfl) (d_b dk_X11_about_124 19 rfl) rfl, rfl⟩
theorem dX11_about_144 : pm_dec mX11_about 144 (.iload_n 1, 1) 145 := ⟨dq_27 (d_b dk_X11_about_124 20 rfl), rfl⟩
theorem dX11_about_145 : pm_dec mX11_about 145 (.invokevirtual 158, 3) 148 := ⟨dq_182 (d_b dk_X11_about_124 21 rfl) (d_b dk_X11_about_124 22 rfl) (d_b dk_X11_about_124 23 rfl) rfl, rfl⟩
theorem dX11_about_148 : pm_dec mX11_about 148 (.ireturn, 1) 149 := ⟨dq_172 (d_b dk_X11_about_124 24 rfl), rfl⟩
theorem dX11_about_149 : pm_dec mX11_about 149 (.aload_n 0, 1) 150 := ⟨dq_42 (d_b dk_X11_about_124 25 rfl), rfl⟩
theorem dX11_about_150 : pm_dec mX11_about 150 (.getfield 12, 3) 153 := ⟨dq_180 (d_b dk_X11_about_124 26 rfl) (d_b dk_X11_about_124 27 rfl) (d_b dk_X11_about_124 28 rfl) rfl, rfl⟩
theorem dX11_about_153 : pm_dec mX11_about 153 (.getfield 161, 3) 156 := ⟨dq_180 (d_b dk_X11_about_124 29 rfl) (d_b dk_X11_about_124 30 rfl) (d_b dk_X11_about_124 31 rfl) rfl, rfl⟩
theorem dX11_about_156 : pm_dec mX11_about 156 (.iconst 2, 1) 157 := ⟨dq_5 (d_b dk_X11_about_124 32 rfl), rfl⟩
theorem dX11_about_157 : pm_dec mX11_about 157 (.iload_n 1, 1) 158 := ⟨dq_27 (d_b dk_X11_about_124 33 rfl), rfl⟩
theorem dX11_about_158 : pm_dec mX11_about 158 (.invokevirtual 164, 3) 161 := ⟨dq_182 (d_b dk_X11_about_124 34 rfl) (d_b dk_X11_about_124 35 rfl) (d_b dk_X11_about_124 36 rfl) rfl, rfl⟩
theorem dX11_about_161 : pm_dec mX11_about 161 (.ireturn, 1) 162 := ⟨dq_172 (d_b dk_X11_about_124 37 rfl), rfl⟩
theorem dX11_about_162 : pm_dec mX11_about 162 (.aload_n 0, 1) 163 := ⟨dq_42 (d_b dk_X11_about_124 38 rfl), rfl⟩
theorem dX11_about_163 : pm_dec mX11_about 163 (.getfield 12, 3) 166 := ⟨dq_180 (d_b dk_X11_about_124 39 rfl) (d_b dk_X11_about_124 40 rfl) (d_b dk_X11_about_124 41 rfl) rfl, rfl⟩
theorem dX11_about_166 : pm_dec mX11_about 166 (.getfield 128, 3) 169 := ⟨dq_180 (d_b dk_X11_about_124 42 rfl) (d_b dk_X11_about_124 43 rfl) (d_b dk_X11_about_124 44 rfl) rfl, rfl⟩
theorem dX11_about_169 : pm_dec mX11_about 169 (.iload_n 1, 1) 170 := ⟨dq_27 (d_b dk_X11_about_124 45 rfl), rfl⟩
theorem dX11_about_170 : pm_dec mX11_about 170 (.bipush 9, 2) 172 := ⟨dq_16 (d_b dk_X11_about_124 46 rfl) (d_b dk_X11_about_124 47 rfl) (by decide), rfl⟩
def dt_X11_about_172 : List Nat := [182, 0, 152, 172, 42, 180, 0, 12, 180, 0, 128, 27, 16, 13, 182, 0, 152, 172, 42, 180, 0, 12, 180, 0, 128, 27, 16, 11, 182, 0, 152, 172, 42, 180, 0, 12, 180, 0, 128, 27, 16, 12, 182, 0, 152, 172, 42, 18, 109]
theorem dk_X11_about_172 : (((mX11_about.2.1).data.toList.drop 172).take 49).map UInt8.toNat = dt_X11_about_172 := by decide +kernel
theorem dX11_about_172 : pm_dec mX11_about 172 (.invokevirtual 152, 3) 175 := ⟨dq_182 (d_b dk_X11_about_172 0 rfl) (d_b dk_X11_about_172 1 rfl) (d_b dk_X11_about_172 2 rfl) rfl, rfl⟩
theorem dX11_about_175 : pm_dec mX11_about 175 (.ireturn, 1) 176 := ⟨dq_172 (d_b dk_X11_about_172 3 rfl), rfl⟩
theorem dX11_about_176 : pm_dec mX11_about 176 (.aload_n 0, 1) 177 := ⟨dq_42 (d_b dk_X11_about_172 4 rfl), rfl⟩
theorem dX11_about_177 : pm_dec mX11_about 177 (.getfield 12, 3) 180 := ⟨dq_180 (d_b dk_X11_about_172 5 rfl) (d_b dk_X11_about_172 6 rfl) (d_b dk_X11_about_172 7 rfl) rfl, rfl⟩
theorem dX11_about_180 : pm_dec mX11_about 180 (.getfield 128, 3) 183 := ⟨dq_180 (d_b dk_X11_about_172 8 rfl) (d_b dk_X11_about_172 9 rfl) (d_b dk_X11_about_172 10 rfl) rfl, rfl⟩
theorem dX11_about_183 : pm_dec mX11_about 183 (.iload_n 1, 1) 184 := ⟨dq_27 (d_b dk_X11_about_172 11 rfl), rfl⟩
theorem dX11_about_184 : pm_dec mX11_about 184 (.bipush 13, 2) 186 := ⟨dq_16 (d_b dk_X11_about_172 12 rfl) (d_b dk_X11_about_172 13 rfl) (by decide), rfl⟩
theorem dX11_about_186 : pm_dec mX11_about 186 (.invokevirtual 152, 3) 189 := ⟨dq_182 (d_b dk_X11_about_172 14 rfl) (d_b dk_X11_about_172 15 rfl) (d_b dk_X11_about_172 16 rfl) rfl, rfl⟩
theorem dX11_about_189 : pm_dec mX11_about 189 (.ireturn, 1) 190 := ⟨dq_172 (d_b dk_X11_about_172 17 rfl), rfl⟩
theorem dX11_about_190 : pm_dec mX11_about 190 (.aload_n 0, 1) 191 := ⟨dq_42 (d_b dk_X11_about_172 18 rfl), rfl⟩
theorem dX11_about_191 : pm_dec mX11_about 191 (.getfield 12, 3) 194 := ⟨dq_180 (d_b dk_X11_about_172 19 rfl) (d_b dk_X11_about_172 20 rfl) (d_b dk_X11_about_172 21 rfl) rfl, rfl⟩
theorem dX11_about_194 : pm_dec mX11_about 194 (.getfield 128, 3) 197 := ⟨dq_180 (d_b dk_X11_about_172 22 rfl) (d_b dk_X11_about_172 23 rfl) (d_b dk_X11_about_172 24 rfl) rfl, rfl⟩
theorem dX11_about_197 : pm_dec mX11_about 197 (.iload_n 1, 1) 198 := ⟨dq_27 (d_b dk_X11_about_172 25 rfl), rfl⟩
theorem dX11_about_198 : pm_dec mX11_about 198 (.bipush 11, 2) 200 := ⟨dq_16 (d_b dk_X11_about_172 26 rfl) (d_b dk_X11_about_172 27 rfl) (by decide), rfl⟩
theorem dX11_about_200 : pm_dec mX11_about 200 (.invokevirtual 152, 3) 203 := ⟨dq_182 (d_b dk_X11_about_172 28 rfl) (d_b dk_X11_about_172 29 rfl) (d_b dk_X11_about_172 30 rfl) rfl, rfl⟩
theorem dX11_about_203 : pm_dec mX11_about 203 (.ireturn, 1) 204 := ⟨dq_172 (d_b dk_X11_about_172 31 rfl), rfl⟩
theorem dX11_about_204 : pm_dec mX11_about 204 (.aload_n 0, 1) 205 := ⟨dq_42 (d_b dk_X11_about_172 32 rfl), rfl⟩
theorem dX11_about_205 : pm_dec mX11_about 205 (.getfield 12, 3) 208 := ⟨dq_180 (d_b dk_X11_about_172 33 rfl) (d_b dk_X11_about_172 34 rfl) (d_b dk_X11_about_172 35 rfl) rfl, rfl⟩
theorem dX11_about_208 : pm_dec mX11_about 208 (.getfield 128, 3) 211 := ⟨dq_180 (d_b dk_X11_about_172 36 rfl) (d_b dk_X11_about_172 37 rfl) (d_b dk_X11_about_172 38 rfl) rfl, rfl⟩
theorem dX11_about_211 : pm_dec mX11_about 211 (.iload_n 1, 1) 212 := ⟨dq_27 (d_b dk_X11_about_172 39 rfl), rfl⟩
theorem dX11_about_212 : pm_dec mX11_about 212 (.bipush 12, 2) 214 := ⟨dq_16 (d_b dk_X11_about_172 40 rfl) (d_b dk_X11_about_172 41 rfl) (by decide), rfl⟩
theorem dX11_about_214 : pm_dec mX11_about 214 (.invokevirtual 152, 3) 217 := ⟨dq_182 (d_b dk_X11_about_172 42 rfl) (d_b dk_X11_about_172 43 rfl) (d_b dk_X11_about_172 44 rfl) rfl, rfl⟩
theorem dX11_about_217 : pm_dec mX11_about 217 (.ireturn, 1) 218 := ⟨dq_172 (d_b dk_X11_about_172 45 rfl), rfl⟩
theorem dX11_about_218 : pm_dec mX11_about 218 (.aload_n 0, 1) 219 := ⟨dq_42 (d_b dk_X11_about_172 46 rfl), rfl⟩
theorem dX11_about_219 : pm_dec mX11_about 219 (.ldc 109, 2) 221 := ⟨dq_18 (d_b dk_X11_about_172 47 rfl) (d_b dk_X11_about_172 48 rfl), rfl⟩
def dt_X11_about_221 : List Nat := [182, 0, 97, 172]
theorem dk_X11_about_221 : (((mX11_about.2.1).data.toList.drop 221).take 4).map UInt8.toNat = dt_X11_about_221 := by decide +kernel
theorem dX11_about_221 : pm_dec mX11_about 221 (.invokevirtual 97, 3) 224 := ⟨dq_182 (d_b dk_X11_about_221 0 rfl) (d_b dk_X11_about_221 1 rfl) (d_b dk_X11_about_221 2 rfl) rfl, rfl⟩
theorem dX11_about_224 : pm_dec mX11_about 224 (.ireturn, 1) 225 := ⟨dq_172 (d_b dk_X11_about_221 3 rfl), rfl⟩
def dt_X11_after_0 : List Nat := [42, 42, 180, 0, 12, 180, 0, 161, 27, 182, 0, 101, 153, 0, 14, 42, 180, 0, 46, 27, 182, 1, 76, 167, 0, 5, 18, 109, 182, 0, 97, 172]
theorem dk_X11_after_0 : (((mX11_after.2.1).data.toList.drop 0).take 32).map UInt8.toNat = dt_X11_after_0 := by decide +kernel
theorem dX11_after_0 : pm_dec mX11_after 0 (.aload_n 0, 1) 1 := ⟨dq_42 (d_b dk_X11_after_0 0 rfl), rfl⟩
theorem dX11_after_1 : pm_dec mX11_after 1 (.aload_n 0, 1) 2 := ⟨dq_42 (d_b dk_X11_after_0 1 rfl), rfl⟩
theorem dX11_after_2 : pm_dec mX11_after 2 (.getfield 12, 3) 5 := ⟨dq_180 (d_b dk_X11_after_0 2 rfl) (d_b dk_X11_after_0 3 rfl) (d_b dk_X11_after_0 4 rfl) rfl, rfl⟩
theorem dX11_after_5 : pm_dec mX11_after 5 (.getfield 161, 3) 8 := ⟨dq_180 (d_b dk_X11_after_0 5 rfl) (d_b dk_X11_after_0 6 rfl) (d_b dk_X11_after_0 7 rfl) rfl, rfl⟩
theorem dX11_after_8 : pm_dec mX11_after 8 (.iload_n 1, 1) 9 := ⟨dq_27 (d_b dk_X11_after_0 8 rfl), rfl⟩
theorem dX11_after_9 : pm_dec mX11_after 9 (.invokevirtual 101, 3) 12 := ⟨dq_182 (d_b dk_X11_after_0 9 rfl) (d_b dk_X11_after_0 10 rfl) (d_b dk_X11_after_0 11 rfl) rfl, rfl⟩
theorem dX11_after_12 : pm_dec mX11_after 12 (.ifCond .eq 14, 3) 15 := ⟨dq_153 (d_b dk_X11_after_0 12 rfl) (d_b dk_X11_after_0 13 rfl) (d_b dk_X11_after_0 14 rfl) (by decide), rfl⟩
theorem dX11_after_15 : pm_dec mX11_after 15 (.aload_n 0, 1) 16 := ⟨dq_42 (d_b dk_X11_after_0 15 rfl), rfl⟩
theorem dX11_after_16 : pm_dec mX11_after 16 (.getfield 46, 3) 19 := ⟨dq_180 (d_b dk_X11_after_0 16 rfl) (d_b dk_X11_after_0 17 rfl) (d_b dk_X11_after_0 18 rfl) rfl, rfl⟩
theorem dX11_after_19 : pm_dec mX11_after 19 (.iload_n 1, 1) 20 := ⟨dq_27 (d_b dk_X11_after_0 19 rfl), rfl⟩
theorem dX11_after_20 : pm_dec mX11_after 20 (.invokevirtual 332, 3) 23 := ⟨dq_182 (d_b dk_X11_after_0 20 rfl) (d_b dk_X11_after_0 21 rfl) (d_b dk_X11_after_0 22 rfl) rfl, rfl⟩
theorem dX11_after_23 : pm_dec mX11_after 23 (.goto 5, 3) 26 := ⟨dq_167 (d_b dk_X11_after_0 23 rfl) (d_b dk_X11_after_0 24 rfl) (d_b dk_X11_after_0 25 rfl) (by decide), rfl⟩
theorem dX11_after_26 : pm_dec mX11_after 26 (.ldc 109, 2) 28 := ⟨dq_18 (d_b dk_X11_after_0 26 rfl) (d_b dk_X11_after_0 27 rfl), rfl⟩
theorem dX11_after_28 : pm_dec mX11_after 28 (.invokevirtual 97, 3) 31 := ⟨dq_182 (d_b dk_X11_after_0 28 rfl) (d_b dk_X11_after_0 29 rfl) (d_b dk_X11_after_0 30 rfl) rfl, rfl⟩
theorem dX11_after_31 : pm_dec mX11_after 31 (.ireturn, 1) 32 := ⟨dq_172 (d_b dk_X11_after_0 31 rfl), rfl⟩
def dt_X11_age_0 : List Nat := [42, 42, 180, 0, 46, 182, 1, 73, 182, 0, 97, 172]
theorem dk_X11_age_0 : (((mX11_age.2.1).data.toList.drop 0).take 12).map UInt8.toNat = dt_X11_age_0 := by decide +kernel
theorem dX11_age_0 : pm_dec mX11_age 0 (.aload_n 0, 1) 1 := ⟨dq_42 (d_b dk_X11_age_0 0 rfl), rfl⟩
theorem dX11_age_1 : pm_dec mX11_age 1 (.aload_n 0, 1) 2 := ⟨dq_42 (d_b dk_X11_age_0 1 rfl), rfl⟩
theorem dX11_age_2 : pm_dec mX11_age 2 (.getfield 46, 3) 5 := ⟨dq_180 (d_b dk_X11_age_0 2 rfl) (d_b dk_X11_age_0 3 rfl) (d_b dk_X11_age_0 4 rfl) rfl, rfl⟩
theorem dX11_age_5 : pm_dec mX11_age 5 (.invokevirtual 329, 3) 8 := ⟨dq_182 (d_b dk_X11_age_0 5 rfl) (d_b dk_X11_age_0 6 rfl) (d_b dk_X11_age_0 7 rfl) rfl, rfl⟩
theorem dX11_age_8 : pm_dec mX11_age 8 (.invokevirtual 97, 3) 11 := ⟨dq_182 (d_b dk_X11_age_0 8 rfl) (d_b dk_X11_age_0 9 rfl) (d_b dk_X11_age_0 10 rfl) rfl, rfl⟩
theorem dX11_age_11 : pm_dec mX11_age 11 (.ireturn, 1) 12 := ⟨dq_172 (d_b dk_X11_age_0 11 rfl), rfl⟩
def dt_X11_as_0 : List Nat := [42, 180, 0, 12, 180, 0, 161, 27, 182, 0, 101, 153, 0, 12, 28, 3, 8, 184, 0, 105, 153, 0, 10, 42, 18, 109, 182, 0, 97, 172, 42, 42, 180, 0, 12, 27, 28, 182, 0, 180, 153, 0, 18, 42, 180, 0, 12, 180, 0, 161]
theorem dk_X11_as_0 : (((mX11_as.2.1).data.toList.drop 0).take 50).map UInt8.toNat = dt_X11_as_0 := by decide +kernel
theorem dX11_as_0 : pm_dec mX11_as 0 (.aload_n 0, 1) 1 := ⟨dq_42 (d_b dk_X11_as_0 0 rfl), rfl⟩
theorem dX11_as_1 : pm_dec mX11_as 1 (.getfield 12, 3) 4 := ⟨dq_180 (d_b dk_X11_as_0 1 rfl) (d_b dk_X11_as_0 2 rfl) (d_b dk_X11_as_0 3 rfl) rfl, rfl⟩
theorem dX11_as_4 : pm_dec mX11_as 4 (.getfield 161, 3) 7 := ⟨dq_180 (d_b dk_X11_as_0 4 rfl) (d_b dk_X11_as_0 5 rfl) (d_b dk_X11_as_0 6 rfl) rfl, rfl⟩
theorem dX11_as_7 : pm_dec mX11_as 7 (.iload_n 1, 1) 8 := ⟨dq_27 (d_b dk_X11_as_0 7 rfl), rfl⟩
theorem dX11_as_8 : pm_dec mX11_as 8 (.invokevirtual 101, 3) 11 := ⟨dq_182 (d_b dk_X11_as_0 8 rfl) (d_b dk_X11_as_0 9 rfl) (d_b dk_X11_as_0 10 rfl) rfl, rfl⟩
theorem dX11_as_11 : pm_dec mX11_as 11 (.ifCond .eq 12, 3) 14 := ⟨dq_153 (d_b dk_X11_as_0 11 rfl) (d_b dk_X11_as_0 12 rfl) (d_b dk_X11_as_0 13 rfl) (by decide), rfl⟩
theorem dX11_as_14 : pm_dec mX11_as 14 (.iload_n 2, 1) 15 := ⟨dq_28 (d_b dk_X11_as_0 14 rfl), rfl⟩
theorem dX11_as_15 : pm_dec mX11_as 15 (.iconst 0, 1) 16 := ⟨dq_3 (d_b dk_X11_as_0 15 rfl), rfl⟩
theorem dX11_as_16 : pm_dec mX11_as 16 (.iconst 5, 1) 17 := ⟨dq_8 (d_b dk_X11_as_0 16 rfl), rfl⟩
theorem dX11_as_17 : pm_dec mX11_as 17 (.invokestatic 105, 3) 20 := ⟨dq_184 (d_b dk_X11_as_0 17 rfl) (d_b dk_X11_as_0 18 rfl) (d_b dk_X11_as_0 19 rfl) rfl, rfl⟩
theorem dX11_as_20 : pm_dec mX11_as 20 (.ifCond .eq 10, 3) 23 := ⟨dq_153 (d_b dk_X11_as_0 20 rfl) (d_b dk_X11_as_0 21 rfl) (d_b dk_X11_as_0 22 rfl) (by decide), rfl⟩
theorem dX11_as_23 : pm_dec mX11_as 23 (.aload_n 0, 1) 24 := ⟨dq_42 (d_b dk_X11_as_0 23 rfl), rfl⟩
theorem dX11_as_24 : pm_dec mX11_as 24 (.ldc 109, 2) 26 := ⟨dq_18 (d_b dk_X11_as_0 24 rfl) (d_b dk_X11_as_0 25 rfl), rfl⟩
theorem dX11_as_26 : pm_dec mX11_as 26 (.invokevirtual 97, 3) 29 := ⟨dq_182 (d_b dk_X11_as_0 26 rfl) (d_b dk_X11_as_0 27 rfl) (d_b dk_X11_as_0 28 rfl) rfl, rfl⟩
theorem dX11_as_29 : pm_dec mX11_as 29 (.ireturn, 1) 30 := ⟨dq_172 (d_b dk_X11_as_0 29 rfl), rfl⟩
theorem dX11_as_30 : pm_dec mX11_as 30 (.aload_n 0, 1) 31 := ⟨dq_42 (d_b dk_X11_as_0 30 rfl), rfl⟩
theorem dX11_as_31 : pm_dec mX11_as 31 (.aload_n 0, 1) 32 := ⟨dq_42 (d_b dk_X11_as_0 31 rfl), rfl⟩
theorem dX11_as_32 : pm_dec mX11_as 32 (.getfield 12, 3) 35 := ⟨dq_180 (d_b dk_X11_as_0 32 rfl) (d_b dk_X11_as_0 33 rfl) (d_b dk_X11_as_0 34 rfl) rfl, rfl⟩
theorem dX11_as_35 : pm_dec mX11_as 35 (.iload_n 1, 1) 36 := ⟨dq_27 (d_b dk_X11_as_0 35 rfl), rfl⟩
theorem dX11_as_36 : pm_dec mX11_as 36 (.iload_n 2, 1) 37 := ⟨dq_28 (d_b dk_X11_as_0 36 rfl), rfl⟩
theorem dX11_as_37 : pm_dec mX11_as 37 (.invokevirtual 180, 3) 40 := ⟨dq_182 (d_b dk_X11_as_0 37 rfl) (d_b dk_X11_as_0 38 rfl) (d_b dk_X11_as_0 39 rfl) rfl, rfl⟩
theorem dX11_as_40 : pm_dec mX11_as 40 (.ifCond .eq 18, 3) 43 := ⟨dq_153 (d_b dk_X11_as_0 40 rfl) (d_b dk_X11_as_0 41 rfl) (d_b dk_X11_as_0 42 rfl) (by decide), rfl⟩
theorem dX11_as_43 : pm_dec mX11_as 43 (.aload_n 0, 1) 44 := ⟨dq_42 (d_b dk_X11_as_0 43 rfl), rfl⟩
theorem dX11_as_44 : pm_dec mX11_as 44 (.getfield 12, 3) 47 := ⟨dq_180 (d_b dk_X11_as_0 44 rfl) (d_b dk_X11_as_0 45 rfl) (d_b dk_X11_as_0 46 rfl) rfl, rfl⟩
theorem dX11_as_47 : pm_dec mX11_as 47 (.getfield 161, 3) 50 := ⟨dq_180 (d_b dk_X11_as_0 47 rfl) (d_b dk_X11_as_0 48 rfl) (d_b dk_X11_as_0 49 rfl) rfl, rfl⟩
def dt_X11_as_50 : List Nat := [27, 4, 182, 0, 152, 167, 0, 5, 18, 184, 182, 0, 97, 172]
theorem dk_X11_as_50 : (((mX11_as.2.1).data.toList.drop 50).take 14).map UInt8.toNat = dt_X11_as_50 := by decide +kernel
theorem dX11_as_50 : pm_dec mX11_as 50 (.iload_n 1, 1) 51 := ⟨dq_27 (d_b dk_X11_as_50 0 rfl), rfl⟩
theorem dX11_as_51 : pm_dec mX11_as 51 (.iconst 1, 1) 52 := ⟨dq_4 (d_b dk_X11_as_50 1 rfl), rfl⟩
theorem dX11_as_52 : pm_dec mX11_as 52 (.invokevirtual 152, 3) 55 := ⟨dq_182 (d_b dk_X11_as_50 2 rfl) (d_b dk_X11_as_50 3 rfl) (d_b dk_X11_as_50 4 rfl) rfl, rfl⟩
theorem dX11_as_55 : pm_dec mX11_as 55 (.goto 5, 3) 58 := ⟨dq_167 (d_b dk_X11_as_50 5 rfl) (d_b dk_X11_as_50 6 rfl) (d_b dk_X11_as_50 7 rfl) (by decide), rfl⟩
theorem dX11_as_58 : pm_dec mX11_as 58 (.ldc 184, 2) 60 := ⟨dq_18 (d_b dk_X11_as_50 8 rfl) (d_b dk_X11_as_50 9 rfl), rfl⟩
theorem dX11_as_60 : pm_dec mX11_as 60 (.invokevirtual 97, 3) 63 := ⟨dq_182 (d_b dk_X11_as_50 10 rfl) (d_b dk_X11_as_50 11 rfl) (d_b dk_X11_as_50 12 rfl) rfl, rfl⟩
theorem dX11_as_63 : pm_dec mX11_as 63 (.ireturn, 1) 64 := ⟨dq_172 (d_b dk_X11_as_50 13 rfl), rfl⟩
def dt_X11_breaks_0 : List Nat := [42, 180, 0, 12, 180, 1, 21, 27, 182, 0, 101, 154, 0, 10, 42, 18, 109, 182, 0, 97, 172, 42, 180, 0, 30, 27, 182, 1, 28, 154, 0, 10, 42, 18, 138, 182, 0, 97, 172, 42, 180, 0, 12, 180, 1, 21, 27, 7]
theorem dk_X11_breaks_0 : (((mX11_breaks.2.1).data.toList.drop 0).take 48).map UInt8.toNat = dt_X11_breaks_0 := by decide +kernel
theorem dX11_breaks_0 : pm_dec mX11_breaks 0 (.aload_n 0, 1) 1 := ⟨dq_42 (d_b dk_X11_breaks_0 0 rfl), rfl⟩
theorem dX11_breaks_1 : pm_dec mX11_breaks 1 (.getfield 12, 3) 4 := ⟨dq_180 (d_b dk_X11_breaks_0 1 rfl) (d_b dk_X11_breaks_0 2 rfl) (d_b dk_X11_breaks_0 3 rfl) rfl, rfl⟩
theorem dX11_breaks_4 : pm_dec mX11_breaks 4 (.getfield 277, 3) 7 := ⟨dq_180 (d_b dk_X11_breaks_0 4 rfl) (d_b dk_X11_breaks_0 5 rfl) (d_b dk_X11_breaks_0 6 rfl) rfl, rfl⟩
theorem dX11_breaks_7 : pm_dec mX11_breaks 7 (.iload_n 1, 1) 8 := ⟨dq_27 (d_b dk_X11_breaks_0 7 rfl), rfl⟩
theorem dX11_breaks_8 : pm_dec mX11_breaks 8 (.invokevirtual 101, 3) 11 := ⟨dq_182 (d_b dk_X11_breaks_0 8 rfl) (d_b dk_X11_breaks_0 9 rfl) (d_b dk_X11_breaks_0 10 rfl) rfl, rfl⟩
theorem dX11_breaks_11 : pm_dec mX11_breaks 11 (.ifCond .ne 10, 3) 14 := ⟨dq_154 (d_b dk_X11_breaks_0 11 rfl) (d_b dk_X11_breaks_0 12 rfl) (d_b dk_X11_breaks_0 13 rfl) (by decide), rfl⟩
theorem dX11_breaks_14 : pm_dec mX11_breaks 14 (.aload_n 0, 1) 15 := ⟨dq_42 (d_b dk_X11_breaks_0 14 rfl), rfl⟩
theorem dX11_breaks_15 : pm_dec mX11_breaks 15 (.ldc 109, 2) 17 := ⟨dq_18 (d_b dk_X11_breaks_0 15 rfl) (d_b dk_X11_breaks_0 16 rfl), rfl⟩
theorem dX11_breaks_17 : pm_dec mX11_breaks 17 (.invokevirtual 97, 3) 20 := ⟨dq_182 (d_b dk_X11_breaks_0 17 rfl) (d_b dk_X11_breaks_0 18 rfl) (d_b dk_X11_breaks_0 19 rfl) rfl, rfl⟩
theorem dX11_breaks_20 : pm_dec mX11_breaks 20 (.ireturn, 1) 21 := ⟨dq_172 (d_b dk_X11_breaks_0 20 rfl), rfl⟩
theorem dX11_breaks_21 : pm_dec mX11_breaks 21 (.aload_n 0, 1) 22 := ⟨dq_42 (d_b dk_X11_breaks_0 21 rfl), rfl⟩
theorem dX11_breaks_22 : pm_dec mX11_breaks 22 (.getfield 30, 3) 25 := ⟨dq_180 (d_b dk_X11_breaks_0 22 rfl) (d_b dk_X11_breaks_0 23 rfl) (d_b dk_X11_breaks_0 24 rfl) rfl, rfl⟩
theorem dX11_breaks_25 : pm_dec mX11_breaks 25 (.iload_n 1, 1) 26 := ⟨dq_27 (d_b dk_X11_breaks_0 25 rfl), rfl⟩
theorem dX11_breaks_26 : pm_dec mX11_breaks 26 (.invokevirtual 284, 3) 29 := ⟨dq_182 (d_b dk_X11_breaks_0 26 rfl) (d_b dk_X11_breaks_0 27 rfl) (d_b dk_X11_breaks_0 28 rfl) rfl, rfl⟩
theorem dX11_breaks_29 : pm_dec mX11_breaks 29 (.ifCond .ne 10, 3) 32 := ⟨dq_154 (d_b dk_X11_breaks_0 29 rfl) (d_b dk_X11_breaks_0 30 rfl) (d_b dk_X11_breaks_0 31 rfl) (by decide), rfl⟩
theorem dX11_breaks_32 : pm_dec mX11_breaks 32 (.aload_n 0, 1) 33 := ⟨dq_42 (d_b dk_X11_breaks_0 32 rfl), rfl⟩
theorem dX11_breaks_33 : pm_dec mX11_breaks 33 (.ldc 138, 2) 35 := ⟨dq_18 (d_b dk_X11_breaks_0 33 rfl) (d_b dk_X11_breaks_0 34 rfl), rfl⟩
theorem dX11_breaks_35 : pm_dec mX11_breaks 35 (.invokevirtual 97, 3) 38 := ⟨dq_182 (d_b dk_X11_breaks_0 35 rfl) (d_b dk_X11_breaks_0 36 rfl) (d_b dk_X11_breaks_0 37 rfl) rfl, rfl⟩
theorem dX11_breaks_38 : pm_dec mX11_breaks 38 (.ireturn, 1) 39 := ⟨dq_172 (d_b dk_X11_breaks_0 38 rfl), rfl⟩
theorem dX11_breaks_39 : pm_dec mX11_breaks 39 (.aload_n 0, 1) 40 := ⟨dq_42 (d_b dk_X11_breaks_0 39 rfl), rfl⟩
theorem dX11_breaks_40 : pm_dec mX11_breaks 40 (.getfield 12, 3) 43 := ⟨dq_180 (d_b dk_X11_breaks_0 40 rfl) (d_b dk_X11_breaks_0 41 rfl) (d_b dk_X11_breaks_0 42 rfl) rfl, rfl⟩
theorem dX11_breaks_43 : pm_dec mX11_breaks 43 (.getfield 277, 3) 46 := ⟨dq_180 (d_b dk_X11_breaks_0 43 rfl) (d_b dk_X11_breaks_0 44 rfl) (d_b dk_X11_breaks_0 45 rfl) rfl, rfl⟩
theorem dX11_breaks_46 : pm_dec mX11_breaks 46 (.iload_n 1, 1) 47 := ⟨dq_27 (d_b dk_X11_breaks_0 46 rfl), rfl⟩
theorem dX11_breaks_47 : pm_dec mX11_breaks 47 (.iconst 4, 1) 48 := ⟨dq_7 (d_b dk_X11_breaks_0 47 rfl), rfl⟩
def dt_X11_breaks_48 : List Nat := [5, 182, 0, 170, 4, 172]
theorem dk_X11_breaks_48 : (((mX11_breaks.2.1).data.toList.drop 48).take 6).map UInt8.toNat = dt_X11_breaks_48 := by decide +kernel
theorem dX11_breaks_48 : pm_dec mX11_breaks 48 (.iconst 2, 1) 49 := ⟨dq_5 (d_b dk_X11_breaks_48 0 rfl), rfl⟩
theorem dX11_breaks_49 : pm_dec mX11_breaks 49 (.invokevirtual 170, 3) 52 := ⟨dq_182 (d_b dk_X11_breaks_48 1 rfl) (d_b dk_X11_breaks_48 2 rfl) (d_b dk_X11_breaks_48 3 rfl) rfl, rfl⟩
theorem dX11_breaks_52 : pm_dec mX11_breaks 52 (.iconst 1, 1) 53 := ⟨dq_4 (d_b dk_X11_breaks_48 4 rfl), rfl⟩
theorem dX11_breaks_53 : pm_dec mX11_breaks 53 (.ireturn, 1) 54 := ⟨dq_172 (d_b dk_X11_breaks_48 5 rfl), rfl⟩
def dt_X11_buying_0 : List Nat := [27, 3, 8, 184, 0, 105, 154, 0, 12, 28, 3, 4, 184, 0, 105, 153, 0, 10, 42, 18, 109, 182, 0, 97, 172, 42, 180, 0, 30, 27, 182, 1, 46, 154, 0, 10, 42, 18, 223, 182, 0, 97, 172, 28, 154, 0, 13, 42]
theorem dk_X11_buying_0 : (((mX11_buying.2.1).data.toList.drop 0).take 48).map UInt8.toNat = dt_X11_buying_0 := by decide +kernel
theorem dX11_buying_0 : pm_dec mX11_buying 0 (.iload_n 1, 1) 1 := ⟨dq_27 (d_b dk_X11_buying_0 0 rfl), rfl⟩
theorem dX11_buying_1 : pm_dec mX11_buying 1 (.iconst 0, 1) 2 := ⟨dq_3 (d_b dk_X11_buying_0 1 rfl), rfl⟩
theorem dX11_buying_2 : pm_dec mX11_buying 2 (.iconst 5, 1) 3 := ⟨dq_8 (d_b dk_X11_buying_0 2 rfl), rfl⟩
theorem dX11_buying_3 : pm_dec mX11_buying 3 (.invokestatic 105, 3) 6 := ⟨dq_184 (d_b dk_X11_buying_0 3 rfl) (d_b dk_X11_buying_0 4 rfl) (d_b dk_X11_buying_0 5 rfl) rfl, rfl⟩
theorem dX11_buying_6 : pm_dec mX11_buying 6 (.ifCond .ne 12, 3) 9 := ⟨dq_154 (d_b dk_X11_buying_0 6 rfl) (d_b dk_X11_buying_0 7 rfl) (d_b dk_X11_buying_0 8 rfl) (by decide), rfl⟩
theorem dX11_buying_9 : pm_dec mX11_buying 9 (.iload_n 2, 1) 10 := ⟨dq_28 (d_b dk_X11_buying_0 9 rfl), rfl⟩
theorem dX11_buying_10 : pm_dec mX11_buying 10 (.iconst 0, 1) 11 := ⟨dq_3 (d_b dk_X11_buying_0 10 rfl), rfl⟩
theorem dX11_buying_11 : pm_dec mX11_buying 11 (.iconst 1, 1) 12 := ⟨dq_4 (d_b dk_X11_buying_0 11 rfl), rfl⟩
theorem dX11_buying_12 : pm_dec mX11_buying 12 (.invokestatic 105, 3) 15 := ⟨dq_184 (d_b dk_X11_buying_0 12 rfl) (d_b dk_X11_buying_0 13 rfl) (d_b dk_X11_buying_0 14 rfl) rfl, rfl⟩
theorem dX11_buying_15 : pm_dec mX11_buying 15 (.ifCond .eq 10, 3) 18 := ⟨dq_153 (d_b dk_X11_buying_0 15 rfl) (d_b dk_X11_buying_0 16 rfl) (d_b dk_X11_buying_0 17 rfl) (by decide), rfl⟩
theorem dX11_buying_18 : pm_dec mX11_buying 18 (.aload_n 0, 1) 19 := ⟨dq_42 (d_b dk_X11_buying_0 18 rfl), rfl⟩
theorem dX11_buying_19 : pm_dec mX11_buying 19 (.ldc 109, 2) 21 := ⟨dq_18 (d_b dk_X11_buying_0 19 rfl) (d_b dk_X11_buying_0 20 rfl), rfl⟩
theorem dX11_buying_21 : pm_dec mX11_buying 21 (.invokevirtual 97, 3) 24 := ⟨dq_182 (d_b dk_X11_buying_0 21 rfl) (d_b dk_X11_buying_0 22 rfl) (d_b dk_X11_buying_0 23 rfl) rfl, rfl⟩
theorem dX11_buying_24 : pm_dec mX11_buying 24 (.ireturn, 1) 25 := ⟨dq_172 (d_b dk_X11_buying_0 24 rfl), rfl⟩
theorem dX11_buying_25 : pm_dec mX11_buying 25 (.aload_n 0, 1) 26 := ⟨dq_42 (d_b dk_X11_buying_0 25 rfl), rfl⟩
theorem dX11_buying_26 : pm_dec mX11_buying 26 (.getfield 30, 3) 29 := ⟨dq_180 (d_b dk_X11_buying_0 26 rfl) (d_b dk_X11_buying_0 27 rfl) (d_b dk_X11_buying_0 28 rfl) rfl, rfl⟩
theorem dX11_buying_29 : pm_dec mX11_buying 29 (.iload_n 1, 1) 30 := ⟨dq_27 (d_b dk_X11_buying_0 29 rfl), rfl⟩
theorem dX11_buying_30 : pm_dec mX11_buying 30 (.invokevirtual 302, 3) 33 := ⟨dq_182 (d_b dk_X11_buying_0 30 rfl) (d_b dk_X11_buying_0 31 rfl) (d_b dk_X11_buying_0 32 rfl) rfl, rfl⟩
theorem dX11_buying_33 : pm_dec mX11_buying 33 (.ifCond .ne 10, 3) 36 := ⟨dq_154 (d_b dk_X11_buying_0 33 rfl) (d_b dk_X11_buying_0 34 rfl) (d_b dk_X11_buying_0 35 rfl) (by decide), rfl⟩
theorem dX11_buying_36 : pm_dec mX11_buying 36 (.aload_n 0, 1) 37 := ⟨dq_42 (d_b dk_X11_buying_0 36 rfl), rfl⟩
theorem dX11_buying_37 : pm_dec mX11_buying 37 (.ldc 223, 2) 39 := ⟨dq_18 (d_b dk_X11_buying_0 37 rfl) (d_b dk_X11_buying_0 38 rfl), rfl⟩
theorem dX11_buying_39 : pm_dec mX11_buying 39 (.invokevirtual 97, 3) 42 := ⟨dq_182 (d_b dk_X11_buying_0 39 rfl) (d_b dk_X11_buying_0 40 rfl) (d_b dk_X11_buying_0 41 rfl) rfl, rfl⟩
theorem dX11_buying_42 : pm_dec mX11_buying 42 (.ireturn, 1) 43 := ⟨dq_172 (d_b dk_X11_buying_0 42 rfl), rfl⟩
theorem dX11_buying_43 : pm_dec mX11_buying 43 (.iload_n 2, 1) 44 := ⟨dq_28 (d_b dk_X11_buying_0 43 rfl), rfl⟩
theorem dX11_buying_44 : pm_dec mX11_buying 44 (.ifCond .ne 13, 3) 47 := ⟨dq_154 (d_b dk_X11_buying_0 44 rfl) (d_b dk_X11_buying_0 45 rfl) (d_b dk_X11_buying_0 46 rfl) (by decide), rfl⟩
theorem dX11_buying_47 : pm_dec mX11_buying 47 (.aload_n 0, 1) 48 := ⟨dq_42 (d_b dk_X11_buying_0 47 rfl), rfl⟩
def dt_X11_buying_48 : List Nat := [180, 0, 30, 180, 1, 49, 167, 0, 10, 42, 180, 0, 30, 180, 1, 52, 172]
theorem dk_X11_buying_48 : (((mX11_buying.2.1).data.toList.drop 48).take 17).map UInt8.toNat = dt_X11_buying_48 := by decide +kernel
theorem dX11_buying_48 : pm_dec mX11_buying 48 (.getfield 30, 3) 51 := ⟨dq_180 (d_b dk_X11_buying_48 0 rfl) (d_b dk_X11_buying_48 1 rfl) (d_b dk_X11_buying_48 2 rfl) rfl, rfl⟩
theorem dX11_buying_51 : pm_dec mX11_buying 51 (.getfield 305, 3) 54 := ⟨dq_180 (d_b dk_X11_buying_48 3 rfl) (d_b dk_X11_buying_48 4 rfl) (d_b dk_X11_buying_48 5 rfl) rfl, rfl⟩
theorem dX11_buying_54 : pm_dec mX11_buying 54 (.goto 10, 3) 57 := ⟨dq_167 (d_b dk_X11_buying_48 6 rfl) (d_b dk_X11_buying_48 7 rfl) (d_b dk_X11_buying_48 8 rfl) (by decide), rfl⟩
theorem dX11_buying_57 : pm_dec mX11_buying 57 (.aload_n 0, 1) 58 := ⟨dq_42 (d_b dk_X11_buying_48 9 rfl), rfl⟩
theorem dX11_buying_58 : pm_dec mX11_buying 58 (.getfield 30, 3) 61 := ⟨dq_180 (d_b dk_X11_buying_48 10 rfl) (d_b dk_X11_buying_48 11 rfl) (d_b dk_X11_buying_48 12 rfl) rfl, rfl⟩
theorem dX11_buying_61 : pm_dec mX11_buying 61 (.getfield 308, 3) 64 := ⟨dq_180 (d_b dk_X11_buying_48 13 rfl) (d_b dk_X11_buying_48 14 rfl) (d_b dk_X11_buying_48 15 rfl) rfl, rfl⟩
theorem dX11_buying_64 : pm_dec mX11_buying 64 (.ireturn, 1) 65 := ⟨dq_172 (d_b dk_X11_buying_48 16 rfl), rfl⟩
def dt_X11_cause_0 : List Nat := [27, 3, 8, 184, 0, 105, 154, 0, 12, 28, 3, 6, 184, 0, 105, 153, 0, 10, 42, 18, 109, 182, 0, 97, 172, 28, 6, 160, 0, 12, 42, 180, 0, 30, 27, 182, 1, 31, 172, 42, 180, 0, 30, 27, 182, 1, 34, 28]
theorem dk_X11_cause_0 : (((mX11_cause.2.1).data.toList.drop 0).take 48).map UInt8.toNat = dt_X11_cause_0 := by decide +kernel
theorem dX11_cause_0 : pm_dec mX11_cause 0 (.iload_n 1, 1) 1 := ⟨dq_27 (d_b dk_X11_cause_0 0 rfl), rfl⟩
theorem dX11_cause_1 : pm_dec mX11_cause 1 (.iconst 0, 1) 2 := ⟨dq_3 (d_b dk_X11_cause_0 1 rfl), rfl⟩
theorem dX11_cause_2 : pm_dec mX11_cause 2 (.iconst 5, 1) 3 := ⟨dq_8 (d_b dk_X11_cause_0 2 rfl), rfl⟩
theorem dX11_cause_3 : pm_dec mX11_cause 3 (.invokestatic 105, 3) 6 := ⟨dq_184 (d_b dk_X11_cause_0 3 rfl) (d_b dk_X11_cause_0 4 rfl) (d_b dk_X11_cause_0 5 rfl) rfl, rfl⟩
theorem dX11_cause_6 : pm_dec mX11_cause 6 (.ifCond .ne 12, 3) 9 := ⟨dq_154 (d_b dk_X11_cause_0 6 rfl) (d_b dk_X11_cause_0 7 rfl) (d_b dk_X11_cause_0 8 rfl) (by decide), rfl⟩
theorem dX11_cause_9 : pm_dec mX11_cause 9 (.iload_n 2, 1) 10 := ⟨dq_28 (d_b dk_X11_cause_0 9 rfl), rfl⟩
theorem dX11_cause_10 : pm_dec mX11_cause 10 (.iconst 0, 1) 11 := ⟨dq_3 (d_b dk_X11_cause_0 10 rfl), rfl⟩
theorem dX11_cause_11 : pm_dec mX11_cause 11 (.iconst 3, 1) 12 := ⟨dq_6 (d_b dk_X11_cause_0 11 rfl), rfl⟩
theorem dX11_cause_12 : pm_dec mX11_cause 12 (.invokestatic 105, 3) 15 := ⟨dq_184 (d_b dk_X11_cause_0 12 rfl) (d_b dk_X11_cause_0 13 rfl) (d_b dk_X11_cause_0 14 rfl) rfl, rfl⟩
theorem dX11_cause_15 : pm_dec mX11_cause 15 (.ifCond .eq 10, 3) 18 := ⟨dq_153 (d_b dk_X11_cause_0 15 rfl) (d_b dk_X11_cause_0 16 rfl) (d_b dk_X11_cause_0 17 rfl) (by decide), rfl⟩
theorem dX11_cause_18 : pm_dec mX11_cause 18 (.aload_n 0, 1) 19 := ⟨dq_42 (d_b dk_X11_cause_0 18 rfl), rfl⟩
theorem dX11_cause_19 : pm_dec mX11_cause 19 (.ldc 109, 2) 21 := ⟨dq_18 (d_b dk_X11_cause_0 19 rfl) (d_b dk_X11_cause_0 20 rfl), rfl⟩
theorem dX11_cause_21 : pm_dec mX11_cause 21 (.invokevirtual 97, 3) 24 := ⟨dq_182 (d_b dk_X11_cause_0 21 rfl) (d_b dk_X11_cause_0 22 rfl) (d_b dk_X11_cause_0 23 rfl) rfl, rfl⟩
theorem dX11_cause_24 : pm_dec mX11_cause 24 (.ireturn, 1) 25 := ⟨dq_172 (d_b dk_X11_cause_0 24 rfl), rfl⟩
theorem dX11_cause_25 : pm_dec mX11_cause 25 (.iload_n 2, 1) 26 := ⟨dq_28 (d_b dk_X11_cause_0 25 rfl), rfl⟩
theorem dX11_cause_26 : pm_dec mX11_cause 26 (.iconst 3, 1) 27 := ⟨dq_6 (d_b dk_X11_cause_0 26 rfl), rfl⟩
theorem dX11_cause_27 : pm_dec mX11_cause 27 (.if_icmp .ne 12, 3) 30 := ⟨dq_160 (d_b dk_X11_cause_0 27 rfl) (d_b dk_X11_cause_0 28 rfl) (d_b dk_X11_cause_0 29 rfl) (by decide), rfl⟩
theorem dX11_cause_30 : pm_dec mX11_cause 30 (.aload_n 0, 1) 31 := ⟨dq_42 (d_b dk_X11_cause_0 30 rfl), rfl⟩
theorem dX11_cause_31 : pm_dec mX11_cause 31 (.getfield 30, 3) 34 := ⟨dq_180 (d_b dk_X11_cause_0 31 rfl) (d_b dk_X11_cause_0 32 rfl) (d_b dk_X11_cause_0 33 rfl) rfl, rfl⟩
theorem dX11_cause_34 : pm_dec mX11_cause 34 (.iload_n 1, 1) 35 := ⟨dq_27 (d_b dk_X11_cause_0 34 rfl), rfl⟩
theorem dX11_cause_35 : pm_dec mX11_cause 35 (.invokevirtual 287, 3) 38 := ⟨dq_182 (d_b dk_X11_cause_0 35 rfl) (d_b dk_X11_cause_0 36 rfl) (d_b dk_X11_cause_0 37 rfl) rfl, rfl⟩
theorem dX11_cause_38 : pm_dec mX11_cause 38 (.ireturn, 1) 39 := ⟨dq_172 (d_b dk_X11_cause_0 38 rfl), rfl⟩
theorem dX11_cause_39 : pm_dec mX11_cause 39 (.aload_n 0, 1) 40 := ⟨dq_42 (d_b dk_X11_cause_0 39 rfl), rfl⟩
theorem dX11_cause_40 : pm_dec mX11_cause 40 (.getfield 30, 3) 43 := ⟨dq_180 (d_b dk_X11_cause_0 40 rfl) (d_b dk_X11_cause_0 41 rfl) (d_b dk_X11_cause_0 42 rfl) rfl, rfl⟩
theorem dX11_cause_43 : pm_dec mX11_cause 43 (.iload_n 1, 1) 44 := ⟨dq_27 (d_b dk_X11_cause_0 43 rfl), rfl⟩
theorem dX11_cause_44 : pm_dec mX11_cause 44 (.invokevirtual 290, 3) 47 := ⟨dq_182 (d_b dk_X11_cause_0 44 rfl) (d_b dk_X11_cause_0 45 rfl) (d_b dk_X11_cause_0 46 rfl) rfl, rfl⟩
theorem dX11_cause_47 : pm_dec mX11_cause 47 (.iload_n 2, 1) 48 := ⟨dq_28 (d_b dk_X11_cause_0 47 rfl), rfl⟩
def dt_X11_cause_76 : List Nat := [42, 180, 0, 30, 180, 1, 37, 172, 42, 180, 0, 30, 180, 1, 40, 172, 42, 180, 0, 30, 3, 182, 1, 43, 153, 0, 7, 4, 167, 0, 4, 3, 172]
theorem dk_X11_cause_76 : (((mX11_cause.2.1).data.toList.drop 76).take 33).map UInt8.toNat = dt_X11_cause_76 := by decide +kernel
theorem dX11_cause_76 : pm_dec mX11_cause 76 (.aload_n 0, 1) 77 := ⟨dq_42 (d_b dk_X11_cause_76 0 rfl), rfl⟩
theorem dX11_cause_77 : pm_dec mX11_cause 77 (.getfield 30, 3) 80 := ⟨dq_180 (d_b dk_X11_cause_76 1 rfl) (d_b dk_X11_cause_76 2 rfl) (d_b dk_X11_cause_76 3 rfl) rfl, rfl⟩
theorem dX11_cause_80 : pm_dec mX11_cause 80 (.getfield 293, 3) 83 := ⟨dq_180 (d_b dk_X11_cause_76 4 rfl) (d_b dk_X11_cause_76 5 rfl) (d_b dk_X11_cause_76 6 rfl) rfl, rfl⟩
theorem dX11_cause_83 : pm_dec mX11_cause 83 (.ireturn, 1) 84 := ⟨dq_172 (d_b dk_X11_cause_76 7 rfl), rfl⟩
theorem dX11_cause_84 : pm_dec mX11_cause 84 (.aload_n 0, 1) 85 := ⟨dq_42 (d_b dk_X11_cause_76 8 rfl), rfl⟩
theorem dX11_cause_85 : pm_dec mX11_cause 85 (.getfield 30, 3) 88 := ⟨dq_180 (d_b dk_X11_cause_76 9 rfl) (d_b dk_X11_cause_76 10 rfl) (d_b dk_X11_cause_76 11 rfl) rfl, rfl⟩
theorem dX11_cause_88 : pm_dec mX11_cause 88 (.getfield 296, 3) 91 := ⟨dq_180 (d_b dk_X11_cause_76 12 rfl) (d_b dk_X11_cause_76 13 rfl) (d_b dk_X11_cause_76 14 rfl) rfl, rfl⟩
theorem dX11_cause_91 : pm_dec mX11_cause 91 (.ireturn, 1) 92 := ⟨dq_172 (d_b dk_X11_cause_76 15 rfl), rfl⟩
theorem dX11_cause_92 : pm_dec mX11_cause 92 (.aload_n 0, 1) 93 := ⟨dq_42 (d_b dk_X11_cause_76 16 rfl), rfl⟩
theorem dX11_cause_93 : pm_dec mX11_cause 93 (.getfield 30, 3) 96 := ⟨dq_180 (d_b dk_X11_cause_76 17 rfl) (d_b dk_X11_cause_76 18 rfl) (d_b dk_X11_cause_76 19 rfl) rfl, rfl⟩
theorem dX11_cause_96 : pm_dec mX11_cause 96 (.iconst 0, 1) 97 := ⟨dq_3 (d_b dk_X11_cause_76 20 rfl), rfl⟩
theorem dX11_cause_97 : pm_dec mX11_cause 97 (.invokevirtual 299, 3) 100 := ⟨dq_182 (d_b dk_X11_cause_76 21 rfl) (d_b dk_X11_cause_76 22 rfl) (d_b dk_X11_cause_76 23 rfl) rfl, rfl⟩
theorem dX11_cause_100 : pm_dec mX11_cause 100 (.ifCond .eq 7, 3) 103 := ⟨dq_153 (d_b dk_X11_cause_76 24 rfl) (d_b dk_X11_cause_76 25 rfl) (d_b dk_X11_cause_76 26 rfl) (by decide), rfl⟩
theorem dX11_cause_103 : pm_dec mX11_cause 103 (.iconst 1, 1) 104 := ⟨dq_4 (d_b dk_X11_cause_76 27 rfl), rfl⟩
theorem dX11_cause_104 : pm_dec mX11_cause 104 (.goto 4, 3) 107 := ⟨dq_167 (d_b dk_X11_cause_76 28 rfl) (d_b dk_X11_cause_76 29 rfl) (d_b dk_X11_cause_76 30 rfl) (by decide), rfl⟩
theorem dX11_cause_107 : pm_dec mX11_cause 107 (.iconst 0, 1) 108 := ⟨dq_3 (d_b dk_X11_cause_76 31 rfl), rfl⟩
theorem dX11_cause_108 : pm_dec mX11_cause 108 (.ireturn, 1) 109 := ⟨dq_172 (d_b dk_X11_cause_76 32 rfl), rfl⟩
def dt_X11_check_0 : List Nat := [42, 180, 0, 12, 180, 1, 130, 182, 0, 203, 60, 3, 61, 3, 62, 29, 27, 162, 0, 40, 28, 154, 0, 36, 42, 180, 0, 12, 29, 42, 180, 0, 12, 180, 1, 130, 29, 3, 182, 0, 152, 182, 1, 133, 154, 0, 7, 29]
theorem dk_X11_check_0 : (((mX11_check.2.1).data.toList.drop 0).take 48).map UInt8.toNat = dt_X11_check_0 := by decide +kernel
theorem dX11_check_0 : pm_dec mX11_check 0 (.aload_n 0, 1) 1 := ⟨dq_42 (d_b dk_X11_check_0 0 rfl), rfl⟩
theorem dX11_check_1 : pm_dec mX11_check 1 (.getfield 12, 3) 4 := ⟨dq_180 (d_b dk_X11_check_0 1 rfl) (d_b dk_X11_check_0 2 rfl) (d_b dk_X11_check_0 3 rfl) rfl, rfl⟩
theorem dX11_check_4 : pm_dec mX11_check 4 (.getfield 386, 3) 7 := ⟨dq_180 (d_b dk_X11_check_0 4 rfl) (d_b dk_X11_check_0 5 rfl) (d_b dk_X11_check_0 6 rfl) rfl, rfl⟩
theorem dX11_check_7 : pm_dec mX11_check 7 (.invokevirtual 203, 3) 10 := ⟨dq_182 (d_b dk_X11_check_0 7 rfl) (d_b dk_X11_check_0 8 rfl) (d_b dk_X11_check_0 9 rfl) rfl, rfl⟩
theorem dX11_check_10 : pm_dec mX11_check 10 (.istore_n 1, 1) 11 := ⟨dq_60 (d_b dk_X11_check_0 10 rfl), rfl⟩
theorem dX11_check_11 : pm_dec mX11_check 11 (.iconst 0, 1) 12 := ⟨dq_3 (d_b dk_X11_check_0 11 rfl), rfl⟩
theorem dX11_check_12 : pm_dec mX11_check 12 (.istore_n 2, 1) 13 := ⟨dq_61 (d_b dk_X11_check_0 12 rfl), rfl⟩
theorem dX11_check_13 : pm_dec mX11_check 13 (.iconst 0, 1) 14 := ⟨dq_3 (d_b dk_X11_check_0 13 rfl), rfl⟩
theorem dX11_check_14 : pm_dec mX11_check 14 (.istore_n 3, 1) 15 := ⟨dq_62 (d_b dk_X11_check_0 14 rfl), rfl⟩
theorem dX11_check_15 : pm_dec mX11_check 15 (.iload_n 3, 1) 16 := ⟨dq_29 (d_b dk_X11_check_0 15 rfl), rfl⟩
theorem dX11_check_16 : pm_dec mX11_check 16 (.iload_n 1, 1) 17 := ⟨dq_27 (d_b dk_X11_check_0 16 rfl), rfl⟩
theorem dX11_check_17 : pm_dec mX11_check 17 (.if_icmp .ge 40, 3) 20 := ⟨dq_162 (d_b dk_X11_check_0 17 rfl) (d_b dk_X11_check_0 18 rfl) (d_b dk_X11_check_0 19 rfl) (by decide), rfl⟩
theorem dX11_check_20 : pm_dec mX11_check 20 (.iload_n 2, 1) 21 := ⟨dq_28 (d_b dk_X11_check_0 20 rfl), rfl⟩
theorem dX11_check_21 : pm_dec mX11_check 21 (.ifCond .ne 36, 3) 24 := ⟨dq_154 (d_b dk_X11_check_0 21 rfl) (d_b dk_X11_check_0 22 rfl) (d_b dk_X11_check_0 23 rfl) (by decide), rfl⟩
theorem dX11_check_24 : pm_dec mX11_check 24 (.aload_n 0, 1) 25 := ⟨dq_42 (d_b dk_X11_check_0 24 rfl), rfl⟩
theorem dX11_check_25 : pm_dec mX11_check 25 (.getfield 12, 3) 28 := ⟨dq_180 (d_b dk_X11_check_0 25 rfl) (d_b dk_X11_check_0 26 rfl) (d_b dk_X11_check_0 27 rfl) rfl, rfl⟩
theorem dX11_check_28 : pm_dec mX11_check 28 (.iload_n 3, 1) 29 := ⟨dq_29 (d_b dk_X11_check_0 28 rfl), rfl⟩
theorem dX11_check_29 : pm_dec mX11_check 29 (.aload_n 0, 1) 30 := ⟨dq_42 (d_b dk_X11_check_0 29 rfl), rfl⟩
theorem dX11_check_30 : pm_dec mX11_check 30 (.getfield 12, 3) 33 := ⟨dq_180 (d_b dk_X11_check_0 30 rfl) (d_b dk_X11_check_0 31 rfl) (d_b dk_X11_check_0 32 rfl) rfl, rfl⟩
theorem dX11_check_33 : pm_dec mX11_check 33 (.getfield 386, 3) 36 := ⟨dq_180 (d_b dk_X11_check_0 33 rfl) (d_b dk_X11_check_0 34 rfl) (d_b dk_X11_check_0 35 rfl) rfl, rfl⟩
theorem dX11_check_36 : pm_dec mX11_check 36 (.iload_n 3, 1) 37 := ⟨dq_29 (d_b dk_X11_check_0 36 rfl), rfl⟩
theorem dX11_check_37 : pm_dec mX11_check 37 (.iconst 0, 1) 38 := ⟨dq_3 (d_b dk_X11_check_0 37 rfl), rfl⟩
theorem dX11_check_38 : pm_dec mX11_check 38 (.invokevirtual 152, 3) 41 := ⟨dq_182 (d_b dk_X11_check_0 38 rfl) (d_b dk_X11_check_0 39 rfl) (d_b dk_X11_check_0 40 rfl) rfl, rfl⟩
theorem dX11_check_41 : pm_dec mX11_check 41 (.invokevirtual 389, 3) 44 := ⟨dq_182 (d_b dk_X11_check_0 41 rfl) (d_b dk_X11_check_0 42 rfl) (d_b dk_X11_check_0 43 rfl) rfl, rfl⟩
theorem dX11_check_44 : pm_dec mX11_check 44 (.ifCond .ne 7, 3) 47 := ⟨dq_154 (d_b dk_X11_check_0 44 rfl) (d_b dk_X11_check_0 45 rfl) (d_b dk_X11_check_0 46 rfl) (by decide), rfl⟩
theorem dX11_check_47 : pm_dec mX11_check 47 (.iload_n 3, 1) 48 := ⟨dq_29 (d_b dk_X11_check_0 47 rfl), rfl⟩
def dt_X11_check_48 : List Nat := [4, 96, 61, 132, 3, 1, 167, 255, 217, 42, 180, 0, 12, 180, 1, 130, 182, 1, 136, 28, 172]
theorem dk_X11_check_48 : (((mX11_check.2.1).data.toList.drop 48).take 21).map UInt8.toNat = dt_X11_check_48 := by decide +kernel
theorem dX11_check_48 : pm_dec mX11_check 48 (.iconst 1, 1) 49 := ⟨dq_4 (d_b dk_X11_check_48 0 rfl), rfl⟩
theorem dX11_check_49 : pm_dec mX11_check 49 (.iadd, 1) 50 := ⟨dq_96 (d_b dk_X11_check_48 1 rfl), rfl⟩
theorem dX11_check_50 : pm_dec mX11_check 50 (.istore_n 2, 1) 51 := ⟨dq_61 (d_b dk_X11_check_48 2 rfl), rfl⟩
theorem dX11_check_51 : pm_dec mX11_check 51 (.iinc 3 1, 3) 54 := ⟨dq_132 (d_b dk_X11_check_48 3 rfl) (d_b dk_X11_check_48 4 rfl) (d_b dk_X11_check_48 5 rfl) (by decide), rfl⟩
theorem dX11_check_54 : pm_dec mX11_check 54 (.goto (-39), 3) 57 := ⟨dq_167 (d_b dk_X11_check_48 6 rfl) (d_b dk_X11_check_48 7 rfl) (d_b dk_X11_check_48 8 rfl) (by decide), rfl⟩
theorem dX11_check_57 : pm_dec mX11_check 57 (.aload_n 0, 1) 58 := ⟨dq_42 (d_b dk_X11_check_48 9 rfl), rfl⟩
theorem dX11_check_58 : pm_dec mX11_check 58 (.getfield 12, 3) 61 := ⟨dq_180 (d_b dk_X11_check_48 10 rfl) (d_b dk_X11_check_48 11 rfl) (d_b dk_X11_check_48 12 rfl) rfl, rfl⟩
theorem dX11_check_61 : pm_dec mX11_check 61 (.getfield 386, 3) 64 := ⟨dq_180 (d_b dk_X11_check_48 13 rfl) (d_b dk_X11_check_48 14 rfl) (d_b dk_X11_check_48 15 rfl) rfl, rfl⟩
theorem dX11_check_64 : pm_dec mX11_check 64 (.invokevirtual 392, 3) 67 := ⟨dq_182 (d_b dk_X11_check_48 16 rfl) (d_b dk_X11_check_48 17 rfl) (d_b dk_X11_check_48 18 rfl) rfl, rfl⟩
theorem dX11_check_67 : pm_dec mX11_check 67 (.iload_n 2, 1) 68 := ⟨dq_28 (d_b dk_X11_check_48 19 rfl), rfl⟩
theorem dX11_check_68 : pm_dec mX11_check 68 (.ireturn, 1) 69 := ⟨dq_172 (d_b dk_X11_check_48 20 rfl), rfl⟩
def dt_X11_copy_0 : List Nat := [42, 180, 0, 12, 180, 0, 161, 27, 182, 0, 101, 154, 0, 10, 42, 18, 109, 182, 0, 97, 172, 42, 180, 0, 12, 27, 5, 182, 0, 180, 154, 0, 10, 42, 18, 184, 182, 0, 97, 172, 42, 180, 0, 12, 27, 182, 0, 185]
theorem dk_X11_copy_0 : (((mX11_copy.2.1).data.toList.drop 0).take 48).map UInt8.toNat = dt_X11_copy_0 := by decide +kernel
theorem dX11_copy_0 : pm_dec mX11_copy 0 (.aload_n 0, 1) 1 := ⟨dq_42 (d_b dk_X11_copy_0 0 rfl), rfl⟩
theorem dX11_copy_1 : pm_dec mX11_copy 1 (.getfield 12, 3) 4 := ⟨dq_180 (d_b dk_X11_copy_0 1 rfl) (d_b dk_X11_copy_0 2 rfl) (d_b dk_X11_copy_0 3 rfl) rfl, rfl⟩
theorem dX11_copy_4 : pm_dec mX11_copy 4 (.getfield 161, 3) 7 := ⟨dq_180 (d_b dk_X11_copy_0 4 rfl) (d_b dk_X11_copy_0 5 rfl) (d_b dk_X11_copy_0 6 rfl) rfl, rfl⟩
theorem dX11_copy_7 : pm_dec mX11_copy 7 (.iload_n 1, 1) 8 := ⟨dq_27 (d_b dk_X11_copy_0 7 rfl), rfl⟩
theorem dX11_copy_8 : pm_dec mX11_copy 8 (.invokevirtual 101, 3) 11 := ⟨dq_182 (d_b dk_X11_copy_0 8 rfl) (d_b dk_X11_copy_0 9 rfl) (d_b dk_X11_copy_0 10 rfl) rfl, rfl⟩
theorem dX11_copy_11 : pm_dec mX11_copy 11 (.ifCond .ne 10, 3) 14 := ⟨dq_154 (d_b dk_X11_copy_0 11 rfl) (d_b dk_X11_copy_0 12 rfl) (d_b dk_X11_copy_0 13 rfl) (by decide), rfl⟩
theorem dX11_copy_14 : pm_dec mX11_copy 14 (.aload_n 0, 1) 15 := ⟨dq_42 (d_b dk_X11_copy_0 14 rfl), rfl⟩
theorem dX11_copy_15 : pm_dec mX11_copy 15 (.ldc 109, 2) 17 := ⟨dq_18 (d_b dk_X11_copy_0 15 rfl) (d_b dk_X11_copy_0 16 rfl), rfl⟩
theorem dX11_copy_17 : pm_dec mX11_copy 17 (.invokevirtual 97, 3) 20 := ⟨dq_182 (d_b dk_X11_copy_0 17 rfl) (d_b dk_X11_copy_0 18 rfl) (d_b dk_X11_copy_0 19 rfl) rfl, rfl⟩
theorem dX11_copy_20 : pm_dec mX11_copy 20 (.ireturn, 1) 21 := ⟨dq_172 (d_b dk_X11_copy_0 20 rfl), rfl⟩
theorem dX11_copy_21 : pm_dec mX11_copy 21 (.aload_n 0, 1) 22 := ⟨dq_42 (d_b dk_X11_copy_0 21 rfl), rfl⟩
theorem dX11_copy_22 : pm_dec mX11_copy 22 (.getfield 12, 3) 25 := ⟨dq_180 (d_b dk_X11_copy_0 22 rfl) (d_b dk_X11_copy_0 23 rfl) (d_b dk_X11_copy_0 24 rfl) rfl, rfl⟩
theorem dX11_copy_25 : pm_dec mX11_copy 25 (.iload_n 1, 1) 26 := ⟨dq_27 (d_b dk_X11_copy_0 25 rfl), rfl⟩
theorem dX11_copy_26 : pm_dec mX11_copy 26 (.iconst 2, 1) 27 := ⟨dq_5 (d_b dk_X11_copy_0 26 rfl), rfl⟩
theorem dX11_copy_27 : pm_dec mX11_copy 27 (.invokevirtual 180, 3) 30 := ⟨dq_182 (d_b dk_X11_copy_0 27 rfl) (d_b dk_X11_copy_0 28 rfl) (d_b dk_X11_copy_0 29 rfl) rfl, rfl⟩
theorem dX11_copy_30 : pm_dec mX11_copy 30 (.ifCond .ne 10, 3) 33 := ⟨dq_154 (d_b dk_X11_copy_0 30 rfl) (d_b dk_X11_copy_0 31 rfl) (d_b dk_X11_copy_0 32 rfl) (by decide), rfl⟩
theorem dX11_copy_33 : pm_dec mX11_copy 33 (.aload_n 0, 1) 34 := ⟨dq_42 (d_b dk_X11_copy_0 33 rfl), rfl⟩
theorem dX11_copy_34 : pm_dec mX11_copy 34 (.ldc 184, 2) 36 := ⟨dq_18 (d_b dk_X11_copy_0 34 rfl) (d_b dk_X11_copy_0 35 rfl), rfl⟩
theorem dX11_copy_36 : pm_dec mX11_copy 36 (.invokevirtual 97, 3) 39 := ⟨dq_182 (d_b dk_X11_copy_0 36 rfl) (d_b dk_X11_copy_0 37 rfl) (d_b dk_X11_copy_0 38 rfl) rfl, rfl⟩
theorem dX11_copy_39 : pm_dec mX11_copy 39 (.ireturn, 1) 40 := ⟨dq_172 (d_b dk_X11_copy_0 39 rfl), rfl⟩
theorem dX11_copy_40 : pm_dec mX11_copy 40 (.aload_n 0, 1) 41 := ⟨dq_42 (d_b dk_X11_copy_0 40 rfl), rfl⟩
theorem dX11_copy_41 : pm_dec mX11_copy 41 (.getfield 12, 3) 44 := ⟨dq_180 (d_b dk_X11_copy_0 41 rfl) (d_b dk_X11_copy_0 42 rfl) (d_b dk_X11_copy_0 43 rfl) rfl, rfl⟩
theorem dX11_copy_44 : pm_dec mX11_copy 44 (.iload_n 1, 1) 45 := ⟨dq_27 (d_b dk_X11_copy_0 44 rfl), rfl⟩
theorem dX11_copy_45 : pm_dec mX11_copy 45 (.invokevirtual 185, 3) 48 := ⟨dq_182 (d_b dk_X11_copy_0 45 rfl) (d_b dk_X11_copy_0 46 rfl) (d_b dk_X11_copy_0 47 rfl) rfl, rfl⟩
def dt_X11_copy_48 : List Nat := [2, 160, 0, 10, 42, 18, 138, 182, 0, 97, 172, 42, 42, 180, 0, 12, 180, 0, 161, 182, 0, 86, 153, 0, 8, 18, 92, 167, 0, 11, 42, 180, 0, 12, 27, 182, 0, 197, 182, 0, 97, 172]
theorem dk_X11_copy_48 : (((mX11_copy.2.1).data.toList.drop 48).take 42).map UInt8.toNat = dt_X11_copy_48 := by decide +kernel
theorem dX11_copy_48 : pm_dec mX11_copy 48 (.iconst (-1), 1) 49 := ⟨dq_2 (d_b dk_X11_copy_48 0 rfl), rfl⟩
theorem dX11_copy_49 : pm_dec mX11_copy 49 (.if_icmp .ne 10, 3) 52 := ⟨dq_160 (d_b dk_X11_copy_48 1 rfl) (d_b dk_X11_copy_48 2 rfl) (d_b dk_X11_copy_48 3 rfl) (by decide), rfl⟩
theorem dX11_copy_52 : pm_dec mX11_copy 52 (.aload_n 0, 1) 53 := ⟨dq_42 (d_b dk_X11_copy_48 4 rfl), rfl⟩
theorem dX11_copy_53 : pm_dec mX11_copy 53 (.ldc 138, 2) 55 := ⟨dq_18 (d_b dk_X11_copy_48 5 rfl) (d_b dk_X11_copy_48 6 rfl), rfl⟩
theorem dX11_copy_55 : pm_dec mX11_copy 55 (.invokevirtual 97, 3) 58 := ⟨dq_182 (d_b dk_X11_copy_48 7 rfl) (d_b dk_X11_copy_48 8 rfl) (d_b dk_X11_copy_48 9 rfl) rfl, rfl⟩
theorem dX11_copy_58 : pm_dec mX11_copy 58 (.ireturn, 1) 59 := ⟨dq_172 (d_b dk_X11_copy_48 10 rfl), rfl⟩
theorem dX11_copy_59 : pm_dec mX11_copy 59 (.aload_n 0, 1) 60 := ⟨dq_42 (d_b dk_X11_copy_48 11 rfl), rfl⟩
theorem dX11_copy_60 : pm_dec mX11_copy 60 (.aload_n 0, 1) 61 := ⟨dq_42 (d_b dk_X11_copy_48 12 rfl), rfl⟩
theorem dX11_copy_61 : pm_dec mX11_copy 61 (.getfield 12, 3) 64 := ⟨dq_180 (d_b dk_X11_copy_48 13 rfl) (d_b dk_X11_copy_48 14 rfl) (d_b dk_X11_copy_48 15 rfl) rfl, rfl⟩
theorem dX11_copy_64 : pm_dec mX11_copy 64 (.getfield 161, 3) 67 := ⟨dq_180 (d_b dk_X11_copy_48 16 rfl) (d_b dk_X11_copy_48 17 rfl) (d_b dk_X11_copy_48 18 rfl) rfl, rfl⟩
theorem dX11_copy_67 : pm_dec mX11_copy 67 (.invokevirtual 86, 3) 70 := ⟨dq_182 (d_b dk_X11_copy_48 19 rfl) (d_b dk_X11_copy_48 20 rfl) (d_b dk_X11_copy_48 21 rfl) rfl, rfl⟩
theorem dX11_copy_70 : pm_dec mX11_copy 70 (.ifCond .eq 8, 3) 73 := ⟨dq_153 (d_b dk_X11_copy_48 22 rfl) (d_b dk_X11_copy_48 23 rfl) (d_b dk_X11_copy_48 24 rfl) (by decide), rfl⟩
theorem dX11_copy_73 : pm_dec mX11_copy 73 (.ldc 92, 2) 75 := ⟨dq_18 (d_b dk_X11_copy_48 25 rfl) (d_b dk_X11_copy_48 26 rfl), rfl⟩
theorem dX11_copy_75 : pm_dec mX11_copy 75 (.goto 11, 3) 78 := ⟨dq_167 (d_b dk_X11_copy_48 27 rfl) (d_b dk_X11_copy_48 28 rfl) (d_b dk_X11_copy_48 29 rfl) (by decide), rfl⟩
theorem dX11_copy_78 : pm_dec mX11_copy 78 (.aload_n 0, 1) 79 := ⟨dq_42 (d_b dk_X11_copy_48 30 rfl), rfl⟩
theorem dX11_copy_79 : pm_dec mX11_copy 79 (.getfield 12, 3) 82 := ⟨dq_180 (d_b dk_X11_copy_48 31 rfl) (d_b dk_X11_copy_48 32 rfl) (d_b dk_X11_copy_48 33 rfl) rfl, rfl⟩
theorem dX11_copy_82 : pm_dec mX11_copy 82 (.iload_n 1, 1) 83 := ⟨dq_27 (d_b dk_X11_copy_48 34 rfl), rfl⟩
theorem dX11_copy_83 : pm_dec mX11_copy 83 (.invokevirtual 197, 3) 86 := ⟨dq_182 (d_b dk_X11_copy_48 35 rfl) (d_b dk_X11_copy_48 36 rfl) (d_b dk_X11_copy_48 37 rfl) rfl, rfl⟩
theorem dX11_copy_86 : pm_dec mX11_copy 86 (.invokevirtual 97, 3) 89 := ⟨dq_182 (d_b dk_X11_copy_48 38 rfl) (d_b dk_X11_copy_48 39 rfl) (d_b dk_X11_copy_48 40 rfl) rfl, rfl⟩
theorem dX11_copy_89 : pm_dec mX11_copy 89 (.ireturn, 1) 90 := ⟨dq_172 (d_b dk_X11_copy_48 41 rfl), rfl⟩
def dt_X11_count_0 : List Nat := [27]
theorem dk_X11_count_0 : (((mX11_count.2.1).data.toList.drop 0).take 1).map UInt8.toNat = dt_X11_count_0 := by decide +kernel
theorem dX11_count_0 : pm_dec mX11_count 0 (.iload_n 1, 1) 1 := ⟨dq_27 (d_b dk_X11_count_0 0 rfl), rfl⟩
def dt_X11_count_80 : List Nat := [42, 180, 0, 12, 180, 0, 82, 182, 0, 203, 172, 42, 180, 0, 12, 180, 0, 110, 172, 42, 180, 0, 12, 180, 0, 128, 182, 0, 203, 172, 42, 180, 0, 12, 180, 0, 161, 182, 0, 203, 172, 42, 180, 0, 12, 180, 0, 209]
theorem dk_X11_count_80 : (((mX11_count.2.1).data.toList.drop 80).take 48).map UInt8.toNat = dt_X11_count_80 := by decide +kernel
theorem dX11_count_80 : pm_dec mX11_count 80 (.aload_n 0, 1) 81 := ⟨dq_42 (d_b dk_X11_count_80 0 rfl), rfl⟩
theorem dX11_count_81 : pm_dec mX11_count 81 (.getfield 12, 3) 84 := ⟨dq_180 (d_b dk_X11_count_80 1 rfl) (d_b dk_X11_count_80 2 rfl) (d_b dk_X11_count_80 3 rfl) rfl, rfl⟩
theorem dX11_count_84 : pm_dec mX11_count 84 (.getfield 82, 3) 87 := ⟨dq_180 (d_b dk_X11_count_80 4 rfl) (d_b dk_X11_count_80 5 rfl) (d_b dk_X11_count_80 6 rfl) rfl, rfl⟩
theorem dX11_count_87 : pm_dec mX11_count 87 (.invokevirtual 203, 3) 90 := ⟨dq_182 (d_b dk_X11_count_80 7 rfl) (d_b dk_X11_count_80 8 rfl) (d_b dk_X11_count_80 9 rfl) rfl, rfl⟩
theorem dX11_count_90 : pm_dec mX11_count 90 (.ireturn, 1) 91 := ⟨dq_172 (d_b dk_X11_count_80 10 rfl), rfl⟩
theorem dX11_count_91 : pm_dec mX11_count 91 (.aload_n 0, 1) 92 := ⟨dq_42 (d_b dk_X11_count_80 11 rfl), rfl⟩
theorem dX11_count_92 : pm_dec mX11_count 92 (.getfield 12, 3) 95 := ⟨dq_180 (d_b dk_X11_count_80 12 rfl) (d_b dk_X11_count_80 13 rfl) (d_b dk_X11_count_80 14 rfl) rfl, rfl⟩
theorem dX11_count_95 : pm_dec mX11_count 95 (.getfield 110, 3) 98 := ⟨dq_180 (d_b dk_X11_count_80 15 rfl) (d_b dk_X11_count_80 16 rfl) (d_b dk_X11_count_80 17 rfl) rfl, rfl⟩
theorem dX11_count_98 : pm_dec mX11_count 98 (.ireturn, 1) 99 := ⟨dq_172 (d_b dk_X11_count_80 18 rfl), rfl⟩
theorem dX11_count_99 : pm_dec mX11_count 99 (.aload_n 0, 1) 100 := ⟨dq_42 (d_b dk_X11_count_80 19 rfl), rfl⟩
theorem dX11_count_100 : pm_dec mX11_count 100 (.getfield 12, 3) 103 := ⟨dq_180 (d_b dk_X11_count_80 20 rfl) (d_b dk_X11_count_80 21 rfl) (d_b dk_X11_count_80 22 rfl) rfl, rfl⟩
theorem dX11_count_103 : pm_dec mX11_count 103 (.getfield 128, 3) 106 := ⟨dq_180 (d_b dk_X11_count_80 23 rfl) (d_b dk_X11_count_80 24 rfl) (d_b dk_X11_count_80 25 rfl) rfl, rfl⟩
theorem dX11_count_106 : pm_dec mX11_count 106 (.invokevirtual 203, 3) 109 := ⟨dq_182 (d_b dk_X11_count_80 26 rfl) (d_b dk_X11_count_80 27 rfl) (d_b dk_X11_count_80 28 rfl) rfl, rfl⟩
theorem dX11_count_109 : pm_dec mX11_count 109 (.ireturn, 1) 110 := ⟨dq_172 (d_b dk_X11_count_80 29 rfl), rfl⟩
theorem dX11_count_110 : pm_dec mX11_count 110 (.aload_n 0, 1) 111 := ⟨dq_42 (d_b dk_X11_count_80 30 rfl), rfl⟩
theorem dX11_count_111 : pm_dec mX11_count 111 (.getfield 12, 3) 114 := ⟨dq_180 (d_b dk_X11_count_80 31 rfl) (d_b dk_X11_count_80 32 rfl) (d_b dk_X11_count_80 33 rfl) rfl, rfl⟩
theorem dX11_count_114 : pm_dec mX11_count 114 (.getfield 161, 3) 117 := ⟨dq_180 (d_b dk_X11_count_80 34 rfl) (d_b dk_X11_count_80 35 rfl) (d_b dk_X11_count_80 36 rfl) rfl, rfl⟩
theorem dX11_count_117 : pm_dec mX11_count 117 (.invokevirtual 203, 3) 120 := ⟨dq_182 (d_b dk_X11_count_80 37 rfl) (d_b dk_X11_count_80 38 rfl) (d_b dk_X11_count_80 39 rfl) rfl, rfl⟩
theorem dX11_count_120 : pm_dec mX11_count 120 (.ireturn, 1) 121 := ⟨dq_172 (d_b dk_X11_count_80 40 rfl), rfl⟩
theorem dX11_count_121 : pm_dec mX11_count 121 (.aload_n 0, 1) 122 := ⟨dq_42 (d_b dk_X11_count_80 41 rfl), rfl⟩
theorem dX11_count_122 : pm_dec mX11_count 122 (.getfield 12, 3) 125 := ⟨dq_180 (d_b dk_X11_count_80 42 rfl) (d_b dk_X11_count_80 43 rfl) (d_b dk_X11_count_80 44 rfl) rfl, rfl⟩
theorem dX11_count_125 : pm_dec mX11_count 125 (.getfield 209, 3) 128 := ⟨dq_180 (d_b dk_X11_count_80 45 rfl) (d_b dk_X11_count_80 46 rfl) (d_b dk_X11_count_80 47 rfl) rfl, rfl⟩
def dt_X11_count_128 : List Nat := [182, 0, 203, 172, 42, 180, 0, 12, 180, 0, 224, 182, 0, 203, 172, 42, 180, 0, 12, 180, 1, 15, 182, 0, 203, 172, 42, 180, 0, 12, 180, 1, 21, 182, 0, 203, 172, 42, 180, 0, 12, 180, 0, 122, 172, 42, 180, 0, 12]
theorem dk_X11_count_128 : (((mX11_count.2.1).data.toList.drop 128).take 49).map UInt8.toNat = dt_X11_count_128 := by decide +kernel
theorem dX11_count_128 : pm_dec mX11_count 128 (.invokevirtual 203, 3) 131 := ⟨dq_182 (d_b dk_X11_count_128 0 rfl) (d_b dk_X11_count_128 1 rfl) (d_b dk_X11_count_128 2 rfl) rfl, rfl⟩
theorem dX11_count_131 : pm_dec mX11_count 131 (.ireturn, 1) 132 := ⟨dq_172 (d_b dk_X11_count_128 3 rfl), rfl⟩
theorem dX11_count_132 : pm_dec mX11_count 132 (.aload_n 0, 1) 133 := ⟨dq_42 (d_b dk_X11_count_128 4 rfl), rfl⟩
theorem dX11_count_133 : pm_dec mX11_count 133 (.getfield 12, 3) 136 := ⟨dq_180 (d_b dk_X11_count_128 5 rfl) (d_b dk_X11_count_128 6 rfl) (d_b dk_X11_count_128 7 rfl) rfl, rfl⟩
theorem dX11_count_136 : pm_dec mX11_count 136 (.getfield 224, 3) 139 := ⟨dq_180 (d_b dk_X11_count_128 8 rfl) (d_b dk_X11_count_128 9 rfl) (d_b dk_X11_count_128 10 rfl) rfl, rfl⟩
theorem dX11_count_139 : pm_dec mX11_count 139 (.invokevirtual 203, 3) 142 := ⟨dq_182 (d_b dk_X11_count_128 11 rfl) (d_b dk_X11_count_128 12 rfl) (d_b dk_X11_count_128 13 rfl) rfl, rfl⟩
theorem dX11_count_142 : pm_dec mX11_count 142 (.ireturn, 1) 143 := ⟨dq_172 (d_b dk_X11_count_128 14 rfl), rfl⟩
theorem dX11_count_143 : pm_dec mX11_count 143 (.aload_n 0, 1) 144 := ⟨dq_42 (d_b dk_X11_count_128 15 rfl), rfl⟩
theorem dX11_count_144 : pm_dec mX11_count 144 (.getfield 12, 3) 147 := ⟨dq_180 (d_b dk_X11_count_128 16 rfl) (d_b dk_X11_count_128 17 rfl) (d_b dk_X11_count_128 18 rfl) rfl, rfl⟩
theorem dX11_count_147 : pm_dec mX11_count 147 (.getfield 271, 3) 150 := ⟨dq_180 (d_b dk_X11_count_128 19 rfl) (d_b dk_X11_count_128 20 rfl) (d_b dk_X11_count_128 21 rfl) rfl, rfl⟩
theorem dX11_count_150 : pm_dec mX11_count 150 (.invokevirtual 203, 3) 153 := ⟨dq_182 (d_b dk_X11_count_128 22 rfl) (d_b dk_X11_count_128 23 rfl) (d_b dk_X11_count_128 24 rfl) rfl, rfl⟩
theorem dX11_count_153 : pm_dec mX11_count 153 (.ireturn, 1) 154 := ⟨dq_172 (d_b dk_X11_count_128 25 rfl), rfl⟩
theorem dX11_count_154 : pm_dec mX11_count 154 (.aload_n 0, 1) 155 := ⟨dq_42 (d_b dk_X11_count_128 26 rfl), rfl⟩
theorem dX11_count_155 : pm_dec mX11_count 155 (.getfield 12, 3) 158 := ⟨dq_180 (d_b dk_X11_count_128 27 rfl) (d_b dk_X11_count_128 28 rfl) (d_b dk_X11_count_128 29 rfl) rfl, rfl⟩
theorem dX11_count_158 : pm_dec mX11_count 158 (.getfield 277, 3) 161 := ⟨dq_180 (d_b dk_X11_count_128 30 rfl) (d_b dk_X11_count_128 31 rfl) (d_b dk_X11_count_128 32 rfl) rfl, rfl⟩
theorem dX11_count_161 : pm_dec mX11_count 161 (.invokevirtual 203, 3) 164 := ⟨dq_182 (d_b dk_X11_count_128 33 rfl) (d_b dk_X11_count_128 34 rfl) (d_b dk_X11_count_128 35 rfl) rfl, rfl⟩
theorem dX11_count_164 : pm_dec mX11_count 164 (.ireturn, 1) 165 := ⟨dq_172 (d_b dk_X11_count_128 36 rfl), rfl⟩
theorem dX11_count_165 : pm_dec mX11_count 165 (.aload_n 0, 1) 166 := ⟨dq_42 (d_b dk_X11_count_128 37 rfl), rfl⟩
theorem dX11_count_166 : pm_dec mX11_count 166 (.getfield 12, 3) 169 := ⟨dq_180 (d_b dk_X11_count_128 38 rfl) (d_b dk_X11_count_128 39 rfl) (d_b dk_X11_count_128 40 rfl) rfl, rfl⟩
theorem dX11_count_169 : pm_dec mX11_count 169 (.getfield 122, 3) 172 := ⟨dq_180 (d_b dk_X11_count_128 41 rfl) (d_b dk_X11_count_128 42 rfl) (d_b dk_X11_count_128 43 rfl) rfl, rfl⟩
theorem dX11_count_172 : pm_dec mX11_count 172 (.ireturn, 1) 173 := ⟨dq_172 (d_b dk_X11_count_128 44 rfl), rfl⟩
theorem dX11_count_173 : pm_dec mX11_count 173 (.aload_n 0, 1) 174 := ⟨dq_42 (d_b dk_X11_count_128 45 rfl), rfl⟩
theorem dX11_count_174 : pm_dec mX11_count 174 (.getfield 12, 3) 177 := ⟨dq_180 (d_b dk_X11_count_128 46 rfl) (d_b dk_X11_count_128 47 rfl) (d_b dk_X11_count_128 48 rfl) rfl, rfl⟩
def dt_X11_count_177 : List Nat := [180, 1, 139, 172, 42, 180, 0, 12, 180, 0, 200, 182, 0, 203, 172, 42, 180, 0, 12, 180, 0, 128, 16, 13, 4, 182, 0, 164, 172, 42, 180, 0, 67, 180, 1, 102, 172, 42, 180, 0, 12, 180, 1, 130, 182, 0, 203, 172]
theorem dk_X11_count_177 : (((mX11_count.2.1).data.toList.drop 177).take 48).map UInt8.toNat = dt_X11_count_177 := by decide +kernel
theorem dX11_count_177 : pm_dec mX11_count 177 (.getfield 395, 3) 180 := ⟨dq_180 (d_b dk_X11_count_177 0 rfl) (d_b dk_X11_count_177 1 rfl) (d_b dk_X11_count_177 2 rfl) rfl, rfl⟩
theorem dX11_count_180 : pm_dec mX11_count 180 (.ireturn, 1) 181 := ⟨dq_172 (d_b dk_X11_count_177 3 rfl), rfl⟩
theorem dX11_count_181 : pm_dec mX11_count 181 (.aload_n 0, 1) 182 := ⟨dq_42 (d_b dk_X11_count_177 4 rfl), rfl⟩
theorem dX11_count_182 : pm_dec mX11_count 182 (.getfield 12, 3) 185 := ⟨dq_180 (d_b dk_X11_count_177 5 rfl) (d_b dk_X11_count_177 6 rfl) (d_b dk_X11_count_177 7 rfl) rfl, rfl⟩
theorem dX11_count_185 : pm_dec mX11_count 185 (.getfield 200, 3) 188 := ⟨dq_180 (d_b dk_X11_count_177 8 rfl) (d_b dk_X11_count_177 9 rfl) (d_b dk_X11_count_177 10 rfl) rfl, rfl⟩
theorem dX11_count_188 : pm_dec mX11_count 188 (.invokevirtual 203, 3) 191 := ⟨dq_182 (d_b dk_X11_count_177 11 rfl) (d_b dk_X11_count_177 12 rfl) (d_b dk_X11_count_177 13 rfl) rfl, rfl⟩
theorem dX11_count_191 : pm_dec mX11_count 191 (.ireturn, 1) 192 := ⟨dq_172 (d_b dk_X11_count_177 14 rfl), rfl⟩
theorem dX11_count_192 : pm_dec mX11_count 192 (.aload_n 0, 1) 193 := ⟨dq_42 (d_b dk_X11_count_177 15 rfl), rfl⟩
theorem dX11_count_193 : pm_dec mX11_count 193 (.getfield 12, 3) 196 := ⟨dq_180 (d_b dk_X11_count_177 16 rfl) (d_b dk_X11_count_177 17 rfl) (d_b dk_X11_count_177 18 rfl) rfl, rfl⟩
theorem dX11_count_196 : pm_dec mX11_count 196 (.getfield 128, 3) 199 := ⟨dq_180 (d_b dk_X11_count_177 19 rfl) (d_b dk_X11_count_177 20 rfl) (d_b dk_X11_count_177 21 rfl) rfl, rfl⟩
theorem dX11_count_199 : pm_dec mX11_count 199 (.bipush 13, 2) 201 := ⟨dq_16 (d_b dk_X11_count_177 22 rfl) (d_b dk_X11_count_177 23 rfl) (by decide), rfl⟩
theorem dX11_count_201 : pm_dec mX11_count 201 (.iconst 1, 1) 202 := ⟨dq_4 (d_b dk_X11_count_177 24 rfl), rfl⟩
theorem dX11_count_202 : pm_dec mX11_count 202 (.invokevirtual 164, 3) 205 := ⟨dq_182 (d_b dk_X11_count_177 25 rfl) (d_b dk_X11_count_177 26 rfl) (d_b dk_X11_count_177 27 rfl) rfl, rfl⟩
theorem dX11_count_205 : pm_dec mX11_count 205 (.ireturn, 1) 206 := ⟨dq_172 (d_b dk_X11_count_177 28 rfl), rfl⟩
theorem dX11_count_206 : pm_dec mX11_count 206 (.aload_n 0, 1) 207 := ⟨dq_42 (d_b dk_X11_count_177 29 rfl), rfl⟩
theorem dX11_count_207 : pm_dec mX11_count 207 (.getfield 67, 3) 210 := ⟨dq_180 (d_b dk_X11_count_177 30 rfl) (d_b dk_X11_count_177 31 rfl) (d_b dk_X11_count_177 32 rfl) rfl, rfl⟩
theorem dX11_count_210 : pm_dec mX11_count 210 (.getfield 358, 3) 213 := ⟨dq_180 (d_b dk_X11_count_177 33 rfl) (d_b dk_X11_count_177 34 rfl) (d_b dk_X11_count_177 35 rfl) rfl, rfl⟩
theorem dX11_count_213 : pm_dec mX11_count 213 (.ireturn, 1) 214 := ⟨dq_172 (d_b dk_X11_count_177 36 rfl), rfl⟩
theorem dX11_count_214 : pm_dec mX11_count 214 (.aload_n 0, 1) 215 := ⟨dq_42 (d_b dk_X11_count_177 37 rfl), rfl⟩
theorem dX11_count_215 : pm_dec mX11_count 215 (.getfield 12, 3) 218 := ⟨dq_180 (d_b dk_X11_count_177 38 rfl) (d_b dk_X11_count_177 39 rfl) (d_b dk_X11_count_177 40 rfl) rfl, rfl⟩
theorem dX11_count_218 : pm_dec mX11_count 218 (.getfield 386, 3) 221 := ⟨dq_180 (d_b dk_X11_count_177 41 rfl) (d_b dk_X11_count_177 42 rfl) (d_b dk_X11_count_177 43 rfl) rfl, rfl⟩
theorem dX11_count_221 : pm_dec mX11_count 221 (.invokevirtual 203, 3) 224 := ⟨dq_182 (d_b dk_X11_count_177 44 rfl) (d_b dk_X11_count_177 45 rfl) (d_b dk_X11_count_177 46 rfl) rfl, rfl⟩
theorem dX11_count_224 : pm_dec mX11_count 224 (.ireturn, 1) 225 := ⟨dq_172 (d_b dk_X11_count_177 47 rfl), rfl⟩
def dt_X11_count_225 : List Nat := [42, 180, 0, 12, 180, 0, 128, 16, 7, 182, 1, 142, 172, 42, 180, 0, 39, 182, 1, 145, 172, 42, 18, 109, 182, 0, 97, 172]
theorem dk_X11_count_225 : (((mX11_count.2.1).data.toList.drop 225).take 28).map UInt8.toNat = dt_X11_count_225 := by decide +kernel
theorem dX11_count_225 : pm_dec mX11_count 225 (.aload_n 0, 1) 226 := ⟨dq_42 (d_b dk_X11_count_225 0 rfl), rfl⟩
theorem dX11_count_226 : pm_dec mX11_count 226 (.getfield 12, 3) 229 := ⟨dq_180 (d_b dk_X11_count_225 1 rfl) (d_b dk_X11_count_225 2 rfl) (d_b dk_X11_count_225 3 rfl) rfl, rfl⟩
theorem dX11_count_229 : pm_dec mX11_count 229 (.getfield 128, 3) 232 := ⟨dq_180 (d_b dk_X11_count_225 4 rfl) (d_b dk_X11_count_225 5 rfl) (d_b dk_X11_count_225 6 rfl) rfl, rfl⟩
theorem dX11_count_232 : pm_dec mX11_count 232 (.bipush 7, 2) 234 := ⟨dq_16 (d_b dk_X11_count_225 7 rfl) (d_b dk_X11_count_225 8 rfl) (by decide), rfl⟩
theorem dX11_count_234 : pm_dec mX11_count 234 (.invokevirtual 398, 3) 237 := ⟨dq_182 (d_b dk_X11_count_225 9 rfl) (d_b dk_X11_count_225 10 rfl) (d_b dk_X11_count_225 11 rfl) rfl, rfl⟩
theorem dX11_count_237 : pm_dec mX11_count 237 (.ireturn, 1) 238 := ⟨dq_172 (d_b dk_X11_count_225 12 rfl), rfl⟩
theorem dX11_count_238 : pm_dec mX11_count 238 (.aload_n 0, 1) 239 := ⟨dq_42 (d_b dk_X11_count_225 13 rfl), rfl⟩
theorem dX11_count_239 : pm_dec mX11_count 239 (.getfield 39, 3) 242 := ⟨dq_180 (d_b dk_X11_count_225 14 rfl) (d_b dk_X11_count_225 15 rfl) (d_b dk_X11_count_225 16 rfl) rfl, rfl⟩
theorem dX11_count_242 : pm_dec mX11_count 242 (.invokevirtual 401, 3) 245 := ⟨dq_182 (d_b dk_X11_count_225 17 rfl) (d_b dk_X11_count_225 18 rfl) (d_b dk_X11_count_225 19 rfl) rfl, rfl⟩
theorem dX11_count_245 : pm_dec mX11_count 245 (.ireturn, 1) 246 := ⟨dq_172 (d_b dk_X11_count_225 20 rfl), rfl⟩
theorem dX11_count_246 : pm_dec mX11_count 246 (.aload_n 0, 1) 247 := ⟨dq_42 (d_b dk_X11_count_225 21 rfl), rfl⟩
theorem dX11_count_247 : pm_dec mX11_count 247 (.ldc 109, 2) 249 := ⟨dq_18 (d_b dk_X11_count_225 22 rfl) (d_b dk_X11_count_225 23 rfl), rfl⟩
theorem dX11_count_249 : pm_dec mX11_count 249 (.invokevirtual 97, 3) 252 := ⟨dq_182 (d_b dk_X11_count_225 24 rfl) (d_b dk_X11_count_225 25 rfl) (d_b dk_X11_count_225 26 rfl) rfl, rfl⟩
theorem dX11_count_252 : pm_dec mX11_count 252 (.ireturn, 1) 253 := ⟨dq_172 (d_b dk_X11_count_225 27 rfl), rfl⟩
def dt_X11_days_0 : List Nat := [27, 4, 17, 1, 144, 184, 0, 105, 154, 0, 18, 42, 180, 0, 12, 180, 0, 122, 27, 96, 17, 7, 208, 164, 0, 10, 42, 18, 109, 182, 0, 97, 172, 3, 61, 28, 27, 162, 0, 16, 42, 180, 0, 12, 182, 0, 245, 132, 2, 1]
theorem dk_X11_days_0 : (((mX11_days.2.1).data.toList.drop 0).take 50).map UInt8.toNat = dt_X11_days_0 := by decide +kernel
theorem dX11_days_0 : pm_dec mX11_days 0 (.iload_n 1, 1) 1 := ⟨dq_27 (d_b dk_X11_days_0 0 rfl), rfl⟩
theorem dX11_days_1 : pm_dec mX11_days 1 (.iconst 1, 1) 2 := ⟨dq_4 (d_b dk_X11_days_0 1 rfl), rfl⟩
theorem dX11_days_2 : pm_dec mX11_days 2 (.sipush 400, 3) 5 := ⟨dq_17 (d_b dk_X11_days_0 2 rfl) (d_b dk_X11_days_0 3 rfl) (d_b dk_X11_days_0 4 rfl) (by decide), rfl⟩
theorem dX11_days_5 : pm_dec mX11_days 5 (.invokestatic 105, 3) 8 := ⟨dq_184 (d_b dk_X11_days_0 5 rfl) (d_b dk_X11_days_0 6 rfl) (d_b dk_X11_days_0 7 rfl) rfl, rfl⟩
theorem dX11_days_8 : pm_dec mX11_days 8 (.ifCond .ne 18, 3) 11 := ⟨dq_154 (d_b dk_X11_days_0 8 rfl) (d_b dk_X11_days_0 9 rfl) (d_b dk_X11_days_0 10 rfl) (by decide), rfl⟩
theorem dX11_days_11 : pm_dec mX11_days 11 (.aload_n 0, 1) 12 := ⟨dq_42 (d_b dk_X11_days_0 11 rfl), rfl⟩
theorem dX11_days_12 : pm_dec mX11_days 12 (.getfield 12, 3) 15 := ⟨dq_180 (d_b dk_X11_days_0 12 rfl) (d_b dk_X11_days_0 13 rfl) (d_b dk_X11_days_0 14 rfl) rfl, rfl⟩
theorem dX11_days_15 : pm_dec mX11_days 15 (.getfield 122, 3) 18 := ⟨dq_180 (d_b dk_X11_days_0 15 rfl) (d_b dk_X11_days_0 16 rfl) (d_b dk_X11_days_0 17 rfl) rfl, rfl⟩
theorem dX11_days_18 : pm_dec mX11_days 18 (.iload_n 1, 1) 19 := ⟨dq_27 (d_b dk_X11_days_0 18 rfl), rfl⟩
theorem dX11_days_19 : pm_dec mX11_days 19 (.iadd, 1) 20 := ⟨dq_96 (d_b dk_X11_days_0 19 rfl), rfl⟩
theorem dX11_days_20 : pm_dec mX11_days 20 (.sipush 2000, 3) 23 := ⟨dq_17 (d_b dk_X11_days_0 20 rfl) (d_b dk_X11_days_0 21 rfl) (d_b dk_X11_days_0 22 rfl) (by decide), rfl⟩
theorem dX11_days_23 : pm_dec mX11_days 23 (.if_icmp .le 10, 3) 26 := ⟨dq_164 (d_b dk_X11_days_0 23 rfl) (d_b dk_X11_days_0 24 rfl) (d_b dk_X11_days_0 25 rfl) (by decide), rfl⟩
theorem dX11_days_26 : pm_dec mX11_days 26 (.aload_n 0, 1) 27 := ⟨dq_42 (d_b dk_X11_days_0 26 rfl), rfl⟩
theorem dX11_days_27 : pm_dec mX11_days 27 (.ldc 109, 2) 29 := ⟨dq_18 (d_b dk_X11_days_0 27 rfl) (d_b dk_X11_days_0 28 rfl), rfl⟩
theorem dX11_days_29 : pm_dec mX11_days 29 (.invokevirtual 97, 3) 32 := ⟨dq_182 (d_b dk_X11_days_0 29 rfl) (d_b dk_X11_days_0 30 rfl) (d_b dk_X11_days_0 31 rfl) rfl, rfl⟩
theorem dX11_days_32 : pm_dec mX11_days 32 (.ireturn, 1) 33 := ⟨dq_172 (d_b dk_X11_days_0 32 rfl), rfl⟩
theorem dX11_days_33 : pm_dec mX11_days 33 (.iconst 0, 1) 34 := ⟨dq_3 (d_b dk_X11_days_0 33 rfl), rfl⟩
theorem dX11_days_34 : pm_dec mX11_days 34 (.istore_n 2, 1) 35 := ⟨dq_61 (d_b dk_X11_days_0 34 rfl), rfl⟩
theorem dX11_days_35 : pm_dec mX11_days 35 (.iload_n 2, 1) 36 := ⟨dq_28 (d_b dk_X11_days_0 35 rfl), rfl⟩
theorem dX11_days_36 : pm_dec mX11_days 36 (.iload_n 1, 1) 37 := ⟨dq_27 (d_b dk_X11_days_0 36 rfl), rfl⟩
theorem dX11_days_37 : pm_dec mX11_days 37 (.if_icmp .ge 16, 3) 40 := ⟨dq_162 (d_b dk_X11_days_0 37 rfl) (d_b dk_X11_days_0 38 rfl) (d_b dk_X11_days_0 39 rfl) (by decide), rfl⟩
theorem dX11_days_40 : pm_dec mX11_days 40 (.aload_n 0, 1) 41 := ⟨dq_42 (d_b dk_X11_days_0 40 rfl), rfl⟩
theorem dX11_days_41 : pm_dec mX11_days 41 (.getfield 12, 3) 44 := ⟨dq_180 (d_b dk_X11_days_0 41 rfl) (d_b dk_X11_days_0 42 rfl) (d_b dk_X11_days_0 43 rfl) rfl, rfl⟩
theorem dX11_days_44 : pm_dec mX11_days 44 (.invokevirtual 245, 3) 47 := ⟨dq_182 (d_b dk_X11_days_0 44 rfl) (d_b dk_X11_days_0 45 rfl) (d_b dk_X11_days_0 46 rfl) rfl, rfl⟩
theorem dX11_days_47 : pm_dec mX11_days 47 (.iinc 2 1, 3) 50 := ⟨dq_132 (d_b dk_X11_days_0 47 rfl) (d_b dk_X11_days_0 48 rfl) (d_b dk_X11_days_0 49 rfl) (by decide), rfl⟩
def dt_X11_days_50 : List Nat := [167, 255, 241, 42, 180, 0, 12, 180, 0, 122, 172]
theorem dk_X11_days_50 : (((mX11_days.2.1).data.toList.drop 50).take 11).map UInt8.toNat = dt_X11_days_50 := by decide +kernel
theorem dX11_days_50 : pm_dec mX11_days 50 (.goto (-15), 3) 53 := ⟨dq_167 (d_b dk_X11_days_50 0 rfl) (d_b dk_X11_days_50 1 rfl) (d_b dk_X11_days_50 2 rfl) (by decide), rfl⟩
theorem dX11_days_53 : pm_dec mX11_days 53 (.aload_n 0, 1) 54 := ⟨dq_42 (d_b dk_X11_days_50 3 rfl), rfl⟩
theorem dX11_days_54 : pm_dec mX11_days 54 (.getfield 12, 3) 57 := ⟨dq_180 (d_b dk_X11_days_50 4 rfl) (d_b dk_X11_days_50 5 rfl) (d_b dk_X11_days_50 6 rfl) rfl, rfl⟩
theorem dX11_days_57 : pm_dec mX11_days 57 (.getfield 122, 3) 60 := ⟨dq_180 (d_b dk_X11_days_50 7 rfl) (d_b dk_X11_days_50 8 rfl) (d_b dk_X11_days_50 9 rfl) rfl, rfl⟩
theorem dX11_days_60 : pm_dec mX11_days 60 (.ireturn, 1) 61 := ⟨dq_172 (d_b dk_X11_days_50 10 rfl), rfl⟩
def dt_X11_debt_0 : List Nat := [28, 17, 39, 16, 108, 54, 4, 28, 17, 39, 16, 112, 54, 5, 27, 3, 19, 1, 14, 184, 0, 105, 154, 0, 34, 21, 4, 3, 16, 99, 184, 0, 105, 154, 0, 23, 21, 5, 4, 161, 0, 17, 42, 180, 0, 12, 180, 0, 82]
theorem dk_X11_debt_0 : (((mX11_debt.2.1).data.toList.drop 0).take 49).map UInt8.toNat = dt_X11_debt_0 := by decide +kernel
theorem dX11_debt_0 : pm_dec mX11_debt 0 (.iload_n 2, 1) 1 := ⟨dq_28 (d_b dk_X11_debt_0 0 rfl), rfl⟩
theorem dX11_debt_1 : pm_dec mX11_debt 1 (.sipush 10000, 3) 4 := ⟨dq_17 (d_b dk_X11_debt_0 1 rfl) (d_b dk_X11_debt_0 2 rfl) (d_b dk_X11_debt_0 3 rfl) (by decide), rfl⟩
theorem dX11_debt_4 : pm_dec mX11_debt 4 (.idiv, 1) 5 := ⟨dq_108 (d_b dk_X11_debt_0 4 rfl), rfl⟩
theorem dX11_debt_5 : pm_dec mX11_debt 5 (.istore 4, 2) 7 := ⟨dq_54 (d_b dk_X11_debt_0 5 rfl) (d_b dk_X11_debt_0 6 rfl), rfl⟩
theorem dX11_debt_7 : pm_dec mX11_debt 7 (.iload_n 2, 1) 8 := ⟨dq_28 (d_b dk_X11_debt_0 7 rfl), rfl⟩
theorem dX11_debt_8 : pm_dec mX11_debt 8 (.sipush 10000, 3) 11 := ⟨dq_17 (d_b dk_X11_debt_0 8 rfl) (d_b dk_X11_debt_0 9 rfl) (d_b dk_X11_debt_0 10 rfl) (by decide), rfl⟩
theorem dX11_debt_11 : pm_dec mX11_debt 11 (.irem, 1) 12 := ⟨dq_112 (d_b dk_X11_debt_0 11 rfl), rfl⟩
theorem dX11_debt_12 : pm_dec mX11_debt 12 (.istore 5, 2) 14 := ⟨dq_54 (d_b dk_X11_debt_0 12 rfl) (d_b dk_X11_debt_0 13 rfl), rfl⟩
theorem dX11_debt_14 : pm_dec mX11_debt 14 (.iload_n 1, 1) 15 := ⟨dq_27 (d_b dk_X11_debt_0 14 rfl), rfl⟩
theorem dX11_debt_15 : pm_dec mX11_debt 15 (.iconst 0, 1) 16 := ⟨dq_3 (d_b dk_X11_debt_0 15 rfl), rfl⟩
theorem dX11_debt_16 : pm_dec mX11_debt 16 (.ldc_w 270, 3) 19 := ⟨dq_19 (d_b dk_X11_debt_0 16 rfl) (d_b dk_X11_debt_0 17 rfl) (d_b dk_X11_debt_0 18 rfl) rfl, rfl⟩
theorem dX11_debt_19 : pm_dec mX11_debt 19 (.invokestatic 105, 3) 22 := ⟨dq_184 (d_b dk_X11_debt_0 19 rfl) (d_b dk_X11_debt_0 20 rfl) (d_b dk_X11_debt_0 21 rfl) rfl, rfl⟩
theorem dX11_debt_22 : pm_dec mX11_debt 22 (.ifCond .ne 34, 3) 25 := ⟨dq_154 (d_b dk_X11_debt_0 22 rfl) (d_b dk_X11_debt_0 23 rfl) (d_b dk_X11_debt_0 24 rfl) (by decide), rfl⟩
theorem dX11_debt_25 : pm_dec mX11_debt 25 (.iload 4, 2) 27 := ⟨dq_21 (d_b dk_X11_debt_0 25 rfl) (d_b dk_X11_debt_0 26 rfl), rfl⟩
theorem dX11_debt_27 : pm_dec mX11_debt 27 (.iconst 0, 1) 28 := ⟨dq_3 (d_b dk_X11_debt_0 27 rfl), rfl⟩
theorem dX11_debt_28 : pm_dec mX11_debt 28 (.bipush 99, 2) 30 := ⟨dq_16 (d_b dk_X11_debt_0 28 rfl) (d_b dk_X11_debt_0 29 rfl) (by decide), rfl⟩
theorem dX11_debt_30 : pm_dec mX11_debt 30 (.invokestatic 105, 3) 33 := ⟨dq_184 (d_b dk_X11_debt_0 30 rfl) (d_b dk_X11_debt_0 31 rfl) (d_b dk_X11_debt_0 32 rfl) rfl, rfl⟩
theorem dX11_debt_33 : pm_dec mX11_debt 33 (.ifCond .ne 23, 3) 36 := ⟨dq_154 (d_b dk_X11_debt_0 33 rfl) (d_b dk_X11_debt_0 34 rfl) (d_b dk_X11_debt_0 35 rfl) (by decide), rfl⟩
theorem dX11_debt_36 : pm_dec mX11_debt 36 (.iload 5, 2) 38 := ⟨dq_21 (d_b dk_X11_debt_0 36 rfl) (d_b dk_X11_debt_0 37 rfl), rfl⟩
theorem dX11_debt_38 : pm_dec mX11_debt 38 (.iconst 1, 1) 39 := ⟨dq_4 (d_b dk_X11_debt_0 38 rfl), rfl⟩
theorem dX11_debt_39 : pm_dec mX11_debt 39 (.if_icmp .lt 17, 3) 42 := ⟨dq_161 (d_b dk_X11_debt_0 39 rfl) (d_b dk_X11_debt_0 40 rfl) (d_b dk_X11_debt_0 41 rfl) (by decide), rfl⟩
theorem dX11_debt_42 : pm_dec mX11_debt 42 (.aload_n 0, 1) 43 := ⟨dq_42 (d_b dk_X11_debt_0 42 rfl), rfl⟩
theorem dX11_debt_43 : pm_dec mX11_debt 43 (.getfield 12, 3) 46 := ⟨dq_180 (d_b dk_X11_debt_0 43 rfl) (d_b dk_X11_debt_0 44 rfl) (d_b dk_X11_debt_0 45 rfl) rfl, rfl⟩
theorem dX11_debt_46 : pm_dec mX11_debt 46 (.getfield 82, 3) 49 := ⟨dq_180 (d_b dk_X11_debt_0 46 rfl) (d_b dk_X11_debt_0 47 rfl) (d_b dk_X11_debt_0 48 rfl) rfl, rfl⟩
def dt_X11_debt_49 : List Nat := [29, 182, 0, 101, 154, 0, 10, 42, 18, 109, 182, 0, 97, 172, 42, 42, 180, 0, 12, 180, 1, 15, 182, 0, 86, 153, 0, 8, 18, 92, 167, 0, 16, 42, 180, 0, 12, 27, 21, 4, 21, 5, 29, 182, 1, 18, 182, 0, 97]
theorem dk_X11_debt_49 : (((mX11_debt.2.1).data.toList.drop 49).take 49).map UInt8.toNat = dt_X11_debt_49 := by decide +kernel
theorem dX11_debt_49 : pm_dec mX11_debt 49 (.iload_n 3, 1) 50 := ⟨dq_29 (d_b dk_X11_debt_49 0 rfl), rfl⟩
theorem dX11_debt_50 : pm_dec mX11_debt 50 (.invokevirtual 101, 3) 53 := ⟨dq_182 (d_b dk_X11_debt_49 1 rfl) (d_b dk_X11_debt_49 2 rfl) (d_b dk_X11_debt_49 3 rfl) rfl, rfl⟩
theorem dX11_debt_53 : pm_dec mX11_debt 53 (.ifCond .ne 10, 3) 56 := ⟨dq_154 (d_b dk_X11_debt_49 4 rfl) (d_b dk_X11_debt_49 5 rfl) (d_b dk_X11_debt_49 6 rfl) (by decide), rfl⟩
theorem dX11_debt_56 : pm_dec mX11_debt 56 (.aload_n 0, 1) 57 := ⟨dq_42 (d_b dk_X11_debt_49 7 rfl), rfl⟩
theorem dX11_debt_57 : pm_dec mX11_debt 57 (.ldc 109, 2) 59 := ⟨dq_18 (d_b dk_X11_debt_49 8 rfl) (d_b dk_X11_debt_49 9 rfl), rfl⟩
theorem dX11_debt_59 : pm_dec mX11_debt 59 (.invokevirtual 97, 3) 62 := ⟨dq_182 (d_b dk_X11_debt_49 10 rfl) (d_b dk_X11_debt_49 11 rfl) (d_b dk_X11_debt_49 12 rfl) rfl, rfl⟩
theorem dX11_debt_62 : pm_dec mX11_debt 62 (.ireturn, 1) 63 := ⟨dq_172 (d_b dk_X11_debt_49 13 rfl), rfl⟩
theorem dX11_debt_63 : pm_dec mX11_debt 63 (.aload_n 0, 1) 64 := ⟨dq_42 (d_b dk_X11_debt_49 14 rfl), rfl⟩
theorem dX11_debt_64 : pm_dec mX11_debt 64 (.aload_n 0, 1) 65 := ⟨dq_42 (d_b dk_X11_debt_49 15 rfl), rfl⟩
theorem dX11_debt_65 : pm_dec mX11_debt 65 (.getfield 12, 3) 68 := ⟨dq_180 (d_b dk_X11_debt_49 16 rfl) (d_b dk_X11_debt_49 17 rfl) (d_b dk_X11_debt_49 18 rfl) rfl, rfl⟩
theorem dX11_debt_68 : pm_dec mX11_debt 68 (.getfield 271, 3) 71 := ⟨dq_180 (d_b dk_X11_debt_49 19 rfl) (d_b dk_X11_debt_49 20 rfl) (d_b dk_X11_debt_49 21 rfl) rfl, rfl⟩
theorem dX11_debt_71 : pm_dec mX11_debt 71 (.invokevirtual 86, 3) 74 := ⟨dq_182 (d_b dk_X11_debt_49 22 rfl) (d_b dk_X11_debt_49 23 rfl) (d_b dk_X11_debt_49 24 rfl) rfl, rfl⟩
theorem dX11_debt_74 : pm_dec mX11_debt 74 (.ifCond .eq 8, 3) 77 := ⟨dq_153 (d_b dk_X11_debt_49 25 rfl) (d_b dk_X11_debt_49 26 rfl) (d_b dk_X11_debt_49 27 rfl) (by decide), rfl⟩
theorem dX11_debt_77 : pm_dec mX11_debt 77 (.ldc 92, 2) 79 := ⟨dq_18 (d_b dk_X11_debt_49 28 rfl) (d_b dk_X11_debt_49 29 rfl), rfl⟩
theorem dX11_debt_79 : pm_dec mX11_debt 79 (.goto 16, 3) 82 := ⟨dq_167 (d_b dk_X11_debt_49 30 rfl) (d_b dk_X11_debt_49 31 rfl) (d_b dk_X11_debt_49 32 rfl) (by decide), rfl⟩
theorem dX11_debt_82 : pm_dec mX11_debt 82 (.aload_n 0, 1) 83 := ⟨dq_42 (d_b dk_X11_debt_49 33 rfl), rfl⟩
theorem dX11_debt_83 : pm_dec mX11_debt 83 (.getfield 12, 3) 86 := ⟨dq_180 (d_b dk_X11_debt_49 34 rfl) (d_b dk_X11_debt_49 35 rfl) (d_b dk_X11_debt_49 36 rfl) rfl, rfl⟩
theorem dX11_debt_86 : pm_dec mX11_debt 86 (.iload_n 1, 1) 87 := ⟨dq_27 (d_b dk_X11_debt_49 37 rfl), rfl⟩
theorem dX11_debt_87 : pm_dec mX11_debt 87 (.iload 4, 2) 89 := ⟨dq_21 (d_b dk_X11_debt_49 38 rfl) (d_b dk_X11_debt_49 39 rfl), rfl⟩
theorem dX11_debt_89 : pm_dec mX11_debt 89 (.iload 5, 2) 91 := ⟨dq_21 (d_b dk_X11_debt_49 40 rfl) (d_b dk_X11_debt_49 41 rfl), rfl⟩
theorem dX11_debt_91 : pm_dec mX11_debt 91 (.iload_n 3, 1) 92 := ⟨dq_29 (d_b dk_X11_debt_49 42 rfl), rfl⟩
theorem dX11_debt_92 : pm_dec mX11_debt 92 (.invokevirtual 274, 3) 95 := ⟨dq_182 (d_b dk_X11_debt_49 43 rfl) (d_b dk_X11_debt_49 44 rfl) (d_b dk_X11_debt_49 45 rfl) rfl, rfl⟩
theorem dX11_debt_95 : pm_dec mX11_debt 95 (.invokevirtual 97, 3) 98 := ⟨dq_182 (d_b dk_X11_debt_49 46 rfl) (d_b dk_X11_debt_49 47 rfl) (d_b dk_X11_debt_49 48 rfl) rfl, rfl⟩
def dt_X11_debt_98 : List Nat := [172]
theorem dk_X11_debt_98 : (((mX11_debt.2.1).data.toList.drop 98).take 1).map UInt8.toNat = dt_X11_debt_98 := by decide +kernel
theorem dX11_debt_98 : pm_dec mX11_debt 98 (.ireturn, 1) 99 := ⟨dq_172 (d_b dk_X11_debt_98 0 rfl), rfl⟩
def dt_X11_die_0 : List Nat := [42, 180, 0, 12, 180, 0, 128, 27, 182, 0, 101, 154, 0, 10, 42, 18, 109, 182, 0, 97, 172, 42, 180, 0, 12, 27, 182, 0, 135, 154, 0, 10, 42, 18, 138, 182, 0, 97, 172, 42, 180, 0, 30, 27, 182, 0, 139, 42]
theorem dk_X11_die_0 : (((mX11_die.2.1).data.toList.drop 0).take 48).map UInt8.toNat = dt_X11_die_0 := by decide +kernel
theorem dX11_die_0 : pm_dec mX11_die 0 (.aload_n 0, 1) 1 := ⟨dq_42 (d_b dk_X11_die_0 0 rfl), rfl⟩
theorem dX11_die_1 : pm_dec mX11_die 1 (.getfield 12, 3) 4 := ⟨dq_180 (d_b dk_X11_die_0 1 rfl) (d_b dk_X11_die_0 2 rfl) (d_b dk_X11_die_0 3 rfl) rfl, rfl⟩
theorem dX11_die_4 : pm_dec mX11_die 4 (.getfield 128, 3) 7 := ⟨dq_180 (d_b dk_X11_die_0 4 rfl) (d_b dk_X11_die_0 5 rfl) (d_b dk_X11_die_0 6 rfl) rfl, rfl⟩
theorem dX11_die_7 : pm_dec mX11_die 7 (.iload_n 1, 1) 8 := ⟨dq_27 (d_b dk_X11_die_0 7 rfl), rfl⟩
theorem dX11_die_8 : pm_dec mX11_die 8 (.invokevirtual 101, 3) 11 := ⟨dq_182 (d_b dk_X11_die_0 8 rfl) (d_b dk_X11_die_0 9 rfl) (d_b dk_X11_die_0 10 rfl) rfl, rfl⟩
theorem dX11_die_11 : pm_dec mX11_die 11 (.ifCond .ne 10, 3) 14 := ⟨dq_154 (d_b dk_X11_die_0 11 rfl) (d_b dk_X11_die_0 12 rfl) (d_b dk_X11_die_0 13 rfl) (by decide), rfl⟩
theorem dX11_die_14 : pm_dec mX11_die 14 (.aload_n 0, 1) 15 := ⟨dq_42 (d_b dk_X11_die_0 14 rfl), rfl⟩
theorem dX11_die_15 : pm_dec mX11_die 15 (.ldc 109, 2) 17 := ⟨dq_18 (d_b dk_X11_die_0 15 rfl) (d_b dk_X11_die_0 16 rfl), rfl⟩
theorem dX11_die_17 : pm_dec mX11_die 17 (.invokevirtual 97, 3) 20 := ⟨dq_182 (d_b dk_X11_die_0 17 rfl) (d_b dk_X11_die_0 18 rfl) (d_b dk_X11_die_0 19 rfl) rfl, rfl⟩
theorem dX11_die_20 : pm_dec mX11_die 20 (.ireturn, 1) 21 := ⟨dq_172 (d_b dk_X11_die_0 20 rfl), rfl⟩
theorem dX11_die_21 : pm_dec mX11_die 21 (.aload_n 0, 1) 22 := ⟨dq_42 (d_b dk_X11_die_0 21 rfl), rfl⟩
theorem dX11_die_22 : pm_dec mX11_die 22 (.getfield 12, 3) 25 := ⟨dq_180 (d_b dk_X11_die_0 22 rfl) (d_b dk_X11_die_0 23 rfl) (d_b dk_X11_die_0 24 rfl) rfl, rfl⟩
theorem dX11_die_25 : pm_dec mX11_die 25 (.iload_n 1, 1) 26 := ⟨dq_27 (d_b dk_X11_die_0 25 rfl), rfl⟩
theorem dX11_die_26 : pm_dec mX11_die 26 (.invokevirtual 135, 3) 29 := ⟨dq_182 (d_b dk_X11_die_0 26 rfl) (d_b dk_X11_die_0 27 rfl) (d_b dk_X11_die_0 28 rfl) rfl, rfl⟩
theorem dX11_die_29 : pm_dec mX11_die 29 (.ifCond .ne 10, 3) 32 := ⟨dq_154 (d_b dk_X11_die_0 29 rfl) (d_b dk_X11_die_0 30 rfl) (d_b dk_X11_die_0 31 rfl) (by decide), rfl⟩
theorem dX11_die_32 : pm_dec mX11_die 32 (.aload_n 0, 1) 33 := ⟨dq_42 (d_b dk_X11_die_0 32 rfl), rfl⟩
theorem dX11_die_33 : pm_dec mX11_die 33 (.ldc 138, 2) 35 := ⟨dq_18 (d_b dk_X11_die_0 33 rfl) (d_b dk_X11_die_0 34 rfl), rfl⟩
theorem dX11_die_35 : pm_dec mX11_die 35 (.invokevirtual 97, 3) 38 := ⟨dq_182 (d_b dk_X11_die_0 35 rfl) (d_b dk_X11_die_0 36 rfl) (d_b dk_X11_die_0 37 rfl) rfl, rfl⟩
theorem dX11_die_38 : pm_dec mX11_die 38 (.ireturn, 1) 39 := ⟨dq_172 (d_b dk_X11_die_0 38 rfl), rfl⟩
theorem dX11_die_39 : pm_dec mX11_die 39 (.aload_n 0, 1) 40 := ⟨dq_42 (d_b dk_X11_die_0 39 rfl), rfl⟩
theorem dX11_die_40 : pm_dec mX11_die 40 (.getfield 30, 3) 43 := ⟨dq_180 (d_b dk_X11_die_0 40 rfl) (d_b dk_X11_die_0 41 rfl) (d_b dk_X11_die_0 42 rfl) rfl, rfl⟩
theorem dX11_die_43 : pm_dec mX11_die 43 (.iload_n 1, 1) 44 := ⟨dq_27 (d_b dk_X11_die_0 43 rfl), rfl⟩
theorem dX11_die_44 : pm_dec mX11_die 44 (.invokevirtual 139, 3) 47 := ⟨dq_182 (d_b dk_X11_die_0 44 rfl) (d_b dk_X11_die_0 45 rfl) (d_b dk_X11_die_0 46 rfl) rfl, rfl⟩
theorem dX11_die_47 : pm_dec mX11_die 47 (.aload_n 0, 1) 48 := ⟨dq_42 (d_b dk_X11_die_0 47 rfl), rfl⟩
def dt_X11_die_48 : List Nat := [42, 180, 0, 12, 27, 182, 0, 143, 182, 0, 97, 172]
theorem dk_X11_die_48 : (((mX11_die.2.1).data.toList.drop 48).take 12).map UInt8.toNat = dt_X11_die_48 := by decide +kernel
theorem dX11_die_48 : pm_dec mX11_die 48 (.aload_n 0, 1) 49 := ⟨dq_42 (d_b dk_X11_die_48 0 rfl), rfl⟩
theorem dX11_die_49 : pm_dec mX11_die 49 (.getfield 12, 3) 52 := ⟨dq_180 (d_b dk_X11_die_48 1 rfl) (d_b dk_X11_die_48 2 rfl) (d_b dk_X11_die_48 3 rfl) rfl, rfl⟩
theorem dX11_die_52 : pm_dec mX11_die 52 (.iload_n 1, 1) 53 := ⟨dq_27 (d_b dk_X11_die_48 4 rfl), rfl⟩
theorem dX11_die_53 : pm_dec mX11_die 53 (.invokevirtual 143, 3) 56 := ⟨dq_182 (d_b dk_X11_die_48 5 rfl) (d_b dk_X11_die_48 6 rfl) (d_b dk_X11_die_48 7 rfl) rfl, rfl⟩
theorem dX11_die_56 : pm_dec mX11_die 56 (.invokevirtual 97, 3) 59 := ⟨dq_182 (d_b dk_X11_die_48 8 rfl) (d_b dk_X11_die_48 9 rfl) (d_b dk_X11_die_48 10 rfl) rfl, rfl⟩
theorem dX11_die_59 : pm_dec mX11_die 59 (.ireturn, 1) 60 := ⟨dq_172 (d_b dk_X11_die_48 11 rfl), rfl⟩
def dt_X11_draw_0 : List Nat := [42, 180, 0, 12, 180, 0, 128, 27, 182, 0, 101, 153, 0, 23, 28, 3, 7, 184, 0, 105, 154, 0, 14, 29, 3, 17, 3, 231, 184, 0, 105, 153, 0, 10, 42, 18, 109, 182, 0, 97, 172, 42, 180, 0, 12, 27, 182, 0, 146]
theorem dk_X11_draw_0 : (((mX11_draw.2.1).data.toList.drop 0).take 49).map UInt8.toNat = dt_X11_draw_0 := by decide +kernel
theorem dX11_draw_0 : pm_dec mX11_draw 0 (.aload_n 0, 1) 1 := ⟨dq_42 (d_b dk_X11_draw_0 0 rfl), rfl⟩
theorem dX11_draw_1 : pm_dec mX11_draw 1 (.getfield 12, 3) 4 := ⟨dq_180 (d_b dk_X11_draw_0 1 rfl) (d_b dk_X11_draw_0 2 rfl) (d_b dk_X11_draw_0 3 rfl) rfl, rfl⟩
theorem dX11_draw_4 : pm_dec mX11_draw 4 (.getfield 128, 3) 7 := ⟨dq_180 (d_b dk_X11_draw_0 4 rfl) (d_b dk_X11_draw_0 5 rfl) (d_b dk_X11_draw_0 6 rfl) rfl, rfl⟩
theorem dX11_draw_7 : pm_dec mX11_draw 7 (.iload_n 1, 1) 8 := ⟨dq_27 (d_b dk_X11_draw_0 7 rfl), rfl⟩
theorem dX11_draw_8 : pm_dec mX11_draw 8 (.invokevirtual 101, 3) 11 := ⟨dq_182 (d_b dk_X11_draw_0 8 rfl) (d_b dk_X11_draw_0 9 rfl) (d_b dk_X11_draw_0 10 rfl) rfl, rfl⟩
theorem dX11_draw_11 : pm_dec mX11_draw 11 (.ifCond .eq 23, 3) 14 := ⟨dq_153 (d_b dk_X11_draw_0 11 rfl) (d_b dk_X11_draw_0 12 rfl) (d_b dk_X11_draw_0 13 rfl) (by decide), rfl⟩
theorem dX11_draw_14 : pm_dec mX11_draw 14 (.iload_n 2, 1) 15 := ⟨dq_28 (d_b dk_X11_draw_0 14 rfl), rfl⟩
theorem dX11_draw_15 : pm_dec mX11_draw 15 (.iconst 0, 1) 16 := ⟨dq_3 (d_b dk_X11_draw_0 15 rfl), rfl⟩
theorem dX11_draw_16 : pm_dec mX11_draw 16 (.iconst 4, 1) 17 := ⟨dq_7 (d_b dk_X11_draw_0 16 rfl), rfl⟩
theorem dX11_draw_17 : pm_dec mX11_draw 17 (.invokestatic 105, 3) 20 := ⟨dq_184 (d_b dk_X11_draw_0 17 rfl) (d_b dk_X11_draw_0 18 rfl) (d_b dk_X11_draw_0 19 rfl) rfl, rfl⟩
theorem dX11_draw_20 : pm_dec mX11_draw 20 (.ifCond .ne 14, 3) 23 := ⟨dq_154 (d_b dk_X11_draw_0 20 rfl) (d_b dk_X11_draw_0 21 rfl) (d_b dk_X11_draw_0 22 rfl) (by decide), rfl⟩
theorem dX11_draw_23 : pm_dec mX11_draw 23 (.iload_n 3, 1) 24 := ⟨dq_29 (d_b dk_X11_draw_0 23 rfl), rfl⟩
theorem dX11_draw_24 : pm_dec mX11_draw 24 (.iconst 0, 1) 25 := ⟨dq_3 (d_b dk_X11_draw_0 24 rfl), rfl⟩
theorem dX11_draw_25 : pm_dec mX11_draw 25 (.sipush 999, 3) 28 := ⟨dq_17 (d_b dk_X11_draw_0 25 rfl) (d_b dk_X11_draw_0 26 rfl) (d_b dk_X11_draw_0 27 rfl) (by decide), rfl⟩
theorem dX11_draw_28 : pm_dec mX11_draw 28 (.invokestatic 105, 3) 31 := ⟨dq_184 (d_b dk_X11_draw_0 28 rfl) (d_b dk_X11_draw_0 29 rfl) (d_b dk_X11_draw_0 30 rfl) rfl, rfl⟩
theorem dX11_draw_31 : pm_dec mX11_draw 31 (.ifCond .eq 10, 3) 34 := ⟨dq_153 (d_b dk_X11_draw_0 31 rfl) (d_b dk_X11_draw_0 32 rfl) (d_b dk_X11_draw_0 33 rfl) (by decide), rfl⟩
theorem dX11_draw_34 : pm_dec mX11_draw 34 (.aload_n 0, 1) 35 := ⟨dq_42 (d_b dk_X11_draw_0 34 rfl), rfl⟩
theorem dX11_draw_35 : pm_dec mX11_draw 35 (.ldc 109, 2) 37 := ⟨dq_18 (d_b dk_X11_draw_0 35 rfl) (d_b dk_X11_draw_0 36 rfl), rfl⟩
theorem dX11_draw_37 : pm_dec mX11_draw 37 (.invokevirtual 97, 3) 40 := ⟨dq_182 (d_b dk_X11_draw_0 37 rfl) (d_b dk_X11_draw_0 38 rfl) (d_b dk_X11_draw_0 39 rfl) rfl, rfl⟩
theorem dX11_draw_40 : pm_dec mX11_draw 40 (.ireturn, 1) 41 := ⟨dq_172 (d_b dk_X11_draw_0 40 rfl), rfl⟩
theorem dX11_draw_41 : pm_dec mX11_draw 41 (.aload_n 0, 1) 42 := ⟨dq_42 (d_b dk_X11_draw_0 41 rfl), rfl⟩
theorem dX11_draw_42 : pm_dec mX11_draw 42 (.getfield 12, 3) 45 := ⟨dq_180 (d_b dk_X11_draw_0 42 rfl) (d_b dk_X11_draw_0 43 rfl) (d_b dk_X11_draw_0 44 rfl) rfl, rfl⟩
theorem dX11_draw_45 : pm_dec mX11_draw 45 (.iload_n 1, 1) 46 := ⟨dq_27 (d_b dk_X11_draw_0 45 rfl), rfl⟩
theorem dX11_draw_46 : pm_dec mX11_draw 46 (.invokevirtual 146, 3) 49 := ⟨dq_182 (d_b dk_X11_draw_0 46 rfl) (d_b dk_X11_draw_0 47 rfl) (d_b dk_X11_draw_0 48 rfl) rfl, rfl⟩
def dt_X11_draw_49 : List Nat := [154, 0, 10, 42, 18, 138, 182, 0, 97, 172, 42, 42, 180, 0, 12, 180, 0, 224, 182, 0, 86, 153, 0, 8, 18, 92, 167, 0, 13, 42, 180, 0, 39, 27, 28, 29, 182, 0, 230, 182, 0, 97, 172]
theorem dk_X11_draw_49 : (((mX11_draw.2.1).data.toList.drop 49).take 43).map UInt8.toNat = dt_X11_draw_49 := by decide +kernel
theorem dX11_draw_49 : pm_dec mX11_draw 49 (.ifCond .ne 10, 3) 52 := ⟨dq_154 (d_b dk_X11_draw_49 0 rfl) (d_b dk_X11_draw_49 1 rfl) (d_b dk_X11_draw_49 2 rfl) (by decide), rfl⟩
theorem dX11_draw_52 : pm_dec mX11_draw 52 (.aload_n 0, 1) 53 := ⟨dq_42 (d_b dk_X11_draw_49 3 rfl), rfl⟩
theorem dX11_draw_53 : pm_dec mX11_draw 53 (.ldc 138, 2) 55 := ⟨dq_18 (d_b dk_X11_draw_49 4 rfl) (d_b dk_X11_draw_49 5 rfl), rfl⟩
theorem dX11_draw_55 : pm_dec mX11_draw 55 (.invokevirtual 97, 3) 58 := ⟨dq_182 (d_b dk_X11_draw_49 6 rfl) (d_b dk_X11_draw_49 7 rfl) (d_b dk_X11_draw_49 8 rfl) rfl, rfl⟩
theorem dX11_draw_58 : pm_dec mX11_draw 58 (.ireturn, 1) 59 := ⟨dq_172 (d_b dk_X11_draw_49 9 rfl), rfl⟩
theorem dX11_draw_59 : pm_dec mX11_draw 59 (.aload_n 0, 1) 60 := ⟨dq_42 (d_b dk_X11_draw_49 10 rfl), rfl⟩
theorem dX11_draw_60 : pm_dec mX11_draw 60 (.aload_n 0, 1) 61 := ⟨dq_42 (d_b dk_X11_draw_49 11 rfl), rfl⟩
theorem dX11_draw_61 : pm_dec mX11_draw 61 (.getfield 12, 3) 64 := ⟨dq_180 (d_b dk_X11_draw_49 12 rfl) (d_b dk_X11_draw_49 13 rfl) (d_b dk_X11_draw_49 14 rfl) rfl, rfl⟩
theorem dX11_draw_64 : pm_dec mX11_draw 64 (.getfield 224, 3) 67 := ⟨dq_180 (d_b dk_X11_draw_49 15 rfl) (d_b dk_X11_draw_49 16 rfl) (d_b dk_X11_draw_49 17 rfl) rfl, rfl⟩
theorem dX11_draw_67 : pm_dec mX11_draw 67 (.invokevirtual 86, 3) 70 := ⟨dq_182 (d_b dk_X11_draw_49 18 rfl) (d_b dk_X11_draw_49 19 rfl) (d_b dk_X11_draw_49 20 rfl) rfl, rfl⟩
theorem dX11_draw_70 : pm_dec mX11_draw 70 (.ifCond .eq 8, 3) 73 := ⟨dq_153 (d_b dk_X11_draw_49 21 rfl) (d_b dk_X11_draw_49 22 rfl) (d_b dk_X11_draw_49 23 rfl) (by decide), rfl⟩
theorem dX11_draw_73 : pm_dec mX11_draw 73 (.ldc 92, 2) 75 := ⟨dq_18 (d_b dk_X11_draw_49 24 rfl) (d_b dk_X11_draw_49 25 rfl), rfl⟩
theorem dX11_draw_75 : pm_dec mX11_draw 75 (.goto 13, 3) 78 := ⟨dq_167 (d_b dk_X11_draw_49 26 rfl) (d_b dk_X11_draw_49 27 rfl) (d_b dk_X11_draw_49 28 rfl) (by decide), rfl⟩
theorem dX11_draw_78 : pm_dec mX11_draw 78 (.aload_n 0, 1) 79 := ⟨dq_42 (d_b dk_X11_draw_49 29 rfl), rfl⟩
theorem dX11_draw_79 : pm_dec mX11_draw 79 (.getfield 39, 3) 82 := ⟨dq_180 (d_b dk_X11_draw_49 30 rfl) (d_b dk_X11_draw_49 31 rfl) (d_b dk_X11_draw_49 32 rfl) rfl, rfl⟩
theorem dX11_draw_82 : pm_dec mX11_draw 82 (.iload_n 1, 1) 83 := ⟨dq_27 (d_b dk_X11_draw_49 33 rfl), rfl⟩
theorem dX11_draw_83 : pm_dec mX11_draw 83 (.iload_n 2, 1) 84 := ⟨dq_28 (d_b dk_X11_draw_49 34 rfl), rfl⟩
theorem dX11_draw_84 : pm_dec mX11_draw 84 (.iload_n 3, 1) 85 := ⟨dq_29 (d_b dk_X11_draw_49 35 rfl), rfl⟩
theorem dX11_draw_85 : pm_dec mX11_draw 85 (.invokevirtual 230, 3) 88 := ⟨dq_182 (d_b dk_X11_draw_49 36 rfl) (d_b dk_X11_draw_49 37 rfl) (d_b dk_X11_draw_49 38 rfl) rfl, rfl⟩
theorem dX11_draw_88 : pm_dec mX11_draw 88 (.invokevirtual 97, 3) 91 := ⟨dq_182 (d_b dk_X11_draw_49 39 rfl) (d_b dk_X11_draw_49 40 rfl) (d_b dk_X11_draw_49 41 rfl) rfl, rfl⟩
theorem dX11_draw_91 : pm_dec mX11_draw 91 (.ireturn, 1) 92 := ⟨dq_172 (d_b dk_X11_draw_49 42 rfl), rfl⟩
def dt_X11_far_0 : List Nat := [42, 180, 0, 12, 180, 0, 82, 27, 182, 0, 101, 153, 0, 17, 42, 180, 0, 12, 180, 0, 82, 28, 182, 0, 101, 154, 0, 10, 42, 18, 109, 182, 0, 97, 172, 42, 42, 180, 0, 12]
theorem dk_X11_far_0 : (((mX11_far.2.1).data.toList.drop 0).take 40).map UInt8.toNat = dt_X11_far_0 := by decide +kernel
theorem dX11_far_0 : pm_dec mX11_far 0 (.aload_n 0, 1) 1 := ⟨dq_42 (d_b dk_X11_far_0 0 rfl), rfl⟩
theorem dX11_far_1 : pm_dec mX11_far 1 (.getfield 12, 3) 4 := ⟨dq_180 (d_b dk_X11_far_0 1 rfl) (d_b dk_X11_far_0 2 rfl) (d_b dk_X11_far_0 3 rfl) rfl, rfl⟩
theorem dX11_far_4 : pm_dec mX11_far 4 (.getfield 82, 3) 7 := ⟨dq_180 (d_b dk_X11_far_0 4 rfl) (d_b dk_X11_far_0 5 rfl) (d_b dk_X11_far_0 6 rfl) rfl, rfl⟩
theorem dX11_far_7 : pm_dec mX11_far 7 (.iload_n 1, 1) 8 := ⟨dq_27 (d_b dk_X11_far_0 7 rfl), rfl⟩
theorem dX11_far_8 : pm_dec mX11_far 8 (.invokevirtual 101, 3) 11 := ⟨dq_182 (d_b dk_X11_far_0 8 rfl) (d_b dk_X11_far_0 9 rfl) (d_b dk_X11_far_0 10 rfl) rfl, rfl⟩
theorem dX11_far_11 : pm_dec mX11_far 11 (.ifCond .eq 17, 3) 14 := ⟨dq_153 (d_b dk_X11_far_0 11 rfl) (d_b dk_X11_far_0 12 rfl) (d_b dk_X11_far_0 13 rfl) (by decide), rfl⟩
theorem dX11_far_14 : pm_dec mX11_far 14 (.aload_n 0, 1) 15 := ⟨dq_42 (d_b dk_X11_far_0 14 rfl), rfl⟩
theorem dX11_far_15 : pm_dec mX11_far 15 (.getfield 12, 3) 18 := ⟨dq_180 (d_b dk_X11_far_0 15 rfl) (d_b dk_X11_far_0 16 rfl) (d_b dk_X11_far_0 17 rfl) rfl, rfl⟩
theorem dX11_far_18 : pm_dec mX11_far 18 (.getfield 82, 3) 21 := ⟨dq_180 (d_b dk_X11_far_0 18 rfl) (d_b dk_X11_far_0 19 rfl) (d_b dk_X11_far_0 20 rfl) rfl, rfl⟩
theorem dX11_far_21 : pm_dec mX11_far 21 (.iload_n 2, 1) 22 := ⟨dq_28 (d_b dk_X11_far_0 21 rfl), rfl⟩
theorem dX11_far_22 : pm_dec mX11_far 22 (.invokevirtual 101, 3) 25 := ⟨dq_182 (d_b dk_X11_far_0 22 rfl) (d_b dk_X11_far_0 23 rfl) (d_b dk_X11_far_0 24 rfl) rfl, rfl⟩
theorem dX11_far_25 : pm_dec mX11_far 25 (.ifCond .ne 10, 3) 28 := ⟨dq_154 (d_b dk_X11_far_0 25 rfl) (d_b dk_X11_far_0 26 rfl) (d_b dk_X11_far_0 27 rfl) (by decide), rfl⟩
theorem dX11_far_28 : pm_dec mX11_far 28 (.aload_n 0, 1) 29 := ⟨dq_42 (d_b dk_X11_far_0 28 rfl), rfl⟩
theorem dX11_far_29 : pm_dec mX11_far 29 (.ldc 109, 2) 31 := ⟨dq_18 (d_b dk_X11_far_0 29 rfl) (d_b dk_X11_far_0 30 rfl), rfl⟩
theorem dX11_far_31 : pm_dec mX11_far 31 (.invokevirtual 97, 3) 34 := ⟨dq_182 (d_b dk_X11_far_0 31 rfl) (d_b dk_X11_far_0 32 rfl) (d_b dk_X11_far_0 33 rfl) rfl, rfl⟩
theorem dX11_far_34 : pm_dec mX11_far 34 (.ireturn, 1) 35 := ⟨dq_172 (d_b dk_X11_far_0 34 rfl), rfl⟩
theorem dX11_far_35 : pm_dec mX11_far 35 (.aload_n 0, 1) 36 := ⟨dq_42 (d_b dk_X11_far_0 35 rfl), rfl⟩
theorem dX11_far_36 : pm_dec mX11_far 36 (.aload_n 0, 1) 37 := ⟨dq_42 (d_b dk_X11_far_0 36 rfl), rfl⟩
theorem dX11_far_37 : pm_dec mX11_far 37 (.getfield 12, 3) 40 := ⟨dq_180 (d_b dk_X11_far_0 37 rfl) (d_b dk_X11_far_0 38 rfl) (d_b dk_X11_far_0 39 rfl) rfl, rfl⟩
theorem ctJ6_265 (M : pm_M) (h : M.1.cls = RJ6) : Cond.constant M.1.cls 265 (1431655765) ∈ pm_tbl := by rw [h]; exact (pm_it4 101 rfl (by decide +kernel))
theorem ctJ6_266 (M : pm_M) (h : M.1.cls = RJ6) : Cond.constant M.1.cls 266 (858993459) ∈ pm_tbl := by rw [h]; exact (pm_it4 102 rfl (by decide +kernel))
theorem ctJ6_267 (M : pm_M) (h : M.1.cls = RJ6) : Cond.constant M.1.cls 267 (252645135) ∈ pm_tbl := by rw [h]; exact (pm_it4 103 rfl (by decide +kernel))
theorem flX0_25 (M : pm_M) (h : M.1.cls = RX0) : pm_fl M 25 0 2 := ⟨RX0, TX0, 9, rfl, by decide, Or.inl (by rw [h]; exact (pm_it1 207 rfl (by decide +kernel)))⟩
theorem lkX0_47 (M : pm_M) (h : M.1.cls = RX0) : pm_lk M 47 mX9_used := Or.inl (by rw [h]; exact (pm_it3 15 rfl (by decide +kernel)))
theorem pd___I : (parseMethodDescriptor "()I").map (fun d => d.parameters.length) = some 0 := by decide +kernel
theorem okV_X9_used : pm_mokV mX9_used 0 := ⟨⟨⟨(pm_it2 201 rfl (by decide +kernel)), (pm_it1 3 rfl (by decide +kernel))⟩, ⟨cn_X9.1, cn_X9.2, pd___I⟩, by decide⟩, (pm_it2 199 rfl (by decide +kernel)), (pm_it2 200 rfl (by decide +kernel))⟩
theorem lkX0_51 (M : pm_M) (h : M.1.cls = RX0) : pm_lk M 51 mX0_stands := Or.inl (by rw [h]; exact (pm_it3 16 rfl (by decide +kernel)))
theorem pd__I_Z : (parseMethodDescriptor "(I)Z").map (fun d => d.parameters.length) = some 1 := by decide +kernel
theorem okV_X0_stands : pm_mokV mX0_stands 1 := ⟨⟨⟨(pm_it3 19 rfl (by decide +kernel)), (pm_it1 8 rfl (by decide +kernel))⟩, ⟨cn_X0.1, cn_X0.2, pd__I_Z⟩, by decide⟩, (pm_it3 17 rfl (by decide +kernel)), (pm_it3 18 rfl (by decide +kernel))⟩
theorem lkX0_39 (M : pm_M) (h : M.1.cls = RX0) : pm_lk M 39 mX9_get := Or.inl (by rw [h]; exact (pm_it3 20 rfl (by decide +kernel)))
theorem lkX0_55 (M : pm_M) (h : M.1.cls = RX0) : pm_lk M 55 mX9_set := Or.inl (by rw [h]; exact (pm_it3 10 rfl (by decide +kernel)))
theorem lkX0_59 (M : pm_M) (h : M.1.cls = RX0) : pm_lk M 59 mX9_append := Or.inl (by rw [h]; exact (pm_it5 76 rfl (by decide +kernel)))
theorem pd__I_I : (parseMethodDescriptor "(I)I").map (fun d => d.parameters.length) = some 1 := by decide +kernel
theorem okV_X9_append : pm_mokV mX9_append 1 := ⟨⟨⟨(pm_it2 173 rfl (by decide +kernel)), (pm_it1 3 rfl (by decide +kernel))⟩, ⟨cn_X9.1, cn_X9.2, pd__I_I⟩, by decide⟩, (pm_it2 171 rfl (by decide +kernel)), (pm_it2 172 rfl (by decide +kernel))⟩
theorem lkX0_66 (M : pm_M) (h : M.1.cls = RX0) : pm_lk M 66 mX0_endAllOf := Or.inl (by rw [h]; exact (pm_it3 11 rfl (by decide +kernel)))
theorem okV_X0_endAllOf : pm_mokV mX0_endAllOf 2 := ⟨⟨⟨(pm_it3 14 rfl (by decide +kernel)), (pm_it1 8 rfl (by decide +kernel))⟩, ⟨cn_X0.1, cn_X0.2, pd__II_I⟩, by decide⟩, (pm_it3 13 rfl (by decide +kernel)), (pm_in 3 (by decide +kernel) (by decide +kernel))⟩
theorem flX0_115 (M : pm_M) (h : M.1.cls = RX0) : pm_fl M 115 0 7 := ⟨RX0, TX0, 9, rfl, by decide, Or.inl (by rw [h]; exact (pm_it1 214 rfl (by decide +kernel)))⟩
theorem lkX0_125 (M : pm_M) (h : M.1.cls = RX0) : pm_lk M 125 mX0_isCarriedWith := Or.inl (by rw [h]; exact (pm_it5 137 rfl (by decide +kernel)))
theorem okV_X0_isCarriedWith : pm_mokV mX0_isCarriedWith 1 := ⟨⟨⟨(pm_it5 118 rfl (by decide +kernel)), (pm_it1 8 rfl (by decide +kernel))⟩, ⟨cn_X0.1, cn_X0.2, pd__I_Z⟩, by decide⟩, (pm_it5 116 rfl (by decide +kernel)), (pm_it5 117 rfl (by decide +kernel))⟩
theorem lkX0_128 (M : pm_M) (h : M.1.cls = RX0) : pm_lk M 128 mX0_keepIfBetter := Or.inl (by rw [h]; exact (pm_it5 138 rfl (by decide +kernel)))
theorem okV_X0_keepIfBetter : pm_mokV mX0_keepIfBetter 2 := ⟨⟨⟨(pm_it5 141 rfl (by decide +kernel)), (pm_it1 8 rfl (by decide +kernel))⟩, ⟨cn_X0.1, cn_X0.2, pd__II_V⟩, by decide⟩, (pm_it5 140 rfl (by decide +kernel)), (pm_in 33 (by decide +kernel) (by decide +kernel))⟩
theorem flX0_36 (M : pm_M) (h : M.1.cls = RX0) : pm_fl M 36 0 4 := ⟨RX0, TX0, 9, rfl, by decide, Or.inl (by rw [h]; exact (pm_it1 209 rfl (by decide +kernel)))⟩
theorem lkX0_131 (M : pm_M) (h : M.1.cls = RX0) : pm_lk M 131 mX9_has := Or.inl (by rw [h]; exact (pm_it5 143 rfl (by decide +kernel)))
theorem okV_X9_has : pm_mokV mX9_has 1 := ⟨⟨⟨(pm_it2 189 rfl (by decide +kernel)), (pm_it1 3 rfl (by decide +kernel))⟩, ⟨cn_X9.1, cn_X9.2, pd__I_Z⟩, by decide⟩, (pm_it2 187 rfl (by decide +kernel)), (pm_it2 188 rfl (by decide +kernel))⟩
theorem lkX0_121 (M : pm_M) (h : M.1.cls = RX0) : pm_lk M 121 mX0_choose := Or.inl (by rw [h]; exact (pm_it5 133 rfl (by decide +kernel)))
theorem pd__IIII_V : (parseMethodDescriptor "(IIII)V").map (fun d => d.parameters.length) = some 4 := by decide +kernel
theorem okV_X0_choose : pm_mokV mX0_choose 4 := ⟨⟨⟨(pm_it5 136 rfl (by decide +kernel)), (pm_it1 8 rfl (by decide +kernel))⟩, ⟨cn_X0.1, cn_X0.2, pd__IIII_V⟩, by decide⟩, (pm_it5 135 rfl (by decide +kernel)), (pm_in 32 (by decide +kernel) (by decide +kernel))⟩
theorem flX0_9 (M : pm_M) (h : M.1.cls = RX0) : pm_fl M 9 0 0 := ⟨RX0, TX0, 9, rfl, by decide, Or.inl (by rw [h]; exact (pm_it1 205 rfl (by decide +kernel)))⟩
theorem flX0_63 (M : pm_M) (h : M.1.cls = RX0) : pm_fl M 63 7 2 := ⟨RX7, TX7, 15, rfl, by decide, Or.inr ⟨"SealCouncil", by rw [h]; exact (pm_in1 82 rfl (by decide +kernel))⟩⟩
theorem flX0_33 (M : pm_M) (h : M.1.cls = RX0) : pm_fl M 33 0 3 := ⟨RX0, TX0, 9, rfl, by decide, Or.inl (by rw [h]; exact (pm_it1 208 rfl (by decide +kernel)))⟩
theorem lkX0_110 (M : pm_M) (h : M.1.cls = RX0) : pm_lk M 110 mX0_weigh := Or.inl (by rw [h]; exact (pm_it5 131 rfl (by decide +kernel)))
theorem okV_X0_weigh : pm_mokV mX0_weigh 1 := ⟨⟨⟨(pm_it5 93 rfl (by decide +kernel)), (pm_it1 8 rfl (by decide +kernel))⟩, ⟨cn_X0.1, cn_X0.2, pd__I_V⟩, by decide⟩, (pm_it5 91 rfl (by decide +kernel)), (pm_it5 92 rfl (by decide +kernel))⟩
theorem ctX0_114 (M : pm_M) (h : M.1.cls = RX0) : Cond.constant M.1.cls 114 (1000000) ∈ pm_tbl := by rw [h]; exact (pm_it5 132 rfl (by decide +kernel))
theorem fwX0_115 (M : pm_M) (h : M.1.cls = RX0) : pm_flw M 115 0 7 .int := ⟨RX0, TX0, 9, rfl, by decide, by rw [h]; exact (pm_it1 214 rfl (by decide +kernel)), rfl, by decide +kernel⟩
theorem fwX0_118 (M : pm_M) (h : M.1.cls = RX0) : pm_flw M 118 0 8 .int := ⟨RX0, TX0, 9, rfl, by decide, by rw [h]; exact (pm_it1 216 rfl (by decide +kernel)), rfl, by decide +kernel⟩
theorem flX0_69 (M : pm_M) (h : M.1.cls = RX0) : pm_fl M 69 0 5 := ⟨RX0, TX0, 9, rfl, by decide, Or.inl (by rw [h]; exact (pm_it1 210 rfl (by decide +kernel)))⟩
theorem flX0_72 (M : pm_M) (h : M.1.cls = RX0) : pm_fl M 72 0 6 := ⟨RX0, TX0, 9, rfl, by decide, Or.inl (by rw [h]; exact (pm_it1 212 rfl (by decide +kernel)))⟩
theorem lkX0_134 (M : pm_M) (h : M.1.cls = RX0) : pm_lk M 134 mJ6_bitCount_0f7a4 := Or.inl (by rw [h]; exact (pm_it5 142 rfl (by decide +kernel)))
theorem cn_J6 : RJ6 ≠ "java/lang/invoke/MethodHandle" ∧ RJ6 ≠ "java/lang/invoke/VarHandle" := by decide +kernel
theorem okS_J6_bitCount_0f7a4 : pm_mokS mJ6_bitCount_0f7a4 1 := ⟨⟨⟨(pm_it4 100 rfl (by decide +kernel)), (pm_it1 21 rfl (by decide +kernel))⟩, ⟨cn_J6.1, cn_J6.2, pd__I_I⟩, by decide⟩, (pm_it4 99 rfl (by decide +kernel))⟩
theorem flX0_118 (M : pm_M) (h : M.1.cls = RX0) : pm_fl M 118 0 8 := ⟨RX0, TX0, 9, rfl, by decide, Or.inl (by rw [h]; exact (pm_it1 216 rfl (by decide +kernel)))⟩
theorem flX0_15 (M : pm_M) (h : M.1.cls = RX0) : pm_fl M 15 0 1 := ⟨RX0, TX0, 9, rfl, by decide, Or.inl (by rw [h]; exact (pm_it1 206 rfl (by decide +kernel)))⟩
theorem flX0_43 (M : pm_M) (h : M.1.cls = RX0) : pm_fl M 43 7 13 := ⟨RX7, TX7, 15, rfl, by decide, Or.inr ⟨"SealCouncil", by rw [h]; exact (pm_in1 116 rfl (by decide +kernel))⟩⟩
theorem lkX0_91 (M : pm_M) (h : M.1.cls = RX0) : pm_lk M 91 mX7_knownTo := Or.inl (by rw [h]; exact (pm_it5 99 rfl (by decide +kernel)))
theorem okV_X7_knownTo : pm_mokV mX7_knownTo 1 := ⟨⟨⟨(pm_it3 33 rfl (by decide +kernel)), (pm_it1 2 rfl (by decide +kernel))⟩, ⟨cn_X7.1, cn_X7.2, pd__I_I⟩, by decide⟩, (pm_it3 31 rfl (by decide +kernel)), (pm_it3 32 rfl (by decide +kernel))⟩
theorem lkX0_94 (M : pm_M) (h : M.1.cls = RX0) : pm_lk M 94 mX2_inForce := Or.inl (by rw [h]; exact (pm_it5 100 rfl (by decide +kernel)))
theorem pd__III_I : (parseMethodDescriptor "(III)I").map (fun d => d.parameters.length) = some 3 := by decide +kernel
theorem okV_X2_inForce : pm_mokV mX2_inForce 3 := ⟨⟨⟨(pm_it4 76 rfl (by decide +kernel)), (pm_it1 6 rfl (by decide +kernel))⟩, ⟨cn_X2.1, cn_X2.2, pd__III_I⟩, by decide⟩, (pm_it4 74 rfl (by decide +kernel)), (pm_it4 75 rfl (by decide +kernel))⟩
theorem fwX0_69 (M : pm_M) (h : M.1.cls = RX0) : pm_flw M 69 0 5 .int := ⟨RX0, TX0, 9, rfl, by decide, by rw [h]; exact (pm_it1 210 rfl (by decide +kernel)), rfl, by decide +kernel⟩
theorem fwX0_72 (M : pm_M) (h : M.1.cls = RX0) : pm_flw M 72 0 6 .int := ⟨RX0, TX0, 9, rfl, by decide, by rw [h]; exact (pm_it1 212 rfl (by decide +kernel)), rfl, by decide +kernel⟩
theorem lkX0_75 (M : pm_M) (h : M.1.cls = RX0) : pm_lk M 75 mX9_clear := Or.inl (by rw [h]; exact (pm_it5 94 rfl (by decide +kernel)))
theorem okV_X9_clear : pm_mokV mX9_clear 0 := ⟨⟨⟨(pm_it3 164 rfl (by decide +kernel)), (pm_it1 3 rfl (by decide +kernel))⟩, ⟨cn_X9.1, cn_X9.2, pd___V⟩, by decide⟩, (pm_it3 162 rfl (by decide +kernel)), (pm_it3 163 rfl (by decide +kernel))⟩
theorem lkX0_78 (M : pm_M) (h : M.1.cls = RX0) : pm_lk M 78 mX0_ruleInForce := Or.inl (by rw [h]; exact (pm_it5 95 rfl (by decide +kernel)))
theorem okV_X0_ruleInForce : pm_mokV mX0_ruleInForce 0 := ⟨⟨⟨(pm_it5 98 rfl (by decide +kernel)), (pm_it1 8 rfl (by decide +kernel))⟩, ⟨cn_X0.1, cn_X0.2, pd___I⟩, by decide⟩, (pm_it5 97 rfl (by decide +kernel)), (pm_in 28 (by decide +kernel) (by decide +kernel))⟩
theorem lkX0_81 (M : pm_M) (h : M.1.cls = RX0) : pm_lk M 81 mX0_weightOf := Or.inl (by rw [h]; exact (pm_it5 101 rfl (by decide +kernel)))
theorem okV_X0_weightOf : pm_mokV mX0_weightOf 2 := ⟨⟨⟨(pm_it5 104 rfl (by decide +kernel)), (pm_it1 8 rfl (by decide +kernel))⟩, ⟨cn_X0.1, cn_X0.2, pd__II_I⟩, by decide⟩, (pm_it5 103 rfl (by decide +kernel)), (pm_in 29 (by decide +kernel) (by decide +kernel))⟩
theorem lkX0_84 (M : pm_M) (h : M.1.cls = RX0) : pm_lk M 84 mX0_weighOne := Or.inl (by rw [h]; exact (pm_it5 107 rfl (by decide +kernel)))
theorem okV_X0_weighOne : pm_mokV mX0_weighOne 3 := ⟨⟨⟨(pm_it5 110 rfl (by decide +kernel)), (pm_it1 8 rfl (by decide +kernel))⟩, ⟨cn_X0.1, cn_X0.2, pd__III_V⟩, by decide⟩, (pm_it5 109 rfl (by decide +kernel)), (pm_in 30 (by decide +kernel) (by decide +kernel))⟩
theorem lkX0_87 (M : pm_M) (h : M.1.cls = RX0) : pm_lk M 87 mX0_isPromisedFor := Or.inl (by rw [h]; exact (pm_it5 111 rfl (by decide +kernel)))
theorem pd__II_Z : (parseMethodDescriptor "(II)Z").map (fun d => d.parameters.length) = some 2 := by decide +kernel
theorem okV_X0_isPromisedFor : pm_mokV mX0_isPromisedFor 2 := ⟨⟨⟨(pm_it5 114 rfl (by decide +kernel)), (pm_it1 8 rfl (by decide +kernel))⟩, ⟨cn_X0.1, cn_X0.2, pd__II_Z⟩, by decide⟩, (pm_it5 113 rfl (by decide +kernel)), (pm_in 31 (by decide +kernel) (by decide +kernel))⟩
theorem lkX0_100 (M : pm_M) (h : M.1.cls = RX0) : pm_lk M 100 mX2_comesTo := Or.inl (by rw [h]; exact (pm_it5 105 rfl (by decide +kernel)))
theorem pd__IIII_I : (parseMethodDescriptor "(IIII)I").map (fun d => d.parameters.length) = some 4 := by decide +kernel
theorem okV_X2_comesTo : pm_mokV mX2_comesTo 4 := ⟨⟨⟨(pm_it4 85 rfl (by decide +kernel)), (pm_it1 6 rfl (by decide +kernel))⟩, ⟨cn_X2.1, cn_X2.2, pd__IIII_I⟩, by decide⟩, (pm_it4 83 rfl (by decide +kernel)), (pm_it4 84 rfl (by decide +kernel))⟩
theorem flX0_104 (M : pm_M) (h : M.1.cls = RX0) : pm_fl M 104 7 3 := ⟨RX7, TX7, 15, rfl, by decide, Or.inr ⟨"SealCouncil", by rw [h]; exact (pm_in1 89 rfl (by decide +kernel))⟩⟩
theorem lkX0_107 (M : pm_M) (h : M.1.cls = RX0) : pm_lk M 107 mX7_isOfKind := Or.inl (by rw [h]; exact (pm_it5 106 rfl (by decide +kernel)))
theorem okV_X7_isOfKind : pm_mokV mX7_isOfKind 2 := ⟨⟨⟨(pm_it3 106 rfl (by decide +kernel)), (pm_it1 2 rfl (by decide +kernel))⟩, ⟨cn_X7.1, cn_X7.2, pd__II_Z⟩, by decide⟩, (pm_it3 104 rfl (by decide +kernel)), (pm_it3 105 rfl (by decide +kernel))⟩
theorem dX10_actOf_1 : pm_dec mX10_actOf 1 (.tableswitch 67 1 4 #[49, 67, 49, 31], 31) 32 := ⟨by decide +kernel, rfl⟩
theorem lkX10_41 (M : pm_M) (h : M.1.cls = RX10) : pm_lk M 41 mX10_note := Or.inl (by rw [h]; exact (pm_it6 49 rfl (by decide +kernel)))
theorem okV_X10_note : pm_mokV mX10_note 1 := ⟨⟨⟨(pm_it6 52 rfl (by decide +kernel)), (pm_it1 13 rfl (by decide +kernel))⟩, ⟨cn_X10.1, cn_X10.2, pd__I_V⟩, by decide⟩, (pm_it6 51 rfl (by decide +kernel)), (pm_in 45 (by decide +kernel) (by decide +kernel))⟩
theorem flX10_25 (M : pm_M) (h : M.1.cls = RX10) : pm_fl M 25 10 4 := ⟨RX10, TX10, 5, rfl, by decide, Or.inl (by rw [h]; exact (pm_it2 90 rfl (by decide +kernel)))⟩
theorem lkX10_28 (M : pm_M) (h : M.1.cls = RX10) : pm_lk M 28 mX10_actOf := Or.inl (by rw [h]; exact (pm_it6 45 rfl (by decide +kernel)))
theorem okV_X10_actOf : pm_mokV mX10_actOf 2 := ⟨⟨⟨(pm_it6 48 rfl (by decide +kernel)), (pm_it1 13 rfl (by decide +kernel))⟩, ⟨cn_X10.1, cn_X10.2, pd__II_I⟩, by decide⟩, (pm_it6 47 rfl (by decide +kernel)), (pm_in 44 (by decide +kernel) (by decide +kernel))⟩
theorem flX10_22 (M : pm_M) (h : M.1.cls = RX10) : pm_fl M 22 10 3 := ⟨RX10, TX10, 5, rfl, by decide, Or.inl (by rw [h]; exact (pm_it2 89 rfl (by decide +kernel)))⟩
theorem fwX10_15 (M : pm_M) (h : M.1.cls = RX10) : pm_flw M 15 10 1 .int := ⟨RX10, TX10, 5, rfl, by decide, by rw [h]; exact (pm_it2 86 rfl (by decide +kernel)), rfl, by decide +kernel⟩
theorem fwX10_19 (M : pm_M) (h : M.1.cls = RX10) : pm_flw M 19 10 2 .int := ⟨RX10, TX10, 5, rfl, by decide, by rw [h]; exact (pm_it2 88 rfl (by decide +kernel)), rfl, by decide +kernel⟩
theorem fwX10_22 (M : pm_M) (h : M.1.cls = RX10) : pm_flw M 22 10 3 .int := ⟨RX10, TX10, 5, rfl, by decide, by rw [h]; exact (pm_it2 89 rfl (by decide +kernel)), rfl, by decide +kernel⟩
theorem fwX10_25 (M : pm_M) (h : M.1.cls = RX10) : pm_flw M 25 10 4 .int := ⟨RX10, TX10, 5, rfl, by decide, by rw [h]; exact (pm_it2 90 rfl (by decide +kernel)), rfl, by decide +kernel⟩
theorem dX10_bindOf_1 : pm_dec mX10_bindOf 1 (.tableswitch 68 3 5 #[27, 27, 50], 27) 28 := ⟨by decide +kernel, rfl⟩
theorem lkX10_32 (M : pm_M) (h : M.1.cls = RX10) : pm_lk M 32 mX10_bindOf := Or.inl (by rw [h]; exact (pm_it6 53 rfl (by decide +kernel)))
theorem okV_X10_bindOf : pm_mokV mX10_bindOf 2 := ⟨⟨⟨(pm_it6 56 rfl (by decide +kernel)), (pm_it1 13 rfl (by decide +kernel))⟩, ⟨cn_X10.1, cn_X10.2, pd__II_I⟩, by decide⟩, (pm_it6 55 rfl (by decide +kernel)), (pm_in 46 (by decide +kernel) (by decide +kernel))⟩
theorem flX10_19 (M : pm_M) (h : M.1.cls = RX10) : pm_fl M 19 10 2 := ⟨RX10, TX10, 5, rfl, by decide, Or.inl (by rw [h]; exact (pm_it2 88 rfl (by decide +kernel)))⟩
theorem flX10_15 (M : pm_M) (h : M.1.cls = RX10) : pm_fl M 15 10 1 := ⟨RX10, TX10, 5, rfl, by decide, Or.inl (by rw [h]; exact (pm_it2 86 rfl (by decide +kernel)))⟩
theorem flX10_11 (M : pm_M) (h : M.1.cls = RX10) : pm_fl M 11 10 0 := ⟨RX10, TX10, 5, rfl, by decide, Or.inl (by rw [h]; exact (pm_it2 85 rfl (by decide +kernel)))⟩
theorem lkX10_35 (M : pm_M) (h : M.1.cls = RX10) : pm_lk M 35 mX10_rankOf := Or.inl (by rw [h]; exact (pm_it6 57 rfl (by decide +kernel)))
theorem okV_X10_rankOf : pm_mokV mX10_rankOf 2 := ⟨⟨⟨(pm_it6 60 rfl (by decide +kernel)), (pm_it1 13 rfl (by decide +kernel))⟩, ⟨cn_X10.1, cn_X10.2, pd__II_I⟩, by decide⟩, (pm_it6 59 rfl (by decide +kernel)), (pm_in 47 (by decide +kernel) (by decide +kernel))⟩
theorem dX10_speak_1 : pm_dec mX10_speak 1 (.tableswitch 57 0 2 #[27, 37, 47], 27) 28 := ⟨by decide +kernel, rfl⟩
theorem lkX10_38 (M : pm_M) (h : M.1.cls = RX10) : pm_lk M 38 mX10_tellOf := Or.inl (by rw [h]; exact (pm_it6 61 rfl (by decide +kernel)))
theorem okV_X10_tellOf : pm_mokV mX10_tellOf 2 := ⟨⟨⟨(pm_it6 64 rfl (by decide +kernel)), (pm_it1 13 rfl (by decide +kernel))⟩, ⟨cn_X10.1, cn_X10.2, pd__II_I⟩, by decide⟩, (pm_it6 63 rfl (by decide +kernel)), (pm_in 48 (by decide +kernel) (by decide +kernel))⟩
theorem dX10_tellOf_1 : pm_dec mX10_tellOf 1 (.tableswitch 69 1 4 #[54, 69, 54, 31], 31) 32 := ⟨by decide +kernel, rfl⟩
theorem flX11_128 (M : pm_M) (h : M.1.cls = RX11) : pm_fl M 128 7 2 := ⟨RX7, TX7, 15, rfl, by decide, Or.inr ⟨"SealCouncil", by rw [h]; exact (pm_in1 83 rfl (by decide +kernel))⟩⟩
theorem lkX11_101 (M : pm_M) (h : M.1.cls = RX11) : pm_lk M 101 mX9_has := Or.inl (by rw [h]; exact (pm_it2 186 rfl (by decide +kernel)))
theorem ctX11_109 (M : pm_M) (h : M.1.cls = RX11) : Cond.constant M.1.cls 109 (-1000001) ∈ pm_tbl := by rw [h]; exact (pm_it2 193 rfl (by decide +kernel))
theorem lkX11_97 (M : pm_M) (h : M.1.cls = RX11) : pm_lk M 97 mX11_told := Or.inl (by rw [h]; exact (pm_it2 176 rfl (by decide +kernel)))
theorem cn_X11 : RX11 ≠ "java/lang/invoke/MethodHandle" ∧ RX11 ≠ "java/lang/invoke/VarHandle" := by decide +kernel
theorem okV_X11_told : pm_mokV mX11_told 1 := ⟨⟨⟨(pm_it2 179 rfl (by decide +kernel)), (pm_it1 1 rfl (by decide +kernel))⟩, ⟨cn_X11.1, cn_X11.2, pd__I_I⟩, by decide⟩, (pm_it2 178 rfl (by decide +kernel)), (pm_in 0 (by decide +kernel) (by decide +kernel))⟩
theorem dX11_about_22 : pm_dec mX11_about 22 (.tableswitch 196 0 9 #[54, 67, 81, 95, 118, 127, 140, 154, 168, 182], 54) 76 := ⟨by decide +kernel, rfl⟩
theorem lkX11_152 (M : pm_M) (h : M.1.cls = RX11) : pm_lk M 152 mX9_get := Or.inl (by rw [h]; exact (pm_it3 61 rfl (by decide +kernel)))
theorem flX11_122 (M : pm_M) (h : M.1.cls = RX11) : pm_fl M 122 7 13 := ⟨RX7, TX7, 15, rfl, by decide, Or.inr ⟨"SealCouncil", by rw [h]; exact (pm_in1 120 rfl (by decide +kernel))⟩⟩
theorem lkX11_155 (M : pm_M) (h : M.1.cls = RX11) : pm_lk M 155 mX11_yearsBetween := Or.inl (by rw [h]; exact (pm_it3 62 rfl (by decide +kernel)))
theorem okS_X11_yearsBetween : pm_mokS mX11_yearsBetween 2 := ⟨⟨⟨(pm_it3 64 rfl (by decide +kernel)), (pm_it1 1 rfl (by decide +kernel))⟩, ⟨cn_X11.1, cn_X11.2, pd__II_I⟩, by decide⟩, (pm_it3 63 rfl (by decide +kernel))⟩
theorem lkX11_158 (M : pm_M) (h : M.1.cls = RX11) : pm_lk M 158 mX7_knownTo := Or.inl (by rw [h]; exact (pm_it3 65 rfl (by decide +kernel)))
theorem flX11_161 (M : pm_M) (h : M.1.cls = RX11) : pm_fl M 161 7 3 := ⟨RX7, TX7, 15, rfl, by decide, Or.inr ⟨"SealCouncil", by rw [h]; exact (pm_in1 88 rfl (by decide +kernel))⟩⟩
theorem lkX11_164 (M : pm_M) (h : M.1.cls = RX11) : pm_lk M 164 mX9_rowsWith := Or.inl (by rw [h]; exact (pm_it3 66 rfl (by decide +kernel)))
theorem okV_X9_rowsWith : pm_mokV mX9_rowsWith 2 := ⟨⟨⟨(pm_it3 69 rfl (by decide +kernel)), (pm_it1 3 rfl (by decide +kernel))⟩, ⟨cn_X9.1, cn_X9.2, pd__II_I⟩, by decide⟩, (pm_it3 67 rfl (by decide +kernel)), (pm_it3 68 rfl (by decide +kernel))⟩
theorem flX11_46 (M : pm_M) (h : M.1.cls = RX11) : pm_fl M 46 11 4 := ⟨RX11, TX11, 12, rfl, by decide, Or.inl (by rw [h]; exact (pm_it2 124 rfl (by decide +kernel)))⟩
theorem lkX11_332 (M : pm_M) (h : M.1.cls = RX11) : pm_lk M 332 mX4_fateOf := Or.inl (by rw [h]; exact (pm_it5 233 rfl (by decide +kernel)))
theorem okV_X4_fateOf : pm_mokV mX4_fateOf 1 := ⟨⟨⟨(pm_it5 236 rfl (by decide +kernel)), (pm_it1 10 rfl (by decide +kernel))⟩, ⟨cn_X4.1, cn_X4.2, pd__I_I⟩, by decide⟩, (pm_it5 234 rfl (by decide +kernel)), (pm_it5 235 rfl (by decide +kernel))⟩
theorem lkX11_329 (M : pm_M) (h : M.1.cls = RX11) : pm_lk M 329 mX4_dayOfAge := Or.inl (by rw [h]; exact (pm_it5 214 rfl (by decide +kernel)))
theorem okV_X4_dayOfAge : pm_mokV mX4_dayOfAge 0 := ⟨⟨⟨(pm_it5 217 rfl (by decide +kernel)), (pm_it1 10 rfl (by decide +kernel))⟩, ⟨cn_X4.1, cn_X4.2, pd___I⟩, by decide⟩, (pm_it5 215 rfl (by decide +kernel)), (pm_it5 216 rfl (by decide +kernel))⟩
theorem lkX11_105 (M : pm_M) (h : M.1.cls = RX11) : pm_lk M 105 mX11_isOutside := Or.inl (by rw [h]; exact (pm_it2 190 rfl (by decide +kernel)))
theorem pd__III_Z : (parseMethodDescriptor "(III)Z").map (fun d => d.parameters.length) = some 3 := by decide +kernel
theorem okS_X11_isOutside : pm_mokS mX11_isOutside 3 := ⟨⟨⟨(pm_it2 192 rfl (by decide +kernel)), (pm_it1 1 rfl (by decide +kernel))⟩, ⟨cn_X11.1, cn_X11.2, pd__III_Z⟩, by decide⟩, (pm_it2 191 rfl (by decide +kernel))⟩
theorem lkX11_180 (M : pm_M) (h : M.1.cls = RX11) : pm_lk M 180 mX7_isOfKind := Or.inl (by rw [h]; exact (pm_it3 103 rfl (by decide +kernel)))
theorem ctX11_184 (M : pm_M) (h : M.1.cls = RX11) : Cond.constant M.1.cls 184 (-1000005) ∈ pm_tbl := by rw [h]; exact (pm_it3 109 rfl (by decide +kernel))
theorem flX11_277 (M : pm_M) (h : M.1.cls = RX11) : pm_fl M 277 7 8 := ⟨RX7, TX7, 15, rfl, by decide, Or.inr ⟨"SealCouncil", by rw [h]; exact (pm_in1 105 rfl (by decide +kernel))⟩⟩
theorem lkX11_284 (M : pm_M) (h : M.1.cls = RX11) : pm_lk M 284 mX0_stands := Or.inl (by rw [h]; exact (pm_it5 81 rfl (by decide +kernel)))
theorem ctX11_138 (M : pm_M) (h : M.1.cls = RX11) : Cond.constant M.1.cls 138 (-1000003) ∈ pm_tbl := by rw [h]; exact (pm_it3 5 rfl (by decide +kernel))
theorem lkX11_170 (M : pm_M) (h : M.1.cls = RX11) : pm_lk M 170 mX9_set := Or.inl (by rw [h]; exact (pm_it3 86 rfl (by decide +kernel)))
theorem lkX11_302 (M : pm_M) (h : M.1.cls = RX11) : pm_lk M 302 mX0_findCheapest := Or.inl (by rw [h]; exact (pm_it5 127 rfl (by decide +kernel)))
theorem okV_X0_findCheapest : pm_mokV mX0_findCheapest 1 := ⟨⟨⟨(pm_it5 130 rfl (by decide +kernel)), (pm_it1 8 rfl (by decide +kernel))⟩, ⟨cn_X0.1, cn_X0.2, pd__I_Z⟩, by decide⟩, (pm_it5 128 rfl (by decide +kernel)), (pm_it5 129 rfl (by decide +kernel))⟩
theorem ctX11_223 (M : pm_M) (h : M.1.cls = RX11) : Cond.constant M.1.cls 223 (-1000002) ∈ pm_tbl := by rw [h]; exact (pm_it4 77 rfl (by decide +kernel))
theorem flX11_305 (M : pm_M) (h : M.1.cls = RX11) : pm_fl M 305 0 7 := ⟨RX0, TX0, 9, rfl, by decide, Or.inr ⟨"SealCouncil", by rw [h]; exact (pm_in1 215 rfl (by decide +kernel))⟩⟩
theorem flX11_308 (M : pm_M) (h : M.1.cls = RX11) : pm_fl M 308 0 8 := ⟨RX0, TX0, 9, rfl, by decide, Or.inr ⟨"SealCouncil", by rw [h]; exact (pm_in1 217 rfl (by decide +kernel))⟩⟩
theorem lkX11_287 (M : pm_M) (h : M.1.cls = RX11) : pm_lk M 287 mX0_firstBroken := Or.inl (by rw [h]; exact (pm_it5 86 rfl (by decide +kernel)))
theorem okV_X0_firstBroken : pm_mokV mX0_firstBroken 1 := ⟨⟨⟨(pm_it5 89 rfl (by decide +kernel)), (pm_it1 8 rfl (by decide +kernel))⟩, ⟨cn_X0.1, cn_X0.2, pd__I_I⟩, by decide⟩, (pm_it5 87 rfl (by decide +kernel)), (pm_it5 88 rfl (by decide +kernel))⟩
theorem lkX11_290 (M : pm_M) (h : M.1.cls = RX11) : pm_lk M 290 mX0_weigh := Or.inl (by rw [h]; exact (pm_it5 90 rfl (by decide +kernel)))
theorem dX11_cause_48 : pm_dec mX11_cause 48 (.lookupswitch 44 #[(0, 28), (1, 36)], 28) 76 := ⟨by decide +kernel, rfl⟩
theorem flX11_293 (M : pm_M) (h : M.1.cls = RX11) : pm_fl M 293 0 5 := ⟨RX0, TX0, 9, rfl, by decide, Or.inr ⟨"SealCouncil", by rw [h]; exact (pm_in1 211 rfl (by decide +kernel))⟩⟩
theorem flX11_296 (M : pm_M) (h : M.1.cls = RX11) : pm_fl M 296 0 6 := ⟨RX0, TX0, 9, rfl, by decide, Or.inr ⟨"SealCouncil", by rw [h]; exact (pm_in1 213 rfl (by decide +kernel))⟩⟩
theorem lkX11_299 (M : pm_M) (h : M.1.cls = RX11) : pm_lk M 299 mX0_isCarriedWith := Or.inl (by rw [h]; exact (pm_it5 115 rfl (by decide +kernel)))
theorem flX11_386 (M : pm_M) (h : M.1.cls = RX11) : pm_fl M 386 7 10 := ⟨RX7, TX7, 15, rfl, by decide, Or.inr ⟨"SealCouncil", by rw [h]; exact (pm_in1 110 rfl (by decide +kernel))⟩⟩
theorem lkX11_203 (M : pm_M) (h : M.1.cls = RX11) : pm_lk M 203 mX9_used := Or.inl (by rw [h]; exact (pm_it3 147 rfl (by decide +kernel)))
theorem lkX11_389 (M : pm_M) (h : M.1.cls = RX11) : pm_lk M 389 mX7_isCoinOf := Or.inl (by rw [h]; exact (pm_it6 133 rfl (by decide +kernel)))
theorem okV_X7_isCoinOf : pm_mokV mX7_isCoinOf 2 := ⟨⟨⟨(pm_it6 136 rfl (by decide +kernel)), (pm_it1 2 rfl (by decide +kernel))⟩, ⟨cn_X7.1, cn_X7.2, pd__II_Z⟩, by decide⟩, (pm_it6 134 rfl (by decide +kernel)), (pm_it6 135 rfl (by decide +kernel))⟩
theorem lkX11_392 (M : pm_M) (h : M.1.cls = RX11) : pm_lk M 392 mX9_clear := Or.inl (by rw [h]; exact (pm_it6 137 rfl (by decide +kernel)))
theorem lkX11_185 (M : pm_M) (h : M.1.cls = RX11) : pm_lk M 185 mX7_whoHas := Or.inl (by rw [h]; exact (pm_it3 114 rfl (by decide +kernel)))
theorem okV_X7_whoHas : pm_mokV mX7_whoHas 1 := ⟨⟨⟨(pm_it3 117 rfl (by decide +kernel)), (pm_it1 2 rfl (by decide +kernel))⟩, ⟨cn_X7.1, cn_X7.2, pd__I_I⟩, by decide⟩, (pm_it3 115 rfl (by decide +kernel)), (pm_it3 116 rfl (by decide +kernel))⟩
theorem lkX11_86 (M : pm_M) (h : M.1.cls = RX11) : pm_lk M 86 mX9_isFull := Or.inl (by rw [h]; exact (pm_it2 161 rfl (by decide +kernel)))
theorem ctX11_92 (M : pm_M) (h : M.1.cls = RX11) : Cond.constant M.1.cls 92 (-1000004) ∈ pm_tbl := by rw [h]; exact (pm_it2 165 rfl (by decide +kernel))
theorem lkX11_197 (M : pm_M) (h : M.1.cls = RX11) : pm_lk M 197 mX7_addCopy := Or.inl (by rw [h]; exact (pm_it3 137 rfl (by decide +kernel)))
theorem okV_X7_addCopy : pm_mokV mX7_addCopy 1 := ⟨⟨⟨(pm_it3 140 rfl (by decide +kernel)), (pm_it1 2 rfl (by decide +kernel))⟩, ⟨cn_X7.1, cn_X7.2, pd__I_I⟩, by decide⟩, (pm_it3 138 rfl (by decide +kernel)), (pm_it3 139 rfl (by decide +kernel))⟩
theorem dX11_count_1 : pm_dec mX11_count 1 (.tableswitch 245 0 15 #[79, 90, 98, 109, 120, 131, 142, 153, 164, 172, 180, 191, 205, 213, 224, 237], 79) 80 := ⟨by decide +kernel, rfl⟩
theorem flX11_82 (M : pm_M) (h : M.1.cls = RX11) : pm_fl M 82 7 0 := ⟨RX7, TX7, 15, rfl, by decide, Or.inr ⟨"SealCouncil", by rw [h]; exact (pm_in1 75 rfl (by decide +kernel))⟩⟩
theorem flX11_110 (M : pm_M) (h : M.1.cls = RX11) : pm_fl M 110 7 12 := ⟨RX7, TX7, 15, rfl, by decide, Or.inr ⟨"SealCouncil", by rw [h]; exact (pm_in1 115 rfl (by decide +kernel))⟩⟩
theorem flX11_209 (M : pm_M) (h : M.1.cls = RX11) : pm_fl M 209 7 4 := ⟨RX7, TX7, 15, rfl, by decide, Or.inr ⟨"SealCouncil", by rw [h]; exact (pm_in1 94 rfl (by decide +kernel))⟩⟩
theorem flX11_224 (M : pm_M) (h : M.1.cls = RX11) : pm_fl M 224 7 6 := ⟨RX7, TX7, 15, rfl, by decide, Or.inr ⟨"SealCouncil", by rw [h]; exact (pm_in1 100 rfl (by decide +kernel))⟩⟩
theorem flX11_271 (M : pm_M) (h : M.1.cls = RX11) : pm_fl M 271 7 7 := ⟨RX7, TX7, 15, rfl, by decide, Or.inr ⟨"SealCouncil", by rw [h]; exact (pm_in1 102 rfl (by decide +kernel))⟩⟩
theorem flX11_395 (M : pm_M) (h : M.1.cls = RX11) : pm_fl M 395 7 14 := ⟨RX7, TX7, 15, rfl, by decide, Or.inr ⟨"SealCouncil", by rw [h]; exact (pm_in1 124 rfl (by decide +kernel))⟩⟩
theorem flX11_200 (M : pm_M) (h : M.1.cls = RX11) : pm_fl M 200 7 11 := ⟨RX7, TX7, 15, rfl, by decide, Or.inr ⟨"SealCouncil", by rw [h]; exact (pm_in1 113 rfl (by decide +kernel))⟩⟩
theorem flX11_67 (M : pm_M) (h : M.1.cls = RX11) : pm_fl M 67 11 7 := ⟨RX11, TX11, 12, rfl, by decide, Or.inl (by rw [h]; exact (pm_it2 127 rfl (by decide +kernel)))⟩
theorem flX11_358 (M : pm_M) (h : M.1.cls = RX11) : pm_fl M 358 10 1 := ⟨RX10, TX10, 5, rfl, by decide, Or.inr ⟨"SealCouncil", by rw [h]; exact (pm_in2 87 rfl (by decide +kernel))⟩⟩
theorem lkX11_398 (M : pm_M) (h : M.1.cls = RX11) : pm_lk M 398 mX9_sumOf := Or.inl (by rw [h]; exact (pm_it6 142 rfl (by decide +kernel)))
theorem okV_X9_sumOf : pm_mokV mX9_sumOf 1 := ⟨⟨⟨(pm_it6 145 rfl (by decide +kernel)), (pm_it1 3 rfl (by decide +kernel))⟩, ⟨cn_X9.1, cn_X9.2, pd__I_I⟩, by decide⟩, (pm_it6 143 rfl (by decide +kernel)), (pm_it6 144 rfl (by decide +kernel))⟩
theorem flX11_39 (M : pm_M) (h : M.1.cls = RX11) : pm_fl M 39 11 3 := ⟨RX11, TX11, 12, rfl, by decide, Or.inl (by rw [h]; exact (pm_it2 123 rfl (by decide +kernel)))⟩
theorem lkX11_401 (M : pm_M) (h : M.1.cls = RX11) : pm_lk M 401 mX3_onTheirWay := Or.inl (by rw [h]; exact (pm_it6 146 rfl (by decide +kernel)))
theorem okV_X3_onTheirWay : pm_mokV mX3_onTheirWay 0 := ⟨⟨⟨(pm_it6 149 rfl (by decide +kernel)), (pm_it1 9 rfl (by decide +kernel))⟩, ⟨cn_X3.1, cn_X3.2, pd___I⟩, by decide⟩, (pm_it6 147 rfl (by decide +kernel)), (pm_it6 148 rfl (by decide +kernel))⟩
theorem lkX11_245 (M : pm_M) (h : M.1.cls = RX11) : pm_lk M 245 mX7_endDay := Or.inl (by rw [h]; exact (pm_it4 212 rfl (by decide +kernel)))
theorem okV_X7_endDay : pm_mokV mX7_endDay 0 := ⟨⟨⟨(pm_it4 215 rfl (by decide +kernel)), (pm_it1 2 rfl (by decide +kernel))⟩, ⟨cn_X7.1, cn_X7.2, pd___V⟩, by decide⟩, (pm_it4 213 rfl (by decide +kernel)), (pm_it4 214 rfl (by decide +kernel))⟩
theorem ctX11_270 (M : pm_M) (h : M.1.cls = RX11) : Cond.constant M.1.cls 270 (99999) ∈ pm_tbl := by rw [h]; exact (pm_it5 55 rfl (by decide +kernel))
theorem lkX11_274 (M : pm_M) (h : M.1.cls = RX11) : pm_lk M 274 mX7_addDebt := Or.inl (by rw [h]; exact (pm_it5 56 rfl (by decide +kernel)))
theorem okV_X7_addDebt : pm_mokV mX7_addDebt 4 := ⟨⟨⟨(pm_it5 59 rfl (by decide +kernel)), (pm_it1 2 rfl (by decide +kernel))⟩, ⟨cn_X7.1, cn_X7.2, pd__IIII_I⟩, by decide⟩, (pm_it5 57 rfl (by decide +kernel)), (pm_it5 58 rfl (by decide +kernel))⟩
theorem lkX11_135 (M : pm_M) (h : M.1.cls = RX11) : pm_lk M 135 mX7_isLiving := Or.inl (by rw [h]; exact (pm_it3 1 rfl (by decide +kernel)))
theorem okV_X7_isLiving : pm_mokV mX7_isLiving 1 := ⟨⟨⟨(pm_it3 4 rfl (by decide +kernel)), (pm_it1 2 rfl (by decide +kernel))⟩, ⟨cn_X7.1, cn_X7.2, pd__I_Z⟩, by decide⟩, (pm_it3 2 rfl (by decide +kernel)), (pm_it3 3 rfl (by decide +kernel))⟩
theorem lkX11_139 (M : pm_M) (h : M.1.cls = RX11) : pm_lk M 139 mX0_unseat := Or.inl (by rw [h]; exact (pm_it3 6 rfl (by decide +kernel)))
theorem okV_X0_unseat : pm_mokV mX0_unseat 1 := ⟨⟨⟨(pm_it3 9 rfl (by decide +kernel)), (pm_it1 8 rfl (by decide +kernel))⟩, ⟨cn_X0.1, cn_X0.2, pd__I_V⟩, by decide⟩, (pm_it3 7 rfl (by decide +kernel)), (pm_it3 8 rfl (by decide +kernel))⟩
theorem lkX11_143 (M : pm_M) (h : M.1.cls = RX11) : pm_lk M 143 mX7_bury := Or.inl (by rw [h]; exact (pm_it3 21 rfl (by decide +kernel)))
theorem okV_X7_bury : pm_mokV mX7_bury 1 := ⟨⟨⟨(pm_it3 24 rfl (by decide +kernel)), (pm_it1 2 rfl (by decide +kernel))⟩, ⟨cn_X7.1, cn_X7.2, pd__I_I⟩, by decide⟩, (pm_it3 22 rfl (by decide +kernel)), (pm_it3 23 rfl (by decide +kernel))⟩
theorem lkX11_146 (M : pm_M) (h : M.1.cls = RX11) : pm_lk M 146 mX7_isInTown := Or.inl (by rw [h]; exact (pm_it3 47 rfl (by decide +kernel)))
theorem okV_X7_isInTown : pm_mokV mX7_isInTown 1 := ⟨⟨⟨(pm_it3 50 rfl (by decide +kernel)), (pm_it1 2 rfl (by decide +kernel))⟩, ⟨cn_X7.1, cn_X7.2, pd__I_Z⟩, by decide⟩, (pm_it3 48 rfl (by decide +kernel)), (pm_it3 49 rfl (by decide +kernel))⟩
theorem lkX11_230 (M : pm_M) (h : M.1.cls = RX11) : pm_lk M 230 mX3_write := Or.inl (by rw [h]; exact (pm_it4 115 rfl (by decide +kernel)))
theorem okV_X3_write : pm_mokV mX3_write 3 := ⟨⟨⟨(pm_it4 118 rfl (by decide +kernel)), (pm_it1 9 rfl (by decide +kernel))⟩, ⟨cn_X3.1, cn_X3.2, pd__III_I⟩, by decide⟩, (pm_it4 116 rfl (by decide +kernel)), (pm_it4 117 rfl (by decide +kernel))⟩
