def dt_X9_append_0 : List Nat := [42, 182, 0, 39, 153, 0, 5, 2, 172, 42, 180, 0, 29, 61, 42, 89, 180, 0, 29, 4, 96, 181, 0, 29, 4, 62, 29, 42, 180, 0, 22, 162, 0, 16, 42, 28, 29, 3, 182, 0, 35, 132, 3, 1, 167, 255, 238, 42]
theorem dk_X9_append_0 : (((mX9_append.2.1).data.toList.drop 0).take 48).map UInt8.toNat = dt_X9_append_0 := by decide +kernel
theorem dX9_append_0 : pm_dec mX9_append 0 (.aload_n 0, 1) 1 := ⟨dq_42 (d_b dk_X9_append_0 0 rfl), rfl⟩
theorem dX9_append_1 : pm_dec mX9_append 1 (.invokevirtual 39, 3) 4 := ⟨dq_182 (d_b dk_X9_append_0 1 rfl) (d_b dk_X9_append_0 2 rfl) (d_b dk_X9_append_0 3 rfl) rfl, rfl⟩
theorem dX9_append_4 : pm_dec mX9_append 4 (.ifCond .eq 5, 3) 7 := ⟨dq_153 (d_b dk_X9_append_0 4 rfl) (d_b dk_X9_append_0 5 rfl) (d_b dk_X9_append_0 6 rfl) (by decide), rfl⟩
theorem dX9_append_7 : pm_dec mX9_append 7 (.iconst (-1), 1) 8 := ⟨dq_2 (d_b dk_X9_append_0 7 rfl), rfl⟩
theorem dX9_append_8 : pm_dec mX9_append 8 (.ireturn, 1) 9 := ⟨dq_172 (d_b dk_X9_append_0 8 rfl), rfl⟩
theorem dX9_append_9 : pm_dec mX9_append 9 (.aload_n 0, 1) 10 := ⟨dq_42 (d_b dk_X9_append_0 9 rfl), rfl⟩
theorem dX9_append_10 : pm_dec mX9_append 10 (.getfield 29, 3) 13 := ⟨dq_180 (d_b dk_X9_append_0 10 rfl) (d_b dk_X9_append_0 11 rfl) (d_b dk_X9_append_0 12 rfl) rfl, rfl⟩
theorem dX9_append_13 : pm_dec mX9_append 13 (.istore_n 2, 1) 14 := ⟨dq_61 (d_b dk_X9_append_0 13 rfl), rfl⟩
theorem dX9_append_14 : pm_dec mX9_append 14 (.aload_n 0, 1) 15 := ⟨dq_42 (d_b dk_X9_append_0 14 rfl), rfl⟩
theorem dX9_append_15 : pm_dec mX9_append 15 (.dup, 1) 16 := ⟨dq_89 (d_b dk_X9_append_0 15 rfl), rfl⟩
theorem dX9_append_16 : pm_dec mX9_append 16 (.getfield 29, 3) 19 := ⟨dq_180 (d_b dk_X9_append_0 16 rfl) (d_b dk_X9_append_0 17 rfl) (d_b dk_X9_append_0 18 rfl) rfl, rfl⟩
theorem dX9_append_19 : pm_dec mX9_append 19 (.iconst 1, 1) 20 := ⟨dq_4 (d_b dk_X9_append_0 19 rfl), rfl⟩
theorem dX9_append_20 : pm_dec mX9_append 20 (.iadd, 1) 21 := ⟨dq_96 (d_b dk_X9_append_0 20 rfl), rfl⟩
theorem dX9_append_21 : pm_dec mX9_append 21 (.putfield 29, 3) 24 := ⟨dq_181 (d_b dk_X9_append_0 21 rfl) (d_b dk_X9_append_0 22 rfl) (d_b dk_X9_append_0 23 rfl) rfl, rfl⟩
theorem dX9_append_24 : pm_dec mX9_append 24 (.iconst 1, 1) 25 := ⟨dq_4 (d_b dk_X9_append_0 24 rfl), rfl⟩
theorem dX9_append_25 : pm_dec mX9_append 25 (.istore_n 3, 1) 26 := ⟨dq_62 (d_b dk_X9_append_0 25 rfl), rfl⟩
theorem dX9_append_26 : pm_dec mX9_append 26 (.iload_n 3, 1) 27 := ⟨dq_29 (d_b dk_X9_append_0 26 rfl), rfl⟩
theorem dX9_append_27 : pm_dec mX9_append 27 (.aload_n 0, 1) 28 := ⟨dq_42 (d_b dk_X9_append_0 27 rfl), rfl⟩
theorem dX9_append_28 : pm_dec mX9_append 28 (.getfield 22, 3) 31 := ⟨dq_180 (d_b dk_X9_append_0 28 rfl) (d_b dk_X9_append_0 29 rfl) (d_b dk_X9_append_0 30 rfl) rfl, rfl⟩
theorem dX9_append_31 : pm_dec mX9_append 31 (.if_icmp .ge 16, 3) 34 := ⟨dq_162 (d_b dk_X9_append_0 31 rfl) (d_b dk_X9_append_0 32 rfl) (d_b dk_X9_append_0 33 rfl) (by decide), rfl⟩
theorem dX9_append_34 : pm_dec mX9_append 34 (.aload_n 0, 1) 35 := ⟨dq_42 (d_b dk_X9_append_0 34 rfl), rfl⟩
theorem dX9_append_35 : pm_dec mX9_append 35 (.iload_n 2, 1) 36 := ⟨dq_28 (d_b dk_X9_append_0 35 rfl), rfl⟩
theorem dX9_append_36 : pm_dec mX9_append 36 (.iload_n 3, 1) 37 := ⟨dq_29 (d_b dk_X9_append_0 36 rfl), rfl⟩
theorem dX9_append_37 : pm_dec mX9_append 37 (.iconst 0, 1) 38 := ⟨dq_3 (d_b dk_X9_append_0 37 rfl), rfl⟩
theorem dX9_append_38 : pm_dec mX9_append 38 (.invokevirtual 35, 3) 41 := ⟨dq_182 (d_b dk_X9_append_0 38 rfl) (d_b dk_X9_append_0 39 rfl) (d_b dk_X9_append_0 40 rfl) rfl, rfl⟩
theorem dX9_append_41 : pm_dec mX9_append 41 (.iinc 3 1, 3) 44 := ⟨dq_132 (d_b dk_X9_append_0 41 rfl) (d_b dk_X9_append_0 42 rfl) (d_b dk_X9_append_0 43 rfl) (by decide), rfl⟩
theorem dX9_append_44 : pm_dec mX9_append 44 (.goto (-18), 3) 47 := ⟨dq_167 (d_b dk_X9_append_0 44 rfl) (d_b dk_X9_append_0 45 rfl) (d_b dk_X9_append_0 46 rfl) (by decide), rfl⟩
theorem dX9_append_47 : pm_dec mX9_append 47 (.aload_n 0, 1) 48 := ⟨dq_42 (d_b dk_X9_append_0 47 rfl), rfl⟩
def dt_X9_append_48 : List Nat := [28, 3, 27, 182, 0, 35, 28, 172]
theorem dk_X9_append_48 : (((mX9_append.2.1).data.toList.drop 48).take 8).map UInt8.toNat = dt_X9_append_48 := by decide +kernel
theorem dX9_append_48 : pm_dec mX9_append 48 (.iload_n 2, 1) 49 := ⟨dq_28 (d_b dk_X9_append_48 0 rfl), rfl⟩
theorem dX9_append_49 : pm_dec mX9_append 49 (.iconst 0, 1) 50 := ⟨dq_3 (d_b dk_X9_append_48 1 rfl), rfl⟩
theorem dX9_append_50 : pm_dec mX9_append 50 (.iload_n 1, 1) 51 := ⟨dq_27 (d_b dk_X9_append_48 2 rfl), rfl⟩
theorem dX9_append_51 : pm_dec mX9_append 51 (.invokevirtual 35, 3) 54 := ⟨dq_182 (d_b dk_X9_append_48 3 rfl) (d_b dk_X9_append_48 4 rfl) (d_b dk_X9_append_48 5 rfl) rfl, rfl⟩
theorem dX9_append_54 : pm_dec mX9_append 54 (.iload_n 2, 1) 55 := ⟨dq_28 (d_b dk_X9_append_48 6 rfl), rfl⟩
theorem dX9_append_55 : pm_dec mX9_append 55 (.ireturn, 1) 56 := ⟨dq_172 (d_b dk_X9_append_48 7 rfl), rfl⟩
def dt_X9_rowsWith_0 : List Nat := [3, 62, 3, 54, 4, 21, 4, 42, 180, 0, 29, 162, 0, 42, 27, 155, 0, 38, 27, 42, 180, 0, 22, 162, 0, 30, 42, 180, 0, 25, 21, 4, 42, 180, 0, 22, 104, 27, 96, 46, 28, 160, 0, 6, 132, 3, 1, 132, 4, 1]
theorem dk_X9_rowsWith_0 : (((mX9_rowsWith.2.1).data.toList.drop 0).take 50).map UInt8.toNat = dt_X9_rowsWith_0 := by decide +kernel
theorem dX9_rowsWith_0 : pm_dec mX9_rowsWith 0 (.iconst 0, 1) 1 := ⟨dq_3 (d_b dk_X9_rowsWith_0 0 rfl), rfl⟩
theorem dX9_rowsWith_1 : pm_dec mX9_rowsWith 1 (.istore_n 3, 1) 2 := ⟨dq_62 (d_b dk_X9_rowsWith_0 1 rfl), rfl⟩
theorem dX9_rowsWith_2 : pm_dec mX9_rowsWith 2 (.iconst 0, 1) 3 := ⟨dq_3 (d_b dk_X9_rowsWith_0 2 rfl), rfl⟩
theorem dX9_rowsWith_3 : pm_dec mX9_rowsWith 3 (.istore 4, 2) 5 := ⟨dq_54 (d_b dk_X9_rowsWith_0 3 rfl) (d_b dk_X9_rowsWith_0 4 rfl), rfl⟩
theorem dX9_rowsWith_5 : pm_dec mX9_rowsWith 5 (.iload 4, 2) 7 := ⟨dq_21 (d_b dk_X9_rowsWith_0 5 rfl) (d_b dk_X9_rowsWith_0 6 rfl), rfl⟩
theorem dX9_rowsWith_7 : pm_dec mX9_rowsWith 7 (.aload_n 0, 1) 8 := ⟨dq_42 (d_b dk_X9_rowsWith_0 7 rfl), rfl⟩
theorem dX9_rowsWith_8 : pm_dec mX9_rowsWith 8 (.getfield 29, 3) 11 := ⟨dq_180 (d_b dk_X9_rowsWith_0 8 rfl) (d_b dk_X9_rowsWith_0 9 rfl) (d_b dk_X9_rowsWith_0 10 rfl) rfl, rfl⟩
theorem dX9_rowsWith_11 : pm_dec mX9_rowsWith 11 (.if_icmp .ge 42, 3) 14 := ⟨dq_162 (d_b dk_X9_rowsWith_0 11 rfl) (d_b dk_X9_rowsWith_0 12 rfl) (d_b dk_X9_rowsWith_0 13 rfl) (by decide), rfl⟩
theorem dX9_rowsWith_14 : pm_dec mX9_rowsWith 14 (.iload_n 1, 1) 15 := ⟨dq_27 (d_b dk_X9_rowsWith_0 14 rfl), rfl⟩
theorem dX9_rowsWith_15 : pm_dec mX9_rowsWith 15 (.ifCond .lt 38, 3) 18 := ⟨dq_155 (d_b dk_X9_rowsWith_0 15 rfl) (d_b dk_X9_rowsWith_0 16 rfl) (d_b dk_X9_rowsWith_0 17 rfl) (by decide), rfl⟩
theorem dX9_rowsWith_18 : pm_dec mX9_rowsWith 18 (.iload_n 1, 1) 19 := ⟨dq_27 (d_b dk_X9_rowsWith_0 18 rfl), rfl⟩
theorem dX9_rowsWith_19 : pm_dec mX9_rowsWith 19 (.aload_n 0, 1) 20 := ⟨dq_42 (d_b dk_X9_rowsWith_0 19 rfl), rfl⟩
theorem dX9_rowsWith_20 : pm_dec mX9_rowsWith 20 (.getfield 22, 3) 23 := ⟨dq_180 (d_b dk_X9_rowsWith_0 20 rfl) (d_b dk_X9_rowsWith_0 21 rfl) (d_b dk_X9_rowsWith_0 22 rfl) rfl, rfl⟩
theorem dX9_rowsWith_23 : pm_dec mX9_rowsWith 23 (.if_icmp .ge 30, 3) 26 := ⟨dq_162 (d_b dk_X9_rowsWith_0 23 rfl) (d_b dk_X9_rowsWith_0 24 rfl) (d_b dk_X9_rowsWith_0 25 rfl) (by decide), rfl⟩
theorem dX9_rowsWith_26 : pm_dec mX9_rowsWith 26 (.aload_n 0, 1) 27 := ⟨dq_42 (d_b dk_X9_rowsWith_0 26 rfl), rfl⟩
theorem dX9_rowsWith_27 : pm_dec mX9_rowsWith 27 (.getfield 25, 3) 30 := ⟨dq_180 (d_b dk_X9_rowsWith_0 27 rfl) (d_b dk_X9_rowsWith_0 28 rfl) (d_b dk_X9_rowsWith_0 29 rfl) rfl, rfl⟩
theorem dX9_rowsWith_30 : pm_dec mX9_rowsWith 30 (.iload 4, 2) 32 := ⟨dq_21 (d_b dk_X9_rowsWith_0 30 rfl) (d_b dk_X9_rowsWith_0 31 rfl), rfl⟩
theorem dX9_rowsWith_32 : pm_dec mX9_rowsWith 32 (.aload_n 0, 1) 33 := ⟨dq_42 (d_b dk_X9_rowsWith_0 32 rfl), rfl⟩
theorem dX9_rowsWith_33 : pm_dec mX9_rowsWith 33 (.getfield 22, 3) 36 := ⟨dq_180 (d_b dk_X9_rowsWith_0 33 rfl) (d_b dk_X9_rowsWith_0 34 rfl) (d_b dk_X9_rowsWith_0 35 rfl) rfl, rfl⟩
theorem dX9_rowsWith_36 : pm_dec mX9_rowsWith 36 (.imul, 1) 37 := ⟨dq_104 (d_b dk_X9_rowsWith_0 36 rfl), rfl⟩
theorem dX9_rowsWith_37 : pm_dec mX9_rowsWith 37 (.iload_n 1, 1) 38 := ⟨dq_27 (d_b dk_X9_rowsWith_0 37 rfl), rfl⟩
theorem dX9_rowsWith_38 : pm_dec mX9_rowsWith 38 (.iadd, 1) 39 := ⟨dq_96 (d_b dk_X9_rowsWith_0 38 rfl), rfl⟩
theorem dX9_rowsWith_39 : pm_dec mX9_rowsWith 39 (.iaload, 1) 40 := ⟨dq_46 (d_b dk_X9_rowsWith_0 39 rfl), rfl⟩
theorem dX9_rowsWith_40 : pm_dec mX9_rowsWith 40 (.iload_n 2, 1) 41 := ⟨dq_28 (d_b dk_X9_rowsWith_0 40 rfl), rfl⟩
theorem dX9_rowsWith_41 : pm_dec mX9_rowsWith 41 (.if_icmp .ne 6, 3) 44 := ⟨dq_160 (d_b dk_X9_rowsWith_0 41 rfl) (d_b dk_X9_rowsWith_0 42 rfl) (d_b dk_X9_rowsWith_0 43 rfl) (by decide), rfl⟩
theorem dX9_rowsWith_44 : pm_dec mX9_rowsWith 44 (.iinc 3 1, 3) 47 := ⟨dq_132 (d_b dk_X9_rowsWith_0 44 rfl) (d_b dk_X9_rowsWith_0 45 rfl) (d_b dk_X9_rowsWith_0 46 rfl) (by decide), rfl⟩
theorem dX9_rowsWith_47 : pm_dec mX9_rowsWith 47 (.iinc 4 1, 3) 50 := ⟨dq_132 (d_b dk_X9_rowsWith_0 47 rfl) (d_b dk_X9_rowsWith_0 48 rfl) (d_b dk_X9_rowsWith_0 49 rfl) (by decide), rfl⟩
def dt_X9_rowsWith_50 : List Nat := [167, 255, 211, 29, 172]
theorem dk_X9_rowsWith_50 : (((mX9_rowsWith.2.1).data.toList.drop 50).take 5).map UInt8.toNat = dt_X9_rowsWith_50 := by decide +kernel
theorem dX9_rowsWith_50 : pm_dec mX9_rowsWith 50 (.goto (-45), 3) 53 := ⟨dq_167 (d_b dk_X9_rowsWith_50 0 rfl) (d_b dk_X9_rowsWith_50 1 rfl) (d_b dk_X9_rowsWith_50 2 rfl) (by decide), rfl⟩
theorem dX9_rowsWith_53 : pm_dec mX9_rowsWith 53 (.iload_n 3, 1) 54 := ⟨dq_29 (d_b dk_X9_rowsWith_50 3 rfl), rfl⟩
theorem dX9_rowsWith_54 : pm_dec mX9_rowsWith 54 (.ireturn, 1) 55 := ⟨dq_172 (d_b dk_X9_rowsWith_50 4 rfl), rfl⟩
def dt_X9_sumOf_0 : List Nat := [3, 61, 3, 62, 29, 42, 180, 0, 29, 162, 0, 18, 28, 42, 29, 27, 182, 0, 32, 96, 61, 132, 3, 1, 167, 255, 236, 28, 172]
theorem dk_X9_sumOf_0 : (((mX9_sumOf.2.1).data.toList.drop 0).take 29).map UInt8.toNat = dt_X9_sumOf_0 := by decide +kernel
theorem dX9_sumOf_0 : pm_dec mX9_sumOf 0 (.iconst 0, 1) 1 := ⟨dq_3 (d_b dk_X9_sumOf_0 0 rfl), rfl⟩
theorem dX9_sumOf_1 : pm_dec mX9_sumOf 1 (.istore_n 2, 1) 2 := ⟨dq_61 (d_b dk_X9_sumOf_0 1 rfl), rfl⟩
theorem dX9_sumOf_2 : pm_dec mX9_sumOf 2 (.iconst 0, 1) 3 := ⟨dq_3 (d_b dk_X9_sumOf_0 2 rfl), rfl⟩
theorem dX9_sumOf_3 : pm_dec mX9_sumOf 3 (.istore_n 3, 1) 4 := ⟨dq_62 (d_b dk_X9_sumOf_0 3 rfl), rfl⟩
theorem dX9_sumOf_4 : pm_dec mX9_sumOf 4 (.iload_n 3, 1) 5 := ⟨dq_29 (d_b dk_X9_sumOf_0 4 rfl), rfl⟩
theorem dX9_sumOf_5 : pm_dec mX9_sumOf 5 (.aload_n 0, 1) 6 := ⟨dq_42 (d_b dk_X9_sumOf_0 5 rfl), rfl⟩
theorem dX9_sumOf_6 : pm_dec mX9_sumOf 6 (.getfield 29, 3) 9 := ⟨dq_180 (d_b dk_X9_sumOf_0 6 rfl) (d_b dk_X9_sumOf_0 7 rfl) (d_b dk_X9_sumOf_0 8 rfl) rfl, rfl⟩
theorem dX9_sumOf_9 : pm_dec mX9_sumOf 9 (.if_icmp .ge 18, 3) 12 := ⟨dq_162 (d_b dk_X9_sumOf_0 9 rfl) (d_b dk_X9_sumOf_0 10 rfl) (d_b dk_X9_sumOf_0 11 rfl) (by decide), rfl⟩
theorem dX9_sumOf_12 : pm_dec mX9_sumOf 12 (.iload_n 2, 1) 13 := ⟨dq_28 (d_b dk_X9_sumOf_0 12 rfl), rfl⟩
theorem dX9_sumOf_13 : pm_dec mX9_sumOf 13 (.aload_n 0, 1) 14 := ⟨dq_42 (d_b dk_X9_sumOf_0 13 rfl), rfl⟩
theorem dX9_sumOf_14 : pm_dec mX9_sumOf 14 (.iload_n 3, 1) 15 := ⟨dq_29 (d_b dk_X9_sumOf_0 14 rfl), rfl⟩
theorem dX9_sumOf_15 : pm_dec mX9_sumOf 15 (.iload_n 1, 1) 16 := ⟨dq_27 (d_b dk_X9_sumOf_0 15 rfl), rfl⟩
theorem dX9_sumOf_16 : pm_dec mX9_sumOf 16 (.invokevirtual 32, 3) 19 := ⟨dq_182 (d_b dk_X9_sumOf_0 16 rfl) (d_b dk_X9_sumOf_0 17 rfl) (d_b dk_X9_sumOf_0 18 rfl) rfl, rfl⟩
theorem dX9_sumOf_19 : pm_dec mX9_sumOf 19 (.iadd, 1) 20 := ⟨dq_96 (d_b dk_X9_sumOf_0 19 rfl), rfl⟩
theorem dX9_sumOf_20 : pm_dec mX9_sumOf 20 (.istore_n 2, 1) 21 := ⟨dq_61 (d_b dk_X9_sumOf_0 20 rfl), rfl⟩
theorem dX9_sumOf_21 : pm_dec mX9_sumOf 21 (.iinc 3 1, 3) 24 := ⟨dq_132 (d_b dk_X9_sumOf_0 21 rfl) (d_b dk_X9_sumOf_0 22 rfl) (d_b dk_X9_sumOf_0 23 rfl) (by decide), rfl⟩
theorem dX9_sumOf_24 : pm_dec mX9_sumOf 24 (.goto (-20), 3) 27 := ⟨dq_167 (d_b dk_X9_sumOf_0 24 rfl) (d_b dk_X9_sumOf_0 25 rfl) (d_b dk_X9_sumOf_0 26 rfl) (by decide), rfl⟩
theorem dX9_sumOf_27 : pm_dec mX9_sumOf 27 (.iload_n 2, 1) 28 := ⟨dq_28 (d_b dk_X9_sumOf_0 27 rfl), rfl⟩
theorem dX9_sumOf_28 : pm_dec mX9_sumOf 28 (.ireturn, 1) 29 := ⟨dq_172 (d_b dk_X9_sumOf_0 28 rfl), rfl⟩
def dt_X9_add_0 : List Nat := [42, 27, 28, 42, 27, 28, 182, 0, 32, 29, 96, 182, 0, 35, 177]
theorem dk_X9_add_0 : (((mX9_add.2.1).data.toList.drop 0).take 15).map UInt8.toNat = dt_X9_add_0 := by decide +kernel
theorem dX9_add_0 : pm_dec mX9_add 0 (.aload_n 0, 1) 1 := ⟨dq_42 (d_b dk_X9_add_0 0 rfl), rfl⟩
theorem dX9_add_1 : pm_dec mX9_add 1 (.iload_n 1, 1) 2 := ⟨dq_27 (d_b dk_X9_add_0 1 rfl), rfl⟩
theorem dX9_add_2 : pm_dec mX9_add 2 (.iload_n 2, 1) 3 := ⟨dq_28 (d_b dk_X9_add_0 2 rfl), rfl⟩
theorem dX9_add_3 : pm_dec mX9_add 3 (.aload_n 0, 1) 4 := ⟨dq_42 (d_b dk_X9_add_0 3 rfl), rfl⟩
theorem dX9_add_4 : pm_dec mX9_add 4 (.iload_n 1, 1) 5 := ⟨dq_27 (d_b dk_X9_add_0 4 rfl), rfl⟩
theorem dX9_add_5 : pm_dec mX9_add 5 (.iload_n 2, 1) 6 := ⟨dq_28 (d_b dk_X9_add_0 5 rfl), rfl⟩
theorem dX9_add_6 : pm_dec mX9_add 6 (.invokevirtual 32, 3) 9 := ⟨dq_182 (d_b dk_X9_add_0 6 rfl) (d_b dk_X9_add_0 7 rfl) (d_b dk_X9_add_0 8 rfl) rfl, rfl⟩
theorem dX9_add_9 : pm_dec mX9_add 9 (.iload_n 3, 1) 10 := ⟨dq_29 (d_b dk_X9_add_0 9 rfl), rfl⟩
theorem dX9_add_10 : pm_dec mX9_add 10 (.iadd, 1) 11 := ⟨dq_96 (d_b dk_X9_add_0 10 rfl), rfl⟩
theorem dX9_add_11 : pm_dec mX9_add 11 (.invokevirtual 35, 3) 14 := ⟨dq_182 (d_b dk_X9_add_0 11 rfl) (d_b dk_X9_add_0 12 rfl) (d_b dk_X9_add_0 13 rfl) rfl, rfl⟩
theorem dX9_add_14 : pm_dec mX9_add 14 (.return_, 1) 15 := ⟨dq_177 (d_b dk_X9_add_0 14 rfl), rfl⟩
def dt_X9_swap_0 : List Nat := [42, 27, 28, 182, 0, 32, 54, 4, 42, 27, 28, 29, 182, 0, 35, 21, 4, 172]
theorem dk_X9_swap_0 : (((mX9_swap.2.1).data.toList.drop 0).take 18).map UInt8.toNat = dt_X9_swap_0 := by decide +kernel
theorem dX9_swap_0 : pm_dec mX9_swap 0 (.aload_n 0, 1) 1 := ⟨dq_42 (d_b dk_X9_swap_0 0 rfl), rfl⟩
theorem dX9_swap_1 : pm_dec mX9_swap 1 (.iload_n 1, 1) 2 := ⟨dq_27 (d_b dk_X9_swap_0 1 rfl), rfl⟩
theorem dX9_swap_2 : pm_dec mX9_swap 2 (.iload_n 2, 1) 3 := ⟨dq_28 (d_b dk_X9_swap_0 2 rfl), rfl⟩
theorem dX9_swap_3 : pm_dec mX9_swap 3 (.invokevirtual 32, 3) 6 := ⟨dq_182 (d_b dk_X9_swap_0 3 rfl) (d_b dk_X9_swap_0 4 rfl) (d_b dk_X9_swap_0 5 rfl) rfl, rfl⟩
theorem dX9_swap_6 : pm_dec mX9_swap 6 (.istore 4, 2) 8 := ⟨dq_54 (d_b dk_X9_swap_0 6 rfl) (d_b dk_X9_swap_0 7 rfl), rfl⟩
theorem dX9_swap_8 : pm_dec mX9_swap 8 (.aload_n 0, 1) 9 := ⟨dq_42 (d_b dk_X9_swap_0 8 rfl), rfl⟩
theorem dX9_swap_9 : pm_dec mX9_swap 9 (.iload_n 1, 1) 10 := ⟨dq_27 (d_b dk_X9_swap_0 9 rfl), rfl⟩
theorem dX9_swap_10 : pm_dec mX9_swap 10 (.iload_n 2, 1) 11 := ⟨dq_28 (d_b dk_X9_swap_0 10 rfl), rfl⟩
theorem dX9_swap_11 : pm_dec mX9_swap 11 (.iload_n 3, 1) 12 := ⟨dq_29 (d_b dk_X9_swap_0 11 rfl), rfl⟩
theorem dX9_swap_12 : pm_dec mX9_swap 12 (.invokevirtual 35, 3) 15 := ⟨dq_182 (d_b dk_X9_swap_0 12 rfl) (d_b dk_X9_swap_0 13 rfl) (d_b dk_X9_swap_0 14 rfl) rfl, rfl⟩
theorem dX9_swap_15 : pm_dec mX9_swap 15 (.iload 4, 2) 17 := ⟨dq_21 (d_b dk_X9_swap_0 15 rfl) (d_b dk_X9_swap_0 16 rfl), rfl⟩
theorem dX9_swap_17 : pm_dec mX9_swap 17 (.ireturn, 1) 18 := ⟨dq_172 (d_b dk_X9_swap_0 17 rfl), rfl⟩
def dt_X9_clear_0 : List Nat := [42, 3, 181, 0, 29, 177]
theorem dk_X9_clear_0 : (((mX9_clear.2.1).data.toList.drop 0).take 6).map UInt8.toNat = dt_X9_clear_0 := by decide +kernel
theorem dX9_clear_0 : pm_dec mX9_clear 0 (.aload_n 0, 1) 1 := ⟨dq_42 (d_b dk_X9_clear_0 0 rfl), rfl⟩
theorem dX9_clear_1 : pm_dec mX9_clear 1 (.iconst 0, 1) 2 := ⟨dq_3 (d_b dk_X9_clear_0 1 rfl), rfl⟩
theorem dX9_clear_2 : pm_dec mX9_clear 2 (.putfield 29, 3) 5 := ⟨dq_181 (d_b dk_X9_clear_0 2 rfl) (d_b dk_X9_clear_0 3 rfl) (d_b dk_X9_clear_0 4 rfl) rfl, rfl⟩
theorem dX9_clear_5 : pm_dec mX9_clear 5 (.return_, 1) 6 := ⟨dq_177 (d_b dk_X9_clear_0 5 rfl), rfl⟩
theorem lkX9_39 (M : pm_M) (h : M.1.cls = RX9) : pm_lk M 39 mX9_isFull := Or.inl (by rw [h]; exact (pm_it2 174 rfl (by decide +kernel)))
theorem pd___Z : (parseMethodDescriptor "()Z").map (fun d => d.parameters.length) = some 0 := by decide +kernel
theorem okV_X9_isFull : pm_mokV mX9_isFull 0 := ⟨⟨⟨(pm_it2 164 rfl (by decide +kernel)), (pm_it1 3 rfl (by decide +kernel))⟩, ⟨cn_X9.1, cn_X9.2, pd___Z⟩, by decide⟩, (pm_it2 162 rfl (by decide +kernel)), (pm_it2 163 rfl (by decide +kernel))⟩
theorem fwX9_29 (M : pm_M) (h : M.1.cls = RX9) : pm_flw M 29 9 3 .int := ⟨RX9, TX9, 4, rfl, by decide, by rw [h]; exact (pm_it1 52 rfl (by decide +kernel)), rfl, by decide +kernel⟩
theorem lkX9_35 (M : pm_M) (h : M.1.cls = RX9) : pm_lk M 35 mX9_set := Or.inl (by rw [h]; exact (pm_it2 175 rfl (by decide +kernel)))
theorem lkX9_32 (M : pm_M) (h : M.1.cls = RX9) : pm_lk M 32 mX9_get := Or.inl (by rw [h]; exact (pm_it3 29 rfl (by decide +kernel)))
theorem pd__II_I : (parseMethodDescriptor "(II)I").map (fun d => d.parameters.length) = some 2 := by decide +kernel
theorem okV_X9_get : pm_mokV mX9_get 2 := ⟨⟨⟨(pm_it2 205 rfl (by decide +kernel)), (pm_it1 3 rfl (by decide +kernel))⟩, ⟨cn_X9.1, cn_X9.2, pd__II_I⟩, by decide⟩, (pm_it2 203 rfl (by decide +kernel)), (pm_it2 204 rfl (by decide +kernel))⟩
