def dt_J1_indexOfChar_4cfef_0 : List Nat := [27, 145, 54, 4, 28, 54, 5, 21, 5, 29, 162, 0, 21, 42, 21, 5, 51, 21, 4, 160, 0, 6, 21, 5, 172, 132, 5, 1, 167, 255, 235, 2, 172]
theorem dk_J1_indexOfChar_4cfef_0 : (((mJ1_indexOfChar_4cfef.2.1).data.toList.drop 0).take 33).map UInt8.toNat = dt_J1_indexOfChar_4cfef_0 := by decide +kernel
theorem dJ1_indexOfChar_4cfef_0 : pm_dec mJ1_indexOfChar_4cfef 0 (.iload_n 1, 1) 1 := ⟨dq_27 (d_b dk_J1_indexOfChar_4cfef_0 0 rfl), rfl⟩
theorem dJ1_indexOfChar_4cfef_1 : pm_dec mJ1_indexOfChar_4cfef 1 (.i2b, 1) 2 := ⟨dq_145 (d_b dk_J1_indexOfChar_4cfef_0 1 rfl), rfl⟩
theorem dJ1_indexOfChar_4cfef_2 : pm_dec mJ1_indexOfChar_4cfef 2 (.istore 4, 2) 4 := ⟨dq_54 (d_b dk_J1_indexOfChar_4cfef_0 2 rfl) (d_b dk_J1_indexOfChar_4cfef_0 3 rfl), rfl⟩
theorem dJ1_indexOfChar_4cfef_4 : pm_dec mJ1_indexOfChar_4cfef 4 (.iload_n 2, 1) 5 := ⟨dq_28 (d_b dk_J1_indexOfChar_4cfef_0 4 rfl), rfl⟩
theorem dJ1_indexOfChar_4cfef_5 : pm_dec mJ1_indexOfChar_4cfef 5 (.istore 5, 2) 7 := ⟨dq_54 (d_b dk_J1_indexOfChar_4cfef_0 5 rfl) (d_b dk_J1_indexOfChar_4cfef_0 6 rfl), rfl⟩
theorem dJ1_indexOfChar_4cfef_7 : pm_dec mJ1_indexOfChar_4cfef 7 (.iload 5, 2) 9 := ⟨dq_21 (d_b dk_J1_indexOfChar_4cfef_0 7 rfl) (d_b dk_J1_indexOfChar_4cfef_0 8 rfl), rfl⟩
theorem dJ1_indexOfChar_4cfef_9 : pm_dec mJ1_indexOfChar_4cfef 9 (.iload_n 3, 1) 10 := ⟨dq_29 (d_b dk_J1_indexOfChar_4cfef_0 9 rfl), rfl⟩
theorem dJ1_indexOfChar_4cfef_10 : pm_dec mJ1_indexOfChar_4cfef 10 (.if_icmp .ge 21, 3) 13 := ⟨dq_162 (d_b dk_J1_indexOfChar_4cfef_0 10 rfl) (d_b dk_J1_indexOfChar_4cfef_0 11 rfl) (d_b dk_J1_indexOfChar_4cfef_0 12 rfl) (by decide), rfl⟩
theorem dJ1_indexOfChar_4cfef_13 : pm_dec mJ1_indexOfChar_4cfef 13 (.aload_n 0, 1) 14 := ⟨dq_42 (d_b dk_J1_indexOfChar_4cfef_0 13 rfl), rfl⟩
theorem dJ1_indexOfChar_4cfef_14 : pm_dec mJ1_indexOfChar_4cfef 14 (.iload 5, 2) 16 := ⟨dq_21 (d_b dk_J1_indexOfChar_4cfef_0 14 rfl) (d_b dk_J1_indexOfChar_4cfef_0 15 rfl), rfl⟩
theorem dJ1_indexOfChar_4cfef_16 : pm_dec mJ1_indexOfChar_4cfef 16 (.baload, 1) 17 := ⟨dq_51 (d_b dk_J1_indexOfChar_4cfef_0 16 rfl), rfl⟩
theorem dJ1_indexOfChar_4cfef_17 : pm_dec mJ1_indexOfChar_4cfef 17 (.iload 4, 2) 19 := ⟨dq_21 (d_b dk_J1_indexOfChar_4cfef_0 17 rfl) (d_b dk_J1_indexOfChar_4cfef_0 18 rfl), rfl⟩
theorem dJ1_indexOfChar_4cfef_19 : pm_dec mJ1_indexOfChar_4cfef 19 (.if_icmp .ne 6, 3) 22 := ⟨dq_160 (d_b dk_J1_indexOfChar_4cfef_0 19 rfl) (d_b dk_J1_indexOfChar_4cfef_0 20 rfl) (d_b dk_J1_indexOfChar_4cfef_0 21 rfl) (by decide), rfl⟩
theorem dJ1_indexOfChar_4cfef_22 : pm_dec mJ1_indexOfChar_4cfef 22 (.iload 5, 2) 24 := ⟨dq_21 (d_b dk_J1_indexOfChar_4cfef_0 22 rfl) (d_b dk_J1_indexOfChar_4cfef_0 23 rfl), rfl⟩
theorem dJ1_indexOfChar_4cfef_24 : pm_dec mJ1_indexOfChar_4cfef 24 (.ireturn, 1) 25 := ⟨dq_172 (d_b dk_J1_indexOfChar_4cfef_0 24 rfl), rfl⟩
theorem dJ1_indexOfChar_4cfef_25 : pm_dec mJ1_indexOfChar_4cfef 25 (.iinc 5 1, 3) 28 := ⟨dq_132 (d_b dk_J1_indexOfChar_4cfef_0 25 rfl) (d_b dk_J1_indexOfChar_4cfef_0 26 rfl) (d_b dk_J1_indexOfChar_4cfef_0 27 rfl) (by decide), rfl⟩
theorem dJ1_indexOfChar_4cfef_28 : pm_dec mJ1_indexOfChar_4cfef 28 (.goto (-21), 3) 31 := ⟨dq_167 (d_b dk_J1_indexOfChar_4cfef_0 28 rfl) (d_b dk_J1_indexOfChar_4cfef_0 29 rfl) (d_b dk_J1_indexOfChar_4cfef_0 30 rfl) (by decide), rfl⟩
theorem dJ1_indexOfChar_4cfef_31 : pm_dec mJ1_indexOfChar_4cfef 31 (.iconst (-1), 1) 32 := ⟨dq_2 (d_b dk_J1_indexOfChar_4cfef_0 31 rfl), rfl⟩
theorem dJ1_indexOfChar_4cfef_32 : pm_dec mJ1_indexOfChar_4cfef 32 (.ireturn, 1) 33 := ⟨dq_172 (d_b dk_J1_indexOfChar_4cfef_0 32 rfl), rfl⟩
def dt_J1_indexOf_4cfef_0 : List Nat := [27, 184, 0, 88, 154, 0, 5, 2, 172, 28, 3, 184, 0, 92, 61, 29, 42, 190, 184, 0, 38, 62, 28, 29, 161, 0, 5, 2, 172, 42, 27, 28, 29, 184, 0, 95, 172]
theorem dk_J1_indexOf_4cfef_0 : (((mJ1_indexOf_4cfef.2.1).data.toList.drop 0).take 37).map UInt8.toNat = dt_J1_indexOf_4cfef_0 := by decide +kernel
theorem dJ1_indexOf_4cfef_0 : pm_dec mJ1_indexOf_4cfef 0 (.iload_n 1, 1) 1 := ⟨dq_27 (d_b dk_J1_indexOf_4cfef_0 0 rfl), rfl⟩
theorem dJ1_indexOf_4cfef_1 : pm_dec mJ1_indexOf_4cfef 1 (.invokestatic 88, 3) 4 := ⟨dq_184 (d_b dk_J1_indexOf_4cfef_0 1 rfl) (d_b dk_J1_indexOf_4cfef_0 2 rfl) (d_b dk_J1_indexOf_4cfef_0 3 rfl) rfl, rfl⟩
theorem dJ1_indexOf_4cfef_4 : pm_dec mJ1_indexOf_4cfef 4 (.ifCond .ne 5, 3) 7 := ⟨dq_154 (d_b dk_J1_indexOf_4cfef_0 4 rfl) (d_b dk_J1_indexOf_4cfef_0 5 rfl) (d_b dk_J1_indexOf_4cfef_0 6 rfl) (by decide), rfl⟩
theorem dJ1_indexOf_4cfef_7 : pm_dec mJ1_indexOf_4cfef 7 (.iconst (-1), 1) 8 := ⟨dq_2 (d_b dk_J1_indexOf_4cfef_0 7 rfl), rfl⟩
theorem dJ1_indexOf_4cfef_8 : pm_dec mJ1_indexOf_4cfef 8 (.ireturn, 1) 9 := ⟨dq_172 (d_b dk_J1_indexOf_4cfef_0 8 rfl), rfl⟩
theorem dJ1_indexOf_4cfef_9 : pm_dec mJ1_indexOf_4cfef 9 (.iload_n 2, 1) 10 := ⟨dq_28 (d_b dk_J1_indexOf_4cfef_0 9 rfl), rfl⟩
theorem dJ1_indexOf_4cfef_10 : pm_dec mJ1_indexOf_4cfef 10 (.iconst 0, 1) 11 := ⟨dq_3 (d_b dk_J1_indexOf_4cfef_0 10 rfl), rfl⟩
theorem dJ1_indexOf_4cfef_11 : pm_dec mJ1_indexOf_4cfef 11 (.invokestatic 92, 3) 14 := ⟨dq_184 (d_b dk_J1_indexOf_4cfef_0 11 rfl) (d_b dk_J1_indexOf_4cfef_0 12 rfl) (d_b dk_J1_indexOf_4cfef_0 13 rfl) rfl, rfl⟩
theorem dJ1_indexOf_4cfef_14 : pm_dec mJ1_indexOf_4cfef 14 (.istore_n 2, 1) 15 := ⟨dq_61 (d_b dk_J1_indexOf_4cfef_0 14 rfl), rfl⟩
theorem dJ1_indexOf_4cfef_15 : pm_dec mJ1_indexOf_4cfef 15 (.iload_n 3, 1) 16 := ⟨dq_29 (d_b dk_J1_indexOf_4cfef_0 15 rfl), rfl⟩
theorem dJ1_indexOf_4cfef_16 : pm_dec mJ1_indexOf_4cfef 16 (.aload_n 0, 1) 17 := ⟨dq_42 (d_b dk_J1_indexOf_4cfef_0 16 rfl), rfl⟩
theorem dJ1_indexOf_4cfef_17 : pm_dec mJ1_indexOf_4cfef 17 (.arraylength, 1) 18 := ⟨dq_190 (d_b dk_J1_indexOf_4cfef_0 17 rfl), rfl⟩
theorem dJ1_indexOf_4cfef_18 : pm_dec mJ1_indexOf_4cfef 18 (.invokestatic 38, 3) 21 := ⟨dq_184 (d_b dk_J1_indexOf_4cfef_0 18 rfl) (d_b dk_J1_indexOf_4cfef_0 19 rfl) (d_b dk_J1_indexOf_4cfef_0 20 rfl) rfl, rfl⟩
theorem dJ1_indexOf_4cfef_21 : pm_dec mJ1_indexOf_4cfef 21 (.istore_n 3, 1) 22 := ⟨dq_62 (d_b dk_J1_indexOf_4cfef_0 21 rfl), rfl⟩
theorem dJ1_indexOf_4cfef_22 : pm_dec mJ1_indexOf_4cfef 22 (.iload_n 2, 1) 23 := ⟨dq_28 (d_b dk_J1_indexOf_4cfef_0 22 rfl), rfl⟩
theorem dJ1_indexOf_4cfef_23 : pm_dec mJ1_indexOf_4cfef 23 (.iload_n 3, 1) 24 := ⟨dq_29 (d_b dk_J1_indexOf_4cfef_0 23 rfl), rfl⟩
theorem dJ1_indexOf_4cfef_24 : pm_dec mJ1_indexOf_4cfef 24 (.if_icmp .lt 5, 3) 27 := ⟨dq_161 (d_b dk_J1_indexOf_4cfef_0 24 rfl) (d_b dk_J1_indexOf_4cfef_0 25 rfl) (d_b dk_J1_indexOf_4cfef_0 26 rfl) (by decide), rfl⟩
theorem dJ1_indexOf_4cfef_27 : pm_dec mJ1_indexOf_4cfef 27 (.iconst (-1), 1) 28 := ⟨dq_2 (d_b dk_J1_indexOf_4cfef_0 27 rfl), rfl⟩
theorem dJ1_indexOf_4cfef_28 : pm_dec mJ1_indexOf_4cfef 28 (.ireturn, 1) 29 := ⟨dq_172 (d_b dk_J1_indexOf_4cfef_0 28 rfl), rfl⟩
theorem dJ1_indexOf_4cfef_29 : pm_dec mJ1_indexOf_4cfef 29 (.aload_n 0, 1) 30 := ⟨dq_42 (d_b dk_J1_indexOf_4cfef_0 29 rfl), rfl⟩
theorem dJ1_indexOf_4cfef_30 : pm_dec mJ1_indexOf_4cfef 30 (.iload_n 1, 1) 31 := ⟨dq_27 (d_b dk_J1_indexOf_4cfef_0 30 rfl), rfl⟩
theorem dJ1_indexOf_4cfef_31 : pm_dec mJ1_indexOf_4cfef 31 (.iload_n 2, 1) 32 := ⟨dq_28 (d_b dk_J1_indexOf_4cfef_0 31 rfl), rfl⟩
theorem dJ1_indexOf_4cfef_32 : pm_dec mJ1_indexOf_4cfef 32 (.iload_n 3, 1) 33 := ⟨dq_29 (d_b dk_J1_indexOf_4cfef_0 32 rfl), rfl⟩
theorem dJ1_indexOf_4cfef_33 : pm_dec mJ1_indexOf_4cfef 33 (.invokestatic 95, 3) 36 := ⟨dq_184 (d_b dk_J1_indexOf_4cfef_0 33 rfl) (d_b dk_J1_indexOf_4cfef_0 34 rfl) (d_b dk_J1_indexOf_4cfef_0 35 rfl) rfl, rfl⟩
theorem dJ1_indexOf_4cfef_36 : pm_dec mJ1_indexOf_4cfef 36 (.ireturn, 1) 37 := ⟨dq_172 (d_b dk_J1_indexOf_4cfef_0 36 rfl), rfl⟩
def dt_J1_canEncode_9a6ad_0 : List Nat := [26, 155, 0, 14, 26, 17, 0, 255, 163, 0, 7, 4, 167, 0, 4, 3, 172]
theorem dk_J1_canEncode_9a6ad_0 : (((mJ1_canEncode_9a6ad.2.1).data.toList.drop 0).take 17).map UInt8.toNat = dt_J1_canEncode_9a6ad_0 := by decide +kernel
theorem dJ1_canEncode_9a6ad_0 : pm_dec mJ1_canEncode_9a6ad 0 (.iload_n 0, 1) 1 := ⟨dq_26 (d_b dk_J1_canEncode_9a6ad_0 0 rfl), rfl⟩
theorem dJ1_canEncode_9a6ad_1 : pm_dec mJ1_canEncode_9a6ad 1 (.ifCond .lt 14, 3) 4 := ⟨dq_155 (d_b dk_J1_canEncode_9a6ad_0 1 rfl) (d_b dk_J1_canEncode_9a6ad_0 2 rfl) (d_b dk_J1_canEncode_9a6ad_0 3 rfl) (by decide), rfl⟩
theorem dJ1_canEncode_9a6ad_4 : pm_dec mJ1_canEncode_9a6ad 4 (.iload_n 0, 1) 5 := ⟨dq_26 (d_b dk_J1_canEncode_9a6ad_0 4 rfl), rfl⟩
theorem dJ1_canEncode_9a6ad_5 : pm_dec mJ1_canEncode_9a6ad 5 (.sipush 255, 3) 8 := ⟨dq_17 (d_b dk_J1_canEncode_9a6ad_0 5 rfl) (d_b dk_J1_canEncode_9a6ad_0 6 rfl) (d_b dk_J1_canEncode_9a6ad_0 7 rfl) (by decide), rfl⟩
theorem dJ1_canEncode_9a6ad_8 : pm_dec mJ1_canEncode_9a6ad 8 (.if_icmp .gt 7, 3) 11 := ⟨dq_163 (d_b dk_J1_canEncode_9a6ad_0 8 rfl) (d_b dk_J1_canEncode_9a6ad_0 9 rfl) (d_b dk_J1_canEncode_9a6ad_0 10 rfl) (by decide), rfl⟩
theorem dJ1_canEncode_9a6ad_11 : pm_dec mJ1_canEncode_9a6ad 11 (.iconst 1, 1) 12 := ⟨dq_4 (d_b dk_J1_canEncode_9a6ad_0 11 rfl), rfl⟩
theorem dJ1_canEncode_9a6ad_12 : pm_dec mJ1_canEncode_9a6ad 12 (.goto 4, 3) 15 := ⟨dq_167 (d_b dk_J1_canEncode_9a6ad_0 12 rfl) (d_b dk_J1_canEncode_9a6ad_0 13 rfl) (d_b dk_J1_canEncode_9a6ad_0 14 rfl) (by decide), rfl⟩
theorem dJ1_canEncode_9a6ad_15 : pm_dec mJ1_canEncode_9a6ad 15 (.iconst 0, 1) 16 := ⟨dq_3 (d_b dk_J1_canEncode_9a6ad_0 15 rfl), rfl⟩
theorem dJ1_canEncode_9a6ad_16 : pm_dec mJ1_canEncode_9a6ad 16 (.ireturn, 1) 17 := ⟨dq_172 (d_b dk_J1_canEncode_9a6ad_0 16 rfl), rfl⟩
def dt_J0_coder_7d493_0 : List Nat := [178, 0, 38, 153, 0, 10, 42, 180, 0, 15, 167, 0, 4, 4, 172]
theorem dk_J0_coder_7d493_0 : (((mJ0_coder_7d493.2.1).data.toList.drop 0).take 15).map UInt8.toNat = dt_J0_coder_7d493_0 := by decide +kernel
theorem dJ0_coder_7d493_0 : pm_dec mJ0_coder_7d493 0 (.getstatic 38, 3) 3 := ⟨dq_178 (d_b dk_J0_coder_7d493_0 0 rfl) (d_b dk_J0_coder_7d493_0 1 rfl) (d_b dk_J0_coder_7d493_0 2 rfl) rfl, rfl⟩
theorem dJ0_coder_7d493_3 : pm_dec mJ0_coder_7d493 3 (.ifCond .eq 10, 3) 6 := ⟨dq_153 (d_b dk_J0_coder_7d493_0 3 rfl) (d_b dk_J0_coder_7d493_0 4 rfl) (d_b dk_J0_coder_7d493_0 5 rfl) (by decide), rfl⟩
theorem dJ0_coder_7d493_6 : pm_dec mJ0_coder_7d493 6 (.aload_n 0, 1) 7 := ⟨dq_42 (d_b dk_J0_coder_7d493_0 6 rfl), rfl⟩
theorem dJ0_coder_7d493_7 : pm_dec mJ0_coder_7d493 7 (.getfield 15, 3) 10 := ⟨dq_180 (d_b dk_J0_coder_7d493_0 7 rfl) (d_b dk_J0_coder_7d493_0 8 rfl) (d_b dk_J0_coder_7d493_0 9 rfl) rfl, rfl⟩
theorem dJ0_coder_7d493_10 : pm_dec mJ0_coder_7d493 10 (.goto 4, 3) 13 := ⟨dq_167 (d_b dk_J0_coder_7d493_0 10 rfl) (d_b dk_J0_coder_7d493_0 11 rfl) (d_b dk_J0_coder_7d493_0 12 rfl) (by decide), rfl⟩
theorem dJ0_coder_7d493_13 : pm_dec mJ0_coder_7d493 13 (.iconst 1, 1) 14 := ⟨dq_4 (d_b dk_J0_coder_7d493_0 13 rfl), rfl⟩
theorem dJ0_coder_7d493_14 : pm_dec mJ0_coder_7d493 14 (.ireturn, 1) 15 := ⟨dq_172 (d_b dk_J0_coder_7d493_0 14 rfl), rfl⟩
def dt_J0_isLatin1_aae02_0 : List Nat := [178, 0, 38, 153, 0, 14, 42, 180, 0, 15, 154, 0, 7, 4, 167, 0, 4, 3, 172]
theorem dk_J0_isLatin1_aae02_0 : (((mJ0_isLatin1_aae02.2.1).data.toList.drop 0).take 19).map UInt8.toNat = dt_J0_isLatin1_aae02_0 := by decide +kernel
theorem dJ0_isLatin1_aae02_0 : pm_dec mJ0_isLatin1_aae02 0 (.getstatic 38, 3) 3 := ⟨dq_178 (d_b dk_J0_isLatin1_aae02_0 0 rfl) (d_b dk_J0_isLatin1_aae02_0 1 rfl) (d_b dk_J0_isLatin1_aae02_0 2 rfl) rfl, rfl⟩
theorem dJ0_isLatin1_aae02_3 : pm_dec mJ0_isLatin1_aae02 3 (.ifCond .eq 14, 3) 6 := ⟨dq_153 (d_b dk_J0_isLatin1_aae02_0 3 rfl) (d_b dk_J0_isLatin1_aae02_0 4 rfl) (d_b dk_J0_isLatin1_aae02_0 5 rfl) (by decide), rfl⟩
theorem dJ0_isLatin1_aae02_6 : pm_dec mJ0_isLatin1_aae02 6 (.aload_n 0, 1) 7 := ⟨dq_42 (d_b dk_J0_isLatin1_aae02_0 6 rfl), rfl⟩
theorem dJ0_isLatin1_aae02_7 : pm_dec mJ0_isLatin1_aae02 7 (.getfield 15, 3) 10 := ⟨dq_180 (d_b dk_J0_isLatin1_aae02_0 7 rfl) (d_b dk_J0_isLatin1_aae02_0 8 rfl) (d_b dk_J0_isLatin1_aae02_0 9 rfl) rfl, rfl⟩
theorem dJ0_isLatin1_aae02_10 : pm_dec mJ0_isLatin1_aae02 10 (.ifCond .ne 7, 3) 13 := ⟨dq_154 (d_b dk_J0_isLatin1_aae02_0 10 rfl) (d_b dk_J0_isLatin1_aae02_0 11 rfl) (d_b dk_J0_isLatin1_aae02_0 12 rfl) (by decide), rfl⟩
theorem dJ0_isLatin1_aae02_13 : pm_dec mJ0_isLatin1_aae02 13 (.iconst 1, 1) 14 := ⟨dq_4 (d_b dk_J0_isLatin1_aae02_0 13 rfl), rfl⟩
theorem dJ0_isLatin1_aae02_14 : pm_dec mJ0_isLatin1_aae02 14 (.goto 4, 3) 17 := ⟨dq_167 (d_b dk_J0_isLatin1_aae02_0 14 rfl) (d_b dk_J0_isLatin1_aae02_0 15 rfl) (d_b dk_J0_isLatin1_aae02_0 16 rfl) (by decide), rfl⟩
theorem dJ0_isLatin1_aae02_17 : pm_dec mJ0_isLatin1_aae02 17 (.iconst 0, 1) 18 := ⟨dq_3 (d_b dk_J0_isLatin1_aae02_0 17 rfl), rfl⟩
theorem dJ0_isLatin1_aae02_18 : pm_dec mJ0_isLatin1_aae02 18 (.ireturn, 1) 19 := ⟨dq_172 (d_b dk_J0_isLatin1_aae02_0 18 rfl), rfl⟩
def dt_J0_length_8abf5_0 : List Nat := [42, 180, 0, 9, 190, 42, 182, 1, 79, 122, 172]
theorem dk_J0_length_8abf5_0 : (((mJ0_length_8abf5.2.1).data.toList.drop 0).take 11).map UInt8.toNat = dt_J0_length_8abf5_0 := by decide +kernel
theorem dJ0_length_8abf5_0 : pm_dec mJ0_length_8abf5 0 (.aload_n 0, 1) 1 := ⟨dq_42 (d_b dk_J0_length_8abf5_0 0 rfl), rfl⟩
theorem dJ0_length_8abf5_1 : pm_dec mJ0_length_8abf5 1 (.getfield 9, 3) 4 := ⟨dq_180 (d_b dk_J0_length_8abf5_0 1 rfl) (d_b dk_J0_length_8abf5_0 2 rfl) (d_b dk_J0_length_8abf5_0 3 rfl) rfl, rfl⟩
theorem dJ0_length_8abf5_4 : pm_dec mJ0_length_8abf5 4 (.arraylength, 1) 5 := ⟨dq_190 (d_b dk_J0_length_8abf5_0 4 rfl), rfl⟩
theorem dJ0_length_8abf5_5 : pm_dec mJ0_length_8abf5 5 (.aload_n 0, 1) 6 := ⟨dq_42 (d_b dk_J0_length_8abf5_0 5 rfl), rfl⟩
theorem dJ0_length_8abf5_6 : pm_dec mJ0_length_8abf5 6 (.invokevirtual 335, 3) 9 := ⟨dq_182 (d_b dk_J0_length_8abf5_0 6 rfl) (d_b dk_J0_length_8abf5_0 7 rfl) (d_b dk_J0_length_8abf5_0 8 rfl) rfl, rfl⟩
theorem dJ0_length_8abf5_9 : pm_dec mJ0_length_8abf5 9 (.ishr, 1) 10 := ⟨dq_122 (d_b dk_J0_length_8abf5_0 9 rfl), rfl⟩
theorem dJ0_length_8abf5_10 : pm_dec mJ0_length_8abf5 10 (.ireturn, 1) 11 := ⟨dq_172 (d_b dk_J0_length_8abf5_0 10 rfl), rfl⟩
def dt_J0_indexOf_7cf53_0 : List Nat := [42, 182, 1, 236, 153, 0, 19, 42, 180, 0, 9, 27, 28, 42, 182, 1, 249, 184, 2, 125, 167, 0, 16, 42, 180, 0, 9, 27, 28, 42, 182, 1, 249, 184, 2, 128, 172]
theorem dk_J0_indexOf_7cf53_0 : (((mJ0_indexOf_7cf53.2.1).data.toList.drop 0).take 37).map UInt8.toNat = dt_J0_indexOf_7cf53_0 := by decide +kernel
theorem dJ0_indexOf_7cf53_0 : pm_dec mJ0_indexOf_7cf53 0 (.aload_n 0, 1) 1 := ⟨dq_42 (d_b dk_J0_indexOf_7cf53_0 0 rfl), rfl⟩
theorem dJ0_indexOf_7cf53_1 : pm_dec mJ0_indexOf_7cf53 1 (.invokevirtual 492, 3) 4 := ⟨dq_182 (d_b dk_J0_indexOf_7cf53_0 1 rfl) (d_b dk_J0_indexOf_7cf53_0 2 rfl) (d_b dk_J0_indexOf_7cf53_0 3 rfl) rfl, rfl⟩
theorem dJ0_indexOf_7cf53_4 : pm_dec mJ0_indexOf_7cf53 4 (.ifCond .eq 19, 3) 7 := ⟨dq_153 (d_b dk_J0_indexOf_7cf53_0 4 rfl) (d_b dk_J0_indexOf_7cf53_0 5 rfl) (d_b dk_J0_indexOf_7cf53_0 6 rfl) (by decide), rfl⟩
theorem dJ0_indexOf_7cf53_7 : pm_dec mJ0_indexOf_7cf53 7 (.aload_n 0, 1) 8 := ⟨dq_42 (d_b dk_J0_indexOf_7cf53_0 7 rfl), rfl⟩
theorem dJ0_indexOf_7cf53_8 : pm_dec mJ0_indexOf_7cf53 8 (.getfield 9, 3) 11 := ⟨dq_180 (d_b dk_J0_indexOf_7cf53_0 8 rfl) (d_b dk_J0_indexOf_7cf53_0 9 rfl) (d_b dk_J0_indexOf_7cf53_0 10 rfl) rfl, rfl⟩
theorem dJ0_indexOf_7cf53_11 : pm_dec mJ0_indexOf_7cf53 11 (.iload_n 1, 1) 12 := ⟨dq_27 (d_b dk_J0_indexOf_7cf53_0 11 rfl), rfl⟩
theorem dJ0_indexOf_7cf53_12 : pm_dec mJ0_indexOf_7cf53 12 (.iload_n 2, 1) 13 := ⟨dq_28 (d_b dk_J0_indexOf_7cf53_0 12 rfl), rfl⟩
theorem dJ0_indexOf_7cf53_13 : pm_dec mJ0_indexOf_7cf53 13 (.aload_n 0, 1) 14 := ⟨dq_42 (d_b dk_J0_indexOf_7cf53_0 13 rfl), rfl⟩
theorem dJ0_indexOf_7cf53_14 : pm_dec mJ0_indexOf_7cf53 14 (.invokevirtual 505, 3) 17 := ⟨dq_182 (d_b dk_J0_indexOf_7cf53_0 14 rfl) (d_b dk_J0_indexOf_7cf53_0 15 rfl) (d_b dk_J0_indexOf_7cf53_0 16 rfl) rfl, rfl⟩
theorem dJ0_indexOf_7cf53_17 : pm_dec mJ0_indexOf_7cf53 17 (.invokestatic 637, 3) 20 := ⟨dq_184 (d_b dk_J0_indexOf_7cf53_0 17 rfl) (d_b dk_J0_indexOf_7cf53_0 18 rfl) (d_b dk_J0_indexOf_7cf53_0 19 rfl) rfl, rfl⟩
theorem dJ0_indexOf_7cf53_20 : pm_dec mJ0_indexOf_7cf53 20 (.goto 16, 3) 23 := ⟨dq_167 (d_b dk_J0_indexOf_7cf53_0 20 rfl) (d_b dk_J0_indexOf_7cf53_0 21 rfl) (d_b dk_J0_indexOf_7cf53_0 22 rfl) (by decide), rfl⟩
theorem dJ0_indexOf_7cf53_23 : pm_dec mJ0_indexOf_7cf53 23 (.aload_n 0, 1) 24 := ⟨dq_42 (d_b dk_J0_indexOf_7cf53_0 23 rfl), rfl⟩
theorem dJ0_indexOf_7cf53_24 : pm_dec mJ0_indexOf_7cf53 24 (.getfield 9, 3) 27 := ⟨dq_180 (d_b dk_J0_indexOf_7cf53_0 24 rfl) (d_b dk_J0_indexOf_7cf53_0 25 rfl) (d_b dk_J0_indexOf_7cf53_0 26 rfl) rfl, rfl⟩
theorem dJ0_indexOf_7cf53_27 : pm_dec mJ0_indexOf_7cf53 27 (.iload_n 1, 1) 28 := ⟨dq_27 (d_b dk_J0_indexOf_7cf53_0 27 rfl), rfl⟩
theorem dJ0_indexOf_7cf53_28 : pm_dec mJ0_indexOf_7cf53 28 (.iload_n 2, 1) 29 := ⟨dq_28 (d_b dk_J0_indexOf_7cf53_0 28 rfl), rfl⟩
theorem dJ0_indexOf_7cf53_29 : pm_dec mJ0_indexOf_7cf53 29 (.aload_n 0, 1) 30 := ⟨dq_42 (d_b dk_J0_indexOf_7cf53_0 29 rfl), rfl⟩
theorem dJ0_indexOf_7cf53_30 : pm_dec mJ0_indexOf_7cf53 30 (.invokevirtual 505, 3) 33 := ⟨dq_182 (d_b dk_J0_indexOf_7cf53_0 30 rfl) (d_b dk_J0_indexOf_7cf53_0 31 rfl) (d_b dk_J0_indexOf_7cf53_0 32 rfl) rfl, rfl⟩
theorem dJ0_indexOf_7cf53_33 : pm_dec mJ0_indexOf_7cf53 33 (.invokestatic 640, 3) 36 := ⟨dq_184 (d_b dk_J0_indexOf_7cf53_0 33 rfl) (d_b dk_J0_indexOf_7cf53_0 34 rfl) (d_b dk_J0_indexOf_7cf53_0 35 rfl) rfl, rfl⟩
theorem dJ0_indexOf_7cf53_36 : pm_dec mJ0_indexOf_7cf53 36 (.ireturn, 1) 37 := ⟨dq_172 (d_b dk_J0_indexOf_7cf53_0 36 rfl), rfl⟩
def dt_J0_indexOf_0f7a4_0 : List Nat := [42, 27, 3, 182, 2, 121, 172]
theorem dk_J0_indexOf_0f7a4_0 : (((mJ0_indexOf_0f7a4.2.1).data.toList.drop 0).take 7).map UInt8.toNat = dt_J0_indexOf_0f7a4_0 := by decide +kernel
theorem dJ0_indexOf_0f7a4_0 : pm_dec mJ0_indexOf_0f7a4 0 (.aload_n 0, 1) 1 := ⟨dq_42 (d_b dk_J0_indexOf_0f7a4_0 0 rfl), rfl⟩
theorem dJ0_indexOf_0f7a4_1 : pm_dec mJ0_indexOf_0f7a4 1 (.iload_n 1, 1) 2 := ⟨dq_27 (d_b dk_J0_indexOf_0f7a4_0 1 rfl), rfl⟩
theorem dJ0_indexOf_0f7a4_2 : pm_dec mJ0_indexOf_0f7a4 2 (.iconst 0, 1) 3 := ⟨dq_3 (d_b dk_J0_indexOf_0f7a4_0 2 rfl), rfl⟩
theorem dJ0_indexOf_0f7a4_3 : pm_dec mJ0_indexOf_0f7a4 3 (.invokevirtual 633, 3) 6 := ⟨dq_182 (d_b dk_J0_indexOf_0f7a4_0 3 rfl) (d_b dk_J0_indexOf_0f7a4_0 4 rfl) (d_b dk_J0_indexOf_0f7a4_0 5 rfl) rfl, rfl⟩
theorem dJ0_indexOf_0f7a4_6 : pm_dec mJ0_indexOf_0f7a4 6 (.ireturn, 1) 7 := ⟨dq_172 (d_b dk_J0_indexOf_0f7a4_0 6 rfl), rfl⟩
theorem acX9_49 (M : pm_M) (h : M.1.cls = RX9) : Cond.methodLink M.1.cls 49 arraycopyName ∈ pm_tbl := by rw [h]; exact (pm_it6 106 rfl (by decide +kernel))
theorem lkJ1_88 (M : pm_M) (h : M.1.cls = RJ1) : pm_lk M 88 mJ1_canEncode_9a6ad := Or.inl (by rw [h]; exact (pm_it3 217 rfl (by decide +kernel)))
theorem cn_J1 : RJ1 ≠ "java/lang/invoke/MethodHandle" ∧ RJ1 ≠ "java/lang/invoke/VarHandle" := by decide +kernel
theorem okS_J1_canEncode_9a6ad : pm_mokS mJ1_canEncode_9a6ad 1 := ⟨⟨⟨(pm_it3 219 rfl (by decide +kernel)), (pm_it1 17 rfl (by decide +kernel))⟩, ⟨cn_J1.1, cn_J1.2, pd__I_Z⟩, by decide⟩, (pm_it3 218 rfl (by decide +kernel))⟩
theorem mmJ1_92 (M : pm_M) (h : M.1.cls = RJ1) : Cond.methodLink M.1.cls 92 Lib.Math.max.name ∈ pm_tbl := by rw [h]; exact (pm_it3 220 rfl (by decide +kernel))
theorem mmJ1_38 (M : pm_M) (h : M.1.cls = RJ1) : Cond.methodLink M.1.cls 38 Lib.Math.min.name ∈ pm_tbl := by rw [h]; exact (pm_it3 221 rfl (by decide +kernel))
theorem lkJ1_95 (M : pm_M) (h : M.1.cls = RJ1) : pm_lk M 95 mJ1_indexOfChar_4cfef := Or.inl (by rw [h]; exact (pm_it3 222 rfl (by decide +kernel)))
theorem pd___BIII_I : (parseMethodDescriptor "([BIII)I").map (fun d => d.parameters.length) = some 4 := by decide +kernel
theorem okS_J1_indexOfChar_4cfef : pm_mokS mJ1_indexOfChar_4cfef 4 := ⟨⟨⟨(pm_it3 224 rfl (by decide +kernel)), (pm_it1 17 rfl (by decide +kernel))⟩, ⟨cn_J1.1, cn_J1.2, pd___BIII_I⟩, by decide⟩, (pm_it3 223 rfl (by decide +kernel))⟩
theorem lpJ1_95 (M : pm_M) (h : M.1.cls = RJ1) : Cond.methodLink M.1.cls 95 mJ1_indexOfChar_4cfef.1 ∈ pm_tbl := by rw [h]; exact (pm_it3 222 rfl (by decide +kernel))
theorem foJ0_38 (M : pm_M) (h : M.1.cls = RJ0) : Cond.fieldLink M.1.cls 38 "java/lang/String" "COMPACT_STRINGS" "Z" ∈ pm_tbl := by rw [h]; exact (pm_it3 204 rfl (by decide +kernel))
theorem foJ0_15 (M : pm_M) (h : M.1.cls = RJ0) : Cond.fieldLink M.1.cls 15 "java/lang/String" "coder" "B" ∈ pm_tbl := by rw [h]; exact (pm_it9 17 rfl (by decide +kernel))
theorem foJ0_9 (M : pm_M) (h : M.1.cls = RJ0) : Cond.fieldLink M.1.cls 9 "java/lang/String" "value" "[B" ∈ pm_tbl := by rw [h]; exact (pm_it9 18 rfl (by decide +kernel))
theorem lkJ0_335 (M : pm_M) (h : M.1.cls = RJ0) : pm_lk M 335 mJ0_coder_7d493 := Or.inl (by rw [h]; exact (pm_it3 210 rfl (by decide +kernel)))
theorem pd___B : (parseMethodDescriptor "()B").map (fun d => d.parameters.length) = some 0 := by decide +kernel
theorem okV_J0_coder_7d493 : pm_mokV mJ0_coder_7d493 0 := ⟨⟨⟨(pm_it3 213 rfl (by decide +kernel)), (pm_it1 16 rfl (by decide +kernel))⟩, ⟨cn_J0.1, cn_J0.2, pd___B⟩, by decide⟩, (pm_it3 211 rfl (by decide +kernel)), (pm_it3 212 rfl (by decide +kernel))⟩
theorem lpJ0_335 (M : pm_M) (h : M.1.cls = RJ0) : Cond.methodLink M.1.cls 335 mJ0_coder_7d493.1 ∈ pm_tbl := by rw [h]; exact (pm_it3 210 rfl (by decide +kernel))
theorem lkJ0_492 (M : pm_M) (h : M.1.cls = RJ0) : pm_lk M 492 mJ0_isLatin1_aae02 := Or.inl (by rw [h]; exact (pm_it3 200 rfl (by decide +kernel)))
theorem okV_J0_isLatin1_aae02 : pm_mokV mJ0_isLatin1_aae02 0 := ⟨⟨⟨(pm_it3 203 rfl (by decide +kernel)), (pm_it1 16 rfl (by decide +kernel))⟩, ⟨cn_J0.1, cn_J0.2, pd___Z⟩, by decide⟩, (pm_it3 201 rfl (by decide +kernel)), (pm_it3 202 rfl (by decide +kernel))⟩
theorem lpJ0_492 (M : pm_M) (h : M.1.cls = RJ0) : Cond.methodLink M.1.cls 492 mJ0_isLatin1_aae02.1 ∈ pm_tbl := by rw [h]; exact (pm_it3 200 rfl (by decide +kernel))
theorem lkJ0_505 (M : pm_M) (h : M.1.cls = RJ0) : pm_lk M 505 mJ0_length_8abf5 := Or.inl (by rw [h]; exact (pm_it3 206 rfl (by decide +kernel)))
theorem okV_J0_length_8abf5 : pm_mokV mJ0_length_8abf5 0 := ⟨⟨⟨(pm_it3 209 rfl (by decide +kernel)), (pm_it1 16 rfl (by decide +kernel))⟩, ⟨cn_J0.1, cn_J0.2, pd___I⟩, by decide⟩, (pm_it3 207 rfl (by decide +kernel)), (pm_it3 208 rfl (by decide +kernel))⟩
theorem lpJ0_505 (M : pm_M) (h : M.1.cls = RJ0) : Cond.methodLink M.1.cls 505 mJ0_length_8abf5.1 ∈ pm_tbl := by rw [h]; exact (pm_it3 206 rfl (by decide +kernel))
theorem lkJ0_637 (M : pm_M) (h : M.1.cls = RJ0) : pm_lk M 637 mJ1_indexOf_4cfef := Or.inl (by rw [h]; exact (pm_it3 214 rfl (by decide +kernel)))
theorem okS_J1_indexOf_4cfef : pm_mokS mJ1_indexOf_4cfef 4 := ⟨⟨⟨(pm_it3 216 rfl (by decide +kernel)), (pm_it1 17 rfl (by decide +kernel))⟩, ⟨cn_J1.1, cn_J1.2, pd___BIII_I⟩, by decide⟩, (pm_it3 215 rfl (by decide +kernel))⟩
theorem lpJ0_637 (M : pm_M) (h : M.1.cls = RJ0) : Cond.methodLink M.1.cls 637 mJ1_indexOf_4cfef.1 ∈ pm_tbl := by rw [h]; exact (pm_it3 214 rfl (by decide +kernel))
theorem lkJ0_633 (M : pm_M) (h : M.1.cls = RJ0) : pm_lk M 633 mJ0_indexOf_7cf53 := Or.inl (by rw [h]; exact (pm_it3 196 rfl (by decide +kernel)))
theorem okV_J0_indexOf_7cf53 : pm_mokV mJ0_indexOf_7cf53 2 := ⟨⟨⟨(pm_it3 199 rfl (by decide +kernel)), (pm_it1 16 rfl (by decide +kernel))⟩, ⟨cn_J0.1, cn_J0.2, pd__II_I⟩, by decide⟩, (pm_it3 197 rfl (by decide +kernel)), (pm_it3 198 rfl (by decide +kernel))⟩
theorem lpJ0_633 (M : pm_M) (h : M.1.cls = RJ0) : Cond.methodLink M.1.cls 633 mJ0_indexOf_7cf53.1 ∈ pm_tbl := by rw [h]; exact (pm_it3 196 rfl (by decide +kernel))
theorem mmX7_106 (M : pm_M) (h : M.1.cls = RX7) : Cond.methodLink M.1.cls 106 Lib.Math.max.name ∈ pm_tbl := by rw [h]; exact (pm_it3 34 rfl (by decide +kernel))
theorem fsX7_134 (M : pm_M) (h : M.1.cls = RX7) : Cond.fieldLinkNest M.1.cls 134 "SealCouncil" "ABOVE" "[I" "SealCouncil" ∈ pm_nest := by rw [h]; exact (pm_in3 107 rfl (by decide +kernel))
theorem mmX2_74 (M : pm_M) (h : M.1.cls = RX2) : Cond.methodLink M.1.cls 74 Lib.Math.min.name ∈ pm_tbl := by rw [h]; exact (pm_it5 223 rfl (by decide +kernel))
theorem lpX6_65 (M : pm_M) (h : M.1.cls = RX6) : Cond.methodLink M.1.cls 65 mJ0_indexOf_0f7a4.1 ∈ pm_tbl := by rw [h]; exact (pm_it3 192 rfl (by decide +kernel))
theorem rg_1_3 {x : Int32} (h1 : ¬ x < 1) (h2 : ¬ 3 < x) : x = 1 ∨ x = 2 ∨ x = 3 := by
  have a1 : (1 : Int32).toInt = 1 := by decide
  have a2 : (3 : Int32).toInt = 3 := by decide
  simp only [Int32.lt_iff_toInt_lt, a1, a2] at h1 h2
  rcases (show x.toInt = 1 ∨ x.toInt = 2 ∨ x.toInt = 3 by omega) with h | h | h
  · exact Or.inl (Int32.toInt_inj.mp (h.trans (show 1 = (1 : Int32).toInt by decide)))
  · exact Or.inr (Or.inl (Int32.toInt_inj.mp (h.trans (show 2 = (2 : Int32).toInt by decide))))
  · exact Or.inr (Or.inr ((Int32.toInt_inj.mp (h.trans (show 3 = (3 : Int32).toInt by decide)))))
theorem mmX1_47 (M : pm_M) (h : M.1.cls = RX1) : Cond.methodLink M.1.cls 47 Lib.Math.max.name ∈ pm_tbl := by rw [h]; exact (pm_it5 170 rfl (by decide +kernel))
theorem mmX5_65 (M : pm_M) (h : M.1.cls = RX5) : Cond.methodLink M.1.cls 65 Lib.Math.max.name ∈ pm_tbl := by rw [h]; exact (pm_it6 24 rfl (by decide +kernel))
theorem mmX7_87 (M : pm_M) (h : M.1.cls = RX7) : Cond.methodLink M.1.cls 87 Lib.Math.min.name ∈ pm_tbl := by rw [h]; exact (pm_it2 206 rfl (by decide +kernel))
