def dt_J1_indexOfChar_4cfef_0 : List (Nat × (Instr × Nat)) := [(0, (.iload_n 1, 1)), (1, (.i2b, 1)), (2, (.istore 4, 2)), (4, (.iload_n 2, 1)), (5, (.istore 5, 2)), (7, (.iload 5, 2)), (9, (.iload_n 3, 1)), (10, (.if_icmp .ge 21, 3)), (13, (.aload_n 0, 1)), (14, (.iload 5, 2)), (16, (.baload, 1)), (17, (.iload 4, 2)), (19, (.if_icmp .ne 6, 3)), (22, (.iload 5, 2)), (24, (.ireturn, 1)), (25, (.iinc 5 1, 3)), (28, (.goto (-21), 3)), (31, (.iconst (-1), 1)), (32, (.ireturn, 1))]
theorem dk_J1_indexOfChar_4cfef_0 : pm_dc mJ1_indexOfChar_4cfef.2.1 dt_J1_indexOfChar_4cfef_0 = true := by decide +kernel
theorem dJ1_indexOfChar_4cfef_0 : pm_dec mJ1_indexOfChar_4cfef 0 (.iload_n 1, 1) 1 := ⟨pm_dcA dk_J1_indexOfChar_4cfef_0 0 rfl, rfl⟩
theorem dJ1_indexOfChar_4cfef_1 : pm_dec mJ1_indexOfChar_4cfef 1 (.i2b, 1) 2 := ⟨pm_dcA dk_J1_indexOfChar_4cfef_0 1 rfl, rfl⟩
theorem dJ1_indexOfChar_4cfef_2 : pm_dec mJ1_indexOfChar_4cfef 2 (.istore 4, 2) 4 := ⟨pm_dcA dk_J1_indexOfChar_4cfef_0 2 rfl, rfl⟩
theorem dJ1_indexOfChar_4cfef_4 : pm_dec mJ1_indexOfChar_4cfef 4 (.iload_n 2, 1) 5 := ⟨pm_dcA dk_J1_indexOfChar_4cfef_0 3 rfl, rfl⟩
theorem dJ1_indexOfChar_4cfef_5 : pm_dec mJ1_indexOfChar_4cfef 5 (.istore 5, 2) 7 := ⟨pm_dcA dk_J1_indexOfChar_4cfef_0 4 rfl, rfl⟩
theorem dJ1_indexOfChar_4cfef_7 : pm_dec mJ1_indexOfChar_4cfef 7 (.iload 5, 2) 9 := ⟨pm_dcA dk_J1_indexOfChar_4cfef_0 5 rfl, rfl⟩
theorem dJ1_indexOfChar_4cfef_9 : pm_dec mJ1_indexOfChar_4cfef 9 (.iload_n 3, 1) 10 := ⟨pm_dcA dk_J1_indexOfChar_4cfef_0 6 rfl, rfl⟩
theorem dJ1_indexOfChar_4cfef_10 : pm_dec mJ1_indexOfChar_4cfef 10 (.if_icmp .ge 21, 3) 13 := ⟨pm_dcA dk_J1_indexOfChar_4cfef_0 7 rfl, rfl⟩
theorem dJ1_indexOfChar_4cfef_13 : pm_dec mJ1_indexOfChar_4cfef 13 (.aload_n 0, 1) 14 := ⟨pm_dcA dk_J1_indexOfChar_4cfef_0 8 rfl, rfl⟩
theorem dJ1_indexOfChar_4cfef_14 : pm_dec mJ1_indexOfChar_4cfef 14 (.iload 5, 2) 16 := ⟨pm_dcA dk_J1_indexOfChar_4cfef_0 9 rfl, rfl⟩
theorem dJ1_indexOfChar_4cfef_16 : pm_dec mJ1_indexOfChar_4cfef 16 (.baload, 1) 17 := ⟨pm_dcA dk_J1_indexOfChar_4cfef_0 10 rfl, rfl⟩
theorem dJ1_indexOfChar_4cfef_17 : pm_dec mJ1_indexOfChar_4cfef 17 (.iload 4, 2) 19 := ⟨pm_dcA dk_J1_indexOfChar_4cfef_0 11 rfl, rfl⟩
theorem dJ1_indexOfChar_4cfef_19 : pm_dec mJ1_indexOfChar_4cfef 19 (.if_icmp .ne 6, 3) 22 := ⟨pm_dcA dk_J1_indexOfChar_4cfef_0 12 rfl, rfl⟩
theorem dJ1_indexOfChar_4cfef_22 : pm_dec mJ1_indexOfChar_4cfef 22 (.iload 5, 2) 24 := ⟨pm_dcA dk_J1_indexOfChar_4cfef_0 13 rfl, rfl⟩
theorem dJ1_indexOfChar_4cfef_24 : pm_dec mJ1_indexOfChar_4cfef 24 (.ireturn, 1) 25 := ⟨pm_dcA dk_J1_indexOfChar_4cfef_0 14 rfl, rfl⟩
theorem dJ1_indexOfChar_4cfef_25 : pm_dec mJ1_indexOfChar_4cfef 25 (.iinc 5 1, 3) 28 := ⟨pm_dcA dk_J1_indexOfChar_4cfef_0 15 rfl, rfl⟩
theorem dJ1_indexOfChar_4cfef_28 : pm_dec mJ1_indexOfChar_4cfef 28 (.goto (-21), 3) 31 := ⟨pm_dcA dk_J1_indexOfChar_4cfef_0 16 rfl, rfl⟩
theorem dJ1_indexOfChar_4cfef_31 : pm_dec mJ1_indexOfChar_4cfef 31 (.iconst (-1), 1) 32 := ⟨pm_dcA dk_J1_indexOfChar_4cfef_0 17 rfl, rfl⟩
theorem dJ1_indexOfChar_4cfef_32 : pm_dec mJ1_indexOfChar_4cfef 32 (.ireturn, 1) 33 := ⟨pm_dcA dk_J1_indexOfChar_4cfef_0 18 rfl, rfl⟩
def dt_J1_indexOf_4cfef_0 : List (Nat × (Instr × Nat)) := [(0, (.iload_n 1, 1)), (1, (.invokestatic 88, 3)), (4, (.ifCond .ne 5, 3)), (7, (.iconst (-1), 1)), (8, (.ireturn, 1)), (9, (.iload_n 2, 1)), (10, (.iconst 0, 1)), (11, (.invokestatic 92, 3)), (14, (.istore_n 2, 1)), (15, (.iload_n 3, 1)), (16, (.aload_n 0, 1)), (17, (.arraylength, 1)), (18, (.invokestatic 38, 3)), (21, (.istore_n 3, 1)), (22, (.iload_n 2, 1)), (23, (.iload_n 3, 1)), (24, (.if_icmp .lt 5, 3)), (27, (.iconst (-1), 1)), (28, (.ireturn, 1)), (29, (.aload_n 0, 1)), (30, (.iload_n 1, 1)), (31, (.iload_n 2, 1)), (32, (.iload_n 3, 1)), (33, (.invokestatic 95, 3)), (36, (.ireturn, 1))]
theorem dk_J1_indexOf_4cfef_0 : pm_dc mJ1_indexOf_4cfef.2.1 dt_J1_indexOf_4cfef_0 = true := by decide +kernel
theorem dJ1_indexOf_4cfef_0 : pm_dec mJ1_indexOf_4cfef 0 (.iload_n 1, 1) 1 := ⟨pm_dcA dk_J1_indexOf_4cfef_0 0 rfl, rfl⟩
theorem dJ1_indexOf_4cfef_1 : pm_dec mJ1_indexOf_4cfef 1 (.invokestatic 88, 3) 4 := ⟨pm_dcA dk_J1_indexOf_4cfef_0 1 rfl, rfl⟩
theorem dJ1_indexOf_4cfef_4 : pm_dec mJ1_indexOf_4cfef 4 (.ifCond .ne 5, 3) 7 := ⟨pm_dcA dk_J1_indexOf_4cfef_0 2 rfl, rfl⟩
theorem dJ1_indexOf_4cfef_7 : pm_dec mJ1_indexOf_4cfef 7 (.iconst (-1), 1) 8 := ⟨pm_dcA dk_J1_indexOf_4cfef_0 3 rfl, rfl⟩
theorem dJ1_indexOf_4cfef_8 : pm_dec mJ1_indexOf_4cfef 8 (.ireturn, 1) 9 := ⟨pm_dcA dk_J1_indexOf_4cfef_0 4 rfl, rfl⟩
theorem dJ1_indexOf_4cfef_9 : pm_dec mJ1_indexOf_4cfef 9 (.iload_n 2, 1) 10 := ⟨pm_dcA dk_J1_indexOf_4cfef_0 5 rfl, rfl⟩
theorem dJ1_indexOf_4cfef_10 : pm_dec mJ1_indexOf_4cfef 10 (.iconst 0, 1) 11 := ⟨pm_dcA dk_J1_indexOf_4cfef_0 6 rfl, rfl⟩
theorem dJ1_indexOf_4cfef_11 : pm_dec mJ1_indexOf_4cfef 11 (.invokestatic 92, 3) 14 := ⟨pm_dcA dk_J1_indexOf_4cfef_0 7 rfl, rfl⟩
theorem dJ1_indexOf_4cfef_14 : pm_dec mJ1_indexOf_4cfef 14 (.istore_n 2, 1) 15 := ⟨pm_dcA dk_J1_indexOf_4cfef_0 8 rfl, rfl⟩
theorem dJ1_indexOf_4cfef_15 : pm_dec mJ1_indexOf_4cfef 15 (.iload_n 3, 1) 16 := ⟨pm_dcA dk_J1_indexOf_4cfef_0 9 rfl, rfl⟩
theorem dJ1_indexOf_4cfef_16 : pm_dec mJ1_indexOf_4cfef 16 (.aload_n 0, 1) 17 := ⟨pm_dcA dk_J1_indexOf_4cfef_0 10 rfl, rfl⟩
theorem dJ1_indexOf_4cfef_17 : pm_dec mJ1_indexOf_4cfef 17 (.arraylength, 1) 18 := ⟨pm_dcA dk_J1_indexOf_4cfef_0 11 rfl, rfl⟩
theorem dJ1_indexOf_4cfef_18 : pm_dec mJ1_indexOf_4cfef 18 (.invokestatic 38, 3) 21 := ⟨pm_dcA dk_J1_indexOf_4cfef_0 12 rfl, rfl⟩
theorem dJ1_indexOf_4cfef_21 : pm_dec mJ1_indexOf_4cfef 21 (.istore_n 3, 1) 22 := ⟨pm_dcA dk_J1_indexOf_4cfef_0 13 rfl, rfl⟩
theorem dJ1_indexOf_4cfef_22 : pm_dec mJ1_indexOf_4cfef 22 (.iload_n 2, 1) 23 := ⟨pm_dcA dk_J1_indexOf_4cfef_0 14 rfl, rfl⟩
theorem dJ1_indexOf_4cfef_23 : pm_dec mJ1_indexOf_4cfef 23 (.iload_n 3, 1) 24 := ⟨pm_dcA dk_J1_indexOf_4cfef_0 15 rfl, rfl⟩
theorem dJ1_indexOf_4cfef_24 : pm_dec mJ1_indexOf_4cfef 24 (.if_icmp .lt 5, 3) 27 := ⟨pm_dcA dk_J1_indexOf_4cfef_0 16 rfl, rfl⟩
theorem dJ1_indexOf_4cfef_27 : pm_dec mJ1_indexOf_4cfef 27 (.iconst (-1), 1) 28 := ⟨pm_dcA dk_J1_indexOf_4cfef_0 17 rfl, rfl⟩
theorem dJ1_indexOf_4cfef_28 : pm_dec mJ1_indexOf_4cfef 28 (.ireturn, 1) 29 := ⟨pm_dcA dk_J1_indexOf_4cfef_0 18 rfl, rfl⟩
theorem dJ1_indexOf_4cfef_29 : pm_dec mJ1_indexOf_4cfef 29 (.aload_n 0, 1) 30 := ⟨pm_dcA dk_J1_indexOf_4cfef_0 19 rfl, rfl⟩
theorem dJ1_indexOf_4cfef_30 : pm_dec mJ1_indexOf_4cfef 30 (.iload_n 1, 1) 31 := ⟨pm_dcA dk_J1_indexOf_4cfef_0 20 rfl, rfl⟩
theorem dJ1_indexOf_4cfef_31 : pm_dec mJ1_indexOf_4cfef 31 (.iload_n 2, 1) 32 := ⟨pm_dcA dk_J1_indexOf_4cfef_0 21 rfl, rfl⟩
theorem dJ1_indexOf_4cfef_32 : pm_dec mJ1_indexOf_4cfef 32 (.iload_n 3, 1) 33 := ⟨pm_dcA dk_J1_indexOf_4cfef_0 22 rfl, rfl⟩
theorem dJ1_indexOf_4cfef_33 : pm_dec mJ1_indexOf_4cfef 33 (.invokestatic 95, 3) 36 := ⟨pm_dcA dk_J1_indexOf_4cfef_0 23 rfl, rfl⟩
theorem dJ1_indexOf_4cfef_36 : pm_dec mJ1_indexOf_4cfef 36 (.ireturn, 1) 37 := ⟨pm_dcA dk_J1_indexOf_4cfef_0 24 rfl, rfl⟩
def dt_J1_canEncode_9a6ad_0 : List (Nat × (Instr × Nat)) := [(0, (.iload_n 0, 1)), (1, (.ifCond .lt 14, 3)), (4, (.iload_n 0, 1)), (5, (.sipush 255, 3)), (8, (.if_icmp .gt 7, 3)), (11, (.iconst 1, 1)), (12, (.goto 4, 3)), (15, (.iconst 0, 1)), (16, (.ireturn, 1))]
theorem dk_J1_canEncode_9a6ad_0 : pm_dc mJ1_canEncode_9a6ad.2.1 dt_J1_canEncode_9a6ad_0 = true := by decide +kernel
theorem dJ1_canEncode_9a6ad_0 : pm_dec mJ1_canEncode_9a6ad 0 (.iload_n 0, 1) 1 := ⟨pm_dcA dk_J1_canEncode_9a6ad_0 0 rfl, rfl⟩
theorem dJ1_canEncode_9a6ad_1 : pm_dec mJ1_canEncode_9a6ad 1 (.ifCond .lt 14, 3) 4 := ⟨pm_dcA dk_J1_canEncode_9a6ad_0 1 rfl, rfl⟩
theorem dJ1_canEncode_9a6ad_4 : pm_dec mJ1_canEncode_9a6ad 4 (.iload_n 0, 1) 5 := ⟨pm_dcA dk_J1_canEncode_9a6ad_0 2 rfl, rfl⟩
theorem dJ1_canEncode_9a6ad_5 : pm_dec mJ1_canEncode_9a6ad 5 (.sipush 255, 3) 8 := ⟨pm_dcA dk_J1_canEncode_9a6ad_0 3 rfl, rfl⟩
theorem dJ1_canEncode_9a6ad_8 : pm_dec mJ1_canEncode_9a6ad 8 (.if_icmp .gt 7, 3) 11 := ⟨pm_dcA dk_J1_canEncode_9a6ad_0 4 rfl, rfl⟩
theorem dJ1_canEncode_9a6ad_11 : pm_dec mJ1_canEncode_9a6ad 11 (.iconst 1, 1) 12 := ⟨pm_dcA dk_J1_canEncode_9a6ad_0 5 rfl, rfl⟩
theorem dJ1_canEncode_9a6ad_12 : pm_dec mJ1_canEncode_9a6ad 12 (.goto 4, 3) 15 := ⟨pm_dcA dk_J1_canEncode_9a6ad_0 6 rfl, rfl⟩
theorem dJ1_canEncode_9a6ad_15 : pm_dec mJ1_canEncode_9a6ad 15 (.iconst 0, 1) 16 := ⟨pm_dcA dk_J1_canEncode_9a6ad_0 7 rfl, rfl⟩
theorem dJ1_canEncode_9a6ad_16 : pm_dec mJ1_canEncode_9a6ad 16 (.ireturn, 1) 17 := ⟨pm_dcA dk_J1_canEncode_9a6ad_0 8 rfl, rfl⟩
def dt_J0_coder_7d493_0 : List (Nat × (Instr × Nat)) := [(0, (.getstatic 38, 3)), (3, (.ifCond .eq 10, 3)), (6, (.aload_n 0, 1)), (7, (.getfield 15, 3)), (10, (.goto 4, 3)), (13, (.iconst 1, 1)), (14, (.ireturn, 1))]
theorem dk_J0_coder_7d493_0 : pm_dc mJ0_coder_7d493.2.1 dt_J0_coder_7d493_0 = true := by decide +kernel
theorem dJ0_coder_7d493_0 : pm_dec mJ0_coder_7d493 0 (.getstatic 38, 3) 3 := ⟨pm_dcA dk_J0_coder_7d493_0 0 rfl, rfl⟩
theorem dJ0_coder_7d493_3 : pm_dec mJ0_coder_7d493 3 (.ifCond .eq 10, 3) 6 := ⟨pm_dcA dk_J0_coder_7d493_0 1 rfl, rfl⟩
theorem dJ0_coder_7d493_6 : pm_dec mJ0_coder_7d493 6 (.aload_n 0, 1) 7 := ⟨pm_dcA dk_J0_coder_7d493_0 2 rfl, rfl⟩
theorem dJ0_coder_7d493_7 : pm_dec mJ0_coder_7d493 7 (.getfield 15, 3) 10 := ⟨pm_dcA dk_J0_coder_7d493_0 3 rfl, rfl⟩
theorem dJ0_coder_7d493_10 : pm_dec mJ0_coder_7d493 10 (.goto 4, 3) 13 := ⟨pm_dcA dk_J0_coder_7d493_0 4 rfl, rfl⟩
theorem dJ0_coder_7d493_13 : pm_dec mJ0_coder_7d493 13 (.iconst 1, 1) 14 := ⟨pm_dcA dk_J0_coder_7d493_0 5 rfl, rfl⟩
theorem dJ0_coder_7d493_14 : pm_dec mJ0_coder_7d493 14 (.ireturn, 1) 15 := ⟨pm_dcA dk_J0_coder_7d493_0 6 rfl, rfl⟩
def dt_J0_isLatin1_aae02_0 : List (Nat × (Instr × Nat)) := [(0, (.getstatic 38, 3)), (3, (.ifCond .eq 14, 3)), (6, (.aload_n 0, 1)), (7, (.getfield 15, 3)), (10, (.ifCond .ne 7, 3)), (13, (.iconst 1, 1)), (14, (.goto 4, 3)), (17, (.iconst 0, 1)), (18, (.ireturn, 1))]
theorem dk_J0_isLatin1_aae02_0 : pm_dc mJ0_isLatin1_aae02.2.1 dt_J0_isLatin1_aae02_0 = true := by decide +kernel
theorem dJ0_isLatin1_aae02_0 : pm_dec mJ0_isLatin1_aae02 0 (.getstatic 38, 3) 3 := ⟨pm_dcA dk_J0_isLatin1_aae02_0 0 rfl, rfl⟩
theorem dJ0_isLatin1_aae02_3 : pm_dec mJ0_isLatin1_aae02 3 (.ifCond .eq 14, 3) 6 := ⟨pm_dcA dk_J0_isLatin1_aae02_0 1 rfl, rfl⟩
theorem dJ0_isLatin1_aae02_6 : pm_dec mJ0_isLatin1_aae02 6 (.aload_n 0, 1) 7 := ⟨pm_dcA dk_J0_isLatin1_aae02_0 2 rfl, rfl⟩
theorem dJ0_isLatin1_aae02_7 : pm_dec mJ0_isLatin1_aae02 7 (.getfield 15, 3) 10 := ⟨pm_dcA dk_J0_isLatin1_aae02_0 3 rfl, rfl⟩
theorem dJ0_isLatin1_aae02_10 : pm_dec mJ0_isLatin1_aae02 10 (.ifCond .ne 7, 3) 13 := ⟨pm_dcA dk_J0_isLatin1_aae02_0 4 rfl, rfl⟩
theorem dJ0_isLatin1_aae02_13 : pm_dec mJ0_isLatin1_aae02 13 (.iconst 1, 1) 14 := ⟨pm_dcA dk_J0_isLatin1_aae02_0 5 rfl, rfl⟩
theorem dJ0_isLatin1_aae02_14 : pm_dec mJ0_isLatin1_aae02 14 (.goto 4, 3) 17 := ⟨pm_dcA dk_J0_isLatin1_aae02_0 6 rfl, rfl⟩
theorem dJ0_isLatin1_aae02_17 : pm_dec mJ0_isLatin1_aae02 17 (.iconst 0, 1) 18 := ⟨pm_dcA dk_J0_isLatin1_aae02_0 7 rfl, rfl⟩
theorem dJ0_isLatin1_aae02_18 : pm_dec mJ0_isLatin1_aae02 18 (.ireturn, 1) 19 := ⟨pm_dcA dk_J0_isLatin1_aae02_0 8 rfl, rfl⟩
def dt_J0_length_8abf5_0 : List (Nat × (Instr × Nat)) := [(0, (.aload_n 0, 1)), (1, (.getfield 9, 3)), (4, (.arraylength, 1)), (5, (.aload_n 0, 1)), (6, (.invokevirtual 335, 3)), (9, (.ishr, 1)), (10, (.ireturn, 1))]
theorem dk_J0_length_8abf5_0 : pm_dc mJ0_length_8abf5.2.1 dt_J0_length_8abf5_0 = true := by decide +kernel
theorem dJ0_length_8abf5_0 : pm_dec mJ0_length_8abf5 0 (.aload_n 0, 1) 1 := ⟨pm_dcA dk_J0_length_8abf5_0 0 rfl, rfl⟩
theorem dJ0_length_8abf5_1 : pm_dec mJ0_length_8abf5 1 (.getfield 9, 3) 4 := ⟨pm_dcA dk_J0_length_8abf5_0 1 rfl, rfl⟩
theorem dJ0_length_8abf5_4 : pm_dec mJ0_length_8abf5 4 (.arraylength, 1) 5 := ⟨pm_dcA dk_J0_length_8abf5_0 2 rfl, rfl⟩
theorem dJ0_length_8abf5_5 : pm_dec mJ0_length_8abf5 5 (.aload_n 0, 1) 6 := ⟨pm_dcA dk_J0_length_8abf5_0 3 rfl, rfl⟩
theorem dJ0_length_8abf5_6 : pm_dec mJ0_length_8abf5 6 (.invokevirtual 335, 3) 9 := ⟨pm_dcA dk_J0_length_8abf5_0 4 rfl, rfl⟩
theorem dJ0_length_8abf5_9 : pm_dec mJ0_length_8abf5 9 (.ishr, 1) 10 := ⟨pm_dcA dk_J0_length_8abf5_0 5 rfl, rfl⟩
theorem dJ0_length_8abf5_10 : pm_dec mJ0_length_8abf5 10 (.ireturn, 1) 11 := ⟨pm_dcA dk_J0_length_8abf5_0 6 rfl, rfl⟩
def dt_J0_indexOf_7cf53_0 : List (Nat × (Instr × Nat)) := [(0, (.aload_n 0, 1)), (1, (.invokevirtual 492, 3)), (4, (.ifCond .eq 19, 3)), (7, (.aload_n 0, 1)), (8, (.getfield 9, 3)), (11, (.iload_n 1, 1)), (12, (.iload_n 2, 1)), (13, (.aload_n 0, 1)), (14, (.invokevirtual 505, 3)), (17, (.invokestatic 637, 3)), (20, (.goto 16, 3)), (23, (.aload_n 0, 1)), (24, (.getfield 9, 3)), (27, (.iload_n 1, 1)), (28, (.iload_n 2, 1)), (29, (.aload_n 0, 1)), (30, (.invokevirtual 505, 3)), (33, (.invokestatic 640, 3)), (36, (.ireturn, 1))]
theorem dk_J0_indexOf_7cf53_0 : pm_dc mJ0_indexOf_7cf53.2.1 dt_J0_indexOf_7cf53_0 = true := by decide +kernel
theorem dJ0_indexOf_7cf53_0 : pm_dec mJ0_indexOf_7cf53 0 (.aload_n 0, 1) 1 := ⟨pm_dcA dk_J0_indexOf_7cf53_0 0 rfl, rfl⟩
theorem dJ0_indexOf_7cf53_1 : pm_dec mJ0_indexOf_7cf53 1 (.invokevirtual 492, 3) 4 := ⟨pm_dcA dk_J0_indexOf_7cf53_0 1 rfl, rfl⟩
theorem dJ0_indexOf_7cf53_4 : pm_dec mJ0_indexOf_7cf53 4 (.ifCond .eq 19, 3) 7 := ⟨pm_dcA dk_J0_indexOf_7cf53_0 2 rfl, rfl⟩
theorem dJ0_indexOf_7cf53_7 : pm_dec mJ0_indexOf_7cf53 7 (.aload_n 0, 1) 8 := ⟨pm_dcA dk_J0_indexOf_7cf53_0 3 rfl, rfl⟩
theorem dJ0_indexOf_7cf53_8 : pm_dec mJ0_indexOf_7cf53 8 (.getfield 9, 3) 11 := ⟨pm_dcA dk_J0_indexOf_7cf53_0 4 rfl, rfl⟩
theorem dJ0_indexOf_7cf53_11 : pm_dec mJ0_indexOf_7cf53 11 (.iload_n 1, 1) 12 := ⟨pm_dcA dk_J0_indexOf_7cf53_0 5 rfl, rfl⟩
theorem dJ0_indexOf_7cf53_12 : pm_dec mJ0_indexOf_7cf53 12 (.iload_n 2, 1) 13 := ⟨pm_dcA dk_J0_indexOf_7cf53_0 6 rfl, rfl⟩
theorem dJ0_indexOf_7cf53_13 : pm_dec mJ0_indexOf_7cf53 13 (.aload_n 0, 1) 14 := ⟨pm_dcA dk_J0_indexOf_7cf53_0 7 rfl, rfl⟩
theorem dJ0_indexOf_7cf53_14 : pm_dec mJ0_indexOf_7cf53 14 (.invokevirtual 505, 3) 17 := ⟨pm_dcA dk_J0_indexOf_7cf53_0 8 rfl, rfl⟩
theorem dJ0_indexOf_7cf53_17 : pm_dec mJ0_indexOf_7cf53 17 (.invokestatic 637, 3) 20 := ⟨pm_dcA dk_J0_indexOf_7cf53_0 9 rfl, rfl⟩
theorem dJ0_indexOf_7cf53_20 : pm_dec mJ0_indexOf_7cf53 20 (.goto 16, 3) 23 := ⟨pm_dcA dk_J0_indexOf_7cf53_0 10 rfl, rfl⟩
theorem dJ0_indexOf_7cf53_23 : pm_dec mJ0_indexOf_7cf53 23 (.aload_n 0, 1) 24 := ⟨pm_dcA dk_J0_indexOf_7cf53_0 11 rfl, rfl⟩
theorem dJ0_indexOf_7cf53_24 : pm_dec mJ0_indexOf_7cf53 24 (.getfield 9, 3) 27 := ⟨pm_dcA dk_J0_indexOf_7cf53_0 12 rfl, rfl⟩
theorem dJ0_indexOf_7cf53_27 : pm_dec mJ0_indexOf_7cf53 27 (.iload_n 1, 1) 28 := ⟨pm_dcA dk_J0_indexOf_7cf53_0 13 rfl, rfl⟩
theorem dJ0_indexOf_7cf53_28 : pm_dec mJ0_indexOf_7cf53 28 (.iload_n 2, 1) 29 := ⟨pm_dcA dk_J0_indexOf_7cf53_0 14 rfl, rfl⟩
theorem dJ0_indexOf_7cf53_29 : pm_dec mJ0_indexOf_7cf53 29 (.aload_n 0, 1) 30 := ⟨pm_dcA dk_J0_indexOf_7cf53_0 15 rfl, rfl⟩
theorem dJ0_indexOf_7cf53_30 : pm_dec mJ0_indexOf_7cf53 30 (.invokevirtual 505, 3) 33 := ⟨pm_dcA dk_J0_indexOf_7cf53_0 16 rfl, rfl⟩
theorem dJ0_indexOf_7cf53_33 : pm_dec mJ0_indexOf_7cf53 33 (.invokestatic 640, 3) 36 := ⟨pm_dcA dk_J0_indexOf_7cf53_0 17 rfl, rfl⟩
theorem dJ0_indexOf_7cf53_36 : pm_dec mJ0_indexOf_7cf53 36 (.ireturn, 1) 37 := ⟨pm_dcA dk_J0_indexOf_7cf53_0 18 rfl, rfl⟩
def dt_J0_indexOf_0f7a4_0 : List (Nat × (Instr × Nat)) := [(0, (.aload_n 0, 1)), (1, (.iload_n 1, 1)), (2, (.iconst 0, 1)), (3, (.invokevirtual 633, 3)), (6, (.ireturn, 1))]
theorem dk_J0_indexOf_0f7a4_0 : pm_dc mJ0_indexOf_0f7a4.2.1 dt_J0_indexOf_0f7a4_0 = true := by decide +kernel
theorem dJ0_indexOf_0f7a4_0 : pm_dec mJ0_indexOf_0f7a4 0 (.aload_n 0, 1) 1 := ⟨pm_dcA dk_J0_indexOf_0f7a4_0 0 rfl, rfl⟩
theorem dJ0_indexOf_0f7a4_1 : pm_dec mJ0_indexOf_0f7a4 1 (.iload_n 1, 1) 2 := ⟨pm_dcA dk_J0_indexOf_0f7a4_0 1 rfl, rfl⟩
theorem dJ0_indexOf_0f7a4_2 : pm_dec mJ0_indexOf_0f7a4 2 (.iconst 0, 1) 3 := ⟨pm_dcA dk_J0_indexOf_0f7a4_0 2 rfl, rfl⟩
theorem dJ0_indexOf_0f7a4_3 : pm_dec mJ0_indexOf_0f7a4 3 (.invokevirtual 633, 3) 6 := ⟨pm_dcA dk_J0_indexOf_0f7a4_0 3 rfl, rfl⟩
theorem dJ0_indexOf_0f7a4_6 : pm_dec mJ0_indexOf_0f7a4 6 (.ireturn, 1) 7 := ⟨pm_dcA dk_J0_indexOf_0f7a4_0 4 rfl, rfl⟩
theorem acX9_49 (M : pm_M) (h : M.1.cls = RX9) : Cond.methodLink M.1.cls 49 arraycopyName ∈ pm_tbl := by rw [h]; exact (pm_it6 106 (by decide +kernel) (by decide +kernel))
theorem lkJ1_88 (M : pm_M) (h : M.1.cls = RJ1) : pm_lk M 88 mJ1_canEncode_9a6ad := Or.inl (by rw [h]; exact (pm_it3 217 (by decide +kernel) (by decide +kernel)))
theorem cn_J1 : RJ1 ≠ "java/lang/invoke/MethodHandle" ∧ RJ1 ≠ "java/lang/invoke/VarHandle" := by decide +kernel
theorem okS_J1_canEncode_9a6ad : pm_mokS mJ1_canEncode_9a6ad 1 := ⟨⟨⟨(pm_it3 219 (by decide +kernel) (by decide +kernel)), (pm_it1 17 (by decide +kernel) (by decide +kernel))⟩, ⟨cn_J1.1, cn_J1.2, pd__I_Z⟩, by decide⟩, (pm_it3 218 (by decide +kernel) (by decide +kernel))⟩
theorem mmJ1_92 (M : pm_M) (h : M.1.cls = RJ1) : Cond.methodLink M.1.cls 92 Lib.Math.max.name ∈ pm_tbl := by rw [h]; exact (pm_it3 220 (by decide +kernel) (by decide +kernel))
theorem mmJ1_38 (M : pm_M) (h : M.1.cls = RJ1) : Cond.methodLink M.1.cls 38 Lib.Math.min.name ∈ pm_tbl := by rw [h]; exact (pm_it3 221 (by decide +kernel) (by decide +kernel))
theorem lkJ1_95 (M : pm_M) (h : M.1.cls = RJ1) : pm_lk M 95 mJ1_indexOfChar_4cfef := Or.inl (by rw [h]; exact (pm_it3 222 (by decide +kernel) (by decide +kernel)))
theorem pd___BIII_I : (parseMethodDescriptor "([BIII)I").map (fun d => d.parameters.length) = some 4 := by decide +kernel
theorem okS_J1_indexOfChar_4cfef : pm_mokS mJ1_indexOfChar_4cfef 4 := ⟨⟨⟨(pm_it3 224 (by decide +kernel) (by decide +kernel)), (pm_it1 17 (by decide +kernel) (by decide +kernel))⟩, ⟨cn_J1.1, cn_J1.2, pd___BIII_I⟩, by decide⟩, (pm_it3 223 (by decide +kernel) (by decide +kernel))⟩
theorem lpJ1_95 (M : pm_M) (h : M.1.cls = RJ1) : Cond.methodLink M.1.cls 95 mJ1_indexOfChar_4cfef.1 ∈ pm_tbl := by rw [h]; exact (pm_it3 222 (by decide +kernel) (by decide +kernel))
theorem foJ0_38 (M : pm_M) (h : M.1.cls = RJ0) : Cond.fieldLink M.1.cls 38 "java/lang/String" "COMPACT_STRINGS" "Z" ∈ pm_tbl := by rw [h]; exact (pm_it3 204 (by decide +kernel) (by decide +kernel))
theorem foJ0_15 (M : pm_M) (h : M.1.cls = RJ0) : Cond.fieldLink M.1.cls 15 "java/lang/String" "coder" "B" ∈ pm_tbl := by rw [h]; exact (pm_it9 17 (by decide +kernel) (by decide +kernel))
theorem foJ0_9 (M : pm_M) (h : M.1.cls = RJ0) : Cond.fieldLink M.1.cls 9 "java/lang/String" "value" "[B" ∈ pm_tbl := by rw [h]; exact (pm_it9 18 (by decide +kernel) (by decide +kernel))
theorem lkJ0_335 (M : pm_M) (h : M.1.cls = RJ0) : pm_lk M 335 mJ0_coder_7d493 := Or.inl (by rw [h]; exact (pm_it3 210 (by decide +kernel) (by decide +kernel)))
theorem pd___B : (parseMethodDescriptor "()B").map (fun d => d.parameters.length) = some 0 := by decide +kernel
theorem okV_J0_coder_7d493 : pm_mokV mJ0_coder_7d493 0 := ⟨⟨⟨(pm_it3 213 (by decide +kernel) (by decide +kernel)), (pm_it1 16 (by decide +kernel) (by decide +kernel))⟩, ⟨cn_J0.1, cn_J0.2, pd___B⟩, by decide⟩, (pm_it3 211 (by decide +kernel) (by decide +kernel)), (pm_it3 212 (by decide +kernel) (by decide +kernel))⟩
theorem lpJ0_335 (M : pm_M) (h : M.1.cls = RJ0) : Cond.methodLink M.1.cls 335 mJ0_coder_7d493.1 ∈ pm_tbl := by rw [h]; exact (pm_it3 210 (by decide +kernel) (by decide +kernel))
theorem lkJ0_492 (M : pm_M) (h : M.1.cls = RJ0) : pm_lk M 492 mJ0_isLatin1_aae02 := Or.inl (by rw [h]; exact (pm_it3 200 (by decide +kernel) (by decide +kernel)))
theorem okV_J0_isLatin1_aae02 : pm_mokV mJ0_isLatin1_aae02 0 := ⟨⟨⟨(pm_it3 203 (by decide +kernel) (by decide +kernel)), (pm_it1 16 (by decide +kernel) (by decide +kernel))⟩, ⟨cn_J0.1, cn_J0.2, pd___Z⟩, by decide⟩, (pm_it3 201 (by decide +kernel) (by decide +kernel)), (pm_it3 202 (by decide +kernel) (by decide +kernel))⟩
theorem lpJ0_492 (M : pm_M) (h : M.1.cls = RJ0) : Cond.methodLink M.1.cls 492 mJ0_isLatin1_aae02.1 ∈ pm_tbl := by rw [h]; exact (pm_it3 200 (by decide +kernel) (by decide +kernel))
theorem lkJ0_505 (M : pm_M) (h : M.1.cls = RJ0) : pm_lk M 505 mJ0_length_8abf5 := Or.inl (by rw [h]; exact (pm_it3 206 (by decide +kernel) (by decide +kernel)))
theorem okV_J0_length_8abf5 : pm_mokV mJ0_length_8abf5 0 := ⟨⟨⟨(pm_it3 209 (by decide +kernel) (by decide +kernel)), (pm_it1 16 (by decide +kernel) (by decide +kernel))⟩, ⟨cn_J0.1, cn_J0.2, pd___I⟩, by decide⟩, (pm_it3 207 (by decide +kernel) (by decide +kernel)), (pm_it3 208 (by decide +kernel) (by decide +kernel))⟩
theorem lpJ0_505 (M : pm_M) (h : M.1.cls = RJ0) : Cond.methodLink M.1.cls 505 mJ0_length_8abf5.1 ∈ pm_tbl := by rw [h]; exact (pm_it3 206 (by decide +kernel) (by decide +kernel))
theorem lkJ0_637 (M : pm_M) (h : M.1.cls = RJ0) : pm_lk M 637 mJ1_indexOf_4cfef := Or.inl (by rw [h]; exact (pm_it3 214 (by decide +kernel) (by decide +kernel)))
theorem okS_J1_indexOf_4cfef : pm_mokS mJ1_indexOf_4cfef 4 := ⟨⟨⟨(pm_it3 216 (by decide +kernel) (by decide +kernel)), (pm_it1 17 (by decide +kernel) (by decide +kernel))⟩, ⟨cn_J1.1, cn_J1.2, pd___BIII_I⟩, by decide⟩, (pm_it3 215 (by decide +kernel) (by decide +kernel))⟩
theorem lpJ0_637 (M : pm_M) (h : M.1.cls = RJ0) : Cond.methodLink M.1.cls 637 mJ1_indexOf_4cfef.1 ∈ pm_tbl := by rw [h]; exact (pm_it3 214 (by decide +kernel) (by decide +kernel))
theorem lkJ0_633 (M : pm_M) (h : M.1.cls = RJ0) : pm_lk M 633 mJ0_indexOf_7cf53 := Or.inl (by rw [h]; exact (pm_it3 196 (by decide +kernel) (by decide +kernel)))
theorem okV_J0_indexOf_7cf53 : pm_mokV mJ0_indexOf_7cf53 2 := ⟨⟨⟨(pm_it3 199 (by decide +kernel) (by decide +kernel)), (pm_it1 16 (by decide +kernel) (by decide +kernel))⟩, ⟨cn_J0.1, cn_J0.2, pd__II_I⟩, by decide⟩, (pm_it3 197 (by decide +kernel) (by decide +kernel)), (pm_it3 198 (by decide +kernel) (by decide +kernel))⟩
theorem lpJ0_633 (M : pm_M) (h : M.1.cls = RJ0) : Cond.methodLink M.1.cls 633 mJ0_indexOf_7cf53.1 ∈ pm_tbl := by rw [h]; exact (pm_it3 196 (by decide +kernel) (by decide +kernel))
theorem mmX7_106 (M : pm_M) (h : M.1.cls = RX7) : Cond.methodLink M.1.cls 106 Lib.Math.max.name ∈ pm_tbl := by rw [h]; exact (pm_it3 34 (by decide +kernel) (by decide +kernel))
theorem fsX7_134 (M : pm_M) (h : M.1.cls = RX7) : Cond.fieldLinkNest M.1.cls 134 "SealCouncil" "ABOVE" "[I" "SealCouncil" ∈ pm_nest := by rw [h]; exact (pm_in3 107 (by decide +kernel) (by decide +kernel))
theorem mmX2_74 (M : pm_M) (h : M.1.cls = RX2) : Cond.methodLink M.1.cls 74 Lib.Math.min.name ∈ pm_tbl := by rw [h]; exact (pm_it5 223 (by decide +kernel) (by decide +kernel))
theorem mmX7_87 (M : pm_M) (h : M.1.cls = RX7) : Cond.methodLink M.1.cls 87 Lib.Math.min.name ∈ pm_tbl := by rw [h]; exact (pm_it2 206 (by decide +kernel) (by decide +kernel))
theorem lpX6_65 (M : pm_M) (h : M.1.cls = RX6) : Cond.methodLink M.1.cls 65 mJ0_indexOf_0f7a4.1 ∈ pm_tbl := by rw [h]; exact (pm_it3 192 (by decide +kernel) (by decide +kernel))
theorem rg_1_3 {x : Int32} (h1 : ¬ x < 1) (h2 : ¬ 3 < x) : x = 1 ∨ x = 2 ∨ x = 3 := by
  have a1 : (1 : Int32).toInt = 1 := by decide
  have a2 : (3 : Int32).toInt = 3 := by decide
  simp only [Int32.lt_iff_toInt_lt, a1, a2] at h1 h2
  rcases (show x.toInt = 1 ∨ x.toInt = 2 ∨ x.toInt = 3 by omega) with h | h | h
  · exact Or.inl (Int32.toInt_inj.mp (h.trans (show 1 = (1 : Int32).toInt by decide)))
  · exact Or.inr (Or.inl (Int32.toInt_inj.mp (h.trans (show 2 = (2 : Int32).toInt by decide))))
  · exact Or.inr (Or.inr ((Int32.toInt_inj.mp (h.trans (show 3 = (3 : Int32).toInt by decide)))))
theorem mmX1_47 (M : pm_M) (h : M.1.cls = RX1) : Cond.methodLink M.1.cls 47 Lib.Math.max.name ∈ pm_tbl := by rw [h]; exact (pm_it5 170 (by decide +kernel) (by decide +kernel))
theorem mmX5_65 (M : pm_M) (h : M.1.cls = RX5) : Cond.methodLink M.1.cls 65 Lib.Math.max.name ∈ pm_tbl := by rw [h]; exact (pm_it6 24 (by decide +kernel) (by decide +kernel))
