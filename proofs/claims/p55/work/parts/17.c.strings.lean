theorem mmX7_106 (M : pm_M) (h : M.1.cls = RX7) : Cond.methodLink M.1.cls 106 Lib.Math.max.name ∈ pm_tbl := by rw [h]; exact (pm_it3 34 (by decide +kernel) (by decide +kernel))
theorem fsX7_134 (M : pm_M) (h : M.1.cls = RX7) : Cond.fieldLinkNest M.1.cls 134 "SealCouncil" "ABOVE" "[I" "SealCouncil" ∈ pm_nest := by rw [h]; exact (pm_in3 107 (by decide +kernel) (by decide +kernel))
theorem mmX2_74 (M : pm_M) (h : M.1.cls = RX2) : Cond.methodLink M.1.cls 74 Lib.Math.min.name ∈ pm_tbl := by rw [h]; exact (pm_it5 223 (by decide +kernel) (by decide +kernel))
theorem mmX7_87 (M : pm_M) (h : M.1.cls = RX7) : Cond.methodLink M.1.cls 87 Lib.Math.min.name ∈ pm_tbl := by rw [h]; exact (pm_it2 206 (by decide +kernel) (by decide +kernel))
theorem lpX6_65 (M : pm_M) (h : M.1.cls = RX6) : Cond.methodLink M.1.cls 65 mJ0_indexOf_0f7a4.1 ∈ pm_tbl := by rw [h]; exact (pm_it3 192 (by decide +kernel) (by decide +kernel))
theorem mmX1_47 (M : pm_M) (h : M.1.cls = RX1) : Cond.methodLink M.1.cls 47 Lib.Math.max.name ∈ pm_tbl := by rw [h]; exact (pm_it5 170 (by decide +kernel) (by decide +kernel))
theorem mmX5_65 (M : pm_M) (h : M.1.cls = RX5) : Cond.methodLink M.1.cls 65 Lib.Math.max.name ∈ pm_tbl := by rw [h]; exact (pm_it6 24 (by decide +kernel) (by decide +kernel))
theorem dJ1_indexOfChar_4cfef_0 : pm_dec mJ1_indexOfChar_4cfef 0 (.iload_n 1, 1) 1 := ⟨by decide +kernel, rfl⟩
theorem dJ1_indexOfChar_4cfef_1 : pm_dec mJ1_indexOfChar_4cfef 1 (.i2b, 1) 2 := ⟨by decide +kernel, rfl⟩
theorem dJ1_indexOfChar_4cfef_2 : pm_dec mJ1_indexOfChar_4cfef 2 (.istore 4, 2) 4 := ⟨by decide +kernel, rfl⟩
theorem dJ1_indexOfChar_4cfef_4 : pm_dec mJ1_indexOfChar_4cfef 4 (.iload_n 2, 1) 5 := ⟨by decide +kernel, rfl⟩
theorem dJ1_indexOfChar_4cfef_5 : pm_dec mJ1_indexOfChar_4cfef 5 (.istore 5, 2) 7 := ⟨by decide +kernel, rfl⟩
theorem dJ1_indexOfChar_4cfef_7 : pm_dec mJ1_indexOfChar_4cfef 7 (.iload 5, 2) 9 := ⟨by decide +kernel, rfl⟩
theorem dJ1_indexOfChar_4cfef_9 : pm_dec mJ1_indexOfChar_4cfef 9 (.iload_n 3, 1) 10 := ⟨by decide +kernel, rfl⟩
theorem dJ1_indexOfChar_4cfef_10 : pm_dec mJ1_indexOfChar_4cfef 10 (.if_icmp .ge 21, 3) 13 := ⟨by decide +kernel, rfl⟩
theorem dJ1_indexOfChar_4cfef_13 : pm_dec mJ1_indexOfChar_4cfef 13 (.aload_n 0, 1) 14 := ⟨by decide +kernel, rfl⟩
theorem dJ1_indexOfChar_4cfef_14 : pm_dec mJ1_indexOfChar_4cfef 14 (.iload 5, 2) 16 := ⟨by decide +kernel, rfl⟩
theorem dJ1_indexOfChar_4cfef_16 : pm_dec mJ1_indexOfChar_4cfef 16 (.baload, 1) 17 := ⟨by decide +kernel, rfl⟩
theorem dJ1_indexOfChar_4cfef_17 : pm_dec mJ1_indexOfChar_4cfef 17 (.iload 4, 2) 19 := ⟨by decide +kernel, rfl⟩
theorem dJ1_indexOfChar_4cfef_19 : pm_dec mJ1_indexOfChar_4cfef 19 (.if_icmp .ne 6, 3) 22 := ⟨by decide +kernel, rfl⟩
theorem dJ1_indexOfChar_4cfef_22 : pm_dec mJ1_indexOfChar_4cfef 22 (.iload 5, 2) 24 := ⟨by decide +kernel, rfl⟩
theorem dJ1_indexOfChar_4cfef_24 : pm_dec mJ1_indexOfChar_4cfef 24 (.ireturn, 1) 25 := ⟨by decide +kernel, rfl⟩
theorem dJ1_indexOfChar_4cfef_25 : pm_dec mJ1_indexOfChar_4cfef 25 (.iinc 5 1, 3) 28 := ⟨by decide +kernel, rfl⟩
theorem dJ1_indexOfChar_4cfef_28 : pm_dec mJ1_indexOfChar_4cfef 28 (.goto (-21), 3) 31 := ⟨by decide +kernel, rfl⟩
theorem dJ1_indexOfChar_4cfef_31 : pm_dec mJ1_indexOfChar_4cfef 31 (.iconst (-1), 1) 32 := ⟨by decide +kernel, rfl⟩
theorem dJ1_indexOfChar_4cfef_32 : pm_dec mJ1_indexOfChar_4cfef 32 (.ireturn, 1) 33 := ⟨by decide +kernel, rfl⟩
theorem dJ1_indexOf_4cfef_0 : pm_dec mJ1_indexOf_4cfef 0 (.iload_n 1, 1) 1 := ⟨by decide +kernel, rfl⟩
theorem dJ1_indexOf_4cfef_1 : pm_dec mJ1_indexOf_4cfef 1 (.invokestatic 88, 3) 4 := ⟨by decide +kernel, rfl⟩
theorem dJ1_indexOf_4cfef_4 : pm_dec mJ1_indexOf_4cfef 4 (.ifCond .ne 5, 3) 7 := ⟨by decide +kernel, rfl⟩
theorem dJ1_indexOf_4cfef_7 : pm_dec mJ1_indexOf_4cfef 7 (.iconst (-1), 1) 8 := ⟨by decide +kernel, rfl⟩
theorem dJ1_indexOf_4cfef_8 : pm_dec mJ1_indexOf_4cfef 8 (.ireturn, 1) 9 := ⟨by decide +kernel, rfl⟩
theorem dJ1_indexOf_4cfef_9 : pm_dec mJ1_indexOf_4cfef 9 (.iload_n 2, 1) 10 := ⟨by decide +kernel, rfl⟩
theorem dJ1_indexOf_4cfef_10 : pm_dec mJ1_indexOf_4cfef 10 (.iconst 0, 1) 11 := ⟨by decide +kernel, rfl⟩
theorem dJ1_indexOf_4cfef_11 : pm_dec mJ1_indexOf_4cfef 11 (.invokestatic 92, 3) 14 := ⟨by decide +kernel, rfl⟩
theorem dJ1_indexOf_4cfef_14 : pm_dec mJ1_indexOf_4cfef 14 (.istore_n 2, 1) 15 := ⟨by decide +kernel, rfl⟩
theorem dJ1_indexOf_4cfef_15 : pm_dec mJ1_indexOf_4cfef 15 (.iload_n 3, 1) 16 := ⟨by decide +kernel, rfl⟩
theorem dJ1_indexOf_4cfef_16 : pm_dec mJ1_indexOf_4cfef 16 (.aload_n 0, 1) 17 := ⟨by decide +kernel, rfl⟩
theorem dJ1_indexOf_4cfef_17 : pm_dec mJ1_indexOf_4cfef 17 (.arraylength, 1) 18 := ⟨by decide +kernel, rfl⟩
theorem dJ1_indexOf_4cfef_18 : pm_dec mJ1_indexOf_4cfef 18 (.invokestatic 38, 3) 21 := ⟨by decide +kernel, rfl⟩
theorem dJ1_indexOf_4cfef_21 : pm_dec mJ1_indexOf_4cfef 21 (.istore_n 3, 1) 22 := ⟨by decide +kernel, rfl⟩
theorem dJ1_indexOf_4cfef_22 : pm_dec mJ1_indexOf_4cfef 22 (.iload_n 2, 1) 23 := ⟨by decide +kernel, rfl⟩
theorem dJ1_indexOf_4cfef_23 : pm_dec mJ1_indexOf_4cfef 23 (.iload_n 3, 1) 24 := ⟨by decide +kernel, rfl⟩
theorem dJ1_indexOf_4cfef_24 : pm_dec mJ1_indexOf_4cfef 24 (.if_icmp .lt 5, 3) 27 := ⟨by decide +kernel, rfl⟩
theorem dJ1_indexOf_4cfef_27 : pm_dec mJ1_indexOf_4cfef 27 (.iconst (-1), 1) 28 := ⟨by decide +kernel, rfl⟩
theorem dJ1_indexOf_4cfef_28 : pm_dec mJ1_indexOf_4cfef 28 (.ireturn, 1) 29 := ⟨by decide +kernel, rfl⟩
theorem dJ1_indexOf_4cfef_29 : pm_dec mJ1_indexOf_4cfef 29 (.aload_n 0, 1) 30 := ⟨by decide +kernel, rfl⟩
theorem dJ1_indexOf_4cfef_30 : pm_dec mJ1_indexOf_4cfef 30 (.iload_n 1, 1) 31 := ⟨by decide +kernel, rfl⟩
theorem dJ1_indexOf_4cfef_31 : pm_dec mJ1_indexOf_4cfef 31 (.iload_n 2, 1) 32 := ⟨by decide +kernel, rfl⟩
theorem dJ1_indexOf_4cfef_32 : pm_dec mJ1_indexOf_4cfef 32 (.iload_n 3, 1) 33 := ⟨by decide +kernel, rfl⟩
theorem dJ1_indexOf_4cfef_33 : pm_dec mJ1_indexOf_4cfef 33 (.invokestatic 95, 3) 36 := ⟨by decide +kernel, rfl⟩
theorem dJ1_indexOf_4cfef_36 : pm_dec mJ1_indexOf_4cfef 36 (.ireturn, 1) 37 := ⟨by decide +kernel, rfl⟩
theorem dJ1_canEncode_9a6ad_0 : pm_dec mJ1_canEncode_9a6ad 0 (.iload_n 0, 1) 1 := ⟨by decide +kernel, rfl⟩
theorem dJ1_canEncode_9a6ad_1 : pm_dec mJ1_canEncode_9a6ad 1 (.ifCond .lt 14, 3) 4 := ⟨by decide +kernel, rfl⟩
theorem dJ1_canEncode_9a6ad_4 : pm_dec mJ1_canEncode_9a6ad 4 (.iload_n 0, 1) 5 := ⟨by decide +kernel, rfl⟩
theorem dJ1_canEncode_9a6ad_5 : pm_dec mJ1_canEncode_9a6ad 5 (.sipush 255, 3) 8 := ⟨by decide +kernel, rfl⟩
theorem dJ1_canEncode_9a6ad_8 : pm_dec mJ1_canEncode_9a6ad 8 (.if_icmp .gt 7, 3) 11 := ⟨by decide +kernel, rfl⟩
theorem dJ1_canEncode_9a6ad_11 : pm_dec mJ1_canEncode_9a6ad 11 (.iconst 1, 1) 12 := ⟨by decide +kernel, rfl⟩
theorem dJ1_canEncode_9a6ad_12 : pm_dec mJ1_canEncode_9a6ad 12 (.goto 4, 3) 15 := ⟨by decide +kernel, rfl⟩
theorem dJ1_canEncode_9a6ad_15 : pm_dec mJ1_canEncode_9a6ad 15 (.iconst 0, 1) 16 := ⟨by decide +kernel, rfl⟩
theorem dJ1_canEncode_9a6ad_16 : pm_dec mJ1_canEncode_9a6ad 16 (.ireturn, 1) 17 := ⟨by decide +kernel, rfl⟩
theorem dJ0_coder_7d493_0 : pm_dec mJ0_coder_7d493 0 (.getstatic 38, 3) 3 := ⟨by decide +kernel, rfl⟩
theorem dJ0_coder_7d493_3 : pm_dec mJ0_coder_7d493 3 (.ifCond .eq 10, 3) 6 := ⟨by decide +kernel, rfl⟩
theorem dJ0_coder_7d493_6 : pm_dec mJ0_coder_7d493 6 (.aload_n 0, 1) 7 := ⟨by decide +kernel, rfl⟩
theorem dJ0_coder_7d493_7 : pm_dec mJ0_coder_7d493 7 (.getfield 15, 3) 10 := ⟨by decide +kernel, rfl⟩
theorem dJ0_coder_7d493_10 : pm_dec mJ0_coder_7d493 10 (.goto 4, 3) 13 := ⟨by decide +kernel, rfl⟩
theorem dJ0_coder_7d493_13 : pm_dec mJ0_coder_7d493 13 (.iconst 1, 1) 14 := ⟨by decide +kernel, rfl⟩
theorem dJ0_coder_7d493_14 : pm_dec mJ0_coder_7d493 14 (.ireturn, 1) 15 := ⟨by decide +kernel, rfl⟩
theorem dJ0_isLatin1_aae02_0 : pm_dec mJ0_isLatin1_aae02 0 (.getstatic 38, 3) 3 := ⟨by decide +kernel, rfl⟩
theorem dJ0_isLatin1_aae02_3 : pm_dec mJ0_isLatin1_aae02 3 (.ifCond .eq 14, 3) 6 := ⟨by decide +kernel, rfl⟩
theorem dJ0_isLatin1_aae02_6 : pm_dec mJ0_isLatin1_aae02 6 (.aload_n 0, 1) 7 := ⟨by decide +kernel, rfl⟩
theorem dJ0_isLatin1_aae02_7 : pm_dec mJ0_isLatin1_aae02 7 (.getfield 15, 3) 10 := ⟨by decide +kernel, rfl⟩
theorem dJ0_isLatin1_aae02_10 : pm_dec mJ0_isLatin1_aae02 10 (.ifCond .ne 7, 3) 13 := ⟨by decide +kernel, rfl⟩
theorem dJ0_isLatin1_aae02_13 : pm_dec mJ0_isLatin1_aae02 13 (.iconst 1, 1) 14 := ⟨by decide +kernel, rfl⟩
theorem dJ0_isLatin1_aae02_14 : pm_dec mJ0_isLatin1_aae02 14 (.goto 4, 3) 17 := ⟨by decide +kernel, rfl⟩
theorem dJ0_isLatin1_aae02_17 : pm_dec mJ0_isLatin1_aae02 17 (.iconst 0, 1) 18 := ⟨by decide +kernel, rfl⟩
theorem dJ0_isLatin1_aae02_18 : pm_dec mJ0_isLatin1_aae02 18 (.ireturn, 1) 19 := ⟨by decide +kernel, rfl⟩
theorem dJ0_length_8abf5_0 : pm_dec mJ0_length_8abf5 0 (.aload_n 0, 1) 1 := ⟨by decide +kernel, rfl⟩
theorem dJ0_length_8abf5_1 : pm_dec mJ0_length_8abf5 1 (.getfield 9, 3) 4 := ⟨by decide +kernel, rfl⟩
theorem dJ0_length_8abf5_4 : pm_dec mJ0_length_8abf5 4 (.arraylength, 1) 5 := ⟨by decide +kernel, rfl⟩
theorem dJ0_length_8abf5_5 : pm_dec mJ0_length_8abf5 5 (.aload_n 0, 1) 6 := ⟨by decide +kernel, rfl⟩
theorem dJ0_length_8abf5_6 : pm_dec mJ0_length_8abf5 6 (.invokevirtual 335, 3) 9 := ⟨by decide +kernel, rfl⟩
theorem dJ0_length_8abf5_9 : pm_dec mJ0_length_8abf5 9 (.ishr, 1) 10 := ⟨by decide +kernel, rfl⟩
theorem dJ0_length_8abf5_10 : pm_dec mJ0_length_8abf5 10 (.ireturn, 1) 11 := ⟨by decide +kernel, rfl⟩
theorem dJ0_indexOf_7cf53_0 : pm_dec mJ0_indexOf_7cf53 0 (.aload_n 0, 1) 1 := ⟨by decide +kernel, rfl⟩
theorem dJ0_indexOf_7cf53_1 : pm_dec mJ0_indexOf_7cf53 1 (.invokevirtual 492, 3) 4 := ⟨by decide +kernel, rfl⟩
theorem dJ0_indexOf_7cf53_4 : pm_dec mJ0_indexOf_7cf53 4 (.ifCond .eq 19, 3) 7 := ⟨by decide +kernel, rfl⟩
theorem dJ0_indexOf_7cf53_7 : pm_dec mJ0_indexOf_7cf53 7 (.aload_n 0, 1) 8 := ⟨by decide +kernel, rfl⟩
theorem dJ0_indexOf_7cf53_8 : pm_dec mJ0_indexOf_7cf53 8 (.getfield 9, 3) 11 := ⟨by decide +kernel, rfl⟩
theorem dJ0_indexOf_7cf53_11 : pm_dec mJ0_indexOf_7cf53 11 (.iload_n 1, 1) 12 := ⟨by decide +kernel, rfl⟩
theorem dJ0_indexOf_7cf53_12 : pm_dec mJ0_indexOf_7cf53 12 (.iload_n 2, 1) 13 := ⟨by decide +kernel, rfl⟩
theorem dJ0_indexOf_7cf53_13 : pm_dec mJ0_indexOf_7cf53 13 (.aload_n 0, 1) 14 := ⟨by decide +kernel, rfl⟩
theorem dJ0_indexOf_7cf53_14 : pm_dec mJ0_indexOf_7cf53 14 (.invokevirtual 505, 3) 17 := ⟨by decide +kernel, rfl⟩
theorem dJ0_indexOf_7cf53_17 : pm_dec mJ0_indexOf_7cf53 17 (.invokestatic 637, 3) 20 := ⟨by decide +kernel, rfl⟩
theorem dJ0_indexOf_7cf53_20 : pm_dec mJ0_indexOf_7cf53 20 (.goto 16, 3) 23 := ⟨by decide +kernel, rfl⟩
theorem dJ0_indexOf_7cf53_23 : pm_dec mJ0_indexOf_7cf53 23 (.aload_n 0, 1) 24 := ⟨by decide +kernel, rfl⟩
theorem dJ0_indexOf_7cf53_24 : pm_dec mJ0_indexOf_7cf53 24 (.getfield 9, 3) 27 := ⟨by decide +kernel, rfl⟩
theorem dJ0_indexOf_7cf53_27 : pm_dec mJ0_indexOf_7cf53 27 (.iload_n 1, 1) 28 := ⟨by decide +kernel, rfl⟩
theorem dJ0_indexOf_7cf53_28 : pm_dec mJ0_indexOf_7cf53 28 (.iload_n 2, 1) 29 := ⟨by decide +kernel, rfl⟩
theorem dJ0_indexOf_7cf53_29 : pm_dec mJ0_indexOf_7cf53 29 (.aload_n 0, 1) 30 := ⟨by decide +kernel, rfl⟩
theorem dJ0_indexOf_7cf53_30 : pm_dec mJ0_indexOf_7cf53 30 (.invokevirtual 505, 3) 33 := ⟨by decide +kernel, rfl⟩
theorem dJ0_indexOf_7cf53_33 : pm_dec mJ0_indexOf_7cf53 33 (.invokestatic 640, 3) 36 := ⟨by decide +kernel, rfl⟩
theorem dJ0_indexOf_7cf53_36 : pm_dec mJ0_indexOf_7cf53 36 (.ireturn, 1) 37 := ⟨by decide +kernel, rfl⟩
theorem dJ0_indexOf_0f7a4_0 : pm_dec mJ0_indexOf_0f7a4 0 (.aload_n 0, 1) 1 := ⟨by decide +kernel, rfl⟩
theorem dJ0_indexOf_0f7a4_1 : pm_dec mJ0_indexOf_0f7a4 1 (.iload_n 1, 1) 2 := ⟨by decide +kernel, rfl⟩
theorem dJ0_indexOf_0f7a4_2 : pm_dec mJ0_indexOf_0f7a4 2 (.iconst 0, 1) 3 := ⟨by decide +kernel, rfl⟩
theorem dJ0_indexOf_0f7a4_3 : pm_dec mJ0_indexOf_0f7a4 3 (.invokevirtual 633, 3) 6 := ⟨by decide +kernel, rfl⟩
theorem dJ0_indexOf_0f7a4_6 : pm_dec mJ0_indexOf_0f7a4 6 (.ireturn, 1) 7 := ⟨by decide +kernel, rfl⟩
theorem lkJ1_88 (M : pm_M) (h : M.1.cls = RJ1) : pm_lk M 88 mJ1_canEncode_9a6ad := Or.inl (by rw [h]; exact (pm_it3 217 (by decide +kernel) (by decide +kernel)))
theorem cn_J1 : RJ1 ≠ "java/lang/invoke/MethodHandle" ∧ RJ1 ≠ "java/lang/invoke/VarHandle" := by decide +kernel
theorem okS_J1_canEncode_9a6ad : pm_mokS mJ1_canEncode_9a6ad 1 := ⟨⟨⟨(pm_it3 219 (by decide +kernel) (by decide +kernel)), (pm_it1 17 (by decide +kernel) (by decide +kernel))⟩, ⟨cn_J1.1, cn_J1.2, pd__I_Z⟩, by decide⟩, (pm_it3 218 (by decide +kernel) (by decide +kernel))⟩
theorem mmJ1_92 (M : pm_M) (h : M.1.cls = RJ1) : Cond.methodLink M.1.cls 92 Lib.Math.max.name ∈ pm_tbl := by rw [h]; exact (pm_it3 220 (by decide +kernel) (by decide +kernel))
theorem mmJ1_38 (M : pm_M) (h : M.1.cls = RJ1) : Cond.methodLink M.1.cls 38 Lib.Math.min.name ∈ pm_tbl := by rw [h]; exact (pm_it3 221 (by decide +kernel) (by decide +kernel))
theorem lkJ1_95 (M : pm_M) (h : M.1.cls = RJ1) : pm_lk M 95 mJ1_indexOfChar_4cfef := Or.inl (by rw [h]; exact (pm_it3 222 (by decide +kernel) (by decide +kernel)))
theorem pd___BIII_I : (parseMethodDescriptor "([BIII)I").map (fun d => d.parameters.length) = some 4 := by decide +kernel
theorem okS_J1_indexOfChar_4cfef : pm_mokS mJ1_indexOfChar_4cfef 4 := ⟨⟨⟨(pm_it3 224 (by decide +kernel) (by decide +kernel)), (pm_it1 17 (by decide +kernel) (by decide +kernel))⟩, ⟨cn_J1.1, cn_J1.2, pd___BIII_I⟩, by decide⟩, (pm_it3 223 (by decide +kernel) (by decide +kernel))⟩
theorem lpJ1_95 (M : pm_M) (h : M.1.cls = RJ1) : Cond.methodLink M.1.cls 95 mJ1_indexOfChar_4cfef.1 ∈ pm_tbl := by rw [h]; exact (pm_it3 222 (by decide +kernel) (by decide +kernel))
theorem foJ0_38 (M : pm_M) (h : M.1.cls = RJ0) : Cond.fieldLink M.1.cls 38 "java/lang/String" "COMPACT_STRINGS" "Z" ∈ pm_tbl := by rw [h]; exact (pm_it3 204 (by decide +kernel) (by decide +kernel))
theorem foJ0_15 (M : pm_M) (h : M.1.cls = RJ0) : Cond.fieldLink M.1.cls 15 "java/lang/String" "coder" "B" ∈ pm_tbl := by rw [h]; exact (pm_it9 17 (by decide +kernel) (by decide +kernel))
theorem foJ0_9 (M : pm_M) (h : M.1.cls = RJ0) : Cond.fieldLink M.1.cls 9 "java/lang/String" "value" "[B" ∈ pm_tbl := by rw [h]; exact (pm_it9 18 (by decide +kernel) (by decide +kernel))
theorem lkJ0_335 (M : pm_M) (h : M.1.cls = RJ0) : pm_lk M 335 mJ0_coder_7d493 := Or.inl (by rw [h]; exact (pm_it3 210 (by decide +kernel) (by decide +kernel)))
theorem pd___B : (parseMethodDescriptor "()B").map (fun d => d.parameters.length) = some 0 := by decide +kernel
theorem okV_J0_coder_7d493 : pm_mokV mJ0_coder_7d493 0 := ⟨⟨⟨(pm_it3 213 (by decide +kernel) (by decide +kernel)), (pm_it1 16 (by decide +kernel) (by decide +kernel))⟩, ⟨cn_J0.1, cn_J0.2, pd___B⟩, by decide⟩, (pm_it3 211 (by decide +kernel) (by decide +kernel)), (pm_it3 212 (by decide +kernel) (by decide +kernel))⟩
theorem lpJ0_335 (M : pm_M) (h : M.1.cls = RJ0) : Cond.methodLink M.1.cls 335 mJ0_coder_7d493.1 ∈ pm_tbl := by rw [h]; exact (pm_it3 210 (by decide +kernel) (by decide +kernel))
theorem lkJ0_492 (M : pm_M) (h : M.1.cls = RJ0) : pm_lk M 492 mJ0_isLatin1_aae02 := Or.inl (by rw [h]; exact (pm_it3 200 (by decide +kernel) (by decide +kernel)))
theorem okV_J0_isLatin1_aae02 : pm_mokV mJ0_isLatin1_aae02 0 := ⟨⟨⟨(pm_it3 203 (by decide +kernel) (by decide +kernel)), (pm_it1 16 (by decide +kernel) (by decide +kernel))⟩, ⟨cn_J0.1, cn_J0.2, pd___Z⟩, by decide⟩, (pm_it3 201 (by decide +kernel) (by decide +kernel)), (pm_it3 202 (by decide +kernel) (by decide +kernel))⟩
theorem lpJ0_492 (M : pm_M) (h : M.1.cls = RJ0) : Cond.methodLink M.1.cls 492 mJ0_isLatin1_aae02.1 ∈ pm_tbl := by rw [h]; exact (pm_it3 200 (by decide +kernel) (by decide +kernel))
theorem lkJ0_505 (M : pm_M) (h : M.1.cls = RJ0) : pm_lk M 505 mJ0_length_8abf5 := Or.inl (by rw [h]; exact (pm_it3 206 (by decide +kernel) (by decide +kernel)))
theorem okV_J0_length_8abf5 : pm_mokV mJ0_length_8abf5 0 := ⟨⟨⟨(pm_it3 209 (by decide +kernel) (by decide +kernel)), (pm_it1 16 (by decide +kernel) (by decide +kernel))⟩, ⟨cn_J0.1, cn_J0.2, pd___I⟩, by decide⟩, (pm_it3 207 (by decide +kernel) (by decide +kernel)), (pm_it3 208 (by decide +kernel) (by decide +kernel))⟩
theorem lpJ0_505 (M : pm_M) (h : M.1.cls = RJ0) : Cond.methodLink M.1.cls 505 mJ0_length_8abf5.1 ∈ pm_tbl := by rw [h]; exact (pm_it3 206 (by decide +kernel) (by decide +kernel))
theorem lkJ0_637 (M : pm_M) (h : M.1.cls = RJ0) : pm_lk M 637 mJ1_indexOf_4cfef := Or.inl (by rw [h]; exact (pm_it3 214 (by decide +kernel) (by decide +kernel)))
theorem okS_J1_indexOf_4cfef : pm_mokS mJ1_indexOf_4cfef 4 := ⟨⟨⟨(pm_it3 216 (by decide +kernel) (by decide +kernel)), (pm_it1 17 (by decide +kernel) (by decide +kernel))⟩, ⟨cn_J1.1, cn_J1.2, pd___BIII_I⟩, by decide⟩, (pm_it3 215 (by decide +kernel) (by decide +kernel))⟩
theorem lpJ0_637 (M : pm_M) (h : M.1.cls = RJ0) : Cond.methodLink M.1.cls 637 mJ1_indexOf_4cfef.1 ∈ pm_tbl := by rw [h]; exact (pm_it3 214 (by decide +kernel) (by decide +kernel))
theorem lkJ0_633 (M : pm_M) (h : M.1.cls = RJ0) : pm_lk M 633 mJ0_indexOf_7cf53 := Or.inl (by rw [h]; exact (pm_it3 196 (by decide +kernel) (by decide +kernel)))
theorem okV_J0_indexOf_7cf53 : pm_mokV mJ0_indexOf_7cf53 2 := ⟨⟨⟨(pm_it3 199 (by decide +kernel) (by decide +kernel)), (pm_it1 16 (by decide +kernel) (by decide +kernel))⟩, ⟨cn_J0.1, cn_J0.2, pd__II_I⟩, by decide⟩, (pm_it3 197 (by decide +kernel) (by decide +kernel)), (pm_it3 198 (by decide +kernel) (by decide +kernel))⟩
theorem lpJ0_633 (M : pm_M) (h : M.1.cls = RJ0) : Cond.methodLink M.1.cls 633 mJ0_indexOf_7cf53.1 ∈ pm_tbl := by rw [h]; exact (pm_it3 196 (by decide +kernel) (by decide +kernel))
/-! ===== the String constant of the NAMES: q, its bytes z, both below B ===== -/
def pm_isNm (B q z : Nat) (U : State) : Prop :=
  va_O "java/lang/String" q (fun a => B ≤ a) U U.heap ∧ va_OF "java/lang/String" "coder" "B" (.int 0) q (fun a => B ≤ a) U U.heap ∧ va_OF "java/lang/String" "value" "[B" (.ref z) q (fun a => B ≤ a) U U.heap ∧ va_T .byte z 11 (fun j => .int (pm_nb.getD j 0)) (fun a => B ≤ a) U U.heap
theorem pm_isNm.moved {B q z : Nat} {s U : State} (hW : s.WarmedH U.vm) (hh : ∀ a : Nat, a < B → U.heap[a]? = s.heap[a]?) (h : pm_isNm B q z s) : pm_isNm B q z U := by
  obtain ⟨h1, h2, h3, h4⟩ := h
  have hk : ∀ a : Nat, a < s.heap.size → ¬ (B ≤ a) → U.heap[a]? = s.heap[a]? := fun a _ ha => hh a (by omega)
  exact ⟨(va_O.moved hW.alike h1).kept hk, (va_OF.moved hW.alike h2).kept hk, (va_OF.moved hW.alike h3).kept hk, (va_T.moved hW.alike h4).kept hk⟩
/-- a method's contract where q and z are the String and its bytes -/
def pm_metN (q z : Nat) (M : pm_M) (d mc ms B : Nat) (av : List Value) (cnt : Nat) (σ : pm_S) (Q : Option Value → pm_S → Nat → Prop) : Prop :=
  ∀ (l : Launch) (D : va_G) (cI : ClassId), Met l M.1 (pm_ws M) (pm_room d mc ms) (va_Pc av (fun U => ((pm_env D cI U ∧ pm_ow B U) ∧ pm_isNm B q z U) ∧ pm_H D cI B σ cnt U.heap)) (pm_Q D cI B Q) mc ms (fun a => B ≤ a)
theorem pm_blindN {D : va_G} {cI : ClassId} {B q z cnt : Nat} {σ : pm_S} {av : List Value} : FrameBlind (va_Pc av (fun U => ((pm_env D cI U ∧ pm_ow B U) ∧ pm_isNm B q z U) ∧ pm_H D cI B σ cnt U.heap)) := by
  intro a U g mk h
  obtain ⟨h1, ⟨h2, h4⟩, h3⟩ := h
  exact ⟨h1, ⟨⟨h2.1.moved (U := U.calling g mk a) (State.WarmedH.refl U), h2.2.moved (U := U.calling g mk a) (State.WarmedH.refl U) (fun _ _ => rfl)⟩, h4.moved (U := U.calling g mk a) (State.WarmedH.refl U) (fun _ _ => rfl)⟩, h3⟩
section PMN
variable {M : pm_M} {G : pm_G} {B pc pc' q z : Nat} {loc : List (Option Value)} {st : List Value} {cs zs cnt : Nat} {σ : pm_S}
theorem pm_enterN {d mc ms : Nat} {av : List Value} {Q : Option Value → pm_S → Nat → Prop} (k : Nat) (hpl : plainName M.1.cls = true) (hlen : (lg_sl av).length ≤ M.2.2.1) (hloc : pm_args av ++ List.replicate k none = loc)
    (body : ∀ G : pm_G, pm_ok M G B → pm_rm G d mc ms → pm_fin G B mc ms Q → pm_isNm B q z (pm_s G) → pm_wp M G B 0 loc [] 0 0 cnt σ) : pm_metN q z M d mc ms B av cnt σ Q := by
  intro l D cI
  refine Met.ofW (cc := M.2.1) (maxL := M.2.2.1) (ret := M.2.2.2) hpl rfl ?_
  intro p e s m args below meth c s₁ Bd hml hv
  obtain ⟨rfl, ⟨⟨henv, how⟩, hN⟩, hH⟩ := hv
  have hts := atoms_spec (ws := pm_ws M) Bd.pre
  have hG : pm_ok M ((p, l, e, pm_room d mc ms, s, m, av.toArray, below, meth, c), (D, cI), MQ below (pm_Q D cI B Q) av.toArray s mc ms (fun a => B ≤ a)) B :=
    ⟨⟨Bd.exec, Bd.bytes, hml, findClass_of_methodNamed Bd.named, how⟩, fun w hw => hts w (List.mem_cons_of_mem _ hw), henv, by show B ≤ s.heap.size; rw [hH.1]; exact Nat.le_add_right _ _, Bd.notSynchronized, Bd.returns, (name_of_methodNamed Bd.named Bd.method).1⟩
  have h := body _ hG ⟨Nat.le_refl _, Nat.le_refl _, Nat.le_refl _, Nat.le_refl _⟩ rfl hN
  rw [lg_entry_eq]
  have hl := lv_entry av (n := M.2.2.1) hlen
  refine h s.heap _ [] hH (fun q _ => rfl) ?_ (fun q hq => by cases hq)
  unfold pm_L
  rw [← hloc, pm_args_lv]
  exact hl
theorem pm_callVN {M2 : pm_M} {i n d d2 mc mc2 ms ms2 : Nat} {As rest : List Value} {Q2 : Option Value → pm_S → Nat → Prop} (hN : pm_isNm B q z (pm_s G)) (hG : pm_ok M G B) (hR : pm_rm G d mc ms) (hd : pm_dec M pc (.invokevirtual i, 3) pc') (hl : Cond.methodLink M.1.cls i M2.1 ∈ pm_tbl) (hm : pm_mokV M2 n) (hc : M2.1.cls = "java/lang/String")
    (hM : pm_metN q z M2 d2 mc2 ms2 B (.ref q :: As) cnt σ Q2) (hst : st = As.reverse ++ .ref q :: rest) (hn : As.length = n) (hd2 : d2 + 1 ≤ d) (hcs : cs + mc2 ≤ mc) (hzs : zs + ms2 ≤ ms) (hw : (rest.map fun v => v.category).sum ≤ 8)
    (kk : ∀ (r : Option Value) (σ' : pm_S) (cnt' : Nat), Q2 r σ' cnt' → pm_wp M G B pc' loc (r.toList ++ rest) (cs + mc2) (zs + ms2) cnt' σ') : pm_wp M G B pc loc st cs zs cnt σ := by
  obtain ⟨hd, rfl⟩ := hd
  subst hst
  intro H ls locs h1 h2 h3 h4
  have hp : PreV (pm_s G) H M2.1.cls q (va_Pc (.ref q :: As) (fun U => ((pm_env G.2.1.1 G.2.1.2 U ∧ pm_ow B U) ∧ pm_isNm B q z U) ∧ pm_H G.2.1.1 G.2.1.2 B σ cnt U.heap)) As := by
    refine ⟨pm_blindN, ?_, fun U hU hW => ⟨rfl, ⟨⟨hG.env.moved hW, hG.ow.moved hW (fun a ha => by rw [hU]; exact h2 a ha)⟩, hN.moved hW (fun a ha => by rw [hU]; exact h2 a ha)⟩, by rw [hU]; exact h1⟩⟩
    obtain ⟨cell, e1, e2, e3, e4⟩ := hN.1
    exact ⟨cell, by rw [h2 q (Nat.lt_of_not_le e4)]; exact e1, e2, by rw [hc]; exact e3⟩
  refine pm_run (av := .ref q :: As) h2 h3 h4 ?_ kk
  exact va_runV (As := As) (rest := rest) ⟨hG.x, hG.b, hG.ml, hG.own, hG.ts⟩ (hM _ _ _) ⟨pm_cb hG hR hm.1 hl hd2, hG.ts _ hm.2.1, hG.ts _ hm.2.2⟩ hp rfl hn h3.1 rfl (lv_room hw) hd ⟨Nat.le_trans hcs hR.2.2.1, Nat.le_trans hzs hR.2.2.2⟩
theorem pm_callSN {M2 : pm_M} {i n d d2 mc mc2 ms ms2 : Nat} {As rest : List Value} {Q2 : Option Value → pm_S → Nat → Prop} (hN : pm_isNm B q z (pm_s G)) (hG : pm_ok M G B) (hR : pm_rm G d mc ms) (hd : pm_dec M pc (.invokestatic i, 3) pc') (hl : Cond.methodLink M.1.cls i M2.1 ∈ pm_tbl) (hm : pm_mokS M2 n)
    (hM : pm_metN q z M2 d2 mc2 ms2 B As cnt σ Q2) (hst : st = As.reverse ++ rest) (hn : As.length = n) (hd2 : d2 + 1 ≤ d) (hcs : cs + mc2 ≤ mc) (hzs : zs + ms2 ≤ ms) (hw : (rest.map fun v => v.category).sum ≤ 8)
    (kk : ∀ (r : Option Value) (σ' : pm_S) (cnt' : Nat), Q2 r σ' cnt' → pm_wp M G B pc' loc (r.toList ++ rest) (cs + mc2) (zs + ms2) cnt' σ') : pm_wp M G B pc loc st cs zs cnt σ := by
  obtain ⟨hd, rfl⟩ := hd
  subst hst
  intro H ls locs h1 h2 h3 h4
  have hp : PreS (pm_s G) H (va_Pc As (fun U => ((pm_env G.2.1.1 G.2.1.2 U ∧ pm_ow B U) ∧ pm_isNm B q z U) ∧ pm_H G.2.1.1 G.2.1.2 B σ cnt U.heap)) As := ⟨pm_blindN, fun U hU hW => ⟨rfl, ⟨⟨hG.env.moved hW, hG.ow.moved hW (fun a ha => by rw [hU]; exact h2 a ha)⟩, hN.moved hW (fun a ha => by rw [hU]; exact h2 a ha)⟩, by rw [hU]; exact h1⟩⟩
  refine pm_run (av := As) h2 h3 h4 ?_ kk
  exact va_runS (As := As) (rest := rest) ⟨hG.x, hG.b, hG.ml, hG.own, hG.ts⟩ (hM _ _ _) ⟨pm_cb hG hR hm.1 hl hd2, hG.ts _ hm.2⟩ hp rfl hn h3.1 rfl (lv_room hw) hd ⟨Nat.le_trans hcs hR.2.2.1, Nat.le_trans hzs hR.2.2.2⟩
theorem pm_ldcN (hG : pm_ok M G B) (hc : M.1.cls = "SealCouncil$Reader") (hd : pm_dec M pc (.ldc 63, 2) pc') (kk : ∀ q z : Nat, pm_isNm B q z (pm_s G) → pm_wp M G B pc' loc (.ref q :: st) cs zs cnt σ) : pm_wp M G B pc loc st cs zs cnt σ := by
  obtain ⟨hd, rfl⟩ := hd
  obtain ⟨-, -, adK, adV, hS, hR⟩ := hG.ow
  obtain ⟨g1, g2, g3, g4⟩ := hS.1 0 (by decide)
  intro H ls locs h1 h2 h3 h4
  exact va_ldcS hG.x hG.b hG.own (by rw [hc]; exact hR) hd (kk (adK 0) (adV 0) ⟨g1, g2, g3, g4⟩ H ls locs h1 h2 h3 h4)
theorem pm_ngetC {i : Nat} (hN : pm_isNm B q z (pm_s G)) (hG : pm_ok M G B) (hd : pm_dec M pc (.getfield i, 3) pc') (hl : Cond.fieldLink M.1.cls i "java/lang/String" "coder" "B" ∈ pm_tbl) (kk : pm_wp M G B pc' loc (.int 0 :: st) cs zs cnt σ) : pm_wp M G B pc loc (.ref q :: st) cs zs cnt σ := by
  obtain ⟨hd, rfl⟩ := hd
  obtain ⟨cf, k, fi, f, cell, e1, e2, e3, e4, e5, e6⟩ := hN.2.1
  intro H ls locs h1 h2 h3 h4
  exact W.getf hG.x hG.b hG.own (hG.ts _ hl) e1 e2 (by rw [h2 q (Nat.lt_of_not_le e6)]; exact e3) e4 (v := .int 0) e5 rfl rfl hd (kk H ls locs h1 h2 h3 h4)
theorem pm_ngetV {i : Nat} (hN : pm_isNm B q z (pm_s G)) (hG : pm_ok M G B) (hd : pm_dec M pc (.getfield i, 3) pc') (hl : Cond.fieldLink M.1.cls i "java/lang/String" "value" "[B" ∈ pm_tbl) (kk : pm_wp M G B pc' loc (.ref z :: st) cs zs cnt σ) : pm_wp M G B pc loc (.ref q :: st) cs zs cnt σ := by
  obtain ⟨hd, rfl⟩ := hd
  obtain ⟨cf, k, fi, f, cell, e1, e2, e3, e4, e5, e6⟩ := hN.2.2.1
  intro H ls locs h1 h2 h3 h4
  exact W.getf hG.x hG.b hG.own (hG.ts _ hl) e1 e2 (by rw [h2 q (Nat.lt_of_not_le e6)]; exact e3) e4 (v := .ref z) e5 rfl rfl hd (kk H ls locs h1 h2 h3 h4)
theorem pm_gsCS {i : Nat} (hG : pm_ok M G B) (hd : pm_dec M pc (.getstatic i, 3) pc') (hl : Cond.fieldLink M.1.cls i "java/lang/String" "COMPACT_STRINGS" "Z" ∈ pm_tbl) (kk : pm_wp M G B pc' loc (.int 1 :: st) cs zs cnt σ) : pm_wp M G B pc loc st cs zs cnt σ := by
  obtain ⟨hd, rfl⟩ := hd
  obtain ⟨-, ⟨cf, kf, fi, f, a, cell, e1, e2, e3, e4, e5, e6, e7, e8⟩, -⟩ := hG.ow
  intro H ls locs h1 h2 h3 h4
  exact W.gets hG.x hG.b hG.own (hG.ts _ hl) e1 e2 e3 e4 (by rw [h2 a (Nat.lt_of_not_le e8)]; exact e5) (fun e => by rw [e] at e6; cases e6) e7 rfl hd (kk H ls locs h1 h2 h3 h4)
theorem pm_nbLen (hN : pm_isNm B q z (pm_s G)) (hG : pm_ok M G B) (hd : pm_dec M pc (.arraylength, 1) pc') (kk : pm_wp M G B pc' loc (.int 11 :: st) cs zs cnt σ) : pm_wp M G B pc loc (.ref z :: st) cs zs cnt σ := by
  obtain ⟨hd, rfl⟩ := hd
  obtain ⟨cell, e1, e2, e3, e4, e5, e6, e7⟩ := hN.2.2.2
  intro H ls locs h1 h2 h3 h4
  exact W.alen (n := Int32.ofNat 11) hG.x hG.b (by rw [h2 z (Nat.lt_of_not_le e7)]; exact e1) e2 e5 rfl rfl hd (kk H ls locs h1 h2 h3 h4)
theorem pm_nbLd {i : Int32} (hN : pm_isNm B q z (pm_s G)) (hG : pm_ok M G B) (hd : pm_dec M pc (.baload, 1) pc') (hin : vp_in i 11) (kk : ∀ v : Int32, pm_wp M G B pc' loc (.int v :: st) cs zs cnt σ) : pm_wp M G B pc loc (.int i :: .ref z :: st) cs zs cnt σ := by
  obtain ⟨hd, rfl⟩ := hd
  obtain ⟨cell, e1, e2, e3, e4, e5, e6, e7⟩ := hN.2.2.2
  intro H ls locs h1 h2 h3 h4
  have hlt : i.toNatClampNeg < 11 := Nat.not_le.mp fun a => hin (Or.inr a)
  have hin' : ¬ (i < 0 ∨ cell.slots.size ≤ i.toNatClampNeg) := by
    intro a
    rcases a with a | a
    · exact hin (Or.inl a)
    · omega
  exact W.bald (v := .int (pm_nb.getD i.toNatClampNeg 0)) hG.x hG.b (by rw [h2 z (Nat.lt_of_not_le e7)]; exact e1) e2 e3 hin' (by rw [e6 _ hlt]) rfl rfl hd (kk _ H ls locs h1 h2 h3 h4)
theorem pm_i2c {x : Int32} (hG : pm_ok M G B) (hd : pm_dec M pc (.i2c, 1) pc') (kk : ∀ v : Int32, pm_wp M G B pc' loc (.int v :: st) cs zs cnt σ) : pm_wp M G B pc loc (.int x :: st) cs zs cnt σ := by
  obtain ⟨hd, rfl⟩ := hd
  intro H ls locs h1 h2 h3 h4
  exact lv_i2c hG.x hG.b hd rfl (kk _ H ls locs h1 h2 h3 h4)
theorem pm_bret {v : Int32} {mc ms : Nat} {Q : Option Value → pm_S → Nat → Prop} (hG : pm_ok M G B) (hp : pm_fin G B mc ms Q) (hd : pm_dec M pc (.ireturn, 1) pc') (hret : M.2.2.2 = some .byte) (hv : narrow .byte (.int v) = .int v) (hcs : cs ≤ mc) (hzs : zs ≤ ms) (hq : Q (some (.int v)) σ cnt) : pm_wp M G B pc loc [.int v] cs zs cnt σ := by
  intro H ls locs h1 h2 h3 h4
  unfold pm_Wg
  rw [hp]
  refine W.widen hcs hzs (W.zret hG.x hG.b (hG.2.2.2.2.2.1.trans hret) hv (fun t ht hW => ⟨_, σ, cnt, rfl, hq, by rw [ht]; exact h1, fun q hq => by rw [ht]; exact h2 q hq⟩) h4 hd.1 hG.2.2.2.2.1)
end PMN
def nmV (x : Int32) : Int32 := if x = 97 then 0 else if x = 115 then 1 else if x = 107 then 2 else if x = 99 then 3 else if x = 109 then 4 else if x = 116 then 5 else if x = 98 then 6 else if x = 121 then 7 else if x = 111 then 8 else if x = 119 then 9 else if x = 100 then 10 else -1
def fIdx (x : Int32) : Option Int32 := if x < 0 ∨ 255 < x then none else some (nmV x)
theorem fIdx_in {x R : Int32} (h : fIdx x = some R) : (¬ x < 0 ∧ ¬ 255 < x) ∧ nmV x = R := by
  unfold fIdx at h
  split at h
  · cases h
  · next q => exact ⟨⟨fun z => q (Or.inl z), fun z => q (Or.inr z)⟩, Option.some.inj h⟩
theorem in_nat {x : Int32} {a b : Nat} (ha : a < 2 ^ 31) (hb : b < 2 ^ 31) (h1 : ¬ x < nI a) (h2 : ¬ nI b < x) : ∃ k : Nat, (a ≤ k ∧ k ≤ b) ∧ x = nI k := by
  have h3 : ¬ x < 0 := fun q => h1 (Int32.lt_of_lt_of_le q (nI_pos' ha))
  obtain ⟨k, hk, rfl⟩ := nI_of h3
  refine ⟨k, ⟨?_, ?_⟩, rfl⟩
  · exact Nat.le_of_not_lt (fun q => h1 ((nI_ltI hk ha).mpr q))
  · exact Nat.le_of_not_lt (fun q => h2 ((nI_ltI hb hk).mpr q))
theorem by_nat {x : Int32} (h0 : ¬ x < 0) (h1 : ¬ 255 < x) : ∃ w : Fin 256, x = nI w.val := by
  obtain ⟨k, hk, e⟩ := in_nat (a := 0) (b := 255) (by decide) (by decide) h0 h1
  exact ⟨⟨k, by omega⟩, e⟩
theorem i2c_all : ∀ w : Fin 256, ((nI w.val).toUInt32 % 65536).toInt32 = nI w.val := by decide +kernel
theorem i2b_all : ∀ y ∈ pm_nb, ∀ w : Fin 256, (y = (nI w.val).toInt8.toInt32 ↔ nI w.val = y) := by decide +kernel
theorem i2c_b {x : Int32} (h0 : ¬ x < 0) (h1 : ¬ 255 < x) : (x.toUInt32 % 65536).toInt32 = x := by
  obtain ⟨w, rfl⟩ := by_nat h0 h1
  exact i2c_all w
theorem i2b_b {x y : Int32} (h0 : ¬ x < 0) (h1 : ¬ 255 < x) (hy : y ∈ pm_nb) : y = x.toInt8.toInt32 ↔ x = y := by
  obtain ⟨w, rfl⟩ := by_nat h0 h1
  exact i2b_all y hy w
section PMT
variable {M : pm_M} {G : pm_G} {B pc pc' q z : Nat} {loc : List (Option Value)} {st : List Value} {cs zs cnt : Nat} {σ : pm_S}
theorem pm_nbLdE {i : Int32} {v : Int32} (hN : pm_isNm B q z (pm_s G)) (hG : pm_ok M G B) (hd : pm_dec M pc (.baload, 1) pc') (hin : vp_in i 11) (hv : pm_nb.getD i.toNatClampNeg 0 = v) (kk : pm_wp M G B pc' loc (.int v :: st) cs zs cnt σ) : pm_wp M G B pc loc (.int i :: .ref z :: st) cs zs cnt σ := by
  subst hv
  obtain ⟨hd, rfl⟩ := hd
  obtain ⟨cell, e1, e2, e3, e4, e5, e6, e7⟩ := hN.2.2.2
  intro H ls locs h1 h2 h3 h4
  have hlt : i.toNatClampNeg < 11 := Nat.not_le.mp fun a => hin (Or.inr a)
  have hin' : ¬ (i < 0 ∨ cell.slots.size ≤ i.toNatClampNeg) := by
    intro a
    rcases a with a | a
    · exact hin (Or.inl a)
    · omega
  exact W.bald (v := .int (pm_nb.getD i.toNatClampNeg 0)) hG.x hG.b (by rw [h2 z (Nat.lt_of_not_le e7)]; exact e1) e2 e3 hin' (by rw [e6 _ hlt]) rfl rfl hd (kk H ls locs h1 h2 h3 h4)
theorem pm_i2cE {x v : Int32} (hG : pm_ok M G B) (hd : pm_dec M pc (.i2c, 1) pc') (hv : (x.toUInt32 % 65536).toInt32 = v) (kk : pm_wp M G B pc' loc (.int v :: st) cs zs cnt σ) : pm_wp M G B pc loc (.int x :: st) cs zs cnt σ := by
  obtain ⟨hd, rfl⟩ := hd
  intro H ls locs h1 h2 h3 h4
  exact lv_i2c hG.x hG.b hd hv (kk H ls locs h1 h2 h3 h4)
end PMT
set_option maxRecDepth 100000 in
theorem gk_canEncode {d B cnt : Nat} {σ : pm_S} {x : Int32} (h0 : ¬ x < 0) (h1 : ¬ 255 < x) : pm_met mJ1_canEncode_9a6ad d 0 0 B [.int x] cnt σ (pm_Qi (fun v σ' cnt' => v = 1 ∧ σ' = σ ∧ cnt' = cnt)) := by
  refine pm_enter 0 (by decide) (Nat.le_of_ble_eq_true rfl) rfl (fun G hG hR hF => ?_)
  refine pm_iloadn hG dJ1_canEncode_9a6ad_0 rfl ?_
  refine pm_if_lt (tgt := 15) hG dJ1_canEncode_9a6ad_1 rfl (fun q => absurd q h0) (fun _ => ?_)
  refine pm_iloadn hG dJ1_canEncode_9a6ad_4 rfl ?_
  refine pm_sipush (v := 255) hG dJ1_canEncode_9a6ad_5 (by decide) ?_
  refine pm_icmp_gt (tgt := 15) hG dJ1_canEncode_9a6ad_8 rfl (fun q => absurd q h1) (fun _ => ?_)
  refine pm_iconst (v := 1) hG dJ1_canEncode_9a6ad_11 (by decide) ?_
  refine pm_goto (tgt := 16) hG dJ1_canEncode_9a6ad_12 rfl ?_
  exact pm_zret hG hF dJ1_canEncode_9a6ad_16 rfl (by rfl) (by decide) (by decide) ⟨_, rfl, rfl, rfl, rfl⟩
set_option maxRecDepth 100000 in
theorem fj_ioc {d B cnt q z : Nat} {σ : pm_S} {x : Int32} (h0 : ¬ x < 0) (h1 : ¬ 255 < x) : pm_metN q z mJ1_indexOfChar_4cfef d 0 0 B [.ref z, .int x, .int 0, .int 11] cnt σ (pm_Qi (fun v σ' cnt' => v = nmV x ∧ σ' = σ ∧ cnt' = cnt)) := by
  refine pm_enterN 2 (by decide) (Nat.le_of_ble_eq_true rfl) rfl (fun G hG hR hF hN => ?_)
  refine pm_iloadn hG dJ1_indexOfChar_4cfef_0 rfl ?_
  refine pm_i2b hG dJ1_indexOfChar_4cfef_1 rfl ?_
  refine pm_istoreXi (loc' := [some (.ref z), some (.int x), some (.int 0), some (.int 11), some (.int x.toInt8.toInt32), none]) hG dJ1_indexOfChar_4cfef_2 (by decide) (pm_c1b rfl) rfl ?_
  refine pm_iloadn hG dJ1_indexOfChar_4cfef_4 rfl ?_
  refine pm_istoreXi (loc' := [some (.ref z), some (.int x), some (.int 0), some (.int 11), some (.int x.toInt8.toInt32), some (.int 0)]) hG dJ1_indexOfChar_4cfef_5 (by decide) (pm_c1b rfl) rfl ?_
  refine pm_iloadi hG dJ1_indexOfChar_4cfef_7 rfl ?_
  refine pm_iloadn hG dJ1_indexOfChar_4cfef_9 rfl ?_
  refine pm_icmp_ge (tgt := 31) hG dJ1_indexOfChar_4cfef_10 rfl (fun q => absurd q (by decide)) (fun _ => ?_)
  refine pm_aloadn hG dJ1_indexOfChar_4cfef_13 rfl ?_
  refine pm_iloadi hG dJ1_indexOfChar_4cfef_14 rfl ?_
  refine pm_nbLdE (v := 97) hN hG dJ1_indexOfChar_4cfef_16 (pm_inb (by decide)) rfl ?_
  refine pm_iloadi hG dJ1_indexOfChar_4cfef_17 rfl ?_
  refine pm_icmp_ne (tgt := 25) hG dJ1_indexOfChar_4cfef_19 rfl (fun c1 => ?_) (fun c1 => ?_)
  · refine pm_iincX (v := 1) (loc' := [some (.ref z), some (.int x), some (.int 0), some (.int 11), some (.int x.toInt8.toInt32), some (.int 1)]) hG dJ1_indexOfChar_4cfef_25 rfl (by rfl) (by decide) (pm_c1b rfl) rfl ?_
    refine pm_goto (tgt := 7) hG dJ1_indexOfChar_4cfef_28 rfl ?_
    refine pm_iloadi hG dJ1_indexOfChar_4cfef_7 rfl ?_
    refine pm_iloadn hG dJ1_indexOfChar_4cfef_9 rfl ?_
    refine pm_icmp_ge (tgt := 31) hG dJ1_indexOfChar_4cfef_10 rfl (fun q => absurd q (by decide)) (fun _ => ?_)
    refine pm_aloadn hG dJ1_indexOfChar_4cfef_13 rfl ?_
    refine pm_iloadi hG dJ1_indexOfChar_4cfef_14 rfl ?_
    refine pm_nbLdE (v := 115) hN hG dJ1_indexOfChar_4cfef_16 (pm_inb (by decide)) rfl ?_
    refine pm_iloadi hG dJ1_indexOfChar_4cfef_17 rfl ?_
    refine pm_icmp_ne (tgt := 25) hG dJ1_indexOfChar_4cfef_19 rfl (fun c2 => ?_) (fun c2 => ?_)
    · refine pm_iincX (v := 2) (loc' := [some (.ref z), some (.int x), some (.int 0), some (.int 11), some (.int x.toInt8.toInt32), some (.int 2)]) hG dJ1_indexOfChar_4cfef_25 rfl (by rfl) (by decide) (pm_c1b rfl) rfl ?_
      refine pm_goto (tgt := 7) hG dJ1_indexOfChar_4cfef_28 rfl ?_
      refine pm_iloadi hG dJ1_indexOfChar_4cfef_7 rfl ?_
      refine pm_iloadn hG dJ1_indexOfChar_4cfef_9 rfl ?_
      refine pm_icmp_ge (tgt := 31) hG dJ1_indexOfChar_4cfef_10 rfl (fun q => absurd q (by decide)) (fun _ => ?_)
      refine pm_aloadn hG dJ1_indexOfChar_4cfef_13 rfl ?_
      refine pm_iloadi hG dJ1_indexOfChar_4cfef_14 rfl ?_
      refine pm_nbLdE (v := 107) hN hG dJ1_indexOfChar_4cfef_16 (pm_inb (by decide)) rfl ?_
      refine pm_iloadi hG dJ1_indexOfChar_4cfef_17 rfl ?_
      refine pm_icmp_ne (tgt := 25) hG dJ1_indexOfChar_4cfef_19 rfl (fun c3 => ?_) (fun c3 => ?_)
      · refine pm_iincX (v := 3) (loc' := [some (.ref z), some (.int x), some (.int 0), some (.int 11), some (.int x.toInt8.toInt32), some (.int 3)]) hG dJ1_indexOfChar_4cfef_25 rfl (by rfl) (by decide) (pm_c1b rfl) rfl ?_
        refine pm_goto (tgt := 7) hG dJ1_indexOfChar_4cfef_28 rfl ?_
        refine pm_iloadi hG dJ1_indexOfChar_4cfef_7 rfl ?_
        refine pm_iloadn hG dJ1_indexOfChar_4cfef_9 rfl ?_
        refine pm_icmp_ge (tgt := 31) hG dJ1_indexOfChar_4cfef_10 rfl (fun q => absurd q (by decide)) (fun _ => ?_)
        refine pm_aloadn hG dJ1_indexOfChar_4cfef_13 rfl ?_
        refine pm_iloadi hG dJ1_indexOfChar_4cfef_14 rfl ?_
        refine pm_nbLdE (v := 99) hN hG dJ1_indexOfChar_4cfef_16 (pm_inb (by decide)) rfl ?_
        refine pm_iloadi hG dJ1_indexOfChar_4cfef_17 rfl ?_
        refine pm_icmp_ne (tgt := 25) hG dJ1_indexOfChar_4cfef_19 rfl (fun c4 => ?_) (fun c4 => ?_)
        · refine pm_iincX (v := 4) (loc' := [some (.ref z), some (.int x), some (.int 0), some (.int 11), some (.int x.toInt8.toInt32), some (.int 4)]) hG dJ1_indexOfChar_4cfef_25 rfl (by rfl) (by decide) (pm_c1b rfl) rfl ?_
          refine pm_goto (tgt := 7) hG dJ1_indexOfChar_4cfef_28 rfl ?_
          refine pm_iloadi hG dJ1_indexOfChar_4cfef_7 rfl ?_
          refine pm_iloadn hG dJ1_indexOfChar_4cfef_9 rfl ?_
          refine pm_icmp_ge (tgt := 31) hG dJ1_indexOfChar_4cfef_10 rfl (fun q => absurd q (by decide)) (fun _ => ?_)
          refine pm_aloadn hG dJ1_indexOfChar_4cfef_13 rfl ?_
          refine pm_iloadi hG dJ1_indexOfChar_4cfef_14 rfl ?_
          refine pm_nbLdE (v := 109) hN hG dJ1_indexOfChar_4cfef_16 (pm_inb (by decide)) rfl ?_
          refine pm_iloadi hG dJ1_indexOfChar_4cfef_17 rfl ?_
          refine pm_icmp_ne (tgt := 25) hG dJ1_indexOfChar_4cfef_19 rfl (fun c5 => ?_) (fun c5 => ?_)
          · refine pm_iincX (v := 5) (loc' := [some (.ref z), some (.int x), some (.int 0), some (.int 11), some (.int x.toInt8.toInt32), some (.int 5)]) hG dJ1_indexOfChar_4cfef_25 rfl (by rfl) (by decide) (pm_c1b rfl) rfl ?_
            refine pm_goto (tgt := 7) hG dJ1_indexOfChar_4cfef_28 rfl ?_
            refine pm_iloadi hG dJ1_indexOfChar_4cfef_7 rfl ?_
            refine pm_iloadn hG dJ1_indexOfChar_4cfef_9 rfl ?_
            refine pm_icmp_ge (tgt := 31) hG dJ1_indexOfChar_4cfef_10 rfl (fun q => absurd q (by decide)) (fun _ => ?_)
            refine pm_aloadn hG dJ1_indexOfChar_4cfef_13 rfl ?_
            refine pm_iloadi hG dJ1_indexOfChar_4cfef_14 rfl ?_
            refine pm_nbLdE (v := 116) hN hG dJ1_indexOfChar_4cfef_16 (pm_inb (by decide)) rfl ?_
            refine pm_iloadi hG dJ1_indexOfChar_4cfef_17 rfl ?_
            refine pm_icmp_ne (tgt := 25) hG dJ1_indexOfChar_4cfef_19 rfl (fun c6 => ?_) (fun c6 => ?_)
            · refine pm_iincX (v := 6) (loc' := [some (.ref z), some (.int x), some (.int 0), some (.int 11), some (.int x.toInt8.toInt32), some (.int 6)]) hG dJ1_indexOfChar_4cfef_25 rfl (by rfl) (by decide) (pm_c1b rfl) rfl ?_
              refine pm_goto (tgt := 7) hG dJ1_indexOfChar_4cfef_28 rfl ?_
              refine pm_iloadi hG dJ1_indexOfChar_4cfef_7 rfl ?_
              refine pm_iloadn hG dJ1_indexOfChar_4cfef_9 rfl ?_
              refine pm_icmp_ge (tgt := 31) hG dJ1_indexOfChar_4cfef_10 rfl (fun q => absurd q (by decide)) (fun _ => ?_)
              refine pm_aloadn hG dJ1_indexOfChar_4cfef_13 rfl ?_
              refine pm_iloadi hG dJ1_indexOfChar_4cfef_14 rfl ?_
              refine pm_nbLdE (v := 98) hN hG dJ1_indexOfChar_4cfef_16 (pm_inb (by decide)) rfl ?_
              refine pm_iloadi hG dJ1_indexOfChar_4cfef_17 rfl ?_
              refine pm_icmp_ne (tgt := 25) hG dJ1_indexOfChar_4cfef_19 rfl (fun c7 => ?_) (fun c7 => ?_)
              · refine pm_iincX (v := 7) (loc' := [some (.ref z), some (.int x), some (.int 0), some (.int 11), some (.int x.toInt8.toInt32), some (.int 7)]) hG dJ1_indexOfChar_4cfef_25 rfl (by rfl) (by decide) (pm_c1b rfl) rfl ?_
                refine pm_goto (tgt := 7) hG dJ1_indexOfChar_4cfef_28 rfl ?_
                refine pm_iloadi hG dJ1_indexOfChar_4cfef_7 rfl ?_
                refine pm_iloadn hG dJ1_indexOfChar_4cfef_9 rfl ?_
                refine pm_icmp_ge (tgt := 31) hG dJ1_indexOfChar_4cfef_10 rfl (fun q => absurd q (by decide)) (fun _ => ?_)
                refine pm_aloadn hG dJ1_indexOfChar_4cfef_13 rfl ?_
                refine pm_iloadi hG dJ1_indexOfChar_4cfef_14 rfl ?_
                refine pm_nbLdE (v := 121) hN hG dJ1_indexOfChar_4cfef_16 (pm_inb (by decide)) rfl ?_
                refine pm_iloadi hG dJ1_indexOfChar_4cfef_17 rfl ?_
                refine pm_icmp_ne (tgt := 25) hG dJ1_indexOfChar_4cfef_19 rfl (fun c8 => ?_) (fun c8 => ?_)
                · refine pm_iincX (v := 8) (loc' := [some (.ref z), some (.int x), some (.int 0), some (.int 11), some (.int x.toInt8.toInt32), some (.int 8)]) hG dJ1_indexOfChar_4cfef_25 rfl (by rfl) (by decide) (pm_c1b rfl) rfl ?_
                  refine pm_goto (tgt := 7) hG dJ1_indexOfChar_4cfef_28 rfl ?_
                  refine pm_iloadi hG dJ1_indexOfChar_4cfef_7 rfl ?_
                  refine pm_iloadn hG dJ1_indexOfChar_4cfef_9 rfl ?_
                  refine pm_icmp_ge (tgt := 31) hG dJ1_indexOfChar_4cfef_10 rfl (fun q => absurd q (by decide)) (fun _ => ?_)
                  refine pm_aloadn hG dJ1_indexOfChar_4cfef_13 rfl ?_
                  refine pm_iloadi hG dJ1_indexOfChar_4cfef_14 rfl ?_
                  refine pm_nbLdE (v := 111) hN hG dJ1_indexOfChar_4cfef_16 (pm_inb (by decide)) rfl ?_
                  refine pm_iloadi hG dJ1_indexOfChar_4cfef_17 rfl ?_
                  refine pm_icmp_ne (tgt := 25) hG dJ1_indexOfChar_4cfef_19 rfl (fun c9 => ?_) (fun c9 => ?_)
                  · refine pm_iincX (v := 9) (loc' := [some (.ref z), some (.int x), some (.int 0), some (.int 11), some (.int x.toInt8.toInt32), some (.int 9)]) hG dJ1_indexOfChar_4cfef_25 rfl (by rfl) (by decide) (pm_c1b rfl) rfl ?_
                    refine pm_goto (tgt := 7) hG dJ1_indexOfChar_4cfef_28 rfl ?_
                    refine pm_iloadi hG dJ1_indexOfChar_4cfef_7 rfl ?_
                    refine pm_iloadn hG dJ1_indexOfChar_4cfef_9 rfl ?_
                    refine pm_icmp_ge (tgt := 31) hG dJ1_indexOfChar_4cfef_10 rfl (fun q => absurd q (by decide)) (fun _ => ?_)
                    refine pm_aloadn hG dJ1_indexOfChar_4cfef_13 rfl ?_
                    refine pm_iloadi hG dJ1_indexOfChar_4cfef_14 rfl ?_
                    refine pm_nbLdE (v := 119) hN hG dJ1_indexOfChar_4cfef_16 (pm_inb (by decide)) rfl ?_
                    refine pm_iloadi hG dJ1_indexOfChar_4cfef_17 rfl ?_
                    refine pm_icmp_ne (tgt := 25) hG dJ1_indexOfChar_4cfef_19 rfl (fun c10 => ?_) (fun c10 => ?_)
                    · refine pm_iincX (v := 10) (loc' := [some (.ref z), some (.int x), some (.int 0), some (.int 11), some (.int x.toInt8.toInt32), some (.int 10)]) hG dJ1_indexOfChar_4cfef_25 rfl (by rfl) (by decide) (pm_c1b rfl) rfl ?_
                      refine pm_goto (tgt := 7) hG dJ1_indexOfChar_4cfef_28 rfl ?_
                      refine pm_iloadi hG dJ1_indexOfChar_4cfef_7 rfl ?_
                      refine pm_iloadn hG dJ1_indexOfChar_4cfef_9 rfl ?_
                      refine pm_icmp_ge (tgt := 31) hG dJ1_indexOfChar_4cfef_10 rfl (fun q => absurd q (by decide)) (fun _ => ?_)
                      refine pm_aloadn hG dJ1_indexOfChar_4cfef_13 rfl ?_
                      refine pm_iloadi hG dJ1_indexOfChar_4cfef_14 rfl ?_
                      refine pm_nbLdE (v := 100) hN hG dJ1_indexOfChar_4cfef_16 (pm_inb (by decide)) rfl ?_
                      refine pm_iloadi hG dJ1_indexOfChar_4cfef_17 rfl ?_
                      refine pm_icmp_ne (tgt := 25) hG dJ1_indexOfChar_4cfef_19 rfl (fun c11 => ?_) (fun c11 => ?_)
                      · refine pm_iincX (v := 11) (loc' := [some (.ref z), some (.int x), some (.int 0), some (.int 11), some (.int x.toInt8.toInt32), some (.int 11)]) hG dJ1_indexOfChar_4cfef_25 rfl (by rfl) (by decide) (pm_c1b rfl) rfl ?_
                        refine pm_goto (tgt := 7) hG dJ1_indexOfChar_4cfef_28 rfl ?_
                        refine pm_iloadi hG dJ1_indexOfChar_4cfef_7 rfl ?_
                        refine pm_iloadn hG dJ1_indexOfChar_4cfef_9 rfl ?_
                        refine pm_icmp_ge (tgt := 31) hG dJ1_indexOfChar_4cfef_10 rfl (fun _ => ?_) (fun q => absurd q (by decide))
                        refine pm_iconst (v := (-1)) hG dJ1_indexOfChar_4cfef_31 (by decide) ?_
                        exact pm_iret hG hF dJ1_indexOfChar_4cfef_32 rfl (Nat.le_refl _) (Nat.le_refl _) ⟨_, rfl, (by unfold nmV; rw [if_neg (fun q => c1 ((i2b_b h0 h1 (by decide)).mpr q)), if_neg (fun q => c2 ((i2b_b h0 h1 (by decide)).mpr q)), if_neg (fun q => c3 ((i2b_b h0 h1 (by decide)).mpr q)), if_neg (fun q => c4 ((i2b_b h0 h1 (by decide)).mpr q)), if_neg (fun q => c5 ((i2b_b h0 h1 (by decide)).mpr q)), if_neg (fun q => c6 ((i2b_b h0 h1 (by decide)).mpr q)), if_neg (fun q => c7 ((i2b_b h0 h1 (by decide)).mpr q)), if_neg (fun q => c8 ((i2b_b h0 h1 (by decide)).mpr q)), if_neg (fun q => c9 ((i2b_b h0 h1 (by decide)).mpr q)), if_neg (fun q => c10 ((i2b_b h0 h1 (by decide)).mpr q)), if_neg (fun q => c11 ((i2b_b h0 h1 (by decide)).mpr q))]), rfl, rfl⟩
                      · refine pm_iloadi hG dJ1_indexOfChar_4cfef_22 rfl ?_
                        exact pm_iret hG hF dJ1_indexOfChar_4cfef_24 rfl (Nat.le_refl _) (Nat.le_refl _) ⟨_, rfl, (by unfold nmV; rw [if_neg (fun q => c1 ((i2b_b h0 h1 (by decide)).mpr q)), if_neg (fun q => c2 ((i2b_b h0 h1 (by decide)).mpr q)), if_neg (fun q => c3 ((i2b_b h0 h1 (by decide)).mpr q)), if_neg (fun q => c4 ((i2b_b h0 h1 (by decide)).mpr q)), if_neg (fun q => c5 ((i2b_b h0 h1 (by decide)).mpr q)), if_neg (fun q => c6 ((i2b_b h0 h1 (by decide)).mpr q)), if_neg (fun q => c7 ((i2b_b h0 h1 (by decide)).mpr q)), if_neg (fun q => c8 ((i2b_b h0 h1 (by decide)).mpr q)), if_neg (fun q => c9 ((i2b_b h0 h1 (by decide)).mpr q)), if_neg (fun q => c10 ((i2b_b h0 h1 (by decide)).mpr q)), if_pos ((i2b_b h0 h1 (by decide)).mp c11)]), rfl, rfl⟩
                    · refine pm_iloadi hG dJ1_indexOfChar_4cfef_22 rfl ?_
                      exact pm_iret hG hF dJ1_indexOfChar_4cfef_24 rfl (Nat.le_refl _) (Nat.le_refl _) ⟨_, rfl, (by unfold nmV; rw [if_neg (fun q => c1 ((i2b_b h0 h1 (by decide)).mpr q)), if_neg (fun q => c2 ((i2b_b h0 h1 (by decide)).mpr q)), if_neg (fun q => c3 ((i2b_b h0 h1 (by decide)).mpr q)), if_neg (fun q => c4 ((i2b_b h0 h1 (by decide)).mpr q)), if_neg (fun q => c5 ((i2b_b h0 h1 (by decide)).mpr q)), if_neg (fun q => c6 ((i2b_b h0 h1 (by decide)).mpr q)), if_neg (fun q => c7 ((i2b_b h0 h1 (by decide)).mpr q)), if_neg (fun q => c8 ((i2b_b h0 h1 (by decide)).mpr q)), if_neg (fun q => c9 ((i2b_b h0 h1 (by decide)).mpr q)), if_pos ((i2b_b h0 h1 (by decide)).mp c10)]), rfl, rfl⟩
                  · refine pm_iloadi hG dJ1_indexOfChar_4cfef_22 rfl ?_
                    exact pm_iret hG hF dJ1_indexOfChar_4cfef_24 rfl (Nat.le_refl _) (Nat.le_refl _) ⟨_, rfl, (by unfold nmV; rw [if_neg (fun q => c1 ((i2b_b h0 h1 (by decide)).mpr q)), if_neg (fun q => c2 ((i2b_b h0 h1 (by decide)).mpr q)), if_neg (fun q => c3 ((i2b_b h0 h1 (by decide)).mpr q)), if_neg (fun q => c4 ((i2b_b h0 h1 (by decide)).mpr q)), if_neg (fun q => c5 ((i2b_b h0 h1 (by decide)).mpr q)), if_neg (fun q => c6 ((i2b_b h0 h1 (by decide)).mpr q)), if_neg (fun q => c7 ((i2b_b h0 h1 (by decide)).mpr q)), if_neg (fun q => c8 ((i2b_b h0 h1 (by decide)).mpr q)), if_pos ((i2b_b h0 h1 (by decide)).mp c9)]), rfl, rfl⟩
                · refine pm_iloadi hG dJ1_indexOfChar_4cfef_22 rfl ?_
                  exact pm_iret hG hF dJ1_indexOfChar_4cfef_24 rfl (Nat.le_refl _) (Nat.le_refl _) ⟨_, rfl, (by unfold nmV; rw [if_neg (fun q => c1 ((i2b_b h0 h1 (by decide)).mpr q)), if_neg (fun q => c2 ((i2b_b h0 h1 (by decide)).mpr q)), if_neg (fun q => c3 ((i2b_b h0 h1 (by decide)).mpr q)), if_neg (fun q => c4 ((i2b_b h0 h1 (by decide)).mpr q)), if_neg (fun q => c5 ((i2b_b h0 h1 (by decide)).mpr q)), if_neg (fun q => c6 ((i2b_b h0 h1 (by decide)).mpr q)), if_neg (fun q => c7 ((i2b_b h0 h1 (by decide)).mpr q)), if_pos ((i2b_b h0 h1 (by decide)).mp c8)]), rfl, rfl⟩
              · refine pm_iloadi hG dJ1_indexOfChar_4cfef_22 rfl ?_
                exact pm_iret hG hF dJ1_indexOfChar_4cfef_24 rfl (Nat.le_refl _) (Nat.le_refl _) ⟨_, rfl, (by unfold nmV; rw [if_neg (fun q => c1 ((i2b_b h0 h1 (by decide)).mpr q)), if_neg (fun q => c2 ((i2b_b h0 h1 (by decide)).mpr q)), if_neg (fun q => c3 ((i2b_b h0 h1 (by decide)).mpr q)), if_neg (fun q => c4 ((i2b_b h0 h1 (by decide)).mpr q)), if_neg (fun q => c5 ((i2b_b h0 h1 (by decide)).mpr q)), if_neg (fun q => c6 ((i2b_b h0 h1 (by decide)).mpr q)), if_pos ((i2b_b h0 h1 (by decide)).mp c7)]), rfl, rfl⟩
            · refine pm_iloadi hG dJ1_indexOfChar_4cfef_22 rfl ?_
              exact pm_iret hG hF dJ1_indexOfChar_4cfef_24 rfl (Nat.le_refl _) (Nat.le_refl _) ⟨_, rfl, (by unfold nmV; rw [if_neg (fun q => c1 ((i2b_b h0 h1 (by decide)).mpr q)), if_neg (fun q => c2 ((i2b_b h0 h1 (by decide)).mpr q)), if_neg (fun q => c3 ((i2b_b h0 h1 (by decide)).mpr q)), if_neg (fun q => c4 ((i2b_b h0 h1 (by decide)).mpr q)), if_neg (fun q => c5 ((i2b_b h0 h1 (by decide)).mpr q)), if_pos ((i2b_b h0 h1 (by decide)).mp c6)]), rfl, rfl⟩
          · refine pm_iloadi hG dJ1_indexOfChar_4cfef_22 rfl ?_
            exact pm_iret hG hF dJ1_indexOfChar_4cfef_24 rfl (Nat.le_refl _) (Nat.le_refl _) ⟨_, rfl, (by unfold nmV; rw [if_neg (fun q => c1 ((i2b_b h0 h1 (by decide)).mpr q)), if_neg (fun q => c2 ((i2b_b h0 h1 (by decide)).mpr q)), if_neg (fun q => c3 ((i2b_b h0 h1 (by decide)).mpr q)), if_neg (fun q => c4 ((i2b_b h0 h1 (by decide)).mpr q)), if_pos ((i2b_b h0 h1 (by decide)).mp c5)]), rfl, rfl⟩
        · refine pm_iloadi hG dJ1_indexOfChar_4cfef_22 rfl ?_
          exact pm_iret hG hF dJ1_indexOfChar_4cfef_24 rfl (Nat.le_refl _) (Nat.le_refl _) ⟨_, rfl, (by unfold nmV; rw [if_neg (fun q => c1 ((i2b_b h0 h1 (by decide)).mpr q)), if_neg (fun q => c2 ((i2b_b h0 h1 (by decide)).mpr q)), if_neg (fun q => c3 ((i2b_b h0 h1 (by decide)).mpr q)), if_pos ((i2b_b h0 h1 (by decide)).mp c4)]), rfl, rfl⟩
      · refine pm_iloadi hG dJ1_indexOfChar_4cfef_22 rfl ?_
        exact pm_iret hG hF dJ1_indexOfChar_4cfef_24 rfl (Nat.le_refl _) (Nat.le_refl _) ⟨_, rfl, (by unfold nmV; rw [if_neg (fun q => c1 ((i2b_b h0 h1 (by decide)).mpr q)), if_neg (fun q => c2 ((i2b_b h0 h1 (by decide)).mpr q)), if_pos ((i2b_b h0 h1 (by decide)).mp c3)]), rfl, rfl⟩
    · refine pm_iloadi hG dJ1_indexOfChar_4cfef_22 rfl ?_
      exact pm_iret hG hF dJ1_indexOfChar_4cfef_24 rfl (Nat.le_refl _) (Nat.le_refl _) ⟨_, rfl, (by unfold nmV; rw [if_neg (fun q => c1 ((i2b_b h0 h1 (by decide)).mpr q)), if_pos ((i2b_b h0 h1 (by decide)).mp c2)]), rfl, rfl⟩
  · refine pm_iloadi hG dJ1_indexOfChar_4cfef_22 rfl ?_
    exact pm_iret hG hF dJ1_indexOfChar_4cfef_24 rfl (Nat.le_refl _) (Nat.le_refl _) ⟨_, rfl, (by unfold nmV; rw [if_pos ((i2b_b h0 h1 (by decide)).mp c1)]), rfl, rfl⟩
set_option maxRecDepth 100000 in
theorem fj_iofL {d B cnt q z : Nat} {σ : pm_S} {x : Int32} (hdd : 1 ≤ d) (h0 : ¬ x < 0) (h1 : ¬ 255 < x) : pm_metN q z mJ1_indexOf_4cfef d 0 0 B [.ref z, .int x, .int 0, .int 11] cnt σ (pm_Qi (fun v σ' cnt' => v = nmV x ∧ σ' = σ ∧ cnt' = cnt)) := by
  refine pm_enterN 0 (by decide) (Nat.le_of_ble_eq_true rfl) rfl (fun G hG hR hF hN => ?_)
  refine pm_iloadn hG dJ1_indexOf_4cfef_0 rfl ?_
  refine pm_callS (As := [.int x]) (rest := []) hG hR dJ1_indexOf_4cfef_1 (lkJ1_88 _ rfl) okS_J1_canEncode_9a6ad (gk_canEncode (d := 0) h0 h1) rfl rfl hdd (Nat.le_refl _) (Nat.le_refl _) (by decide) (pm_ki (fun v1 σ' cnt' hq => ?_))
  obtain ⟨rfl, rfl, rfl⟩ := hq
  refine pm_if_ne (tgt := 9) hG dJ1_indexOf_4cfef_4 rfl (fun _ => ?_) (fun q => absurd q (by decide))
  refine pm_iloadn hG dJ1_indexOf_4cfef_9 rfl ?_
  refine pm_iconst (v := 0) hG dJ1_indexOf_4cfef_10 (by decide) ?_
  refine pm_mmax hG hR dJ1_indexOf_4cfef_11 (mmJ1_92 _ rfl) pm_mwmax (by omega) (by first | decide | exact Nat.le_of_ble_eq_true rfl) (Nat.le_refl _) (Nat.le_refl _) ?_
  refine pm_top (v := 0) (by decide) ?_
  refine pm_istoreXn (loc' := [some (.ref z), some (.int x), some (.int 0), some (.int 11)]) hG dJ1_indexOf_4cfef_14 (by decide) (pm_c1b rfl) rfl ?_
  refine pm_iloadn hG dJ1_indexOf_4cfef_15 rfl ?_
  refine pm_aloadn hG dJ1_indexOf_4cfef_16 rfl ?_
  refine pm_nbLen hN hG dJ1_indexOf_4cfef_17 ?_
  refine pm_mmin hG hR dJ1_indexOf_4cfef_18 (mmJ1_38 _ rfl) pm_mwmin (by omega) (by first | decide | exact Nat.le_of_ble_eq_true rfl) (Nat.le_refl _) (Nat.le_refl _) ?_
  refine pm_top (v := 11) (by decide) ?_
  refine pm_istoreXn (loc' := [some (.ref z), some (.int x), some (.int 0), some (.int 11)]) hG dJ1_indexOf_4cfef_21 (by decide) (pm_c1b rfl) rfl ?_
  refine pm_iloadn hG dJ1_indexOf_4cfef_22 rfl ?_
  refine pm_iloadn hG dJ1_indexOf_4cfef_23 rfl ?_
  refine pm_icmp_lt (tgt := 29) hG dJ1_indexOf_4cfef_24 rfl (fun _ => ?_) (fun q => absurd q (by decide))
  refine pm_aloadn hG dJ1_indexOf_4cfef_29 rfl ?_
  refine pm_iloadn hG dJ1_indexOf_4cfef_30 rfl ?_
  refine pm_iloadn hG dJ1_indexOf_4cfef_31 rfl ?_
  refine pm_iloadn hG dJ1_indexOf_4cfef_32 rfl ?_
  refine pm_callSN (As := [.ref z, .int x, .int 0, .int 11]) (rest := []) hN hG hR dJ1_indexOf_4cfef_33 (lpJ1_95 _ rfl) okS_J1_indexOfChar_4cfef (fj_ioc (d := 0) h0 h1) rfl rfl hdd (Nat.le_refl _) (Nat.le_refl _) (by decide) (pm_ki (fun v2 σ' cnt' hq => ?_))
  obtain ⟨ov2, rfl, rfl⟩ := hq
  exact pm_iret hG hF dJ1_indexOf_4cfef_36 rfl (Nat.le_refl _) (Nat.le_refl _) ⟨_, rfl, ov2, rfl, rfl⟩
set_option maxRecDepth 100000 in
theorem gj_coder {d B cnt q z : Nat} {σ : pm_S}  : pm_metN q z mJ0_coder_7d493 d 0 0 B [.ref q] cnt σ (pm_Qi (fun v σ' cnt' => v = 0 ∧ σ' = σ ∧ cnt' = cnt)) := by
  refine pm_enterN 0 (by decide) (Nat.le_of_ble_eq_true rfl) rfl (fun G hG hR hF hN => ?_)
  refine pm_gsCS hG dJ0_coder_7d493_0 (foJ0_38 _ rfl) ?_
  refine pm_if_eq (tgt := 13) hG dJ0_coder_7d493_3 rfl (fun q => absurd q (by decide)) (fun _ => ?_)
  refine pm_aloadn hG dJ0_coder_7d493_6 rfl ?_
  refine pm_ngetC hN hG dJ0_coder_7d493_7 (foJ0_15 _ rfl) ?_
  refine pm_goto (tgt := 14) hG dJ0_coder_7d493_10 rfl ?_
  exact pm_bret hG hF dJ0_coder_7d493_14 rfl (by rfl) (Nat.le_refl _) (Nat.le_refl _) ⟨_, rfl, rfl, rfl, rfl⟩
set_option maxRecDepth 100000 in
theorem gj_isLatin1 {d B cnt q z : Nat} {σ : pm_S}  : pm_metN q z mJ0_isLatin1_aae02 d 0 0 B [.ref q] cnt σ (pm_Qi (fun v σ' cnt' => v = 1 ∧ σ' = σ ∧ cnt' = cnt)) := by
  refine pm_enterN 0 (by decide) (Nat.le_of_ble_eq_true rfl) rfl (fun G hG hR hF hN => ?_)
  refine pm_gsCS hG dJ0_isLatin1_aae02_0 (foJ0_38 _ rfl) ?_
  refine pm_if_eq (tgt := 17) hG dJ0_isLatin1_aae02_3 rfl (fun q => absurd q (by decide)) (fun _ => ?_)
  refine pm_aloadn hG dJ0_isLatin1_aae02_6 rfl ?_
  refine pm_ngetC hN hG dJ0_isLatin1_aae02_7 (foJ0_15 _ rfl) ?_
  refine pm_if_ne (tgt := 17) hG dJ0_isLatin1_aae02_10 rfl (fun q => absurd q (by decide)) (fun _ => ?_)
  refine pm_iconst (v := 1) hG dJ0_isLatin1_aae02_13 (by decide) ?_
  refine pm_goto (tgt := 18) hG dJ0_isLatin1_aae02_14 rfl ?_
  exact pm_zret hG hF dJ0_isLatin1_aae02_18 rfl (by rfl) (Nat.le_refl _) (Nat.le_refl _) ⟨_, rfl, rfl, rfl, rfl⟩
set_option maxRecDepth 100000 in
theorem gj_length {d B cnt q z : Nat} {σ : pm_S} (hdd : 1 ≤ d) : pm_metN q z mJ0_length_8abf5 d 0 0 B [.ref q] cnt σ (pm_Qi (fun v σ' cnt' => v = 11 ∧ σ' = σ ∧ cnt' = cnt)) := by
  refine pm_enterN 0 (by decide) (Nat.le_of_ble_eq_true rfl) rfl (fun G hG hR hF hN => ?_)
  refine pm_aloadn hG dJ0_length_8abf5_0 rfl ?_
  refine pm_ngetV hN hG dJ0_length_8abf5_1 (foJ0_9 _ rfl) ?_
  refine pm_nbLen hN hG dJ0_length_8abf5_4 ?_
  refine pm_aloadn hG dJ0_length_8abf5_5 rfl ?_
  refine pm_callVN (As := []) (rest := [.int 11]) hN hG hR dJ0_length_8abf5_6 (lpJ0_335 _ rfl) okV_J0_coder_7d493 rfl (gj_coder (d := 0)) rfl rfl hdd (Nat.le_refl _) (Nat.le_refl _) (by first | decide | exact Nat.le_of_ble_eq_true rfl) (pm_ki (fun v1 σ' cnt' hq => ?_))
  obtain ⟨rfl, rfl, rfl⟩ := hq
  refine pm_ishr hG dJ0_length_8abf5_9 ?_
  refine pm_top (v := 11) (by decide) ?_
  exact pm_iret hG hF dJ0_length_8abf5_10 rfl (Nat.le_refl _) (Nat.le_refl _) ⟨_, rfl, rfl, rfl, rfl⟩
set_option maxRecDepth 100000 in
theorem fj_iof2 {d B cnt q z : Nat} {σ : pm_S} {x : Int32} (hdd : 2 ≤ d) (h0 : ¬ x < 0) (h1 : ¬ 255 < x) : pm_metN q z mJ0_indexOf_7cf53 d 0 0 B [.ref q, .int x, .int 0] cnt σ (pm_Qi (fun v σ' cnt' => v = nmV x ∧ σ' = σ ∧ cnt' = cnt)) := by
  refine pm_enterN 0 (by decide) (Nat.le_of_ble_eq_true rfl) rfl (fun G hG hR hF hN => ?_)
  refine pm_aloadn hG dJ0_indexOf_7cf53_0 rfl ?_
  refine pm_callVN (As := []) (rest := []) hN hG hR dJ0_indexOf_7cf53_1 (lpJ0_492 _ rfl) okV_J0_isLatin1_aae02 rfl (gj_isLatin1 (d := 1)) rfl rfl hdd (Nat.le_refl _) (Nat.le_refl _) (by decide) (pm_ki (fun v1 σ' cnt' hq => ?_))
  obtain ⟨rfl, rfl, rfl⟩ := hq
  refine pm_if_eq (tgt := 23) hG dJ0_indexOf_7cf53_4 rfl (fun q => absurd q (by decide)) (fun _ => ?_)
  refine pm_aloadn hG dJ0_indexOf_7cf53_7 rfl ?_
  refine pm_ngetV hN hG dJ0_indexOf_7cf53_8 (foJ0_9 _ rfl) ?_
  refine pm_iloadn hG dJ0_indexOf_7cf53_11 rfl ?_
  refine pm_iloadn hG dJ0_indexOf_7cf53_12 rfl ?_
  refine pm_aloadn hG dJ0_indexOf_7cf53_13 rfl ?_
  refine pm_callVN (As := []) (rest := [.int 0, .int x, .ref z]) hN hG hR dJ0_indexOf_7cf53_14 (lpJ0_505 _ rfl) okV_J0_length_8abf5 rfl (gj_length (d := 1) (by decide)) rfl rfl hdd (Nat.le_refl _) (Nat.le_refl _) (by first | decide | exact Nat.le_of_ble_eq_true rfl) (pm_ki (fun v2 σ' cnt' hq => ?_))
  obtain ⟨rfl, rfl, rfl⟩ := hq
  refine pm_callSN (As := [.ref z, .int x, .int 0, .int 11]) (rest := []) hN hG hR dJ0_indexOf_7cf53_17 (lpJ0_637 _ rfl) okS_J1_indexOf_4cfef (fj_iofL (d := 1) (by decide) h0 h1) rfl rfl hdd (Nat.le_refl _) (Nat.le_refl _) (by decide) (pm_ki (fun v3 σ' cnt' hq => ?_))
  obtain ⟨ov3, rfl, rfl⟩ := hq
  refine pm_goto (tgt := 36) hG dJ0_indexOf_7cf53_20 rfl ?_
  exact pm_iret hG hF dJ0_indexOf_7cf53_36 rfl (Nat.le_refl _) (Nat.le_refl _) ⟨_, rfl, ov3, rfl, rfl⟩
set_option maxRecDepth 100000 in
theorem fj_iof3 {d B cnt q z : Nat} {σ : pm_S} {x : Int32} (hdd : 3 ≤ d) (h0 : ¬ x < 0) (h1 : ¬ 255 < x) : pm_metN q z mJ0_indexOf_0f7a4 d 0 0 B [.ref q, .int x] cnt σ (pm_Qi (fun v σ' cnt' => v = nmV x ∧ σ' = σ ∧ cnt' = cnt)) := by
  refine pm_enterN 0 (by decide) (Nat.le_of_ble_eq_true rfl) rfl (fun G hG hR hF hN => ?_)
  refine pm_aloadn hG dJ0_indexOf_0f7a4_0 rfl ?_
  refine pm_iloadn hG dJ0_indexOf_0f7a4_1 rfl ?_
  refine pm_iconst (v := 0) hG dJ0_indexOf_0f7a4_2 (by decide) ?_
  refine pm_callVN (As := [.int x, .int 0]) (rest := []) hN hG hR dJ0_indexOf_0f7a4_3 (lpJ0_633 _ rfl) okV_J0_indexOf_7cf53 rfl (fj_iof2 (d := 2) (by decide) h0 h1) rfl rfl hdd (Nat.le_refl _) (Nat.le_refl _) (by decide) (pm_ki (fun v1 σ' cnt' hq => ?_))
  obtain ⟨ov1, rfl, rfl⟩ := hq
  exact pm_iret hG hF dJ0_indexOf_0f7a4_6 rfl (Nat.le_refl _) (Nat.le_refl _) ⟨_, rfl, ov1, rfl, rfl⟩
theorem fj_iof {d B cnt q z : Nat} {σ : pm_S} {x R : Int32} (hdd : 3 ≤ d) (hE : fIdx x = some R) : pm_metN q z mJ0_indexOf_0f7a4 d 0 0 B [.ref q, .int x] cnt σ (pm_Qi (fun v σ' cnt' => v = R ∧ σ' = σ ∧ cnt' = cnt)) := by
  obtain ⟨⟨h0, h1⟩, rfl⟩ := fIdx_in hE
  exact fj_iof3 hdd h0 h1
