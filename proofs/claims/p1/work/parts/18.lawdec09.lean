theorem dL_law_2064 {nm : String} : pm_dec (mL_law nm) 2064 (.iaload, 1) 2065 := ⟨(by decide +kernel : decode code 2064 = .ok (.iaload, 1)), rfl⟩
theorem dL_law_2065 {nm : String} : pm_dec (mL_law nm) 2065 (.invokevirtual 236, 3) 2068 := ⟨(by decide +kernel : decode code 2065 = .ok (.invokevirtual 236, 3)), rfl⟩
theorem dL_law_2068 {nm : String} : pm_dec (mL_law nm) 2068 (.aload_n 2, 1) 2069 := ⟨(by decide +kernel : decode code 2068 = .ok (.aload_n 2, 1)), rfl⟩
theorem dL_law_2069 {nm : String} : pm_dec (mL_law nm) 2069 (.aload_n 0, 1) 2070 := ⟨(by decide +kernel : decode code 2069 = .ok (.aload_n 0, 1)), rfl⟩
theorem dL_law_2070 {nm : String} : pm_dec (mL_law nm) 2070 (.iload_n 3, 1) 2071 := ⟨(by decide +kernel : decode code 2070 = .ok (.iload_n 3, 1)), rfl⟩
theorem dL_law_2071 {nm : String} : pm_dec (mL_law nm) 2071 (.iconst 1, 1) 2072 := ⟨(by decide +kernel : decode code 2071 = .ok (.iconst 1, 1)), rfl⟩
theorem dL_law_2072 {nm : String} : pm_dec (mL_law nm) 2072 (.iadd, 1) 2073 := ⟨(by decide +kernel : decode code 2072 = .ok (.iadd, 1)), rfl⟩
theorem dL_law_2073 {nm : String} : pm_dec (mL_law nm) 2073 (.iaload, 1) 2074 := ⟨(by decide +kernel : decode code 2073 = .ok (.iaload, 1)), rfl⟩
theorem dL_law_2074 {nm : String} : pm_dec (mL_law nm) 2074 (.invokevirtual 239, 3) 2077 := ⟨(by decide +kernel : decode code 2074 = .ok (.invokevirtual 239, 3)), rfl⟩
theorem dL_law_2077 {nm : String} : pm_dec (mL_law nm) 2077 (.if_icmp .eq 28, 3) 2080 := ⟨(by decide +kernel : decode code 2077 = .ok (.if_icmp .eq 28, 3)), rfl⟩
theorem dL_law_2082 {nm : String} : pm_dec (mL_law nm) 2082 (.aload_n 1, 1) 2083 := ⟨(by decide +kernel : decode code 2082 = .ok (.aload_n 1, 1)), rfl⟩
theorem dL_law_2083 {nm : String} : pm_dec (mL_law nm) 2083 (.aload_n 0, 1) 2084 := ⟨(by decide +kernel : decode code 2083 = .ok (.aload_n 0, 1)), rfl⟩
theorem dL_law_2084 {nm : String} : pm_dec (mL_law nm) 2084 (.iload_n 3, 1) 2085 := ⟨(by decide +kernel : decode code 2084 = .ok (.iload_n 3, 1)), rfl⟩
theorem dL_law_2085 {nm : String} : pm_dec (mL_law nm) 2085 (.iconst 1, 1) 2086 := ⟨(by decide +kernel : decode code 2085 = .ok (.iconst 1, 1)), rfl⟩
theorem dL_law_2086 {nm : String} : pm_dec (mL_law nm) 2086 (.iadd, 1) 2087 := ⟨(by decide +kernel : decode code 2086 = .ok (.iadd, 1)), rfl⟩
theorem dL_law_2087 {nm : String} : pm_dec (mL_law nm) 2087 (.iaload, 1) 2088 := ⟨(by decide +kernel : decode code 2087 = .ok (.iaload, 1)), rfl⟩
theorem dL_law_2088 {nm : String} : pm_dec (mL_law nm) 2088 (.invokevirtual 240, 3) 2091 := ⟨(by decide +kernel : decode code 2088 = .ok (.invokevirtual 240, 3)), rfl⟩
theorem dL_law_2091 {nm : String} : pm_dec (mL_law nm) 2091 (.aload_n 2, 1) 2092 := ⟨(by decide +kernel : decode code 2091 = .ok (.aload_n 2, 1)), rfl⟩
theorem dL_law_2092 {nm : String} : pm_dec (mL_law nm) 2092 (.aload_n 0, 1) 2093 := ⟨(by decide +kernel : decode code 2092 = .ok (.aload_n 0, 1)), rfl⟩
theorem dL_law_2093 {nm : String} : pm_dec (mL_law nm) 2093 (.iload_n 3, 1) 2094 := ⟨(by decide +kernel : decode code 2093 = .ok (.iload_n 3, 1)), rfl⟩
theorem dL_law_2094 {nm : String} : pm_dec (mL_law nm) 2094 (.iconst 1, 1) 2095 := ⟨(by decide +kernel : decode code 2094 = .ok (.iconst 1, 1)), rfl⟩
theorem dL_law_2095 {nm : String} : pm_dec (mL_law nm) 2095 (.iadd, 1) 2096 := ⟨(by decide +kernel : decode code 2095 = .ok (.iadd, 1)), rfl⟩
theorem dL_law_2096 {nm : String} : pm_dec (mL_law nm) 2096 (.iaload, 1) 2097 := ⟨(by decide +kernel : decode code 2096 = .ok (.iaload, 1)), rfl⟩
theorem dL_law_2097 {nm : String} : pm_dec (mL_law nm) 2097 (.invokevirtual 243, 3) 2100 := ⟨(by decide +kernel : decode code 2097 = .ok (.invokevirtual 243, 3)), rfl⟩
theorem dL_law_2100 {nm : String} : pm_dec (mL_law nm) 2100 (.if_icmp .eq 5, 3) 2103 := ⟨(by decide +kernel : decode code 2100 = .ok (.if_icmp .eq 5, 3)), rfl⟩
theorem dL_law_0 {nm : String} : pm_dec (mL_law nm) 0 (.new 7, 3) 3 := ⟨(by decide +kernel : decode code 0 = .ok (.new 7, 3)), rfl⟩
theorem dL_law_3 {nm : String} : pm_dec (mL_law nm) 3 (.dup, 1) 4 := ⟨(by decide +kernel : decode code 3 = .ok (.dup, 1)), rfl⟩
theorem dL_law_4 {nm : String} : pm_dec (mL_law nm) 4 (.invokespecial 9, 3) 7 := ⟨(by decide +kernel : decode code 4 = .ok (.invokespecial 9, 3)), rfl⟩
theorem dL_law_7 {nm : String} : pm_dec (mL_law nm) 7 (.astore_n 1, 1) 8 := ⟨(by decide +kernel : decode code 7 = .ok (.astore_n 1, 1)), rfl⟩
theorem dL_law_8 {nm : String} : pm_dec (mL_law nm) 8 (.new 10, 3) 11 := ⟨(by decide +kernel : decode code 8 = .ok (.new 10, 3)), rfl⟩
theorem dL_law_11 {nm : String} : pm_dec (mL_law nm) 11 (.dup, 1) 12 := ⟨(by decide +kernel : decode code 11 = .ok (.dup, 1)), rfl⟩
theorem dL_law_12 {nm : String} : pm_dec (mL_law nm) 12 (.invokespecial 12, 3) 15 := ⟨(by decide +kernel : decode code 12 = .ok (.invokespecial 12, 3)), rfl⟩
theorem dL_law_15 {nm : String} : pm_dec (mL_law nm) 15 (.astore_n 2, 1) 16 := ⟨(by decide +kernel : decode code 15 = .ok (.astore_n 2, 1)), rfl⟩
theorem dL_law_16 {nm : String} : pm_dec (mL_law nm) 16 (.iconst 0, 1) 17 := ⟨(by decide +kernel : decode code 16 = .ok (.iconst 0, 1)), rfl⟩
theorem dL_law_17 {nm : String} : pm_dec (mL_law nm) 17 (.istore_n 3, 1) 18 := ⟨(by decide +kernel : decode code 17 = .ok (.istore_n 3, 1)), rfl⟩
theorem dL_law_18 {nm : String} : pm_dec (mL_law nm) 18 (.iload_n 3, 1) 19 := ⟨(by decide +kernel : decode code 18 = .ok (.iload_n 3, 1)), rfl⟩
theorem dL_law_19 {nm : String} : pm_dec (mL_law nm) 19 (.aload_n 0, 1) 20 := ⟨(by decide +kernel : decode code 19 = .ok (.aload_n 0, 1)), rfl⟩
theorem dL_law_20 {nm : String} : pm_dec (mL_law nm) 20 (.arraylength, 1) 21 := ⟨(by decide +kernel : decode code 20 = .ok (.arraylength, 1)), rfl⟩
theorem dL_law_21 {nm : String} : pm_dec (mL_law nm) 21 (.bipush 6, 2) 23 := ⟨(by decide +kernel : decode code 21 = .ok (.bipush 6, 2)), rfl⟩
theorem dL_law_23 {nm : String} : pm_dec (mL_law nm) 23 (.isub, 1) 24 := ⟨(by decide +kernel : decode code 23 = .ok (.isub, 1)), rfl⟩
theorem dL_law_24 {nm : String} : pm_dec (mL_law nm) 24 (.if_icmp .gt 2087, 3) 27 := ⟨(by decide +kernel : decode code 24 = .ok (.if_icmp .gt 2087, 3)), rfl⟩
theorem dL_law_27 {nm : String} : pm_dec (mL_law nm) 27 (.aload_n 0, 1) 28 := ⟨(by decide +kernel : decode code 27 = .ok (.aload_n 0, 1)), rfl⟩
theorem dL_law_28 {nm : String} : pm_dec (mL_law nm) 28 (.iload_n 3, 1) 29 := ⟨(by decide +kernel : decode code 28 = .ok (.iload_n 3, 1)), rfl⟩
theorem dL_law_29 {nm : String} : pm_dec (mL_law nm) 29 (.iaload, 1) 30 := ⟨(by decide +kernel : decode code 29 = .ok (.iaload, 1)), rfl⟩
theorem dL_law_30 {nm : String} : pm_dec (mL_law nm) 30 (.bipush 63, 2) 32 := ⟨(by decide +kernel : decode code 30 = .ok (.bipush 63, 2)), rfl⟩
theorem dL_law_32 {nm : String} : pm_dec (mL_law nm) 32 (.iand, 1) 33 := ⟨(by decide +kernel : decode code 32 = .ok (.iand, 1)), rfl⟩
theorem dL_law_33 {nm : String} : pm_dec (mL_law nm) 33 (.tableswitch 2072 0 54 #[235, 248, 291, 324, 377, 400, 433, 466, 499, 532, 575, 608, 641, 674, 717, 740, 803, 836, 859, 902, 945, 988, 1021, 1054, 1077, 1100, 1133, 1156, 1189, 1222, 1255, 1298, 1331, 1380, 1449, 1472, 1505, 1538, 1571, 1604, 1657, 1680, 1693, 1716, 1749, 1792, 1815, 1858, 1901, 1964, 1977, 1990, 2013, 2026, 2049], 235) 268 := ⟨(by decide +kernel : decode code 33 = .ok (.tableswitch 2072 0 54 #[235, 248, 291, 324, 377, 400, 433, 466, 499, 532, 575, 608, 641, 674, 717, 740, 803, 836, 859, 902, 945, 988, 1021, 1054, 1077, 1100, 1133, 1156, 1189, 1222, 1255, 1298, 1331, 1380, 1449, 1472, 1505, 1538, 1571, 1604, 1657, 1680, 1693, 1716, 1749, 1792, 1815, 1858, 1901, 1964, 1977, 1990, 2013, 2026, 2049], 235)), rfl⟩
theorem dL_law_2105 {nm : String} : pm_dec (mL_law nm) 2105 (.iinc 3 6, 3) 2108 := ⟨(by decide +kernel : decode code 2105 = .ok (.iinc 3 6, 3)), rfl⟩
theorem dL_law_2108 {nm : String} : pm_dec (mL_law nm) 2108 (.goto (-2090), 3) 2111 := ⟨(by decide +kernel : decode code 2108 = .ok (.goto (-2090), 3)), rfl⟩
theorem dL_law_2111 {nm : String} : pm_dec (mL_law nm) 2111 (.iconst 1, 1) 2112 := ⟨(by decide +kernel : decode code 2111 = .ok (.iconst 1, 1)), rfl⟩
theorem dL_law_2112 {nm : String} : pm_dec (mL_law nm) 2112 (.ireturn, 1) 2113 := ⟨(by decide +kernel : decode code 2112 = .ok (.ireturn, 1)), rfl⟩
