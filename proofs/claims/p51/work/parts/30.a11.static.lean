theorem dL_law_2028 {nm : String} : pm_dec (mL_law nm) 2028 (.iaload, 1) 2029 := ⟨(by decide +kernel : decode code 2028 = .ok (.iaload, 1)), rfl⟩
theorem dL_law_2029 {nm : String} : pm_dec (mL_law nm) 2029 (.invokevirtual 228, 3) 2032 := ⟨(by decide +kernel : decode code 2029 = .ok (.invokevirtual 228, 3)), rfl⟩
theorem dL_law_2032 {nm : String} : pm_dec (mL_law nm) 2032 (.pop, 1) 2033 := ⟨(by decide +kernel : decode code 2032 = .ok (.pop, 1)), rfl⟩
theorem dL_law_2033 {nm : String} : pm_dec (mL_law nm) 2033 (.aload_n 2, 1) 2034 := ⟨(by decide +kernel : decode code 2033 = .ok (.aload_n 2, 1)), rfl⟩
theorem dL_law_2034 {nm : String} : pm_dec (mL_law nm) 2034 (.aload_n 0, 1) 2035 := ⟨(by decide +kernel : decode code 2034 = .ok (.aload_n 0, 1)), rfl⟩
theorem dL_law_2035 {nm : String} : pm_dec (mL_law nm) 2035 (.iload_n 3, 1) 2036 := ⟨(by decide +kernel : decode code 2035 = .ok (.iload_n 3, 1)), rfl⟩
theorem dL_law_2036 {nm : String} : pm_dec (mL_law nm) 2036 (.iconst 1, 1) 2037 := ⟨(by decide +kernel : decode code 2036 = .ok (.iconst 1, 1)), rfl⟩
theorem dL_law_2037 {nm : String} : pm_dec (mL_law nm) 2037 (.iadd, 1) 2038 := ⟨(by decide +kernel : decode code 2037 = .ok (.iadd, 1)), rfl⟩
theorem dL_law_2038 {nm : String} : pm_dec (mL_law nm) 2038 (.iaload, 1) 2039 := ⟨(by decide +kernel : decode code 2038 = .ok (.iaload, 1)), rfl⟩
theorem dL_law_2039 {nm : String} : pm_dec (mL_law nm) 2039 (.invokevirtual 231, 3) 2042 := ⟨(by decide +kernel : decode code 2039 = .ok (.invokevirtual 231, 3)), rfl⟩
theorem dL_law_2042 {nm : String} : pm_dec (mL_law nm) 2042 (.pop, 1) 2043 := ⟨(by decide +kernel : decode code 2042 = .ok (.pop, 1)), rfl⟩
theorem dL_law_2043 {nm : String} : pm_dec (mL_law nm) 2043 (.goto 62, 3) 2046 := ⟨(by decide +kernel : decode code 2043 = .ok (.goto 62, 3)), rfl⟩
theorem dL_law_2046 {nm : String} : pm_dec (mL_law nm) 2046 (.aload_n 1, 1) 2047 := ⟨(by decide +kernel : decode code 2046 = .ok (.aload_n 1, 1)), rfl⟩
theorem dL_law_2047 {nm : String} : pm_dec (mL_law nm) 2047 (.invokevirtual 232, 3) 2050 := ⟨(by decide +kernel : decode code 2047 = .ok (.invokevirtual 232, 3)), rfl⟩
theorem dL_law_2050 {nm : String} : pm_dec (mL_law nm) 2050 (.pop, 1) 2051 := ⟨(by decide +kernel : decode code 2050 = .ok (.pop, 1)), rfl⟩
theorem dL_law_2051 {nm : String} : pm_dec (mL_law nm) 2051 (.aload_n 2, 1) 2052 := ⟨(by decide +kernel : decode code 2051 = .ok (.aload_n 2, 1)), rfl⟩
theorem dL_law_2052 {nm : String} : pm_dec (mL_law nm) 2052 (.invokevirtual 235, 3) 2055 := ⟨(by decide +kernel : decode code 2052 = .ok (.invokevirtual 235, 3)), rfl⟩
theorem dL_law_2055 {nm : String} : pm_dec (mL_law nm) 2055 (.pop, 1) 2056 := ⟨(by decide +kernel : decode code 2055 = .ok (.pop, 1)), rfl⟩
theorem dL_law_2056 {nm : String} : pm_dec (mL_law nm) 2056 (.goto 49, 3) 2059 := ⟨(by decide +kernel : decode code 2056 = .ok (.goto 49, 3)), rfl⟩
theorem dL_law_2059 {nm : String} : pm_dec (mL_law nm) 2059 (.aload_n 1, 1) 2060 := ⟨(by decide +kernel : decode code 2059 = .ok (.aload_n 1, 1)), rfl⟩
theorem dL_law_2060 {nm : String} : pm_dec (mL_law nm) 2060 (.aload_n 0, 1) 2061 := ⟨(by decide +kernel : decode code 2060 = .ok (.aload_n 0, 1)), rfl⟩
theorem dL_law_2061 {nm : String} : pm_dec (mL_law nm) 2061 (.iload_n 3, 1) 2062 := ⟨(by decide +kernel : decode code 2061 = .ok (.iload_n 3, 1)), rfl⟩
theorem dL_law_2062 {nm : String} : pm_dec (mL_law nm) 2062 (.iconst 1, 1) 2063 := ⟨(by decide +kernel : decode code 2062 = .ok (.iconst 1, 1)), rfl⟩
theorem dL_law_2063 {nm : String} : pm_dec (mL_law nm) 2063 (.iadd, 1) 2064 := ⟨(by decide +kernel : decode code 2063 = .ok (.iadd, 1)), rfl⟩
theorem dL_law_2064 {nm : String} : pm_dec (mL_law nm) 2064 (.iaload, 1) 2065 := ⟨(by decide +kernel : decode code 2064 = .ok (.iaload, 1)), rfl⟩
theorem dL_law_2065 {nm : String} : pm_dec (mL_law nm) 2065 (.invokevirtual 236, 3) 2068 := ⟨(by decide +kernel : decode code 2065 = .ok (.invokevirtual 236, 3)), rfl⟩
theorem dL_law_2068 {nm : String} : pm_dec (mL_law nm) 2068 (.pop, 1) 2069 := ⟨(by decide +kernel : decode code 2068 = .ok (.pop, 1)), rfl⟩
theorem dL_law_2069 {nm : String} : pm_dec (mL_law nm) 2069 (.aload_n 2, 1) 2070 := ⟨(by decide +kernel : decode code 2069 = .ok (.aload_n 2, 1)), rfl⟩
theorem dL_law_2070 {nm : String} : pm_dec (mL_law nm) 2070 (.aload_n 0, 1) 2071 := ⟨(by decide +kernel : decode code 2070 = .ok (.aload_n 0, 1)), rfl⟩
theorem dL_law_2071 {nm : String} : pm_dec (mL_law nm) 2071 (.iload_n 3, 1) 2072 := ⟨(by decide +kernel : decode code 2071 = .ok (.iload_n 3, 1)), rfl⟩
theorem dL_law_2072 {nm : String} : pm_dec (mL_law nm) 2072 (.iconst 1, 1) 2073 := ⟨(by decide +kernel : decode code 2072 = .ok (.iconst 1, 1)), rfl⟩
theorem dL_law_2073 {nm : String} : pm_dec (mL_law nm) 2073 (.iadd, 1) 2074 := ⟨(by decide +kernel : decode code 2073 = .ok (.iadd, 1)), rfl⟩
theorem dL_law_2074 {nm : String} : pm_dec (mL_law nm) 2074 (.iaload, 1) 2075 := ⟨(by decide +kernel : decode code 2074 = .ok (.iaload, 1)), rfl⟩
theorem dL_law_2075 {nm : String} : pm_dec (mL_law nm) 2075 (.invokevirtual 239, 3) 2078 := ⟨(by decide +kernel : decode code 2075 = .ok (.invokevirtual 239, 3)), rfl⟩
theorem dL_law_2078 {nm : String} : pm_dec (mL_law nm) 2078 (.pop, 1) 2079 := ⟨(by decide +kernel : decode code 2078 = .ok (.pop, 1)), rfl⟩
theorem dL_law_2079 {nm : String} : pm_dec (mL_law nm) 2079 (.goto 26, 3) 2082 := ⟨(by decide +kernel : decode code 2079 = .ok (.goto 26, 3)), rfl⟩
theorem dL_law_2082 {nm : String} : pm_dec (mL_law nm) 2082 (.aload_n 1, 1) 2083 := ⟨(by decide +kernel : decode code 2082 = .ok (.aload_n 1, 1)), rfl⟩
theorem dL_law_2083 {nm : String} : pm_dec (mL_law nm) 2083 (.aload_n 0, 1) 2084 := ⟨(by decide +kernel : decode code 2083 = .ok (.aload_n 0, 1)), rfl⟩
theorem dL_law_2084 {nm : String} : pm_dec (mL_law nm) 2084 (.iload_n 3, 1) 2085 := ⟨(by decide +kernel : decode code 2084 = .ok (.iload_n 3, 1)), rfl⟩
theorem dL_law_2085 {nm : String} : pm_dec (mL_law nm) 2085 (.iconst 1, 1) 2086 := ⟨(by decide +kernel : decode code 2085 = .ok (.iconst 1, 1)), rfl⟩
theorem dL_law_2086 {nm : String} : pm_dec (mL_law nm) 2086 (.iadd, 1) 2087 := ⟨(by decide +kernel : decode code 2086 = .ok (.iadd, 1)), rfl⟩
theorem dL_law_2087 {nm : String} : pm_dec (mL_law nm) 2087 (.iaload, 1) 2088 := ⟨(by decide +kernel : decode code 2087 = .ok (.iaload, 1)), rfl⟩
theorem dL_law_2088 {nm : String} : pm_dec (mL_law nm) 2088 (.invokevirtual 240, 3) 2091 := ⟨(by decide +kernel : decode code 2088 = .ok (.invokevirtual 240, 3)), rfl⟩
theorem dL_law_2091 {nm : String} : pm_dec (mL_law nm) 2091 (.pop, 1) 2092 := ⟨(by decide +kernel : decode code 2091 = .ok (.pop, 1)), rfl⟩
theorem dL_law_2092 {nm : String} : pm_dec (mL_law nm) 2092 (.aload_n 2, 1) 2093 := ⟨(by decide +kernel : decode code 2092 = .ok (.aload_n 2, 1)), rfl⟩
theorem dL_law_2093 {nm : String} : pm_dec (mL_law nm) 2093 (.aload_n 0, 1) 2094 := ⟨(by decide +kernel : decode code 2093 = .ok (.aload_n 0, 1)), rfl⟩
theorem dL_law_2094 {nm : String} : pm_dec (mL_law nm) 2094 (.iload_n 3, 1) 2095 := ⟨(by decide +kernel : decode code 2094 = .ok (.iload_n 3, 1)), rfl⟩
theorem dL_law_2095 {nm : String} : pm_dec (mL_law nm) 2095 (.iconst 1, 1) 2096 := ⟨(by decide +kernel : decode code 2095 = .ok (.iconst 1, 1)), rfl⟩
theorem dL_law_2096 {nm : String} : pm_dec (mL_law nm) 2096 (.iadd, 1) 2097 := ⟨(by decide +kernel : decode code 2096 = .ok (.iadd, 1)), rfl⟩
theorem dL_law_2097 {nm : String} : pm_dec (mL_law nm) 2097 (.iaload, 1) 2098 := ⟨(by decide +kernel : decode code 2097 = .ok (.iaload, 1)), rfl⟩
theorem dL_law_2098 {nm : String} : pm_dec (mL_law nm) 2098 (.invokevirtual 243, 3) 2101 := ⟨(by decide +kernel : decode code 2098 = .ok (.invokevirtual 243, 3)), rfl⟩
theorem dL_law_2101 {nm : String} : pm_dec (mL_law nm) 2101 (.pop, 1) 2102 := ⟨(by decide +kernel : decode code 2101 = .ok (.pop, 1)), rfl⟩
theorem dL_law_2102 {nm : String} : pm_dec (mL_law nm) 2102 (.goto 3, 3) 2105 := ⟨(by decide +kernel : decode code 2102 = .ok (.goto 3, 3)), rfl⟩
theorem dL_law_0 {nm : String} : pm_dec (mL_law nm) 0 (.new 7, 3) 3 := ⟨(by decide +kernel : decode code 0 = .ok (.new 7, 3)), rfl⟩
theorem dL_law_3 {nm : String} : pm_dec (mL_law nm) 3 (.dup, 1) 4 := ⟨(by decide +kernel : decode code 3 = .ok (.dup, 1)), rfl⟩
theorem dL_law_4 {nm : String} : pm_dec (mL_law nm) 4 (.invokespecial 9, 3) 7 := ⟨(by decide +kernel : decode code 4 = .ok (.invokespecial 9, 3)), rfl⟩
theorem dL_law_7 {nm : String} : pm_dec (mL_law nm) 7 (.astore_n 1, 1) 8 := ⟨(by decide +kernel : decode code 7 = .ok (.astore_n 1, 1)), rfl⟩
theorem dL_law_8 {nm : String} : pm_dec (mL_law nm) 8 (.new 10, 3) 11 := ⟨(by decide +kernel : decode code 8 = .ok (.new 10, 3)), rfl⟩
theorem dL_law_11 {nm : String} : pm_dec (mL_law nm) 11 (.dup, 1) 12 := ⟨(by decide +kernel : decode code 11 = .ok (.dup, 1)), rfl⟩
theorem dL_law_12 {nm : String} : pm_dec (mL_law nm) 12 (.invokespecial 12, 3) 15 := ⟨(by decide +kernel : decode code 12 = .ok (.invokespecial 12, 3)), rfl⟩
theorem dL_law_15 {nm : String} : pm_dec (mL_law nm) 15 (.astore_n 2, 1) 16 := ⟨(by decide +kernel : decode code 15 = .ok (.astore_n 2, 1)), rfl⟩
theorem dL_law_16 {nm : String} : pm_dec (mL_law nm) 16 (.iconst 0, 1) 17 := ⟨(by decide +kernel : decode code 16 = .ok (.iconst 0, 1)), rfl⟩
theorem dL_law_17 {nm : String} : pm_dec (mL_law nm) 17 (.istore_n 3, 1) 18 := ⟨(by decide +kernel : decode code 17 = .ok (.istore_n 3, 1)), rfl⟩
theorem dL_law_18 {nm : String} : pm_dec (mL_law nm) 18 (.iload_n 3, 1) 19 := ⟨(by decide +kernel : decode code 18 = .ok (.iload_n 3, 1)), rfl⟩
theorem dL_law_19 {nm : String} : pm_dec (mL_law nm) 19 (.aload_n 0, 1) 20 := ⟨(by decide +kernel : decode code 19 = .ok (.aload_n 0, 1)), rfl⟩
theorem dL_law_20 {nm : String} : pm_dec (mL_law nm) 20 (.arraylength, 1) 21 := ⟨(by decide +kernel : decode code 20 = .ok (.arraylength, 1)), rfl⟩
theorem dL_law_21 {nm : String} : pm_dec (mL_law nm) 21 (.bipush 6, 2) 23 := ⟨(by decide +kernel : decode code 21 = .ok (.bipush 6, 2)), rfl⟩
theorem dL_law_23 {nm : String} : pm_dec (mL_law nm) 23 (.isub, 1) 24 := ⟨(by decide +kernel : decode code 23 = .ok (.isub, 1)), rfl⟩
theorem dL_law_24 {nm : String} : pm_dec (mL_law nm) 24 (.if_icmp .gt 2087, 3) 27 := ⟨(by decide +kernel : decode code 24 = .ok (.if_icmp .gt 2087, 3)), rfl⟩
theorem dL_law_27 {nm : String} : pm_dec (mL_law nm) 27 (.aload_n 0, 1) 28 := ⟨(by decide +kernel : decode code 27 = .ok (.aload_n 0, 1)), rfl⟩
theorem dL_law_28 {nm : String} : pm_dec (mL_law nm) 28 (.iload_n 3, 1) 29 := ⟨(by decide +kernel : decode code 28 = .ok (.iload_n 3, 1)), rfl⟩
theorem dL_law_29 {nm : String} : pm_dec (mL_law nm) 29 (.iaload, 1) 30 := ⟨(by decide +kernel : decode code 29 = .ok (.iaload, 1)), rfl⟩
theorem dL_law_30 {nm : String} : pm_dec (mL_law nm) 30 (.bipush 63, 2) 32 := ⟨(by decide +kernel : decode code 30 = .ok (.bipush 63, 2)), rfl⟩
theorem dL_law_32 {nm : String} : pm_dec (mL_law nm) 32 (.iand, 1) 33 := ⟨(by decide +kernel : decode code 32 = .ok (.iand, 1)), rfl⟩
theorem dL_law_33 {nm : String} : pm_dec (mL_law nm) 33 (.tableswitch 2072 0 54 #[235, 248, 291, 324, 377, 400, 433, 466, 499, 532, 575, 608, 641, 674, 717, 740, 803, 836, 859, 902, 945, 988, 1021, 1054, 1077, 1100, 1133, 1156, 1189, 1222, 1255, 1298, 1331, 1380, 1449, 1472, 1505, 1538, 1571, 1604, 1657, 1680, 1693, 1716, 1749, 1792, 1815, 1858, 1901, 1964, 1977, 1990, 2013, 2026, 2049], 235) 268 := ⟨(by decide +kernel : decode code 33 = .ok (.tableswitch 2072 0 54 #[235, 248, 291, 324, 377, 400, 433, 466, 499, 532, 575, 608, 641, 674, 717, 740, 803, 836, 859, 902, 945, 988, 1021, 1054, 1077, 1100, 1133, 1156, 1189, 1222, 1255, 1298, 1331, 1380, 1449, 1472, 1505, 1538, 1571, 1604, 1657, 1680, 1693, 1716, 1749, 1792, 1815, 1858, 1901, 1964, 1977, 1990, 2013, 2026, 2049], 235)), rfl⟩
theorem dL_law_2105 {nm : String} : pm_dec (mL_law nm) 2105 (.iinc 3 6, 3) 2108 := ⟨(by decide +kernel : decode code 2105 = .ok (.iinc 3 6, 3)), rfl⟩
theorem dL_law_2108 {nm : String} : pm_dec (mL_law nm) 2108 (.goto (-2090), 3) 2111 := ⟨(by decide +kernel : decode code 2108 = .ok (.goto (-2090), 3)), rfl⟩
theorem dL_law_2111 {nm : String} : pm_dec (mL_law nm) 2111 (.iconst 1, 1) 2112 := ⟨(by decide +kernel : decode code 2111 = .ok (.iconst 1, 1)), rfl⟩
theorem dL_law_2112 {nm : String} : pm_dec (mL_law nm) 2112 (.ireturn, 1) 2113 := ⟨(by decide +kernel : decode code 2112 = .ok (.ireturn, 1)), rfl⟩
