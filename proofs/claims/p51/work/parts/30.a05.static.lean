theorem dL_law_1056 {nm : String} : pm_dec (mL_law nm) 1056 (.iload_n 3, 1) 1057 := ⟨(by decide +kernel : decode code 1056 = .ok (.iload_n 3, 1)), rfl⟩
theorem dL_law_1057 {nm : String} : pm_dec (mL_law nm) 1057 (.iconst 1, 1) 1058 := ⟨(by decide +kernel : decode code 1057 = .ok (.iconst 1, 1)), rfl⟩
theorem dL_law_1058 {nm : String} : pm_dec (mL_law nm) 1058 (.iadd, 1) 1059 := ⟨(by decide +kernel : decode code 1058 = .ok (.iadd, 1)), rfl⟩
theorem dL_law_1059 {nm : String} : pm_dec (mL_law nm) 1059 (.iaload, 1) 1060 := ⟨(by decide +kernel : decode code 1059 = .ok (.iaload, 1)), rfl⟩
theorem dL_law_1060 {nm : String} : pm_dec (mL_law nm) 1060 (.aload_n 0, 1) 1061 := ⟨(by decide +kernel : decode code 1060 = .ok (.aload_n 0, 1)), rfl⟩
theorem dL_law_1061 {nm : String} : pm_dec (mL_law nm) 1061 (.iload_n 3, 1) 1062 := ⟨(by decide +kernel : decode code 1061 = .ok (.iload_n 3, 1)), rfl⟩
theorem dL_law_1062 {nm : String} : pm_dec (mL_law nm) 1062 (.iconst 2, 1) 1063 := ⟨(by decide +kernel : decode code 1062 = .ok (.iconst 2, 1)), rfl⟩
theorem dL_law_1063 {nm : String} : pm_dec (mL_law nm) 1063 (.iadd, 1) 1064 := ⟨(by decide +kernel : decode code 1063 = .ok (.iadd, 1)), rfl⟩
theorem dL_law_1064 {nm : String} : pm_dec (mL_law nm) 1064 (.iaload, 1) 1065 := ⟨(by decide +kernel : decode code 1064 = .ok (.iaload, 1)), rfl⟩
theorem dL_law_1065 {nm : String} : pm_dec (mL_law nm) 1065 (.invokevirtual 109, 3) 1068 := ⟨(by decide +kernel : decode code 1065 = .ok (.invokevirtual 109, 3)), rfl⟩
theorem dL_law_1068 {nm : String} : pm_dec (mL_law nm) 1068 (.pop, 1) 1069 := ⟨(by decide +kernel : decode code 1068 = .ok (.pop, 1)), rfl⟩
theorem dL_law_1069 {nm : String} : pm_dec (mL_law nm) 1069 (.aload_n 2, 1) 1070 := ⟨(by decide +kernel : decode code 1069 = .ok (.aload_n 2, 1)), rfl⟩
theorem dL_law_1070 {nm : String} : pm_dec (mL_law nm) 1070 (.aload_n 0, 1) 1071 := ⟨(by decide +kernel : decode code 1070 = .ok (.aload_n 0, 1)), rfl⟩
theorem dL_law_1071 {nm : String} : pm_dec (mL_law nm) 1071 (.iload_n 3, 1) 1072 := ⟨(by decide +kernel : decode code 1071 = .ok (.iload_n 3, 1)), rfl⟩
theorem dL_law_1072 {nm : String} : pm_dec (mL_law nm) 1072 (.iconst 1, 1) 1073 := ⟨(by decide +kernel : decode code 1072 = .ok (.iconst 1, 1)), rfl⟩
theorem dL_law_1073 {nm : String} : pm_dec (mL_law nm) 1073 (.iadd, 1) 1074 := ⟨(by decide +kernel : decode code 1073 = .ok (.iadd, 1)), rfl⟩
theorem dL_law_1074 {nm : String} : pm_dec (mL_law nm) 1074 (.iaload, 1) 1075 := ⟨(by decide +kernel : decode code 1074 = .ok (.iaload, 1)), rfl⟩
theorem dL_law_1075 {nm : String} : pm_dec (mL_law nm) 1075 (.aload_n 0, 1) 1076 := ⟨(by decide +kernel : decode code 1075 = .ok (.aload_n 0, 1)), rfl⟩
theorem dL_law_1076 {nm : String} : pm_dec (mL_law nm) 1076 (.iload_n 3, 1) 1077 := ⟨(by decide +kernel : decode code 1076 = .ok (.iload_n 3, 1)), rfl⟩
theorem dL_law_1077 {nm : String} : pm_dec (mL_law nm) 1077 (.iconst 2, 1) 1078 := ⟨(by decide +kernel : decode code 1077 = .ok (.iconst 2, 1)), rfl⟩
theorem dL_law_1078 {nm : String} : pm_dec (mL_law nm) 1078 (.iadd, 1) 1079 := ⟨(by decide +kernel : decode code 1078 = .ok (.iadd, 1)), rfl⟩
theorem dL_law_1079 {nm : String} : pm_dec (mL_law nm) 1079 (.iaload, 1) 1080 := ⟨(by decide +kernel : decode code 1079 = .ok (.iaload, 1)), rfl⟩
theorem dL_law_1080 {nm : String} : pm_dec (mL_law nm) 1080 (.invokevirtual 112, 3) 1083 := ⟨(by decide +kernel : decode code 1080 = .ok (.invokevirtual 112, 3)), rfl⟩
theorem dL_law_1083 {nm : String} : pm_dec (mL_law nm) 1083 (.pop, 1) 1084 := ⟨(by decide +kernel : decode code 1083 = .ok (.pop, 1)), rfl⟩
theorem dL_law_1084 {nm : String} : pm_dec (mL_law nm) 1084 (.goto 1021, 3) 1087 := ⟨(by decide +kernel : decode code 1084 = .ok (.goto 1021, 3)), rfl⟩
theorem dL_law_1087 {nm : String} : pm_dec (mL_law nm) 1087 (.aload_n 1, 1) 1088 := ⟨(by decide +kernel : decode code 1087 = .ok (.aload_n 1, 1)), rfl⟩
theorem dL_law_1088 {nm : String} : pm_dec (mL_law nm) 1088 (.aload_n 0, 1) 1089 := ⟨(by decide +kernel : decode code 1088 = .ok (.aload_n 0, 1)), rfl⟩
theorem dL_law_1089 {nm : String} : pm_dec (mL_law nm) 1089 (.iload_n 3, 1) 1090 := ⟨(by decide +kernel : decode code 1089 = .ok (.iload_n 3, 1)), rfl⟩
theorem dL_law_1090 {nm : String} : pm_dec (mL_law nm) 1090 (.iconst 1, 1) 1091 := ⟨(by decide +kernel : decode code 1090 = .ok (.iconst 1, 1)), rfl⟩
theorem dL_law_1091 {nm : String} : pm_dec (mL_law nm) 1091 (.iadd, 1) 1092 := ⟨(by decide +kernel : decode code 1091 = .ok (.iadd, 1)), rfl⟩
theorem dL_law_1092 {nm : String} : pm_dec (mL_law nm) 1092 (.iaload, 1) 1093 := ⟨(by decide +kernel : decode code 1092 = .ok (.iaload, 1)), rfl⟩
theorem dL_law_1093 {nm : String} : pm_dec (mL_law nm) 1093 (.invokevirtual 113, 3) 1096 := ⟨(by decide +kernel : decode code 1093 = .ok (.invokevirtual 113, 3)), rfl⟩
theorem dL_law_1096 {nm : String} : pm_dec (mL_law nm) 1096 (.pop, 1) 1097 := ⟨(by decide +kernel : decode code 1096 = .ok (.pop, 1)), rfl⟩
theorem dL_law_1097 {nm : String} : pm_dec (mL_law nm) 1097 (.aload_n 2, 1) 1098 := ⟨(by decide +kernel : decode code 1097 = .ok (.aload_n 2, 1)), rfl⟩
theorem dL_law_1098 {nm : String} : pm_dec (mL_law nm) 1098 (.aload_n 0, 1) 1099 := ⟨(by decide +kernel : decode code 1098 = .ok (.aload_n 0, 1)), rfl⟩
theorem dL_law_1099 {nm : String} : pm_dec (mL_law nm) 1099 (.iload_n 3, 1) 1100 := ⟨(by decide +kernel : decode code 1099 = .ok (.iload_n 3, 1)), rfl⟩
theorem dL_law_1100 {nm : String} : pm_dec (mL_law nm) 1100 (.iconst 1, 1) 1101 := ⟨(by decide +kernel : decode code 1100 = .ok (.iconst 1, 1)), rfl⟩
theorem dL_law_1101 {nm : String} : pm_dec (mL_law nm) 1101 (.iadd, 1) 1102 := ⟨(by decide +kernel : decode code 1101 = .ok (.iadd, 1)), rfl⟩
theorem dL_law_1102 {nm : String} : pm_dec (mL_law nm) 1102 (.iaload, 1) 1103 := ⟨(by decide +kernel : decode code 1102 = .ok (.iaload, 1)), rfl⟩
theorem dL_law_1103 {nm : String} : pm_dec (mL_law nm) 1103 (.invokevirtual 116, 3) 1106 := ⟨(by decide +kernel : decode code 1103 = .ok (.invokevirtual 116, 3)), rfl⟩
theorem dL_law_1106 {nm : String} : pm_dec (mL_law nm) 1106 (.pop, 1) 1107 := ⟨(by decide +kernel : decode code 1106 = .ok (.pop, 1)), rfl⟩
theorem dL_law_1107 {nm : String} : pm_dec (mL_law nm) 1107 (.goto 998, 3) 1110 := ⟨(by decide +kernel : decode code 1107 = .ok (.goto 998, 3)), rfl⟩
theorem dL_law_1110 {nm : String} : pm_dec (mL_law nm) 1110 (.aload_n 1, 1) 1111 := ⟨(by decide +kernel : decode code 1110 = .ok (.aload_n 1, 1)), rfl⟩
theorem dL_law_1111 {nm : String} : pm_dec (mL_law nm) 1111 (.aload_n 0, 1) 1112 := ⟨(by decide +kernel : decode code 1111 = .ok (.aload_n 0, 1)), rfl⟩
theorem dL_law_1112 {nm : String} : pm_dec (mL_law nm) 1112 (.iload_n 3, 1) 1113 := ⟨(by decide +kernel : decode code 1112 = .ok (.iload_n 3, 1)), rfl⟩
theorem dL_law_1113 {nm : String} : pm_dec (mL_law nm) 1113 (.iconst 1, 1) 1114 := ⟨(by decide +kernel : decode code 1113 = .ok (.iconst 1, 1)), rfl⟩
theorem dL_law_1114 {nm : String} : pm_dec (mL_law nm) 1114 (.iadd, 1) 1115 := ⟨(by decide +kernel : decode code 1114 = .ok (.iadd, 1)), rfl⟩
theorem dL_law_1115 {nm : String} : pm_dec (mL_law nm) 1115 (.iaload, 1) 1116 := ⟨(by decide +kernel : decode code 1115 = .ok (.iaload, 1)), rfl⟩
theorem dL_law_1116 {nm : String} : pm_dec (mL_law nm) 1116 (.invokevirtual 117, 3) 1119 := ⟨(by decide +kernel : decode code 1116 = .ok (.invokevirtual 117, 3)), rfl⟩
theorem dL_law_1119 {nm : String} : pm_dec (mL_law nm) 1119 (.pop, 1) 1120 := ⟨(by decide +kernel : decode code 1119 = .ok (.pop, 1)), rfl⟩
theorem dL_law_1120 {nm : String} : pm_dec (mL_law nm) 1120 (.aload_n 2, 1) 1121 := ⟨(by decide +kernel : decode code 1120 = .ok (.aload_n 2, 1)), rfl⟩
theorem dL_law_1121 {nm : String} : pm_dec (mL_law nm) 1121 (.aload_n 0, 1) 1122 := ⟨(by decide +kernel : decode code 1121 = .ok (.aload_n 0, 1)), rfl⟩
theorem dL_law_1122 {nm : String} : pm_dec (mL_law nm) 1122 (.iload_n 3, 1) 1123 := ⟨(by decide +kernel : decode code 1122 = .ok (.iload_n 3, 1)), rfl⟩
theorem dL_law_1123 {nm : String} : pm_dec (mL_law nm) 1123 (.iconst 1, 1) 1124 := ⟨(by decide +kernel : decode code 1123 = .ok (.iconst 1, 1)), rfl⟩
theorem dL_law_1124 {nm : String} : pm_dec (mL_law nm) 1124 (.iadd, 1) 1125 := ⟨(by decide +kernel : decode code 1124 = .ok (.iadd, 1)), rfl⟩
theorem dL_law_1125 {nm : String} : pm_dec (mL_law nm) 1125 (.iaload, 1) 1126 := ⟨(by decide +kernel : decode code 1125 = .ok (.iaload, 1)), rfl⟩
theorem dL_law_1126 {nm : String} : pm_dec (mL_law nm) 1126 (.invokevirtual 120, 3) 1129 := ⟨(by decide +kernel : decode code 1126 = .ok (.invokevirtual 120, 3)), rfl⟩
theorem dL_law_1129 {nm : String} : pm_dec (mL_law nm) 1129 (.pop, 1) 1130 := ⟨(by decide +kernel : decode code 1129 = .ok (.pop, 1)), rfl⟩
theorem dL_law_1130 {nm : String} : pm_dec (mL_law nm) 1130 (.goto 975, 3) 1133 := ⟨(by decide +kernel : decode code 1130 = .ok (.goto 975, 3)), rfl⟩
theorem dL_law_1133 {nm : String} : pm_dec (mL_law nm) 1133 (.aload_n 1, 1) 1134 := ⟨(by decide +kernel : decode code 1133 = .ok (.aload_n 1, 1)), rfl⟩
theorem dL_law_1134 {nm : String} : pm_dec (mL_law nm) 1134 (.aload_n 0, 1) 1135 := ⟨(by decide +kernel : decode code 1134 = .ok (.aload_n 0, 1)), rfl⟩
theorem dL_law_1135 {nm : String} : pm_dec (mL_law nm) 1135 (.iload_n 3, 1) 1136 := ⟨(by decide +kernel : decode code 1135 = .ok (.iload_n 3, 1)), rfl⟩
theorem dL_law_1136 {nm : String} : pm_dec (mL_law nm) 1136 (.iconst 1, 1) 1137 := ⟨(by decide +kernel : decode code 1136 = .ok (.iconst 1, 1)), rfl⟩
theorem dL_law_1137 {nm : String} : pm_dec (mL_law nm) 1137 (.iadd, 1) 1138 := ⟨(by decide +kernel : decode code 1137 = .ok (.iadd, 1)), rfl⟩
theorem dL_law_1138 {nm : String} : pm_dec (mL_law nm) 1138 (.iaload, 1) 1139 := ⟨(by decide +kernel : decode code 1138 = .ok (.iaload, 1)), rfl⟩
theorem dL_law_1139 {nm : String} : pm_dec (mL_law nm) 1139 (.aload_n 0, 1) 1140 := ⟨(by decide +kernel : decode code 1139 = .ok (.aload_n 0, 1)), rfl⟩
theorem dL_law_1140 {nm : String} : pm_dec (mL_law nm) 1140 (.iload_n 3, 1) 1141 := ⟨(by decide +kernel : decode code 1140 = .ok (.iload_n 3, 1)), rfl⟩
theorem dL_law_1141 {nm : String} : pm_dec (mL_law nm) 1141 (.iconst 2, 1) 1142 := ⟨(by decide +kernel : decode code 1141 = .ok (.iconst 2, 1)), rfl⟩
theorem dL_law_1142 {nm : String} : pm_dec (mL_law nm) 1142 (.iadd, 1) 1143 := ⟨(by decide +kernel : decode code 1142 = .ok (.iadd, 1)), rfl⟩
theorem dL_law_1143 {nm : String} : pm_dec (mL_law nm) 1143 (.iaload, 1) 1144 := ⟨(by decide +kernel : decode code 1143 = .ok (.iaload, 1)), rfl⟩
theorem dL_law_1144 {nm : String} : pm_dec (mL_law nm) 1144 (.invokevirtual 121, 3) 1147 := ⟨(by decide +kernel : decode code 1144 = .ok (.invokevirtual 121, 3)), rfl⟩
theorem dL_law_1147 {nm : String} : pm_dec (mL_law nm) 1147 (.pop, 1) 1148 := ⟨(by decide +kernel : decode code 1147 = .ok (.pop, 1)), rfl⟩
theorem dL_law_1148 {nm : String} : pm_dec (mL_law nm) 1148 (.aload_n 2, 1) 1149 := ⟨(by decide +kernel : decode code 1148 = .ok (.aload_n 2, 1)), rfl⟩
theorem dL_law_1149 {nm : String} : pm_dec (mL_law nm) 1149 (.aload_n 0, 1) 1150 := ⟨(by decide +kernel : decode code 1149 = .ok (.aload_n 0, 1)), rfl⟩
theorem dL_law_1150 {nm : String} : pm_dec (mL_law nm) 1150 (.iload_n 3, 1) 1151 := ⟨(by decide +kernel : decode code 1150 = .ok (.iload_n 3, 1)), rfl⟩
theorem dL_law_1151 {nm : String} : pm_dec (mL_law nm) 1151 (.iconst 1, 1) 1152 := ⟨(by decide +kernel : decode code 1151 = .ok (.iconst 1, 1)), rfl⟩
theorem dL_law_1152 {nm : String} : pm_dec (mL_law nm) 1152 (.iadd, 1) 1153 := ⟨(by decide +kernel : decode code 1152 = .ok (.iadd, 1)), rfl⟩
theorem dL_law_1153 {nm : String} : pm_dec (mL_law nm) 1153 (.iaload, 1) 1154 := ⟨(by decide +kernel : decode code 1153 = .ok (.iaload, 1)), rfl⟩
theorem dL_law_1154 {nm : String} : pm_dec (mL_law nm) 1154 (.aload_n 0, 1) 1155 := ⟨(by decide +kernel : decode code 1154 = .ok (.aload_n 0, 1)), rfl⟩
theorem dL_law_1155 {nm : String} : pm_dec (mL_law nm) 1155 (.iload_n 3, 1) 1156 := ⟨(by decide +kernel : decode code 1155 = .ok (.iload_n 3, 1)), rfl⟩
theorem dL_law_1156 {nm : String} : pm_dec (mL_law nm) 1156 (.iconst 2, 1) 1157 := ⟨(by decide +kernel : decode code 1156 = .ok (.iconst 2, 1)), rfl⟩
theorem dL_law_1157 {nm : String} : pm_dec (mL_law nm) 1157 (.iadd, 1) 1158 := ⟨(by decide +kernel : decode code 1157 = .ok (.iadd, 1)), rfl⟩
theorem dL_law_1158 {nm : String} : pm_dec (mL_law nm) 1158 (.iaload, 1) 1159 := ⟨(by decide +kernel : decode code 1158 = .ok (.iaload, 1)), rfl⟩
theorem dL_law_1159 {nm : String} : pm_dec (mL_law nm) 1159 (.invokevirtual 124, 3) 1162 := ⟨(by decide +kernel : decode code 1159 = .ok (.invokevirtual 124, 3)), rfl⟩
theorem dL_law_1162 {nm : String} : pm_dec (mL_law nm) 1162 (.pop, 1) 1163 := ⟨(by decide +kernel : decode code 1162 = .ok (.pop, 1)), rfl⟩
theorem dL_law_1163 {nm : String} : pm_dec (mL_law nm) 1163 (.goto 942, 3) 1166 := ⟨(by decide +kernel : decode code 1163 = .ok (.goto 942, 3)), rfl⟩
theorem dL_law_1166 {nm : String} : pm_dec (mL_law nm) 1166 (.aload_n 1, 1) 1167 := ⟨(by decide +kernel : decode code 1166 = .ok (.aload_n 1, 1)), rfl⟩
theorem dL_law_1167 {nm : String} : pm_dec (mL_law nm) 1167 (.aload_n 0, 1) 1168 := ⟨(by decide +kernel : decode code 1167 = .ok (.aload_n 0, 1)), rfl⟩
theorem dL_law_1168 {nm : String} : pm_dec (mL_law nm) 1168 (.iload_n 3, 1) 1169 := ⟨(by decide +kernel : decode code 1168 = .ok (.iload_n 3, 1)), rfl⟩
theorem dL_law_1169 {nm : String} : pm_dec (mL_law nm) 1169 (.iconst 1, 1) 1170 := ⟨(by decide +kernel : decode code 1169 = .ok (.iconst 1, 1)), rfl⟩
theorem dL_law_1170 {nm : String} : pm_dec (mL_law nm) 1170 (.iadd, 1) 1171 := ⟨(by decide +kernel : decode code 1170 = .ok (.iadd, 1)), rfl⟩
theorem dL_law_1171 {nm : String} : pm_dec (mL_law nm) 1171 (.iaload, 1) 1172 := ⟨(by decide +kernel : decode code 1171 = .ok (.iaload, 1)), rfl⟩
theorem dL_law_1172 {nm : String} : pm_dec (mL_law nm) 1172 (.invokevirtual 125, 3) 1175 := ⟨(by decide +kernel : decode code 1172 = .ok (.invokevirtual 125, 3)), rfl⟩
theorem dL_law_1175 {nm : String} : pm_dec (mL_law nm) 1175 (.pop, 1) 1176 := ⟨(by decide +kernel : decode code 1175 = .ok (.pop, 1)), rfl⟩
theorem dL_law_1176 {nm : String} : pm_dec (mL_law nm) 1176 (.aload_n 2, 1) 1177 := ⟨(by decide +kernel : decode code 1176 = .ok (.aload_n 2, 1)), rfl⟩
theorem dL_law_1177 {nm : String} : pm_dec (mL_law nm) 1177 (.aload_n 0, 1) 1178 := ⟨(by decide +kernel : decode code 1177 = .ok (.aload_n 0, 1)), rfl⟩
theorem dL_law_1178 {nm : String} : pm_dec (mL_law nm) 1178 (.iload_n 3, 1) 1179 := ⟨(by decide +kernel : decode code 1178 = .ok (.iload_n 3, 1)), rfl⟩
theorem dL_law_1179 {nm : String} : pm_dec (mL_law nm) 1179 (.iconst 1, 1) 1180 := ⟨(by decide +kernel : decode code 1179 = .ok (.iconst 1, 1)), rfl⟩
theorem dL_law_1180 {nm : String} : pm_dec (mL_law nm) 1180 (.iadd, 1) 1181 := ⟨(by decide +kernel : decode code 1180 = .ok (.iadd, 1)), rfl⟩
theorem dL_law_1181 {nm : String} : pm_dec (mL_law nm) 1181 (.iaload, 1) 1182 := ⟨(by decide +kernel : decode code 1181 = .ok (.iaload, 1)), rfl⟩
theorem dL_law_1182 {nm : String} : pm_dec (mL_law nm) 1182 (.invokevirtual 128, 3) 1185 := ⟨(by decide +kernel : decode code 1182 = .ok (.invokevirtual 128, 3)), rfl⟩
theorem dL_law_1185 {nm : String} : pm_dec (mL_law nm) 1185 (.pop, 1) 1186 := ⟨(by decide +kernel : decode code 1185 = .ok (.pop, 1)), rfl⟩
theorem dL_law_1186 {nm : String} : pm_dec (mL_law nm) 1186 (.goto 919, 3) 1189 := ⟨(by decide +kernel : decode code 1186 = .ok (.goto 919, 3)), rfl⟩
theorem dL_law_1189 {nm : String} : pm_dec (mL_law nm) 1189 (.aload_n 1, 1) 1190 := ⟨(by decide +kernel : decode code 1189 = .ok (.aload_n 1, 1)), rfl⟩
theorem dL_law_1190 {nm : String} : pm_dec (mL_law nm) 1190 (.aload_n 0, 1) 1191 := ⟨(by decide +kernel : decode code 1190 = .ok (.aload_n 0, 1)), rfl⟩
theorem dL_law_1191 {nm : String} : pm_dec (mL_law nm) 1191 (.iload_n 3, 1) 1192 := ⟨(by decide +kernel : decode code 1191 = .ok (.iload_n 3, 1)), rfl⟩
theorem dL_law_1192 {nm : String} : pm_dec (mL_law nm) 1192 (.iconst 1, 1) 1193 := ⟨(by decide +kernel : decode code 1192 = .ok (.iconst 1, 1)), rfl⟩
theorem dL_law_1193 {nm : String} : pm_dec (mL_law nm) 1193 (.iadd, 1) 1194 := ⟨(by decide +kernel : decode code 1193 = .ok (.iadd, 1)), rfl⟩
theorem dL_law_1194 {nm : String} : pm_dec (mL_law nm) 1194 (.iaload, 1) 1195 := ⟨(by decide +kernel : decode code 1194 = .ok (.iaload, 1)), rfl⟩
theorem dL_law_1195 {nm : String} : pm_dec (mL_law nm) 1195 (.aload_n 0, 1) 1196 := ⟨(by decide +kernel : decode code 1195 = .ok (.aload_n 0, 1)), rfl⟩
theorem dL_law_1196 {nm : String} : pm_dec (mL_law nm) 1196 (.iload_n 3, 1) 1197 := ⟨(by decide +kernel : decode code 1196 = .ok (.iload_n 3, 1)), rfl⟩
theorem dL_law_1197 {nm : String} : pm_dec (mL_law nm) 1197 (.iconst 2, 1) 1198 := ⟨(by decide +kernel : decode code 1197 = .ok (.iconst 2, 1)), rfl⟩
theorem dL_law_1198 {nm : String} : pm_dec (mL_law nm) 1198 (.iadd, 1) 1199 := ⟨(by decide +kernel : decode code 1198 = .ok (.iadd, 1)), rfl⟩
theorem dL_law_1199 {nm : String} : pm_dec (mL_law nm) 1199 (.iaload, 1) 1200 := ⟨(by decide +kernel : decode code 1199 = .ok (.iaload, 1)), rfl⟩
theorem dL_law_1200 {nm : String} : pm_dec (mL_law nm) 1200 (.invokevirtual 129, 3) 1203 := ⟨(by decide +kernel : decode code 1200 = .ok (.invokevirtual 129, 3)), rfl⟩
theorem dL_law_1203 {nm : String} : pm_dec (mL_law nm) 1203 (.pop, 1) 1204 := ⟨(by decide +kernel : decode code 1203 = .ok (.pop, 1)), rfl⟩
theorem dL_law_1204 {nm : String} : pm_dec (mL_law nm) 1204 (.aload_n 2, 1) 1205 := ⟨(by decide +kernel : decode code 1204 = .ok (.aload_n 2, 1)), rfl⟩
theorem dL_law_1205 {nm : String} : pm_dec (mL_law nm) 1205 (.aload_n 0, 1) 1206 := ⟨(by decide +kernel : decode code 1205 = .ok (.aload_n 0, 1)), rfl⟩
theorem dL_law_1206 {nm : String} : pm_dec (mL_law nm) 1206 (.iload_n 3, 1) 1207 := ⟨(by decide +kernel : decode code 1206 = .ok (.iload_n 3, 1)), rfl⟩
theorem dL_law_1207 {nm : String} : pm_dec (mL_law nm) 1207 (.iconst 1, 1) 1208 := ⟨(by decide +kernel : decode code 1207 = .ok (.iconst 1, 1)), rfl⟩
theorem dL_law_1208 {nm : String} : pm_dec (mL_law nm) 1208 (.iadd, 1) 1209 := ⟨(by decide +kernel : decode code 1208 = .ok (.iadd, 1)), rfl⟩
theorem dL_law_1209 {nm : String} : pm_dec (mL_law nm) 1209 (.iaload, 1) 1210 := ⟨(by decide +kernel : decode code 1209 = .ok (.iaload, 1)), rfl⟩
theorem dL_law_1210 {nm : String} : pm_dec (mL_law nm) 1210 (.aload_n 0, 1) 1211 := ⟨(by decide +kernel : decode code 1210 = .ok (.aload_n 0, 1)), rfl⟩
theorem dL_law_1211 {nm : String} : pm_dec (mL_law nm) 1211 (.iload_n 3, 1) 1212 := ⟨(by decide +kernel : decode code 1211 = .ok (.iload_n 3, 1)), rfl⟩
theorem dL_law_1212 {nm : String} : pm_dec (mL_law nm) 1212 (.iconst 2, 1) 1213 := ⟨(by decide +kernel : decode code 1212 = .ok (.iconst 2, 1)), rfl⟩
theorem dL_law_1213 {nm : String} : pm_dec (mL_law nm) 1213 (.iadd, 1) 1214 := ⟨(by decide +kernel : decode code 1213 = .ok (.iadd, 1)), rfl⟩
theorem dL_law_1214 {nm : String} : pm_dec (mL_law nm) 1214 (.iaload, 1) 1215 := ⟨(by decide +kernel : decode code 1214 = .ok (.iaload, 1)), rfl⟩
theorem dL_law_1215 {nm : String} : pm_dec (mL_law nm) 1215 (.invokevirtual 132, 3) 1218 := ⟨(by decide +kernel : decode code 1215 = .ok (.invokevirtual 132, 3)), rfl⟩
theorem dL_law_1218 {nm : String} : pm_dec (mL_law nm) 1218 (.pop, 1) 1219 := ⟨(by decide +kernel : decode code 1218 = .ok (.pop, 1)), rfl⟩
theorem dL_law_1219 {nm : String} : pm_dec (mL_law nm) 1219 (.goto 886, 3) 1222 := ⟨(by decide +kernel : decode code 1219 = .ok (.goto 886, 3)), rfl⟩
