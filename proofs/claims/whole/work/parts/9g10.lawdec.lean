theorem dL_law_1069 : decode code 1069 = .ok (.invokestatic 112, 3) := by decide +kernel
theorem dL_law_1072 : decode code 1072 = .ok (.istore 5, 2) := by decide +kernel
theorem dL_law_1074 : decode code 1074 = .ok (.aload_n 2, 1) := by decide +kernel
theorem dL_law_1075 : decode code 1075 = .ok (.aload_n 0, 1) := by decide +kernel
theorem dL_law_1076 : decode code 1076 = .ok (.iload 4, 2) := by decide +kernel
theorem dL_law_1078 : decode code 1078 = .ok (.iconst 1, 1) := by decide +kernel
theorem dL_law_1079 : decode code 1079 = .ok (.iadd, 1) := by decide +kernel
theorem dL_law_1080 : decode code 1080 = .ok (.iaload, 1) := by decide +kernel
theorem dL_law_1081 : decode code 1081 = .ok (.aload_n 0, 1) := by decide +kernel
theorem dL_law_1082 : decode code 1082 = .ok (.iload 4, 2) := by decide +kernel
theorem dL_law_1084 : decode code 1084 = .ok (.iconst 2, 1) := by decide +kernel
theorem dL_law_1085 : decode code 1085 = .ok (.iadd, 1) := by decide +kernel
theorem dL_law_1086 : decode code 1086 = .ok (.iaload, 1) := by decide +kernel
theorem dL_law_1087 : decode code 1087 = .ok (.invokevirtual 114, 3) := by decide +kernel
theorem dL_law_1090 : decode code 1090 = .ok (.lstore 6, 2) := by decide +kernel
theorem dL_law_1092 : decode code 1092 = .ok (.aload_n 2, 1) := by decide +kernel
theorem dL_law_1093 : decode code 1093 = .ok (.invokevirtual 53, 3) := by decide +kernel
theorem dL_law_1096 : decode code 1096 = .ok (.iload 5, 2) := by decide +kernel
theorem dL_law_1098 : decode code 1098 = .ok (.if_icmp .eq 5, 3) := by decide +kernel
theorem dL_law_1101 : decode code 1101 = .ok (.iconst 0, 1) := by decide +kernel
theorem dL_law_1102 : decode code 1102 = .ok (.ireturn, 1) := by decide +kernel
theorem dL_law_1103 : decode code 1103 = .ok (.iload 5, 2) := by decide +kernel
theorem dL_law_1105 : decode code 1105 = .ok (.ifCond .ne 14, 3) := by decide +kernel
theorem dL_law_1108 : decode code 1108 = .ok (.aload_n 3, 1) := by decide +kernel
theorem dL_law_1109 : decode code 1109 = .ok (.iconst 0, 1) := by decide +kernel
theorem dL_law_1110 : decode code 1110 = .ok (.laload, 1) := by decide +kernel
theorem dL_law_1111 : decode code 1111 = .ok (.lload 6, 2) := by decide +kernel
theorem dL_law_1113 : decode code 1113 = .ok (.lcmp, 1) := by decide +kernel
theorem dL_law_1114 : decode code 1114 = .ok (.ifCond .eq 5, 3) := by decide +kernel
theorem dL_law_1117 : decode code 1117 = .ok (.iconst 0, 1) := by decide +kernel
theorem dL_law_1118 : decode code 1118 = .ok (.ireturn, 1) := by decide +kernel
theorem dL_law_1119 : decode code 1119 = .ok (.goto 65, 3) := by decide +kernel
theorem dL_law_1122 : decode code 1122 = .ok (.aload_n 1, 1) := by decide +kernel
theorem dL_law_1123 : decode code 1123 = .ok (.aload_n 0, 1) := by decide +kernel
theorem dL_law_1124 : decode code 1124 = .ok (.iload 4, 2) := by decide +kernel
theorem dL_law_1126 : decode code 1126 = .ok (.iconst 1, 1) := by decide +kernel
theorem dL_law_1127 : decode code 1127 = .ok (.iadd, 1) := by decide +kernel
theorem dL_law_1128 : decode code 1128 = .ok (.iaload, 1) := by decide +kernel
theorem dL_law_1129 : decode code 1129 = .ok (.aload_n 0, 1) := by decide +kernel
theorem dL_law_1130 : decode code 1130 = .ok (.iload 4, 2) := by decide +kernel
theorem dL_law_1132 : decode code 1132 = .ok (.iconst 2, 1) := by decide +kernel
theorem dL_law_1133 : decode code 1133 = .ok (.iadd, 1) := by decide +kernel
theorem dL_law_1134 : decode code 1134 = .ok (.iaload, 1) := by decide +kernel
theorem dL_law_1135 : decode code 1135 = .ok (.invokevirtual 115, 3) := by decide +kernel
theorem dL_law_1138 : decode code 1138 = .ok (.aload_n 2, 1) := by decide +kernel
theorem dL_law_1139 : decode code 1139 = .ok (.aload_n 0, 1) := by decide +kernel
theorem dL_law_1140 : decode code 1140 = .ok (.iload 4, 2) := by decide +kernel
theorem dL_law_1142 : decode code 1142 = .ok (.iconst 1, 1) := by decide +kernel
theorem dL_law_1143 : decode code 1143 = .ok (.iadd, 1) := by decide +kernel
theorem dL_law_1144 : decode code 1144 = .ok (.iaload, 1) := by decide +kernel
theorem dL_law_1145 : decode code 1145 = .ok (.aload_n 0, 1) := by decide +kernel
theorem dL_law_1146 : decode code 1146 = .ok (.iload 4, 2) := by decide +kernel
theorem dL_law_1148 : decode code 1148 = .ok (.iconst 2, 1) := by decide +kernel
theorem dL_law_1149 : decode code 1149 = .ok (.iadd, 1) := by decide +kernel
theorem dL_law_1150 : decode code 1150 = .ok (.iaload, 1) := by decide +kernel
theorem dL_law_1151 : decode code 1151 = .ok (.invokevirtual 118, 3) := by decide +kernel
theorem dL_law_1154 : decode code 1154 = .ok (.if_icmp .eq 30, 3) := by decide +kernel
theorem dL_law_1157 : decode code 1157 = .ok (.iconst 0, 1) := by decide +kernel
theorem dL_law_1158 : decode code 1158 = .ok (.ireturn, 1) := by decide +kernel
theorem dL_law_1159 : decode code 1159 = .ok (.aload_n 1, 1) := by decide +kernel
theorem dL_law_1160 : decode code 1160 = .ok (.aload_n 0, 1) := by decide +kernel
theorem dL_law_1161 : decode code 1161 = .ok (.iload 4, 2) := by decide +kernel
theorem dL_law_1163 : decode code 1163 = .ok (.iconst 1, 1) := by decide +kernel
theorem dL_law_1164 : decode code 1164 = .ok (.iadd, 1) := by decide +kernel
theorem dL_law_1165 : decode code 1165 = .ok (.iaload, 1) := by decide +kernel
theorem dL_law_1166 : decode code 1166 = .ok (.invokevirtual 119, 3) := by decide +kernel
theorem dL_law_1169 : decode code 1169 = .ok (.aload_n 2, 1) := by decide +kernel
theorem dL_law_1170 : decode code 1170 = .ok (.aload_n 0, 1) := by decide +kernel
theorem dL_law_1171 : decode code 1171 = .ok (.iload 4, 2) := by decide +kernel
theorem dL_law_1173 : decode code 1173 = .ok (.iconst 1, 1) := by decide +kernel
