theorem dL_law_1174 : decode code 1174 = .ok (.iadd, 1) := by decide +kernel
theorem dL_law_1175 : decode code 1175 = .ok (.iaload, 1) := by decide +kernel
theorem dL_law_1176 : decode code 1176 = .ok (.invokevirtual 122, 3) := by decide +kernel
theorem dL_law_1179 : decode code 1179 = .ok (.if_icmp .eq 5, 3) := by decide +kernel
theorem dL_law_1182 : decode code 1182 = .ok (.iconst 0, 1) := by decide +kernel
theorem dL_law_1183 : decode code 1183 = .ok (.ireturn, 1) := by decide +kernel
theorem dL_law_1184 : decode code 1184 = .ok (.iinc 4 7, 3) := by decide +kernel
theorem dL_law_1187 : decode code 1187 = .ok (.goto (-1164), 3) := by decide +kernel
theorem dL_law_1190 : decode code 1190 = .ok (.iconst 1, 1) := by decide +kernel
theorem dL_law_1191 : decode code 1191 = .ok (.ireturn, 1) := by decide +kernel
