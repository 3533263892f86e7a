theorem dL_law_1050 : decode cL_law 1050 = .ok (.ifCond .ne 23, 3) := by decide +kernel
theorem dL_law_1053 : decode cL_law 1053 = .ok (.iload 22, 2) := by decide +kernel
theorem dL_law_1055 : decode cL_law 1055 = .ok (.ifCond .eq 20, 3) := by decide +kernel
theorem dL_law_1058 : decode cL_law 1058 = .ok (.aload 7, 2) := by decide +kernel
theorem dL_law_1060 : decode cL_law 1060 = .ok (.iload 21, 2) := by decide +kernel
theorem dL_law_1062 : decode cL_law 1062 = .ok (.aaload, 1) := by decide +kernel
theorem dL_law_1063 : decode cL_law 1063 = .ok (.iconst 5, 1) := by decide +kernel
theorem dL_law_1064 : decode cL_law 1064 = .ok (.iaload, 1) := by decide +kernel
theorem dL_law_1065 : decode cL_law 1065 = .ok (.ifCond .ne 10, 3) := by decide +kernel
theorem dL_law_1068 : decode cL_law 1068 = .ok (.iload 23, 2) := by decide +kernel
theorem dL_law_1070 : decode cL_law 1070 = .ok (.ifCond .ne 5, 3) := by decide +kernel
theorem dL_law_1073 : decode cL_law 1073 = .ok (.iconst 0, 1) := by decide +kernel
theorem dL_law_1074 : decode cL_law 1074 = .ok (.ireturn, 1) := by decide +kernel
theorem dL_law_1075 : decode cL_law 1075 = .ok (.iload 23, 2) := by decide +kernel
theorem dL_law_1077 : decode cL_law 1077 = .ok (.ifCond .ne 22, 3) := by decide +kernel
theorem dL_law_1080 : decode cL_law 1080 = .ok (.aload_n 1, 1) := by decide +kernel
theorem dL_law_1081 : decode cL_law 1081 = .ok (.iload 21, 2) := by decide +kernel
theorem dL_law_1083 : decode cL_law 1083 = .ok (.iconst 3, 1) := by decide +kernel
theorem dL_law_1084 : decode cL_law 1084 = .ok (.invokevirtual 117, 3) := by decide +kernel
theorem dL_law_1087 : decode cL_law 1087 = .ok (.aload 7, 2) := by decide +kernel
theorem dL_law_1089 : decode cL_law 1089 = .ok (.iload 21, 2) := by decide +kernel
theorem dL_law_1091 : decode cL_law 1091 = .ok (.aaload, 1) := by decide +kernel
theorem dL_law_1092 : decode cL_law 1092 = .ok (.iconst 3, 1) := by decide +kernel
theorem dL_law_1093 : decode cL_law 1093 = .ok (.iaload, 1) := by decide +kernel
theorem dL_law_1094 : decode cL_law 1094 = .ok (.iconst 2, 1) := by decide +kernel
theorem dL_law_1095 : decode cL_law 1095 = .ok (.isub, 1) := by decide +kernel
theorem dL_law_1096 : decode cL_law 1096 = .ok (.if_icmp .lt 35, 3) := by decide +kernel
theorem dL_law_1099 : decode cL_law 1099 = .ok (.aload 7, 2) := by decide +kernel
theorem dL_law_1101 : decode cL_law 1101 = .ok (.iload 21, 2) := by decide +kernel
theorem dL_law_1103 : decode cL_law 1103 = .ok (.aaload, 1) := by decide +kernel
theorem dL_law_1104 : decode cL_law 1104 = .ok (.iconst 5, 1) := by decide +kernel
theorem dL_law_1105 : decode cL_law 1105 = .ok (.iaload, 1) := by decide +kernel
theorem dL_law_1106 : decode cL_law 1106 = .ok (.ifCond .ne 27, 3) := by decide +kernel
theorem dL_law_1109 : decode cL_law 1109 = .ok (.iload 23, 2) := by decide +kernel
theorem dL_law_1111 : decode cL_law 1111 = .ok (.ifCond .ne 22, 3) := by decide +kernel
theorem dL_law_1114 : decode cL_law 1114 = .ok (.aload_n 1, 1) := by decide +kernel
theorem dL_law_1115 : decode cL_law 1115 = .ok (.iload 21, 2) := by decide +kernel
theorem dL_law_1117 : decode cL_law 1117 = .ok (.iconst 3, 1) := by decide +kernel
theorem dL_law_1118 : decode cL_law 1118 = .ok (.invokevirtual 117, 3) := by decide +kernel
theorem dL_law_1121 : decode cL_law 1121 = .ok (.aload 7, 2) := by decide +kernel
theorem dL_law_1123 : decode cL_law 1123 = .ok (.iload 21, 2) := by decide +kernel
theorem dL_law_1125 : decode cL_law 1125 = .ok (.aaload, 1) := by decide +kernel
theorem dL_law_1126 : decode cL_law 1126 = .ok (.iconst 3, 1) := by decide +kernel
theorem dL_law_1127 : decode cL_law 1127 = .ok (.iaload, 1) := by decide +kernel
theorem dL_law_1128 : decode cL_law 1128 = .ok (.if_icmp .ge 5, 3) := by decide +kernel
theorem dL_law_1131 : decode cL_law 1131 = .ok (.iconst 0, 1) := by decide +kernel
theorem dL_law_1132 : decode cL_law 1132 = .ok (.ireturn, 1) := by decide +kernel
theorem dL_law_1133 : decode cL_law 1133 = .ok (.iinc 21 1, 3) := by decide +kernel
theorem dL_law_1136 : decode cL_law 1136 = .ok (.goto (-346), 3) := by decide +kernel
theorem dL_law_1139 : decode cL_law 1139 = .ok (.aload_n 1, 1) := by decide +kernel
theorem dL_law_1140 : decode cL_law 1140 = .ok (.iconst 5, 1) := by decide +kernel
theorem dL_law_1141 : decode cL_law 1141 = .ok (.invokevirtual 113, 3) := by decide +kernel
theorem dL_law_1144 : decode cL_law 1144 = .ok (.iload 19, 2) := by decide +kernel
theorem dL_law_1146 : decode cL_law 1146 = .ok (.if_icmp .ne 14, 3) := by decide +kernel
theorem dL_law_1149 : decode cL_law 1149 = .ok (.aload_n 1, 1) := by decide +kernel
theorem dL_law_1150 : decode cL_law 1150 = .ok (.bipush 8, 2) := by decide +kernel
theorem dL_law_1152 : decode cL_law 1152 = .ok (.invokevirtual 113, 3) := by decide +kernel
theorem dL_law_1155 : decode cL_law 1155 = .ok (.iload 20, 2) := by decide +kernel
theorem dL_law_1157 : decode cL_law 1157 = .ok (.if_icmp .eq 5, 3) := by decide +kernel
theorem dL_law_1160 : decode cL_law 1160 = .ok (.iconst 0, 1) := by decide +kernel
theorem dL_law_1161 : decode cL_law 1161 = .ok (.ireturn, 1) := by decide +kernel
theorem dL_law_1162 : decode cL_law 1162 = .ok (.iinc 3 1, 3) := by decide +kernel
theorem dL_law_1165 : decode cL_law 1165 = .ok (.goto (-1143), 3) := by decide +kernel
theorem dL_law_1168 : decode cL_law 1168 = .ok (.aload_n 2, 1) := by decide +kernel
theorem dL_law_1169 : decode cL_law 1169 = .ok (.aload_n 1, 1) := by decide +kernel
theorem dL_law_1170 : decode cL_law 1170 = .ok (.invokevirtual 129, 3) := by decide +kernel
theorem dL_law_1173 : decode cL_law 1173 = .ok (.ireturn, 1) := by decide +kernel
