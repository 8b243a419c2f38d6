/-! the law, instruction by instruction -/
theorem d_law_1024 : decode code 1024 = .ok (.iaload, 1) := by decide +kernel
theorem d_law_1025 : decode code 1025 = .ok (.invokevirtual 139, 3) := by decide +kernel
theorem d_law_1028 : decode code 1028 = .ok (.if_icmp .eq 280, 3) := by decide +kernel
theorem d_law_1031 : decode code 1031 = .ok (.iconst 0, 1) := by decide +kernel
theorem d_law_1032 : decode code 1032 = .ok (.ireturn, 1) := by decide +kernel
theorem d_law_1033 : decode code 1033 = .ok (.aload_n 1, 1) := by decide +kernel
theorem d_law_1034 : decode code 1034 = .ok (.aload_n 0, 1) := by decide +kernel
theorem d_law_1035 : decode code 1035 = .ok (.iload 4, 2) := by decide +kernel
theorem d_law_1037 : decode code 1037 = .ok (.iconst 1, 1) := by decide +kernel
theorem d_law_1038 : decode code 1038 = .ok (.iadd, 1) := by decide +kernel
theorem d_law_1039 : decode code 1039 = .ok (.iaload, 1) := by decide +kernel
theorem d_law_1040 : decode code 1040 = .ok (.aload_n 0, 1) := by decide +kernel
theorem d_law_1041 : decode code 1041 = .ok (.iload 4, 2) := by decide +kernel
theorem d_law_1043 : decode code 1043 = .ok (.iconst 2, 1) := by decide +kernel
theorem d_law_1044 : decode code 1044 = .ok (.iadd, 1) := by decide +kernel
theorem d_law_1045 : decode code 1045 = .ok (.iaload, 1) := by decide +kernel
theorem d_law_1046 : decode code 1046 = .ok (.invokevirtual 140, 3) := by decide +kernel
theorem d_law_1049 : decode code 1049 = .ok (.aload_n 2, 1) := by decide +kernel
theorem d_law_1050 : decode code 1050 = .ok (.aload_n 0, 1) := by decide +kernel
theorem d_law_1051 : decode code 1051 = .ok (.iload 4, 2) := by decide +kernel
theorem d_law_1053 : decode code 1053 = .ok (.iconst 1, 1) := by decide +kernel
theorem d_law_1054 : decode code 1054 = .ok (.iadd, 1) := by decide +kernel
theorem d_law_1055 : decode code 1055 = .ok (.iaload, 1) := by decide +kernel
theorem d_law_1056 : decode code 1056 = .ok (.aload_n 0, 1) := by decide +kernel
theorem d_law_1057 : decode code 1057 = .ok (.iload 4, 2) := by decide +kernel
theorem d_law_1059 : decode code 1059 = .ok (.iconst 2, 1) := by decide +kernel
theorem d_law_1060 : decode code 1060 = .ok (.iadd, 1) := by decide +kernel
theorem d_law_1061 : decode code 1061 = .ok (.iaload, 1) := by decide +kernel
theorem d_law_1062 : decode code 1062 = .ok (.invokevirtual 143, 3) := by decide +kernel
theorem d_law_1065 : decode code 1065 = .ok (.if_icmp .eq 243, 3) := by decide +kernel
theorem d_law_1068 : decode code 1068 = .ok (.iconst 0, 1) := by decide +kernel
theorem d_law_1069 : decode code 1069 = .ok (.ireturn, 1) := by decide +kernel
theorem d_law_1070 : decode code 1070 = .ok (.aload_n 1, 1) := by decide +kernel
theorem d_law_1071 : decode code 1071 = .ok (.aload_n 0, 1) := by decide +kernel
theorem d_law_1072 : decode code 1072 = .ok (.iload 4, 2) := by decide +kernel
theorem d_law_1074 : decode code 1074 = .ok (.iconst 1, 1) := by decide +kernel
theorem d_law_1075 : decode code 1075 = .ok (.iadd, 1) := by decide +kernel
theorem d_law_1076 : decode code 1076 = .ok (.iaload, 1) := by decide +kernel
theorem d_law_1077 : decode code 1077 = .ok (.aload_n 0, 1) := by decide +kernel
theorem d_law_1078 : decode code 1078 = .ok (.iload 4, 2) := by decide +kernel
theorem d_law_1080 : decode code 1080 = .ok (.iconst 2, 1) := by decide +kernel
theorem d_law_1081 : decode code 1081 = .ok (.iadd, 1) := by decide +kernel
theorem d_law_1082 : decode code 1082 = .ok (.iaload, 1) := by decide +kernel
theorem d_law_1083 : decode code 1083 = .ok (.invokevirtual 144, 3) := by decide +kernel
theorem d_law_1086 : decode code 1086 = .ok (.aload_n 2, 1) := by decide +kernel
theorem d_law_1087 : decode code 1087 = .ok (.aload_n 0, 1) := by decide +kernel
theorem d_law_1088 : decode code 1088 = .ok (.iload 4, 2) := by decide +kernel
theorem d_law_1090 : decode code 1090 = .ok (.iconst 1, 1) := by decide +kernel
theorem d_law_1091 : decode code 1091 = .ok (.iadd, 1) := by decide +kernel
theorem d_law_1092 : decode code 1092 = .ok (.iaload, 1) := by decide +kernel
theorem d_law_1093 : decode code 1093 = .ok (.aload_n 0, 1) := by decide +kernel
theorem d_law_1094 : decode code 1094 = .ok (.iload 4, 2) := by decide +kernel
theorem d_law_1096 : decode code 1096 = .ok (.iconst 2, 1) := by decide +kernel
theorem d_law_1097 : decode code 1097 = .ok (.iadd, 1) := by decide +kernel
theorem d_law_1098 : decode code 1098 = .ok (.iaload, 1) := by decide +kernel
theorem d_law_1099 : decode code 1099 = .ok (.invokevirtual 147, 3) := by decide +kernel
theorem d_law_1102 : decode code 1102 = .ok (.if_icmp .eq 206, 3) := by decide +kernel
theorem d_law_1105 : decode code 1105 = .ok (.iconst 0, 1) := by decide +kernel
theorem d_law_1106 : decode code 1106 = .ok (.ireturn, 1) := by decide +kernel
theorem d_law_1107 : decode code 1107 = .ok (.aload_n 1, 1) := by decide +kernel
theorem d_law_1108 : decode code 1108 = .ok (.aload_n 0, 1) := by decide +kernel
theorem d_law_1109 : decode code 1109 = .ok (.iload 4, 2) := by decide +kernel
theorem d_law_1111 : decode code 1111 = .ok (.iconst 1, 1) := by decide +kernel
theorem d_law_1112 : decode code 1112 = .ok (.iadd, 1) := by decide +kernel
theorem d_law_1113 : decode code 1113 = .ok (.iaload, 1) := by decide +kernel
theorem d_law_1114 : decode code 1114 = .ok (.invokevirtual 148, 3) := by decide +kernel
theorem d_law_1117 : decode code 1117 = .ok (.aload_n 2, 1) := by decide +kernel
theorem d_law_1118 : decode code 1118 = .ok (.aload_n 0, 1) := by decide +kernel
theorem d_law_1119 : decode code 1119 = .ok (.iload 4, 2) := by decide +kernel
theorem d_law_1121 : decode code 1121 = .ok (.iconst 1, 1) := by decide +kernel
theorem d_law_1122 : decode code 1122 = .ok (.iadd, 1) := by decide +kernel
theorem d_law_1123 : decode code 1123 = .ok (.iaload, 1) := by decide +kernel
theorem d_law_1124 : decode code 1124 = .ok (.invokevirtual 151, 3) := by decide +kernel
theorem d_law_1127 : decode code 1127 = .ok (.if_icmp .eq 181, 3) := by decide +kernel
theorem d_law_1130 : decode code 1130 = .ok (.iconst 0, 1) := by decide +kernel
theorem d_law_1131 : decode code 1131 = .ok (.ireturn, 1) := by decide +kernel
theorem d_law_1132 : decode code 1132 = .ok (.aload_n 1, 1) := by decide +kernel
theorem d_law_1133 : decode code 1133 = .ok (.invokevirtual 152, 3) := by decide +kernel
theorem d_law_1136 : decode code 1136 = .ok (.aload_n 2, 1) := by decide +kernel
theorem d_law_1137 : decode code 1137 = .ok (.invokevirtual 155, 3) := by decide +kernel
theorem d_law_1140 : decode code 1140 = .ok (.if_icmp .eq 168, 3) := by decide +kernel
theorem d_law_1143 : decode code 1143 = .ok (.iconst 0, 1) := by decide +kernel
theorem d_law_1144 : decode code 1144 = .ok (.ireturn, 1) := by decide +kernel
theorem d_law_1145 : decode code 1145 = .ok (.aload_n 1, 1) := by decide +kernel
theorem d_law_1146 : decode code 1146 = .ok (.aload_n 0, 1) := by decide +kernel
theorem d_law_1147 : decode code 1147 = .ok (.iload 4, 2) := by decide +kernel
theorem d_law_1149 : decode code 1149 = .ok (.iconst 1, 1) := by decide +kernel
theorem d_law_1150 : decode code 1150 = .ok (.iadd, 1) := by decide +kernel
theorem d_law_1151 : decode code 1151 = .ok (.iaload, 1) := by decide +kernel
theorem d_law_1152 : decode code 1152 = .ok (.invokevirtual 156, 3) := by decide +kernel
theorem d_law_1155 : decode code 1155 = .ok (.aload_n 2, 1) := by decide +kernel
theorem d_law_1156 : decode code 1156 = .ok (.aload_n 0, 1) := by decide +kernel
theorem d_law_1157 : decode code 1157 = .ok (.iload 4, 2) := by decide +kernel
theorem d_law_1159 : decode code 1159 = .ok (.iconst 1, 1) := by decide +kernel
theorem d_law_1160 : decode code 1160 = .ok (.iadd, 1) := by decide +kernel
theorem d_law_1161 : decode code 1161 = .ok (.iaload, 1) := by decide +kernel
theorem d_law_1162 : decode code 1162 = .ok (.invokevirtual 159, 3) := by decide +kernel
theorem d_law_1165 : decode code 1165 = .ok (.if_icmp .eq 143, 3) := by decide +kernel
theorem d_law_1168 : decode code 1168 = .ok (.iconst 0, 1) := by decide +kernel
theorem d_law_1169 : decode code 1169 = .ok (.ireturn, 1) := by decide +kernel
