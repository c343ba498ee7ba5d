def zdl_1041 : List (Nat × Instr × Nat) := [(1015, .iload 4, 2), (1017, .iconst 1, 1), (1018, .iadd, 1), (1019, .iaload, 1), (1020, .invokevirtual 209, 3), (1023, .istore 6, 2), (1025, .goto 834, 3), (1028, .aload_n 1, 1), (1029, .aload_n 0, 1), (1030, .iload 4, 2), (1032, .iconst 1, 1), (1033, .iadd, 1), (1034, .iaload, 1), (1035, .aload_n 0, 1), (1036, .iload 4, 2), (1038, .iconst 2, 1), (1039, .iadd, 1), (1040, .iaload, 1), (1041, .aload_n 3, 1), (1042, .invokestatic 210, 3), (1045, .istore 5, 2), (1047, .aload_n 2, 1), (1048, .aload_n 0, 1), (1049, .iload 4, 2), (1051, .iconst 1, 1), (1052, .iadd, 1), (1053, .iaload, 1), (1054, .aload_n 0, 1), (1055, .iload 4, 2), (1057, .iconst 2, 1), (1058, .iadd, 1), (1059, .iaload, 1)]
theorem zdb_1041 : zdk cL_law_ zdl_1041 = true := by decide +kernel
theorem dL_law__1015 : decode cL_law_ 1015 = .ok (.iload 4, 2) := zdk_g zdb_1041 (i := 0) rfl
theorem dL_law__1017 : decode cL_law_ 1017 = .ok (.iconst 1, 1) := zdk_g zdb_1041 (i := 1) rfl
theorem dL_law__1018 : decode cL_law_ 1018 = .ok (.iadd, 1) := zdk_g zdb_1041 (i := 2) rfl
theorem dL_law__1019 : decode cL_law_ 1019 = .ok (.iaload, 1) := zdk_g zdb_1041 (i := 3) rfl
theorem dL_law__1020 : decode cL_law_ 1020 = .ok (.invokevirtual 209, 3) := zdk_g zdb_1041 (i := 4) rfl
theorem dL_law__1023 : decode cL_law_ 1023 = .ok (.istore 6, 2) := zdk_g zdb_1041 (i := 5) rfl
theorem dL_law__1025 : decode cL_law_ 1025 = .ok (.goto 834, 3) := zdk_g zdb_1041 (i := 6) rfl
theorem dL_law__1028 : decode cL_law_ 1028 = .ok (.aload_n 1, 1) := zdk_g zdb_1041 (i := 7) rfl
theorem dL_law__1029 : decode cL_law_ 1029 = .ok (.aload_n 0, 1) := zdk_g zdb_1041 (i := 8) rfl
theorem dL_law__1030 : decode cL_law_ 1030 = .ok (.iload 4, 2) := zdk_g zdb_1041 (i := 9) rfl
theorem dL_law__1032 : decode cL_law_ 1032 = .ok (.iconst 1, 1) := zdk_g zdb_1041 (i := 10) rfl
theorem dL_law__1033 : decode cL_law_ 1033 = .ok (.iadd, 1) := zdk_g zdb_1041 (i := 11) rfl
theorem dL_law__1034 : decode cL_law_ 1034 = .ok (.iaload, 1) := zdk_g zdb_1041 (i := 12) rfl
theorem dL_law__1035 : decode cL_law_ 1035 = .ok (.aload_n 0, 1) := zdk_g zdb_1041 (i := 13) rfl
theorem dL_law__1036 : decode cL_law_ 1036 = .ok (.iload 4, 2) := zdk_g zdb_1041 (i := 14) rfl
theorem dL_law__1038 : decode cL_law_ 1038 = .ok (.iconst 2, 1) := zdk_g zdb_1041 (i := 15) rfl
theorem dL_law__1039 : decode cL_law_ 1039 = .ok (.iadd, 1) := zdk_g zdb_1041 (i := 16) rfl
theorem dL_law__1040 : decode cL_law_ 1040 = .ok (.iaload, 1) := zdk_g zdb_1041 (i := 17) rfl
theorem dL_law__1041 : decode cL_law_ 1041 = .ok (.aload_n 3, 1) := zdk_g zdb_1041 (i := 18) rfl
theorem dL_law__1042 : decode cL_law_ 1042 = .ok (.invokestatic 210, 3) := zdk_g zdb_1041 (i := 19) rfl
theorem dL_law__1045 : decode cL_law_ 1045 = .ok (.istore 5, 2) := zdk_g zdb_1041 (i := 20) rfl
theorem dL_law__1047 : decode cL_law_ 1047 = .ok (.aload_n 2, 1) := zdk_g zdb_1041 (i := 21) rfl
theorem dL_law__1048 : decode cL_law_ 1048 = .ok (.aload_n 0, 1) := zdk_g zdb_1041 (i := 22) rfl
theorem dL_law__1049 : decode cL_law_ 1049 = .ok (.iload 4, 2) := zdk_g zdb_1041 (i := 23) rfl
theorem dL_law__1051 : decode cL_law_ 1051 = .ok (.iconst 1, 1) := zdk_g zdb_1041 (i := 24) rfl
theorem dL_law__1052 : decode cL_law_ 1052 = .ok (.iadd, 1) := zdk_g zdb_1041 (i := 25) rfl
theorem dL_law__1053 : decode cL_law_ 1053 = .ok (.iaload, 1) := zdk_g zdb_1041 (i := 26) rfl
theorem dL_law__1054 : decode cL_law_ 1054 = .ok (.aload_n 0, 1) := zdk_g zdb_1041 (i := 27) rfl
theorem dL_law__1055 : decode cL_law_ 1055 = .ok (.iload 4, 2) := zdk_g zdb_1041 (i := 28) rfl
theorem dL_law__1057 : decode cL_law_ 1057 = .ok (.iconst 2, 1) := zdk_g zdb_1041 (i := 29) rfl
theorem dL_law__1058 : decode cL_law_ 1058 = .ok (.iadd, 1) := zdk_g zdb_1041 (i := 30) rfl
theorem dL_law__1059 : decode cL_law_ 1059 = .ok (.iaload, 1) := zdk_g zdb_1041 (i := 31) rfl
def zdl_1042 : List (Nat × Instr × Nat) := [(1060, .invokevirtual 212, 3), (1063, .istore 6, 2), (1065, .goto 794, 3), (1068, .aload_n 1, 1), (1069, .aload_n 0, 1), (1070, .iload 4, 2), (1072, .iconst 1, 1), (1073, .iadd, 1), (1074, .iaload, 1), (1075, .aload_n 3, 1), (1076, .invokestatic 213, 3), (1079, .istore 5, 2), (1081, .aload_n 2, 1), (1082, .aload_n 0, 1), (1083, .iload 4, 2), (1085, .iconst 1, 1), (1086, .iadd, 1), (1087, .iaload, 1), (1088, .invokevirtual 215, 3), (1091, .istore 6, 2), (1093, .goto 766, 3), (1096, .aload_n 1, 1), (1097, .invokevirtual 216, 3), (1100, .pop, 1), (1101, .aload_n 2, 1), (1102, .invokevirtual 219, 3), (1105, .pop, 1), (1106, .goto 753, 3), (1109, .aload_n 1, 1), (1110, .invokevirtual 220, 3), (1113, .pop, 1), (1114, .aload_n 2, 1)]
theorem zdb_1042 : zdk cL_law_ zdl_1042 = true := by decide +kernel
theorem dL_law__1060 : decode cL_law_ 1060 = .ok (.invokevirtual 212, 3) := zdk_g zdb_1042 (i := 0) rfl
theorem dL_law__1063 : decode cL_law_ 1063 = .ok (.istore 6, 2) := zdk_g zdb_1042 (i := 1) rfl
theorem dL_law__1065 : decode cL_law_ 1065 = .ok (.goto 794, 3) := zdk_g zdb_1042 (i := 2) rfl
theorem dL_law__1068 : decode cL_law_ 1068 = .ok (.aload_n 1, 1) := zdk_g zdb_1042 (i := 3) rfl
theorem dL_law__1069 : decode cL_law_ 1069 = .ok (.aload_n 0, 1) := zdk_g zdb_1042 (i := 4) rfl
theorem dL_law__1070 : decode cL_law_ 1070 = .ok (.iload 4, 2) := zdk_g zdb_1042 (i := 5) rfl
theorem dL_law__1072 : decode cL_law_ 1072 = .ok (.iconst 1, 1) := zdk_g zdb_1042 (i := 6) rfl
theorem dL_law__1073 : decode cL_law_ 1073 = .ok (.iadd, 1) := zdk_g zdb_1042 (i := 7) rfl
theorem dL_law__1074 : decode cL_law_ 1074 = .ok (.iaload, 1) := zdk_g zdb_1042 (i := 8) rfl
theorem dL_law__1075 : decode cL_law_ 1075 = .ok (.aload_n 3, 1) := zdk_g zdb_1042 (i := 9) rfl
theorem dL_law__1076 : decode cL_law_ 1076 = .ok (.invokestatic 213, 3) := zdk_g zdb_1042 (i := 10) rfl
theorem dL_law__1079 : decode cL_law_ 1079 = .ok (.istore 5, 2) := zdk_g zdb_1042 (i := 11) rfl
theorem dL_law__1081 : decode cL_law_ 1081 = .ok (.aload_n 2, 1) := zdk_g zdb_1042 (i := 12) rfl
theorem dL_law__1082 : decode cL_law_ 1082 = .ok (.aload_n 0, 1) := zdk_g zdb_1042 (i := 13) rfl
theorem dL_law__1083 : decode cL_law_ 1083 = .ok (.iload 4, 2) := zdk_g zdb_1042 (i := 14) rfl
theorem dL_law__1085 : decode cL_law_ 1085 = .ok (.iconst 1, 1) := zdk_g zdb_1042 (i := 15) rfl
theorem dL_law__1086 : decode cL_law_ 1086 = .ok (.iadd, 1) := zdk_g zdb_1042 (i := 16) rfl
theorem dL_law__1087 : decode cL_law_ 1087 = .ok (.iaload, 1) := zdk_g zdb_1042 (i := 17) rfl
theorem dL_law__1088 : decode cL_law_ 1088 = .ok (.invokevirtual 215, 3) := zdk_g zdb_1042 (i := 18) rfl
theorem dL_law__1091 : decode cL_law_ 1091 = .ok (.istore 6, 2) := zdk_g zdb_1042 (i := 19) rfl
theorem dL_law__1093 : decode cL_law_ 1093 = .ok (.goto 766, 3) := zdk_g zdb_1042 (i := 20) rfl
theorem dL_law__1096 : decode cL_law_ 1096 = .ok (.aload_n 1, 1) := zdk_g zdb_1042 (i := 21) rfl
theorem dL_law__1097 : decode cL_law_ 1097 = .ok (.invokevirtual 216, 3) := zdk_g zdb_1042 (i := 22) rfl
theorem dL_law__1100 : decode cL_law_ 1100 = .ok (.pop, 1) := zdk_g zdb_1042 (i := 23) rfl
theorem dL_law__1101 : decode cL_law_ 1101 = .ok (.aload_n 2, 1) := zdk_g zdb_1042 (i := 24) rfl
theorem dL_law__1102 : decode cL_law_ 1102 = .ok (.invokevirtual 219, 3) := zdk_g zdb_1042 (i := 25) rfl
theorem dL_law__1105 : decode cL_law_ 1105 = .ok (.pop, 1) := zdk_g zdb_1042 (i := 26) rfl
theorem dL_law__1106 : decode cL_law_ 1106 = .ok (.goto 753, 3) := zdk_g zdb_1042 (i := 27) rfl
theorem dL_law__1109 : decode cL_law_ 1109 = .ok (.aload_n 1, 1) := zdk_g zdb_1042 (i := 28) rfl
theorem dL_law__1110 : decode cL_law_ 1110 = .ok (.invokevirtual 220, 3) := zdk_g zdb_1042 (i := 29) rfl
theorem dL_law__1113 : decode cL_law_ 1113 = .ok (.pop, 1) := zdk_g zdb_1042 (i := 30) rfl
theorem dL_law__1114 : decode cL_law_ 1114 = .ok (.aload_n 2, 1) := zdk_g zdb_1042 (i := 31) rfl
def zdl_1043 : List (Nat × Instr × Nat) := [(1115, .invokevirtual 223, 3), (1118, .pop, 1), (1119, .goto 740, 3), (1122, .aload_n 1, 1), (1123, .aload_n 0, 1), (1124, .iload 4, 2), (1126, .iconst 1, 1), (1127, .iadd, 1), (1128, .iaload, 1), (1129, .aload_n 0, 1), (1130, .iload 4, 2), (1132, .iconst 2, 1), (1133, .iadd, 1), (1134, .iaload, 1), (1135, .ifCond .eq 7, 3), (1138, .iconst 1, 1), (1139, .goto 4, 3), (1142, .iconst 0, 1), (1143, .aload_n 3, 1), (1144, .invokestatic 224, 3), (1147, .istore 5, 2), (1149, .aload_n 2, 1), (1150, .aload_n 0, 1), (1151, .iload 4, 2), (1153, .iconst 1, 1), (1154, .iadd, 1), (1155, .iaload, 1), (1156, .aload_n 0, 1), (1157, .iload 4, 2), (1159, .iconst 2, 1), (1160, .iadd, 1), (1161, .iaload, 1)]
theorem zdb_1043 : zdk cL_law_ zdl_1043 = true := by decide +kernel
theorem dL_law__1115 : decode cL_law_ 1115 = .ok (.invokevirtual 223, 3) := zdk_g zdb_1043 (i := 0) rfl
theorem dL_law__1118 : decode cL_law_ 1118 = .ok (.pop, 1) := zdk_g zdb_1043 (i := 1) rfl
theorem dL_law__1119 : decode cL_law_ 1119 = .ok (.goto 740, 3) := zdk_g zdb_1043 (i := 2) rfl
theorem dL_law__1122 : decode cL_law_ 1122 = .ok (.aload_n 1, 1) := zdk_g zdb_1043 (i := 3) rfl
theorem dL_law__1123 : decode cL_law_ 1123 = .ok (.aload_n 0, 1) := zdk_g zdb_1043 (i := 4) rfl
theorem dL_law__1124 : decode cL_law_ 1124 = .ok (.iload 4, 2) := zdk_g zdb_1043 (i := 5) rfl
theorem dL_law__1126 : decode cL_law_ 1126 = .ok (.iconst 1, 1) := zdk_g zdb_1043 (i := 6) rfl
theorem dL_law__1127 : decode cL_law_ 1127 = .ok (.iadd, 1) := zdk_g zdb_1043 (i := 7) rfl
theorem dL_law__1128 : decode cL_law_ 1128 = .ok (.iaload, 1) := zdk_g zdb_1043 (i := 8) rfl
theorem dL_law__1129 : decode cL_law_ 1129 = .ok (.aload_n 0, 1) := zdk_g zdb_1043 (i := 9) rfl
theorem dL_law__1130 : decode cL_law_ 1130 = .ok (.iload 4, 2) := zdk_g zdb_1043 (i := 10) rfl
theorem dL_law__1132 : decode cL_law_ 1132 = .ok (.iconst 2, 1) := zdk_g zdb_1043 (i := 11) rfl
theorem dL_law__1133 : decode cL_law_ 1133 = .ok (.iadd, 1) := zdk_g zdb_1043 (i := 12) rfl
theorem dL_law__1134 : decode cL_law_ 1134 = .ok (.iaload, 1) := zdk_g zdb_1043 (i := 13) rfl
theorem dL_law__1135 : decode cL_law_ 1135 = .ok (.ifCond .eq 7, 3) := zdk_g zdb_1043 (i := 14) rfl
theorem dL_law__1138 : decode cL_law_ 1138 = .ok (.iconst 1, 1) := zdk_g zdb_1043 (i := 15) rfl
theorem dL_law__1139 : decode cL_law_ 1139 = .ok (.goto 4, 3) := zdk_g zdb_1043 (i := 16) rfl
theorem dL_law__1142 : decode cL_law_ 1142 = .ok (.iconst 0, 1) := zdk_g zdb_1043 (i := 17) rfl
theorem dL_law__1143 : decode cL_law_ 1143 = .ok (.aload_n 3, 1) := zdk_g zdb_1043 (i := 18) rfl
theorem dL_law__1144 : decode cL_law_ 1144 = .ok (.invokestatic 224, 3) := zdk_g zdb_1043 (i := 19) rfl
theorem dL_law__1147 : decode cL_law_ 1147 = .ok (.istore 5, 2) := zdk_g zdb_1043 (i := 20) rfl
theorem dL_law__1149 : decode cL_law_ 1149 = .ok (.aload_n 2, 1) := zdk_g zdb_1043 (i := 21) rfl
theorem dL_law__1150 : decode cL_law_ 1150 = .ok (.aload_n 0, 1) := zdk_g zdb_1043 (i := 22) rfl
theorem dL_law__1151 : decode cL_law_ 1151 = .ok (.iload 4, 2) := zdk_g zdb_1043 (i := 23) rfl
theorem dL_law__1153 : decode cL_law_ 1153 = .ok (.iconst 1, 1) := zdk_g zdb_1043 (i := 24) rfl
theorem dL_law__1154 : decode cL_law_ 1154 = .ok (.iadd, 1) := zdk_g zdb_1043 (i := 25) rfl
theorem dL_law__1155 : decode cL_law_ 1155 = .ok (.iaload, 1) := zdk_g zdb_1043 (i := 26) rfl
theorem dL_law__1156 : decode cL_law_ 1156 = .ok (.aload_n 0, 1) := zdk_g zdb_1043 (i := 27) rfl
theorem dL_law__1157 : decode cL_law_ 1157 = .ok (.iload 4, 2) := zdk_g zdb_1043 (i := 28) rfl
theorem dL_law__1159 : decode cL_law_ 1159 = .ok (.iconst 2, 1) := zdk_g zdb_1043 (i := 29) rfl
theorem dL_law__1160 : decode cL_law_ 1160 = .ok (.iadd, 1) := zdk_g zdb_1043 (i := 30) rfl
theorem dL_law__1161 : decode cL_law_ 1161 = .ok (.iaload, 1) := zdk_g zdb_1043 (i := 31) rfl
def zdl_1044 : List (Nat × Instr × Nat) := [(1162, .ifCond .eq 7, 3), (1165, .iconst 1, 1), (1166, .goto 4, 3), (1169, .iconst 0, 1), (1170, .invokevirtual 226, 3), (1173, .istore 6, 2), (1175, .goto 684, 3), (1178, .aload_n 1, 1), (1179, .aload_n 0, 1), (1180, .iload 4, 2), (1182, .iconst 1, 1), (1183, .iadd, 1), (1184, .iaload, 1), (1185, .aload_n 3, 1), (1186, .invokestatic 227, 3), (1189, .istore 5, 2), (1191, .aload_n 2, 1), (1192, .aload_n 0, 1), (1193, .iload 4, 2), (1195, .iconst 1, 1), (1196, .iadd, 1), (1197, .iaload, 1), (1198, .invokevirtual 229, 3), (1201, .istore 6, 2), (1203, .goto 656, 3), (1206, .aload_n 1, 1), (1207, .aload_n 0, 1), (1208, .iload 4, 2), (1210, .iconst 1, 1), (1211, .iadd, 1), (1212, .iaload, 1), (1213, .ifCond .eq 7, 3)]
theorem zdb_1044 : zdk cL_law_ zdl_1044 = true := by decide +kernel
theorem dL_law__1162 : decode cL_law_ 1162 = .ok (.ifCond .eq 7, 3) := zdk_g zdb_1044 (i := 0) rfl
theorem dL_law__1165 : decode cL_law_ 1165 = .ok (.iconst 1, 1) := zdk_g zdb_1044 (i := 1) rfl
theorem dL_law__1166 : decode cL_law_ 1166 = .ok (.goto 4, 3) := zdk_g zdb_1044 (i := 2) rfl
theorem dL_law__1169 : decode cL_law_ 1169 = .ok (.iconst 0, 1) := zdk_g zdb_1044 (i := 3) rfl
theorem dL_law__1170 : decode cL_law_ 1170 = .ok (.invokevirtual 226, 3) := zdk_g zdb_1044 (i := 4) rfl
theorem dL_law__1173 : decode cL_law_ 1173 = .ok (.istore 6, 2) := zdk_g zdb_1044 (i := 5) rfl
theorem dL_law__1175 : decode cL_law_ 1175 = .ok (.goto 684, 3) := zdk_g zdb_1044 (i := 6) rfl
theorem dL_law__1178 : decode cL_law_ 1178 = .ok (.aload_n 1, 1) := zdk_g zdb_1044 (i := 7) rfl
theorem dL_law__1179 : decode cL_law_ 1179 = .ok (.aload_n 0, 1) := zdk_g zdb_1044 (i := 8) rfl
theorem dL_law__1180 : decode cL_law_ 1180 = .ok (.iload 4, 2) := zdk_g zdb_1044 (i := 9) rfl
theorem dL_law__1182 : decode cL_law_ 1182 = .ok (.iconst 1, 1) := zdk_g zdb_1044 (i := 10) rfl
theorem dL_law__1183 : decode cL_law_ 1183 = .ok (.iadd, 1) := zdk_g zdb_1044 (i := 11) rfl
theorem dL_law__1184 : decode cL_law_ 1184 = .ok (.iaload, 1) := zdk_g zdb_1044 (i := 12) rfl
theorem dL_law__1185 : decode cL_law_ 1185 = .ok (.aload_n 3, 1) := zdk_g zdb_1044 (i := 13) rfl
theorem dL_law__1186 : decode cL_law_ 1186 = .ok (.invokestatic 227, 3) := zdk_g zdb_1044 (i := 14) rfl
theorem dL_law__1189 : decode cL_law_ 1189 = .ok (.istore 5, 2) := zdk_g zdb_1044 (i := 15) rfl
theorem dL_law__1191 : decode cL_law_ 1191 = .ok (.aload_n 2, 1) := zdk_g zdb_1044 (i := 16) rfl
theorem dL_law__1192 : decode cL_law_ 1192 = .ok (.aload_n 0, 1) := zdk_g zdb_1044 (i := 17) rfl
theorem dL_law__1193 : decode cL_law_ 1193 = .ok (.iload 4, 2) := zdk_g zdb_1044 (i := 18) rfl
theorem dL_law__1195 : decode cL_law_ 1195 = .ok (.iconst 1, 1) := zdk_g zdb_1044 (i := 19) rfl
theorem dL_law__1196 : decode cL_law_ 1196 = .ok (.iadd, 1) := zdk_g zdb_1044 (i := 20) rfl
theorem dL_law__1197 : decode cL_law_ 1197 = .ok (.iaload, 1) := zdk_g zdb_1044 (i := 21) rfl
theorem dL_law__1198 : decode cL_law_ 1198 = .ok (.invokevirtual 229, 3) := zdk_g zdb_1044 (i := 22) rfl
theorem dL_law__1201 : decode cL_law_ 1201 = .ok (.istore 6, 2) := zdk_g zdb_1044 (i := 23) rfl
theorem dL_law__1203 : decode cL_law_ 1203 = .ok (.goto 656, 3) := zdk_g zdb_1044 (i := 24) rfl
theorem dL_law__1206 : decode cL_law_ 1206 = .ok (.aload_n 1, 1) := zdk_g zdb_1044 (i := 25) rfl
theorem dL_law__1207 : decode cL_law_ 1207 = .ok (.aload_n 0, 1) := zdk_g zdb_1044 (i := 26) rfl
theorem dL_law__1208 : decode cL_law_ 1208 = .ok (.iload 4, 2) := zdk_g zdb_1044 (i := 27) rfl
theorem dL_law__1210 : decode cL_law_ 1210 = .ok (.iconst 1, 1) := zdk_g zdb_1044 (i := 28) rfl
theorem dL_law__1211 : decode cL_law_ 1211 = .ok (.iadd, 1) := zdk_g zdb_1044 (i := 29) rfl
theorem dL_law__1212 : decode cL_law_ 1212 = .ok (.iaload, 1) := zdk_g zdb_1044 (i := 30) rfl
theorem dL_law__1213 : decode cL_law_ 1213 = .ok (.ifCond .eq 7, 3) := zdk_g zdb_1044 (i := 31) rfl
def zdl_1045 : List (Nat × Instr × Nat) := [(1216, .iconst 1, 1), (1217, .goto 4, 3), (1220, .iconst 0, 1), (1221, .invokevirtual 230, 3), (1224, .pop, 1), (1225, .aload_n 2, 1), (1226, .aload_n 0, 1), (1227, .iload 4, 2), (1229, .iconst 1, 1), (1230, .iadd, 1), (1231, .iaload, 1), (1232, .ifCond .eq 7, 3), (1235, .iconst 1, 1), (1236, .goto 4, 3), (1239, .iconst 0, 1), (1240, .invokevirtual 233, 3), (1243, .pop, 1), (1244, .goto 615, 3), (1247, .aload_n 1, 1), (1248, .aload_n 0, 1), (1249, .iload 4, 2), (1251, .iconst 1, 1), (1252, .iadd, 1), (1253, .iaload, 1), (1254, .aload_n 3, 1), (1255, .invokestatic 234, 3), (1258, .istore 5, 2), (1260, .aload_n 2, 1), (1261, .aload_n 0, 1), (1262, .iload 4, 2), (1264, .iconst 1, 1), (1265, .iadd, 1)]
theorem zdb_1045 : zdk cL_law_ zdl_1045 = true := by decide +kernel
theorem dL_law__1216 : decode cL_law_ 1216 = .ok (.iconst 1, 1) := zdk_g zdb_1045 (i := 0) rfl
theorem dL_law__1217 : decode cL_law_ 1217 = .ok (.goto 4, 3) := zdk_g zdb_1045 (i := 1) rfl
theorem dL_law__1220 : decode cL_law_ 1220 = .ok (.iconst 0, 1) := zdk_g zdb_1045 (i := 2) rfl
theorem dL_law__1221 : decode cL_law_ 1221 = .ok (.invokevirtual 230, 3) := zdk_g zdb_1045 (i := 3) rfl
theorem dL_law__1224 : decode cL_law_ 1224 = .ok (.pop, 1) := zdk_g zdb_1045 (i := 4) rfl
theorem dL_law__1225 : decode cL_law_ 1225 = .ok (.aload_n 2, 1) := zdk_g zdb_1045 (i := 5) rfl
theorem dL_law__1226 : decode cL_law_ 1226 = .ok (.aload_n 0, 1) := zdk_g zdb_1045 (i := 6) rfl
theorem dL_law__1227 : decode cL_law_ 1227 = .ok (.iload 4, 2) := zdk_g zdb_1045 (i := 7) rfl
theorem dL_law__1229 : decode cL_law_ 1229 = .ok (.iconst 1, 1) := zdk_g zdb_1045 (i := 8) rfl
theorem dL_law__1230 : decode cL_law_ 1230 = .ok (.iadd, 1) := zdk_g zdb_1045 (i := 9) rfl
theorem dL_law__1231 : decode cL_law_ 1231 = .ok (.iaload, 1) := zdk_g zdb_1045 (i := 10) rfl
theorem dL_law__1232 : decode cL_law_ 1232 = .ok (.ifCond .eq 7, 3) := zdk_g zdb_1045 (i := 11) rfl
theorem dL_law__1235 : decode cL_law_ 1235 = .ok (.iconst 1, 1) := zdk_g zdb_1045 (i := 12) rfl
theorem dL_law__1236 : decode cL_law_ 1236 = .ok (.goto 4, 3) := zdk_g zdb_1045 (i := 13) rfl
theorem dL_law__1239 : decode cL_law_ 1239 = .ok (.iconst 0, 1) := zdk_g zdb_1045 (i := 14) rfl
theorem dL_law__1240 : decode cL_law_ 1240 = .ok (.invokevirtual 233, 3) := zdk_g zdb_1045 (i := 15) rfl
theorem dL_law__1243 : decode cL_law_ 1243 = .ok (.pop, 1) := zdk_g zdb_1045 (i := 16) rfl
theorem dL_law__1244 : decode cL_law_ 1244 = .ok (.goto 615, 3) := zdk_g zdb_1045 (i := 17) rfl
theorem dL_law__1247 : decode cL_law_ 1247 = .ok (.aload_n 1, 1) := zdk_g zdb_1045 (i := 18) rfl
theorem dL_law__1248 : decode cL_law_ 1248 = .ok (.aload_n 0, 1) := zdk_g zdb_1045 (i := 19) rfl
theorem dL_law__1249 : decode cL_law_ 1249 = .ok (.iload 4, 2) := zdk_g zdb_1045 (i := 20) rfl
theorem dL_law__1251 : decode cL_law_ 1251 = .ok (.iconst 1, 1) := zdk_g zdb_1045 (i := 21) rfl
theorem dL_law__1252 : decode cL_law_ 1252 = .ok (.iadd, 1) := zdk_g zdb_1045 (i := 22) rfl
theorem dL_law__1253 : decode cL_law_ 1253 = .ok (.iaload, 1) := zdk_g zdb_1045 (i := 23) rfl
theorem dL_law__1254 : decode cL_law_ 1254 = .ok (.aload_n 3, 1) := zdk_g zdb_1045 (i := 24) rfl
theorem dL_law__1255 : decode cL_law_ 1255 = .ok (.invokestatic 234, 3) := zdk_g zdb_1045 (i := 25) rfl
theorem dL_law__1258 : decode cL_law_ 1258 = .ok (.istore 5, 2) := zdk_g zdb_1045 (i := 26) rfl
theorem dL_law__1260 : decode cL_law_ 1260 = .ok (.aload_n 2, 1) := zdk_g zdb_1045 (i := 27) rfl
theorem dL_law__1261 : decode cL_law_ 1261 = .ok (.aload_n 0, 1) := zdk_g zdb_1045 (i := 28) rfl
theorem dL_law__1262 : decode cL_law_ 1262 = .ok (.iload 4, 2) := zdk_g zdb_1045 (i := 29) rfl
theorem dL_law__1264 : decode cL_law_ 1264 = .ok (.iconst 1, 1) := zdk_g zdb_1045 (i := 30) rfl
theorem dL_law__1265 : decode cL_law_ 1265 = .ok (.iadd, 1) := zdk_g zdb_1045 (i := 31) rfl
def zdl_1046 : List (Nat × Instr × Nat) := [(1266, .iaload, 1), (1267, .invokevirtual 236, 3), (1270, .istore 6, 2), (1272, .goto 587, 3), (1275, .aload_n 1, 1), (1276, .aload_n 0, 1), (1277, .iload 4, 2), (1279, .iconst 1, 1), (1280, .iadd, 1), (1281, .iaload, 1), (1282, .aload_n 3, 1), (1283, .invokestatic 237, 3), (1286, .istore 5, 2), (1288, .aload_n 2, 1), (1289, .aload_n 0, 1), (1290, .iload 4, 2), (1292, .iconst 1, 1), (1293, .iadd, 1), (1294, .iaload, 1), (1295, .invokevirtual 239, 3), (1298, .istore 6, 2), (1300, .goto 559, 3), (1303, .aload_n 1, 1), (1304, .aload_n 0, 1), (1305, .iload 4, 2), (1307, .iconst 1, 1), (1308, .iadd, 1), (1309, .iaload, 1), (1310, .ifCond .eq 7, 3), (1313, .iconst 1, 1), (1314, .goto 4, 3), (1317, .iconst 0, 1)]
theorem zdb_1046 : zdk cL_law_ zdl_1046 = true := by decide +kernel
theorem dL_law__1266 : decode cL_law_ 1266 = .ok (.iaload, 1) := zdk_g zdb_1046 (i := 0) rfl
theorem dL_law__1267 : decode cL_law_ 1267 = .ok (.invokevirtual 236, 3) := zdk_g zdb_1046 (i := 1) rfl
theorem dL_law__1270 : decode cL_law_ 1270 = .ok (.istore 6, 2) := zdk_g zdb_1046 (i := 2) rfl
theorem dL_law__1272 : decode cL_law_ 1272 = .ok (.goto 587, 3) := zdk_g zdb_1046 (i := 3) rfl
theorem dL_law__1275 : decode cL_law_ 1275 = .ok (.aload_n 1, 1) := zdk_g zdb_1046 (i := 4) rfl
theorem dL_law__1276 : decode cL_law_ 1276 = .ok (.aload_n 0, 1) := zdk_g zdb_1046 (i := 5) rfl
theorem dL_law__1277 : decode cL_law_ 1277 = .ok (.iload 4, 2) := zdk_g zdb_1046 (i := 6) rfl
theorem dL_law__1279 : decode cL_law_ 1279 = .ok (.iconst 1, 1) := zdk_g zdb_1046 (i := 7) rfl
theorem dL_law__1280 : decode cL_law_ 1280 = .ok (.iadd, 1) := zdk_g zdb_1046 (i := 8) rfl
theorem dL_law__1281 : decode cL_law_ 1281 = .ok (.iaload, 1) := zdk_g zdb_1046 (i := 9) rfl
theorem dL_law__1282 : decode cL_law_ 1282 = .ok (.aload_n 3, 1) := zdk_g zdb_1046 (i := 10) rfl
theorem dL_law__1283 : decode cL_law_ 1283 = .ok (.invokestatic 237, 3) := zdk_g zdb_1046 (i := 11) rfl
theorem dL_law__1286 : decode cL_law_ 1286 = .ok (.istore 5, 2) := zdk_g zdb_1046 (i := 12) rfl
theorem dL_law__1288 : decode cL_law_ 1288 = .ok (.aload_n 2, 1) := zdk_g zdb_1046 (i := 13) rfl
theorem dL_law__1289 : decode cL_law_ 1289 = .ok (.aload_n 0, 1) := zdk_g zdb_1046 (i := 14) rfl
theorem dL_law__1290 : decode cL_law_ 1290 = .ok (.iload 4, 2) := zdk_g zdb_1046 (i := 15) rfl
theorem dL_law__1292 : decode cL_law_ 1292 = .ok (.iconst 1, 1) := zdk_g zdb_1046 (i := 16) rfl
theorem dL_law__1293 : decode cL_law_ 1293 = .ok (.iadd, 1) := zdk_g zdb_1046 (i := 17) rfl
theorem dL_law__1294 : decode cL_law_ 1294 = .ok (.iaload, 1) := zdk_g zdb_1046 (i := 18) rfl
theorem dL_law__1295 : decode cL_law_ 1295 = .ok (.invokevirtual 239, 3) := zdk_g zdb_1046 (i := 19) rfl
theorem dL_law__1298 : decode cL_law_ 1298 = .ok (.istore 6, 2) := zdk_g zdb_1046 (i := 20) rfl
theorem dL_law__1300 : decode cL_law_ 1300 = .ok (.goto 559, 3) := zdk_g zdb_1046 (i := 21) rfl
theorem dL_law__1303 : decode cL_law_ 1303 = .ok (.aload_n 1, 1) := zdk_g zdb_1046 (i := 22) rfl
theorem dL_law__1304 : decode cL_law_ 1304 = .ok (.aload_n 0, 1) := zdk_g zdb_1046 (i := 23) rfl
theorem dL_law__1305 : decode cL_law_ 1305 = .ok (.iload 4, 2) := zdk_g zdb_1046 (i := 24) rfl
theorem dL_law__1307 : decode cL_law_ 1307 = .ok (.iconst 1, 1) := zdk_g zdb_1046 (i := 25) rfl
theorem dL_law__1308 : decode cL_law_ 1308 = .ok (.iadd, 1) := zdk_g zdb_1046 (i := 26) rfl
theorem dL_law__1309 : decode cL_law_ 1309 = .ok (.iaload, 1) := zdk_g zdb_1046 (i := 27) rfl
theorem dL_law__1310 : decode cL_law_ 1310 = .ok (.ifCond .eq 7, 3) := zdk_g zdb_1046 (i := 28) rfl
theorem dL_law__1313 : decode cL_law_ 1313 = .ok (.iconst 1, 1) := zdk_g zdb_1046 (i := 29) rfl
theorem dL_law__1314 : decode cL_law_ 1314 = .ok (.goto 4, 3) := zdk_g zdb_1046 (i := 30) rfl
theorem dL_law__1317 : decode cL_law_ 1317 = .ok (.iconst 0, 1) := zdk_g zdb_1046 (i := 31) rfl
def zdl_1047 : List (Nat × Instr × Nat) := [(1318, .aload_n 3, 1), (1319, .invokestatic 240, 3), (1322, .istore 5, 2), (1324, .aload_n 2, 1), (1325, .aload_n 0, 1), (1326, .iload 4, 2), (1328, .iconst 1, 1), (1329, .iadd, 1), (1330, .iaload, 1), (1331, .ifCond .eq 7, 3), (1334, .iconst 1, 1), (1335, .goto 4, 3), (1338, .iconst 0, 1), (1339, .invokevirtual 243, 3), (1342, .istore 6, 2), (1344, .goto 515, 3), (1347, .aload_n 1, 1), (1348, .aload_n 3, 1), (1349, .invokestatic 244, 3), (1352, .istore 5, 2), (1354, .aload_n 2, 1), (1355, .invokevirtual 246, 3), (1358, .istore 6, 2), (1360, .goto 499, 3), (1363, .aload_n 1, 1), (1364, .aload_n 0, 1), (1365, .iload 4, 2), (1367, .iconst 1, 1), (1368, .iadd, 1), (1369, .iaload, 1), (1370, .aload_n 3, 1), (1371, .invokestatic 247, 3)]
theorem zdb_1047 : zdk cL_law_ zdl_1047 = true := by decide +kernel
theorem dL_law__1318 : decode cL_law_ 1318 = .ok (.aload_n 3, 1) := zdk_g zdb_1047 (i := 0) rfl
theorem dL_law__1319 : decode cL_law_ 1319 = .ok (.invokestatic 240, 3) := zdk_g zdb_1047 (i := 1) rfl
theorem dL_law__1322 : decode cL_law_ 1322 = .ok (.istore 5, 2) := zdk_g zdb_1047 (i := 2) rfl
theorem dL_law__1324 : decode cL_law_ 1324 = .ok (.aload_n 2, 1) := zdk_g zdb_1047 (i := 3) rfl
theorem dL_law__1325 : decode cL_law_ 1325 = .ok (.aload_n 0, 1) := zdk_g zdb_1047 (i := 4) rfl
theorem dL_law__1326 : decode cL_law_ 1326 = .ok (.iload 4, 2) := zdk_g zdb_1047 (i := 5) rfl
theorem dL_law__1328 : decode cL_law_ 1328 = .ok (.iconst 1, 1) := zdk_g zdb_1047 (i := 6) rfl
theorem dL_law__1329 : decode cL_law_ 1329 = .ok (.iadd, 1) := zdk_g zdb_1047 (i := 7) rfl
theorem dL_law__1330 : decode cL_law_ 1330 = .ok (.iaload, 1) := zdk_g zdb_1047 (i := 8) rfl
theorem dL_law__1331 : decode cL_law_ 1331 = .ok (.ifCond .eq 7, 3) := zdk_g zdb_1047 (i := 9) rfl
theorem dL_law__1334 : decode cL_law_ 1334 = .ok (.iconst 1, 1) := zdk_g zdb_1047 (i := 10) rfl
theorem dL_law__1335 : decode cL_law_ 1335 = .ok (.goto 4, 3) := zdk_g zdb_1047 (i := 11) rfl
theorem dL_law__1338 : decode cL_law_ 1338 = .ok (.iconst 0, 1) := zdk_g zdb_1047 (i := 12) rfl
theorem dL_law__1339 : decode cL_law_ 1339 = .ok (.invokevirtual 243, 3) := zdk_g zdb_1047 (i := 13) rfl
theorem dL_law__1342 : decode cL_law_ 1342 = .ok (.istore 6, 2) := zdk_g zdb_1047 (i := 14) rfl
theorem dL_law__1344 : decode cL_law_ 1344 = .ok (.goto 515, 3) := zdk_g zdb_1047 (i := 15) rfl
theorem dL_law__1347 : decode cL_law_ 1347 = .ok (.aload_n 1, 1) := zdk_g zdb_1047 (i := 16) rfl
theorem dL_law__1348 : decode cL_law_ 1348 = .ok (.aload_n 3, 1) := zdk_g zdb_1047 (i := 17) rfl
theorem dL_law__1349 : decode cL_law_ 1349 = .ok (.invokestatic 244, 3) := zdk_g zdb_1047 (i := 18) rfl
theorem dL_law__1352 : decode cL_law_ 1352 = .ok (.istore 5, 2) := zdk_g zdb_1047 (i := 19) rfl
theorem dL_law__1354 : decode cL_law_ 1354 = .ok (.aload_n 2, 1) := zdk_g zdb_1047 (i := 20) rfl
theorem dL_law__1355 : decode cL_law_ 1355 = .ok (.invokevirtual 246, 3) := zdk_g zdb_1047 (i := 21) rfl
theorem dL_law__1358 : decode cL_law_ 1358 = .ok (.istore 6, 2) := zdk_g zdb_1047 (i := 22) rfl
theorem dL_law__1360 : decode cL_law_ 1360 = .ok (.goto 499, 3) := zdk_g zdb_1047 (i := 23) rfl
theorem dL_law__1363 : decode cL_law_ 1363 = .ok (.aload_n 1, 1) := zdk_g zdb_1047 (i := 24) rfl
theorem dL_law__1364 : decode cL_law_ 1364 = .ok (.aload_n 0, 1) := zdk_g zdb_1047 (i := 25) rfl
theorem dL_law__1365 : decode cL_law_ 1365 = .ok (.iload 4, 2) := zdk_g zdb_1047 (i := 26) rfl
theorem dL_law__1367 : decode cL_law_ 1367 = .ok (.iconst 1, 1) := zdk_g zdb_1047 (i := 27) rfl
theorem dL_law__1368 : decode cL_law_ 1368 = .ok (.iadd, 1) := zdk_g zdb_1047 (i := 28) rfl
theorem dL_law__1369 : decode cL_law_ 1369 = .ok (.iaload, 1) := zdk_g zdb_1047 (i := 29) rfl
theorem dL_law__1370 : decode cL_law_ 1370 = .ok (.aload_n 3, 1) := zdk_g zdb_1047 (i := 30) rfl
theorem dL_law__1371 : decode cL_law_ 1371 = .ok (.invokestatic 247, 3) := zdk_g zdb_1047 (i := 31) rfl
def zdl_1048 : List (Nat × Instr × Nat) := [(1374, .istore 5, 2), (1376, .aload_n 2, 1), (1377, .aload_n 0, 1), (1378, .iload 4, 2), (1380, .iconst 1, 1), (1381, .iadd, 1), (1382, .iaload, 1), (1383, .invokevirtual 249, 3), (1386, .istore 6, 2), (1388, .goto 471, 3), (1391, .aload_n 1, 1), (1392, .aload_n 0, 1), (1393, .iload 4, 2), (1395, .iconst 1, 1), (1396, .iadd, 1), (1397, .iaload, 1), (1398, .aload_n 0, 1), (1399, .iload 4, 2), (1401, .iconst 2, 1), (1402, .iadd, 1), (1403, .iaload, 1), (1404, .aload_n 3, 1), (1405, .invokestatic 250, 3), (1408, .istore 5, 2), (1410, .aload_n 2, 1), (1411, .aload_n 0, 1), (1412, .iload 4, 2), (1414, .iconst 1, 1), (1415, .iadd, 1), (1416, .iaload, 1), (1417, .aload_n 0, 1), (1418, .iload 4, 2)]
theorem zdb_1048 : zdk cL_law_ zdl_1048 = true := by decide +kernel
theorem dL_law__1374 : decode cL_law_ 1374 = .ok (.istore 5, 2) := zdk_g zdb_1048 (i := 0) rfl
theorem dL_law__1376 : decode cL_law_ 1376 = .ok (.aload_n 2, 1) := zdk_g zdb_1048 (i := 1) rfl
theorem dL_law__1377 : decode cL_law_ 1377 = .ok (.aload_n 0, 1) := zdk_g zdb_1048 (i := 2) rfl
theorem dL_law__1378 : decode cL_law_ 1378 = .ok (.iload 4, 2) := zdk_g zdb_1048 (i := 3) rfl
theorem dL_law__1380 : decode cL_law_ 1380 = .ok (.iconst 1, 1) := zdk_g zdb_1048 (i := 4) rfl
theorem dL_law__1381 : decode cL_law_ 1381 = .ok (.iadd, 1) := zdk_g zdb_1048 (i := 5) rfl
theorem dL_law__1382 : decode cL_law_ 1382 = .ok (.iaload, 1) := zdk_g zdb_1048 (i := 6) rfl
theorem dL_law__1383 : decode cL_law_ 1383 = .ok (.invokevirtual 249, 3) := zdk_g zdb_1048 (i := 7) rfl
theorem dL_law__1386 : decode cL_law_ 1386 = .ok (.istore 6, 2) := zdk_g zdb_1048 (i := 8) rfl
theorem dL_law__1388 : decode cL_law_ 1388 = .ok (.goto 471, 3) := zdk_g zdb_1048 (i := 9) rfl
theorem dL_law__1391 : decode cL_law_ 1391 = .ok (.aload_n 1, 1) := zdk_g zdb_1048 (i := 10) rfl
theorem dL_law__1392 : decode cL_law_ 1392 = .ok (.aload_n 0, 1) := zdk_g zdb_1048 (i := 11) rfl
theorem dL_law__1393 : decode cL_law_ 1393 = .ok (.iload 4, 2) := zdk_g zdb_1048 (i := 12) rfl
theorem dL_law__1395 : decode cL_law_ 1395 = .ok (.iconst 1, 1) := zdk_g zdb_1048 (i := 13) rfl
theorem dL_law__1396 : decode cL_law_ 1396 = .ok (.iadd, 1) := zdk_g zdb_1048 (i := 14) rfl
theorem dL_law__1397 : decode cL_law_ 1397 = .ok (.iaload, 1) := zdk_g zdb_1048 (i := 15) rfl
theorem dL_law__1398 : decode cL_law_ 1398 = .ok (.aload_n 0, 1) := zdk_g zdb_1048 (i := 16) rfl
theorem dL_law__1399 : decode cL_law_ 1399 = .ok (.iload 4, 2) := zdk_g zdb_1048 (i := 17) rfl
theorem dL_law__1401 : decode cL_law_ 1401 = .ok (.iconst 2, 1) := zdk_g zdb_1048 (i := 18) rfl
theorem dL_law__1402 : decode cL_law_ 1402 = .ok (.iadd, 1) := zdk_g zdb_1048 (i := 19) rfl
theorem dL_law__1403 : decode cL_law_ 1403 = .ok (.iaload, 1) := zdk_g zdb_1048 (i := 20) rfl
theorem dL_law__1404 : decode cL_law_ 1404 = .ok (.aload_n 3, 1) := zdk_g zdb_1048 (i := 21) rfl
theorem dL_law__1405 : decode cL_law_ 1405 = .ok (.invokestatic 250, 3) := zdk_g zdb_1048 (i := 22) rfl
theorem dL_law__1408 : decode cL_law_ 1408 = .ok (.istore 5, 2) := zdk_g zdb_1048 (i := 23) rfl
theorem dL_law__1410 : decode cL_law_ 1410 = .ok (.aload_n 2, 1) := zdk_g zdb_1048 (i := 24) rfl
theorem dL_law__1411 : decode cL_law_ 1411 = .ok (.aload_n 0, 1) := zdk_g zdb_1048 (i := 25) rfl
theorem dL_law__1412 : decode cL_law_ 1412 = .ok (.iload 4, 2) := zdk_g zdb_1048 (i := 26) rfl
theorem dL_law__1414 : decode cL_law_ 1414 = .ok (.iconst 1, 1) := zdk_g zdb_1048 (i := 27) rfl
theorem dL_law__1415 : decode cL_law_ 1415 = .ok (.iadd, 1) := zdk_g zdb_1048 (i := 28) rfl
theorem dL_law__1416 : decode cL_law_ 1416 = .ok (.iaload, 1) := zdk_g zdb_1048 (i := 29) rfl
theorem dL_law__1417 : decode cL_law_ 1417 = .ok (.aload_n 0, 1) := zdk_g zdb_1048 (i := 30) rfl
theorem dL_law__1418 : decode cL_law_ 1418 = .ok (.iload 4, 2) := zdk_g zdb_1048 (i := 31) rfl
def zdl_1049 : List (Nat × Instr × Nat) := [(1420, .iconst 2, 1), (1421, .iadd, 1), (1422, .iaload, 1), (1423, .invokevirtual 252, 3), (1426, .istore 6, 2), (1428, .goto 431, 3), (1431, .aload_n 1, 1), (1432, .invokevirtual 253, 3), (1435, .pop, 1), (1436, .aload_n 2, 1), (1437, .invokevirtual 256, 3), (1440, .pop, 1), (1441, .goto 418, 3), (1444, .aload_n 1, 1), (1445, .invokevirtual 257, 3), (1448, .pop, 1), (1449, .aload_n 2, 1), (1450, .invokevirtual 260, 3), (1453, .pop, 1), (1454, .goto 405, 3), (1457, .aload_n 1, 1), (1458, .aload_n 0, 1), (1459, .iload 4, 2), (1461, .iconst 1, 1), (1462, .iadd, 1), (1463, .iaload, 1), (1464, .aload_n 0, 1), (1465, .iload 4, 2), (1467, .iconst 2, 1), (1468, .iadd, 1), (1469, .iaload, 1), (1470, .aload_n 3, 1)]
theorem zdb_1049 : zdk cL_law_ zdl_1049 = true := by decide +kernel
theorem dL_law__1420 : decode cL_law_ 1420 = .ok (.iconst 2, 1) := zdk_g zdb_1049 (i := 0) rfl
theorem dL_law__1421 : decode cL_law_ 1421 = .ok (.iadd, 1) := zdk_g zdb_1049 (i := 1) rfl
theorem dL_law__1422 : decode cL_law_ 1422 = .ok (.iaload, 1) := zdk_g zdb_1049 (i := 2) rfl
theorem dL_law__1423 : decode cL_law_ 1423 = .ok (.invokevirtual 252, 3) := zdk_g zdb_1049 (i := 3) rfl
theorem dL_law__1426 : decode cL_law_ 1426 = .ok (.istore 6, 2) := zdk_g zdb_1049 (i := 4) rfl
theorem dL_law__1428 : decode cL_law_ 1428 = .ok (.goto 431, 3) := zdk_g zdb_1049 (i := 5) rfl
theorem dL_law__1431 : decode cL_law_ 1431 = .ok (.aload_n 1, 1) := zdk_g zdb_1049 (i := 6) rfl
theorem dL_law__1432 : decode cL_law_ 1432 = .ok (.invokevirtual 253, 3) := zdk_g zdb_1049 (i := 7) rfl
theorem dL_law__1435 : decode cL_law_ 1435 = .ok (.pop, 1) := zdk_g zdb_1049 (i := 8) rfl
theorem dL_law__1436 : decode cL_law_ 1436 = .ok (.aload_n 2, 1) := zdk_g zdb_1049 (i := 9) rfl
theorem dL_law__1437 : decode cL_law_ 1437 = .ok (.invokevirtual 256, 3) := zdk_g zdb_1049 (i := 10) rfl
theorem dL_law__1440 : decode cL_law_ 1440 = .ok (.pop, 1) := zdk_g zdb_1049 (i := 11) rfl
theorem dL_law__1441 : decode cL_law_ 1441 = .ok (.goto 418, 3) := zdk_g zdb_1049 (i := 12) rfl
theorem dL_law__1444 : decode cL_law_ 1444 = .ok (.aload_n 1, 1) := zdk_g zdb_1049 (i := 13) rfl
theorem dL_law__1445 : decode cL_law_ 1445 = .ok (.invokevirtual 257, 3) := zdk_g zdb_1049 (i := 14) rfl
theorem dL_law__1448 : decode cL_law_ 1448 = .ok (.pop, 1) := zdk_g zdb_1049 (i := 15) rfl
theorem dL_law__1449 : decode cL_law_ 1449 = .ok (.aload_n 2, 1) := zdk_g zdb_1049 (i := 16) rfl
theorem dL_law__1450 : decode cL_law_ 1450 = .ok (.invokevirtual 260, 3) := zdk_g zdb_1049 (i := 17) rfl
theorem dL_law__1453 : decode cL_law_ 1453 = .ok (.pop, 1) := zdk_g zdb_1049 (i := 18) rfl
theorem dL_law__1454 : decode cL_law_ 1454 = .ok (.goto 405, 3) := zdk_g zdb_1049 (i := 19) rfl
theorem dL_law__1457 : decode cL_law_ 1457 = .ok (.aload_n 1, 1) := zdk_g zdb_1049 (i := 20) rfl
theorem dL_law__1458 : decode cL_law_ 1458 = .ok (.aload_n 0, 1) := zdk_g zdb_1049 (i := 21) rfl
theorem dL_law__1459 : decode cL_law_ 1459 = .ok (.iload 4, 2) := zdk_g zdb_1049 (i := 22) rfl
theorem dL_law__1461 : decode cL_law_ 1461 = .ok (.iconst 1, 1) := zdk_g zdb_1049 (i := 23) rfl
theorem dL_law__1462 : decode cL_law_ 1462 = .ok (.iadd, 1) := zdk_g zdb_1049 (i := 24) rfl
theorem dL_law__1463 : decode cL_law_ 1463 = .ok (.iaload, 1) := zdk_g zdb_1049 (i := 25) rfl
theorem dL_law__1464 : decode cL_law_ 1464 = .ok (.aload_n 0, 1) := zdk_g zdb_1049 (i := 26) rfl
theorem dL_law__1465 : decode cL_law_ 1465 = .ok (.iload 4, 2) := zdk_g zdb_1049 (i := 27) rfl
theorem dL_law__1467 : decode cL_law_ 1467 = .ok (.iconst 2, 1) := zdk_g zdb_1049 (i := 28) rfl
theorem dL_law__1468 : decode cL_law_ 1468 = .ok (.iadd, 1) := zdk_g zdb_1049 (i := 29) rfl
theorem dL_law__1469 : decode cL_law_ 1469 = .ok (.iaload, 1) := zdk_g zdb_1049 (i := 30) rfl
theorem dL_law__1470 : decode cL_law_ 1470 = .ok (.aload_n 3, 1) := zdk_g zdb_1049 (i := 31) rfl
def zdl_1050 : List (Nat × Instr × Nat) := [(1471, .invokestatic 261, 3), (1474, .istore 5, 2), (1476, .aload_n 2, 1), (1477, .aload_n 0, 1), (1478, .iload 4, 2), (1480, .iconst 1, 1), (1481, .iadd, 1), (1482, .iaload, 1), (1483, .aload_n 0, 1), (1484, .iload 4, 2), (1486, .iconst 2, 1), (1487, .iadd, 1), (1488, .iaload, 1), (1489, .invokevirtual 263, 3), (1492, .istore 6, 2), (1494, .goto 365, 3), (1497, .aload_n 1, 1), (1498, .invokevirtual 264, 3), (1501, .pop, 1), (1502, .aload_n 2, 1), (1503, .invokevirtual 267, 3), (1506, .pop, 1), (1507, .goto 352, 3), (1510, .aload_n 1, 1), (1511, .invokevirtual 268, 3), (1514, .pop, 1), (1515, .aload_n 2, 1), (1516, .invokevirtual 271, 3), (1519, .pop, 1), (1520, .goto 339, 3), (1523, .aload_n 1, 1), (1524, .aload_n 0, 1)]
theorem zdb_1050 : zdk cL_law_ zdl_1050 = true := by decide +kernel
theorem dL_law__1471 : decode cL_law_ 1471 = .ok (.invokestatic 261, 3) := zdk_g zdb_1050 (i := 0) rfl
theorem dL_law__1474 : decode cL_law_ 1474 = .ok (.istore 5, 2) := zdk_g zdb_1050 (i := 1) rfl
theorem dL_law__1476 : decode cL_law_ 1476 = .ok (.aload_n 2, 1) := zdk_g zdb_1050 (i := 2) rfl
theorem dL_law__1477 : decode cL_law_ 1477 = .ok (.aload_n 0, 1) := zdk_g zdb_1050 (i := 3) rfl
theorem dL_law__1478 : decode cL_law_ 1478 = .ok (.iload 4, 2) := zdk_g zdb_1050 (i := 4) rfl
theorem dL_law__1480 : decode cL_law_ 1480 = .ok (.iconst 1, 1) := zdk_g zdb_1050 (i := 5) rfl
theorem dL_law__1481 : decode cL_law_ 1481 = .ok (.iadd, 1) := zdk_g zdb_1050 (i := 6) rfl
theorem dL_law__1482 : decode cL_law_ 1482 = .ok (.iaload, 1) := zdk_g zdb_1050 (i := 7) rfl
theorem dL_law__1483 : decode cL_law_ 1483 = .ok (.aload_n 0, 1) := zdk_g zdb_1050 (i := 8) rfl
theorem dL_law__1484 : decode cL_law_ 1484 = .ok (.iload 4, 2) := zdk_g zdb_1050 (i := 9) rfl
theorem dL_law__1486 : decode cL_law_ 1486 = .ok (.iconst 2, 1) := zdk_g zdb_1050 (i := 10) rfl
theorem dL_law__1487 : decode cL_law_ 1487 = .ok (.iadd, 1) := zdk_g zdb_1050 (i := 11) rfl
theorem dL_law__1488 : decode cL_law_ 1488 = .ok (.iaload, 1) := zdk_g zdb_1050 (i := 12) rfl
theorem dL_law__1489 : decode cL_law_ 1489 = .ok (.invokevirtual 263, 3) := zdk_g zdb_1050 (i := 13) rfl
theorem dL_law__1492 : decode cL_law_ 1492 = .ok (.istore 6, 2) := zdk_g zdb_1050 (i := 14) rfl
theorem dL_law__1494 : decode cL_law_ 1494 = .ok (.goto 365, 3) := zdk_g zdb_1050 (i := 15) rfl
theorem dL_law__1497 : decode cL_law_ 1497 = .ok (.aload_n 1, 1) := zdk_g zdb_1050 (i := 16) rfl
theorem dL_law__1498 : decode cL_law_ 1498 = .ok (.invokevirtual 264, 3) := zdk_g zdb_1050 (i := 17) rfl
theorem dL_law__1501 : decode cL_law_ 1501 = .ok (.pop, 1) := zdk_g zdb_1050 (i := 18) rfl
theorem dL_law__1502 : decode cL_law_ 1502 = .ok (.aload_n 2, 1) := zdk_g zdb_1050 (i := 19) rfl
theorem dL_law__1503 : decode cL_law_ 1503 = .ok (.invokevirtual 267, 3) := zdk_g zdb_1050 (i := 20) rfl
theorem dL_law__1506 : decode cL_law_ 1506 = .ok (.pop, 1) := zdk_g zdb_1050 (i := 21) rfl
theorem dL_law__1507 : decode cL_law_ 1507 = .ok (.goto 352, 3) := zdk_g zdb_1050 (i := 22) rfl
theorem dL_law__1510 : decode cL_law_ 1510 = .ok (.aload_n 1, 1) := zdk_g zdb_1050 (i := 23) rfl
theorem dL_law__1511 : decode cL_law_ 1511 = .ok (.invokevirtual 268, 3) := zdk_g zdb_1050 (i := 24) rfl
theorem dL_law__1514 : decode cL_law_ 1514 = .ok (.pop, 1) := zdk_g zdb_1050 (i := 25) rfl
theorem dL_law__1515 : decode cL_law_ 1515 = .ok (.aload_n 2, 1) := zdk_g zdb_1050 (i := 26) rfl
theorem dL_law__1516 : decode cL_law_ 1516 = .ok (.invokevirtual 271, 3) := zdk_g zdb_1050 (i := 27) rfl
theorem dL_law__1519 : decode cL_law_ 1519 = .ok (.pop, 1) := zdk_g zdb_1050 (i := 28) rfl
theorem dL_law__1520 : decode cL_law_ 1520 = .ok (.goto 339, 3) := zdk_g zdb_1050 (i := 29) rfl
theorem dL_law__1523 : decode cL_law_ 1523 = .ok (.aload_n 1, 1) := zdk_g zdb_1050 (i := 30) rfl
theorem dL_law__1524 : decode cL_law_ 1524 = .ok (.aload_n 0, 1) := zdk_g zdb_1050 (i := 31) rfl
def zdl_1051 : List (Nat × Instr × Nat) := [(1525, .iload 4, 2), (1527, .iconst 1, 1), (1528, .iadd, 1), (1529, .iaload, 1), (1530, .aload_n 3, 1), (1531, .invokestatic 272, 3), (1534, .istore 5, 2), (1536, .aload_n 2, 1), (1537, .aload_n 0, 1), (1538, .iload 4, 2), (1540, .iconst 1, 1), (1541, .iadd, 1), (1542, .iaload, 1), (1543, .invokevirtual 274, 3), (1546, .istore 6, 2), (1548, .goto 311, 3), (1551, .aload_n 1, 1), (1552, .invokevirtual 275, 3), (1555, .pop, 1), (1556, .aload_n 2, 1), (1557, .invokevirtual 278, 3), (1560, .pop, 1), (1561, .goto 298, 3), (1564, .aload_n 1, 1), (1565, .aload_n 0, 1), (1566, .iload 4, 2), (1568, .iconst 1, 1), (1569, .iadd, 1), (1570, .iaload, 1), (1571, .aload_n 0, 1), (1572, .iload 4, 2), (1574, .iconst 2, 1)]
theorem zdb_1051 : zdk cL_law_ zdl_1051 = true := by decide +kernel
theorem dL_law__1525 : decode cL_law_ 1525 = .ok (.iload 4, 2) := zdk_g zdb_1051 (i := 0) rfl
theorem dL_law__1527 : decode cL_law_ 1527 = .ok (.iconst 1, 1) := zdk_g zdb_1051 (i := 1) rfl
theorem dL_law__1528 : decode cL_law_ 1528 = .ok (.iadd, 1) := zdk_g zdb_1051 (i := 2) rfl
theorem dL_law__1529 : decode cL_law_ 1529 = .ok (.iaload, 1) := zdk_g zdb_1051 (i := 3) rfl
theorem dL_law__1530 : decode cL_law_ 1530 = .ok (.aload_n 3, 1) := zdk_g zdb_1051 (i := 4) rfl
theorem dL_law__1531 : decode cL_law_ 1531 = .ok (.invokestatic 272, 3) := zdk_g zdb_1051 (i := 5) rfl
theorem dL_law__1534 : decode cL_law_ 1534 = .ok (.istore 5, 2) := zdk_g zdb_1051 (i := 6) rfl
theorem dL_law__1536 : decode cL_law_ 1536 = .ok (.aload_n 2, 1) := zdk_g zdb_1051 (i := 7) rfl
theorem dL_law__1537 : decode cL_law_ 1537 = .ok (.aload_n 0, 1) := zdk_g zdb_1051 (i := 8) rfl
theorem dL_law__1538 : decode cL_law_ 1538 = .ok (.iload 4, 2) := zdk_g zdb_1051 (i := 9) rfl
theorem dL_law__1540 : decode cL_law_ 1540 = .ok (.iconst 1, 1) := zdk_g zdb_1051 (i := 10) rfl
theorem dL_law__1541 : decode cL_law_ 1541 = .ok (.iadd, 1) := zdk_g zdb_1051 (i := 11) rfl
theorem dL_law__1542 : decode cL_law_ 1542 = .ok (.iaload, 1) := zdk_g zdb_1051 (i := 12) rfl
theorem dL_law__1543 : decode cL_law_ 1543 = .ok (.invokevirtual 274, 3) := zdk_g zdb_1051 (i := 13) rfl
theorem dL_law__1546 : decode cL_law_ 1546 = .ok (.istore 6, 2) := zdk_g zdb_1051 (i := 14) rfl
theorem dL_law__1548 : decode cL_law_ 1548 = .ok (.goto 311, 3) := zdk_g zdb_1051 (i := 15) rfl
theorem dL_law__1551 : decode cL_law_ 1551 = .ok (.aload_n 1, 1) := zdk_g zdb_1051 (i := 16) rfl
theorem dL_law__1552 : decode cL_law_ 1552 = .ok (.invokevirtual 275, 3) := zdk_g zdb_1051 (i := 17) rfl
theorem dL_law__1555 : decode cL_law_ 1555 = .ok (.pop, 1) := zdk_g zdb_1051 (i := 18) rfl
theorem dL_law__1556 : decode cL_law_ 1556 = .ok (.aload_n 2, 1) := zdk_g zdb_1051 (i := 19) rfl
theorem dL_law__1557 : decode cL_law_ 1557 = .ok (.invokevirtual 278, 3) := zdk_g zdb_1051 (i := 20) rfl
theorem dL_law__1560 : decode cL_law_ 1560 = .ok (.pop, 1) := zdk_g zdb_1051 (i := 21) rfl
theorem dL_law__1561 : decode cL_law_ 1561 = .ok (.goto 298, 3) := zdk_g zdb_1051 (i := 22) rfl
theorem dL_law__1564 : decode cL_law_ 1564 = .ok (.aload_n 1, 1) := zdk_g zdb_1051 (i := 23) rfl
theorem dL_law__1565 : decode cL_law_ 1565 = .ok (.aload_n 0, 1) := zdk_g zdb_1051 (i := 24) rfl
theorem dL_law__1566 : decode cL_law_ 1566 = .ok (.iload 4, 2) := zdk_g zdb_1051 (i := 25) rfl
theorem dL_law__1568 : decode cL_law_ 1568 = .ok (.iconst 1, 1) := zdk_g zdb_1051 (i := 26) rfl
theorem dL_law__1569 : decode cL_law_ 1569 = .ok (.iadd, 1) := zdk_g zdb_1051 (i := 27) rfl
theorem dL_law__1570 : decode cL_law_ 1570 = .ok (.iaload, 1) := zdk_g zdb_1051 (i := 28) rfl
theorem dL_law__1571 : decode cL_law_ 1571 = .ok (.aload_n 0, 1) := zdk_g zdb_1051 (i := 29) rfl
theorem dL_law__1572 : decode cL_law_ 1572 = .ok (.iload 4, 2) := zdk_g zdb_1051 (i := 30) rfl
theorem dL_law__1574 : decode cL_law_ 1574 = .ok (.iconst 2, 1) := zdk_g zdb_1051 (i := 31) rfl
def zdl_1052 : List (Nat × Instr × Nat) := [(1575, .iadd, 1), (1576, .iaload, 1), (1577, .ifCond .eq 7, 3), (1580, .iconst 1, 1), (1581, .goto 4, 3), (1584, .iconst 0, 1), (1585, .aload_n 3, 1), (1586, .invokestatic 279, 3), (1589, .istore 5, 2), (1591, .aload_n 2, 1), (1592, .aload_n 0, 1), (1593, .iload 4, 2), (1595, .iconst 1, 1), (1596, .iadd, 1), (1597, .iaload, 1), (1598, .aload_n 0, 1), (1599, .iload 4, 2), (1601, .iconst 2, 1), (1602, .iadd, 1), (1603, .iaload, 1), (1604, .ifCond .eq 7, 3), (1607, .iconst 1, 1), (1608, .goto 4, 3), (1611, .iconst 0, 1), (1612, .invokevirtual 281, 3), (1615, .istore 6, 2), (1617, .goto 242, 3), (1620, .aload_n 1, 1), (1621, .aload_n 0, 1), (1622, .iload 4, 2), (1624, .iconst 1, 1), (1625, .iadd, 1)]
theorem zdb_1052 : zdk cL_law_ zdl_1052 = true := by decide +kernel
theorem dL_law__1575 : decode cL_law_ 1575 = .ok (.iadd, 1) := zdk_g zdb_1052 (i := 0) rfl
theorem dL_law__1576 : decode cL_law_ 1576 = .ok (.iaload, 1) := zdk_g zdb_1052 (i := 1) rfl
theorem dL_law__1577 : decode cL_law_ 1577 = .ok (.ifCond .eq 7, 3) := zdk_g zdb_1052 (i := 2) rfl
theorem dL_law__1580 : decode cL_law_ 1580 = .ok (.iconst 1, 1) := zdk_g zdb_1052 (i := 3) rfl
theorem dL_law__1581 : decode cL_law_ 1581 = .ok (.goto 4, 3) := zdk_g zdb_1052 (i := 4) rfl
theorem dL_law__1584 : decode cL_law_ 1584 = .ok (.iconst 0, 1) := zdk_g zdb_1052 (i := 5) rfl
theorem dL_law__1585 : decode cL_law_ 1585 = .ok (.aload_n 3, 1) := zdk_g zdb_1052 (i := 6) rfl
theorem dL_law__1586 : decode cL_law_ 1586 = .ok (.invokestatic 279, 3) := zdk_g zdb_1052 (i := 7) rfl
theorem dL_law__1589 : decode cL_law_ 1589 = .ok (.istore 5, 2) := zdk_g zdb_1052 (i := 8) rfl
theorem dL_law__1591 : decode cL_law_ 1591 = .ok (.aload_n 2, 1) := zdk_g zdb_1052 (i := 9) rfl
theorem dL_law__1592 : decode cL_law_ 1592 = .ok (.aload_n 0, 1) := zdk_g zdb_1052 (i := 10) rfl
theorem dL_law__1593 : decode cL_law_ 1593 = .ok (.iload 4, 2) := zdk_g zdb_1052 (i := 11) rfl
theorem dL_law__1595 : decode cL_law_ 1595 = .ok (.iconst 1, 1) := zdk_g zdb_1052 (i := 12) rfl
theorem dL_law__1596 : decode cL_law_ 1596 = .ok (.iadd, 1) := zdk_g zdb_1052 (i := 13) rfl
theorem dL_law__1597 : decode cL_law_ 1597 = .ok (.iaload, 1) := zdk_g zdb_1052 (i := 14) rfl
theorem dL_law__1598 : decode cL_law_ 1598 = .ok (.aload_n 0, 1) := zdk_g zdb_1052 (i := 15) rfl
theorem dL_law__1599 : decode cL_law_ 1599 = .ok (.iload 4, 2) := zdk_g zdb_1052 (i := 16) rfl
theorem dL_law__1601 : decode cL_law_ 1601 = .ok (.iconst 2, 1) := zdk_g zdb_1052 (i := 17) rfl
theorem dL_law__1602 : decode cL_law_ 1602 = .ok (.iadd, 1) := zdk_g zdb_1052 (i := 18) rfl
theorem dL_law__1603 : decode cL_law_ 1603 = .ok (.iaload, 1) := zdk_g zdb_1052 (i := 19) rfl
theorem dL_law__1604 : decode cL_law_ 1604 = .ok (.ifCond .eq 7, 3) := zdk_g zdb_1052 (i := 20) rfl
theorem dL_law__1607 : decode cL_law_ 1607 = .ok (.iconst 1, 1) := zdk_g zdb_1052 (i := 21) rfl
theorem dL_law__1608 : decode cL_law_ 1608 = .ok (.goto 4, 3) := zdk_g zdb_1052 (i := 22) rfl
theorem dL_law__1611 : decode cL_law_ 1611 = .ok (.iconst 0, 1) := zdk_g zdb_1052 (i := 23) rfl
theorem dL_law__1612 : decode cL_law_ 1612 = .ok (.invokevirtual 281, 3) := zdk_g zdb_1052 (i := 24) rfl
theorem dL_law__1615 : decode cL_law_ 1615 = .ok (.istore 6, 2) := zdk_g zdb_1052 (i := 25) rfl
theorem dL_law__1617 : decode cL_law_ 1617 = .ok (.goto 242, 3) := zdk_g zdb_1052 (i := 26) rfl
theorem dL_law__1620 : decode cL_law_ 1620 = .ok (.aload_n 1, 1) := zdk_g zdb_1052 (i := 27) rfl
theorem dL_law__1621 : decode cL_law_ 1621 = .ok (.aload_n 0, 1) := zdk_g zdb_1052 (i := 28) rfl
theorem dL_law__1622 : decode cL_law_ 1622 = .ok (.iload 4, 2) := zdk_g zdb_1052 (i := 29) rfl
theorem dL_law__1624 : decode cL_law_ 1624 = .ok (.iconst 1, 1) := zdk_g zdb_1052 (i := 30) rfl
theorem dL_law__1625 : decode cL_law_ 1625 = .ok (.iadd, 1) := zdk_g zdb_1052 (i := 31) rfl
def zdl_1053 : List (Nat × Instr × Nat) := [(1626, .iaload, 1), (1627, .aload_n 0, 1), (1628, .iload 4, 2), (1630, .iconst 2, 1), (1631, .iadd, 1), (1632, .iaload, 1), (1633, .ifCond .eq 7, 3), (1636, .iconst 1, 1), (1637, .goto 4, 3), (1640, .iconst 0, 1), (1641, .aload_n 3, 1), (1642, .invokestatic 282, 3), (1645, .istore 5, 2), (1647, .aload_n 2, 1), (1648, .aload_n 0, 1), (1649, .iload 4, 2), (1651, .iconst 1, 1), (1652, .iadd, 1), (1653, .iaload, 1), (1654, .aload_n 0, 1), (1655, .iload 4, 2), (1657, .iconst 2, 1), (1658, .iadd, 1), (1659, .iaload, 1), (1660, .ifCond .eq 7, 3), (1663, .iconst 1, 1), (1664, .goto 4, 3), (1667, .iconst 0, 1), (1668, .invokevirtual 284, 3), (1671, .istore 6, 2), (1673, .goto 186, 3), (1676, .aload_n 1, 1)]
theorem zdb_1053 : zdk cL_law_ zdl_1053 = true := by decide +kernel
theorem dL_law__1626 : decode cL_law_ 1626 = .ok (.iaload, 1) := zdk_g zdb_1053 (i := 0) rfl
theorem dL_law__1627 : decode cL_law_ 1627 = .ok (.aload_n 0, 1) := zdk_g zdb_1053 (i := 1) rfl
theorem dL_law__1628 : decode cL_law_ 1628 = .ok (.iload 4, 2) := zdk_g zdb_1053 (i := 2) rfl
theorem dL_law__1630 : decode cL_law_ 1630 = .ok (.iconst 2, 1) := zdk_g zdb_1053 (i := 3) rfl
theorem dL_law__1631 : decode cL_law_ 1631 = .ok (.iadd, 1) := zdk_g zdb_1053 (i := 4) rfl
theorem dL_law__1632 : decode cL_law_ 1632 = .ok (.iaload, 1) := zdk_g zdb_1053 (i := 5) rfl
theorem dL_law__1633 : decode cL_law_ 1633 = .ok (.ifCond .eq 7, 3) := zdk_g zdb_1053 (i := 6) rfl
theorem dL_law__1636 : decode cL_law_ 1636 = .ok (.iconst 1, 1) := zdk_g zdb_1053 (i := 7) rfl
theorem dL_law__1637 : decode cL_law_ 1637 = .ok (.goto 4, 3) := zdk_g zdb_1053 (i := 8) rfl
theorem dL_law__1640 : decode cL_law_ 1640 = .ok (.iconst 0, 1) := zdk_g zdb_1053 (i := 9) rfl
theorem dL_law__1641 : decode cL_law_ 1641 = .ok (.aload_n 3, 1) := zdk_g zdb_1053 (i := 10) rfl
theorem dL_law__1642 : decode cL_law_ 1642 = .ok (.invokestatic 282, 3) := zdk_g zdb_1053 (i := 11) rfl
theorem dL_law__1645 : decode cL_law_ 1645 = .ok (.istore 5, 2) := zdk_g zdb_1053 (i := 12) rfl
theorem dL_law__1647 : decode cL_law_ 1647 = .ok (.aload_n 2, 1) := zdk_g zdb_1053 (i := 13) rfl
theorem dL_law__1648 : decode cL_law_ 1648 = .ok (.aload_n 0, 1) := zdk_g zdb_1053 (i := 14) rfl
theorem dL_law__1649 : decode cL_law_ 1649 = .ok (.iload 4, 2) := zdk_g zdb_1053 (i := 15) rfl
theorem dL_law__1651 : decode cL_law_ 1651 = .ok (.iconst 1, 1) := zdk_g zdb_1053 (i := 16) rfl
theorem dL_law__1652 : decode cL_law_ 1652 = .ok (.iadd, 1) := zdk_g zdb_1053 (i := 17) rfl
theorem dL_law__1653 : decode cL_law_ 1653 = .ok (.iaload, 1) := zdk_g zdb_1053 (i := 18) rfl
theorem dL_law__1654 : decode cL_law_ 1654 = .ok (.aload_n 0, 1) := zdk_g zdb_1053 (i := 19) rfl
theorem dL_law__1655 : decode cL_law_ 1655 = .ok (.iload 4, 2) := zdk_g zdb_1053 (i := 20) rfl
theorem dL_law__1657 : decode cL_law_ 1657 = .ok (.iconst 2, 1) := zdk_g zdb_1053 (i := 21) rfl
theorem dL_law__1658 : decode cL_law_ 1658 = .ok (.iadd, 1) := zdk_g zdb_1053 (i := 22) rfl
theorem dL_law__1659 : decode cL_law_ 1659 = .ok (.iaload, 1) := zdk_g zdb_1053 (i := 23) rfl
theorem dL_law__1660 : decode cL_law_ 1660 = .ok (.ifCond .eq 7, 3) := zdk_g zdb_1053 (i := 24) rfl
theorem dL_law__1663 : decode cL_law_ 1663 = .ok (.iconst 1, 1) := zdk_g zdb_1053 (i := 25) rfl
theorem dL_law__1664 : decode cL_law_ 1664 = .ok (.goto 4, 3) := zdk_g zdb_1053 (i := 26) rfl
theorem dL_law__1667 : decode cL_law_ 1667 = .ok (.iconst 0, 1) := zdk_g zdb_1053 (i := 27) rfl
theorem dL_law__1668 : decode cL_law_ 1668 = .ok (.invokevirtual 284, 3) := zdk_g zdb_1053 (i := 28) rfl
theorem dL_law__1671 : decode cL_law_ 1671 = .ok (.istore 6, 2) := zdk_g zdb_1053 (i := 29) rfl
theorem dL_law__1673 : decode cL_law_ 1673 = .ok (.goto 186, 3) := zdk_g zdb_1053 (i := 30) rfl
theorem dL_law__1676 : decode cL_law_ 1676 = .ok (.aload_n 1, 1) := zdk_g zdb_1053 (i := 31) rfl
def zdl_1054 : List (Nat × Instr × Nat) := [(1677, .aload_n 0, 1), (1678, .iload 4, 2), (1680, .iconst 1, 1), (1681, .iadd, 1), (1682, .iaload, 1), (1683, .aload_n 0, 1), (1684, .iload 4, 2), (1686, .iconst 2, 1), (1687, .iadd, 1), (1688, .iaload, 1), (1689, .ifCond .eq 7, 3), (1692, .iconst 1, 1), (1693, .goto 4, 3), (1696, .iconst 0, 1), (1697, .aload_n 3, 1), (1698, .invokestatic 285, 3), (1701, .istore 5, 2), (1703, .aload_n 2, 1), (1704, .aload_n 0, 1), (1705, .iload 4, 2), (1707, .iconst 1, 1), (1708, .iadd, 1), (1709, .iaload, 1), (1710, .aload_n 0, 1), (1711, .iload 4, 2), (1713, .iconst 2, 1), (1714, .iadd, 1), (1715, .iaload, 1), (1716, .ifCond .eq 7, 3), (1719, .iconst 1, 1), (1720, .goto 4, 3), (1723, .iconst 0, 1)]
theorem zdb_1054 : zdk cL_law_ zdl_1054 = true := by decide +kernel
theorem dL_law__1677 : decode cL_law_ 1677 = .ok (.aload_n 0, 1) := zdk_g zdb_1054 (i := 0) rfl
theorem dL_law__1678 : decode cL_law_ 1678 = .ok (.iload 4, 2) := zdk_g zdb_1054 (i := 1) rfl
theorem dL_law__1680 : decode cL_law_ 1680 = .ok (.iconst 1, 1) := zdk_g zdb_1054 (i := 2) rfl
theorem dL_law__1681 : decode cL_law_ 1681 = .ok (.iadd, 1) := zdk_g zdb_1054 (i := 3) rfl
theorem dL_law__1682 : decode cL_law_ 1682 = .ok (.iaload, 1) := zdk_g zdb_1054 (i := 4) rfl
theorem dL_law__1683 : decode cL_law_ 1683 = .ok (.aload_n 0, 1) := zdk_g zdb_1054 (i := 5) rfl
theorem dL_law__1684 : decode cL_law_ 1684 = .ok (.iload 4, 2) := zdk_g zdb_1054 (i := 6) rfl
theorem dL_law__1686 : decode cL_law_ 1686 = .ok (.iconst 2, 1) := zdk_g zdb_1054 (i := 7) rfl
theorem dL_law__1687 : decode cL_law_ 1687 = .ok (.iadd, 1) := zdk_g zdb_1054 (i := 8) rfl
theorem dL_law__1688 : decode cL_law_ 1688 = .ok (.iaload, 1) := zdk_g zdb_1054 (i := 9) rfl
theorem dL_law__1689 : decode cL_law_ 1689 = .ok (.ifCond .eq 7, 3) := zdk_g zdb_1054 (i := 10) rfl
theorem dL_law__1692 : decode cL_law_ 1692 = .ok (.iconst 1, 1) := zdk_g zdb_1054 (i := 11) rfl
theorem dL_law__1693 : decode cL_law_ 1693 = .ok (.goto 4, 3) := zdk_g zdb_1054 (i := 12) rfl
theorem dL_law__1696 : decode cL_law_ 1696 = .ok (.iconst 0, 1) := zdk_g zdb_1054 (i := 13) rfl
theorem dL_law__1697 : decode cL_law_ 1697 = .ok (.aload_n 3, 1) := zdk_g zdb_1054 (i := 14) rfl
theorem dL_law__1698 : decode cL_law_ 1698 = .ok (.invokestatic 285, 3) := zdk_g zdb_1054 (i := 15) rfl
theorem dL_law__1701 : decode cL_law_ 1701 = .ok (.istore 5, 2) := zdk_g zdb_1054 (i := 16) rfl
theorem dL_law__1703 : decode cL_law_ 1703 = .ok (.aload_n 2, 1) := zdk_g zdb_1054 (i := 17) rfl
theorem dL_law__1704 : decode cL_law_ 1704 = .ok (.aload_n 0, 1) := zdk_g zdb_1054 (i := 18) rfl
theorem dL_law__1705 : decode cL_law_ 1705 = .ok (.iload 4, 2) := zdk_g zdb_1054 (i := 19) rfl
theorem dL_law__1707 : decode cL_law_ 1707 = .ok (.iconst 1, 1) := zdk_g zdb_1054 (i := 20) rfl
theorem dL_law__1708 : decode cL_law_ 1708 = .ok (.iadd, 1) := zdk_g zdb_1054 (i := 21) rfl
theorem dL_law__1709 : decode cL_law_ 1709 = .ok (.iaload, 1) := zdk_g zdb_1054 (i := 22) rfl
theorem dL_law__1710 : decode cL_law_ 1710 = .ok (.aload_n 0, 1) := zdk_g zdb_1054 (i := 23) rfl
theorem dL_law__1711 : decode cL_law_ 1711 = .ok (.iload 4, 2) := zdk_g zdb_1054 (i := 24) rfl
theorem dL_law__1713 : decode cL_law_ 1713 = .ok (.iconst 2, 1) := zdk_g zdb_1054 (i := 25) rfl
theorem dL_law__1714 : decode cL_law_ 1714 = .ok (.iadd, 1) := zdk_g zdb_1054 (i := 26) rfl
theorem dL_law__1715 : decode cL_law_ 1715 = .ok (.iaload, 1) := zdk_g zdb_1054 (i := 27) rfl
theorem dL_law__1716 : decode cL_law_ 1716 = .ok (.ifCond .eq 7, 3) := zdk_g zdb_1054 (i := 28) rfl
theorem dL_law__1719 : decode cL_law_ 1719 = .ok (.iconst 1, 1) := zdk_g zdb_1054 (i := 29) rfl
theorem dL_law__1720 : decode cL_law_ 1720 = .ok (.goto 4, 3) := zdk_g zdb_1054 (i := 30) rfl
theorem dL_law__1723 : decode cL_law_ 1723 = .ok (.iconst 0, 1) := zdk_g zdb_1054 (i := 31) rfl
def zdl_1055 : List (Nat × Instr × Nat) := [(1724, .invokevirtual 287, 3), (1727, .istore 6, 2), (1729, .goto 130, 3), (1732, .aload_n 1, 1), (1733, .aload_n 0, 1), (1734, .iload 4, 2), (1736, .iconst 1, 1), (1737, .iadd, 1), (1738, .iaload, 1), (1739, .aload_n 0, 1), (1740, .iload 4, 2), (1742, .iconst 2, 1), (1743, .iadd, 1), (1744, .iaload, 1), (1745, .aload_n 3, 1), (1746, .invokestatic 288, 3), (1749, .istore 5, 2), (1751, .aload_n 2, 1), (1752, .aload_n 0, 1), (1753, .iload 4, 2), (1755, .iconst 1, 1), (1756, .iadd, 1), (1757, .iaload, 1), (1758, .aload_n 0, 1), (1759, .iload 4, 2), (1761, .iconst 2, 1), (1762, .iadd, 1), (1763, .iaload, 1), (1764, .invokevirtual 290, 3), (1767, .istore 6, 2), (1769, .goto 90, 3), (1772, .aload_n 1, 1)]
theorem zdb_1055 : zdk cL_law_ zdl_1055 = true := by decide +kernel
theorem dL_law__1724 : decode cL_law_ 1724 = .ok (.invokevirtual 287, 3) := zdk_g zdb_1055 (i := 0) rfl
theorem dL_law__1727 : decode cL_law_ 1727 = .ok (.istore 6, 2) := zdk_g zdb_1055 (i := 1) rfl
theorem dL_law__1729 : decode cL_law_ 1729 = .ok (.goto 130, 3) := zdk_g zdb_1055 (i := 2) rfl
theorem dL_law__1732 : decode cL_law_ 1732 = .ok (.aload_n 1, 1) := zdk_g zdb_1055 (i := 3) rfl
theorem dL_law__1733 : decode cL_law_ 1733 = .ok (.aload_n 0, 1) := zdk_g zdb_1055 (i := 4) rfl
theorem dL_law__1734 : decode cL_law_ 1734 = .ok (.iload 4, 2) := zdk_g zdb_1055 (i := 5) rfl
theorem dL_law__1736 : decode cL_law_ 1736 = .ok (.iconst 1, 1) := zdk_g zdb_1055 (i := 6) rfl
theorem dL_law__1737 : decode cL_law_ 1737 = .ok (.iadd, 1) := zdk_g zdb_1055 (i := 7) rfl
theorem dL_law__1738 : decode cL_law_ 1738 = .ok (.iaload, 1) := zdk_g zdb_1055 (i := 8) rfl
theorem dL_law__1739 : decode cL_law_ 1739 = .ok (.aload_n 0, 1) := zdk_g zdb_1055 (i := 9) rfl
theorem dL_law__1740 : decode cL_law_ 1740 = .ok (.iload 4, 2) := zdk_g zdb_1055 (i := 10) rfl
theorem dL_law__1742 : decode cL_law_ 1742 = .ok (.iconst 2, 1) := zdk_g zdb_1055 (i := 11) rfl
theorem dL_law__1743 : decode cL_law_ 1743 = .ok (.iadd, 1) := zdk_g zdb_1055 (i := 12) rfl
theorem dL_law__1744 : decode cL_law_ 1744 = .ok (.iaload, 1) := zdk_g zdb_1055 (i := 13) rfl
theorem dL_law__1745 : decode cL_law_ 1745 = .ok (.aload_n 3, 1) := zdk_g zdb_1055 (i := 14) rfl
theorem dL_law__1746 : decode cL_law_ 1746 = .ok (.invokestatic 288, 3) := zdk_g zdb_1055 (i := 15) rfl
theorem dL_law__1749 : decode cL_law_ 1749 = .ok (.istore 5, 2) := zdk_g zdb_1055 (i := 16) rfl
theorem dL_law__1751 : decode cL_law_ 1751 = .ok (.aload_n 2, 1) := zdk_g zdb_1055 (i := 17) rfl
theorem dL_law__1752 : decode cL_law_ 1752 = .ok (.aload_n 0, 1) := zdk_g zdb_1055 (i := 18) rfl
theorem dL_law__1753 : decode cL_law_ 1753 = .ok (.iload 4, 2) := zdk_g zdb_1055 (i := 19) rfl
theorem dL_law__1755 : decode cL_law_ 1755 = .ok (.iconst 1, 1) := zdk_g zdb_1055 (i := 20) rfl
theorem dL_law__1756 : decode cL_law_ 1756 = .ok (.iadd, 1) := zdk_g zdb_1055 (i := 21) rfl
theorem dL_law__1757 : decode cL_law_ 1757 = .ok (.iaload, 1) := zdk_g zdb_1055 (i := 22) rfl
theorem dL_law__1758 : decode cL_law_ 1758 = .ok (.aload_n 0, 1) := zdk_g zdb_1055 (i := 23) rfl
theorem dL_law__1759 : decode cL_law_ 1759 = .ok (.iload 4, 2) := zdk_g zdb_1055 (i := 24) rfl
theorem dL_law__1761 : decode cL_law_ 1761 = .ok (.iconst 2, 1) := zdk_g zdb_1055 (i := 25) rfl
theorem dL_law__1762 : decode cL_law_ 1762 = .ok (.iadd, 1) := zdk_g zdb_1055 (i := 26) rfl
theorem dL_law__1763 : decode cL_law_ 1763 = .ok (.iaload, 1) := zdk_g zdb_1055 (i := 27) rfl
theorem dL_law__1764 : decode cL_law_ 1764 = .ok (.invokevirtual 290, 3) := zdk_g zdb_1055 (i := 28) rfl
theorem dL_law__1767 : decode cL_law_ 1767 = .ok (.istore 6, 2) := zdk_g zdb_1055 (i := 29) rfl
theorem dL_law__1769 : decode cL_law_ 1769 = .ok (.goto 90, 3) := zdk_g zdb_1055 (i := 30) rfl
theorem dL_law__1772 : decode cL_law_ 1772 = .ok (.aload_n 1, 1) := zdk_g zdb_1055 (i := 31) rfl
def zdl_1056 : List (Nat × Instr × Nat) := [(1773, .aload_n 0, 1), (1774, .iload 4, 2), (1776, .iconst 1, 1), (1777, .iadd, 1), (1778, .iaload, 1), (1779, .invokevirtual 291, 3), (1782, .pop, 1), (1783, .aload_n 2, 1), (1784, .aload_n 0, 1), (1785, .iload 4, 2), (1787, .iconst 1, 1), (1788, .iadd, 1), (1789, .iaload, 1), (1790, .invokevirtual 294, 3), (1793, .pop, 1), (1794, .goto 65, 3), (1797, .aload_n 1, 1), (1798, .invokevirtual 295, 3), (1801, .pop, 1), (1802, .aload_n 2, 1), (1803, .invokevirtual 299, 3), (1806, .pop, 1), (1807, .goto 52, 3), (1810, .aload_n 1, 1), (1811, .invokevirtual 300, 3), (1814, .aload_n 2, 1), (1815, .invokevirtual 303, 3), (1818, .goto 41, 3), (1821, .aload_n 1, 1), (1822, .invokevirtual 304, 3), (1825, .pop, 1), (1826, .aload_n 2, 1)]
theorem zdb_1056 : zdk cL_law_ zdl_1056 = true := by decide +kernel
theorem dL_law__1773 : decode cL_law_ 1773 = .ok (.aload_n 0, 1) := zdk_g zdb_1056 (i := 0) rfl
theorem dL_law__1774 : decode cL_law_ 1774 = .ok (.iload 4, 2) := zdk_g zdb_1056 (i := 1) rfl
theorem dL_law__1776 : decode cL_law_ 1776 = .ok (.iconst 1, 1) := zdk_g zdb_1056 (i := 2) rfl
theorem dL_law__1777 : decode cL_law_ 1777 = .ok (.iadd, 1) := zdk_g zdb_1056 (i := 3) rfl
theorem dL_law__1778 : decode cL_law_ 1778 = .ok (.iaload, 1) := zdk_g zdb_1056 (i := 4) rfl
theorem dL_law__1779 : decode cL_law_ 1779 = .ok (.invokevirtual 291, 3) := zdk_g zdb_1056 (i := 5) rfl
theorem dL_law__1782 : decode cL_law_ 1782 = .ok (.pop, 1) := zdk_g zdb_1056 (i := 6) rfl
theorem dL_law__1783 : decode cL_law_ 1783 = .ok (.aload_n 2, 1) := zdk_g zdb_1056 (i := 7) rfl
theorem dL_law__1784 : decode cL_law_ 1784 = .ok (.aload_n 0, 1) := zdk_g zdb_1056 (i := 8) rfl
theorem dL_law__1785 : decode cL_law_ 1785 = .ok (.iload 4, 2) := zdk_g zdb_1056 (i := 9) rfl
theorem dL_law__1787 : decode cL_law_ 1787 = .ok (.iconst 1, 1) := zdk_g zdb_1056 (i := 10) rfl
theorem dL_law__1788 : decode cL_law_ 1788 = .ok (.iadd, 1) := zdk_g zdb_1056 (i := 11) rfl
theorem dL_law__1789 : decode cL_law_ 1789 = .ok (.iaload, 1) := zdk_g zdb_1056 (i := 12) rfl
theorem dL_law__1790 : decode cL_law_ 1790 = .ok (.invokevirtual 294, 3) := zdk_g zdb_1056 (i := 13) rfl
theorem dL_law__1793 : decode cL_law_ 1793 = .ok (.pop, 1) := zdk_g zdb_1056 (i := 14) rfl
theorem dL_law__1794 : decode cL_law_ 1794 = .ok (.goto 65, 3) := zdk_g zdb_1056 (i := 15) rfl
theorem dL_law__1797 : decode cL_law_ 1797 = .ok (.aload_n 1, 1) := zdk_g zdb_1056 (i := 16) rfl
theorem dL_law__1798 : decode cL_law_ 1798 = .ok (.invokevirtual 295, 3) := zdk_g zdb_1056 (i := 17) rfl
theorem dL_law__1801 : decode cL_law_ 1801 = .ok (.pop, 1) := zdk_g zdb_1056 (i := 18) rfl
theorem dL_law__1802 : decode cL_law_ 1802 = .ok (.aload_n 2, 1) := zdk_g zdb_1056 (i := 19) rfl
theorem dL_law__1803 : decode cL_law_ 1803 = .ok (.invokevirtual 299, 3) := zdk_g zdb_1056 (i := 20) rfl
theorem dL_law__1806 : decode cL_law_ 1806 = .ok (.pop, 1) := zdk_g zdb_1056 (i := 21) rfl
theorem dL_law__1807 : decode cL_law_ 1807 = .ok (.goto 52, 3) := zdk_g zdb_1056 (i := 22) rfl
theorem dL_law__1810 : decode cL_law_ 1810 = .ok (.aload_n 1, 1) := zdk_g zdb_1056 (i := 23) rfl
theorem dL_law__1811 : decode cL_law_ 1811 = .ok (.invokevirtual 300, 3) := zdk_g zdb_1056 (i := 24) rfl
theorem dL_law__1814 : decode cL_law_ 1814 = .ok (.aload_n 2, 1) := zdk_g zdb_1056 (i := 25) rfl
theorem dL_law__1815 : decode cL_law_ 1815 = .ok (.invokevirtual 303, 3) := zdk_g zdb_1056 (i := 26) rfl
theorem dL_law__1818 : decode cL_law_ 1818 = .ok (.goto 41, 3) := zdk_g zdb_1056 (i := 27) rfl
theorem dL_law__1821 : decode cL_law_ 1821 = .ok (.aload_n 1, 1) := zdk_g zdb_1056 (i := 28) rfl
theorem dL_law__1822 : decode cL_law_ 1822 = .ok (.invokevirtual 304, 3) := zdk_g zdb_1056 (i := 29) rfl
theorem dL_law__1825 : decode cL_law_ 1825 = .ok (.pop, 1) := zdk_g zdb_1056 (i := 30) rfl
theorem dL_law__1826 : decode cL_law_ 1826 = .ok (.aload_n 2, 1) := zdk_g zdb_1056 (i := 31) rfl
def zdl_1057 : List (Nat × Instr × Nat) := [(1827, .invokevirtual 307, 3), (1830, .pop, 1), (1831, .goto 28, 3), (1834, .aload_n 1, 1), (1835, .aload_n 0, 1), (1836, .iload 4, 2), (1838, .iconst 1, 1), (1839, .iadd, 1), (1840, .iaload, 1), (1841, .invokevirtual 308, 3), (1844, .pop, 1), (1845, .aload_n 2, 1), (1846, .aload_n 0, 1), (1847, .iload 4, 2), (1849, .iconst 1, 1), (1850, .iadd, 1), (1851, .iaload, 1), (1852, .invokevirtual 311, 3), (1855, .pop, 1), (1856, .goto 3, 3), (1859, .iinc 4 6, 3), (1862, .goto (-1839), 3), (1865, .iconst 1, 1), (1866, .ireturn, 1)]
theorem zdb_1057 : zdk cL_law_ zdl_1057 = true := by decide +kernel
theorem dL_law__1827 : decode cL_law_ 1827 = .ok (.invokevirtual 307, 3) := zdk_g zdb_1057 (i := 0) rfl
theorem dL_law__1830 : decode cL_law_ 1830 = .ok (.pop, 1) := zdk_g zdb_1057 (i := 1) rfl
theorem dL_law__1831 : decode cL_law_ 1831 = .ok (.goto 28, 3) := zdk_g zdb_1057 (i := 2) rfl
theorem dL_law__1834 : decode cL_law_ 1834 = .ok (.aload_n 1, 1) := zdk_g zdb_1057 (i := 3) rfl
theorem dL_law__1835 : decode cL_law_ 1835 = .ok (.aload_n 0, 1) := zdk_g zdb_1057 (i := 4) rfl
theorem dL_law__1836 : decode cL_law_ 1836 = .ok (.iload 4, 2) := zdk_g zdb_1057 (i := 5) rfl
theorem dL_law__1838 : decode cL_law_ 1838 = .ok (.iconst 1, 1) := zdk_g zdb_1057 (i := 6) rfl
theorem dL_law__1839 : decode cL_law_ 1839 = .ok (.iadd, 1) := zdk_g zdb_1057 (i := 7) rfl
theorem dL_law__1840 : decode cL_law_ 1840 = .ok (.iaload, 1) := zdk_g zdb_1057 (i := 8) rfl
theorem dL_law__1841 : decode cL_law_ 1841 = .ok (.invokevirtual 308, 3) := zdk_g zdb_1057 (i := 9) rfl
theorem dL_law__1844 : decode cL_law_ 1844 = .ok (.pop, 1) := zdk_g zdb_1057 (i := 10) rfl
theorem dL_law__1845 : decode cL_law_ 1845 = .ok (.aload_n 2, 1) := zdk_g zdb_1057 (i := 11) rfl
theorem dL_law__1846 : decode cL_law_ 1846 = .ok (.aload_n 0, 1) := zdk_g zdb_1057 (i := 12) rfl
theorem dL_law__1847 : decode cL_law_ 1847 = .ok (.iload 4, 2) := zdk_g zdb_1057 (i := 13) rfl
theorem dL_law__1849 : decode cL_law_ 1849 = .ok (.iconst 1, 1) := zdk_g zdb_1057 (i := 14) rfl
theorem dL_law__1850 : decode cL_law_ 1850 = .ok (.iadd, 1) := zdk_g zdb_1057 (i := 15) rfl
theorem dL_law__1851 : decode cL_law_ 1851 = .ok (.iaload, 1) := zdk_g zdb_1057 (i := 16) rfl
theorem dL_law__1852 : decode cL_law_ 1852 = .ok (.invokevirtual 311, 3) := zdk_g zdb_1057 (i := 17) rfl
theorem dL_law__1855 : decode cL_law_ 1855 = .ok (.pop, 1) := zdk_g zdb_1057 (i := 18) rfl
theorem dL_law__1856 : decode cL_law_ 1856 = .ok (.goto 3, 3) := zdk_g zdb_1057 (i := 19) rfl
theorem dL_law__1859 : decode cL_law_ 1859 = .ok (.iinc 4 6, 3) := zdk_g zdb_1057 (i := 20) rfl
theorem dL_law__1862 : decode cL_law_ 1862 = .ok (.goto (-1839), 3) := zdk_g zdb_1057 (i := 21) rfl
theorem dL_law__1865 : decode cL_law_ 1865 = .ok (.iconst 1, 1) := zdk_g zdb_1057 (i := 22) rfl
theorem dL_law__1866 : decode cL_law_ 1866 = .ok (.ireturn, 1) := zdk_g zdb_1057 (i := 23) rfl
