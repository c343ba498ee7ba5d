def zdl_1041 : List (Nat × Instr × Nat) := [(997, .iconst 1, 1), (998, .iadd, 1), (999, .iaload, 1), (1000, .aload_n 0, 1), (1001, .iload 4, 2), (1003, .iconst 2, 1), (1004, .iadd, 1), (1005, .iaload, 1), (1006, .aload_n 3, 1), (1007, .invokestatic 207, 3), (1010, .istore 5, 2), (1012, .aload_n 2, 1), (1013, .aload_n 0, 1), (1014, .iload 4, 2), (1016, .iconst 1, 1), (1017, .iadd, 1), (1018, .iaload, 1), (1019, .aload_n 0, 1), (1020, .iload 4, 2), (1022, .iconst 2, 1), (1023, .iadd, 1), (1024, .iaload, 1), (1025, .invokevirtual 209, 3), (1028, .istore 6, 2), (1030, .goto 794, 3), (1033, .aload_n 1, 1), (1034, .aload_n 0, 1), (1035, .iload 4, 2), (1037, .iconst 1, 1), (1038, .iadd, 1), (1039, .iaload, 1), (1040, .aload_n 3, 1)]
theorem zdb_1041 : zdk cL_law_ zdl_1041 = true := by decide +kernel
theorem dL_law__997 : decode cL_law_ 997 = .ok (.iconst 1, 1) := zdk_g zdb_1041 (i := 0) rfl
theorem dL_law__998 : decode cL_law_ 998 = .ok (.iadd, 1) := zdk_g zdb_1041 (i := 1) rfl
theorem dL_law__999 : decode cL_law_ 999 = .ok (.iaload, 1) := zdk_g zdb_1041 (i := 2) rfl
theorem dL_law__1000 : decode cL_law_ 1000 = .ok (.aload_n 0, 1) := zdk_g zdb_1041 (i := 3) rfl
theorem dL_law__1001 : decode cL_law_ 1001 = .ok (.iload 4, 2) := zdk_g zdb_1041 (i := 4) rfl
theorem dL_law__1003 : decode cL_law_ 1003 = .ok (.iconst 2, 1) := zdk_g zdb_1041 (i := 5) rfl
theorem dL_law__1004 : decode cL_law_ 1004 = .ok (.iadd, 1) := zdk_g zdb_1041 (i := 6) rfl
theorem dL_law__1005 : decode cL_law_ 1005 = .ok (.iaload, 1) := zdk_g zdb_1041 (i := 7) rfl
theorem dL_law__1006 : decode cL_law_ 1006 = .ok (.aload_n 3, 1) := zdk_g zdb_1041 (i := 8) rfl
theorem dL_law__1007 : decode cL_law_ 1007 = .ok (.invokestatic 207, 3) := zdk_g zdb_1041 (i := 9) rfl
theorem dL_law__1010 : decode cL_law_ 1010 = .ok (.istore 5, 2) := zdk_g zdb_1041 (i := 10) rfl
theorem dL_law__1012 : decode cL_law_ 1012 = .ok (.aload_n 2, 1) := zdk_g zdb_1041 (i := 11) rfl
theorem dL_law__1013 : decode cL_law_ 1013 = .ok (.aload_n 0, 1) := zdk_g zdb_1041 (i := 12) rfl
theorem dL_law__1014 : decode cL_law_ 1014 = .ok (.iload 4, 2) := zdk_g zdb_1041 (i := 13) rfl
theorem dL_law__1016 : decode cL_law_ 1016 = .ok (.iconst 1, 1) := zdk_g zdb_1041 (i := 14) rfl
theorem dL_law__1017 : decode cL_law_ 1017 = .ok (.iadd, 1) := zdk_g zdb_1041 (i := 15) rfl
theorem dL_law__1018 : decode cL_law_ 1018 = .ok (.iaload, 1) := zdk_g zdb_1041 (i := 16) rfl
theorem dL_law__1019 : decode cL_law_ 1019 = .ok (.aload_n 0, 1) := zdk_g zdb_1041 (i := 17) rfl
theorem dL_law__1020 : decode cL_law_ 1020 = .ok (.iload 4, 2) := zdk_g zdb_1041 (i := 18) rfl
theorem dL_law__1022 : decode cL_law_ 1022 = .ok (.iconst 2, 1) := zdk_g zdb_1041 (i := 19) rfl
theorem dL_law__1023 : decode cL_law_ 1023 = .ok (.iadd, 1) := zdk_g zdb_1041 (i := 20) rfl
theorem dL_law__1024 : decode cL_law_ 1024 = .ok (.iaload, 1) := zdk_g zdb_1041 (i := 21) rfl
theorem dL_law__1025 : decode cL_law_ 1025 = .ok (.invokevirtual 209, 3) := zdk_g zdb_1041 (i := 22) rfl
theorem dL_law__1028 : decode cL_law_ 1028 = .ok (.istore 6, 2) := zdk_g zdb_1041 (i := 23) rfl
theorem dL_law__1030 : decode cL_law_ 1030 = .ok (.goto 794, 3) := zdk_g zdb_1041 (i := 24) rfl
theorem dL_law__1033 : decode cL_law_ 1033 = .ok (.aload_n 1, 1) := zdk_g zdb_1041 (i := 25) rfl
theorem dL_law__1034 : decode cL_law_ 1034 = .ok (.aload_n 0, 1) := zdk_g zdb_1041 (i := 26) rfl
theorem dL_law__1035 : decode cL_law_ 1035 = .ok (.iload 4, 2) := zdk_g zdb_1041 (i := 27) rfl
theorem dL_law__1037 : decode cL_law_ 1037 = .ok (.iconst 1, 1) := zdk_g zdb_1041 (i := 28) rfl
theorem dL_law__1038 : decode cL_law_ 1038 = .ok (.iadd, 1) := zdk_g zdb_1041 (i := 29) rfl
theorem dL_law__1039 : decode cL_law_ 1039 = .ok (.iaload, 1) := zdk_g zdb_1041 (i := 30) rfl
theorem dL_law__1040 : decode cL_law_ 1040 = .ok (.aload_n 3, 1) := zdk_g zdb_1041 (i := 31) rfl
def zdl_1042 : List (Nat × Instr × Nat) := [(1041, .invokestatic 210, 3), (1044, .istore 5, 2), (1046, .aload_n 2, 1), (1047, .aload_n 0, 1), (1048, .iload 4, 2), (1050, .iconst 1, 1), (1051, .iadd, 1), (1052, .iaload, 1), (1053, .invokevirtual 212, 3), (1056, .istore 6, 2), (1058, .goto 766, 3), (1061, .aload_n 1, 1), (1062, .invokevirtual 213, 3), (1065, .aload_n 2, 1), (1066, .invokevirtual 216, 3), (1069, .if_icmp .eq 755, 3), (1072, .iconst 0, 1), (1073, .ireturn, 1), (1074, .aload_n 1, 1), (1075, .invokevirtual 217, 3), (1078, .pop, 1), (1079, .aload_n 2, 1), (1080, .invokevirtual 220, 3), (1083, .pop, 1), (1084, .goto 740, 3), (1087, .aload_n 1, 1), (1088, .aload_n 0, 1), (1089, .iload 4, 2), (1091, .iconst 1, 1), (1092, .iadd, 1), (1093, .iaload, 1), (1094, .aload_n 0, 1)]
theorem zdb_1042 : zdk cL_law_ zdl_1042 = true := by decide +kernel
theorem dL_law__1041 : decode cL_law_ 1041 = .ok (.invokestatic 210, 3) := zdk_g zdb_1042 (i := 0) rfl
theorem dL_law__1044 : decode cL_law_ 1044 = .ok (.istore 5, 2) := zdk_g zdb_1042 (i := 1) rfl
theorem dL_law__1046 : decode cL_law_ 1046 = .ok (.aload_n 2, 1) := zdk_g zdb_1042 (i := 2) rfl
theorem dL_law__1047 : decode cL_law_ 1047 = .ok (.aload_n 0, 1) := zdk_g zdb_1042 (i := 3) rfl
theorem dL_law__1048 : decode cL_law_ 1048 = .ok (.iload 4, 2) := zdk_g zdb_1042 (i := 4) rfl
theorem dL_law__1050 : decode cL_law_ 1050 = .ok (.iconst 1, 1) := zdk_g zdb_1042 (i := 5) rfl
theorem dL_law__1051 : decode cL_law_ 1051 = .ok (.iadd, 1) := zdk_g zdb_1042 (i := 6) rfl
theorem dL_law__1052 : decode cL_law_ 1052 = .ok (.iaload, 1) := zdk_g zdb_1042 (i := 7) rfl
theorem dL_law__1053 : decode cL_law_ 1053 = .ok (.invokevirtual 212, 3) := zdk_g zdb_1042 (i := 8) rfl
theorem dL_law__1056 : decode cL_law_ 1056 = .ok (.istore 6, 2) := zdk_g zdb_1042 (i := 9) rfl
theorem dL_law__1058 : decode cL_law_ 1058 = .ok (.goto 766, 3) := zdk_g zdb_1042 (i := 10) rfl
theorem dL_law__1061 : decode cL_law_ 1061 = .ok (.aload_n 1, 1) := zdk_g zdb_1042 (i := 11) rfl
theorem dL_law__1062 : decode cL_law_ 1062 = .ok (.invokevirtual 213, 3) := zdk_g zdb_1042 (i := 12) rfl
theorem dL_law__1065 : decode cL_law_ 1065 = .ok (.aload_n 2, 1) := zdk_g zdb_1042 (i := 13) rfl
theorem dL_law__1066 : decode cL_law_ 1066 = .ok (.invokevirtual 216, 3) := zdk_g zdb_1042 (i := 14) rfl
theorem dL_law__1069 : decode cL_law_ 1069 = .ok (.if_icmp .eq 755, 3) := zdk_g zdb_1042 (i := 15) rfl
theorem dL_law__1072 : decode cL_law_ 1072 = .ok (.iconst 0, 1) := zdk_g zdb_1042 (i := 16) rfl
theorem dL_law__1073 : decode cL_law_ 1073 = .ok (.ireturn, 1) := zdk_g zdb_1042 (i := 17) rfl
theorem dL_law__1074 : decode cL_law_ 1074 = .ok (.aload_n 1, 1) := zdk_g zdb_1042 (i := 18) rfl
theorem dL_law__1075 : decode cL_law_ 1075 = .ok (.invokevirtual 217, 3) := zdk_g zdb_1042 (i := 19) rfl
theorem dL_law__1078 : decode cL_law_ 1078 = .ok (.pop, 1) := zdk_g zdb_1042 (i := 20) rfl
theorem dL_law__1079 : decode cL_law_ 1079 = .ok (.aload_n 2, 1) := zdk_g zdb_1042 (i := 21) rfl
theorem dL_law__1080 : decode cL_law_ 1080 = .ok (.invokevirtual 220, 3) := zdk_g zdb_1042 (i := 22) rfl
theorem dL_law__1083 : decode cL_law_ 1083 = .ok (.pop, 1) := zdk_g zdb_1042 (i := 23) rfl
theorem dL_law__1084 : decode cL_law_ 1084 = .ok (.goto 740, 3) := zdk_g zdb_1042 (i := 24) rfl
theorem dL_law__1087 : decode cL_law_ 1087 = .ok (.aload_n 1, 1) := zdk_g zdb_1042 (i := 25) rfl
theorem dL_law__1088 : decode cL_law_ 1088 = .ok (.aload_n 0, 1) := zdk_g zdb_1042 (i := 26) rfl
theorem dL_law__1089 : decode cL_law_ 1089 = .ok (.iload 4, 2) := zdk_g zdb_1042 (i := 27) rfl
theorem dL_law__1091 : decode cL_law_ 1091 = .ok (.iconst 1, 1) := zdk_g zdb_1042 (i := 28) rfl
theorem dL_law__1092 : decode cL_law_ 1092 = .ok (.iadd, 1) := zdk_g zdb_1042 (i := 29) rfl
theorem dL_law__1093 : decode cL_law_ 1093 = .ok (.iaload, 1) := zdk_g zdb_1042 (i := 30) rfl
theorem dL_law__1094 : decode cL_law_ 1094 = .ok (.aload_n 0, 1) := zdk_g zdb_1042 (i := 31) rfl
def zdl_1043 : List (Nat × Instr × Nat) := [(1095, .iload 4, 2), (1097, .iconst 2, 1), (1098, .iadd, 1), (1099, .iaload, 1), (1100, .ifCond .eq 7, 3), (1103, .iconst 1, 1), (1104, .goto 4, 3), (1107, .iconst 0, 1), (1108, .aload_n 3, 1), (1109, .invokestatic 221, 3), (1112, .istore 5, 2), (1114, .aload_n 2, 1), (1115, .aload_n 0, 1), (1116, .iload 4, 2), (1118, .iconst 1, 1), (1119, .iadd, 1), (1120, .iaload, 1), (1121, .aload_n 0, 1), (1122, .iload 4, 2), (1124, .iconst 2, 1), (1125, .iadd, 1), (1126, .iaload, 1), (1127, .ifCond .eq 7, 3), (1130, .iconst 1, 1), (1131, .goto 4, 3), (1134, .iconst 0, 1), (1135, .invokevirtual 223, 3), (1138, .istore 6, 2), (1140, .goto 684, 3), (1143, .aload_n 1, 1), (1144, .aload_n 0, 1), (1145, .iload 4, 2)]
theorem zdb_1043 : zdk cL_law_ zdl_1043 = true := by decide +kernel
theorem dL_law__1095 : decode cL_law_ 1095 = .ok (.iload 4, 2) := zdk_g zdb_1043 (i := 0) rfl
theorem dL_law__1097 : decode cL_law_ 1097 = .ok (.iconst 2, 1) := zdk_g zdb_1043 (i := 1) rfl
theorem dL_law__1098 : decode cL_law_ 1098 = .ok (.iadd, 1) := zdk_g zdb_1043 (i := 2) rfl
theorem dL_law__1099 : decode cL_law_ 1099 = .ok (.iaload, 1) := zdk_g zdb_1043 (i := 3) rfl
theorem dL_law__1100 : decode cL_law_ 1100 = .ok (.ifCond .eq 7, 3) := zdk_g zdb_1043 (i := 4) rfl
theorem dL_law__1103 : decode cL_law_ 1103 = .ok (.iconst 1, 1) := zdk_g zdb_1043 (i := 5) rfl
theorem dL_law__1104 : decode cL_law_ 1104 = .ok (.goto 4, 3) := zdk_g zdb_1043 (i := 6) rfl
theorem dL_law__1107 : decode cL_law_ 1107 = .ok (.iconst 0, 1) := zdk_g zdb_1043 (i := 7) rfl
theorem dL_law__1108 : decode cL_law_ 1108 = .ok (.aload_n 3, 1) := zdk_g zdb_1043 (i := 8) rfl
theorem dL_law__1109 : decode cL_law_ 1109 = .ok (.invokestatic 221, 3) := zdk_g zdb_1043 (i := 9) rfl
theorem dL_law__1112 : decode cL_law_ 1112 = .ok (.istore 5, 2) := zdk_g zdb_1043 (i := 10) rfl
theorem dL_law__1114 : decode cL_law_ 1114 = .ok (.aload_n 2, 1) := zdk_g zdb_1043 (i := 11) rfl
theorem dL_law__1115 : decode cL_law_ 1115 = .ok (.aload_n 0, 1) := zdk_g zdb_1043 (i := 12) rfl
theorem dL_law__1116 : decode cL_law_ 1116 = .ok (.iload 4, 2) := zdk_g zdb_1043 (i := 13) rfl
theorem dL_law__1118 : decode cL_law_ 1118 = .ok (.iconst 1, 1) := zdk_g zdb_1043 (i := 14) rfl
theorem dL_law__1119 : decode cL_law_ 1119 = .ok (.iadd, 1) := zdk_g zdb_1043 (i := 15) rfl
theorem dL_law__1120 : decode cL_law_ 1120 = .ok (.iaload, 1) := zdk_g zdb_1043 (i := 16) rfl
theorem dL_law__1121 : decode cL_law_ 1121 = .ok (.aload_n 0, 1) := zdk_g zdb_1043 (i := 17) rfl
theorem dL_law__1122 : decode cL_law_ 1122 = .ok (.iload 4, 2) := zdk_g zdb_1043 (i := 18) rfl
theorem dL_law__1124 : decode cL_law_ 1124 = .ok (.iconst 2, 1) := zdk_g zdb_1043 (i := 19) rfl
theorem dL_law__1125 : decode cL_law_ 1125 = .ok (.iadd, 1) := zdk_g zdb_1043 (i := 20) rfl
theorem dL_law__1126 : decode cL_law_ 1126 = .ok (.iaload, 1) := zdk_g zdb_1043 (i := 21) rfl
theorem dL_law__1127 : decode cL_law_ 1127 = .ok (.ifCond .eq 7, 3) := zdk_g zdb_1043 (i := 22) rfl
theorem dL_law__1130 : decode cL_law_ 1130 = .ok (.iconst 1, 1) := zdk_g zdb_1043 (i := 23) rfl
theorem dL_law__1131 : decode cL_law_ 1131 = .ok (.goto 4, 3) := zdk_g zdb_1043 (i := 24) rfl
theorem dL_law__1134 : decode cL_law_ 1134 = .ok (.iconst 0, 1) := zdk_g zdb_1043 (i := 25) rfl
theorem dL_law__1135 : decode cL_law_ 1135 = .ok (.invokevirtual 223, 3) := zdk_g zdb_1043 (i := 26) rfl
theorem dL_law__1138 : decode cL_law_ 1138 = .ok (.istore 6, 2) := zdk_g zdb_1043 (i := 27) rfl
theorem dL_law__1140 : decode cL_law_ 1140 = .ok (.goto 684, 3) := zdk_g zdb_1043 (i := 28) rfl
theorem dL_law__1143 : decode cL_law_ 1143 = .ok (.aload_n 1, 1) := zdk_g zdb_1043 (i := 29) rfl
theorem dL_law__1144 : decode cL_law_ 1144 = .ok (.aload_n 0, 1) := zdk_g zdb_1043 (i := 30) rfl
theorem dL_law__1145 : decode cL_law_ 1145 = .ok (.iload 4, 2) := zdk_g zdb_1043 (i := 31) rfl
def zdl_1044 : List (Nat × Instr × Nat) := [(1147, .iconst 1, 1), (1148, .iadd, 1), (1149, .iaload, 1), (1150, .aload_n 3, 1), (1151, .invokestatic 224, 3), (1154, .istore 5, 2), (1156, .aload_n 2, 1), (1157, .aload_n 0, 1), (1158, .iload 4, 2), (1160, .iconst 1, 1), (1161, .iadd, 1), (1162, .iaload, 1), (1163, .invokevirtual 226, 3), (1166, .istore 6, 2), (1168, .goto 656, 3), (1171, .aload_n 1, 1), (1172, .aload_n 0, 1), (1173, .iload 4, 2), (1175, .iconst 1, 1), (1176, .iadd, 1), (1177, .iaload, 1), (1178, .ifCond .eq 7, 3), (1181, .iconst 1, 1), (1182, .goto 4, 3), (1185, .iconst 0, 1), (1186, .invokevirtual 227, 3), (1189, .pop, 1), (1190, .aload_n 2, 1), (1191, .aload_n 0, 1), (1192, .iload 4, 2), (1194, .iconst 1, 1), (1195, .iadd, 1)]
theorem zdb_1044 : zdk cL_law_ zdl_1044 = true := by decide +kernel
theorem dL_law__1147 : decode cL_law_ 1147 = .ok (.iconst 1, 1) := zdk_g zdb_1044 (i := 0) rfl
theorem dL_law__1148 : decode cL_law_ 1148 = .ok (.iadd, 1) := zdk_g zdb_1044 (i := 1) rfl
theorem dL_law__1149 : decode cL_law_ 1149 = .ok (.iaload, 1) := zdk_g zdb_1044 (i := 2) rfl
theorem dL_law__1150 : decode cL_law_ 1150 = .ok (.aload_n 3, 1) := zdk_g zdb_1044 (i := 3) rfl
theorem dL_law__1151 : decode cL_law_ 1151 = .ok (.invokestatic 224, 3) := zdk_g zdb_1044 (i := 4) rfl
theorem dL_law__1154 : decode cL_law_ 1154 = .ok (.istore 5, 2) := zdk_g zdb_1044 (i := 5) rfl
theorem dL_law__1156 : decode cL_law_ 1156 = .ok (.aload_n 2, 1) := zdk_g zdb_1044 (i := 6) rfl
theorem dL_law__1157 : decode cL_law_ 1157 = .ok (.aload_n 0, 1) := zdk_g zdb_1044 (i := 7) rfl
theorem dL_law__1158 : decode cL_law_ 1158 = .ok (.iload 4, 2) := zdk_g zdb_1044 (i := 8) rfl
theorem dL_law__1160 : decode cL_law_ 1160 = .ok (.iconst 1, 1) := zdk_g zdb_1044 (i := 9) rfl
theorem dL_law__1161 : decode cL_law_ 1161 = .ok (.iadd, 1) := zdk_g zdb_1044 (i := 10) rfl
theorem dL_law__1162 : decode cL_law_ 1162 = .ok (.iaload, 1) := zdk_g zdb_1044 (i := 11) rfl
theorem dL_law__1163 : decode cL_law_ 1163 = .ok (.invokevirtual 226, 3) := zdk_g zdb_1044 (i := 12) rfl
theorem dL_law__1166 : decode cL_law_ 1166 = .ok (.istore 6, 2) := zdk_g zdb_1044 (i := 13) rfl
theorem dL_law__1168 : decode cL_law_ 1168 = .ok (.goto 656, 3) := zdk_g zdb_1044 (i := 14) rfl
theorem dL_law__1171 : decode cL_law_ 1171 = .ok (.aload_n 1, 1) := zdk_g zdb_1044 (i := 15) rfl
theorem dL_law__1172 : decode cL_law_ 1172 = .ok (.aload_n 0, 1) := zdk_g zdb_1044 (i := 16) rfl
theorem dL_law__1173 : decode cL_law_ 1173 = .ok (.iload 4, 2) := zdk_g zdb_1044 (i := 17) rfl
theorem dL_law__1175 : decode cL_law_ 1175 = .ok (.iconst 1, 1) := zdk_g zdb_1044 (i := 18) rfl
theorem dL_law__1176 : decode cL_law_ 1176 = .ok (.iadd, 1) := zdk_g zdb_1044 (i := 19) rfl
theorem dL_law__1177 : decode cL_law_ 1177 = .ok (.iaload, 1) := zdk_g zdb_1044 (i := 20) rfl
theorem dL_law__1178 : decode cL_law_ 1178 = .ok (.ifCond .eq 7, 3) := zdk_g zdb_1044 (i := 21) rfl
theorem dL_law__1181 : decode cL_law_ 1181 = .ok (.iconst 1, 1) := zdk_g zdb_1044 (i := 22) rfl
theorem dL_law__1182 : decode cL_law_ 1182 = .ok (.goto 4, 3) := zdk_g zdb_1044 (i := 23) rfl
theorem dL_law__1185 : decode cL_law_ 1185 = .ok (.iconst 0, 1) := zdk_g zdb_1044 (i := 24) rfl
theorem dL_law__1186 : decode cL_law_ 1186 = .ok (.invokevirtual 227, 3) := zdk_g zdb_1044 (i := 25) rfl
theorem dL_law__1189 : decode cL_law_ 1189 = .ok (.pop, 1) := zdk_g zdb_1044 (i := 26) rfl
theorem dL_law__1190 : decode cL_law_ 1190 = .ok (.aload_n 2, 1) := zdk_g zdb_1044 (i := 27) rfl
theorem dL_law__1191 : decode cL_law_ 1191 = .ok (.aload_n 0, 1) := zdk_g zdb_1044 (i := 28) rfl
theorem dL_law__1192 : decode cL_law_ 1192 = .ok (.iload 4, 2) := zdk_g zdb_1044 (i := 29) rfl
theorem dL_law__1194 : decode cL_law_ 1194 = .ok (.iconst 1, 1) := zdk_g zdb_1044 (i := 30) rfl
theorem dL_law__1195 : decode cL_law_ 1195 = .ok (.iadd, 1) := zdk_g zdb_1044 (i := 31) rfl
def zdl_1045 : List (Nat × Instr × Nat) := [(1196, .iaload, 1), (1197, .ifCond .eq 7, 3), (1200, .iconst 1, 1), (1201, .goto 4, 3), (1204, .iconst 0, 1), (1205, .invokevirtual 230, 3), (1208, .pop, 1), (1209, .goto 615, 3), (1212, .aload_n 1, 1), (1213, .aload_n 0, 1), (1214, .iload 4, 2), (1216, .iconst 1, 1), (1217, .iadd, 1), (1218, .iaload, 1), (1219, .aload_n 3, 1), (1220, .invokestatic 231, 3), (1223, .istore 5, 2), (1225, .aload_n 2, 1), (1226, .aload_n 0, 1), (1227, .iload 4, 2), (1229, .iconst 1, 1), (1230, .iadd, 1), (1231, .iaload, 1), (1232, .invokevirtual 233, 3), (1235, .istore 6, 2), (1237, .goto 587, 3), (1240, .aload_n 1, 1), (1241, .aload_n 0, 1), (1242, .iload 4, 2), (1244, .iconst 1, 1), (1245, .iadd, 1), (1246, .iaload, 1)]
theorem zdb_1045 : zdk cL_law_ zdl_1045 = true := by decide +kernel
theorem dL_law__1196 : decode cL_law_ 1196 = .ok (.iaload, 1) := zdk_g zdb_1045 (i := 0) rfl
theorem dL_law__1197 : decode cL_law_ 1197 = .ok (.ifCond .eq 7, 3) := zdk_g zdb_1045 (i := 1) rfl
theorem dL_law__1200 : decode cL_law_ 1200 = .ok (.iconst 1, 1) := zdk_g zdb_1045 (i := 2) rfl
theorem dL_law__1201 : decode cL_law_ 1201 = .ok (.goto 4, 3) := zdk_g zdb_1045 (i := 3) rfl
theorem dL_law__1204 : decode cL_law_ 1204 = .ok (.iconst 0, 1) := zdk_g zdb_1045 (i := 4) rfl
theorem dL_law__1205 : decode cL_law_ 1205 = .ok (.invokevirtual 230, 3) := zdk_g zdb_1045 (i := 5) rfl
theorem dL_law__1208 : decode cL_law_ 1208 = .ok (.pop, 1) := zdk_g zdb_1045 (i := 6) rfl
theorem dL_law__1209 : decode cL_law_ 1209 = .ok (.goto 615, 3) := zdk_g zdb_1045 (i := 7) rfl
theorem dL_law__1212 : decode cL_law_ 1212 = .ok (.aload_n 1, 1) := zdk_g zdb_1045 (i := 8) rfl
theorem dL_law__1213 : decode cL_law_ 1213 = .ok (.aload_n 0, 1) := zdk_g zdb_1045 (i := 9) rfl
theorem dL_law__1214 : decode cL_law_ 1214 = .ok (.iload 4, 2) := zdk_g zdb_1045 (i := 10) rfl
theorem dL_law__1216 : decode cL_law_ 1216 = .ok (.iconst 1, 1) := zdk_g zdb_1045 (i := 11) rfl
theorem dL_law__1217 : decode cL_law_ 1217 = .ok (.iadd, 1) := zdk_g zdb_1045 (i := 12) rfl
theorem dL_law__1218 : decode cL_law_ 1218 = .ok (.iaload, 1) := zdk_g zdb_1045 (i := 13) rfl
theorem dL_law__1219 : decode cL_law_ 1219 = .ok (.aload_n 3, 1) := zdk_g zdb_1045 (i := 14) rfl
theorem dL_law__1220 : decode cL_law_ 1220 = .ok (.invokestatic 231, 3) := zdk_g zdb_1045 (i := 15) rfl
theorem dL_law__1223 : decode cL_law_ 1223 = .ok (.istore 5, 2) := zdk_g zdb_1045 (i := 16) rfl
theorem dL_law__1225 : decode cL_law_ 1225 = .ok (.aload_n 2, 1) := zdk_g zdb_1045 (i := 17) rfl
theorem dL_law__1226 : decode cL_law_ 1226 = .ok (.aload_n 0, 1) := zdk_g zdb_1045 (i := 18) rfl
theorem dL_law__1227 : decode cL_law_ 1227 = .ok (.iload 4, 2) := zdk_g zdb_1045 (i := 19) rfl
theorem dL_law__1229 : decode cL_law_ 1229 = .ok (.iconst 1, 1) := zdk_g zdb_1045 (i := 20) rfl
theorem dL_law__1230 : decode cL_law_ 1230 = .ok (.iadd, 1) := zdk_g zdb_1045 (i := 21) rfl
theorem dL_law__1231 : decode cL_law_ 1231 = .ok (.iaload, 1) := zdk_g zdb_1045 (i := 22) rfl
theorem dL_law__1232 : decode cL_law_ 1232 = .ok (.invokevirtual 233, 3) := zdk_g zdb_1045 (i := 23) rfl
theorem dL_law__1235 : decode cL_law_ 1235 = .ok (.istore 6, 2) := zdk_g zdb_1045 (i := 24) rfl
theorem dL_law__1237 : decode cL_law_ 1237 = .ok (.goto 587, 3) := zdk_g zdb_1045 (i := 25) rfl
theorem dL_law__1240 : decode cL_law_ 1240 = .ok (.aload_n 1, 1) := zdk_g zdb_1045 (i := 26) rfl
theorem dL_law__1241 : decode cL_law_ 1241 = .ok (.aload_n 0, 1) := zdk_g zdb_1045 (i := 27) rfl
theorem dL_law__1242 : decode cL_law_ 1242 = .ok (.iload 4, 2) := zdk_g zdb_1045 (i := 28) rfl
theorem dL_law__1244 : decode cL_law_ 1244 = .ok (.iconst 1, 1) := zdk_g zdb_1045 (i := 29) rfl
theorem dL_law__1245 : decode cL_law_ 1245 = .ok (.iadd, 1) := zdk_g zdb_1045 (i := 30) rfl
theorem dL_law__1246 : decode cL_law_ 1246 = .ok (.iaload, 1) := zdk_g zdb_1045 (i := 31) rfl
def zdl_1046 : List (Nat × Instr × Nat) := [(1247, .aload_n 3, 1), (1248, .invokestatic 234, 3), (1251, .istore 5, 2), (1253, .aload_n 2, 1), (1254, .aload_n 0, 1), (1255, .iload 4, 2), (1257, .iconst 1, 1), (1258, .iadd, 1), (1259, .iaload, 1), (1260, .invokevirtual 236, 3), (1263, .istore 6, 2), (1265, .goto 559, 3), (1268, .aload_n 1, 1), (1269, .aload_n 0, 1), (1270, .iload 4, 2), (1272, .iconst 1, 1), (1273, .iadd, 1), (1274, .iaload, 1), (1275, .ifCond .eq 7, 3), (1278, .iconst 1, 1), (1279, .goto 4, 3), (1282, .iconst 0, 1), (1283, .aload_n 3, 1), (1284, .invokestatic 237, 3), (1287, .istore 5, 2), (1289, .aload_n 2, 1), (1290, .aload_n 0, 1), (1291, .iload 4, 2), (1293, .iconst 1, 1), (1294, .iadd, 1), (1295, .iaload, 1), (1296, .ifCond .eq 7, 3)]
theorem zdb_1046 : zdk cL_law_ zdl_1046 = true := by decide +kernel
theorem dL_law__1247 : decode cL_law_ 1247 = .ok (.aload_n 3, 1) := zdk_g zdb_1046 (i := 0) rfl
theorem dL_law__1248 : decode cL_law_ 1248 = .ok (.invokestatic 234, 3) := zdk_g zdb_1046 (i := 1) rfl
theorem dL_law__1251 : decode cL_law_ 1251 = .ok (.istore 5, 2) := zdk_g zdb_1046 (i := 2) rfl
theorem dL_law__1253 : decode cL_law_ 1253 = .ok (.aload_n 2, 1) := zdk_g zdb_1046 (i := 3) rfl
theorem dL_law__1254 : decode cL_law_ 1254 = .ok (.aload_n 0, 1) := zdk_g zdb_1046 (i := 4) rfl
theorem dL_law__1255 : decode cL_law_ 1255 = .ok (.iload 4, 2) := zdk_g zdb_1046 (i := 5) rfl
theorem dL_law__1257 : decode cL_law_ 1257 = .ok (.iconst 1, 1) := zdk_g zdb_1046 (i := 6) rfl
theorem dL_law__1258 : decode cL_law_ 1258 = .ok (.iadd, 1) := zdk_g zdb_1046 (i := 7) rfl
theorem dL_law__1259 : decode cL_law_ 1259 = .ok (.iaload, 1) := zdk_g zdb_1046 (i := 8) rfl
theorem dL_law__1260 : decode cL_law_ 1260 = .ok (.invokevirtual 236, 3) := zdk_g zdb_1046 (i := 9) rfl
theorem dL_law__1263 : decode cL_law_ 1263 = .ok (.istore 6, 2) := zdk_g zdb_1046 (i := 10) rfl
theorem dL_law__1265 : decode cL_law_ 1265 = .ok (.goto 559, 3) := zdk_g zdb_1046 (i := 11) rfl
theorem dL_law__1268 : decode cL_law_ 1268 = .ok (.aload_n 1, 1) := zdk_g zdb_1046 (i := 12) rfl
theorem dL_law__1269 : decode cL_law_ 1269 = .ok (.aload_n 0, 1) := zdk_g zdb_1046 (i := 13) rfl
theorem dL_law__1270 : decode cL_law_ 1270 = .ok (.iload 4, 2) := zdk_g zdb_1046 (i := 14) rfl
theorem dL_law__1272 : decode cL_law_ 1272 = .ok (.iconst 1, 1) := zdk_g zdb_1046 (i := 15) rfl
theorem dL_law__1273 : decode cL_law_ 1273 = .ok (.iadd, 1) := zdk_g zdb_1046 (i := 16) rfl
theorem dL_law__1274 : decode cL_law_ 1274 = .ok (.iaload, 1) := zdk_g zdb_1046 (i := 17) rfl
theorem dL_law__1275 : decode cL_law_ 1275 = .ok (.ifCond .eq 7, 3) := zdk_g zdb_1046 (i := 18) rfl
theorem dL_law__1278 : decode cL_law_ 1278 = .ok (.iconst 1, 1) := zdk_g zdb_1046 (i := 19) rfl
theorem dL_law__1279 : decode cL_law_ 1279 = .ok (.goto 4, 3) := zdk_g zdb_1046 (i := 20) rfl
theorem dL_law__1282 : decode cL_law_ 1282 = .ok (.iconst 0, 1) := zdk_g zdb_1046 (i := 21) rfl
theorem dL_law__1283 : decode cL_law_ 1283 = .ok (.aload_n 3, 1) := zdk_g zdb_1046 (i := 22) rfl
theorem dL_law__1284 : decode cL_law_ 1284 = .ok (.invokestatic 237, 3) := zdk_g zdb_1046 (i := 23) rfl
theorem dL_law__1287 : decode cL_law_ 1287 = .ok (.istore 5, 2) := zdk_g zdb_1046 (i := 24) rfl
theorem dL_law__1289 : decode cL_law_ 1289 = .ok (.aload_n 2, 1) := zdk_g zdb_1046 (i := 25) rfl
theorem dL_law__1290 : decode cL_law_ 1290 = .ok (.aload_n 0, 1) := zdk_g zdb_1046 (i := 26) rfl
theorem dL_law__1291 : decode cL_law_ 1291 = .ok (.iload 4, 2) := zdk_g zdb_1046 (i := 27) rfl
theorem dL_law__1293 : decode cL_law_ 1293 = .ok (.iconst 1, 1) := zdk_g zdb_1046 (i := 28) rfl
theorem dL_law__1294 : decode cL_law_ 1294 = .ok (.iadd, 1) := zdk_g zdb_1046 (i := 29) rfl
theorem dL_law__1295 : decode cL_law_ 1295 = .ok (.iaload, 1) := zdk_g zdb_1046 (i := 30) rfl
theorem dL_law__1296 : decode cL_law_ 1296 = .ok (.ifCond .eq 7, 3) := zdk_g zdb_1046 (i := 31) rfl
def zdl_1047 : List (Nat × Instr × Nat) := [(1299, .iconst 1, 1), (1300, .goto 4, 3), (1303, .iconst 0, 1), (1304, .invokevirtual 240, 3), (1307, .istore 6, 2), (1309, .goto 515, 3), (1312, .aload_n 1, 1), (1313, .aload_n 3, 1), (1314, .invokestatic 241, 3), (1317, .istore 5, 2), (1319, .aload_n 2, 1), (1320, .invokevirtual 243, 3), (1323, .istore 6, 2), (1325, .goto 499, 3), (1328, .aload_n 1, 1), (1329, .aload_n 0, 1), (1330, .iload 4, 2), (1332, .iconst 1, 1), (1333, .iadd, 1), (1334, .iaload, 1), (1335, .aload_n 3, 1), (1336, .invokestatic 244, 3), (1339, .istore 5, 2), (1341, .aload_n 2, 1), (1342, .aload_n 0, 1), (1343, .iload 4, 2), (1345, .iconst 1, 1), (1346, .iadd, 1), (1347, .iaload, 1), (1348, .invokevirtual 246, 3), (1351, .istore 6, 2), (1353, .goto 471, 3)]
theorem zdb_1047 : zdk cL_law_ zdl_1047 = true := by decide +kernel
theorem dL_law__1299 : decode cL_law_ 1299 = .ok (.iconst 1, 1) := zdk_g zdb_1047 (i := 0) rfl
theorem dL_law__1300 : decode cL_law_ 1300 = .ok (.goto 4, 3) := zdk_g zdb_1047 (i := 1) rfl
theorem dL_law__1303 : decode cL_law_ 1303 = .ok (.iconst 0, 1) := zdk_g zdb_1047 (i := 2) rfl
theorem dL_law__1304 : decode cL_law_ 1304 = .ok (.invokevirtual 240, 3) := zdk_g zdb_1047 (i := 3) rfl
theorem dL_law__1307 : decode cL_law_ 1307 = .ok (.istore 6, 2) := zdk_g zdb_1047 (i := 4) rfl
theorem dL_law__1309 : decode cL_law_ 1309 = .ok (.goto 515, 3) := zdk_g zdb_1047 (i := 5) rfl
theorem dL_law__1312 : decode cL_law_ 1312 = .ok (.aload_n 1, 1) := zdk_g zdb_1047 (i := 6) rfl
theorem dL_law__1313 : decode cL_law_ 1313 = .ok (.aload_n 3, 1) := zdk_g zdb_1047 (i := 7) rfl
theorem dL_law__1314 : decode cL_law_ 1314 = .ok (.invokestatic 241, 3) := zdk_g zdb_1047 (i := 8) rfl
theorem dL_law__1317 : decode cL_law_ 1317 = .ok (.istore 5, 2) := zdk_g zdb_1047 (i := 9) rfl
theorem dL_law__1319 : decode cL_law_ 1319 = .ok (.aload_n 2, 1) := zdk_g zdb_1047 (i := 10) rfl
theorem dL_law__1320 : decode cL_law_ 1320 = .ok (.invokevirtual 243, 3) := zdk_g zdb_1047 (i := 11) rfl
theorem dL_law__1323 : decode cL_law_ 1323 = .ok (.istore 6, 2) := zdk_g zdb_1047 (i := 12) rfl
theorem dL_law__1325 : decode cL_law_ 1325 = .ok (.goto 499, 3) := zdk_g zdb_1047 (i := 13) rfl
theorem dL_law__1328 : decode cL_law_ 1328 = .ok (.aload_n 1, 1) := zdk_g zdb_1047 (i := 14) rfl
theorem dL_law__1329 : decode cL_law_ 1329 = .ok (.aload_n 0, 1) := zdk_g zdb_1047 (i := 15) rfl
theorem dL_law__1330 : decode cL_law_ 1330 = .ok (.iload 4, 2) := zdk_g zdb_1047 (i := 16) rfl
theorem dL_law__1332 : decode cL_law_ 1332 = .ok (.iconst 1, 1) := zdk_g zdb_1047 (i := 17) rfl
theorem dL_law__1333 : decode cL_law_ 1333 = .ok (.iadd, 1) := zdk_g zdb_1047 (i := 18) rfl
theorem dL_law__1334 : decode cL_law_ 1334 = .ok (.iaload, 1) := zdk_g zdb_1047 (i := 19) rfl
theorem dL_law__1335 : decode cL_law_ 1335 = .ok (.aload_n 3, 1) := zdk_g zdb_1047 (i := 20) rfl
theorem dL_law__1336 : decode cL_law_ 1336 = .ok (.invokestatic 244, 3) := zdk_g zdb_1047 (i := 21) rfl
theorem dL_law__1339 : decode cL_law_ 1339 = .ok (.istore 5, 2) := zdk_g zdb_1047 (i := 22) rfl
theorem dL_law__1341 : decode cL_law_ 1341 = .ok (.aload_n 2, 1) := zdk_g zdb_1047 (i := 23) rfl
theorem dL_law__1342 : decode cL_law_ 1342 = .ok (.aload_n 0, 1) := zdk_g zdb_1047 (i := 24) rfl
theorem dL_law__1343 : decode cL_law_ 1343 = .ok (.iload 4, 2) := zdk_g zdb_1047 (i := 25) rfl
theorem dL_law__1345 : decode cL_law_ 1345 = .ok (.iconst 1, 1) := zdk_g zdb_1047 (i := 26) rfl
theorem dL_law__1346 : decode cL_law_ 1346 = .ok (.iadd, 1) := zdk_g zdb_1047 (i := 27) rfl
theorem dL_law__1347 : decode cL_law_ 1347 = .ok (.iaload, 1) := zdk_g zdb_1047 (i := 28) rfl
theorem dL_law__1348 : decode cL_law_ 1348 = .ok (.invokevirtual 246, 3) := zdk_g zdb_1047 (i := 29) rfl
theorem dL_law__1351 : decode cL_law_ 1351 = .ok (.istore 6, 2) := zdk_g zdb_1047 (i := 30) rfl
theorem dL_law__1353 : decode cL_law_ 1353 = .ok (.goto 471, 3) := zdk_g zdb_1047 (i := 31) rfl
def zdl_1048 : List (Nat × Instr × Nat) := [(1356, .aload_n 1, 1), (1357, .aload_n 0, 1), (1358, .iload 4, 2), (1360, .iconst 1, 1), (1361, .iadd, 1), (1362, .iaload, 1), (1363, .aload_n 0, 1), (1364, .iload 4, 2), (1366, .iconst 2, 1), (1367, .iadd, 1), (1368, .iaload, 1), (1369, .aload_n 3, 1), (1370, .invokestatic 247, 3), (1373, .istore 5, 2), (1375, .aload_n 2, 1), (1376, .aload_n 0, 1), (1377, .iload 4, 2), (1379, .iconst 1, 1), (1380, .iadd, 1), (1381, .iaload, 1), (1382, .aload_n 0, 1), (1383, .iload 4, 2), (1385, .iconst 2, 1), (1386, .iadd, 1), (1387, .iaload, 1), (1388, .invokevirtual 249, 3), (1391, .istore 6, 2), (1393, .goto 431, 3), (1396, .aload_n 1, 1), (1397, .invokevirtual 250, 3), (1400, .pop, 1), (1401, .aload_n 2, 1)]
theorem zdb_1048 : zdk cL_law_ zdl_1048 = true := by decide +kernel
theorem dL_law__1356 : decode cL_law_ 1356 = .ok (.aload_n 1, 1) := zdk_g zdb_1048 (i := 0) rfl
theorem dL_law__1357 : decode cL_law_ 1357 = .ok (.aload_n 0, 1) := zdk_g zdb_1048 (i := 1) rfl
theorem dL_law__1358 : decode cL_law_ 1358 = .ok (.iload 4, 2) := zdk_g zdb_1048 (i := 2) rfl
theorem dL_law__1360 : decode cL_law_ 1360 = .ok (.iconst 1, 1) := zdk_g zdb_1048 (i := 3) rfl
theorem dL_law__1361 : decode cL_law_ 1361 = .ok (.iadd, 1) := zdk_g zdb_1048 (i := 4) rfl
theorem dL_law__1362 : decode cL_law_ 1362 = .ok (.iaload, 1) := zdk_g zdb_1048 (i := 5) rfl
theorem dL_law__1363 : decode cL_law_ 1363 = .ok (.aload_n 0, 1) := zdk_g zdb_1048 (i := 6) rfl
theorem dL_law__1364 : decode cL_law_ 1364 = .ok (.iload 4, 2) := zdk_g zdb_1048 (i := 7) rfl
theorem dL_law__1366 : decode cL_law_ 1366 = .ok (.iconst 2, 1) := zdk_g zdb_1048 (i := 8) rfl
theorem dL_law__1367 : decode cL_law_ 1367 = .ok (.iadd, 1) := zdk_g zdb_1048 (i := 9) rfl
theorem dL_law__1368 : decode cL_law_ 1368 = .ok (.iaload, 1) := zdk_g zdb_1048 (i := 10) rfl
theorem dL_law__1369 : decode cL_law_ 1369 = .ok (.aload_n 3, 1) := zdk_g zdb_1048 (i := 11) rfl
theorem dL_law__1370 : decode cL_law_ 1370 = .ok (.invokestatic 247, 3) := zdk_g zdb_1048 (i := 12) rfl
theorem dL_law__1373 : decode cL_law_ 1373 = .ok (.istore 5, 2) := zdk_g zdb_1048 (i := 13) rfl
theorem dL_law__1375 : decode cL_law_ 1375 = .ok (.aload_n 2, 1) := zdk_g zdb_1048 (i := 14) rfl
theorem dL_law__1376 : decode cL_law_ 1376 = .ok (.aload_n 0, 1) := zdk_g zdb_1048 (i := 15) rfl
theorem dL_law__1377 : decode cL_law_ 1377 = .ok (.iload 4, 2) := zdk_g zdb_1048 (i := 16) rfl
theorem dL_law__1379 : decode cL_law_ 1379 = .ok (.iconst 1, 1) := zdk_g zdb_1048 (i := 17) rfl
theorem dL_law__1380 : decode cL_law_ 1380 = .ok (.iadd, 1) := zdk_g zdb_1048 (i := 18) rfl
theorem dL_law__1381 : decode cL_law_ 1381 = .ok (.iaload, 1) := zdk_g zdb_1048 (i := 19) rfl
theorem dL_law__1382 : decode cL_law_ 1382 = .ok (.aload_n 0, 1) := zdk_g zdb_1048 (i := 20) rfl
theorem dL_law__1383 : decode cL_law_ 1383 = .ok (.iload 4, 2) := zdk_g zdb_1048 (i := 21) rfl
theorem dL_law__1385 : decode cL_law_ 1385 = .ok (.iconst 2, 1) := zdk_g zdb_1048 (i := 22) rfl
theorem dL_law__1386 : decode cL_law_ 1386 = .ok (.iadd, 1) := zdk_g zdb_1048 (i := 23) rfl
theorem dL_law__1387 : decode cL_law_ 1387 = .ok (.iaload, 1) := zdk_g zdb_1048 (i := 24) rfl
theorem dL_law__1388 : decode cL_law_ 1388 = .ok (.invokevirtual 249, 3) := zdk_g zdb_1048 (i := 25) rfl
theorem dL_law__1391 : decode cL_law_ 1391 = .ok (.istore 6, 2) := zdk_g zdb_1048 (i := 26) rfl
theorem dL_law__1393 : decode cL_law_ 1393 = .ok (.goto 431, 3) := zdk_g zdb_1048 (i := 27) rfl
theorem dL_law__1396 : decode cL_law_ 1396 = .ok (.aload_n 1, 1) := zdk_g zdb_1048 (i := 28) rfl
theorem dL_law__1397 : decode cL_law_ 1397 = .ok (.invokevirtual 250, 3) := zdk_g zdb_1048 (i := 29) rfl
theorem dL_law__1400 : decode cL_law_ 1400 = .ok (.pop, 1) := zdk_g zdb_1048 (i := 30) rfl
theorem dL_law__1401 : decode cL_law_ 1401 = .ok (.aload_n 2, 1) := zdk_g zdb_1048 (i := 31) rfl
def zdl_1049 : List (Nat × Instr × Nat) := [(1402, .invokevirtual 253, 3), (1405, .pop, 1), (1406, .goto 418, 3), (1409, .aload_n 1, 1), (1410, .invokevirtual 254, 3), (1413, .pop, 1), (1414, .aload_n 2, 1), (1415, .invokevirtual 257, 3), (1418, .pop, 1), (1419, .goto 405, 3), (1422, .aload_n 1, 1), (1423, .aload_n 0, 1), (1424, .iload 4, 2), (1426, .iconst 1, 1), (1427, .iadd, 1), (1428, .iaload, 1), (1429, .aload_n 0, 1), (1430, .iload 4, 2), (1432, .iconst 2, 1), (1433, .iadd, 1), (1434, .iaload, 1), (1435, .aload_n 3, 1), (1436, .invokestatic 258, 3), (1439, .istore 5, 2), (1441, .aload_n 2, 1), (1442, .aload_n 0, 1), (1443, .iload 4, 2), (1445, .iconst 1, 1), (1446, .iadd, 1), (1447, .iaload, 1), (1448, .aload_n 0, 1), (1449, .iload 4, 2)]
theorem zdb_1049 : zdk cL_law_ zdl_1049 = true := by decide +kernel
theorem dL_law__1402 : decode cL_law_ 1402 = .ok (.invokevirtual 253, 3) := zdk_g zdb_1049 (i := 0) rfl
theorem dL_law__1405 : decode cL_law_ 1405 = .ok (.pop, 1) := zdk_g zdb_1049 (i := 1) rfl
theorem dL_law__1406 : decode cL_law_ 1406 = .ok (.goto 418, 3) := zdk_g zdb_1049 (i := 2) rfl
theorem dL_law__1409 : decode cL_law_ 1409 = .ok (.aload_n 1, 1) := zdk_g zdb_1049 (i := 3) rfl
theorem dL_law__1410 : decode cL_law_ 1410 = .ok (.invokevirtual 254, 3) := zdk_g zdb_1049 (i := 4) rfl
theorem dL_law__1413 : decode cL_law_ 1413 = .ok (.pop, 1) := zdk_g zdb_1049 (i := 5) rfl
theorem dL_law__1414 : decode cL_law_ 1414 = .ok (.aload_n 2, 1) := zdk_g zdb_1049 (i := 6) rfl
theorem dL_law__1415 : decode cL_law_ 1415 = .ok (.invokevirtual 257, 3) := zdk_g zdb_1049 (i := 7) rfl
theorem dL_law__1418 : decode cL_law_ 1418 = .ok (.pop, 1) := zdk_g zdb_1049 (i := 8) rfl
theorem dL_law__1419 : decode cL_law_ 1419 = .ok (.goto 405, 3) := zdk_g zdb_1049 (i := 9) rfl
theorem dL_law__1422 : decode cL_law_ 1422 = .ok (.aload_n 1, 1) := zdk_g zdb_1049 (i := 10) rfl
theorem dL_law__1423 : decode cL_law_ 1423 = .ok (.aload_n 0, 1) := zdk_g zdb_1049 (i := 11) rfl
theorem dL_law__1424 : decode cL_law_ 1424 = .ok (.iload 4, 2) := zdk_g zdb_1049 (i := 12) rfl
theorem dL_law__1426 : decode cL_law_ 1426 = .ok (.iconst 1, 1) := zdk_g zdb_1049 (i := 13) rfl
theorem dL_law__1427 : decode cL_law_ 1427 = .ok (.iadd, 1) := zdk_g zdb_1049 (i := 14) rfl
theorem dL_law__1428 : decode cL_law_ 1428 = .ok (.iaload, 1) := zdk_g zdb_1049 (i := 15) rfl
theorem dL_law__1429 : decode cL_law_ 1429 = .ok (.aload_n 0, 1) := zdk_g zdb_1049 (i := 16) rfl
theorem dL_law__1430 : decode cL_law_ 1430 = .ok (.iload 4, 2) := zdk_g zdb_1049 (i := 17) rfl
theorem dL_law__1432 : decode cL_law_ 1432 = .ok (.iconst 2, 1) := zdk_g zdb_1049 (i := 18) rfl
theorem dL_law__1433 : decode cL_law_ 1433 = .ok (.iadd, 1) := zdk_g zdb_1049 (i := 19) rfl
theorem dL_law__1434 : decode cL_law_ 1434 = .ok (.iaload, 1) := zdk_g zdb_1049 (i := 20) rfl
theorem dL_law__1435 : decode cL_law_ 1435 = .ok (.aload_n 3, 1) := zdk_g zdb_1049 (i := 21) rfl
theorem dL_law__1436 : decode cL_law_ 1436 = .ok (.invokestatic 258, 3) := zdk_g zdb_1049 (i := 22) rfl
theorem dL_law__1439 : decode cL_law_ 1439 = .ok (.istore 5, 2) := zdk_g zdb_1049 (i := 23) rfl
theorem dL_law__1441 : decode cL_law_ 1441 = .ok (.aload_n 2, 1) := zdk_g zdb_1049 (i := 24) rfl
theorem dL_law__1442 : decode cL_law_ 1442 = .ok (.aload_n 0, 1) := zdk_g zdb_1049 (i := 25) rfl
theorem dL_law__1443 : decode cL_law_ 1443 = .ok (.iload 4, 2) := zdk_g zdb_1049 (i := 26) rfl
theorem dL_law__1445 : decode cL_law_ 1445 = .ok (.iconst 1, 1) := zdk_g zdb_1049 (i := 27) rfl
theorem dL_law__1446 : decode cL_law_ 1446 = .ok (.iadd, 1) := zdk_g zdb_1049 (i := 28) rfl
theorem dL_law__1447 : decode cL_law_ 1447 = .ok (.iaload, 1) := zdk_g zdb_1049 (i := 29) rfl
theorem dL_law__1448 : decode cL_law_ 1448 = .ok (.aload_n 0, 1) := zdk_g zdb_1049 (i := 30) rfl
theorem dL_law__1449 : decode cL_law_ 1449 = .ok (.iload 4, 2) := zdk_g zdb_1049 (i := 31) rfl
def zdl_1050 : List (Nat × Instr × Nat) := [(1451, .iconst 2, 1), (1452, .iadd, 1), (1453, .iaload, 1), (1454, .invokevirtual 260, 3), (1457, .istore 6, 2), (1459, .goto 365, 3), (1462, .aload_n 1, 1), (1463, .invokevirtual 261, 3), (1466, .pop, 1), (1467, .aload_n 2, 1), (1468, .invokevirtual 264, 3), (1471, .pop, 1), (1472, .goto 352, 3), (1475, .aload_n 1, 1), (1476, .invokevirtual 265, 3), (1479, .pop, 1), (1480, .aload_n 2, 1), (1481, .invokevirtual 268, 3), (1484, .pop, 1), (1485, .goto 339, 3), (1488, .aload_n 1, 1), (1489, .aload_n 0, 1), (1490, .iload 4, 2), (1492, .iconst 1, 1), (1493, .iadd, 1), (1494, .iaload, 1), (1495, .aload_n 3, 1), (1496, .invokestatic 269, 3), (1499, .istore 5, 2), (1501, .aload_n 2, 1), (1502, .aload_n 0, 1), (1503, .iload 4, 2)]
theorem zdb_1050 : zdk cL_law_ zdl_1050 = true := by decide +kernel
theorem dL_law__1451 : decode cL_law_ 1451 = .ok (.iconst 2, 1) := zdk_g zdb_1050 (i := 0) rfl
theorem dL_law__1452 : decode cL_law_ 1452 = .ok (.iadd, 1) := zdk_g zdb_1050 (i := 1) rfl
theorem dL_law__1453 : decode cL_law_ 1453 = .ok (.iaload, 1) := zdk_g zdb_1050 (i := 2) rfl
theorem dL_law__1454 : decode cL_law_ 1454 = .ok (.invokevirtual 260, 3) := zdk_g zdb_1050 (i := 3) rfl
theorem dL_law__1457 : decode cL_law_ 1457 = .ok (.istore 6, 2) := zdk_g zdb_1050 (i := 4) rfl
theorem dL_law__1459 : decode cL_law_ 1459 = .ok (.goto 365, 3) := zdk_g zdb_1050 (i := 5) rfl
theorem dL_law__1462 : decode cL_law_ 1462 = .ok (.aload_n 1, 1) := zdk_g zdb_1050 (i := 6) rfl
theorem dL_law__1463 : decode cL_law_ 1463 = .ok (.invokevirtual 261, 3) := zdk_g zdb_1050 (i := 7) rfl
theorem dL_law__1466 : decode cL_law_ 1466 = .ok (.pop, 1) := zdk_g zdb_1050 (i := 8) rfl
theorem dL_law__1467 : decode cL_law_ 1467 = .ok (.aload_n 2, 1) := zdk_g zdb_1050 (i := 9) rfl
theorem dL_law__1468 : decode cL_law_ 1468 = .ok (.invokevirtual 264, 3) := zdk_g zdb_1050 (i := 10) rfl
theorem dL_law__1471 : decode cL_law_ 1471 = .ok (.pop, 1) := zdk_g zdb_1050 (i := 11) rfl
theorem dL_law__1472 : decode cL_law_ 1472 = .ok (.goto 352, 3) := zdk_g zdb_1050 (i := 12) rfl
theorem dL_law__1475 : decode cL_law_ 1475 = .ok (.aload_n 1, 1) := zdk_g zdb_1050 (i := 13) rfl
theorem dL_law__1476 : decode cL_law_ 1476 = .ok (.invokevirtual 265, 3) := zdk_g zdb_1050 (i := 14) rfl
theorem dL_law__1479 : decode cL_law_ 1479 = .ok (.pop, 1) := zdk_g zdb_1050 (i := 15) rfl
theorem dL_law__1480 : decode cL_law_ 1480 = .ok (.aload_n 2, 1) := zdk_g zdb_1050 (i := 16) rfl
theorem dL_law__1481 : decode cL_law_ 1481 = .ok (.invokevirtual 268, 3) := zdk_g zdb_1050 (i := 17) rfl
theorem dL_law__1484 : decode cL_law_ 1484 = .ok (.pop, 1) := zdk_g zdb_1050 (i := 18) rfl
theorem dL_law__1485 : decode cL_law_ 1485 = .ok (.goto 339, 3) := zdk_g zdb_1050 (i := 19) rfl
theorem dL_law__1488 : decode cL_law_ 1488 = .ok (.aload_n 1, 1) := zdk_g zdb_1050 (i := 20) rfl
theorem dL_law__1489 : decode cL_law_ 1489 = .ok (.aload_n 0, 1) := zdk_g zdb_1050 (i := 21) rfl
theorem dL_law__1490 : decode cL_law_ 1490 = .ok (.iload 4, 2) := zdk_g zdb_1050 (i := 22) rfl
theorem dL_law__1492 : decode cL_law_ 1492 = .ok (.iconst 1, 1) := zdk_g zdb_1050 (i := 23) rfl
theorem dL_law__1493 : decode cL_law_ 1493 = .ok (.iadd, 1) := zdk_g zdb_1050 (i := 24) rfl
theorem dL_law__1494 : decode cL_law_ 1494 = .ok (.iaload, 1) := zdk_g zdb_1050 (i := 25) rfl
theorem dL_law__1495 : decode cL_law_ 1495 = .ok (.aload_n 3, 1) := zdk_g zdb_1050 (i := 26) rfl
theorem dL_law__1496 : decode cL_law_ 1496 = .ok (.invokestatic 269, 3) := zdk_g zdb_1050 (i := 27) rfl
theorem dL_law__1499 : decode cL_law_ 1499 = .ok (.istore 5, 2) := zdk_g zdb_1050 (i := 28) rfl
theorem dL_law__1501 : decode cL_law_ 1501 = .ok (.aload_n 2, 1) := zdk_g zdb_1050 (i := 29) rfl
theorem dL_law__1502 : decode cL_law_ 1502 = .ok (.aload_n 0, 1) := zdk_g zdb_1050 (i := 30) rfl
theorem dL_law__1503 : decode cL_law_ 1503 = .ok (.iload 4, 2) := zdk_g zdb_1050 (i := 31) rfl
def zdl_1051 : List (Nat × Instr × Nat) := [(1505, .iconst 1, 1), (1506, .iadd, 1), (1507, .iaload, 1), (1508, .invokevirtual 271, 3), (1511, .istore 6, 2), (1513, .goto 311, 3), (1516, .aload_n 1, 1), (1517, .invokevirtual 272, 3), (1520, .pop, 1), (1521, .aload_n 2, 1), (1522, .invokevirtual 275, 3), (1525, .pop, 1), (1526, .goto 298, 3), (1529, .aload_n 1, 1), (1530, .aload_n 0, 1), (1531, .iload 4, 2), (1533, .iconst 1, 1), (1534, .iadd, 1), (1535, .iaload, 1), (1536, .aload_n 0, 1), (1537, .iload 4, 2), (1539, .iconst 2, 1), (1540, .iadd, 1), (1541, .iaload, 1), (1542, .ifCond .eq 7, 3), (1545, .iconst 1, 1), (1546, .goto 4, 3), (1549, .iconst 0, 1), (1550, .aload_n 3, 1), (1551, .invokestatic 276, 3), (1554, .istore 5, 2), (1556, .aload_n 2, 1)]
theorem zdb_1051 : zdk cL_law_ zdl_1051 = true := by decide +kernel
theorem dL_law__1505 : decode cL_law_ 1505 = .ok (.iconst 1, 1) := zdk_g zdb_1051 (i := 0) rfl
theorem dL_law__1506 : decode cL_law_ 1506 = .ok (.iadd, 1) := zdk_g zdb_1051 (i := 1) rfl
theorem dL_law__1507 : decode cL_law_ 1507 = .ok (.iaload, 1) := zdk_g zdb_1051 (i := 2) rfl
theorem dL_law__1508 : decode cL_law_ 1508 = .ok (.invokevirtual 271, 3) := zdk_g zdb_1051 (i := 3) rfl
theorem dL_law__1511 : decode cL_law_ 1511 = .ok (.istore 6, 2) := zdk_g zdb_1051 (i := 4) rfl
theorem dL_law__1513 : decode cL_law_ 1513 = .ok (.goto 311, 3) := zdk_g zdb_1051 (i := 5) rfl
theorem dL_law__1516 : decode cL_law_ 1516 = .ok (.aload_n 1, 1) := zdk_g zdb_1051 (i := 6) rfl
theorem dL_law__1517 : decode cL_law_ 1517 = .ok (.invokevirtual 272, 3) := zdk_g zdb_1051 (i := 7) rfl
theorem dL_law__1520 : decode cL_law_ 1520 = .ok (.pop, 1) := zdk_g zdb_1051 (i := 8) rfl
theorem dL_law__1521 : decode cL_law_ 1521 = .ok (.aload_n 2, 1) := zdk_g zdb_1051 (i := 9) rfl
theorem dL_law__1522 : decode cL_law_ 1522 = .ok (.invokevirtual 275, 3) := zdk_g zdb_1051 (i := 10) rfl
theorem dL_law__1525 : decode cL_law_ 1525 = .ok (.pop, 1) := zdk_g zdb_1051 (i := 11) rfl
theorem dL_law__1526 : decode cL_law_ 1526 = .ok (.goto 298, 3) := zdk_g zdb_1051 (i := 12) rfl
theorem dL_law__1529 : decode cL_law_ 1529 = .ok (.aload_n 1, 1) := zdk_g zdb_1051 (i := 13) rfl
theorem dL_law__1530 : decode cL_law_ 1530 = .ok (.aload_n 0, 1) := zdk_g zdb_1051 (i := 14) rfl
theorem dL_law__1531 : decode cL_law_ 1531 = .ok (.iload 4, 2) := zdk_g zdb_1051 (i := 15) rfl
theorem dL_law__1533 : decode cL_law_ 1533 = .ok (.iconst 1, 1) := zdk_g zdb_1051 (i := 16) rfl
theorem dL_law__1534 : decode cL_law_ 1534 = .ok (.iadd, 1) := zdk_g zdb_1051 (i := 17) rfl
theorem dL_law__1535 : decode cL_law_ 1535 = .ok (.iaload, 1) := zdk_g zdb_1051 (i := 18) rfl
theorem dL_law__1536 : decode cL_law_ 1536 = .ok (.aload_n 0, 1) := zdk_g zdb_1051 (i := 19) rfl
theorem dL_law__1537 : decode cL_law_ 1537 = .ok (.iload 4, 2) := zdk_g zdb_1051 (i := 20) rfl
theorem dL_law__1539 : decode cL_law_ 1539 = .ok (.iconst 2, 1) := zdk_g zdb_1051 (i := 21) rfl
theorem dL_law__1540 : decode cL_law_ 1540 = .ok (.iadd, 1) := zdk_g zdb_1051 (i := 22) rfl
theorem dL_law__1541 : decode cL_law_ 1541 = .ok (.iaload, 1) := zdk_g zdb_1051 (i := 23) rfl
theorem dL_law__1542 : decode cL_law_ 1542 = .ok (.ifCond .eq 7, 3) := zdk_g zdb_1051 (i := 24) rfl
theorem dL_law__1545 : decode cL_law_ 1545 = .ok (.iconst 1, 1) := zdk_g zdb_1051 (i := 25) rfl
theorem dL_law__1546 : decode cL_law_ 1546 = .ok (.goto 4, 3) := zdk_g zdb_1051 (i := 26) rfl
theorem dL_law__1549 : decode cL_law_ 1549 = .ok (.iconst 0, 1) := zdk_g zdb_1051 (i := 27) rfl
theorem dL_law__1550 : decode cL_law_ 1550 = .ok (.aload_n 3, 1) := zdk_g zdb_1051 (i := 28) rfl
theorem dL_law__1551 : decode cL_law_ 1551 = .ok (.invokestatic 276, 3) := zdk_g zdb_1051 (i := 29) rfl
theorem dL_law__1554 : decode cL_law_ 1554 = .ok (.istore 5, 2) := zdk_g zdb_1051 (i := 30) rfl
theorem dL_law__1556 : decode cL_law_ 1556 = .ok (.aload_n 2, 1) := zdk_g zdb_1051 (i := 31) rfl
def zdl_1052 : List (Nat × Instr × Nat) := [(1557, .aload_n 0, 1), (1558, .iload 4, 2), (1560, .iconst 1, 1), (1561, .iadd, 1), (1562, .iaload, 1), (1563, .aload_n 0, 1), (1564, .iload 4, 2), (1566, .iconst 2, 1), (1567, .iadd, 1), (1568, .iaload, 1), (1569, .ifCond .eq 7, 3), (1572, .iconst 1, 1), (1573, .goto 4, 3), (1576, .iconst 0, 1), (1577, .invokevirtual 278, 3), (1580, .istore 6, 2), (1582, .goto 242, 3), (1585, .aload_n 1, 1), (1586, .aload_n 0, 1), (1587, .iload 4, 2), (1589, .iconst 1, 1), (1590, .iadd, 1), (1591, .iaload, 1), (1592, .aload_n 0, 1), (1593, .iload 4, 2), (1595, .iconst 2, 1), (1596, .iadd, 1), (1597, .iaload, 1), (1598, .ifCond .eq 7, 3), (1601, .iconst 1, 1), (1602, .goto 4, 3), (1605, .iconst 0, 1)]
theorem zdb_1052 : zdk cL_law_ zdl_1052 = true := by decide +kernel
theorem dL_law__1557 : decode cL_law_ 1557 = .ok (.aload_n 0, 1) := zdk_g zdb_1052 (i := 0) rfl
theorem dL_law__1558 : decode cL_law_ 1558 = .ok (.iload 4, 2) := zdk_g zdb_1052 (i := 1) rfl
theorem dL_law__1560 : decode cL_law_ 1560 = .ok (.iconst 1, 1) := zdk_g zdb_1052 (i := 2) rfl
theorem dL_law__1561 : decode cL_law_ 1561 = .ok (.iadd, 1) := zdk_g zdb_1052 (i := 3) rfl
theorem dL_law__1562 : decode cL_law_ 1562 = .ok (.iaload, 1) := zdk_g zdb_1052 (i := 4) rfl
theorem dL_law__1563 : decode cL_law_ 1563 = .ok (.aload_n 0, 1) := zdk_g zdb_1052 (i := 5) rfl
theorem dL_law__1564 : decode cL_law_ 1564 = .ok (.iload 4, 2) := zdk_g zdb_1052 (i := 6) rfl
theorem dL_law__1566 : decode cL_law_ 1566 = .ok (.iconst 2, 1) := zdk_g zdb_1052 (i := 7) rfl
theorem dL_law__1567 : decode cL_law_ 1567 = .ok (.iadd, 1) := zdk_g zdb_1052 (i := 8) rfl
theorem dL_law__1568 : decode cL_law_ 1568 = .ok (.iaload, 1) := zdk_g zdb_1052 (i := 9) rfl
theorem dL_law__1569 : decode cL_law_ 1569 = .ok (.ifCond .eq 7, 3) := zdk_g zdb_1052 (i := 10) rfl
theorem dL_law__1572 : decode cL_law_ 1572 = .ok (.iconst 1, 1) := zdk_g zdb_1052 (i := 11) rfl
theorem dL_law__1573 : decode cL_law_ 1573 = .ok (.goto 4, 3) := zdk_g zdb_1052 (i := 12) rfl
theorem dL_law__1576 : decode cL_law_ 1576 = .ok (.iconst 0, 1) := zdk_g zdb_1052 (i := 13) rfl
theorem dL_law__1577 : decode cL_law_ 1577 = .ok (.invokevirtual 278, 3) := zdk_g zdb_1052 (i := 14) rfl
theorem dL_law__1580 : decode cL_law_ 1580 = .ok (.istore 6, 2) := zdk_g zdb_1052 (i := 15) rfl
theorem dL_law__1582 : decode cL_law_ 1582 = .ok (.goto 242, 3) := zdk_g zdb_1052 (i := 16) rfl
theorem dL_law__1585 : decode cL_law_ 1585 = .ok (.aload_n 1, 1) := zdk_g zdb_1052 (i := 17) rfl
theorem dL_law__1586 : decode cL_law_ 1586 = .ok (.aload_n 0, 1) := zdk_g zdb_1052 (i := 18) rfl
theorem dL_law__1587 : decode cL_law_ 1587 = .ok (.iload 4, 2) := zdk_g zdb_1052 (i := 19) rfl
theorem dL_law__1589 : decode cL_law_ 1589 = .ok (.iconst 1, 1) := zdk_g zdb_1052 (i := 20) rfl
theorem dL_law__1590 : decode cL_law_ 1590 = .ok (.iadd, 1) := zdk_g zdb_1052 (i := 21) rfl
theorem dL_law__1591 : decode cL_law_ 1591 = .ok (.iaload, 1) := zdk_g zdb_1052 (i := 22) rfl
theorem dL_law__1592 : decode cL_law_ 1592 = .ok (.aload_n 0, 1) := zdk_g zdb_1052 (i := 23) rfl
theorem dL_law__1593 : decode cL_law_ 1593 = .ok (.iload 4, 2) := zdk_g zdb_1052 (i := 24) rfl
theorem dL_law__1595 : decode cL_law_ 1595 = .ok (.iconst 2, 1) := zdk_g zdb_1052 (i := 25) rfl
theorem dL_law__1596 : decode cL_law_ 1596 = .ok (.iadd, 1) := zdk_g zdb_1052 (i := 26) rfl
theorem dL_law__1597 : decode cL_law_ 1597 = .ok (.iaload, 1) := zdk_g zdb_1052 (i := 27) rfl
theorem dL_law__1598 : decode cL_law_ 1598 = .ok (.ifCond .eq 7, 3) := zdk_g zdb_1052 (i := 28) rfl
theorem dL_law__1601 : decode cL_law_ 1601 = .ok (.iconst 1, 1) := zdk_g zdb_1052 (i := 29) rfl
theorem dL_law__1602 : decode cL_law_ 1602 = .ok (.goto 4, 3) := zdk_g zdb_1052 (i := 30) rfl
theorem dL_law__1605 : decode cL_law_ 1605 = .ok (.iconst 0, 1) := zdk_g zdb_1052 (i := 31) rfl
def zdl_1053 : List (Nat × Instr × Nat) := [(1606, .aload_n 3, 1), (1607, .invokestatic 279, 3), (1610, .istore 5, 2), (1612, .aload_n 2, 1), (1613, .aload_n 0, 1), (1614, .iload 4, 2), (1616, .iconst 1, 1), (1617, .iadd, 1), (1618, .iaload, 1), (1619, .aload_n 0, 1), (1620, .iload 4, 2), (1622, .iconst 2, 1), (1623, .iadd, 1), (1624, .iaload, 1), (1625, .ifCond .eq 7, 3), (1628, .iconst 1, 1), (1629, .goto 4, 3), (1632, .iconst 0, 1), (1633, .invokevirtual 281, 3), (1636, .istore 6, 2), (1638, .goto 186, 3), (1641, .aload_n 1, 1), (1642, .aload_n 0, 1), (1643, .iload 4, 2), (1645, .iconst 1, 1), (1646, .iadd, 1), (1647, .iaload, 1), (1648, .aload_n 0, 1), (1649, .iload 4, 2), (1651, .iconst 2, 1), (1652, .iadd, 1), (1653, .iaload, 1)]
theorem zdb_1053 : zdk cL_law_ zdl_1053 = true := by decide +kernel
theorem dL_law__1606 : decode cL_law_ 1606 = .ok (.aload_n 3, 1) := zdk_g zdb_1053 (i := 0) rfl
theorem dL_law__1607 : decode cL_law_ 1607 = .ok (.invokestatic 279, 3) := zdk_g zdb_1053 (i := 1) rfl
theorem dL_law__1610 : decode cL_law_ 1610 = .ok (.istore 5, 2) := zdk_g zdb_1053 (i := 2) rfl
theorem dL_law__1612 : decode cL_law_ 1612 = .ok (.aload_n 2, 1) := zdk_g zdb_1053 (i := 3) rfl
theorem dL_law__1613 : decode cL_law_ 1613 = .ok (.aload_n 0, 1) := zdk_g zdb_1053 (i := 4) rfl
theorem dL_law__1614 : decode cL_law_ 1614 = .ok (.iload 4, 2) := zdk_g zdb_1053 (i := 5) rfl
theorem dL_law__1616 : decode cL_law_ 1616 = .ok (.iconst 1, 1) := zdk_g zdb_1053 (i := 6) rfl
theorem dL_law__1617 : decode cL_law_ 1617 = .ok (.iadd, 1) := zdk_g zdb_1053 (i := 7) rfl
theorem dL_law__1618 : decode cL_law_ 1618 = .ok (.iaload, 1) := zdk_g zdb_1053 (i := 8) rfl
theorem dL_law__1619 : decode cL_law_ 1619 = .ok (.aload_n 0, 1) := zdk_g zdb_1053 (i := 9) rfl
theorem dL_law__1620 : decode cL_law_ 1620 = .ok (.iload 4, 2) := zdk_g zdb_1053 (i := 10) rfl
theorem dL_law__1622 : decode cL_law_ 1622 = .ok (.iconst 2, 1) := zdk_g zdb_1053 (i := 11) rfl
theorem dL_law__1623 : decode cL_law_ 1623 = .ok (.iadd, 1) := zdk_g zdb_1053 (i := 12) rfl
theorem dL_law__1624 : decode cL_law_ 1624 = .ok (.iaload, 1) := zdk_g zdb_1053 (i := 13) rfl
theorem dL_law__1625 : decode cL_law_ 1625 = .ok (.ifCond .eq 7, 3) := zdk_g zdb_1053 (i := 14) rfl
theorem dL_law__1628 : decode cL_law_ 1628 = .ok (.iconst 1, 1) := zdk_g zdb_1053 (i := 15) rfl
theorem dL_law__1629 : decode cL_law_ 1629 = .ok (.goto 4, 3) := zdk_g zdb_1053 (i := 16) rfl
theorem dL_law__1632 : decode cL_law_ 1632 = .ok (.iconst 0, 1) := zdk_g zdb_1053 (i := 17) rfl
theorem dL_law__1633 : decode cL_law_ 1633 = .ok (.invokevirtual 281, 3) := zdk_g zdb_1053 (i := 18) rfl
theorem dL_law__1636 : decode cL_law_ 1636 = .ok (.istore 6, 2) := zdk_g zdb_1053 (i := 19) rfl
theorem dL_law__1638 : decode cL_law_ 1638 = .ok (.goto 186, 3) := zdk_g zdb_1053 (i := 20) rfl
theorem dL_law__1641 : decode cL_law_ 1641 = .ok (.aload_n 1, 1) := zdk_g zdb_1053 (i := 21) rfl
theorem dL_law__1642 : decode cL_law_ 1642 = .ok (.aload_n 0, 1) := zdk_g zdb_1053 (i := 22) rfl
theorem dL_law__1643 : decode cL_law_ 1643 = .ok (.iload 4, 2) := zdk_g zdb_1053 (i := 23) rfl
theorem dL_law__1645 : decode cL_law_ 1645 = .ok (.iconst 1, 1) := zdk_g zdb_1053 (i := 24) rfl
theorem dL_law__1646 : decode cL_law_ 1646 = .ok (.iadd, 1) := zdk_g zdb_1053 (i := 25) rfl
theorem dL_law__1647 : decode cL_law_ 1647 = .ok (.iaload, 1) := zdk_g zdb_1053 (i := 26) rfl
theorem dL_law__1648 : decode cL_law_ 1648 = .ok (.aload_n 0, 1) := zdk_g zdb_1053 (i := 27) rfl
theorem dL_law__1649 : decode cL_law_ 1649 = .ok (.iload 4, 2) := zdk_g zdb_1053 (i := 28) rfl
theorem dL_law__1651 : decode cL_law_ 1651 = .ok (.iconst 2, 1) := zdk_g zdb_1053 (i := 29) rfl
theorem dL_law__1652 : decode cL_law_ 1652 = .ok (.iadd, 1) := zdk_g zdb_1053 (i := 30) rfl
theorem dL_law__1653 : decode cL_law_ 1653 = .ok (.iaload, 1) := zdk_g zdb_1053 (i := 31) rfl
def zdl_1054 : List (Nat × Instr × Nat) := [(1654, .ifCond .eq 7, 3), (1657, .iconst 1, 1), (1658, .goto 4, 3), (1661, .iconst 0, 1), (1662, .aload_n 3, 1), (1663, .invokestatic 282, 3), (1666, .istore 5, 2), (1668, .aload_n 2, 1), (1669, .aload_n 0, 1), (1670, .iload 4, 2), (1672, .iconst 1, 1), (1673, .iadd, 1), (1674, .iaload, 1), (1675, .aload_n 0, 1), (1676, .iload 4, 2), (1678, .iconst 2, 1), (1679, .iadd, 1), (1680, .iaload, 1), (1681, .ifCond .eq 7, 3), (1684, .iconst 1, 1), (1685, .goto 4, 3), (1688, .iconst 0, 1), (1689, .invokevirtual 284, 3), (1692, .istore 6, 2), (1694, .goto 130, 3), (1697, .aload_n 1, 1), (1698, .aload_n 0, 1), (1699, .iload 4, 2), (1701, .iconst 1, 1), (1702, .iadd, 1), (1703, .iaload, 1), (1704, .aload_n 0, 1)]
theorem zdb_1054 : zdk cL_law_ zdl_1054 = true := by decide +kernel
theorem dL_law__1654 : decode cL_law_ 1654 = .ok (.ifCond .eq 7, 3) := zdk_g zdb_1054 (i := 0) rfl
theorem dL_law__1657 : decode cL_law_ 1657 = .ok (.iconst 1, 1) := zdk_g zdb_1054 (i := 1) rfl
theorem dL_law__1658 : decode cL_law_ 1658 = .ok (.goto 4, 3) := zdk_g zdb_1054 (i := 2) rfl
theorem dL_law__1661 : decode cL_law_ 1661 = .ok (.iconst 0, 1) := zdk_g zdb_1054 (i := 3) rfl
theorem dL_law__1662 : decode cL_law_ 1662 = .ok (.aload_n 3, 1) := zdk_g zdb_1054 (i := 4) rfl
theorem dL_law__1663 : decode cL_law_ 1663 = .ok (.invokestatic 282, 3) := zdk_g zdb_1054 (i := 5) rfl
theorem dL_law__1666 : decode cL_law_ 1666 = .ok (.istore 5, 2) := zdk_g zdb_1054 (i := 6) rfl
theorem dL_law__1668 : decode cL_law_ 1668 = .ok (.aload_n 2, 1) := zdk_g zdb_1054 (i := 7) rfl
theorem dL_law__1669 : decode cL_law_ 1669 = .ok (.aload_n 0, 1) := zdk_g zdb_1054 (i := 8) rfl
theorem dL_law__1670 : decode cL_law_ 1670 = .ok (.iload 4, 2) := zdk_g zdb_1054 (i := 9) rfl
theorem dL_law__1672 : decode cL_law_ 1672 = .ok (.iconst 1, 1) := zdk_g zdb_1054 (i := 10) rfl
theorem dL_law__1673 : decode cL_law_ 1673 = .ok (.iadd, 1) := zdk_g zdb_1054 (i := 11) rfl
theorem dL_law__1674 : decode cL_law_ 1674 = .ok (.iaload, 1) := zdk_g zdb_1054 (i := 12) rfl
theorem dL_law__1675 : decode cL_law_ 1675 = .ok (.aload_n 0, 1) := zdk_g zdb_1054 (i := 13) rfl
theorem dL_law__1676 : decode cL_law_ 1676 = .ok (.iload 4, 2) := zdk_g zdb_1054 (i := 14) rfl
theorem dL_law__1678 : decode cL_law_ 1678 = .ok (.iconst 2, 1) := zdk_g zdb_1054 (i := 15) rfl
theorem dL_law__1679 : decode cL_law_ 1679 = .ok (.iadd, 1) := zdk_g zdb_1054 (i := 16) rfl
theorem dL_law__1680 : decode cL_law_ 1680 = .ok (.iaload, 1) := zdk_g zdb_1054 (i := 17) rfl
theorem dL_law__1681 : decode cL_law_ 1681 = .ok (.ifCond .eq 7, 3) := zdk_g zdb_1054 (i := 18) rfl
theorem dL_law__1684 : decode cL_law_ 1684 = .ok (.iconst 1, 1) := zdk_g zdb_1054 (i := 19) rfl
theorem dL_law__1685 : decode cL_law_ 1685 = .ok (.goto 4, 3) := zdk_g zdb_1054 (i := 20) rfl
theorem dL_law__1688 : decode cL_law_ 1688 = .ok (.iconst 0, 1) := zdk_g zdb_1054 (i := 21) rfl
theorem dL_law__1689 : decode cL_law_ 1689 = .ok (.invokevirtual 284, 3) := zdk_g zdb_1054 (i := 22) rfl
theorem dL_law__1692 : decode cL_law_ 1692 = .ok (.istore 6, 2) := zdk_g zdb_1054 (i := 23) rfl
theorem dL_law__1694 : decode cL_law_ 1694 = .ok (.goto 130, 3) := zdk_g zdb_1054 (i := 24) rfl
theorem dL_law__1697 : decode cL_law_ 1697 = .ok (.aload_n 1, 1) := zdk_g zdb_1054 (i := 25) rfl
theorem dL_law__1698 : decode cL_law_ 1698 = .ok (.aload_n 0, 1) := zdk_g zdb_1054 (i := 26) rfl
theorem dL_law__1699 : decode cL_law_ 1699 = .ok (.iload 4, 2) := zdk_g zdb_1054 (i := 27) rfl
theorem dL_law__1701 : decode cL_law_ 1701 = .ok (.iconst 1, 1) := zdk_g zdb_1054 (i := 28) rfl
theorem dL_law__1702 : decode cL_law_ 1702 = .ok (.iadd, 1) := zdk_g zdb_1054 (i := 29) rfl
theorem dL_law__1703 : decode cL_law_ 1703 = .ok (.iaload, 1) := zdk_g zdb_1054 (i := 30) rfl
theorem dL_law__1704 : decode cL_law_ 1704 = .ok (.aload_n 0, 1) := zdk_g zdb_1054 (i := 31) rfl
def zdl_1055 : List (Nat × Instr × Nat) := [(1705, .iload 4, 2), (1707, .iconst 2, 1), (1708, .iadd, 1), (1709, .iaload, 1), (1710, .aload_n 3, 1), (1711, .invokestatic 285, 3), (1714, .istore 5, 2), (1716, .aload_n 2, 1), (1717, .aload_n 0, 1), (1718, .iload 4, 2), (1720, .iconst 1, 1), (1721, .iadd, 1), (1722, .iaload, 1), (1723, .aload_n 0, 1), (1724, .iload 4, 2), (1726, .iconst 2, 1), (1727, .iadd, 1), (1728, .iaload, 1), (1729, .invokevirtual 287, 3), (1732, .istore 6, 2), (1734, .goto 90, 3), (1737, .aload_n 1, 1), (1738, .aload_n 0, 1), (1739, .iload 4, 2), (1741, .iconst 1, 1), (1742, .iadd, 1), (1743, .iaload, 1), (1744, .invokevirtual 288, 3), (1747, .pop, 1), (1748, .aload_n 2, 1), (1749, .aload_n 0, 1), (1750, .iload 4, 2)]
theorem zdb_1055 : zdk cL_law_ zdl_1055 = true := by decide +kernel
theorem dL_law__1705 : decode cL_law_ 1705 = .ok (.iload 4, 2) := zdk_g zdb_1055 (i := 0) rfl
theorem dL_law__1707 : decode cL_law_ 1707 = .ok (.iconst 2, 1) := zdk_g zdb_1055 (i := 1) rfl
theorem dL_law__1708 : decode cL_law_ 1708 = .ok (.iadd, 1) := zdk_g zdb_1055 (i := 2) rfl
theorem dL_law__1709 : decode cL_law_ 1709 = .ok (.iaload, 1) := zdk_g zdb_1055 (i := 3) rfl
theorem dL_law__1710 : decode cL_law_ 1710 = .ok (.aload_n 3, 1) := zdk_g zdb_1055 (i := 4) rfl
theorem dL_law__1711 : decode cL_law_ 1711 = .ok (.invokestatic 285, 3) := zdk_g zdb_1055 (i := 5) rfl
theorem dL_law__1714 : decode cL_law_ 1714 = .ok (.istore 5, 2) := zdk_g zdb_1055 (i := 6) rfl
theorem dL_law__1716 : decode cL_law_ 1716 = .ok (.aload_n 2, 1) := zdk_g zdb_1055 (i := 7) rfl
theorem dL_law__1717 : decode cL_law_ 1717 = .ok (.aload_n 0, 1) := zdk_g zdb_1055 (i := 8) rfl
theorem dL_law__1718 : decode cL_law_ 1718 = .ok (.iload 4, 2) := zdk_g zdb_1055 (i := 9) rfl
theorem dL_law__1720 : decode cL_law_ 1720 = .ok (.iconst 1, 1) := zdk_g zdb_1055 (i := 10) rfl
theorem dL_law__1721 : decode cL_law_ 1721 = .ok (.iadd, 1) := zdk_g zdb_1055 (i := 11) rfl
theorem dL_law__1722 : decode cL_law_ 1722 = .ok (.iaload, 1) := zdk_g zdb_1055 (i := 12) rfl
theorem dL_law__1723 : decode cL_law_ 1723 = .ok (.aload_n 0, 1) := zdk_g zdb_1055 (i := 13) rfl
theorem dL_law__1724 : decode cL_law_ 1724 = .ok (.iload 4, 2) := zdk_g zdb_1055 (i := 14) rfl
theorem dL_law__1726 : decode cL_law_ 1726 = .ok (.iconst 2, 1) := zdk_g zdb_1055 (i := 15) rfl
theorem dL_law__1727 : decode cL_law_ 1727 = .ok (.iadd, 1) := zdk_g zdb_1055 (i := 16) rfl
theorem dL_law__1728 : decode cL_law_ 1728 = .ok (.iaload, 1) := zdk_g zdb_1055 (i := 17) rfl
theorem dL_law__1729 : decode cL_law_ 1729 = .ok (.invokevirtual 287, 3) := zdk_g zdb_1055 (i := 18) rfl
theorem dL_law__1732 : decode cL_law_ 1732 = .ok (.istore 6, 2) := zdk_g zdb_1055 (i := 19) rfl
theorem dL_law__1734 : decode cL_law_ 1734 = .ok (.goto 90, 3) := zdk_g zdb_1055 (i := 20) rfl
theorem dL_law__1737 : decode cL_law_ 1737 = .ok (.aload_n 1, 1) := zdk_g zdb_1055 (i := 21) rfl
theorem dL_law__1738 : decode cL_law_ 1738 = .ok (.aload_n 0, 1) := zdk_g zdb_1055 (i := 22) rfl
theorem dL_law__1739 : decode cL_law_ 1739 = .ok (.iload 4, 2) := zdk_g zdb_1055 (i := 23) rfl
theorem dL_law__1741 : decode cL_law_ 1741 = .ok (.iconst 1, 1) := zdk_g zdb_1055 (i := 24) rfl
theorem dL_law__1742 : decode cL_law_ 1742 = .ok (.iadd, 1) := zdk_g zdb_1055 (i := 25) rfl
theorem dL_law__1743 : decode cL_law_ 1743 = .ok (.iaload, 1) := zdk_g zdb_1055 (i := 26) rfl
theorem dL_law__1744 : decode cL_law_ 1744 = .ok (.invokevirtual 288, 3) := zdk_g zdb_1055 (i := 27) rfl
theorem dL_law__1747 : decode cL_law_ 1747 = .ok (.pop, 1) := zdk_g zdb_1055 (i := 28) rfl
theorem dL_law__1748 : decode cL_law_ 1748 = .ok (.aload_n 2, 1) := zdk_g zdb_1055 (i := 29) rfl
theorem dL_law__1749 : decode cL_law_ 1749 = .ok (.aload_n 0, 1) := zdk_g zdb_1055 (i := 30) rfl
theorem dL_law__1750 : decode cL_law_ 1750 = .ok (.iload 4, 2) := zdk_g zdb_1055 (i := 31) rfl
def zdl_1056 : List (Nat × Instr × Nat) := [(1752, .iconst 1, 1), (1753, .iadd, 1), (1754, .iaload, 1), (1755, .invokevirtual 291, 3), (1758, .pop, 1), (1759, .goto 65, 3), (1762, .aload_n 1, 1), (1763, .invokevirtual 292, 3), (1766, .pop, 1), (1767, .aload_n 2, 1), (1768, .invokevirtual 296, 3), (1771, .pop, 1), (1772, .goto 52, 3), (1775, .aload_n 1, 1), (1776, .invokevirtual 297, 3), (1779, .aload_n 2, 1), (1780, .invokevirtual 300, 3), (1783, .goto 41, 3), (1786, .aload_n 1, 1), (1787, .invokevirtual 301, 3), (1790, .pop, 1), (1791, .aload_n 2, 1), (1792, .invokevirtual 304, 3), (1795, .pop, 1), (1796, .goto 28, 3), (1799, .aload_n 1, 1), (1800, .aload_n 0, 1), (1801, .iload 4, 2), (1803, .iconst 1, 1), (1804, .iadd, 1), (1805, .iaload, 1), (1806, .invokevirtual 305, 3)]
theorem zdb_1056 : zdk cL_law_ zdl_1056 = true := by decide +kernel
theorem dL_law__1752 : decode cL_law_ 1752 = .ok (.iconst 1, 1) := zdk_g zdb_1056 (i := 0) rfl
theorem dL_law__1753 : decode cL_law_ 1753 = .ok (.iadd, 1) := zdk_g zdb_1056 (i := 1) rfl
theorem dL_law__1754 : decode cL_law_ 1754 = .ok (.iaload, 1) := zdk_g zdb_1056 (i := 2) rfl
theorem dL_law__1755 : decode cL_law_ 1755 = .ok (.invokevirtual 291, 3) := zdk_g zdb_1056 (i := 3) rfl
theorem dL_law__1758 : decode cL_law_ 1758 = .ok (.pop, 1) := zdk_g zdb_1056 (i := 4) rfl
theorem dL_law__1759 : decode cL_law_ 1759 = .ok (.goto 65, 3) := zdk_g zdb_1056 (i := 5) rfl
theorem dL_law__1762 : decode cL_law_ 1762 = .ok (.aload_n 1, 1) := zdk_g zdb_1056 (i := 6) rfl
theorem dL_law__1763 : decode cL_law_ 1763 = .ok (.invokevirtual 292, 3) := zdk_g zdb_1056 (i := 7) rfl
theorem dL_law__1766 : decode cL_law_ 1766 = .ok (.pop, 1) := zdk_g zdb_1056 (i := 8) rfl
theorem dL_law__1767 : decode cL_law_ 1767 = .ok (.aload_n 2, 1) := zdk_g zdb_1056 (i := 9) rfl
theorem dL_law__1768 : decode cL_law_ 1768 = .ok (.invokevirtual 296, 3) := zdk_g zdb_1056 (i := 10) rfl
theorem dL_law__1771 : decode cL_law_ 1771 = .ok (.pop, 1) := zdk_g zdb_1056 (i := 11) rfl
theorem dL_law__1772 : decode cL_law_ 1772 = .ok (.goto 52, 3) := zdk_g zdb_1056 (i := 12) rfl
theorem dL_law__1775 : decode cL_law_ 1775 = .ok (.aload_n 1, 1) := zdk_g zdb_1056 (i := 13) rfl
theorem dL_law__1776 : decode cL_law_ 1776 = .ok (.invokevirtual 297, 3) := zdk_g zdb_1056 (i := 14) rfl
theorem dL_law__1779 : decode cL_law_ 1779 = .ok (.aload_n 2, 1) := zdk_g zdb_1056 (i := 15) rfl
theorem dL_law__1780 : decode cL_law_ 1780 = .ok (.invokevirtual 300, 3) := zdk_g zdb_1056 (i := 16) rfl
theorem dL_law__1783 : decode cL_law_ 1783 = .ok (.goto 41, 3) := zdk_g zdb_1056 (i := 17) rfl
theorem dL_law__1786 : decode cL_law_ 1786 = .ok (.aload_n 1, 1) := zdk_g zdb_1056 (i := 18) rfl
theorem dL_law__1787 : decode cL_law_ 1787 = .ok (.invokevirtual 301, 3) := zdk_g zdb_1056 (i := 19) rfl
theorem dL_law__1790 : decode cL_law_ 1790 = .ok (.pop, 1) := zdk_g zdb_1056 (i := 20) rfl
theorem dL_law__1791 : decode cL_law_ 1791 = .ok (.aload_n 2, 1) := zdk_g zdb_1056 (i := 21) rfl
theorem dL_law__1792 : decode cL_law_ 1792 = .ok (.invokevirtual 304, 3) := zdk_g zdb_1056 (i := 22) rfl
theorem dL_law__1795 : decode cL_law_ 1795 = .ok (.pop, 1) := zdk_g zdb_1056 (i := 23) rfl
theorem dL_law__1796 : decode cL_law_ 1796 = .ok (.goto 28, 3) := zdk_g zdb_1056 (i := 24) rfl
theorem dL_law__1799 : decode cL_law_ 1799 = .ok (.aload_n 1, 1) := zdk_g zdb_1056 (i := 25) rfl
theorem dL_law__1800 : decode cL_law_ 1800 = .ok (.aload_n 0, 1) := zdk_g zdb_1056 (i := 26) rfl
theorem dL_law__1801 : decode cL_law_ 1801 = .ok (.iload 4, 2) := zdk_g zdb_1056 (i := 27) rfl
theorem dL_law__1803 : decode cL_law_ 1803 = .ok (.iconst 1, 1) := zdk_g zdb_1056 (i := 28) rfl
theorem dL_law__1804 : decode cL_law_ 1804 = .ok (.iadd, 1) := zdk_g zdb_1056 (i := 29) rfl
theorem dL_law__1805 : decode cL_law_ 1805 = .ok (.iaload, 1) := zdk_g zdb_1056 (i := 30) rfl
theorem dL_law__1806 : decode cL_law_ 1806 = .ok (.invokevirtual 305, 3) := zdk_g zdb_1056 (i := 31) rfl
def zdl_1057 : List (Nat × Instr × Nat) := [(1809, .pop, 1), (1810, .aload_n 2, 1), (1811, .aload_n 0, 1), (1812, .iload 4, 2), (1814, .iconst 1, 1), (1815, .iadd, 1), (1816, .iaload, 1), (1817, .invokevirtual 308, 3), (1820, .pop, 1), (1821, .goto 3, 3), (1824, .iinc 4 6, 3), (1827, .goto (-1804), 3), (1830, .iconst 1, 1), (1831, .ireturn, 1)]
theorem zdb_1057 : zdk cL_law_ zdl_1057 = true := by decide +kernel
theorem dL_law__1809 : decode cL_law_ 1809 = .ok (.pop, 1) := zdk_g zdb_1057 (i := 0) rfl
theorem dL_law__1810 : decode cL_law_ 1810 = .ok (.aload_n 2, 1) := zdk_g zdb_1057 (i := 1) rfl
theorem dL_law__1811 : decode cL_law_ 1811 = .ok (.aload_n 0, 1) := zdk_g zdb_1057 (i := 2) rfl
theorem dL_law__1812 : decode cL_law_ 1812 = .ok (.iload 4, 2) := zdk_g zdb_1057 (i := 3) rfl
theorem dL_law__1814 : decode cL_law_ 1814 = .ok (.iconst 1, 1) := zdk_g zdb_1057 (i := 4) rfl
theorem dL_law__1815 : decode cL_law_ 1815 = .ok (.iadd, 1) := zdk_g zdb_1057 (i := 5) rfl
theorem dL_law__1816 : decode cL_law_ 1816 = .ok (.iaload, 1) := zdk_g zdb_1057 (i := 6) rfl
theorem dL_law__1817 : decode cL_law_ 1817 = .ok (.invokevirtual 308, 3) := zdk_g zdb_1057 (i := 7) rfl
theorem dL_law__1820 : decode cL_law_ 1820 = .ok (.pop, 1) := zdk_g zdb_1057 (i := 8) rfl
theorem dL_law__1821 : decode cL_law_ 1821 = .ok (.goto 3, 3) := zdk_g zdb_1057 (i := 9) rfl
theorem dL_law__1824 : decode cL_law_ 1824 = .ok (.iinc 4 6, 3) := zdk_g zdb_1057 (i := 10) rfl
theorem dL_law__1827 : decode cL_law_ 1827 = .ok (.goto (-1804), 3) := zdk_g zdb_1057 (i := 11) rfl
theorem dL_law__1830 : decode cL_law_ 1830 = .ok (.iconst 1, 1) := zdk_g zdb_1057 (i := 12) rfl
theorem dL_law__1831 : decode cL_law_ 1831 = .ok (.ireturn, 1) := zdk_g zdb_1057 (i := 13) rfl
