def zdl_1041 : List (Nat × Instr × Nat) := [(1006, .aload_n 3, 1), (1007, .invokestatic 207, 3), (1010, .istore 5, 2), (1012, .aload_n 2, 1), (1013, .aload_n 0, 1), (1014, .iload 4, 2), (1016, .iconst 1, 1), (1017, .iadd, 1), (1018, .iaload, 1), (1019, .aload_n 0, 1), (1020, .iload 4, 2), (1022, .iconst 2, 1), (1023, .iadd, 1), (1024, .iaload, 1), (1025, .invokevirtual 209, 3), (1028, .istore 6, 2), (1030, .goto 822, 3), (1033, .aload_n 1, 1), (1034, .aload_n 0, 1), (1035, .iload 4, 2), (1037, .iconst 1, 1), (1038, .iadd, 1), (1039, .iaload, 1), (1040, .aload_n 3, 1), (1041, .invokestatic 210, 3), (1044, .istore 5, 2), (1046, .aload_n 2, 1), (1047, .aload_n 0, 1), (1048, .iload 4, 2), (1050, .iconst 1, 1), (1051, .iadd, 1), (1052, .iaload, 1)]
theorem zdb_1041 : zdk cL_law_ zdl_1041 = true := by decide +kernel
theorem dL_law__1006 : decode cL_law_ 1006 = .ok (.aload_n 3, 1) := zdk_g zdb_1041 (i := 0) rfl
theorem dL_law__1007 : decode cL_law_ 1007 = .ok (.invokestatic 207, 3) := zdk_g zdb_1041 (i := 1) rfl
theorem dL_law__1010 : decode cL_law_ 1010 = .ok (.istore 5, 2) := zdk_g zdb_1041 (i := 2) rfl
theorem dL_law__1012 : decode cL_law_ 1012 = .ok (.aload_n 2, 1) := zdk_g zdb_1041 (i := 3) rfl
theorem dL_law__1013 : decode cL_law_ 1013 = .ok (.aload_n 0, 1) := zdk_g zdb_1041 (i := 4) rfl
theorem dL_law__1014 : decode cL_law_ 1014 = .ok (.iload 4, 2) := zdk_g zdb_1041 (i := 5) rfl
theorem dL_law__1016 : decode cL_law_ 1016 = .ok (.iconst 1, 1) := zdk_g zdb_1041 (i := 6) rfl
theorem dL_law__1017 : decode cL_law_ 1017 = .ok (.iadd, 1) := zdk_g zdb_1041 (i := 7) rfl
theorem dL_law__1018 : decode cL_law_ 1018 = .ok (.iaload, 1) := zdk_g zdb_1041 (i := 8) rfl
theorem dL_law__1019 : decode cL_law_ 1019 = .ok (.aload_n 0, 1) := zdk_g zdb_1041 (i := 9) rfl
theorem dL_law__1020 : decode cL_law_ 1020 = .ok (.iload 4, 2) := zdk_g zdb_1041 (i := 10) rfl
theorem dL_law__1022 : decode cL_law_ 1022 = .ok (.iconst 2, 1) := zdk_g zdb_1041 (i := 11) rfl
theorem dL_law__1023 : decode cL_law_ 1023 = .ok (.iadd, 1) := zdk_g zdb_1041 (i := 12) rfl
theorem dL_law__1024 : decode cL_law_ 1024 = .ok (.iaload, 1) := zdk_g zdb_1041 (i := 13) rfl
theorem dL_law__1025 : decode cL_law_ 1025 = .ok (.invokevirtual 209, 3) := zdk_g zdb_1041 (i := 14) rfl
theorem dL_law__1028 : decode cL_law_ 1028 = .ok (.istore 6, 2) := zdk_g zdb_1041 (i := 15) rfl
theorem dL_law__1030 : decode cL_law_ 1030 = .ok (.goto 822, 3) := zdk_g zdb_1041 (i := 16) rfl
theorem dL_law__1033 : decode cL_law_ 1033 = .ok (.aload_n 1, 1) := zdk_g zdb_1041 (i := 17) rfl
theorem dL_law__1034 : decode cL_law_ 1034 = .ok (.aload_n 0, 1) := zdk_g zdb_1041 (i := 18) rfl
theorem dL_law__1035 : decode cL_law_ 1035 = .ok (.iload 4, 2) := zdk_g zdb_1041 (i := 19) rfl
theorem dL_law__1037 : decode cL_law_ 1037 = .ok (.iconst 1, 1) := zdk_g zdb_1041 (i := 20) rfl
theorem dL_law__1038 : decode cL_law_ 1038 = .ok (.iadd, 1) := zdk_g zdb_1041 (i := 21) rfl
theorem dL_law__1039 : decode cL_law_ 1039 = .ok (.iaload, 1) := zdk_g zdb_1041 (i := 22) rfl
theorem dL_law__1040 : decode cL_law_ 1040 = .ok (.aload_n 3, 1) := zdk_g zdb_1041 (i := 23) rfl
theorem dL_law__1041 : decode cL_law_ 1041 = .ok (.invokestatic 210, 3) := zdk_g zdb_1041 (i := 24) rfl
theorem dL_law__1044 : decode cL_law_ 1044 = .ok (.istore 5, 2) := zdk_g zdb_1041 (i := 25) rfl
theorem dL_law__1046 : decode cL_law_ 1046 = .ok (.aload_n 2, 1) := zdk_g zdb_1041 (i := 26) rfl
theorem dL_law__1047 : decode cL_law_ 1047 = .ok (.aload_n 0, 1) := zdk_g zdb_1041 (i := 27) rfl
theorem dL_law__1048 : decode cL_law_ 1048 = .ok (.iload 4, 2) := zdk_g zdb_1041 (i := 28) rfl
theorem dL_law__1050 : decode cL_law_ 1050 = .ok (.iconst 1, 1) := zdk_g zdb_1041 (i := 29) rfl
theorem dL_law__1051 : decode cL_law_ 1051 = .ok (.iadd, 1) := zdk_g zdb_1041 (i := 30) rfl
theorem dL_law__1052 : decode cL_law_ 1052 = .ok (.iaload, 1) := zdk_g zdb_1041 (i := 31) rfl
def zdl_1042 : List (Nat × Instr × Nat) := [(1053, .invokevirtual 212, 3), (1056, .istore 6, 2), (1058, .goto 794, 3), (1061, .aload_n 1, 1), (1062, .invokevirtual 213, 3), (1065, .pop, 1), (1066, .aload_n 2, 1), (1067, .invokevirtual 216, 3), (1070, .pop, 1), (1071, .goto 781, 3), (1074, .aload_n 1, 1), (1075, .invokevirtual 217, 3), (1078, .pop, 1), (1079, .aload_n 2, 1), (1080, .invokevirtual 220, 3), (1083, .pop, 1), (1084, .goto 768, 3), (1087, .aload_n 1, 1), (1088, .aload_n 0, 1), (1089, .iload 4, 2), (1091, .iconst 1, 1), (1092, .iadd, 1), (1093, .iaload, 1), (1094, .aload_n 0, 1), (1095, .iload 4, 2), (1097, .iconst 2, 1), (1098, .iadd, 1), (1099, .iaload, 1), (1100, .ifCond .eq 7, 3), (1103, .iconst 1, 1), (1104, .goto 4, 3), (1107, .iconst 0, 1)]
theorem zdb_1042 : zdk cL_law_ zdl_1042 = true := by decide +kernel
theorem dL_law__1053 : decode cL_law_ 1053 = .ok (.invokevirtual 212, 3) := zdk_g zdb_1042 (i := 0) rfl
theorem dL_law__1056 : decode cL_law_ 1056 = .ok (.istore 6, 2) := zdk_g zdb_1042 (i := 1) rfl
theorem dL_law__1058 : decode cL_law_ 1058 = .ok (.goto 794, 3) := zdk_g zdb_1042 (i := 2) rfl
theorem dL_law__1061 : decode cL_law_ 1061 = .ok (.aload_n 1, 1) := zdk_g zdb_1042 (i := 3) rfl
theorem dL_law__1062 : decode cL_law_ 1062 = .ok (.invokevirtual 213, 3) := zdk_g zdb_1042 (i := 4) rfl
theorem dL_law__1065 : decode cL_law_ 1065 = .ok (.pop, 1) := zdk_g zdb_1042 (i := 5) rfl
theorem dL_law__1066 : decode cL_law_ 1066 = .ok (.aload_n 2, 1) := zdk_g zdb_1042 (i := 6) rfl
theorem dL_law__1067 : decode cL_law_ 1067 = .ok (.invokevirtual 216, 3) := zdk_g zdb_1042 (i := 7) rfl
theorem dL_law__1070 : decode cL_law_ 1070 = .ok (.pop, 1) := zdk_g zdb_1042 (i := 8) rfl
theorem dL_law__1071 : decode cL_law_ 1071 = .ok (.goto 781, 3) := zdk_g zdb_1042 (i := 9) rfl
theorem dL_law__1074 : decode cL_law_ 1074 = .ok (.aload_n 1, 1) := zdk_g zdb_1042 (i := 10) rfl
theorem dL_law__1075 : decode cL_law_ 1075 = .ok (.invokevirtual 217, 3) := zdk_g zdb_1042 (i := 11) rfl
theorem dL_law__1078 : decode cL_law_ 1078 = .ok (.pop, 1) := zdk_g zdb_1042 (i := 12) rfl
theorem dL_law__1079 : decode cL_law_ 1079 = .ok (.aload_n 2, 1) := zdk_g zdb_1042 (i := 13) rfl
theorem dL_law__1080 : decode cL_law_ 1080 = .ok (.invokevirtual 220, 3) := zdk_g zdb_1042 (i := 14) rfl
theorem dL_law__1083 : decode cL_law_ 1083 = .ok (.pop, 1) := zdk_g zdb_1042 (i := 15) rfl
theorem dL_law__1084 : decode cL_law_ 1084 = .ok (.goto 768, 3) := zdk_g zdb_1042 (i := 16) rfl
theorem dL_law__1087 : decode cL_law_ 1087 = .ok (.aload_n 1, 1) := zdk_g zdb_1042 (i := 17) rfl
theorem dL_law__1088 : decode cL_law_ 1088 = .ok (.aload_n 0, 1) := zdk_g zdb_1042 (i := 18) rfl
theorem dL_law__1089 : decode cL_law_ 1089 = .ok (.iload 4, 2) := zdk_g zdb_1042 (i := 19) rfl
theorem dL_law__1091 : decode cL_law_ 1091 = .ok (.iconst 1, 1) := zdk_g zdb_1042 (i := 20) rfl
theorem dL_law__1092 : decode cL_law_ 1092 = .ok (.iadd, 1) := zdk_g zdb_1042 (i := 21) rfl
theorem dL_law__1093 : decode cL_law_ 1093 = .ok (.iaload, 1) := zdk_g zdb_1042 (i := 22) rfl
theorem dL_law__1094 : decode cL_law_ 1094 = .ok (.aload_n 0, 1) := zdk_g zdb_1042 (i := 23) rfl
theorem dL_law__1095 : decode cL_law_ 1095 = .ok (.iload 4, 2) := zdk_g zdb_1042 (i := 24) rfl
theorem dL_law__1097 : decode cL_law_ 1097 = .ok (.iconst 2, 1) := zdk_g zdb_1042 (i := 25) rfl
theorem dL_law__1098 : decode cL_law_ 1098 = .ok (.iadd, 1) := zdk_g zdb_1042 (i := 26) rfl
theorem dL_law__1099 : decode cL_law_ 1099 = .ok (.iaload, 1) := zdk_g zdb_1042 (i := 27) rfl
theorem dL_law__1100 : decode cL_law_ 1100 = .ok (.ifCond .eq 7, 3) := zdk_g zdb_1042 (i := 28) rfl
theorem dL_law__1103 : decode cL_law_ 1103 = .ok (.iconst 1, 1) := zdk_g zdb_1042 (i := 29) rfl
theorem dL_law__1104 : decode cL_law_ 1104 = .ok (.goto 4, 3) := zdk_g zdb_1042 (i := 30) rfl
theorem dL_law__1107 : decode cL_law_ 1107 = .ok (.iconst 0, 1) := zdk_g zdb_1042 (i := 31) rfl
def zdl_1043 : List (Nat × Instr × Nat) := [(1108, .aload_n 3, 1), (1109, .invokestatic 221, 3), (1112, .istore 5, 2), (1114, .aload_n 2, 1), (1115, .aload_n 0, 1), (1116, .iload 4, 2), (1118, .iconst 1, 1), (1119, .iadd, 1), (1120, .iaload, 1), (1121, .aload_n 0, 1), (1122, .iload 4, 2), (1124, .iconst 2, 1), (1125, .iadd, 1), (1126, .iaload, 1), (1127, .ifCond .eq 7, 3), (1130, .iconst 1, 1), (1131, .goto 4, 3), (1134, .iconst 0, 1), (1135, .invokevirtual 223, 3), (1138, .istore 6, 2), (1140, .goto 712, 3), (1143, .aload_n 1, 1), (1144, .aload_n 0, 1), (1145, .iload 4, 2), (1147, .iconst 1, 1), (1148, .iadd, 1), (1149, .iaload, 1), (1150, .aload_n 3, 1), (1151, .invokestatic 224, 3), (1154, .istore 5, 2), (1156, .aload_n 2, 1), (1157, .aload_n 0, 1)]
theorem zdb_1043 : zdk cL_law_ zdl_1043 = true := by decide +kernel
theorem dL_law__1108 : decode cL_law_ 1108 = .ok (.aload_n 3, 1) := zdk_g zdb_1043 (i := 0) rfl
theorem dL_law__1109 : decode cL_law_ 1109 = .ok (.invokestatic 221, 3) := zdk_g zdb_1043 (i := 1) rfl
theorem dL_law__1112 : decode cL_law_ 1112 = .ok (.istore 5, 2) := zdk_g zdb_1043 (i := 2) rfl
theorem dL_law__1114 : decode cL_law_ 1114 = .ok (.aload_n 2, 1) := zdk_g zdb_1043 (i := 3) rfl
theorem dL_law__1115 : decode cL_law_ 1115 = .ok (.aload_n 0, 1) := zdk_g zdb_1043 (i := 4) rfl
theorem dL_law__1116 : decode cL_law_ 1116 = .ok (.iload 4, 2) := zdk_g zdb_1043 (i := 5) rfl
theorem dL_law__1118 : decode cL_law_ 1118 = .ok (.iconst 1, 1) := zdk_g zdb_1043 (i := 6) rfl
theorem dL_law__1119 : decode cL_law_ 1119 = .ok (.iadd, 1) := zdk_g zdb_1043 (i := 7) rfl
theorem dL_law__1120 : decode cL_law_ 1120 = .ok (.iaload, 1) := zdk_g zdb_1043 (i := 8) rfl
theorem dL_law__1121 : decode cL_law_ 1121 = .ok (.aload_n 0, 1) := zdk_g zdb_1043 (i := 9) rfl
theorem dL_law__1122 : decode cL_law_ 1122 = .ok (.iload 4, 2) := zdk_g zdb_1043 (i := 10) rfl
theorem dL_law__1124 : decode cL_law_ 1124 = .ok (.iconst 2, 1) := zdk_g zdb_1043 (i := 11) rfl
theorem dL_law__1125 : decode cL_law_ 1125 = .ok (.iadd, 1) := zdk_g zdb_1043 (i := 12) rfl
theorem dL_law__1126 : decode cL_law_ 1126 = .ok (.iaload, 1) := zdk_g zdb_1043 (i := 13) rfl
theorem dL_law__1127 : decode cL_law_ 1127 = .ok (.ifCond .eq 7, 3) := zdk_g zdb_1043 (i := 14) rfl
theorem dL_law__1130 : decode cL_law_ 1130 = .ok (.iconst 1, 1) := zdk_g zdb_1043 (i := 15) rfl
theorem dL_law__1131 : decode cL_law_ 1131 = .ok (.goto 4, 3) := zdk_g zdb_1043 (i := 16) rfl
theorem dL_law__1134 : decode cL_law_ 1134 = .ok (.iconst 0, 1) := zdk_g zdb_1043 (i := 17) rfl
theorem dL_law__1135 : decode cL_law_ 1135 = .ok (.invokevirtual 223, 3) := zdk_g zdb_1043 (i := 18) rfl
theorem dL_law__1138 : decode cL_law_ 1138 = .ok (.istore 6, 2) := zdk_g zdb_1043 (i := 19) rfl
theorem dL_law__1140 : decode cL_law_ 1140 = .ok (.goto 712, 3) := zdk_g zdb_1043 (i := 20) rfl
theorem dL_law__1143 : decode cL_law_ 1143 = .ok (.aload_n 1, 1) := zdk_g zdb_1043 (i := 21) rfl
theorem dL_law__1144 : decode cL_law_ 1144 = .ok (.aload_n 0, 1) := zdk_g zdb_1043 (i := 22) rfl
theorem dL_law__1145 : decode cL_law_ 1145 = .ok (.iload 4, 2) := zdk_g zdb_1043 (i := 23) rfl
theorem dL_law__1147 : decode cL_law_ 1147 = .ok (.iconst 1, 1) := zdk_g zdb_1043 (i := 24) rfl
theorem dL_law__1148 : decode cL_law_ 1148 = .ok (.iadd, 1) := zdk_g zdb_1043 (i := 25) rfl
theorem dL_law__1149 : decode cL_law_ 1149 = .ok (.iaload, 1) := zdk_g zdb_1043 (i := 26) rfl
theorem dL_law__1150 : decode cL_law_ 1150 = .ok (.aload_n 3, 1) := zdk_g zdb_1043 (i := 27) rfl
theorem dL_law__1151 : decode cL_law_ 1151 = .ok (.invokestatic 224, 3) := zdk_g zdb_1043 (i := 28) rfl
theorem dL_law__1154 : decode cL_law_ 1154 = .ok (.istore 5, 2) := zdk_g zdb_1043 (i := 29) rfl
theorem dL_law__1156 : decode cL_law_ 1156 = .ok (.aload_n 2, 1) := zdk_g zdb_1043 (i := 30) rfl
theorem dL_law__1157 : decode cL_law_ 1157 = .ok (.aload_n 0, 1) := zdk_g zdb_1043 (i := 31) rfl
def zdl_1044 : List (Nat × Instr × Nat) := [(1158, .iload 4, 2), (1160, .iconst 1, 1), (1161, .iadd, 1), (1162, .iaload, 1), (1163, .invokevirtual 226, 3), (1166, .istore 6, 2), (1168, .aload_n 2, 1), (1169, .invokevirtual 227, 3), (1172, .iload 5, 2), (1174, .if_icmp .eq 5, 3), (1177, .iconst 0, 1), (1178, .ireturn, 1), (1179, .iload 5, 2), (1181, .ifCond .ne 15, 3), (1184, .aload_n 3, 1), (1185, .iconst 0, 1), (1186, .laload, 1), (1187, .iload 6, 2), (1189, .i2l, 1), (1190, .lcmp, 1), (1191, .ifCond .eq 5, 3), (1194, .iconst 0, 1), (1195, .ireturn, 1), (1196, .goto 656, 3), (1199, .aload_n 1, 1), (1200, .aload_n 0, 1), (1201, .iload 4, 2), (1203, .iconst 1, 1), (1204, .iadd, 1), (1205, .iaload, 1), (1206, .ifCond .eq 7, 3), (1209, .iconst 1, 1)]
theorem zdb_1044 : zdk cL_law_ zdl_1044 = true := by decide +kernel
theorem dL_law__1158 : decode cL_law_ 1158 = .ok (.iload 4, 2) := zdk_g zdb_1044 (i := 0) rfl
theorem dL_law__1160 : decode cL_law_ 1160 = .ok (.iconst 1, 1) := zdk_g zdb_1044 (i := 1) rfl
theorem dL_law__1161 : decode cL_law_ 1161 = .ok (.iadd, 1) := zdk_g zdb_1044 (i := 2) rfl
theorem dL_law__1162 : decode cL_law_ 1162 = .ok (.iaload, 1) := zdk_g zdb_1044 (i := 3) rfl
theorem dL_law__1163 : decode cL_law_ 1163 = .ok (.invokevirtual 226, 3) := zdk_g zdb_1044 (i := 4) rfl
theorem dL_law__1166 : decode cL_law_ 1166 = .ok (.istore 6, 2) := zdk_g zdb_1044 (i := 5) rfl
theorem dL_law__1168 : decode cL_law_ 1168 = .ok (.aload_n 2, 1) := zdk_g zdb_1044 (i := 6) rfl
theorem dL_law__1169 : decode cL_law_ 1169 = .ok (.invokevirtual 227, 3) := zdk_g zdb_1044 (i := 7) rfl
theorem dL_law__1172 : decode cL_law_ 1172 = .ok (.iload 5, 2) := zdk_g zdb_1044 (i := 8) rfl
theorem dL_law__1174 : decode cL_law_ 1174 = .ok (.if_icmp .eq 5, 3) := zdk_g zdb_1044 (i := 9) rfl
theorem dL_law__1177 : decode cL_law_ 1177 = .ok (.iconst 0, 1) := zdk_g zdb_1044 (i := 10) rfl
theorem dL_law__1178 : decode cL_law_ 1178 = .ok (.ireturn, 1) := zdk_g zdb_1044 (i := 11) rfl
theorem dL_law__1179 : decode cL_law_ 1179 = .ok (.iload 5, 2) := zdk_g zdb_1044 (i := 12) rfl
theorem dL_law__1181 : decode cL_law_ 1181 = .ok (.ifCond .ne 15, 3) := zdk_g zdb_1044 (i := 13) rfl
theorem dL_law__1184 : decode cL_law_ 1184 = .ok (.aload_n 3, 1) := zdk_g zdb_1044 (i := 14) rfl
theorem dL_law__1185 : decode cL_law_ 1185 = .ok (.iconst 0, 1) := zdk_g zdb_1044 (i := 15) rfl
theorem dL_law__1186 : decode cL_law_ 1186 = .ok (.laload, 1) := zdk_g zdb_1044 (i := 16) rfl
theorem dL_law__1187 : decode cL_law_ 1187 = .ok (.iload 6, 2) := zdk_g zdb_1044 (i := 17) rfl
theorem dL_law__1189 : decode cL_law_ 1189 = .ok (.i2l, 1) := zdk_g zdb_1044 (i := 18) rfl
theorem dL_law__1190 : decode cL_law_ 1190 = .ok (.lcmp, 1) := zdk_g zdb_1044 (i := 19) rfl
theorem dL_law__1191 : decode cL_law_ 1191 = .ok (.ifCond .eq 5, 3) := zdk_g zdb_1044 (i := 20) rfl
theorem dL_law__1194 : decode cL_law_ 1194 = .ok (.iconst 0, 1) := zdk_g zdb_1044 (i := 21) rfl
theorem dL_law__1195 : decode cL_law_ 1195 = .ok (.ireturn, 1) := zdk_g zdb_1044 (i := 22) rfl
theorem dL_law__1196 : decode cL_law_ 1196 = .ok (.goto 656, 3) := zdk_g zdb_1044 (i := 23) rfl
theorem dL_law__1199 : decode cL_law_ 1199 = .ok (.aload_n 1, 1) := zdk_g zdb_1044 (i := 24) rfl
theorem dL_law__1200 : decode cL_law_ 1200 = .ok (.aload_n 0, 1) := zdk_g zdb_1044 (i := 25) rfl
theorem dL_law__1201 : decode cL_law_ 1201 = .ok (.iload 4, 2) := zdk_g zdb_1044 (i := 26) rfl
theorem dL_law__1203 : decode cL_law_ 1203 = .ok (.iconst 1, 1) := zdk_g zdb_1044 (i := 27) rfl
theorem dL_law__1204 : decode cL_law_ 1204 = .ok (.iadd, 1) := zdk_g zdb_1044 (i := 28) rfl
theorem dL_law__1205 : decode cL_law_ 1205 = .ok (.iaload, 1) := zdk_g zdb_1044 (i := 29) rfl
theorem dL_law__1206 : decode cL_law_ 1206 = .ok (.ifCond .eq 7, 3) := zdk_g zdb_1044 (i := 30) rfl
theorem dL_law__1209 : decode cL_law_ 1209 = .ok (.iconst 1, 1) := zdk_g zdb_1044 (i := 31) rfl
def zdl_1045 : List (Nat × Instr × Nat) := [(1210, .goto 4, 3), (1213, .iconst 0, 1), (1214, .invokevirtual 230, 3), (1217, .pop, 1), (1218, .aload_n 2, 1), (1219, .aload_n 0, 1), (1220, .iload 4, 2), (1222, .iconst 1, 1), (1223, .iadd, 1), (1224, .iaload, 1), (1225, .ifCond .eq 7, 3), (1228, .iconst 1, 1), (1229, .goto 4, 3), (1232, .iconst 0, 1), (1233, .invokevirtual 233, 3), (1236, .pop, 1), (1237, .goto 615, 3), (1240, .aload_n 1, 1), (1241, .aload_n 0, 1), (1242, .iload 4, 2), (1244, .iconst 1, 1), (1245, .iadd, 1), (1246, .iaload, 1), (1247, .aload_n 3, 1), (1248, .invokestatic 234, 3), (1251, .istore 5, 2), (1253, .aload_n 2, 1), (1254, .aload_n 0, 1), (1255, .iload 4, 2), (1257, .iconst 1, 1), (1258, .iadd, 1), (1259, .iaload, 1)]
theorem zdb_1045 : zdk cL_law_ zdl_1045 = true := by decide +kernel
theorem dL_law__1210 : decode cL_law_ 1210 = .ok (.goto 4, 3) := zdk_g zdb_1045 (i := 0) rfl
theorem dL_law__1213 : decode cL_law_ 1213 = .ok (.iconst 0, 1) := zdk_g zdb_1045 (i := 1) rfl
theorem dL_law__1214 : decode cL_law_ 1214 = .ok (.invokevirtual 230, 3) := zdk_g zdb_1045 (i := 2) rfl
theorem dL_law__1217 : decode cL_law_ 1217 = .ok (.pop, 1) := zdk_g zdb_1045 (i := 3) rfl
theorem dL_law__1218 : decode cL_law_ 1218 = .ok (.aload_n 2, 1) := zdk_g zdb_1045 (i := 4) rfl
theorem dL_law__1219 : decode cL_law_ 1219 = .ok (.aload_n 0, 1) := zdk_g zdb_1045 (i := 5) rfl
theorem dL_law__1220 : decode cL_law_ 1220 = .ok (.iload 4, 2) := zdk_g zdb_1045 (i := 6) rfl
theorem dL_law__1222 : decode cL_law_ 1222 = .ok (.iconst 1, 1) := zdk_g zdb_1045 (i := 7) rfl
theorem dL_law__1223 : decode cL_law_ 1223 = .ok (.iadd, 1) := zdk_g zdb_1045 (i := 8) rfl
theorem dL_law__1224 : decode cL_law_ 1224 = .ok (.iaload, 1) := zdk_g zdb_1045 (i := 9) rfl
theorem dL_law__1225 : decode cL_law_ 1225 = .ok (.ifCond .eq 7, 3) := zdk_g zdb_1045 (i := 10) rfl
theorem dL_law__1228 : decode cL_law_ 1228 = .ok (.iconst 1, 1) := zdk_g zdb_1045 (i := 11) rfl
theorem dL_law__1229 : decode cL_law_ 1229 = .ok (.goto 4, 3) := zdk_g zdb_1045 (i := 12) rfl
theorem dL_law__1232 : decode cL_law_ 1232 = .ok (.iconst 0, 1) := zdk_g zdb_1045 (i := 13) rfl
theorem dL_law__1233 : decode cL_law_ 1233 = .ok (.invokevirtual 233, 3) := zdk_g zdb_1045 (i := 14) rfl
theorem dL_law__1236 : decode cL_law_ 1236 = .ok (.pop, 1) := zdk_g zdb_1045 (i := 15) rfl
theorem dL_law__1237 : decode cL_law_ 1237 = .ok (.goto 615, 3) := zdk_g zdb_1045 (i := 16) rfl
theorem dL_law__1240 : decode cL_law_ 1240 = .ok (.aload_n 1, 1) := zdk_g zdb_1045 (i := 17) rfl
theorem dL_law__1241 : decode cL_law_ 1241 = .ok (.aload_n 0, 1) := zdk_g zdb_1045 (i := 18) rfl
theorem dL_law__1242 : decode cL_law_ 1242 = .ok (.iload 4, 2) := zdk_g zdb_1045 (i := 19) rfl
theorem dL_law__1244 : decode cL_law_ 1244 = .ok (.iconst 1, 1) := zdk_g zdb_1045 (i := 20) rfl
theorem dL_law__1245 : decode cL_law_ 1245 = .ok (.iadd, 1) := zdk_g zdb_1045 (i := 21) rfl
theorem dL_law__1246 : decode cL_law_ 1246 = .ok (.iaload, 1) := zdk_g zdb_1045 (i := 22) rfl
theorem dL_law__1247 : decode cL_law_ 1247 = .ok (.aload_n 3, 1) := zdk_g zdb_1045 (i := 23) rfl
theorem dL_law__1248 : decode cL_law_ 1248 = .ok (.invokestatic 234, 3) := zdk_g zdb_1045 (i := 24) rfl
theorem dL_law__1251 : decode cL_law_ 1251 = .ok (.istore 5, 2) := zdk_g zdb_1045 (i := 25) rfl
theorem dL_law__1253 : decode cL_law_ 1253 = .ok (.aload_n 2, 1) := zdk_g zdb_1045 (i := 26) rfl
theorem dL_law__1254 : decode cL_law_ 1254 = .ok (.aload_n 0, 1) := zdk_g zdb_1045 (i := 27) rfl
theorem dL_law__1255 : decode cL_law_ 1255 = .ok (.iload 4, 2) := zdk_g zdb_1045 (i := 28) rfl
theorem dL_law__1257 : decode cL_law_ 1257 = .ok (.iconst 1, 1) := zdk_g zdb_1045 (i := 29) rfl
theorem dL_law__1258 : decode cL_law_ 1258 = .ok (.iadd, 1) := zdk_g zdb_1045 (i := 30) rfl
theorem dL_law__1259 : decode cL_law_ 1259 = .ok (.iaload, 1) := zdk_g zdb_1045 (i := 31) rfl
def zdl_1046 : List (Nat × Instr × Nat) := [(1260, .invokevirtual 236, 3), (1263, .istore 6, 2), (1265, .goto 587, 3), (1268, .aload_n 1, 1), (1269, .aload_n 0, 1), (1270, .iload 4, 2), (1272, .iconst 1, 1), (1273, .iadd, 1), (1274, .iaload, 1), (1275, .aload_n 3, 1), (1276, .invokestatic 237, 3), (1279, .istore 5, 2), (1281, .aload_n 2, 1), (1282, .aload_n 0, 1), (1283, .iload 4, 2), (1285, .iconst 1, 1), (1286, .iadd, 1), (1287, .iaload, 1), (1288, .invokevirtual 239, 3), (1291, .istore 6, 2), (1293, .goto 559, 3), (1296, .aload_n 1, 1), (1297, .aload_n 0, 1), (1298, .iload 4, 2), (1300, .iconst 1, 1), (1301, .iadd, 1), (1302, .iaload, 1), (1303, .ifCond .eq 7, 3), (1306, .iconst 1, 1), (1307, .goto 4, 3), (1310, .iconst 0, 1), (1311, .aload_n 3, 1)]
theorem zdb_1046 : zdk cL_law_ zdl_1046 = true := by decide +kernel
theorem dL_law__1260 : decode cL_law_ 1260 = .ok (.invokevirtual 236, 3) := zdk_g zdb_1046 (i := 0) rfl
theorem dL_law__1263 : decode cL_law_ 1263 = .ok (.istore 6, 2) := zdk_g zdb_1046 (i := 1) rfl
theorem dL_law__1265 : decode cL_law_ 1265 = .ok (.goto 587, 3) := zdk_g zdb_1046 (i := 2) rfl
theorem dL_law__1268 : decode cL_law_ 1268 = .ok (.aload_n 1, 1) := zdk_g zdb_1046 (i := 3) rfl
theorem dL_law__1269 : decode cL_law_ 1269 = .ok (.aload_n 0, 1) := zdk_g zdb_1046 (i := 4) rfl
theorem dL_law__1270 : decode cL_law_ 1270 = .ok (.iload 4, 2) := zdk_g zdb_1046 (i := 5) rfl
theorem dL_law__1272 : decode cL_law_ 1272 = .ok (.iconst 1, 1) := zdk_g zdb_1046 (i := 6) rfl
theorem dL_law__1273 : decode cL_law_ 1273 = .ok (.iadd, 1) := zdk_g zdb_1046 (i := 7) rfl
theorem dL_law__1274 : decode cL_law_ 1274 = .ok (.iaload, 1) := zdk_g zdb_1046 (i := 8) rfl
theorem dL_law__1275 : decode cL_law_ 1275 = .ok (.aload_n 3, 1) := zdk_g zdb_1046 (i := 9) rfl
theorem dL_law__1276 : decode cL_law_ 1276 = .ok (.invokestatic 237, 3) := zdk_g zdb_1046 (i := 10) rfl
theorem dL_law__1279 : decode cL_law_ 1279 = .ok (.istore 5, 2) := zdk_g zdb_1046 (i := 11) rfl
theorem dL_law__1281 : decode cL_law_ 1281 = .ok (.aload_n 2, 1) := zdk_g zdb_1046 (i := 12) rfl
theorem dL_law__1282 : decode cL_law_ 1282 = .ok (.aload_n 0, 1) := zdk_g zdb_1046 (i := 13) rfl
theorem dL_law__1283 : decode cL_law_ 1283 = .ok (.iload 4, 2) := zdk_g zdb_1046 (i := 14) rfl
theorem dL_law__1285 : decode cL_law_ 1285 = .ok (.iconst 1, 1) := zdk_g zdb_1046 (i := 15) rfl
theorem dL_law__1286 : decode cL_law_ 1286 = .ok (.iadd, 1) := zdk_g zdb_1046 (i := 16) rfl
theorem dL_law__1287 : decode cL_law_ 1287 = .ok (.iaload, 1) := zdk_g zdb_1046 (i := 17) rfl
theorem dL_law__1288 : decode cL_law_ 1288 = .ok (.invokevirtual 239, 3) := zdk_g zdb_1046 (i := 18) rfl
theorem dL_law__1291 : decode cL_law_ 1291 = .ok (.istore 6, 2) := zdk_g zdb_1046 (i := 19) rfl
theorem dL_law__1293 : decode cL_law_ 1293 = .ok (.goto 559, 3) := zdk_g zdb_1046 (i := 20) rfl
theorem dL_law__1296 : decode cL_law_ 1296 = .ok (.aload_n 1, 1) := zdk_g zdb_1046 (i := 21) rfl
theorem dL_law__1297 : decode cL_law_ 1297 = .ok (.aload_n 0, 1) := zdk_g zdb_1046 (i := 22) rfl
theorem dL_law__1298 : decode cL_law_ 1298 = .ok (.iload 4, 2) := zdk_g zdb_1046 (i := 23) rfl
theorem dL_law__1300 : decode cL_law_ 1300 = .ok (.iconst 1, 1) := zdk_g zdb_1046 (i := 24) rfl
theorem dL_law__1301 : decode cL_law_ 1301 = .ok (.iadd, 1) := zdk_g zdb_1046 (i := 25) rfl
theorem dL_law__1302 : decode cL_law_ 1302 = .ok (.iaload, 1) := zdk_g zdb_1046 (i := 26) rfl
theorem dL_law__1303 : decode cL_law_ 1303 = .ok (.ifCond .eq 7, 3) := zdk_g zdb_1046 (i := 27) rfl
theorem dL_law__1306 : decode cL_law_ 1306 = .ok (.iconst 1, 1) := zdk_g zdb_1046 (i := 28) rfl
theorem dL_law__1307 : decode cL_law_ 1307 = .ok (.goto 4, 3) := zdk_g zdb_1046 (i := 29) rfl
theorem dL_law__1310 : decode cL_law_ 1310 = .ok (.iconst 0, 1) := zdk_g zdb_1046 (i := 30) rfl
theorem dL_law__1311 : decode cL_law_ 1311 = .ok (.aload_n 3, 1) := zdk_g zdb_1046 (i := 31) rfl
def zdl_1047 : List (Nat × Instr × Nat) := [(1312, .invokestatic 240, 3), (1315, .istore 5, 2), (1317, .aload_n 2, 1), (1318, .aload_n 0, 1), (1319, .iload 4, 2), (1321, .iconst 1, 1), (1322, .iadd, 1), (1323, .iaload, 1), (1324, .ifCond .eq 7, 3), (1327, .iconst 1, 1), (1328, .goto 4, 3), (1331, .iconst 0, 1), (1332, .invokevirtual 243, 3), (1335, .istore 6, 2), (1337, .goto 515, 3), (1340, .aload_n 1, 1), (1341, .aload_n 3, 1), (1342, .invokestatic 244, 3), (1345, .istore 5, 2), (1347, .aload_n 2, 1), (1348, .invokevirtual 246, 3), (1351, .istore 6, 2), (1353, .goto 499, 3), (1356, .aload_n 1, 1), (1357, .aload_n 0, 1), (1358, .iload 4, 2), (1360, .iconst 1, 1), (1361, .iadd, 1), (1362, .iaload, 1), (1363, .aload_n 3, 1), (1364, .invokestatic 247, 3), (1367, .istore 5, 2)]
theorem zdb_1047 : zdk cL_law_ zdl_1047 = true := by decide +kernel
theorem dL_law__1312 : decode cL_law_ 1312 = .ok (.invokestatic 240, 3) := zdk_g zdb_1047 (i := 0) rfl
theorem dL_law__1315 : decode cL_law_ 1315 = .ok (.istore 5, 2) := zdk_g zdb_1047 (i := 1) rfl
theorem dL_law__1317 : decode cL_law_ 1317 = .ok (.aload_n 2, 1) := zdk_g zdb_1047 (i := 2) rfl
theorem dL_law__1318 : decode cL_law_ 1318 = .ok (.aload_n 0, 1) := zdk_g zdb_1047 (i := 3) rfl
theorem dL_law__1319 : decode cL_law_ 1319 = .ok (.iload 4, 2) := zdk_g zdb_1047 (i := 4) rfl
theorem dL_law__1321 : decode cL_law_ 1321 = .ok (.iconst 1, 1) := zdk_g zdb_1047 (i := 5) rfl
theorem dL_law__1322 : decode cL_law_ 1322 = .ok (.iadd, 1) := zdk_g zdb_1047 (i := 6) rfl
theorem dL_law__1323 : decode cL_law_ 1323 = .ok (.iaload, 1) := zdk_g zdb_1047 (i := 7) rfl
theorem dL_law__1324 : decode cL_law_ 1324 = .ok (.ifCond .eq 7, 3) := zdk_g zdb_1047 (i := 8) rfl
theorem dL_law__1327 : decode cL_law_ 1327 = .ok (.iconst 1, 1) := zdk_g zdb_1047 (i := 9) rfl
theorem dL_law__1328 : decode cL_law_ 1328 = .ok (.goto 4, 3) := zdk_g zdb_1047 (i := 10) rfl
theorem dL_law__1331 : decode cL_law_ 1331 = .ok (.iconst 0, 1) := zdk_g zdb_1047 (i := 11) rfl
theorem dL_law__1332 : decode cL_law_ 1332 = .ok (.invokevirtual 243, 3) := zdk_g zdb_1047 (i := 12) rfl
theorem dL_law__1335 : decode cL_law_ 1335 = .ok (.istore 6, 2) := zdk_g zdb_1047 (i := 13) rfl
theorem dL_law__1337 : decode cL_law_ 1337 = .ok (.goto 515, 3) := zdk_g zdb_1047 (i := 14) rfl
theorem dL_law__1340 : decode cL_law_ 1340 = .ok (.aload_n 1, 1) := zdk_g zdb_1047 (i := 15) rfl
theorem dL_law__1341 : decode cL_law_ 1341 = .ok (.aload_n 3, 1) := zdk_g zdb_1047 (i := 16) rfl
theorem dL_law__1342 : decode cL_law_ 1342 = .ok (.invokestatic 244, 3) := zdk_g zdb_1047 (i := 17) rfl
theorem dL_law__1345 : decode cL_law_ 1345 = .ok (.istore 5, 2) := zdk_g zdb_1047 (i := 18) rfl
theorem dL_law__1347 : decode cL_law_ 1347 = .ok (.aload_n 2, 1) := zdk_g zdb_1047 (i := 19) rfl
theorem dL_law__1348 : decode cL_law_ 1348 = .ok (.invokevirtual 246, 3) := zdk_g zdb_1047 (i := 20) rfl
theorem dL_law__1351 : decode cL_law_ 1351 = .ok (.istore 6, 2) := zdk_g zdb_1047 (i := 21) rfl
theorem dL_law__1353 : decode cL_law_ 1353 = .ok (.goto 499, 3) := zdk_g zdb_1047 (i := 22) rfl
theorem dL_law__1356 : decode cL_law_ 1356 = .ok (.aload_n 1, 1) := zdk_g zdb_1047 (i := 23) rfl
theorem dL_law__1357 : decode cL_law_ 1357 = .ok (.aload_n 0, 1) := zdk_g zdb_1047 (i := 24) rfl
theorem dL_law__1358 : decode cL_law_ 1358 = .ok (.iload 4, 2) := zdk_g zdb_1047 (i := 25) rfl
theorem dL_law__1360 : decode cL_law_ 1360 = .ok (.iconst 1, 1) := zdk_g zdb_1047 (i := 26) rfl
theorem dL_law__1361 : decode cL_law_ 1361 = .ok (.iadd, 1) := zdk_g zdb_1047 (i := 27) rfl
theorem dL_law__1362 : decode cL_law_ 1362 = .ok (.iaload, 1) := zdk_g zdb_1047 (i := 28) rfl
theorem dL_law__1363 : decode cL_law_ 1363 = .ok (.aload_n 3, 1) := zdk_g zdb_1047 (i := 29) rfl
theorem dL_law__1364 : decode cL_law_ 1364 = .ok (.invokestatic 247, 3) := zdk_g zdb_1047 (i := 30) rfl
theorem dL_law__1367 : decode cL_law_ 1367 = .ok (.istore 5, 2) := zdk_g zdb_1047 (i := 31) rfl
def zdl_1048 : List (Nat × Instr × Nat) := [(1369, .aload_n 2, 1), (1370, .aload_n 0, 1), (1371, .iload 4, 2), (1373, .iconst 1, 1), (1374, .iadd, 1), (1375, .iaload, 1), (1376, .invokevirtual 249, 3), (1379, .istore 6, 2), (1381, .goto 471, 3), (1384, .aload_n 1, 1), (1385, .aload_n 0, 1), (1386, .iload 4, 2), (1388, .iconst 1, 1), (1389, .iadd, 1), (1390, .iaload, 1), (1391, .aload_n 0, 1), (1392, .iload 4, 2), (1394, .iconst 2, 1), (1395, .iadd, 1), (1396, .iaload, 1), (1397, .aload_n 3, 1), (1398, .invokestatic 250, 3), (1401, .istore 5, 2), (1403, .aload_n 2, 1), (1404, .aload_n 0, 1), (1405, .iload 4, 2), (1407, .iconst 1, 1), (1408, .iadd, 1), (1409, .iaload, 1), (1410, .aload_n 0, 1), (1411, .iload 4, 2), (1413, .iconst 2, 1)]
theorem zdb_1048 : zdk cL_law_ zdl_1048 = true := by decide +kernel
theorem dL_law__1369 : decode cL_law_ 1369 = .ok (.aload_n 2, 1) := zdk_g zdb_1048 (i := 0) rfl
theorem dL_law__1370 : decode cL_law_ 1370 = .ok (.aload_n 0, 1) := zdk_g zdb_1048 (i := 1) rfl
theorem dL_law__1371 : decode cL_law_ 1371 = .ok (.iload 4, 2) := zdk_g zdb_1048 (i := 2) rfl
theorem dL_law__1373 : decode cL_law_ 1373 = .ok (.iconst 1, 1) := zdk_g zdb_1048 (i := 3) rfl
theorem dL_law__1374 : decode cL_law_ 1374 = .ok (.iadd, 1) := zdk_g zdb_1048 (i := 4) rfl
theorem dL_law__1375 : decode cL_law_ 1375 = .ok (.iaload, 1) := zdk_g zdb_1048 (i := 5) rfl
theorem dL_law__1376 : decode cL_law_ 1376 = .ok (.invokevirtual 249, 3) := zdk_g zdb_1048 (i := 6) rfl
theorem dL_law__1379 : decode cL_law_ 1379 = .ok (.istore 6, 2) := zdk_g zdb_1048 (i := 7) rfl
theorem dL_law__1381 : decode cL_law_ 1381 = .ok (.goto 471, 3) := zdk_g zdb_1048 (i := 8) rfl
theorem dL_law__1384 : decode cL_law_ 1384 = .ok (.aload_n 1, 1) := zdk_g zdb_1048 (i := 9) rfl
theorem dL_law__1385 : decode cL_law_ 1385 = .ok (.aload_n 0, 1) := zdk_g zdb_1048 (i := 10) rfl
theorem dL_law__1386 : decode cL_law_ 1386 = .ok (.iload 4, 2) := zdk_g zdb_1048 (i := 11) rfl
theorem dL_law__1388 : decode cL_law_ 1388 = .ok (.iconst 1, 1) := zdk_g zdb_1048 (i := 12) rfl
theorem dL_law__1389 : decode cL_law_ 1389 = .ok (.iadd, 1) := zdk_g zdb_1048 (i := 13) rfl
theorem dL_law__1390 : decode cL_law_ 1390 = .ok (.iaload, 1) := zdk_g zdb_1048 (i := 14) rfl
theorem dL_law__1391 : decode cL_law_ 1391 = .ok (.aload_n 0, 1) := zdk_g zdb_1048 (i := 15) rfl
theorem dL_law__1392 : decode cL_law_ 1392 = .ok (.iload 4, 2) := zdk_g zdb_1048 (i := 16) rfl
theorem dL_law__1394 : decode cL_law_ 1394 = .ok (.iconst 2, 1) := zdk_g zdb_1048 (i := 17) rfl
theorem dL_law__1395 : decode cL_law_ 1395 = .ok (.iadd, 1) := zdk_g zdb_1048 (i := 18) rfl
theorem dL_law__1396 : decode cL_law_ 1396 = .ok (.iaload, 1) := zdk_g zdb_1048 (i := 19) rfl
theorem dL_law__1397 : decode cL_law_ 1397 = .ok (.aload_n 3, 1) := zdk_g zdb_1048 (i := 20) rfl
theorem dL_law__1398 : decode cL_law_ 1398 = .ok (.invokestatic 250, 3) := zdk_g zdb_1048 (i := 21) rfl
theorem dL_law__1401 : decode cL_law_ 1401 = .ok (.istore 5, 2) := zdk_g zdb_1048 (i := 22) rfl
theorem dL_law__1403 : decode cL_law_ 1403 = .ok (.aload_n 2, 1) := zdk_g zdb_1048 (i := 23) rfl
theorem dL_law__1404 : decode cL_law_ 1404 = .ok (.aload_n 0, 1) := zdk_g zdb_1048 (i := 24) rfl
theorem dL_law__1405 : decode cL_law_ 1405 = .ok (.iload 4, 2) := zdk_g zdb_1048 (i := 25) rfl
theorem dL_law__1407 : decode cL_law_ 1407 = .ok (.iconst 1, 1) := zdk_g zdb_1048 (i := 26) rfl
theorem dL_law__1408 : decode cL_law_ 1408 = .ok (.iadd, 1) := zdk_g zdb_1048 (i := 27) rfl
theorem dL_law__1409 : decode cL_law_ 1409 = .ok (.iaload, 1) := zdk_g zdb_1048 (i := 28) rfl
theorem dL_law__1410 : decode cL_law_ 1410 = .ok (.aload_n 0, 1) := zdk_g zdb_1048 (i := 29) rfl
theorem dL_law__1411 : decode cL_law_ 1411 = .ok (.iload 4, 2) := zdk_g zdb_1048 (i := 30) rfl
theorem dL_law__1413 : decode cL_law_ 1413 = .ok (.iconst 2, 1) := zdk_g zdb_1048 (i := 31) rfl
def zdl_1049 : List (Nat × Instr × Nat) := [(1414, .iadd, 1), (1415, .iaload, 1), (1416, .invokevirtual 252, 3), (1419, .istore 6, 2), (1421, .goto 431, 3), (1424, .aload_n 1, 1), (1425, .invokevirtual 253, 3), (1428, .pop, 1), (1429, .aload_n 2, 1), (1430, .invokevirtual 256, 3), (1433, .pop, 1), (1434, .goto 418, 3), (1437, .aload_n 1, 1), (1438, .invokevirtual 257, 3), (1441, .pop, 1), (1442, .aload_n 2, 1), (1443, .invokevirtual 260, 3), (1446, .pop, 1), (1447, .goto 405, 3), (1450, .aload_n 1, 1), (1451, .aload_n 0, 1), (1452, .iload 4, 2), (1454, .iconst 1, 1), (1455, .iadd, 1), (1456, .iaload, 1), (1457, .aload_n 0, 1), (1458, .iload 4, 2), (1460, .iconst 2, 1), (1461, .iadd, 1), (1462, .iaload, 1), (1463, .aload_n 3, 1), (1464, .invokestatic 261, 3)]
theorem zdb_1049 : zdk cL_law_ zdl_1049 = true := by decide +kernel
theorem dL_law__1414 : decode cL_law_ 1414 = .ok (.iadd, 1) := zdk_g zdb_1049 (i := 0) rfl
theorem dL_law__1415 : decode cL_law_ 1415 = .ok (.iaload, 1) := zdk_g zdb_1049 (i := 1) rfl
theorem dL_law__1416 : decode cL_law_ 1416 = .ok (.invokevirtual 252, 3) := zdk_g zdb_1049 (i := 2) rfl
theorem dL_law__1419 : decode cL_law_ 1419 = .ok (.istore 6, 2) := zdk_g zdb_1049 (i := 3) rfl
theorem dL_law__1421 : decode cL_law_ 1421 = .ok (.goto 431, 3) := zdk_g zdb_1049 (i := 4) rfl
theorem dL_law__1424 : decode cL_law_ 1424 = .ok (.aload_n 1, 1) := zdk_g zdb_1049 (i := 5) rfl
theorem dL_law__1425 : decode cL_law_ 1425 = .ok (.invokevirtual 253, 3) := zdk_g zdb_1049 (i := 6) rfl
theorem dL_law__1428 : decode cL_law_ 1428 = .ok (.pop, 1) := zdk_g zdb_1049 (i := 7) rfl
theorem dL_law__1429 : decode cL_law_ 1429 = .ok (.aload_n 2, 1) := zdk_g zdb_1049 (i := 8) rfl
theorem dL_law__1430 : decode cL_law_ 1430 = .ok (.invokevirtual 256, 3) := zdk_g zdb_1049 (i := 9) rfl
theorem dL_law__1433 : decode cL_law_ 1433 = .ok (.pop, 1) := zdk_g zdb_1049 (i := 10) rfl
theorem dL_law__1434 : decode cL_law_ 1434 = .ok (.goto 418, 3) := zdk_g zdb_1049 (i := 11) rfl
theorem dL_law__1437 : decode cL_law_ 1437 = .ok (.aload_n 1, 1) := zdk_g zdb_1049 (i := 12) rfl
theorem dL_law__1438 : decode cL_law_ 1438 = .ok (.invokevirtual 257, 3) := zdk_g zdb_1049 (i := 13) rfl
theorem dL_law__1441 : decode cL_law_ 1441 = .ok (.pop, 1) := zdk_g zdb_1049 (i := 14) rfl
theorem dL_law__1442 : decode cL_law_ 1442 = .ok (.aload_n 2, 1) := zdk_g zdb_1049 (i := 15) rfl
theorem dL_law__1443 : decode cL_law_ 1443 = .ok (.invokevirtual 260, 3) := zdk_g zdb_1049 (i := 16) rfl
theorem dL_law__1446 : decode cL_law_ 1446 = .ok (.pop, 1) := zdk_g zdb_1049 (i := 17) rfl
theorem dL_law__1447 : decode cL_law_ 1447 = .ok (.goto 405, 3) := zdk_g zdb_1049 (i := 18) rfl
theorem dL_law__1450 : decode cL_law_ 1450 = .ok (.aload_n 1, 1) := zdk_g zdb_1049 (i := 19) rfl
theorem dL_law__1451 : decode cL_law_ 1451 = .ok (.aload_n 0, 1) := zdk_g zdb_1049 (i := 20) rfl
theorem dL_law__1452 : decode cL_law_ 1452 = .ok (.iload 4, 2) := zdk_g zdb_1049 (i := 21) rfl
theorem dL_law__1454 : decode cL_law_ 1454 = .ok (.iconst 1, 1) := zdk_g zdb_1049 (i := 22) rfl
theorem dL_law__1455 : decode cL_law_ 1455 = .ok (.iadd, 1) := zdk_g zdb_1049 (i := 23) rfl
theorem dL_law__1456 : decode cL_law_ 1456 = .ok (.iaload, 1) := zdk_g zdb_1049 (i := 24) rfl
theorem dL_law__1457 : decode cL_law_ 1457 = .ok (.aload_n 0, 1) := zdk_g zdb_1049 (i := 25) rfl
theorem dL_law__1458 : decode cL_law_ 1458 = .ok (.iload 4, 2) := zdk_g zdb_1049 (i := 26) rfl
theorem dL_law__1460 : decode cL_law_ 1460 = .ok (.iconst 2, 1) := zdk_g zdb_1049 (i := 27) rfl
theorem dL_law__1461 : decode cL_law_ 1461 = .ok (.iadd, 1) := zdk_g zdb_1049 (i := 28) rfl
theorem dL_law__1462 : decode cL_law_ 1462 = .ok (.iaload, 1) := zdk_g zdb_1049 (i := 29) rfl
theorem dL_law__1463 : decode cL_law_ 1463 = .ok (.aload_n 3, 1) := zdk_g zdb_1049 (i := 30) rfl
theorem dL_law__1464 : decode cL_law_ 1464 = .ok (.invokestatic 261, 3) := zdk_g zdb_1049 (i := 31) rfl
def zdl_1050 : List (Nat × Instr × Nat) := [(1467, .istore 5, 2), (1469, .aload_n 2, 1), (1470, .aload_n 0, 1), (1471, .iload 4, 2), (1473, .iconst 1, 1), (1474, .iadd, 1), (1475, .iaload, 1), (1476, .aload_n 0, 1), (1477, .iload 4, 2), (1479, .iconst 2, 1), (1480, .iadd, 1), (1481, .iaload, 1), (1482, .invokevirtual 263, 3), (1485, .istore 6, 2), (1487, .goto 365, 3), (1490, .aload_n 1, 1), (1491, .invokevirtual 264, 3), (1494, .pop, 1), (1495, .aload_n 2, 1), (1496, .invokevirtual 267, 3), (1499, .pop, 1), (1500, .goto 352, 3), (1503, .aload_n 1, 1), (1504, .invokevirtual 268, 3), (1507, .pop, 1), (1508, .aload_n 2, 1), (1509, .invokevirtual 271, 3), (1512, .pop, 1), (1513, .goto 339, 3), (1516, .aload_n 1, 1), (1517, .aload_n 0, 1), (1518, .iload 4, 2)]
theorem zdb_1050 : zdk cL_law_ zdl_1050 = true := by decide +kernel
theorem dL_law__1467 : decode cL_law_ 1467 = .ok (.istore 5, 2) := zdk_g zdb_1050 (i := 0) rfl
theorem dL_law__1469 : decode cL_law_ 1469 = .ok (.aload_n 2, 1) := zdk_g zdb_1050 (i := 1) rfl
theorem dL_law__1470 : decode cL_law_ 1470 = .ok (.aload_n 0, 1) := zdk_g zdb_1050 (i := 2) rfl
theorem dL_law__1471 : decode cL_law_ 1471 = .ok (.iload 4, 2) := zdk_g zdb_1050 (i := 3) rfl
theorem dL_law__1473 : decode cL_law_ 1473 = .ok (.iconst 1, 1) := zdk_g zdb_1050 (i := 4) rfl
theorem dL_law__1474 : decode cL_law_ 1474 = .ok (.iadd, 1) := zdk_g zdb_1050 (i := 5) rfl
theorem dL_law__1475 : decode cL_law_ 1475 = .ok (.iaload, 1) := zdk_g zdb_1050 (i := 6) rfl
theorem dL_law__1476 : decode cL_law_ 1476 = .ok (.aload_n 0, 1) := zdk_g zdb_1050 (i := 7) rfl
theorem dL_law__1477 : decode cL_law_ 1477 = .ok (.iload 4, 2) := zdk_g zdb_1050 (i := 8) rfl
theorem dL_law__1479 : decode cL_law_ 1479 = .ok (.iconst 2, 1) := zdk_g zdb_1050 (i := 9) rfl
theorem dL_law__1480 : decode cL_law_ 1480 = .ok (.iadd, 1) := zdk_g zdb_1050 (i := 10) rfl
theorem dL_law__1481 : decode cL_law_ 1481 = .ok (.iaload, 1) := zdk_g zdb_1050 (i := 11) rfl
theorem dL_law__1482 : decode cL_law_ 1482 = .ok (.invokevirtual 263, 3) := zdk_g zdb_1050 (i := 12) rfl
theorem dL_law__1485 : decode cL_law_ 1485 = .ok (.istore 6, 2) := zdk_g zdb_1050 (i := 13) rfl
theorem dL_law__1487 : decode cL_law_ 1487 = .ok (.goto 365, 3) := zdk_g zdb_1050 (i := 14) rfl
theorem dL_law__1490 : decode cL_law_ 1490 = .ok (.aload_n 1, 1) := zdk_g zdb_1050 (i := 15) rfl
theorem dL_law__1491 : decode cL_law_ 1491 = .ok (.invokevirtual 264, 3) := zdk_g zdb_1050 (i := 16) rfl
theorem dL_law__1494 : decode cL_law_ 1494 = .ok (.pop, 1) := zdk_g zdb_1050 (i := 17) rfl
theorem dL_law__1495 : decode cL_law_ 1495 = .ok (.aload_n 2, 1) := zdk_g zdb_1050 (i := 18) rfl
theorem dL_law__1496 : decode cL_law_ 1496 = .ok (.invokevirtual 267, 3) := zdk_g zdb_1050 (i := 19) rfl
theorem dL_law__1499 : decode cL_law_ 1499 = .ok (.pop, 1) := zdk_g zdb_1050 (i := 20) rfl
theorem dL_law__1500 : decode cL_law_ 1500 = .ok (.goto 352, 3) := zdk_g zdb_1050 (i := 21) rfl
theorem dL_law__1503 : decode cL_law_ 1503 = .ok (.aload_n 1, 1) := zdk_g zdb_1050 (i := 22) rfl
theorem dL_law__1504 : decode cL_law_ 1504 = .ok (.invokevirtual 268, 3) := zdk_g zdb_1050 (i := 23) rfl
theorem dL_law__1507 : decode cL_law_ 1507 = .ok (.pop, 1) := zdk_g zdb_1050 (i := 24) rfl
theorem dL_law__1508 : decode cL_law_ 1508 = .ok (.aload_n 2, 1) := zdk_g zdb_1050 (i := 25) rfl
theorem dL_law__1509 : decode cL_law_ 1509 = .ok (.invokevirtual 271, 3) := zdk_g zdb_1050 (i := 26) rfl
theorem dL_law__1512 : decode cL_law_ 1512 = .ok (.pop, 1) := zdk_g zdb_1050 (i := 27) rfl
theorem dL_law__1513 : decode cL_law_ 1513 = .ok (.goto 339, 3) := zdk_g zdb_1050 (i := 28) rfl
theorem dL_law__1516 : decode cL_law_ 1516 = .ok (.aload_n 1, 1) := zdk_g zdb_1050 (i := 29) rfl
theorem dL_law__1517 : decode cL_law_ 1517 = .ok (.aload_n 0, 1) := zdk_g zdb_1050 (i := 30) rfl
theorem dL_law__1518 : decode cL_law_ 1518 = .ok (.iload 4, 2) := zdk_g zdb_1050 (i := 31) rfl
def zdl_1051 : List (Nat × Instr × Nat) := [(1520, .iconst 1, 1), (1521, .iadd, 1), (1522, .iaload, 1), (1523, .aload_n 3, 1), (1524, .invokestatic 272, 3), (1527, .istore 5, 2), (1529, .aload_n 2, 1), (1530, .aload_n 0, 1), (1531, .iload 4, 2), (1533, .iconst 1, 1), (1534, .iadd, 1), (1535, .iaload, 1), (1536, .invokevirtual 274, 3), (1539, .istore 6, 2), (1541, .goto 311, 3), (1544, .aload_n 1, 1), (1545, .invokevirtual 275, 3), (1548, .pop, 1), (1549, .aload_n 2, 1), (1550, .invokevirtual 278, 3), (1553, .pop, 1), (1554, .goto 298, 3), (1557, .aload_n 1, 1), (1558, .aload_n 0, 1), (1559, .iload 4, 2), (1561, .iconst 1, 1), (1562, .iadd, 1), (1563, .iaload, 1), (1564, .aload_n 0, 1), (1565, .iload 4, 2), (1567, .iconst 2, 1), (1568, .iadd, 1)]
theorem zdb_1051 : zdk cL_law_ zdl_1051 = true := by decide +kernel
theorem dL_law__1520 : decode cL_law_ 1520 = .ok (.iconst 1, 1) := zdk_g zdb_1051 (i := 0) rfl
theorem dL_law__1521 : decode cL_law_ 1521 = .ok (.iadd, 1) := zdk_g zdb_1051 (i := 1) rfl
theorem dL_law__1522 : decode cL_law_ 1522 = .ok (.iaload, 1) := zdk_g zdb_1051 (i := 2) rfl
theorem dL_law__1523 : decode cL_law_ 1523 = .ok (.aload_n 3, 1) := zdk_g zdb_1051 (i := 3) rfl
theorem dL_law__1524 : decode cL_law_ 1524 = .ok (.invokestatic 272, 3) := zdk_g zdb_1051 (i := 4) rfl
theorem dL_law__1527 : decode cL_law_ 1527 = .ok (.istore 5, 2) := zdk_g zdb_1051 (i := 5) rfl
theorem dL_law__1529 : decode cL_law_ 1529 = .ok (.aload_n 2, 1) := zdk_g zdb_1051 (i := 6) rfl
theorem dL_law__1530 : decode cL_law_ 1530 = .ok (.aload_n 0, 1) := zdk_g zdb_1051 (i := 7) rfl
theorem dL_law__1531 : decode cL_law_ 1531 = .ok (.iload 4, 2) := zdk_g zdb_1051 (i := 8) rfl
theorem dL_law__1533 : decode cL_law_ 1533 = .ok (.iconst 1, 1) := zdk_g zdb_1051 (i := 9) rfl
theorem dL_law__1534 : decode cL_law_ 1534 = .ok (.iadd, 1) := zdk_g zdb_1051 (i := 10) rfl
theorem dL_law__1535 : decode cL_law_ 1535 = .ok (.iaload, 1) := zdk_g zdb_1051 (i := 11) rfl
theorem dL_law__1536 : decode cL_law_ 1536 = .ok (.invokevirtual 274, 3) := zdk_g zdb_1051 (i := 12) rfl
theorem dL_law__1539 : decode cL_law_ 1539 = .ok (.istore 6, 2) := zdk_g zdb_1051 (i := 13) rfl
theorem dL_law__1541 : decode cL_law_ 1541 = .ok (.goto 311, 3) := zdk_g zdb_1051 (i := 14) rfl
theorem dL_law__1544 : decode cL_law_ 1544 = .ok (.aload_n 1, 1) := zdk_g zdb_1051 (i := 15) rfl
theorem dL_law__1545 : decode cL_law_ 1545 = .ok (.invokevirtual 275, 3) := zdk_g zdb_1051 (i := 16) rfl
theorem dL_law__1548 : decode cL_law_ 1548 = .ok (.pop, 1) := zdk_g zdb_1051 (i := 17) rfl
theorem dL_law__1549 : decode cL_law_ 1549 = .ok (.aload_n 2, 1) := zdk_g zdb_1051 (i := 18) rfl
theorem dL_law__1550 : decode cL_law_ 1550 = .ok (.invokevirtual 278, 3) := zdk_g zdb_1051 (i := 19) rfl
theorem dL_law__1553 : decode cL_law_ 1553 = .ok (.pop, 1) := zdk_g zdb_1051 (i := 20) rfl
theorem dL_law__1554 : decode cL_law_ 1554 = .ok (.goto 298, 3) := zdk_g zdb_1051 (i := 21) rfl
theorem dL_law__1557 : decode cL_law_ 1557 = .ok (.aload_n 1, 1) := zdk_g zdb_1051 (i := 22) rfl
theorem dL_law__1558 : decode cL_law_ 1558 = .ok (.aload_n 0, 1) := zdk_g zdb_1051 (i := 23) rfl
theorem dL_law__1559 : decode cL_law_ 1559 = .ok (.iload 4, 2) := zdk_g zdb_1051 (i := 24) rfl
theorem dL_law__1561 : decode cL_law_ 1561 = .ok (.iconst 1, 1) := zdk_g zdb_1051 (i := 25) rfl
theorem dL_law__1562 : decode cL_law_ 1562 = .ok (.iadd, 1) := zdk_g zdb_1051 (i := 26) rfl
theorem dL_law__1563 : decode cL_law_ 1563 = .ok (.iaload, 1) := zdk_g zdb_1051 (i := 27) rfl
theorem dL_law__1564 : decode cL_law_ 1564 = .ok (.aload_n 0, 1) := zdk_g zdb_1051 (i := 28) rfl
theorem dL_law__1565 : decode cL_law_ 1565 = .ok (.iload 4, 2) := zdk_g zdb_1051 (i := 29) rfl
theorem dL_law__1567 : decode cL_law_ 1567 = .ok (.iconst 2, 1) := zdk_g zdb_1051 (i := 30) rfl
theorem dL_law__1568 : decode cL_law_ 1568 = .ok (.iadd, 1) := zdk_g zdb_1051 (i := 31) rfl
def zdl_1052 : List (Nat × Instr × Nat) := [(1569, .iaload, 1), (1570, .ifCond .eq 7, 3), (1573, .iconst 1, 1), (1574, .goto 4, 3), (1577, .iconst 0, 1), (1578, .aload_n 3, 1), (1579, .invokestatic 279, 3), (1582, .istore 5, 2), (1584, .aload_n 2, 1), (1585, .aload_n 0, 1), (1586, .iload 4, 2), (1588, .iconst 1, 1), (1589, .iadd, 1), (1590, .iaload, 1), (1591, .aload_n 0, 1), (1592, .iload 4, 2), (1594, .iconst 2, 1), (1595, .iadd, 1), (1596, .iaload, 1), (1597, .ifCond .eq 7, 3), (1600, .iconst 1, 1), (1601, .goto 4, 3), (1604, .iconst 0, 1), (1605, .invokevirtual 281, 3), (1608, .istore 6, 2), (1610, .goto 242, 3), (1613, .aload_n 1, 1), (1614, .aload_n 0, 1), (1615, .iload 4, 2), (1617, .iconst 1, 1), (1618, .iadd, 1), (1619, .iaload, 1)]
theorem zdb_1052 : zdk cL_law_ zdl_1052 = true := by decide +kernel
theorem dL_law__1569 : decode cL_law_ 1569 = .ok (.iaload, 1) := zdk_g zdb_1052 (i := 0) rfl
theorem dL_law__1570 : decode cL_law_ 1570 = .ok (.ifCond .eq 7, 3) := zdk_g zdb_1052 (i := 1) rfl
theorem dL_law__1573 : decode cL_law_ 1573 = .ok (.iconst 1, 1) := zdk_g zdb_1052 (i := 2) rfl
theorem dL_law__1574 : decode cL_law_ 1574 = .ok (.goto 4, 3) := zdk_g zdb_1052 (i := 3) rfl
theorem dL_law__1577 : decode cL_law_ 1577 = .ok (.iconst 0, 1) := zdk_g zdb_1052 (i := 4) rfl
theorem dL_law__1578 : decode cL_law_ 1578 = .ok (.aload_n 3, 1) := zdk_g zdb_1052 (i := 5) rfl
theorem dL_law__1579 : decode cL_law_ 1579 = .ok (.invokestatic 279, 3) := zdk_g zdb_1052 (i := 6) rfl
theorem dL_law__1582 : decode cL_law_ 1582 = .ok (.istore 5, 2) := zdk_g zdb_1052 (i := 7) rfl
theorem dL_law__1584 : decode cL_law_ 1584 = .ok (.aload_n 2, 1) := zdk_g zdb_1052 (i := 8) rfl
theorem dL_law__1585 : decode cL_law_ 1585 = .ok (.aload_n 0, 1) := zdk_g zdb_1052 (i := 9) rfl
theorem dL_law__1586 : decode cL_law_ 1586 = .ok (.iload 4, 2) := zdk_g zdb_1052 (i := 10) rfl
theorem dL_law__1588 : decode cL_law_ 1588 = .ok (.iconst 1, 1) := zdk_g zdb_1052 (i := 11) rfl
theorem dL_law__1589 : decode cL_law_ 1589 = .ok (.iadd, 1) := zdk_g zdb_1052 (i := 12) rfl
theorem dL_law__1590 : decode cL_law_ 1590 = .ok (.iaload, 1) := zdk_g zdb_1052 (i := 13) rfl
theorem dL_law__1591 : decode cL_law_ 1591 = .ok (.aload_n 0, 1) := zdk_g zdb_1052 (i := 14) rfl
theorem dL_law__1592 : decode cL_law_ 1592 = .ok (.iload 4, 2) := zdk_g zdb_1052 (i := 15) rfl
theorem dL_law__1594 : decode cL_law_ 1594 = .ok (.iconst 2, 1) := zdk_g zdb_1052 (i := 16) rfl
theorem dL_law__1595 : decode cL_law_ 1595 = .ok (.iadd, 1) := zdk_g zdb_1052 (i := 17) rfl
theorem dL_law__1596 : decode cL_law_ 1596 = .ok (.iaload, 1) := zdk_g zdb_1052 (i := 18) rfl
theorem dL_law__1597 : decode cL_law_ 1597 = .ok (.ifCond .eq 7, 3) := zdk_g zdb_1052 (i := 19) rfl
theorem dL_law__1600 : decode cL_law_ 1600 = .ok (.iconst 1, 1) := zdk_g zdb_1052 (i := 20) rfl
theorem dL_law__1601 : decode cL_law_ 1601 = .ok (.goto 4, 3) := zdk_g zdb_1052 (i := 21) rfl
theorem dL_law__1604 : decode cL_law_ 1604 = .ok (.iconst 0, 1) := zdk_g zdb_1052 (i := 22) rfl
theorem dL_law__1605 : decode cL_law_ 1605 = .ok (.invokevirtual 281, 3) := zdk_g zdb_1052 (i := 23) rfl
theorem dL_law__1608 : decode cL_law_ 1608 = .ok (.istore 6, 2) := zdk_g zdb_1052 (i := 24) rfl
theorem dL_law__1610 : decode cL_law_ 1610 = .ok (.goto 242, 3) := zdk_g zdb_1052 (i := 25) rfl
theorem dL_law__1613 : decode cL_law_ 1613 = .ok (.aload_n 1, 1) := zdk_g zdb_1052 (i := 26) rfl
theorem dL_law__1614 : decode cL_law_ 1614 = .ok (.aload_n 0, 1) := zdk_g zdb_1052 (i := 27) rfl
theorem dL_law__1615 : decode cL_law_ 1615 = .ok (.iload 4, 2) := zdk_g zdb_1052 (i := 28) rfl
theorem dL_law__1617 : decode cL_law_ 1617 = .ok (.iconst 1, 1) := zdk_g zdb_1052 (i := 29) rfl
theorem dL_law__1618 : decode cL_law_ 1618 = .ok (.iadd, 1) := zdk_g zdb_1052 (i := 30) rfl
theorem dL_law__1619 : decode cL_law_ 1619 = .ok (.iaload, 1) := zdk_g zdb_1052 (i := 31) rfl
def zdl_1053 : List (Nat × Instr × Nat) := [(1620, .aload_n 0, 1), (1621, .iload 4, 2), (1623, .iconst 2, 1), (1624, .iadd, 1), (1625, .iaload, 1), (1626, .ifCond .eq 7, 3), (1629, .iconst 1, 1), (1630, .goto 4, 3), (1633, .iconst 0, 1), (1634, .aload_n 3, 1), (1635, .invokestatic 282, 3), (1638, .istore 5, 2), (1640, .aload_n 2, 1), (1641, .aload_n 0, 1), (1642, .iload 4, 2), (1644, .iconst 1, 1), (1645, .iadd, 1), (1646, .iaload, 1), (1647, .aload_n 0, 1), (1648, .iload 4, 2), (1650, .iconst 2, 1), (1651, .iadd, 1), (1652, .iaload, 1), (1653, .ifCond .eq 7, 3), (1656, .iconst 1, 1), (1657, .goto 4, 3), (1660, .iconst 0, 1), (1661, .invokevirtual 284, 3), (1664, .istore 6, 2), (1666, .goto 186, 3), (1669, .aload_n 1, 1), (1670, .aload_n 0, 1)]
theorem zdb_1053 : zdk cL_law_ zdl_1053 = true := by decide +kernel
theorem dL_law__1620 : decode cL_law_ 1620 = .ok (.aload_n 0, 1) := zdk_g zdb_1053 (i := 0) rfl
theorem dL_law__1621 : decode cL_law_ 1621 = .ok (.iload 4, 2) := zdk_g zdb_1053 (i := 1) rfl
theorem dL_law__1623 : decode cL_law_ 1623 = .ok (.iconst 2, 1) := zdk_g zdb_1053 (i := 2) rfl
theorem dL_law__1624 : decode cL_law_ 1624 = .ok (.iadd, 1) := zdk_g zdb_1053 (i := 3) rfl
theorem dL_law__1625 : decode cL_law_ 1625 = .ok (.iaload, 1) := zdk_g zdb_1053 (i := 4) rfl
theorem dL_law__1626 : decode cL_law_ 1626 = .ok (.ifCond .eq 7, 3) := zdk_g zdb_1053 (i := 5) rfl
theorem dL_law__1629 : decode cL_law_ 1629 = .ok (.iconst 1, 1) := zdk_g zdb_1053 (i := 6) rfl
theorem dL_law__1630 : decode cL_law_ 1630 = .ok (.goto 4, 3) := zdk_g zdb_1053 (i := 7) rfl
theorem dL_law__1633 : decode cL_law_ 1633 = .ok (.iconst 0, 1) := zdk_g zdb_1053 (i := 8) rfl
theorem dL_law__1634 : decode cL_law_ 1634 = .ok (.aload_n 3, 1) := zdk_g zdb_1053 (i := 9) rfl
theorem dL_law__1635 : decode cL_law_ 1635 = .ok (.invokestatic 282, 3) := zdk_g zdb_1053 (i := 10) rfl
theorem dL_law__1638 : decode cL_law_ 1638 = .ok (.istore 5, 2) := zdk_g zdb_1053 (i := 11) rfl
theorem dL_law__1640 : decode cL_law_ 1640 = .ok (.aload_n 2, 1) := zdk_g zdb_1053 (i := 12) rfl
theorem dL_law__1641 : decode cL_law_ 1641 = .ok (.aload_n 0, 1) := zdk_g zdb_1053 (i := 13) rfl
theorem dL_law__1642 : decode cL_law_ 1642 = .ok (.iload 4, 2) := zdk_g zdb_1053 (i := 14) rfl
theorem dL_law__1644 : decode cL_law_ 1644 = .ok (.iconst 1, 1) := zdk_g zdb_1053 (i := 15) rfl
theorem dL_law__1645 : decode cL_law_ 1645 = .ok (.iadd, 1) := zdk_g zdb_1053 (i := 16) rfl
theorem dL_law__1646 : decode cL_law_ 1646 = .ok (.iaload, 1) := zdk_g zdb_1053 (i := 17) rfl
theorem dL_law__1647 : decode cL_law_ 1647 = .ok (.aload_n 0, 1) := zdk_g zdb_1053 (i := 18) rfl
theorem dL_law__1648 : decode cL_law_ 1648 = .ok (.iload 4, 2) := zdk_g zdb_1053 (i := 19) rfl
theorem dL_law__1650 : decode cL_law_ 1650 = .ok (.iconst 2, 1) := zdk_g zdb_1053 (i := 20) rfl
theorem dL_law__1651 : decode cL_law_ 1651 = .ok (.iadd, 1) := zdk_g zdb_1053 (i := 21) rfl
theorem dL_law__1652 : decode cL_law_ 1652 = .ok (.iaload, 1) := zdk_g zdb_1053 (i := 22) rfl
theorem dL_law__1653 : decode cL_law_ 1653 = .ok (.ifCond .eq 7, 3) := zdk_g zdb_1053 (i := 23) rfl
theorem dL_law__1656 : decode cL_law_ 1656 = .ok (.iconst 1, 1) := zdk_g zdb_1053 (i := 24) rfl
theorem dL_law__1657 : decode cL_law_ 1657 = .ok (.goto 4, 3) := zdk_g zdb_1053 (i := 25) rfl
theorem dL_law__1660 : decode cL_law_ 1660 = .ok (.iconst 0, 1) := zdk_g zdb_1053 (i := 26) rfl
theorem dL_law__1661 : decode cL_law_ 1661 = .ok (.invokevirtual 284, 3) := zdk_g zdb_1053 (i := 27) rfl
theorem dL_law__1664 : decode cL_law_ 1664 = .ok (.istore 6, 2) := zdk_g zdb_1053 (i := 28) rfl
theorem dL_law__1666 : decode cL_law_ 1666 = .ok (.goto 186, 3) := zdk_g zdb_1053 (i := 29) rfl
theorem dL_law__1669 : decode cL_law_ 1669 = .ok (.aload_n 1, 1) := zdk_g zdb_1053 (i := 30) rfl
theorem dL_law__1670 : decode cL_law_ 1670 = .ok (.aload_n 0, 1) := zdk_g zdb_1053 (i := 31) rfl
def zdl_1054 : List (Nat × Instr × Nat) := [(1671, .iload 4, 2), (1673, .iconst 1, 1), (1674, .iadd, 1), (1675, .iaload, 1), (1676, .aload_n 0, 1), (1677, .iload 4, 2), (1679, .iconst 2, 1), (1680, .iadd, 1), (1681, .iaload, 1), (1682, .ifCond .eq 7, 3), (1685, .iconst 1, 1), (1686, .goto 4, 3), (1689, .iconst 0, 1), (1690, .aload_n 3, 1), (1691, .invokestatic 285, 3), (1694, .istore 5, 2), (1696, .aload_n 2, 1), (1697, .aload_n 0, 1), (1698, .iload 4, 2), (1700, .iconst 1, 1), (1701, .iadd, 1), (1702, .iaload, 1), (1703, .aload_n 0, 1), (1704, .iload 4, 2), (1706, .iconst 2, 1), (1707, .iadd, 1), (1708, .iaload, 1), (1709, .ifCond .eq 7, 3), (1712, .iconst 1, 1), (1713, .goto 4, 3), (1716, .iconst 0, 1), (1717, .invokevirtual 287, 3)]
theorem zdb_1054 : zdk cL_law_ zdl_1054 = true := by decide +kernel
theorem dL_law__1671 : decode cL_law_ 1671 = .ok (.iload 4, 2) := zdk_g zdb_1054 (i := 0) rfl
theorem dL_law__1673 : decode cL_law_ 1673 = .ok (.iconst 1, 1) := zdk_g zdb_1054 (i := 1) rfl
theorem dL_law__1674 : decode cL_law_ 1674 = .ok (.iadd, 1) := zdk_g zdb_1054 (i := 2) rfl
theorem dL_law__1675 : decode cL_law_ 1675 = .ok (.iaload, 1) := zdk_g zdb_1054 (i := 3) rfl
theorem dL_law__1676 : decode cL_law_ 1676 = .ok (.aload_n 0, 1) := zdk_g zdb_1054 (i := 4) rfl
theorem dL_law__1677 : decode cL_law_ 1677 = .ok (.iload 4, 2) := zdk_g zdb_1054 (i := 5) rfl
theorem dL_law__1679 : decode cL_law_ 1679 = .ok (.iconst 2, 1) := zdk_g zdb_1054 (i := 6) rfl
theorem dL_law__1680 : decode cL_law_ 1680 = .ok (.iadd, 1) := zdk_g zdb_1054 (i := 7) rfl
theorem dL_law__1681 : decode cL_law_ 1681 = .ok (.iaload, 1) := zdk_g zdb_1054 (i := 8) rfl
theorem dL_law__1682 : decode cL_law_ 1682 = .ok (.ifCond .eq 7, 3) := zdk_g zdb_1054 (i := 9) rfl
theorem dL_law__1685 : decode cL_law_ 1685 = .ok (.iconst 1, 1) := zdk_g zdb_1054 (i := 10) rfl
theorem dL_law__1686 : decode cL_law_ 1686 = .ok (.goto 4, 3) := zdk_g zdb_1054 (i := 11) rfl
theorem dL_law__1689 : decode cL_law_ 1689 = .ok (.iconst 0, 1) := zdk_g zdb_1054 (i := 12) rfl
theorem dL_law__1690 : decode cL_law_ 1690 = .ok (.aload_n 3, 1) := zdk_g zdb_1054 (i := 13) rfl
theorem dL_law__1691 : decode cL_law_ 1691 = .ok (.invokestatic 285, 3) := zdk_g zdb_1054 (i := 14) rfl
theorem dL_law__1694 : decode cL_law_ 1694 = .ok (.istore 5, 2) := zdk_g zdb_1054 (i := 15) rfl
theorem dL_law__1696 : decode cL_law_ 1696 = .ok (.aload_n 2, 1) := zdk_g zdb_1054 (i := 16) rfl
theorem dL_law__1697 : decode cL_law_ 1697 = .ok (.aload_n 0, 1) := zdk_g zdb_1054 (i := 17) rfl
theorem dL_law__1698 : decode cL_law_ 1698 = .ok (.iload 4, 2) := zdk_g zdb_1054 (i := 18) rfl
theorem dL_law__1700 : decode cL_law_ 1700 = .ok (.iconst 1, 1) := zdk_g zdb_1054 (i := 19) rfl
theorem dL_law__1701 : decode cL_law_ 1701 = .ok (.iadd, 1) := zdk_g zdb_1054 (i := 20) rfl
theorem dL_law__1702 : decode cL_law_ 1702 = .ok (.iaload, 1) := zdk_g zdb_1054 (i := 21) rfl
theorem dL_law__1703 : decode cL_law_ 1703 = .ok (.aload_n 0, 1) := zdk_g zdb_1054 (i := 22) rfl
theorem dL_law__1704 : decode cL_law_ 1704 = .ok (.iload 4, 2) := zdk_g zdb_1054 (i := 23) rfl
theorem dL_law__1706 : decode cL_law_ 1706 = .ok (.iconst 2, 1) := zdk_g zdb_1054 (i := 24) rfl
theorem dL_law__1707 : decode cL_law_ 1707 = .ok (.iadd, 1) := zdk_g zdb_1054 (i := 25) rfl
theorem dL_law__1708 : decode cL_law_ 1708 = .ok (.iaload, 1) := zdk_g zdb_1054 (i := 26) rfl
theorem dL_law__1709 : decode cL_law_ 1709 = .ok (.ifCond .eq 7, 3) := zdk_g zdb_1054 (i := 27) rfl
theorem dL_law__1712 : decode cL_law_ 1712 = .ok (.iconst 1, 1) := zdk_g zdb_1054 (i := 28) rfl
theorem dL_law__1713 : decode cL_law_ 1713 = .ok (.goto 4, 3) := zdk_g zdb_1054 (i := 29) rfl
theorem dL_law__1716 : decode cL_law_ 1716 = .ok (.iconst 0, 1) := zdk_g zdb_1054 (i := 30) rfl
theorem dL_law__1717 : decode cL_law_ 1717 = .ok (.invokevirtual 287, 3) := zdk_g zdb_1054 (i := 31) rfl
def zdl_1055 : List (Nat × Instr × Nat) := [(1720, .istore 6, 2), (1722, .goto 130, 3), (1725, .aload_n 1, 1), (1726, .aload_n 0, 1), (1727, .iload 4, 2), (1729, .iconst 1, 1), (1730, .iadd, 1), (1731, .iaload, 1), (1732, .aload_n 0, 1), (1733, .iload 4, 2), (1735, .iconst 2, 1), (1736, .iadd, 1), (1737, .iaload, 1), (1738, .aload_n 3, 1), (1739, .invokestatic 288, 3), (1742, .istore 5, 2), (1744, .aload_n 2, 1), (1745, .aload_n 0, 1), (1746, .iload 4, 2), (1748, .iconst 1, 1), (1749, .iadd, 1), (1750, .iaload, 1), (1751, .aload_n 0, 1), (1752, .iload 4, 2), (1754, .iconst 2, 1), (1755, .iadd, 1), (1756, .iaload, 1), (1757, .invokevirtual 290, 3), (1760, .istore 6, 2), (1762, .goto 90, 3), (1765, .aload_n 1, 1), (1766, .aload_n 0, 1)]
theorem zdb_1055 : zdk cL_law_ zdl_1055 = true := by decide +kernel
theorem dL_law__1720 : decode cL_law_ 1720 = .ok (.istore 6, 2) := zdk_g zdb_1055 (i := 0) rfl
theorem dL_law__1722 : decode cL_law_ 1722 = .ok (.goto 130, 3) := zdk_g zdb_1055 (i := 1) rfl
theorem dL_law__1725 : decode cL_law_ 1725 = .ok (.aload_n 1, 1) := zdk_g zdb_1055 (i := 2) rfl
theorem dL_law__1726 : decode cL_law_ 1726 = .ok (.aload_n 0, 1) := zdk_g zdb_1055 (i := 3) rfl
theorem dL_law__1727 : decode cL_law_ 1727 = .ok (.iload 4, 2) := zdk_g zdb_1055 (i := 4) rfl
theorem dL_law__1729 : decode cL_law_ 1729 = .ok (.iconst 1, 1) := zdk_g zdb_1055 (i := 5) rfl
theorem dL_law__1730 : decode cL_law_ 1730 = .ok (.iadd, 1) := zdk_g zdb_1055 (i := 6) rfl
theorem dL_law__1731 : decode cL_law_ 1731 = .ok (.iaload, 1) := zdk_g zdb_1055 (i := 7) rfl
theorem dL_law__1732 : decode cL_law_ 1732 = .ok (.aload_n 0, 1) := zdk_g zdb_1055 (i := 8) rfl
theorem dL_law__1733 : decode cL_law_ 1733 = .ok (.iload 4, 2) := zdk_g zdb_1055 (i := 9) rfl
theorem dL_law__1735 : decode cL_law_ 1735 = .ok (.iconst 2, 1) := zdk_g zdb_1055 (i := 10) rfl
theorem dL_law__1736 : decode cL_law_ 1736 = .ok (.iadd, 1) := zdk_g zdb_1055 (i := 11) rfl
theorem dL_law__1737 : decode cL_law_ 1737 = .ok (.iaload, 1) := zdk_g zdb_1055 (i := 12) rfl
theorem dL_law__1738 : decode cL_law_ 1738 = .ok (.aload_n 3, 1) := zdk_g zdb_1055 (i := 13) rfl
theorem dL_law__1739 : decode cL_law_ 1739 = .ok (.invokestatic 288, 3) := zdk_g zdb_1055 (i := 14) rfl
theorem dL_law__1742 : decode cL_law_ 1742 = .ok (.istore 5, 2) := zdk_g zdb_1055 (i := 15) rfl
theorem dL_law__1744 : decode cL_law_ 1744 = .ok (.aload_n 2, 1) := zdk_g zdb_1055 (i := 16) rfl
theorem dL_law__1745 : decode cL_law_ 1745 = .ok (.aload_n 0, 1) := zdk_g zdb_1055 (i := 17) rfl
theorem dL_law__1746 : decode cL_law_ 1746 = .ok (.iload 4, 2) := zdk_g zdb_1055 (i := 18) rfl
theorem dL_law__1748 : decode cL_law_ 1748 = .ok (.iconst 1, 1) := zdk_g zdb_1055 (i := 19) rfl
theorem dL_law__1749 : decode cL_law_ 1749 = .ok (.iadd, 1) := zdk_g zdb_1055 (i := 20) rfl
theorem dL_law__1750 : decode cL_law_ 1750 = .ok (.iaload, 1) := zdk_g zdb_1055 (i := 21) rfl
theorem dL_law__1751 : decode cL_law_ 1751 = .ok (.aload_n 0, 1) := zdk_g zdb_1055 (i := 22) rfl
theorem dL_law__1752 : decode cL_law_ 1752 = .ok (.iload 4, 2) := zdk_g zdb_1055 (i := 23) rfl
theorem dL_law__1754 : decode cL_law_ 1754 = .ok (.iconst 2, 1) := zdk_g zdb_1055 (i := 24) rfl
theorem dL_law__1755 : decode cL_law_ 1755 = .ok (.iadd, 1) := zdk_g zdb_1055 (i := 25) rfl
theorem dL_law__1756 : decode cL_law_ 1756 = .ok (.iaload, 1) := zdk_g zdb_1055 (i := 26) rfl
theorem dL_law__1757 : decode cL_law_ 1757 = .ok (.invokevirtual 290, 3) := zdk_g zdb_1055 (i := 27) rfl
theorem dL_law__1760 : decode cL_law_ 1760 = .ok (.istore 6, 2) := zdk_g zdb_1055 (i := 28) rfl
theorem dL_law__1762 : decode cL_law_ 1762 = .ok (.goto 90, 3) := zdk_g zdb_1055 (i := 29) rfl
theorem dL_law__1765 : decode cL_law_ 1765 = .ok (.aload_n 1, 1) := zdk_g zdb_1055 (i := 30) rfl
theorem dL_law__1766 : decode cL_law_ 1766 = .ok (.aload_n 0, 1) := zdk_g zdb_1055 (i := 31) rfl
def zdl_1056 : List (Nat × Instr × Nat) := [(1767, .iload 4, 2), (1769, .iconst 1, 1), (1770, .iadd, 1), (1771, .iaload, 1), (1772, .invokevirtual 291, 3), (1775, .pop, 1), (1776, .aload_n 2, 1), (1777, .aload_n 0, 1), (1778, .iload 4, 2), (1780, .iconst 1, 1), (1781, .iadd, 1), (1782, .iaload, 1), (1783, .invokevirtual 294, 3), (1786, .pop, 1), (1787, .goto 65, 3), (1790, .aload_n 1, 1), (1791, .invokevirtual 295, 3), (1794, .pop, 1), (1795, .aload_n 2, 1), (1796, .invokevirtual 299, 3), (1799, .pop, 1), (1800, .goto 52, 3), (1803, .aload_n 1, 1), (1804, .invokevirtual 300, 3), (1807, .aload_n 2, 1), (1808, .invokevirtual 303, 3), (1811, .goto 41, 3), (1814, .aload_n 1, 1), (1815, .invokevirtual 304, 3), (1818, .pop, 1), (1819, .aload_n 2, 1), (1820, .invokevirtual 307, 3)]
theorem zdb_1056 : zdk cL_law_ zdl_1056 = true := by decide +kernel
theorem dL_law__1767 : decode cL_law_ 1767 = .ok (.iload 4, 2) := zdk_g zdb_1056 (i := 0) rfl
theorem dL_law__1769 : decode cL_law_ 1769 = .ok (.iconst 1, 1) := zdk_g zdb_1056 (i := 1) rfl
theorem dL_law__1770 : decode cL_law_ 1770 = .ok (.iadd, 1) := zdk_g zdb_1056 (i := 2) rfl
theorem dL_law__1771 : decode cL_law_ 1771 = .ok (.iaload, 1) := zdk_g zdb_1056 (i := 3) rfl
theorem dL_law__1772 : decode cL_law_ 1772 = .ok (.invokevirtual 291, 3) := zdk_g zdb_1056 (i := 4) rfl
theorem dL_law__1775 : decode cL_law_ 1775 = .ok (.pop, 1) := zdk_g zdb_1056 (i := 5) rfl
theorem dL_law__1776 : decode cL_law_ 1776 = .ok (.aload_n 2, 1) := zdk_g zdb_1056 (i := 6) rfl
theorem dL_law__1777 : decode cL_law_ 1777 = .ok (.aload_n 0, 1) := zdk_g zdb_1056 (i := 7) rfl
theorem dL_law__1778 : decode cL_law_ 1778 = .ok (.iload 4, 2) := zdk_g zdb_1056 (i := 8) rfl
theorem dL_law__1780 : decode cL_law_ 1780 = .ok (.iconst 1, 1) := zdk_g zdb_1056 (i := 9) rfl
theorem dL_law__1781 : decode cL_law_ 1781 = .ok (.iadd, 1) := zdk_g zdb_1056 (i := 10) rfl
theorem dL_law__1782 : decode cL_law_ 1782 = .ok (.iaload, 1) := zdk_g zdb_1056 (i := 11) rfl
theorem dL_law__1783 : decode cL_law_ 1783 = .ok (.invokevirtual 294, 3) := zdk_g zdb_1056 (i := 12) rfl
theorem dL_law__1786 : decode cL_law_ 1786 = .ok (.pop, 1) := zdk_g zdb_1056 (i := 13) rfl
theorem dL_law__1787 : decode cL_law_ 1787 = .ok (.goto 65, 3) := zdk_g zdb_1056 (i := 14) rfl
theorem dL_law__1790 : decode cL_law_ 1790 = .ok (.aload_n 1, 1) := zdk_g zdb_1056 (i := 15) rfl
theorem dL_law__1791 : decode cL_law_ 1791 = .ok (.invokevirtual 295, 3) := zdk_g zdb_1056 (i := 16) rfl
theorem dL_law__1794 : decode cL_law_ 1794 = .ok (.pop, 1) := zdk_g zdb_1056 (i := 17) rfl
theorem dL_law__1795 : decode cL_law_ 1795 = .ok (.aload_n 2, 1) := zdk_g zdb_1056 (i := 18) rfl
theorem dL_law__1796 : decode cL_law_ 1796 = .ok (.invokevirtual 299, 3) := zdk_g zdb_1056 (i := 19) rfl
theorem dL_law__1799 : decode cL_law_ 1799 = .ok (.pop, 1) := zdk_g zdb_1056 (i := 20) rfl
theorem dL_law__1800 : decode cL_law_ 1800 = .ok (.goto 52, 3) := zdk_g zdb_1056 (i := 21) rfl
theorem dL_law__1803 : decode cL_law_ 1803 = .ok (.aload_n 1, 1) := zdk_g zdb_1056 (i := 22) rfl
theorem dL_law__1804 : decode cL_law_ 1804 = .ok (.invokevirtual 300, 3) := zdk_g zdb_1056 (i := 23) rfl
theorem dL_law__1807 : decode cL_law_ 1807 = .ok (.aload_n 2, 1) := zdk_g zdb_1056 (i := 24) rfl
theorem dL_law__1808 : decode cL_law_ 1808 = .ok (.invokevirtual 303, 3) := zdk_g zdb_1056 (i := 25) rfl
theorem dL_law__1811 : decode cL_law_ 1811 = .ok (.goto 41, 3) := zdk_g zdb_1056 (i := 26) rfl
theorem dL_law__1814 : decode cL_law_ 1814 = .ok (.aload_n 1, 1) := zdk_g zdb_1056 (i := 27) rfl
theorem dL_law__1815 : decode cL_law_ 1815 = .ok (.invokevirtual 304, 3) := zdk_g zdb_1056 (i := 28) rfl
theorem dL_law__1818 : decode cL_law_ 1818 = .ok (.pop, 1) := zdk_g zdb_1056 (i := 29) rfl
theorem dL_law__1819 : decode cL_law_ 1819 = .ok (.aload_n 2, 1) := zdk_g zdb_1056 (i := 30) rfl
theorem dL_law__1820 : decode cL_law_ 1820 = .ok (.invokevirtual 307, 3) := zdk_g zdb_1056 (i := 31) rfl
def zdl_1057 : List (Nat × Instr × Nat) := [(1823, .pop, 1), (1824, .goto 28, 3), (1827, .aload_n 1, 1), (1828, .aload_n 0, 1), (1829, .iload 4, 2), (1831, .iconst 1, 1), (1832, .iadd, 1), (1833, .iaload, 1), (1834, .invokevirtual 308, 3), (1837, .pop, 1), (1838, .aload_n 2, 1), (1839, .aload_n 0, 1), (1840, .iload 4, 2), (1842, .iconst 1, 1), (1843, .iadd, 1), (1844, .iaload, 1), (1845, .invokevirtual 311, 3), (1848, .pop, 1), (1849, .goto 3, 3), (1852, .iinc 4 6, 3), (1855, .goto (-1832), 3), (1858, .iconst 1, 1), (1859, .ireturn, 1)]
theorem zdb_1057 : zdk cL_law_ zdl_1057 = true := by decide +kernel
theorem dL_law__1823 : decode cL_law_ 1823 = .ok (.pop, 1) := zdk_g zdb_1057 (i := 0) rfl
theorem dL_law__1824 : decode cL_law_ 1824 = .ok (.goto 28, 3) := zdk_g zdb_1057 (i := 1) rfl
theorem dL_law__1827 : decode cL_law_ 1827 = .ok (.aload_n 1, 1) := zdk_g zdb_1057 (i := 2) rfl
theorem dL_law__1828 : decode cL_law_ 1828 = .ok (.aload_n 0, 1) := zdk_g zdb_1057 (i := 3) rfl
theorem dL_law__1829 : decode cL_law_ 1829 = .ok (.iload 4, 2) := zdk_g zdb_1057 (i := 4) rfl
theorem dL_law__1831 : decode cL_law_ 1831 = .ok (.iconst 1, 1) := zdk_g zdb_1057 (i := 5) rfl
theorem dL_law__1832 : decode cL_law_ 1832 = .ok (.iadd, 1) := zdk_g zdb_1057 (i := 6) rfl
theorem dL_law__1833 : decode cL_law_ 1833 = .ok (.iaload, 1) := zdk_g zdb_1057 (i := 7) rfl
theorem dL_law__1834 : decode cL_law_ 1834 = .ok (.invokevirtual 308, 3) := zdk_g zdb_1057 (i := 8) rfl
theorem dL_law__1837 : decode cL_law_ 1837 = .ok (.pop, 1) := zdk_g zdb_1057 (i := 9) rfl
theorem dL_law__1838 : decode cL_law_ 1838 = .ok (.aload_n 2, 1) := zdk_g zdb_1057 (i := 10) rfl
theorem dL_law__1839 : decode cL_law_ 1839 = .ok (.aload_n 0, 1) := zdk_g zdb_1057 (i := 11) rfl
theorem dL_law__1840 : decode cL_law_ 1840 = .ok (.iload 4, 2) := zdk_g zdb_1057 (i := 12) rfl
theorem dL_law__1842 : decode cL_law_ 1842 = .ok (.iconst 1, 1) := zdk_g zdb_1057 (i := 13) rfl
theorem dL_law__1843 : decode cL_law_ 1843 = .ok (.iadd, 1) := zdk_g zdb_1057 (i := 14) rfl
theorem dL_law__1844 : decode cL_law_ 1844 = .ok (.iaload, 1) := zdk_g zdb_1057 (i := 15) rfl
theorem dL_law__1845 : decode cL_law_ 1845 = .ok (.invokevirtual 311, 3) := zdk_g zdb_1057 (i := 16) rfl
theorem dL_law__1848 : decode cL_law_ 1848 = .ok (.pop, 1) := zdk_g zdb_1057 (i := 17) rfl
theorem dL_law__1849 : decode cL_law_ 1849 = .ok (.goto 3, 3) := zdk_g zdb_1057 (i := 18) rfl
theorem dL_law__1852 : decode cL_law_ 1852 = .ok (.iinc 4 6, 3) := zdk_g zdb_1057 (i := 19) rfl
theorem dL_law__1855 : decode cL_law_ 1855 = .ok (.goto (-1832), 3) := zdk_g zdb_1057 (i := 20) rfl
theorem dL_law__1858 : decode cL_law_ 1858 = .ok (.iconst 1, 1) := zdk_g zdb_1057 (i := 21) rfl
theorem dL_law__1859 : decode cL_law_ 1859 = .ok (.ireturn, 1) := zdk_g zdb_1057 (i := 22) rfl
