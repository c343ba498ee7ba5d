theorem dL_law__997 : decode cL_law_ 997 = .ok (.iconst 1, 1) := by decide +kernel
theorem dL_law__998 : decode cL_law_ 998 = .ok (.iadd, 1) := by decide +kernel
theorem dL_law__999 : decode cL_law_ 999 = .ok (.iaload, 1) := by decide +kernel
theorem dL_law__1000 : decode cL_law_ 1000 = .ok (.aload_n 0, 1) := by decide +kernel
theorem dL_law__1001 : decode cL_law_ 1001 = .ok (.iload 4, 2) := by decide +kernel
theorem dL_law__1003 : decode cL_law_ 1003 = .ok (.iconst 2, 1) := by decide +kernel
theorem dL_law__1004 : decode cL_law_ 1004 = .ok (.iadd, 1) := by decide +kernel
theorem dL_law__1005 : decode cL_law_ 1005 = .ok (.iaload, 1) := by decide +kernel
theorem dL_law__1006 : decode cL_law_ 1006 = .ok (.aload_n 3, 1) := by decide +kernel
theorem dL_law__1007 : decode cL_law_ 1007 = .ok (.invokestatic 207, 3) := by decide +kernel
theorem dL_law__1010 : decode cL_law_ 1010 = .ok (.istore 5, 2) := by decide +kernel
theorem dL_law__1012 : decode cL_law_ 1012 = .ok (.aload_n 2, 1) := by decide +kernel
theorem dL_law__1013 : decode cL_law_ 1013 = .ok (.aload_n 0, 1) := by decide +kernel
theorem dL_law__1014 : decode cL_law_ 1014 = .ok (.iload 4, 2) := by decide +kernel
theorem dL_law__1016 : decode cL_law_ 1016 = .ok (.iconst 1, 1) := by decide +kernel
theorem dL_law__1017 : decode cL_law_ 1017 = .ok (.iadd, 1) := by decide +kernel
theorem dL_law__1018 : decode cL_law_ 1018 = .ok (.iaload, 1) := by decide +kernel
theorem dL_law__1019 : decode cL_law_ 1019 = .ok (.aload_n 0, 1) := by decide +kernel
theorem dL_law__1020 : decode cL_law_ 1020 = .ok (.iload 4, 2) := by decide +kernel
theorem dL_law__1022 : decode cL_law_ 1022 = .ok (.iconst 2, 1) := by decide +kernel
theorem dL_law__1023 : decode cL_law_ 1023 = .ok (.iadd, 1) := by decide +kernel
theorem dL_law__1024 : decode cL_law_ 1024 = .ok (.iaload, 1) := by decide +kernel
theorem dL_law__1025 : decode cL_law_ 1025 = .ok (.invokevirtual 209, 3) := by decide +kernel
theorem dL_law__1028 : decode cL_law_ 1028 = .ok (.istore 6, 2) := by decide +kernel
theorem dL_law__1030 : decode cL_law_ 1030 = .ok (.goto 794, 3) := by decide +kernel
theorem dL_law__1033 : decode cL_law_ 1033 = .ok (.aload_n 1, 1) := by decide +kernel
theorem dL_law__1034 : decode cL_law_ 1034 = .ok (.aload_n 0, 1) := by decide +kernel
theorem dL_law__1035 : decode cL_law_ 1035 = .ok (.iload 4, 2) := by decide +kernel
theorem dL_law__1037 : decode cL_law_ 1037 = .ok (.iconst 1, 1) := by decide +kernel
theorem dL_law__1038 : decode cL_law_ 1038 = .ok (.iadd, 1) := by decide +kernel
theorem dL_law__1039 : decode cL_law_ 1039 = .ok (.iaload, 1) := by decide +kernel
theorem dL_law__1040 : decode cL_law_ 1040 = .ok (.aload_n 3, 1) := by decide +kernel
theorem dL_law__1041 : decode cL_law_ 1041 = .ok (.invokestatic 210, 3) := by decide +kernel
theorem dL_law__1044 : decode cL_law_ 1044 = .ok (.istore 5, 2) := by decide +kernel
theorem dL_law__1046 : decode cL_law_ 1046 = .ok (.aload_n 2, 1) := by decide +kernel
theorem dL_law__1047 : decode cL_law_ 1047 = .ok (.aload_n 0, 1) := by decide +kernel
theorem dL_law__1048 : decode cL_law_ 1048 = .ok (.iload 4, 2) := by decide +kernel
theorem dL_law__1050 : decode cL_law_ 1050 = .ok (.iconst 1, 1) := by decide +kernel
theorem dL_law__1051 : decode cL_law_ 1051 = .ok (.iadd, 1) := by decide +kernel
theorem dL_law__1052 : decode cL_law_ 1052 = .ok (.iaload, 1) := by decide +kernel
theorem dL_law__1053 : decode cL_law_ 1053 = .ok (.invokevirtual 212, 3) := by decide +kernel
theorem dL_law__1056 : decode cL_law_ 1056 = .ok (.istore 6, 2) := by decide +kernel
theorem dL_law__1058 : decode cL_law_ 1058 = .ok (.goto 766, 3) := by decide +kernel
theorem dL_law__1061 : decode cL_law_ 1061 = .ok (.aload_n 1, 1) := by decide +kernel
theorem dL_law__1062 : decode cL_law_ 1062 = .ok (.invokevirtual 213, 3) := by decide +kernel
theorem dL_law__1065 : decode cL_law_ 1065 = .ok (.pop, 1) := by decide +kernel
theorem dL_law__1066 : decode cL_law_ 1066 = .ok (.aload_n 2, 1) := by decide +kernel
theorem dL_law__1067 : decode cL_law_ 1067 = .ok (.invokevirtual 216, 3) := by decide +kernel
theorem dL_law__1070 : decode cL_law_ 1070 = .ok (.pop, 1) := by decide +kernel
theorem dL_law__1071 : decode cL_law_ 1071 = .ok (.goto 753, 3) := by decide +kernel
theorem dL_law__1074 : decode cL_law_ 1074 = .ok (.aload_n 1, 1) := by decide +kernel
theorem dL_law__1075 : decode cL_law_ 1075 = .ok (.invokevirtual 217, 3) := by decide +kernel
theorem dL_law__1078 : decode cL_law_ 1078 = .ok (.pop, 1) := by decide +kernel
theorem dL_law__1079 : decode cL_law_ 1079 = .ok (.aload_n 2, 1) := by decide +kernel
theorem dL_law__1080 : decode cL_law_ 1080 = .ok (.invokevirtual 220, 3) := by decide +kernel
theorem dL_law__1083 : decode cL_law_ 1083 = .ok (.pop, 1) := by decide +kernel
theorem dL_law__1084 : decode cL_law_ 1084 = .ok (.goto 740, 3) := by decide +kernel
theorem dL_law__1087 : decode cL_law_ 1087 = .ok (.aload_n 1, 1) := by decide +kernel
theorem dL_law__1088 : decode cL_law_ 1088 = .ok (.aload_n 0, 1) := by decide +kernel
theorem dL_law__1089 : decode cL_law_ 1089 = .ok (.iload 4, 2) := by decide +kernel
theorem dL_law__1091 : decode cL_law_ 1091 = .ok (.iconst 1, 1) := by decide +kernel
theorem dL_law__1092 : decode cL_law_ 1092 = .ok (.iadd, 1) := by decide +kernel
theorem dL_law__1093 : decode cL_law_ 1093 = .ok (.iaload, 1) := by decide +kernel
theorem dL_law__1094 : decode cL_law_ 1094 = .ok (.aload_n 0, 1) := by decide +kernel
theorem dL_law__1095 : decode cL_law_ 1095 = .ok (.iload 4, 2) := by decide +kernel
theorem dL_law__1097 : decode cL_law_ 1097 = .ok (.iconst 2, 1) := by decide +kernel
theorem dL_law__1098 : decode cL_law_ 1098 = .ok (.iadd, 1) := by decide +kernel
theorem dL_law__1099 : decode cL_law_ 1099 = .ok (.iaload, 1) := by decide +kernel
theorem dL_law__1100 : decode cL_law_ 1100 = .ok (.ifCond .eq 7, 3) := by decide +kernel
theorem dL_law__1103 : decode cL_law_ 1103 = .ok (.iconst 1, 1) := by decide +kernel
theorem dL_law__1104 : decode cL_law_ 1104 = .ok (.goto 4, 3) := by decide +kernel
theorem dL_law__1107 : decode cL_law_ 1107 = .ok (.iconst 0, 1) := by decide +kernel
theorem dL_law__1108 : decode cL_law_ 1108 = .ok (.aload_n 3, 1) := by decide +kernel
theorem dL_law__1109 : decode cL_law_ 1109 = .ok (.invokestatic 221, 3) := by decide +kernel
theorem dL_law__1112 : decode cL_law_ 1112 = .ok (.istore 5, 2) := by decide +kernel
theorem dL_law__1114 : decode cL_law_ 1114 = .ok (.aload_n 2, 1) := by decide +kernel
theorem dL_law__1115 : decode cL_law_ 1115 = .ok (.aload_n 0, 1) := by decide +kernel
theorem dL_law__1116 : decode cL_law_ 1116 = .ok (.iload 4, 2) := by decide +kernel
theorem dL_law__1118 : decode cL_law_ 1118 = .ok (.iconst 1, 1) := by decide +kernel
theorem dL_law__1119 : decode cL_law_ 1119 = .ok (.iadd, 1) := by decide +kernel
theorem dL_law__1120 : decode cL_law_ 1120 = .ok (.iaload, 1) := by decide +kernel
theorem dL_law__1121 : decode cL_law_ 1121 = .ok (.aload_n 0, 1) := by decide +kernel
theorem dL_law__1122 : decode cL_law_ 1122 = .ok (.iload 4, 2) := by decide +kernel
theorem dL_law__1124 : decode cL_law_ 1124 = .ok (.iconst 2, 1) := by decide +kernel
theorem dL_law__1125 : decode cL_law_ 1125 = .ok (.iadd, 1) := by decide +kernel
theorem dL_law__1126 : decode cL_law_ 1126 = .ok (.iaload, 1) := by decide +kernel
theorem dL_law__1127 : decode cL_law_ 1127 = .ok (.ifCond .eq 7, 3) := by decide +kernel
theorem dL_law__1130 : decode cL_law_ 1130 = .ok (.iconst 1, 1) := by decide +kernel
theorem dL_law__1131 : decode cL_law_ 1131 = .ok (.goto 4, 3) := by decide +kernel
theorem dL_law__1134 : decode cL_law_ 1134 = .ok (.iconst 0, 1) := by decide +kernel
theorem dL_law__1135 : decode cL_law_ 1135 = .ok (.invokevirtual 223, 3) := by decide +kernel
theorem dL_law__1138 : decode cL_law_ 1138 = .ok (.istore 6, 2) := by decide +kernel
theorem dL_law__1140 : decode cL_law_ 1140 = .ok (.goto 684, 3) := by decide +kernel
theorem dL_law__1143 : decode cL_law_ 1143 = .ok (.aload_n 1, 1) := by decide +kernel
theorem dL_law__1144 : decode cL_law_ 1144 = .ok (.aload_n 0, 1) := by decide +kernel
theorem dL_law__1145 : decode cL_law_ 1145 = .ok (.iload 4, 2) := by decide +kernel
theorem dL_law__1147 : decode cL_law_ 1147 = .ok (.iconst 1, 1) := by decide +kernel
theorem dL_law__1148 : decode cL_law_ 1148 = .ok (.iadd, 1) := by decide +kernel
theorem dL_law__1149 : decode cL_law_ 1149 = .ok (.iaload, 1) := by decide +kernel
theorem dL_law__1150 : decode cL_law_ 1150 = .ok (.aload_n 3, 1) := by decide +kernel
theorem dL_law__1151 : decode cL_law_ 1151 = .ok (.invokestatic 224, 3) := by decide +kernel
theorem dL_law__1154 : decode cL_law_ 1154 = .ok (.istore 5, 2) := by decide +kernel
theorem dL_law__1156 : decode cL_law_ 1156 = .ok (.aload_n 2, 1) := by decide +kernel
theorem dL_law__1157 : decode cL_law_ 1157 = .ok (.aload_n 0, 1) := by decide +kernel
theorem dL_law__1158 : decode cL_law_ 1158 = .ok (.iload 4, 2) := by decide +kernel
theorem dL_law__1160 : decode cL_law_ 1160 = .ok (.iconst 1, 1) := by decide +kernel
theorem dL_law__1161 : decode cL_law_ 1161 = .ok (.iadd, 1) := by decide +kernel
theorem dL_law__1162 : decode cL_law_ 1162 = .ok (.iaload, 1) := by decide +kernel
theorem dL_law__1163 : decode cL_law_ 1163 = .ok (.invokevirtual 226, 3) := by decide +kernel
theorem dL_law__1166 : decode cL_law_ 1166 = .ok (.istore 6, 2) := by decide +kernel
theorem dL_law__1168 : decode cL_law_ 1168 = .ok (.goto 656, 3) := by decide +kernel
theorem dL_law__1171 : decode cL_law_ 1171 = .ok (.aload_n 1, 1) := by decide +kernel
theorem dL_law__1172 : decode cL_law_ 1172 = .ok (.aload_n 0, 1) := by decide +kernel
theorem dL_law__1173 : decode cL_law_ 1173 = .ok (.iload 4, 2) := by decide +kernel
theorem dL_law__1175 : decode cL_law_ 1175 = .ok (.iconst 1, 1) := by decide +kernel
theorem dL_law__1176 : decode cL_law_ 1176 = .ok (.iadd, 1) := by decide +kernel
theorem dL_law__1177 : decode cL_law_ 1177 = .ok (.iaload, 1) := by decide +kernel
theorem dL_law__1178 : decode cL_law_ 1178 = .ok (.ifCond .eq 7, 3) := by decide +kernel
theorem dL_law__1181 : decode cL_law_ 1181 = .ok (.iconst 1, 1) := by decide +kernel
theorem dL_law__1182 : decode cL_law_ 1182 = .ok (.goto 4, 3) := by decide +kernel
theorem dL_law__1185 : decode cL_law_ 1185 = .ok (.iconst 0, 1) := by decide +kernel
theorem dL_law__1186 : decode cL_law_ 1186 = .ok (.invokevirtual 227, 3) := by decide +kernel
theorem dL_law__1189 : decode cL_law_ 1189 = .ok (.pop, 1) := by decide +kernel
theorem dL_law__1190 : decode cL_law_ 1190 = .ok (.aload_n 2, 1) := by decide +kernel
theorem dL_law__1191 : decode cL_law_ 1191 = .ok (.aload_n 0, 1) := by decide +kernel
theorem dL_law__1192 : decode cL_law_ 1192 = .ok (.iload 4, 2) := by decide +kernel
theorem dL_law__1194 : decode cL_law_ 1194 = .ok (.iconst 1, 1) := by decide +kernel
theorem dL_law__1195 : decode cL_law_ 1195 = .ok (.iadd, 1) := by decide +kernel
theorem dL_law__1196 : decode cL_law_ 1196 = .ok (.iaload, 1) := by decide +kernel
theorem dL_law__1197 : decode cL_law_ 1197 = .ok (.ifCond .eq 7, 3) := by decide +kernel
theorem dL_law__1200 : decode cL_law_ 1200 = .ok (.iconst 1, 1) := by decide +kernel
theorem dL_law__1201 : decode cL_law_ 1201 = .ok (.goto 4, 3) := by decide +kernel
theorem dL_law__1204 : decode cL_law_ 1204 = .ok (.iconst 0, 1) := by decide +kernel
theorem dL_law__1205 : decode cL_law_ 1205 = .ok (.invokevirtual 230, 3) := by decide +kernel
theorem dL_law__1208 : decode cL_law_ 1208 = .ok (.pop, 1) := by decide +kernel
theorem dL_law__1209 : decode cL_law_ 1209 = .ok (.goto 615, 3) := by decide +kernel
theorem dL_law__1212 : decode cL_law_ 1212 = .ok (.aload_n 1, 1) := by decide +kernel
theorem dL_law__1213 : decode cL_law_ 1213 = .ok (.aload_n 0, 1) := by decide +kernel
theorem dL_law__1214 : decode cL_law_ 1214 = .ok (.iload 4, 2) := by decide +kernel
theorem dL_law__1216 : decode cL_law_ 1216 = .ok (.iconst 1, 1) := by decide +kernel
theorem dL_law__1217 : decode cL_law_ 1217 = .ok (.iadd, 1) := by decide +kernel
theorem dL_law__1218 : decode cL_law_ 1218 = .ok (.iaload, 1) := by decide +kernel
theorem dL_law__1219 : decode cL_law_ 1219 = .ok (.aload_n 3, 1) := by decide +kernel
theorem dL_law__1220 : decode cL_law_ 1220 = .ok (.invokestatic 231, 3) := by decide +kernel
theorem dL_law__1223 : decode cL_law_ 1223 = .ok (.istore 5, 2) := by decide +kernel
theorem dL_law__1225 : decode cL_law_ 1225 = .ok (.aload_n 2, 1) := by decide +kernel
theorem dL_law__1226 : decode cL_law_ 1226 = .ok (.aload_n 0, 1) := by decide +kernel
theorem dL_law__1227 : decode cL_law_ 1227 = .ok (.iload 4, 2) := by decide +kernel
theorem dL_law__1229 : decode cL_law_ 1229 = .ok (.iconst 1, 1) := by decide +kernel
theorem dL_law__1230 : decode cL_law_ 1230 = .ok (.iadd, 1) := by decide +kernel
theorem dL_law__1231 : decode cL_law_ 1231 = .ok (.iaload, 1) := by decide +kernel
theorem dL_law__1232 : decode cL_law_ 1232 = .ok (.invokevirtual 233, 3) := by decide +kernel
theorem dL_law__1235 : decode cL_law_ 1235 = .ok (.istore 6, 2) := by decide +kernel
theorem dL_law__1237 : decode cL_law_ 1237 = .ok (.goto 587, 3) := by decide +kernel
theorem dL_law__1240 : decode cL_law_ 1240 = .ok (.aload_n 1, 1) := by decide +kernel
theorem dL_law__1241 : decode cL_law_ 1241 = .ok (.aload_n 0, 1) := by decide +kernel
theorem dL_law__1242 : decode cL_law_ 1242 = .ok (.iload 4, 2) := by decide +kernel
theorem dL_law__1244 : decode cL_law_ 1244 = .ok (.iconst 1, 1) := by decide +kernel
theorem dL_law__1245 : decode cL_law_ 1245 = .ok (.iadd, 1) := by decide +kernel
theorem dL_law__1246 : decode cL_law_ 1246 = .ok (.iaload, 1) := by decide +kernel
theorem dL_law__1247 : decode cL_law_ 1247 = .ok (.aload_n 3, 1) := by decide +kernel
theorem dL_law__1248 : decode cL_law_ 1248 = .ok (.invokestatic 234, 3) := by decide +kernel
theorem dL_law__1251 : decode cL_law_ 1251 = .ok (.istore 5, 2) := by decide +kernel
theorem dL_law__1253 : decode cL_law_ 1253 = .ok (.aload_n 2, 1) := by decide +kernel
theorem dL_law__1254 : decode cL_law_ 1254 = .ok (.aload_n 0, 1) := by decide +kernel
theorem dL_law__1255 : decode cL_law_ 1255 = .ok (.iload 4, 2) := by decide +kernel
theorem dL_law__1257 : decode cL_law_ 1257 = .ok (.iconst 1, 1) := by decide +kernel
theorem dL_law__1258 : decode cL_law_ 1258 = .ok (.iadd, 1) := by decide +kernel
theorem dL_law__1259 : decode cL_law_ 1259 = .ok (.iaload, 1) := by decide +kernel
theorem dL_law__1260 : decode cL_law_ 1260 = .ok (.invokevirtual 236, 3) := by decide +kernel
theorem dL_law__1263 : decode cL_law_ 1263 = .ok (.istore 6, 2) := by decide +kernel
theorem dL_law__1265 : decode cL_law_ 1265 = .ok (.goto 559, 3) := by decide +kernel
theorem dL_law__1268 : decode cL_law_ 1268 = .ok (.aload_n 1, 1) := by decide +kernel
theorem dL_law__1269 : decode cL_law_ 1269 = .ok (.aload_n 0, 1) := by decide +kernel
theorem dL_law__1270 : decode cL_law_ 1270 = .ok (.iload 4, 2) := by decide +kernel
theorem dL_law__1272 : decode cL_law_ 1272 = .ok (.iconst 1, 1) := by decide +kernel
theorem dL_law__1273 : decode cL_law_ 1273 = .ok (.iadd, 1) := by decide +kernel
theorem dL_law__1274 : decode cL_law_ 1274 = .ok (.iaload, 1) := by decide +kernel
theorem dL_law__1275 : decode cL_law_ 1275 = .ok (.ifCond .eq 7, 3) := by decide +kernel
theorem dL_law__1278 : decode cL_law_ 1278 = .ok (.iconst 1, 1) := by decide +kernel
theorem dL_law__1279 : decode cL_law_ 1279 = .ok (.goto 4, 3) := by decide +kernel
theorem dL_law__1282 : decode cL_law_ 1282 = .ok (.iconst 0, 1) := by decide +kernel
theorem dL_law__1283 : decode cL_law_ 1283 = .ok (.aload_n 3, 1) := by decide +kernel
theorem dL_law__1284 : decode cL_law_ 1284 = .ok (.invokestatic 237, 3) := by decide +kernel
theorem dL_law__1287 : decode cL_law_ 1287 = .ok (.istore 5, 2) := by decide +kernel
theorem dL_law__1289 : decode cL_law_ 1289 = .ok (.aload_n 2, 1) := by decide +kernel
theorem dL_law__1290 : decode cL_law_ 1290 = .ok (.aload_n 0, 1) := by decide +kernel
theorem dL_law__1291 : decode cL_law_ 1291 = .ok (.iload 4, 2) := by decide +kernel
theorem dL_law__1293 : decode cL_law_ 1293 = .ok (.iconst 1, 1) := by decide +kernel
theorem dL_law__1294 : decode cL_law_ 1294 = .ok (.iadd, 1) := by decide +kernel
theorem dL_law__1295 : decode cL_law_ 1295 = .ok (.iaload, 1) := by decide +kernel
theorem dL_law__1296 : decode cL_law_ 1296 = .ok (.ifCond .eq 7, 3) := by decide +kernel
theorem dL_law__1299 : decode cL_law_ 1299 = .ok (.iconst 1, 1) := by decide +kernel
theorem dL_law__1300 : decode cL_law_ 1300 = .ok (.goto 4, 3) := by decide +kernel
theorem dL_law__1303 : decode cL_law_ 1303 = .ok (.iconst 0, 1) := by decide +kernel
theorem dL_law__1304 : decode cL_law_ 1304 = .ok (.invokevirtual 240, 3) := by decide +kernel
theorem dL_law__1307 : decode cL_law_ 1307 = .ok (.istore 6, 2) := by decide +kernel
theorem dL_law__1309 : decode cL_law_ 1309 = .ok (.goto 515, 3) := by decide +kernel
theorem dL_law__1312 : decode cL_law_ 1312 = .ok (.aload_n 1, 1) := by decide +kernel
theorem dL_law__1313 : decode cL_law_ 1313 = .ok (.aload_n 3, 1) := by decide +kernel
theorem dL_law__1314 : decode cL_law_ 1314 = .ok (.invokestatic 241, 3) := by decide +kernel
theorem dL_law__1317 : decode cL_law_ 1317 = .ok (.istore 5, 2) := by decide +kernel
theorem dL_law__1319 : decode cL_law_ 1319 = .ok (.aload_n 2, 1) := by decide +kernel
theorem dL_law__1320 : decode cL_law_ 1320 = .ok (.invokevirtual 243, 3) := by decide +kernel
theorem dL_law__1323 : decode cL_law_ 1323 = .ok (.istore 6, 2) := by decide +kernel
theorem dL_law__1325 : decode cL_law_ 1325 = .ok (.goto 499, 3) := by decide +kernel
theorem dL_law__1328 : decode cL_law_ 1328 = .ok (.aload_n 1, 1) := by decide +kernel
theorem dL_law__1329 : decode cL_law_ 1329 = .ok (.aload_n 0, 1) := by decide +kernel
theorem dL_law__1330 : decode cL_law_ 1330 = .ok (.iload 4, 2) := by decide +kernel
theorem dL_law__1332 : decode cL_law_ 1332 = .ok (.iconst 1, 1) := by decide +kernel
theorem dL_law__1333 : decode cL_law_ 1333 = .ok (.iadd, 1) := by decide +kernel
theorem dL_law__1334 : decode cL_law_ 1334 = .ok (.iaload, 1) := by decide +kernel
theorem dL_law__1335 : decode cL_law_ 1335 = .ok (.aload_n 3, 1) := by decide +kernel
theorem dL_law__1336 : decode cL_law_ 1336 = .ok (.invokestatic 244, 3) := by decide +kernel
theorem dL_law__1339 : decode cL_law_ 1339 = .ok (.istore 5, 2) := by decide +kernel
theorem dL_law__1341 : decode cL_law_ 1341 = .ok (.aload_n 2, 1) := by decide +kernel
theorem dL_law__1342 : decode cL_law_ 1342 = .ok (.aload_n 0, 1) := by decide +kernel
theorem dL_law__1343 : decode cL_law_ 1343 = .ok (.iload 4, 2) := by decide +kernel
theorem dL_law__1345 : decode cL_law_ 1345 = .ok (.iconst 1, 1) := by decide +kernel
theorem dL_law__1346 : decode cL_law_ 1346 = .ok (.iadd, 1) := by decide +kernel
theorem dL_law__1347 : decode cL_law_ 1347 = .ok (.iaload, 1) := by decide +kernel
theorem dL_law__1348 : decode cL_law_ 1348 = .ok (.invokevirtual 246, 3) := by decide +kernel
theorem dL_law__1351 : decode cL_law_ 1351 = .ok (.istore 6, 2) := by decide +kernel
theorem dL_law__1353 : decode cL_law_ 1353 = .ok (.goto 471, 3) := by decide +kernel
theorem dL_law__1356 : decode cL_law_ 1356 = .ok (.aload_n 1, 1) := by decide +kernel
theorem dL_law__1357 : decode cL_law_ 1357 = .ok (.aload_n 0, 1) := by decide +kernel
theorem dL_law__1358 : decode cL_law_ 1358 = .ok (.iload 4, 2) := by decide +kernel
theorem dL_law__1360 : decode cL_law_ 1360 = .ok (.iconst 1, 1) := by decide +kernel
theorem dL_law__1361 : decode cL_law_ 1361 = .ok (.iadd, 1) := by decide +kernel
theorem dL_law__1362 : decode cL_law_ 1362 = .ok (.iaload, 1) := by decide +kernel
theorem dL_law__1363 : decode cL_law_ 1363 = .ok (.aload_n 0, 1) := by decide +kernel
theorem dL_law__1364 : decode cL_law_ 1364 = .ok (.iload 4, 2) := by decide +kernel
theorem dL_law__1366 : decode cL_law_ 1366 = .ok (.iconst 2, 1) := by decide +kernel
theorem dL_law__1367 : decode cL_law_ 1367 = .ok (.iadd, 1) := by decide +kernel
theorem dL_law__1368 : decode cL_law_ 1368 = .ok (.iaload, 1) := by decide +kernel
theorem dL_law__1369 : decode cL_law_ 1369 = .ok (.aload_n 3, 1) := by decide +kernel
theorem dL_law__1370 : decode cL_law_ 1370 = .ok (.invokestatic 247, 3) := by decide +kernel
theorem dL_law__1373 : decode cL_law_ 1373 = .ok (.istore 5, 2) := by decide +kernel
theorem dL_law__1375 : decode cL_law_ 1375 = .ok (.aload_n 2, 1) := by decide +kernel
theorem dL_law__1376 : decode cL_law_ 1376 = .ok (.aload_n 0, 1) := by decide +kernel
theorem dL_law__1377 : decode cL_law_ 1377 = .ok (.iload 4, 2) := by decide +kernel
theorem dL_law__1379 : decode cL_law_ 1379 = .ok (.iconst 1, 1) := by decide +kernel
theorem dL_law__1380 : decode cL_law_ 1380 = .ok (.iadd, 1) := by decide +kernel
theorem dL_law__1381 : decode cL_law_ 1381 = .ok (.iaload, 1) := by decide +kernel
theorem dL_law__1382 : decode cL_law_ 1382 = .ok (.aload_n 0, 1) := by decide +kernel
theorem dL_law__1383 : decode cL_law_ 1383 = .ok (.iload 4, 2) := by decide +kernel
theorem dL_law__1385 : decode cL_law_ 1385 = .ok (.iconst 2, 1) := by decide +kernel
theorem dL_law__1386 : decode cL_law_ 1386 = .ok (.iadd, 1) := by decide +kernel
theorem dL_law__1387 : decode cL_law_ 1387 = .ok (.iaload, 1) := by decide +kernel
theorem dL_law__1388 : decode cL_law_ 1388 = .ok (.invokevirtual 249, 3) := by decide +kernel
theorem dL_law__1391 : decode cL_law_ 1391 = .ok (.istore 6, 2) := by decide +kernel
theorem dL_law__1393 : decode cL_law_ 1393 = .ok (.goto 431, 3) := by decide +kernel
theorem dL_law__1396 : decode cL_law_ 1396 = .ok (.aload_n 1, 1) := by decide +kernel
theorem dL_law__1397 : decode cL_law_ 1397 = .ok (.invokevirtual 250, 3) := by decide +kernel
theorem dL_law__1400 : decode cL_law_ 1400 = .ok (.pop, 1) := by decide +kernel
theorem dL_law__1401 : decode cL_law_ 1401 = .ok (.aload_n 2, 1) := by decide +kernel
theorem dL_law__1402 : decode cL_law_ 1402 = .ok (.invokevirtual 253, 3) := by decide +kernel
theorem dL_law__1405 : decode cL_law_ 1405 = .ok (.pop, 1) := by decide +kernel
theorem dL_law__1406 : decode cL_law_ 1406 = .ok (.goto 418, 3) := by decide +kernel
theorem dL_law__1409 : decode cL_law_ 1409 = .ok (.aload_n 1, 1) := by decide +kernel
theorem dL_law__1410 : decode cL_law_ 1410 = .ok (.invokevirtual 254, 3) := by decide +kernel
theorem dL_law__1413 : decode cL_law_ 1413 = .ok (.pop, 1) := by decide +kernel
theorem dL_law__1414 : decode cL_law_ 1414 = .ok (.aload_n 2, 1) := by decide +kernel
theorem dL_law__1415 : decode cL_law_ 1415 = .ok (.invokevirtual 257, 3) := by decide +kernel
theorem dL_law__1418 : decode cL_law_ 1418 = .ok (.pop, 1) := by decide +kernel
theorem dL_law__1419 : decode cL_law_ 1419 = .ok (.goto 405, 3) := by decide +kernel
theorem dL_law__1422 : decode cL_law_ 1422 = .ok (.aload_n 1, 1) := by decide +kernel
theorem dL_law__1423 : decode cL_law_ 1423 = .ok (.aload_n 0, 1) := by decide +kernel
theorem dL_law__1424 : decode cL_law_ 1424 = .ok (.iload 4, 2) := by decide +kernel
theorem dL_law__1426 : decode cL_law_ 1426 = .ok (.iconst 1, 1) := by decide +kernel
theorem dL_law__1427 : decode cL_law_ 1427 = .ok (.iadd, 1) := by decide +kernel
theorem dL_law__1428 : decode cL_law_ 1428 = .ok (.iaload, 1) := by decide +kernel
theorem dL_law__1429 : decode cL_law_ 1429 = .ok (.aload_n 0, 1) := by decide +kernel
theorem dL_law__1430 : decode cL_law_ 1430 = .ok (.iload 4, 2) := by decide +kernel
theorem dL_law__1432 : decode cL_law_ 1432 = .ok (.iconst 2, 1) := by decide +kernel
theorem dL_law__1433 : decode cL_law_ 1433 = .ok (.iadd, 1) := by decide +kernel
theorem dL_law__1434 : decode cL_law_ 1434 = .ok (.iaload, 1) := by decide +kernel
theorem dL_law__1435 : decode cL_law_ 1435 = .ok (.aload_n 3, 1) := by decide +kernel
theorem dL_law__1436 : decode cL_law_ 1436 = .ok (.invokestatic 258, 3) := by decide +kernel
theorem dL_law__1439 : decode cL_law_ 1439 = .ok (.istore 5, 2) := by decide +kernel
theorem dL_law__1441 : decode cL_law_ 1441 = .ok (.aload_n 2, 1) := by decide +kernel
theorem dL_law__1442 : decode cL_law_ 1442 = .ok (.aload_n 0, 1) := by decide +kernel
theorem dL_law__1443 : decode cL_law_ 1443 = .ok (.iload 4, 2) := by decide +kernel
theorem dL_law__1445 : decode cL_law_ 1445 = .ok (.iconst 1, 1) := by decide +kernel
theorem dL_law__1446 : decode cL_law_ 1446 = .ok (.iadd, 1) := by decide +kernel
theorem dL_law__1447 : decode cL_law_ 1447 = .ok (.iaload, 1) := by decide +kernel
theorem dL_law__1448 : decode cL_law_ 1448 = .ok (.aload_n 0, 1) := by decide +kernel
theorem dL_law__1449 : decode cL_law_ 1449 = .ok (.iload 4, 2) := by decide +kernel
theorem dL_law__1451 : decode cL_law_ 1451 = .ok (.iconst 2, 1) := by decide +kernel
theorem dL_law__1452 : decode cL_law_ 1452 = .ok (.iadd, 1) := by decide +kernel
theorem dL_law__1453 : decode cL_law_ 1453 = .ok (.iaload, 1) := by decide +kernel
theorem dL_law__1454 : decode cL_law_ 1454 = .ok (.invokevirtual 260, 3) := by decide +kernel
theorem dL_law__1457 : decode cL_law_ 1457 = .ok (.istore 6, 2) := by decide +kernel
theorem dL_law__1459 : decode cL_law_ 1459 = .ok (.goto 365, 3) := by decide +kernel
theorem dL_law__1462 : decode cL_law_ 1462 = .ok (.aload_n 1, 1) := by decide +kernel
theorem dL_law__1463 : decode cL_law_ 1463 = .ok (.invokevirtual 261, 3) := by decide +kernel
theorem dL_law__1466 : decode cL_law_ 1466 = .ok (.pop, 1) := by decide +kernel
theorem dL_law__1467 : decode cL_law_ 1467 = .ok (.aload_n 2, 1) := by decide +kernel
theorem dL_law__1468 : decode cL_law_ 1468 = .ok (.invokevirtual 264, 3) := by decide +kernel
theorem dL_law__1471 : decode cL_law_ 1471 = .ok (.pop, 1) := by decide +kernel
theorem dL_law__1472 : decode cL_law_ 1472 = .ok (.goto 352, 3) := by decide +kernel
theorem dL_law__1475 : decode cL_law_ 1475 = .ok (.aload_n 1, 1) := by decide +kernel
theorem dL_law__1476 : decode cL_law_ 1476 = .ok (.invokevirtual 265, 3) := by decide +kernel
theorem dL_law__1479 : decode cL_law_ 1479 = .ok (.pop, 1) := by decide +kernel
theorem dL_law__1480 : decode cL_law_ 1480 = .ok (.aload_n 2, 1) := by decide +kernel
theorem dL_law__1481 : decode cL_law_ 1481 = .ok (.invokevirtual 268, 3) := by decide +kernel
theorem dL_law__1484 : decode cL_law_ 1484 = .ok (.pop, 1) := by decide +kernel
theorem dL_law__1485 : decode cL_law_ 1485 = .ok (.goto 339, 3) := by decide +kernel
theorem dL_law__1488 : decode cL_law_ 1488 = .ok (.aload_n 1, 1) := by decide +kernel
theorem dL_law__1489 : decode cL_law_ 1489 = .ok (.aload_n 0, 1) := by decide +kernel
theorem dL_law__1490 : decode cL_law_ 1490 = .ok (.iload 4, 2) := by decide +kernel
theorem dL_law__1492 : decode cL_law_ 1492 = .ok (.iconst 1, 1) := by decide +kernel
theorem dL_law__1493 : decode cL_law_ 1493 = .ok (.iadd, 1) := by decide +kernel
theorem dL_law__1494 : decode cL_law_ 1494 = .ok (.iaload, 1) := by decide +kernel
theorem dL_law__1495 : decode cL_law_ 1495 = .ok (.aload_n 3, 1) := by decide +kernel
theorem dL_law__1496 : decode cL_law_ 1496 = .ok (.invokestatic 269, 3) := by decide +kernel
theorem dL_law__1499 : decode cL_law_ 1499 = .ok (.istore 5, 2) := by decide +kernel
theorem dL_law__1501 : decode cL_law_ 1501 = .ok (.aload_n 2, 1) := by decide +kernel
theorem dL_law__1502 : decode cL_law_ 1502 = .ok (.aload_n 0, 1) := by decide +kernel
theorem dL_law__1503 : decode cL_law_ 1503 = .ok (.iload 4, 2) := by decide +kernel
theorem dL_law__1505 : decode cL_law_ 1505 = .ok (.iconst 1, 1) := by decide +kernel
theorem dL_law__1506 : decode cL_law_ 1506 = .ok (.iadd, 1) := by decide +kernel
theorem dL_law__1507 : decode cL_law_ 1507 = .ok (.iaload, 1) := by decide +kernel
theorem dL_law__1508 : decode cL_law_ 1508 = .ok (.invokevirtual 271, 3) := by decide +kernel
theorem dL_law__1511 : decode cL_law_ 1511 = .ok (.istore 6, 2) := by decide +kernel
theorem dL_law__1513 : decode cL_law_ 1513 = .ok (.goto 311, 3) := by decide +kernel
theorem dL_law__1516 : decode cL_law_ 1516 = .ok (.aload_n 1, 1) := by decide +kernel
theorem dL_law__1517 : decode cL_law_ 1517 = .ok (.invokevirtual 272, 3) := by decide +kernel
theorem dL_law__1520 : decode cL_law_ 1520 = .ok (.pop, 1) := by decide +kernel
theorem dL_law__1521 : decode cL_law_ 1521 = .ok (.aload_n 2, 1) := by decide +kernel
theorem dL_law__1522 : decode cL_law_ 1522 = .ok (.invokevirtual 275, 3) := by decide +kernel
theorem dL_law__1525 : decode cL_law_ 1525 = .ok (.pop, 1) := by decide +kernel
theorem dL_law__1526 : decode cL_law_ 1526 = .ok (.goto 298, 3) := by decide +kernel
theorem dL_law__1529 : decode cL_law_ 1529 = .ok (.aload_n 1, 1) := by decide +kernel
theorem dL_law__1530 : decode cL_law_ 1530 = .ok (.aload_n 0, 1) := by decide +kernel
theorem dL_law__1531 : decode cL_law_ 1531 = .ok (.iload 4, 2) := by decide +kernel
theorem dL_law__1533 : decode cL_law_ 1533 = .ok (.iconst 1, 1) := by decide +kernel
theorem dL_law__1534 : decode cL_law_ 1534 = .ok (.iadd, 1) := by decide +kernel
theorem dL_law__1535 : decode cL_law_ 1535 = .ok (.iaload, 1) := by decide +kernel
theorem dL_law__1536 : decode cL_law_ 1536 = .ok (.aload_n 0, 1) := by decide +kernel
theorem dL_law__1537 : decode cL_law_ 1537 = .ok (.iload 4, 2) := by decide +kernel
theorem dL_law__1539 : decode cL_law_ 1539 = .ok (.iconst 2, 1) := by decide +kernel
theorem dL_law__1540 : decode cL_law_ 1540 = .ok (.iadd, 1) := by decide +kernel
theorem dL_law__1541 : decode cL_law_ 1541 = .ok (.iaload, 1) := by decide +kernel
theorem dL_law__1542 : decode cL_law_ 1542 = .ok (.ifCond .eq 7, 3) := by decide +kernel
theorem dL_law__1545 : decode cL_law_ 1545 = .ok (.iconst 1, 1) := by decide +kernel
theorem dL_law__1546 : decode cL_law_ 1546 = .ok (.goto 4, 3) := by decide +kernel
theorem dL_law__1549 : decode cL_law_ 1549 = .ok (.iconst 0, 1) := by decide +kernel
theorem dL_law__1550 : decode cL_law_ 1550 = .ok (.aload_n 3, 1) := by decide +kernel
theorem dL_law__1551 : decode cL_law_ 1551 = .ok (.invokestatic 276, 3) := by decide +kernel
theorem dL_law__1554 : decode cL_law_ 1554 = .ok (.istore 5, 2) := by decide +kernel
theorem dL_law__1556 : decode cL_law_ 1556 = .ok (.aload_n 2, 1) := by decide +kernel
theorem dL_law__1557 : decode cL_law_ 1557 = .ok (.aload_n 0, 1) := by decide +kernel
theorem dL_law__1558 : decode cL_law_ 1558 = .ok (.iload 4, 2) := by decide +kernel
theorem dL_law__1560 : decode cL_law_ 1560 = .ok (.iconst 1, 1) := by decide +kernel
theorem dL_law__1561 : decode cL_law_ 1561 = .ok (.iadd, 1) := by decide +kernel
theorem dL_law__1562 : decode cL_law_ 1562 = .ok (.iaload, 1) := by decide +kernel
theorem dL_law__1563 : decode cL_law_ 1563 = .ok (.aload_n 0, 1) := by decide +kernel
theorem dL_law__1564 : decode cL_law_ 1564 = .ok (.iload 4, 2) := by decide +kernel
theorem dL_law__1566 : decode cL_law_ 1566 = .ok (.iconst 2, 1) := by decide +kernel
theorem dL_law__1567 : decode cL_law_ 1567 = .ok (.iadd, 1) := by decide +kernel
theorem dL_law__1568 : decode cL_law_ 1568 = .ok (.iaload, 1) := by decide +kernel
theorem dL_law__1569 : decode cL_law_ 1569 = .ok (.ifCond .eq 7, 3) := by decide +kernel
theorem dL_law__1572 : decode cL_law_ 1572 = .ok (.iconst 1, 1) := by decide +kernel
theorem dL_law__1573 : decode cL_law_ 1573 = .ok (.goto 4, 3) := by decide +kernel
theorem dL_law__1576 : decode cL_law_ 1576 = .ok (.iconst 0, 1) := by decide +kernel
theorem dL_law__1577 : decode cL_law_ 1577 = .ok (.invokevirtual 278, 3) := by decide +kernel
theorem dL_law__1580 : decode cL_law_ 1580 = .ok (.istore 6, 2) := by decide +kernel
theorem dL_law__1582 : decode cL_law_ 1582 = .ok (.goto 242, 3) := by decide +kernel
theorem dL_law__1585 : decode cL_law_ 1585 = .ok (.aload_n 1, 1) := by decide +kernel
theorem dL_law__1586 : decode cL_law_ 1586 = .ok (.aload_n 0, 1) := by decide +kernel
theorem dL_law__1587 : decode cL_law_ 1587 = .ok (.iload 4, 2) := by decide +kernel
theorem dL_law__1589 : decode cL_law_ 1589 = .ok (.iconst 1, 1) := by decide +kernel
theorem dL_law__1590 : decode cL_law_ 1590 = .ok (.iadd, 1) := by decide +kernel
theorem dL_law__1591 : decode cL_law_ 1591 = .ok (.iaload, 1) := by decide +kernel
theorem dL_law__1592 : decode cL_law_ 1592 = .ok (.aload_n 0, 1) := by decide +kernel
theorem dL_law__1593 : decode cL_law_ 1593 = .ok (.iload 4, 2) := by decide +kernel
theorem dL_law__1595 : decode cL_law_ 1595 = .ok (.iconst 2, 1) := by decide +kernel
theorem dL_law__1596 : decode cL_law_ 1596 = .ok (.iadd, 1) := by decide +kernel
theorem dL_law__1597 : decode cL_law_ 1597 = .ok (.iaload, 1) := by decide +kernel
theorem dL_law__1598 : decode cL_law_ 1598 = .ok (.ifCond .eq 7, 3) := by decide +kernel
theorem dL_law__1601 : decode cL_law_ 1601 = .ok (.iconst 1, 1) := by decide +kernel
theorem dL_law__1602 : decode cL_law_ 1602 = .ok (.goto 4, 3) := by decide +kernel
theorem dL_law__1605 : decode cL_law_ 1605 = .ok (.iconst 0, 1) := by decide +kernel
theorem dL_law__1606 : decode cL_law_ 1606 = .ok (.aload_n 3, 1) := by decide +kernel
theorem dL_law__1607 : decode cL_law_ 1607 = .ok (.invokestatic 279, 3) := by decide +kernel
theorem dL_law__1610 : decode cL_law_ 1610 = .ok (.istore 5, 2) := by decide +kernel
theorem dL_law__1612 : decode cL_law_ 1612 = .ok (.aload_n 2, 1) := by decide +kernel
theorem dL_law__1613 : decode cL_law_ 1613 = .ok (.aload_n 0, 1) := by decide +kernel
theorem dL_law__1614 : decode cL_law_ 1614 = .ok (.iload 4, 2) := by decide +kernel
theorem dL_law__1616 : decode cL_law_ 1616 = .ok (.iconst 1, 1) := by decide +kernel
theorem dL_law__1617 : decode cL_law_ 1617 = .ok (.iadd, 1) := by decide +kernel
theorem dL_law__1618 : decode cL_law_ 1618 = .ok (.iaload, 1) := by decide +kernel
theorem dL_law__1619 : decode cL_law_ 1619 = .ok (.aload_n 0, 1) := by decide +kernel
theorem dL_law__1620 : decode cL_law_ 1620 = .ok (.iload 4, 2) := by decide +kernel
theorem dL_law__1622 : decode cL_law_ 1622 = .ok (.iconst 2, 1) := by decide +kernel
theorem dL_law__1623 : decode cL_law_ 1623 = .ok (.iadd, 1) := by decide +kernel
theorem dL_law__1624 : decode cL_law_ 1624 = .ok (.iaload, 1) := by decide +kernel
theorem dL_law__1625 : decode cL_law_ 1625 = .ok (.ifCond .eq 7, 3) := by decide +kernel
theorem dL_law__1628 : decode cL_law_ 1628 = .ok (.iconst 1, 1) := by decide +kernel
theorem dL_law__1629 : decode cL_law_ 1629 = .ok (.goto 4, 3) := by decide +kernel
theorem dL_law__1632 : decode cL_law_ 1632 = .ok (.iconst 0, 1) := by decide +kernel
theorem dL_law__1633 : decode cL_law_ 1633 = .ok (.invokevirtual 281, 3) := by decide +kernel
theorem dL_law__1636 : decode cL_law_ 1636 = .ok (.istore 6, 2) := by decide +kernel
theorem dL_law__1638 : decode cL_law_ 1638 = .ok (.goto 186, 3) := by decide +kernel
theorem dL_law__1641 : decode cL_law_ 1641 = .ok (.aload_n 1, 1) := by decide +kernel
theorem dL_law__1642 : decode cL_law_ 1642 = .ok (.aload_n 0, 1) := by decide +kernel
theorem dL_law__1643 : decode cL_law_ 1643 = .ok (.iload 4, 2) := by decide +kernel
theorem dL_law__1645 : decode cL_law_ 1645 = .ok (.iconst 1, 1) := by decide +kernel
theorem dL_law__1646 : decode cL_law_ 1646 = .ok (.iadd, 1) := by decide +kernel
theorem dL_law__1647 : decode cL_law_ 1647 = .ok (.iaload, 1) := by decide +kernel
theorem dL_law__1648 : decode cL_law_ 1648 = .ok (.aload_n 0, 1) := by decide +kernel
theorem dL_law__1649 : decode cL_law_ 1649 = .ok (.iload 4, 2) := by decide +kernel
theorem dL_law__1651 : decode cL_law_ 1651 = .ok (.iconst 2, 1) := by decide +kernel
theorem dL_law__1652 : decode cL_law_ 1652 = .ok (.iadd, 1) := by decide +kernel
theorem dL_law__1653 : decode cL_law_ 1653 = .ok (.iaload, 1) := by decide +kernel
theorem dL_law__1654 : decode cL_law_ 1654 = .ok (.ifCond .eq 7, 3) := by decide +kernel
theorem dL_law__1657 : decode cL_law_ 1657 = .ok (.iconst 1, 1) := by decide +kernel
theorem dL_law__1658 : decode cL_law_ 1658 = .ok (.goto 4, 3) := by decide +kernel
theorem dL_law__1661 : decode cL_law_ 1661 = .ok (.iconst 0, 1) := by decide +kernel
theorem dL_law__1662 : decode cL_law_ 1662 = .ok (.aload_n 3, 1) := by decide +kernel
theorem dL_law__1663 : decode cL_law_ 1663 = .ok (.invokestatic 282, 3) := by decide +kernel
theorem dL_law__1666 : decode cL_law_ 1666 = .ok (.istore 5, 2) := by decide +kernel
theorem dL_law__1668 : decode cL_law_ 1668 = .ok (.aload_n 2, 1) := by decide +kernel
theorem dL_law__1669 : decode cL_law_ 1669 = .ok (.aload_n 0, 1) := by decide +kernel
theorem dL_law__1670 : decode cL_law_ 1670 = .ok (.iload 4, 2) := by decide +kernel
theorem dL_law__1672 : decode cL_law_ 1672 = .ok (.iconst 1, 1) := by decide +kernel
theorem dL_law__1673 : decode cL_law_ 1673 = .ok (.iadd, 1) := by decide +kernel
theorem dL_law__1674 : decode cL_law_ 1674 = .ok (.iaload, 1) := by decide +kernel
theorem dL_law__1675 : decode cL_law_ 1675 = .ok (.aload_n 0, 1) := by decide +kernel
theorem dL_law__1676 : decode cL_law_ 1676 = .ok (.iload 4, 2) := by decide +kernel
theorem dL_law__1678 : decode cL_law_ 1678 = .ok (.iconst 2, 1) := by decide +kernel
theorem dL_law__1679 : decode cL_law_ 1679 = .ok (.iadd, 1) := by decide +kernel
theorem dL_law__1680 : decode cL_law_ 1680 = .ok (.iaload, 1) := by decide +kernel
theorem dL_law__1681 : decode cL_law_ 1681 = .ok (.ifCond .eq 7, 3) := by decide +kernel
theorem dL_law__1684 : decode cL_law_ 1684 = .ok (.iconst 1, 1) := by decide +kernel
theorem dL_law__1685 : decode cL_law_ 1685 = .ok (.goto 4, 3) := by decide +kernel
theorem dL_law__1688 : decode cL_law_ 1688 = .ok (.iconst 0, 1) := by decide +kernel
theorem dL_law__1689 : decode cL_law_ 1689 = .ok (.invokevirtual 284, 3) := by decide +kernel
theorem dL_law__1692 : decode cL_law_ 1692 = .ok (.istore 6, 2) := by decide +kernel
theorem dL_law__1694 : decode cL_law_ 1694 = .ok (.goto 130, 3) := by decide +kernel
theorem dL_law__1697 : decode cL_law_ 1697 = .ok (.aload_n 1, 1) := by decide +kernel
theorem dL_law__1698 : decode cL_law_ 1698 = .ok (.aload_n 0, 1) := by decide +kernel
theorem dL_law__1699 : decode cL_law_ 1699 = .ok (.iload 4, 2) := by decide +kernel
theorem dL_law__1701 : decode cL_law_ 1701 = .ok (.iconst 1, 1) := by decide +kernel
theorem dL_law__1702 : decode cL_law_ 1702 = .ok (.iadd, 1) := by decide +kernel
theorem dL_law__1703 : decode cL_law_ 1703 = .ok (.iaload, 1) := by decide +kernel
theorem dL_law__1704 : decode cL_law_ 1704 = .ok (.aload_n 0, 1) := by decide +kernel
theorem dL_law__1705 : decode cL_law_ 1705 = .ok (.iload 4, 2) := by decide +kernel
theorem dL_law__1707 : decode cL_law_ 1707 = .ok (.iconst 2, 1) := by decide +kernel
theorem dL_law__1708 : decode cL_law_ 1708 = .ok (.iadd, 1) := by decide +kernel
theorem dL_law__1709 : decode cL_law_ 1709 = .ok (.iaload, 1) := by decide +kernel
theorem dL_law__1710 : decode cL_law_ 1710 = .ok (.aload_n 3, 1) := by decide +kernel
theorem dL_law__1711 : decode cL_law_ 1711 = .ok (.invokestatic 285, 3) := by decide +kernel
theorem dL_law__1714 : decode cL_law_ 1714 = .ok (.istore 5, 2) := by decide +kernel
theorem dL_law__1716 : decode cL_law_ 1716 = .ok (.aload_n 2, 1) := by decide +kernel
theorem dL_law__1717 : decode cL_law_ 1717 = .ok (.aload_n 0, 1) := by decide +kernel
theorem dL_law__1718 : decode cL_law_ 1718 = .ok (.iload 4, 2) := by decide +kernel
theorem dL_law__1720 : decode cL_law_ 1720 = .ok (.iconst 1, 1) := by decide +kernel
theorem dL_law__1721 : decode cL_law_ 1721 = .ok (.iadd, 1) := by decide +kernel
theorem dL_law__1722 : decode cL_law_ 1722 = .ok (.iaload, 1) := by decide +kernel
theorem dL_law__1723 : decode cL_law_ 1723 = .ok (.aload_n 0, 1) := by decide +kernel
theorem dL_law__1724 : decode cL_law_ 1724 = .ok (.iload 4, 2) := by decide +kernel
theorem dL_law__1726 : decode cL_law_ 1726 = .ok (.iconst 2, 1) := by decide +kernel
theorem dL_law__1727 : decode cL_law_ 1727 = .ok (.iadd, 1) := by decide +kernel
theorem dL_law__1728 : decode cL_law_ 1728 = .ok (.iaload, 1) := by decide +kernel
theorem dL_law__1729 : decode cL_law_ 1729 = .ok (.invokevirtual 287, 3) := by decide +kernel
theorem dL_law__1732 : decode cL_law_ 1732 = .ok (.istore 6, 2) := by decide +kernel
theorem dL_law__1734 : decode cL_law_ 1734 = .ok (.goto 90, 3) := by decide +kernel
theorem dL_law__1737 : decode cL_law_ 1737 = .ok (.aload_n 1, 1) := by decide +kernel
theorem dL_law__1738 : decode cL_law_ 1738 = .ok (.aload_n 0, 1) := by decide +kernel
theorem dL_law__1739 : decode cL_law_ 1739 = .ok (.iload 4, 2) := by decide +kernel
theorem dL_law__1741 : decode cL_law_ 1741 = .ok (.iconst 1, 1) := by decide +kernel
theorem dL_law__1742 : decode cL_law_ 1742 = .ok (.iadd, 1) := by decide +kernel
theorem dL_law__1743 : decode cL_law_ 1743 = .ok (.iaload, 1) := by decide +kernel
theorem dL_law__1744 : decode cL_law_ 1744 = .ok (.invokevirtual 288, 3) := by decide +kernel
theorem dL_law__1747 : decode cL_law_ 1747 = .ok (.pop, 1) := by decide +kernel
theorem dL_law__1748 : decode cL_law_ 1748 = .ok (.aload_n 2, 1) := by decide +kernel
theorem dL_law__1749 : decode cL_law_ 1749 = .ok (.aload_n 0, 1) := by decide +kernel
theorem dL_law__1750 : decode cL_law_ 1750 = .ok (.iload 4, 2) := by decide +kernel
theorem dL_law__1752 : decode cL_law_ 1752 = .ok (.iconst 1, 1) := by decide +kernel
theorem dL_law__1753 : decode cL_law_ 1753 = .ok (.iadd, 1) := by decide +kernel
theorem dL_law__1754 : decode cL_law_ 1754 = .ok (.iaload, 1) := by decide +kernel
theorem dL_law__1755 : decode cL_law_ 1755 = .ok (.invokevirtual 291, 3) := by decide +kernel
theorem dL_law__1758 : decode cL_law_ 1758 = .ok (.pop, 1) := by decide +kernel
theorem dL_law__1759 : decode cL_law_ 1759 = .ok (.goto 65, 3) := by decide +kernel
theorem dL_law__1762 : decode cL_law_ 1762 = .ok (.aload_n 1, 1) := by decide +kernel
theorem dL_law__1763 : decode cL_law_ 1763 = .ok (.invokevirtual 292, 3) := by decide +kernel
theorem dL_law__1766 : decode cL_law_ 1766 = .ok (.pop, 1) := by decide +kernel
theorem dL_law__1767 : decode cL_law_ 1767 = .ok (.aload_n 2, 1) := by decide +kernel
theorem dL_law__1768 : decode cL_law_ 1768 = .ok (.invokevirtual 296, 3) := by decide +kernel
theorem dL_law__1771 : decode cL_law_ 1771 = .ok (.pop, 1) := by decide +kernel
theorem dL_law__1772 : decode cL_law_ 1772 = .ok (.goto 52, 3) := by decide +kernel
theorem dL_law__1775 : decode cL_law_ 1775 = .ok (.aload_n 1, 1) := by decide +kernel
theorem dL_law__1776 : decode cL_law_ 1776 = .ok (.invokevirtual 297, 3) := by decide +kernel
theorem dL_law__1779 : decode cL_law_ 1779 = .ok (.aload_n 2, 1) := by decide +kernel
theorem dL_law__1780 : decode cL_law_ 1780 = .ok (.invokevirtual 300, 3) := by decide +kernel
theorem dL_law__1783 : decode cL_law_ 1783 = .ok (.goto 41, 3) := by decide +kernel
theorem dL_law__1786 : decode cL_law_ 1786 = .ok (.aload_n 1, 1) := by decide +kernel
theorem dL_law__1787 : decode cL_law_ 1787 = .ok (.invokevirtual 301, 3) := by decide +kernel
theorem dL_law__1790 : decode cL_law_ 1790 = .ok (.pop, 1) := by decide +kernel
theorem dL_law__1791 : decode cL_law_ 1791 = .ok (.aload_n 2, 1) := by decide +kernel
theorem dL_law__1792 : decode cL_law_ 1792 = .ok (.invokevirtual 304, 3) := by decide +kernel
theorem dL_law__1795 : decode cL_law_ 1795 = .ok (.pop, 1) := by decide +kernel
theorem dL_law__1796 : decode cL_law_ 1796 = .ok (.goto 28, 3) := by decide +kernel
theorem dL_law__1799 : decode cL_law_ 1799 = .ok (.aload_n 1, 1) := by decide +kernel
theorem dL_law__1800 : decode cL_law_ 1800 = .ok (.aload_n 0, 1) := by decide +kernel
theorem dL_law__1801 : decode cL_law_ 1801 = .ok (.iload 4, 2) := by decide +kernel
theorem dL_law__1803 : decode cL_law_ 1803 = .ok (.iconst 1, 1) := by decide +kernel
theorem dL_law__1804 : decode cL_law_ 1804 = .ok (.iadd, 1) := by decide +kernel
theorem dL_law__1805 : decode cL_law_ 1805 = .ok (.iaload, 1) := by decide +kernel
theorem dL_law__1806 : decode cL_law_ 1806 = .ok (.invokevirtual 305, 3) := by decide +kernel
theorem dL_law__1809 : decode cL_law_ 1809 = .ok (.pop, 1) := by decide +kernel
theorem dL_law__1810 : decode cL_law_ 1810 = .ok (.aload_n 2, 1) := by decide +kernel
theorem dL_law__1811 : decode cL_law_ 1811 = .ok (.aload_n 0, 1) := by decide +kernel
theorem dL_law__1812 : decode cL_law_ 1812 = .ok (.iload 4, 2) := by decide +kernel
theorem dL_law__1814 : decode cL_law_ 1814 = .ok (.iconst 1, 1) := by decide +kernel
theorem dL_law__1815 : decode cL_law_ 1815 = .ok (.iadd, 1) := by decide +kernel
theorem dL_law__1816 : decode cL_law_ 1816 = .ok (.iaload, 1) := by decide +kernel
theorem dL_law__1817 : decode cL_law_ 1817 = .ok (.invokevirtual 308, 3) := by decide +kernel
theorem dL_law__1820 : decode cL_law_ 1820 = .ok (.pop, 1) := by decide +kernel
theorem dL_law__1821 : decode cL_law_ 1821 = .ok (.goto 3, 3) := by decide +kernel
theorem dL_law__1824 : decode cL_law_ 1824 = .ok (.iinc 4 6, 3) := by decide +kernel
theorem dL_law__1827 : decode cL_law_ 1827 = .ok (.goto (-1804), 3) := by decide +kernel
theorem dL_law__1830 : decode cL_law_ 1830 = .ok (.iconst 1, 1) := by decide +kernel
theorem dL_law__1831 : decode cL_law_ 1831 = .ok (.ireturn, 1) := by decide +kernel
