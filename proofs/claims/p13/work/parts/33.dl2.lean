theorem dL_law__1004 : decode cL_law_ 1004 = .ok (.aload_n 1, 1) := by decide +kernel
theorem dL_law__1005 : decode cL_law_ 1005 = .ok (.aload_n 0, 1) := by decide +kernel
theorem dL_law__1006 : decode cL_law_ 1006 = .ok (.iload 4, 2) := by decide +kernel
theorem dL_law__1008 : decode cL_law_ 1008 = .ok (.iconst 1, 1) := by decide +kernel
theorem dL_law__1009 : decode cL_law_ 1009 = .ok (.iadd, 1) := by decide +kernel
theorem dL_law__1010 : decode cL_law_ 1010 = .ok (.iaload, 1) := by decide +kernel
theorem dL_law__1011 : decode cL_law_ 1011 = .ok (.aload_n 0, 1) := by decide +kernel
theorem dL_law__1012 : decode cL_law_ 1012 = .ok (.iload 4, 2) := by decide +kernel
theorem dL_law__1014 : decode cL_law_ 1014 = .ok (.iconst 2, 1) := by decide +kernel
theorem dL_law__1015 : decode cL_law_ 1015 = .ok (.iadd, 1) := by decide +kernel
theorem dL_law__1016 : decode cL_law_ 1016 = .ok (.iaload, 1) := by decide +kernel
theorem dL_law__1017 : decode cL_law_ 1017 = .ok (.aload_n 3, 1) := by decide +kernel
theorem dL_law__1018 : decode cL_law_ 1018 = .ok (.invokestatic 210, 3) := by decide +kernel
theorem dL_law__1021 : decode cL_law_ 1021 = .ok (.istore 5, 2) := by decide +kernel
theorem dL_law__1023 : decode cL_law_ 1023 = .ok (.aload_n 2, 1) := by decide +kernel
theorem dL_law__1024 : decode cL_law_ 1024 = .ok (.aload_n 0, 1) := by decide +kernel
theorem dL_law__1025 : decode cL_law_ 1025 = .ok (.iload 4, 2) := by decide +kernel
theorem dL_law__1027 : decode cL_law_ 1027 = .ok (.iconst 1, 1) := by decide +kernel
theorem dL_law__1028 : decode cL_law_ 1028 = .ok (.iadd, 1) := by decide +kernel
theorem dL_law__1029 : decode cL_law_ 1029 = .ok (.iaload, 1) := by decide +kernel
theorem dL_law__1030 : decode cL_law_ 1030 = .ok (.aload_n 0, 1) := by decide +kernel
theorem dL_law__1031 : decode cL_law_ 1031 = .ok (.iload 4, 2) := by decide +kernel
theorem dL_law__1033 : decode cL_law_ 1033 = .ok (.iconst 2, 1) := by decide +kernel
theorem dL_law__1034 : decode cL_law_ 1034 = .ok (.iadd, 1) := by decide +kernel
theorem dL_law__1035 : decode cL_law_ 1035 = .ok (.iaload, 1) := by decide +kernel
theorem dL_law__1036 : decode cL_law_ 1036 = .ok (.invokevirtual 212, 3) := by decide +kernel
theorem dL_law__1039 : decode cL_law_ 1039 = .ok (.istore 6, 2) := by decide +kernel
theorem dL_law__1041 : decode cL_law_ 1041 = .ok (.goto 794, 3) := by decide +kernel
theorem dL_law__1044 : decode cL_law_ 1044 = .ok (.aload_n 1, 1) := by decide +kernel
theorem dL_law__1045 : decode cL_law_ 1045 = .ok (.aload_n 0, 1) := by decide +kernel
theorem dL_law__1046 : decode cL_law_ 1046 = .ok (.iload 4, 2) := by decide +kernel
theorem dL_law__1048 : decode cL_law_ 1048 = .ok (.iconst 1, 1) := by decide +kernel
theorem dL_law__1049 : decode cL_law_ 1049 = .ok (.iadd, 1) := by decide +kernel
theorem dL_law__1050 : decode cL_law_ 1050 = .ok (.iaload, 1) := by decide +kernel
theorem dL_law__1051 : decode cL_law_ 1051 = .ok (.aload_n 3, 1) := by decide +kernel
theorem dL_law__1052 : decode cL_law_ 1052 = .ok (.invokestatic 213, 3) := by decide +kernel
theorem dL_law__1055 : decode cL_law_ 1055 = .ok (.istore 5, 2) := by decide +kernel
theorem dL_law__1057 : decode cL_law_ 1057 = .ok (.aload_n 2, 1) := by decide +kernel
theorem dL_law__1058 : decode cL_law_ 1058 = .ok (.aload_n 0, 1) := by decide +kernel
theorem dL_law__1059 : decode cL_law_ 1059 = .ok (.iload 4, 2) := by decide +kernel
theorem dL_law__1061 : decode cL_law_ 1061 = .ok (.iconst 1, 1) := by decide +kernel
theorem dL_law__1062 : decode cL_law_ 1062 = .ok (.iadd, 1) := by decide +kernel
theorem dL_law__1063 : decode cL_law_ 1063 = .ok (.iaload, 1) := by decide +kernel
theorem dL_law__1064 : decode cL_law_ 1064 = .ok (.invokevirtual 215, 3) := by decide +kernel
theorem dL_law__1067 : decode cL_law_ 1067 = .ok (.istore 6, 2) := by decide +kernel
theorem dL_law__1069 : decode cL_law_ 1069 = .ok (.goto 766, 3) := by decide +kernel
theorem dL_law__1072 : decode cL_law_ 1072 = .ok (.aload_n 1, 1) := by decide +kernel
theorem dL_law__1073 : decode cL_law_ 1073 = .ok (.invokevirtual 216, 3) := by decide +kernel
theorem dL_law__1076 : decode cL_law_ 1076 = .ok (.pop, 1) := by decide +kernel
theorem dL_law__1077 : decode cL_law_ 1077 = .ok (.aload_n 2, 1) := by decide +kernel
theorem dL_law__1078 : decode cL_law_ 1078 = .ok (.invokevirtual 219, 3) := by decide +kernel
theorem dL_law__1081 : decode cL_law_ 1081 = .ok (.pop, 1) := by decide +kernel
theorem dL_law__1082 : decode cL_law_ 1082 = .ok (.goto 753, 3) := by decide +kernel
theorem dL_law__1085 : decode cL_law_ 1085 = .ok (.aload_n 1, 1) := by decide +kernel
theorem dL_law__1086 : decode cL_law_ 1086 = .ok (.invokevirtual 220, 3) := by decide +kernel
theorem dL_law__1089 : decode cL_law_ 1089 = .ok (.pop, 1) := by decide +kernel
theorem dL_law__1090 : decode cL_law_ 1090 = .ok (.aload_n 2, 1) := by decide +kernel
theorem dL_law__1091 : decode cL_law_ 1091 = .ok (.invokevirtual 223, 3) := by decide +kernel
theorem dL_law__1094 : decode cL_law_ 1094 = .ok (.pop, 1) := by decide +kernel
theorem dL_law__1095 : decode cL_law_ 1095 = .ok (.goto 740, 3) := by decide +kernel
theorem dL_law__1098 : decode cL_law_ 1098 = .ok (.aload_n 1, 1) := by decide +kernel
theorem dL_law__1099 : decode cL_law_ 1099 = .ok (.aload_n 0, 1) := by decide +kernel
theorem dL_law__1100 : decode cL_law_ 1100 = .ok (.iload 4, 2) := by decide +kernel
theorem dL_law__1102 : decode cL_law_ 1102 = .ok (.iconst 1, 1) := by decide +kernel
theorem dL_law__1103 : decode cL_law_ 1103 = .ok (.iadd, 1) := by decide +kernel
theorem dL_law__1104 : decode cL_law_ 1104 = .ok (.iaload, 1) := by decide +kernel
theorem dL_law__1105 : decode cL_law_ 1105 = .ok (.aload_n 0, 1) := by decide +kernel
theorem dL_law__1106 : decode cL_law_ 1106 = .ok (.iload 4, 2) := by decide +kernel
theorem dL_law__1108 : decode cL_law_ 1108 = .ok (.iconst 2, 1) := by decide +kernel
theorem dL_law__1109 : decode cL_law_ 1109 = .ok (.iadd, 1) := by decide +kernel
theorem dL_law__1110 : decode cL_law_ 1110 = .ok (.iaload, 1) := by decide +kernel
theorem dL_law__1111 : decode cL_law_ 1111 = .ok (.ifCond .eq 7, 3) := by decide +kernel
theorem dL_law__1114 : decode cL_law_ 1114 = .ok (.iconst 1, 1) := by decide +kernel
theorem dL_law__1115 : decode cL_law_ 1115 = .ok (.goto 4, 3) := by decide +kernel
theorem dL_law__1118 : decode cL_law_ 1118 = .ok (.iconst 0, 1) := by decide +kernel
theorem dL_law__1119 : decode cL_law_ 1119 = .ok (.aload_n 3, 1) := by decide +kernel
theorem dL_law__1120 : decode cL_law_ 1120 = .ok (.invokestatic 224, 3) := by decide +kernel
theorem dL_law__1123 : decode cL_law_ 1123 = .ok (.istore 5, 2) := by decide +kernel
theorem dL_law__1125 : decode cL_law_ 1125 = .ok (.aload_n 2, 1) := by decide +kernel
theorem dL_law__1126 : decode cL_law_ 1126 = .ok (.aload_n 0, 1) := by decide +kernel
theorem dL_law__1127 : decode cL_law_ 1127 = .ok (.iload 4, 2) := by decide +kernel
theorem dL_law__1129 : decode cL_law_ 1129 = .ok (.iconst 1, 1) := by decide +kernel
theorem dL_law__1130 : decode cL_law_ 1130 = .ok (.iadd, 1) := by decide +kernel
theorem dL_law__1131 : decode cL_law_ 1131 = .ok (.iaload, 1) := by decide +kernel
theorem dL_law__1132 : decode cL_law_ 1132 = .ok (.aload_n 0, 1) := by decide +kernel
theorem dL_law__1133 : decode cL_law_ 1133 = .ok (.iload 4, 2) := by decide +kernel
theorem dL_law__1135 : decode cL_law_ 1135 = .ok (.iconst 2, 1) := by decide +kernel
theorem dL_law__1136 : decode cL_law_ 1136 = .ok (.iadd, 1) := by decide +kernel
theorem dL_law__1137 : decode cL_law_ 1137 = .ok (.iaload, 1) := by decide +kernel
theorem dL_law__1138 : decode cL_law_ 1138 = .ok (.ifCond .eq 7, 3) := by decide +kernel
theorem dL_law__1141 : decode cL_law_ 1141 = .ok (.iconst 1, 1) := by decide +kernel
theorem dL_law__1142 : decode cL_law_ 1142 = .ok (.goto 4, 3) := by decide +kernel
theorem dL_law__1145 : decode cL_law_ 1145 = .ok (.iconst 0, 1) := by decide +kernel
theorem dL_law__1146 : decode cL_law_ 1146 = .ok (.invokevirtual 226, 3) := by decide +kernel
theorem dL_law__1149 : decode cL_law_ 1149 = .ok (.istore 6, 2) := by decide +kernel
theorem dL_law__1151 : decode cL_law_ 1151 = .ok (.goto 684, 3) := by decide +kernel
theorem dL_law__1154 : decode cL_law_ 1154 = .ok (.aload_n 1, 1) := by decide +kernel
theorem dL_law__1155 : decode cL_law_ 1155 = .ok (.aload_n 0, 1) := by decide +kernel
theorem dL_law__1156 : decode cL_law_ 1156 = .ok (.iload 4, 2) := by decide +kernel
theorem dL_law__1158 : decode cL_law_ 1158 = .ok (.iconst 1, 1) := by decide +kernel
theorem dL_law__1159 : decode cL_law_ 1159 = .ok (.iadd, 1) := by decide +kernel
theorem dL_law__1160 : decode cL_law_ 1160 = .ok (.iaload, 1) := by decide +kernel
theorem dL_law__1161 : decode cL_law_ 1161 = .ok (.aload_n 3, 1) := by decide +kernel
theorem dL_law__1162 : decode cL_law_ 1162 = .ok (.invokestatic 227, 3) := by decide +kernel
theorem dL_law__1165 : decode cL_law_ 1165 = .ok (.istore 5, 2) := by decide +kernel
theorem dL_law__1167 : decode cL_law_ 1167 = .ok (.aload_n 2, 1) := by decide +kernel
theorem dL_law__1168 : decode cL_law_ 1168 = .ok (.aload_n 0, 1) := by decide +kernel
theorem dL_law__1169 : decode cL_law_ 1169 = .ok (.iload 4, 2) := by decide +kernel
theorem dL_law__1171 : decode cL_law_ 1171 = .ok (.iconst 1, 1) := by decide +kernel
theorem dL_law__1172 : decode cL_law_ 1172 = .ok (.iadd, 1) := by decide +kernel
theorem dL_law__1173 : decode cL_law_ 1173 = .ok (.iaload, 1) := by decide +kernel
theorem dL_law__1174 : decode cL_law_ 1174 = .ok (.invokevirtual 229, 3) := by decide +kernel
theorem dL_law__1177 : decode cL_law_ 1177 = .ok (.istore 6, 2) := by decide +kernel
theorem dL_law__1179 : decode cL_law_ 1179 = .ok (.goto 656, 3) := by decide +kernel
theorem dL_law__1182 : decode cL_law_ 1182 = .ok (.aload_n 1, 1) := by decide +kernel
theorem dL_law__1183 : decode cL_law_ 1183 = .ok (.aload_n 0, 1) := by decide +kernel
theorem dL_law__1184 : decode cL_law_ 1184 = .ok (.iload 4, 2) := by decide +kernel
theorem dL_law__1186 : decode cL_law_ 1186 = .ok (.iconst 1, 1) := by decide +kernel
theorem dL_law__1187 : decode cL_law_ 1187 = .ok (.iadd, 1) := by decide +kernel
theorem dL_law__1188 : decode cL_law_ 1188 = .ok (.iaload, 1) := by decide +kernel
theorem dL_law__1189 : decode cL_law_ 1189 = .ok (.ifCond .eq 7, 3) := by decide +kernel
theorem dL_law__1192 : decode cL_law_ 1192 = .ok (.iconst 1, 1) := by decide +kernel
theorem dL_law__1193 : decode cL_law_ 1193 = .ok (.goto 4, 3) := by decide +kernel
theorem dL_law__1196 : decode cL_law_ 1196 = .ok (.iconst 0, 1) := by decide +kernel
theorem dL_law__1197 : decode cL_law_ 1197 = .ok (.invokevirtual 230, 3) := by decide +kernel
theorem dL_law__1200 : decode cL_law_ 1200 = .ok (.pop, 1) := by decide +kernel
theorem dL_law__1201 : decode cL_law_ 1201 = .ok (.aload_n 2, 1) := by decide +kernel
theorem dL_law__1202 : decode cL_law_ 1202 = .ok (.aload_n 0, 1) := by decide +kernel
theorem dL_law__1203 : decode cL_law_ 1203 = .ok (.iload 4, 2) := by decide +kernel
theorem dL_law__1205 : decode cL_law_ 1205 = .ok (.iconst 1, 1) := by decide +kernel
theorem dL_law__1206 : decode cL_law_ 1206 = .ok (.iadd, 1) := by decide +kernel
theorem dL_law__1207 : decode cL_law_ 1207 = .ok (.iaload, 1) := by decide +kernel
theorem dL_law__1208 : decode cL_law_ 1208 = .ok (.ifCond .eq 7, 3) := by decide +kernel
theorem dL_law__1211 : decode cL_law_ 1211 = .ok (.iconst 1, 1) := by decide +kernel
theorem dL_law__1212 : decode cL_law_ 1212 = .ok (.goto 4, 3) := by decide +kernel
theorem dL_law__1215 : decode cL_law_ 1215 = .ok (.iconst 0, 1) := by decide +kernel
theorem dL_law__1216 : decode cL_law_ 1216 = .ok (.invokevirtual 233, 3) := by decide +kernel
theorem dL_law__1219 : decode cL_law_ 1219 = .ok (.pop, 1) := by decide +kernel
theorem dL_law__1220 : decode cL_law_ 1220 = .ok (.goto 615, 3) := by decide +kernel
theorem dL_law__1223 : decode cL_law_ 1223 = .ok (.aload_n 1, 1) := by decide +kernel
theorem dL_law__1224 : decode cL_law_ 1224 = .ok (.aload_n 0, 1) := by decide +kernel
theorem dL_law__1225 : decode cL_law_ 1225 = .ok (.iload 4, 2) := by decide +kernel
theorem dL_law__1227 : decode cL_law_ 1227 = .ok (.iconst 1, 1) := by decide +kernel
theorem dL_law__1228 : decode cL_law_ 1228 = .ok (.iadd, 1) := by decide +kernel
theorem dL_law__1229 : decode cL_law_ 1229 = .ok (.iaload, 1) := by decide +kernel
theorem dL_law__1230 : decode cL_law_ 1230 = .ok (.aload_n 3, 1) := by decide +kernel
theorem dL_law__1231 : decode cL_law_ 1231 = .ok (.invokestatic 234, 3) := by decide +kernel
theorem dL_law__1234 : decode cL_law_ 1234 = .ok (.istore 5, 2) := by decide +kernel
theorem dL_law__1236 : decode cL_law_ 1236 = .ok (.aload_n 2, 1) := by decide +kernel
theorem dL_law__1237 : decode cL_law_ 1237 = .ok (.aload_n 0, 1) := by decide +kernel
theorem dL_law__1238 : decode cL_law_ 1238 = .ok (.iload 4, 2) := by decide +kernel
theorem dL_law__1240 : decode cL_law_ 1240 = .ok (.iconst 1, 1) := by decide +kernel
theorem dL_law__1241 : decode cL_law_ 1241 = .ok (.iadd, 1) := by decide +kernel
theorem dL_law__1242 : decode cL_law_ 1242 = .ok (.iaload, 1) := by decide +kernel
theorem dL_law__1243 : decode cL_law_ 1243 = .ok (.invokevirtual 236, 3) := by decide +kernel
theorem dL_law__1246 : decode cL_law_ 1246 = .ok (.istore 6, 2) := by decide +kernel
theorem dL_law__1248 : decode cL_law_ 1248 = .ok (.goto 587, 3) := by decide +kernel
theorem dL_law__1251 : decode cL_law_ 1251 = .ok (.aload_n 1, 1) := by decide +kernel
theorem dL_law__1252 : decode cL_law_ 1252 = .ok (.aload_n 0, 1) := by decide +kernel
theorem dL_law__1253 : decode cL_law_ 1253 = .ok (.iload 4, 2) := by decide +kernel
theorem dL_law__1255 : decode cL_law_ 1255 = .ok (.iconst 1, 1) := by decide +kernel
theorem dL_law__1256 : decode cL_law_ 1256 = .ok (.iadd, 1) := by decide +kernel
theorem dL_law__1257 : decode cL_law_ 1257 = .ok (.iaload, 1) := by decide +kernel
theorem dL_law__1258 : decode cL_law_ 1258 = .ok (.aload_n 3, 1) := by decide +kernel
theorem dL_law__1259 : decode cL_law_ 1259 = .ok (.invokestatic 237, 3) := by decide +kernel
theorem dL_law__1262 : decode cL_law_ 1262 = .ok (.istore 5, 2) := by decide +kernel
theorem dL_law__1264 : decode cL_law_ 1264 = .ok (.aload_n 2, 1) := by decide +kernel
theorem dL_law__1265 : decode cL_law_ 1265 = .ok (.aload_n 0, 1) := by decide +kernel
theorem dL_law__1266 : decode cL_law_ 1266 = .ok (.iload 4, 2) := by decide +kernel
theorem dL_law__1268 : decode cL_law_ 1268 = .ok (.iconst 1, 1) := by decide +kernel
theorem dL_law__1269 : decode cL_law_ 1269 = .ok (.iadd, 1) := by decide +kernel
theorem dL_law__1270 : decode cL_law_ 1270 = .ok (.iaload, 1) := by decide +kernel
theorem dL_law__1271 : decode cL_law_ 1271 = .ok (.invokevirtual 239, 3) := by decide +kernel
theorem dL_law__1274 : decode cL_law_ 1274 = .ok (.istore 6, 2) := by decide +kernel
theorem dL_law__1276 : decode cL_law_ 1276 = .ok (.goto 559, 3) := by decide +kernel
theorem dL_law__1279 : decode cL_law_ 1279 = .ok (.aload_n 1, 1) := by decide +kernel
theorem dL_law__1280 : decode cL_law_ 1280 = .ok (.aload_n 0, 1) := by decide +kernel
theorem dL_law__1281 : decode cL_law_ 1281 = .ok (.iload 4, 2) := by decide +kernel
theorem dL_law__1283 : decode cL_law_ 1283 = .ok (.iconst 1, 1) := by decide +kernel
theorem dL_law__1284 : decode cL_law_ 1284 = .ok (.iadd, 1) := by decide +kernel
theorem dL_law__1285 : decode cL_law_ 1285 = .ok (.iaload, 1) := by decide +kernel
theorem dL_law__1286 : decode cL_law_ 1286 = .ok (.ifCond .eq 7, 3) := by decide +kernel
theorem dL_law__1289 : decode cL_law_ 1289 = .ok (.iconst 1, 1) := by decide +kernel
theorem dL_law__1290 : decode cL_law_ 1290 = .ok (.goto 4, 3) := by decide +kernel
theorem dL_law__1293 : decode cL_law_ 1293 = .ok (.iconst 0, 1) := by decide +kernel
theorem dL_law__1294 : decode cL_law_ 1294 = .ok (.aload_n 3, 1) := by decide +kernel
theorem dL_law__1295 : decode cL_law_ 1295 = .ok (.invokestatic 240, 3) := by decide +kernel
theorem dL_law__1298 : decode cL_law_ 1298 = .ok (.istore 5, 2) := by decide +kernel
theorem dL_law__1300 : decode cL_law_ 1300 = .ok (.aload_n 2, 1) := by decide +kernel
theorem dL_law__1301 : decode cL_law_ 1301 = .ok (.aload_n 0, 1) := by decide +kernel
theorem dL_law__1302 : decode cL_law_ 1302 = .ok (.iload 4, 2) := by decide +kernel
theorem dL_law__1304 : decode cL_law_ 1304 = .ok (.iconst 1, 1) := by decide +kernel
theorem dL_law__1305 : decode cL_law_ 1305 = .ok (.iadd, 1) := by decide +kernel
theorem dL_law__1306 : decode cL_law_ 1306 = .ok (.iaload, 1) := by decide +kernel
theorem dL_law__1307 : decode cL_law_ 1307 = .ok (.ifCond .eq 7, 3) := by decide +kernel
theorem dL_law__1310 : decode cL_law_ 1310 = .ok (.iconst 1, 1) := by decide +kernel
theorem dL_law__1311 : decode cL_law_ 1311 = .ok (.goto 4, 3) := by decide +kernel
theorem dL_law__1314 : decode cL_law_ 1314 = .ok (.iconst 0, 1) := by decide +kernel
theorem dL_law__1315 : decode cL_law_ 1315 = .ok (.invokevirtual 243, 3) := by decide +kernel
theorem dL_law__1318 : decode cL_law_ 1318 = .ok (.istore 6, 2) := by decide +kernel
theorem dL_law__1320 : decode cL_law_ 1320 = .ok (.goto 515, 3) := by decide +kernel
theorem dL_law__1323 : decode cL_law_ 1323 = .ok (.aload_n 1, 1) := by decide +kernel
theorem dL_law__1324 : decode cL_law_ 1324 = .ok (.aload_n 3, 1) := by decide +kernel
theorem dL_law__1325 : decode cL_law_ 1325 = .ok (.invokestatic 244, 3) := by decide +kernel
theorem dL_law__1328 : decode cL_law_ 1328 = .ok (.istore 5, 2) := by decide +kernel
theorem dL_law__1330 : decode cL_law_ 1330 = .ok (.aload_n 2, 1) := by decide +kernel
theorem dL_law__1331 : decode cL_law_ 1331 = .ok (.invokevirtual 246, 3) := by decide +kernel
theorem dL_law__1334 : decode cL_law_ 1334 = .ok (.istore 6, 2) := by decide +kernel
theorem dL_law__1336 : decode cL_law_ 1336 = .ok (.goto 499, 3) := by decide +kernel
theorem dL_law__1339 : decode cL_law_ 1339 = .ok (.aload_n 1, 1) := by decide +kernel
theorem dL_law__1340 : decode cL_law_ 1340 = .ok (.aload_n 0, 1) := by decide +kernel
theorem dL_law__1341 : decode cL_law_ 1341 = .ok (.iload 4, 2) := by decide +kernel
theorem dL_law__1343 : decode cL_law_ 1343 = .ok (.iconst 1, 1) := by decide +kernel
theorem dL_law__1344 : decode cL_law_ 1344 = .ok (.iadd, 1) := by decide +kernel
theorem dL_law__1345 : decode cL_law_ 1345 = .ok (.iaload, 1) := by decide +kernel
theorem dL_law__1346 : decode cL_law_ 1346 = .ok (.aload_n 3, 1) := by decide +kernel
theorem dL_law__1347 : decode cL_law_ 1347 = .ok (.invokestatic 247, 3) := by decide +kernel
theorem dL_law__1350 : decode cL_law_ 1350 = .ok (.istore 5, 2) := by decide +kernel
theorem dL_law__1352 : decode cL_law_ 1352 = .ok (.aload_n 2, 1) := by decide +kernel
theorem dL_law__1353 : decode cL_law_ 1353 = .ok (.aload_n 0, 1) := by decide +kernel
theorem dL_law__1354 : decode cL_law_ 1354 = .ok (.iload 4, 2) := by decide +kernel
theorem dL_law__1356 : decode cL_law_ 1356 = .ok (.iconst 1, 1) := by decide +kernel
theorem dL_law__1357 : decode cL_law_ 1357 = .ok (.iadd, 1) := by decide +kernel
theorem dL_law__1358 : decode cL_law_ 1358 = .ok (.iaload, 1) := by decide +kernel
theorem dL_law__1359 : decode cL_law_ 1359 = .ok (.invokevirtual 249, 3) := by decide +kernel
theorem dL_law__1362 : decode cL_law_ 1362 = .ok (.istore 6, 2) := by decide +kernel
theorem dL_law__1364 : decode cL_law_ 1364 = .ok (.goto 471, 3) := by decide +kernel
theorem dL_law__1367 : decode cL_law_ 1367 = .ok (.aload_n 1, 1) := by decide +kernel
theorem dL_law__1368 : decode cL_law_ 1368 = .ok (.aload_n 0, 1) := by decide +kernel
theorem dL_law__1369 : decode cL_law_ 1369 = .ok (.iload 4, 2) := by decide +kernel
theorem dL_law__1371 : decode cL_law_ 1371 = .ok (.iconst 1, 1) := by decide +kernel
theorem dL_law__1372 : decode cL_law_ 1372 = .ok (.iadd, 1) := by decide +kernel
theorem dL_law__1373 : decode cL_law_ 1373 = .ok (.iaload, 1) := by decide +kernel
theorem dL_law__1374 : decode cL_law_ 1374 = .ok (.aload_n 0, 1) := by decide +kernel
theorem dL_law__1375 : decode cL_law_ 1375 = .ok (.iload 4, 2) := by decide +kernel
theorem dL_law__1377 : decode cL_law_ 1377 = .ok (.iconst 2, 1) := by decide +kernel
theorem dL_law__1378 : decode cL_law_ 1378 = .ok (.iadd, 1) := by decide +kernel
theorem dL_law__1379 : decode cL_law_ 1379 = .ok (.iaload, 1) := by decide +kernel
theorem dL_law__1380 : decode cL_law_ 1380 = .ok (.aload_n 3, 1) := by decide +kernel
theorem dL_law__1381 : decode cL_law_ 1381 = .ok (.invokestatic 250, 3) := by decide +kernel
theorem dL_law__1384 : decode cL_law_ 1384 = .ok (.istore 5, 2) := by decide +kernel
theorem dL_law__1386 : decode cL_law_ 1386 = .ok (.aload_n 2, 1) := by decide +kernel
theorem dL_law__1387 : decode cL_law_ 1387 = .ok (.aload_n 0, 1) := by decide +kernel
theorem dL_law__1388 : decode cL_law_ 1388 = .ok (.iload 4, 2) := by decide +kernel
theorem dL_law__1390 : decode cL_law_ 1390 = .ok (.iconst 1, 1) := by decide +kernel
theorem dL_law__1391 : decode cL_law_ 1391 = .ok (.iadd, 1) := by decide +kernel
theorem dL_law__1392 : decode cL_law_ 1392 = .ok (.iaload, 1) := by decide +kernel
theorem dL_law__1393 : decode cL_law_ 1393 = .ok (.aload_n 0, 1) := by decide +kernel
theorem dL_law__1394 : decode cL_law_ 1394 = .ok (.iload 4, 2) := by decide +kernel
theorem dL_law__1396 : decode cL_law_ 1396 = .ok (.iconst 2, 1) := by decide +kernel
theorem dL_law__1397 : decode cL_law_ 1397 = .ok (.iadd, 1) := by decide +kernel
theorem dL_law__1398 : decode cL_law_ 1398 = .ok (.iaload, 1) := by decide +kernel
theorem dL_law__1399 : decode cL_law_ 1399 = .ok (.invokevirtual 252, 3) := by decide +kernel
theorem dL_law__1402 : decode cL_law_ 1402 = .ok (.istore 6, 2) := by decide +kernel
theorem dL_law__1404 : decode cL_law_ 1404 = .ok (.goto 431, 3) := by decide +kernel
theorem dL_law__1407 : decode cL_law_ 1407 = .ok (.aload_n 1, 1) := by decide +kernel
theorem dL_law__1408 : decode cL_law_ 1408 = .ok (.invokevirtual 253, 3) := by decide +kernel
theorem dL_law__1411 : decode cL_law_ 1411 = .ok (.pop, 1) := by decide +kernel
theorem dL_law__1412 : decode cL_law_ 1412 = .ok (.aload_n 2, 1) := by decide +kernel
theorem dL_law__1413 : decode cL_law_ 1413 = .ok (.invokevirtual 256, 3) := by decide +kernel
theorem dL_law__1416 : decode cL_law_ 1416 = .ok (.pop, 1) := by decide +kernel
theorem dL_law__1417 : decode cL_law_ 1417 = .ok (.goto 418, 3) := by decide +kernel
theorem dL_law__1420 : decode cL_law_ 1420 = .ok (.aload_n 1, 1) := by decide +kernel
theorem dL_law__1421 : decode cL_law_ 1421 = .ok (.invokevirtual 257, 3) := by decide +kernel
theorem dL_law__1424 : decode cL_law_ 1424 = .ok (.pop, 1) := by decide +kernel
theorem dL_law__1425 : decode cL_law_ 1425 = .ok (.aload_n 2, 1) := by decide +kernel
theorem dL_law__1426 : decode cL_law_ 1426 = .ok (.invokevirtual 260, 3) := by decide +kernel
theorem dL_law__1429 : decode cL_law_ 1429 = .ok (.pop, 1) := by decide +kernel
theorem dL_law__1430 : decode cL_law_ 1430 = .ok (.goto 405, 3) := by decide +kernel
theorem dL_law__1433 : decode cL_law_ 1433 = .ok (.aload_n 1, 1) := by decide +kernel
theorem dL_law__1434 : decode cL_law_ 1434 = .ok (.aload_n 0, 1) := by decide +kernel
theorem dL_law__1435 : decode cL_law_ 1435 = .ok (.iload 4, 2) := by decide +kernel
theorem dL_law__1437 : decode cL_law_ 1437 = .ok (.iconst 1, 1) := by decide +kernel
theorem dL_law__1438 : decode cL_law_ 1438 = .ok (.iadd, 1) := by decide +kernel
theorem dL_law__1439 : decode cL_law_ 1439 = .ok (.iaload, 1) := by decide +kernel
theorem dL_law__1440 : decode cL_law_ 1440 = .ok (.aload_n 0, 1) := by decide +kernel
theorem dL_law__1441 : decode cL_law_ 1441 = .ok (.iload 4, 2) := by decide +kernel
theorem dL_law__1443 : decode cL_law_ 1443 = .ok (.iconst 2, 1) := by decide +kernel
theorem dL_law__1444 : decode cL_law_ 1444 = .ok (.iadd, 1) := by decide +kernel
theorem dL_law__1445 : decode cL_law_ 1445 = .ok (.iaload, 1) := by decide +kernel
theorem dL_law__1446 : decode cL_law_ 1446 = .ok (.aload_n 3, 1) := by decide +kernel
theorem dL_law__1447 : decode cL_law_ 1447 = .ok (.invokestatic 261, 3) := by decide +kernel
theorem dL_law__1450 : decode cL_law_ 1450 = .ok (.istore 5, 2) := by decide +kernel
theorem dL_law__1452 : decode cL_law_ 1452 = .ok (.aload_n 2, 1) := by decide +kernel
theorem dL_law__1453 : decode cL_law_ 1453 = .ok (.aload_n 0, 1) := by decide +kernel
theorem dL_law__1454 : decode cL_law_ 1454 = .ok (.iload 4, 2) := by decide +kernel
theorem dL_law__1456 : decode cL_law_ 1456 = .ok (.iconst 1, 1) := by decide +kernel
theorem dL_law__1457 : decode cL_law_ 1457 = .ok (.iadd, 1) := by decide +kernel
theorem dL_law__1458 : decode cL_law_ 1458 = .ok (.iaload, 1) := by decide +kernel
theorem dL_law__1459 : decode cL_law_ 1459 = .ok (.aload_n 0, 1) := by decide +kernel
theorem dL_law__1460 : decode cL_law_ 1460 = .ok (.iload 4, 2) := by decide +kernel
theorem dL_law__1462 : decode cL_law_ 1462 = .ok (.iconst 2, 1) := by decide +kernel
theorem dL_law__1463 : decode cL_law_ 1463 = .ok (.iadd, 1) := by decide +kernel
theorem dL_law__1464 : decode cL_law_ 1464 = .ok (.iaload, 1) := by decide +kernel
theorem dL_law__1465 : decode cL_law_ 1465 = .ok (.invokevirtual 263, 3) := by decide +kernel
theorem dL_law__1468 : decode cL_law_ 1468 = .ok (.istore 6, 2) := by decide +kernel
theorem dL_law__1470 : decode cL_law_ 1470 = .ok (.goto 365, 3) := by decide +kernel
theorem dL_law__1473 : decode cL_law_ 1473 = .ok (.aload_n 1, 1) := by decide +kernel
theorem dL_law__1474 : decode cL_law_ 1474 = .ok (.invokevirtual 264, 3) := by decide +kernel
theorem dL_law__1477 : decode cL_law_ 1477 = .ok (.pop, 1) := by decide +kernel
theorem dL_law__1478 : decode cL_law_ 1478 = .ok (.aload_n 2, 1) := by decide +kernel
theorem dL_law__1479 : decode cL_law_ 1479 = .ok (.invokevirtual 267, 3) := by decide +kernel
theorem dL_law__1482 : decode cL_law_ 1482 = .ok (.pop, 1) := by decide +kernel
theorem dL_law__1483 : decode cL_law_ 1483 = .ok (.goto 352, 3) := by decide +kernel
theorem dL_law__1486 : decode cL_law_ 1486 = .ok (.aload_n 1, 1) := by decide +kernel
theorem dL_law__1487 : decode cL_law_ 1487 = .ok (.invokevirtual 268, 3) := by decide +kernel
theorem dL_law__1490 : decode cL_law_ 1490 = .ok (.pop, 1) := by decide +kernel
theorem dL_law__1491 : decode cL_law_ 1491 = .ok (.aload_n 2, 1) := by decide +kernel
theorem dL_law__1492 : decode cL_law_ 1492 = .ok (.invokevirtual 271, 3) := by decide +kernel
theorem dL_law__1495 : decode cL_law_ 1495 = .ok (.pop, 1) := by decide +kernel
theorem dL_law__1496 : decode cL_law_ 1496 = .ok (.goto 339, 3) := by decide +kernel
theorem dL_law__1499 : decode cL_law_ 1499 = .ok (.aload_n 1, 1) := by decide +kernel
theorem dL_law__1500 : decode cL_law_ 1500 = .ok (.aload_n 0, 1) := by decide +kernel
theorem dL_law__1501 : decode cL_law_ 1501 = .ok (.iload 4, 2) := by decide +kernel
theorem dL_law__1503 : decode cL_law_ 1503 = .ok (.iconst 1, 1) := by decide +kernel
theorem dL_law__1504 : decode cL_law_ 1504 = .ok (.iadd, 1) := by decide +kernel
theorem dL_law__1505 : decode cL_law_ 1505 = .ok (.iaload, 1) := by decide +kernel
theorem dL_law__1506 : decode cL_law_ 1506 = .ok (.aload_n 3, 1) := by decide +kernel
theorem dL_law__1507 : decode cL_law_ 1507 = .ok (.invokestatic 272, 3) := by decide +kernel
theorem dL_law__1510 : decode cL_law_ 1510 = .ok (.istore 5, 2) := by decide +kernel
theorem dL_law__1512 : decode cL_law_ 1512 = .ok (.aload_n 2, 1) := by decide +kernel
theorem dL_law__1513 : decode cL_law_ 1513 = .ok (.aload_n 0, 1) := by decide +kernel
theorem dL_law__1514 : decode cL_law_ 1514 = .ok (.iload 4, 2) := by decide +kernel
theorem dL_law__1516 : decode cL_law_ 1516 = .ok (.iconst 1, 1) := by decide +kernel
theorem dL_law__1517 : decode cL_law_ 1517 = .ok (.iadd, 1) := by decide +kernel
theorem dL_law__1518 : decode cL_law_ 1518 = .ok (.iaload, 1) := by decide +kernel
theorem dL_law__1519 : decode cL_law_ 1519 = .ok (.invokevirtual 274, 3) := by decide +kernel
theorem dL_law__1522 : decode cL_law_ 1522 = .ok (.istore 6, 2) := by decide +kernel
theorem dL_law__1524 : decode cL_law_ 1524 = .ok (.goto 311, 3) := by decide +kernel
theorem dL_law__1527 : decode cL_law_ 1527 = .ok (.aload_n 1, 1) := by decide +kernel
theorem dL_law__1528 : decode cL_law_ 1528 = .ok (.invokevirtual 275, 3) := by decide +kernel
theorem dL_law__1531 : decode cL_law_ 1531 = .ok (.pop, 1) := by decide +kernel
theorem dL_law__1532 : decode cL_law_ 1532 = .ok (.aload_n 2, 1) := by decide +kernel
theorem dL_law__1533 : decode cL_law_ 1533 = .ok (.invokevirtual 278, 3) := by decide +kernel
theorem dL_law__1536 : decode cL_law_ 1536 = .ok (.pop, 1) := by decide +kernel
theorem dL_law__1537 : decode cL_law_ 1537 = .ok (.goto 298, 3) := by decide +kernel
theorem dL_law__1540 : decode cL_law_ 1540 = .ok (.aload_n 1, 1) := by decide +kernel
theorem dL_law__1541 : decode cL_law_ 1541 = .ok (.aload_n 0, 1) := by decide +kernel
theorem dL_law__1542 : decode cL_law_ 1542 = .ok (.iload 4, 2) := by decide +kernel
theorem dL_law__1544 : decode cL_law_ 1544 = .ok (.iconst 1, 1) := by decide +kernel
theorem dL_law__1545 : decode cL_law_ 1545 = .ok (.iadd, 1) := by decide +kernel
theorem dL_law__1546 : decode cL_law_ 1546 = .ok (.iaload, 1) := by decide +kernel
theorem dL_law__1547 : decode cL_law_ 1547 = .ok (.aload_n 0, 1) := by decide +kernel
theorem dL_law__1548 : decode cL_law_ 1548 = .ok (.iload 4, 2) := by decide +kernel
theorem dL_law__1550 : decode cL_law_ 1550 = .ok (.iconst 2, 1) := by decide +kernel
theorem dL_law__1551 : decode cL_law_ 1551 = .ok (.iadd, 1) := by decide +kernel
theorem dL_law__1552 : decode cL_law_ 1552 = .ok (.iaload, 1) := by decide +kernel
theorem dL_law__1553 : decode cL_law_ 1553 = .ok (.ifCond .eq 7, 3) := by decide +kernel
theorem dL_law__1556 : decode cL_law_ 1556 = .ok (.iconst 1, 1) := by decide +kernel
theorem dL_law__1557 : decode cL_law_ 1557 = .ok (.goto 4, 3) := by decide +kernel
theorem dL_law__1560 : decode cL_law_ 1560 = .ok (.iconst 0, 1) := by decide +kernel
theorem dL_law__1561 : decode cL_law_ 1561 = .ok (.aload_n 3, 1) := by decide +kernel
theorem dL_law__1562 : decode cL_law_ 1562 = .ok (.invokestatic 279, 3) := by decide +kernel
theorem dL_law__1565 : decode cL_law_ 1565 = .ok (.istore 5, 2) := by decide +kernel
theorem dL_law__1567 : decode cL_law_ 1567 = .ok (.aload_n 2, 1) := by decide +kernel
theorem dL_law__1568 : decode cL_law_ 1568 = .ok (.aload_n 0, 1) := by decide +kernel
theorem dL_law__1569 : decode cL_law_ 1569 = .ok (.iload 4, 2) := by decide +kernel
theorem dL_law__1571 : decode cL_law_ 1571 = .ok (.iconst 1, 1) := by decide +kernel
theorem dL_law__1572 : decode cL_law_ 1572 = .ok (.iadd, 1) := by decide +kernel
theorem dL_law__1573 : decode cL_law_ 1573 = .ok (.iaload, 1) := by decide +kernel
theorem dL_law__1574 : decode cL_law_ 1574 = .ok (.aload_n 0, 1) := by decide +kernel
theorem dL_law__1575 : decode cL_law_ 1575 = .ok (.iload 4, 2) := by decide +kernel
theorem dL_law__1577 : decode cL_law_ 1577 = .ok (.iconst 2, 1) := by decide +kernel
theorem dL_law__1578 : decode cL_law_ 1578 = .ok (.iadd, 1) := by decide +kernel
theorem dL_law__1579 : decode cL_law_ 1579 = .ok (.iaload, 1) := by decide +kernel
theorem dL_law__1580 : decode cL_law_ 1580 = .ok (.ifCond .eq 7, 3) := by decide +kernel
theorem dL_law__1583 : decode cL_law_ 1583 = .ok (.iconst 1, 1) := by decide +kernel
theorem dL_law__1584 : decode cL_law_ 1584 = .ok (.goto 4, 3) := by decide +kernel
theorem dL_law__1587 : decode cL_law_ 1587 = .ok (.iconst 0, 1) := by decide +kernel
theorem dL_law__1588 : decode cL_law_ 1588 = .ok (.invokevirtual 281, 3) := by decide +kernel
theorem dL_law__1591 : decode cL_law_ 1591 = .ok (.istore 6, 2) := by decide +kernel
theorem dL_law__1593 : decode cL_law_ 1593 = .ok (.goto 242, 3) := by decide +kernel
theorem dL_law__1596 : decode cL_law_ 1596 = .ok (.aload_n 1, 1) := by decide +kernel
theorem dL_law__1597 : decode cL_law_ 1597 = .ok (.aload_n 0, 1) := by decide +kernel
theorem dL_law__1598 : decode cL_law_ 1598 = .ok (.iload 4, 2) := by decide +kernel
theorem dL_law__1600 : decode cL_law_ 1600 = .ok (.iconst 1, 1) := by decide +kernel
theorem dL_law__1601 : decode cL_law_ 1601 = .ok (.iadd, 1) := by decide +kernel
theorem dL_law__1602 : decode cL_law_ 1602 = .ok (.iaload, 1) := by decide +kernel
theorem dL_law__1603 : decode cL_law_ 1603 = .ok (.aload_n 0, 1) := by decide +kernel
theorem dL_law__1604 : decode cL_law_ 1604 = .ok (.iload 4, 2) := by decide +kernel
theorem dL_law__1606 : decode cL_law_ 1606 = .ok (.iconst 2, 1) := by decide +kernel
theorem dL_law__1607 : decode cL_law_ 1607 = .ok (.iadd, 1) := by decide +kernel
theorem dL_law__1608 : decode cL_law_ 1608 = .ok (.iaload, 1) := by decide +kernel
theorem dL_law__1609 : decode cL_law_ 1609 = .ok (.ifCond .eq 7, 3) := by decide +kernel
theorem dL_law__1612 : decode cL_law_ 1612 = .ok (.iconst 1, 1) := by decide +kernel
theorem dL_law__1613 : decode cL_law_ 1613 = .ok (.goto 4, 3) := by decide +kernel
theorem dL_law__1616 : decode cL_law_ 1616 = .ok (.iconst 0, 1) := by decide +kernel
theorem dL_law__1617 : decode cL_law_ 1617 = .ok (.aload_n 3, 1) := by decide +kernel
theorem dL_law__1618 : decode cL_law_ 1618 = .ok (.invokestatic 282, 3) := by decide +kernel
theorem dL_law__1621 : decode cL_law_ 1621 = .ok (.istore 5, 2) := by decide +kernel
theorem dL_law__1623 : decode cL_law_ 1623 = .ok (.aload_n 2, 1) := by decide +kernel
theorem dL_law__1624 : decode cL_law_ 1624 = .ok (.aload_n 0, 1) := by decide +kernel
theorem dL_law__1625 : decode cL_law_ 1625 = .ok (.iload 4, 2) := by decide +kernel
theorem dL_law__1627 : decode cL_law_ 1627 = .ok (.iconst 1, 1) := by decide +kernel
theorem dL_law__1628 : decode cL_law_ 1628 = .ok (.iadd, 1) := by decide +kernel
theorem dL_law__1629 : decode cL_law_ 1629 = .ok (.iaload, 1) := by decide +kernel
theorem dL_law__1630 : decode cL_law_ 1630 = .ok (.aload_n 0, 1) := by decide +kernel
theorem dL_law__1631 : decode cL_law_ 1631 = .ok (.iload 4, 2) := by decide +kernel
theorem dL_law__1633 : decode cL_law_ 1633 = .ok (.iconst 2, 1) := by decide +kernel
theorem dL_law__1634 : decode cL_law_ 1634 = .ok (.iadd, 1) := by decide +kernel
theorem dL_law__1635 : decode cL_law_ 1635 = .ok (.iaload, 1) := by decide +kernel
theorem dL_law__1636 : decode cL_law_ 1636 = .ok (.ifCond .eq 7, 3) := by decide +kernel
theorem dL_law__1639 : decode cL_law_ 1639 = .ok (.iconst 1, 1) := by decide +kernel
theorem dL_law__1640 : decode cL_law_ 1640 = .ok (.goto 4, 3) := by decide +kernel
theorem dL_law__1643 : decode cL_law_ 1643 = .ok (.iconst 0, 1) := by decide +kernel
theorem dL_law__1644 : decode cL_law_ 1644 = .ok (.invokevirtual 284, 3) := by decide +kernel
theorem dL_law__1647 : decode cL_law_ 1647 = .ok (.istore 6, 2) := by decide +kernel
theorem dL_law__1649 : decode cL_law_ 1649 = .ok (.goto 186, 3) := by decide +kernel
theorem dL_law__1652 : decode cL_law_ 1652 = .ok (.aload_n 1, 1) := by decide +kernel
theorem dL_law__1653 : decode cL_law_ 1653 = .ok (.aload_n 0, 1) := by decide +kernel
theorem dL_law__1654 : decode cL_law_ 1654 = .ok (.iload 4, 2) := by decide +kernel
theorem dL_law__1656 : decode cL_law_ 1656 = .ok (.iconst 1, 1) := by decide +kernel
theorem dL_law__1657 : decode cL_law_ 1657 = .ok (.iadd, 1) := by decide +kernel
theorem dL_law__1658 : decode cL_law_ 1658 = .ok (.iaload, 1) := by decide +kernel
theorem dL_law__1659 : decode cL_law_ 1659 = .ok (.aload_n 0, 1) := by decide +kernel
theorem dL_law__1660 : decode cL_law_ 1660 = .ok (.iload 4, 2) := by decide +kernel
theorem dL_law__1662 : decode cL_law_ 1662 = .ok (.iconst 2, 1) := by decide +kernel
theorem dL_law__1663 : decode cL_law_ 1663 = .ok (.iadd, 1) := by decide +kernel
theorem dL_law__1664 : decode cL_law_ 1664 = .ok (.iaload, 1) := by decide +kernel
theorem dL_law__1665 : decode cL_law_ 1665 = .ok (.ifCond .eq 7, 3) := by decide +kernel
theorem dL_law__1668 : decode cL_law_ 1668 = .ok (.iconst 1, 1) := by decide +kernel
theorem dL_law__1669 : decode cL_law_ 1669 = .ok (.goto 4, 3) := by decide +kernel
theorem dL_law__1672 : decode cL_law_ 1672 = .ok (.iconst 0, 1) := by decide +kernel
theorem dL_law__1673 : decode cL_law_ 1673 = .ok (.aload_n 3, 1) := by decide +kernel
theorem dL_law__1674 : decode cL_law_ 1674 = .ok (.invokestatic 285, 3) := by decide +kernel
theorem dL_law__1677 : decode cL_law_ 1677 = .ok (.istore 5, 2) := by decide +kernel
theorem dL_law__1679 : decode cL_law_ 1679 = .ok (.aload_n 2, 1) := by decide +kernel
theorem dL_law__1680 : decode cL_law_ 1680 = .ok (.aload_n 0, 1) := by decide +kernel
theorem dL_law__1681 : decode cL_law_ 1681 = .ok (.iload 4, 2) := by decide +kernel
theorem dL_law__1683 : decode cL_law_ 1683 = .ok (.iconst 1, 1) := by decide +kernel
theorem dL_law__1684 : decode cL_law_ 1684 = .ok (.iadd, 1) := by decide +kernel
theorem dL_law__1685 : decode cL_law_ 1685 = .ok (.iaload, 1) := by decide +kernel
theorem dL_law__1686 : decode cL_law_ 1686 = .ok (.aload_n 0, 1) := by decide +kernel
theorem dL_law__1687 : decode cL_law_ 1687 = .ok (.iload 4, 2) := by decide +kernel
theorem dL_law__1689 : decode cL_law_ 1689 = .ok (.iconst 2, 1) := by decide +kernel
theorem dL_law__1690 : decode cL_law_ 1690 = .ok (.iadd, 1) := by decide +kernel
theorem dL_law__1691 : decode cL_law_ 1691 = .ok (.iaload, 1) := by decide +kernel
theorem dL_law__1692 : decode cL_law_ 1692 = .ok (.ifCond .eq 7, 3) := by decide +kernel
theorem dL_law__1695 : decode cL_law_ 1695 = .ok (.iconst 1, 1) := by decide +kernel
theorem dL_law__1696 : decode cL_law_ 1696 = .ok (.goto 4, 3) := by decide +kernel
theorem dL_law__1699 : decode cL_law_ 1699 = .ok (.iconst 0, 1) := by decide +kernel
theorem dL_law__1700 : decode cL_law_ 1700 = .ok (.invokevirtual 287, 3) := by decide +kernel
theorem dL_law__1703 : decode cL_law_ 1703 = .ok (.istore 6, 2) := by decide +kernel
theorem dL_law__1705 : decode cL_law_ 1705 = .ok (.goto 130, 3) := by decide +kernel
theorem dL_law__1708 : decode cL_law_ 1708 = .ok (.aload_n 1, 1) := by decide +kernel
theorem dL_law__1709 : decode cL_law_ 1709 = .ok (.aload_n 0, 1) := by decide +kernel
theorem dL_law__1710 : decode cL_law_ 1710 = .ok (.iload 4, 2) := by decide +kernel
theorem dL_law__1712 : decode cL_law_ 1712 = .ok (.iconst 1, 1) := by decide +kernel
theorem dL_law__1713 : decode cL_law_ 1713 = .ok (.iadd, 1) := by decide +kernel
theorem dL_law__1714 : decode cL_law_ 1714 = .ok (.iaload, 1) := by decide +kernel
theorem dL_law__1715 : decode cL_law_ 1715 = .ok (.aload_n 0, 1) := by decide +kernel
theorem dL_law__1716 : decode cL_law_ 1716 = .ok (.iload 4, 2) := by decide +kernel
theorem dL_law__1718 : decode cL_law_ 1718 = .ok (.iconst 2, 1) := by decide +kernel
theorem dL_law__1719 : decode cL_law_ 1719 = .ok (.iadd, 1) := by decide +kernel
theorem dL_law__1720 : decode cL_law_ 1720 = .ok (.iaload, 1) := by decide +kernel
theorem dL_law__1721 : decode cL_law_ 1721 = .ok (.aload_n 3, 1) := by decide +kernel
theorem dL_law__1722 : decode cL_law_ 1722 = .ok (.invokestatic 288, 3) := by decide +kernel
theorem dL_law__1725 : decode cL_law_ 1725 = .ok (.istore 5, 2) := by decide +kernel
theorem dL_law__1727 : decode cL_law_ 1727 = .ok (.aload_n 2, 1) := by decide +kernel
theorem dL_law__1728 : decode cL_law_ 1728 = .ok (.aload_n 0, 1) := by decide +kernel
theorem dL_law__1729 : decode cL_law_ 1729 = .ok (.iload 4, 2) := by decide +kernel
theorem dL_law__1731 : decode cL_law_ 1731 = .ok (.iconst 1, 1) := by decide +kernel
theorem dL_law__1732 : decode cL_law_ 1732 = .ok (.iadd, 1) := by decide +kernel
theorem dL_law__1733 : decode cL_law_ 1733 = .ok (.iaload, 1) := by decide +kernel
theorem dL_law__1734 : decode cL_law_ 1734 = .ok (.aload_n 0, 1) := by decide +kernel
theorem dL_law__1735 : decode cL_law_ 1735 = .ok (.iload 4, 2) := by decide +kernel
theorem dL_law__1737 : decode cL_law_ 1737 = .ok (.iconst 2, 1) := by decide +kernel
theorem dL_law__1738 : decode cL_law_ 1738 = .ok (.iadd, 1) := by decide +kernel
theorem dL_law__1739 : decode cL_law_ 1739 = .ok (.iaload, 1) := by decide +kernel
theorem dL_law__1740 : decode cL_law_ 1740 = .ok (.invokevirtual 290, 3) := by decide +kernel
theorem dL_law__1743 : decode cL_law_ 1743 = .ok (.istore 6, 2) := by decide +kernel
theorem dL_law__1745 : decode cL_law_ 1745 = .ok (.goto 90, 3) := by decide +kernel
theorem dL_law__1748 : decode cL_law_ 1748 = .ok (.aload_n 1, 1) := by decide +kernel
theorem dL_law__1749 : decode cL_law_ 1749 = .ok (.aload_n 0, 1) := by decide +kernel
theorem dL_law__1750 : decode cL_law_ 1750 = .ok (.iload 4, 2) := by decide +kernel
theorem dL_law__1752 : decode cL_law_ 1752 = .ok (.iconst 1, 1) := by decide +kernel
theorem dL_law__1753 : decode cL_law_ 1753 = .ok (.iadd, 1) := by decide +kernel
theorem dL_law__1754 : decode cL_law_ 1754 = .ok (.iaload, 1) := by decide +kernel
theorem dL_law__1755 : decode cL_law_ 1755 = .ok (.invokevirtual 291, 3) := by decide +kernel
theorem dL_law__1758 : decode cL_law_ 1758 = .ok (.pop, 1) := by decide +kernel
theorem dL_law__1759 : decode cL_law_ 1759 = .ok (.aload_n 2, 1) := by decide +kernel
theorem dL_law__1760 : decode cL_law_ 1760 = .ok (.aload_n 0, 1) := by decide +kernel
theorem dL_law__1761 : decode cL_law_ 1761 = .ok (.iload 4, 2) := by decide +kernel
theorem dL_law__1763 : decode cL_law_ 1763 = .ok (.iconst 1, 1) := by decide +kernel
theorem dL_law__1764 : decode cL_law_ 1764 = .ok (.iadd, 1) := by decide +kernel
theorem dL_law__1765 : decode cL_law_ 1765 = .ok (.iaload, 1) := by decide +kernel
theorem dL_law__1766 : decode cL_law_ 1766 = .ok (.invokevirtual 294, 3) := by decide +kernel
theorem dL_law__1769 : decode cL_law_ 1769 = .ok (.pop, 1) := by decide +kernel
theorem dL_law__1770 : decode cL_law_ 1770 = .ok (.goto 65, 3) := by decide +kernel
theorem dL_law__1773 : decode cL_law_ 1773 = .ok (.aload_n 1, 1) := by decide +kernel
theorem dL_law__1774 : decode cL_law_ 1774 = .ok (.invokevirtual 295, 3) := by decide +kernel
theorem dL_law__1777 : decode cL_law_ 1777 = .ok (.pop, 1) := by decide +kernel
theorem dL_law__1778 : decode cL_law_ 1778 = .ok (.aload_n 2, 1) := by decide +kernel
theorem dL_law__1779 : decode cL_law_ 1779 = .ok (.invokevirtual 299, 3) := by decide +kernel
theorem dL_law__1782 : decode cL_law_ 1782 = .ok (.pop, 1) := by decide +kernel
theorem dL_law__1783 : decode cL_law_ 1783 = .ok (.goto 52, 3) := by decide +kernel
theorem dL_law__1786 : decode cL_law_ 1786 = .ok (.aload_n 1, 1) := by decide +kernel
theorem dL_law__1787 : decode cL_law_ 1787 = .ok (.invokevirtual 300, 3) := by decide +kernel
theorem dL_law__1790 : decode cL_law_ 1790 = .ok (.aload_n 2, 1) := by decide +kernel
theorem dL_law__1791 : decode cL_law_ 1791 = .ok (.invokevirtual 303, 3) := by decide +kernel
theorem dL_law__1794 : decode cL_law_ 1794 = .ok (.goto 41, 3) := by decide +kernel
theorem dL_law__1797 : decode cL_law_ 1797 = .ok (.aload_n 1, 1) := by decide +kernel
theorem dL_law__1798 : decode cL_law_ 1798 = .ok (.invokevirtual 304, 3) := by decide +kernel
theorem dL_law__1801 : decode cL_law_ 1801 = .ok (.pop, 1) := by decide +kernel
theorem dL_law__1802 : decode cL_law_ 1802 = .ok (.aload_n 2, 1) := by decide +kernel
theorem dL_law__1803 : decode cL_law_ 1803 = .ok (.invokevirtual 307, 3) := by decide +kernel
theorem dL_law__1806 : decode cL_law_ 1806 = .ok (.pop, 1) := by decide +kernel
theorem dL_law__1807 : decode cL_law_ 1807 = .ok (.goto 28, 3) := by decide +kernel
theorem dL_law__1810 : decode cL_law_ 1810 = .ok (.aload_n 1, 1) := by decide +kernel
theorem dL_law__1811 : decode cL_law_ 1811 = .ok (.aload_n 0, 1) := by decide +kernel
theorem dL_law__1812 : decode cL_law_ 1812 = .ok (.iload 4, 2) := by decide +kernel
theorem dL_law__1814 : decode cL_law_ 1814 = .ok (.iconst 1, 1) := by decide +kernel
theorem dL_law__1815 : decode cL_law_ 1815 = .ok (.iadd, 1) := by decide +kernel
theorem dL_law__1816 : decode cL_law_ 1816 = .ok (.iaload, 1) := by decide +kernel
theorem dL_law__1817 : decode cL_law_ 1817 = .ok (.invokevirtual 308, 3) := by decide +kernel
theorem dL_law__1820 : decode cL_law_ 1820 = .ok (.pop, 1) := by decide +kernel
theorem dL_law__1821 : decode cL_law_ 1821 = .ok (.aload_n 2, 1) := by decide +kernel
theorem dL_law__1822 : decode cL_law_ 1822 = .ok (.aload_n 0, 1) := by decide +kernel
theorem dL_law__1823 : decode cL_law_ 1823 = .ok (.iload 4, 2) := by decide +kernel
theorem dL_law__1825 : decode cL_law_ 1825 = .ok (.iconst 1, 1) := by decide +kernel
theorem dL_law__1826 : decode cL_law_ 1826 = .ok (.iadd, 1) := by decide +kernel
theorem dL_law__1827 : decode cL_law_ 1827 = .ok (.iaload, 1) := by decide +kernel
theorem dL_law__1828 : decode cL_law_ 1828 = .ok (.invokevirtual 311, 3) := by decide +kernel
theorem dL_law__1831 : decode cL_law_ 1831 = .ok (.pop, 1) := by decide +kernel
theorem dL_law__1832 : decode cL_law_ 1832 = .ok (.goto 3, 3) := by decide +kernel
theorem dL_law__1835 : decode cL_law_ 1835 = .ok (.iinc 4 6, 3) := by decide +kernel
theorem dL_law__1838 : decode cL_law_ 1838 = .ok (.goto (-1815), 3) := by decide +kernel
theorem dL_law__1841 : decode cL_law_ 1841 = .ok (.iconst 1, 1) := by decide +kernel
theorem dL_law__1842 : decode cL_law_ 1842 = .ok (.ireturn, 1) := by decide +kernel
