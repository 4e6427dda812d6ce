theorem dL_1034 : decode code 1034 = .ok (.aload_n 0, 1) := by decide +kernel
theorem dL_1035 : decode code 1035 = .ok (.iload_n 3, 1) := by decide +kernel
theorem dL_1036 : decode code 1036 = .ok (.iconst 1, 1) := by decide +kernel
theorem dL_1037 : decode code 1037 = .ok (.iadd, 1) := by decide +kernel
theorem dL_1038 : decode code 1038 = .ok (.iaload, 1) := by decide +kernel
theorem dL_1039 : decode code 1039 = .ok (.aload_n 0, 1) := by decide +kernel
theorem dL_1040 : decode code 1040 = .ok (.iload_n 3, 1) := by decide +kernel
theorem dL_1041 : decode code 1041 = .ok (.iconst 2, 1) := by decide +kernel
theorem dL_1042 : decode code 1042 = .ok (.iadd, 1) := by decide +kernel
theorem dL_1043 : decode code 1043 = .ok (.iaload, 1) := by decide +kernel
theorem dL_1044 : decode code 1044 = .ok (.aload_n 0, 1) := by decide +kernel
theorem dL_1045 : decode code 1045 = .ok (.iload_n 3, 1) := by decide +kernel
theorem dL_1046 : decode code 1046 = .ok (.iconst 3, 1) := by decide +kernel
theorem dL_1047 : decode code 1047 = .ok (.iadd, 1) := by decide +kernel
theorem dL_1048 : decode code 1048 = .ok (.iaload, 1) := by decide +kernel
theorem dL_1049 : decode code 1049 = .ok (.invokevirtual 133, 3) := by decide +kernel
theorem dL_1052 : decode code 1052 = .ok (.aload_n 2, 1) := by decide +kernel
theorem dL_1053 : decode code 1053 = .ok (.aload_n 0, 1) := by decide +kernel
theorem dL_1054 : decode code 1054 = .ok (.iload_n 3, 1) := by decide +kernel
theorem dL_1055 : decode code 1055 = .ok (.iconst 1, 1) := by decide +kernel
theorem dL_1056 : decode code 1056 = .ok (.iadd, 1) := by decide +kernel
theorem dL_1057 : decode code 1057 = .ok (.iaload, 1) := by decide +kernel
theorem dL_1058 : decode code 1058 = .ok (.aload_n 0, 1) := by decide +kernel
theorem dL_1059 : decode code 1059 = .ok (.iload_n 3, 1) := by decide +kernel
theorem dL_1060 : decode code 1060 = .ok (.iconst 2, 1) := by decide +kernel
theorem dL_1061 : decode code 1061 = .ok (.iadd, 1) := by decide +kernel
theorem dL_1062 : decode code 1062 = .ok (.iaload, 1) := by decide +kernel
theorem dL_1063 : decode code 1063 = .ok (.aload_n 0, 1) := by decide +kernel
theorem dL_1064 : decode code 1064 = .ok (.iload_n 3, 1) := by decide +kernel
theorem dL_1065 : decode code 1065 = .ok (.iconst 3, 1) := by decide +kernel
theorem dL_1066 : decode code 1066 = .ok (.iadd, 1) := by decide +kernel
theorem dL_1067 : decode code 1067 = .ok (.iaload, 1) := by decide +kernel
theorem dL_1068 : decode code 1068 = .ok (.invokevirtual 137, 3) := by decide +kernel
theorem dL_1071 : decode code 1071 = .ok (.if_icmp .eq 1283, 3) := by decide +kernel
theorem dL_1076 : decode code 1076 = .ok (.aload_n 1, 1) := by decide +kernel
theorem dL_1077 : decode code 1077 = .ok (.aload_n 0, 1) := by decide +kernel
theorem dL_1078 : decode code 1078 = .ok (.iload_n 3, 1) := by decide +kernel
theorem dL_1079 : decode code 1079 = .ok (.iconst 1, 1) := by decide +kernel
theorem dL_1080 : decode code 1080 = .ok (.iadd, 1) := by decide +kernel
theorem dL_1081 : decode code 1081 = .ok (.iaload, 1) := by decide +kernel
theorem dL_1082 : decode code 1082 = .ok (.invokevirtual 138, 3) := by decide +kernel
theorem dL_1085 : decode code 1085 = .ok (.aload_n 2, 1) := by decide +kernel
theorem dL_1086 : decode code 1086 = .ok (.aload_n 0, 1) := by decide +kernel
theorem dL_1087 : decode code 1087 = .ok (.iload_n 3, 1) := by decide +kernel
theorem dL_1088 : decode code 1088 = .ok (.iconst 1, 1) := by decide +kernel
theorem dL_1089 : decode code 1089 = .ok (.iadd, 1) := by decide +kernel
theorem dL_1090 : decode code 1090 = .ok (.iaload, 1) := by decide +kernel
theorem dL_1091 : decode code 1091 = .ok (.invokevirtual 141, 3) := by decide +kernel
theorem dL_1094 : decode code 1094 = .ok (.if_icmp .eq 1260, 3) := by decide +kernel
theorem dL_1099 : decode code 1099 = .ok (.aload_n 1, 1) := by decide +kernel
theorem dL_1100 : decode code 1100 = .ok (.aload_n 0, 1) := by decide +kernel
theorem dL_1101 : decode code 1101 = .ok (.iload_n 3, 1) := by decide +kernel
theorem dL_1102 : decode code 1102 = .ok (.iconst 1, 1) := by decide +kernel
theorem dL_1103 : decode code 1103 = .ok (.iadd, 1) := by decide +kernel
theorem dL_1104 : decode code 1104 = .ok (.iaload, 1) := by decide +kernel
theorem dL_1105 : decode code 1105 = .ok (.invokevirtual 142, 3) := by decide +kernel
theorem dL_1108 : decode code 1108 = .ok (.aload_n 2, 1) := by decide +kernel
theorem dL_1109 : decode code 1109 = .ok (.aload_n 0, 1) := by decide +kernel
theorem dL_1110 : decode code 1110 = .ok (.iload_n 3, 1) := by decide +kernel
theorem dL_1111 : decode code 1111 = .ok (.iconst 1, 1) := by decide +kernel
theorem dL_1112 : decode code 1112 = .ok (.iadd, 1) := by decide +kernel
theorem dL_1113 : decode code 1113 = .ok (.iaload, 1) := by decide +kernel
theorem dL_1114 : decode code 1114 = .ok (.invokevirtual 145, 3) := by decide +kernel
theorem dL_1117 : decode code 1117 = .ok (.if_icmp .eq 1237, 3) := by decide +kernel
theorem dL_1122 : decode code 1122 = .ok (.aload_n 1, 1) := by decide +kernel
theorem dL_1123 : decode code 1123 = .ok (.aload_n 0, 1) := by decide +kernel
theorem dL_1124 : decode code 1124 = .ok (.iload_n 3, 1) := by decide +kernel
theorem dL_1125 : decode code 1125 = .ok (.iconst 1, 1) := by decide +kernel
theorem dL_1126 : decode code 1126 = .ok (.iadd, 1) := by decide +kernel
theorem dL_1127 : decode code 1127 = .ok (.iaload, 1) := by decide +kernel
theorem dL_1128 : decode code 1128 = .ok (.invokevirtual 146, 3) := by decide +kernel
theorem dL_1131 : decode code 1131 = .ok (.aload_n 2, 1) := by decide +kernel
theorem dL_1132 : decode code 1132 = .ok (.aload_n 0, 1) := by decide +kernel
theorem dL_1133 : decode code 1133 = .ok (.iload_n 3, 1) := by decide +kernel
theorem dL_1134 : decode code 1134 = .ok (.iconst 1, 1) := by decide +kernel
theorem dL_1135 : decode code 1135 = .ok (.iadd, 1) := by decide +kernel
theorem dL_1136 : decode code 1136 = .ok (.iaload, 1) := by decide +kernel
theorem dL_1137 : decode code 1137 = .ok (.invokevirtual 149, 3) := by decide +kernel
theorem dL_1140 : decode code 1140 = .ok (.if_icmp .eq 1214, 3) := by decide +kernel
theorem dL_1145 : decode code 1145 = .ok (.aload_n 1, 1) := by decide +kernel
theorem dL_1146 : decode code 1146 = .ok (.aload_n 0, 1) := by decide +kernel
theorem dL_1147 : decode code 1147 = .ok (.iload_n 3, 1) := by decide +kernel
theorem dL_1148 : decode code 1148 = .ok (.iconst 1, 1) := by decide +kernel
theorem dL_1149 : decode code 1149 = .ok (.iadd, 1) := by decide +kernel
theorem dL_1150 : decode code 1150 = .ok (.iaload, 1) := by decide +kernel
theorem dL_1151 : decode code 1151 = .ok (.invokevirtual 150, 3) := by decide +kernel
theorem dL_1154 : decode code 1154 = .ok (.aload_n 2, 1) := by decide +kernel
theorem dL_1155 : decode code 1155 = .ok (.aload_n 0, 1) := by decide +kernel
theorem dL_1156 : decode code 1156 = .ok (.iload_n 3, 1) := by decide +kernel
theorem dL_1157 : decode code 1157 = .ok (.iconst 1, 1) := by decide +kernel
theorem dL_1158 : decode code 1158 = .ok (.iadd, 1) := by decide +kernel
theorem dL_1159 : decode code 1159 = .ok (.iaload, 1) := by decide +kernel
theorem dL_1160 : decode code 1160 = .ok (.invokevirtual 153, 3) := by decide +kernel
theorem dL_1163 : decode code 1163 = .ok (.if_icmp .eq 1191, 3) := by decide +kernel
theorem dL_1168 : decode code 1168 = .ok (.aload_n 1, 1) := by decide +kernel
theorem dL_1169 : decode code 1169 = .ok (.aload_n 0, 1) := by decide +kernel
theorem dL_1170 : decode code 1170 = .ok (.iload_n 3, 1) := by decide +kernel
theorem dL_1171 : decode code 1171 = .ok (.iconst 1, 1) := by decide +kernel
theorem dL_1172 : decode code 1172 = .ok (.iadd, 1) := by decide +kernel
theorem dL_1173 : decode code 1173 = .ok (.iaload, 1) := by decide +kernel
theorem dL_1174 : decode code 1174 = .ok (.invokevirtual 154, 3) := by decide +kernel
theorem dL_1177 : decode code 1177 = .ok (.aload_n 2, 1) := by decide +kernel
theorem dL_1178 : decode code 1178 = .ok (.aload_n 0, 1) := by decide +kernel
theorem dL_1179 : decode code 1179 = .ok (.iload_n 3, 1) := by decide +kernel
theorem dL_1180 : decode code 1180 = .ok (.iconst 1, 1) := by decide +kernel
theorem dL_1181 : decode code 1181 = .ok (.iadd, 1) := by decide +kernel
theorem dL_1182 : decode code 1182 = .ok (.iaload, 1) := by decide +kernel
theorem dL_1183 : decode code 1183 = .ok (.invokevirtual 157, 3) := by decide +kernel
theorem dL_1186 : decode code 1186 = .ok (.if_icmp .eq 1168, 3) := by decide +kernel
theorem dL_1191 : decode code 1191 = .ok (.aload_n 1, 1) := by decide +kernel
theorem dL_1192 : decode code 1192 = .ok (.aload_n 0, 1) := by decide +kernel
theorem dL_1193 : decode code 1193 = .ok (.iload_n 3, 1) := by decide +kernel
theorem dL_1194 : decode code 1194 = .ok (.iconst 1, 1) := by decide +kernel
theorem dL_1195 : decode code 1195 = .ok (.iadd, 1) := by decide +kernel
theorem dL_1196 : decode code 1196 = .ok (.iaload, 1) := by decide +kernel
theorem dL_1197 : decode code 1197 = .ok (.invokevirtual 158, 3) := by decide +kernel
theorem dL_1200 : decode code 1200 = .ok (.aload_n 2, 1) := by decide +kernel
theorem dL_1201 : decode code 1201 = .ok (.aload_n 0, 1) := by decide +kernel
theorem dL_1202 : decode code 1202 = .ok (.iload_n 3, 1) := by decide +kernel
theorem dL_1203 : decode code 1203 = .ok (.iconst 1, 1) := by decide +kernel
theorem dL_1204 : decode code 1204 = .ok (.iadd, 1) := by decide +kernel
theorem dL_1205 : decode code 1205 = .ok (.iaload, 1) := by decide +kernel
theorem dL_1206 : decode code 1206 = .ok (.invokevirtual 161, 3) := by decide +kernel
theorem dL_1209 : decode code 1209 = .ok (.if_icmp .eq 1145, 3) := by decide +kernel
theorem dL_1214 : decode code 1214 = .ok (.aload_n 1, 1) := by decide +kernel
theorem dL_1215 : decode code 1215 = .ok (.aload_n 0, 1) := by decide +kernel
theorem dL_1216 : decode code 1216 = .ok (.iload_n 3, 1) := by decide +kernel
theorem dL_1217 : decode code 1217 = .ok (.iconst 1, 1) := by decide +kernel
theorem dL_1218 : decode code 1218 = .ok (.iadd, 1) := by decide +kernel
theorem dL_1219 : decode code 1219 = .ok (.iaload, 1) := by decide +kernel
theorem dL_1220 : decode code 1220 = .ok (.invokevirtual 162, 3) := by decide +kernel
theorem dL_1223 : decode code 1223 = .ok (.aload_n 2, 1) := by decide +kernel
theorem dL_1224 : decode code 1224 = .ok (.aload_n 0, 1) := by decide +kernel
theorem dL_1225 : decode code 1225 = .ok (.iload_n 3, 1) := by decide +kernel
theorem dL_1226 : decode code 1226 = .ok (.iconst 1, 1) := by decide +kernel
theorem dL_1227 : decode code 1227 = .ok (.iadd, 1) := by decide +kernel
theorem dL_1228 : decode code 1228 = .ok (.iaload, 1) := by decide +kernel
theorem dL_1229 : decode code 1229 = .ok (.invokevirtual 165, 3) := by decide +kernel
theorem dL_1232 : decode code 1232 = .ok (.if_icmp .eq 1122, 3) := by decide +kernel
theorem dL_1237 : decode code 1237 = .ok (.aload_n 1, 1) := by decide +kernel
theorem dL_1238 : decode code 1238 = .ok (.aload_n 0, 1) := by decide +kernel
theorem dL_1239 : decode code 1239 = .ok (.iload_n 3, 1) := by decide +kernel
theorem dL_1240 : decode code 1240 = .ok (.iconst 1, 1) := by decide +kernel
theorem dL_1241 : decode code 1241 = .ok (.iadd, 1) := by decide +kernel
theorem dL_1242 : decode code 1242 = .ok (.iaload, 1) := by decide +kernel
theorem dL_1243 : decode code 1243 = .ok (.aload_n 0, 1) := by decide +kernel
theorem dL_1244 : decode code 1244 = .ok (.iload_n 3, 1) := by decide +kernel
theorem dL_1245 : decode code 1245 = .ok (.iconst 2, 1) := by decide +kernel
theorem dL_1246 : decode code 1246 = .ok (.iadd, 1) := by decide +kernel
theorem dL_1247 : decode code 1247 = .ok (.iaload, 1) := by decide +kernel
theorem dL_1248 : decode code 1248 = .ok (.invokevirtual 166, 3) := by decide +kernel
theorem dL_1251 : decode code 1251 = .ok (.aload_n 2, 1) := by decide +kernel
theorem dL_1252 : decode code 1252 = .ok (.aload_n 0, 1) := by decide +kernel
theorem dL_1253 : decode code 1253 = .ok (.iload_n 3, 1) := by decide +kernel
theorem dL_1254 : decode code 1254 = .ok (.iconst 1, 1) := by decide +kernel
theorem dL_1255 : decode code 1255 = .ok (.iadd, 1) := by decide +kernel
theorem dL_1256 : decode code 1256 = .ok (.iaload, 1) := by decide +kernel
theorem dL_1257 : decode code 1257 = .ok (.aload_n 0, 1) := by decide +kernel
theorem dL_1258 : decode code 1258 = .ok (.iload_n 3, 1) := by decide +kernel
theorem dL_1259 : decode code 1259 = .ok (.iconst 2, 1) := by decide +kernel
theorem dL_1260 : decode code 1260 = .ok (.iadd, 1) := by decide +kernel
theorem dL_1261 : decode code 1261 = .ok (.iaload, 1) := by decide +kernel
theorem dL_1262 : decode code 1262 = .ok (.invokevirtual 169, 3) := by decide +kernel
theorem dL_1265 : decode code 1265 = .ok (.if_icmp .eq 1089, 3) := by decide +kernel
theorem dL_1270 : decode code 1270 = .ok (.aload_n 1, 1) := by decide +kernel
theorem dL_1271 : decode code 1271 = .ok (.aload_n 0, 1) := by decide +kernel
theorem dL_1272 : decode code 1272 = .ok (.iload_n 3, 1) := by decide +kernel
theorem dL_1273 : decode code 1273 = .ok (.iconst 1, 1) := by decide +kernel
theorem dL_1274 : decode code 1274 = .ok (.iadd, 1) := by decide +kernel
theorem dL_1275 : decode code 1275 = .ok (.iaload, 1) := by decide +kernel
theorem dL_1276 : decode code 1276 = .ok (.invokevirtual 170, 3) := by decide +kernel
theorem dL_1279 : decode code 1279 = .ok (.aload_n 2, 1) := by decide +kernel
theorem dL_1280 : decode code 1280 = .ok (.aload_n 0, 1) := by decide +kernel
theorem dL_1281 : decode code 1281 = .ok (.iload_n 3, 1) := by decide +kernel
theorem dL_1282 : decode code 1282 = .ok (.iconst 1, 1) := by decide +kernel
theorem dL_1283 : decode code 1283 = .ok (.iadd, 1) := by decide +kernel
theorem dL_1284 : decode code 1284 = .ok (.iaload, 1) := by decide +kernel
theorem dL_1285 : decode code 1285 = .ok (.invokevirtual 173, 3) := by decide +kernel
theorem dL_1288 : decode code 1288 = .ok (.if_icmp .eq 1066, 3) := by decide +kernel
theorem dL_1293 : decode code 1293 = .ok (.aload_n 1, 1) := by decide +kernel
theorem dL_1294 : decode code 1294 = .ok (.aload_n 0, 1) := by decide +kernel
theorem dL_1295 : decode code 1295 = .ok (.iload_n 3, 1) := by decide +kernel
theorem dL_1296 : decode code 1296 = .ok (.iconst 1, 1) := by decide +kernel
theorem dL_1297 : decode code 1297 = .ok (.iadd, 1) := by decide +kernel
theorem dL_1298 : decode code 1298 = .ok (.iaload, 1) := by decide +kernel
theorem dL_1299 : decode code 1299 = .ok (.aload_n 0, 1) := by decide +kernel
theorem dL_1300 : decode code 1300 = .ok (.iload_n 3, 1) := by decide +kernel
theorem dL_1301 : decode code 1301 = .ok (.iconst 2, 1) := by decide +kernel
theorem dL_1302 : decode code 1302 = .ok (.iadd, 1) := by decide +kernel
theorem dL_1303 : decode code 1303 = .ok (.iaload, 1) := by decide +kernel
theorem dL_1304 : decode code 1304 = .ok (.invokevirtual 174, 3) := by decide +kernel
theorem dL_1307 : decode code 1307 = .ok (.aload_n 2, 1) := by decide +kernel
theorem dL_1308 : decode code 1308 = .ok (.aload_n 0, 1) := by decide +kernel
theorem dL_1309 : decode code 1309 = .ok (.iload_n 3, 1) := by decide +kernel
theorem dL_1310 : decode code 1310 = .ok (.iconst 1, 1) := by decide +kernel
theorem dL_1311 : decode code 1311 = .ok (.iadd, 1) := by decide +kernel
theorem dL_1312 : decode code 1312 = .ok (.iaload, 1) := by decide +kernel
theorem dL_1313 : decode code 1313 = .ok (.aload_n 0, 1) := by decide +kernel
theorem dL_1314 : decode code 1314 = .ok (.iload_n 3, 1) := by decide +kernel
theorem dL_1315 : decode code 1315 = .ok (.iconst 2, 1) := by decide +kernel
theorem dL_1316 : decode code 1316 = .ok (.iadd, 1) := by decide +kernel
theorem dL_1317 : decode code 1317 = .ok (.iaload, 1) := by decide +kernel
theorem dL_1318 : decode code 1318 = .ok (.invokevirtual 177, 3) := by decide +kernel
theorem dL_1321 : decode code 1321 = .ok (.if_icmp .eq 1033, 3) := by decide +kernel
theorem dL_1326 : decode code 1326 = .ok (.aload_n 1, 1) := by decide +kernel
theorem dL_1327 : decode code 1327 = .ok (.aload_n 0, 1) := by decide +kernel
theorem dL_1328 : decode code 1328 = .ok (.iload_n 3, 1) := by decide +kernel
theorem dL_1329 : decode code 1329 = .ok (.iconst 1, 1) := by decide +kernel
theorem dL_1330 : decode code 1330 = .ok (.iadd, 1) := by decide +kernel
theorem dL_1331 : decode code 1331 = .ok (.iaload, 1) := by decide +kernel
theorem dL_1332 : decode code 1332 = .ok (.invokevirtual 178, 3) := by decide +kernel
theorem dL_1335 : decode code 1335 = .ok (.aload_n 2, 1) := by decide +kernel
theorem dL_1336 : decode code 1336 = .ok (.aload_n 0, 1) := by decide +kernel
theorem dL_1337 : decode code 1337 = .ok (.iload_n 3, 1) := by decide +kernel
theorem dL_1338 : decode code 1338 = .ok (.iconst 1, 1) := by decide +kernel
theorem dL_1339 : decode code 1339 = .ok (.iadd, 1) := by decide +kernel
theorem dL_1340 : decode code 1340 = .ok (.iaload, 1) := by decide +kernel
theorem dL_1341 : decode code 1341 = .ok (.invokevirtual 181, 3) := by decide +kernel
theorem dL_1344 : decode code 1344 = .ok (.if_icmp .eq 1010, 3) := by decide +kernel
theorem dL_1349 : decode code 1349 = .ok (.aload_n 1, 1) := by decide +kernel
theorem dL_1350 : decode code 1350 = .ok (.invokevirtual 182, 3) := by decide +kernel
theorem dL_1353 : decode code 1353 = .ok (.aload_n 2, 1) := by decide +kernel
theorem dL_1354 : decode code 1354 = .ok (.invokevirtual 185, 3) := by decide +kernel
theorem dL_1357 : decode code 1357 = .ok (.if_icmp .eq 997, 3) := by decide +kernel
theorem dL_1362 : decode code 1362 = .ok (.aload_n 1, 1) := by decide +kernel
theorem dL_1363 : decode code 1363 = .ok (.aload_n 0, 1) := by decide +kernel
theorem dL_1364 : decode code 1364 = .ok (.iload_n 3, 1) := by decide +kernel
theorem dL_1365 : decode code 1365 = .ok (.iconst 1, 1) := by decide +kernel
theorem dL_1366 : decode code 1366 = .ok (.iadd, 1) := by decide +kernel
theorem dL_1367 : decode code 1367 = .ok (.iaload, 1) := by decide +kernel
theorem dL_1368 : decode code 1368 = .ok (.aload_n 0, 1) := by decide +kernel
theorem dL_1369 : decode code 1369 = .ok (.iload_n 3, 1) := by decide +kernel
theorem dL_1370 : decode code 1370 = .ok (.iconst 2, 1) := by decide +kernel
theorem dL_1371 : decode code 1371 = .ok (.iadd, 1) := by decide +kernel
theorem dL_1372 : decode code 1372 = .ok (.iaload, 1) := by decide +kernel
theorem dL_1373 : decode code 1373 = .ok (.invokevirtual 186, 3) := by decide +kernel
theorem dL_1376 : decode code 1376 = .ok (.aload_n 2, 1) := by decide +kernel
theorem dL_1377 : decode code 1377 = .ok (.aload_n 0, 1) := by decide +kernel
theorem dL_1378 : decode code 1378 = .ok (.iload_n 3, 1) := by decide +kernel
theorem dL_1379 : decode code 1379 = .ok (.iconst 1, 1) := by decide +kernel
theorem dL_1380 : decode code 1380 = .ok (.iadd, 1) := by decide +kernel
theorem dL_1381 : decode code 1381 = .ok (.iaload, 1) := by decide +kernel
theorem dL_1382 : decode code 1382 = .ok (.aload_n 0, 1) := by decide +kernel
theorem dL_1383 : decode code 1383 = .ok (.iload_n 3, 1) := by decide +kernel
theorem dL_1384 : decode code 1384 = .ok (.iconst 2, 1) := by decide +kernel
theorem dL_1385 : decode code 1385 = .ok (.iadd, 1) := by decide +kernel
theorem dL_1386 : decode code 1386 = .ok (.iaload, 1) := by decide +kernel
theorem dL_1387 : decode code 1387 = .ok (.invokevirtual 189, 3) := by decide +kernel
theorem dL_1390 : decode code 1390 = .ok (.if_icmp .eq 964, 3) := by decide +kernel
theorem dL_1395 : decode code 1395 = .ok (.aload_n 1, 1) := by decide +kernel
theorem dL_1396 : decode code 1396 = .ok (.aload_n 0, 1) := by decide +kernel
theorem dL_1397 : decode code 1397 = .ok (.iload_n 3, 1) := by decide +kernel
theorem dL_1398 : decode code 1398 = .ok (.iconst 1, 1) := by decide +kernel
theorem dL_1399 : decode code 1399 = .ok (.iadd, 1) := by decide +kernel
theorem dL_1400 : decode code 1400 = .ok (.iaload, 1) := by decide +kernel
theorem dL_1401 : decode code 1401 = .ok (.aload_n 0, 1) := by decide +kernel
theorem dL_1402 : decode code 1402 = .ok (.iload_n 3, 1) := by decide +kernel
theorem dL_1403 : decode code 1403 = .ok (.iconst 2, 1) := by decide +kernel
theorem dL_1404 : decode code 1404 = .ok (.iadd, 1) := by decide +kernel
theorem dL_1405 : decode code 1405 = .ok (.iaload, 1) := by decide +kernel
theorem dL_1406 : decode code 1406 = .ok (.invokevirtual 190, 3) := by decide +kernel
theorem dL_1409 : decode code 1409 = .ok (.aload_n 2, 1) := by decide +kernel
theorem dL_1410 : decode code 1410 = .ok (.aload_n 0, 1) := by decide +kernel
theorem dL_1411 : decode code 1411 = .ok (.iload_n 3, 1) := by decide +kernel
theorem dL_1412 : decode code 1412 = .ok (.iconst 1, 1) := by decide +kernel
theorem dL_1413 : decode code 1413 = .ok (.iadd, 1) := by decide +kernel
theorem dL_1414 : decode code 1414 = .ok (.iaload, 1) := by decide +kernel
theorem dL_1415 : decode code 1415 = .ok (.aload_n 0, 1) := by decide +kernel
theorem dL_1416 : decode code 1416 = .ok (.iload_n 3, 1) := by decide +kernel
theorem dL_1417 : decode code 1417 = .ok (.iconst 2, 1) := by decide +kernel
theorem dL_1418 : decode code 1418 = .ok (.iadd, 1) := by decide +kernel
theorem dL_1419 : decode code 1419 = .ok (.iaload, 1) := by decide +kernel
theorem dL_1420 : decode code 1420 = .ok (.invokevirtual 193, 3) := by decide +kernel
theorem dL_1423 : decode code 1423 = .ok (.if_icmp .eq 931, 3) := by decide +kernel
theorem dL_1428 : decode code 1428 = .ok (.aload_n 1, 1) := by decide +kernel
theorem dL_1429 : decode code 1429 = .ok (.aload_n 0, 1) := by decide +kernel
theorem dL_1430 : decode code 1430 = .ok (.iload_n 3, 1) := by decide +kernel
theorem dL_1431 : decode code 1431 = .ok (.iconst 1, 1) := by decide +kernel
theorem dL_1432 : decode code 1432 = .ok (.iadd, 1) := by decide +kernel
theorem dL_1433 : decode code 1433 = .ok (.iaload, 1) := by decide +kernel
theorem dL_1434 : decode code 1434 = .ok (.aload_n 0, 1) := by decide +kernel
theorem dL_1435 : decode code 1435 = .ok (.iload_n 3, 1) := by decide +kernel
theorem dL_1436 : decode code 1436 = .ok (.iconst 2, 1) := by decide +kernel
theorem dL_1437 : decode code 1437 = .ok (.iadd, 1) := by decide +kernel
theorem dL_1438 : decode code 1438 = .ok (.iaload, 1) := by decide +kernel
theorem dL_1439 : decode code 1439 = .ok (.invokevirtual 194, 3) := by decide +kernel
theorem dL_1442 : decode code 1442 = .ok (.aload_n 2, 1) := by decide +kernel
theorem dL_1443 : decode code 1443 = .ok (.aload_n 0, 1) := by decide +kernel
theorem dL_1444 : decode code 1444 = .ok (.iload_n 3, 1) := by decide +kernel
theorem dL_1445 : decode code 1445 = .ok (.iconst 1, 1) := by decide +kernel
theorem dL_1446 : decode code 1446 = .ok (.iadd, 1) := by decide +kernel
theorem dL_1447 : decode code 1447 = .ok (.iaload, 1) := by decide +kernel
theorem dL_1448 : decode code 1448 = .ok (.aload_n 0, 1) := by decide +kernel
theorem dL_1449 : decode code 1449 = .ok (.iload_n 3, 1) := by decide +kernel
theorem dL_1450 : decode code 1450 = .ok (.iconst 2, 1) := by decide +kernel
theorem dL_1451 : decode code 1451 = .ok (.iadd, 1) := by decide +kernel
theorem dL_1452 : decode code 1452 = .ok (.iaload, 1) := by decide +kernel
theorem dL_1453 : decode code 1453 = .ok (.invokevirtual 197, 3) := by decide +kernel
theorem dL_1456 : decode code 1456 = .ok (.if_icmp .eq 898, 3) := by decide +kernel
theorem dL_1461 : decode code 1461 = .ok (.aload_n 1, 1) := by decide +kernel
theorem dL_1462 : decode code 1462 = .ok (.aload_n 0, 1) := by decide +kernel
theorem dL_1463 : decode code 1463 = .ok (.iload_n 3, 1) := by decide +kernel
theorem dL_1464 : decode code 1464 = .ok (.iconst 1, 1) := by decide +kernel
theorem dL_1465 : decode code 1465 = .ok (.iadd, 1) := by decide +kernel
theorem dL_1466 : decode code 1466 = .ok (.iaload, 1) := by decide +kernel
theorem dL_1467 : decode code 1467 = .ok (.aload_n 0, 1) := by decide +kernel
theorem dL_1468 : decode code 1468 = .ok (.iload_n 3, 1) := by decide +kernel
theorem dL_1469 : decode code 1469 = .ok (.iconst 2, 1) := by decide +kernel
theorem dL_1470 : decode code 1470 = .ok (.iadd, 1) := by decide +kernel
theorem dL_1471 : decode code 1471 = .ok (.iaload, 1) := by decide +kernel
theorem dL_1472 : decode code 1472 = .ok (.invokevirtual 198, 3) := by decide +kernel
theorem dL_1475 : decode code 1475 = .ok (.aload_n 2, 1) := by decide +kernel
theorem dL_1476 : decode code 1476 = .ok (.aload_n 0, 1) := by decide +kernel
theorem dL_1477 : decode code 1477 = .ok (.iload_n 3, 1) := by decide +kernel
theorem dL_1478 : decode code 1478 = .ok (.iconst 1, 1) := by decide +kernel
theorem dL_1479 : decode code 1479 = .ok (.iadd, 1) := by decide +kernel
theorem dL_1480 : decode code 1480 = .ok (.iaload, 1) := by decide +kernel
theorem dL_1481 : decode code 1481 = .ok (.aload_n 0, 1) := by decide +kernel
theorem dL_1482 : decode code 1482 = .ok (.iload_n 3, 1) := by decide +kernel
theorem dL_1483 : decode code 1483 = .ok (.iconst 2, 1) := by decide +kernel
theorem dL_1484 : decode code 1484 = .ok (.iadd, 1) := by decide +kernel
theorem dL_1485 : decode code 1485 = .ok (.iaload, 1) := by decide +kernel
theorem dL_1486 : decode code 1486 = .ok (.invokevirtual 201, 3) := by decide +kernel
theorem dL_1489 : decode code 1489 = .ok (.if_icmp .eq 865, 3) := by decide +kernel
theorem dL_1494 : decode code 1494 = .ok (.aload_n 1, 1) := by decide +kernel
theorem dL_1495 : decode code 1495 = .ok (.aload_n 0, 1) := by decide +kernel
theorem dL_1496 : decode code 1496 = .ok (.iload_n 3, 1) := by decide +kernel
theorem dL_1497 : decode code 1497 = .ok (.iconst 1, 1) := by decide +kernel
theorem dL_1498 : decode code 1498 = .ok (.iadd, 1) := by decide +kernel
theorem dL_1499 : decode code 1499 = .ok (.iaload, 1) := by decide +kernel
theorem dL_1500 : decode code 1500 = .ok (.aload_n 0, 1) := by decide +kernel
theorem dL_1501 : decode code 1501 = .ok (.iload_n 3, 1) := by decide +kernel
theorem dL_1502 : decode code 1502 = .ok (.iconst 2, 1) := by decide +kernel
theorem dL_1503 : decode code 1503 = .ok (.iadd, 1) := by decide +kernel
theorem dL_1504 : decode code 1504 = .ok (.iaload, 1) := by decide +kernel
theorem dL_1505 : decode code 1505 = .ok (.invokevirtual 202, 3) := by decide +kernel
theorem dL_1508 : decode code 1508 = .ok (.aload_n 2, 1) := by decide +kernel
theorem dL_1509 : decode code 1509 = .ok (.aload_n 0, 1) := by decide +kernel
theorem dL_1510 : decode code 1510 = .ok (.iload_n 3, 1) := by decide +kernel
theorem dL_1511 : decode code 1511 = .ok (.iconst 1, 1) := by decide +kernel
theorem dL_1512 : decode code 1512 = .ok (.iadd, 1) := by decide +kernel
theorem dL_1513 : decode code 1513 = .ok (.iaload, 1) := by decide +kernel
theorem dL_1514 : decode code 1514 = .ok (.aload_n 0, 1) := by decide +kernel
theorem dL_1515 : decode code 1515 = .ok (.iload_n 3, 1) := by decide +kernel
theorem dL_1516 : decode code 1516 = .ok (.iconst 2, 1) := by decide +kernel
theorem dL_1517 : decode code 1517 = .ok (.iadd, 1) := by decide +kernel
theorem dL_1518 : decode code 1518 = .ok (.iaload, 1) := by decide +kernel
theorem dL_1519 : decode code 1519 = .ok (.invokevirtual 205, 3) := by decide +kernel
theorem dL_1522 : decode code 1522 = .ok (.if_icmp .eq 832, 3) := by decide +kernel
theorem dL_1527 : decode code 1527 = .ok (.aload_n 1, 1) := by decide +kernel
theorem dL_1528 : decode code 1528 = .ok (.aload_n 0, 1) := by decide +kernel
theorem dL_1529 : decode code 1529 = .ok (.iload_n 3, 1) := by decide +kernel
theorem dL_1530 : decode code 1530 = .ok (.iconst 1, 1) := by decide +kernel
theorem dL_1531 : decode code 1531 = .ok (.iadd, 1) := by decide +kernel
theorem dL_1532 : decode code 1532 = .ok (.iaload, 1) := by decide +kernel
theorem dL_1533 : decode code 1533 = .ok (.invokevirtual 206, 3) := by decide +kernel
theorem dL_1536 : decode code 1536 = .ok (.aload_n 2, 1) := by decide +kernel
theorem dL_1537 : decode code 1537 = .ok (.aload_n 0, 1) := by decide +kernel
theorem dL_1538 : decode code 1538 = .ok (.iload_n 3, 1) := by decide +kernel
theorem dL_1539 : decode code 1539 = .ok (.iconst 1, 1) := by decide +kernel
theorem dL_1540 : decode code 1540 = .ok (.iadd, 1) := by decide +kernel
theorem dL_1541 : decode code 1541 = .ok (.iaload, 1) := by decide +kernel
theorem dL_1542 : decode code 1542 = .ok (.invokevirtual 209, 3) := by decide +kernel
theorem dL_1545 : decode code 1545 = .ok (.if_icmp .eq 809, 3) := by decide +kernel
theorem dL_1550 : decode code 1550 = .ok (.aload_n 1, 1) := by decide +kernel
theorem dL_1551 : decode code 1551 = .ok (.aload_n 0, 1) := by decide +kernel
theorem dL_1552 : decode code 1552 = .ok (.iload_n 3, 1) := by decide +kernel
theorem dL_1553 : decode code 1553 = .ok (.iconst 1, 1) := by decide +kernel
theorem dL_1554 : decode code 1554 = .ok (.iadd, 1) := by decide +kernel
theorem dL_1555 : decode code 1555 = .ok (.iaload, 1) := by decide +kernel
theorem dL_1556 : decode code 1556 = .ok (.invokevirtual 210, 3) := by decide +kernel
theorem dL_1559 : decode code 1559 = .ok (.aload_n 2, 1) := by decide +kernel
theorem dL_1560 : decode code 1560 = .ok (.aload_n 0, 1) := by decide +kernel
theorem dL_1561 : decode code 1561 = .ok (.iload_n 3, 1) := by decide +kernel
theorem dL_1562 : decode code 1562 = .ok (.iconst 1, 1) := by decide +kernel
theorem dL_1563 : decode code 1563 = .ok (.iadd, 1) := by decide +kernel
theorem dL_1564 : decode code 1564 = .ok (.iaload, 1) := by decide +kernel
theorem dL_1565 : decode code 1565 = .ok (.invokevirtual 213, 3) := by decide +kernel
theorem dL_1568 : decode code 1568 = .ok (.if_icmp .eq 786, 3) := by decide +kernel
theorem dL_1573 : decode code 1573 = .ok (.aload_n 1, 1) := by decide +kernel
theorem dL_1574 : decode code 1574 = .ok (.invokevirtual 214, 3) := by decide +kernel
theorem dL_1577 : decode code 1577 = .ok (.aload_n 2, 1) := by decide +kernel
theorem dL_1578 : decode code 1578 = .ok (.invokevirtual 217, 3) := by decide +kernel
theorem dL_1581 : decode code 1581 = .ok (.if_icmp .eq 773, 3) := by decide +kernel
theorem dL_1586 : decode code 1586 = .ok (.aload_n 1, 1) := by decide +kernel
theorem dL_1587 : decode code 1587 = .ok (.aload_n 0, 1) := by decide +kernel
theorem dL_1588 : decode code 1588 = .ok (.iload_n 3, 1) := by decide +kernel
theorem dL_1589 : decode code 1589 = .ok (.iconst 1, 1) := by decide +kernel
theorem dL_1590 : decode code 1590 = .ok (.iadd, 1) := by decide +kernel
theorem dL_1591 : decode code 1591 = .ok (.iaload, 1) := by decide +kernel
theorem dL_1592 : decode code 1592 = .ok (.invokevirtual 218, 3) := by decide +kernel
theorem dL_1595 : decode code 1595 = .ok (.aload_n 2, 1) := by decide +kernel
theorem dL_1596 : decode code 1596 = .ok (.aload_n 0, 1) := by decide +kernel
theorem dL_1597 : decode code 1597 = .ok (.iload_n 3, 1) := by decide +kernel
theorem dL_1598 : decode code 1598 = .ok (.iconst 1, 1) := by decide +kernel
theorem dL_1599 : decode code 1599 = .ok (.iadd, 1) := by decide +kernel
theorem dL_1600 : decode code 1600 = .ok (.iaload, 1) := by decide +kernel
theorem dL_1601 : decode code 1601 = .ok (.invokevirtual 221, 3) := by decide +kernel
theorem dL_1604 : decode code 1604 = .ok (.if_icmp .eq 750, 3) := by decide +kernel
theorem dL_1609 : decode code 1609 = .ok (.aload_n 1, 1) := by decide +kernel
theorem dL_1610 : decode code 1610 = .ok (.aload_n 0, 1) := by decide +kernel
theorem dL_1611 : decode code 1611 = .ok (.iload_n 3, 1) := by decide +kernel
theorem dL_1612 : decode code 1612 = .ok (.iconst 1, 1) := by decide +kernel
theorem dL_1613 : decode code 1613 = .ok (.iadd, 1) := by decide +kernel
theorem dL_1614 : decode code 1614 = .ok (.iaload, 1) := by decide +kernel
theorem dL_1615 : decode code 1615 = .ok (.aload_n 0, 1) := by decide +kernel
theorem dL_1616 : decode code 1616 = .ok (.iload_n 3, 1) := by decide +kernel
theorem dL_1617 : decode code 1617 = .ok (.iconst 2, 1) := by decide +kernel
theorem dL_1618 : decode code 1618 = .ok (.iadd, 1) := by decide +kernel
theorem dL_1619 : decode code 1619 = .ok (.iaload, 1) := by decide +kernel
theorem dL_1620 : decode code 1620 = .ok (.invokevirtual 222, 3) := by decide +kernel
theorem dL_1623 : decode code 1623 = .ok (.aload_n 2, 1) := by decide +kernel
theorem dL_1624 : decode code 1624 = .ok (.aload_n 0, 1) := by decide +kernel
theorem dL_1625 : decode code 1625 = .ok (.iload_n 3, 1) := by decide +kernel
theorem dL_1626 : decode code 1626 = .ok (.iconst 1, 1) := by decide +kernel
theorem dL_1627 : decode code 1627 = .ok (.iadd, 1) := by decide +kernel
theorem dL_1628 : decode code 1628 = .ok (.iaload, 1) := by decide +kernel
theorem dL_1629 : decode code 1629 = .ok (.aload_n 0, 1) := by decide +kernel
theorem dL_1630 : decode code 1630 = .ok (.iload_n 3, 1) := by decide +kernel
theorem dL_1631 : decode code 1631 = .ok (.iconst 2, 1) := by decide +kernel
theorem dL_1632 : decode code 1632 = .ok (.iadd, 1) := by decide +kernel
theorem dL_1633 : decode code 1633 = .ok (.iaload, 1) := by decide +kernel
theorem dL_1634 : decode code 1634 = .ok (.invokevirtual 225, 3) := by decide +kernel
theorem dL_1637 : decode code 1637 = .ok (.if_icmp .eq 717, 3) := by decide +kernel
theorem dL_1642 : decode code 1642 = .ok (.aload_n 1, 1) := by decide +kernel
theorem dL_1643 : decode code 1643 = .ok (.aload_n 0, 1) := by decide +kernel
theorem dL_1644 : decode code 1644 = .ok (.iload_n 3, 1) := by decide +kernel
theorem dL_1645 : decode code 1645 = .ok (.iconst 1, 1) := by decide +kernel
theorem dL_1646 : decode code 1646 = .ok (.iadd, 1) := by decide +kernel
theorem dL_1647 : decode code 1647 = .ok (.iaload, 1) := by decide +kernel
theorem dL_1648 : decode code 1648 = .ok (.aload_n 0, 1) := by decide +kernel
theorem dL_1649 : decode code 1649 = .ok (.iload_n 3, 1) := by decide +kernel
theorem dL_1650 : decode code 1650 = .ok (.iconst 2, 1) := by decide +kernel
theorem dL_1651 : decode code 1651 = .ok (.iadd, 1) := by decide +kernel
theorem dL_1652 : decode code 1652 = .ok (.iaload, 1) := by decide +kernel
theorem dL_1653 : decode code 1653 = .ok (.invokevirtual 226, 3) := by decide +kernel
theorem dL_1656 : decode code 1656 = .ok (.aload_n 2, 1) := by decide +kernel
theorem dL_1657 : decode code 1657 = .ok (.aload_n 0, 1) := by decide +kernel
theorem dL_1658 : decode code 1658 = .ok (.iload_n 3, 1) := by decide +kernel
theorem dL_1659 : decode code 1659 = .ok (.iconst 1, 1) := by decide +kernel
theorem dL_1660 : decode code 1660 = .ok (.iadd, 1) := by decide +kernel
theorem dL_1661 : decode code 1661 = .ok (.iaload, 1) := by decide +kernel
theorem dL_1662 : decode code 1662 = .ok (.aload_n 0, 1) := by decide +kernel
theorem dL_1663 : decode code 1663 = .ok (.iload_n 3, 1) := by decide +kernel
theorem dL_1664 : decode code 1664 = .ok (.iconst 2, 1) := by decide +kernel
theorem dL_1665 : decode code 1665 = .ok (.iadd, 1) := by decide +kernel
theorem dL_1666 : decode code 1666 = .ok (.iaload, 1) := by decide +kernel
theorem dL_1667 : decode code 1667 = .ok (.invokevirtual 229, 3) := by decide +kernel
theorem dL_1670 : decode code 1670 = .ok (.if_icmp .eq 684, 3) := by decide +kernel
theorem dL_1675 : decode code 1675 = .ok (.aload_n 1, 1) := by decide +kernel
theorem dL_1676 : decode code 1676 = .ok (.aload_n 0, 1) := by decide +kernel
theorem dL_1677 : decode code 1677 = .ok (.iload_n 3, 1) := by decide +kernel
theorem dL_1678 : decode code 1678 = .ok (.iconst 1, 1) := by decide +kernel
theorem dL_1679 : decode code 1679 = .ok (.iadd, 1) := by decide +kernel
theorem dL_1680 : decode code 1680 = .ok (.iaload, 1) := by decide +kernel
theorem dL_1681 : decode code 1681 = .ok (.aload_n 0, 1) := by decide +kernel
theorem dL_1682 : decode code 1682 = .ok (.iload_n 3, 1) := by decide +kernel
theorem dL_1683 : decode code 1683 = .ok (.iconst 2, 1) := by decide +kernel
theorem dL_1684 : decode code 1684 = .ok (.iadd, 1) := by decide +kernel
theorem dL_1685 : decode code 1685 = .ok (.iaload, 1) := by decide +kernel
theorem dL_1686 : decode code 1686 = .ok (.invokevirtual 230, 3) := by decide +kernel
theorem dL_1689 : decode code 1689 = .ok (.aload_n 2, 1) := by decide +kernel
theorem dL_1690 : decode code 1690 = .ok (.aload_n 0, 1) := by decide +kernel
theorem dL_1691 : decode code 1691 = .ok (.iload_n 3, 1) := by decide +kernel
theorem dL_1692 : decode code 1692 = .ok (.iconst 1, 1) := by decide +kernel
theorem dL_1693 : decode code 1693 = .ok (.iadd, 1) := by decide +kernel
theorem dL_1694 : decode code 1694 = .ok (.iaload, 1) := by decide +kernel
theorem dL_1695 : decode code 1695 = .ok (.aload_n 0, 1) := by decide +kernel
theorem dL_1696 : decode code 1696 = .ok (.iload_n 3, 1) := by decide +kernel
theorem dL_1697 : decode code 1697 = .ok (.iconst 2, 1) := by decide +kernel
theorem dL_1698 : decode code 1698 = .ok (.iadd, 1) := by decide +kernel
theorem dL_1699 : decode code 1699 = .ok (.iaload, 1) := by decide +kernel
theorem dL_1700 : decode code 1700 = .ok (.invokevirtual 233, 3) := by decide +kernel
theorem dL_1703 : decode code 1703 = .ok (.if_icmp .eq 651, 3) := by decide +kernel
theorem dL_1708 : decode code 1708 = .ok (.aload_n 1, 1) := by decide +kernel
theorem dL_1709 : decode code 1709 = .ok (.aload_n 0, 1) := by decide +kernel
theorem dL_1710 : decode code 1710 = .ok (.iload_n 3, 1) := by decide +kernel
theorem dL_1711 : decode code 1711 = .ok (.iconst 1, 1) := by decide +kernel
theorem dL_1712 : decode code 1712 = .ok (.iadd, 1) := by decide +kernel
theorem dL_1713 : decode code 1713 = .ok (.iaload, 1) := by decide +kernel
theorem dL_1714 : decode code 1714 = .ok (.aload_n 0, 1) := by decide +kernel
theorem dL_1715 : decode code 1715 = .ok (.iload_n 3, 1) := by decide +kernel
theorem dL_1716 : decode code 1716 = .ok (.iconst 2, 1) := by decide +kernel
theorem dL_1717 : decode code 1717 = .ok (.iadd, 1) := by decide +kernel
theorem dL_1718 : decode code 1718 = .ok (.iaload, 1) := by decide +kernel
theorem dL_1719 : decode code 1719 = .ok (.invokevirtual 234, 3) := by decide +kernel
theorem dL_1722 : decode code 1722 = .ok (.aload_n 2, 1) := by decide +kernel
theorem dL_1723 : decode code 1723 = .ok (.aload_n 0, 1) := by decide +kernel
theorem dL_1724 : decode code 1724 = .ok (.iload_n 3, 1) := by decide +kernel
theorem dL_1725 : decode code 1725 = .ok (.iconst 1, 1) := by decide +kernel
theorem dL_1726 : decode code 1726 = .ok (.iadd, 1) := by decide +kernel
theorem dL_1727 : decode code 1727 = .ok (.iaload, 1) := by decide +kernel
