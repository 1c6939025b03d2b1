theorem d_L_law_1148 : decode code 1148 = .ok (.aload_n 0, 1) := by decide +kernel
theorem d_L_law_1149 : decode code 1149 = .ok (.iload_n 3, 1) := by decide +kernel
theorem d_L_law_1150 : decode code 1150 = .ok (.iconst 3, 1) := by decide +kernel
theorem d_L_law_1151 : decode code 1151 = .ok (.iadd, 1) := by decide +kernel
theorem d_L_law_1152 : decode code 1152 = .ok (.iaload, 1) := by decide +kernel
theorem d_L_law_1153 : decode code 1153 = .ok (.invokevirtual 132, 3) := by decide +kernel
theorem d_L_law_1156 : decode code 1156 = .ok (.aload_n 2, 1) := by decide +kernel
theorem d_L_law_1157 : decode code 1157 = .ok (.aload_n 0, 1) := by decide +kernel
theorem d_L_law_1158 : decode code 1158 = .ok (.iload_n 3, 1) := by decide +kernel
theorem d_L_law_1159 : decode code 1159 = .ok (.iconst 1, 1) := by decide +kernel
theorem d_L_law_1160 : decode code 1160 = .ok (.iadd, 1) := by decide +kernel
theorem d_L_law_1161 : decode code 1161 = .ok (.iaload, 1) := by decide +kernel
theorem d_L_law_1162 : decode code 1162 = .ok (.aload_n 0, 1) := by decide +kernel
theorem d_L_law_1163 : decode code 1163 = .ok (.iload_n 3, 1) := by decide +kernel
theorem d_L_law_1164 : decode code 1164 = .ok (.iconst 2, 1) := by decide +kernel
theorem d_L_law_1165 : decode code 1165 = .ok (.iadd, 1) := by decide +kernel
theorem d_L_law_1166 : decode code 1166 = .ok (.iaload, 1) := by decide +kernel
theorem d_L_law_1167 : decode code 1167 = .ok (.aload_n 0, 1) := by decide +kernel
theorem d_L_law_1168 : decode code 1168 = .ok (.iload_n 3, 1) := by decide +kernel
theorem d_L_law_1169 : decode code 1169 = .ok (.iconst 3, 1) := by decide +kernel
theorem d_L_law_1170 : decode code 1170 = .ok (.iadd, 1) := by decide +kernel
theorem d_L_law_1171 : decode code 1171 = .ok (.iaload, 1) := by decide +kernel
theorem d_L_law_1172 : decode code 1172 = .ok (.invokevirtual 135, 3) := by decide +kernel
theorem d_L_law_1175 : decode code 1175 = .ok (.if_icmp .eq 353, 3) := by decide +kernel
theorem d_L_law_1178 : decode code 1178 = .ok (.iconst 0, 1) := by decide +kernel
theorem d_L_law_1179 : decode code 1179 = .ok (.ireturn, 1) := by decide +kernel
theorem d_L_law_1180 : decode code 1180 = .ok (.aload_n 1, 1) := by decide +kernel
theorem d_L_law_1181 : decode code 1181 = .ok (.aload_n 0, 1) := by decide +kernel
theorem d_L_law_1182 : decode code 1182 = .ok (.iload_n 3, 1) := by decide +kernel
theorem d_L_law_1183 : decode code 1183 = .ok (.iconst 1, 1) := by decide +kernel
theorem d_L_law_1184 : decode code 1184 = .ok (.iadd, 1) := by decide +kernel
theorem d_L_law_1185 : decode code 1185 = .ok (.iaload, 1) := by decide +kernel
theorem d_L_law_1186 : decode code 1186 = .ok (.aload_n 0, 1) := by decide +kernel
theorem d_L_law_1187 : decode code 1187 = .ok (.iload_n 3, 1) := by decide +kernel
theorem d_L_law_1188 : decode code 1188 = .ok (.iconst 2, 1) := by decide +kernel
theorem d_L_law_1189 : decode code 1189 = .ok (.iadd, 1) := by decide +kernel
theorem d_L_law_1190 : decode code 1190 = .ok (.iaload, 1) := by decide +kernel
theorem d_L_law_1191 : decode code 1191 = .ok (.invokevirtual 136, 3) := by decide +kernel
theorem d_L_law_1194 : decode code 1194 = .ok (.aload_n 2, 1) := by decide +kernel
theorem d_L_law_1195 : decode code 1195 = .ok (.aload_n 0, 1) := by decide +kernel
theorem d_L_law_1196 : decode code 1196 = .ok (.iload_n 3, 1) := by decide +kernel
theorem d_L_law_1197 : decode code 1197 = .ok (.iconst 1, 1) := by decide +kernel
theorem d_L_law_1198 : decode code 1198 = .ok (.iadd, 1) := by decide +kernel
theorem d_L_law_1199 : decode code 1199 = .ok (.iaload, 1) := by decide +kernel
theorem d_L_law_1200 : decode code 1200 = .ok (.aload_n 0, 1) := by decide +kernel
theorem d_L_law_1201 : decode code 1201 = .ok (.iload_n 3, 1) := by decide +kernel
theorem d_L_law_1202 : decode code 1202 = .ok (.iconst 2, 1) := by decide +kernel
theorem d_L_law_1203 : decode code 1203 = .ok (.iadd, 1) := by decide +kernel
theorem d_L_law_1204 : decode code 1204 = .ok (.iaload, 1) := by decide +kernel
theorem d_L_law_1205 : decode code 1205 = .ok (.invokevirtual 139, 3) := by decide +kernel
theorem d_L_law_1208 : decode code 1208 = .ok (.if_icmp .eq 320, 3) := by decide +kernel
theorem d_L_law_1211 : decode code 1211 = .ok (.iconst 0, 1) := by decide +kernel
theorem d_L_law_1212 : decode code 1212 = .ok (.ireturn, 1) := by decide +kernel
theorem d_L_law_1213 : decode code 1213 = .ok (.aload_n 1, 1) := by decide +kernel
theorem d_L_law_1214 : decode code 1214 = .ok (.aload_n 0, 1) := by decide +kernel
theorem d_L_law_1215 : decode code 1215 = .ok (.iload_n 3, 1) := by decide +kernel
theorem d_L_law_1216 : decode code 1216 = .ok (.iconst 1, 1) := by decide +kernel
theorem d_L_law_1217 : decode code 1217 = .ok (.iadd, 1) := by decide +kernel
theorem d_L_law_1218 : decode code 1218 = .ok (.iaload, 1) := by decide +kernel
theorem d_L_law_1219 : decode code 1219 = .ok (.aload_n 0, 1) := by decide +kernel
theorem d_L_law_1220 : decode code 1220 = .ok (.iload_n 3, 1) := by decide +kernel
theorem d_L_law_1221 : decode code 1221 = .ok (.iconst 2, 1) := by decide +kernel
theorem d_L_law_1222 : decode code 1222 = .ok (.iadd, 1) := by decide +kernel
theorem d_L_law_1223 : decode code 1223 = .ok (.iaload, 1) := by decide +kernel
theorem d_L_law_1224 : decode code 1224 = .ok (.aload_n 0, 1) := by decide +kernel
theorem d_L_law_1225 : decode code 1225 = .ok (.iload_n 3, 1) := by decide +kernel
theorem d_L_law_1226 : decode code 1226 = .ok (.iconst 3, 1) := by decide +kernel
theorem d_L_law_1227 : decode code 1227 = .ok (.iadd, 1) := by decide +kernel
theorem d_L_law_1228 : decode code 1228 = .ok (.iaload, 1) := by decide +kernel
theorem d_L_law_1229 : decode code 1229 = .ok (.aload_n 0, 1) := by decide +kernel
theorem d_L_law_1230 : decode code 1230 = .ok (.iload_n 3, 1) := by decide +kernel
theorem d_L_law_1231 : decode code 1231 = .ok (.iconst 4, 1) := by decide +kernel
theorem d_L_law_1232 : decode code 1232 = .ok (.iadd, 1) := by decide +kernel
theorem d_L_law_1233 : decode code 1233 = .ok (.iaload, 1) := by decide +kernel
theorem d_L_law_1234 : decode code 1234 = .ok (.invokevirtual 140, 3) := by decide +kernel
theorem d_L_law_1237 : decode code 1237 = .ok (.aload_n 2, 1) := by decide +kernel
theorem d_L_law_1238 : decode code 1238 = .ok (.aload_n 0, 1) := by decide +kernel
theorem d_L_law_1239 : decode code 1239 = .ok (.iload_n 3, 1) := by decide +kernel
theorem d_L_law_1240 : decode code 1240 = .ok (.iconst 1, 1) := by decide +kernel
theorem d_L_law_1241 : decode code 1241 = .ok (.iadd, 1) := by decide +kernel
theorem d_L_law_1242 : decode code 1242 = .ok (.iaload, 1) := by decide +kernel
theorem d_L_law_1243 : decode code 1243 = .ok (.aload_n 0, 1) := by decide +kernel
theorem d_L_law_1244 : decode code 1244 = .ok (.iload_n 3, 1) := by decide +kernel
theorem d_L_law_1245 : decode code 1245 = .ok (.iconst 2, 1) := by decide +kernel
theorem d_L_law_1246 : decode code 1246 = .ok (.iadd, 1) := by decide +kernel
theorem d_L_law_1247 : decode code 1247 = .ok (.iaload, 1) := by decide +kernel
theorem d_L_law_1248 : decode code 1248 = .ok (.aload_n 0, 1) := by decide +kernel
theorem d_L_law_1249 : decode code 1249 = .ok (.iload_n 3, 1) := by decide +kernel
theorem d_L_law_1250 : decode code 1250 = .ok (.iconst 3, 1) := by decide +kernel
theorem d_L_law_1251 : decode code 1251 = .ok (.iadd, 1) := by decide +kernel
theorem d_L_law_1252 : decode code 1252 = .ok (.iaload, 1) := by decide +kernel
theorem d_L_law_1253 : decode code 1253 = .ok (.aload_n 0, 1) := by decide +kernel
theorem d_L_law_1254 : decode code 1254 = .ok (.iload_n 3, 1) := by decide +kernel
theorem d_L_law_1255 : decode code 1255 = .ok (.iconst 4, 1) := by decide +kernel
theorem d_L_law_1256 : decode code 1256 = .ok (.iadd, 1) := by decide +kernel
theorem d_L_law_1257 : decode code 1257 = .ok (.iaload, 1) := by decide +kernel
theorem d_L_law_1258 : decode code 1258 = .ok (.invokevirtual 144, 3) := by decide +kernel
theorem d_L_law_1261 : decode code 1261 = .ok (.lcmp, 1) := by decide +kernel
theorem d_L_law_1262 : decode code 1262 = .ok (.ifCond .eq 266, 3) := by decide +kernel
theorem d_L_law_1265 : decode code 1265 = .ok (.iconst 0, 1) := by decide +kernel
theorem d_L_law_1266 : decode code 1266 = .ok (.ireturn, 1) := by decide +kernel
theorem d_L_law_1267 : decode code 1267 = .ok (.aload_n 1, 1) := by decide +kernel
theorem d_L_law_1268 : decode code 1268 = .ok (.invokevirtual 145, 3) := by decide +kernel
theorem d_L_law_1271 : decode code 1271 = .ok (.aload_n 2, 1) := by decide +kernel
theorem d_L_law_1272 : decode code 1272 = .ok (.invokevirtual 148, 3) := by decide +kernel
theorem d_L_law_1275 : decode code 1275 = .ok (.if_icmp .eq 253, 3) := by decide +kernel
theorem d_L_law_1278 : decode code 1278 = .ok (.iconst 0, 1) := by decide +kernel
theorem d_L_law_1279 : decode code 1279 = .ok (.ireturn, 1) := by decide +kernel
theorem d_L_law_1280 : decode code 1280 = .ok (.aload_n 1, 1) := by decide +kernel
theorem d_L_law_1281 : decode code 1281 = .ok (.invokevirtual 149, 3) := by decide +kernel
theorem d_L_law_1284 : decode code 1284 = .ok (.aload_n 2, 1) := by decide +kernel
theorem d_L_law_1285 : decode code 1285 = .ok (.invokevirtual 152, 3) := by decide +kernel
theorem d_L_law_1288 : decode code 1288 = .ok (.if_icmp .eq 240, 3) := by decide +kernel
theorem d_L_law_1291 : decode code 1291 = .ok (.iconst 0, 1) := by decide +kernel
theorem d_L_law_1292 : decode code 1292 = .ok (.ireturn, 1) := by decide +kernel
theorem d_L_law_1293 : decode code 1293 = .ok (.aload_n 1, 1) := by decide +kernel
theorem d_L_law_1294 : decode code 1294 = .ok (.aload_n 0, 1) := by decide +kernel
theorem d_L_law_1295 : decode code 1295 = .ok (.iload_n 3, 1) := by decide +kernel
theorem d_L_law_1296 : decode code 1296 = .ok (.iconst 1, 1) := by decide +kernel
theorem d_L_law_1297 : decode code 1297 = .ok (.iadd, 1) := by decide +kernel
theorem d_L_law_1298 : decode code 1298 = .ok (.iaload, 1) := by decide +kernel
theorem d_L_law_1299 : decode code 1299 = .ok (.aload_n 0, 1) := by decide +kernel
theorem d_L_law_1300 : decode code 1300 = .ok (.iload_n 3, 1) := by decide +kernel
theorem d_L_law_1301 : decode code 1301 = .ok (.iconst 2, 1) := by decide +kernel
theorem d_L_law_1302 : decode code 1302 = .ok (.iadd, 1) := by decide +kernel
theorem d_L_law_1303 : decode code 1303 = .ok (.iaload, 1) := by decide +kernel
theorem d_L_law_1304 : decode code 1304 = .ok (.aload_n 0, 1) := by decide +kernel
theorem d_L_law_1305 : decode code 1305 = .ok (.iload_n 3, 1) := by decide +kernel
theorem d_L_law_1306 : decode code 1306 = .ok (.iconst 3, 1) := by decide +kernel
theorem d_L_law_1307 : decode code 1307 = .ok (.iadd, 1) := by decide +kernel
theorem d_L_law_1308 : decode code 1308 = .ok (.iaload, 1) := by decide +kernel
theorem d_L_law_1309 : decode code 1309 = .ok (.invokevirtual 153, 3) := by decide +kernel
theorem d_L_law_1312 : decode code 1312 = .ok (.aload_n 2, 1) := by decide +kernel
theorem d_L_law_1313 : decode code 1313 = .ok (.aload_n 0, 1) := by decide +kernel
theorem d_L_law_1314 : decode code 1314 = .ok (.iload_n 3, 1) := by decide +kernel
theorem d_L_law_1315 : decode code 1315 = .ok (.iconst 1, 1) := by decide +kernel
theorem d_L_law_1316 : decode code 1316 = .ok (.iadd, 1) := by decide +kernel
theorem d_L_law_1317 : decode code 1317 = .ok (.iaload, 1) := by decide +kernel
theorem d_L_law_1318 : decode code 1318 = .ok (.aload_n 0, 1) := by decide +kernel
theorem d_L_law_1319 : decode code 1319 = .ok (.iload_n 3, 1) := by decide +kernel
theorem d_L_law_1320 : decode code 1320 = .ok (.iconst 2, 1) := by decide +kernel
theorem d_L_law_1321 : decode code 1321 = .ok (.iadd, 1) := by decide +kernel
theorem d_L_law_1322 : decode code 1322 = .ok (.iaload, 1) := by decide +kernel
theorem d_L_law_1323 : decode code 1323 = .ok (.aload_n 0, 1) := by decide +kernel
theorem d_L_law_1324 : decode code 1324 = .ok (.iload_n 3, 1) := by decide +kernel
theorem d_L_law_1325 : decode code 1325 = .ok (.iconst 3, 1) := by decide +kernel
theorem d_L_law_1326 : decode code 1326 = .ok (.iadd, 1) := by decide +kernel
theorem d_L_law_1327 : decode code 1327 = .ok (.iaload, 1) := by decide +kernel
theorem d_L_law_1328 : decode code 1328 = .ok (.invokevirtual 156, 3) := by decide +kernel
theorem d_L_law_1331 : decode code 1331 = .ok (.if_icmp .eq 197, 3) := by decide +kernel
theorem d_L_law_1334 : decode code 1334 = .ok (.iconst 0, 1) := by decide +kernel
theorem d_L_law_1335 : decode code 1335 = .ok (.ireturn, 1) := by decide +kernel
theorem d_L_law_1336 : decode code 1336 = .ok (.aload_n 1, 1) := by decide +kernel
theorem d_L_law_1337 : decode code 1337 = .ok (.aload_n 0, 1) := by decide +kernel
theorem d_L_law_1338 : decode code 1338 = .ok (.iload_n 3, 1) := by decide +kernel
theorem d_L_law_1339 : decode code 1339 = .ok (.iconst 1, 1) := by decide +kernel
theorem d_L_law_1340 : decode code 1340 = .ok (.iadd, 1) := by decide +kernel
theorem d_L_law_1341 : decode code 1341 = .ok (.iaload, 1) := by decide +kernel
theorem d_L_law_1342 : decode code 1342 = .ok (.aload_n 0, 1) := by decide +kernel
theorem d_L_law_1343 : decode code 1343 = .ok (.iload_n 3, 1) := by decide +kernel
theorem d_L_law_1344 : decode code 1344 = .ok (.iconst 2, 1) := by decide +kernel
theorem d_L_law_1345 : decode code 1345 = .ok (.iadd, 1) := by decide +kernel
theorem d_L_law_1346 : decode code 1346 = .ok (.iaload, 1) := by decide +kernel
theorem d_L_law_1347 : decode code 1347 = .ok (.aload_n 0, 1) := by decide +kernel
theorem d_L_law_1348 : decode code 1348 = .ok (.iload_n 3, 1) := by decide +kernel
theorem d_L_law_1349 : decode code 1349 = .ok (.iconst 3, 1) := by decide +kernel
theorem d_L_law_1350 : decode code 1350 = .ok (.iadd, 1) := by decide +kernel
theorem d_L_law_1351 : decode code 1351 = .ok (.iaload, 1) := by decide +kernel
theorem d_L_law_1352 : decode code 1352 = .ok (.invokevirtual 157, 3) := by decide +kernel
theorem d_L_law_1355 : decode code 1355 = .ok (.aload_n 2, 1) := by decide +kernel
theorem d_L_law_1356 : decode code 1356 = .ok (.aload_n 0, 1) := by decide +kernel
theorem d_L_law_1357 : decode code 1357 = .ok (.iload_n 3, 1) := by decide +kernel
theorem d_L_law_1358 : decode code 1358 = .ok (.iconst 1, 1) := by decide +kernel
theorem d_L_law_1359 : decode code 1359 = .ok (.iadd, 1) := by decide +kernel
theorem d_L_law_1360 : decode code 1360 = .ok (.iaload, 1) := by decide +kernel
theorem d_L_law_1361 : decode code 1361 = .ok (.aload_n 0, 1) := by decide +kernel
theorem d_L_law_1362 : decode code 1362 = .ok (.iload_n 3, 1) := by decide +kernel
theorem d_L_law_1363 : decode code 1363 = .ok (.iconst 2, 1) := by decide +kernel
theorem d_L_law_1364 : decode code 1364 = .ok (.iadd, 1) := by decide +kernel
theorem d_L_law_1365 : decode code 1365 = .ok (.iaload, 1) := by decide +kernel
theorem d_L_law_1366 : decode code 1366 = .ok (.aload_n 0, 1) := by decide +kernel
theorem d_L_law_1367 : decode code 1367 = .ok (.iload_n 3, 1) := by decide +kernel
theorem d_L_law_1368 : decode code 1368 = .ok (.iconst 3, 1) := by decide +kernel
theorem d_L_law_1369 : decode code 1369 = .ok (.iadd, 1) := by decide +kernel
theorem d_L_law_1370 : decode code 1370 = .ok (.iaload, 1) := by decide +kernel
theorem d_L_law_1371 : decode code 1371 = .ok (.invokevirtual 160, 3) := by decide +kernel
theorem d_L_law_1374 : decode code 1374 = .ok (.if_icmp .eq 154, 3) := by decide +kernel
theorem d_L_law_1377 : decode code 1377 = .ok (.iconst 0, 1) := by decide +kernel
theorem d_L_law_1378 : decode code 1378 = .ok (.ireturn, 1) := by decide +kernel
theorem d_L_law_1379 : decode code 1379 = .ok (.aload_n 1, 1) := by decide +kernel
theorem d_L_law_1380 : decode code 1380 = .ok (.aload_n 0, 1) := by decide +kernel
theorem d_L_law_1381 : decode code 1381 = .ok (.iload_n 3, 1) := by decide +kernel
theorem d_L_law_1382 : decode code 1382 = .ok (.iconst 1, 1) := by decide +kernel
theorem d_L_law_1383 : decode code 1383 = .ok (.iadd, 1) := by decide +kernel
theorem d_L_law_1384 : decode code 1384 = .ok (.iaload, 1) := by decide +kernel
theorem d_L_law_1385 : decode code 1385 = .ok (.aload_n 0, 1) := by decide +kernel
theorem d_L_law_1386 : decode code 1386 = .ok (.iload_n 3, 1) := by decide +kernel
theorem d_L_law_1387 : decode code 1387 = .ok (.iconst 2, 1) := by decide +kernel
theorem d_L_law_1388 : decode code 1388 = .ok (.iadd, 1) := by decide +kernel
theorem d_L_law_1389 : decode code 1389 = .ok (.iaload, 1) := by decide +kernel
