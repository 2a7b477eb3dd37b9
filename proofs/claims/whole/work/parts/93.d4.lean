/-! THE LAW: its instructions -/
theorem dl_1144 : decode code 1144 = .ok (.iload_n 3, 1) := by decide +kernel
theorem dl_1145 : decode code 1145 = .ok (.iconst 1, 1) := by decide +kernel
theorem dl_1146 : decode code 1146 = .ok (.iadd, 1) := by decide +kernel
theorem dl_1147 : decode code 1147 = .ok (.iaload, 1) := by decide +kernel
theorem dl_1148 : decode code 1148 = .ok (.aload_n 0, 1) := by decide +kernel
theorem dl_1149 : decode code 1149 = .ok (.iload_n 3, 1) := by decide +kernel
theorem dl_1150 : decode code 1150 = .ok (.iconst 2, 1) := by decide +kernel
theorem dl_1151 : decode code 1151 = .ok (.iadd, 1) := by decide +kernel
theorem dl_1152 : decode code 1152 = .ok (.iaload, 1) := by decide +kernel
theorem dl_1153 : decode code 1153 = .ok (.invokevirtual 134, 3) := by decide +kernel
theorem dl_1156 : decode code 1156 = .ok (.if_icmp .eq 213, 3) := by decide +kernel
theorem dl_1159 : decode code 1159 = .ok (.iconst 0, 1) := by decide +kernel
theorem dl_1160 : decode code 1160 = .ok (.ireturn, 1) := by decide +kernel
theorem dl_1161 : decode code 1161 = .ok (.aload_n 1, 1) := by decide +kernel
theorem dl_1162 : decode code 1162 = .ok (.aload_n 0, 1) := by decide +kernel
theorem dl_1163 : decode code 1163 = .ok (.iload_n 3, 1) := by decide +kernel
theorem dl_1164 : decode code 1164 = .ok (.iconst 1, 1) := by decide +kernel
theorem dl_1165 : decode code 1165 = .ok (.iadd, 1) := by decide +kernel
theorem dl_1166 : decode code 1166 = .ok (.iaload, 1) := by decide +kernel
theorem dl_1167 : decode code 1167 = .ok (.invokevirtual 135, 3) := by decide +kernel
theorem dl_1170 : decode code 1170 = .ok (.aload_n 2, 1) := by decide +kernel
theorem dl_1171 : decode code 1171 = .ok (.aload_n 0, 1) := by decide +kernel
theorem dl_1172 : decode code 1172 = .ok (.iload_n 3, 1) := by decide +kernel
theorem dl_1173 : decode code 1173 = .ok (.iconst 1, 1) := by decide +kernel
theorem dl_1174 : decode code 1174 = .ok (.iadd, 1) := by decide +kernel
theorem dl_1175 : decode code 1175 = .ok (.iaload, 1) := by decide +kernel
theorem dl_1176 : decode code 1176 = .ok (.invokevirtual 138, 3) := by decide +kernel
theorem dl_1179 : decode code 1179 = .ok (.if_icmp .eq 190, 3) := by decide +kernel
theorem dl_1182 : decode code 1182 = .ok (.iconst 0, 1) := by decide +kernel
theorem dl_1183 : decode code 1183 = .ok (.ireturn, 1) := by decide +kernel
theorem dl_1184 : decode code 1184 = .ok (.aload_n 1, 1) := by decide +kernel
theorem dl_1185 : decode code 1185 = .ok (.aload_n 0, 1) := by decide +kernel
theorem dl_1186 : decode code 1186 = .ok (.iload_n 3, 1) := by decide +kernel
theorem dl_1187 : decode code 1187 = .ok (.iconst 1, 1) := by decide +kernel
theorem dl_1188 : decode code 1188 = .ok (.iadd, 1) := by decide +kernel
theorem dl_1189 : decode code 1189 = .ok (.iaload, 1) := by decide +kernel
theorem dl_1190 : decode code 1190 = .ok (.aload_n 0, 1) := by decide +kernel
theorem dl_1191 : decode code 1191 = .ok (.iload_n 3, 1) := by decide +kernel
theorem dl_1192 : decode code 1192 = .ok (.iconst 2, 1) := by decide +kernel
theorem dl_1193 : decode code 1193 = .ok (.iadd, 1) := by decide +kernel
theorem dl_1194 : decode code 1194 = .ok (.iaload, 1) := by decide +kernel
theorem dl_1195 : decode code 1195 = .ok (.invokevirtual 139, 3) := by decide +kernel
theorem dl_1198 : decode code 1198 = .ok (.aload_n 2, 1) := by decide +kernel
theorem dl_1199 : decode code 1199 = .ok (.aload_n 0, 1) := by decide +kernel
theorem dl_1200 : decode code 1200 = .ok (.iload_n 3, 1) := by decide +kernel
theorem dl_1201 : decode code 1201 = .ok (.iconst 1, 1) := by decide +kernel
theorem dl_1202 : decode code 1202 = .ok (.iadd, 1) := by decide +kernel
theorem dl_1203 : decode code 1203 = .ok (.iaload, 1) := by decide +kernel
theorem dl_1204 : decode code 1204 = .ok (.aload_n 0, 1) := by decide +kernel
theorem dl_1205 : decode code 1205 = .ok (.iload_n 3, 1) := by decide +kernel
theorem dl_1206 : decode code 1206 = .ok (.iconst 2, 1) := by decide +kernel
theorem dl_1207 : decode code 1207 = .ok (.iadd, 1) := by decide +kernel
theorem dl_1208 : decode code 1208 = .ok (.iaload, 1) := by decide +kernel
theorem dl_1209 : decode code 1209 = .ok (.invokevirtual 142, 3) := by decide +kernel
theorem dl_1212 : decode code 1212 = .ok (.lcmp, 1) := by decide +kernel
theorem dl_1213 : decode code 1213 = .ok (.ifCond .eq 156, 3) := by decide +kernel
theorem dl_1216 : decode code 1216 = .ok (.iconst 0, 1) := by decide +kernel
theorem dl_1217 : decode code 1217 = .ok (.ireturn, 1) := by decide +kernel
theorem dl_1218 : decode code 1218 = .ok (.aload_n 1, 1) := by decide +kernel
theorem dl_1219 : decode code 1219 = .ok (.aload_n 0, 1) := by decide +kernel
theorem dl_1220 : decode code 1220 = .ok (.iload_n 3, 1) := by decide +kernel
theorem dl_1221 : decode code 1221 = .ok (.iconst 1, 1) := by decide +kernel
theorem dl_1222 : decode code 1222 = .ok (.iadd, 1) := by decide +kernel
theorem dl_1223 : decode code 1223 = .ok (.iaload, 1) := by decide +kernel
theorem dl_1224 : decode code 1224 = .ok (.invokevirtual 143, 3) := by decide +kernel
theorem dl_1227 : decode code 1227 = .ok (.aload_n 2, 1) := by decide +kernel
theorem dl_1228 : decode code 1228 = .ok (.aload_n 0, 1) := by decide +kernel
theorem dl_1229 : decode code 1229 = .ok (.iload_n 3, 1) := by decide +kernel
theorem dl_1230 : decode code 1230 = .ok (.iconst 1, 1) := by decide +kernel
theorem dl_1231 : decode code 1231 = .ok (.iadd, 1) := by decide +kernel
theorem dl_1232 : decode code 1232 = .ok (.iaload, 1) := by decide +kernel
theorem dl_1233 : decode code 1233 = .ok (.invokevirtual 146, 3) := by decide +kernel
theorem dl_1236 : decode code 1236 = .ok (.if_icmp .eq 133, 3) := by decide +kernel
theorem dl_1239 : decode code 1239 = .ok (.iconst 0, 1) := by decide +kernel
theorem dl_1240 : decode code 1240 = .ok (.ireturn, 1) := by decide +kernel
theorem dl_1241 : decode code 1241 = .ok (.aload_n 1, 1) := by decide +kernel
theorem dl_1242 : decode code 1242 = .ok (.aload_n 0, 1) := by decide +kernel
theorem dl_1243 : decode code 1243 = .ok (.iload_n 3, 1) := by decide +kernel
theorem dl_1244 : decode code 1244 = .ok (.iconst 1, 1) := by decide +kernel
theorem dl_1245 : decode code 1245 = .ok (.iadd, 1) := by decide +kernel
theorem dl_1246 : decode code 1246 = .ok (.iaload, 1) := by decide +kernel
theorem dl_1247 : decode code 1247 = .ok (.aload_n 0, 1) := by decide +kernel
theorem dl_1248 : decode code 1248 = .ok (.iload_n 3, 1) := by decide +kernel
theorem dl_1249 : decode code 1249 = .ok (.iconst 2, 1) := by decide +kernel
theorem dl_1250 : decode code 1250 = .ok (.iadd, 1) := by decide +kernel
theorem dl_1251 : decode code 1251 = .ok (.iaload, 1) := by decide +kernel
theorem dl_1252 : decode code 1252 = .ok (.invokevirtual 147, 3) := by decide +kernel
theorem dl_1255 : decode code 1255 = .ok (.aload_n 2, 1) := by decide +kernel
theorem dl_1256 : decode code 1256 = .ok (.aload_n 0, 1) := by decide +kernel
theorem dl_1257 : decode code 1257 = .ok (.iload_n 3, 1) := by decide +kernel
theorem dl_1258 : decode code 1258 = .ok (.iconst 1, 1) := by decide +kernel
theorem dl_1259 : decode code 1259 = .ok (.iadd, 1) := by decide +kernel
theorem dl_1260 : decode code 1260 = .ok (.iaload, 1) := by decide +kernel
theorem dl_1261 : decode code 1261 = .ok (.aload_n 0, 1) := by decide +kernel
theorem dl_1262 : decode code 1262 = .ok (.iload_n 3, 1) := by decide +kernel
theorem dl_1263 : decode code 1263 = .ok (.iconst 2, 1) := by decide +kernel
theorem dl_1264 : decode code 1264 = .ok (.iadd, 1) := by decide +kernel
theorem dl_1265 : decode code 1265 = .ok (.iaload, 1) := by decide +kernel
theorem dl_1266 : decode code 1266 = .ok (.invokevirtual 150, 3) := by decide +kernel
theorem dl_1269 : decode code 1269 = .ok (.if_icmp .eq 100, 3) := by decide +kernel
theorem dl_1272 : decode code 1272 = .ok (.iconst 0, 1) := by decide +kernel
theorem dl_1273 : decode code 1273 = .ok (.ireturn, 1) := by decide +kernel
theorem dl_1274 : decode code 1274 = .ok (.aload_n 1, 1) := by decide +kernel
theorem dl_1275 : decode code 1275 = .ok (.aload_n 0, 1) := by decide +kernel
theorem dl_1276 : decode code 1276 = .ok (.iload_n 3, 1) := by decide +kernel
theorem dl_1277 : decode code 1277 = .ok (.iconst 1, 1) := by decide +kernel
theorem dl_1278 : decode code 1278 = .ok (.iadd, 1) := by decide +kernel
theorem dl_1279 : decode code 1279 = .ok (.iaload, 1) := by decide +kernel
theorem dl_1280 : decode code 1280 = .ok (.invokevirtual 151, 3) := by decide +kernel
theorem dl_1283 : decode code 1283 = .ok (.aload_n 2, 1) := by decide +kernel
theorem dl_1284 : decode code 1284 = .ok (.aload_n 0, 1) := by decide +kernel
theorem dl_1285 : decode code 1285 = .ok (.iload_n 3, 1) := by decide +kernel
theorem dl_1286 : decode code 1286 = .ok (.iconst 1, 1) := by decide +kernel
theorem dl_1287 : decode code 1287 = .ok (.iadd, 1) := by decide +kernel
theorem dl_1288 : decode code 1288 = .ok (.iaload, 1) := by decide +kernel
theorem dl_1289 : decode code 1289 = .ok (.invokevirtual 154, 3) := by decide +kernel
theorem dl_1292 : decode code 1292 = .ok (.if_icmp .eq 77, 3) := by decide +kernel
theorem dl_1295 : decode code 1295 = .ok (.iconst 0, 1) := by decide +kernel
theorem dl_1296 : decode code 1296 = .ok (.ireturn, 1) := by decide +kernel
theorem dl_1297 : decode code 1297 = .ok (.aload_n 1, 1) := by decide +kernel
theorem dl_1298 : decode code 1298 = .ok (.aload_n 0, 1) := by decide +kernel
theorem dl_1299 : decode code 1299 = .ok (.iload_n 3, 1) := by decide +kernel
theorem dl_1300 : decode code 1300 = .ok (.iconst 1, 1) := by decide +kernel
theorem dl_1301 : decode code 1301 = .ok (.iadd, 1) := by decide +kernel
theorem dl_1302 : decode code 1302 = .ok (.iaload, 1) := by decide +kernel
theorem dl_1303 : decode code 1303 = .ok (.invokevirtual 155, 3) := by decide +kernel
theorem dl_1306 : decode code 1306 = .ok (.aload_n 2, 1) := by decide +kernel
theorem dl_1307 : decode code 1307 = .ok (.aload_n 0, 1) := by decide +kernel
theorem dl_1308 : decode code 1308 = .ok (.iload_n 3, 1) := by decide +kernel
theorem dl_1309 : decode code 1309 = .ok (.iconst 1, 1) := by decide +kernel
theorem dl_1310 : decode code 1310 = .ok (.iadd, 1) := by decide +kernel
theorem dl_1311 : decode code 1311 = .ok (.iaload, 1) := by decide +kernel
theorem dl_1312 : decode code 1312 = .ok (.invokevirtual 158, 3) := by decide +kernel
theorem dl_1315 : decode code 1315 = .ok (.if_icmp .eq 54, 3) := by decide +kernel
theorem dl_1318 : decode code 1318 = .ok (.iconst 0, 1) := by decide +kernel
theorem dl_1319 : decode code 1319 = .ok (.ireturn, 1) := by decide +kernel
theorem dl_1320 : decode code 1320 = .ok (.aload_n 1, 1) := by decide +kernel
theorem dl_1321 : decode code 1321 = .ok (.invokevirtual 159, 3) := by decide +kernel
theorem dl_1324 : decode code 1324 = .ok (.aload_n 2, 1) := by decide +kernel
theorem dl_1325 : decode code 1325 = .ok (.invokevirtual 162, 3) := by decide +kernel
theorem dl_1328 : decode code 1328 = .ok (.if_icmp .eq 41, 3) := by decide +kernel
theorem dl_1331 : decode code 1331 = .ok (.iconst 0, 1) := by decide +kernel
theorem dl_1332 : decode code 1332 = .ok (.ireturn, 1) := by decide +kernel
theorem dl_1333 : decode code 1333 = .ok (.aload_n 1, 1) := by decide +kernel
theorem dl_1334 : decode code 1334 = .ok (.invokevirtual 163, 3) := by decide +kernel
theorem dl_1337 : decode code 1337 = .ok (.aload_n 2, 1) := by decide +kernel
theorem dl_1338 : decode code 1338 = .ok (.invokevirtual 166, 3) := by decide +kernel
theorem dl_1341 : decode code 1341 = .ok (.if_icmp .eq 28, 3) := by decide +kernel
theorem dl_1344 : decode code 1344 = .ok (.iconst 0, 1) := by decide +kernel
theorem dl_1345 : decode code 1345 = .ok (.ireturn, 1) := by decide +kernel
theorem dl_1346 : decode code 1346 = .ok (.aload_n 1, 1) := by decide +kernel
theorem dl_1347 : decode code 1347 = .ok (.aload_n 0, 1) := by decide +kernel
theorem dl_1348 : decode code 1348 = .ok (.iload_n 3, 1) := by decide +kernel
theorem dl_1349 : decode code 1349 = .ok (.iconst 1, 1) := by decide +kernel
theorem dl_1350 : decode code 1350 = .ok (.iadd, 1) := by decide +kernel
theorem dl_1351 : decode code 1351 = .ok (.iaload, 1) := by decide +kernel
theorem dl_1352 : decode code 1352 = .ok (.invokevirtual 167, 3) := by decide +kernel
theorem dl_1355 : decode code 1355 = .ok (.aload_n 2, 1) := by decide +kernel
theorem dl_1356 : decode code 1356 = .ok (.aload_n 0, 1) := by decide +kernel
theorem dl_1357 : decode code 1357 = .ok (.iload_n 3, 1) := by decide +kernel
theorem dl_1358 : decode code 1358 = .ok (.iconst 1, 1) := by decide +kernel
theorem dl_1359 : decode code 1359 = .ok (.iadd, 1) := by decide +kernel
theorem dl_1360 : decode code 1360 = .ok (.iaload, 1) := by decide +kernel
theorem dl_1361 : decode code 1361 = .ok (.invokevirtual 170, 3) := by decide +kernel
theorem dl_1364 : decode code 1364 = .ok (.if_icmp .eq 5, 3) := by decide +kernel
theorem dl_1367 : decode code 1367 = .ok (.iconst 0, 1) := by decide +kernel
theorem dl_1368 : decode code 1368 = .ok (.ireturn, 1) := by decide +kernel
theorem dl_1369 : decode code 1369 = .ok (.iinc 3 6, 3) := by decide +kernel
theorem dl_1372 : decode code 1372 = .ok (.goto (-1354), 3) := by decide +kernel
theorem dl_1375 : decode code 1375 = .ok (.iconst 1, 1) := by decide +kernel
theorem dl_1376 : decode code 1376 = .ok (.ireturn, 1) := by decide +kernel
