-- ===== the law: cases 26 to 34 =====
theorem f333_1160 : aF 1160 zM333.2.2.2.2.2.2.2 = some (1160, (.aload_n 1), 1, 0, 0) := by decide +kernel
theorem f333_1161 : aF 1161 zM333.2.2.2.2.2.2.2 = some (1161, (.aload_n 0), 1, 0, 0) := by decide +kernel
theorem f333_1162 : aF 1162 zM333.2.2.2.2.2.2.2 = some (1162, (.iload_n 3), 1, 0, 0) := by decide +kernel
theorem f333_1163 : aF 1163 zM333.2.2.2.2.2.2.2 = some (1163, (.iconst 1), 1, 0, 0) := by decide +kernel
theorem f333_1164 : aF 1164 zM333.2.2.2.2.2.2.2 = some (1164, .iadd, 1, 0, 0) := by decide +kernel
theorem f333_1165 : aF 1165 zM333.2.2.2.2.2.2.2 = some (1165, .iaload, 1, 0, 0) := by decide +kernel
theorem f333_1166 : aF 1166 zM333.2.2.2.2.2.2.2 = some (1166, (.aload_n 0), 1, 0, 0) := by decide +kernel
theorem f333_1167 : aF 1167 zM333.2.2.2.2.2.2.2 = some (1167, (.iload_n 3), 1, 0, 0) := by decide +kernel
theorem f333_1168 : aF 1168 zM333.2.2.2.2.2.2.2 = some (1168, (.iconst 2), 1, 0, 0) := by decide +kernel
theorem f333_1169 : aF 1169 zM333.2.2.2.2.2.2.2 = some (1169, .iadd, 1, 0, 0) := by decide +kernel
theorem f333_1170 : aF 1170 zM333.2.2.2.2.2.2.2 = some (1170, .iaload, 1, 0, 0) := by decide +kernel
theorem f333_1171 : aF 1171 zM333.2.2.2.2.2.2.2 = some (1171, (.aload_n 0), 1, 0, 0) := by decide +kernel
theorem f333_1172 : aF 1172 zM333.2.2.2.2.2.2.2 = some (1172, (.iload_n 3), 1, 0, 0) := by decide +kernel
theorem f333_1173 : aF 1173 zM333.2.2.2.2.2.2.2 = some (1173, (.iconst 3), 1, 0, 0) := by decide +kernel
theorem f333_1174 : aF 1174 zM333.2.2.2.2.2.2.2 = some (1174, .iadd, 1, 0, 0) := by decide +kernel
theorem f333_1175 : aF 1175 zM333.2.2.2.2.2.2.2 = some (1175, .iaload, 1, 0, 0) := by decide +kernel
theorem f333_1176 : aF 1176 zM333.2.2.2.2.2.2.2 = some (1176, (.aload_n 0), 1, 0, 0) := by decide +kernel
theorem f333_1177 : aF 1177 zM333.2.2.2.2.2.2.2 = some (1177, (.iload_n 3), 1, 0, 0) := by decide +kernel
theorem f333_1178 : aF 1178 zM333.2.2.2.2.2.2.2 = some (1178, (.iconst 4), 1, 0, 0) := by decide +kernel
theorem f333_1179 : aF 1179 zM333.2.2.2.2.2.2.2 = some (1179, .iadd, 1, 0, 0) := by decide +kernel
theorem f333_1180 : aF 1180 zM333.2.2.2.2.2.2.2 = some (1180, .iaload, 1, 0, 0) := by decide +kernel
theorem f333_1181 : aF 1181 zM333.2.2.2.2.2.2.2 = some (1181, (.invokevirtual 123), 3, 170, 0) := by decide +kernel
theorem f333_1184 : aF 1184 zM333.2.2.2.2.2.2.2 = some (1184, .pop, 1, 0, 0) := by decide +kernel
theorem f333_1185 : aF 1185 zM333.2.2.2.2.2.2.2 = some (1185, (.aload_n 2), 1, 0, 0) := by decide +kernel
theorem f333_1186 : aF 1186 zM333.2.2.2.2.2.2.2 = some (1186, (.aload_n 0), 1, 0, 0) := by decide +kernel
theorem f333_1187 : aF 1187 zM333.2.2.2.2.2.2.2 = some (1187, (.iload_n 3), 1, 0, 0) := by decide +kernel
theorem f333_1188 : aF 1188 zM333.2.2.2.2.2.2.2 = some (1188, (.iconst 1), 1, 0, 0) := by decide +kernel
theorem f333_1189 : aF 1189 zM333.2.2.2.2.2.2.2 = some (1189, .iadd, 1, 0, 0) := by decide +kernel
theorem f333_1190 : aF 1190 zM333.2.2.2.2.2.2.2 = some (1190, .iaload, 1, 0, 0) := by decide +kernel
theorem f333_1191 : aF 1191 zM333.2.2.2.2.2.2.2 = some (1191, (.aload_n 0), 1, 0, 0) := by decide +kernel
theorem f333_1192 : aF 1192 zM333.2.2.2.2.2.2.2 = some (1192, (.iload_n 3), 1, 0, 0) := by decide +kernel
theorem f333_1193 : aF 1193 zM333.2.2.2.2.2.2.2 = some (1193, (.iconst 2), 1, 0, 0) := by decide +kernel
theorem f333_1194 : aF 1194 zM333.2.2.2.2.2.2.2 = some (1194, .iadd, 1, 0, 0) := by decide +kernel
theorem f333_1195 : aF 1195 zM333.2.2.2.2.2.2.2 = some (1195, .iaload, 1, 0, 0) := by decide +kernel
theorem f333_1196 : aF 1196 zM333.2.2.2.2.2.2.2 = some (1196, (.aload_n 0), 1, 0, 0) := by decide +kernel
theorem f333_1197 : aF 1197 zM333.2.2.2.2.2.2.2 = some (1197, (.iload_n 3), 1, 0, 0) := by decide +kernel
theorem f333_1198 : aF 1198 zM333.2.2.2.2.2.2.2 = some (1198, (.iconst 3), 1, 0, 0) := by decide +kernel
theorem f333_1199 : aF 1199 zM333.2.2.2.2.2.2.2 = some (1199, .iadd, 1, 0, 0) := by decide +kernel
theorem f333_1200 : aF 1200 zM333.2.2.2.2.2.2.2 = some (1200, .iaload, 1, 0, 0) := by decide +kernel
theorem f333_1201 : aF 1201 zM333.2.2.2.2.2.2.2 = some (1201, (.aload_n 0), 1, 0, 0) := by decide +kernel
theorem f333_1202 : aF 1202 zM333.2.2.2.2.2.2.2 = some (1202, (.iload_n 3), 1, 0, 0) := by decide +kernel
theorem f333_1203 : aF 1203 zM333.2.2.2.2.2.2.2 = some (1203, (.iconst 4), 1, 0, 0) := by decide +kernel
theorem f333_1204 : aF 1204 zM333.2.2.2.2.2.2.2 = some (1204, .iadd, 1, 0, 0) := by decide +kernel
theorem f333_1205 : aF 1205 zM333.2.2.2.2.2.2.2 = some (1205, .iaload, 1, 0, 0) := by decide +kernel
theorem f333_1206 : aF 1206 zM333.2.2.2.2.2.2.2 = some (1206, (.invokevirtual 126), 3, 274, 0) := by decide +kernel
theorem f333_1209 : aF 1209 zM333.2.2.2.2.2.2.2 = some (1209, .pop, 1, 0, 0) := by decide +kernel
theorem f333_1210 : aF 1210 zM333.2.2.2.2.2.2.2 = some (1210, (.goto 865), 3, 2075, 0) := by decide +kernel
theorem f333_1213 : aF 1213 zM333.2.2.2.2.2.2.2 = some (1213, (.aload_n 1), 1, 0, 0) := by decide +kernel
theorem f333_1214 : aF 1214 zM333.2.2.2.2.2.2.2 = some (1214, (.aload_n 0), 1, 0, 0) := by decide +kernel
theorem f333_1215 : aF 1215 zM333.2.2.2.2.2.2.2 = some (1215, (.iload_n 3), 1, 0, 0) := by decide +kernel
theorem f333_1216 : aF 1216 zM333.2.2.2.2.2.2.2 = some (1216, (.iconst 1), 1, 0, 0) := by decide +kernel
theorem f333_1217 : aF 1217 zM333.2.2.2.2.2.2.2 = some (1217, .iadd, 1, 0, 0) := by decide +kernel
theorem f333_1218 : aF 1218 zM333.2.2.2.2.2.2.2 = some (1218, .iaload, 1, 0, 0) := by decide +kernel
theorem f333_1219 : aF 1219 zM333.2.2.2.2.2.2.2 = some (1219, (.aload_n 0), 1, 0, 0) := by decide +kernel
theorem f333_1220 : aF 1220 zM333.2.2.2.2.2.2.2 = some (1220, (.iload_n 3), 1, 0, 0) := by decide +kernel
theorem f333_1221 : aF 1221 zM333.2.2.2.2.2.2.2 = some (1221, (.iconst 2), 1, 0, 0) := by decide +kernel
theorem f333_1222 : aF 1222 zM333.2.2.2.2.2.2.2 = some (1222, .iadd, 1, 0, 0) := by decide +kernel
theorem f333_1223 : aF 1223 zM333.2.2.2.2.2.2.2 = some (1223, .iaload, 1, 0, 0) := by decide +kernel
theorem f333_1224 : aF 1224 zM333.2.2.2.2.2.2.2 = some (1224, (.aload_n 0), 1, 0, 0) := by decide +kernel
theorem f333_1225 : aF 1225 zM333.2.2.2.2.2.2.2 = some (1225, (.iload_n 3), 1, 0, 0) := by decide +kernel
theorem f333_1226 : aF 1226 zM333.2.2.2.2.2.2.2 = some (1226, (.iconst 3), 1, 0, 0) := by decide +kernel
theorem f333_1227 : aF 1227 zM333.2.2.2.2.2.2.2 = some (1227, .iadd, 1, 0, 0) := by decide +kernel
theorem f333_1228 : aF 1228 zM333.2.2.2.2.2.2.2 = some (1228, .iaload, 1, 0, 0) := by decide +kernel
theorem f333_1229 : aF 1229 zM333.2.2.2.2.2.2.2 = some (1229, (.aload_n 0), 1, 0, 0) := by decide +kernel
theorem f333_1230 : aF 1230 zM333.2.2.2.2.2.2.2 = some (1230, (.iload_n 3), 1, 0, 0) := by decide +kernel
theorem f333_1231 : aF 1231 zM333.2.2.2.2.2.2.2 = some (1231, (.iconst 4), 1, 0, 0) := by decide +kernel
theorem f333_1232 : aF 1232 zM333.2.2.2.2.2.2.2 = some (1232, .iadd, 1, 0, 0) := by decide +kernel
theorem f333_1233 : aF 1233 zM333.2.2.2.2.2.2.2 = some (1233, .iaload, 1, 0, 0) := by decide +kernel
theorem f333_1234 : aF 1234 zM333.2.2.2.2.2.2.2 = some (1234, (.invokevirtual 127), 3, 171, 0) := by decide +kernel
theorem f333_1237 : aF 1237 zM333.2.2.2.2.2.2.2 = some (1237, .pop, 1, 0, 0) := by decide +kernel
theorem f333_1238 : aF 1238 zM333.2.2.2.2.2.2.2 = some (1238, (.aload_n 2), 1, 0, 0) := by decide +kernel
theorem f333_1239 : aF 1239 zM333.2.2.2.2.2.2.2 = some (1239, (.aload_n 0), 1, 0, 0) := by decide +kernel
theorem f333_1240 : aF 1240 zM333.2.2.2.2.2.2.2 = some (1240, (.iload_n 3), 1, 0, 0) := by decide +kernel
theorem f333_1241 : aF 1241 zM333.2.2.2.2.2.2.2 = some (1241, (.iconst 1), 1, 0, 0) := by decide +kernel
theorem f333_1242 : aF 1242 zM333.2.2.2.2.2.2.2 = some (1242, .iadd, 1, 0, 0) := by decide +kernel
theorem f333_1243 : aF 1243 zM333.2.2.2.2.2.2.2 = some (1243, .iaload, 1, 0, 0) := by decide +kernel
theorem f333_1244 : aF 1244 zM333.2.2.2.2.2.2.2 = some (1244, (.aload_n 0), 1, 0, 0) := by decide +kernel
theorem f333_1245 : aF 1245 zM333.2.2.2.2.2.2.2 = some (1245, (.iload_n 3), 1, 0, 0) := by decide +kernel
theorem f333_1246 : aF 1246 zM333.2.2.2.2.2.2.2 = some (1246, (.iconst 2), 1, 0, 0) := by decide +kernel
theorem f333_1247 : aF 1247 zM333.2.2.2.2.2.2.2 = some (1247, .iadd, 1, 0, 0) := by decide +kernel
theorem f333_1248 : aF 1248 zM333.2.2.2.2.2.2.2 = some (1248, .iaload, 1, 0, 0) := by decide +kernel
theorem f333_1249 : aF 1249 zM333.2.2.2.2.2.2.2 = some (1249, (.aload_n 0), 1, 0, 0) := by decide +kernel
theorem f333_1250 : aF 1250 zM333.2.2.2.2.2.2.2 = some (1250, (.iload_n 3), 1, 0, 0) := by decide +kernel
theorem f333_1251 : aF 1251 zM333.2.2.2.2.2.2.2 = some (1251, (.iconst 3), 1, 0, 0) := by decide +kernel
theorem f333_1252 : aF 1252 zM333.2.2.2.2.2.2.2 = some (1252, .iadd, 1, 0, 0) := by decide +kernel
theorem f333_1253 : aF 1253 zM333.2.2.2.2.2.2.2 = some (1253, .iaload, 1, 0, 0) := by decide +kernel
theorem f333_1254 : aF 1254 zM333.2.2.2.2.2.2.2 = some (1254, (.aload_n 0), 1, 0, 0) := by decide +kernel
theorem f333_1255 : aF 1255 zM333.2.2.2.2.2.2.2 = some (1255, (.iload_n 3), 1, 0, 0) := by decide +kernel
theorem f333_1256 : aF 1256 zM333.2.2.2.2.2.2.2 = some (1256, (.iconst 4), 1, 0, 0) := by decide +kernel
theorem f333_1257 : aF 1257 zM333.2.2.2.2.2.2.2 = some (1257, .iadd, 1, 0, 0) := by decide +kernel
theorem f333_1258 : aF 1258 zM333.2.2.2.2.2.2.2 = some (1258, .iaload, 1, 0, 0) := by decide +kernel
theorem f333_1259 : aF 1259 zM333.2.2.2.2.2.2.2 = some (1259, (.invokevirtual 130), 3, 278, 0) := by decide +kernel
theorem f333_1262 : aF 1262 zM333.2.2.2.2.2.2.2 = some (1262, .pop, 1, 0, 0) := by decide +kernel
theorem f333_1263 : aF 1263 zM333.2.2.2.2.2.2.2 = some (1263, (.goto 812), 3, 2075, 0) := by decide +kernel
theorem f333_1266 : aF 1266 zM333.2.2.2.2.2.2.2 = some (1266, (.aload_n 1), 1, 0, 0) := by decide +kernel
theorem f333_1267 : aF 1267 zM333.2.2.2.2.2.2.2 = some (1267, (.aload_n 0), 1, 0, 0) := by decide +kernel
theorem f333_1268 : aF 1268 zM333.2.2.2.2.2.2.2 = some (1268, (.iload_n 3), 1, 0, 0) := by decide +kernel
theorem f333_1269 : aF 1269 zM333.2.2.2.2.2.2.2 = some (1269, (.iconst 1), 1, 0, 0) := by decide +kernel
theorem f333_1270 : aF 1270 zM333.2.2.2.2.2.2.2 = some (1270, .iadd, 1, 0, 0) := by decide +kernel
theorem f333_1271 : aF 1271 zM333.2.2.2.2.2.2.2 = some (1271, .iaload, 1, 0, 0) := by decide +kernel
theorem f333_1272 : aF 1272 zM333.2.2.2.2.2.2.2 = some (1272, (.aload_n 0), 1, 0, 0) := by decide +kernel
theorem f333_1273 : aF 1273 zM333.2.2.2.2.2.2.2 = some (1273, (.iload_n 3), 1, 0, 0) := by decide +kernel
theorem f333_1274 : aF 1274 zM333.2.2.2.2.2.2.2 = some (1274, (.iconst 2), 1, 0, 0) := by decide +kernel
theorem f333_1275 : aF 1275 zM333.2.2.2.2.2.2.2 = some (1275, .iadd, 1, 0, 0) := by decide +kernel
theorem f333_1276 : aF 1276 zM333.2.2.2.2.2.2.2 = some (1276, .iaload, 1, 0, 0) := by decide +kernel
theorem f333_1277 : aF 1277 zM333.2.2.2.2.2.2.2 = some (1277, (.invokevirtual 131), 3, 172, 0) := by decide +kernel
theorem f333_1280 : aF 1280 zM333.2.2.2.2.2.2.2 = some (1280, .pop, 1, 0, 0) := by decide +kernel
theorem f333_1281 : aF 1281 zM333.2.2.2.2.2.2.2 = some (1281, (.aload_n 2), 1, 0, 0) := by decide +kernel
theorem f333_1282 : aF 1282 zM333.2.2.2.2.2.2.2 = some (1282, (.aload_n 0), 1, 0, 0) := by decide +kernel
theorem f333_1283 : aF 1283 zM333.2.2.2.2.2.2.2 = some (1283, (.iload_n 3), 1, 0, 0) := by decide +kernel
theorem f333_1284 : aF 1284 zM333.2.2.2.2.2.2.2 = some (1284, (.iconst 1), 1, 0, 0) := by decide +kernel
theorem f333_1285 : aF 1285 zM333.2.2.2.2.2.2.2 = some (1285, .iadd, 1, 0, 0) := by decide +kernel
theorem f333_1286 : aF 1286 zM333.2.2.2.2.2.2.2 = some (1286, .iaload, 1, 0, 0) := by decide +kernel
theorem f333_1287 : aF 1287 zM333.2.2.2.2.2.2.2 = some (1287, (.aload_n 0), 1, 0, 0) := by decide +kernel
theorem f333_1288 : aF 1288 zM333.2.2.2.2.2.2.2 = some (1288, (.iload_n 3), 1, 0, 0) := by decide +kernel
theorem f333_1289 : aF 1289 zM333.2.2.2.2.2.2.2 = some (1289, (.iconst 2), 1, 0, 0) := by decide +kernel
theorem f333_1290 : aF 1290 zM333.2.2.2.2.2.2.2 = some (1290, .iadd, 1, 0, 0) := by decide +kernel
theorem f333_1291 : aF 1291 zM333.2.2.2.2.2.2.2 = some (1291, .iaload, 1, 0, 0) := by decide +kernel
theorem f333_1292 : aF 1292 zM333.2.2.2.2.2.2.2 = some (1292, (.invokevirtual 134), 3, 279, 0) := by decide +kernel
theorem f333_1295 : aF 1295 zM333.2.2.2.2.2.2.2 = some (1295, .pop, 1, 0, 0) := by decide +kernel
theorem f333_1296 : aF 1296 zM333.2.2.2.2.2.2.2 = some (1296, (.goto 779), 3, 2075, 0) := by decide +kernel
theorem f333_1299 : aF 1299 zM333.2.2.2.2.2.2.2 = some (1299, (.aload_n 1), 1, 0, 0) := by decide +kernel
theorem f333_1300 : aF 1300 zM333.2.2.2.2.2.2.2 = some (1300, (.aload_n 0), 1, 0, 0) := by decide +kernel
theorem f333_1301 : aF 1301 zM333.2.2.2.2.2.2.2 = some (1301, (.iload_n 3), 1, 0, 0) := by decide +kernel
theorem f333_1302 : aF 1302 zM333.2.2.2.2.2.2.2 = some (1302, (.iconst 1), 1, 0, 0) := by decide +kernel
theorem f333_1303 : aF 1303 zM333.2.2.2.2.2.2.2 = some (1303, .iadd, 1, 0, 0) := by decide +kernel
theorem f333_1304 : aF 1304 zM333.2.2.2.2.2.2.2 = some (1304, .iaload, 1, 0, 0) := by decide +kernel
theorem f333_1305 : aF 1305 zM333.2.2.2.2.2.2.2 = some (1305, (.invokevirtual 135), 3, 173, 0) := by decide +kernel
theorem f333_1308 : aF 1308 zM333.2.2.2.2.2.2.2 = some (1308, .pop, 1, 0, 0) := by decide +kernel
theorem f333_1309 : aF 1309 zM333.2.2.2.2.2.2.2 = some (1309, (.aload_n 2), 1, 0, 0) := by decide +kernel
theorem f333_1310 : aF 1310 zM333.2.2.2.2.2.2.2 = some (1310, (.aload_n 0), 1, 0, 0) := by decide +kernel
theorem f333_1311 : aF 1311 zM333.2.2.2.2.2.2.2 = some (1311, (.iload_n 3), 1, 0, 0) := by decide +kernel
theorem f333_1312 : aF 1312 zM333.2.2.2.2.2.2.2 = some (1312, (.iconst 1), 1, 0, 0) := by decide +kernel
theorem f333_1313 : aF 1313 zM333.2.2.2.2.2.2.2 = some (1313, .iadd, 1, 0, 0) := by decide +kernel
theorem f333_1314 : aF 1314 zM333.2.2.2.2.2.2.2 = some (1314, .iaload, 1, 0, 0) := by decide +kernel
theorem f333_1315 : aF 1315 zM333.2.2.2.2.2.2.2 = some (1315, (.invokevirtual 138), 3, 280, 0) := by decide +kernel
theorem f333_1318 : aF 1318 zM333.2.2.2.2.2.2.2 = some (1318, .pop, 1, 0, 0) := by decide +kernel
theorem f333_1319 : aF 1319 zM333.2.2.2.2.2.2.2 = some (1319, (.goto 756), 3, 2075, 0) := by decide +kernel
theorem f333_1322 : aF 1322 zM333.2.2.2.2.2.2.2 = some (1322, (.aload_n 1), 1, 0, 0) := by decide +kernel
theorem f333_1323 : aF 1323 zM333.2.2.2.2.2.2.2 = some (1323, (.aload_n 0), 1, 0, 0) := by decide +kernel
theorem f333_1324 : aF 1324 zM333.2.2.2.2.2.2.2 = some (1324, (.iload_n 3), 1, 0, 0) := by decide +kernel
theorem f333_1325 : aF 1325 zM333.2.2.2.2.2.2.2 = some (1325, (.iconst 1), 1, 0, 0) := by decide +kernel
theorem f333_1326 : aF 1326 zM333.2.2.2.2.2.2.2 = some (1326, .iadd, 1, 0, 0) := by decide +kernel
theorem f333_1327 : aF 1327 zM333.2.2.2.2.2.2.2 = some (1327, .iaload, 1, 0, 0) := by decide +kernel
theorem f333_1328 : aF 1328 zM333.2.2.2.2.2.2.2 = some (1328, (.aload_n 0), 1, 0, 0) := by decide +kernel
theorem f333_1329 : aF 1329 zM333.2.2.2.2.2.2.2 = some (1329, (.iload_n 3), 1, 0, 0) := by decide +kernel
theorem f333_1330 : aF 1330 zM333.2.2.2.2.2.2.2 = some (1330, (.iconst 2), 1, 0, 0) := by decide +kernel
theorem f333_1331 : aF 1331 zM333.2.2.2.2.2.2.2 = some (1331, .iadd, 1, 0, 0) := by decide +kernel
theorem f333_1332 : aF 1332 zM333.2.2.2.2.2.2.2 = some (1332, .iaload, 1, 0, 0) := by decide +kernel
theorem f333_1333 : aF 1333 zM333.2.2.2.2.2.2.2 = some (1333, (.aload_n 0), 1, 0, 0) := by decide +kernel
theorem f333_1334 : aF 1334 zM333.2.2.2.2.2.2.2 = some (1334, (.iload_n 3), 1, 0, 0) := by decide +kernel
theorem f333_1335 : aF 1335 zM333.2.2.2.2.2.2.2 = some (1335, (.iconst 3), 1, 0, 0) := by decide +kernel
theorem f333_1336 : aF 1336 zM333.2.2.2.2.2.2.2 = some (1336, .iadd, 1, 0, 0) := by decide +kernel
theorem f333_1337 : aF 1337 zM333.2.2.2.2.2.2.2 = some (1337, .iaload, 1, 0, 0) := by decide +kernel
theorem f333_1338 : aF 1338 zM333.2.2.2.2.2.2.2 = some (1338, (.invokevirtual 139), 3, 174, 0) := by decide +kernel
theorem f333_1341 : aF 1341 zM333.2.2.2.2.2.2.2 = some (1341, .pop, 1, 0, 0) := by decide +kernel
theorem f333_1342 : aF 1342 zM333.2.2.2.2.2.2.2 = some (1342, (.aload_n 2), 1, 0, 0) := by decide +kernel
theorem f333_1343 : aF 1343 zM333.2.2.2.2.2.2.2 = some (1343, (.aload_n 0), 1, 0, 0) := by decide +kernel
theorem f333_1344 : aF 1344 zM333.2.2.2.2.2.2.2 = some (1344, (.iload_n 3), 1, 0, 0) := by decide +kernel
theorem f333_1345 : aF 1345 zM333.2.2.2.2.2.2.2 = some (1345, (.iconst 1), 1, 0, 0) := by decide +kernel
theorem f333_1346 : aF 1346 zM333.2.2.2.2.2.2.2 = some (1346, .iadd, 1, 0, 0) := by decide +kernel
theorem f333_1347 : aF 1347 zM333.2.2.2.2.2.2.2 = some (1347, .iaload, 1, 0, 0) := by decide +kernel
theorem f333_1348 : aF 1348 zM333.2.2.2.2.2.2.2 = some (1348, (.aload_n 0), 1, 0, 0) := by decide +kernel
theorem f333_1349 : aF 1349 zM333.2.2.2.2.2.2.2 = some (1349, (.iload_n 3), 1, 0, 0) := by decide +kernel
theorem f333_1350 : aF 1350 zM333.2.2.2.2.2.2.2 = some (1350, (.iconst 2), 1, 0, 0) := by decide +kernel
theorem f333_1351 : aF 1351 zM333.2.2.2.2.2.2.2 = some (1351, .iadd, 1, 0, 0) := by decide +kernel
theorem f333_1352 : aF 1352 zM333.2.2.2.2.2.2.2 = some (1352, .iaload, 1, 0, 0) := by decide +kernel
theorem f333_1353 : aF 1353 zM333.2.2.2.2.2.2.2 = some (1353, (.aload_n 0), 1, 0, 0) := by decide +kernel
theorem f333_1354 : aF 1354 zM333.2.2.2.2.2.2.2 = some (1354, (.iload_n 3), 1, 0, 0) := by decide +kernel
theorem f333_1355 : aF 1355 zM333.2.2.2.2.2.2.2 = some (1355, (.iconst 3), 1, 0, 0) := by decide +kernel
theorem f333_1356 : aF 1356 zM333.2.2.2.2.2.2.2 = some (1356, .iadd, 1, 0, 0) := by decide +kernel
theorem f333_1357 : aF 1357 zM333.2.2.2.2.2.2.2 = some (1357, .iaload, 1, 0, 0) := by decide +kernel
theorem f333_1358 : aF 1358 zM333.2.2.2.2.2.2.2 = some (1358, (.invokevirtual 142), 3, 281, 0) := by decide +kernel
theorem f333_1361 : aF 1361 zM333.2.2.2.2.2.2.2 = some (1361, .pop, 1, 0, 0) := by decide +kernel
theorem f333_1362 : aF 1362 zM333.2.2.2.2.2.2.2 = some (1362, (.goto 713), 3, 2075, 0) := by decide +kernel
theorem f333_1365 : aF 1365 zM333.2.2.2.2.2.2.2 = some (1365, (.aload_n 1), 1, 0, 0) := by decide +kernel
theorem f333_1366 : aF 1366 zM333.2.2.2.2.2.2.2 = some (1366, (.aload_n 0), 1, 0, 0) := by decide +kernel
theorem f333_1367 : aF 1367 zM333.2.2.2.2.2.2.2 = some (1367, (.iload_n 3), 1, 0, 0) := by decide +kernel
theorem f333_1368 : aF 1368 zM333.2.2.2.2.2.2.2 = some (1368, (.iconst 1), 1, 0, 0) := by decide +kernel
theorem f333_1369 : aF 1369 zM333.2.2.2.2.2.2.2 = some (1369, .iadd, 1, 0, 0) := by decide +kernel
theorem f333_1370 : aF 1370 zM333.2.2.2.2.2.2.2 = some (1370, .iaload, 1, 0, 0) := by decide +kernel
theorem f333_1371 : aF 1371 zM333.2.2.2.2.2.2.2 = some (1371, (.invokevirtual 143), 3, 175, 0) := by decide +kernel
theorem f333_1374 : aF 1374 zM333.2.2.2.2.2.2.2 = some (1374, .pop, 1, 0, 0) := by decide +kernel
theorem f333_1375 : aF 1375 zM333.2.2.2.2.2.2.2 = some (1375, (.aload_n 2), 1, 0, 0) := by decide +kernel
theorem f333_1376 : aF 1376 zM333.2.2.2.2.2.2.2 = some (1376, (.aload_n 0), 1, 0, 0) := by decide +kernel
theorem f333_1377 : aF 1377 zM333.2.2.2.2.2.2.2 = some (1377, (.iload_n 3), 1, 0, 0) := by decide +kernel
theorem f333_1378 : aF 1378 zM333.2.2.2.2.2.2.2 = some (1378, (.iconst 1), 1, 0, 0) := by decide +kernel
theorem f333_1379 : aF 1379 zM333.2.2.2.2.2.2.2 = some (1379, .iadd, 1, 0, 0) := by decide +kernel
theorem f333_1380 : aF 1380 zM333.2.2.2.2.2.2.2 = some (1380, .iaload, 1, 0, 0) := by decide +kernel
theorem f333_1381 : aF 1381 zM333.2.2.2.2.2.2.2 = some (1381, (.invokevirtual 146), 3, 288, 0) := by decide +kernel
theorem f333_1384 : aF 1384 zM333.2.2.2.2.2.2.2 = some (1384, .pop, 1, 0, 0) := by decide +kernel
theorem f333_1385 : aF 1385 zM333.2.2.2.2.2.2.2 = some (1385, (.goto 690), 3, 2075, 0) := by decide +kernel
theorem f333_1388 : aF 1388 zM333.2.2.2.2.2.2.2 = some (1388, (.aload_n 1), 1, 0, 0) := by decide +kernel
theorem f333_1389 : aF 1389 zM333.2.2.2.2.2.2.2 = some (1389, (.aload_n 0), 1, 0, 0) := by decide +kernel
theorem f333_1390 : aF 1390 zM333.2.2.2.2.2.2.2 = some (1390, (.iload_n 3), 1, 0, 0) := by decide +kernel
theorem f333_1391 : aF 1391 zM333.2.2.2.2.2.2.2 = some (1391, (.iconst 1), 1, 0, 0) := by decide +kernel
theorem f333_1392 : aF 1392 zM333.2.2.2.2.2.2.2 = some (1392, .iadd, 1, 0, 0) := by decide +kernel
theorem f333_1393 : aF 1393 zM333.2.2.2.2.2.2.2 = some (1393, .iaload, 1, 0, 0) := by decide +kernel
theorem f333_1394 : aF 1394 zM333.2.2.2.2.2.2.2 = some (1394, (.invokevirtual 147), 3, 176, 0) := by decide +kernel
theorem f333_1397 : aF 1397 zM333.2.2.2.2.2.2.2 = some (1397, .pop, 1, 0, 0) := by decide +kernel
theorem f333_1398 : aF 1398 zM333.2.2.2.2.2.2.2 = some (1398, (.aload_n 2), 1, 0, 0) := by decide +kernel
theorem f333_1399 : aF 1399 zM333.2.2.2.2.2.2.2 = some (1399, (.aload_n 0), 1, 0, 0) := by decide +kernel
theorem f333_1400 : aF 1400 zM333.2.2.2.2.2.2.2 = some (1400, (.iload_n 3), 1, 0, 0) := by decide +kernel
theorem f333_1401 : aF 1401 zM333.2.2.2.2.2.2.2 = some (1401, (.iconst 1), 1, 0, 0) := by decide +kernel
theorem f333_1402 : aF 1402 zM333.2.2.2.2.2.2.2 = some (1402, .iadd, 1, 0, 0) := by decide +kernel
theorem f333_1403 : aF 1403 zM333.2.2.2.2.2.2.2 = some (1403, .iaload, 1, 0, 0) := by decide +kernel
theorem f333_1404 : aF 1404 zM333.2.2.2.2.2.2.2 = some (1404, (.invokevirtual 150), 3, 289, 0) := by decide +kernel
theorem f333_1407 : aF 1407 zM333.2.2.2.2.2.2.2 = some (1407, .pop, 1, 0, 0) := by decide +kernel
theorem f333_1408 : aF 1408 zM333.2.2.2.2.2.2.2 = some (1408, (.goto 667), 3, 2075, 0) := by decide +kernel
theorem f333_1411 : aF 1411 zM333.2.2.2.2.2.2.2 = some (1411, (.aload_n 1), 1, 0, 0) := by decide +kernel
theorem f333_1412 : aF 1412 zM333.2.2.2.2.2.2.2 = some (1412, (.aload_n 0), 1, 0, 0) := by decide +kernel
theorem f333_1413 : aF 1413 zM333.2.2.2.2.2.2.2 = some (1413, (.iload_n 3), 1, 0, 0) := by decide +kernel
theorem f333_1414 : aF 1414 zM333.2.2.2.2.2.2.2 = some (1414, (.iconst 1), 1, 0, 0) := by decide +kernel
theorem f333_1415 : aF 1415 zM333.2.2.2.2.2.2.2 = some (1415, .iadd, 1, 0, 0) := by decide +kernel
theorem f333_1416 : aF 1416 zM333.2.2.2.2.2.2.2 = some (1416, .iaload, 1, 0, 0) := by decide +kernel
theorem f333_1417 : aF 1417 zM333.2.2.2.2.2.2.2 = some (1417, (.invokevirtual 151), 3, 177, 0) := by decide +kernel
theorem f333_1420 : aF 1420 zM333.2.2.2.2.2.2.2 = some (1420, .pop, 1, 0, 0) := by decide +kernel
theorem f333_1421 : aF 1421 zM333.2.2.2.2.2.2.2 = some (1421, (.aload_n 2), 1, 0, 0) := by decide +kernel
theorem f333_1422 : aF 1422 zM333.2.2.2.2.2.2.2 = some (1422, (.aload_n 0), 1, 0, 0) := by decide +kernel
theorem f333_1423 : aF 1423 zM333.2.2.2.2.2.2.2 = some (1423, (.iload_n 3), 1, 0, 0) := by decide +kernel
theorem f333_1424 : aF 1424 zM333.2.2.2.2.2.2.2 = some (1424, (.iconst 1), 1, 0, 0) := by decide +kernel
theorem f333_1425 : aF 1425 zM333.2.2.2.2.2.2.2 = some (1425, .iadd, 1, 0, 0) := by decide +kernel
theorem f333_1426 : aF 1426 zM333.2.2.2.2.2.2.2 = some (1426, .iaload, 1, 0, 0) := by decide +kernel
theorem f333_1427 : aF 1427 zM333.2.2.2.2.2.2.2 = some (1427, (.invokevirtual 154), 3, 290, 0) := by decide +kernel
theorem f333_1430 : aF 1430 zM333.2.2.2.2.2.2.2 = some (1430, .pop, 1, 0, 0) := by decide +kernel
theorem f333_1431 : aF 1431 zM333.2.2.2.2.2.2.2 = some (1431, (.goto 644), 3, 2075, 0) := by decide +kernel
theorem f333_1434 : aF 1434 zM333.2.2.2.2.2.2.2 = some (1434, (.aload_n 1), 1, 0, 0) := by decide +kernel
theorem f333_1435 : aF 1435 zM333.2.2.2.2.2.2.2 = some (1435, (.aload_n 0), 1, 0, 0) := by decide +kernel
theorem f333_1436 : aF 1436 zM333.2.2.2.2.2.2.2 = some (1436, (.iload_n 3), 1, 0, 0) := by decide +kernel
theorem f333_1437 : aF 1437 zM333.2.2.2.2.2.2.2 = some (1437, (.iconst 1), 1, 0, 0) := by decide +kernel
theorem f333_1438 : aF 1438 zM333.2.2.2.2.2.2.2 = some (1438, .iadd, 1, 0, 0) := by decide +kernel
theorem f333_1439 : aF 1439 zM333.2.2.2.2.2.2.2 = some (1439, .iaload, 1, 0, 0) := by decide +kernel
theorem f333_1440 : aF 1440 zM333.2.2.2.2.2.2.2 = some (1440, (.aload_n 0), 1, 0, 0) := by decide +kernel
theorem f333_1441 : aF 1441 zM333.2.2.2.2.2.2.2 = some (1441, (.iload_n 3), 1, 0, 0) := by decide +kernel
theorem f333_1442 : aF 1442 zM333.2.2.2.2.2.2.2 = some (1442, (.iconst 2), 1, 0, 0) := by decide +kernel
theorem f333_1443 : aF 1443 zM333.2.2.2.2.2.2.2 = some (1443, .iadd, 1, 0, 0) := by decide +kernel
theorem f333_1444 : aF 1444 zM333.2.2.2.2.2.2.2 = some (1444, .iaload, 1, 0, 0) := by decide +kernel
theorem f333_1445 : aF 1445 zM333.2.2.2.2.2.2.2 = some (1445, (.aload_n 0), 1, 0, 0) := by decide +kernel
theorem f333_1446 : aF 1446 zM333.2.2.2.2.2.2.2 = some (1446, (.iload_n 3), 1, 0, 0) := by decide +kernel
theorem f333_1447 : aF 1447 zM333.2.2.2.2.2.2.2 = some (1447, (.iconst 3), 1, 0, 0) := by decide +kernel
theorem f333_1448 : aF 1448 zM333.2.2.2.2.2.2.2 = some (1448, .iadd, 1, 0, 0) := by decide +kernel
theorem f333_1449 : aF 1449 zM333.2.2.2.2.2.2.2 = some (1449, .iaload, 1, 0, 0) := by decide +kernel
theorem f333_1450 : aF 1450 zM333.2.2.2.2.2.2.2 = some (1450, (.invokevirtual 155), 3, 178, 0) := by decide +kernel
theorem f333_1453 : aF 1453 zM333.2.2.2.2.2.2.2 = some (1453, .pop, 1, 0, 0) := by decide +kernel
theorem f333_1454 : aF 1454 zM333.2.2.2.2.2.2.2 = some (1454, (.aload_n 2), 1, 0, 0) := by decide +kernel
theorem f333_1455 : aF 1455 zM333.2.2.2.2.2.2.2 = some (1455, (.aload_n 0), 1, 0, 0) := by decide +kernel
theorem f333_1456 : aF 1456 zM333.2.2.2.2.2.2.2 = some (1456, (.iload_n 3), 1, 0, 0) := by decide +kernel
theorem f333_1457 : aF 1457 zM333.2.2.2.2.2.2.2 = some (1457, (.iconst 1), 1, 0, 0) := by decide +kernel
theorem f333_1458 : aF 1458 zM333.2.2.2.2.2.2.2 = some (1458, .iadd, 1, 0, 0) := by decide +kernel
theorem f333_1459 : aF 1459 zM333.2.2.2.2.2.2.2 = some (1459, .iaload, 1, 0, 0) := by decide +kernel
theorem f333_1460 : aF 1460 zM333.2.2.2.2.2.2.2 = some (1460, (.aload_n 0), 1, 0, 0) := by decide +kernel
theorem f333_1461 : aF 1461 zM333.2.2.2.2.2.2.2 = some (1461, (.iload_n 3), 1, 0, 0) := by decide +kernel
theorem f333_1462 : aF 1462 zM333.2.2.2.2.2.2.2 = some (1462, (.iconst 2), 1, 0, 0) := by decide +kernel
theorem f333_1463 : aF 1463 zM333.2.2.2.2.2.2.2 = some (1463, .iadd, 1, 0, 0) := by decide +kernel
theorem f333_1464 : aF 1464 zM333.2.2.2.2.2.2.2 = some (1464, .iaload, 1, 0, 0) := by decide +kernel
theorem f333_1465 : aF 1465 zM333.2.2.2.2.2.2.2 = some (1465, (.aload_n 0), 1, 0, 0) := by decide +kernel
theorem f333_1466 : aF 1466 zM333.2.2.2.2.2.2.2 = some (1466, (.iload_n 3), 1, 0, 0) := by decide +kernel
theorem f333_1467 : aF 1467 zM333.2.2.2.2.2.2.2 = some (1467, (.iconst 3), 1, 0, 0) := by decide +kernel
theorem f333_1468 : aF 1468 zM333.2.2.2.2.2.2.2 = some (1468, .iadd, 1, 0, 0) := by decide +kernel
theorem f333_1469 : aF 1469 zM333.2.2.2.2.2.2.2 = some (1469, .iaload, 1, 0, 0) := by decide +kernel
theorem f333_1470 : aF 1470 zM333.2.2.2.2.2.2.2 = some (1470, (.invokevirtual 158), 3, 292, 0) := by decide +kernel
theorem f333_1473 : aF 1473 zM333.2.2.2.2.2.2.2 = some (1473, .pop, 1, 0, 0) := by decide +kernel
theorem f333_1474 : aF 1474 zM333.2.2.2.2.2.2.2 = some (1474, (.goto 601), 3, 2075, 0) := by decide +kernel
theorem lc_26 {X : aX} (G : hG X 302) (hX : X 0 = some (8, zab)) {L : Nat} {xs : Nat → Int32} (hX1 : X 1 = some (L, xs)) (hL : L ≤ 3072) {i : Int32} (i0 : 0 ≤ i.toInt) (i1 : i.toInt + 6 ≤ L) {Q : Option Value → aH → Prop} {σ : List Nat} {h : aH} (I : dI σ h) (J : JX h) (kq : ∀ (σ' : List Nat) (h' : aH), dI σ' h' → JX h' → dPh h' ≤ dPh h → Wp X 64 zM333 Q 2075 [some (.retAddr 1), some (.ref 0), some (.ref 72), some (.int i)] [] h') : Wp X 64 zM333 Q 1160 [some (.retAddr 1), some (.ref 0), some (.ref 72), some (.int i)] [] h := by
  obtain ⟨J, K⟩ := J
  refine wp1 (fun n d => r_aloadn f333_1160 rfl) ?_
  refine wp1 (fun n d => r_aloadnX f333_1161 rfl) ?_
  refine wp1 (fun n d => r_iloadn f333_1162 rfl) ?_
  refine w_iconst f333_1163 (fun v1163 hv1163 => ?_)
  refine w_iadd f333_1164 (by omega) (by omega) (fun v1164 hv1164 => ?_)
  refine w_xld f333_1165 hX1 (by omega) (by omega) (fun v1165 hv1165 => ?_)
  refine wp1 (fun n d => r_aloadnX f333_1166 rfl) ?_
  refine wp1 (fun n d => r_iloadn f333_1167 rfl) ?_
  refine w_iconst f333_1168 (fun v1168 hv1168 => ?_)
  refine w_iadd f333_1169 (by omega) (by omega) (fun v1169 hv1169 => ?_)
  refine w_xld f333_1170 hX1 (by omega) (by omega) (fun v1170 hv1170 => ?_)
  refine wp1 (fun n d => r_aloadnX f333_1171 rfl) ?_
  refine wp1 (fun n d => r_iloadn f333_1172 rfl) ?_
  refine w_iconst f333_1173 (fun v1173 hv1173 => ?_)
  refine w_iadd f333_1174 (by omega) (by omega) (fun v1174 hv1174 => ?_)
  refine w_xld f333_1175 hX1 (by omega) (by omega) (fun v1175 hv1175 => ?_)
  refine wp1 (fun n d => r_aloadnX f333_1176 rfl) ?_
  refine wp1 (fun n d => r_iloadn f333_1177 rfl) ?_
  refine w_iconst f333_1178 (fun v1178 hv1178 => ?_)
  refine w_iadd f333_1179 (by omega) (by omega) (fun v1179 hv1179 => ?_)
  refine w_xld f333_1180 hX1 (by omega) (by omega) (fun v1180 hv1180 => ?_)
  obtain ⟨fs1002, c1002⟩ := hI_o I (r := 0) (ci := 11) (by decide +kernel)
  refine wp_good (G 156 (by decide) cC156 rfl) (Y := zM170) (show zmt[170]? = some zM170 from rfl) I (ρ := [0, v1165.toInt, v1170.toInt, v1175.toInt, v1180.toInt]) (dK_v (kV_of rfl ⟨⟨by decide, by decide⟩, iR v1165, iR v1170, iR v1175, iR v1180, trivial⟩)) (dL_of (l := [some (.ref 0), some (.int v1165), some (.int v1170), some (.int v1175), some (.int v1180)]) ⟨lw_r (by decide), lw_i rfl, lw_i rfl, lw_i rfl, lw_i rfl, trivial⟩) (fun n d v h' e => r_virt (as := [.int v1165, .int v1170, .int v1175, .int v1180]) (r := []) f333_1181 c1002 (show zmt[170]? = some zM170 from rfl) rfl rfl rfl rfl rfl rfl e) (by first | decide | (show 10 + 1 ≤ _; omega)) (fun v h1001 σ1001 I1001 G1001 P1001 => ?_)
  obtain ⟨v1181, vq1181⟩ : ∃ y : Int32, v = some (.int y) := by
    obtain ⟨P, hm, ρ', rh', kP, sP⟩ := P1001
    cases List.mem_singleton.mp hm
    cases v with
    | none => exact sP.elim
    | some v =>
      obtain ⟨⟨x, y, rfl, -, -⟩, -⟩ := sP
      exact ⟨x, rfl⟩
  subst vq1181
  show Wp _ _ _ _ 1184 [some (.retAddr 1), some (.ref 0), some (.ref 72), some (.int i)] [.int v1181] _
  obtain ⟨fs1003, c1003, df1003⟩ := dG_o I.1 G1001 c1002 (by decide)
  refine wp1 (fun nn dd => r_pop f333_1184 rfl) ?_
  refine wp1 (fun n d => r_aloadn f333_1185 rfl) ?_
  refine wp1 (fun n d => r_aloadnX f333_1186 rfl) ?_
  refine wp1 (fun n d => r_iloadn f333_1187 rfl) ?_
  refine w_iconst f333_1188 (fun v1188 hv1188 => ?_)
  refine w_iadd f333_1189 (by omega) (by omega) (fun v1189 hv1189 => ?_)
  refine w_xld f333_1190 hX1 (by omega) (by omega) (fun v1190 hv1190 => ?_)
  refine wp1 (fun n d => r_aloadnX f333_1191 rfl) ?_
  refine wp1 (fun n d => r_iloadn f333_1192 rfl) ?_
  refine w_iconst f333_1193 (fun v1193 hv1193 => ?_)
  refine w_iadd f333_1194 (by omega) (by omega) (fun v1194 hv1194 => ?_)
  refine w_xld f333_1195 hX1 (by omega) (by omega) (fun v1195 hv1195 => ?_)
  refine wp1 (fun n d => r_aloadnX f333_1196 rfl) ?_
  refine wp1 (fun n d => r_iloadn f333_1197 rfl) ?_
  refine w_iconst f333_1198 (fun v1198 hv1198 => ?_)
  refine w_iadd f333_1199 (by omega) (by omega) (fun v1199 hv1199 => ?_)
  refine w_xld f333_1200 hX1 (by omega) (by omega) (fun v1200 hv1200 => ?_)
  refine wp1 (fun n d => r_aloadnX f333_1201 rfl) ?_
  refine wp1 (fun n d => r_iloadn f333_1202 rfl) ?_
  refine w_iconst f333_1203 (fun v1203 hv1203 => ?_)
  refine w_iadd f333_1204 (by omega) (by omega) (fun v1204 hv1204 => ?_)
  refine w_xld f333_1205 hX1 (by omega) (by omega) (fun v1205 hv1205 => ?_)
  obtain ⟨fs1005, c1005⟩ := hI_o I1001 (r := 72) (ci := 12) (by decide +kernel)
  refine wp_good (G 164 (by decide) cC164 rfl) (Y := zM274) (show zmt[274]? = some zM274 from rfl) I1001 (ρ := [0, v1190.toInt, v1195.toInt, v1200.toInt, v1205.toInt]) (dK_v (kV_of rfl ⟨⟨by decide, by decide⟩, iR v1190, iR v1195, iR v1200, iR v1205, trivial⟩)) (dL_of (l := [some (.ref 72), some (.int v1190), some (.int v1195), some (.int v1200), some (.int v1205)]) ⟨lw_r (by decide), lw_i rfl, lw_i rfl, lw_i rfl, lw_i rfl, trivial⟩) (fun n d v h' e => r_virt (as := [.int v1190, .int v1195, .int v1200, .int v1205]) (r := []) f333_1206 c1005 (show zmt[274]? = some zM274 from rfl) rfl rfl rfl rfl rfl rfl e) (by first | decide | (show 5 + 1 ≤ _; omega)) (fun v h1004 σ1004 I1004 G1004 P1004 => ?_)
  obtain ⟨v1206, vq1206⟩ : ∃ y : Int32, v = some (.int y) := by
    obtain ⟨P, hm, ρ', rh', kP, sP⟩ := P1004
    cases List.mem_singleton.mp hm
    cases v with
    | none => exact sP.elim
    | some v =>
      obtain ⟨⟨x, y, rfl, -, -⟩, -⟩ := sP
      exact ⟨x, rfl⟩
  subst vq1206
  show Wp _ _ _ _ 1209 [some (.retAddr 1), some (.ref 0), some (.ref 72), some (.int i)] [.int v1206] _
  obtain ⟨fs1006, c1006, df1006⟩ := dG_o I1001.1 G1004 c1003 (by decide)
  obtain ⟨fs1007, c1007, df1007⟩ := dG_o I1001.1 G1004 c1005 (by decide)
  have GG : dG ([(42, 0), (43, 0), (44, 0), (146, 3), (146, 4), (146, 5), (147, 0), (148, 0), (149, 0), (150, 0), (151, 0), (152, 0), (153, 0), (72, 38), (72, 39), (103, 0), (104, 0), (105, 0), (106, 0), (107, 0), (108, 0), (109, 0), (110, 0), (124, 0), (126, 0)] : List (Nat × Nat)) σ h σ1004 h1004 := (dG_trans (dG_sub (by decide) G1001) (dG_sub (by decide) G1004))
  refine wp1 (fun nn dd => r_pop f333_1209 rfl) ?_
  refine wp1 (fun nn dd => r_goto f333_1210) ?_
  exact kq _ _ I1004 ⟨JQ_dG J I GG (by decide), JRing_dG K.1 I GG (by decide), JBody_dG K.2.1 I GG (by decide), JShelf_dG K.2.2 I GG (by decide)⟩ GG.2.2
theorem lc_27 {X : aX} (G : hG X 302) (hX : X 0 = some (8, zab)) {L : Nat} {xs : Nat → Int32} (hX1 : X 1 = some (L, xs)) (hL : L ≤ 3072) {i : Int32} (i0 : 0 ≤ i.toInt) (i1 : i.toInt + 6 ≤ L) {Q : Option Value → aH → Prop} {σ : List Nat} {h : aH} (I : dI σ h) (J : JX h) (kq : ∀ (σ' : List Nat) (h' : aH), dI σ' h' → JX h' → dPh h' ≤ dPh h → Wp X 64 zM333 Q 2075 [some (.retAddr 1), some (.ref 0), some (.ref 72), some (.int i)] [] h') : Wp X 64 zM333 Q 1213 [some (.retAddr 1), some (.ref 0), some (.ref 72), some (.int i)] [] h := by
  obtain ⟨J, K⟩ := J
  refine wp1 (fun n d => r_aloadn f333_1213 rfl) ?_
  refine wp1 (fun n d => r_aloadnX f333_1214 rfl) ?_
  refine wp1 (fun n d => r_iloadn f333_1215 rfl) ?_
  refine w_iconst f333_1216 (fun v1216 hv1216 => ?_)
  refine w_iadd f333_1217 (by omega) (by omega) (fun v1217 hv1217 => ?_)
  refine w_xld f333_1218 hX1 (by omega) (by omega) (fun v1218 hv1218 => ?_)
  refine wp1 (fun n d => r_aloadnX f333_1219 rfl) ?_
  refine wp1 (fun n d => r_iloadn f333_1220 rfl) ?_
  refine w_iconst f333_1221 (fun v1221 hv1221 => ?_)
  refine w_iadd f333_1222 (by omega) (by omega) (fun v1222 hv1222 => ?_)
  refine w_xld f333_1223 hX1 (by omega) (by omega) (fun v1223 hv1223 => ?_)
  refine wp1 (fun n d => r_aloadnX f333_1224 rfl) ?_
  refine wp1 (fun n d => r_iloadn f333_1225 rfl) ?_
  refine w_iconst f333_1226 (fun v1226 hv1226 => ?_)
  refine w_iadd f333_1227 (by omega) (by omega) (fun v1227 hv1227 => ?_)
  refine w_xld f333_1228 hX1 (by omega) (by omega) (fun v1228 hv1228 => ?_)
  refine wp1 (fun n d => r_aloadnX f333_1229 rfl) ?_
  refine wp1 (fun n d => r_iloadn f333_1230 rfl) ?_
  refine w_iconst f333_1231 (fun v1231 hv1231 => ?_)
  refine w_iadd f333_1232 (by omega) (by omega) (fun v1232 hv1232 => ?_)
  refine w_xld f333_1233 hX1 (by omega) (by omega) (fun v1233 hv1233 => ?_)
  obtain ⟨fs1002, c1002⟩ := hI_o I (r := 0) (ci := 11) (by decide +kernel)
  refine wp_good (G 175 (by decide) cC175 rfl) (Y := zM171) (show zmt[171]? = some zM171 from rfl) I (ρ := [0, v1218.toInt, v1223.toInt, v1228.toInt, v1233.toInt]) (dK_v (kV_of rfl ⟨⟨by decide, by decide⟩, iR v1218, iR v1223, iR v1228, iR v1233, trivial⟩)) (dL_of (l := [some (.ref 0), some (.int v1218), some (.int v1223), some (.int v1228), some (.int v1233), none]) ⟨lw_r (by decide), lw_i rfl, lw_i rfl, lw_i rfl, lw_i rfl, lw_0, trivial⟩) (fun n d v h' e => r_virt (as := [.int v1218, .int v1223, .int v1228, .int v1233]) (r := []) f333_1234 c1002 (show zmt[171]? = some zM171 from rfl) rfl rfl rfl rfl rfl rfl e) (by first | decide | (show 62 + 1 ≤ _; omega)) (fun v h1001 σ1001 I1001 G1001 P1001 => ?_)
  obtain ⟨v1234, vq1234⟩ : ∃ y : Int32, v = some (.int y) := by
    obtain ⟨P, hm, ρ', rh', kP, sP⟩ := P1001
    cases List.mem_singleton.mp hm
    cases v with
    | none => exact sP.elim
    | some v =>
      obtain ⟨⟨x, y, rfl, -, -⟩, -⟩ := sP
      exact ⟨x, rfl⟩
  subst vq1234
  show Wp _ _ _ _ 1237 [some (.retAddr 1), some (.ref 0), some (.ref 72), some (.int i)] [.int v1234] _
  obtain ⟨fs1003, c1003, df1003⟩ := dG_o I.1 G1001 c1002 (by decide)
  refine wp1 (fun nn dd => r_pop f333_1237 rfl) ?_
  refine wp1 (fun n d => r_aloadn f333_1238 rfl) ?_
  refine wp1 (fun n d => r_aloadnX f333_1239 rfl) ?_
  refine wp1 (fun n d => r_iloadn f333_1240 rfl) ?_
  refine w_iconst f333_1241 (fun v1241 hv1241 => ?_)
  refine w_iadd f333_1242 (by omega) (by omega) (fun v1242 hv1242 => ?_)
  refine w_xld f333_1243 hX1 (by omega) (by omega) (fun v1243 hv1243 => ?_)
  refine wp1 (fun n d => r_aloadnX f333_1244 rfl) ?_
  refine wp1 (fun n d => r_iloadn f333_1245 rfl) ?_
  refine w_iconst f333_1246 (fun v1246 hv1246 => ?_)
  refine w_iadd f333_1247 (by omega) (by omega) (fun v1247 hv1247 => ?_)
  refine w_xld f333_1248 hX1 (by omega) (by omega) (fun v1248 hv1248 => ?_)
  refine wp1 (fun n d => r_aloadnX f333_1249 rfl) ?_
  refine wp1 (fun n d => r_iloadn f333_1250 rfl) ?_
  refine w_iconst f333_1251 (fun v1251 hv1251 => ?_)
  refine w_iadd f333_1252 (by omega) (by omega) (fun v1252 hv1252 => ?_)
  refine w_xld f333_1253 hX1 (by omega) (by omega) (fun v1253 hv1253 => ?_)
  refine wp1 (fun n d => r_aloadnX f333_1254 rfl) ?_
  refine wp1 (fun n d => r_iloadn f333_1255 rfl) ?_
  refine w_iconst f333_1256 (fun v1256 hv1256 => ?_)
  refine w_iadd f333_1257 (by omega) (by omega) (fun v1257 hv1257 => ?_)
  refine w_xld f333_1258 hX1 (by omega) (by omega) (fun v1258 hv1258 => ?_)
  obtain ⟨fs1005, c1005⟩ := hI_o I1001 (r := 72) (ci := 12) (by decide +kernel)
  refine wp_good (G 185 (by decide) cC185 rfl) (Y := zM278) (show zmt[278]? = some zM278 from rfl) I1001 (ρ := [0, v1243.toInt, v1248.toInt, v1253.toInt, v1258.toInt]) (dK_v (kV_of rfl ⟨⟨by decide, by decide⟩, iR v1243, iR v1248, iR v1253, iR v1258, trivial⟩)) (dL_of (l := [some (.ref 72), some (.int v1243), some (.int v1248), some (.int v1253), some (.int v1258)]) ⟨lw_r (by decide), lw_i rfl, lw_i rfl, lw_i rfl, lw_i rfl, trivial⟩) (fun n d v h' e => r_virt (as := [.int v1243, .int v1248, .int v1253, .int v1258]) (r := []) f333_1259 c1005 (show zmt[278]? = some zM278 from rfl) rfl rfl rfl rfl rfl rfl e) (by first | decide | (show 10 + 1 ≤ _; omega)) (fun v h1004 σ1004 I1004 G1004 P1004 => ?_)
  obtain ⟨v1259, vq1259⟩ : ∃ y : Int32, v = some (.int y) := by
    obtain ⟨P, hm, ρ', rh', kP, sP⟩ := P1004
    cases List.mem_singleton.mp hm
    cases v with
    | none => exact sP.elim
    | some v =>
      obtain ⟨⟨x, y, rfl, -, -⟩, -⟩ := sP
      exact ⟨x, rfl⟩
  subst vq1259
  show Wp _ _ _ _ 1262 [some (.retAddr 1), some (.ref 0), some (.ref 72), some (.int i)] [.int v1259] _
  obtain ⟨fs1006, c1006, df1006⟩ := dG_o I1001.1 G1004 c1003 (by decide)
  obtain ⟨fs1007, c1007, df1007⟩ := dG_o I1001.1 G1004 c1005 (by decide)
  have GG : dG ([(33, 9), (33, 10), (33, 11), (33, 12), (33, 13), (33, 14), (41, 7), (42, 0), (43, 0), (44, 0), (45, 0), (146, 3), (146, 4), (146, 5), (147, 0), (148, 0), (149, 0), (150, 0), (151, 0), (152, 0), (153, 0), (72, 38), (72, 39), (72, 71), (72, 75), (103, 0), (104, 0), (105, 0), (106, 0), (107, 0), (108, 0), (109, 0), (110, 0), (124, 0), (125, 0), (126, 0), (127, 0), (128, 0)] : List (Nat × Nat)) σ h σ1004 h1004 := (dG_trans (dG_sub (by decide) G1001) (dG_sub (by decide) G1004))
  refine wp1 (fun nn dd => r_pop f333_1262 rfl) ?_
  refine wp1 (fun nn dd => r_goto f333_1263) ?_
  exact kq _ _ I1004 ⟨JQ_dG J I GG (by decide), JRing_dG K.1 I GG (by decide), JBody_dG K.2.1 I GG (by decide), JShelf_dG K.2.2 I GG (by decide)⟩ GG.2.2
theorem lc_28 {X : aX} (G : hG X 302) (hX : X 0 = some (8, zab)) {L : Nat} {xs : Nat → Int32} (hX1 : X 1 = some (L, xs)) (hL : L ≤ 3072) {i : Int32} (i0 : 0 ≤ i.toInt) (i1 : i.toInt + 6 ≤ L) {Q : Option Value → aH → Prop} {σ : List Nat} {h : aH} (I : dI σ h) (J : JX h) (kq : ∀ (σ' : List Nat) (h' : aH), dI σ' h' → JX h' → dPh h' ≤ dPh h → Wp X 64 zM333 Q 2075 [some (.retAddr 1), some (.ref 0), some (.ref 72), some (.int i)] [] h') : Wp X 64 zM333 Q 1266 [some (.retAddr 1), some (.ref 0), some (.ref 72), some (.int i)] [] h := by
  obtain ⟨J, K⟩ := J
  refine wp1 (fun n d => r_aloadn f333_1266 rfl) ?_
  refine wp1 (fun n d => r_aloadnX f333_1267 rfl) ?_
  refine wp1 (fun n d => r_iloadn f333_1268 rfl) ?_
  refine w_iconst f333_1269 (fun v1269 hv1269 => ?_)
  refine w_iadd f333_1270 (by omega) (by omega) (fun v1270 hv1270 => ?_)
  refine w_xld f333_1271 hX1 (by omega) (by omega) (fun v1271 hv1271 => ?_)
  refine wp1 (fun n d => r_aloadnX f333_1272 rfl) ?_
  refine wp1 (fun n d => r_iloadn f333_1273 rfl) ?_
  refine w_iconst f333_1274 (fun v1274 hv1274 => ?_)
  refine w_iadd f333_1275 (by omega) (by omega) (fun v1275 hv1275 => ?_)
  refine w_xld f333_1276 hX1 (by omega) (by omega) (fun v1276 hv1276 => ?_)
  obtain ⟨fs1002, c1002⟩ := hI_o I (r := 0) (ci := 11) (by decide +kernel)
  refine wp_good (G 186 (by decide) cC186 rfl) (Y := zM172) (show zmt[172]? = some zM172 from rfl) I (ρ := [0, v1271.toInt, v1276.toInt]) (dK_v (kV_of rfl ⟨⟨by decide, by decide⟩, iR v1271, iR v1276, trivial⟩)) (dL_of (l := [some (.ref 0), some (.int v1271), some (.int v1276)]) ⟨lw_r (by decide), lw_i rfl, lw_i rfl, trivial⟩) (fun n d v h' e => r_virt (as := [.int v1271, .int v1276]) (r := []) f333_1277 c1002 (show zmt[172]? = some zM172 from rfl) rfl rfl rfl rfl rfl rfl e) (by first | decide | (show 63 + 1 ≤ _; omega)) (fun v h1001 σ1001 I1001 G1001 P1001 => ?_)
  obtain ⟨v1277, vq1277⟩ : ∃ y : Int32, v = some (.int y) := by
    obtain ⟨P, hm, ρ', rh', kP, sP⟩ := P1001
    cases List.mem_singleton.mp hm
    cases v with
    | none => exact sP.elim
    | some v =>
      obtain ⟨⟨x, y, rfl, -, -⟩, -⟩ := sP
      exact ⟨x, rfl⟩
  subst vq1277
  show Wp _ _ _ _ 1280 [some (.retAddr 1), some (.ref 0), some (.ref 72), some (.int i)] [.int v1277] _
  obtain ⟨fs1003, c1003, df1003⟩ := dG_o I.1 G1001 c1002 (by decide)
  refine wp1 (fun nn dd => r_pop f333_1280 rfl) ?_
  refine wp1 (fun n d => r_aloadn f333_1281 rfl) ?_
  refine wp1 (fun n d => r_aloadnX f333_1282 rfl) ?_
  refine wp1 (fun n d => r_iloadn f333_1283 rfl) ?_
  refine w_iconst f333_1284 (fun v1284 hv1284 => ?_)
  refine w_iadd f333_1285 (by omega) (by omega) (fun v1285 hv1285 => ?_)
  refine w_xld f333_1286 hX1 (by omega) (by omega) (fun v1286 hv1286 => ?_)
  refine wp1 (fun n d => r_aloadnX f333_1287 rfl) ?_
  refine wp1 (fun n d => r_iloadn f333_1288 rfl) ?_
  refine w_iconst f333_1289 (fun v1289 hv1289 => ?_)
  refine w_iadd f333_1290 (by omega) (by omega) (fun v1290 hv1290 => ?_)
  refine w_xld f333_1291 hX1 (by omega) (by omega) (fun v1291 hv1291 => ?_)
  obtain ⟨fs1005, c1005⟩ := hI_o I1001 (r := 72) (ci := 12) (by decide +kernel)
  refine wp_good (G 187 (by decide) cC187 rfl) (Y := zM279) (show zmt[279]? = some zM279 from rfl) I1001 (ρ := [0, v1286.toInt, v1291.toInt]) (dK_v (kV_of rfl ⟨⟨by decide, by decide⟩, iR v1286, iR v1291, trivial⟩)) (dL_of (l := [some (.ref 72), some (.int v1286), some (.int v1291)]) ⟨lw_r (by decide), lw_i rfl, lw_i rfl, trivial⟩) (fun n d v h' e => r_virt (as := [.int v1286, .int v1291]) (r := []) f333_1292 c1005 (show zmt[279]? = some zM279 from rfl) rfl rfl rfl rfl rfl rfl e) (by first | decide | (show 10 + 1 ≤ _; omega)) (fun v h1004 σ1004 I1004 G1004 P1004 => ?_)
  obtain ⟨v1292, vq1292⟩ : ∃ y : Int32, v = some (.int y) := by
    obtain ⟨P, hm, ρ', rh', kP, sP⟩ := P1004
    cases List.mem_singleton.mp hm
    cases v with
    | none => exact sP.elim
    | some v =>
      obtain ⟨⟨x, y, rfl, -, -⟩, -⟩ := sP
      exact ⟨x, rfl⟩
  subst vq1292
  show Wp _ _ _ _ 1295 [some (.retAddr 1), some (.ref 0), some (.ref 72), some (.int i)] [.int v1292] _
  obtain ⟨fs1006, c1006, df1006⟩ := dG_o I1001.1 G1004 c1003 (by decide)
  obtain ⟨fs1007, c1007, df1007⟩ := dG_o I1001.1 G1004 c1005 (by decide)
  have GG : dG ([(33, 9), (33, 10), (33, 11), (33, 12), (33, 13), (33, 14), (41, 7), (42, 0), (43, 0), (44, 0), (45, 0), (46, 0), (146, 3), (146, 4), (146, 5), (147, 0), (148, 0), (149, 0), (150, 0), (151, 0), (152, 0), (153, 0), (72, 38), (72, 39), (72, 71), (72, 75), (103, 0), (104, 0), (105, 0), (106, 0), (107, 0), (108, 0), (109, 0), (110, 0), (124, 0), (125, 0), (126, 0), (127, 0), (128, 0), (129, 0)] : List (Nat × Nat)) σ h σ1004 h1004 := (dG_trans (dG_sub (by decide) G1001) (dG_sub (by decide) G1004))
  refine wp1 (fun nn dd => r_pop f333_1295 rfl) ?_
  refine wp1 (fun nn dd => r_goto f333_1296) ?_
  exact kq _ _ I1004 ⟨JQ_dG J I GG (by decide), JRing_dG K.1 I GG (by decide), JBody_dG K.2.1 I GG (by decide), JShelf_dG K.2.2 I GG (by decide)⟩ GG.2.2
theorem lc_29 {X : aX} (G : hG X 302) (hX : X 0 = some (8, zab)) {L : Nat} {xs : Nat → Int32} (hX1 : X 1 = some (L, xs)) (hL : L ≤ 3072) {i : Int32} (i0 : 0 ≤ i.toInt) (i1 : i.toInt + 6 ≤ L) {Q : Option Value → aH → Prop} {σ : List Nat} {h : aH} (I : dI σ h) (J : JX h) (kq : ∀ (σ' : List Nat) (h' : aH), dI σ' h' → JX h' → dPh h' ≤ dPh h → Wp X 64 zM333 Q 2075 [some (.retAddr 1), some (.ref 0), some (.ref 72), some (.int i)] [] h') : Wp X 64 zM333 Q 1299 [some (.retAddr 1), some (.ref 0), some (.ref 72), some (.int i)] [] h := by
  obtain ⟨J, K⟩ := J
  refine wp1 (fun n d => r_aloadn f333_1299 rfl) ?_
  refine wp1 (fun n d => r_aloadnX f333_1300 rfl) ?_
  refine wp1 (fun n d => r_iloadn f333_1301 rfl) ?_
  refine w_iconst f333_1302 (fun v1302 hv1302 => ?_)
  refine w_iadd f333_1303 (by omega) (by omega) (fun v1303 hv1303 => ?_)
  refine w_xld f333_1304 hX1 (by omega) (by omega) (fun v1304 hv1304 => ?_)
  obtain ⟨fs1002, c1002⟩ := hI_o I (r := 0) (ci := 11) (by decide +kernel)
  refine wp_good (G 189 (by decide) cC189 rfl) (Y := zM173) (show zmt[173]? = some zM173 from rfl) I (ρ := [0, v1304.toInt]) (dK_v (kV_of rfl ⟨⟨by decide, by decide⟩, iR v1304, trivial⟩)) (dL_of (l := [some (.ref 0), some (.int v1304)]) ⟨lw_r (by decide), lw_i rfl, trivial⟩) (fun n d v h' e => r_virt (as := [.int v1304]) (r := []) f333_1305 c1002 (show zmt[173]? = some zM173 from rfl) rfl rfl rfl rfl rfl rfl e) (by first | decide | (show 63 + 1 ≤ _; omega)) (fun v h1001 σ1001 I1001 G1001 P1001 => ?_)
  obtain ⟨v1305, vq1305⟩ : ∃ y : Int32, v = some (.int y) := by
    obtain ⟨P, hm, ρ', rh', kP, sP⟩ := P1001
    cases List.mem_singleton.mp hm
    cases v with
    | none => exact sP.elim
    | some v =>
      obtain ⟨⟨x, y, rfl, -, -⟩, -⟩ := sP
      exact ⟨x, rfl⟩
  subst vq1305
  show Wp _ _ _ _ 1308 [some (.retAddr 1), some (.ref 0), some (.ref 72), some (.int i)] [.int v1305] _
  obtain ⟨fs1003, c1003, df1003⟩ := dG_o I.1 G1001 c1002 (by decide)
  refine wp1 (fun nn dd => r_pop f333_1308 rfl) ?_
  refine wp1 (fun n d => r_aloadn f333_1309 rfl) ?_
  refine wp1 (fun n d => r_aloadnX f333_1310 rfl) ?_
  refine wp1 (fun n d => r_iloadn f333_1311 rfl) ?_
  refine w_iconst f333_1312 (fun v1312 hv1312 => ?_)
  refine w_iadd f333_1313 (by omega) (by omega) (fun v1313 hv1313 => ?_)
  refine w_xld f333_1314 hX1 (by omega) (by omega) (fun v1314 hv1314 => ?_)
  obtain ⟨fs1005, c1005⟩ := hI_o I1001 (r := 72) (ci := 12) (by decide +kernel)
  refine wp_good (G 190 (by decide) cC190 rfl) (Y := zM280) (show zmt[280]? = some zM280 from rfl) I1001 (ρ := [0, v1314.toInt]) (dK_v (kV_of rfl ⟨⟨by decide, by decide⟩, iR v1314, trivial⟩)) (dL_of (l := [some (.ref 72), some (.int v1314), none, none, none]) ⟨lw_r (by decide), lw_i rfl, lw_0, lw_0, lw_0, trivial⟩) (fun n d v h' e => r_virt (as := [.int v1314]) (r := []) f333_1315 c1005 (show zmt[280]? = some zM280 from rfl) rfl rfl rfl rfl rfl rfl e) (by first | decide | (show 10 + 1 ≤ _; omega)) (fun v h1004 σ1004 I1004 G1004 P1004 => ?_)
  obtain ⟨v1315, vq1315⟩ : ∃ y : Int32, v = some (.int y) := by
    obtain ⟨P, hm, ρ', rh', kP, sP⟩ := P1004
    cases List.mem_singleton.mp hm
    cases v with
    | none => exact sP.elim
    | some v =>
      obtain ⟨⟨x, y, rfl, -, -⟩, -⟩ := sP
      exact ⟨x, rfl⟩
  subst vq1315
  show Wp _ _ _ _ 1318 [some (.retAddr 1), some (.ref 0), some (.ref 72), some (.int i)] [.int v1315] _
  obtain ⟨fs1006, c1006, df1006⟩ := dG_o I1001.1 G1004 c1003 (by decide)
  obtain ⟨fs1007, c1007, df1007⟩ := dG_o I1001.1 G1004 c1005 (by decide)
  have GG : dG ([(33, 9), (33, 10), (33, 11), (33, 12), (33, 13), (33, 14), (41, 7), (42, 0), (43, 0), (44, 0), (45, 0), (146, 3), (146, 4), (146, 5), (147, 0), (148, 0), (149, 0), (150, 0), (151, 0), (152, 0), (153, 0), (72, 38), (72, 39), (72, 71), (72, 75), (103, 0), (104, 0), (105, 0), (106, 0), (107, 0), (108, 0), (109, 0), (110, 0), (124, 0), (125, 0), (126, 0), (127, 0), (128, 0)] : List (Nat × Nat)) σ h σ1004 h1004 := (dG_trans (dG_sub (by decide) G1001) (dG_sub (by decide) G1004))
  refine wp1 (fun nn dd => r_pop f333_1318 rfl) ?_
  refine wp1 (fun nn dd => r_goto f333_1319) ?_
  exact kq _ _ I1004 ⟨JQ_dG J I GG (by decide), JRing_dG K.1 I GG (by decide), JBody_dG K.2.1 I GG (by decide), JShelf_dG K.2.2 I GG (by decide)⟩ GG.2.2
theorem lc_30 {X : aX} (G : hG X 302) (hX : X 0 = some (8, zab)) {L : Nat} {xs : Nat → Int32} (hX1 : X 1 = some (L, xs)) (hL : L ≤ 3072) {i : Int32} (i0 : 0 ≤ i.toInt) (i1 : i.toInt + 6 ≤ L) {Q : Option Value → aH → Prop} {σ : List Nat} {h : aH} (I : dI σ h) (J : JX h) (kq : ∀ (σ' : List Nat) (h' : aH), dI σ' h' → JX h' → dPh h' ≤ dPh h → Wp X 64 zM333 Q 2075 [some (.retAddr 1), some (.ref 0), some (.ref 72), some (.int i)] [] h') : Wp X 64 zM333 Q 1322 [some (.retAddr 1), some (.ref 0), some (.ref 72), some (.int i)] [] h := by
  obtain ⟨J, K⟩ := J
  refine wp1 (fun n d => r_aloadn f333_1322 rfl) ?_
  refine wp1 (fun n d => r_aloadnX f333_1323 rfl) ?_
  refine wp1 (fun n d => r_iloadn f333_1324 rfl) ?_
  refine w_iconst f333_1325 (fun v1325 hv1325 => ?_)
  refine w_iadd f333_1326 (by omega) (by omega) (fun v1326 hv1326 => ?_)
  refine w_xld f333_1327 hX1 (by omega) (by omega) (fun v1327 hv1327 => ?_)
  refine wp1 (fun n d => r_aloadnX f333_1328 rfl) ?_
  refine wp1 (fun n d => r_iloadn f333_1329 rfl) ?_
  refine w_iconst f333_1330 (fun v1330 hv1330 => ?_)
  refine w_iadd f333_1331 (by omega) (by omega) (fun v1331 hv1331 => ?_)
  refine w_xld f333_1332 hX1 (by omega) (by omega) (fun v1332 hv1332 => ?_)
  refine wp1 (fun n d => r_aloadnX f333_1333 rfl) ?_
  refine wp1 (fun n d => r_iloadn f333_1334 rfl) ?_
  refine w_iconst f333_1335 (fun v1335 hv1335 => ?_)
  refine w_iadd f333_1336 (by omega) (by omega) (fun v1336 hv1336 => ?_)
  refine w_xld f333_1337 hX1 (by omega) (by omega) (fun v1337 hv1337 => ?_)
  obtain ⟨fs1002, c1002⟩ := hI_o I (r := 0) (ci := 11) (by decide +kernel)
  refine wp_good (G 193 (by decide) cC193 rfl) (Y := zM174) (show zmt[174]? = some zM174 from rfl) I (ρ := [0, v1327.toInt, v1332.toInt, v1337.toInt]) (dK_v (kV_of rfl ⟨⟨by decide, by decide⟩, iR v1327, iR v1332, iR v1337, trivial⟩)) (dL_of (l := [some (.ref 0), some (.int v1327), some (.int v1332), some (.int v1337)]) ⟨lw_r (by decide), lw_i rfl, lw_i rfl, lw_i rfl, trivial⟩) (fun n d v h' e => r_virt (as := [.int v1327, .int v1332, .int v1337]) (r := []) f333_1338 c1002 (show zmt[174]? = some zM174 from rfl) rfl rfl rfl rfl rfl rfl e) (by first | decide | (show 63 + 1 ≤ _; omega)) (fun v h1001 σ1001 I1001 G1001 P1001 => ?_)
  obtain ⟨v1338, vq1338⟩ : ∃ y : Int32, v = some (.int y) := by
    obtain ⟨P, hm, ρ', rh', kP, sP⟩ := P1001
    cases List.mem_singleton.mp hm
    cases v with
    | none => exact sP.elim
    | some v =>
      obtain ⟨⟨x, y, rfl, -, -⟩, -⟩ := sP
      exact ⟨x, rfl⟩
  subst vq1338
  show Wp _ _ _ _ 1341 [some (.retAddr 1), some (.ref 0), some (.ref 72), some (.int i)] [.int v1338] _
  obtain ⟨fs1003, c1003, df1003⟩ := dG_o I.1 G1001 c1002 (by decide)
  refine wp1 (fun nn dd => r_pop f333_1341 rfl) ?_
  refine wp1 (fun n d => r_aloadn f333_1342 rfl) ?_
  refine wp1 (fun n d => r_aloadnX f333_1343 rfl) ?_
  refine wp1 (fun n d => r_iloadn f333_1344 rfl) ?_
  refine w_iconst f333_1345 (fun v1345 hv1345 => ?_)
  refine w_iadd f333_1346 (by omega) (by omega) (fun v1346 hv1346 => ?_)
  refine w_xld f333_1347 hX1 (by omega) (by omega) (fun v1347 hv1347 => ?_)
  refine wp1 (fun n d => r_aloadnX f333_1348 rfl) ?_
  refine wp1 (fun n d => r_iloadn f333_1349 rfl) ?_
  refine w_iconst f333_1350 (fun v1350 hv1350 => ?_)
  refine w_iadd f333_1351 (by omega) (by omega) (fun v1351 hv1351 => ?_)
  refine w_xld f333_1352 hX1 (by omega) (by omega) (fun v1352 hv1352 => ?_)
  refine wp1 (fun n d => r_aloadnX f333_1353 rfl) ?_
  refine wp1 (fun n d => r_iloadn f333_1354 rfl) ?_
  refine w_iconst f333_1355 (fun v1355 hv1355 => ?_)
  refine w_iadd f333_1356 (by omega) (by omega) (fun v1356 hv1356 => ?_)
  refine w_xld f333_1357 hX1 (by omega) (by omega) (fun v1357 hv1357 => ?_)
  obtain ⟨fs1005, c1005⟩ := hI_o I1001 (r := 72) (ci := 12) (by decide +kernel)
  refine wp_good (G 194 (by decide) cC194 rfl) (Y := zM281) (show zmt[281]? = some zM281 from rfl) I1001 (ρ := [0, v1347.toInt, v1352.toInt, v1357.toInt]) (dK_v (kV_of rfl ⟨⟨by decide, by decide⟩, iR v1347, iR v1352, iR v1357, trivial⟩)) (dL_of (l := [some (.ref 72), some (.int v1347), some (.int v1352), some (.int v1357), none, none, none, none, none, none]) ⟨lw_r (by decide), lw_i rfl, lw_i rfl, lw_i rfl, lw_0, lw_0, lw_0, lw_0, lw_0, lw_0, trivial⟩) (fun n d v h' e => r_virt (as := [.int v1347, .int v1352, .int v1357]) (r := []) f333_1358 c1005 (show zmt[281]? = some zM281 from rfl) rfl rfl rfl rfl rfl rfl e) (by first | decide | (show 30 + 1 ≤ _; omega)) (fun v h1004 σ1004 I1004 G1004 P1004 => ?_)
  obtain ⟨v1358, vq1358⟩ : ∃ y : Int32, v = some (.int y) := by
    obtain ⟨P, hm, ρ', rh', kP, sP⟩ := P1004
    cases List.mem_singleton.mp hm
    cases v with
    | none => exact sP.elim
    | some v =>
      obtain ⟨⟨x, y, rfl, -, -⟩, -⟩ := sP
      exact ⟨x, rfl⟩
  subst vq1358
  show Wp _ _ _ _ 1361 [some (.retAddr 1), some (.ref 0), some (.ref 72), some (.int i)] [.int v1358] _
  obtain ⟨fs1006, c1006, df1006⟩ := dG_o I1001.1 G1004 c1003 (by decide)
  obtain ⟨fs1007, c1007, df1007⟩ := dG_o I1001.1 G1004 c1005 (by decide)
  have GG : dG ([(33, 9), (33, 10), (33, 11), (33, 12), (33, 13), (33, 14), (41, 7), (42, 0), (43, 0), (44, 0), (45, 0), (47, 0), (146, 3), (146, 4), (146, 5), (147, 0), (148, 0), (149, 0), (150, 0), (151, 0), (152, 0), (153, 0), (72, 38), (72, 39), (72, 71), (72, 75), (103, 0), (104, 0), (105, 0), (106, 0), (107, 0), (108, 0), (109, 0), (110, 0), (124, 0), (125, 0), (126, 0), (127, 0), (128, 0), (130, 0), (131, 0)] : List (Nat × Nat)) σ h σ1004 h1004 := (dG_trans (dG_sub (by decide) G1001) (dG_sub (by decide) G1004))
  refine wp1 (fun nn dd => r_pop f333_1361 rfl) ?_
  refine wp1 (fun nn dd => r_goto f333_1362) ?_
  exact kq _ _ I1004 ⟨JQ_dG J I GG (by decide), JRing_dG K.1 I GG (by decide), JBody_dG K.2.1 I GG (by decide), JShelf_dG K.2.2 I GG (by decide)⟩ GG.2.2
theorem lc_31 {X : aX} (G : hG X 302) (hX : X 0 = some (8, zab)) {L : Nat} {xs : Nat → Int32} (hX1 : X 1 = some (L, xs)) (hL : L ≤ 3072) {i : Int32} (i0 : 0 ≤ i.toInt) (i1 : i.toInt + 6 ≤ L) {Q : Option Value → aH → Prop} {σ : List Nat} {h : aH} (I : dI σ h) (J : JX h) (kq : ∀ (σ' : List Nat) (h' : aH), dI σ' h' → JX h' → dPh h' ≤ dPh h → Wp X 64 zM333 Q 2075 [some (.retAddr 1), some (.ref 0), some (.ref 72), some (.int i)] [] h') : Wp X 64 zM333 Q 1365 [some (.retAddr 1), some (.ref 0), some (.ref 72), some (.int i)] [] h := by
  obtain ⟨J, K⟩ := J
  refine wp1 (fun n d => r_aloadn f333_1365 rfl) ?_
  refine wp1 (fun n d => r_aloadnX f333_1366 rfl) ?_
  refine wp1 (fun n d => r_iloadn f333_1367 rfl) ?_
  refine w_iconst f333_1368 (fun v1368 hv1368 => ?_)
  refine w_iadd f333_1369 (by omega) (by omega) (fun v1369 hv1369 => ?_)
  refine w_xld f333_1370 hX1 (by omega) (by omega) (fun v1370 hv1370 => ?_)
  obtain ⟨fs1002, c1002⟩ := hI_o I (r := 0) (ci := 11) (by decide +kernel)
  refine wp_good (G 205 (by decide) cC205 rfl) (Y := zM175) (show zmt[175]? = some zM175 from rfl) I (ρ := [0, v1370.toInt]) (dK_v (kV_of rfl ⟨⟨by decide, by decide⟩, iR v1370, trivial⟩)) (dL_of (l := [some (.ref 0), some (.int v1370)]) ⟨lw_r (by decide), lw_i rfl, trivial⟩) (fun n d v h' e => r_virt (as := [.int v1370]) (r := []) f333_1371 c1002 (show zmt[175]? = some zM175 from rfl) rfl rfl rfl rfl rfl rfl e) (by first | decide | (show 9 + 1 ≤ _; omega)) (fun v h1001 σ1001 I1001 G1001 P1001 => ?_)
  obtain ⟨v1371, vq1371⟩ : ∃ y : Int32, v = some (.int y) := by
    obtain ⟨P, hm, ρ', rh', kP, sP⟩ := P1001
    cases List.mem_singleton.mp hm
    cases v with
    | none => exact sP.elim
    | some v =>
      obtain ⟨⟨x, y, rfl, -, -⟩, -⟩ := sP
      exact ⟨x, rfl⟩
  subst vq1371
  show Wp _ _ _ _ 1374 [some (.retAddr 1), some (.ref 0), some (.ref 72), some (.int i)] [.int v1371] _
  obtain ⟨fs1003, c1003, df1003⟩ := dG_o I.1 G1001 c1002 (by decide)
  refine wp1 (fun nn dd => r_pop f333_1374 rfl) ?_
  refine wp1 (fun n d => r_aloadn f333_1375 rfl) ?_
  refine wp1 (fun n d => r_aloadnX f333_1376 rfl) ?_
  refine wp1 (fun n d => r_iloadn f333_1377 rfl) ?_
  refine w_iconst f333_1378 (fun v1378 hv1378 => ?_)
  refine w_iadd f333_1379 (by omega) (by omega) (fun v1379 hv1379 => ?_)
  refine w_xld f333_1380 hX1 (by omega) (by omega) (fun v1380 hv1380 => ?_)
  obtain ⟨fs1005, c1005⟩ := hI_o I1001 (r := 72) (ci := 12) (by decide +kernel)
  refine wp_good (G 206 (by decide) cC206 rfl) (Y := zM288) (show zmt[288]? = some zM288 from rfl) I1001 (ρ := [0, v1380.toInt]) (dK_v (kV_of rfl ⟨⟨by decide, by decide⟩, iR v1380, trivial⟩)) (dL_of (l := [some (.ref 72), some (.int v1380), none, none, none, none, none, none]) ⟨lw_r (by decide), lw_i rfl, lw_0, lw_0, lw_0, lw_0, lw_0, lw_0, trivial⟩) (fun n d v h' e => r_virt (as := [.int v1380]) (r := []) f333_1381 c1005 (show zmt[288]? = some zM288 from rfl) rfl rfl rfl rfl rfl rfl e) (by first | decide | (show 30 + 1 ≤ _; omega)) (fun v h1004 σ1004 I1004 G1004 P1004 => ?_)
  obtain ⟨v1381, vq1381⟩ : ∃ y : Int32, v = some (.int y) := by
    obtain ⟨P, hm, ρ', rh', kP, sP⟩ := P1004
    cases List.mem_singleton.mp hm
    cases v with
    | none => exact sP.elim
    | some v =>
      obtain ⟨⟨x, y, rfl, -, -⟩, -⟩ := sP
      exact ⟨x, rfl⟩
  subst vq1381
  show Wp _ _ _ _ 1384 [some (.retAddr 1), some (.ref 0), some (.ref 72), some (.int i)] [.int v1381] _
  obtain ⟨fs1006, c1006, df1006⟩ := dG_o I1001.1 G1004 c1003 (by decide)
  obtain ⟨fs1007, c1007, df1007⟩ := dG_o I1001.1 G1004 c1005 (by decide)
  have GG : dG ([(42, 0), (48, 4), (49, 0), (50, 0), (51, 0), (146, 3), (146, 4), (146, 5), (147, 0), (148, 0), (149, 0), (150, 0), (151, 0), (152, 0), (153, 0), (72, 38), (72, 39), (72, 79), (72, 81), (103, 0), (104, 0), (105, 0), (106, 0), (107, 0), (108, 0), (109, 0), (110, 0), (132, 0), (133, 0)] : List (Nat × Nat)) σ h σ1004 h1004 := (dG_trans (dG_sub (by decide) G1001) (dG_sub (by decide) G1004))
  refine wp1 (fun nn dd => r_pop f333_1384 rfl) ?_
  refine wp1 (fun nn dd => r_goto f333_1385) ?_
  exact kq _ _ I1004 ⟨JQ_dG J I GG (by decide), JRing_dG K.1 I GG (by decide), JBody_dG K.2.1 I GG (by decide), JShelf_dG K.2.2 I GG (by decide)⟩ GG.2.2
theorem lc_32 {X : aX} (G : hG X 302) (hX : X 0 = some (8, zab)) {L : Nat} {xs : Nat → Int32} (hX1 : X 1 = some (L, xs)) (hL : L ≤ 3072) {i : Int32} (i0 : 0 ≤ i.toInt) (i1 : i.toInt + 6 ≤ L) {Q : Option Value → aH → Prop} {σ : List Nat} {h : aH} (I : dI σ h) (J : JX h) (kq : ∀ (σ' : List Nat) (h' : aH), dI σ' h' → JX h' → dPh h' ≤ dPh h → Wp X 64 zM333 Q 2075 [some (.retAddr 1), some (.ref 0), some (.ref 72), some (.int i)] [] h') : Wp X 64 zM333 Q 1388 [some (.retAddr 1), some (.ref 0), some (.ref 72), some (.int i)] [] h := by
  obtain ⟨J, K⟩ := J
  refine wp1 (fun n d => r_aloadn f333_1388 rfl) ?_
  refine wp1 (fun n d => r_aloadnX f333_1389 rfl) ?_
  refine wp1 (fun n d => r_iloadn f333_1390 rfl) ?_
  refine w_iconst f333_1391 (fun v1391 hv1391 => ?_)
  refine w_iadd f333_1392 (by omega) (by omega) (fun v1392 hv1392 => ?_)
  refine w_xld f333_1393 hX1 (by omega) (by omega) (fun v1393 hv1393 => ?_)
  obtain ⟨fs1002, c1002⟩ := hI_o I (r := 0) (ci := 11) (by decide +kernel)
  refine wp_good (G 207 (by decide) cC207 rfl) (Y := zM176) (show zmt[176]? = some zM176 from rfl) I (ρ := [0, v1393.toInt]) (dK_v (kV_of rfl ⟨⟨by decide, by decide⟩, iR v1393, trivial⟩)) (dL_of (l := [some (.ref 0), some (.int v1393)]) ⟨lw_r (by decide), lw_i rfl, trivial⟩) (fun n d v h' e => r_virt (as := [.int v1393]) (r := []) f333_1394 c1002 (show zmt[176]? = some zM176 from rfl) rfl rfl rfl rfl rfl rfl e) (by first | decide | (show 1 + 1 ≤ _; omega)) (fun v h1001 σ1001 I1001 G1001 P1001 => ?_)
  obtain ⟨v1394, vq1394⟩ : ∃ y : Int32, v = some (.int y) := by
    obtain ⟨P, hm, ρ', rh', kP, sP⟩ := P1001
    cases List.mem_singleton.mp hm
    cases v with
    | none => exact sP.elim
    | some v =>
      obtain ⟨⟨x, y, rfl, -, -⟩, -⟩ := sP
      exact ⟨x, rfl⟩
  subst vq1394
  show Wp _ _ _ _ 1397 [some (.retAddr 1), some (.ref 0), some (.ref 72), some (.int i)] [.int v1394] _
  obtain ⟨fs1003, c1003, df1003⟩ := dG_o I.1 G1001 c1002 (by decide)
  refine wp1 (fun nn dd => r_pop f333_1397 rfl) ?_
  refine wp1 (fun n d => r_aloadn f333_1398 rfl) ?_
  refine wp1 (fun n d => r_aloadnX f333_1399 rfl) ?_
  refine wp1 (fun n d => r_iloadn f333_1400 rfl) ?_
  refine w_iconst f333_1401 (fun v1401 hv1401 => ?_)
  refine w_iadd f333_1402 (by omega) (by omega) (fun v1402 hv1402 => ?_)
  refine w_xld f333_1403 hX1 (by omega) (by omega) (fun v1403 hv1403 => ?_)
  obtain ⟨fs1005, c1005⟩ := hI_o I1001 (r := 72) (ci := 12) (by decide +kernel)
  refine wp_good (G 208 (by decide) cC208 rfl) (Y := zM289) (show zmt[289]? = some zM289 from rfl) I1001 (ρ := [0, v1403.toInt]) (dK_v (kV_of rfl ⟨⟨by decide, by decide⟩, iR v1403, trivial⟩)) (dL_of (l := [some (.ref 72), some (.int v1403)]) ⟨lw_r (by decide), lw_i rfl, trivial⟩) (fun n d v h' e => r_virt (as := [.int v1403]) (r := []) f333_1404 c1005 (show zmt[289]? = some zM289 from rfl) rfl rfl rfl rfl rfl rfl e) (by first | decide | (show 1 + 1 ≤ _; omega)) (fun v h1004 σ1004 I1004 G1004 P1004 => ?_)
  obtain ⟨v1404, vq1404⟩ : ∃ y : Int32, v = some (.int y) := by
    obtain ⟨P, hm, ρ', rh', kP, sP⟩ := P1004
    cases List.mem_singleton.mp hm
    cases v with
    | none => exact sP.elim
    | some v =>
      obtain ⟨⟨x, y, rfl, -, -⟩, -⟩ := sP
      exact ⟨x, rfl⟩
  subst vq1404
  show Wp _ _ _ _ 1407 [some (.retAddr 1), some (.ref 0), some (.ref 72), some (.int i)] [.int v1404] _
  obtain ⟨fs1006, c1006, df1006⟩ := dG_o I1001.1 G1004 c1003 (by decide)
  obtain ⟨fs1007, c1007, df1007⟩ := dG_o I1001.1 G1004 c1005 (by decide)
  have GG : dG ([] : List (Nat × Nat)) σ h σ1004 h1004 := (dG_trans (dG_sub (by decide) G1001) (dG_sub (by decide) G1004))
  refine wp1 (fun nn dd => r_pop f333_1407 rfl) ?_
  refine wp1 (fun nn dd => r_goto f333_1408) ?_
  exact kq _ _ I1004 ⟨JQ_dG J I GG (by decide), JRing_dG K.1 I GG (by decide), JBody_dG K.2.1 I GG (by decide), JShelf_dG K.2.2 I GG (by decide)⟩ GG.2.2
theorem lc_33 {X : aX} (G : hG X 302) (hX : X 0 = some (8, zab)) {L : Nat} {xs : Nat → Int32} (hX1 : X 1 = some (L, xs)) (hL : L ≤ 3072) {i : Int32} (i0 : 0 ≤ i.toInt) (i1 : i.toInt + 6 ≤ L) {Q : Option Value → aH → Prop} {σ : List Nat} {h : aH} (I : dI σ h) (J : JX h) (kq : ∀ (σ' : List Nat) (h' : aH), dI σ' h' → JX h' → dPh h' ≤ dPh h → Wp X 64 zM333 Q 2075 [some (.retAddr 1), some (.ref 0), some (.ref 72), some (.int i)] [] h') : Wp X 64 zM333 Q 1411 [some (.retAddr 1), some (.ref 0), some (.ref 72), some (.int i)] [] h := by
  obtain ⟨J, K⟩ := J
  refine wp1 (fun n d => r_aloadn f333_1411 rfl) ?_
  refine wp1 (fun n d => r_aloadnX f333_1412 rfl) ?_
  refine wp1 (fun n d => r_iloadn f333_1413 rfl) ?_
  refine w_iconst f333_1414 (fun v1414 hv1414 => ?_)
  refine w_iadd f333_1415 (by omega) (by omega) (fun v1415 hv1415 => ?_)
  refine w_xld f333_1416 hX1 (by omega) (by omega) (fun v1416 hv1416 => ?_)
  obtain ⟨fs1002, c1002⟩ := hI_o I (r := 0) (ci := 11) (by decide +kernel)
  refine wp_good (G 209 (by decide) cC209 rfl) (Y := zM177) (show zmt[177]? = some zM177 from rfl) I (ρ := [0, v1416.toInt]) (dK_v (kV_of rfl ⟨⟨by decide, by decide⟩, iR v1416, trivial⟩)) (dL_of (l := [some (.ref 0), some (.int v1416)]) ⟨lw_r (by decide), lw_i rfl, trivial⟩) (fun n d v h' e => r_virt (as := [.int v1416]) (r := []) f333_1417 c1002 (show zmt[177]? = some zM177 from rfl) rfl rfl rfl rfl rfl rfl e) (by first | decide | (show 0 + 1 ≤ _; omega)) (fun v h1001 σ1001 I1001 G1001 P1001 => ?_)
  obtain ⟨v1417, vq1417⟩ : ∃ y : Int32, v = some (.int y) := by
    obtain ⟨P, hm, ρ', rh', kP, sP⟩ := P1001
    cases List.mem_singleton.mp hm
    cases v with
    | none => exact sP.elim
    | some v =>
      obtain ⟨⟨x, y, rfl, -, -⟩, -⟩ := sP
      exact ⟨x, rfl⟩
  subst vq1417
  show Wp _ _ _ _ 1420 [some (.retAddr 1), some (.ref 0), some (.ref 72), some (.int i)] [.int v1417] _
  obtain ⟨fs1003, c1003, df1003⟩ := dG_o I.1 G1001 c1002 (by decide)
  refine wp1 (fun nn dd => r_pop f333_1420 rfl) ?_
  refine wp1 (fun n d => r_aloadn f333_1421 rfl) ?_
  refine wp1 (fun n d => r_aloadnX f333_1422 rfl) ?_
  refine wp1 (fun n d => r_iloadn f333_1423 rfl) ?_
  refine w_iconst f333_1424 (fun v1424 hv1424 => ?_)
  refine w_iadd f333_1425 (by omega) (by omega) (fun v1425 hv1425 => ?_)
  refine w_xld f333_1426 hX1 (by omega) (by omega) (fun v1426 hv1426 => ?_)
  obtain ⟨fs1005, c1005⟩ := hI_o I1001 (r := 72) (ci := 12) (by decide +kernel)
  refine wp_good (G 210 (by decide) cC210 rfl) (Y := zM290) (show zmt[290]? = some zM290 from rfl) I1001 (ρ := [0, v1426.toInt]) (dK_v (kV_of rfl ⟨⟨by decide, by decide⟩, iR v1426, trivial⟩)) (dL_of (l := [some (.ref 72), some (.int v1426)]) ⟨lw_r (by decide), lw_i rfl, trivial⟩) (fun n d v h' e => r_virt (as := [.int v1426]) (r := []) f333_1427 c1005 (show zmt[290]? = some zM290 from rfl) rfl rfl rfl rfl rfl rfl e) (by first | decide | (show 0 + 1 ≤ _; omega)) (fun v h1004 σ1004 I1004 G1004 P1004 => ?_)
  obtain ⟨v1427, vq1427⟩ : ∃ y : Int32, v = some (.int y) := by
    obtain ⟨P, hm, ρ', rh', kP, sP⟩ := P1004
    cases List.mem_singleton.mp hm
    cases v with
    | none => exact sP.elim
    | some v =>
      obtain ⟨⟨x, y, rfl, -, -⟩, -⟩ := sP
      exact ⟨x, rfl⟩
  subst vq1427
  show Wp _ _ _ _ 1430 [some (.retAddr 1), some (.ref 0), some (.ref 72), some (.int i)] [.int v1427] _
  obtain ⟨fs1006, c1006, df1006⟩ := dG_o I1001.1 G1004 c1003 (by decide)
  obtain ⟨fs1007, c1007, df1007⟩ := dG_o I1001.1 G1004 c1005 (by decide)
  have GG : dG ([(48, 7), (72, 83)] : List (Nat × Nat)) σ h σ1004 h1004 := (dG_trans (dG_sub (by decide) G1001) (dG_sub (by decide) G1004))
  refine wp1 (fun nn dd => r_pop f333_1430 rfl) ?_
  refine wp1 (fun nn dd => r_goto f333_1431) ?_
  exact kq _ _ I1004 ⟨JQ_dG J I GG (by decide), JRing_dG K.1 I GG (by decide), JBody_dG K.2.1 I GG (by decide), JShelf_dG K.2.2 I GG (by decide)⟩ GG.2.2
theorem lc_34 {X : aX} (G : hG X 302) (hX : X 0 = some (8, zab)) {L : Nat} {xs : Nat → Int32} (hX1 : X 1 = some (L, xs)) (hL : L ≤ 3072) {i : Int32} (i0 : 0 ≤ i.toInt) (i1 : i.toInt + 6 ≤ L) {Q : Option Value → aH → Prop} {σ : List Nat} {h : aH} (I : dI σ h) (J : JX h) (kq : ∀ (σ' : List Nat) (h' : aH), dI σ' h' → JX h' → dPh h' ≤ dPh h → Wp X 64 zM333 Q 2075 [some (.retAddr 1), some (.ref 0), some (.ref 72), some (.int i)] [] h') : Wp X 64 zM333 Q 1434 [some (.retAddr 1), some (.ref 0), some (.ref 72), some (.int i)] [] h := by
  obtain ⟨J, K⟩ := J
  refine wp1 (fun n d => r_aloadn f333_1434 rfl) ?_
  refine wp1 (fun n d => r_aloadnX f333_1435 rfl) ?_
  refine wp1 (fun n d => r_iloadn f333_1436 rfl) ?_
  refine w_iconst f333_1437 (fun v1437 hv1437 => ?_)
  refine w_iadd f333_1438 (by omega) (by omega) (fun v1438 hv1438 => ?_)
  refine w_xld f333_1439 hX1 (by omega) (by omega) (fun v1439 hv1439 => ?_)
  refine wp1 (fun n d => r_aloadnX f333_1440 rfl) ?_
  refine wp1 (fun n d => r_iloadn f333_1441 rfl) ?_
  refine w_iconst f333_1442 (fun v1442 hv1442 => ?_)
  refine w_iadd f333_1443 (by omega) (by omega) (fun v1443 hv1443 => ?_)
  refine w_xld f333_1444 hX1 (by omega) (by omega) (fun v1444 hv1444 => ?_)
  refine wp1 (fun n d => r_aloadnX f333_1445 rfl) ?_
  refine wp1 (fun n d => r_iloadn f333_1446 rfl) ?_
  refine w_iconst f333_1447 (fun v1447 hv1447 => ?_)
  refine w_iadd f333_1448 (by omega) (by omega) (fun v1448 hv1448 => ?_)
  refine w_xld f333_1449 hX1 (by omega) (by omega) (fun v1449 hv1449 => ?_)
  obtain ⟨fs1002, c1002⟩ := hI_o I (r := 0) (ci := 11) (by decide +kernel)
  refine wp_good (G 216 (by decide) cC216 rfl) (Y := zM178) (show zmt[178]? = some zM178 from rfl) I (ρ := [0, v1439.toInt, v1444.toInt, v1449.toInt]) (dK_v (kV_of rfl ⟨⟨by decide, by decide⟩, iR v1439, iR v1444, iR v1449, trivial⟩)) (dL_of (l := [some (.ref 0), some (.int v1439), some (.int v1444), some (.int v1449)]) ⟨lw_r (by decide), lw_i rfl, lw_i rfl, lw_i rfl, trivial⟩) (fun n d v h' e => r_virt (as := [.int v1439, .int v1444, .int v1449]) (r := []) f333_1450 c1002 (show zmt[178]? = some zM178 from rfl) rfl rfl rfl rfl rfl rfl e) (by first | decide | (show 11 + 1 ≤ _; omega)) (fun v h1001 σ1001 I1001 G1001 P1001 => ?_)
  obtain ⟨v1450, vq1450⟩ : ∃ y : Int32, v = some (.int y) := by
    obtain ⟨P, hm, ρ', rh', kP, sP⟩ := P1001
    cases List.mem_singleton.mp hm
    cases v with
    | none => exact sP.elim
    | some v =>
      obtain ⟨⟨x, y, rfl, -, -⟩, -⟩ := sP
      exact ⟨x, rfl⟩
  subst vq1450
  show Wp _ _ _ _ 1453 [some (.retAddr 1), some (.ref 0), some (.ref 72), some (.int i)] [.int v1450] _
  obtain ⟨fs1003, c1003, df1003⟩ := dG_o I.1 G1001 c1002 (by decide)
  refine wp1 (fun nn dd => r_pop f333_1453 rfl) ?_
  refine wp1 (fun n d => r_aloadn f333_1454 rfl) ?_
  refine wp1 (fun n d => r_aloadnX f333_1455 rfl) ?_
  refine wp1 (fun n d => r_iloadn f333_1456 rfl) ?_
  refine w_iconst f333_1457 (fun v1457 hv1457 => ?_)
  refine w_iadd f333_1458 (by omega) (by omega) (fun v1458 hv1458 => ?_)
  refine w_xld f333_1459 hX1 (by omega) (by omega) (fun v1459 hv1459 => ?_)
  refine wp1 (fun n d => r_aloadnX f333_1460 rfl) ?_
  refine wp1 (fun n d => r_iloadn f333_1461 rfl) ?_
  refine w_iconst f333_1462 (fun v1462 hv1462 => ?_)
  refine w_iadd f333_1463 (by omega) (by omega) (fun v1463 hv1463 => ?_)
  refine w_xld f333_1464 hX1 (by omega) (by omega) (fun v1464 hv1464 => ?_)
  refine wp1 (fun n d => r_aloadnX f333_1465 rfl) ?_
  refine wp1 (fun n d => r_iloadn f333_1466 rfl) ?_
  refine w_iconst f333_1467 (fun v1467 hv1467 => ?_)
  refine w_iadd f333_1468 (by omega) (by omega) (fun v1468 hv1468 => ?_)
  refine w_xld f333_1469 hX1 (by omega) (by omega) (fun v1469 hv1469 => ?_)
  obtain ⟨fs1005, c1005⟩ := hI_o I1001 (r := 72) (ci := 12) (by decide +kernel)
  refine wp_good (G 217 (by decide) cC217 rfl) (Y := zM292) (show zmt[292]? = some zM292 from rfl) I1001 (ρ := [0, v1459.toInt, v1464.toInt, v1469.toInt]) (dK_v (kV_of rfl ⟨⟨by decide, by decide⟩, iR v1459, iR v1464, iR v1469, trivial⟩)) (dL_of (l := [some (.ref 72), some (.int v1459), some (.int v1464), some (.int v1469), none, none, none, none, none, none]) ⟨lw_r (by decide), lw_i rfl, lw_i rfl, lw_i rfl, lw_0, lw_0, lw_0, lw_0, lw_0, lw_0, trivial⟩) (fun n d v h' e => r_virt (as := [.int v1459, .int v1464, .int v1469]) (r := []) f333_1470 c1005 (show zmt[292]? = some zM292 from rfl) rfl rfl rfl rfl rfl rfl e) (by first | decide | (show 30 + 1 ≤ _; omega)) (fun v h1004 σ1004 I1004 G1004 P1004 => ?_)
  obtain ⟨v1470, vq1470⟩ : ∃ y : Int32, v = some (.int y) := by
    obtain ⟨P, hm, ρ', rh', kP, sP⟩ := P1004
    cases List.mem_singleton.mp hm
    cases v with
    | none => exact sP.elim
    | some v =>
      obtain ⟨⟨x, y, rfl, -, -⟩, -⟩ := sP
      exact ⟨x, rfl⟩
  subst vq1470
  show Wp _ _ _ _ 1473 [some (.retAddr 1), some (.ref 0), some (.ref 72), some (.int i)] [.int v1470] _
  obtain ⟨fs1006, c1006, df1006⟩ := dG_o I1001.1 G1004 c1003 (by decide)
  obtain ⟨fs1007, c1007, df1007⟩ := dG_o I1001.1 G1004 c1005 (by decide)
  have GG : dG ([(42, 0), (48, 7), (48, 9), (48, 12), (52, 0), (53, 0), (54, 0), (146, 3), (146, 4), (146, 5), (147, 0), (148, 0), (149, 0), (150, 0), (151, 0), (152, 0), (153, 0), (72, 38), (72, 39), (72, 83), (72, 84), (103, 0), (104, 0), (105, 0), (106, 0), (107, 0), (108, 0), (109, 0), (110, 0), (134, 0), (135, 0)] : List (Nat × Nat)) σ h σ1004 h1004 := (dG_trans (dG_sub (by decide) G1001) (dG_sub (by decide) G1004))
  refine wp1 (fun nn dd => r_pop f333_1473 rfl) ?_
  refine wp1 (fun nn dd => r_goto f333_1474) ?_
  exact kq _ _ I1004 ⟨JQ_dG J I GG (by decide), JRing_dG K.1 I GG (by decide), JBody_dG K.2.1 I GG (by decide), JShelf_dG K.2.2 I GG (by decide)⟩ GG.2.2
