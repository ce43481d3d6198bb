theorem dL_law__1048 : decode cL_law_ 1048 = .ok (.iconst 0, 1) := by decide +kernel
theorem dL_law__1049 : decode cL_law_ 1049 = .ok (.ireturn, 1) := by decide +kernel
theorem dL_law__1050 : decode cL_law_ 1050 = .ok (.iload 5, 2) := by decide +kernel
theorem dL_law__1052 : decode cL_law_ 1052 = .ok (.ifCond .ne 15, 3) := by decide +kernel
theorem dL_law__1055 : decode cL_law_ 1055 = .ok (.aload_n 3, 1) := by decide +kernel
theorem dL_law__1056 : decode cL_law_ 1056 = .ok (.iconst 0, 1) := by decide +kernel
theorem dL_law__1057 : decode cL_law_ 1057 = .ok (.laload, 1) := by decide +kernel
theorem dL_law__1058 : decode cL_law_ 1058 = .ok (.iload 6, 2) := by decide +kernel
theorem dL_law__1060 : decode cL_law_ 1060 = .ok (.i2l, 1) := by decide +kernel
theorem dL_law__1061 : decode cL_law_ 1061 = .ok (.lcmp, 1) := by decide +kernel
theorem dL_law__1062 : decode cL_law_ 1062 = .ok (.ifCond .eq 5, 3) := by decide +kernel
theorem dL_law__1065 : decode cL_law_ 1065 = .ok (.iconst 0, 1) := by decide +kernel
theorem dL_law__1066 : decode cL_law_ 1066 = .ok (.ireturn, 1) := by decide +kernel
theorem dL_law__1067 : decode cL_law_ 1067 = .ok (.goto 1504, 3) := by decide +kernel
theorem dL_law__1070 : decode cL_law_ 1070 = .ok (.aload_n 1, 1) := by decide +kernel
theorem dL_law__1071 : decode cL_law_ 1071 = .ok (.aload_n 0, 1) := by decide +kernel
theorem dL_law__1072 : decode cL_law_ 1072 = .ok (.iload 4, 2) := by decide +kernel
theorem dL_law__1074 : decode cL_law_ 1074 = .ok (.iconst 1, 1) := by decide +kernel
theorem dL_law__1075 : decode cL_law_ 1075 = .ok (.iadd, 1) := by decide +kernel
theorem dL_law__1076 : decode cL_law_ 1076 = .ok (.iaload, 1) := by decide +kernel
theorem dL_law__1077 : decode cL_law_ 1077 = .ok (.aload_n 3, 1) := by decide +kernel
theorem dL_law__1078 : decode cL_law_ 1078 = .ok (.invokestatic 170, 3) := by decide +kernel
theorem dL_law__1081 : decode cL_law_ 1081 = .ok (.istore 5, 2) := by decide +kernel
theorem dL_law__1083 : decode cL_law_ 1083 = .ok (.aload_n 2, 1) := by decide +kernel
theorem dL_law__1084 : decode cL_law_ 1084 = .ok (.aload_n 0, 1) := by decide +kernel
theorem dL_law__1085 : decode cL_law_ 1085 = .ok (.iload 4, 2) := by decide +kernel
theorem dL_law__1087 : decode cL_law_ 1087 = .ok (.iconst 1, 1) := by decide +kernel
theorem dL_law__1088 : decode cL_law_ 1088 = .ok (.iadd, 1) := by decide +kernel
theorem dL_law__1089 : decode cL_law_ 1089 = .ok (.iaload, 1) := by decide +kernel
theorem dL_law__1090 : decode cL_law_ 1090 = .ok (.invokevirtual 172, 3) := by decide +kernel
theorem dL_law__1093 : decode cL_law_ 1093 = .ok (.istore 6, 2) := by decide +kernel
theorem dL_law__1095 : decode cL_law_ 1095 = .ok (.aload_n 2, 1) := by decide +kernel
theorem dL_law__1096 : decode cL_law_ 1096 = .ok (.invokevirtual 129, 3) := by decide +kernel
theorem dL_law__1099 : decode cL_law_ 1099 = .ok (.iload 5, 2) := by decide +kernel
theorem dL_law__1101 : decode cL_law_ 1101 = .ok (.if_icmp .eq 5, 3) := by decide +kernel
theorem dL_law__1104 : decode cL_law_ 1104 = .ok (.iconst 0, 1) := by decide +kernel
theorem dL_law__1105 : decode cL_law_ 1105 = .ok (.ireturn, 1) := by decide +kernel
theorem dL_law__1106 : decode cL_law_ 1106 = .ok (.iload 5, 2) := by decide +kernel
theorem dL_law__1108 : decode cL_law_ 1108 = .ok (.ifCond .ne 15, 3) := by decide +kernel
theorem dL_law__1111 : decode cL_law_ 1111 = .ok (.aload_n 3, 1) := by decide +kernel
theorem dL_law__1112 : decode cL_law_ 1112 = .ok (.iconst 0, 1) := by decide +kernel
theorem dL_law__1113 : decode cL_law_ 1113 = .ok (.laload, 1) := by decide +kernel
theorem dL_law__1114 : decode cL_law_ 1114 = .ok (.iload 6, 2) := by decide +kernel
theorem dL_law__1116 : decode cL_law_ 1116 = .ok (.i2l, 1) := by decide +kernel
theorem dL_law__1117 : decode cL_law_ 1117 = .ok (.lcmp, 1) := by decide +kernel
theorem dL_law__1118 : decode cL_law_ 1118 = .ok (.ifCond .eq 5, 3) := by decide +kernel
theorem dL_law__1121 : decode cL_law_ 1121 = .ok (.iconst 0, 1) := by decide +kernel
theorem dL_law__1122 : decode cL_law_ 1122 = .ok (.ireturn, 1) := by decide +kernel
theorem dL_law__1123 : decode cL_law_ 1123 = .ok (.goto 1448, 3) := by decide +kernel
theorem dL_law__1126 : decode cL_law_ 1126 = .ok (.aload_n 1, 1) := by decide +kernel
theorem dL_law__1127 : decode cL_law_ 1127 = .ok (.aload_n 0, 1) := by decide +kernel
theorem dL_law__1128 : decode cL_law_ 1128 = .ok (.iload 4, 2) := by decide +kernel
theorem dL_law__1130 : decode cL_law_ 1130 = .ok (.iconst 1, 1) := by decide +kernel
theorem dL_law__1131 : decode cL_law_ 1131 = .ok (.iadd, 1) := by decide +kernel
theorem dL_law__1132 : decode cL_law_ 1132 = .ok (.iaload, 1) := by decide +kernel
theorem dL_law__1133 : decode cL_law_ 1133 = .ok (.aload_n 3, 1) := by decide +kernel
theorem dL_law__1134 : decode cL_law_ 1134 = .ok (.invokestatic 173, 3) := by decide +kernel
theorem dL_law__1137 : decode cL_law_ 1137 = .ok (.istore 5, 2) := by decide +kernel
theorem dL_law__1139 : decode cL_law_ 1139 = .ok (.aload_n 2, 1) := by decide +kernel
theorem dL_law__1140 : decode cL_law_ 1140 = .ok (.aload_n 0, 1) := by decide +kernel
theorem dL_law__1141 : decode cL_law_ 1141 = .ok (.iload 4, 2) := by decide +kernel
theorem dL_law__1143 : decode cL_law_ 1143 = .ok (.iconst 1, 1) := by decide +kernel
theorem dL_law__1144 : decode cL_law_ 1144 = .ok (.iadd, 1) := by decide +kernel
theorem dL_law__1145 : decode cL_law_ 1145 = .ok (.iaload, 1) := by decide +kernel
theorem dL_law__1146 : decode cL_law_ 1146 = .ok (.invokevirtual 175, 3) := by decide +kernel
theorem dL_law__1149 : decode cL_law_ 1149 = .ok (.istore 6, 2) := by decide +kernel
theorem dL_law__1151 : decode cL_law_ 1151 = .ok (.aload_n 2, 1) := by decide +kernel
theorem dL_law__1152 : decode cL_law_ 1152 = .ok (.invokevirtual 129, 3) := by decide +kernel
theorem dL_law__1155 : decode cL_law_ 1155 = .ok (.iload 5, 2) := by decide +kernel
theorem dL_law__1157 : decode cL_law_ 1157 = .ok (.if_icmp .eq 5, 3) := by decide +kernel
theorem dL_law__1160 : decode cL_law_ 1160 = .ok (.iconst 0, 1) := by decide +kernel
theorem dL_law__1161 : decode cL_law_ 1161 = .ok (.ireturn, 1) := by decide +kernel
theorem dL_law__1162 : decode cL_law_ 1162 = .ok (.iload 5, 2) := by decide +kernel
theorem dL_law__1164 : decode cL_law_ 1164 = .ok (.ifCond .ne 15, 3) := by decide +kernel
theorem dL_law__1167 : decode cL_law_ 1167 = .ok (.aload_n 3, 1) := by decide +kernel
theorem dL_law__1168 : decode cL_law_ 1168 = .ok (.iconst 0, 1) := by decide +kernel
theorem dL_law__1169 : decode cL_law_ 1169 = .ok (.laload, 1) := by decide +kernel
theorem dL_law__1170 : decode cL_law_ 1170 = .ok (.iload 6, 2) := by decide +kernel
theorem dL_law__1172 : decode cL_law_ 1172 = .ok (.i2l, 1) := by decide +kernel
theorem dL_law__1173 : decode cL_law_ 1173 = .ok (.lcmp, 1) := by decide +kernel
theorem dL_law__1174 : decode cL_law_ 1174 = .ok (.ifCond .eq 5, 3) := by decide +kernel
theorem dL_law__1177 : decode cL_law_ 1177 = .ok (.iconst 0, 1) := by decide +kernel
theorem dL_law__1178 : decode cL_law_ 1178 = .ok (.ireturn, 1) := by decide +kernel
theorem dL_law__1179 : decode cL_law_ 1179 = .ok (.goto 1392, 3) := by decide +kernel
theorem dL_law__1182 : decode cL_law_ 1182 = .ok (.aload_n 1, 1) := by decide +kernel
theorem dL_law__1183 : decode cL_law_ 1183 = .ok (.aload_n 0, 1) := by decide +kernel
theorem dL_law__1184 : decode cL_law_ 1184 = .ok (.iload 4, 2) := by decide +kernel
theorem dL_law__1186 : decode cL_law_ 1186 = .ok (.iconst 1, 1) := by decide +kernel
theorem dL_law__1187 : decode cL_law_ 1187 = .ok (.iadd, 1) := by decide +kernel
theorem dL_law__1188 : decode cL_law_ 1188 = .ok (.iaload, 1) := by decide +kernel
theorem dL_law__1189 : decode cL_law_ 1189 = .ok (.aload_n 0, 1) := by decide +kernel
theorem dL_law__1190 : decode cL_law_ 1190 = .ok (.iload 4, 2) := by decide +kernel
theorem dL_law__1192 : decode cL_law_ 1192 = .ok (.iconst 2, 1) := by decide +kernel
theorem dL_law__1193 : decode cL_law_ 1193 = .ok (.iadd, 1) := by decide +kernel
theorem dL_law__1194 : decode cL_law_ 1194 = .ok (.iaload, 1) := by decide +kernel
theorem dL_law__1195 : decode cL_law_ 1195 = .ok (.aload_n 3, 1) := by decide +kernel
theorem dL_law__1196 : decode cL_law_ 1196 = .ok (.invokestatic 176, 3) := by decide +kernel
theorem dL_law__1199 : decode cL_law_ 1199 = .ok (.istore 5, 2) := by decide +kernel
theorem dL_law__1201 : decode cL_law_ 1201 = .ok (.aload_n 2, 1) := by decide +kernel
theorem dL_law__1202 : decode cL_law_ 1202 = .ok (.aload_n 0, 1) := by decide +kernel
theorem dL_law__1203 : decode cL_law_ 1203 = .ok (.iload 4, 2) := by decide +kernel
theorem dL_law__1205 : decode cL_law_ 1205 = .ok (.iconst 1, 1) := by decide +kernel
theorem dL_law__1206 : decode cL_law_ 1206 = .ok (.iadd, 1) := by decide +kernel
theorem dL_law__1207 : decode cL_law_ 1207 = .ok (.iaload, 1) := by decide +kernel
theorem dL_law__1208 : decode cL_law_ 1208 = .ok (.aload_n 0, 1) := by decide +kernel
theorem dL_law__1209 : decode cL_law_ 1209 = .ok (.iload 4, 2) := by decide +kernel
theorem dL_law__1211 : decode cL_law_ 1211 = .ok (.iconst 2, 1) := by decide +kernel
theorem dL_law__1212 : decode cL_law_ 1212 = .ok (.iadd, 1) := by decide +kernel
theorem dL_law__1213 : decode cL_law_ 1213 = .ok (.iaload, 1) := by decide +kernel
theorem dL_law__1214 : decode cL_law_ 1214 = .ok (.invokevirtual 178, 3) := by decide +kernel
theorem dL_law__1217 : decode cL_law_ 1217 = .ok (.istore 6, 2) := by decide +kernel
theorem dL_law__1219 : decode cL_law_ 1219 = .ok (.aload_n 2, 1) := by decide +kernel
theorem dL_law__1220 : decode cL_law_ 1220 = .ok (.invokevirtual 129, 3) := by decide +kernel
theorem dL_law__1223 : decode cL_law_ 1223 = .ok (.iload 5, 2) := by decide +kernel
theorem dL_law__1225 : decode cL_law_ 1225 = .ok (.if_icmp .eq 5, 3) := by decide +kernel
theorem dL_law__1228 : decode cL_law_ 1228 = .ok (.iconst 0, 1) := by decide +kernel
theorem dL_law__1229 : decode cL_law_ 1229 = .ok (.ireturn, 1) := by decide +kernel
theorem dL_law__1230 : decode cL_law_ 1230 = .ok (.iload 5, 2) := by decide +kernel
theorem dL_law__1232 : decode cL_law_ 1232 = .ok (.ifCond .ne 15, 3) := by decide +kernel
theorem dL_law__1235 : decode cL_law_ 1235 = .ok (.aload_n 3, 1) := by decide +kernel
theorem dL_law__1236 : decode cL_law_ 1236 = .ok (.iconst 0, 1) := by decide +kernel
theorem dL_law__1237 : decode cL_law_ 1237 = .ok (.laload, 1) := by decide +kernel
theorem dL_law__1238 : decode cL_law_ 1238 = .ok (.iload 6, 2) := by decide +kernel
theorem dL_law__1240 : decode cL_law_ 1240 = .ok (.i2l, 1) := by decide +kernel
theorem dL_law__1241 : decode cL_law_ 1241 = .ok (.lcmp, 1) := by decide +kernel
theorem dL_law__1242 : decode cL_law_ 1242 = .ok (.ifCond .eq 5, 3) := by decide +kernel
theorem dL_law__1245 : decode cL_law_ 1245 = .ok (.iconst 0, 1) := by decide +kernel
theorem dL_law__1246 : decode cL_law_ 1246 = .ok (.ireturn, 1) := by decide +kernel
theorem dL_law__1247 : decode cL_law_ 1247 = .ok (.goto 1324, 3) := by decide +kernel
theorem dL_law__1250 : decode cL_law_ 1250 = .ok (.aload_n 1, 1) := by decide +kernel
theorem dL_law__1251 : decode cL_law_ 1251 = .ok (.aload_n 0, 1) := by decide +kernel
theorem dL_law__1252 : decode cL_law_ 1252 = .ok (.iload 4, 2) := by decide +kernel
theorem dL_law__1254 : decode cL_law_ 1254 = .ok (.iconst 1, 1) := by decide +kernel
theorem dL_law__1255 : decode cL_law_ 1255 = .ok (.iadd, 1) := by decide +kernel
theorem dL_law__1256 : decode cL_law_ 1256 = .ok (.iaload, 1) := by decide +kernel
theorem dL_law__1257 : decode cL_law_ 1257 = .ok (.aload_n 0, 1) := by decide +kernel
theorem dL_law__1258 : decode cL_law_ 1258 = .ok (.iload 4, 2) := by decide +kernel
theorem dL_law__1260 : decode cL_law_ 1260 = .ok (.iconst 2, 1) := by decide +kernel
theorem dL_law__1261 : decode cL_law_ 1261 = .ok (.iadd, 1) := by decide +kernel
theorem dL_law__1262 : decode cL_law_ 1262 = .ok (.iaload, 1) := by decide +kernel
theorem dL_law__1263 : decode cL_law_ 1263 = .ok (.aload_n 3, 1) := by decide +kernel
theorem dL_law__1264 : decode cL_law_ 1264 = .ok (.invokestatic 179, 3) := by decide +kernel
theorem dL_law__1267 : decode cL_law_ 1267 = .ok (.istore 5, 2) := by decide +kernel
theorem dL_law__1269 : decode cL_law_ 1269 = .ok (.aload_n 2, 1) := by decide +kernel
theorem dL_law__1270 : decode cL_law_ 1270 = .ok (.aload_n 0, 1) := by decide +kernel
theorem dL_law__1271 : decode cL_law_ 1271 = .ok (.iload 4, 2) := by decide +kernel
theorem dL_law__1273 : decode cL_law_ 1273 = .ok (.iconst 1, 1) := by decide +kernel
theorem dL_law__1274 : decode cL_law_ 1274 = .ok (.iadd, 1) := by decide +kernel
theorem dL_law__1275 : decode cL_law_ 1275 = .ok (.iaload, 1) := by decide +kernel
theorem dL_law__1276 : decode cL_law_ 1276 = .ok (.aload_n 0, 1) := by decide +kernel
theorem dL_law__1277 : decode cL_law_ 1277 = .ok (.iload 4, 2) := by decide +kernel
theorem dL_law__1279 : decode cL_law_ 1279 = .ok (.iconst 2, 1) := by decide +kernel
theorem dL_law__1280 : decode cL_law_ 1280 = .ok (.iadd, 1) := by decide +kernel
theorem dL_law__1281 : decode cL_law_ 1281 = .ok (.iaload, 1) := by decide +kernel
theorem dL_law__1282 : decode cL_law_ 1282 = .ok (.invokevirtual 181, 3) := by decide +kernel
theorem dL_law__1285 : decode cL_law_ 1285 = .ok (.istore 6, 2) := by decide +kernel
theorem dL_law__1287 : decode cL_law_ 1287 = .ok (.aload_n 2, 1) := by decide +kernel
theorem dL_law__1288 : decode cL_law_ 1288 = .ok (.invokevirtual 129, 3) := by decide +kernel
theorem dL_law__1291 : decode cL_law_ 1291 = .ok (.iload 5, 2) := by decide +kernel
theorem dL_law__1293 : decode cL_law_ 1293 = .ok (.if_icmp .eq 5, 3) := by decide +kernel
theorem dL_law__1296 : decode cL_law_ 1296 = .ok (.iconst 0, 1) := by decide +kernel
theorem dL_law__1297 : decode cL_law_ 1297 = .ok (.ireturn, 1) := by decide +kernel
theorem dL_law__1298 : decode cL_law_ 1298 = .ok (.iload 5, 2) := by decide +kernel
theorem dL_law__1300 : decode cL_law_ 1300 = .ok (.ifCond .ne 15, 3) := by decide +kernel
theorem dL_law__1303 : decode cL_law_ 1303 = .ok (.aload_n 3, 1) := by decide +kernel
theorem dL_law__1304 : decode cL_law_ 1304 = .ok (.iconst 0, 1) := by decide +kernel
theorem dL_law__1305 : decode cL_law_ 1305 = .ok (.laload, 1) := by decide +kernel
theorem dL_law__1306 : decode cL_law_ 1306 = .ok (.iload 6, 2) := by decide +kernel
theorem dL_law__1308 : decode cL_law_ 1308 = .ok (.i2l, 1) := by decide +kernel
theorem dL_law__1309 : decode cL_law_ 1309 = .ok (.lcmp, 1) := by decide +kernel
theorem dL_law__1310 : decode cL_law_ 1310 = .ok (.ifCond .eq 5, 3) := by decide +kernel
theorem dL_law__1313 : decode cL_law_ 1313 = .ok (.iconst 0, 1) := by decide +kernel
theorem dL_law__1314 : decode cL_law_ 1314 = .ok (.ireturn, 1) := by decide +kernel
theorem dL_law__1315 : decode cL_law_ 1315 = .ok (.goto 1256, 3) := by decide +kernel
theorem dL_law__1318 : decode cL_law_ 1318 = .ok (.aload_n 1, 1) := by decide +kernel
theorem dL_law__1319 : decode cL_law_ 1319 = .ok (.aload_n 0, 1) := by decide +kernel
theorem dL_law__1320 : decode cL_law_ 1320 = .ok (.iload 4, 2) := by decide +kernel
theorem dL_law__1322 : decode cL_law_ 1322 = .ok (.iconst 1, 1) := by decide +kernel
theorem dL_law__1323 : decode cL_law_ 1323 = .ok (.iadd, 1) := by decide +kernel
theorem dL_law__1324 : decode cL_law_ 1324 = .ok (.iaload, 1) := by decide +kernel
theorem dL_law__1325 : decode cL_law_ 1325 = .ok (.aload_n 0, 1) := by decide +kernel
theorem dL_law__1326 : decode cL_law_ 1326 = .ok (.iload 4, 2) := by decide +kernel
theorem dL_law__1328 : decode cL_law_ 1328 = .ok (.iconst 2, 1) := by decide +kernel
theorem dL_law__1329 : decode cL_law_ 1329 = .ok (.iadd, 1) := by decide +kernel
theorem dL_law__1330 : decode cL_law_ 1330 = .ok (.iaload, 1) := by decide +kernel
theorem dL_law__1331 : decode cL_law_ 1331 = .ok (.aload_n 3, 1) := by decide +kernel
theorem dL_law__1332 : decode cL_law_ 1332 = .ok (.invokestatic 182, 3) := by decide +kernel
theorem dL_law__1335 : decode cL_law_ 1335 = .ok (.istore 5, 2) := by decide +kernel
theorem dL_law__1337 : decode cL_law_ 1337 = .ok (.aload_n 2, 1) := by decide +kernel
theorem dL_law__1338 : decode cL_law_ 1338 = .ok (.aload_n 0, 1) := by decide +kernel
theorem dL_law__1339 : decode cL_law_ 1339 = .ok (.iload 4, 2) := by decide +kernel
theorem dL_law__1341 : decode cL_law_ 1341 = .ok (.iconst 1, 1) := by decide +kernel
theorem dL_law__1342 : decode cL_law_ 1342 = .ok (.iadd, 1) := by decide +kernel
theorem dL_law__1343 : decode cL_law_ 1343 = .ok (.iaload, 1) := by decide +kernel
theorem dL_law__1344 : decode cL_law_ 1344 = .ok (.aload_n 0, 1) := by decide +kernel
theorem dL_law__1345 : decode cL_law_ 1345 = .ok (.iload 4, 2) := by decide +kernel
theorem dL_law__1347 : decode cL_law_ 1347 = .ok (.iconst 2, 1) := by decide +kernel
theorem dL_law__1348 : decode cL_law_ 1348 = .ok (.iadd, 1) := by decide +kernel
theorem dL_law__1349 : decode cL_law_ 1349 = .ok (.iaload, 1) := by decide +kernel
theorem dL_law__1350 : decode cL_law_ 1350 = .ok (.invokevirtual 184, 3) := by decide +kernel
