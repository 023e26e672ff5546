theorem si_227_1077 : decode (sp_b 227) 1077 = .ok (.iaload, 1) := by decide +kernel
theorem si_227_1078 : decode (sp_b 227) 1078 = .ok (.invokevirtual 137, 3) := by decide +kernel
theorem si_227_1081 : decode (sp_b 227) 1081 = .ok (.if_icmp .eq 254, 3) := by decide +kernel
theorem si_227_1084 : decode (sp_b 227) 1084 = .ok (.iconst 0, 1) := by decide +kernel
theorem si_227_1085 : decode (sp_b 227) 1085 = .ok (.ireturn, 1) := by decide +kernel
theorem si_227_1086 : decode (sp_b 227) 1086 = .ok (.aload_n 1, 1) := by decide +kernel
theorem si_227_1087 : decode (sp_b 227) 1087 = .ok (.aload_n 0, 1) := by decide +kernel
theorem si_227_1088 : decode (sp_b 227) 1088 = .ok (.iload_n 3, 1) := by decide +kernel
theorem si_227_1089 : decode (sp_b 227) 1089 = .ok (.iconst 1, 1) := by decide +kernel
theorem si_227_1090 : decode (sp_b 227) 1090 = .ok (.iadd, 1) := by decide +kernel
theorem si_227_1091 : decode (sp_b 227) 1091 = .ok (.iaload, 1) := by decide +kernel
theorem si_227_1092 : decode (sp_b 227) 1092 = .ok (.invokevirtual 138, 3) := by decide +kernel
theorem si_227_1095 : decode (sp_b 227) 1095 = .ok (.aload_n 2, 1) := by decide +kernel
theorem si_227_1096 : decode (sp_b 227) 1096 = .ok (.aload_n 0, 1) := by decide +kernel
theorem si_227_1097 : decode (sp_b 227) 1097 = .ok (.iload_n 3, 1) := by decide +kernel
theorem si_227_1098 : decode (sp_b 227) 1098 = .ok (.iconst 1, 1) := by decide +kernel
theorem si_227_1099 : decode (sp_b 227) 1099 = .ok (.iadd, 1) := by decide +kernel
theorem si_227_1100 : decode (sp_b 227) 1100 = .ok (.iaload, 1) := by decide +kernel
theorem si_227_1101 : decode (sp_b 227) 1101 = .ok (.invokevirtual 141, 3) := by decide +kernel
theorem si_227_1104 : decode (sp_b 227) 1104 = .ok (.if_icmp .eq 231, 3) := by decide +kernel
theorem si_227_1107 : decode (sp_b 227) 1107 = .ok (.iconst 0, 1) := by decide +kernel
theorem si_227_1108 : decode (sp_b 227) 1108 = .ok (.ireturn, 1) := by decide +kernel
theorem si_227_1109 : decode (sp_b 227) 1109 = .ok (.aload_n 1, 1) := by decide +kernel
theorem si_227_1110 : decode (sp_b 227) 1110 = .ok (.aload_n 0, 1) := by decide +kernel
theorem si_227_1111 : decode (sp_b 227) 1111 = .ok (.iload_n 3, 1) := by decide +kernel
theorem si_227_1112 : decode (sp_b 227) 1112 = .ok (.iconst 1, 1) := by decide +kernel
theorem si_227_1113 : decode (sp_b 227) 1113 = .ok (.iadd, 1) := by decide +kernel
theorem si_227_1114 : decode (sp_b 227) 1114 = .ok (.iaload, 1) := by decide +kernel
theorem si_227_1115 : decode (sp_b 227) 1115 = .ok (.invokevirtual 142, 3) := by decide +kernel
theorem si_227_1118 : decode (sp_b 227) 1118 = .ok (.aload_n 2, 1) := by decide +kernel
theorem si_227_1119 : decode (sp_b 227) 1119 = .ok (.aload_n 0, 1) := by decide +kernel
theorem si_227_1120 : decode (sp_b 227) 1120 = .ok (.iload_n 3, 1) := by decide +kernel
theorem si_227_1121 : decode (sp_b 227) 1121 = .ok (.iconst 1, 1) := by decide +kernel
theorem si_227_1122 : decode (sp_b 227) 1122 = .ok (.iadd, 1) := by decide +kernel
theorem si_227_1123 : decode (sp_b 227) 1123 = .ok (.iaload, 1) := by decide +kernel
theorem si_227_1124 : decode (sp_b 227) 1124 = .ok (.invokevirtual 145, 3) := by decide +kernel
theorem si_227_1127 : decode (sp_b 227) 1127 = .ok (.if_icmp .eq 208, 3) := by decide +kernel
theorem si_227_1130 : decode (sp_b 227) 1130 = .ok (.iconst 0, 1) := by decide +kernel
theorem si_227_1131 : decode (sp_b 227) 1131 = .ok (.ireturn, 1) := by decide +kernel
theorem si_227_1132 : decode (sp_b 227) 1132 = .ok (.aload_n 1, 1) := by decide +kernel
theorem si_227_1133 : decode (sp_b 227) 1133 = .ok (.aload_n 0, 1) := by decide +kernel
theorem si_227_1134 : decode (sp_b 227) 1134 = .ok (.iload_n 3, 1) := by decide +kernel
theorem si_227_1135 : decode (sp_b 227) 1135 = .ok (.iconst 1, 1) := by decide +kernel
theorem si_227_1136 : decode (sp_b 227) 1136 = .ok (.iadd, 1) := by decide +kernel
theorem si_227_1137 : decode (sp_b 227) 1137 = .ok (.iaload, 1) := by decide +kernel
theorem si_227_1138 : decode (sp_b 227) 1138 = .ok (.invokevirtual 146, 3) := by decide +kernel
theorem si_227_1141 : decode (sp_b 227) 1141 = .ok (.aload_n 2, 1) := by decide +kernel
theorem si_227_1142 : decode (sp_b 227) 1142 = .ok (.aload_n 0, 1) := by decide +kernel
theorem si_227_1143 : decode (sp_b 227) 1143 = .ok (.iload_n 3, 1) := by decide +kernel
theorem si_227_1144 : decode (sp_b 227) 1144 = .ok (.iconst 1, 1) := by decide +kernel
theorem si_227_1145 : decode (sp_b 227) 1145 = .ok (.iadd, 1) := by decide +kernel
theorem si_227_1146 : decode (sp_b 227) 1146 = .ok (.iaload, 1) := by decide +kernel
theorem si_227_1147 : decode (sp_b 227) 1147 = .ok (.invokevirtual 149, 3) := by decide +kernel
theorem si_227_1150 : decode (sp_b 227) 1150 = .ok (.if_icmp .eq 185, 3) := by decide +kernel
theorem si_227_1153 : decode (sp_b 227) 1153 = .ok (.iconst 0, 1) := by decide +kernel
theorem si_227_1154 : decode (sp_b 227) 1154 = .ok (.ireturn, 1) := by decide +kernel
theorem si_227_1155 : decode (sp_b 227) 1155 = .ok (.aload_n 1, 1) := by decide +kernel
theorem si_227_1156 : decode (sp_b 227) 1156 = .ok (.aload_n 0, 1) := by decide +kernel
theorem si_227_1157 : decode (sp_b 227) 1157 = .ok (.iload_n 3, 1) := by decide +kernel
theorem si_227_1158 : decode (sp_b 227) 1158 = .ok (.iconst 1, 1) := by decide +kernel
theorem si_227_1159 : decode (sp_b 227) 1159 = .ok (.iadd, 1) := by decide +kernel
theorem si_227_1160 : decode (sp_b 227) 1160 = .ok (.iaload, 1) := by decide +kernel
theorem si_227_1161 : decode (sp_b 227) 1161 = .ok (.aload_n 0, 1) := by decide +kernel
theorem si_227_1162 : decode (sp_b 227) 1162 = .ok (.iload_n 3, 1) := by decide +kernel
theorem si_227_1163 : decode (sp_b 227) 1163 = .ok (.iconst 2, 1) := by decide +kernel
theorem si_227_1164 : decode (sp_b 227) 1164 = .ok (.iadd, 1) := by decide +kernel
theorem si_227_1165 : decode (sp_b 227) 1165 = .ok (.iaload, 1) := by decide +kernel
theorem si_227_1166 : decode (sp_b 227) 1166 = .ok (.invokevirtual 150, 3) := by decide +kernel
theorem si_227_1169 : decode (sp_b 227) 1169 = .ok (.aload_n 2, 1) := by decide +kernel
theorem si_227_1170 : decode (sp_b 227) 1170 = .ok (.aload_n 0, 1) := by decide +kernel
theorem si_227_1171 : decode (sp_b 227) 1171 = .ok (.iload_n 3, 1) := by decide +kernel
theorem si_227_1172 : decode (sp_b 227) 1172 = .ok (.iconst 1, 1) := by decide +kernel
theorem si_227_1173 : decode (sp_b 227) 1173 = .ok (.iadd, 1) := by decide +kernel
theorem si_227_1174 : decode (sp_b 227) 1174 = .ok (.iaload, 1) := by decide +kernel
theorem si_227_1175 : decode (sp_b 227) 1175 = .ok (.aload_n 0, 1) := by decide +kernel
theorem si_227_1176 : decode (sp_b 227) 1176 = .ok (.iload_n 3, 1) := by decide +kernel
theorem si_227_1177 : decode (sp_b 227) 1177 = .ok (.iconst 2, 1) := by decide +kernel
theorem si_227_1178 : decode (sp_b 227) 1178 = .ok (.iadd, 1) := by decide +kernel
theorem si_227_1179 : decode (sp_b 227) 1179 = .ok (.iaload, 1) := by decide +kernel
theorem si_227_1180 : decode (sp_b 227) 1180 = .ok (.invokevirtual 153, 3) := by decide +kernel
theorem si_227_1183 : decode (sp_b 227) 1183 = .ok (.if_icmp .eq 152, 3) := by decide +kernel
theorem si_227_1186 : decode (sp_b 227) 1186 = .ok (.iconst 0, 1) := by decide +kernel
theorem si_227_1187 : decode (sp_b 227) 1187 = .ok (.ireturn, 1) := by decide +kernel
theorem si_227_1188 : decode (sp_b 227) 1188 = .ok (.aload_n 1, 1) := by decide +kernel
theorem si_227_1189 : decode (sp_b 227) 1189 = .ok (.aload_n 0, 1) := by decide +kernel
theorem si_227_1190 : decode (sp_b 227) 1190 = .ok (.iload_n 3, 1) := by decide +kernel
theorem si_227_1191 : decode (sp_b 227) 1191 = .ok (.iconst 1, 1) := by decide +kernel
theorem si_227_1192 : decode (sp_b 227) 1192 = .ok (.iadd, 1) := by decide +kernel
theorem si_227_1193 : decode (sp_b 227) 1193 = .ok (.iaload, 1) := by decide +kernel
theorem si_227_1194 : decode (sp_b 227) 1194 = .ok (.aload_n 0, 1) := by decide +kernel
theorem si_227_1195 : decode (sp_b 227) 1195 = .ok (.iload_n 3, 1) := by decide +kernel
theorem si_227_1196 : decode (sp_b 227) 1196 = .ok (.iconst 2, 1) := by decide +kernel
theorem si_227_1197 : decode (sp_b 227) 1197 = .ok (.iadd, 1) := by decide +kernel
theorem si_227_1198 : decode (sp_b 227) 1198 = .ok (.iaload, 1) := by decide +kernel
theorem si_227_1199 : decode (sp_b 227) 1199 = .ok (.invokevirtual 154, 3) := by decide +kernel
theorem si_227_1202 : decode (sp_b 227) 1202 = .ok (.aload_n 2, 1) := by decide +kernel
theorem si_227_1203 : decode (sp_b 227) 1203 = .ok (.aload_n 0, 1) := by decide +kernel
theorem si_227_1204 : decode (sp_b 227) 1204 = .ok (.iload_n 3, 1) := by decide +kernel
theorem si_227_1205 : decode (sp_b 227) 1205 = .ok (.iconst 1, 1) := by decide +kernel
theorem si_227_1206 : decode (sp_b 227) 1206 = .ok (.iadd, 1) := by decide +kernel
theorem si_227_1207 : decode (sp_b 227) 1207 = .ok (.iaload, 1) := by decide +kernel
theorem si_227_1208 : decode (sp_b 227) 1208 = .ok (.aload_n 0, 1) := by decide +kernel
theorem si_227_1209 : decode (sp_b 227) 1209 = .ok (.iload_n 3, 1) := by decide +kernel
theorem si_227_1210 : decode (sp_b 227) 1210 = .ok (.iconst 2, 1) := by decide +kernel
theorem si_227_1211 : decode (sp_b 227) 1211 = .ok (.iadd, 1) := by decide +kernel
theorem si_227_1212 : decode (sp_b 227) 1212 = .ok (.iaload, 1) := by decide +kernel
theorem si_227_1213 : decode (sp_b 227) 1213 = .ok (.invokevirtual 157, 3) := by decide +kernel
theorem si_227_1216 : decode (sp_b 227) 1216 = .ok (.if_icmp .eq 119, 3) := by decide +kernel
theorem si_227_1219 : decode (sp_b 227) 1219 = .ok (.iconst 0, 1) := by decide +kernel
theorem si_227_1220 : decode (sp_b 227) 1220 = .ok (.ireturn, 1) := by decide +kernel
theorem si_227_1221 : decode (sp_b 227) 1221 = .ok (.aload_n 1, 1) := by decide +kernel
theorem si_227_1222 : decode (sp_b 227) 1222 = .ok (.invokevirtual 158, 3) := by decide +kernel
theorem si_227_1225 : decode (sp_b 227) 1225 = .ok (.aload_n 2, 1) := by decide +kernel
theorem si_227_1226 : decode (sp_b 227) 1226 = .ok (.invokevirtual 161, 3) := by decide +kernel
theorem si_227_1229 : decode (sp_b 227) 1229 = .ok (.if_icmp .eq 106, 3) := by decide +kernel
theorem si_227_1232 : decode (sp_b 227) 1232 = .ok (.iconst 0, 1) := by decide +kernel
theorem si_227_1233 : decode (sp_b 227) 1233 = .ok (.ireturn, 1) := by decide +kernel
theorem si_227_1234 : decode (sp_b 227) 1234 = .ok (.aload_n 1, 1) := by decide +kernel
theorem si_227_1235 : decode (sp_b 227) 1235 = .ok (.invokevirtual 162, 3) := by decide +kernel
theorem si_227_1238 : decode (sp_b 227) 1238 = .ok (.aload_n 2, 1) := by decide +kernel
theorem si_227_1239 : decode (sp_b 227) 1239 = .ok (.invokevirtual 166, 3) := by decide +kernel
theorem si_227_1242 : decode (sp_b 227) 1242 = .ok (.lcmp, 1) := by decide +kernel
theorem si_227_1243 : decode (sp_b 227) 1243 = .ok (.ifCond .eq 92, 3) := by decide +kernel
theorem si_227_1246 : decode (sp_b 227) 1246 = .ok (.iconst 0, 1) := by decide +kernel
theorem si_227_1247 : decode (sp_b 227) 1247 = .ok (.ireturn, 1) := by decide +kernel
theorem si_227_1248 : decode (sp_b 227) 1248 = .ok (.aload_n 1, 1) := by decide +kernel
theorem si_227_1249 : decode (sp_b 227) 1249 = .ok (.invokevirtual 167, 3) := by decide +kernel
theorem si_227_1252 : decode (sp_b 227) 1252 = .ok (.aload_n 2, 1) := by decide +kernel
theorem si_227_1253 : decode (sp_b 227) 1253 = .ok (.invokevirtual 170, 3) := by decide +kernel
theorem si_227_1256 : decode (sp_b 227) 1256 = .ok (.lcmp, 1) := by decide +kernel
theorem si_227_1257 : decode (sp_b 227) 1257 = .ok (.ifCond .eq 78, 3) := by decide +kernel
theorem si_227_1260 : decode (sp_b 227) 1260 = .ok (.iconst 0, 1) := by decide +kernel
theorem si_227_1261 : decode (sp_b 227) 1261 = .ok (.ireturn, 1) := by decide +kernel
theorem si_227_1262 : decode (sp_b 227) 1262 = .ok (.aload_n 1, 1) := by decide +kernel
theorem si_227_1263 : decode (sp_b 227) 1263 = .ok (.aload_n 0, 1) := by decide +kernel
theorem si_227_1264 : decode (sp_b 227) 1264 = .ok (.iload_n 3, 1) := by decide +kernel
theorem si_227_1265 : decode (sp_b 227) 1265 = .ok (.iconst 1, 1) := by decide +kernel
theorem si_227_1266 : decode (sp_b 227) 1266 = .ok (.iadd, 1) := by decide +kernel
theorem si_227_1267 : decode (sp_b 227) 1267 = .ok (.iaload, 1) := by decide +kernel
theorem si_227_1268 : decode (sp_b 227) 1268 = .ok (.invokevirtual 171, 3) := by decide +kernel
theorem si_227_1271 : decode (sp_b 227) 1271 = .ok (.aload_n 2, 1) := by decide +kernel
theorem si_227_1272 : decode (sp_b 227) 1272 = .ok (.aload_n 0, 1) := by decide +kernel
theorem si_227_1273 : decode (sp_b 227) 1273 = .ok (.iload_n 3, 1) := by decide +kernel
theorem si_227_1274 : decode (sp_b 227) 1274 = .ok (.iconst 1, 1) := by decide +kernel
theorem si_227_1275 : decode (sp_b 227) 1275 = .ok (.iadd, 1) := by decide +kernel
theorem si_227_1276 : decode (sp_b 227) 1276 = .ok (.iaload, 1) := by decide +kernel
theorem si_227_1277 : decode (sp_b 227) 1277 = .ok (.invokevirtual 174, 3) := by decide +kernel
theorem si_227_1280 : decode (sp_b 227) 1280 = .ok (.if_icmp .eq 55, 3) := by decide +kernel
theorem si_227_1283 : decode (sp_b 227) 1283 = .ok (.iconst 0, 1) := by decide +kernel
theorem si_227_1284 : decode (sp_b 227) 1284 = .ok (.ireturn, 1) := by decide +kernel
theorem si_227_1285 : decode (sp_b 227) 1285 = .ok (.aload_n 1, 1) := by decide +kernel
theorem si_227_1286 : decode (sp_b 227) 1286 = .ok (.invokevirtual 175, 3) := by decide +kernel
theorem si_227_1289 : decode (sp_b 227) 1289 = .ok (.aload_n 2, 1) := by decide +kernel
theorem si_227_1290 : decode (sp_b 227) 1290 = .ok (.invokevirtual 178, 3) := by decide +kernel
theorem si_227_1293 : decode (sp_b 227) 1293 = .ok (.if_icmp .eq 42, 3) := by decide +kernel
theorem si_227_1296 : decode (sp_b 227) 1296 = .ok (.iconst 0, 1) := by decide +kernel
theorem si_227_1297 : decode (sp_b 227) 1297 = .ok (.ireturn, 1) := by decide +kernel
theorem si_227_1298 : decode (sp_b 227) 1298 = .ok (.aload_n 1, 1) := by decide +kernel
theorem si_227_1299 : decode (sp_b 227) 1299 = .ok (.aload_n 0, 1) := by decide +kernel
theorem si_227_1300 : decode (sp_b 227) 1300 = .ok (.iload_n 3, 1) := by decide +kernel
theorem si_227_1301 : decode (sp_b 227) 1301 = .ok (.iconst 1, 1) := by decide +kernel
theorem si_227_1302 : decode (sp_b 227) 1302 = .ok (.iadd, 1) := by decide +kernel
theorem si_227_1303 : decode (sp_b 227) 1303 = .ok (.iaload, 1) := by decide +kernel
theorem si_227_1304 : decode (sp_b 227) 1304 = .ok (.invokevirtual 179, 3) := by decide +kernel
theorem si_227_1307 : decode (sp_b 227) 1307 = .ok (.aload_n 2, 1) := by decide +kernel
theorem si_227_1308 : decode (sp_b 227) 1308 = .ok (.aload_n 0, 1) := by decide +kernel
theorem si_227_1309 : decode (sp_b 227) 1309 = .ok (.iload_n 3, 1) := by decide +kernel
theorem si_227_1310 : decode (sp_b 227) 1310 = .ok (.iconst 1, 1) := by decide +kernel
theorem si_227_1311 : decode (sp_b 227) 1311 = .ok (.iadd, 1) := by decide +kernel
theorem si_227_1312 : decode (sp_b 227) 1312 = .ok (.iaload, 1) := by decide +kernel
theorem si_227_1313 : decode (sp_b 227) 1313 = .ok (.invokevirtual 182, 3) := by decide +kernel
theorem si_227_1316 : decode (sp_b 227) 1316 = .ok (.if_icmp .eq 19, 3) := by decide +kernel
theorem si_227_1319 : decode (sp_b 227) 1319 = .ok (.iconst 0, 1) := by decide +kernel
theorem si_227_1320 : decode (sp_b 227) 1320 = .ok (.ireturn, 1) := by decide +kernel
theorem si_227_1321 : decode (sp_b 227) 1321 = .ok (.aload_n 1, 1) := by decide +kernel
theorem si_227_1322 : decode (sp_b 227) 1322 = .ok (.invokevirtual 183, 3) := by decide +kernel
theorem si_227_1325 : decode (sp_b 227) 1325 = .ok (.aload_n 2, 1) := by decide +kernel
theorem si_227_1326 : decode (sp_b 227) 1326 = .ok (.invokevirtual 186, 3) := by decide +kernel
theorem si_227_1329 : decode (sp_b 227) 1329 = .ok (.lcmp, 1) := by decide +kernel
theorem si_227_1330 : decode (sp_b 227) 1330 = .ok (.ifCond .eq 5, 3) := by decide +kernel
theorem si_227_1333 : decode (sp_b 227) 1333 = .ok (.iconst 0, 1) := by decide +kernel
theorem si_227_1334 : decode (sp_b 227) 1334 = .ok (.ireturn, 1) := by decide +kernel
theorem si_227_1335 : decode (sp_b 227) 1335 = .ok (.iinc 3 6, 3) := by decide +kernel
theorem si_227_1338 : decode (sp_b 227) 1338 = .ok (.goto (-1320), 3) := by decide +kernel
theorem si_227_1341 : decode (sp_b 227) 1341 = .ok (.iconst 1, 1) := by decide +kernel
theorem si_227_1342 : decode (sp_b 227) 1342 = .ok (.ireturn, 1) := by decide +kernel
theorem sk_227_13 : sp_okL 227 13 10 308 = true := by decide +kernel
theorem sv_10 : sp_okV 10 2 311 309 310 66 = true := by decide +kernel
theorem sk_227_17 : sp_okL 227 17 139 970 = true := by decide +kernel
theorem sv_139 : sp_okV 139 2 973 971 972 75 = true := by decide +kernel
theorem sk_227_18 : sp_okL 227 18 14 324 = true := by decide +kernel
theorem sv_14 : sp_okV 14 3 327 325 326 66 = true := by decide +kernel
theorem sk_227_22 : sp_okL 227 22 142 981 = true := by decide +kernel
theorem sv_142 : sp_okV 142 3 984 982 983 75 = true := by decide +kernel
theorem sk_227_23 : sp_okL 227 23 20 347 = true := by decide +kernel
theorem sv_20 : sp_okV 20 2 350 348 349 66 = true := by decide +kernel
theorem sk_227_26 : sp_okL 227 26 145 993 = true := by decide +kernel
theorem sv_145 : sp_okV 145 2 996 994 995 75 = true := by decide +kernel
theorem sk_227_27 : sp_okL 227 27 21 351 = true := by decide +kernel
theorem sv_21 : sp_okV 21 1 354 352 353 66 = true := by decide +kernel
theorem sk_227_31 : sp_okL 227 31 146 997 = true := by decide +kernel
theorem sv_146 : sp_okV 146 1 1000 998 999 75 = true := by decide +kernel
theorem sk_227_32 : sp_okL 227 32 23 359 = true := by decide +kernel
theorem sv_23 : sp_okV 23 5 362 360 361 66 = true := by decide +kernel
theorem sk_227_36 : sp_okL 227 36 147 1001 = true := by decide +kernel
theorem sv_147 : sp_okV 147 5 1004 1002 1003 75 = true := by decide +kernel
theorem sk_227_37 : sp_okL 227 37 25 370 = true := by decide +kernel
theorem sv_25 : sp_okV 25 1 373 371 372 66 = true := by decide +kernel
theorem sk_227_40 : sp_okL 227 40 148 1005 = true := by decide +kernel
theorem sv_148 : sp_okV 148 1 1008 1006 1007 75 = true := by decide +kernel
theorem sk_227_41 : sp_okL 227 41 27 378 = true := by decide +kernel
theorem sv_27 : sp_okV 27 2 381 379 380 66 = true := by decide +kernel
theorem sk_227_44 : sp_okL 227 44 149 1009 = true := by decide +kernel
theorem sv_149 : sp_okV 149 2 1012 1010 1011 75 = true := by decide +kernel
theorem sk_227_45 : sp_okL 227 45 28 382 = true := by decide +kernel
theorem sv_28 : sp_okV 28 3 385 383 384 66 = true := by decide +kernel
theorem sk_227_48 : sp_okL 227 48 151 1016 = true := by decide +kernel
theorem sv_151 : sp_okV 151 3 1019 1017 1018 75 = true := by decide +kernel
theorem sk_227_49 : sp_okL 227 49 29 386 = true := by decide +kernel
theorem sv_29 : sp_okV 29 1 389 387 388 66 = true := by decide +kernel
theorem sk_227_52 : sp_okL 227 52 152 1020 = true := by decide +kernel
theorem sv_152 : sp_okV 152 1 1023 1021 1022 75 = true := by decide +kernel
theorem sk_227_53 : sp_okL 227 53 37 420 = true := by decide +kernel
theorem sv_37 : sp_okV 37 1 423 421 422 66 = true := by decide +kernel
theorem sk_227_56 : sp_okL 227 56 159 1047 = true := by decide +kernel
theorem sv_159 : sp_okV 159 1 1050 1048 1049 75 = true := by decide +kernel
theorem sk_227_57 : sp_okL 227 57 42 443 = true := by decide +kernel
theorem sv_42 : sp_okV 42 2 446 444 445 66 = true := by decide +kernel
theorem sk_227_60 : sp_okL 227 60 161 1055 = true := by decide +kernel
theorem sv_161 : sp_okV 161 2 1058 1056 1057 75 = true := by decide +kernel
theorem sk_227_61 : sp_okL 227 61 46 459 = true := by decide +kernel
theorem sv_46 : sp_okV 46 2 462 460 461 66 = true := by decide +kernel
theorem sk_227_64 : sp_okL 227 64 166 1075 = true := by decide +kernel
theorem sv_166 : sp_okV 166 2 1078 1076 1077 75 = true := by decide +kernel
theorem sk_227_65 : sp_okL 227 65 52 486 = true := by decide +kernel
theorem sv_52 : sp_okV 52 1 489 487 488 66 = true := by decide +kernel
theorem sk_227_68 : sp_okL 227 68 172 1096 = true := by decide +kernel
theorem sv_172 : sp_okV 172 1 1099 1097 1098 75 = true := by decide +kernel
theorem sk_227_69 : sp_okL 227 69 53 490 = true := by decide +kernel
theorem sv_53 : sp_okV 53 1 493 491 492 66 = true := by decide +kernel
theorem sk_227_72 : sp_okL 227 72 173 1100 = true := by decide +kernel
theorem sv_173 : sp_okV 173 1 1103 1101 1102 75 = true := by decide +kernel
theorem sk_227_73 : sp_okL 227 73 59 516 = true := by decide +kernel
theorem sv_59 : sp_okV 59 1 519 517 518 66 = true := by decide +kernel
theorem sk_227_76 : sp_okL 227 76 179 1124 = true := by decide +kernel
theorem sv_179 : sp_okV 179 1 1127 1125 1126 75 = true := by decide +kernel
theorem sk_227_77 : sp_okL 227 77 61 524 = true := by decide +kernel
theorem sv_61 : sp_okV 61 1 527 525 526 66 = true := by decide +kernel
theorem sk_227_80 : sp_okL 227 80 182 1136 = true := by decide +kernel
theorem sv_182 : sp_okV 182 1 1139 1137 1138 75 = true := by decide +kernel
theorem sk_227_81 : sp_okL 227 81 64 536 = true := by decide +kernel
theorem sv_64 : sp_okV 64 1 539 537 538 66 = true := by decide +kernel
theorem sk_227_84 : sp_okL 227 84 184 1144 = true := by decide +kernel
theorem sv_184 : sp_okV 184 1 1147 1145 1146 75 = true := by decide +kernel
theorem sk_227_85 : sp_okL 227 85 66 544 = true := by decide +kernel
theorem sv_66 : sp_okV 66 1 547 545 546 66 = true := by decide +kernel
theorem sk_227_88 : sp_okL 227 88 185 1148 = true := by decide +kernel
theorem sv_185 : sp_okV 185 1 1151 1149 1150 75 = true := by decide +kernel
theorem sk_227_89 : sp_okL 227 89 68 552 = true := by decide +kernel
theorem sv_68 : sp_okV 68 0 555 553 554 66 = true := by decide +kernel
theorem sk_227_93 : sp_okL 227 93 186 1152 = true := by decide +kernel
theorem sv_186 : sp_okV 186 0 1155 1153 1154 75 = true := by decide +kernel
theorem sk_227_94 : sp_okL 227 94 69 556 = true := by decide +kernel
theorem sv_69 : sp_okV 69 1 559 557 558 66 = true := by decide +kernel
theorem sk_227_97 : sp_okL 227 97 187 1156 = true := by decide +kernel
theorem sv_187 : sp_okV 187 1 1159 1157 1158 75 = true := by decide +kernel
theorem sk_227_98 : sp_okL 227 98 71 564 = true := by decide +kernel
theorem sv_71 : sp_okV 71 1 567 565 566 66 = true := by decide +kernel
theorem sk_227_101 : sp_okL 227 101 188 1160 = true := by decide +kernel
theorem sv_188 : sp_okV 188 1 1163 1161 1162 75 = true := by decide +kernel
theorem sk_227_102 : sp_okL 227 102 72 568 = true := by decide +kernel
theorem sv_72 : sp_okV 72 1 571 569 570 66 = true := by decide +kernel
theorem sk_227_105 : sp_okL 227 105 189 1164 = true := by decide +kernel
theorem sv_189 : sp_okV 189 1 1167 1165 1166 75 = true := by decide +kernel
theorem sk_227_106 : sp_okL 227 106 75 583 = true := by decide +kernel
theorem sv_75 : sp_okV 75 1 586 584 585 66 = true := by decide +kernel
theorem sk_227_109 : sp_okL 227 109 194 1184 = true := by decide +kernel
theorem sv_194 : sp_okV 194 1 1187 1185 1186 75 = true := by decide +kernel
theorem sk_227_110 : sp_okL 227 110 76 587 = true := by decide +kernel
theorem sv_76 : sp_okV 76 2 590 588 589 66 = true := by decide +kernel
theorem sk_227_113 : sp_okL 227 113 195 1188 = true := by decide +kernel
theorem sv_195 : sp_okV 195 2 1191 1189 1190 75 = true := by decide +kernel
theorem sk_227_114 : sp_okL 227 114 83 622 = true := by decide +kernel
theorem sv_83 : sp_okV 83 2 625 623 624 66 = true := by decide +kernel
theorem sk_227_117 : sp_okL 227 117 198 1200 = true := by decide +kernel
theorem sv_198 : sp_okV 198 2 1203 1201 1202 75 = true := by decide +kernel
theorem sk_227_118 : sp_okL 227 118 84 626 = true := by decide +kernel
theorem sv_84 : sp_okV 84 2 629 627 628 66 = true := by decide +kernel
theorem sk_227_121 : sp_okL 227 121 199 1204 = true := by decide +kernel
theorem sv_199 : sp_okV 199 2 1207 1205 1206 75 = true := by decide +kernel
theorem sk_227_122 : sp_okL 227 122 85 630 = true := by decide +kernel
theorem sv_85 : sp_okV 85 1 633 631 632 66 = true := by decide +kernel
theorem sk_227_125 : sp_okL 227 125 200 1208 = true := by decide +kernel
theorem sv_200 : sp_okV 200 1 1211 1209 1210 75 = true := by decide +kernel
theorem sk_227_126 : sp_okL 227 126 89 648 = true := by decide +kernel
theorem sv_89 : sp_okV 89 2 651 649 650 66 = true := by decide +kernel
theorem sk_227_129 : sp_okL 227 129 204 1223 = true := by decide +kernel
theorem sv_204 : sp_okV 204 2 1226 1224 1225 75 = true := by decide +kernel
theorem sk_227_130 : sp_okL 227 130 93 665 = true := by decide +kernel
theorem sv_93 : sp_okV 93 1 668 666 667 66 = true := by decide +kernel
theorem sk_227_133 : sp_okL 227 133 206 1231 = true := by decide +kernel
theorem sv_206 : sp_okV 206 1 1234 1232 1233 75 = true := by decide +kernel
theorem sk_227_134 : sp_okL 227 134 100 694 = true := by decide +kernel
theorem sv_100 : sp_okV 100 3 697 695 696 66 = true := by decide +kernel
theorem sk_227_137 : sp_okL 227 137 209 1243 = true := by decide +kernel
theorem sv_209 : sp_okV 209 3 1246 1244 1245 75 = true := by decide +kernel
theorem sk_227_138 : sp_okL 227 138 105 715 = true := by decide +kernel
theorem sv_105 : sp_okV 105 1 718 716 717 66 = true := by decide +kernel
theorem sk_227_141 : sp_okL 227 141 212 1255 = true := by decide +kernel
theorem sv_212 : sp_okV 212 1 1258 1256 1257 75 = true := by decide +kernel
theorem sk_227_142 : sp_okL 227 142 110 736 = true := by decide +kernel
theorem sv_110 : sp_okV 110 1 739 737 738 66 = true := by decide +kernel
theorem sk_227_145 : sp_okL 227 145 216 1270 = true := by decide +kernel
theorem sv_216 : sp_okV 216 1 1273 1271 1272 75 = true := by decide +kernel
theorem sk_227_146 : sp_okL 227 146 111 740 = true := by decide +kernel
theorem sv_111 : sp_okV 111 1 743 741 742 66 = true := by decide +kernel
theorem sk_227_149 : sp_okL 227 149 217 1274 = true := by decide +kernel
theorem sv_217 : sp_okV 217 1 1277 1275 1276 75 = true := by decide +kernel
theorem sk_227_150 : sp_okL 227 150 114 751 = true := by decide +kernel
theorem sv_114 : sp_okV 114 2 754 752 753 66 = true := by decide +kernel
theorem sk_227_153 : sp_okL 227 153 219 1282 = true := by decide +kernel
theorem sv_219 : sp_okV 219 2 1285 1283 1284 75 = true := by decide +kernel
theorem sk_227_154 : sp_okL 227 154 118 769 = true := by decide +kernel
theorem sv_118 : sp_okV 118 2 772 770 771 66 = true := by decide +kernel
theorem sk_227_157 : sp_okL 227 157 221 1291 = true := by decide +kernel
theorem sv_221 : sp_okV 221 2 1294 1292 1293 75 = true := by decide +kernel
theorem sk_227_158 : sp_okL 227 158 120 778 = true := by decide +kernel
theorem sv_120 : sp_okV 120 0 781 779 780 66 = true := by decide +kernel
theorem sk_227_161 : sp_okL 227 161 136 958 = true := by decide +kernel
theorem sv_136 : sp_okV 136 0 961 959 960 75 = true := by decide +kernel
theorem sk_227_162 : sp_okL 227 162 121 782 = true := by decide +kernel
theorem sv_121 : sp_okV 121 0 785 783 784 66 = true := by decide +kernel
theorem sk_227_166 : sp_okL 227 166 137 962 = true := by decide +kernel
theorem sv_137 : sp_okV 137 0 965 963 964 75 = true := by decide +kernel
theorem sk_227_167 : sp_okL 227 167 122 786 = true := by decide +kernel
theorem sv_122 : sp_okV 122 0 789 787 788 66 = true := by decide +kernel
theorem sk_227_170 : sp_okL 227 170 138 966 = true := by decide +kernel
theorem sv_138 : sp_okV 138 0 969 967 968 75 = true := by decide +kernel
theorem sk_227_171 : sp_okL 227 171 123 790 = true := by decide +kernel
theorem sv_123 : sp_okV 123 1 793 791 792 66 = true := by decide +kernel
theorem sk_227_174 : sp_okL 227 174 222 1298 = true := by decide +kernel
theorem sv_222 : sp_okV 222 1 1301 1299 1300 75 = true := by decide +kernel
theorem sk_227_175 : sp_okL 227 175 128 811 = true := by decide +kernel
theorem sv_128 : sp_okV 128 0 814 812 813 66 = true := by decide +kernel
theorem sk_227_178 : sp_okL 227 178 133 947 = true := by decide +kernel
theorem sv_133 : sp_okV 133 0 950 948 949 75 = true := by decide +kernel
theorem sk_227_179 : sp_okL 227 179 129 815 = true := by decide +kernel
theorem sv_129 : sp_okV 129 1 818 816 817 66 = true := by decide +kernel
theorem sk_227_182 : sp_okL 227 182 134 951 = true := by decide +kernel
theorem sv_134 : sp_okV 134 1 954 952 953 75 = true := by decide +kernel
theorem sk_227_183 : sp_okL 227 183 130 819 = true := by decide +kernel
theorem sv_130 : sp_okV 130 0 822 820 821 66 = true := by decide +kernel
theorem sk_227_186 : sp_okL 227 186 224 1306 = true := by decide +kernel
theorem sv_224 : sp_okV 224 0 1309 1307 1308 75 = true := by decide +kernel
