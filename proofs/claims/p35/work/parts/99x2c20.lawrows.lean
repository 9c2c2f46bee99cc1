/-! ===== rows of the law's methods, 20 ===== -/
theorem dL_kept_1161 : decode cL_kept 1161 = .ok (.if_icmp .ne 61, 3) := by decide +kernel
theorem dL_kept_1164 : decode cL_kept 1164 = .ok (.lload 24, 2) := by decide +kernel
theorem dL_kept_1166 : decode cL_kept 1166 = .ok (.aload_n 0, 1) := by decide +kernel
theorem dL_kept_1167 : decode cL_kept 1167 = .ok (.iload 18, 2) := by decide +kernel
theorem dL_kept_1169 : decode cL_kept 1169 = .ok (.iconst 5, 1) := by decide +kernel
theorem dL_kept_1170 : decode cL_kept 1170 = .ok (.invokestatic 137, 3) := by decide +kernel
theorem dL_kept_1173 : decode cL_kept 1173 = .ok (.lcmp, 1) := by decide +kernel
theorem dL_kept_1174 : decode cL_kept 1174 = .ok (.ifCond .ne 48, 3) := by decide +kernel
theorem dL_kept_1177 : decode cL_kept 1177 = .ok (.aload_n 0, 1) := by decide +kernel
theorem dL_kept_1178 : decode cL_kept 1178 = .ok (.iload 18, 2) := by decide +kernel
theorem dL_kept_1180 : decode cL_kept 1180 = .ok (.iload 23, 2) := by decide +kernel
theorem dL_kept_1182 : decode cL_kept 1182 = .ok (.invokestatic 145, 3) := by decide +kernel
theorem dL_kept_1185 : decode cL_kept 1185 = .ok (.iload 27, 2) := by decide +kernel
theorem dL_kept_1187 : decode cL_kept 1187 = .ok (.ifCond .eq 8, 3) := by decide +kernel
theorem dL_kept_1190 : decode cL_kept 1190 = .ok (.bipush 33, 2) := by decide +kernel
theorem dL_kept_1192 : decode cL_kept 1192 = .ok (.goto 4, 3) := by decide +kernel
theorem dL_kept_1195 : decode cL_kept 1195 = .ok (.iconst (-1), 1) := by decide +kernel
theorem dL_kept_1196 : decode cL_kept 1196 = .ok (.i2l, 1) := by decide +kernel
theorem dL_kept_1197 : decode cL_kept 1197 = .ok (.lcmp, 1) := by decide +kernel
theorem dL_kept_1198 : decode cL_kept 1198 = .ok (.ifCond .ne 24, 3) := by decide +kernel
theorem dL_kept_1201 : decode cL_kept 1201 = .ok (.aload_n 0, 1) := by decide +kernel
theorem dL_kept_1202 : decode cL_kept 1202 = .ok (.iload 18, 2) := by decide +kernel
theorem dL_kept_1204 : decode cL_kept 1204 = .ok (.iload 23, 2) := by decide +kernel
theorem dL_kept_1206 : decode cL_kept 1206 = .ok (.iconst 1, 1) := by decide +kernel
theorem dL_kept_1207 : decode cL_kept 1207 = .ok (.iadd, 1) := by decide +kernel
theorem dL_kept_1208 : decode cL_kept 1208 = .ok (.invokestatic 145, 3) := by decide +kernel
theorem dL_kept_1211 : decode cL_kept 1211 = .ok (.ldc2_w 183, 3) := by decide +kernel
theorem dL_kept_1214 : decode cL_kept 1214 = .ok (.lcmp, 1) := by decide +kernel
theorem dL_kept_1215 : decode cL_kept 1215 = .ok (.ifCond .ne 7, 3) := by decide +kernel
theorem dL_kept_1218 : decode cL_kept 1218 = .ok (.iconst 1, 1) := by decide +kernel
theorem dL_kept_1219 : decode cL_kept 1219 = .ok (.goto 4, 3) := by decide +kernel
theorem dL_kept_1222 : decode cL_kept 1222 = .ok (.iconst 0, 1) := by decide +kernel
theorem dL_kept_1223 : decode cL_kept 1223 = .ok (.istore 5, 2) := by decide +kernel
theorem dL_kept_1225 : decode cL_kept 1225 = .ok (.iinc 18 1, 3) := by decide +kernel
theorem dL_kept_1228 : decode cL_kept 1228 = .ok (.goto (-764), 3) := by decide +kernel
theorem dL_kept_1231 : decode cL_kept 1231 = .ok (.iconst 1, 1) := by decide +kernel
theorem dL_kept_1232 : decode cL_kept 1232 = .ok (.istore 18, 2) := by decide +kernel
theorem dL_kept_1234 : decode cL_kept 1234 = .ok (.iload 18, 2) := by decide +kernel
theorem dL_kept_1236 : decode cL_kept 1236 = .ok (.i2l, 1) := by decide +kernel
theorem dL_kept_1237 : decode cL_kept 1237 = .ok (.lload 10, 2) := by decide +kernel
theorem dL_kept_1239 : decode cL_kept 1239 = .ok (.lcmp, 1) := by decide +kernel
theorem dL_kept_1240 : decode cL_kept 1240 = .ok (.ifCond .ge 57, 3) := by decide +kernel
theorem dL_kept_1243 : decode cL_kept 1243 = .ok (.iload 5, 2) := by decide +kernel
theorem dL_kept_1245 : decode cL_kept 1245 = .ok (.ifCond .eq 52, 3) := by decide +kernel
theorem dL_kept_1248 : decode cL_kept 1248 = .ok (.aload_n 0, 1) := by decide +kernel
theorem dL_kept_1249 : decode cL_kept 1249 = .ok (.aload_n 0, 1) := by decide +kernel
theorem dL_kept_1250 : decode cL_kept 1250 = .ok (.iload 18, 2) := by decide +kernel
theorem dL_kept_1252 : decode cL_kept 1252 = .ok (.iconst 1, 1) := by decide +kernel
theorem dL_kept_1253 : decode cL_kept 1253 = .ok (.isub, 1) := by decide +kernel
theorem dL_kept_1254 : decode cL_kept 1254 = .ok (.invokestatic 139, 3) := by decide +kernel
theorem dL_kept_1257 : decode cL_kept 1257 = .ok (.l2i, 1) := by decide +kernel
theorem dL_kept_1258 : decode cL_kept 1258 = .ok (.bipush 10, 2) := by decide +kernel
theorem dL_kept_1260 : decode cL_kept 1260 = .ok (.idiv, 1) := by decide +kernel
theorem dL_kept_1261 : decode cL_kept 1261 = .ok (.iconst 3, 1) := by decide +kernel
theorem dL_kept_1262 : decode cL_kept 1262 = .ok (.invokestatic 132, 3) := by decide +kernel
theorem dL_kept_1265 : decode cL_kept 1265 = .ok (.aload_n 0, 1) := by decide +kernel
theorem dL_kept_1266 : decode cL_kept 1266 = .ok (.aload_n 0, 1) := by decide +kernel
theorem dL_kept_1267 : decode cL_kept 1267 = .ok (.iload 18, 2) := by decide +kernel
theorem dL_kept_1269 : decode cL_kept 1269 = .ok (.invokestatic 139, 3) := by decide +kernel
theorem dL_kept_1272 : decode cL_kept 1272 = .ok (.l2i, 1) := by decide +kernel
theorem dL_kept_1273 : decode cL_kept 1273 = .ok (.bipush 10, 2) := by decide +kernel
theorem dL_kept_1275 : decode cL_kept 1275 = .ok (.idiv, 1) := by decide +kernel
theorem dL_kept_1276 : decode cL_kept 1276 = .ok (.iconst 3, 1) := by decide +kernel
theorem dL_kept_1277 : decode cL_kept 1277 = .ok (.invokestatic 132, 3) := by decide +kernel
theorem dL_kept_1280 : decode cL_kept 1280 = .ok (.lcmp, 1) := by decide +kernel
theorem dL_kept_1281 : decode cL_kept 1281 = .ok (.ifCond .gt 7, 3) := by decide +kernel
theorem dL_kept_1284 : decode cL_kept 1284 = .ok (.iconst 1, 1) := by decide +kernel
theorem dL_kept_1285 : decode cL_kept 1285 = .ok (.goto 4, 3) := by decide +kernel
theorem dL_kept_1288 : decode cL_kept 1288 = .ok (.iconst 0, 1) := by decide +kernel
theorem dL_kept_1289 : decode cL_kept 1289 = .ok (.istore 5, 2) := by decide +kernel
theorem dL_kept_1291 : decode cL_kept 1291 = .ok (.iinc 18 1, 3) := by decide +kernel
theorem dL_kept_1294 : decode cL_kept 1294 = .ok (.goto (-60), 3) := by decide +kernel
theorem dL_kept_1297 : decode cL_kept 1297 = .ok (.iload 5, 2) := by decide +kernel
theorem dL_kept_1299 : decode cL_kept 1299 = .ok (.ifCond .eq 83, 3) := by decide +kernel
theorem dL_kept_1302 : decode cL_kept 1302 = .ok (.lload 6, 2) := by decide +kernel
theorem dL_kept_1304 : decode cL_kept 1304 = .ok (.aload_n 0, 1) := by decide +kernel
theorem dL_kept_1305 : decode cL_kept 1305 = .ok (.iconst 4, 1) := by decide +kernel
theorem dL_kept_1306 : decode cL_kept 1306 = .ok (.invokestatic 125, 3) := by decide +kernel
theorem dL_kept_1309 : decode cL_kept 1309 = .ok (.lcmp, 1) := by decide +kernel
theorem dL_kept_1310 : decode cL_kept 1310 = .ok (.ifCond .ne 72, 3) := by decide +kernel
