/-! ===== rows of the law's methods, 21 ===== -/
theorem dL_kept_1313 : decode cL_kept 1313 = .ok (.lload 8, 2) := by decide +kernel
theorem dL_kept_1315 : decode cL_kept 1315 = .ok (.iload_n 2, 1) := by decide +kernel
theorem dL_kept_1316 : decode cL_kept 1316 = .ok (.i2l, 1) := by decide +kernel
theorem dL_kept_1317 : decode cL_kept 1317 = .ok (.lcmp, 1) := by decide +kernel
theorem dL_kept_1318 : decode cL_kept 1318 = .ok (.ifCond .ne 64, 3) := by decide +kernel
theorem dL_kept_1321 : decode cL_kept 1321 = .ok (.lload 14, 2) := by decide +kernel
theorem dL_kept_1323 : decode cL_kept 1323 = .ok (.iload_n 2, 1) := by decide +kernel
theorem dL_kept_1324 : decode cL_kept 1324 = .ok (.i2l, 1) := by decide +kernel
theorem dL_kept_1325 : decode cL_kept 1325 = .ok (.lcmp, 1) := by decide +kernel
theorem dL_kept_1326 : decode cL_kept 1326 = .ok (.ifCond .ne 56, 3) := by decide +kernel
theorem dL_kept_1329 : decode cL_kept 1329 = .ok (.lload 10, 2) := by decide +kernel
theorem dL_kept_1331 : decode cL_kept 1331 = .ok (.aload_n 0, 1) := by decide +kernel
theorem dL_kept_1332 : decode cL_kept 1332 = .ok (.iconst 3, 1) := by decide +kernel
theorem dL_kept_1333 : decode cL_kept 1333 = .ok (.invokestatic 125, 3) := by decide +kernel
theorem dL_kept_1336 : decode cL_kept 1336 = .ok (.lcmp, 1) := by decide +kernel
theorem dL_kept_1337 : decode cL_kept 1337 = .ok (.ifCond .ne 45, 3) := by decide +kernel
theorem dL_kept_1340 : decode cL_kept 1340 = .ok (.aload_n 0, 1) := by decide +kernel
theorem dL_kept_1341 : decode cL_kept 1341 = .ok (.lload 10, 2) := by decide +kernel
theorem dL_kept_1343 : decode cL_kept 1343 = .ok (.l2i, 1) := by decide +kernel
theorem dL_kept_1344 : decode cL_kept 1344 = .ok (.invokestatic 139, 3) := by decide +kernel
theorem dL_kept_1347 : decode cL_kept 1347 = .ok (.ldc2_w 183, 3) := by decide +kernel
theorem dL_kept_1350 : decode cL_kept 1350 = .ok (.lcmp, 1) := by decide +kernel
theorem dL_kept_1351 : decode cL_kept 1351 = .ok (.ifCond .ne 31, 3) := by decide +kernel
theorem dL_kept_1354 : decode cL_kept 1354 = .ok (.lload 12, 2) := by decide +kernel
theorem dL_kept_1356 : decode cL_kept 1356 = .ok (.aload_n 0, 1) := by decide +kernel
theorem dL_kept_1357 : decode cL_kept 1357 = .ok (.bipush 10, 2) := by decide +kernel
theorem dL_kept_1359 : decode cL_kept 1359 = .ok (.invokestatic 125, 3) := by decide +kernel
theorem dL_kept_1362 : decode cL_kept 1362 = .ok (.lcmp, 1) := by decide +kernel
theorem dL_kept_1363 : decode cL_kept 1363 = .ok (.ifCond .ne 19, 3) := by decide +kernel
theorem dL_kept_1366 : decode cL_kept 1366 = .ok (.lload 16, 2) := by decide +kernel
theorem dL_kept_1368 : decode cL_kept 1368 = .ok (.aload_n 0, 1) := by decide +kernel
theorem dL_kept_1369 : decode cL_kept 1369 = .ok (.bipush 9, 2) := by decide +kernel
theorem dL_kept_1371 : decode cL_kept 1371 = .ok (.invokestatic 125, 3) := by decide +kernel
theorem dL_kept_1374 : decode cL_kept 1374 = .ok (.lcmp, 1) := by decide +kernel
theorem dL_kept_1375 : decode cL_kept 1375 = .ok (.ifCond .ne 7, 3) := by decide +kernel
theorem dL_kept_1378 : decode cL_kept 1378 = .ok (.iconst 1, 1) := by decide +kernel
theorem dL_kept_1379 : decode cL_kept 1379 = .ok (.goto 4, 3) := by decide +kernel
theorem dL_kept_1382 : decode cL_kept 1382 = .ok (.iconst 0, 1) := by decide +kernel
theorem dL_kept_1383 : decode cL_kept 1383 = .ok (.ireturn, 1) := by decide +kernel
theorem dL_follows_0 : decode cL_follows 0 = .ok (.aload_n 0, 1) := by decide +kernel
theorem dL_follows_1 : decode cL_follows 1 = .ok (.invokestatic 141, 3) := by decide +kernel
theorem dL_follows_4 : decode cL_follows 4 = .ok (.lstore_n 2, 1) := by decide +kernel
theorem dL_follows_5 : decode cL_follows 5 = .ok (.aload_n 0, 1) := by decide +kernel
theorem dL_follows_6 : decode cL_follows 6 = .ok (.iconst 1, 1) := by decide +kernel
theorem dL_follows_7 : decode cL_follows 7 = .ok (.invokestatic 125, 3) := by decide +kernel
theorem dL_follows_10 : decode cL_follows 10 = .ok (.lstore 4, 2) := by decide +kernel
theorem dL_follows_12 : decode cL_follows 12 = .ok (.aload_n 0, 1) := by decide +kernel
theorem dL_follows_13 : decode cL_follows 13 = .ok (.iconst 0, 1) := by decide +kernel
theorem dL_follows_14 : decode cL_follows 14 = .ok (.invokestatic 125, 3) := by decide +kernel
theorem dL_follows_17 : decode cL_follows 17 = .ok (.l2i, 1) := by decide +kernel
theorem dL_follows_18 : decode cL_follows 18 = .ok (.istore 6, 2) := by decide +kernel
theorem dL_follows_20 : decode cL_follows 20 = .ok (.aload_n 0, 1) := by decide +kernel
theorem dL_follows_21 : decode cL_follows 21 = .ok (.iconst 2, 1) := by decide +kernel
theorem dL_follows_22 : decode cL_follows 22 = .ok (.invokestatic 125, 3) := by decide +kernel
theorem dL_follows_25 : decode cL_follows 25 = .ok (.l2i, 1) := by decide +kernel
theorem dL_follows_26 : decode cL_follows 26 = .ok (.istore 7, 2) := by decide +kernel
theorem dL_follows_28 : decode cL_follows 28 = .ok (.iconst 1, 1) := by decide +kernel
theorem dL_follows_29 : decode cL_follows 29 = .ok (.iload_n 1, 1) := by decide +kernel
theorem dL_follows_30 : decode cL_follows 30 = .ok (.bipush 20, 2) := by decide +kernel
theorem dL_follows_32 : decode cL_follows 32 = .ok (.irem, 1) := by decide +kernel
theorem dL_follows_33 : decode cL_follows 33 = .ok (.iadd, 1) := by decide +kernel
theorem dL_follows_34 : decode cL_follows 34 = .ok (.istore 8, 2) := by decide +kernel
theorem dL_follows_36 : decode cL_follows 36 = .ok (.aload_n 0, 1) := by decide +kernel
theorem dL_follows_37 : decode cL_follows 37 = .ok (.iconst 4, 1) := by decide +kernel
theorem dL_follows_38 : decode cL_follows 38 = .ok (.invokestatic 125, 3) := by decide +kernel
theorem dL_follows_41 : decode cL_follows 41 = .ok (.lstore 9, 2) := by decide +kernel
theorem dL_follows_43 : decode cL_follows 43 = .ok (.aload_n 0, 1) := by decide +kernel
theorem dL_follows_44 : decode cL_follows 44 = .ok (.iconst 5, 1) := by decide +kernel
theorem dL_follows_45 : decode cL_follows 45 = .ok (.invokestatic 125, 3) := by decide +kernel
theorem dL_follows_48 : decode cL_follows 48 = .ok (.lstore 11, 2) := by decide +kernel
theorem dL_follows_50 : decode cL_follows 50 = .ok (.aload_n 0, 1) := by decide +kernel
theorem dL_follows_51 : decode cL_follows 51 = .ok (.bipush 6, 2) := by decide +kernel
theorem dL_follows_53 : decode cL_follows 53 = .ok (.invokestatic 125, 3) := by decide +kernel
theorem dL_follows_56 : decode cL_follows 56 = .ok (.lstore 13, 2) := by decide +kernel
theorem dL_follows_58 : decode cL_follows 58 = .ok (.aload_n 0, 1) := by decide +kernel
theorem dL_follows_59 : decode cL_follows 59 = .ok (.bipush 7, 2) := by decide +kernel
theorem dL_follows_61 : decode cL_follows 61 = .ok (.invokestatic 125, 3) := by decide +kernel
theorem dL_follows_64 : decode cL_follows 64 = .ok (.lstore 15, 2) := by decide +kernel
theorem dL_follows_66 : decode cL_follows 66 = .ok (.aload_n 0, 1) := by decide +kernel
theorem dL_follows_67 : decode cL_follows 67 = .ok (.iconst 1, 1) := by decide +kernel
