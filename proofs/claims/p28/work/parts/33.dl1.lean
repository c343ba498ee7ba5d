def zdl_1024 : List (Nat × Instr × Nat) := [(0, .new 8, 3), (3, .dup, 1), (4, .invokespecial 126, 3), (7, .astore_n 1, 1), (8, .new 127, 3), (11, .dup, 1), (12, .invokespecial 129, 3), (15, .astore_n 2, 1), (16, .iconst 1, 1), (17, .newarray .long, 2), (19, .astore_n 3, 1), (20, .iconst 0, 1), (21, .istore 4, 2), (23, .iload 4, 2), (25, .aload_n 0, 1), (26, .arraylength, 1), (27, .bipush 6, 2), (29, .isub, 1), (30, .if_icmp .gt 1828, 3), (33, .aload_n 0, 1), (34, .iload 4, 2), (36, .iaload, 1), (37, .bipush 63, 2), (39, .iand, 1), (40, .tableswitch 1812 0 49 #[216, 289, 314, 330, 346, 359, 399, 439, 479, 492, 520, 572, 597, 625, 665, 705, 761, 789, 829, 885, 925, 953, 993, 1021, 1034, 1047, 1103, 1159, 1200, 1228, 1256, 1300, 1316, 1344, 1384, 1397, 1410, 1450, 1463, 1476, 1504, 1517, 1573, 1629, 1685, 1725, 1750, 1763, 1774, 1787], 216), (256, .aload_n 1, 1), (257, .aload_n 0, 1), (258, .iload 4, 2), (260, .iconst 1, 1), (261, .iadd, 1), (262, .iaload, 1), (263, .aload_n 0, 1)]
theorem zdb_1024 : zdk cL_law_ zdl_1024 = true := by decide +kernel
theorem dL_law__0 : decode cL_law_ 0 = .ok (.new 8, 3) := zdk_g zdb_1024 (i := 0) rfl
theorem dL_law__3 : decode cL_law_ 3 = .ok (.dup, 1) := zdk_g zdb_1024 (i := 1) rfl
theorem dL_law__4 : decode cL_law_ 4 = .ok (.invokespecial 126, 3) := zdk_g zdb_1024 (i := 2) rfl
theorem dL_law__7 : decode cL_law_ 7 = .ok (.astore_n 1, 1) := zdk_g zdb_1024 (i := 3) rfl
theorem dL_law__8 : decode cL_law_ 8 = .ok (.new 127, 3) := zdk_g zdb_1024 (i := 4) rfl
theorem dL_law__11 : decode cL_law_ 11 = .ok (.dup, 1) := zdk_g zdb_1024 (i := 5) rfl
theorem dL_law__12 : decode cL_law_ 12 = .ok (.invokespecial 129, 3) := zdk_g zdb_1024 (i := 6) rfl
theorem dL_law__15 : decode cL_law_ 15 = .ok (.astore_n 2, 1) := zdk_g zdb_1024 (i := 7) rfl
theorem dL_law__16 : decode cL_law_ 16 = .ok (.iconst 1, 1) := zdk_g zdb_1024 (i := 8) rfl
theorem dL_law__17 : decode cL_law_ 17 = .ok (.newarray .long, 2) := zdk_g zdb_1024 (i := 9) rfl
theorem dL_law__19 : decode cL_law_ 19 = .ok (.astore_n 3, 1) := zdk_g zdb_1024 (i := 10) rfl
theorem dL_law__20 : decode cL_law_ 20 = .ok (.iconst 0, 1) := zdk_g zdb_1024 (i := 11) rfl
theorem dL_law__21 : decode cL_law_ 21 = .ok (.istore 4, 2) := zdk_g zdb_1024 (i := 12) rfl
theorem dL_law__23 : decode cL_law_ 23 = .ok (.iload 4, 2) := zdk_g zdb_1024 (i := 13) rfl
theorem dL_law__25 : decode cL_law_ 25 = .ok (.aload_n 0, 1) := zdk_g zdb_1024 (i := 14) rfl
theorem dL_law__26 : decode cL_law_ 26 = .ok (.arraylength, 1) := zdk_g zdb_1024 (i := 15) rfl
theorem dL_law__27 : decode cL_law_ 27 = .ok (.bipush 6, 2) := zdk_g zdb_1024 (i := 16) rfl
theorem dL_law__29 : decode cL_law_ 29 = .ok (.isub, 1) := zdk_g zdb_1024 (i := 17) rfl
theorem dL_law__30 : decode cL_law_ 30 = .ok (.if_icmp .gt 1828, 3) := zdk_g zdb_1024 (i := 18) rfl
theorem dL_law__33 : decode cL_law_ 33 = .ok (.aload_n 0, 1) := zdk_g zdb_1024 (i := 19) rfl
theorem dL_law__34 : decode cL_law_ 34 = .ok (.iload 4, 2) := zdk_g zdb_1024 (i := 20) rfl
theorem dL_law__36 : decode cL_law_ 36 = .ok (.iaload, 1) := zdk_g zdb_1024 (i := 21) rfl
theorem dL_law__37 : decode cL_law_ 37 = .ok (.bipush 63, 2) := zdk_g zdb_1024 (i := 22) rfl
theorem dL_law__39 : decode cL_law_ 39 = .ok (.iand, 1) := zdk_g zdb_1024 (i := 23) rfl
theorem dL_law__40 : decode cL_law_ 40 = .ok (.tableswitch 1812 0 49 #[216, 289, 314, 330, 346, 359, 399, 439, 479, 492, 520, 572, 597, 625, 665, 705, 761, 789, 829, 885, 925, 953, 993, 1021, 1034, 1047, 1103, 1159, 1200, 1228, 1256, 1300, 1316, 1344, 1384, 1397, 1410, 1450, 1463, 1476, 1504, 1517, 1573, 1629, 1685, 1725, 1750, 1763, 1774, 1787], 216) := zdk_g zdb_1024 (i := 24) rfl
theorem dL_law__256 : decode cL_law_ 256 = .ok (.aload_n 1, 1) := zdk_g zdb_1024 (i := 25) rfl
theorem dL_law__257 : decode cL_law_ 257 = .ok (.aload_n 0, 1) := zdk_g zdb_1024 (i := 26) rfl
theorem dL_law__258 : decode cL_law_ 258 = .ok (.iload 4, 2) := zdk_g zdb_1024 (i := 27) rfl
theorem dL_law__260 : decode cL_law_ 260 = .ok (.iconst 1, 1) := zdk_g zdb_1024 (i := 28) rfl
theorem dL_law__261 : decode cL_law_ 261 = .ok (.iadd, 1) := zdk_g zdb_1024 (i := 29) rfl
theorem dL_law__262 : decode cL_law_ 262 = .ok (.iaload, 1) := zdk_g zdb_1024 (i := 30) rfl
theorem dL_law__263 : decode cL_law_ 263 = .ok (.aload_n 0, 1) := zdk_g zdb_1024 (i := 31) rfl
def zdl_1025 : List (Nat × Instr × Nat) := [(264, .iload 4, 2), (266, .iconst 2, 1), (267, .iadd, 1), (268, .iaload, 1), (269, .aload_n 0, 1), (270, .iload 4, 2), (272, .iconst 3, 1), (273, .iadd, 1), (274, .iaload, 1), (275, .aload_n 0, 1), (276, .iload 4, 2), (278, .iconst 4, 1), (279, .iadd, 1), (280, .iaload, 1), (281, .aload_n 0, 1), (282, .iload 4, 2), (284, .iconst 5, 1), (285, .iadd, 1), (286, .iaload, 1), (287, .invokevirtual 130, 3), (290, .pop, 1), (291, .aload_n 2, 1), (292, .aload_n 0, 1), (293, .iload 4, 2), (295, .iconst 1, 1), (296, .iadd, 1), (297, .iaload, 1), (298, .aload_n 0, 1), (299, .iload 4, 2), (301, .iconst 2, 1), (302, .iadd, 1), (303, .iaload, 1)]
theorem zdb_1025 : zdk cL_law_ zdl_1025 = true := by decide +kernel
theorem dL_law__264 : decode cL_law_ 264 = .ok (.iload 4, 2) := zdk_g zdb_1025 (i := 0) rfl
theorem dL_law__266 : decode cL_law_ 266 = .ok (.iconst 2, 1) := zdk_g zdb_1025 (i := 1) rfl
theorem dL_law__267 : decode cL_law_ 267 = .ok (.iadd, 1) := zdk_g zdb_1025 (i := 2) rfl
theorem dL_law__268 : decode cL_law_ 268 = .ok (.iaload, 1) := zdk_g zdb_1025 (i := 3) rfl
theorem dL_law__269 : decode cL_law_ 269 = .ok (.aload_n 0, 1) := zdk_g zdb_1025 (i := 4) rfl
theorem dL_law__270 : decode cL_law_ 270 = .ok (.iload 4, 2) := zdk_g zdb_1025 (i := 5) rfl
theorem dL_law__272 : decode cL_law_ 272 = .ok (.iconst 3, 1) := zdk_g zdb_1025 (i := 6) rfl
theorem dL_law__273 : decode cL_law_ 273 = .ok (.iadd, 1) := zdk_g zdb_1025 (i := 7) rfl
theorem dL_law__274 : decode cL_law_ 274 = .ok (.iaload, 1) := zdk_g zdb_1025 (i := 8) rfl
theorem dL_law__275 : decode cL_law_ 275 = .ok (.aload_n 0, 1) := zdk_g zdb_1025 (i := 9) rfl
theorem dL_law__276 : decode cL_law_ 276 = .ok (.iload 4, 2) := zdk_g zdb_1025 (i := 10) rfl
theorem dL_law__278 : decode cL_law_ 278 = .ok (.iconst 4, 1) := zdk_g zdb_1025 (i := 11) rfl
theorem dL_law__279 : decode cL_law_ 279 = .ok (.iadd, 1) := zdk_g zdb_1025 (i := 12) rfl
theorem dL_law__280 : decode cL_law_ 280 = .ok (.iaload, 1) := zdk_g zdb_1025 (i := 13) rfl
theorem dL_law__281 : decode cL_law_ 281 = .ok (.aload_n 0, 1) := zdk_g zdb_1025 (i := 14) rfl
theorem dL_law__282 : decode cL_law_ 282 = .ok (.iload 4, 2) := zdk_g zdb_1025 (i := 15) rfl
theorem dL_law__284 : decode cL_law_ 284 = .ok (.iconst 5, 1) := zdk_g zdb_1025 (i := 16) rfl
theorem dL_law__285 : decode cL_law_ 285 = .ok (.iadd, 1) := zdk_g zdb_1025 (i := 17) rfl
theorem dL_law__286 : decode cL_law_ 286 = .ok (.iaload, 1) := zdk_g zdb_1025 (i := 18) rfl
theorem dL_law__287 : decode cL_law_ 287 = .ok (.invokevirtual 130, 3) := zdk_g zdb_1025 (i := 19) rfl
theorem dL_law__290 : decode cL_law_ 290 = .ok (.pop, 1) := zdk_g zdb_1025 (i := 20) rfl
theorem dL_law__291 : decode cL_law_ 291 = .ok (.aload_n 2, 1) := zdk_g zdb_1025 (i := 21) rfl
theorem dL_law__292 : decode cL_law_ 292 = .ok (.aload_n 0, 1) := zdk_g zdb_1025 (i := 22) rfl
theorem dL_law__293 : decode cL_law_ 293 = .ok (.iload 4, 2) := zdk_g zdb_1025 (i := 23) rfl
theorem dL_law__295 : decode cL_law_ 295 = .ok (.iconst 1, 1) := zdk_g zdb_1025 (i := 24) rfl
theorem dL_law__296 : decode cL_law_ 296 = .ok (.iadd, 1) := zdk_g zdb_1025 (i := 25) rfl
theorem dL_law__297 : decode cL_law_ 297 = .ok (.iaload, 1) := zdk_g zdb_1025 (i := 26) rfl
theorem dL_law__298 : decode cL_law_ 298 = .ok (.aload_n 0, 1) := zdk_g zdb_1025 (i := 27) rfl
theorem dL_law__299 : decode cL_law_ 299 = .ok (.iload 4, 2) := zdk_g zdb_1025 (i := 28) rfl
theorem dL_law__301 : decode cL_law_ 301 = .ok (.iconst 2, 1) := zdk_g zdb_1025 (i := 29) rfl
theorem dL_law__302 : decode cL_law_ 302 = .ok (.iadd, 1) := zdk_g zdb_1025 (i := 30) rfl
theorem dL_law__303 : decode cL_law_ 303 = .ok (.iaload, 1) := zdk_g zdb_1025 (i := 31) rfl
def zdl_1026 : List (Nat × Instr × Nat) := [(304, .aload_n 0, 1), (305, .iload 4, 2), (307, .iconst 3, 1), (308, .iadd, 1), (309, .iaload, 1), (310, .aload_n 0, 1), (311, .iload 4, 2), (313, .iconst 4, 1), (314, .iadd, 1), (315, .iaload, 1), (316, .aload_n 0, 1), (317, .iload 4, 2), (319, .iconst 5, 1), (320, .iadd, 1), (321, .iaload, 1), (322, .invokevirtual 134, 3), (325, .pop, 1), (326, .goto 1526, 3), (329, .aload_n 1, 1), (330, .aload_n 0, 1), (331, .iload 4, 2), (333, .iconst 1, 1), (334, .iadd, 1), (335, .iaload, 1), (336, .invokevirtual 135, 3), (339, .pop, 1), (340, .aload_n 2, 1), (341, .aload_n 0, 1), (342, .iload 4, 2), (344, .iconst 1, 1), (345, .iadd, 1), (346, .iaload, 1)]
theorem zdb_1026 : zdk cL_law_ zdl_1026 = true := by decide +kernel
theorem dL_law__304 : decode cL_law_ 304 = .ok (.aload_n 0, 1) := zdk_g zdb_1026 (i := 0) rfl
theorem dL_law__305 : decode cL_law_ 305 = .ok (.iload 4, 2) := zdk_g zdb_1026 (i := 1) rfl
theorem dL_law__307 : decode cL_law_ 307 = .ok (.iconst 3, 1) := zdk_g zdb_1026 (i := 2) rfl
theorem dL_law__308 : decode cL_law_ 308 = .ok (.iadd, 1) := zdk_g zdb_1026 (i := 3) rfl
theorem dL_law__309 : decode cL_law_ 309 = .ok (.iaload, 1) := zdk_g zdb_1026 (i := 4) rfl
theorem dL_law__310 : decode cL_law_ 310 = .ok (.aload_n 0, 1) := zdk_g zdb_1026 (i := 5) rfl
theorem dL_law__311 : decode cL_law_ 311 = .ok (.iload 4, 2) := zdk_g zdb_1026 (i := 6) rfl
theorem dL_law__313 : decode cL_law_ 313 = .ok (.iconst 4, 1) := zdk_g zdb_1026 (i := 7) rfl
theorem dL_law__314 : decode cL_law_ 314 = .ok (.iadd, 1) := zdk_g zdb_1026 (i := 8) rfl
theorem dL_law__315 : decode cL_law_ 315 = .ok (.iaload, 1) := zdk_g zdb_1026 (i := 9) rfl
theorem dL_law__316 : decode cL_law_ 316 = .ok (.aload_n 0, 1) := zdk_g zdb_1026 (i := 10) rfl
theorem dL_law__317 : decode cL_law_ 317 = .ok (.iload 4, 2) := zdk_g zdb_1026 (i := 11) rfl
theorem dL_law__319 : decode cL_law_ 319 = .ok (.iconst 5, 1) := zdk_g zdb_1026 (i := 12) rfl
theorem dL_law__320 : decode cL_law_ 320 = .ok (.iadd, 1) := zdk_g zdb_1026 (i := 13) rfl
theorem dL_law__321 : decode cL_law_ 321 = .ok (.iaload, 1) := zdk_g zdb_1026 (i := 14) rfl
theorem dL_law__322 : decode cL_law_ 322 = .ok (.invokevirtual 134, 3) := zdk_g zdb_1026 (i := 15) rfl
theorem dL_law__325 : decode cL_law_ 325 = .ok (.pop, 1) := zdk_g zdb_1026 (i := 16) rfl
theorem dL_law__326 : decode cL_law_ 326 = .ok (.goto 1526, 3) := zdk_g zdb_1026 (i := 17) rfl
theorem dL_law__329 : decode cL_law_ 329 = .ok (.aload_n 1, 1) := zdk_g zdb_1026 (i := 18) rfl
theorem dL_law__330 : decode cL_law_ 330 = .ok (.aload_n 0, 1) := zdk_g zdb_1026 (i := 19) rfl
theorem dL_law__331 : decode cL_law_ 331 = .ok (.iload 4, 2) := zdk_g zdb_1026 (i := 20) rfl
theorem dL_law__333 : decode cL_law_ 333 = .ok (.iconst 1, 1) := zdk_g zdb_1026 (i := 21) rfl
theorem dL_law__334 : decode cL_law_ 334 = .ok (.iadd, 1) := zdk_g zdb_1026 (i := 22) rfl
theorem dL_law__335 : decode cL_law_ 335 = .ok (.iaload, 1) := zdk_g zdb_1026 (i := 23) rfl
theorem dL_law__336 : decode cL_law_ 336 = .ok (.invokevirtual 135, 3) := zdk_g zdb_1026 (i := 24) rfl
theorem dL_law__339 : decode cL_law_ 339 = .ok (.pop, 1) := zdk_g zdb_1026 (i := 25) rfl
theorem dL_law__340 : decode cL_law_ 340 = .ok (.aload_n 2, 1) := zdk_g zdb_1026 (i := 26) rfl
theorem dL_law__341 : decode cL_law_ 341 = .ok (.aload_n 0, 1) := zdk_g zdb_1026 (i := 27) rfl
theorem dL_law__342 : decode cL_law_ 342 = .ok (.iload 4, 2) := zdk_g zdb_1026 (i := 28) rfl
theorem dL_law__344 : decode cL_law_ 344 = .ok (.iconst 1, 1) := zdk_g zdb_1026 (i := 29) rfl
theorem dL_law__345 : decode cL_law_ 345 = .ok (.iadd, 1) := zdk_g zdb_1026 (i := 30) rfl
theorem dL_law__346 : decode cL_law_ 346 = .ok (.iaload, 1) := zdk_g zdb_1026 (i := 31) rfl
def zdl_1027 : List (Nat × Instr × Nat) := [(347, .invokevirtual 139, 3), (350, .pop, 1), (351, .goto 1501, 3), (354, .aload_n 1, 1), (355, .aload_n 3, 1), (356, .invokestatic 140, 3), (359, .istore 5, 2), (361, .aload_n 2, 1), (362, .invokevirtual 145, 3), (365, .istore 6, 2), (367, .goto 1485, 3), (370, .aload_n 1, 1), (371, .aload_n 3, 1), (372, .invokestatic 146, 3), (375, .istore 5, 2), (377, .aload_n 2, 1), (378, .invokevirtual 148, 3), (381, .istore 6, 2), (383, .goto 1469, 3), (386, .aload_n 1, 1), (387, .invokevirtual 149, 3), (390, .pop, 1), (391, .aload_n 2, 1), (392, .invokevirtual 152, 3), (395, .pop, 1), (396, .goto 1456, 3), (399, .aload_n 1, 1), (400, .aload_n 0, 1), (401, .iload 4, 2), (403, .iconst 1, 1), (404, .iadd, 1), (405, .iaload, 1)]
theorem zdb_1027 : zdk cL_law_ zdl_1027 = true := by decide +kernel
theorem dL_law__347 : decode cL_law_ 347 = .ok (.invokevirtual 139, 3) := zdk_g zdb_1027 (i := 0) rfl
theorem dL_law__350 : decode cL_law_ 350 = .ok (.pop, 1) := zdk_g zdb_1027 (i := 1) rfl
theorem dL_law__351 : decode cL_law_ 351 = .ok (.goto 1501, 3) := zdk_g zdb_1027 (i := 2) rfl
theorem dL_law__354 : decode cL_law_ 354 = .ok (.aload_n 1, 1) := zdk_g zdb_1027 (i := 3) rfl
theorem dL_law__355 : decode cL_law_ 355 = .ok (.aload_n 3, 1) := zdk_g zdb_1027 (i := 4) rfl
theorem dL_law__356 : decode cL_law_ 356 = .ok (.invokestatic 140, 3) := zdk_g zdb_1027 (i := 5) rfl
theorem dL_law__359 : decode cL_law_ 359 = .ok (.istore 5, 2) := zdk_g zdb_1027 (i := 6) rfl
theorem dL_law__361 : decode cL_law_ 361 = .ok (.aload_n 2, 1) := zdk_g zdb_1027 (i := 7) rfl
theorem dL_law__362 : decode cL_law_ 362 = .ok (.invokevirtual 145, 3) := zdk_g zdb_1027 (i := 8) rfl
theorem dL_law__365 : decode cL_law_ 365 = .ok (.istore 6, 2) := zdk_g zdb_1027 (i := 9) rfl
theorem dL_law__367 : decode cL_law_ 367 = .ok (.goto 1485, 3) := zdk_g zdb_1027 (i := 10) rfl
theorem dL_law__370 : decode cL_law_ 370 = .ok (.aload_n 1, 1) := zdk_g zdb_1027 (i := 11) rfl
theorem dL_law__371 : decode cL_law_ 371 = .ok (.aload_n 3, 1) := zdk_g zdb_1027 (i := 12) rfl
theorem dL_law__372 : decode cL_law_ 372 = .ok (.invokestatic 146, 3) := zdk_g zdb_1027 (i := 13) rfl
theorem dL_law__375 : decode cL_law_ 375 = .ok (.istore 5, 2) := zdk_g zdb_1027 (i := 14) rfl
theorem dL_law__377 : decode cL_law_ 377 = .ok (.aload_n 2, 1) := zdk_g zdb_1027 (i := 15) rfl
theorem dL_law__378 : decode cL_law_ 378 = .ok (.invokevirtual 148, 3) := zdk_g zdb_1027 (i := 16) rfl
theorem dL_law__381 : decode cL_law_ 381 = .ok (.istore 6, 2) := zdk_g zdb_1027 (i := 17) rfl
theorem dL_law__383 : decode cL_law_ 383 = .ok (.goto 1469, 3) := zdk_g zdb_1027 (i := 18) rfl
theorem dL_law__386 : decode cL_law_ 386 = .ok (.aload_n 1, 1) := zdk_g zdb_1027 (i := 19) rfl
theorem dL_law__387 : decode cL_law_ 387 = .ok (.invokevirtual 149, 3) := zdk_g zdb_1027 (i := 20) rfl
theorem dL_law__390 : decode cL_law_ 390 = .ok (.pop, 1) := zdk_g zdb_1027 (i := 21) rfl
theorem dL_law__391 : decode cL_law_ 391 = .ok (.aload_n 2, 1) := zdk_g zdb_1027 (i := 22) rfl
theorem dL_law__392 : decode cL_law_ 392 = .ok (.invokevirtual 152, 3) := zdk_g zdb_1027 (i := 23) rfl
theorem dL_law__395 : decode cL_law_ 395 = .ok (.pop, 1) := zdk_g zdb_1027 (i := 24) rfl
theorem dL_law__396 : decode cL_law_ 396 = .ok (.goto 1456, 3) := zdk_g zdb_1027 (i := 25) rfl
theorem dL_law__399 : decode cL_law_ 399 = .ok (.aload_n 1, 1) := zdk_g zdb_1027 (i := 26) rfl
theorem dL_law__400 : decode cL_law_ 400 = .ok (.aload_n 0, 1) := zdk_g zdb_1027 (i := 27) rfl
theorem dL_law__401 : decode cL_law_ 401 = .ok (.iload 4, 2) := zdk_g zdb_1027 (i := 28) rfl
theorem dL_law__403 : decode cL_law_ 403 = .ok (.iconst 1, 1) := zdk_g zdb_1027 (i := 29) rfl
theorem dL_law__404 : decode cL_law_ 404 = .ok (.iadd, 1) := zdk_g zdb_1027 (i := 30) rfl
theorem dL_law__405 : decode cL_law_ 405 = .ok (.iaload, 1) := zdk_g zdb_1027 (i := 31) rfl
def zdl_1028 : List (Nat × Instr × Nat) := [(406, .aload_n 0, 1), (407, .iload 4, 2), (409, .iconst 2, 1), (410, .iadd, 1), (411, .iaload, 1), (412, .aload_n 3, 1), (413, .invokestatic 153, 3), (416, .istore 5, 2), (418, .aload_n 2, 1), (419, .aload_n 0, 1), (420, .iload 4, 2), (422, .iconst 1, 1), (423, .iadd, 1), (424, .iaload, 1), (425, .aload_n 0, 1), (426, .iload 4, 2), (428, .iconst 2, 1), (429, .iadd, 1), (430, .iaload, 1), (431, .invokevirtual 156, 3), (434, .istore 6, 2), (436, .goto 1416, 3), (439, .aload_n 1, 1), (440, .aload_n 0, 1), (441, .iload 4, 2), (443, .iconst 1, 1), (444, .iadd, 1), (445, .iaload, 1), (446, .aload_n 0, 1), (447, .iload 4, 2), (449, .iconst 2, 1), (450, .iadd, 1)]
theorem zdb_1028 : zdk cL_law_ zdl_1028 = true := by decide +kernel
theorem dL_law__406 : decode cL_law_ 406 = .ok (.aload_n 0, 1) := zdk_g zdb_1028 (i := 0) rfl
theorem dL_law__407 : decode cL_law_ 407 = .ok (.iload 4, 2) := zdk_g zdb_1028 (i := 1) rfl
theorem dL_law__409 : decode cL_law_ 409 = .ok (.iconst 2, 1) := zdk_g zdb_1028 (i := 2) rfl
theorem dL_law__410 : decode cL_law_ 410 = .ok (.iadd, 1) := zdk_g zdb_1028 (i := 3) rfl
theorem dL_law__411 : decode cL_law_ 411 = .ok (.iaload, 1) := zdk_g zdb_1028 (i := 4) rfl
theorem dL_law__412 : decode cL_law_ 412 = .ok (.aload_n 3, 1) := zdk_g zdb_1028 (i := 5) rfl
theorem dL_law__413 : decode cL_law_ 413 = .ok (.invokestatic 153, 3) := zdk_g zdb_1028 (i := 6) rfl
theorem dL_law__416 : decode cL_law_ 416 = .ok (.istore 5, 2) := zdk_g zdb_1028 (i := 7) rfl
theorem dL_law__418 : decode cL_law_ 418 = .ok (.aload_n 2, 1) := zdk_g zdb_1028 (i := 8) rfl
theorem dL_law__419 : decode cL_law_ 419 = .ok (.aload_n 0, 1) := zdk_g zdb_1028 (i := 9) rfl
theorem dL_law__420 : decode cL_law_ 420 = .ok (.iload 4, 2) := zdk_g zdb_1028 (i := 10) rfl
theorem dL_law__422 : decode cL_law_ 422 = .ok (.iconst 1, 1) := zdk_g zdb_1028 (i := 11) rfl
theorem dL_law__423 : decode cL_law_ 423 = .ok (.iadd, 1) := zdk_g zdb_1028 (i := 12) rfl
theorem dL_law__424 : decode cL_law_ 424 = .ok (.iaload, 1) := zdk_g zdb_1028 (i := 13) rfl
theorem dL_law__425 : decode cL_law_ 425 = .ok (.aload_n 0, 1) := zdk_g zdb_1028 (i := 14) rfl
theorem dL_law__426 : decode cL_law_ 426 = .ok (.iload 4, 2) := zdk_g zdb_1028 (i := 15) rfl
theorem dL_law__428 : decode cL_law_ 428 = .ok (.iconst 2, 1) := zdk_g zdb_1028 (i := 16) rfl
theorem dL_law__429 : decode cL_law_ 429 = .ok (.iadd, 1) := zdk_g zdb_1028 (i := 17) rfl
theorem dL_law__430 : decode cL_law_ 430 = .ok (.iaload, 1) := zdk_g zdb_1028 (i := 18) rfl
theorem dL_law__431 : decode cL_law_ 431 = .ok (.invokevirtual 156, 3) := zdk_g zdb_1028 (i := 19) rfl
theorem dL_law__434 : decode cL_law_ 434 = .ok (.istore 6, 2) := zdk_g zdb_1028 (i := 20) rfl
theorem dL_law__436 : decode cL_law_ 436 = .ok (.goto 1416, 3) := zdk_g zdb_1028 (i := 21) rfl
theorem dL_law__439 : decode cL_law_ 439 = .ok (.aload_n 1, 1) := zdk_g zdb_1028 (i := 22) rfl
theorem dL_law__440 : decode cL_law_ 440 = .ok (.aload_n 0, 1) := zdk_g zdb_1028 (i := 23) rfl
theorem dL_law__441 : decode cL_law_ 441 = .ok (.iload 4, 2) := zdk_g zdb_1028 (i := 24) rfl
theorem dL_law__443 : decode cL_law_ 443 = .ok (.iconst 1, 1) := zdk_g zdb_1028 (i := 25) rfl
theorem dL_law__444 : decode cL_law_ 444 = .ok (.iadd, 1) := zdk_g zdb_1028 (i := 26) rfl
theorem dL_law__445 : decode cL_law_ 445 = .ok (.iaload, 1) := zdk_g zdb_1028 (i := 27) rfl
theorem dL_law__446 : decode cL_law_ 446 = .ok (.aload_n 0, 1) := zdk_g zdb_1028 (i := 28) rfl
theorem dL_law__447 : decode cL_law_ 447 = .ok (.iload 4, 2) := zdk_g zdb_1028 (i := 29) rfl
theorem dL_law__449 : decode cL_law_ 449 = .ok (.iconst 2, 1) := zdk_g zdb_1028 (i := 30) rfl
theorem dL_law__450 : decode cL_law_ 450 = .ok (.iadd, 1) := zdk_g zdb_1028 (i := 31) rfl
def zdl_1029 : List (Nat × Instr × Nat) := [(451, .iaload, 1), (452, .aload_n 3, 1), (453, .invokestatic 157, 3), (456, .istore 5, 2), (458, .aload_n 2, 1), (459, .aload_n 0, 1), (460, .iload 4, 2), (462, .iconst 1, 1), (463, .iadd, 1), (464, .iaload, 1), (465, .aload_n 0, 1), (466, .iload 4, 2), (468, .iconst 2, 1), (469, .iadd, 1), (470, .iaload, 1), (471, .invokevirtual 159, 3), (474, .istore 6, 2), (476, .goto 1376, 3), (479, .aload_n 1, 1), (480, .aload_n 0, 1), (481, .iload 4, 2), (483, .iconst 1, 1), (484, .iadd, 1), (485, .iaload, 1), (486, .aload_n 0, 1), (487, .iload 4, 2), (489, .iconst 2, 1), (490, .iadd, 1), (491, .iaload, 1), (492, .aload_n 3, 1), (493, .invokestatic 160, 3), (496, .istore 5, 2)]
theorem zdb_1029 : zdk cL_law_ zdl_1029 = true := by decide +kernel
theorem dL_law__451 : decode cL_law_ 451 = .ok (.iaload, 1) := zdk_g zdb_1029 (i := 0) rfl
theorem dL_law__452 : decode cL_law_ 452 = .ok (.aload_n 3, 1) := zdk_g zdb_1029 (i := 1) rfl
theorem dL_law__453 : decode cL_law_ 453 = .ok (.invokestatic 157, 3) := zdk_g zdb_1029 (i := 2) rfl
theorem dL_law__456 : decode cL_law_ 456 = .ok (.istore 5, 2) := zdk_g zdb_1029 (i := 3) rfl
theorem dL_law__458 : decode cL_law_ 458 = .ok (.aload_n 2, 1) := zdk_g zdb_1029 (i := 4) rfl
theorem dL_law__459 : decode cL_law_ 459 = .ok (.aload_n 0, 1) := zdk_g zdb_1029 (i := 5) rfl
theorem dL_law__460 : decode cL_law_ 460 = .ok (.iload 4, 2) := zdk_g zdb_1029 (i := 6) rfl
theorem dL_law__462 : decode cL_law_ 462 = .ok (.iconst 1, 1) := zdk_g zdb_1029 (i := 7) rfl
theorem dL_law__463 : decode cL_law_ 463 = .ok (.iadd, 1) := zdk_g zdb_1029 (i := 8) rfl
theorem dL_law__464 : decode cL_law_ 464 = .ok (.iaload, 1) := zdk_g zdb_1029 (i := 9) rfl
theorem dL_law__465 : decode cL_law_ 465 = .ok (.aload_n 0, 1) := zdk_g zdb_1029 (i := 10) rfl
theorem dL_law__466 : decode cL_law_ 466 = .ok (.iload 4, 2) := zdk_g zdb_1029 (i := 11) rfl
theorem dL_law__468 : decode cL_law_ 468 = .ok (.iconst 2, 1) := zdk_g zdb_1029 (i := 12) rfl
theorem dL_law__469 : decode cL_law_ 469 = .ok (.iadd, 1) := zdk_g zdb_1029 (i := 13) rfl
theorem dL_law__470 : decode cL_law_ 470 = .ok (.iaload, 1) := zdk_g zdb_1029 (i := 14) rfl
theorem dL_law__471 : decode cL_law_ 471 = .ok (.invokevirtual 159, 3) := zdk_g zdb_1029 (i := 15) rfl
theorem dL_law__474 : decode cL_law_ 474 = .ok (.istore 6, 2) := zdk_g zdb_1029 (i := 16) rfl
theorem dL_law__476 : decode cL_law_ 476 = .ok (.goto 1376, 3) := zdk_g zdb_1029 (i := 17) rfl
theorem dL_law__479 : decode cL_law_ 479 = .ok (.aload_n 1, 1) := zdk_g zdb_1029 (i := 18) rfl
theorem dL_law__480 : decode cL_law_ 480 = .ok (.aload_n 0, 1) := zdk_g zdb_1029 (i := 19) rfl
theorem dL_law__481 : decode cL_law_ 481 = .ok (.iload 4, 2) := zdk_g zdb_1029 (i := 20) rfl
theorem dL_law__483 : decode cL_law_ 483 = .ok (.iconst 1, 1) := zdk_g zdb_1029 (i := 21) rfl
theorem dL_law__484 : decode cL_law_ 484 = .ok (.iadd, 1) := zdk_g zdb_1029 (i := 22) rfl
theorem dL_law__485 : decode cL_law_ 485 = .ok (.iaload, 1) := zdk_g zdb_1029 (i := 23) rfl
theorem dL_law__486 : decode cL_law_ 486 = .ok (.aload_n 0, 1) := zdk_g zdb_1029 (i := 24) rfl
theorem dL_law__487 : decode cL_law_ 487 = .ok (.iload 4, 2) := zdk_g zdb_1029 (i := 25) rfl
theorem dL_law__489 : decode cL_law_ 489 = .ok (.iconst 2, 1) := zdk_g zdb_1029 (i := 26) rfl
theorem dL_law__490 : decode cL_law_ 490 = .ok (.iadd, 1) := zdk_g zdb_1029 (i := 27) rfl
theorem dL_law__491 : decode cL_law_ 491 = .ok (.iaload, 1) := zdk_g zdb_1029 (i := 28) rfl
theorem dL_law__492 : decode cL_law_ 492 = .ok (.aload_n 3, 1) := zdk_g zdb_1029 (i := 29) rfl
theorem dL_law__493 : decode cL_law_ 493 = .ok (.invokestatic 160, 3) := zdk_g zdb_1029 (i := 30) rfl
theorem dL_law__496 : decode cL_law_ 496 = .ok (.istore 5, 2) := zdk_g zdb_1029 (i := 31) rfl
def zdl_1030 : List (Nat × Instr × Nat) := [(498, .aload_n 2, 1), (499, .aload_n 0, 1), (500, .iload 4, 2), (502, .iconst 1, 1), (503, .iadd, 1), (504, .iaload, 1), (505, .aload_n 0, 1), (506, .iload 4, 2), (508, .iconst 2, 1), (509, .iadd, 1), (510, .iaload, 1), (511, .invokevirtual 162, 3), (514, .istore 6, 2), (516, .goto 1336, 3), (519, .aload_n 1, 1), (520, .invokevirtual 163, 3), (523, .pop, 1), (524, .aload_n 2, 1), (525, .invokevirtual 166, 3), (528, .pop, 1), (529, .goto 1323, 3), (532, .aload_n 1, 1), (533, .aload_n 0, 1), (534, .iload 4, 2), (536, .iconst 1, 1), (537, .iadd, 1), (538, .iaload, 1), (539, .aload_n 3, 1), (540, .invokestatic 167, 3), (543, .istore 5, 2), (545, .aload_n 2, 1), (546, .aload_n 0, 1)]
theorem zdb_1030 : zdk cL_law_ zdl_1030 = true := by decide +kernel
theorem dL_law__498 : decode cL_law_ 498 = .ok (.aload_n 2, 1) := zdk_g zdb_1030 (i := 0) rfl
theorem dL_law__499 : decode cL_law_ 499 = .ok (.aload_n 0, 1) := zdk_g zdb_1030 (i := 1) rfl
theorem dL_law__500 : decode cL_law_ 500 = .ok (.iload 4, 2) := zdk_g zdb_1030 (i := 2) rfl
theorem dL_law__502 : decode cL_law_ 502 = .ok (.iconst 1, 1) := zdk_g zdb_1030 (i := 3) rfl
theorem dL_law__503 : decode cL_law_ 503 = .ok (.iadd, 1) := zdk_g zdb_1030 (i := 4) rfl
theorem dL_law__504 : decode cL_law_ 504 = .ok (.iaload, 1) := zdk_g zdb_1030 (i := 5) rfl
theorem dL_law__505 : decode cL_law_ 505 = .ok (.aload_n 0, 1) := zdk_g zdb_1030 (i := 6) rfl
theorem dL_law__506 : decode cL_law_ 506 = .ok (.iload 4, 2) := zdk_g zdb_1030 (i := 7) rfl
theorem dL_law__508 : decode cL_law_ 508 = .ok (.iconst 2, 1) := zdk_g zdb_1030 (i := 8) rfl
theorem dL_law__509 : decode cL_law_ 509 = .ok (.iadd, 1) := zdk_g zdb_1030 (i := 9) rfl
theorem dL_law__510 : decode cL_law_ 510 = .ok (.iaload, 1) := zdk_g zdb_1030 (i := 10) rfl
theorem dL_law__511 : decode cL_law_ 511 = .ok (.invokevirtual 162, 3) := zdk_g zdb_1030 (i := 11) rfl
theorem dL_law__514 : decode cL_law_ 514 = .ok (.istore 6, 2) := zdk_g zdb_1030 (i := 12) rfl
theorem dL_law__516 : decode cL_law_ 516 = .ok (.goto 1336, 3) := zdk_g zdb_1030 (i := 13) rfl
theorem dL_law__519 : decode cL_law_ 519 = .ok (.aload_n 1, 1) := zdk_g zdb_1030 (i := 14) rfl
theorem dL_law__520 : decode cL_law_ 520 = .ok (.invokevirtual 163, 3) := zdk_g zdb_1030 (i := 15) rfl
theorem dL_law__523 : decode cL_law_ 523 = .ok (.pop, 1) := zdk_g zdb_1030 (i := 16) rfl
theorem dL_law__524 : decode cL_law_ 524 = .ok (.aload_n 2, 1) := zdk_g zdb_1030 (i := 17) rfl
theorem dL_law__525 : decode cL_law_ 525 = .ok (.invokevirtual 166, 3) := zdk_g zdb_1030 (i := 18) rfl
theorem dL_law__528 : decode cL_law_ 528 = .ok (.pop, 1) := zdk_g zdb_1030 (i := 19) rfl
theorem dL_law__529 : decode cL_law_ 529 = .ok (.goto 1323, 3) := zdk_g zdb_1030 (i := 20) rfl
theorem dL_law__532 : decode cL_law_ 532 = .ok (.aload_n 1, 1) := zdk_g zdb_1030 (i := 21) rfl
theorem dL_law__533 : decode cL_law_ 533 = .ok (.aload_n 0, 1) := zdk_g zdb_1030 (i := 22) rfl
theorem dL_law__534 : decode cL_law_ 534 = .ok (.iload 4, 2) := zdk_g zdb_1030 (i := 23) rfl
theorem dL_law__536 : decode cL_law_ 536 = .ok (.iconst 1, 1) := zdk_g zdb_1030 (i := 24) rfl
theorem dL_law__537 : decode cL_law_ 537 = .ok (.iadd, 1) := zdk_g zdb_1030 (i := 25) rfl
theorem dL_law__538 : decode cL_law_ 538 = .ok (.iaload, 1) := zdk_g zdb_1030 (i := 26) rfl
theorem dL_law__539 : decode cL_law_ 539 = .ok (.aload_n 3, 1) := zdk_g zdb_1030 (i := 27) rfl
theorem dL_law__540 : decode cL_law_ 540 = .ok (.invokestatic 167, 3) := zdk_g zdb_1030 (i := 28) rfl
theorem dL_law__543 : decode cL_law_ 543 = .ok (.istore 5, 2) := zdk_g zdb_1030 (i := 29) rfl
theorem dL_law__545 : decode cL_law_ 545 = .ok (.aload_n 2, 1) := zdk_g zdb_1030 (i := 30) rfl
theorem dL_law__546 : decode cL_law_ 546 = .ok (.aload_n 0, 1) := zdk_g zdb_1030 (i := 31) rfl
def zdl_1031 : List (Nat × Instr × Nat) := [(547, .iload 4, 2), (549, .iconst 1, 1), (550, .iadd, 1), (551, .iaload, 1), (552, .invokevirtual 170, 3), (555, .istore 6, 2), (557, .goto 1295, 3), (560, .aload_n 1, 1), (561, .aload_n 0, 1), (562, .iload 4, 2), (564, .iconst 1, 1), (565, .iadd, 1), (566, .iaload, 1), (567, .aload_n 0, 1), (568, .iload 4, 2), (570, .iconst 2, 1), (571, .iadd, 1), (572, .iaload, 1), (573, .aload_n 0, 1), (574, .iload 4, 2), (576, .iconst 3, 1), (577, .iadd, 1), (578, .iaload, 1), (579, .aload_n 3, 1), (580, .invokestatic 171, 3), (583, .istore 5, 2), (585, .aload_n 2, 1), (586, .aload_n 0, 1), (587, .iload 4, 2), (589, .iconst 1, 1), (590, .iadd, 1), (591, .iaload, 1)]
theorem zdb_1031 : zdk cL_law_ zdl_1031 = true := by decide +kernel
theorem dL_law__547 : decode cL_law_ 547 = .ok (.iload 4, 2) := zdk_g zdb_1031 (i := 0) rfl
theorem dL_law__549 : decode cL_law_ 549 = .ok (.iconst 1, 1) := zdk_g zdb_1031 (i := 1) rfl
theorem dL_law__550 : decode cL_law_ 550 = .ok (.iadd, 1) := zdk_g zdb_1031 (i := 2) rfl
theorem dL_law__551 : decode cL_law_ 551 = .ok (.iaload, 1) := zdk_g zdb_1031 (i := 3) rfl
theorem dL_law__552 : decode cL_law_ 552 = .ok (.invokevirtual 170, 3) := zdk_g zdb_1031 (i := 4) rfl
theorem dL_law__555 : decode cL_law_ 555 = .ok (.istore 6, 2) := zdk_g zdb_1031 (i := 5) rfl
theorem dL_law__557 : decode cL_law_ 557 = .ok (.goto 1295, 3) := zdk_g zdb_1031 (i := 6) rfl
theorem dL_law__560 : decode cL_law_ 560 = .ok (.aload_n 1, 1) := zdk_g zdb_1031 (i := 7) rfl
theorem dL_law__561 : decode cL_law_ 561 = .ok (.aload_n 0, 1) := zdk_g zdb_1031 (i := 8) rfl
theorem dL_law__562 : decode cL_law_ 562 = .ok (.iload 4, 2) := zdk_g zdb_1031 (i := 9) rfl
theorem dL_law__564 : decode cL_law_ 564 = .ok (.iconst 1, 1) := zdk_g zdb_1031 (i := 10) rfl
theorem dL_law__565 : decode cL_law_ 565 = .ok (.iadd, 1) := zdk_g zdb_1031 (i := 11) rfl
theorem dL_law__566 : decode cL_law_ 566 = .ok (.iaload, 1) := zdk_g zdb_1031 (i := 12) rfl
theorem dL_law__567 : decode cL_law_ 567 = .ok (.aload_n 0, 1) := zdk_g zdb_1031 (i := 13) rfl
theorem dL_law__568 : decode cL_law_ 568 = .ok (.iload 4, 2) := zdk_g zdb_1031 (i := 14) rfl
theorem dL_law__570 : decode cL_law_ 570 = .ok (.iconst 2, 1) := zdk_g zdb_1031 (i := 15) rfl
theorem dL_law__571 : decode cL_law_ 571 = .ok (.iadd, 1) := zdk_g zdb_1031 (i := 16) rfl
theorem dL_law__572 : decode cL_law_ 572 = .ok (.iaload, 1) := zdk_g zdb_1031 (i := 17) rfl
theorem dL_law__573 : decode cL_law_ 573 = .ok (.aload_n 0, 1) := zdk_g zdb_1031 (i := 18) rfl
theorem dL_law__574 : decode cL_law_ 574 = .ok (.iload 4, 2) := zdk_g zdb_1031 (i := 19) rfl
theorem dL_law__576 : decode cL_law_ 576 = .ok (.iconst 3, 1) := zdk_g zdb_1031 (i := 20) rfl
theorem dL_law__577 : decode cL_law_ 577 = .ok (.iadd, 1) := zdk_g zdb_1031 (i := 21) rfl
theorem dL_law__578 : decode cL_law_ 578 = .ok (.iaload, 1) := zdk_g zdb_1031 (i := 22) rfl
theorem dL_law__579 : decode cL_law_ 579 = .ok (.aload_n 3, 1) := zdk_g zdb_1031 (i := 23) rfl
theorem dL_law__580 : decode cL_law_ 580 = .ok (.invokestatic 171, 3) := zdk_g zdb_1031 (i := 24) rfl
theorem dL_law__583 : decode cL_law_ 583 = .ok (.istore 5, 2) := zdk_g zdb_1031 (i := 25) rfl
theorem dL_law__585 : decode cL_law_ 585 = .ok (.aload_n 2, 1) := zdk_g zdb_1031 (i := 26) rfl
theorem dL_law__586 : decode cL_law_ 586 = .ok (.aload_n 0, 1) := zdk_g zdb_1031 (i := 27) rfl
theorem dL_law__587 : decode cL_law_ 587 = .ok (.iload 4, 2) := zdk_g zdb_1031 (i := 28) rfl
theorem dL_law__589 : decode cL_law_ 589 = .ok (.iconst 1, 1) := zdk_g zdb_1031 (i := 29) rfl
theorem dL_law__590 : decode cL_law_ 590 = .ok (.iadd, 1) := zdk_g zdb_1031 (i := 30) rfl
theorem dL_law__591 : decode cL_law_ 591 = .ok (.iaload, 1) := zdk_g zdb_1031 (i := 31) rfl
def zdl_1032 : List (Nat × Instr × Nat) := [(592, .aload_n 0, 1), (593, .iload 4, 2), (595, .iconst 2, 1), (596, .iadd, 1), (597, .iaload, 1), (598, .aload_n 0, 1), (599, .iload 4, 2), (601, .iconst 3, 1), (602, .iadd, 1), (603, .iaload, 1), (604, .invokevirtual 174, 3), (607, .istore 6, 2), (609, .goto 1243, 3), (612, .aload_n 1, 1), (613, .aload_n 0, 1), (614, .iload 4, 2), (616, .iconst 1, 1), (617, .iadd, 1), (618, .iaload, 1), (619, .invokestatic 175, 3), (622, .istore 5, 2), (624, .aload_n 2, 1), (625, .aload_n 0, 1), (626, .iload 4, 2), (628, .iconst 1, 1), (629, .iadd, 1), (630, .iaload, 1), (631, .invokevirtual 178, 3), (634, .goto 1218, 3), (637, .aload_n 1, 1), (638, .aload_n 0, 1), (639, .iload 4, 2)]
theorem zdb_1032 : zdk cL_law_ zdl_1032 = true := by decide +kernel
theorem dL_law__592 : decode cL_law_ 592 = .ok (.aload_n 0, 1) := zdk_g zdb_1032 (i := 0) rfl
theorem dL_law__593 : decode cL_law_ 593 = .ok (.iload 4, 2) := zdk_g zdb_1032 (i := 1) rfl
theorem dL_law__595 : decode cL_law_ 595 = .ok (.iconst 2, 1) := zdk_g zdb_1032 (i := 2) rfl
theorem dL_law__596 : decode cL_law_ 596 = .ok (.iadd, 1) := zdk_g zdb_1032 (i := 3) rfl
theorem dL_law__597 : decode cL_law_ 597 = .ok (.iaload, 1) := zdk_g zdb_1032 (i := 4) rfl
theorem dL_law__598 : decode cL_law_ 598 = .ok (.aload_n 0, 1) := zdk_g zdb_1032 (i := 5) rfl
theorem dL_law__599 : decode cL_law_ 599 = .ok (.iload 4, 2) := zdk_g zdb_1032 (i := 6) rfl
theorem dL_law__601 : decode cL_law_ 601 = .ok (.iconst 3, 1) := zdk_g zdb_1032 (i := 7) rfl
theorem dL_law__602 : decode cL_law_ 602 = .ok (.iadd, 1) := zdk_g zdb_1032 (i := 8) rfl
theorem dL_law__603 : decode cL_law_ 603 = .ok (.iaload, 1) := zdk_g zdb_1032 (i := 9) rfl
theorem dL_law__604 : decode cL_law_ 604 = .ok (.invokevirtual 174, 3) := zdk_g zdb_1032 (i := 10) rfl
theorem dL_law__607 : decode cL_law_ 607 = .ok (.istore 6, 2) := zdk_g zdb_1032 (i := 11) rfl
theorem dL_law__609 : decode cL_law_ 609 = .ok (.goto 1243, 3) := zdk_g zdb_1032 (i := 12) rfl
theorem dL_law__612 : decode cL_law_ 612 = .ok (.aload_n 1, 1) := zdk_g zdb_1032 (i := 13) rfl
theorem dL_law__613 : decode cL_law_ 613 = .ok (.aload_n 0, 1) := zdk_g zdb_1032 (i := 14) rfl
theorem dL_law__614 : decode cL_law_ 614 = .ok (.iload 4, 2) := zdk_g zdb_1032 (i := 15) rfl
theorem dL_law__616 : decode cL_law_ 616 = .ok (.iconst 1, 1) := zdk_g zdb_1032 (i := 16) rfl
theorem dL_law__617 : decode cL_law_ 617 = .ok (.iadd, 1) := zdk_g zdb_1032 (i := 17) rfl
theorem dL_law__618 : decode cL_law_ 618 = .ok (.iaload, 1) := zdk_g zdb_1032 (i := 18) rfl
theorem dL_law__619 : decode cL_law_ 619 = .ok (.invokestatic 175, 3) := zdk_g zdb_1032 (i := 19) rfl
theorem dL_law__622 : decode cL_law_ 622 = .ok (.istore 5, 2) := zdk_g zdb_1032 (i := 20) rfl
theorem dL_law__624 : decode cL_law_ 624 = .ok (.aload_n 2, 1) := zdk_g zdb_1032 (i := 21) rfl
theorem dL_law__625 : decode cL_law_ 625 = .ok (.aload_n 0, 1) := zdk_g zdb_1032 (i := 22) rfl
theorem dL_law__626 : decode cL_law_ 626 = .ok (.iload 4, 2) := zdk_g zdb_1032 (i := 23) rfl
theorem dL_law__628 : decode cL_law_ 628 = .ok (.iconst 1, 1) := zdk_g zdb_1032 (i := 24) rfl
theorem dL_law__629 : decode cL_law_ 629 = .ok (.iadd, 1) := zdk_g zdb_1032 (i := 25) rfl
theorem dL_law__630 : decode cL_law_ 630 = .ok (.iaload, 1) := zdk_g zdb_1032 (i := 26) rfl
theorem dL_law__631 : decode cL_law_ 631 = .ok (.invokevirtual 178, 3) := zdk_g zdb_1032 (i := 27) rfl
theorem dL_law__634 : decode cL_law_ 634 = .ok (.goto 1218, 3) := zdk_g zdb_1032 (i := 28) rfl
theorem dL_law__637 : decode cL_law_ 637 = .ok (.aload_n 1, 1) := zdk_g zdb_1032 (i := 29) rfl
theorem dL_law__638 : decode cL_law_ 638 = .ok (.aload_n 0, 1) := zdk_g zdb_1032 (i := 30) rfl
theorem dL_law__639 : decode cL_law_ 639 = .ok (.iload 4, 2) := zdk_g zdb_1032 (i := 31) rfl
def zdl_1033 : List (Nat × Instr × Nat) := [(641, .iconst 1, 1), (642, .iadd, 1), (643, .iaload, 1), (644, .aload_n 3, 1), (645, .invokestatic 179, 3), (648, .istore 5, 2), (650, .aload_n 2, 1), (651, .aload_n 0, 1), (652, .iload 4, 2), (654, .iconst 1, 1), (655, .iadd, 1), (656, .iaload, 1), (657, .invokevirtual 181, 3), (660, .istore 6, 2), (662, .goto 1190, 3), (665, .aload_n 1, 1), (666, .aload_n 0, 1), (667, .iload 4, 2), (669, .iconst 1, 1), (670, .iadd, 1), (671, .iaload, 1), (672, .aload_n 0, 1), (673, .iload 4, 2), (675, .iconst 2, 1), (676, .iadd, 1), (677, .iaload, 1), (678, .aload_n 3, 1), (679, .invokestatic 182, 3), (682, .istore 5, 2), (684, .aload_n 2, 1), (685, .aload_n 0, 1), (686, .iload 4, 2)]
theorem zdb_1033 : zdk cL_law_ zdl_1033 = true := by decide +kernel
theorem dL_law__641 : decode cL_law_ 641 = .ok (.iconst 1, 1) := zdk_g zdb_1033 (i := 0) rfl
theorem dL_law__642 : decode cL_law_ 642 = .ok (.iadd, 1) := zdk_g zdb_1033 (i := 1) rfl
theorem dL_law__643 : decode cL_law_ 643 = .ok (.iaload, 1) := zdk_g zdb_1033 (i := 2) rfl
theorem dL_law__644 : decode cL_law_ 644 = .ok (.aload_n 3, 1) := zdk_g zdb_1033 (i := 3) rfl
theorem dL_law__645 : decode cL_law_ 645 = .ok (.invokestatic 179, 3) := zdk_g zdb_1033 (i := 4) rfl
theorem dL_law__648 : decode cL_law_ 648 = .ok (.istore 5, 2) := zdk_g zdb_1033 (i := 5) rfl
theorem dL_law__650 : decode cL_law_ 650 = .ok (.aload_n 2, 1) := zdk_g zdb_1033 (i := 6) rfl
theorem dL_law__651 : decode cL_law_ 651 = .ok (.aload_n 0, 1) := zdk_g zdb_1033 (i := 7) rfl
theorem dL_law__652 : decode cL_law_ 652 = .ok (.iload 4, 2) := zdk_g zdb_1033 (i := 8) rfl
theorem dL_law__654 : decode cL_law_ 654 = .ok (.iconst 1, 1) := zdk_g zdb_1033 (i := 9) rfl
theorem dL_law__655 : decode cL_law_ 655 = .ok (.iadd, 1) := zdk_g zdb_1033 (i := 10) rfl
theorem dL_law__656 : decode cL_law_ 656 = .ok (.iaload, 1) := zdk_g zdb_1033 (i := 11) rfl
theorem dL_law__657 : decode cL_law_ 657 = .ok (.invokevirtual 181, 3) := zdk_g zdb_1033 (i := 12) rfl
theorem dL_law__660 : decode cL_law_ 660 = .ok (.istore 6, 2) := zdk_g zdb_1033 (i := 13) rfl
theorem dL_law__662 : decode cL_law_ 662 = .ok (.goto 1190, 3) := zdk_g zdb_1033 (i := 14) rfl
theorem dL_law__665 : decode cL_law_ 665 = .ok (.aload_n 1, 1) := zdk_g zdb_1033 (i := 15) rfl
theorem dL_law__666 : decode cL_law_ 666 = .ok (.aload_n 0, 1) := zdk_g zdb_1033 (i := 16) rfl
theorem dL_law__667 : decode cL_law_ 667 = .ok (.iload 4, 2) := zdk_g zdb_1033 (i := 17) rfl
theorem dL_law__669 : decode cL_law_ 669 = .ok (.iconst 1, 1) := zdk_g zdb_1033 (i := 18) rfl
theorem dL_law__670 : decode cL_law_ 670 = .ok (.iadd, 1) := zdk_g zdb_1033 (i := 19) rfl
theorem dL_law__671 : decode cL_law_ 671 = .ok (.iaload, 1) := zdk_g zdb_1033 (i := 20) rfl
theorem dL_law__672 : decode cL_law_ 672 = .ok (.aload_n 0, 1) := zdk_g zdb_1033 (i := 21) rfl
theorem dL_law__673 : decode cL_law_ 673 = .ok (.iload 4, 2) := zdk_g zdb_1033 (i := 22) rfl
theorem dL_law__675 : decode cL_law_ 675 = .ok (.iconst 2, 1) := zdk_g zdb_1033 (i := 23) rfl
theorem dL_law__676 : decode cL_law_ 676 = .ok (.iadd, 1) := zdk_g zdb_1033 (i := 24) rfl
theorem dL_law__677 : decode cL_law_ 677 = .ok (.iaload, 1) := zdk_g zdb_1033 (i := 25) rfl
theorem dL_law__678 : decode cL_law_ 678 = .ok (.aload_n 3, 1) := zdk_g zdb_1033 (i := 26) rfl
theorem dL_law__679 : decode cL_law_ 679 = .ok (.invokestatic 182, 3) := zdk_g zdb_1033 (i := 27) rfl
theorem dL_law__682 : decode cL_law_ 682 = .ok (.istore 5, 2) := zdk_g zdb_1033 (i := 28) rfl
theorem dL_law__684 : decode cL_law_ 684 = .ok (.aload_n 2, 1) := zdk_g zdb_1033 (i := 29) rfl
theorem dL_law__685 : decode cL_law_ 685 = .ok (.aload_n 0, 1) := zdk_g zdb_1033 (i := 30) rfl
theorem dL_law__686 : decode cL_law_ 686 = .ok (.iload 4, 2) := zdk_g zdb_1033 (i := 31) rfl
def zdl_1034 : List (Nat × Instr × Nat) := [(688, .iconst 1, 1), (689, .iadd, 1), (690, .iaload, 1), (691, .aload_n 0, 1), (692, .iload 4, 2), (694, .iconst 2, 1), (695, .iadd, 1), (696, .iaload, 1), (697, .invokevirtual 184, 3), (700, .istore 6, 2), (702, .goto 1150, 3), (705, .aload_n 1, 1), (706, .aload_n 0, 1), (707, .iload 4, 2), (709, .iconst 1, 1), (710, .iadd, 1), (711, .iaload, 1), (712, .aload_n 0, 1), (713, .iload 4, 2), (715, .iconst 2, 1), (716, .iadd, 1), (717, .iaload, 1), (718, .aload_n 3, 1), (719, .invokestatic 185, 3), (722, .istore 5, 2), (724, .aload_n 2, 1), (725, .aload_n 0, 1), (726, .iload 4, 2), (728, .iconst 1, 1), (729, .iadd, 1), (730, .iaload, 1), (731, .aload_n 0, 1)]
theorem zdb_1034 : zdk cL_law_ zdl_1034 = true := by decide +kernel
theorem dL_law__688 : decode cL_law_ 688 = .ok (.iconst 1, 1) := zdk_g zdb_1034 (i := 0) rfl
theorem dL_law__689 : decode cL_law_ 689 = .ok (.iadd, 1) := zdk_g zdb_1034 (i := 1) rfl
theorem dL_law__690 : decode cL_law_ 690 = .ok (.iaload, 1) := zdk_g zdb_1034 (i := 2) rfl
theorem dL_law__691 : decode cL_law_ 691 = .ok (.aload_n 0, 1) := zdk_g zdb_1034 (i := 3) rfl
theorem dL_law__692 : decode cL_law_ 692 = .ok (.iload 4, 2) := zdk_g zdb_1034 (i := 4) rfl
theorem dL_law__694 : decode cL_law_ 694 = .ok (.iconst 2, 1) := zdk_g zdb_1034 (i := 5) rfl
theorem dL_law__695 : decode cL_law_ 695 = .ok (.iadd, 1) := zdk_g zdb_1034 (i := 6) rfl
theorem dL_law__696 : decode cL_law_ 696 = .ok (.iaload, 1) := zdk_g zdb_1034 (i := 7) rfl
theorem dL_law__697 : decode cL_law_ 697 = .ok (.invokevirtual 184, 3) := zdk_g zdb_1034 (i := 8) rfl
theorem dL_law__700 : decode cL_law_ 700 = .ok (.istore 6, 2) := zdk_g zdb_1034 (i := 9) rfl
theorem dL_law__702 : decode cL_law_ 702 = .ok (.goto 1150, 3) := zdk_g zdb_1034 (i := 10) rfl
theorem dL_law__705 : decode cL_law_ 705 = .ok (.aload_n 1, 1) := zdk_g zdb_1034 (i := 11) rfl
theorem dL_law__706 : decode cL_law_ 706 = .ok (.aload_n 0, 1) := zdk_g zdb_1034 (i := 12) rfl
theorem dL_law__707 : decode cL_law_ 707 = .ok (.iload 4, 2) := zdk_g zdb_1034 (i := 13) rfl
theorem dL_law__709 : decode cL_law_ 709 = .ok (.iconst 1, 1) := zdk_g zdb_1034 (i := 14) rfl
theorem dL_law__710 : decode cL_law_ 710 = .ok (.iadd, 1) := zdk_g zdb_1034 (i := 15) rfl
theorem dL_law__711 : decode cL_law_ 711 = .ok (.iaload, 1) := zdk_g zdb_1034 (i := 16) rfl
theorem dL_law__712 : decode cL_law_ 712 = .ok (.aload_n 0, 1) := zdk_g zdb_1034 (i := 17) rfl
theorem dL_law__713 : decode cL_law_ 713 = .ok (.iload 4, 2) := zdk_g zdb_1034 (i := 18) rfl
theorem dL_law__715 : decode cL_law_ 715 = .ok (.iconst 2, 1) := zdk_g zdb_1034 (i := 19) rfl
theorem dL_law__716 : decode cL_law_ 716 = .ok (.iadd, 1) := zdk_g zdb_1034 (i := 20) rfl
theorem dL_law__717 : decode cL_law_ 717 = .ok (.iaload, 1) := zdk_g zdb_1034 (i := 21) rfl
theorem dL_law__718 : decode cL_law_ 718 = .ok (.aload_n 3, 1) := zdk_g zdb_1034 (i := 22) rfl
theorem dL_law__719 : decode cL_law_ 719 = .ok (.invokestatic 185, 3) := zdk_g zdb_1034 (i := 23) rfl
theorem dL_law__722 : decode cL_law_ 722 = .ok (.istore 5, 2) := zdk_g zdb_1034 (i := 24) rfl
theorem dL_law__724 : decode cL_law_ 724 = .ok (.aload_n 2, 1) := zdk_g zdb_1034 (i := 25) rfl
theorem dL_law__725 : decode cL_law_ 725 = .ok (.aload_n 0, 1) := zdk_g zdb_1034 (i := 26) rfl
theorem dL_law__726 : decode cL_law_ 726 = .ok (.iload 4, 2) := zdk_g zdb_1034 (i := 27) rfl
theorem dL_law__728 : decode cL_law_ 728 = .ok (.iconst 1, 1) := zdk_g zdb_1034 (i := 28) rfl
theorem dL_law__729 : decode cL_law_ 729 = .ok (.iadd, 1) := zdk_g zdb_1034 (i := 29) rfl
theorem dL_law__730 : decode cL_law_ 730 = .ok (.iaload, 1) := zdk_g zdb_1034 (i := 30) rfl
theorem dL_law__731 : decode cL_law_ 731 = .ok (.aload_n 0, 1) := zdk_g zdb_1034 (i := 31) rfl
def zdl_1035 : List (Nat × Instr × Nat) := [(732, .iload 4, 2), (734, .iconst 2, 1), (735, .iadd, 1), (736, .iaload, 1), (737, .invokevirtual 187, 3), (740, .istore 6, 2), (742, .goto 1110, 3), (745, .aload_n 1, 1), (746, .aload_n 0, 1), (747, .iload 4, 2), (749, .iconst 1, 1), (750, .iadd, 1), (751, .iaload, 1), (752, .aload_n 0, 1), (753, .iload 4, 2), (755, .iconst 2, 1), (756, .iadd, 1), (757, .iaload, 1), (758, .ifCond .eq 7, 3), (761, .iconst 1, 1), (762, .goto 4, 3), (765, .iconst 0, 1), (766, .aload_n 3, 1), (767, .invokestatic 188, 3), (770, .istore 5, 2), (772, .aload_n 2, 1), (773, .aload_n 0, 1), (774, .iload 4, 2), (776, .iconst 1, 1), (777, .iadd, 1), (778, .iaload, 1), (779, .aload_n 0, 1)]
theorem zdb_1035 : zdk cL_law_ zdl_1035 = true := by decide +kernel
theorem dL_law__732 : decode cL_law_ 732 = .ok (.iload 4, 2) := zdk_g zdb_1035 (i := 0) rfl
theorem dL_law__734 : decode cL_law_ 734 = .ok (.iconst 2, 1) := zdk_g zdb_1035 (i := 1) rfl
theorem dL_law__735 : decode cL_law_ 735 = .ok (.iadd, 1) := zdk_g zdb_1035 (i := 2) rfl
theorem dL_law__736 : decode cL_law_ 736 = .ok (.iaload, 1) := zdk_g zdb_1035 (i := 3) rfl
theorem dL_law__737 : decode cL_law_ 737 = .ok (.invokevirtual 187, 3) := zdk_g zdb_1035 (i := 4) rfl
theorem dL_law__740 : decode cL_law_ 740 = .ok (.istore 6, 2) := zdk_g zdb_1035 (i := 5) rfl
theorem dL_law__742 : decode cL_law_ 742 = .ok (.goto 1110, 3) := zdk_g zdb_1035 (i := 6) rfl
theorem dL_law__745 : decode cL_law_ 745 = .ok (.aload_n 1, 1) := zdk_g zdb_1035 (i := 7) rfl
theorem dL_law__746 : decode cL_law_ 746 = .ok (.aload_n 0, 1) := zdk_g zdb_1035 (i := 8) rfl
theorem dL_law__747 : decode cL_law_ 747 = .ok (.iload 4, 2) := zdk_g zdb_1035 (i := 9) rfl
theorem dL_law__749 : decode cL_law_ 749 = .ok (.iconst 1, 1) := zdk_g zdb_1035 (i := 10) rfl
theorem dL_law__750 : decode cL_law_ 750 = .ok (.iadd, 1) := zdk_g zdb_1035 (i := 11) rfl
theorem dL_law__751 : decode cL_law_ 751 = .ok (.iaload, 1) := zdk_g zdb_1035 (i := 12) rfl
theorem dL_law__752 : decode cL_law_ 752 = .ok (.aload_n 0, 1) := zdk_g zdb_1035 (i := 13) rfl
theorem dL_law__753 : decode cL_law_ 753 = .ok (.iload 4, 2) := zdk_g zdb_1035 (i := 14) rfl
theorem dL_law__755 : decode cL_law_ 755 = .ok (.iconst 2, 1) := zdk_g zdb_1035 (i := 15) rfl
theorem dL_law__756 : decode cL_law_ 756 = .ok (.iadd, 1) := zdk_g zdb_1035 (i := 16) rfl
theorem dL_law__757 : decode cL_law_ 757 = .ok (.iaload, 1) := zdk_g zdb_1035 (i := 17) rfl
theorem dL_law__758 : decode cL_law_ 758 = .ok (.ifCond .eq 7, 3) := zdk_g zdb_1035 (i := 18) rfl
theorem dL_law__761 : decode cL_law_ 761 = .ok (.iconst 1, 1) := zdk_g zdb_1035 (i := 19) rfl
theorem dL_law__762 : decode cL_law_ 762 = .ok (.goto 4, 3) := zdk_g zdb_1035 (i := 20) rfl
theorem dL_law__765 : decode cL_law_ 765 = .ok (.iconst 0, 1) := zdk_g zdb_1035 (i := 21) rfl
theorem dL_law__766 : decode cL_law_ 766 = .ok (.aload_n 3, 1) := zdk_g zdb_1035 (i := 22) rfl
theorem dL_law__767 : decode cL_law_ 767 = .ok (.invokestatic 188, 3) := zdk_g zdb_1035 (i := 23) rfl
theorem dL_law__770 : decode cL_law_ 770 = .ok (.istore 5, 2) := zdk_g zdb_1035 (i := 24) rfl
theorem dL_law__772 : decode cL_law_ 772 = .ok (.aload_n 2, 1) := zdk_g zdb_1035 (i := 25) rfl
theorem dL_law__773 : decode cL_law_ 773 = .ok (.aload_n 0, 1) := zdk_g zdb_1035 (i := 26) rfl
theorem dL_law__774 : decode cL_law_ 774 = .ok (.iload 4, 2) := zdk_g zdb_1035 (i := 27) rfl
theorem dL_law__776 : decode cL_law_ 776 = .ok (.iconst 1, 1) := zdk_g zdb_1035 (i := 28) rfl
theorem dL_law__777 : decode cL_law_ 777 = .ok (.iadd, 1) := zdk_g zdb_1035 (i := 29) rfl
theorem dL_law__778 : decode cL_law_ 778 = .ok (.iaload, 1) := zdk_g zdb_1035 (i := 30) rfl
theorem dL_law__779 : decode cL_law_ 779 = .ok (.aload_n 0, 1) := zdk_g zdb_1035 (i := 31) rfl
def zdl_1036 : List (Nat × Instr × Nat) := [(780, .iload 4, 2), (782, .iconst 2, 1), (783, .iadd, 1), (784, .iaload, 1), (785, .ifCond .eq 7, 3), (788, .iconst 1, 1), (789, .goto 4, 3), (792, .iconst 0, 1), (793, .invokevirtual 191, 3), (796, .istore 6, 2), (798, .goto 1054, 3), (801, .aload_n 1, 1), (802, .aload_n 0, 1), (803, .iload 4, 2), (805, .iconst 1, 1), (806, .iadd, 1), (807, .iaload, 1), (808, .aload_n 3, 1), (809, .invokestatic 192, 3), (812, .istore 5, 2), (814, .aload_n 2, 1), (815, .aload_n 0, 1), (816, .iload 4, 2), (818, .iconst 1, 1), (819, .iadd, 1), (820, .iaload, 1), (821, .invokevirtual 194, 3), (824, .istore 6, 2), (826, .goto 1026, 3), (829, .aload_n 1, 1), (830, .aload_n 0, 1), (831, .iload 4, 2)]
theorem zdb_1036 : zdk cL_law_ zdl_1036 = true := by decide +kernel
theorem dL_law__780 : decode cL_law_ 780 = .ok (.iload 4, 2) := zdk_g zdb_1036 (i := 0) rfl
theorem dL_law__782 : decode cL_law_ 782 = .ok (.iconst 2, 1) := zdk_g zdb_1036 (i := 1) rfl
theorem dL_law__783 : decode cL_law_ 783 = .ok (.iadd, 1) := zdk_g zdb_1036 (i := 2) rfl
theorem dL_law__784 : decode cL_law_ 784 = .ok (.iaload, 1) := zdk_g zdb_1036 (i := 3) rfl
theorem dL_law__785 : decode cL_law_ 785 = .ok (.ifCond .eq 7, 3) := zdk_g zdb_1036 (i := 4) rfl
theorem dL_law__788 : decode cL_law_ 788 = .ok (.iconst 1, 1) := zdk_g zdb_1036 (i := 5) rfl
theorem dL_law__789 : decode cL_law_ 789 = .ok (.goto 4, 3) := zdk_g zdb_1036 (i := 6) rfl
theorem dL_law__792 : decode cL_law_ 792 = .ok (.iconst 0, 1) := zdk_g zdb_1036 (i := 7) rfl
theorem dL_law__793 : decode cL_law_ 793 = .ok (.invokevirtual 191, 3) := zdk_g zdb_1036 (i := 8) rfl
theorem dL_law__796 : decode cL_law_ 796 = .ok (.istore 6, 2) := zdk_g zdb_1036 (i := 9) rfl
theorem dL_law__798 : decode cL_law_ 798 = .ok (.goto 1054, 3) := zdk_g zdb_1036 (i := 10) rfl
theorem dL_law__801 : decode cL_law_ 801 = .ok (.aload_n 1, 1) := zdk_g zdb_1036 (i := 11) rfl
theorem dL_law__802 : decode cL_law_ 802 = .ok (.aload_n 0, 1) := zdk_g zdb_1036 (i := 12) rfl
theorem dL_law__803 : decode cL_law_ 803 = .ok (.iload 4, 2) := zdk_g zdb_1036 (i := 13) rfl
theorem dL_law__805 : decode cL_law_ 805 = .ok (.iconst 1, 1) := zdk_g zdb_1036 (i := 14) rfl
theorem dL_law__806 : decode cL_law_ 806 = .ok (.iadd, 1) := zdk_g zdb_1036 (i := 15) rfl
theorem dL_law__807 : decode cL_law_ 807 = .ok (.iaload, 1) := zdk_g zdb_1036 (i := 16) rfl
theorem dL_law__808 : decode cL_law_ 808 = .ok (.aload_n 3, 1) := zdk_g zdb_1036 (i := 17) rfl
theorem dL_law__809 : decode cL_law_ 809 = .ok (.invokestatic 192, 3) := zdk_g zdb_1036 (i := 18) rfl
theorem dL_law__812 : decode cL_law_ 812 = .ok (.istore 5, 2) := zdk_g zdb_1036 (i := 19) rfl
theorem dL_law__814 : decode cL_law_ 814 = .ok (.aload_n 2, 1) := zdk_g zdb_1036 (i := 20) rfl
theorem dL_law__815 : decode cL_law_ 815 = .ok (.aload_n 0, 1) := zdk_g zdb_1036 (i := 21) rfl
theorem dL_law__816 : decode cL_law_ 816 = .ok (.iload 4, 2) := zdk_g zdb_1036 (i := 22) rfl
theorem dL_law__818 : decode cL_law_ 818 = .ok (.iconst 1, 1) := zdk_g zdb_1036 (i := 23) rfl
theorem dL_law__819 : decode cL_law_ 819 = .ok (.iadd, 1) := zdk_g zdb_1036 (i := 24) rfl
theorem dL_law__820 : decode cL_law_ 820 = .ok (.iaload, 1) := zdk_g zdb_1036 (i := 25) rfl
theorem dL_law__821 : decode cL_law_ 821 = .ok (.invokevirtual 194, 3) := zdk_g zdb_1036 (i := 26) rfl
theorem dL_law__824 : decode cL_law_ 824 = .ok (.istore 6, 2) := zdk_g zdb_1036 (i := 27) rfl
theorem dL_law__826 : decode cL_law_ 826 = .ok (.goto 1026, 3) := zdk_g zdb_1036 (i := 28) rfl
theorem dL_law__829 : decode cL_law_ 829 = .ok (.aload_n 1, 1) := zdk_g zdb_1036 (i := 29) rfl
theorem dL_law__830 : decode cL_law_ 830 = .ok (.aload_n 0, 1) := zdk_g zdb_1036 (i := 30) rfl
theorem dL_law__831 : decode cL_law_ 831 = .ok (.iload 4, 2) := zdk_g zdb_1036 (i := 31) rfl
def zdl_1037 : List (Nat × Instr × Nat) := [(833, .iconst 1, 1), (834, .iadd, 1), (835, .iaload, 1), (836, .aload_n 0, 1), (837, .iload 4, 2), (839, .iconst 2, 1), (840, .iadd, 1), (841, .iaload, 1), (842, .aload_n 3, 1), (843, .invokestatic 195, 3), (846, .istore 5, 2), (848, .aload_n 2, 1), (849, .aload_n 0, 1), (850, .iload 4, 2), (852, .iconst 1, 1), (853, .iadd, 1), (854, .iaload, 1), (855, .aload_n 0, 1), (856, .iload 4, 2), (858, .iconst 2, 1), (859, .iadd, 1), (860, .iaload, 1), (861, .invokevirtual 197, 3), (864, .istore 6, 2), (866, .goto 986, 3), (869, .aload_n 1, 1), (870, .aload_n 0, 1), (871, .iload 4, 2), (873, .iconst 1, 1), (874, .iadd, 1), (875, .iaload, 1), (876, .aload_n 0, 1)]
theorem zdb_1037 : zdk cL_law_ zdl_1037 = true := by decide +kernel
theorem dL_law__833 : decode cL_law_ 833 = .ok (.iconst 1, 1) := zdk_g zdb_1037 (i := 0) rfl
theorem dL_law__834 : decode cL_law_ 834 = .ok (.iadd, 1) := zdk_g zdb_1037 (i := 1) rfl
theorem dL_law__835 : decode cL_law_ 835 = .ok (.iaload, 1) := zdk_g zdb_1037 (i := 2) rfl
theorem dL_law__836 : decode cL_law_ 836 = .ok (.aload_n 0, 1) := zdk_g zdb_1037 (i := 3) rfl
theorem dL_law__837 : decode cL_law_ 837 = .ok (.iload 4, 2) := zdk_g zdb_1037 (i := 4) rfl
theorem dL_law__839 : decode cL_law_ 839 = .ok (.iconst 2, 1) := zdk_g zdb_1037 (i := 5) rfl
theorem dL_law__840 : decode cL_law_ 840 = .ok (.iadd, 1) := zdk_g zdb_1037 (i := 6) rfl
theorem dL_law__841 : decode cL_law_ 841 = .ok (.iaload, 1) := zdk_g zdb_1037 (i := 7) rfl
theorem dL_law__842 : decode cL_law_ 842 = .ok (.aload_n 3, 1) := zdk_g zdb_1037 (i := 8) rfl
theorem dL_law__843 : decode cL_law_ 843 = .ok (.invokestatic 195, 3) := zdk_g zdb_1037 (i := 9) rfl
theorem dL_law__846 : decode cL_law_ 846 = .ok (.istore 5, 2) := zdk_g zdb_1037 (i := 10) rfl
theorem dL_law__848 : decode cL_law_ 848 = .ok (.aload_n 2, 1) := zdk_g zdb_1037 (i := 11) rfl
theorem dL_law__849 : decode cL_law_ 849 = .ok (.aload_n 0, 1) := zdk_g zdb_1037 (i := 12) rfl
theorem dL_law__850 : decode cL_law_ 850 = .ok (.iload 4, 2) := zdk_g zdb_1037 (i := 13) rfl
theorem dL_law__852 : decode cL_law_ 852 = .ok (.iconst 1, 1) := zdk_g zdb_1037 (i := 14) rfl
theorem dL_law__853 : decode cL_law_ 853 = .ok (.iadd, 1) := zdk_g zdb_1037 (i := 15) rfl
theorem dL_law__854 : decode cL_law_ 854 = .ok (.iaload, 1) := zdk_g zdb_1037 (i := 16) rfl
theorem dL_law__855 : decode cL_law_ 855 = .ok (.aload_n 0, 1) := zdk_g zdb_1037 (i := 17) rfl
theorem dL_law__856 : decode cL_law_ 856 = .ok (.iload 4, 2) := zdk_g zdb_1037 (i := 18) rfl
theorem dL_law__858 : decode cL_law_ 858 = .ok (.iconst 2, 1) := zdk_g zdb_1037 (i := 19) rfl
theorem dL_law__859 : decode cL_law_ 859 = .ok (.iadd, 1) := zdk_g zdb_1037 (i := 20) rfl
theorem dL_law__860 : decode cL_law_ 860 = .ok (.iaload, 1) := zdk_g zdb_1037 (i := 21) rfl
theorem dL_law__861 : decode cL_law_ 861 = .ok (.invokevirtual 197, 3) := zdk_g zdb_1037 (i := 22) rfl
theorem dL_law__864 : decode cL_law_ 864 = .ok (.istore 6, 2) := zdk_g zdb_1037 (i := 23) rfl
theorem dL_law__866 : decode cL_law_ 866 = .ok (.goto 986, 3) := zdk_g zdb_1037 (i := 24) rfl
theorem dL_law__869 : decode cL_law_ 869 = .ok (.aload_n 1, 1) := zdk_g zdb_1037 (i := 25) rfl
theorem dL_law__870 : decode cL_law_ 870 = .ok (.aload_n 0, 1) := zdk_g zdb_1037 (i := 26) rfl
theorem dL_law__871 : decode cL_law_ 871 = .ok (.iload 4, 2) := zdk_g zdb_1037 (i := 27) rfl
theorem dL_law__873 : decode cL_law_ 873 = .ok (.iconst 1, 1) := zdk_g zdb_1037 (i := 28) rfl
theorem dL_law__874 : decode cL_law_ 874 = .ok (.iadd, 1) := zdk_g zdb_1037 (i := 29) rfl
theorem dL_law__875 : decode cL_law_ 875 = .ok (.iaload, 1) := zdk_g zdb_1037 (i := 30) rfl
theorem dL_law__876 : decode cL_law_ 876 = .ok (.aload_n 0, 1) := zdk_g zdb_1037 (i := 31) rfl
def zdl_1038 : List (Nat × Instr × Nat) := [(877, .iload 4, 2), (879, .iconst 2, 1), (880, .iadd, 1), (881, .iaload, 1), (882, .ifCond .eq 7, 3), (885, .iconst 1, 1), (886, .goto 4, 3), (889, .iconst 0, 1), (890, .aload_n 3, 1), (891, .invokestatic 198, 3), (894, .istore 5, 2), (896, .aload_n 2, 1), (897, .aload_n 0, 1), (898, .iload 4, 2), (900, .iconst 1, 1), (901, .iadd, 1), (902, .iaload, 1), (903, .aload_n 0, 1), (904, .iload 4, 2), (906, .iconst 2, 1), (907, .iadd, 1), (908, .iaload, 1), (909, .ifCond .eq 7, 3), (912, .iconst 1, 1), (913, .goto 4, 3), (916, .iconst 0, 1), (917, .invokevirtual 200, 3), (920, .istore 6, 2), (922, .goto 930, 3), (925, .aload_n 1, 1), (926, .aload_n 0, 1), (927, .iload 4, 2)]
theorem zdb_1038 : zdk cL_law_ zdl_1038 = true := by decide +kernel
theorem dL_law__877 : decode cL_law_ 877 = .ok (.iload 4, 2) := zdk_g zdb_1038 (i := 0) rfl
theorem dL_law__879 : decode cL_law_ 879 = .ok (.iconst 2, 1) := zdk_g zdb_1038 (i := 1) rfl
theorem dL_law__880 : decode cL_law_ 880 = .ok (.iadd, 1) := zdk_g zdb_1038 (i := 2) rfl
theorem dL_law__881 : decode cL_law_ 881 = .ok (.iaload, 1) := zdk_g zdb_1038 (i := 3) rfl
theorem dL_law__882 : decode cL_law_ 882 = .ok (.ifCond .eq 7, 3) := zdk_g zdb_1038 (i := 4) rfl
theorem dL_law__885 : decode cL_law_ 885 = .ok (.iconst 1, 1) := zdk_g zdb_1038 (i := 5) rfl
theorem dL_law__886 : decode cL_law_ 886 = .ok (.goto 4, 3) := zdk_g zdb_1038 (i := 6) rfl
theorem dL_law__889 : decode cL_law_ 889 = .ok (.iconst 0, 1) := zdk_g zdb_1038 (i := 7) rfl
theorem dL_law__890 : decode cL_law_ 890 = .ok (.aload_n 3, 1) := zdk_g zdb_1038 (i := 8) rfl
theorem dL_law__891 : decode cL_law_ 891 = .ok (.invokestatic 198, 3) := zdk_g zdb_1038 (i := 9) rfl
theorem dL_law__894 : decode cL_law_ 894 = .ok (.istore 5, 2) := zdk_g zdb_1038 (i := 10) rfl
theorem dL_law__896 : decode cL_law_ 896 = .ok (.aload_n 2, 1) := zdk_g zdb_1038 (i := 11) rfl
theorem dL_law__897 : decode cL_law_ 897 = .ok (.aload_n 0, 1) := zdk_g zdb_1038 (i := 12) rfl
theorem dL_law__898 : decode cL_law_ 898 = .ok (.iload 4, 2) := zdk_g zdb_1038 (i := 13) rfl
theorem dL_law__900 : decode cL_law_ 900 = .ok (.iconst 1, 1) := zdk_g zdb_1038 (i := 14) rfl
theorem dL_law__901 : decode cL_law_ 901 = .ok (.iadd, 1) := zdk_g zdb_1038 (i := 15) rfl
theorem dL_law__902 : decode cL_law_ 902 = .ok (.iaload, 1) := zdk_g zdb_1038 (i := 16) rfl
theorem dL_law__903 : decode cL_law_ 903 = .ok (.aload_n 0, 1) := zdk_g zdb_1038 (i := 17) rfl
theorem dL_law__904 : decode cL_law_ 904 = .ok (.iload 4, 2) := zdk_g zdb_1038 (i := 18) rfl
theorem dL_law__906 : decode cL_law_ 906 = .ok (.iconst 2, 1) := zdk_g zdb_1038 (i := 19) rfl
theorem dL_law__907 : decode cL_law_ 907 = .ok (.iadd, 1) := zdk_g zdb_1038 (i := 20) rfl
theorem dL_law__908 : decode cL_law_ 908 = .ok (.iaload, 1) := zdk_g zdb_1038 (i := 21) rfl
theorem dL_law__909 : decode cL_law_ 909 = .ok (.ifCond .eq 7, 3) := zdk_g zdb_1038 (i := 22) rfl
theorem dL_law__912 : decode cL_law_ 912 = .ok (.iconst 1, 1) := zdk_g zdb_1038 (i := 23) rfl
theorem dL_law__913 : decode cL_law_ 913 = .ok (.goto 4, 3) := zdk_g zdb_1038 (i := 24) rfl
theorem dL_law__916 : decode cL_law_ 916 = .ok (.iconst 0, 1) := zdk_g zdb_1038 (i := 25) rfl
theorem dL_law__917 : decode cL_law_ 917 = .ok (.invokevirtual 200, 3) := zdk_g zdb_1038 (i := 26) rfl
theorem dL_law__920 : decode cL_law_ 920 = .ok (.istore 6, 2) := zdk_g zdb_1038 (i := 27) rfl
theorem dL_law__922 : decode cL_law_ 922 = .ok (.goto 930, 3) := zdk_g zdb_1038 (i := 28) rfl
theorem dL_law__925 : decode cL_law_ 925 = .ok (.aload_n 1, 1) := zdk_g zdb_1038 (i := 29) rfl
theorem dL_law__926 : decode cL_law_ 926 = .ok (.aload_n 0, 1) := zdk_g zdb_1038 (i := 30) rfl
theorem dL_law__927 : decode cL_law_ 927 = .ok (.iload 4, 2) := zdk_g zdb_1038 (i := 31) rfl
def zdl_1039 : List (Nat × Instr × Nat) := [(929, .iconst 1, 1), (930, .iadd, 1), (931, .iaload, 1), (932, .aload_n 0, 1), (933, .iload 4, 2), (935, .iconst 2, 1), (936, .iadd, 1), (937, .iaload, 1), (938, .aload_n 3, 1), (939, .invokestatic 201, 3), (942, .istore 5, 2), (944, .aload_n 2, 1), (945, .aload_n 0, 1), (946, .iload 4, 2), (948, .iconst 1, 1), (949, .iadd, 1), (950, .iaload, 1), (951, .aload_n 0, 1), (952, .iload 4, 2), (954, .iconst 2, 1), (955, .iadd, 1), (956, .iaload, 1), (957, .invokevirtual 203, 3), (960, .istore 6, 2), (962, .goto 890, 3), (965, .aload_n 1, 1), (966, .aload_n 0, 1), (967, .iload 4, 2), (969, .iconst 1, 1), (970, .iadd, 1), (971, .iaload, 1), (972, .aload_n 3, 1)]
theorem zdb_1039 : zdk cL_law_ zdl_1039 = true := by decide +kernel
theorem dL_law__929 : decode cL_law_ 929 = .ok (.iconst 1, 1) := zdk_g zdb_1039 (i := 0) rfl
theorem dL_law__930 : decode cL_law_ 930 = .ok (.iadd, 1) := zdk_g zdb_1039 (i := 1) rfl
theorem dL_law__931 : decode cL_law_ 931 = .ok (.iaload, 1) := zdk_g zdb_1039 (i := 2) rfl
theorem dL_law__932 : decode cL_law_ 932 = .ok (.aload_n 0, 1) := zdk_g zdb_1039 (i := 3) rfl
theorem dL_law__933 : decode cL_law_ 933 = .ok (.iload 4, 2) := zdk_g zdb_1039 (i := 4) rfl
theorem dL_law__935 : decode cL_law_ 935 = .ok (.iconst 2, 1) := zdk_g zdb_1039 (i := 5) rfl
theorem dL_law__936 : decode cL_law_ 936 = .ok (.iadd, 1) := zdk_g zdb_1039 (i := 6) rfl
theorem dL_law__937 : decode cL_law_ 937 = .ok (.iaload, 1) := zdk_g zdb_1039 (i := 7) rfl
theorem dL_law__938 : decode cL_law_ 938 = .ok (.aload_n 3, 1) := zdk_g zdb_1039 (i := 8) rfl
theorem dL_law__939 : decode cL_law_ 939 = .ok (.invokestatic 201, 3) := zdk_g zdb_1039 (i := 9) rfl
theorem dL_law__942 : decode cL_law_ 942 = .ok (.istore 5, 2) := zdk_g zdb_1039 (i := 10) rfl
theorem dL_law__944 : decode cL_law_ 944 = .ok (.aload_n 2, 1) := zdk_g zdb_1039 (i := 11) rfl
theorem dL_law__945 : decode cL_law_ 945 = .ok (.aload_n 0, 1) := zdk_g zdb_1039 (i := 12) rfl
theorem dL_law__946 : decode cL_law_ 946 = .ok (.iload 4, 2) := zdk_g zdb_1039 (i := 13) rfl
theorem dL_law__948 : decode cL_law_ 948 = .ok (.iconst 1, 1) := zdk_g zdb_1039 (i := 14) rfl
theorem dL_law__949 : decode cL_law_ 949 = .ok (.iadd, 1) := zdk_g zdb_1039 (i := 15) rfl
theorem dL_law__950 : decode cL_law_ 950 = .ok (.iaload, 1) := zdk_g zdb_1039 (i := 16) rfl
theorem dL_law__951 : decode cL_law_ 951 = .ok (.aload_n 0, 1) := zdk_g zdb_1039 (i := 17) rfl
theorem dL_law__952 : decode cL_law_ 952 = .ok (.iload 4, 2) := zdk_g zdb_1039 (i := 18) rfl
theorem dL_law__954 : decode cL_law_ 954 = .ok (.iconst 2, 1) := zdk_g zdb_1039 (i := 19) rfl
theorem dL_law__955 : decode cL_law_ 955 = .ok (.iadd, 1) := zdk_g zdb_1039 (i := 20) rfl
theorem dL_law__956 : decode cL_law_ 956 = .ok (.iaload, 1) := zdk_g zdb_1039 (i := 21) rfl
theorem dL_law__957 : decode cL_law_ 957 = .ok (.invokevirtual 203, 3) := zdk_g zdb_1039 (i := 22) rfl
theorem dL_law__960 : decode cL_law_ 960 = .ok (.istore 6, 2) := zdk_g zdb_1039 (i := 23) rfl
theorem dL_law__962 : decode cL_law_ 962 = .ok (.goto 890, 3) := zdk_g zdb_1039 (i := 24) rfl
theorem dL_law__965 : decode cL_law_ 965 = .ok (.aload_n 1, 1) := zdk_g zdb_1039 (i := 25) rfl
theorem dL_law__966 : decode cL_law_ 966 = .ok (.aload_n 0, 1) := zdk_g zdb_1039 (i := 26) rfl
theorem dL_law__967 : decode cL_law_ 967 = .ok (.iload 4, 2) := zdk_g zdb_1039 (i := 27) rfl
theorem dL_law__969 : decode cL_law_ 969 = .ok (.iconst 1, 1) := zdk_g zdb_1039 (i := 28) rfl
theorem dL_law__970 : decode cL_law_ 970 = .ok (.iadd, 1) := zdk_g zdb_1039 (i := 29) rfl
theorem dL_law__971 : decode cL_law_ 971 = .ok (.iaload, 1) := zdk_g zdb_1039 (i := 30) rfl
theorem dL_law__972 : decode cL_law_ 972 = .ok (.aload_n 3, 1) := zdk_g zdb_1039 (i := 31) rfl
def zdl_1040 : List (Nat × Instr × Nat) := [(973, .invokestatic 204, 3), (976, .istore 5, 2), (978, .aload_n 2, 1), (979, .aload_n 0, 1), (980, .iload 4, 2), (982, .iconst 1, 1), (983, .iadd, 1), (984, .iaload, 1), (985, .invokevirtual 206, 3), (988, .istore 6, 2), (990, .goto 862, 3), (993, .aload_n 1, 1), (994, .aload_n 0, 1), (995, .iload 4, 2), (997, .iconst 1, 1), (998, .iadd, 1), (999, .iaload, 1), (1000, .aload_n 0, 1), (1001, .iload 4, 2), (1003, .iconst 2, 1), (1004, .iadd, 1), (1005, .iaload, 1)]
theorem zdb_1040 : zdk cL_law_ zdl_1040 = true := by decide +kernel
theorem dL_law__973 : decode cL_law_ 973 = .ok (.invokestatic 204, 3) := zdk_g zdb_1040 (i := 0) rfl
theorem dL_law__976 : decode cL_law_ 976 = .ok (.istore 5, 2) := zdk_g zdb_1040 (i := 1) rfl
theorem dL_law__978 : decode cL_law_ 978 = .ok (.aload_n 2, 1) := zdk_g zdb_1040 (i := 2) rfl
theorem dL_law__979 : decode cL_law_ 979 = .ok (.aload_n 0, 1) := zdk_g zdb_1040 (i := 3) rfl
theorem dL_law__980 : decode cL_law_ 980 = .ok (.iload 4, 2) := zdk_g zdb_1040 (i := 4) rfl
theorem dL_law__982 : decode cL_law_ 982 = .ok (.iconst 1, 1) := zdk_g zdb_1040 (i := 5) rfl
theorem dL_law__983 : decode cL_law_ 983 = .ok (.iadd, 1) := zdk_g zdb_1040 (i := 6) rfl
theorem dL_law__984 : decode cL_law_ 984 = .ok (.iaload, 1) := zdk_g zdb_1040 (i := 7) rfl
theorem dL_law__985 : decode cL_law_ 985 = .ok (.invokevirtual 206, 3) := zdk_g zdb_1040 (i := 8) rfl
theorem dL_law__988 : decode cL_law_ 988 = .ok (.istore 6, 2) := zdk_g zdb_1040 (i := 9) rfl
theorem dL_law__990 : decode cL_law_ 990 = .ok (.goto 862, 3) := zdk_g zdb_1040 (i := 10) rfl
theorem dL_law__993 : decode cL_law_ 993 = .ok (.aload_n 1, 1) := zdk_g zdb_1040 (i := 11) rfl
theorem dL_law__994 : decode cL_law_ 994 = .ok (.aload_n 0, 1) := zdk_g zdb_1040 (i := 12) rfl
theorem dL_law__995 : decode cL_law_ 995 = .ok (.iload 4, 2) := zdk_g zdb_1040 (i := 13) rfl
theorem dL_law__997 : decode cL_law_ 997 = .ok (.iconst 1, 1) := zdk_g zdb_1040 (i := 14) rfl
theorem dL_law__998 : decode cL_law_ 998 = .ok (.iadd, 1) := zdk_g zdb_1040 (i := 15) rfl
theorem dL_law__999 : decode cL_law_ 999 = .ok (.iaload, 1) := zdk_g zdb_1040 (i := 16) rfl
theorem dL_law__1000 : decode cL_law_ 1000 = .ok (.aload_n 0, 1) := zdk_g zdb_1040 (i := 17) rfl
theorem dL_law__1001 : decode cL_law_ 1001 = .ok (.iload 4, 2) := zdk_g zdb_1040 (i := 18) rfl
theorem dL_law__1003 : decode cL_law_ 1003 = .ok (.iconst 2, 1) := zdk_g zdb_1040 (i := 19) rfl
theorem dL_law__1004 : decode cL_law_ 1004 = .ok (.iadd, 1) := zdk_g zdb_1040 (i := 20) rfl
theorem dL_law__1005 : decode cL_law_ 1005 = .ok (.iaload, 1) := zdk_g zdb_1040 (i := 21) rfl
