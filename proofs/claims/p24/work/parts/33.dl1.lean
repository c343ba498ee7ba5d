noncomputable def zbyl_787 : List (Nat × zbyE) := [(0, zbyo_187 8), (3, zbyo_89), (4, zbyo_183 126), (7, zbyo_76), (8, zbyo_187 127), (11, zbyo_89), (12, zbyo_183 129), (15, zbyo_77), (16, zbyo_4), (17, zbyo_188_11), (19, zbyo_78), (20, zbyo_3), (21, zbyo_54 4), (23, zbyo_21 4), (25, zbyo_42), (26, zbyo_190)]
theorem zbyb_787 : zbys zbyl_787 (cL_law_.data.toList.drop 0) 0 = true := by decide +kernel
theorem dL_law__0 : decode cL_law_ 0 = .ok (.new 8, 3) := zby_g zbyb_787 (i := 0) rfl rfl
theorem dL_law__3 : decode cL_law_ 3 = .ok (.dup, 1) := zby_g zbyb_787 (i := 1) rfl rfl
theorem dL_law__4 : decode cL_law_ 4 = .ok (.invokespecial 126, 3) := zby_g zbyb_787 (i := 2) rfl rfl
theorem dL_law__7 : decode cL_law_ 7 = .ok (.astore_n 1, 1) := zby_g zbyb_787 (i := 3) rfl rfl
theorem dL_law__8 : decode cL_law_ 8 = .ok (.new 127, 3) := zby_g zbyb_787 (i := 4) rfl rfl
theorem dL_law__11 : decode cL_law_ 11 = .ok (.dup, 1) := zby_g zbyb_787 (i := 5) rfl rfl
theorem dL_law__12 : decode cL_law_ 12 = .ok (.invokespecial 129, 3) := zby_g zbyb_787 (i := 6) rfl rfl
theorem dL_law__15 : decode cL_law_ 15 = .ok (.astore_n 2, 1) := zby_g zbyb_787 (i := 7) rfl rfl
theorem dL_law__16 : decode cL_law_ 16 = .ok (.iconst 1, 1) := zby_g zbyb_787 (i := 8) rfl rfl
theorem dL_law__17 : decode cL_law_ 17 = .ok (.newarray .long, 2) := zby_g zbyb_787 (i := 9) rfl rfl
theorem dL_law__19 : decode cL_law_ 19 = .ok (.astore_n 3, 1) := zby_g zbyb_787 (i := 10) rfl rfl
theorem dL_law__20 : decode cL_law_ 20 = .ok (.iconst 0, 1) := zby_g zbyb_787 (i := 11) rfl rfl
theorem dL_law__21 : decode cL_law_ 21 = .ok (.istore 4, 2) := zby_g zbyb_787 (i := 12) rfl rfl
theorem dL_law__23 : decode cL_law_ 23 = .ok (.iload 4, 2) := zby_g zbyb_787 (i := 13) rfl rfl
theorem dL_law__25 : decode cL_law_ 25 = .ok (.aload_n 0, 1) := zby_g zbyb_787 (i := 14) rfl rfl
theorem dL_law__26 : decode cL_law_ 26 = .ok (.arraylength, 1) := zby_g zbyb_787 (i := 15) rfl rfl
noncomputable def zbyl_788 : List (Nat × zbyE) := [(27, zbyo_16 6), (29, zbyo_100), (30, zbyo_163 1828), (33, zbyo_42), (34, zbyo_21 4), (36, zbyo_46), (37, zbyo_16 63), (39, zbyo_126)]
theorem zbyb_788 : zbys zbyl_788 (cL_law_.data.toList.drop 27) 27 = true := by decide +kernel
theorem dL_law__27 : decode cL_law_ 27 = .ok (.bipush 6, 2) := zby_g zbyb_788 (i := 0) rfl rfl
theorem dL_law__29 : decode cL_law_ 29 = .ok (.isub, 1) := zby_g zbyb_788 (i := 1) rfl rfl
theorem dL_law__30 : decode cL_law_ 30 = .ok (.if_icmp .gt 1828, 3) := zby_g zbyb_788 (i := 2) rfl rfl
theorem dL_law__33 : decode cL_law_ 33 = .ok (.aload_n 0, 1) := zby_g zbyb_788 (i := 3) rfl rfl
theorem dL_law__34 : decode cL_law_ 34 = .ok (.iload 4, 2) := zby_g zbyb_788 (i := 4) rfl rfl
theorem dL_law__36 : decode cL_law_ 36 = .ok (.iaload, 1) := zby_g zbyb_788 (i := 5) rfl rfl
theorem dL_law__37 : decode cL_law_ 37 = .ok (.bipush 63, 2) := zby_g zbyb_788 (i := 6) rfl rfl
theorem dL_law__39 : decode cL_law_ 39 = .ok (.iand, 1) := zby_g zbyb_788 (i := 7) rfl rfl
theorem dL_law__40 : decode cL_law_ 40 = .ok (.tableswitch 1812 0 49 #[216, 289, 314, 330, 346, 359, 399, 439, 479, 492, 520, 572, 597, 625, 665, 705, 761, 789, 829, 885, 925, 953, 993, 1049, 1062, 1075, 1131, 1159, 1200, 1228, 1256, 1300, 1316, 1344, 1384, 1397, 1410, 1450, 1463, 1476, 1504, 1517, 1573, 1629, 1685, 1725, 1750, 1763, 1774, 1787], 216) := by decide +kernel
noncomputable def zbyl_789 : List (Nat × zbyE) := [(256, zbyo_43), (257, zbyo_42), (258, zbyo_21 4), (260, zbyo_4), (261, zbyo_96), (262, zbyo_46), (263, zbyo_42), (264, zbyo_21 4), (266, zbyo_5), (267, zbyo_96), (268, zbyo_46), (269, zbyo_42), (270, zbyo_21 4), (272, zbyo_6), (273, zbyo_96), (274, zbyo_46)]
theorem zbyb_789 : zbys zbyl_789 (cL_law_.data.toList.drop 256) 256 = true := by decide +kernel
theorem dL_law__256 : decode cL_law_ 256 = .ok (.aload_n 1, 1) := zby_g zbyb_789 (i := 0) rfl rfl
theorem dL_law__257 : decode cL_law_ 257 = .ok (.aload_n 0, 1) := zby_g zbyb_789 (i := 1) rfl rfl
theorem dL_law__258 : decode cL_law_ 258 = .ok (.iload 4, 2) := zby_g zbyb_789 (i := 2) rfl rfl
theorem dL_law__260 : decode cL_law_ 260 = .ok (.iconst 1, 1) := zby_g zbyb_789 (i := 3) rfl rfl
theorem dL_law__261 : decode cL_law_ 261 = .ok (.iadd, 1) := zby_g zbyb_789 (i := 4) rfl rfl
theorem dL_law__262 : decode cL_law_ 262 = .ok (.iaload, 1) := zby_g zbyb_789 (i := 5) rfl rfl
theorem dL_law__263 : decode cL_law_ 263 = .ok (.aload_n 0, 1) := zby_g zbyb_789 (i := 6) rfl rfl
theorem dL_law__264 : decode cL_law_ 264 = .ok (.iload 4, 2) := zby_g zbyb_789 (i := 7) rfl rfl
theorem dL_law__266 : decode cL_law_ 266 = .ok (.iconst 2, 1) := zby_g zbyb_789 (i := 8) rfl rfl
theorem dL_law__267 : decode cL_law_ 267 = .ok (.iadd, 1) := zby_g zbyb_789 (i := 9) rfl rfl
theorem dL_law__268 : decode cL_law_ 268 = .ok (.iaload, 1) := zby_g zbyb_789 (i := 10) rfl rfl
theorem dL_law__269 : decode cL_law_ 269 = .ok (.aload_n 0, 1) := zby_g zbyb_789 (i := 11) rfl rfl
theorem dL_law__270 : decode cL_law_ 270 = .ok (.iload 4, 2) := zby_g zbyb_789 (i := 12) rfl rfl
theorem dL_law__272 : decode cL_law_ 272 = .ok (.iconst 3, 1) := zby_g zbyb_789 (i := 13) rfl rfl
theorem dL_law__273 : decode cL_law_ 273 = .ok (.iadd, 1) := zby_g zbyb_789 (i := 14) rfl rfl
theorem dL_law__274 : decode cL_law_ 274 = .ok (.iaload, 1) := zby_g zbyb_789 (i := 15) rfl rfl
noncomputable def zbyl_790 : List (Nat × zbyE) := [(275, zbyo_42), (276, zbyo_21 4), (278, zbyo_7), (279, zbyo_96), (280, zbyo_46), (281, zbyo_42), (282, zbyo_21 4), (284, zbyo_8), (285, zbyo_96), (286, zbyo_46), (287, zbyo_182 130), (290, zbyo_87), (291, zbyo_44), (292, zbyo_42), (293, zbyo_21 4), (295, zbyo_4)]
theorem zbyb_790 : zbys zbyl_790 (cL_law_.data.toList.drop 275) 275 = true := by decide +kernel
theorem dL_law__275 : decode cL_law_ 275 = .ok (.aload_n 0, 1) := zby_g zbyb_790 (i := 0) rfl rfl
theorem dL_law__276 : decode cL_law_ 276 = .ok (.iload 4, 2) := zby_g zbyb_790 (i := 1) rfl rfl
theorem dL_law__278 : decode cL_law_ 278 = .ok (.iconst 4, 1) := zby_g zbyb_790 (i := 2) rfl rfl
theorem dL_law__279 : decode cL_law_ 279 = .ok (.iadd, 1) := zby_g zbyb_790 (i := 3) rfl rfl
theorem dL_law__280 : decode cL_law_ 280 = .ok (.iaload, 1) := zby_g zbyb_790 (i := 4) rfl rfl
theorem dL_law__281 : decode cL_law_ 281 = .ok (.aload_n 0, 1) := zby_g zbyb_790 (i := 5) rfl rfl
theorem dL_law__282 : decode cL_law_ 282 = .ok (.iload 4, 2) := zby_g zbyb_790 (i := 6) rfl rfl
theorem dL_law__284 : decode cL_law_ 284 = .ok (.iconst 5, 1) := zby_g zbyb_790 (i := 7) rfl rfl
theorem dL_law__285 : decode cL_law_ 285 = .ok (.iadd, 1) := zby_g zbyb_790 (i := 8) rfl rfl
theorem dL_law__286 : decode cL_law_ 286 = .ok (.iaload, 1) := zby_g zbyb_790 (i := 9) rfl rfl
theorem dL_law__287 : decode cL_law_ 287 = .ok (.invokevirtual 130, 3) := zby_g zbyb_790 (i := 10) rfl rfl
theorem dL_law__290 : decode cL_law_ 290 = .ok (.pop, 1) := zby_g zbyb_790 (i := 11) rfl rfl
theorem dL_law__291 : decode cL_law_ 291 = .ok (.aload_n 2, 1) := zby_g zbyb_790 (i := 12) rfl rfl
theorem dL_law__292 : decode cL_law_ 292 = .ok (.aload_n 0, 1) := zby_g zbyb_790 (i := 13) rfl rfl
theorem dL_law__293 : decode cL_law_ 293 = .ok (.iload 4, 2) := zby_g zbyb_790 (i := 14) rfl rfl
theorem dL_law__295 : decode cL_law_ 295 = .ok (.iconst 1, 1) := zby_g zbyb_790 (i := 15) rfl rfl
noncomputable def zbyl_791 : List (Nat × zbyE) := [(296, zbyo_96), (297, zbyo_46), (298, zbyo_42), (299, zbyo_21 4), (301, zbyo_5), (302, zbyo_96), (303, zbyo_46), (304, zbyo_42), (305, zbyo_21 4), (307, zbyo_6), (308, zbyo_96), (309, zbyo_46), (310, zbyo_42), (311, zbyo_21 4), (313, zbyo_7), (314, zbyo_96)]
theorem zbyb_791 : zbys zbyl_791 (cL_law_.data.toList.drop 296) 296 = true := by decide +kernel
theorem dL_law__296 : decode cL_law_ 296 = .ok (.iadd, 1) := zby_g zbyb_791 (i := 0) rfl rfl
theorem dL_law__297 : decode cL_law_ 297 = .ok (.iaload, 1) := zby_g zbyb_791 (i := 1) rfl rfl
theorem dL_law__298 : decode cL_law_ 298 = .ok (.aload_n 0, 1) := zby_g zbyb_791 (i := 2) rfl rfl
theorem dL_law__299 : decode cL_law_ 299 = .ok (.iload 4, 2) := zby_g zbyb_791 (i := 3) rfl rfl
theorem dL_law__301 : decode cL_law_ 301 = .ok (.iconst 2, 1) := zby_g zbyb_791 (i := 4) rfl rfl
theorem dL_law__302 : decode cL_law_ 302 = .ok (.iadd, 1) := zby_g zbyb_791 (i := 5) rfl rfl
theorem dL_law__303 : decode cL_law_ 303 = .ok (.iaload, 1) := zby_g zbyb_791 (i := 6) rfl rfl
theorem dL_law__304 : decode cL_law_ 304 = .ok (.aload_n 0, 1) := zby_g zbyb_791 (i := 7) rfl rfl
theorem dL_law__305 : decode cL_law_ 305 = .ok (.iload 4, 2) := zby_g zbyb_791 (i := 8) rfl rfl
theorem dL_law__307 : decode cL_law_ 307 = .ok (.iconst 3, 1) := zby_g zbyb_791 (i := 9) rfl rfl
theorem dL_law__308 : decode cL_law_ 308 = .ok (.iadd, 1) := zby_g zbyb_791 (i := 10) rfl rfl
theorem dL_law__309 : decode cL_law_ 309 = .ok (.iaload, 1) := zby_g zbyb_791 (i := 11) rfl rfl
theorem dL_law__310 : decode cL_law_ 310 = .ok (.aload_n 0, 1) := zby_g zbyb_791 (i := 12) rfl rfl
theorem dL_law__311 : decode cL_law_ 311 = .ok (.iload 4, 2) := zby_g zbyb_791 (i := 13) rfl rfl
theorem dL_law__313 : decode cL_law_ 313 = .ok (.iconst 4, 1) := zby_g zbyb_791 (i := 14) rfl rfl
theorem dL_law__314 : decode cL_law_ 314 = .ok (.iadd, 1) := zby_g zbyb_791 (i := 15) rfl rfl
noncomputable def zbyl_792 : List (Nat × zbyE) := [(315, zbyo_46), (316, zbyo_42), (317, zbyo_21 4), (319, zbyo_8), (320, zbyo_96), (321, zbyo_46), (322, zbyo_182 134), (325, zbyo_87), (326, zbyo_167 1526), (329, zbyo_43), (330, zbyo_42), (331, zbyo_21 4), (333, zbyo_4), (334, zbyo_96), (335, zbyo_46), (336, zbyo_182 135)]
theorem zbyb_792 : zbys zbyl_792 (cL_law_.data.toList.drop 315) 315 = true := by decide +kernel
theorem dL_law__315 : decode cL_law_ 315 = .ok (.iaload, 1) := zby_g zbyb_792 (i := 0) rfl rfl
theorem dL_law__316 : decode cL_law_ 316 = .ok (.aload_n 0, 1) := zby_g zbyb_792 (i := 1) rfl rfl
theorem dL_law__317 : decode cL_law_ 317 = .ok (.iload 4, 2) := zby_g zbyb_792 (i := 2) rfl rfl
theorem dL_law__319 : decode cL_law_ 319 = .ok (.iconst 5, 1) := zby_g zbyb_792 (i := 3) rfl rfl
theorem dL_law__320 : decode cL_law_ 320 = .ok (.iadd, 1) := zby_g zbyb_792 (i := 4) rfl rfl
theorem dL_law__321 : decode cL_law_ 321 = .ok (.iaload, 1) := zby_g zbyb_792 (i := 5) rfl rfl
theorem dL_law__322 : decode cL_law_ 322 = .ok (.invokevirtual 134, 3) := zby_g zbyb_792 (i := 6) rfl rfl
theorem dL_law__325 : decode cL_law_ 325 = .ok (.pop, 1) := zby_g zbyb_792 (i := 7) rfl rfl
theorem dL_law__326 : decode cL_law_ 326 = .ok (.goto 1526, 3) := zby_g zbyb_792 (i := 8) rfl rfl
theorem dL_law__329 : decode cL_law_ 329 = .ok (.aload_n 1, 1) := zby_g zbyb_792 (i := 9) rfl rfl
theorem dL_law__330 : decode cL_law_ 330 = .ok (.aload_n 0, 1) := zby_g zbyb_792 (i := 10) rfl rfl
theorem dL_law__331 : decode cL_law_ 331 = .ok (.iload 4, 2) := zby_g zbyb_792 (i := 11) rfl rfl
theorem dL_law__333 : decode cL_law_ 333 = .ok (.iconst 1, 1) := zby_g zbyb_792 (i := 12) rfl rfl
theorem dL_law__334 : decode cL_law_ 334 = .ok (.iadd, 1) := zby_g zbyb_792 (i := 13) rfl rfl
theorem dL_law__335 : decode cL_law_ 335 = .ok (.iaload, 1) := zby_g zbyb_792 (i := 14) rfl rfl
theorem dL_law__336 : decode cL_law_ 336 = .ok (.invokevirtual 135, 3) := zby_g zbyb_792 (i := 15) rfl rfl
noncomputable def zbyl_793 : List (Nat × zbyE) := [(339, zbyo_87), (340, zbyo_44), (341, zbyo_42), (342, zbyo_21 4), (344, zbyo_4), (345, zbyo_96), (346, zbyo_46), (347, zbyo_182 139), (350, zbyo_87), (351, zbyo_167 1501), (354, zbyo_43), (355, zbyo_45), (356, zbyo_184 140), (359, zbyo_54 5), (361, zbyo_44), (362, zbyo_182 145)]
theorem zbyb_793 : zbys zbyl_793 (cL_law_.data.toList.drop 339) 339 = true := by decide +kernel
theorem dL_law__339 : decode cL_law_ 339 = .ok (.pop, 1) := zby_g zbyb_793 (i := 0) rfl rfl
theorem dL_law__340 : decode cL_law_ 340 = .ok (.aload_n 2, 1) := zby_g zbyb_793 (i := 1) rfl rfl
theorem dL_law__341 : decode cL_law_ 341 = .ok (.aload_n 0, 1) := zby_g zbyb_793 (i := 2) rfl rfl
theorem dL_law__342 : decode cL_law_ 342 = .ok (.iload 4, 2) := zby_g zbyb_793 (i := 3) rfl rfl
theorem dL_law__344 : decode cL_law_ 344 = .ok (.iconst 1, 1) := zby_g zbyb_793 (i := 4) rfl rfl
theorem dL_law__345 : decode cL_law_ 345 = .ok (.iadd, 1) := zby_g zbyb_793 (i := 5) rfl rfl
theorem dL_law__346 : decode cL_law_ 346 = .ok (.iaload, 1) := zby_g zbyb_793 (i := 6) rfl rfl
theorem dL_law__347 : decode cL_law_ 347 = .ok (.invokevirtual 139, 3) := zby_g zbyb_793 (i := 7) rfl rfl
theorem dL_law__350 : decode cL_law_ 350 = .ok (.pop, 1) := zby_g zbyb_793 (i := 8) rfl rfl
theorem dL_law__351 : decode cL_law_ 351 = .ok (.goto 1501, 3) := zby_g zbyb_793 (i := 9) rfl rfl
theorem dL_law__354 : decode cL_law_ 354 = .ok (.aload_n 1, 1) := zby_g zbyb_793 (i := 10) rfl rfl
theorem dL_law__355 : decode cL_law_ 355 = .ok (.aload_n 3, 1) := zby_g zbyb_793 (i := 11) rfl rfl
theorem dL_law__356 : decode cL_law_ 356 = .ok (.invokestatic 140, 3) := zby_g zbyb_793 (i := 12) rfl rfl
theorem dL_law__359 : decode cL_law_ 359 = .ok (.istore 5, 2) := zby_g zbyb_793 (i := 13) rfl rfl
theorem dL_law__361 : decode cL_law_ 361 = .ok (.aload_n 2, 1) := zby_g zbyb_793 (i := 14) rfl rfl
theorem dL_law__362 : decode cL_law_ 362 = .ok (.invokevirtual 145, 3) := zby_g zbyb_793 (i := 15) rfl rfl
noncomputable def zbyl_794 : List (Nat × zbyE) := [(365, zbyo_54 6), (367, zbyo_167 1485), (370, zbyo_43), (371, zbyo_45), (372, zbyo_184 146), (375, zbyo_54 5), (377, zbyo_44), (378, zbyo_182 148), (381, zbyo_54 6), (383, zbyo_167 1469), (386, zbyo_43), (387, zbyo_182 149), (390, zbyo_87), (391, zbyo_44), (392, zbyo_182 152), (395, zbyo_87)]
theorem zbyb_794 : zbys zbyl_794 (cL_law_.data.toList.drop 365) 365 = true := by decide +kernel
theorem dL_law__365 : decode cL_law_ 365 = .ok (.istore 6, 2) := zby_g zbyb_794 (i := 0) rfl rfl
theorem dL_law__367 : decode cL_law_ 367 = .ok (.goto 1485, 3) := zby_g zbyb_794 (i := 1) rfl rfl
theorem dL_law__370 : decode cL_law_ 370 = .ok (.aload_n 1, 1) := zby_g zbyb_794 (i := 2) rfl rfl
theorem dL_law__371 : decode cL_law_ 371 = .ok (.aload_n 3, 1) := zby_g zbyb_794 (i := 3) rfl rfl
theorem dL_law__372 : decode cL_law_ 372 = .ok (.invokestatic 146, 3) := zby_g zbyb_794 (i := 4) rfl rfl
theorem dL_law__375 : decode cL_law_ 375 = .ok (.istore 5, 2) := zby_g zbyb_794 (i := 5) rfl rfl
theorem dL_law__377 : decode cL_law_ 377 = .ok (.aload_n 2, 1) := zby_g zbyb_794 (i := 6) rfl rfl
theorem dL_law__378 : decode cL_law_ 378 = .ok (.invokevirtual 148, 3) := zby_g zbyb_794 (i := 7) rfl rfl
theorem dL_law__381 : decode cL_law_ 381 = .ok (.istore 6, 2) := zby_g zbyb_794 (i := 8) rfl rfl
theorem dL_law__383 : decode cL_law_ 383 = .ok (.goto 1469, 3) := zby_g zbyb_794 (i := 9) rfl rfl
theorem dL_law__386 : decode cL_law_ 386 = .ok (.aload_n 1, 1) := zby_g zbyb_794 (i := 10) rfl rfl
theorem dL_law__387 : decode cL_law_ 387 = .ok (.invokevirtual 149, 3) := zby_g zbyb_794 (i := 11) rfl rfl
theorem dL_law__390 : decode cL_law_ 390 = .ok (.pop, 1) := zby_g zbyb_794 (i := 12) rfl rfl
theorem dL_law__391 : decode cL_law_ 391 = .ok (.aload_n 2, 1) := zby_g zbyb_794 (i := 13) rfl rfl
theorem dL_law__392 : decode cL_law_ 392 = .ok (.invokevirtual 152, 3) := zby_g zbyb_794 (i := 14) rfl rfl
theorem dL_law__395 : decode cL_law_ 395 = .ok (.pop, 1) := zby_g zbyb_794 (i := 15) rfl rfl
noncomputable def zbyl_795 : List (Nat × zbyE) := [(396, zbyo_167 1456), (399, zbyo_43), (400, zbyo_42), (401, zbyo_21 4), (403, zbyo_4), (404, zbyo_96), (405, zbyo_46), (406, zbyo_42), (407, zbyo_21 4), (409, zbyo_5), (410, zbyo_96), (411, zbyo_46), (412, zbyo_45), (413, zbyo_184 153), (416, zbyo_54 5), (418, zbyo_44)]
theorem zbyb_795 : zbys zbyl_795 (cL_law_.data.toList.drop 396) 396 = true := by decide +kernel
theorem dL_law__396 : decode cL_law_ 396 = .ok (.goto 1456, 3) := zby_g zbyb_795 (i := 0) rfl rfl
theorem dL_law__399 : decode cL_law_ 399 = .ok (.aload_n 1, 1) := zby_g zbyb_795 (i := 1) rfl rfl
theorem dL_law__400 : decode cL_law_ 400 = .ok (.aload_n 0, 1) := zby_g zbyb_795 (i := 2) rfl rfl
theorem dL_law__401 : decode cL_law_ 401 = .ok (.iload 4, 2) := zby_g zbyb_795 (i := 3) rfl rfl
theorem dL_law__403 : decode cL_law_ 403 = .ok (.iconst 1, 1) := zby_g zbyb_795 (i := 4) rfl rfl
theorem dL_law__404 : decode cL_law_ 404 = .ok (.iadd, 1) := zby_g zbyb_795 (i := 5) rfl rfl
theorem dL_law__405 : decode cL_law_ 405 = .ok (.iaload, 1) := zby_g zbyb_795 (i := 6) rfl rfl
theorem dL_law__406 : decode cL_law_ 406 = .ok (.aload_n 0, 1) := zby_g zbyb_795 (i := 7) rfl rfl
theorem dL_law__407 : decode cL_law_ 407 = .ok (.iload 4, 2) := zby_g zbyb_795 (i := 8) rfl rfl
theorem dL_law__409 : decode cL_law_ 409 = .ok (.iconst 2, 1) := zby_g zbyb_795 (i := 9) rfl rfl
theorem dL_law__410 : decode cL_law_ 410 = .ok (.iadd, 1) := zby_g zbyb_795 (i := 10) rfl rfl
theorem dL_law__411 : decode cL_law_ 411 = .ok (.iaload, 1) := zby_g zbyb_795 (i := 11) rfl rfl
theorem dL_law__412 : decode cL_law_ 412 = .ok (.aload_n 3, 1) := zby_g zbyb_795 (i := 12) rfl rfl
theorem dL_law__413 : decode cL_law_ 413 = .ok (.invokestatic 153, 3) := zby_g zbyb_795 (i := 13) rfl rfl
theorem dL_law__416 : decode cL_law_ 416 = .ok (.istore 5, 2) := zby_g zbyb_795 (i := 14) rfl rfl
theorem dL_law__418 : decode cL_law_ 418 = .ok (.aload_n 2, 1) := zby_g zbyb_795 (i := 15) rfl rfl
noncomputable def zbyl_796 : List (Nat × zbyE) := [(419, zbyo_42), (420, zbyo_21 4), (422, zbyo_4), (423, zbyo_96), (424, zbyo_46), (425, zbyo_42), (426, zbyo_21 4), (428, zbyo_5), (429, zbyo_96), (430, zbyo_46), (431, zbyo_182 156), (434, zbyo_54 6), (436, zbyo_167 1416), (439, zbyo_43), (440, zbyo_42), (441, zbyo_21 4)]
theorem zbyb_796 : zbys zbyl_796 (cL_law_.data.toList.drop 419) 419 = true := by decide +kernel
theorem dL_law__419 : decode cL_law_ 419 = .ok (.aload_n 0, 1) := zby_g zbyb_796 (i := 0) rfl rfl
theorem dL_law__420 : decode cL_law_ 420 = .ok (.iload 4, 2) := zby_g zbyb_796 (i := 1) rfl rfl
theorem dL_law__422 : decode cL_law_ 422 = .ok (.iconst 1, 1) := zby_g zbyb_796 (i := 2) rfl rfl
theorem dL_law__423 : decode cL_law_ 423 = .ok (.iadd, 1) := zby_g zbyb_796 (i := 3) rfl rfl
theorem dL_law__424 : decode cL_law_ 424 = .ok (.iaload, 1) := zby_g zbyb_796 (i := 4) rfl rfl
theorem dL_law__425 : decode cL_law_ 425 = .ok (.aload_n 0, 1) := zby_g zbyb_796 (i := 5) rfl rfl
theorem dL_law__426 : decode cL_law_ 426 = .ok (.iload 4, 2) := zby_g zbyb_796 (i := 6) rfl rfl
theorem dL_law__428 : decode cL_law_ 428 = .ok (.iconst 2, 1) := zby_g zbyb_796 (i := 7) rfl rfl
theorem dL_law__429 : decode cL_law_ 429 = .ok (.iadd, 1) := zby_g zbyb_796 (i := 8) rfl rfl
theorem dL_law__430 : decode cL_law_ 430 = .ok (.iaload, 1) := zby_g zbyb_796 (i := 9) rfl rfl
theorem dL_law__431 : decode cL_law_ 431 = .ok (.invokevirtual 156, 3) := zby_g zbyb_796 (i := 10) rfl rfl
theorem dL_law__434 : decode cL_law_ 434 = .ok (.istore 6, 2) := zby_g zbyb_796 (i := 11) rfl rfl
theorem dL_law__436 : decode cL_law_ 436 = .ok (.goto 1416, 3) := zby_g zbyb_796 (i := 12) rfl rfl
theorem dL_law__439 : decode cL_law_ 439 = .ok (.aload_n 1, 1) := zby_g zbyb_796 (i := 13) rfl rfl
theorem dL_law__440 : decode cL_law_ 440 = .ok (.aload_n 0, 1) := zby_g zbyb_796 (i := 14) rfl rfl
theorem dL_law__441 : decode cL_law_ 441 = .ok (.iload 4, 2) := zby_g zbyb_796 (i := 15) rfl rfl
noncomputable def zbyl_797 : List (Nat × zbyE) := [(443, zbyo_4), (444, zbyo_96), (445, zbyo_46), (446, zbyo_42), (447, zbyo_21 4), (449, zbyo_5), (450, zbyo_96), (451, zbyo_46), (452, zbyo_45), (453, zbyo_184 157), (456, zbyo_54 5), (458, zbyo_44), (459, zbyo_42), (460, zbyo_21 4), (462, zbyo_4), (463, zbyo_96)]
theorem zbyb_797 : zbys zbyl_797 (cL_law_.data.toList.drop 443) 443 = true := by decide +kernel
theorem dL_law__443 : decode cL_law_ 443 = .ok (.iconst 1, 1) := zby_g zbyb_797 (i := 0) rfl rfl
theorem dL_law__444 : decode cL_law_ 444 = .ok (.iadd, 1) := zby_g zbyb_797 (i := 1) rfl rfl
theorem dL_law__445 : decode cL_law_ 445 = .ok (.iaload, 1) := zby_g zbyb_797 (i := 2) rfl rfl
theorem dL_law__446 : decode cL_law_ 446 = .ok (.aload_n 0, 1) := zby_g zbyb_797 (i := 3) rfl rfl
theorem dL_law__447 : decode cL_law_ 447 = .ok (.iload 4, 2) := zby_g zbyb_797 (i := 4) rfl rfl
theorem dL_law__449 : decode cL_law_ 449 = .ok (.iconst 2, 1) := zby_g zbyb_797 (i := 5) rfl rfl
theorem dL_law__450 : decode cL_law_ 450 = .ok (.iadd, 1) := zby_g zbyb_797 (i := 6) rfl rfl
theorem dL_law__451 : decode cL_law_ 451 = .ok (.iaload, 1) := zby_g zbyb_797 (i := 7) rfl rfl
theorem dL_law__452 : decode cL_law_ 452 = .ok (.aload_n 3, 1) := zby_g zbyb_797 (i := 8) rfl rfl
theorem dL_law__453 : decode cL_law_ 453 = .ok (.invokestatic 157, 3) := zby_g zbyb_797 (i := 9) rfl rfl
theorem dL_law__456 : decode cL_law_ 456 = .ok (.istore 5, 2) := zby_g zbyb_797 (i := 10) rfl rfl
theorem dL_law__458 : decode cL_law_ 458 = .ok (.aload_n 2, 1) := zby_g zbyb_797 (i := 11) rfl rfl
theorem dL_law__459 : decode cL_law_ 459 = .ok (.aload_n 0, 1) := zby_g zbyb_797 (i := 12) rfl rfl
theorem dL_law__460 : decode cL_law_ 460 = .ok (.iload 4, 2) := zby_g zbyb_797 (i := 13) rfl rfl
theorem dL_law__462 : decode cL_law_ 462 = .ok (.iconst 1, 1) := zby_g zbyb_797 (i := 14) rfl rfl
theorem dL_law__463 : decode cL_law_ 463 = .ok (.iadd, 1) := zby_g zbyb_797 (i := 15) rfl rfl
noncomputable def zbyl_798 : List (Nat × zbyE) := [(464, zbyo_46), (465, zbyo_42), (466, zbyo_21 4), (468, zbyo_5), (469, zbyo_96), (470, zbyo_46), (471, zbyo_182 159), (474, zbyo_54 6), (476, zbyo_167 1376), (479, zbyo_43), (480, zbyo_42), (481, zbyo_21 4), (483, zbyo_4), (484, zbyo_96), (485, zbyo_46), (486, zbyo_42)]
theorem zbyb_798 : zbys zbyl_798 (cL_law_.data.toList.drop 464) 464 = true := by decide +kernel
theorem dL_law__464 : decode cL_law_ 464 = .ok (.iaload, 1) := zby_g zbyb_798 (i := 0) rfl rfl
theorem dL_law__465 : decode cL_law_ 465 = .ok (.aload_n 0, 1) := zby_g zbyb_798 (i := 1) rfl rfl
theorem dL_law__466 : decode cL_law_ 466 = .ok (.iload 4, 2) := zby_g zbyb_798 (i := 2) rfl rfl
theorem dL_law__468 : decode cL_law_ 468 = .ok (.iconst 2, 1) := zby_g zbyb_798 (i := 3) rfl rfl
theorem dL_law__469 : decode cL_law_ 469 = .ok (.iadd, 1) := zby_g zbyb_798 (i := 4) rfl rfl
theorem dL_law__470 : decode cL_law_ 470 = .ok (.iaload, 1) := zby_g zbyb_798 (i := 5) rfl rfl
theorem dL_law__471 : decode cL_law_ 471 = .ok (.invokevirtual 159, 3) := zby_g zbyb_798 (i := 6) rfl rfl
theorem dL_law__474 : decode cL_law_ 474 = .ok (.istore 6, 2) := zby_g zbyb_798 (i := 7) rfl rfl
theorem dL_law__476 : decode cL_law_ 476 = .ok (.goto 1376, 3) := zby_g zbyb_798 (i := 8) rfl rfl
theorem dL_law__479 : decode cL_law_ 479 = .ok (.aload_n 1, 1) := zby_g zbyb_798 (i := 9) rfl rfl
theorem dL_law__480 : decode cL_law_ 480 = .ok (.aload_n 0, 1) := zby_g zbyb_798 (i := 10) rfl rfl
theorem dL_law__481 : decode cL_law_ 481 = .ok (.iload 4, 2) := zby_g zbyb_798 (i := 11) rfl rfl
theorem dL_law__483 : decode cL_law_ 483 = .ok (.iconst 1, 1) := zby_g zbyb_798 (i := 12) rfl rfl
theorem dL_law__484 : decode cL_law_ 484 = .ok (.iadd, 1) := zby_g zbyb_798 (i := 13) rfl rfl
theorem dL_law__485 : decode cL_law_ 485 = .ok (.iaload, 1) := zby_g zbyb_798 (i := 14) rfl rfl
theorem dL_law__486 : decode cL_law_ 486 = .ok (.aload_n 0, 1) := zby_g zbyb_798 (i := 15) rfl rfl
noncomputable def zbyl_799 : List (Nat × zbyE) := [(487, zbyo_21 4), (489, zbyo_5), (490, zbyo_96), (491, zbyo_46), (492, zbyo_45), (493, zbyo_184 160), (496, zbyo_54 5), (498, zbyo_44), (499, zbyo_42), (500, zbyo_21 4), (502, zbyo_4), (503, zbyo_96), (504, zbyo_46), (505, zbyo_42), (506, zbyo_21 4), (508, zbyo_5)]
theorem zbyb_799 : zbys zbyl_799 (cL_law_.data.toList.drop 487) 487 = true := by decide +kernel
theorem dL_law__487 : decode cL_law_ 487 = .ok (.iload 4, 2) := zby_g zbyb_799 (i := 0) rfl rfl
theorem dL_law__489 : decode cL_law_ 489 = .ok (.iconst 2, 1) := zby_g zbyb_799 (i := 1) rfl rfl
theorem dL_law__490 : decode cL_law_ 490 = .ok (.iadd, 1) := zby_g zbyb_799 (i := 2) rfl rfl
theorem dL_law__491 : decode cL_law_ 491 = .ok (.iaload, 1) := zby_g zbyb_799 (i := 3) rfl rfl
theorem dL_law__492 : decode cL_law_ 492 = .ok (.aload_n 3, 1) := zby_g zbyb_799 (i := 4) rfl rfl
theorem dL_law__493 : decode cL_law_ 493 = .ok (.invokestatic 160, 3) := zby_g zbyb_799 (i := 5) rfl rfl
theorem dL_law__496 : decode cL_law_ 496 = .ok (.istore 5, 2) := zby_g zbyb_799 (i := 6) rfl rfl
theorem dL_law__498 : decode cL_law_ 498 = .ok (.aload_n 2, 1) := zby_g zbyb_799 (i := 7) rfl rfl
theorem dL_law__499 : decode cL_law_ 499 = .ok (.aload_n 0, 1) := zby_g zbyb_799 (i := 8) rfl rfl
theorem dL_law__500 : decode cL_law_ 500 = .ok (.iload 4, 2) := zby_g zbyb_799 (i := 9) rfl rfl
theorem dL_law__502 : decode cL_law_ 502 = .ok (.iconst 1, 1) := zby_g zbyb_799 (i := 10) rfl rfl
theorem dL_law__503 : decode cL_law_ 503 = .ok (.iadd, 1) := zby_g zbyb_799 (i := 11) rfl rfl
theorem dL_law__504 : decode cL_law_ 504 = .ok (.iaload, 1) := zby_g zbyb_799 (i := 12) rfl rfl
theorem dL_law__505 : decode cL_law_ 505 = .ok (.aload_n 0, 1) := zby_g zbyb_799 (i := 13) rfl rfl
theorem dL_law__506 : decode cL_law_ 506 = .ok (.iload 4, 2) := zby_g zbyb_799 (i := 14) rfl rfl
theorem dL_law__508 : decode cL_law_ 508 = .ok (.iconst 2, 1) := zby_g zbyb_799 (i := 15) rfl rfl
noncomputable def zbyl_800 : List (Nat × zbyE) := [(509, zbyo_96), (510, zbyo_46), (511, zbyo_182 162), (514, zbyo_54 6), (516, zbyo_167 1336), (519, zbyo_43), (520, zbyo_182 163), (523, zbyo_87), (524, zbyo_44), (525, zbyo_182 166), (528, zbyo_87), (529, zbyo_167 1323), (532, zbyo_43), (533, zbyo_42), (534, zbyo_21 4), (536, zbyo_4)]
theorem zbyb_800 : zbys zbyl_800 (cL_law_.data.toList.drop 509) 509 = true := by decide +kernel
theorem dL_law__509 : decode cL_law_ 509 = .ok (.iadd, 1) := zby_g zbyb_800 (i := 0) rfl rfl
theorem dL_law__510 : decode cL_law_ 510 = .ok (.iaload, 1) := zby_g zbyb_800 (i := 1) rfl rfl
theorem dL_law__511 : decode cL_law_ 511 = .ok (.invokevirtual 162, 3) := zby_g zbyb_800 (i := 2) rfl rfl
theorem dL_law__514 : decode cL_law_ 514 = .ok (.istore 6, 2) := zby_g zbyb_800 (i := 3) rfl rfl
theorem dL_law__516 : decode cL_law_ 516 = .ok (.goto 1336, 3) := zby_g zbyb_800 (i := 4) rfl rfl
theorem dL_law__519 : decode cL_law_ 519 = .ok (.aload_n 1, 1) := zby_g zbyb_800 (i := 5) rfl rfl
theorem dL_law__520 : decode cL_law_ 520 = .ok (.invokevirtual 163, 3) := zby_g zbyb_800 (i := 6) rfl rfl
theorem dL_law__523 : decode cL_law_ 523 = .ok (.pop, 1) := zby_g zbyb_800 (i := 7) rfl rfl
theorem dL_law__524 : decode cL_law_ 524 = .ok (.aload_n 2, 1) := zby_g zbyb_800 (i := 8) rfl rfl
theorem dL_law__525 : decode cL_law_ 525 = .ok (.invokevirtual 166, 3) := zby_g zbyb_800 (i := 9) rfl rfl
theorem dL_law__528 : decode cL_law_ 528 = .ok (.pop, 1) := zby_g zbyb_800 (i := 10) rfl rfl
theorem dL_law__529 : decode cL_law_ 529 = .ok (.goto 1323, 3) := zby_g zbyb_800 (i := 11) rfl rfl
theorem dL_law__532 : decode cL_law_ 532 = .ok (.aload_n 1, 1) := zby_g zbyb_800 (i := 12) rfl rfl
theorem dL_law__533 : decode cL_law_ 533 = .ok (.aload_n 0, 1) := zby_g zbyb_800 (i := 13) rfl rfl
theorem dL_law__534 : decode cL_law_ 534 = .ok (.iload 4, 2) := zby_g zbyb_800 (i := 14) rfl rfl
theorem dL_law__536 : decode cL_law_ 536 = .ok (.iconst 1, 1) := zby_g zbyb_800 (i := 15) rfl rfl
noncomputable def zbyl_801 : List (Nat × zbyE) := [(537, zbyo_96), (538, zbyo_46), (539, zbyo_45), (540, zbyo_184 167), (543, zbyo_54 5), (545, zbyo_44), (546, zbyo_42), (547, zbyo_21 4), (549, zbyo_4), (550, zbyo_96), (551, zbyo_46), (552, zbyo_182 170), (555, zbyo_54 6), (557, zbyo_167 1295), (560, zbyo_43), (561, zbyo_42)]
theorem zbyb_801 : zbys zbyl_801 (cL_law_.data.toList.drop 537) 537 = true := by decide +kernel
theorem dL_law__537 : decode cL_law_ 537 = .ok (.iadd, 1) := zby_g zbyb_801 (i := 0) rfl rfl
theorem dL_law__538 : decode cL_law_ 538 = .ok (.iaload, 1) := zby_g zbyb_801 (i := 1) rfl rfl
theorem dL_law__539 : decode cL_law_ 539 = .ok (.aload_n 3, 1) := zby_g zbyb_801 (i := 2) rfl rfl
theorem dL_law__540 : decode cL_law_ 540 = .ok (.invokestatic 167, 3) := zby_g zbyb_801 (i := 3) rfl rfl
theorem dL_law__543 : decode cL_law_ 543 = .ok (.istore 5, 2) := zby_g zbyb_801 (i := 4) rfl rfl
theorem dL_law__545 : decode cL_law_ 545 = .ok (.aload_n 2, 1) := zby_g zbyb_801 (i := 5) rfl rfl
theorem dL_law__546 : decode cL_law_ 546 = .ok (.aload_n 0, 1) := zby_g zbyb_801 (i := 6) rfl rfl
theorem dL_law__547 : decode cL_law_ 547 = .ok (.iload 4, 2) := zby_g zbyb_801 (i := 7) rfl rfl
theorem dL_law__549 : decode cL_law_ 549 = .ok (.iconst 1, 1) := zby_g zbyb_801 (i := 8) rfl rfl
theorem dL_law__550 : decode cL_law_ 550 = .ok (.iadd, 1) := zby_g zbyb_801 (i := 9) rfl rfl
theorem dL_law__551 : decode cL_law_ 551 = .ok (.iaload, 1) := zby_g zbyb_801 (i := 10) rfl rfl
theorem dL_law__552 : decode cL_law_ 552 = .ok (.invokevirtual 170, 3) := zby_g zbyb_801 (i := 11) rfl rfl
theorem dL_law__555 : decode cL_law_ 555 = .ok (.istore 6, 2) := zby_g zbyb_801 (i := 12) rfl rfl
theorem dL_law__557 : decode cL_law_ 557 = .ok (.goto 1295, 3) := zby_g zbyb_801 (i := 13) rfl rfl
theorem dL_law__560 : decode cL_law_ 560 = .ok (.aload_n 1, 1) := zby_g zbyb_801 (i := 14) rfl rfl
theorem dL_law__561 : decode cL_law_ 561 = .ok (.aload_n 0, 1) := zby_g zbyb_801 (i := 15) rfl rfl
noncomputable def zbyl_802 : List (Nat × zbyE) := [(562, zbyo_21 4), (564, zbyo_4), (565, zbyo_96), (566, zbyo_46), (567, zbyo_42), (568, zbyo_21 4), (570, zbyo_5), (571, zbyo_96), (572, zbyo_46), (573, zbyo_42), (574, zbyo_21 4), (576, zbyo_6), (577, zbyo_96), (578, zbyo_46), (579, zbyo_45), (580, zbyo_184 171)]
theorem zbyb_802 : zbys zbyl_802 (cL_law_.data.toList.drop 562) 562 = true := by decide +kernel
theorem dL_law__562 : decode cL_law_ 562 = .ok (.iload 4, 2) := zby_g zbyb_802 (i := 0) rfl rfl
theorem dL_law__564 : decode cL_law_ 564 = .ok (.iconst 1, 1) := zby_g zbyb_802 (i := 1) rfl rfl
theorem dL_law__565 : decode cL_law_ 565 = .ok (.iadd, 1) := zby_g zbyb_802 (i := 2) rfl rfl
theorem dL_law__566 : decode cL_law_ 566 = .ok (.iaload, 1) := zby_g zbyb_802 (i := 3) rfl rfl
theorem dL_law__567 : decode cL_law_ 567 = .ok (.aload_n 0, 1) := zby_g zbyb_802 (i := 4) rfl rfl
theorem dL_law__568 : decode cL_law_ 568 = .ok (.iload 4, 2) := zby_g zbyb_802 (i := 5) rfl rfl
theorem dL_law__570 : decode cL_law_ 570 = .ok (.iconst 2, 1) := zby_g zbyb_802 (i := 6) rfl rfl
theorem dL_law__571 : decode cL_law_ 571 = .ok (.iadd, 1) := zby_g zbyb_802 (i := 7) rfl rfl
theorem dL_law__572 : decode cL_law_ 572 = .ok (.iaload, 1) := zby_g zbyb_802 (i := 8) rfl rfl
theorem dL_law__573 : decode cL_law_ 573 = .ok (.aload_n 0, 1) := zby_g zbyb_802 (i := 9) rfl rfl
theorem dL_law__574 : decode cL_law_ 574 = .ok (.iload 4, 2) := zby_g zbyb_802 (i := 10) rfl rfl
theorem dL_law__576 : decode cL_law_ 576 = .ok (.iconst 3, 1) := zby_g zbyb_802 (i := 11) rfl rfl
theorem dL_law__577 : decode cL_law_ 577 = .ok (.iadd, 1) := zby_g zbyb_802 (i := 12) rfl rfl
theorem dL_law__578 : decode cL_law_ 578 = .ok (.iaload, 1) := zby_g zbyb_802 (i := 13) rfl rfl
theorem dL_law__579 : decode cL_law_ 579 = .ok (.aload_n 3, 1) := zby_g zbyb_802 (i := 14) rfl rfl
theorem dL_law__580 : decode cL_law_ 580 = .ok (.invokestatic 171, 3) := zby_g zbyb_802 (i := 15) rfl rfl
noncomputable def zbyl_803 : List (Nat × zbyE) := [(583, zbyo_54 5), (585, zbyo_44), (586, zbyo_42), (587, zbyo_21 4), (589, zbyo_4), (590, zbyo_96), (591, zbyo_46), (592, zbyo_42), (593, zbyo_21 4), (595, zbyo_5), (596, zbyo_96), (597, zbyo_46), (598, zbyo_42), (599, zbyo_21 4), (601, zbyo_6), (602, zbyo_96)]
theorem zbyb_803 : zbys zbyl_803 (cL_law_.data.toList.drop 583) 583 = true := by decide +kernel
theorem dL_law__583 : decode cL_law_ 583 = .ok (.istore 5, 2) := zby_g zbyb_803 (i := 0) rfl rfl
theorem dL_law__585 : decode cL_law_ 585 = .ok (.aload_n 2, 1) := zby_g zbyb_803 (i := 1) rfl rfl
theorem dL_law__586 : decode cL_law_ 586 = .ok (.aload_n 0, 1) := zby_g zbyb_803 (i := 2) rfl rfl
theorem dL_law__587 : decode cL_law_ 587 = .ok (.iload 4, 2) := zby_g zbyb_803 (i := 3) rfl rfl
theorem dL_law__589 : decode cL_law_ 589 = .ok (.iconst 1, 1) := zby_g zbyb_803 (i := 4) rfl rfl
theorem dL_law__590 : decode cL_law_ 590 = .ok (.iadd, 1) := zby_g zbyb_803 (i := 5) rfl rfl
theorem dL_law__591 : decode cL_law_ 591 = .ok (.iaload, 1) := zby_g zbyb_803 (i := 6) rfl rfl
theorem dL_law__592 : decode cL_law_ 592 = .ok (.aload_n 0, 1) := zby_g zbyb_803 (i := 7) rfl rfl
theorem dL_law__593 : decode cL_law_ 593 = .ok (.iload 4, 2) := zby_g zbyb_803 (i := 8) rfl rfl
theorem dL_law__595 : decode cL_law_ 595 = .ok (.iconst 2, 1) := zby_g zbyb_803 (i := 9) rfl rfl
theorem dL_law__596 : decode cL_law_ 596 = .ok (.iadd, 1) := zby_g zbyb_803 (i := 10) rfl rfl
theorem dL_law__597 : decode cL_law_ 597 = .ok (.iaload, 1) := zby_g zbyb_803 (i := 11) rfl rfl
theorem dL_law__598 : decode cL_law_ 598 = .ok (.aload_n 0, 1) := zby_g zbyb_803 (i := 12) rfl rfl
theorem dL_law__599 : decode cL_law_ 599 = .ok (.iload 4, 2) := zby_g zbyb_803 (i := 13) rfl rfl
theorem dL_law__601 : decode cL_law_ 601 = .ok (.iconst 3, 1) := zby_g zbyb_803 (i := 14) rfl rfl
theorem dL_law__602 : decode cL_law_ 602 = .ok (.iadd, 1) := zby_g zbyb_803 (i := 15) rfl rfl
noncomputable def zbyl_804 : List (Nat × zbyE) := [(603, zbyo_46), (604, zbyo_182 174), (607, zbyo_54 6), (609, zbyo_167 1243), (612, zbyo_43), (613, zbyo_42), (614, zbyo_21 4), (616, zbyo_4), (617, zbyo_96), (618, zbyo_46), (619, zbyo_184 175), (622, zbyo_54 5), (624, zbyo_44), (625, zbyo_42), (626, zbyo_21 4), (628, zbyo_4)]
theorem zbyb_804 : zbys zbyl_804 (cL_law_.data.toList.drop 603) 603 = true := by decide +kernel
theorem dL_law__603 : decode cL_law_ 603 = .ok (.iaload, 1) := zby_g zbyb_804 (i := 0) rfl rfl
theorem dL_law__604 : decode cL_law_ 604 = .ok (.invokevirtual 174, 3) := zby_g zbyb_804 (i := 1) rfl rfl
theorem dL_law__607 : decode cL_law_ 607 = .ok (.istore 6, 2) := zby_g zbyb_804 (i := 2) rfl rfl
theorem dL_law__609 : decode cL_law_ 609 = .ok (.goto 1243, 3) := zby_g zbyb_804 (i := 3) rfl rfl
theorem dL_law__612 : decode cL_law_ 612 = .ok (.aload_n 1, 1) := zby_g zbyb_804 (i := 4) rfl rfl
theorem dL_law__613 : decode cL_law_ 613 = .ok (.aload_n 0, 1) := zby_g zbyb_804 (i := 5) rfl rfl
theorem dL_law__614 : decode cL_law_ 614 = .ok (.iload 4, 2) := zby_g zbyb_804 (i := 6) rfl rfl
theorem dL_law__616 : decode cL_law_ 616 = .ok (.iconst 1, 1) := zby_g zbyb_804 (i := 7) rfl rfl
theorem dL_law__617 : decode cL_law_ 617 = .ok (.iadd, 1) := zby_g zbyb_804 (i := 8) rfl rfl
theorem dL_law__618 : decode cL_law_ 618 = .ok (.iaload, 1) := zby_g zbyb_804 (i := 9) rfl rfl
theorem dL_law__619 : decode cL_law_ 619 = .ok (.invokestatic 175, 3) := zby_g zbyb_804 (i := 10) rfl rfl
theorem dL_law__622 : decode cL_law_ 622 = .ok (.istore 5, 2) := zby_g zbyb_804 (i := 11) rfl rfl
theorem dL_law__624 : decode cL_law_ 624 = .ok (.aload_n 2, 1) := zby_g zbyb_804 (i := 12) rfl rfl
theorem dL_law__625 : decode cL_law_ 625 = .ok (.aload_n 0, 1) := zby_g zbyb_804 (i := 13) rfl rfl
theorem dL_law__626 : decode cL_law_ 626 = .ok (.iload 4, 2) := zby_g zbyb_804 (i := 14) rfl rfl
theorem dL_law__628 : decode cL_law_ 628 = .ok (.iconst 1, 1) := zby_g zbyb_804 (i := 15) rfl rfl
noncomputable def zbyl_805 : List (Nat × zbyE) := [(629, zbyo_96), (630, zbyo_46), (631, zbyo_182 178), (634, zbyo_167 1218), (637, zbyo_43), (638, zbyo_42), (639, zbyo_21 4), (641, zbyo_4), (642, zbyo_96), (643, zbyo_46), (644, zbyo_45), (645, zbyo_184 179), (648, zbyo_54 5), (650, zbyo_44), (651, zbyo_42), (652, zbyo_21 4)]
theorem zbyb_805 : zbys zbyl_805 (cL_law_.data.toList.drop 629) 629 = true := by decide +kernel
theorem dL_law__629 : decode cL_law_ 629 = .ok (.iadd, 1) := zby_g zbyb_805 (i := 0) rfl rfl
theorem dL_law__630 : decode cL_law_ 630 = .ok (.iaload, 1) := zby_g zbyb_805 (i := 1) rfl rfl
theorem dL_law__631 : decode cL_law_ 631 = .ok (.invokevirtual 178, 3) := zby_g zbyb_805 (i := 2) rfl rfl
theorem dL_law__634 : decode cL_law_ 634 = .ok (.goto 1218, 3) := zby_g zbyb_805 (i := 3) rfl rfl
theorem dL_law__637 : decode cL_law_ 637 = .ok (.aload_n 1, 1) := zby_g zbyb_805 (i := 4) rfl rfl
theorem dL_law__638 : decode cL_law_ 638 = .ok (.aload_n 0, 1) := zby_g zbyb_805 (i := 5) rfl rfl
theorem dL_law__639 : decode cL_law_ 639 = .ok (.iload 4, 2) := zby_g zbyb_805 (i := 6) rfl rfl
theorem dL_law__641 : decode cL_law_ 641 = .ok (.iconst 1, 1) := zby_g zbyb_805 (i := 7) rfl rfl
theorem dL_law__642 : decode cL_law_ 642 = .ok (.iadd, 1) := zby_g zbyb_805 (i := 8) rfl rfl
theorem dL_law__643 : decode cL_law_ 643 = .ok (.iaload, 1) := zby_g zbyb_805 (i := 9) rfl rfl
theorem dL_law__644 : decode cL_law_ 644 = .ok (.aload_n 3, 1) := zby_g zbyb_805 (i := 10) rfl rfl
theorem dL_law__645 : decode cL_law_ 645 = .ok (.invokestatic 179, 3) := zby_g zbyb_805 (i := 11) rfl rfl
theorem dL_law__648 : decode cL_law_ 648 = .ok (.istore 5, 2) := zby_g zbyb_805 (i := 12) rfl rfl
theorem dL_law__650 : decode cL_law_ 650 = .ok (.aload_n 2, 1) := zby_g zbyb_805 (i := 13) rfl rfl
theorem dL_law__651 : decode cL_law_ 651 = .ok (.aload_n 0, 1) := zby_g zbyb_805 (i := 14) rfl rfl
theorem dL_law__652 : decode cL_law_ 652 = .ok (.iload 4, 2) := zby_g zbyb_805 (i := 15) rfl rfl
noncomputable def zbyl_806 : List (Nat × zbyE) := [(654, zbyo_4), (655, zbyo_96), (656, zbyo_46), (657, zbyo_182 181), (660, zbyo_54 6), (662, zbyo_167 1190), (665, zbyo_43), (666, zbyo_42), (667, zbyo_21 4), (669, zbyo_4), (670, zbyo_96), (671, zbyo_46), (672, zbyo_42), (673, zbyo_21 4), (675, zbyo_5), (676, zbyo_96)]
theorem zbyb_806 : zbys zbyl_806 (cL_law_.data.toList.drop 654) 654 = true := by decide +kernel
theorem dL_law__654 : decode cL_law_ 654 = .ok (.iconst 1, 1) := zby_g zbyb_806 (i := 0) rfl rfl
theorem dL_law__655 : decode cL_law_ 655 = .ok (.iadd, 1) := zby_g zbyb_806 (i := 1) rfl rfl
theorem dL_law__656 : decode cL_law_ 656 = .ok (.iaload, 1) := zby_g zbyb_806 (i := 2) rfl rfl
theorem dL_law__657 : decode cL_law_ 657 = .ok (.invokevirtual 181, 3) := zby_g zbyb_806 (i := 3) rfl rfl
theorem dL_law__660 : decode cL_law_ 660 = .ok (.istore 6, 2) := zby_g zbyb_806 (i := 4) rfl rfl
theorem dL_law__662 : decode cL_law_ 662 = .ok (.goto 1190, 3) := zby_g zbyb_806 (i := 5) rfl rfl
theorem dL_law__665 : decode cL_law_ 665 = .ok (.aload_n 1, 1) := zby_g zbyb_806 (i := 6) rfl rfl
theorem dL_law__666 : decode cL_law_ 666 = .ok (.aload_n 0, 1) := zby_g zbyb_806 (i := 7) rfl rfl
theorem dL_law__667 : decode cL_law_ 667 = .ok (.iload 4, 2) := zby_g zbyb_806 (i := 8) rfl rfl
theorem dL_law__669 : decode cL_law_ 669 = .ok (.iconst 1, 1) := zby_g zbyb_806 (i := 9) rfl rfl
theorem dL_law__670 : decode cL_law_ 670 = .ok (.iadd, 1) := zby_g zbyb_806 (i := 10) rfl rfl
theorem dL_law__671 : decode cL_law_ 671 = .ok (.iaload, 1) := zby_g zbyb_806 (i := 11) rfl rfl
theorem dL_law__672 : decode cL_law_ 672 = .ok (.aload_n 0, 1) := zby_g zbyb_806 (i := 12) rfl rfl
theorem dL_law__673 : decode cL_law_ 673 = .ok (.iload 4, 2) := zby_g zbyb_806 (i := 13) rfl rfl
theorem dL_law__675 : decode cL_law_ 675 = .ok (.iconst 2, 1) := zby_g zbyb_806 (i := 14) rfl rfl
theorem dL_law__676 : decode cL_law_ 676 = .ok (.iadd, 1) := zby_g zbyb_806 (i := 15) rfl rfl
noncomputable def zbyl_807 : List (Nat × zbyE) := [(677, zbyo_46), (678, zbyo_45), (679, zbyo_184 182), (682, zbyo_54 5), (684, zbyo_44), (685, zbyo_42), (686, zbyo_21 4), (688, zbyo_4), (689, zbyo_96), (690, zbyo_46), (691, zbyo_42), (692, zbyo_21 4), (694, zbyo_5), (695, zbyo_96), (696, zbyo_46), (697, zbyo_182 184)]
theorem zbyb_807 : zbys zbyl_807 (cL_law_.data.toList.drop 677) 677 = true := by decide +kernel
theorem dL_law__677 : decode cL_law_ 677 = .ok (.iaload, 1) := zby_g zbyb_807 (i := 0) rfl rfl
theorem dL_law__678 : decode cL_law_ 678 = .ok (.aload_n 3, 1) := zby_g zbyb_807 (i := 1) rfl rfl
theorem dL_law__679 : decode cL_law_ 679 = .ok (.invokestatic 182, 3) := zby_g zbyb_807 (i := 2) rfl rfl
theorem dL_law__682 : decode cL_law_ 682 = .ok (.istore 5, 2) := zby_g zbyb_807 (i := 3) rfl rfl
theorem dL_law__684 : decode cL_law_ 684 = .ok (.aload_n 2, 1) := zby_g zbyb_807 (i := 4) rfl rfl
theorem dL_law__685 : decode cL_law_ 685 = .ok (.aload_n 0, 1) := zby_g zbyb_807 (i := 5) rfl rfl
theorem dL_law__686 : decode cL_law_ 686 = .ok (.iload 4, 2) := zby_g zbyb_807 (i := 6) rfl rfl
theorem dL_law__688 : decode cL_law_ 688 = .ok (.iconst 1, 1) := zby_g zbyb_807 (i := 7) rfl rfl
theorem dL_law__689 : decode cL_law_ 689 = .ok (.iadd, 1) := zby_g zbyb_807 (i := 8) rfl rfl
theorem dL_law__690 : decode cL_law_ 690 = .ok (.iaload, 1) := zby_g zbyb_807 (i := 9) rfl rfl
theorem dL_law__691 : decode cL_law_ 691 = .ok (.aload_n 0, 1) := zby_g zbyb_807 (i := 10) rfl rfl
theorem dL_law__692 : decode cL_law_ 692 = .ok (.iload 4, 2) := zby_g zbyb_807 (i := 11) rfl rfl
theorem dL_law__694 : decode cL_law_ 694 = .ok (.iconst 2, 1) := zby_g zbyb_807 (i := 12) rfl rfl
theorem dL_law__695 : decode cL_law_ 695 = .ok (.iadd, 1) := zby_g zbyb_807 (i := 13) rfl rfl
theorem dL_law__696 : decode cL_law_ 696 = .ok (.iaload, 1) := zby_g zbyb_807 (i := 14) rfl rfl
theorem dL_law__697 : decode cL_law_ 697 = .ok (.invokevirtual 184, 3) := zby_g zbyb_807 (i := 15) rfl rfl
noncomputable def zbyl_808 : List (Nat × zbyE) := [(700, zbyo_54 6), (702, zbyo_167 1150), (705, zbyo_43), (706, zbyo_42), (707, zbyo_21 4), (709, zbyo_4), (710, zbyo_96), (711, zbyo_46), (712, zbyo_42), (713, zbyo_21 4), (715, zbyo_5), (716, zbyo_96), (717, zbyo_46), (718, zbyo_45), (719, zbyo_184 185), (722, zbyo_54 5)]
theorem zbyb_808 : zbys zbyl_808 (cL_law_.data.toList.drop 700) 700 = true := by decide +kernel
theorem dL_law__700 : decode cL_law_ 700 = .ok (.istore 6, 2) := zby_g zbyb_808 (i := 0) rfl rfl
theorem dL_law__702 : decode cL_law_ 702 = .ok (.goto 1150, 3) := zby_g zbyb_808 (i := 1) rfl rfl
theorem dL_law__705 : decode cL_law_ 705 = .ok (.aload_n 1, 1) := zby_g zbyb_808 (i := 2) rfl rfl
theorem dL_law__706 : decode cL_law_ 706 = .ok (.aload_n 0, 1) := zby_g zbyb_808 (i := 3) rfl rfl
theorem dL_law__707 : decode cL_law_ 707 = .ok (.iload 4, 2) := zby_g zbyb_808 (i := 4) rfl rfl
theorem dL_law__709 : decode cL_law_ 709 = .ok (.iconst 1, 1) := zby_g zbyb_808 (i := 5) rfl rfl
theorem dL_law__710 : decode cL_law_ 710 = .ok (.iadd, 1) := zby_g zbyb_808 (i := 6) rfl rfl
theorem dL_law__711 : decode cL_law_ 711 = .ok (.iaload, 1) := zby_g zbyb_808 (i := 7) rfl rfl
theorem dL_law__712 : decode cL_law_ 712 = .ok (.aload_n 0, 1) := zby_g zbyb_808 (i := 8) rfl rfl
theorem dL_law__713 : decode cL_law_ 713 = .ok (.iload 4, 2) := zby_g zbyb_808 (i := 9) rfl rfl
theorem dL_law__715 : decode cL_law_ 715 = .ok (.iconst 2, 1) := zby_g zbyb_808 (i := 10) rfl rfl
theorem dL_law__716 : decode cL_law_ 716 = .ok (.iadd, 1) := zby_g zbyb_808 (i := 11) rfl rfl
theorem dL_law__717 : decode cL_law_ 717 = .ok (.iaload, 1) := zby_g zbyb_808 (i := 12) rfl rfl
theorem dL_law__718 : decode cL_law_ 718 = .ok (.aload_n 3, 1) := zby_g zbyb_808 (i := 13) rfl rfl
theorem dL_law__719 : decode cL_law_ 719 = .ok (.invokestatic 185, 3) := zby_g zbyb_808 (i := 14) rfl rfl
theorem dL_law__722 : decode cL_law_ 722 = .ok (.istore 5, 2) := zby_g zbyb_808 (i := 15) rfl rfl
noncomputable def zbyl_809 : List (Nat × zbyE) := [(724, zbyo_44), (725, zbyo_42), (726, zbyo_21 4), (728, zbyo_4), (729, zbyo_96), (730, zbyo_46), (731, zbyo_42), (732, zbyo_21 4), (734, zbyo_5), (735, zbyo_96), (736, zbyo_46), (737, zbyo_182 187), (740, zbyo_54 6), (742, zbyo_167 1110), (745, zbyo_43), (746, zbyo_42)]
theorem zbyb_809 : zbys zbyl_809 (cL_law_.data.toList.drop 724) 724 = true := by decide +kernel
theorem dL_law__724 : decode cL_law_ 724 = .ok (.aload_n 2, 1) := zby_g zbyb_809 (i := 0) rfl rfl
theorem dL_law__725 : decode cL_law_ 725 = .ok (.aload_n 0, 1) := zby_g zbyb_809 (i := 1) rfl rfl
theorem dL_law__726 : decode cL_law_ 726 = .ok (.iload 4, 2) := zby_g zbyb_809 (i := 2) rfl rfl
theorem dL_law__728 : decode cL_law_ 728 = .ok (.iconst 1, 1) := zby_g zbyb_809 (i := 3) rfl rfl
theorem dL_law__729 : decode cL_law_ 729 = .ok (.iadd, 1) := zby_g zbyb_809 (i := 4) rfl rfl
theorem dL_law__730 : decode cL_law_ 730 = .ok (.iaload, 1) := zby_g zbyb_809 (i := 5) rfl rfl
theorem dL_law__731 : decode cL_law_ 731 = .ok (.aload_n 0, 1) := zby_g zbyb_809 (i := 6) rfl rfl
theorem dL_law__732 : decode cL_law_ 732 = .ok (.iload 4, 2) := zby_g zbyb_809 (i := 7) rfl rfl
theorem dL_law__734 : decode cL_law_ 734 = .ok (.iconst 2, 1) := zby_g zbyb_809 (i := 8) rfl rfl
theorem dL_law__735 : decode cL_law_ 735 = .ok (.iadd, 1) := zby_g zbyb_809 (i := 9) rfl rfl
theorem dL_law__736 : decode cL_law_ 736 = .ok (.iaload, 1) := zby_g zbyb_809 (i := 10) rfl rfl
theorem dL_law__737 : decode cL_law_ 737 = .ok (.invokevirtual 187, 3) := zby_g zbyb_809 (i := 11) rfl rfl
theorem dL_law__740 : decode cL_law_ 740 = .ok (.istore 6, 2) := zby_g zbyb_809 (i := 12) rfl rfl
theorem dL_law__742 : decode cL_law_ 742 = .ok (.goto 1110, 3) := zby_g zbyb_809 (i := 13) rfl rfl
theorem dL_law__745 : decode cL_law_ 745 = .ok (.aload_n 1, 1) := zby_g zbyb_809 (i := 14) rfl rfl
theorem dL_law__746 : decode cL_law_ 746 = .ok (.aload_n 0, 1) := zby_g zbyb_809 (i := 15) rfl rfl
noncomputable def zbyl_810 : List (Nat × zbyE) := [(747, zbyo_21 4), (749, zbyo_4), (750, zbyo_96), (751, zbyo_46), (752, zbyo_42), (753, zbyo_21 4), (755, zbyo_5), (756, zbyo_96), (757, zbyo_46), (758, zbyo_153 7), (761, zbyo_4), (762, zbyo_167 4), (765, zbyo_3), (766, zbyo_45), (767, zbyo_184 188), (770, zbyo_54 5)]
theorem zbyb_810 : zbys zbyl_810 (cL_law_.data.toList.drop 747) 747 = true := by decide +kernel
theorem dL_law__747 : decode cL_law_ 747 = .ok (.iload 4, 2) := zby_g zbyb_810 (i := 0) rfl rfl
theorem dL_law__749 : decode cL_law_ 749 = .ok (.iconst 1, 1) := zby_g zbyb_810 (i := 1) rfl rfl
theorem dL_law__750 : decode cL_law_ 750 = .ok (.iadd, 1) := zby_g zbyb_810 (i := 2) rfl rfl
theorem dL_law__751 : decode cL_law_ 751 = .ok (.iaload, 1) := zby_g zbyb_810 (i := 3) rfl rfl
theorem dL_law__752 : decode cL_law_ 752 = .ok (.aload_n 0, 1) := zby_g zbyb_810 (i := 4) rfl rfl
theorem dL_law__753 : decode cL_law_ 753 = .ok (.iload 4, 2) := zby_g zbyb_810 (i := 5) rfl rfl
theorem dL_law__755 : decode cL_law_ 755 = .ok (.iconst 2, 1) := zby_g zbyb_810 (i := 6) rfl rfl
theorem dL_law__756 : decode cL_law_ 756 = .ok (.iadd, 1) := zby_g zbyb_810 (i := 7) rfl rfl
theorem dL_law__757 : decode cL_law_ 757 = .ok (.iaload, 1) := zby_g zbyb_810 (i := 8) rfl rfl
theorem dL_law__758 : decode cL_law_ 758 = .ok (.ifCond .eq 7, 3) := zby_g zbyb_810 (i := 9) rfl rfl
theorem dL_law__761 : decode cL_law_ 761 = .ok (.iconst 1, 1) := zby_g zbyb_810 (i := 10) rfl rfl
theorem dL_law__762 : decode cL_law_ 762 = .ok (.goto 4, 3) := zby_g zbyb_810 (i := 11) rfl rfl
theorem dL_law__765 : decode cL_law_ 765 = .ok (.iconst 0, 1) := zby_g zbyb_810 (i := 12) rfl rfl
theorem dL_law__766 : decode cL_law_ 766 = .ok (.aload_n 3, 1) := zby_g zbyb_810 (i := 13) rfl rfl
theorem dL_law__767 : decode cL_law_ 767 = .ok (.invokestatic 188, 3) := zby_g zbyb_810 (i := 14) rfl rfl
theorem dL_law__770 : decode cL_law_ 770 = .ok (.istore 5, 2) := zby_g zbyb_810 (i := 15) rfl rfl
noncomputable def zbyl_811 : List (Nat × zbyE) := [(772, zbyo_44), (773, zbyo_42), (774, zbyo_21 4), (776, zbyo_4), (777, zbyo_96), (778, zbyo_46), (779, zbyo_42), (780, zbyo_21 4), (782, zbyo_5), (783, zbyo_96), (784, zbyo_46), (785, zbyo_153 7), (788, zbyo_4), (789, zbyo_167 4), (792, zbyo_3), (793, zbyo_182 191)]
theorem zbyb_811 : zbys zbyl_811 (cL_law_.data.toList.drop 772) 772 = true := by decide +kernel
theorem dL_law__772 : decode cL_law_ 772 = .ok (.aload_n 2, 1) := zby_g zbyb_811 (i := 0) rfl rfl
theorem dL_law__773 : decode cL_law_ 773 = .ok (.aload_n 0, 1) := zby_g zbyb_811 (i := 1) rfl rfl
theorem dL_law__774 : decode cL_law_ 774 = .ok (.iload 4, 2) := zby_g zbyb_811 (i := 2) rfl rfl
theorem dL_law__776 : decode cL_law_ 776 = .ok (.iconst 1, 1) := zby_g zbyb_811 (i := 3) rfl rfl
theorem dL_law__777 : decode cL_law_ 777 = .ok (.iadd, 1) := zby_g zbyb_811 (i := 4) rfl rfl
theorem dL_law__778 : decode cL_law_ 778 = .ok (.iaload, 1) := zby_g zbyb_811 (i := 5) rfl rfl
theorem dL_law__779 : decode cL_law_ 779 = .ok (.aload_n 0, 1) := zby_g zbyb_811 (i := 6) rfl rfl
theorem dL_law__780 : decode cL_law_ 780 = .ok (.iload 4, 2) := zby_g zbyb_811 (i := 7) rfl rfl
theorem dL_law__782 : decode cL_law_ 782 = .ok (.iconst 2, 1) := zby_g zbyb_811 (i := 8) rfl rfl
theorem dL_law__783 : decode cL_law_ 783 = .ok (.iadd, 1) := zby_g zbyb_811 (i := 9) rfl rfl
theorem dL_law__784 : decode cL_law_ 784 = .ok (.iaload, 1) := zby_g zbyb_811 (i := 10) rfl rfl
theorem dL_law__785 : decode cL_law_ 785 = .ok (.ifCond .eq 7, 3) := zby_g zbyb_811 (i := 11) rfl rfl
theorem dL_law__788 : decode cL_law_ 788 = .ok (.iconst 1, 1) := zby_g zbyb_811 (i := 12) rfl rfl
theorem dL_law__789 : decode cL_law_ 789 = .ok (.goto 4, 3) := zby_g zbyb_811 (i := 13) rfl rfl
theorem dL_law__792 : decode cL_law_ 792 = .ok (.iconst 0, 1) := zby_g zbyb_811 (i := 14) rfl rfl
theorem dL_law__793 : decode cL_law_ 793 = .ok (.invokevirtual 191, 3) := zby_g zbyb_811 (i := 15) rfl rfl
noncomputable def zbyl_812 : List (Nat × zbyE) := [(796, zbyo_54 6), (798, zbyo_167 1054), (801, zbyo_43), (802, zbyo_42), (803, zbyo_21 4), (805, zbyo_4), (806, zbyo_96), (807, zbyo_46), (808, zbyo_45), (809, zbyo_184 192), (812, zbyo_54 5), (814, zbyo_44), (815, zbyo_42), (816, zbyo_21 4), (818, zbyo_4), (819, zbyo_96)]
theorem zbyb_812 : zbys zbyl_812 (cL_law_.data.toList.drop 796) 796 = true := by decide +kernel
theorem dL_law__796 : decode cL_law_ 796 = .ok (.istore 6, 2) := zby_g zbyb_812 (i := 0) rfl rfl
theorem dL_law__798 : decode cL_law_ 798 = .ok (.goto 1054, 3) := zby_g zbyb_812 (i := 1) rfl rfl
theorem dL_law__801 : decode cL_law_ 801 = .ok (.aload_n 1, 1) := zby_g zbyb_812 (i := 2) rfl rfl
theorem dL_law__802 : decode cL_law_ 802 = .ok (.aload_n 0, 1) := zby_g zbyb_812 (i := 3) rfl rfl
theorem dL_law__803 : decode cL_law_ 803 = .ok (.iload 4, 2) := zby_g zbyb_812 (i := 4) rfl rfl
theorem dL_law__805 : decode cL_law_ 805 = .ok (.iconst 1, 1) := zby_g zbyb_812 (i := 5) rfl rfl
theorem dL_law__806 : decode cL_law_ 806 = .ok (.iadd, 1) := zby_g zbyb_812 (i := 6) rfl rfl
theorem dL_law__807 : decode cL_law_ 807 = .ok (.iaload, 1) := zby_g zbyb_812 (i := 7) rfl rfl
theorem dL_law__808 : decode cL_law_ 808 = .ok (.aload_n 3, 1) := zby_g zbyb_812 (i := 8) rfl rfl
theorem dL_law__809 : decode cL_law_ 809 = .ok (.invokestatic 192, 3) := zby_g zbyb_812 (i := 9) rfl rfl
theorem dL_law__812 : decode cL_law_ 812 = .ok (.istore 5, 2) := zby_g zbyb_812 (i := 10) rfl rfl
theorem dL_law__814 : decode cL_law_ 814 = .ok (.aload_n 2, 1) := zby_g zbyb_812 (i := 11) rfl rfl
theorem dL_law__815 : decode cL_law_ 815 = .ok (.aload_n 0, 1) := zby_g zbyb_812 (i := 12) rfl rfl
theorem dL_law__816 : decode cL_law_ 816 = .ok (.iload 4, 2) := zby_g zbyb_812 (i := 13) rfl rfl
theorem dL_law__818 : decode cL_law_ 818 = .ok (.iconst 1, 1) := zby_g zbyb_812 (i := 14) rfl rfl
theorem dL_law__819 : decode cL_law_ 819 = .ok (.iadd, 1) := zby_g zbyb_812 (i := 15) rfl rfl
noncomputable def zbyl_813 : List (Nat × zbyE) := [(820, zbyo_46), (821, zbyo_182 194), (824, zbyo_54 6), (826, zbyo_167 1026), (829, zbyo_43), (830, zbyo_42), (831, zbyo_21 4), (833, zbyo_4), (834, zbyo_96), (835, zbyo_46), (836, zbyo_42), (837, zbyo_21 4), (839, zbyo_5), (840, zbyo_96), (841, zbyo_46), (842, zbyo_45)]
theorem zbyb_813 : zbys zbyl_813 (cL_law_.data.toList.drop 820) 820 = true := by decide +kernel
theorem dL_law__820 : decode cL_law_ 820 = .ok (.iaload, 1) := zby_g zbyb_813 (i := 0) rfl rfl
theorem dL_law__821 : decode cL_law_ 821 = .ok (.invokevirtual 194, 3) := zby_g zbyb_813 (i := 1) rfl rfl
theorem dL_law__824 : decode cL_law_ 824 = .ok (.istore 6, 2) := zby_g zbyb_813 (i := 2) rfl rfl
theorem dL_law__826 : decode cL_law_ 826 = .ok (.goto 1026, 3) := zby_g zbyb_813 (i := 3) rfl rfl
theorem dL_law__829 : decode cL_law_ 829 = .ok (.aload_n 1, 1) := zby_g zbyb_813 (i := 4) rfl rfl
theorem dL_law__830 : decode cL_law_ 830 = .ok (.aload_n 0, 1) := zby_g zbyb_813 (i := 5) rfl rfl
theorem dL_law__831 : decode cL_law_ 831 = .ok (.iload 4, 2) := zby_g zbyb_813 (i := 6) rfl rfl
theorem dL_law__833 : decode cL_law_ 833 = .ok (.iconst 1, 1) := zby_g zbyb_813 (i := 7) rfl rfl
theorem dL_law__834 : decode cL_law_ 834 = .ok (.iadd, 1) := zby_g zbyb_813 (i := 8) rfl rfl
theorem dL_law__835 : decode cL_law_ 835 = .ok (.iaload, 1) := zby_g zbyb_813 (i := 9) rfl rfl
theorem dL_law__836 : decode cL_law_ 836 = .ok (.aload_n 0, 1) := zby_g zbyb_813 (i := 10) rfl rfl
theorem dL_law__837 : decode cL_law_ 837 = .ok (.iload 4, 2) := zby_g zbyb_813 (i := 11) rfl rfl
theorem dL_law__839 : decode cL_law_ 839 = .ok (.iconst 2, 1) := zby_g zbyb_813 (i := 12) rfl rfl
theorem dL_law__840 : decode cL_law_ 840 = .ok (.iadd, 1) := zby_g zbyb_813 (i := 13) rfl rfl
theorem dL_law__841 : decode cL_law_ 841 = .ok (.iaload, 1) := zby_g zbyb_813 (i := 14) rfl rfl
theorem dL_law__842 : decode cL_law_ 842 = .ok (.aload_n 3, 1) := zby_g zbyb_813 (i := 15) rfl rfl
noncomputable def zbyl_814 : List (Nat × zbyE) := [(843, zbyo_184 195), (846, zbyo_54 5), (848, zbyo_44), (849, zbyo_42), (850, zbyo_21 4), (852, zbyo_4), (853, zbyo_96), (854, zbyo_46), (855, zbyo_42), (856, zbyo_21 4), (858, zbyo_5), (859, zbyo_96), (860, zbyo_46), (861, zbyo_182 197), (864, zbyo_54 6), (866, zbyo_167 986)]
theorem zbyb_814 : zbys zbyl_814 (cL_law_.data.toList.drop 843) 843 = true := by decide +kernel
theorem dL_law__843 : decode cL_law_ 843 = .ok (.invokestatic 195, 3) := zby_g zbyb_814 (i := 0) rfl rfl
theorem dL_law__846 : decode cL_law_ 846 = .ok (.istore 5, 2) := zby_g zbyb_814 (i := 1) rfl rfl
theorem dL_law__848 : decode cL_law_ 848 = .ok (.aload_n 2, 1) := zby_g zbyb_814 (i := 2) rfl rfl
theorem dL_law__849 : decode cL_law_ 849 = .ok (.aload_n 0, 1) := zby_g zbyb_814 (i := 3) rfl rfl
theorem dL_law__850 : decode cL_law_ 850 = .ok (.iload 4, 2) := zby_g zbyb_814 (i := 4) rfl rfl
theorem dL_law__852 : decode cL_law_ 852 = .ok (.iconst 1, 1) := zby_g zbyb_814 (i := 5) rfl rfl
theorem dL_law__853 : decode cL_law_ 853 = .ok (.iadd, 1) := zby_g zbyb_814 (i := 6) rfl rfl
theorem dL_law__854 : decode cL_law_ 854 = .ok (.iaload, 1) := zby_g zbyb_814 (i := 7) rfl rfl
theorem dL_law__855 : decode cL_law_ 855 = .ok (.aload_n 0, 1) := zby_g zbyb_814 (i := 8) rfl rfl
theorem dL_law__856 : decode cL_law_ 856 = .ok (.iload 4, 2) := zby_g zbyb_814 (i := 9) rfl rfl
theorem dL_law__858 : decode cL_law_ 858 = .ok (.iconst 2, 1) := zby_g zbyb_814 (i := 10) rfl rfl
theorem dL_law__859 : decode cL_law_ 859 = .ok (.iadd, 1) := zby_g zbyb_814 (i := 11) rfl rfl
theorem dL_law__860 : decode cL_law_ 860 = .ok (.iaload, 1) := zby_g zbyb_814 (i := 12) rfl rfl
theorem dL_law__861 : decode cL_law_ 861 = .ok (.invokevirtual 197, 3) := zby_g zbyb_814 (i := 13) rfl rfl
theorem dL_law__864 : decode cL_law_ 864 = .ok (.istore 6, 2) := zby_g zbyb_814 (i := 14) rfl rfl
theorem dL_law__866 : decode cL_law_ 866 = .ok (.goto 986, 3) := zby_g zbyb_814 (i := 15) rfl rfl
noncomputable def zbyl_815 : List (Nat × zbyE) := [(869, zbyo_43), (870, zbyo_42), (871, zbyo_21 4), (873, zbyo_4), (874, zbyo_96), (875, zbyo_46), (876, zbyo_42), (877, zbyo_21 4), (879, zbyo_5), (880, zbyo_96), (881, zbyo_46), (882, zbyo_153 7), (885, zbyo_4), (886, zbyo_167 4), (889, zbyo_3), (890, zbyo_45)]
theorem zbyb_815 : zbys zbyl_815 (cL_law_.data.toList.drop 869) 869 = true := by decide +kernel
theorem dL_law__869 : decode cL_law_ 869 = .ok (.aload_n 1, 1) := zby_g zbyb_815 (i := 0) rfl rfl
theorem dL_law__870 : decode cL_law_ 870 = .ok (.aload_n 0, 1) := zby_g zbyb_815 (i := 1) rfl rfl
theorem dL_law__871 : decode cL_law_ 871 = .ok (.iload 4, 2) := zby_g zbyb_815 (i := 2) rfl rfl
theorem dL_law__873 : decode cL_law_ 873 = .ok (.iconst 1, 1) := zby_g zbyb_815 (i := 3) rfl rfl
theorem dL_law__874 : decode cL_law_ 874 = .ok (.iadd, 1) := zby_g zbyb_815 (i := 4) rfl rfl
theorem dL_law__875 : decode cL_law_ 875 = .ok (.iaload, 1) := zby_g zbyb_815 (i := 5) rfl rfl
theorem dL_law__876 : decode cL_law_ 876 = .ok (.aload_n 0, 1) := zby_g zbyb_815 (i := 6) rfl rfl
theorem dL_law__877 : decode cL_law_ 877 = .ok (.iload 4, 2) := zby_g zbyb_815 (i := 7) rfl rfl
theorem dL_law__879 : decode cL_law_ 879 = .ok (.iconst 2, 1) := zby_g zbyb_815 (i := 8) rfl rfl
theorem dL_law__880 : decode cL_law_ 880 = .ok (.iadd, 1) := zby_g zbyb_815 (i := 9) rfl rfl
theorem dL_law__881 : decode cL_law_ 881 = .ok (.iaload, 1) := zby_g zbyb_815 (i := 10) rfl rfl
theorem dL_law__882 : decode cL_law_ 882 = .ok (.ifCond .eq 7, 3) := zby_g zbyb_815 (i := 11) rfl rfl
theorem dL_law__885 : decode cL_law_ 885 = .ok (.iconst 1, 1) := zby_g zbyb_815 (i := 12) rfl rfl
theorem dL_law__886 : decode cL_law_ 886 = .ok (.goto 4, 3) := zby_g zbyb_815 (i := 13) rfl rfl
theorem dL_law__889 : decode cL_law_ 889 = .ok (.iconst 0, 1) := zby_g zbyb_815 (i := 14) rfl rfl
theorem dL_law__890 : decode cL_law_ 890 = .ok (.aload_n 3, 1) := zby_g zbyb_815 (i := 15) rfl rfl
noncomputable def zbyl_816 : List (Nat × zbyE) := [(891, zbyo_184 198), (894, zbyo_54 5), (896, zbyo_44), (897, zbyo_42), (898, zbyo_21 4), (900, zbyo_4), (901, zbyo_96), (902, zbyo_46), (903, zbyo_42), (904, zbyo_21 4), (906, zbyo_5), (907, zbyo_96), (908, zbyo_46), (909, zbyo_153 7), (912, zbyo_4), (913, zbyo_167 4)]
theorem zbyb_816 : zbys zbyl_816 (cL_law_.data.toList.drop 891) 891 = true := by decide +kernel
theorem dL_law__891 : decode cL_law_ 891 = .ok (.invokestatic 198, 3) := zby_g zbyb_816 (i := 0) rfl rfl
theorem dL_law__894 : decode cL_law_ 894 = .ok (.istore 5, 2) := zby_g zbyb_816 (i := 1) rfl rfl
theorem dL_law__896 : decode cL_law_ 896 = .ok (.aload_n 2, 1) := zby_g zbyb_816 (i := 2) rfl rfl
theorem dL_law__897 : decode cL_law_ 897 = .ok (.aload_n 0, 1) := zby_g zbyb_816 (i := 3) rfl rfl
theorem dL_law__898 : decode cL_law_ 898 = .ok (.iload 4, 2) := zby_g zbyb_816 (i := 4) rfl rfl
theorem dL_law__900 : decode cL_law_ 900 = .ok (.iconst 1, 1) := zby_g zbyb_816 (i := 5) rfl rfl
theorem dL_law__901 : decode cL_law_ 901 = .ok (.iadd, 1) := zby_g zbyb_816 (i := 6) rfl rfl
theorem dL_law__902 : decode cL_law_ 902 = .ok (.iaload, 1) := zby_g zbyb_816 (i := 7) rfl rfl
theorem dL_law__903 : decode cL_law_ 903 = .ok (.aload_n 0, 1) := zby_g zbyb_816 (i := 8) rfl rfl
theorem dL_law__904 : decode cL_law_ 904 = .ok (.iload 4, 2) := zby_g zbyb_816 (i := 9) rfl rfl
theorem dL_law__906 : decode cL_law_ 906 = .ok (.iconst 2, 1) := zby_g zbyb_816 (i := 10) rfl rfl
theorem dL_law__907 : decode cL_law_ 907 = .ok (.iadd, 1) := zby_g zbyb_816 (i := 11) rfl rfl
theorem dL_law__908 : decode cL_law_ 908 = .ok (.iaload, 1) := zby_g zbyb_816 (i := 12) rfl rfl
theorem dL_law__909 : decode cL_law_ 909 = .ok (.ifCond .eq 7, 3) := zby_g zbyb_816 (i := 13) rfl rfl
theorem dL_law__912 : decode cL_law_ 912 = .ok (.iconst 1, 1) := zby_g zbyb_816 (i := 14) rfl rfl
theorem dL_law__913 : decode cL_law_ 913 = .ok (.goto 4, 3) := zby_g zbyb_816 (i := 15) rfl rfl
noncomputable def zbyl_817 : List (Nat × zbyE) := [(916, zbyo_3), (917, zbyo_182 200), (920, zbyo_54 6), (922, zbyo_167 930), (925, zbyo_43), (926, zbyo_42), (927, zbyo_21 4), (929, zbyo_4), (930, zbyo_96), (931, zbyo_46), (932, zbyo_42), (933, zbyo_21 4), (935, zbyo_5), (936, zbyo_96), (937, zbyo_46), (938, zbyo_45)]
theorem zbyb_817 : zbys zbyl_817 (cL_law_.data.toList.drop 916) 916 = true := by decide +kernel
theorem dL_law__916 : decode cL_law_ 916 = .ok (.iconst 0, 1) := zby_g zbyb_817 (i := 0) rfl rfl
theorem dL_law__917 : decode cL_law_ 917 = .ok (.invokevirtual 200, 3) := zby_g zbyb_817 (i := 1) rfl rfl
theorem dL_law__920 : decode cL_law_ 920 = .ok (.istore 6, 2) := zby_g zbyb_817 (i := 2) rfl rfl
theorem dL_law__922 : decode cL_law_ 922 = .ok (.goto 930, 3) := zby_g zbyb_817 (i := 3) rfl rfl
theorem dL_law__925 : decode cL_law_ 925 = .ok (.aload_n 1, 1) := zby_g zbyb_817 (i := 4) rfl rfl
theorem dL_law__926 : decode cL_law_ 926 = .ok (.aload_n 0, 1) := zby_g zbyb_817 (i := 5) rfl rfl
theorem dL_law__927 : decode cL_law_ 927 = .ok (.iload 4, 2) := zby_g zbyb_817 (i := 6) rfl rfl
theorem dL_law__929 : decode cL_law_ 929 = .ok (.iconst 1, 1) := zby_g zbyb_817 (i := 7) rfl rfl
theorem dL_law__930 : decode cL_law_ 930 = .ok (.iadd, 1) := zby_g zbyb_817 (i := 8) rfl rfl
theorem dL_law__931 : decode cL_law_ 931 = .ok (.iaload, 1) := zby_g zbyb_817 (i := 9) rfl rfl
theorem dL_law__932 : decode cL_law_ 932 = .ok (.aload_n 0, 1) := zby_g zbyb_817 (i := 10) rfl rfl
theorem dL_law__933 : decode cL_law_ 933 = .ok (.iload 4, 2) := zby_g zbyb_817 (i := 11) rfl rfl
theorem dL_law__935 : decode cL_law_ 935 = .ok (.iconst 2, 1) := zby_g zbyb_817 (i := 12) rfl rfl
theorem dL_law__936 : decode cL_law_ 936 = .ok (.iadd, 1) := zby_g zbyb_817 (i := 13) rfl rfl
theorem dL_law__937 : decode cL_law_ 937 = .ok (.iaload, 1) := zby_g zbyb_817 (i := 14) rfl rfl
theorem dL_law__938 : decode cL_law_ 938 = .ok (.aload_n 3, 1) := zby_g zbyb_817 (i := 15) rfl rfl
noncomputable def zbyl_818 : List (Nat × zbyE) := [(939, zbyo_184 201), (942, zbyo_54 5), (944, zbyo_44), (945, zbyo_42), (946, zbyo_21 4), (948, zbyo_4), (949, zbyo_96), (950, zbyo_46), (951, zbyo_42), (952, zbyo_21 4), (954, zbyo_5), (955, zbyo_96), (956, zbyo_46), (957, zbyo_182 203), (960, zbyo_54 6), (962, zbyo_167 890)]
theorem zbyb_818 : zbys zbyl_818 (cL_law_.data.toList.drop 939) 939 = true := by decide +kernel
theorem dL_law__939 : decode cL_law_ 939 = .ok (.invokestatic 201, 3) := zby_g zbyb_818 (i := 0) rfl rfl
theorem dL_law__942 : decode cL_law_ 942 = .ok (.istore 5, 2) := zby_g zbyb_818 (i := 1) rfl rfl
theorem dL_law__944 : decode cL_law_ 944 = .ok (.aload_n 2, 1) := zby_g zbyb_818 (i := 2) rfl rfl
theorem dL_law__945 : decode cL_law_ 945 = .ok (.aload_n 0, 1) := zby_g zbyb_818 (i := 3) rfl rfl
theorem dL_law__946 : decode cL_law_ 946 = .ok (.iload 4, 2) := zby_g zbyb_818 (i := 4) rfl rfl
theorem dL_law__948 : decode cL_law_ 948 = .ok (.iconst 1, 1) := zby_g zbyb_818 (i := 5) rfl rfl
theorem dL_law__949 : decode cL_law_ 949 = .ok (.iadd, 1) := zby_g zbyb_818 (i := 6) rfl rfl
theorem dL_law__950 : decode cL_law_ 950 = .ok (.iaload, 1) := zby_g zbyb_818 (i := 7) rfl rfl
theorem dL_law__951 : decode cL_law_ 951 = .ok (.aload_n 0, 1) := zby_g zbyb_818 (i := 8) rfl rfl
theorem dL_law__952 : decode cL_law_ 952 = .ok (.iload 4, 2) := zby_g zbyb_818 (i := 9) rfl rfl
theorem dL_law__954 : decode cL_law_ 954 = .ok (.iconst 2, 1) := zby_g zbyb_818 (i := 10) rfl rfl
theorem dL_law__955 : decode cL_law_ 955 = .ok (.iadd, 1) := zby_g zbyb_818 (i := 11) rfl rfl
theorem dL_law__956 : decode cL_law_ 956 = .ok (.iaload, 1) := zby_g zbyb_818 (i := 12) rfl rfl
theorem dL_law__957 : decode cL_law_ 957 = .ok (.invokevirtual 203, 3) := zby_g zbyb_818 (i := 13) rfl rfl
theorem dL_law__960 : decode cL_law_ 960 = .ok (.istore 6, 2) := zby_g zbyb_818 (i := 14) rfl rfl
theorem dL_law__962 : decode cL_law_ 962 = .ok (.goto 890, 3) := zby_g zbyb_818 (i := 15) rfl rfl
noncomputable def zbyl_819 : List (Nat × zbyE) := [(965, zbyo_43), (966, zbyo_42), (967, zbyo_21 4), (969, zbyo_4), (970, zbyo_96), (971, zbyo_46), (972, zbyo_45), (973, zbyo_184 204), (976, zbyo_54 5), (978, zbyo_44), (979, zbyo_42), (980, zbyo_21 4), (982, zbyo_4), (983, zbyo_96), (984, zbyo_46), (985, zbyo_182 206)]
theorem zbyb_819 : zbys zbyl_819 (cL_law_.data.toList.drop 965) 965 = true := by decide +kernel
theorem dL_law__965 : decode cL_law_ 965 = .ok (.aload_n 1, 1) := zby_g zbyb_819 (i := 0) rfl rfl
theorem dL_law__966 : decode cL_law_ 966 = .ok (.aload_n 0, 1) := zby_g zbyb_819 (i := 1) rfl rfl
theorem dL_law__967 : decode cL_law_ 967 = .ok (.iload 4, 2) := zby_g zbyb_819 (i := 2) rfl rfl
theorem dL_law__969 : decode cL_law_ 969 = .ok (.iconst 1, 1) := zby_g zbyb_819 (i := 3) rfl rfl
theorem dL_law__970 : decode cL_law_ 970 = .ok (.iadd, 1) := zby_g zbyb_819 (i := 4) rfl rfl
theorem dL_law__971 : decode cL_law_ 971 = .ok (.iaload, 1) := zby_g zbyb_819 (i := 5) rfl rfl
theorem dL_law__972 : decode cL_law_ 972 = .ok (.aload_n 3, 1) := zby_g zbyb_819 (i := 6) rfl rfl
theorem dL_law__973 : decode cL_law_ 973 = .ok (.invokestatic 204, 3) := zby_g zbyb_819 (i := 7) rfl rfl
theorem dL_law__976 : decode cL_law_ 976 = .ok (.istore 5, 2) := zby_g zbyb_819 (i := 8) rfl rfl
theorem dL_law__978 : decode cL_law_ 978 = .ok (.aload_n 2, 1) := zby_g zbyb_819 (i := 9) rfl rfl
theorem dL_law__979 : decode cL_law_ 979 = .ok (.aload_n 0, 1) := zby_g zbyb_819 (i := 10) rfl rfl
theorem dL_law__980 : decode cL_law_ 980 = .ok (.iload 4, 2) := zby_g zbyb_819 (i := 11) rfl rfl
theorem dL_law__982 : decode cL_law_ 982 = .ok (.iconst 1, 1) := zby_g zbyb_819 (i := 12) rfl rfl
theorem dL_law__983 : decode cL_law_ 983 = .ok (.iadd, 1) := zby_g zbyb_819 (i := 13) rfl rfl
theorem dL_law__984 : decode cL_law_ 984 = .ok (.iaload, 1) := zby_g zbyb_819 (i := 14) rfl rfl
theorem dL_law__985 : decode cL_law_ 985 = .ok (.invokevirtual 206, 3) := zby_g zbyb_819 (i := 15) rfl rfl
noncomputable def zbyl_820 : List (Nat × zbyE) := [(988, zbyo_54 6), (990, zbyo_167 862), (993, zbyo_43), (994, zbyo_42), (995, zbyo_21 4), (997, zbyo_4), (998, zbyo_96), (999, zbyo_46), (1000, zbyo_42), (1001, zbyo_21 4), (1003, zbyo_5), (1004, zbyo_96), (1005, zbyo_46), (1006, zbyo_45), (1007, zbyo_184 207), (1010, zbyo_54 5)]
theorem zbyb_820 : zbys zbyl_820 (cL_law_.data.toList.drop 988) 988 = true := by decide +kernel
theorem dL_law__988 : decode cL_law_ 988 = .ok (.istore 6, 2) := zby_g zbyb_820 (i := 0) rfl rfl
theorem dL_law__990 : decode cL_law_ 990 = .ok (.goto 862, 3) := zby_g zbyb_820 (i := 1) rfl rfl
theorem dL_law__993 : decode cL_law_ 993 = .ok (.aload_n 1, 1) := zby_g zbyb_820 (i := 2) rfl rfl
theorem dL_law__994 : decode cL_law_ 994 = .ok (.aload_n 0, 1) := zby_g zbyb_820 (i := 3) rfl rfl
theorem dL_law__995 : decode cL_law_ 995 = .ok (.iload 4, 2) := zby_g zbyb_820 (i := 4) rfl rfl
theorem dL_law__997 : decode cL_law_ 997 = .ok (.iconst 1, 1) := zby_g zbyb_820 (i := 5) rfl rfl
theorem dL_law__998 : decode cL_law_ 998 = .ok (.iadd, 1) := zby_g zbyb_820 (i := 6) rfl rfl
theorem dL_law__999 : decode cL_law_ 999 = .ok (.iaload, 1) := zby_g zbyb_820 (i := 7) rfl rfl
theorem dL_law__1000 : decode cL_law_ 1000 = .ok (.aload_n 0, 1) := zby_g zbyb_820 (i := 8) rfl rfl
theorem dL_law__1001 : decode cL_law_ 1001 = .ok (.iload 4, 2) := zby_g zbyb_820 (i := 9) rfl rfl
theorem dL_law__1003 : decode cL_law_ 1003 = .ok (.iconst 2, 1) := zby_g zbyb_820 (i := 10) rfl rfl
theorem dL_law__1004 : decode cL_law_ 1004 = .ok (.iadd, 1) := zby_g zbyb_820 (i := 11) rfl rfl
theorem dL_law__1005 : decode cL_law_ 1005 = .ok (.iaload, 1) := zby_g zbyb_820 (i := 12) rfl rfl
theorem dL_law__1006 : decode cL_law_ 1006 = .ok (.aload_n 3, 1) := zby_g zbyb_820 (i := 13) rfl rfl
theorem dL_law__1007 : decode cL_law_ 1007 = .ok (.invokestatic 207, 3) := zby_g zbyb_820 (i := 14) rfl rfl
theorem dL_law__1010 : decode cL_law_ 1010 = .ok (.istore 5, 2) := zby_g zbyb_820 (i := 15) rfl rfl
noncomputable def zbyl_821 : List (Nat × zbyE) := [(1012, zbyo_44), (1013, zbyo_42), (1014, zbyo_21 4), (1016, zbyo_4), (1017, zbyo_96), (1018, zbyo_46), (1019, zbyo_42), (1020, zbyo_21 4), (1022, zbyo_5), (1023, zbyo_96), (1024, zbyo_46), (1025, zbyo_182 209), (1028, zbyo_54 6), (1030, zbyo_167 822), (1033, zbyo_43), (1034, zbyo_42)]
theorem zbyb_821 : zbys zbyl_821 (cL_law_.data.toList.drop 1012) 1012 = true := by decide +kernel
theorem dL_law__1012 : decode cL_law_ 1012 = .ok (.aload_n 2, 1) := zby_g zbyb_821 (i := 0) rfl rfl
theorem dL_law__1013 : decode cL_law_ 1013 = .ok (.aload_n 0, 1) := zby_g zbyb_821 (i := 1) rfl rfl
theorem dL_law__1014 : decode cL_law_ 1014 = .ok (.iload 4, 2) := zby_g zbyb_821 (i := 2) rfl rfl
theorem dL_law__1016 : decode cL_law_ 1016 = .ok (.iconst 1, 1) := zby_g zbyb_821 (i := 3) rfl rfl
theorem dL_law__1017 : decode cL_law_ 1017 = .ok (.iadd, 1) := zby_g zbyb_821 (i := 4) rfl rfl
theorem dL_law__1018 : decode cL_law_ 1018 = .ok (.iaload, 1) := zby_g zbyb_821 (i := 5) rfl rfl
theorem dL_law__1019 : decode cL_law_ 1019 = .ok (.aload_n 0, 1) := zby_g zbyb_821 (i := 6) rfl rfl
theorem dL_law__1020 : decode cL_law_ 1020 = .ok (.iload 4, 2) := zby_g zbyb_821 (i := 7) rfl rfl
theorem dL_law__1022 : decode cL_law_ 1022 = .ok (.iconst 2, 1) := zby_g zbyb_821 (i := 8) rfl rfl
theorem dL_law__1023 : decode cL_law_ 1023 = .ok (.iadd, 1) := zby_g zbyb_821 (i := 9) rfl rfl
theorem dL_law__1024 : decode cL_law_ 1024 = .ok (.iaload, 1) := zby_g zbyb_821 (i := 10) rfl rfl
theorem dL_law__1025 : decode cL_law_ 1025 = .ok (.invokevirtual 209, 3) := zby_g zbyb_821 (i := 11) rfl rfl
theorem dL_law__1028 : decode cL_law_ 1028 = .ok (.istore 6, 2) := zby_g zbyb_821 (i := 12) rfl rfl
theorem dL_law__1030 : decode cL_law_ 1030 = .ok (.goto 822, 3) := zby_g zbyb_821 (i := 13) rfl rfl
theorem dL_law__1033 : decode cL_law_ 1033 = .ok (.aload_n 1, 1) := zby_g zbyb_821 (i := 14) rfl rfl
theorem dL_law__1034 : decode cL_law_ 1034 = .ok (.aload_n 0, 1) := zby_g zbyb_821 (i := 15) rfl rfl
noncomputable def zbyl_822 : List (Nat × zbyE) := [(1035, zbyo_21 4), (1037, zbyo_4), (1038, zbyo_96), (1039, zbyo_46), (1040, zbyo_45), (1041, zbyo_184 210), (1044, zbyo_54 5), (1046, zbyo_44), (1047, zbyo_42), (1048, zbyo_21 4), (1050, zbyo_4), (1051, zbyo_96), (1052, zbyo_46), (1053, zbyo_182 212), (1056, zbyo_54 6), (1058, zbyo_44)]
theorem zbyb_822 : zbys zbyl_822 (cL_law_.data.toList.drop 1035) 1035 = true := by decide +kernel
theorem dL_law__1035 : decode cL_law_ 1035 = .ok (.iload 4, 2) := zby_g zbyb_822 (i := 0) rfl rfl
theorem dL_law__1037 : decode cL_law_ 1037 = .ok (.iconst 1, 1) := zby_g zbyb_822 (i := 1) rfl rfl
theorem dL_law__1038 : decode cL_law_ 1038 = .ok (.iadd, 1) := zby_g zbyb_822 (i := 2) rfl rfl
theorem dL_law__1039 : decode cL_law_ 1039 = .ok (.iaload, 1) := zby_g zbyb_822 (i := 3) rfl rfl
theorem dL_law__1040 : decode cL_law_ 1040 = .ok (.aload_n 3, 1) := zby_g zbyb_822 (i := 4) rfl rfl
theorem dL_law__1041 : decode cL_law_ 1041 = .ok (.invokestatic 210, 3) := zby_g zbyb_822 (i := 5) rfl rfl
theorem dL_law__1044 : decode cL_law_ 1044 = .ok (.istore 5, 2) := zby_g zbyb_822 (i := 6) rfl rfl
theorem dL_law__1046 : decode cL_law_ 1046 = .ok (.aload_n 2, 1) := zby_g zbyb_822 (i := 7) rfl rfl
theorem dL_law__1047 : decode cL_law_ 1047 = .ok (.aload_n 0, 1) := zby_g zbyb_822 (i := 8) rfl rfl
theorem dL_law__1048 : decode cL_law_ 1048 = .ok (.iload 4, 2) := zby_g zbyb_822 (i := 9) rfl rfl
theorem dL_law__1050 : decode cL_law_ 1050 = .ok (.iconst 1, 1) := zby_g zbyb_822 (i := 10) rfl rfl
theorem dL_law__1051 : decode cL_law_ 1051 = .ok (.iadd, 1) := zby_g zbyb_822 (i := 11) rfl rfl
theorem dL_law__1052 : decode cL_law_ 1052 = .ok (.iaload, 1) := zby_g zbyb_822 (i := 12) rfl rfl
theorem dL_law__1053 : decode cL_law_ 1053 = .ok (.invokevirtual 212, 3) := zby_g zbyb_822 (i := 13) rfl rfl
theorem dL_law__1056 : decode cL_law_ 1056 = .ok (.istore 6, 2) := zby_g zbyb_822 (i := 14) rfl rfl
theorem dL_law__1058 : decode cL_law_ 1058 = .ok (.aload_n 2, 1) := zby_g zbyb_822 (i := 15) rfl rfl
noncomputable def zbyl_823 : List (Nat × zbyE) := [(1059, zbyo_182 213), (1062, zbyo_21 5), (1064, zbyo_159 5), (1067, zbyo_3), (1068, zbyo_172), (1069, zbyo_21 5), (1071, zbyo_154 15), (1074, zbyo_45), (1075, zbyo_3), (1076, zbyo_47), (1077, zbyo_21 6), (1079, zbyo_133), (1080, zbyo_148), (1081, zbyo_153 5), (1084, zbyo_3), (1085, zbyo_172)]
theorem zbyb_823 : zbys zbyl_823 (cL_law_.data.toList.drop 1059) 1059 = true := by decide +kernel
theorem dL_law__1059 : decode cL_law_ 1059 = .ok (.invokevirtual 213, 3) := zby_g zbyb_823 (i := 0) rfl rfl
theorem dL_law__1062 : decode cL_law_ 1062 = .ok (.iload 5, 2) := zby_g zbyb_823 (i := 1) rfl rfl
theorem dL_law__1064 : decode cL_law_ 1064 = .ok (.if_icmp .eq 5, 3) := zby_g zbyb_823 (i := 2) rfl rfl
theorem dL_law__1067 : decode cL_law_ 1067 = .ok (.iconst 0, 1) := zby_g zbyb_823 (i := 3) rfl rfl
theorem dL_law__1068 : decode cL_law_ 1068 = .ok (.ireturn, 1) := zby_g zbyb_823 (i := 4) rfl rfl
theorem dL_law__1069 : decode cL_law_ 1069 = .ok (.iload 5, 2) := zby_g zbyb_823 (i := 5) rfl rfl
theorem dL_law__1071 : decode cL_law_ 1071 = .ok (.ifCond .ne 15, 3) := zby_g zbyb_823 (i := 6) rfl rfl
theorem dL_law__1074 : decode cL_law_ 1074 = .ok (.aload_n 3, 1) := zby_g zbyb_823 (i := 7) rfl rfl
theorem dL_law__1075 : decode cL_law_ 1075 = .ok (.iconst 0, 1) := zby_g zbyb_823 (i := 8) rfl rfl
theorem dL_law__1076 : decode cL_law_ 1076 = .ok (.laload, 1) := zby_g zbyb_823 (i := 9) rfl rfl
theorem dL_law__1077 : decode cL_law_ 1077 = .ok (.iload 6, 2) := zby_g zbyb_823 (i := 10) rfl rfl
theorem dL_law__1079 : decode cL_law_ 1079 = .ok (.i2l, 1) := zby_g zbyb_823 (i := 11) rfl rfl
theorem dL_law__1080 : decode cL_law_ 1080 = .ok (.lcmp, 1) := zby_g zbyb_823 (i := 12) rfl rfl
theorem dL_law__1081 : decode cL_law_ 1081 = .ok (.ifCond .eq 5, 3) := zby_g zbyb_823 (i := 13) rfl rfl
theorem dL_law__1084 : decode cL_law_ 1084 = .ok (.iconst 0, 1) := zby_g zbyb_823 (i := 14) rfl rfl
theorem dL_law__1085 : decode cL_law_ 1085 = .ok (.ireturn, 1) := zby_g zbyb_823 (i := 15) rfl rfl
noncomputable def zbyl_824 : List (Nat × zbyE) := [(1086, zbyo_167 766), (1089, zbyo_43), (1090, zbyo_182 216), (1093, zbyo_87), (1094, zbyo_44), (1095, zbyo_182 219), (1098, zbyo_87), (1099, zbyo_167 753), (1102, zbyo_43), (1103, zbyo_182 220), (1106, zbyo_87), (1107, zbyo_44), (1108, zbyo_182 223), (1111, zbyo_87), (1112, zbyo_167 740), (1115, zbyo_43)]
theorem zbyb_824 : zbys zbyl_824 (cL_law_.data.toList.drop 1086) 1086 = true := by decide +kernel
theorem dL_law__1086 : decode cL_law_ 1086 = .ok (.goto 766, 3) := zby_g zbyb_824 (i := 0) rfl rfl
theorem dL_law__1089 : decode cL_law_ 1089 = .ok (.aload_n 1, 1) := zby_g zbyb_824 (i := 1) rfl rfl
theorem dL_law__1090 : decode cL_law_ 1090 = .ok (.invokevirtual 216, 3) := zby_g zbyb_824 (i := 2) rfl rfl
theorem dL_law__1093 : decode cL_law_ 1093 = .ok (.pop, 1) := zby_g zbyb_824 (i := 3) rfl rfl
theorem dL_law__1094 : decode cL_law_ 1094 = .ok (.aload_n 2, 1) := zby_g zbyb_824 (i := 4) rfl rfl
theorem dL_law__1095 : decode cL_law_ 1095 = .ok (.invokevirtual 219, 3) := zby_g zbyb_824 (i := 5) rfl rfl
theorem dL_law__1098 : decode cL_law_ 1098 = .ok (.pop, 1) := zby_g zbyb_824 (i := 6) rfl rfl
theorem dL_law__1099 : decode cL_law_ 1099 = .ok (.goto 753, 3) := zby_g zbyb_824 (i := 7) rfl rfl
theorem dL_law__1102 : decode cL_law_ 1102 = .ok (.aload_n 1, 1) := zby_g zbyb_824 (i := 8) rfl rfl
theorem dL_law__1103 : decode cL_law_ 1103 = .ok (.invokevirtual 220, 3) := zby_g zbyb_824 (i := 9) rfl rfl
theorem dL_law__1106 : decode cL_law_ 1106 = .ok (.pop, 1) := zby_g zbyb_824 (i := 10) rfl rfl
theorem dL_law__1107 : decode cL_law_ 1107 = .ok (.aload_n 2, 1) := zby_g zbyb_824 (i := 11) rfl rfl
theorem dL_law__1108 : decode cL_law_ 1108 = .ok (.invokevirtual 223, 3) := zby_g zbyb_824 (i := 12) rfl rfl
theorem dL_law__1111 : decode cL_law_ 1111 = .ok (.pop, 1) := zby_g zbyb_824 (i := 13) rfl rfl
theorem dL_law__1112 : decode cL_law_ 1112 = .ok (.goto 740, 3) := zby_g zbyb_824 (i := 14) rfl rfl
theorem dL_law__1115 : decode cL_law_ 1115 = .ok (.aload_n 1, 1) := zby_g zbyb_824 (i := 15) rfl rfl
noncomputable def zbyl_825 : List (Nat × zbyE) := [(1116, zbyo_42), (1117, zbyo_21 4), (1119, zbyo_4), (1120, zbyo_96), (1121, zbyo_46), (1122, zbyo_42), (1123, zbyo_21 4), (1125, zbyo_5), (1126, zbyo_96), (1127, zbyo_46), (1128, zbyo_153 7), (1131, zbyo_4), (1132, zbyo_167 4), (1135, zbyo_3), (1136, zbyo_45), (1137, zbyo_184 224)]
theorem zbyb_825 : zbys zbyl_825 (cL_law_.data.toList.drop 1116) 1116 = true := by decide +kernel
theorem dL_law__1116 : decode cL_law_ 1116 = .ok (.aload_n 0, 1) := zby_g zbyb_825 (i := 0) rfl rfl
theorem dL_law__1117 : decode cL_law_ 1117 = .ok (.iload 4, 2) := zby_g zbyb_825 (i := 1) rfl rfl
theorem dL_law__1119 : decode cL_law_ 1119 = .ok (.iconst 1, 1) := zby_g zbyb_825 (i := 2) rfl rfl
theorem dL_law__1120 : decode cL_law_ 1120 = .ok (.iadd, 1) := zby_g zbyb_825 (i := 3) rfl rfl
theorem dL_law__1121 : decode cL_law_ 1121 = .ok (.iaload, 1) := zby_g zbyb_825 (i := 4) rfl rfl
theorem dL_law__1122 : decode cL_law_ 1122 = .ok (.aload_n 0, 1) := zby_g zbyb_825 (i := 5) rfl rfl
theorem dL_law__1123 : decode cL_law_ 1123 = .ok (.iload 4, 2) := zby_g zbyb_825 (i := 6) rfl rfl
theorem dL_law__1125 : decode cL_law_ 1125 = .ok (.iconst 2, 1) := zby_g zbyb_825 (i := 7) rfl rfl
theorem dL_law__1126 : decode cL_law_ 1126 = .ok (.iadd, 1) := zby_g zbyb_825 (i := 8) rfl rfl
theorem dL_law__1127 : decode cL_law_ 1127 = .ok (.iaload, 1) := zby_g zbyb_825 (i := 9) rfl rfl
theorem dL_law__1128 : decode cL_law_ 1128 = .ok (.ifCond .eq 7, 3) := zby_g zbyb_825 (i := 10) rfl rfl
theorem dL_law__1131 : decode cL_law_ 1131 = .ok (.iconst 1, 1) := zby_g zbyb_825 (i := 11) rfl rfl
theorem dL_law__1132 : decode cL_law_ 1132 = .ok (.goto 4, 3) := zby_g zbyb_825 (i := 12) rfl rfl
theorem dL_law__1135 : decode cL_law_ 1135 = .ok (.iconst 0, 1) := zby_g zbyb_825 (i := 13) rfl rfl
theorem dL_law__1136 : decode cL_law_ 1136 = .ok (.aload_n 3, 1) := zby_g zbyb_825 (i := 14) rfl rfl
theorem dL_law__1137 : decode cL_law_ 1137 = .ok (.invokestatic 224, 3) := zby_g zbyb_825 (i := 15) rfl rfl
noncomputable def zbyl_826 : List (Nat × zbyE) := [(1140, zbyo_54 5), (1142, zbyo_44), (1143, zbyo_42), (1144, zbyo_21 4), (1146, zbyo_4), (1147, zbyo_96), (1148, zbyo_46), (1149, zbyo_42), (1150, zbyo_21 4), (1152, zbyo_5), (1153, zbyo_96), (1154, zbyo_46), (1155, zbyo_153 7), (1158, zbyo_4), (1159, zbyo_167 4), (1162, zbyo_3)]
theorem zbyb_826 : zbys zbyl_826 (cL_law_.data.toList.drop 1140) 1140 = true := by decide +kernel
theorem dL_law__1140 : decode cL_law_ 1140 = .ok (.istore 5, 2) := zby_g zbyb_826 (i := 0) rfl rfl
theorem dL_law__1142 : decode cL_law_ 1142 = .ok (.aload_n 2, 1) := zby_g zbyb_826 (i := 1) rfl rfl
theorem dL_law__1143 : decode cL_law_ 1143 = .ok (.aload_n 0, 1) := zby_g zbyb_826 (i := 2) rfl rfl
theorem dL_law__1144 : decode cL_law_ 1144 = .ok (.iload 4, 2) := zby_g zbyb_826 (i := 3) rfl rfl
theorem dL_law__1146 : decode cL_law_ 1146 = .ok (.iconst 1, 1) := zby_g zbyb_826 (i := 4) rfl rfl
theorem dL_law__1147 : decode cL_law_ 1147 = .ok (.iadd, 1) := zby_g zbyb_826 (i := 5) rfl rfl
theorem dL_law__1148 : decode cL_law_ 1148 = .ok (.iaload, 1) := zby_g zbyb_826 (i := 6) rfl rfl
theorem dL_law__1149 : decode cL_law_ 1149 = .ok (.aload_n 0, 1) := zby_g zbyb_826 (i := 7) rfl rfl
theorem dL_law__1150 : decode cL_law_ 1150 = .ok (.iload 4, 2) := zby_g zbyb_826 (i := 8) rfl rfl
theorem dL_law__1152 : decode cL_law_ 1152 = .ok (.iconst 2, 1) := zby_g zbyb_826 (i := 9) rfl rfl
theorem dL_law__1153 : decode cL_law_ 1153 = .ok (.iadd, 1) := zby_g zbyb_826 (i := 10) rfl rfl
theorem dL_law__1154 : decode cL_law_ 1154 = .ok (.iaload, 1) := zby_g zbyb_826 (i := 11) rfl rfl
theorem dL_law__1155 : decode cL_law_ 1155 = .ok (.ifCond .eq 7, 3) := zby_g zbyb_826 (i := 12) rfl rfl
theorem dL_law__1158 : decode cL_law_ 1158 = .ok (.iconst 1, 1) := zby_g zbyb_826 (i := 13) rfl rfl
theorem dL_law__1159 : decode cL_law_ 1159 = .ok (.goto 4, 3) := zby_g zbyb_826 (i := 14) rfl rfl
theorem dL_law__1162 : decode cL_law_ 1162 = .ok (.iconst 0, 1) := zby_g zbyb_826 (i := 15) rfl rfl
noncomputable def zbyl_827 : List (Nat × zbyE) := [(1163, zbyo_182 226), (1166, zbyo_54 6), (1168, zbyo_167 684), (1171, zbyo_43), (1172, zbyo_42), (1173, zbyo_21 4), (1175, zbyo_4), (1176, zbyo_96), (1177, zbyo_46), (1178, zbyo_45), (1179, zbyo_184 227), (1182, zbyo_54 5), (1184, zbyo_44), (1185, zbyo_42), (1186, zbyo_21 4), (1188, zbyo_4)]
theorem zbyb_827 : zbys zbyl_827 (cL_law_.data.toList.drop 1163) 1163 = true := by decide +kernel
theorem dL_law__1163 : decode cL_law_ 1163 = .ok (.invokevirtual 226, 3) := zby_g zbyb_827 (i := 0) rfl rfl
theorem dL_law__1166 : decode cL_law_ 1166 = .ok (.istore 6, 2) := zby_g zbyb_827 (i := 1) rfl rfl
theorem dL_law__1168 : decode cL_law_ 1168 = .ok (.goto 684, 3) := zby_g zbyb_827 (i := 2) rfl rfl
theorem dL_law__1171 : decode cL_law_ 1171 = .ok (.aload_n 1, 1) := zby_g zbyb_827 (i := 3) rfl rfl
theorem dL_law__1172 : decode cL_law_ 1172 = .ok (.aload_n 0, 1) := zby_g zbyb_827 (i := 4) rfl rfl
theorem dL_law__1173 : decode cL_law_ 1173 = .ok (.iload 4, 2) := zby_g zbyb_827 (i := 5) rfl rfl
theorem dL_law__1175 : decode cL_law_ 1175 = .ok (.iconst 1, 1) := zby_g zbyb_827 (i := 6) rfl rfl
theorem dL_law__1176 : decode cL_law_ 1176 = .ok (.iadd, 1) := zby_g zbyb_827 (i := 7) rfl rfl
theorem dL_law__1177 : decode cL_law_ 1177 = .ok (.iaload, 1) := zby_g zbyb_827 (i := 8) rfl rfl
theorem dL_law__1178 : decode cL_law_ 1178 = .ok (.aload_n 3, 1) := zby_g zbyb_827 (i := 9) rfl rfl
theorem dL_law__1179 : decode cL_law_ 1179 = .ok (.invokestatic 227, 3) := zby_g zbyb_827 (i := 10) rfl rfl
theorem dL_law__1182 : decode cL_law_ 1182 = .ok (.istore 5, 2) := zby_g zbyb_827 (i := 11) rfl rfl
theorem dL_law__1184 : decode cL_law_ 1184 = .ok (.aload_n 2, 1) := zby_g zbyb_827 (i := 12) rfl rfl
theorem dL_law__1185 : decode cL_law_ 1185 = .ok (.aload_n 0, 1) := zby_g zbyb_827 (i := 13) rfl rfl
theorem dL_law__1186 : decode cL_law_ 1186 = .ok (.iload 4, 2) := zby_g zbyb_827 (i := 14) rfl rfl
theorem dL_law__1188 : decode cL_law_ 1188 = .ok (.iconst 1, 1) := zby_g zbyb_827 (i := 15) rfl rfl
noncomputable def zbyl_828 : List (Nat × zbyE) := [(1189, zbyo_96), (1190, zbyo_46), (1191, zbyo_182 229), (1194, zbyo_54 6), (1196, zbyo_167 656), (1199, zbyo_43), (1200, zbyo_42), (1201, zbyo_21 4), (1203, zbyo_4), (1204, zbyo_96), (1205, zbyo_46), (1206, zbyo_153 7), (1209, zbyo_4), (1210, zbyo_167 4), (1213, zbyo_3), (1214, zbyo_182 230)]
theorem zbyb_828 : zbys zbyl_828 (cL_law_.data.toList.drop 1189) 1189 = true := by decide +kernel
theorem dL_law__1189 : decode cL_law_ 1189 = .ok (.iadd, 1) := zby_g zbyb_828 (i := 0) rfl rfl
theorem dL_law__1190 : decode cL_law_ 1190 = .ok (.iaload, 1) := zby_g zbyb_828 (i := 1) rfl rfl
theorem dL_law__1191 : decode cL_law_ 1191 = .ok (.invokevirtual 229, 3) := zby_g zbyb_828 (i := 2) rfl rfl
theorem dL_law__1194 : decode cL_law_ 1194 = .ok (.istore 6, 2) := zby_g zbyb_828 (i := 3) rfl rfl
theorem dL_law__1196 : decode cL_law_ 1196 = .ok (.goto 656, 3) := zby_g zbyb_828 (i := 4) rfl rfl
theorem dL_law__1199 : decode cL_law_ 1199 = .ok (.aload_n 1, 1) := zby_g zbyb_828 (i := 5) rfl rfl
theorem dL_law__1200 : decode cL_law_ 1200 = .ok (.aload_n 0, 1) := zby_g zbyb_828 (i := 6) rfl rfl
theorem dL_law__1201 : decode cL_law_ 1201 = .ok (.iload 4, 2) := zby_g zbyb_828 (i := 7) rfl rfl
theorem dL_law__1203 : decode cL_law_ 1203 = .ok (.iconst 1, 1) := zby_g zbyb_828 (i := 8) rfl rfl
theorem dL_law__1204 : decode cL_law_ 1204 = .ok (.iadd, 1) := zby_g zbyb_828 (i := 9) rfl rfl
theorem dL_law__1205 : decode cL_law_ 1205 = .ok (.iaload, 1) := zby_g zbyb_828 (i := 10) rfl rfl
theorem dL_law__1206 : decode cL_law_ 1206 = .ok (.ifCond .eq 7, 3) := zby_g zbyb_828 (i := 11) rfl rfl
theorem dL_law__1209 : decode cL_law_ 1209 = .ok (.iconst 1, 1) := zby_g zbyb_828 (i := 12) rfl rfl
theorem dL_law__1210 : decode cL_law_ 1210 = .ok (.goto 4, 3) := zby_g zbyb_828 (i := 13) rfl rfl
theorem dL_law__1213 : decode cL_law_ 1213 = .ok (.iconst 0, 1) := zby_g zbyb_828 (i := 14) rfl rfl
theorem dL_law__1214 : decode cL_law_ 1214 = .ok (.invokevirtual 230, 3) := zby_g zbyb_828 (i := 15) rfl rfl
noncomputable def zbyl_829 : List (Nat × zbyE) := [(1217, zbyo_87), (1218, zbyo_44), (1219, zbyo_42), (1220, zbyo_21 4), (1222, zbyo_4), (1223, zbyo_96), (1224, zbyo_46), (1225, zbyo_153 7), (1228, zbyo_4), (1229, zbyo_167 4), (1232, zbyo_3), (1233, zbyo_182 233), (1236, zbyo_87), (1237, zbyo_167 615), (1240, zbyo_43), (1241, zbyo_42)]
theorem zbyb_829 : zbys zbyl_829 (cL_law_.data.toList.drop 1217) 1217 = true := by decide +kernel
theorem dL_law__1217 : decode cL_law_ 1217 = .ok (.pop, 1) := zby_g zbyb_829 (i := 0) rfl rfl
theorem dL_law__1218 : decode cL_law_ 1218 = .ok (.aload_n 2, 1) := zby_g zbyb_829 (i := 1) rfl rfl
theorem dL_law__1219 : decode cL_law_ 1219 = .ok (.aload_n 0, 1) := zby_g zbyb_829 (i := 2) rfl rfl
theorem dL_law__1220 : decode cL_law_ 1220 = .ok (.iload 4, 2) := zby_g zbyb_829 (i := 3) rfl rfl
theorem dL_law__1222 : decode cL_law_ 1222 = .ok (.iconst 1, 1) := zby_g zbyb_829 (i := 4) rfl rfl
theorem dL_law__1223 : decode cL_law_ 1223 = .ok (.iadd, 1) := zby_g zbyb_829 (i := 5) rfl rfl
theorem dL_law__1224 : decode cL_law_ 1224 = .ok (.iaload, 1) := zby_g zbyb_829 (i := 6) rfl rfl
theorem dL_law__1225 : decode cL_law_ 1225 = .ok (.ifCond .eq 7, 3) := zby_g zbyb_829 (i := 7) rfl rfl
theorem dL_law__1228 : decode cL_law_ 1228 = .ok (.iconst 1, 1) := zby_g zbyb_829 (i := 8) rfl rfl
theorem dL_law__1229 : decode cL_law_ 1229 = .ok (.goto 4, 3) := zby_g zbyb_829 (i := 9) rfl rfl
theorem dL_law__1232 : decode cL_law_ 1232 = .ok (.iconst 0, 1) := zby_g zbyb_829 (i := 10) rfl rfl
theorem dL_law__1233 : decode cL_law_ 1233 = .ok (.invokevirtual 233, 3) := zby_g zbyb_829 (i := 11) rfl rfl
theorem dL_law__1236 : decode cL_law_ 1236 = .ok (.pop, 1) := zby_g zbyb_829 (i := 12) rfl rfl
theorem dL_law__1237 : decode cL_law_ 1237 = .ok (.goto 615, 3) := zby_g zbyb_829 (i := 13) rfl rfl
theorem dL_law__1240 : decode cL_law_ 1240 = .ok (.aload_n 1, 1) := zby_g zbyb_829 (i := 14) rfl rfl
theorem dL_law__1241 : decode cL_law_ 1241 = .ok (.aload_n 0, 1) := zby_g zbyb_829 (i := 15) rfl rfl
noncomputable def zbyl_830 : List (Nat × zbyE) := [(1242, zbyo_21 4), (1244, zbyo_4), (1245, zbyo_96), (1246, zbyo_46), (1247, zbyo_45), (1248, zbyo_184 234), (1251, zbyo_54 5), (1253, zbyo_44), (1254, zbyo_42), (1255, zbyo_21 4), (1257, zbyo_4), (1258, zbyo_96), (1259, zbyo_46), (1260, zbyo_182 236), (1263, zbyo_54 6), (1265, zbyo_167 587)]
theorem zbyb_830 : zbys zbyl_830 (cL_law_.data.toList.drop 1242) 1242 = true := by decide +kernel
theorem dL_law__1242 : decode cL_law_ 1242 = .ok (.iload 4, 2) := zby_g zbyb_830 (i := 0) rfl rfl
theorem dL_law__1244 : decode cL_law_ 1244 = .ok (.iconst 1, 1) := zby_g zbyb_830 (i := 1) rfl rfl
theorem dL_law__1245 : decode cL_law_ 1245 = .ok (.iadd, 1) := zby_g zbyb_830 (i := 2) rfl rfl
theorem dL_law__1246 : decode cL_law_ 1246 = .ok (.iaload, 1) := zby_g zbyb_830 (i := 3) rfl rfl
theorem dL_law__1247 : decode cL_law_ 1247 = .ok (.aload_n 3, 1) := zby_g zbyb_830 (i := 4) rfl rfl
theorem dL_law__1248 : decode cL_law_ 1248 = .ok (.invokestatic 234, 3) := zby_g zbyb_830 (i := 5) rfl rfl
theorem dL_law__1251 : decode cL_law_ 1251 = .ok (.istore 5, 2) := zby_g zbyb_830 (i := 6) rfl rfl
theorem dL_law__1253 : decode cL_law_ 1253 = .ok (.aload_n 2, 1) := zby_g zbyb_830 (i := 7) rfl rfl
theorem dL_law__1254 : decode cL_law_ 1254 = .ok (.aload_n 0, 1) := zby_g zbyb_830 (i := 8) rfl rfl
theorem dL_law__1255 : decode cL_law_ 1255 = .ok (.iload 4, 2) := zby_g zbyb_830 (i := 9) rfl rfl
theorem dL_law__1257 : decode cL_law_ 1257 = .ok (.iconst 1, 1) := zby_g zbyb_830 (i := 10) rfl rfl
theorem dL_law__1258 : decode cL_law_ 1258 = .ok (.iadd, 1) := zby_g zbyb_830 (i := 11) rfl rfl
theorem dL_law__1259 : decode cL_law_ 1259 = .ok (.iaload, 1) := zby_g zbyb_830 (i := 12) rfl rfl
theorem dL_law__1260 : decode cL_law_ 1260 = .ok (.invokevirtual 236, 3) := zby_g zbyb_830 (i := 13) rfl rfl
theorem dL_law__1263 : decode cL_law_ 1263 = .ok (.istore 6, 2) := zby_g zbyb_830 (i := 14) rfl rfl
theorem dL_law__1265 : decode cL_law_ 1265 = .ok (.goto 587, 3) := zby_g zbyb_830 (i := 15) rfl rfl
noncomputable def zbyl_831 : List (Nat × zbyE) := [(1268, zbyo_43), (1269, zbyo_42), (1270, zbyo_21 4), (1272, zbyo_4), (1273, zbyo_96), (1274, zbyo_46), (1275, zbyo_45), (1276, zbyo_184 237), (1279, zbyo_54 5), (1281, zbyo_44), (1282, zbyo_42), (1283, zbyo_21 4), (1285, zbyo_4), (1286, zbyo_96), (1287, zbyo_46), (1288, zbyo_182 239)]
theorem zbyb_831 : zbys zbyl_831 (cL_law_.data.toList.drop 1268) 1268 = true := by decide +kernel
theorem dL_law__1268 : decode cL_law_ 1268 = .ok (.aload_n 1, 1) := zby_g zbyb_831 (i := 0) rfl rfl
theorem dL_law__1269 : decode cL_law_ 1269 = .ok (.aload_n 0, 1) := zby_g zbyb_831 (i := 1) rfl rfl
theorem dL_law__1270 : decode cL_law_ 1270 = .ok (.iload 4, 2) := zby_g zbyb_831 (i := 2) rfl rfl
theorem dL_law__1272 : decode cL_law_ 1272 = .ok (.iconst 1, 1) := zby_g zbyb_831 (i := 3) rfl rfl
theorem dL_law__1273 : decode cL_law_ 1273 = .ok (.iadd, 1) := zby_g zbyb_831 (i := 4) rfl rfl
theorem dL_law__1274 : decode cL_law_ 1274 = .ok (.iaload, 1) := zby_g zbyb_831 (i := 5) rfl rfl
theorem dL_law__1275 : decode cL_law_ 1275 = .ok (.aload_n 3, 1) := zby_g zbyb_831 (i := 6) rfl rfl
theorem dL_law__1276 : decode cL_law_ 1276 = .ok (.invokestatic 237, 3) := zby_g zbyb_831 (i := 7) rfl rfl
theorem dL_law__1279 : decode cL_law_ 1279 = .ok (.istore 5, 2) := zby_g zbyb_831 (i := 8) rfl rfl
theorem dL_law__1281 : decode cL_law_ 1281 = .ok (.aload_n 2, 1) := zby_g zbyb_831 (i := 9) rfl rfl
theorem dL_law__1282 : decode cL_law_ 1282 = .ok (.aload_n 0, 1) := zby_g zbyb_831 (i := 10) rfl rfl
theorem dL_law__1283 : decode cL_law_ 1283 = .ok (.iload 4, 2) := zby_g zbyb_831 (i := 11) rfl rfl
theorem dL_law__1285 : decode cL_law_ 1285 = .ok (.iconst 1, 1) := zby_g zbyb_831 (i := 12) rfl rfl
theorem dL_law__1286 : decode cL_law_ 1286 = .ok (.iadd, 1) := zby_g zbyb_831 (i := 13) rfl rfl
theorem dL_law__1287 : decode cL_law_ 1287 = .ok (.iaload, 1) := zby_g zbyb_831 (i := 14) rfl rfl
theorem dL_law__1288 : decode cL_law_ 1288 = .ok (.invokevirtual 239, 3) := zby_g zbyb_831 (i := 15) rfl rfl
noncomputable def zbyl_832 : List (Nat × zbyE) := [(1291, zbyo_54 6), (1293, zbyo_167 559), (1296, zbyo_43), (1297, zbyo_42), (1298, zbyo_21 4), (1300, zbyo_4), (1301, zbyo_96), (1302, zbyo_46), (1303, zbyo_153 7), (1306, zbyo_4), (1307, zbyo_167 4), (1310, zbyo_3), (1311, zbyo_45), (1312, zbyo_184 240), (1315, zbyo_54 5), (1317, zbyo_44)]
theorem zbyb_832 : zbys zbyl_832 (cL_law_.data.toList.drop 1291) 1291 = true := by decide +kernel
theorem dL_law__1291 : decode cL_law_ 1291 = .ok (.istore 6, 2) := zby_g zbyb_832 (i := 0) rfl rfl
theorem dL_law__1293 : decode cL_law_ 1293 = .ok (.goto 559, 3) := zby_g zbyb_832 (i := 1) rfl rfl
theorem dL_law__1296 : decode cL_law_ 1296 = .ok (.aload_n 1, 1) := zby_g zbyb_832 (i := 2) rfl rfl
theorem dL_law__1297 : decode cL_law_ 1297 = .ok (.aload_n 0, 1) := zby_g zbyb_832 (i := 3) rfl rfl
theorem dL_law__1298 : decode cL_law_ 1298 = .ok (.iload 4, 2) := zby_g zbyb_832 (i := 4) rfl rfl
theorem dL_law__1300 : decode cL_law_ 1300 = .ok (.iconst 1, 1) := zby_g zbyb_832 (i := 5) rfl rfl
theorem dL_law__1301 : decode cL_law_ 1301 = .ok (.iadd, 1) := zby_g zbyb_832 (i := 6) rfl rfl
theorem dL_law__1302 : decode cL_law_ 1302 = .ok (.iaload, 1) := zby_g zbyb_832 (i := 7) rfl rfl
theorem dL_law__1303 : decode cL_law_ 1303 = .ok (.ifCond .eq 7, 3) := zby_g zbyb_832 (i := 8) rfl rfl
theorem dL_law__1306 : decode cL_law_ 1306 = .ok (.iconst 1, 1) := zby_g zbyb_832 (i := 9) rfl rfl
theorem dL_law__1307 : decode cL_law_ 1307 = .ok (.goto 4, 3) := zby_g zbyb_832 (i := 10) rfl rfl
theorem dL_law__1310 : decode cL_law_ 1310 = .ok (.iconst 0, 1) := zby_g zbyb_832 (i := 11) rfl rfl
theorem dL_law__1311 : decode cL_law_ 1311 = .ok (.aload_n 3, 1) := zby_g zbyb_832 (i := 12) rfl rfl
theorem dL_law__1312 : decode cL_law_ 1312 = .ok (.invokestatic 240, 3) := zby_g zbyb_832 (i := 13) rfl rfl
theorem dL_law__1315 : decode cL_law_ 1315 = .ok (.istore 5, 2) := zby_g zbyb_832 (i := 14) rfl rfl
theorem dL_law__1317 : decode cL_law_ 1317 = .ok (.aload_n 2, 1) := zby_g zbyb_832 (i := 15) rfl rfl
noncomputable def zbyl_833 : List (Nat × zbyE) := [(1318, zbyo_42), (1319, zbyo_21 4), (1321, zbyo_4), (1322, zbyo_96), (1323, zbyo_46), (1324, zbyo_153 7), (1327, zbyo_4), (1328, zbyo_167 4), (1331, zbyo_3), (1332, zbyo_182 243), (1335, zbyo_54 6), (1337, zbyo_167 515), (1340, zbyo_43), (1341, zbyo_45), (1342, zbyo_184 244), (1345, zbyo_54 5)]
theorem zbyb_833 : zbys zbyl_833 (cL_law_.data.toList.drop 1318) 1318 = true := by decide +kernel
theorem dL_law__1318 : decode cL_law_ 1318 = .ok (.aload_n 0, 1) := zby_g zbyb_833 (i := 0) rfl rfl
theorem dL_law__1319 : decode cL_law_ 1319 = .ok (.iload 4, 2) := zby_g zbyb_833 (i := 1) rfl rfl
theorem dL_law__1321 : decode cL_law_ 1321 = .ok (.iconst 1, 1) := zby_g zbyb_833 (i := 2) rfl rfl
theorem dL_law__1322 : decode cL_law_ 1322 = .ok (.iadd, 1) := zby_g zbyb_833 (i := 3) rfl rfl
theorem dL_law__1323 : decode cL_law_ 1323 = .ok (.iaload, 1) := zby_g zbyb_833 (i := 4) rfl rfl
theorem dL_law__1324 : decode cL_law_ 1324 = .ok (.ifCond .eq 7, 3) := zby_g zbyb_833 (i := 5) rfl rfl
theorem dL_law__1327 : decode cL_law_ 1327 = .ok (.iconst 1, 1) := zby_g zbyb_833 (i := 6) rfl rfl
theorem dL_law__1328 : decode cL_law_ 1328 = .ok (.goto 4, 3) := zby_g zbyb_833 (i := 7) rfl rfl
theorem dL_law__1331 : decode cL_law_ 1331 = .ok (.iconst 0, 1) := zby_g zbyb_833 (i := 8) rfl rfl
theorem dL_law__1332 : decode cL_law_ 1332 = .ok (.invokevirtual 243, 3) := zby_g zbyb_833 (i := 9) rfl rfl
theorem dL_law__1335 : decode cL_law_ 1335 = .ok (.istore 6, 2) := zby_g zbyb_833 (i := 10) rfl rfl
theorem dL_law__1337 : decode cL_law_ 1337 = .ok (.goto 515, 3) := zby_g zbyb_833 (i := 11) rfl rfl
theorem dL_law__1340 : decode cL_law_ 1340 = .ok (.aload_n 1, 1) := zby_g zbyb_833 (i := 12) rfl rfl
theorem dL_law__1341 : decode cL_law_ 1341 = .ok (.aload_n 3, 1) := zby_g zbyb_833 (i := 13) rfl rfl
theorem dL_law__1342 : decode cL_law_ 1342 = .ok (.invokestatic 244, 3) := zby_g zbyb_833 (i := 14) rfl rfl
theorem dL_law__1345 : decode cL_law_ 1345 = .ok (.istore 5, 2) := zby_g zbyb_833 (i := 15) rfl rfl
noncomputable def zbyl_834 : List (Nat × zbyE) := [(1347, zbyo_44), (1348, zbyo_182 246), (1351, zbyo_54 6), (1353, zbyo_167 499), (1356, zbyo_43), (1357, zbyo_42), (1358, zbyo_21 4), (1360, zbyo_4), (1361, zbyo_96), (1362, zbyo_46), (1363, zbyo_45), (1364, zbyo_184 247), (1367, zbyo_54 5), (1369, zbyo_44), (1370, zbyo_42), (1371, zbyo_21 4)]
theorem zbyb_834 : zbys zbyl_834 (cL_law_.data.toList.drop 1347) 1347 = true := by decide +kernel
theorem dL_law__1347 : decode cL_law_ 1347 = .ok (.aload_n 2, 1) := zby_g zbyb_834 (i := 0) rfl rfl
theorem dL_law__1348 : decode cL_law_ 1348 = .ok (.invokevirtual 246, 3) := zby_g zbyb_834 (i := 1) rfl rfl
theorem dL_law__1351 : decode cL_law_ 1351 = .ok (.istore 6, 2) := zby_g zbyb_834 (i := 2) rfl rfl
theorem dL_law__1353 : decode cL_law_ 1353 = .ok (.goto 499, 3) := zby_g zbyb_834 (i := 3) rfl rfl
theorem dL_law__1356 : decode cL_law_ 1356 = .ok (.aload_n 1, 1) := zby_g zbyb_834 (i := 4) rfl rfl
theorem dL_law__1357 : decode cL_law_ 1357 = .ok (.aload_n 0, 1) := zby_g zbyb_834 (i := 5) rfl rfl
theorem dL_law__1358 : decode cL_law_ 1358 = .ok (.iload 4, 2) := zby_g zbyb_834 (i := 6) rfl rfl
theorem dL_law__1360 : decode cL_law_ 1360 = .ok (.iconst 1, 1) := zby_g zbyb_834 (i := 7) rfl rfl
theorem dL_law__1361 : decode cL_law_ 1361 = .ok (.iadd, 1) := zby_g zbyb_834 (i := 8) rfl rfl
theorem dL_law__1362 : decode cL_law_ 1362 = .ok (.iaload, 1) := zby_g zbyb_834 (i := 9) rfl rfl
theorem dL_law__1363 : decode cL_law_ 1363 = .ok (.aload_n 3, 1) := zby_g zbyb_834 (i := 10) rfl rfl
theorem dL_law__1364 : decode cL_law_ 1364 = .ok (.invokestatic 247, 3) := zby_g zbyb_834 (i := 11) rfl rfl
theorem dL_law__1367 : decode cL_law_ 1367 = .ok (.istore 5, 2) := zby_g zbyb_834 (i := 12) rfl rfl
theorem dL_law__1369 : decode cL_law_ 1369 = .ok (.aload_n 2, 1) := zby_g zbyb_834 (i := 13) rfl rfl
theorem dL_law__1370 : decode cL_law_ 1370 = .ok (.aload_n 0, 1) := zby_g zbyb_834 (i := 14) rfl rfl
theorem dL_law__1371 : decode cL_law_ 1371 = .ok (.iload 4, 2) := zby_g zbyb_834 (i := 15) rfl rfl
noncomputable def zbyl_835 : List (Nat × zbyE) := [(1373, zbyo_4), (1374, zbyo_96), (1375, zbyo_46), (1376, zbyo_182 249), (1379, zbyo_54 6), (1381, zbyo_167 471), (1384, zbyo_43), (1385, zbyo_42), (1386, zbyo_21 4), (1388, zbyo_4), (1389, zbyo_96), (1390, zbyo_46), (1391, zbyo_42), (1392, zbyo_21 4), (1394, zbyo_5), (1395, zbyo_96)]
theorem zbyb_835 : zbys zbyl_835 (cL_law_.data.toList.drop 1373) 1373 = true := by decide +kernel
theorem dL_law__1373 : decode cL_law_ 1373 = .ok (.iconst 1, 1) := zby_g zbyb_835 (i := 0) rfl rfl
theorem dL_law__1374 : decode cL_law_ 1374 = .ok (.iadd, 1) := zby_g zbyb_835 (i := 1) rfl rfl
theorem dL_law__1375 : decode cL_law_ 1375 = .ok (.iaload, 1) := zby_g zbyb_835 (i := 2) rfl rfl
theorem dL_law__1376 : decode cL_law_ 1376 = .ok (.invokevirtual 249, 3) := zby_g zbyb_835 (i := 3) rfl rfl
theorem dL_law__1379 : decode cL_law_ 1379 = .ok (.istore 6, 2) := zby_g zbyb_835 (i := 4) rfl rfl
theorem dL_law__1381 : decode cL_law_ 1381 = .ok (.goto 471, 3) := zby_g zbyb_835 (i := 5) rfl rfl
theorem dL_law__1384 : decode cL_law_ 1384 = .ok (.aload_n 1, 1) := zby_g zbyb_835 (i := 6) rfl rfl
theorem dL_law__1385 : decode cL_law_ 1385 = .ok (.aload_n 0, 1) := zby_g zbyb_835 (i := 7) rfl rfl
theorem dL_law__1386 : decode cL_law_ 1386 = .ok (.iload 4, 2) := zby_g zbyb_835 (i := 8) rfl rfl
theorem dL_law__1388 : decode cL_law_ 1388 = .ok (.iconst 1, 1) := zby_g zbyb_835 (i := 9) rfl rfl
theorem dL_law__1389 : decode cL_law_ 1389 = .ok (.iadd, 1) := zby_g zbyb_835 (i := 10) rfl rfl
theorem dL_law__1390 : decode cL_law_ 1390 = .ok (.iaload, 1) := zby_g zbyb_835 (i := 11) rfl rfl
theorem dL_law__1391 : decode cL_law_ 1391 = .ok (.aload_n 0, 1) := zby_g zbyb_835 (i := 12) rfl rfl
theorem dL_law__1392 : decode cL_law_ 1392 = .ok (.iload 4, 2) := zby_g zbyb_835 (i := 13) rfl rfl
theorem dL_law__1394 : decode cL_law_ 1394 = .ok (.iconst 2, 1) := zby_g zbyb_835 (i := 14) rfl rfl
theorem dL_law__1395 : decode cL_law_ 1395 = .ok (.iadd, 1) := zby_g zbyb_835 (i := 15) rfl rfl
noncomputable def zbyl_836 : List (Nat × zbyE) := [(1396, zbyo_46), (1397, zbyo_45), (1398, zbyo_184 250), (1401, zbyo_54 5), (1403, zbyo_44), (1404, zbyo_42), (1405, zbyo_21 4), (1407, zbyo_4), (1408, zbyo_96), (1409, zbyo_46), (1410, zbyo_42), (1411, zbyo_21 4), (1413, zbyo_5), (1414, zbyo_96), (1415, zbyo_46), (1416, zbyo_182 252)]
theorem zbyb_836 : zbys zbyl_836 (cL_law_.data.toList.drop 1396) 1396 = true := by decide +kernel
theorem dL_law__1396 : decode cL_law_ 1396 = .ok (.iaload, 1) := zby_g zbyb_836 (i := 0) rfl rfl
theorem dL_law__1397 : decode cL_law_ 1397 = .ok (.aload_n 3, 1) := zby_g zbyb_836 (i := 1) rfl rfl
theorem dL_law__1398 : decode cL_law_ 1398 = .ok (.invokestatic 250, 3) := zby_g zbyb_836 (i := 2) rfl rfl
theorem dL_law__1401 : decode cL_law_ 1401 = .ok (.istore 5, 2) := zby_g zbyb_836 (i := 3) rfl rfl
theorem dL_law__1403 : decode cL_law_ 1403 = .ok (.aload_n 2, 1) := zby_g zbyb_836 (i := 4) rfl rfl
theorem dL_law__1404 : decode cL_law_ 1404 = .ok (.aload_n 0, 1) := zby_g zbyb_836 (i := 5) rfl rfl
theorem dL_law__1405 : decode cL_law_ 1405 = .ok (.iload 4, 2) := zby_g zbyb_836 (i := 6) rfl rfl
theorem dL_law__1407 : decode cL_law_ 1407 = .ok (.iconst 1, 1) := zby_g zbyb_836 (i := 7) rfl rfl
theorem dL_law__1408 : decode cL_law_ 1408 = .ok (.iadd, 1) := zby_g zbyb_836 (i := 8) rfl rfl
theorem dL_law__1409 : decode cL_law_ 1409 = .ok (.iaload, 1) := zby_g zbyb_836 (i := 9) rfl rfl
theorem dL_law__1410 : decode cL_law_ 1410 = .ok (.aload_n 0, 1) := zby_g zbyb_836 (i := 10) rfl rfl
theorem dL_law__1411 : decode cL_law_ 1411 = .ok (.iload 4, 2) := zby_g zbyb_836 (i := 11) rfl rfl
theorem dL_law__1413 : decode cL_law_ 1413 = .ok (.iconst 2, 1) := zby_g zbyb_836 (i := 12) rfl rfl
theorem dL_law__1414 : decode cL_law_ 1414 = .ok (.iadd, 1) := zby_g zbyb_836 (i := 13) rfl rfl
theorem dL_law__1415 : decode cL_law_ 1415 = .ok (.iaload, 1) := zby_g zbyb_836 (i := 14) rfl rfl
theorem dL_law__1416 : decode cL_law_ 1416 = .ok (.invokevirtual 252, 3) := zby_g zbyb_836 (i := 15) rfl rfl
noncomputable def zbyl_837 : List (Nat × zbyE) := [(1419, zbyo_54 6), (1421, zbyo_167 431), (1424, zbyo_43), (1425, zbyo_182 253), (1428, zbyo_87), (1429, zbyo_44), (1430, zbyo_182 256), (1433, zbyo_87), (1434, zbyo_167 418), (1437, zbyo_43), (1438, zbyo_182 257), (1441, zbyo_87), (1442, zbyo_44), (1443, zbyo_182 260), (1446, zbyo_87), (1447, zbyo_167 405)]
theorem zbyb_837 : zbys zbyl_837 (cL_law_.data.toList.drop 1419) 1419 = true := by decide +kernel
theorem dL_law__1419 : decode cL_law_ 1419 = .ok (.istore 6, 2) := zby_g zbyb_837 (i := 0) rfl rfl
theorem dL_law__1421 : decode cL_law_ 1421 = .ok (.goto 431, 3) := zby_g zbyb_837 (i := 1) rfl rfl
theorem dL_law__1424 : decode cL_law_ 1424 = .ok (.aload_n 1, 1) := zby_g zbyb_837 (i := 2) rfl rfl
theorem dL_law__1425 : decode cL_law_ 1425 = .ok (.invokevirtual 253, 3) := zby_g zbyb_837 (i := 3) rfl rfl
theorem dL_law__1428 : decode cL_law_ 1428 = .ok (.pop, 1) := zby_g zbyb_837 (i := 4) rfl rfl
theorem dL_law__1429 : decode cL_law_ 1429 = .ok (.aload_n 2, 1) := zby_g zbyb_837 (i := 5) rfl rfl
theorem dL_law__1430 : decode cL_law_ 1430 = .ok (.invokevirtual 256, 3) := zby_g zbyb_837 (i := 6) rfl rfl
theorem dL_law__1433 : decode cL_law_ 1433 = .ok (.pop, 1) := zby_g zbyb_837 (i := 7) rfl rfl
theorem dL_law__1434 : decode cL_law_ 1434 = .ok (.goto 418, 3) := zby_g zbyb_837 (i := 8) rfl rfl
theorem dL_law__1437 : decode cL_law_ 1437 = .ok (.aload_n 1, 1) := zby_g zbyb_837 (i := 9) rfl rfl
theorem dL_law__1438 : decode cL_law_ 1438 = .ok (.invokevirtual 257, 3) := zby_g zbyb_837 (i := 10) rfl rfl
theorem dL_law__1441 : decode cL_law_ 1441 = .ok (.pop, 1) := zby_g zbyb_837 (i := 11) rfl rfl
theorem dL_law__1442 : decode cL_law_ 1442 = .ok (.aload_n 2, 1) := zby_g zbyb_837 (i := 12) rfl rfl
theorem dL_law__1443 : decode cL_law_ 1443 = .ok (.invokevirtual 260, 3) := zby_g zbyb_837 (i := 13) rfl rfl
theorem dL_law__1446 : decode cL_law_ 1446 = .ok (.pop, 1) := zby_g zbyb_837 (i := 14) rfl rfl
theorem dL_law__1447 : decode cL_law_ 1447 = .ok (.goto 405, 3) := zby_g zbyb_837 (i := 15) rfl rfl
noncomputable def zbyl_838 : List (Nat × zbyE) := [(1450, zbyo_43), (1451, zbyo_42), (1452, zbyo_21 4), (1454, zbyo_4), (1455, zbyo_96), (1456, zbyo_46), (1457, zbyo_42), (1458, zbyo_21 4), (1460, zbyo_5), (1461, zbyo_96), (1462, zbyo_46), (1463, zbyo_45), (1464, zbyo_184 261), (1467, zbyo_54 5), (1469, zbyo_44), (1470, zbyo_42)]
theorem zbyb_838 : zbys zbyl_838 (cL_law_.data.toList.drop 1450) 1450 = true := by decide +kernel
theorem dL_law__1450 : decode cL_law_ 1450 = .ok (.aload_n 1, 1) := zby_g zbyb_838 (i := 0) rfl rfl
theorem dL_law__1451 : decode cL_law_ 1451 = .ok (.aload_n 0, 1) := zby_g zbyb_838 (i := 1) rfl rfl
theorem dL_law__1452 : decode cL_law_ 1452 = .ok (.iload 4, 2) := zby_g zbyb_838 (i := 2) rfl rfl
theorem dL_law__1454 : decode cL_law_ 1454 = .ok (.iconst 1, 1) := zby_g zbyb_838 (i := 3) rfl rfl
theorem dL_law__1455 : decode cL_law_ 1455 = .ok (.iadd, 1) := zby_g zbyb_838 (i := 4) rfl rfl
theorem dL_law__1456 : decode cL_law_ 1456 = .ok (.iaload, 1) := zby_g zbyb_838 (i := 5) rfl rfl
theorem dL_law__1457 : decode cL_law_ 1457 = .ok (.aload_n 0, 1) := zby_g zbyb_838 (i := 6) rfl rfl
theorem dL_law__1458 : decode cL_law_ 1458 = .ok (.iload 4, 2) := zby_g zbyb_838 (i := 7) rfl rfl
theorem dL_law__1460 : decode cL_law_ 1460 = .ok (.iconst 2, 1) := zby_g zbyb_838 (i := 8) rfl rfl
theorem dL_law__1461 : decode cL_law_ 1461 = .ok (.iadd, 1) := zby_g zbyb_838 (i := 9) rfl rfl
theorem dL_law__1462 : decode cL_law_ 1462 = .ok (.iaload, 1) := zby_g zbyb_838 (i := 10) rfl rfl
theorem dL_law__1463 : decode cL_law_ 1463 = .ok (.aload_n 3, 1) := zby_g zbyb_838 (i := 11) rfl rfl
theorem dL_law__1464 : decode cL_law_ 1464 = .ok (.invokestatic 261, 3) := zby_g zbyb_838 (i := 12) rfl rfl
theorem dL_law__1467 : decode cL_law_ 1467 = .ok (.istore 5, 2) := zby_g zbyb_838 (i := 13) rfl rfl
theorem dL_law__1469 : decode cL_law_ 1469 = .ok (.aload_n 2, 1) := zby_g zbyb_838 (i := 14) rfl rfl
theorem dL_law__1470 : decode cL_law_ 1470 = .ok (.aload_n 0, 1) := zby_g zbyb_838 (i := 15) rfl rfl
noncomputable def zbyl_839 : List (Nat × zbyE) := [(1471, zbyo_21 4), (1473, zbyo_4), (1474, zbyo_96), (1475, zbyo_46), (1476, zbyo_42), (1477, zbyo_21 4), (1479, zbyo_5), (1480, zbyo_96), (1481, zbyo_46), (1482, zbyo_182 263), (1485, zbyo_54 6), (1487, zbyo_167 365), (1490, zbyo_43), (1491, zbyo_182 264), (1494, zbyo_87), (1495, zbyo_44)]
theorem zbyb_839 : zbys zbyl_839 (cL_law_.data.toList.drop 1471) 1471 = true := by decide +kernel
theorem dL_law__1471 : decode cL_law_ 1471 = .ok (.iload 4, 2) := zby_g zbyb_839 (i := 0) rfl rfl
theorem dL_law__1473 : decode cL_law_ 1473 = .ok (.iconst 1, 1) := zby_g zbyb_839 (i := 1) rfl rfl
theorem dL_law__1474 : decode cL_law_ 1474 = .ok (.iadd, 1) := zby_g zbyb_839 (i := 2) rfl rfl
theorem dL_law__1475 : decode cL_law_ 1475 = .ok (.iaload, 1) := zby_g zbyb_839 (i := 3) rfl rfl
theorem dL_law__1476 : decode cL_law_ 1476 = .ok (.aload_n 0, 1) := zby_g zbyb_839 (i := 4) rfl rfl
theorem dL_law__1477 : decode cL_law_ 1477 = .ok (.iload 4, 2) := zby_g zbyb_839 (i := 5) rfl rfl
theorem dL_law__1479 : decode cL_law_ 1479 = .ok (.iconst 2, 1) := zby_g zbyb_839 (i := 6) rfl rfl
theorem dL_law__1480 : decode cL_law_ 1480 = .ok (.iadd, 1) := zby_g zbyb_839 (i := 7) rfl rfl
theorem dL_law__1481 : decode cL_law_ 1481 = .ok (.iaload, 1) := zby_g zbyb_839 (i := 8) rfl rfl
theorem dL_law__1482 : decode cL_law_ 1482 = .ok (.invokevirtual 263, 3) := zby_g zbyb_839 (i := 9) rfl rfl
theorem dL_law__1485 : decode cL_law_ 1485 = .ok (.istore 6, 2) := zby_g zbyb_839 (i := 10) rfl rfl
theorem dL_law__1487 : decode cL_law_ 1487 = .ok (.goto 365, 3) := zby_g zbyb_839 (i := 11) rfl rfl
theorem dL_law__1490 : decode cL_law_ 1490 = .ok (.aload_n 1, 1) := zby_g zbyb_839 (i := 12) rfl rfl
theorem dL_law__1491 : decode cL_law_ 1491 = .ok (.invokevirtual 264, 3) := zby_g zbyb_839 (i := 13) rfl rfl
theorem dL_law__1494 : decode cL_law_ 1494 = .ok (.pop, 1) := zby_g zbyb_839 (i := 14) rfl rfl
theorem dL_law__1495 : decode cL_law_ 1495 = .ok (.aload_n 2, 1) := zby_g zbyb_839 (i := 15) rfl rfl
noncomputable def zbyl_840 : List (Nat × zbyE) := [(1496, zbyo_182 267), (1499, zbyo_87), (1500, zbyo_167 352), (1503, zbyo_43), (1504, zbyo_182 268), (1507, zbyo_87), (1508, zbyo_44), (1509, zbyo_182 271), (1512, zbyo_87), (1513, zbyo_167 339), (1516, zbyo_43), (1517, zbyo_42), (1518, zbyo_21 4), (1520, zbyo_4), (1521, zbyo_96), (1522, zbyo_46)]
theorem zbyb_840 : zbys zbyl_840 (cL_law_.data.toList.drop 1496) 1496 = true := by decide +kernel
theorem dL_law__1496 : decode cL_law_ 1496 = .ok (.invokevirtual 267, 3) := zby_g zbyb_840 (i := 0) rfl rfl
theorem dL_law__1499 : decode cL_law_ 1499 = .ok (.pop, 1) := zby_g zbyb_840 (i := 1) rfl rfl
theorem dL_law__1500 : decode cL_law_ 1500 = .ok (.goto 352, 3) := zby_g zbyb_840 (i := 2) rfl rfl
theorem dL_law__1503 : decode cL_law_ 1503 = .ok (.aload_n 1, 1) := zby_g zbyb_840 (i := 3) rfl rfl
theorem dL_law__1504 : decode cL_law_ 1504 = .ok (.invokevirtual 268, 3) := zby_g zbyb_840 (i := 4) rfl rfl
theorem dL_law__1507 : decode cL_law_ 1507 = .ok (.pop, 1) := zby_g zbyb_840 (i := 5) rfl rfl
theorem dL_law__1508 : decode cL_law_ 1508 = .ok (.aload_n 2, 1) := zby_g zbyb_840 (i := 6) rfl rfl
theorem dL_law__1509 : decode cL_law_ 1509 = .ok (.invokevirtual 271, 3) := zby_g zbyb_840 (i := 7) rfl rfl
theorem dL_law__1512 : decode cL_law_ 1512 = .ok (.pop, 1) := zby_g zbyb_840 (i := 8) rfl rfl
theorem dL_law__1513 : decode cL_law_ 1513 = .ok (.goto 339, 3) := zby_g zbyb_840 (i := 9) rfl rfl
theorem dL_law__1516 : decode cL_law_ 1516 = .ok (.aload_n 1, 1) := zby_g zbyb_840 (i := 10) rfl rfl
theorem dL_law__1517 : decode cL_law_ 1517 = .ok (.aload_n 0, 1) := zby_g zbyb_840 (i := 11) rfl rfl
theorem dL_law__1518 : decode cL_law_ 1518 = .ok (.iload 4, 2) := zby_g zbyb_840 (i := 12) rfl rfl
theorem dL_law__1520 : decode cL_law_ 1520 = .ok (.iconst 1, 1) := zby_g zbyb_840 (i := 13) rfl rfl
theorem dL_law__1521 : decode cL_law_ 1521 = .ok (.iadd, 1) := zby_g zbyb_840 (i := 14) rfl rfl
theorem dL_law__1522 : decode cL_law_ 1522 = .ok (.iaload, 1) := zby_g zbyb_840 (i := 15) rfl rfl
noncomputable def zbyl_841 : List (Nat × zbyE) := [(1523, zbyo_45), (1524, zbyo_184 272), (1527, zbyo_54 5), (1529, zbyo_44), (1530, zbyo_42), (1531, zbyo_21 4), (1533, zbyo_4), (1534, zbyo_96), (1535, zbyo_46), (1536, zbyo_182 274), (1539, zbyo_54 6), (1541, zbyo_167 311), (1544, zbyo_43), (1545, zbyo_182 275), (1548, zbyo_87), (1549, zbyo_44)]
theorem zbyb_841 : zbys zbyl_841 (cL_law_.data.toList.drop 1523) 1523 = true := by decide +kernel
theorem dL_law__1523 : decode cL_law_ 1523 = .ok (.aload_n 3, 1) := zby_g zbyb_841 (i := 0) rfl rfl
theorem dL_law__1524 : decode cL_law_ 1524 = .ok (.invokestatic 272, 3) := zby_g zbyb_841 (i := 1) rfl rfl
theorem dL_law__1527 : decode cL_law_ 1527 = .ok (.istore 5, 2) := zby_g zbyb_841 (i := 2) rfl rfl
theorem dL_law__1529 : decode cL_law_ 1529 = .ok (.aload_n 2, 1) := zby_g zbyb_841 (i := 3) rfl rfl
theorem dL_law__1530 : decode cL_law_ 1530 = .ok (.aload_n 0, 1) := zby_g zbyb_841 (i := 4) rfl rfl
theorem dL_law__1531 : decode cL_law_ 1531 = .ok (.iload 4, 2) := zby_g zbyb_841 (i := 5) rfl rfl
theorem dL_law__1533 : decode cL_law_ 1533 = .ok (.iconst 1, 1) := zby_g zbyb_841 (i := 6) rfl rfl
theorem dL_law__1534 : decode cL_law_ 1534 = .ok (.iadd, 1) := zby_g zbyb_841 (i := 7) rfl rfl
theorem dL_law__1535 : decode cL_law_ 1535 = .ok (.iaload, 1) := zby_g zbyb_841 (i := 8) rfl rfl
theorem dL_law__1536 : decode cL_law_ 1536 = .ok (.invokevirtual 274, 3) := zby_g zbyb_841 (i := 9) rfl rfl
theorem dL_law__1539 : decode cL_law_ 1539 = .ok (.istore 6, 2) := zby_g zbyb_841 (i := 10) rfl rfl
theorem dL_law__1541 : decode cL_law_ 1541 = .ok (.goto 311, 3) := zby_g zbyb_841 (i := 11) rfl rfl
theorem dL_law__1544 : decode cL_law_ 1544 = .ok (.aload_n 1, 1) := zby_g zbyb_841 (i := 12) rfl rfl
theorem dL_law__1545 : decode cL_law_ 1545 = .ok (.invokevirtual 275, 3) := zby_g zbyb_841 (i := 13) rfl rfl
theorem dL_law__1548 : decode cL_law_ 1548 = .ok (.pop, 1) := zby_g zbyb_841 (i := 14) rfl rfl
theorem dL_law__1549 : decode cL_law_ 1549 = .ok (.aload_n 2, 1) := zby_g zbyb_841 (i := 15) rfl rfl
noncomputable def zbyl_842 : List (Nat × zbyE) := [(1550, zbyo_182 278), (1553, zbyo_87), (1554, zbyo_167 298), (1557, zbyo_43), (1558, zbyo_42), (1559, zbyo_21 4), (1561, zbyo_4), (1562, zbyo_96), (1563, zbyo_46), (1564, zbyo_42), (1565, zbyo_21 4), (1567, zbyo_5), (1568, zbyo_96), (1569, zbyo_46), (1570, zbyo_153 7), (1573, zbyo_4)]
theorem zbyb_842 : zbys zbyl_842 (cL_law_.data.toList.drop 1550) 1550 = true := by decide +kernel
theorem dL_law__1550 : decode cL_law_ 1550 = .ok (.invokevirtual 278, 3) := zby_g zbyb_842 (i := 0) rfl rfl
theorem dL_law__1553 : decode cL_law_ 1553 = .ok (.pop, 1) := zby_g zbyb_842 (i := 1) rfl rfl
theorem dL_law__1554 : decode cL_law_ 1554 = .ok (.goto 298, 3) := zby_g zbyb_842 (i := 2) rfl rfl
theorem dL_law__1557 : decode cL_law_ 1557 = .ok (.aload_n 1, 1) := zby_g zbyb_842 (i := 3) rfl rfl
theorem dL_law__1558 : decode cL_law_ 1558 = .ok (.aload_n 0, 1) := zby_g zbyb_842 (i := 4) rfl rfl
theorem dL_law__1559 : decode cL_law_ 1559 = .ok (.iload 4, 2) := zby_g zbyb_842 (i := 5) rfl rfl
theorem dL_law__1561 : decode cL_law_ 1561 = .ok (.iconst 1, 1) := zby_g zbyb_842 (i := 6) rfl rfl
theorem dL_law__1562 : decode cL_law_ 1562 = .ok (.iadd, 1) := zby_g zbyb_842 (i := 7) rfl rfl
theorem dL_law__1563 : decode cL_law_ 1563 = .ok (.iaload, 1) := zby_g zbyb_842 (i := 8) rfl rfl
theorem dL_law__1564 : decode cL_law_ 1564 = .ok (.aload_n 0, 1) := zby_g zbyb_842 (i := 9) rfl rfl
theorem dL_law__1565 : decode cL_law_ 1565 = .ok (.iload 4, 2) := zby_g zbyb_842 (i := 10) rfl rfl
theorem dL_law__1567 : decode cL_law_ 1567 = .ok (.iconst 2, 1) := zby_g zbyb_842 (i := 11) rfl rfl
theorem dL_law__1568 : decode cL_law_ 1568 = .ok (.iadd, 1) := zby_g zbyb_842 (i := 12) rfl rfl
theorem dL_law__1569 : decode cL_law_ 1569 = .ok (.iaload, 1) := zby_g zbyb_842 (i := 13) rfl rfl
theorem dL_law__1570 : decode cL_law_ 1570 = .ok (.ifCond .eq 7, 3) := zby_g zbyb_842 (i := 14) rfl rfl
theorem dL_law__1573 : decode cL_law_ 1573 = .ok (.iconst 1, 1) := zby_g zbyb_842 (i := 15) rfl rfl
noncomputable def zbyl_843 : List (Nat × zbyE) := [(1574, zbyo_167 4), (1577, zbyo_3), (1578, zbyo_45), (1579, zbyo_184 279), (1582, zbyo_54 5), (1584, zbyo_44), (1585, zbyo_42), (1586, zbyo_21 4), (1588, zbyo_4), (1589, zbyo_96), (1590, zbyo_46), (1591, zbyo_42), (1592, zbyo_21 4), (1594, zbyo_5), (1595, zbyo_96), (1596, zbyo_46)]
theorem zbyb_843 : zbys zbyl_843 (cL_law_.data.toList.drop 1574) 1574 = true := by decide +kernel
theorem dL_law__1574 : decode cL_law_ 1574 = .ok (.goto 4, 3) := zby_g zbyb_843 (i := 0) rfl rfl
theorem dL_law__1577 : decode cL_law_ 1577 = .ok (.iconst 0, 1) := zby_g zbyb_843 (i := 1) rfl rfl
theorem dL_law__1578 : decode cL_law_ 1578 = .ok (.aload_n 3, 1) := zby_g zbyb_843 (i := 2) rfl rfl
theorem dL_law__1579 : decode cL_law_ 1579 = .ok (.invokestatic 279, 3) := zby_g zbyb_843 (i := 3) rfl rfl
theorem dL_law__1582 : decode cL_law_ 1582 = .ok (.istore 5, 2) := zby_g zbyb_843 (i := 4) rfl rfl
theorem dL_law__1584 : decode cL_law_ 1584 = .ok (.aload_n 2, 1) := zby_g zbyb_843 (i := 5) rfl rfl
theorem dL_law__1585 : decode cL_law_ 1585 = .ok (.aload_n 0, 1) := zby_g zbyb_843 (i := 6) rfl rfl
theorem dL_law__1586 : decode cL_law_ 1586 = .ok (.iload 4, 2) := zby_g zbyb_843 (i := 7) rfl rfl
theorem dL_law__1588 : decode cL_law_ 1588 = .ok (.iconst 1, 1) := zby_g zbyb_843 (i := 8) rfl rfl
theorem dL_law__1589 : decode cL_law_ 1589 = .ok (.iadd, 1) := zby_g zbyb_843 (i := 9) rfl rfl
theorem dL_law__1590 : decode cL_law_ 1590 = .ok (.iaload, 1) := zby_g zbyb_843 (i := 10) rfl rfl
theorem dL_law__1591 : decode cL_law_ 1591 = .ok (.aload_n 0, 1) := zby_g zbyb_843 (i := 11) rfl rfl
theorem dL_law__1592 : decode cL_law_ 1592 = .ok (.iload 4, 2) := zby_g zbyb_843 (i := 12) rfl rfl
theorem dL_law__1594 : decode cL_law_ 1594 = .ok (.iconst 2, 1) := zby_g zbyb_843 (i := 13) rfl rfl
theorem dL_law__1595 : decode cL_law_ 1595 = .ok (.iadd, 1) := zby_g zbyb_843 (i := 14) rfl rfl
theorem dL_law__1596 : decode cL_law_ 1596 = .ok (.iaload, 1) := zby_g zbyb_843 (i := 15) rfl rfl
noncomputable def zbyl_844 : List (Nat × zbyE) := [(1597, zbyo_153 7), (1600, zbyo_4), (1601, zbyo_167 4), (1604, zbyo_3), (1605, zbyo_182 281), (1608, zbyo_54 6), (1610, zbyo_167 242), (1613, zbyo_43), (1614, zbyo_42), (1615, zbyo_21 4), (1617, zbyo_4), (1618, zbyo_96), (1619, zbyo_46), (1620, zbyo_42), (1621, zbyo_21 4), (1623, zbyo_5)]
theorem zbyb_844 : zbys zbyl_844 (cL_law_.data.toList.drop 1597) 1597 = true := by decide +kernel
theorem dL_law__1597 : decode cL_law_ 1597 = .ok (.ifCond .eq 7, 3) := zby_g zbyb_844 (i := 0) rfl rfl
theorem dL_law__1600 : decode cL_law_ 1600 = .ok (.iconst 1, 1) := zby_g zbyb_844 (i := 1) rfl rfl
theorem dL_law__1601 : decode cL_law_ 1601 = .ok (.goto 4, 3) := zby_g zbyb_844 (i := 2) rfl rfl
theorem dL_law__1604 : decode cL_law_ 1604 = .ok (.iconst 0, 1) := zby_g zbyb_844 (i := 3) rfl rfl
theorem dL_law__1605 : decode cL_law_ 1605 = .ok (.invokevirtual 281, 3) := zby_g zbyb_844 (i := 4) rfl rfl
theorem dL_law__1608 : decode cL_law_ 1608 = .ok (.istore 6, 2) := zby_g zbyb_844 (i := 5) rfl rfl
theorem dL_law__1610 : decode cL_law_ 1610 = .ok (.goto 242, 3) := zby_g zbyb_844 (i := 6) rfl rfl
theorem dL_law__1613 : decode cL_law_ 1613 = .ok (.aload_n 1, 1) := zby_g zbyb_844 (i := 7) rfl rfl
theorem dL_law__1614 : decode cL_law_ 1614 = .ok (.aload_n 0, 1) := zby_g zbyb_844 (i := 8) rfl rfl
theorem dL_law__1615 : decode cL_law_ 1615 = .ok (.iload 4, 2) := zby_g zbyb_844 (i := 9) rfl rfl
theorem dL_law__1617 : decode cL_law_ 1617 = .ok (.iconst 1, 1) := zby_g zbyb_844 (i := 10) rfl rfl
theorem dL_law__1618 : decode cL_law_ 1618 = .ok (.iadd, 1) := zby_g zbyb_844 (i := 11) rfl rfl
theorem dL_law__1619 : decode cL_law_ 1619 = .ok (.iaload, 1) := zby_g zbyb_844 (i := 12) rfl rfl
theorem dL_law__1620 : decode cL_law_ 1620 = .ok (.aload_n 0, 1) := zby_g zbyb_844 (i := 13) rfl rfl
theorem dL_law__1621 : decode cL_law_ 1621 = .ok (.iload 4, 2) := zby_g zbyb_844 (i := 14) rfl rfl
theorem dL_law__1623 : decode cL_law_ 1623 = .ok (.iconst 2, 1) := zby_g zbyb_844 (i := 15) rfl rfl
noncomputable def zbyl_845 : List (Nat × zbyE) := [(1624, zbyo_96), (1625, zbyo_46), (1626, zbyo_153 7), (1629, zbyo_4), (1630, zbyo_167 4), (1633, zbyo_3), (1634, zbyo_45), (1635, zbyo_184 282), (1638, zbyo_54 5), (1640, zbyo_44), (1641, zbyo_42), (1642, zbyo_21 4), (1644, zbyo_4), (1645, zbyo_96), (1646, zbyo_46), (1647, zbyo_42)]
theorem zbyb_845 : zbys zbyl_845 (cL_law_.data.toList.drop 1624) 1624 = true := by decide +kernel
theorem dL_law__1624 : decode cL_law_ 1624 = .ok (.iadd, 1) := zby_g zbyb_845 (i := 0) rfl rfl
theorem dL_law__1625 : decode cL_law_ 1625 = .ok (.iaload, 1) := zby_g zbyb_845 (i := 1) rfl rfl
theorem dL_law__1626 : decode cL_law_ 1626 = .ok (.ifCond .eq 7, 3) := zby_g zbyb_845 (i := 2) rfl rfl
theorem dL_law__1629 : decode cL_law_ 1629 = .ok (.iconst 1, 1) := zby_g zbyb_845 (i := 3) rfl rfl
theorem dL_law__1630 : decode cL_law_ 1630 = .ok (.goto 4, 3) := zby_g zbyb_845 (i := 4) rfl rfl
theorem dL_law__1633 : decode cL_law_ 1633 = .ok (.iconst 0, 1) := zby_g zbyb_845 (i := 5) rfl rfl
theorem dL_law__1634 : decode cL_law_ 1634 = .ok (.aload_n 3, 1) := zby_g zbyb_845 (i := 6) rfl rfl
theorem dL_law__1635 : decode cL_law_ 1635 = .ok (.invokestatic 282, 3) := zby_g zbyb_845 (i := 7) rfl rfl
theorem dL_law__1638 : decode cL_law_ 1638 = .ok (.istore 5, 2) := zby_g zbyb_845 (i := 8) rfl rfl
theorem dL_law__1640 : decode cL_law_ 1640 = .ok (.aload_n 2, 1) := zby_g zbyb_845 (i := 9) rfl rfl
theorem dL_law__1641 : decode cL_law_ 1641 = .ok (.aload_n 0, 1) := zby_g zbyb_845 (i := 10) rfl rfl
theorem dL_law__1642 : decode cL_law_ 1642 = .ok (.iload 4, 2) := zby_g zbyb_845 (i := 11) rfl rfl
theorem dL_law__1644 : decode cL_law_ 1644 = .ok (.iconst 1, 1) := zby_g zbyb_845 (i := 12) rfl rfl
theorem dL_law__1645 : decode cL_law_ 1645 = .ok (.iadd, 1) := zby_g zbyb_845 (i := 13) rfl rfl
theorem dL_law__1646 : decode cL_law_ 1646 = .ok (.iaload, 1) := zby_g zbyb_845 (i := 14) rfl rfl
theorem dL_law__1647 : decode cL_law_ 1647 = .ok (.aload_n 0, 1) := zby_g zbyb_845 (i := 15) rfl rfl
noncomputable def zbyl_846 : List (Nat × zbyE) := [(1648, zbyo_21 4), (1650, zbyo_5), (1651, zbyo_96), (1652, zbyo_46), (1653, zbyo_153 7), (1656, zbyo_4), (1657, zbyo_167 4), (1660, zbyo_3), (1661, zbyo_182 284), (1664, zbyo_54 6), (1666, zbyo_167 186), (1669, zbyo_43), (1670, zbyo_42), (1671, zbyo_21 4), (1673, zbyo_4), (1674, zbyo_96)]
theorem zbyb_846 : zbys zbyl_846 (cL_law_.data.toList.drop 1648) 1648 = true := by decide +kernel
theorem dL_law__1648 : decode cL_law_ 1648 = .ok (.iload 4, 2) := zby_g zbyb_846 (i := 0) rfl rfl
theorem dL_law__1650 : decode cL_law_ 1650 = .ok (.iconst 2, 1) := zby_g zbyb_846 (i := 1) rfl rfl
theorem dL_law__1651 : decode cL_law_ 1651 = .ok (.iadd, 1) := zby_g zbyb_846 (i := 2) rfl rfl
theorem dL_law__1652 : decode cL_law_ 1652 = .ok (.iaload, 1) := zby_g zbyb_846 (i := 3) rfl rfl
theorem dL_law__1653 : decode cL_law_ 1653 = .ok (.ifCond .eq 7, 3) := zby_g zbyb_846 (i := 4) rfl rfl
theorem dL_law__1656 : decode cL_law_ 1656 = .ok (.iconst 1, 1) := zby_g zbyb_846 (i := 5) rfl rfl
theorem dL_law__1657 : decode cL_law_ 1657 = .ok (.goto 4, 3) := zby_g zbyb_846 (i := 6) rfl rfl
theorem dL_law__1660 : decode cL_law_ 1660 = .ok (.iconst 0, 1) := zby_g zbyb_846 (i := 7) rfl rfl
theorem dL_law__1661 : decode cL_law_ 1661 = .ok (.invokevirtual 284, 3) := zby_g zbyb_846 (i := 8) rfl rfl
theorem dL_law__1664 : decode cL_law_ 1664 = .ok (.istore 6, 2) := zby_g zbyb_846 (i := 9) rfl rfl
theorem dL_law__1666 : decode cL_law_ 1666 = .ok (.goto 186, 3) := zby_g zbyb_846 (i := 10) rfl rfl
theorem dL_law__1669 : decode cL_law_ 1669 = .ok (.aload_n 1, 1) := zby_g zbyb_846 (i := 11) rfl rfl
theorem dL_law__1670 : decode cL_law_ 1670 = .ok (.aload_n 0, 1) := zby_g zbyb_846 (i := 12) rfl rfl
theorem dL_law__1671 : decode cL_law_ 1671 = .ok (.iload 4, 2) := zby_g zbyb_846 (i := 13) rfl rfl
theorem dL_law__1673 : decode cL_law_ 1673 = .ok (.iconst 1, 1) := zby_g zbyb_846 (i := 14) rfl rfl
theorem dL_law__1674 : decode cL_law_ 1674 = .ok (.iadd, 1) := zby_g zbyb_846 (i := 15) rfl rfl
noncomputable def zbyl_847 : List (Nat × zbyE) := [(1675, zbyo_46), (1676, zbyo_42), (1677, zbyo_21 4), (1679, zbyo_5), (1680, zbyo_96), (1681, zbyo_46), (1682, zbyo_153 7), (1685, zbyo_4), (1686, zbyo_167 4), (1689, zbyo_3), (1690, zbyo_45), (1691, zbyo_184 285), (1694, zbyo_54 5), (1696, zbyo_44), (1697, zbyo_42), (1698, zbyo_21 4)]
theorem zbyb_847 : zbys zbyl_847 (cL_law_.data.toList.drop 1675) 1675 = true := by decide +kernel
theorem dL_law__1675 : decode cL_law_ 1675 = .ok (.iaload, 1) := zby_g zbyb_847 (i := 0) rfl rfl
theorem dL_law__1676 : decode cL_law_ 1676 = .ok (.aload_n 0, 1) := zby_g zbyb_847 (i := 1) rfl rfl
theorem dL_law__1677 : decode cL_law_ 1677 = .ok (.iload 4, 2) := zby_g zbyb_847 (i := 2) rfl rfl
theorem dL_law__1679 : decode cL_law_ 1679 = .ok (.iconst 2, 1) := zby_g zbyb_847 (i := 3) rfl rfl
theorem dL_law__1680 : decode cL_law_ 1680 = .ok (.iadd, 1) := zby_g zbyb_847 (i := 4) rfl rfl
theorem dL_law__1681 : decode cL_law_ 1681 = .ok (.iaload, 1) := zby_g zbyb_847 (i := 5) rfl rfl
theorem dL_law__1682 : decode cL_law_ 1682 = .ok (.ifCond .eq 7, 3) := zby_g zbyb_847 (i := 6) rfl rfl
theorem dL_law__1685 : decode cL_law_ 1685 = .ok (.iconst 1, 1) := zby_g zbyb_847 (i := 7) rfl rfl
theorem dL_law__1686 : decode cL_law_ 1686 = .ok (.goto 4, 3) := zby_g zbyb_847 (i := 8) rfl rfl
theorem dL_law__1689 : decode cL_law_ 1689 = .ok (.iconst 0, 1) := zby_g zbyb_847 (i := 9) rfl rfl
theorem dL_law__1690 : decode cL_law_ 1690 = .ok (.aload_n 3, 1) := zby_g zbyb_847 (i := 10) rfl rfl
theorem dL_law__1691 : decode cL_law_ 1691 = .ok (.invokestatic 285, 3) := zby_g zbyb_847 (i := 11) rfl rfl
theorem dL_law__1694 : decode cL_law_ 1694 = .ok (.istore 5, 2) := zby_g zbyb_847 (i := 12) rfl rfl
theorem dL_law__1696 : decode cL_law_ 1696 = .ok (.aload_n 2, 1) := zby_g zbyb_847 (i := 13) rfl rfl
theorem dL_law__1697 : decode cL_law_ 1697 = .ok (.aload_n 0, 1) := zby_g zbyb_847 (i := 14) rfl rfl
theorem dL_law__1698 : decode cL_law_ 1698 = .ok (.iload 4, 2) := zby_g zbyb_847 (i := 15) rfl rfl
noncomputable def zbyl_848 : List (Nat × zbyE) := [(1700, zbyo_4), (1701, zbyo_96), (1702, zbyo_46), (1703, zbyo_42), (1704, zbyo_21 4), (1706, zbyo_5), (1707, zbyo_96), (1708, zbyo_46), (1709, zbyo_153 7), (1712, zbyo_4), (1713, zbyo_167 4), (1716, zbyo_3), (1717, zbyo_182 287), (1720, zbyo_54 6), (1722, zbyo_167 130), (1725, zbyo_43)]
theorem zbyb_848 : zbys zbyl_848 (cL_law_.data.toList.drop 1700) 1700 = true := by decide +kernel
theorem dL_law__1700 : decode cL_law_ 1700 = .ok (.iconst 1, 1) := zby_g zbyb_848 (i := 0) rfl rfl
theorem dL_law__1701 : decode cL_law_ 1701 = .ok (.iadd, 1) := zby_g zbyb_848 (i := 1) rfl rfl
theorem dL_law__1702 : decode cL_law_ 1702 = .ok (.iaload, 1) := zby_g zbyb_848 (i := 2) rfl rfl
theorem dL_law__1703 : decode cL_law_ 1703 = .ok (.aload_n 0, 1) := zby_g zbyb_848 (i := 3) rfl rfl
theorem dL_law__1704 : decode cL_law_ 1704 = .ok (.iload 4, 2) := zby_g zbyb_848 (i := 4) rfl rfl
theorem dL_law__1706 : decode cL_law_ 1706 = .ok (.iconst 2, 1) := zby_g zbyb_848 (i := 5) rfl rfl
theorem dL_law__1707 : decode cL_law_ 1707 = .ok (.iadd, 1) := zby_g zbyb_848 (i := 6) rfl rfl
theorem dL_law__1708 : decode cL_law_ 1708 = .ok (.iaload, 1) := zby_g zbyb_848 (i := 7) rfl rfl
theorem dL_law__1709 : decode cL_law_ 1709 = .ok (.ifCond .eq 7, 3) := zby_g zbyb_848 (i := 8) rfl rfl
theorem dL_law__1712 : decode cL_law_ 1712 = .ok (.iconst 1, 1) := zby_g zbyb_848 (i := 9) rfl rfl
theorem dL_law__1713 : decode cL_law_ 1713 = .ok (.goto 4, 3) := zby_g zbyb_848 (i := 10) rfl rfl
theorem dL_law__1716 : decode cL_law_ 1716 = .ok (.iconst 0, 1) := zby_g zbyb_848 (i := 11) rfl rfl
theorem dL_law__1717 : decode cL_law_ 1717 = .ok (.invokevirtual 287, 3) := zby_g zbyb_848 (i := 12) rfl rfl
theorem dL_law__1720 : decode cL_law_ 1720 = .ok (.istore 6, 2) := zby_g zbyb_848 (i := 13) rfl rfl
theorem dL_law__1722 : decode cL_law_ 1722 = .ok (.goto 130, 3) := zby_g zbyb_848 (i := 14) rfl rfl
theorem dL_law__1725 : decode cL_law_ 1725 = .ok (.aload_n 1, 1) := zby_g zbyb_848 (i := 15) rfl rfl
noncomputable def zbyl_849 : List (Nat × zbyE) := [(1726, zbyo_42), (1727, zbyo_21 4), (1729, zbyo_4), (1730, zbyo_96), (1731, zbyo_46), (1732, zbyo_42), (1733, zbyo_21 4), (1735, zbyo_5), (1736, zbyo_96), (1737, zbyo_46), (1738, zbyo_45), (1739, zbyo_184 288), (1742, zbyo_54 5), (1744, zbyo_44), (1745, zbyo_42), (1746, zbyo_21 4)]
theorem zbyb_849 : zbys zbyl_849 (cL_law_.data.toList.drop 1726) 1726 = true := by decide +kernel
theorem dL_law__1726 : decode cL_law_ 1726 = .ok (.aload_n 0, 1) := zby_g zbyb_849 (i := 0) rfl rfl
theorem dL_law__1727 : decode cL_law_ 1727 = .ok (.iload 4, 2) := zby_g zbyb_849 (i := 1) rfl rfl
theorem dL_law__1729 : decode cL_law_ 1729 = .ok (.iconst 1, 1) := zby_g zbyb_849 (i := 2) rfl rfl
theorem dL_law__1730 : decode cL_law_ 1730 = .ok (.iadd, 1) := zby_g zbyb_849 (i := 3) rfl rfl
theorem dL_law__1731 : decode cL_law_ 1731 = .ok (.iaload, 1) := zby_g zbyb_849 (i := 4) rfl rfl
theorem dL_law__1732 : decode cL_law_ 1732 = .ok (.aload_n 0, 1) := zby_g zbyb_849 (i := 5) rfl rfl
theorem dL_law__1733 : decode cL_law_ 1733 = .ok (.iload 4, 2) := zby_g zbyb_849 (i := 6) rfl rfl
theorem dL_law__1735 : decode cL_law_ 1735 = .ok (.iconst 2, 1) := zby_g zbyb_849 (i := 7) rfl rfl
theorem dL_law__1736 : decode cL_law_ 1736 = .ok (.iadd, 1) := zby_g zbyb_849 (i := 8) rfl rfl
theorem dL_law__1737 : decode cL_law_ 1737 = .ok (.iaload, 1) := zby_g zbyb_849 (i := 9) rfl rfl
theorem dL_law__1738 : decode cL_law_ 1738 = .ok (.aload_n 3, 1) := zby_g zbyb_849 (i := 10) rfl rfl
theorem dL_law__1739 : decode cL_law_ 1739 = .ok (.invokestatic 288, 3) := zby_g zbyb_849 (i := 11) rfl rfl
theorem dL_law__1742 : decode cL_law_ 1742 = .ok (.istore 5, 2) := zby_g zbyb_849 (i := 12) rfl rfl
theorem dL_law__1744 : decode cL_law_ 1744 = .ok (.aload_n 2, 1) := zby_g zbyb_849 (i := 13) rfl rfl
theorem dL_law__1745 : decode cL_law_ 1745 = .ok (.aload_n 0, 1) := zby_g zbyb_849 (i := 14) rfl rfl
theorem dL_law__1746 : decode cL_law_ 1746 = .ok (.iload 4, 2) := zby_g zbyb_849 (i := 15) rfl rfl
noncomputable def zbyl_850 : List (Nat × zbyE) := [(1748, zbyo_4), (1749, zbyo_96), (1750, zbyo_46), (1751, zbyo_42), (1752, zbyo_21 4), (1754, zbyo_5), (1755, zbyo_96), (1756, zbyo_46), (1757, zbyo_182 290), (1760, zbyo_54 6), (1762, zbyo_167 90), (1765, zbyo_43), (1766, zbyo_42), (1767, zbyo_21 4), (1769, zbyo_4), (1770, zbyo_96)]
theorem zbyb_850 : zbys zbyl_850 (cL_law_.data.toList.drop 1748) 1748 = true := by decide +kernel
theorem dL_law__1748 : decode cL_law_ 1748 = .ok (.iconst 1, 1) := zby_g zbyb_850 (i := 0) rfl rfl
theorem dL_law__1749 : decode cL_law_ 1749 = .ok (.iadd, 1) := zby_g zbyb_850 (i := 1) rfl rfl
theorem dL_law__1750 : decode cL_law_ 1750 = .ok (.iaload, 1) := zby_g zbyb_850 (i := 2) rfl rfl
theorem dL_law__1751 : decode cL_law_ 1751 = .ok (.aload_n 0, 1) := zby_g zbyb_850 (i := 3) rfl rfl
theorem dL_law__1752 : decode cL_law_ 1752 = .ok (.iload 4, 2) := zby_g zbyb_850 (i := 4) rfl rfl
theorem dL_law__1754 : decode cL_law_ 1754 = .ok (.iconst 2, 1) := zby_g zbyb_850 (i := 5) rfl rfl
theorem dL_law__1755 : decode cL_law_ 1755 = .ok (.iadd, 1) := zby_g zbyb_850 (i := 6) rfl rfl
theorem dL_law__1756 : decode cL_law_ 1756 = .ok (.iaload, 1) := zby_g zbyb_850 (i := 7) rfl rfl
theorem dL_law__1757 : decode cL_law_ 1757 = .ok (.invokevirtual 290, 3) := zby_g zbyb_850 (i := 8) rfl rfl
theorem dL_law__1760 : decode cL_law_ 1760 = .ok (.istore 6, 2) := zby_g zbyb_850 (i := 9) rfl rfl
theorem dL_law__1762 : decode cL_law_ 1762 = .ok (.goto 90, 3) := zby_g zbyb_850 (i := 10) rfl rfl
theorem dL_law__1765 : decode cL_law_ 1765 = .ok (.aload_n 1, 1) := zby_g zbyb_850 (i := 11) rfl rfl
theorem dL_law__1766 : decode cL_law_ 1766 = .ok (.aload_n 0, 1) := zby_g zbyb_850 (i := 12) rfl rfl
theorem dL_law__1767 : decode cL_law_ 1767 = .ok (.iload 4, 2) := zby_g zbyb_850 (i := 13) rfl rfl
theorem dL_law__1769 : decode cL_law_ 1769 = .ok (.iconst 1, 1) := zby_g zbyb_850 (i := 14) rfl rfl
theorem dL_law__1770 : decode cL_law_ 1770 = .ok (.iadd, 1) := zby_g zbyb_850 (i := 15) rfl rfl
noncomputable def zbyl_851 : List (Nat × zbyE) := [(1771, zbyo_46), (1772, zbyo_182 291), (1775, zbyo_87), (1776, zbyo_44), (1777, zbyo_42), (1778, zbyo_21 4), (1780, zbyo_4), (1781, zbyo_96), (1782, zbyo_46), (1783, zbyo_182 294), (1786, zbyo_87), (1787, zbyo_167 65), (1790, zbyo_43), (1791, zbyo_182 295), (1794, zbyo_87), (1795, zbyo_44)]
theorem zbyb_851 : zbys zbyl_851 (cL_law_.data.toList.drop 1771) 1771 = true := by decide +kernel
theorem dL_law__1771 : decode cL_law_ 1771 = .ok (.iaload, 1) := zby_g zbyb_851 (i := 0) rfl rfl
theorem dL_law__1772 : decode cL_law_ 1772 = .ok (.invokevirtual 291, 3) := zby_g zbyb_851 (i := 1) rfl rfl
theorem dL_law__1775 : decode cL_law_ 1775 = .ok (.pop, 1) := zby_g zbyb_851 (i := 2) rfl rfl
theorem dL_law__1776 : decode cL_law_ 1776 = .ok (.aload_n 2, 1) := zby_g zbyb_851 (i := 3) rfl rfl
theorem dL_law__1777 : decode cL_law_ 1777 = .ok (.aload_n 0, 1) := zby_g zbyb_851 (i := 4) rfl rfl
theorem dL_law__1778 : decode cL_law_ 1778 = .ok (.iload 4, 2) := zby_g zbyb_851 (i := 5) rfl rfl
theorem dL_law__1780 : decode cL_law_ 1780 = .ok (.iconst 1, 1) := zby_g zbyb_851 (i := 6) rfl rfl
theorem dL_law__1781 : decode cL_law_ 1781 = .ok (.iadd, 1) := zby_g zbyb_851 (i := 7) rfl rfl
theorem dL_law__1782 : decode cL_law_ 1782 = .ok (.iaload, 1) := zby_g zbyb_851 (i := 8) rfl rfl
theorem dL_law__1783 : decode cL_law_ 1783 = .ok (.invokevirtual 294, 3) := zby_g zbyb_851 (i := 9) rfl rfl
theorem dL_law__1786 : decode cL_law_ 1786 = .ok (.pop, 1) := zby_g zbyb_851 (i := 10) rfl rfl
theorem dL_law__1787 : decode cL_law_ 1787 = .ok (.goto 65, 3) := zby_g zbyb_851 (i := 11) rfl rfl
theorem dL_law__1790 : decode cL_law_ 1790 = .ok (.aload_n 1, 1) := zby_g zbyb_851 (i := 12) rfl rfl
theorem dL_law__1791 : decode cL_law_ 1791 = .ok (.invokevirtual 295, 3) := zby_g zbyb_851 (i := 13) rfl rfl
theorem dL_law__1794 : decode cL_law_ 1794 = .ok (.pop, 1) := zby_g zbyb_851 (i := 14) rfl rfl
theorem dL_law__1795 : decode cL_law_ 1795 = .ok (.aload_n 2, 1) := zby_g zbyb_851 (i := 15) rfl rfl
noncomputable def zbyl_852 : List (Nat × zbyE) := [(1796, zbyo_182 299), (1799, zbyo_87), (1800, zbyo_167 52), (1803, zbyo_43), (1804, zbyo_182 300), (1807, zbyo_44), (1808, zbyo_182 303), (1811, zbyo_167 41), (1814, zbyo_43), (1815, zbyo_182 304), (1818, zbyo_87), (1819, zbyo_44), (1820, zbyo_182 307), (1823, zbyo_87), (1824, zbyo_167 28), (1827, zbyo_43)]
theorem zbyb_852 : zbys zbyl_852 (cL_law_.data.toList.drop 1796) 1796 = true := by decide +kernel
theorem dL_law__1796 : decode cL_law_ 1796 = .ok (.invokevirtual 299, 3) := zby_g zbyb_852 (i := 0) rfl rfl
theorem dL_law__1799 : decode cL_law_ 1799 = .ok (.pop, 1) := zby_g zbyb_852 (i := 1) rfl rfl
theorem dL_law__1800 : decode cL_law_ 1800 = .ok (.goto 52, 3) := zby_g zbyb_852 (i := 2) rfl rfl
theorem dL_law__1803 : decode cL_law_ 1803 = .ok (.aload_n 1, 1) := zby_g zbyb_852 (i := 3) rfl rfl
theorem dL_law__1804 : decode cL_law_ 1804 = .ok (.invokevirtual 300, 3) := zby_g zbyb_852 (i := 4) rfl rfl
theorem dL_law__1807 : decode cL_law_ 1807 = .ok (.aload_n 2, 1) := zby_g zbyb_852 (i := 5) rfl rfl
theorem dL_law__1808 : decode cL_law_ 1808 = .ok (.invokevirtual 303, 3) := zby_g zbyb_852 (i := 6) rfl rfl
theorem dL_law__1811 : decode cL_law_ 1811 = .ok (.goto 41, 3) := zby_g zbyb_852 (i := 7) rfl rfl
theorem dL_law__1814 : decode cL_law_ 1814 = .ok (.aload_n 1, 1) := zby_g zbyb_852 (i := 8) rfl rfl
theorem dL_law__1815 : decode cL_law_ 1815 = .ok (.invokevirtual 304, 3) := zby_g zbyb_852 (i := 9) rfl rfl
theorem dL_law__1818 : decode cL_law_ 1818 = .ok (.pop, 1) := zby_g zbyb_852 (i := 10) rfl rfl
theorem dL_law__1819 : decode cL_law_ 1819 = .ok (.aload_n 2, 1) := zby_g zbyb_852 (i := 11) rfl rfl
theorem dL_law__1820 : decode cL_law_ 1820 = .ok (.invokevirtual 307, 3) := zby_g zbyb_852 (i := 12) rfl rfl
theorem dL_law__1823 : decode cL_law_ 1823 = .ok (.pop, 1) := zby_g zbyb_852 (i := 13) rfl rfl
theorem dL_law__1824 : decode cL_law_ 1824 = .ok (.goto 28, 3) := zby_g zbyb_852 (i := 14) rfl rfl
theorem dL_law__1827 : decode cL_law_ 1827 = .ok (.aload_n 1, 1) := zby_g zbyb_852 (i := 15) rfl rfl
noncomputable def zbyl_853 : List (Nat × zbyE) := [(1828, zbyo_42), (1829, zbyo_21 4), (1831, zbyo_4), (1832, zbyo_96), (1833, zbyo_46), (1834, zbyo_182 308), (1837, zbyo_87), (1838, zbyo_44), (1839, zbyo_42), (1840, zbyo_21 4), (1842, zbyo_4), (1843, zbyo_96), (1844, zbyo_46), (1845, zbyo_182 311), (1848, zbyo_87), (1849, zbyo_167 3)]
theorem zbyb_853 : zbys zbyl_853 (cL_law_.data.toList.drop 1828) 1828 = true := by decide +kernel
theorem dL_law__1828 : decode cL_law_ 1828 = .ok (.aload_n 0, 1) := zby_g zbyb_853 (i := 0) rfl rfl
theorem dL_law__1829 : decode cL_law_ 1829 = .ok (.iload 4, 2) := zby_g zbyb_853 (i := 1) rfl rfl
theorem dL_law__1831 : decode cL_law_ 1831 = .ok (.iconst 1, 1) := zby_g zbyb_853 (i := 2) rfl rfl
theorem dL_law__1832 : decode cL_law_ 1832 = .ok (.iadd, 1) := zby_g zbyb_853 (i := 3) rfl rfl
theorem dL_law__1833 : decode cL_law_ 1833 = .ok (.iaload, 1) := zby_g zbyb_853 (i := 4) rfl rfl
theorem dL_law__1834 : decode cL_law_ 1834 = .ok (.invokevirtual 308, 3) := zby_g zbyb_853 (i := 5) rfl rfl
theorem dL_law__1837 : decode cL_law_ 1837 = .ok (.pop, 1) := zby_g zbyb_853 (i := 6) rfl rfl
theorem dL_law__1838 : decode cL_law_ 1838 = .ok (.aload_n 2, 1) := zby_g zbyb_853 (i := 7) rfl rfl
theorem dL_law__1839 : decode cL_law_ 1839 = .ok (.aload_n 0, 1) := zby_g zbyb_853 (i := 8) rfl rfl
theorem dL_law__1840 : decode cL_law_ 1840 = .ok (.iload 4, 2) := zby_g zbyb_853 (i := 9) rfl rfl
theorem dL_law__1842 : decode cL_law_ 1842 = .ok (.iconst 1, 1) := zby_g zbyb_853 (i := 10) rfl rfl
theorem dL_law__1843 : decode cL_law_ 1843 = .ok (.iadd, 1) := zby_g zbyb_853 (i := 11) rfl rfl
theorem dL_law__1844 : decode cL_law_ 1844 = .ok (.iaload, 1) := zby_g zbyb_853 (i := 12) rfl rfl
theorem dL_law__1845 : decode cL_law_ 1845 = .ok (.invokevirtual 311, 3) := zby_g zbyb_853 (i := 13) rfl rfl
theorem dL_law__1848 : decode cL_law_ 1848 = .ok (.pop, 1) := zby_g zbyb_853 (i := 14) rfl rfl
theorem dL_law__1849 : decode cL_law_ 1849 = .ok (.goto 3, 3) := zby_g zbyb_853 (i := 15) rfl rfl
noncomputable def zbyl_854 : List (Nat × zbyE) := [(1852, zbyo_132 4 6), (1855, zbyo_167 (-1832)), (1858, zbyo_4), (1859, zbyo_172)]
theorem zbyb_854 : zbys zbyl_854 (cL_law_.data.toList.drop 1852) 1852 = true := by decide +kernel
theorem dL_law__1852 : decode cL_law_ 1852 = .ok (.iinc 4 6, 3) := zby_g zbyb_854 (i := 0) rfl rfl
theorem dL_law__1855 : decode cL_law_ 1855 = .ok (.goto (-1832), 3) := zby_g zbyb_854 (i := 1) rfl rfl
theorem dL_law__1858 : decode cL_law_ 1858 = .ok (.iconst 1, 1) := zby_g zbyb_854 (i := 2) rfl rfl
theorem dL_law__1859 : decode cL_law_ 1859 = .ok (.ireturn, 1) := zby_g zbyb_854 (i := 3) rfl rfl
