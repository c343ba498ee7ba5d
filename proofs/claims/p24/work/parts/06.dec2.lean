noncomputable def zbyl_402 : List (Nat × zbyE) := [(5, zbyo_42), (6, zbyo_180 7), (9, zbyo_6), (10, zbyo_46), (11, zbyo_162 30), (14, zbyo_27), (15, zbyo_42), (16, zbyo_28), (17, zbyo_182 50), (20, zbyo_153 12), (23, zbyo_42), (24, zbyo_28), (25, zbyo_3), (26, zbyo_182 46), (29, zbyo_167 4), (32, zbyo_3)]
theorem zbyb_402 : zbys zbyl_402 (cX12_believed.data.toList.drop 5) 5 = true := by decide +kernel
theorem dX12_believed_5 : decode cX12_believed 5 = .ok (.aload_n 0, 1) := zby_g zbyb_402 (i := 0) rfl rfl
theorem dX12_believed_6 : decode cX12_believed 6 = .ok (.getfield 7, 3) := zby_g zbyb_402 (i := 1) rfl rfl
theorem dX12_believed_9 : decode cX12_believed 9 = .ok (.iconst 3, 1) := zby_g zbyb_402 (i := 2) rfl rfl
theorem dX12_believed_10 : decode cX12_believed 10 = .ok (.iaload, 1) := zby_g zbyb_402 (i := 3) rfl rfl
theorem dX12_believed_11 : decode cX12_believed 11 = .ok (.if_icmp .ge 30, 3) := zby_g zbyb_402 (i := 4) rfl rfl
theorem dX12_believed_14 : decode cX12_believed 14 = .ok (.iload_n 1, 1) := zby_g zbyb_402 (i := 5) rfl rfl
theorem dX12_believed_15 : decode cX12_believed 15 = .ok (.aload_n 0, 1) := zby_g zbyb_402 (i := 6) rfl rfl
theorem dX12_believed_16 : decode cX12_believed 16 = .ok (.iload_n 2, 1) := zby_g zbyb_402 (i := 7) rfl rfl
theorem dX12_believed_17 : decode cX12_believed 17 = .ok (.invokevirtual 50, 3) := zby_g zbyb_402 (i := 8) rfl rfl
theorem dX12_believed_20 : decode cX12_believed 20 = .ok (.ifCond .eq 12, 3) := zby_g zbyb_402 (i := 9) rfl rfl
theorem dX12_believed_23 : decode cX12_believed 23 = .ok (.aload_n 0, 1) := zby_g zbyb_402 (i := 10) rfl rfl
theorem dX12_believed_24 : decode cX12_believed 24 = .ok (.iload_n 2, 1) := zby_g zbyb_402 (i := 11) rfl rfl
theorem dX12_believed_25 : decode cX12_believed 25 = .ok (.iconst 0, 1) := zby_g zbyb_402 (i := 12) rfl rfl
theorem dX12_believed_26 : decode cX12_believed 26 = .ok (.invokevirtual 46, 3) := zby_g zbyb_402 (i := 13) rfl rfl
theorem dX12_believed_29 : decode cX12_believed 29 = .ok (.goto 4, 3) := zby_g zbyb_402 (i := 14) rfl rfl
theorem dX12_believed_32 : decode cX12_believed 32 = .ok (.iconst 0, 1) := zby_g zbyb_402 (i := 15) rfl rfl
noncomputable def zbyl_403 : List (Nat × zbyE) := [(33, zbyo_96), (34, zbyo_60), (35, zbyo_132 2 1), (38, zbyo_167 (-34)), (41, zbyo_27), (42, zbyo_172)]
theorem zbyb_403 : zbys zbyl_403 (cX12_believed.data.toList.drop 33) 33 = true := by decide +kernel
theorem dX12_believed_33 : decode cX12_believed 33 = .ok (.iadd, 1) := zby_g zbyb_403 (i := 0) rfl rfl
theorem dX12_believed_34 : decode cX12_believed 34 = .ok (.istore_n 1, 1) := zby_g zbyb_403 (i := 1) rfl rfl
theorem dX12_believed_35 : decode cX12_believed 35 = .ok (.iinc 2 1, 3) := zby_g zbyb_403 (i := 2) rfl rfl
theorem dX12_believed_38 : decode cX12_believed 38 = .ok (.goto (-34), 3) := zby_g zbyb_403 (i := 3) rfl rfl
theorem dX12_believed_41 : decode cX12_believed 41 = .ok (.iload_n 1, 1) := zby_g zbyb_403 (i := 4) rfl rfl
theorem dX12_believed_42 : decode cX12_believed 42 = .ok (.ireturn, 1) := zby_g zbyb_403 (i := 5) rfl rfl
noncomputable def zbyl_404 : List (Nat × zbyE) := [(0, zbyo_42), (1, zbyo_182 54), (4, zbyo_184 58), (7, zbyo_60), (8, zbyo_27), (9, zbyo_154 7), (12, zbyo_3), (13, zbyo_167 9), (16, zbyo_42), (17, zbyo_182 62), (20, zbyo_27), (21, zbyo_108), (22, zbyo_172)]
theorem zbyb_404 : zbys zbyl_404 (cX12_mean.data.toList.drop 0) 0 = true := by decide +kernel
theorem dX12_mean_0 : decode cX12_mean 0 = .ok (.aload_n 0, 1) := zby_g zbyb_404 (i := 0) rfl rfl
theorem dX12_mean_1 : decode cX12_mean 1 = .ok (.invokevirtual 54, 3) := zby_g zbyb_404 (i := 1) rfl rfl
theorem dX12_mean_4 : decode cX12_mean 4 = .ok (.invokestatic 58, 3) := zby_g zbyb_404 (i := 2) rfl rfl
theorem dX12_mean_7 : decode cX12_mean 7 = .ok (.istore_n 1, 1) := zby_g zbyb_404 (i := 3) rfl rfl
theorem dX12_mean_8 : decode cX12_mean 8 = .ok (.iload_n 1, 1) := zby_g zbyb_404 (i := 4) rfl rfl
theorem dX12_mean_9 : decode cX12_mean 9 = .ok (.ifCond .ne 7, 3) := zby_g zbyb_404 (i := 5) rfl rfl
theorem dX12_mean_12 : decode cX12_mean 12 = .ok (.iconst 0, 1) := zby_g zbyb_404 (i := 6) rfl rfl
theorem dX12_mean_13 : decode cX12_mean 13 = .ok (.goto 9, 3) := zby_g zbyb_404 (i := 7) rfl rfl
theorem dX12_mean_16 : decode cX12_mean 16 = .ok (.aload_n 0, 1) := zby_g zbyb_404 (i := 8) rfl rfl
theorem dX12_mean_17 : decode cX12_mean 17 = .ok (.invokevirtual 62, 3) := zby_g zbyb_404 (i := 9) rfl rfl
theorem dX12_mean_20 : decode cX12_mean 20 = .ok (.iload_n 1, 1) := zby_g zbyb_404 (i := 10) rfl rfl
theorem dX12_mean_21 : decode cX12_mean 21 = .ok (.idiv, 1) := zby_g zbyb_404 (i := 11) rfl rfl
theorem dX12_mean_22 : decode cX12_mean 22 = .ok (.ireturn, 1) := zby_g zbyb_404 (i := 12) rfl rfl
noncomputable def zbyl_405 : List (Nat × zbyE) := [(0, zbyo_42), (1, zbyo_182 65), (4, zbyo_42), (5, zbyo_182 65), (8, zbyo_104), (9, zbyo_16 50), (11, zbyo_108), (12, zbyo_4), (13, zbyo_96), (14, zbyo_172)]
theorem zbyb_405 : zbys zbyl_405 (cX12_priceNow.data.toList.drop 0) 0 = true := by decide +kernel
theorem dX12_priceNow_0 : decode cX12_priceNow 0 = .ok (.aload_n 0, 1) := zby_g zbyb_405 (i := 0) rfl rfl
theorem dX12_priceNow_1 : decode cX12_priceNow 1 = .ok (.invokevirtual 65, 3) := zby_g zbyb_405 (i := 1) rfl rfl
theorem dX12_priceNow_4 : decode cX12_priceNow 4 = .ok (.aload_n 0, 1) := zby_g zbyb_405 (i := 2) rfl rfl
theorem dX12_priceNow_5 : decode cX12_priceNow 5 = .ok (.invokevirtual 65, 3) := zby_g zbyb_405 (i := 3) rfl rfl
theorem dX12_priceNow_8 : decode cX12_priceNow 8 = .ok (.imul, 1) := zby_g zbyb_405 (i := 4) rfl rfl
theorem dX12_priceNow_9 : decode cX12_priceNow 9 = .ok (.bipush 50, 2) := zby_g zbyb_405 (i := 5) rfl rfl
theorem dX12_priceNow_11 : decode cX12_priceNow 11 = .ok (.idiv, 1) := zby_g zbyb_405 (i := 6) rfl rfl
theorem dX12_priceNow_12 : decode cX12_priceNow 12 = .ok (.iconst 1, 1) := zby_g zbyb_405 (i := 7) rfl rfl
theorem dX12_priceNow_13 : decode cX12_priceNow 13 = .ok (.iadd, 1) := zby_g zbyb_405 (i := 8) rfl rfl
theorem dX12_priceNow_14 : decode cX12_priceNow 14 = .ok (.ireturn, 1) := zby_g zbyb_405 (i := 9) rfl rfl
noncomputable def zbyl_406 : List (Nat × zbyE) := [(0, zbyo_3), (1, zbyo_61), (2, zbyo_3), (3, zbyo_62), (4, zbyo_29), (5, zbyo_42), (6, zbyo_180 7), (9, zbyo_7), (10, zbyo_46), (11, zbyo_162 29), (14, zbyo_28), (15, zbyo_42), (16, zbyo_29), (17, zbyo_6), (18, zbyo_182 68), (21, zbyo_27)]
theorem zbyb_406 : zbys zbyl_406 (cX12_worksOf.data.toList.drop 0) 0 = true := by decide +kernel
theorem dX12_worksOf_0 : decode cX12_worksOf 0 = .ok (.iconst 0, 1) := zby_g zbyb_406 (i := 0) rfl rfl
theorem dX12_worksOf_1 : decode cX12_worksOf 1 = .ok (.istore_n 2, 1) := zby_g zbyb_406 (i := 1) rfl rfl
theorem dX12_worksOf_2 : decode cX12_worksOf 2 = .ok (.iconst 0, 1) := zby_g zbyb_406 (i := 2) rfl rfl
theorem dX12_worksOf_3 : decode cX12_worksOf 3 = .ok (.istore_n 3, 1) := zby_g zbyb_406 (i := 3) rfl rfl
theorem dX12_worksOf_4 : decode cX12_worksOf 4 = .ok (.iload_n 3, 1) := zby_g zbyb_406 (i := 4) rfl rfl
theorem dX12_worksOf_5 : decode cX12_worksOf 5 = .ok (.aload_n 0, 1) := zby_g zbyb_406 (i := 5) rfl rfl
theorem dX12_worksOf_6 : decode cX12_worksOf 6 = .ok (.getfield 7, 3) := zby_g zbyb_406 (i := 6) rfl rfl
theorem dX12_worksOf_9 : decode cX12_worksOf 9 = .ok (.iconst 4, 1) := zby_g zbyb_406 (i := 7) rfl rfl
theorem dX12_worksOf_10 : decode cX12_worksOf 10 = .ok (.iaload, 1) := zby_g zbyb_406 (i := 8) rfl rfl
theorem dX12_worksOf_11 : decode cX12_worksOf 11 = .ok (.if_icmp .ge 29, 3) := zby_g zbyb_406 (i := 9) rfl rfl
theorem dX12_worksOf_14 : decode cX12_worksOf 14 = .ok (.iload_n 2, 1) := zby_g zbyb_406 (i := 10) rfl rfl
theorem dX12_worksOf_15 : decode cX12_worksOf 15 = .ok (.aload_n 0, 1) := zby_g zbyb_406 (i := 11) rfl rfl
theorem dX12_worksOf_16 : decode cX12_worksOf 16 = .ok (.iload_n 3, 1) := zby_g zbyb_406 (i := 12) rfl rfl
theorem dX12_worksOf_17 : decode cX12_worksOf 17 = .ok (.iconst 3, 1) := zby_g zbyb_406 (i := 13) rfl rfl
theorem dX12_worksOf_18 : decode cX12_worksOf 18 = .ok (.invokevirtual 68, 3) := zby_g zbyb_406 (i := 14) rfl rfl
theorem dX12_worksOf_21 : decode cX12_worksOf 21 = .ok (.iload_n 1, 1) := zby_g zbyb_406 (i := 15) rfl rfl
noncomputable def zbyl_407 : List (Nat × zbyE) := [(22, zbyo_160 9), (25, zbyo_4), (26, zbyo_29), (27, zbyo_120), (28, zbyo_167 4), (31, zbyo_3), (32, zbyo_128), (33, zbyo_61), (34, zbyo_132 3 1), (37, zbyo_167 (-33)), (40, zbyo_28), (41, zbyo_172)]
theorem zbyb_407 : zbys zbyl_407 (cX12_worksOf.data.toList.drop 22) 22 = true := by decide +kernel
theorem dX12_worksOf_22 : decode cX12_worksOf 22 = .ok (.if_icmp .ne 9, 3) := zby_g zbyb_407 (i := 0) rfl rfl
theorem dX12_worksOf_25 : decode cX12_worksOf 25 = .ok (.iconst 1, 1) := zby_g zbyb_407 (i := 1) rfl rfl
theorem dX12_worksOf_26 : decode cX12_worksOf 26 = .ok (.iload_n 3, 1) := zby_g zbyb_407 (i := 2) rfl rfl
theorem dX12_worksOf_27 : decode cX12_worksOf 27 = .ok (.ishl, 1) := zby_g zbyb_407 (i := 3) rfl rfl
theorem dX12_worksOf_28 : decode cX12_worksOf 28 = .ok (.goto 4, 3) := zby_g zbyb_407 (i := 4) rfl rfl
theorem dX12_worksOf_31 : decode cX12_worksOf 31 = .ok (.iconst 0, 1) := zby_g zbyb_407 (i := 5) rfl rfl
theorem dX12_worksOf_32 : decode cX12_worksOf 32 = .ok (.ior, 1) := zby_g zbyb_407 (i := 6) rfl rfl
theorem dX12_worksOf_33 : decode cX12_worksOf 33 = .ok (.istore_n 2, 1) := zby_g zbyb_407 (i := 7) rfl rfl
theorem dX12_worksOf_34 : decode cX12_worksOf 34 = .ok (.iinc 3 1, 3) := zby_g zbyb_407 (i := 8) rfl rfl
theorem dX12_worksOf_37 : decode cX12_worksOf 37 = .ok (.goto (-33), 3) := zby_g zbyb_407 (i := 9) rfl rfl
theorem dX12_worksOf_40 : decode cX12_worksOf 40 = .ok (.iload_n 2, 1) := zby_g zbyb_407 (i := 10) rfl rfl
theorem dX12_worksOf_41 : decode cX12_worksOf 41 = .ok (.ireturn, 1) := zby_g zbyb_407 (i := 11) rfl rfl
noncomputable def zbyl_408 : List (Nat × zbyE) := [(0, zbyo_3), (1, zbyo_61), (2, zbyo_3), (3, zbyo_62), (4, zbyo_29), (5, zbyo_42), (6, zbyo_180 7), (9, zbyo_6), (10, zbyo_46), (11, zbyo_162 31), (14, zbyo_28), (15, zbyo_29), (16, zbyo_27), (17, zbyo_159 16), (20, zbyo_42), (21, zbyo_27)]
theorem zbyb_408 : zbys zbyl_408 (cX12_ties.data.toList.drop 0) 0 = true := by decide +kernel
theorem dX12_ties_0 : decode cX12_ties 0 = .ok (.iconst 0, 1) := zby_g zbyb_408 (i := 0) rfl rfl
theorem dX12_ties_1 : decode cX12_ties 1 = .ok (.istore_n 2, 1) := zby_g zbyb_408 (i := 1) rfl rfl
theorem dX12_ties_2 : decode cX12_ties 2 = .ok (.iconst 0, 1) := zby_g zbyb_408 (i := 2) rfl rfl
theorem dX12_ties_3 : decode cX12_ties 3 = .ok (.istore_n 3, 1) := zby_g zbyb_408 (i := 3) rfl rfl
theorem dX12_ties_4 : decode cX12_ties 4 = .ok (.iload_n 3, 1) := zby_g zbyb_408 (i := 4) rfl rfl
theorem dX12_ties_5 : decode cX12_ties 5 = .ok (.aload_n 0, 1) := zby_g zbyb_408 (i := 5) rfl rfl
theorem dX12_ties_6 : decode cX12_ties 6 = .ok (.getfield 7, 3) := zby_g zbyb_408 (i := 6) rfl rfl
theorem dX12_ties_9 : decode cX12_ties 9 = .ok (.iconst 3, 1) := zby_g zbyb_408 (i := 7) rfl rfl
theorem dX12_ties_10 : decode cX12_ties 10 = .ok (.iaload, 1) := zby_g zbyb_408 (i := 8) rfl rfl
theorem dX12_ties_11 : decode cX12_ties 11 = .ok (.if_icmp .ge 31, 3) := zby_g zbyb_408 (i := 9) rfl rfl
theorem dX12_ties_14 : decode cX12_ties 14 = .ok (.iload_n 2, 1) := zby_g zbyb_408 (i := 10) rfl rfl
theorem dX12_ties_15 : decode cX12_ties 15 = .ok (.iload_n 3, 1) := zby_g zbyb_408 (i := 11) rfl rfl
theorem dX12_ties_16 : decode cX12_ties 16 = .ok (.iload_n 1, 1) := zby_g zbyb_408 (i := 12) rfl rfl
theorem dX12_ties_17 : decode cX12_ties 17 = .ok (.if_icmp .eq 16, 3) := zby_g zbyb_408 (i := 13) rfl rfl
theorem dX12_ties_20 : decode cX12_ties 20 = .ok (.aload_n 0, 1) := zby_g zbyb_408 (i := 14) rfl rfl
theorem dX12_ties_21 : decode cX12_ties 21 = .ok (.iload_n 1, 1) := zby_g zbyb_408 (i := 15) rfl rfl
noncomputable def zbyl_409 : List (Nat × zbyE) := [(22, zbyo_29), (23, zbyo_182 71), (26, zbyo_158 7), (29, zbyo_4), (30, zbyo_167 4), (33, zbyo_3), (34, zbyo_96), (35, zbyo_61), (36, zbyo_132 3 1), (39, zbyo_167 (-35)), (42, zbyo_28), (43, zbyo_172)]
theorem zbyb_409 : zbys zbyl_409 (cX12_ties.data.toList.drop 22) 22 = true := by decide +kernel
theorem dX12_ties_22 : decode cX12_ties 22 = .ok (.iload_n 3, 1) := zby_g zbyb_409 (i := 0) rfl rfl
theorem dX12_ties_23 : decode cX12_ties 23 = .ok (.invokevirtual 71, 3) := zby_g zbyb_409 (i := 1) rfl rfl
theorem dX12_ties_26 : decode cX12_ties 26 = .ok (.ifCond .le 7, 3) := zby_g zbyb_409 (i := 2) rfl rfl
theorem dX12_ties_29 : decode cX12_ties 29 = .ok (.iconst 1, 1) := zby_g zbyb_409 (i := 3) rfl rfl
theorem dX12_ties_30 : decode cX12_ties 30 = .ok (.goto 4, 3) := zby_g zbyb_409 (i := 4) rfl rfl
theorem dX12_ties_33 : decode cX12_ties 33 = .ok (.iconst 0, 1) := zby_g zbyb_409 (i := 5) rfl rfl
theorem dX12_ties_34 : decode cX12_ties 34 = .ok (.iadd, 1) := zby_g zbyb_409 (i := 6) rfl rfl
theorem dX12_ties_35 : decode cX12_ties 35 = .ok (.istore_n 2, 1) := zby_g zbyb_409 (i := 7) rfl rfl
theorem dX12_ties_36 : decode cX12_ties 36 = .ok (.iinc 3 1, 3) := zby_g zbyb_409 (i := 8) rfl rfl
theorem dX12_ties_39 : decode cX12_ties 39 = .ok (.goto (-35), 3) := zby_g zbyb_409 (i := 9) rfl rfl
theorem dX12_ties_42 : decode cX12_ties 42 = .ok (.iload_n 2, 1) := zby_g zbyb_409 (i := 10) rfl rfl
theorem dX12_ties_43 : decode cX12_ties 43 = .ok (.ireturn, 1) := zby_g zbyb_409 (i := 11) rfl rfl
noncomputable def zbyl_410 : List (Nat × zbyE) := [(0, zbyo_3), (1, zbyo_61), (2, zbyo_3), (3, zbyo_62), (4, zbyo_29), (5, zbyo_42), (6, zbyo_180 7), (9, zbyo_6), (10, zbyo_46), (11, zbyo_162 49), (14, zbyo_28), (15, zbyo_29), (16, zbyo_27), (17, zbyo_159 34), (20, zbyo_42), (21, zbyo_29)]
theorem zbyb_410 : zbys zbyl_410 (cX12_pull.data.toList.drop 0) 0 = true := by decide +kernel
theorem dX12_pull_0 : decode cX12_pull 0 = .ok (.iconst 0, 1) := zby_g zbyb_410 (i := 0) rfl rfl
theorem dX12_pull_1 : decode cX12_pull 1 = .ok (.istore_n 2, 1) := zby_g zbyb_410 (i := 1) rfl rfl
theorem dX12_pull_2 : decode cX12_pull 2 = .ok (.iconst 0, 1) := zby_g zbyb_410 (i := 2) rfl rfl
theorem dX12_pull_3 : decode cX12_pull 3 = .ok (.istore_n 3, 1) := zby_g zbyb_410 (i := 3) rfl rfl
theorem dX12_pull_4 : decode cX12_pull 4 = .ok (.iload_n 3, 1) := zby_g zbyb_410 (i := 4) rfl rfl
theorem dX12_pull_5 : decode cX12_pull 5 = .ok (.aload_n 0, 1) := zby_g zbyb_410 (i := 5) rfl rfl
theorem dX12_pull_6 : decode cX12_pull 6 = .ok (.getfield 7, 3) := zby_g zbyb_410 (i := 6) rfl rfl
theorem dX12_pull_9 : decode cX12_pull 9 = .ok (.iconst 3, 1) := zby_g zbyb_410 (i := 7) rfl rfl
theorem dX12_pull_10 : decode cX12_pull 10 = .ok (.iaload, 1) := zby_g zbyb_410 (i := 8) rfl rfl
theorem dX12_pull_11 : decode cX12_pull 11 = .ok (.if_icmp .ge 49, 3) := zby_g zbyb_410 (i := 9) rfl rfl
theorem dX12_pull_14 : decode cX12_pull 14 = .ok (.iload_n 2, 1) := zby_g zbyb_410 (i := 10) rfl rfl
theorem dX12_pull_15 : decode cX12_pull 15 = .ok (.iload_n 3, 1) := zby_g zbyb_410 (i := 11) rfl rfl
theorem dX12_pull_16 : decode cX12_pull 16 = .ok (.iload_n 1, 1) := zby_g zbyb_410 (i := 12) rfl rfl
theorem dX12_pull_17 : decode cX12_pull 17 = .ok (.if_icmp .eq 34, 3) := zby_g zbyb_410 (i := 13) rfl rfl
theorem dX12_pull_20 : decode cX12_pull 20 = .ok (.aload_n 0, 1) := zby_g zbyb_410 (i := 14) rfl rfl
theorem dX12_pull_21 : decode cX12_pull 21 = .ok (.iload_n 3, 1) := zby_g zbyb_410 (i := 15) rfl rfl
noncomputable def zbyl_411 : List (Nat × zbyE) := [(22, zbyo_182 50), (25, zbyo_153 26), (28, zbyo_42), (29, zbyo_27), (30, zbyo_29), (31, zbyo_182 71), (34, zbyo_42), (35, zbyo_29), (36, zbyo_3), (37, zbyo_182 46), (40, zbyo_42), (41, zbyo_27), (42, zbyo_3), (43, zbyo_182 46), (46, zbyo_100), (47, zbyo_104)]
theorem zbyb_411 : zbys zbyl_411 (cX12_pull.data.toList.drop 22) 22 = true := by decide +kernel
theorem dX12_pull_22 : decode cX12_pull 22 = .ok (.invokevirtual 50, 3) := zby_g zbyb_411 (i := 0) rfl rfl
theorem dX12_pull_25 : decode cX12_pull 25 = .ok (.ifCond .eq 26, 3) := zby_g zbyb_411 (i := 1) rfl rfl
theorem dX12_pull_28 : decode cX12_pull 28 = .ok (.aload_n 0, 1) := zby_g zbyb_411 (i := 2) rfl rfl
theorem dX12_pull_29 : decode cX12_pull 29 = .ok (.iload_n 1, 1) := zby_g zbyb_411 (i := 3) rfl rfl
theorem dX12_pull_30 : decode cX12_pull 30 = .ok (.iload_n 3, 1) := zby_g zbyb_411 (i := 4) rfl rfl
theorem dX12_pull_31 : decode cX12_pull 31 = .ok (.invokevirtual 71, 3) := zby_g zbyb_411 (i := 5) rfl rfl
theorem dX12_pull_34 : decode cX12_pull 34 = .ok (.aload_n 0, 1) := zby_g zbyb_411 (i := 6) rfl rfl
theorem dX12_pull_35 : decode cX12_pull 35 = .ok (.iload_n 3, 1) := zby_g zbyb_411 (i := 7) rfl rfl
theorem dX12_pull_36 : decode cX12_pull 36 = .ok (.iconst 0, 1) := zby_g zbyb_411 (i := 8) rfl rfl
theorem dX12_pull_37 : decode cX12_pull 37 = .ok (.invokevirtual 46, 3) := zby_g zbyb_411 (i := 9) rfl rfl
theorem dX12_pull_40 : decode cX12_pull 40 = .ok (.aload_n 0, 1) := zby_g zbyb_411 (i := 10) rfl rfl
theorem dX12_pull_41 : decode cX12_pull 41 = .ok (.iload_n 1, 1) := zby_g zbyb_411 (i := 11) rfl rfl
theorem dX12_pull_42 : decode cX12_pull 42 = .ok (.iconst 0, 1) := zby_g zbyb_411 (i := 12) rfl rfl
theorem dX12_pull_43 : decode cX12_pull 43 = .ok (.invokevirtual 46, 3) := zby_g zbyb_411 (i := 13) rfl rfl
theorem dX12_pull_46 : decode cX12_pull 46 = .ok (.isub, 1) := zby_g zbyb_411 (i := 14) rfl rfl
theorem dX12_pull_47 : decode cX12_pull 47 = .ok (.imul, 1) := zby_g zbyb_411 (i := 15) rfl rfl
noncomputable def zbyl_412 : List (Nat × zbyE) := [(48, zbyo_167 4), (51, zbyo_3), (52, zbyo_96), (53, zbyo_61), (54, zbyo_132 3 1), (57, zbyo_167 (-53)), (60, zbyo_28), (61, zbyo_156 12), (64, zbyo_28), (65, zbyo_116), (66, zbyo_16 40), (68, zbyo_108), (69, zbyo_116), (70, zbyo_167 7), (73, zbyo_28), (74, zbyo_16 40)]
theorem zbyb_412 : zbys zbyl_412 (cX12_pull.data.toList.drop 48) 48 = true := by decide +kernel
theorem dX12_pull_48 : decode cX12_pull 48 = .ok (.goto 4, 3) := zby_g zbyb_412 (i := 0) rfl rfl
theorem dX12_pull_51 : decode cX12_pull 51 = .ok (.iconst 0, 1) := zby_g zbyb_412 (i := 1) rfl rfl
theorem dX12_pull_52 : decode cX12_pull 52 = .ok (.iadd, 1) := zby_g zbyb_412 (i := 2) rfl rfl
theorem dX12_pull_53 : decode cX12_pull 53 = .ok (.istore_n 2, 1) := zby_g zbyb_412 (i := 3) rfl rfl
theorem dX12_pull_54 : decode cX12_pull 54 = .ok (.iinc 3 1, 3) := zby_g zbyb_412 (i := 4) rfl rfl
theorem dX12_pull_57 : decode cX12_pull 57 = .ok (.goto (-53), 3) := zby_g zbyb_412 (i := 5) rfl rfl
theorem dX12_pull_60 : decode cX12_pull 60 = .ok (.iload_n 2, 1) := zby_g zbyb_412 (i := 6) rfl rfl
theorem dX12_pull_61 : decode cX12_pull 61 = .ok (.ifCond .ge 12, 3) := zby_g zbyb_412 (i := 7) rfl rfl
theorem dX12_pull_64 : decode cX12_pull 64 = .ok (.iload_n 2, 1) := zby_g zbyb_412 (i := 8) rfl rfl
theorem dX12_pull_65 : decode cX12_pull 65 = .ok (.ineg, 1) := zby_g zbyb_412 (i := 9) rfl rfl
theorem dX12_pull_66 : decode cX12_pull 66 = .ok (.bipush 40, 2) := zby_g zbyb_412 (i := 10) rfl rfl
theorem dX12_pull_68 : decode cX12_pull 68 = .ok (.idiv, 1) := zby_g zbyb_412 (i := 11) rfl rfl
theorem dX12_pull_69 : decode cX12_pull 69 = .ok (.ineg, 1) := zby_g zbyb_412 (i := 12) rfl rfl
theorem dX12_pull_70 : decode cX12_pull 70 = .ok (.goto 7, 3) := zby_g zbyb_412 (i := 13) rfl rfl
theorem dX12_pull_73 : decode cX12_pull 73 = .ok (.iload_n 2, 1) := zby_g zbyb_412 (i := 14) rfl rfl
theorem dX12_pull_74 : decode cX12_pull 74 = .ok (.bipush 40, 2) := zby_g zbyb_412 (i := 15) rfl rfl
noncomputable def zbyl_413 : List (Nat × zbyE) := [(76, zbyo_108), (77, zbyo_172)]
theorem zbyb_413 : zbys zbyl_413 (cX12_pull.data.toList.drop 76) 76 = true := by decide +kernel
theorem dX12_pull_76 : decode cX12_pull 76 = .ok (.idiv, 1) := zby_g zbyb_413 (i := 0) rfl rfl
theorem dX12_pull_77 : decode cX12_pull 77 = .ok (.ireturn, 1) := zby_g zbyb_413 (i := 1) rfl rfl
noncomputable def zbyl_414 : List (Nat × zbyE) := [(0, zbyo_42), (1, zbyo_3), (2, zbyo_181 39), (5, zbyo_42), (6, zbyo_180 74), (9, zbyo_16 20), (11, zbyo_96), (12, zbyo_17 400), (15, zbyo_164 5), (18, zbyo_2), (19, zbyo_172), (20, zbyo_3), (21, zbyo_54 6), (23, zbyo_21 6), (25, zbyo_16 20), (27, zbyo_162 93)]
theorem zbyb_414 : zbys zbyl_414 (cX12_feed.data.toList.drop 0) 0 = true := by decide +kernel
theorem dX12_feed_0 : decode cX12_feed 0 = .ok (.aload_n 0, 1) := zby_g zbyb_414 (i := 0) rfl rfl
theorem dX12_feed_1 : decode cX12_feed 1 = .ok (.iconst 0, 1) := zby_g zbyb_414 (i := 1) rfl rfl
theorem dX12_feed_2 : decode cX12_feed 2 = .ok (.putfield 39, 3) := zby_g zbyb_414 (i := 2) rfl rfl
theorem dX12_feed_5 : decode cX12_feed 5 = .ok (.aload_n 0, 1) := zby_g zbyb_414 (i := 3) rfl rfl
theorem dX12_feed_6 : decode cX12_feed 6 = .ok (.getfield 74, 3) := zby_g zbyb_414 (i := 4) rfl rfl
theorem dX12_feed_9 : decode cX12_feed 9 = .ok (.bipush 20, 2) := zby_g zbyb_414 (i := 5) rfl rfl
theorem dX12_feed_11 : decode cX12_feed 11 = .ok (.iadd, 1) := zby_g zbyb_414 (i := 6) rfl rfl
theorem dX12_feed_12 : decode cX12_feed 12 = .ok (.sipush 400, 3) := zby_g zbyb_414 (i := 7) rfl rfl
theorem dX12_feed_15 : decode cX12_feed 15 = .ok (.if_icmp .le 5, 3) := zby_g zbyb_414 (i := 8) rfl rfl
theorem dX12_feed_18 : decode cX12_feed 18 = .ok (.iconst (-1), 1) := zby_g zbyb_414 (i := 9) rfl rfl
theorem dX12_feed_19 : decode cX12_feed 19 = .ok (.ireturn, 1) := zby_g zbyb_414 (i := 10) rfl rfl
theorem dX12_feed_20 : decode cX12_feed 20 = .ok (.iconst 0, 1) := zby_g zbyb_414 (i := 11) rfl rfl
theorem dX12_feed_21 : decode cX12_feed 21 = .ok (.istore 6, 2) := zby_g zbyb_414 (i := 12) rfl rfl
theorem dX12_feed_23 : decode cX12_feed 23 = .ok (.iload 6, 2) := zby_g zbyb_414 (i := 13) rfl rfl
theorem dX12_feed_25 : decode cX12_feed 25 = .ok (.bipush 20, 2) := zby_g zbyb_414 (i := 14) rfl rfl
theorem dX12_feed_27 : decode cX12_feed 27 = .ok (.if_icmp .ge 93, 3) := zby_g zbyb_414 (i := 15) rfl rfl
noncomputable def zbyl_415 : List (Nat × zbyE) := [(30, zbyo_21 6), (32, zbyo_7), (33, zbyo_162 7), (36, zbyo_27), (37, zbyo_167 39), (40, zbyo_21 6), (42, zbyo_16 8), (44, zbyo_162 7), (47, zbyo_28), (48, zbyo_167 28), (51, zbyo_21 6), (53, zbyo_16 12), (55, zbyo_162 7), (58, zbyo_29), (59, zbyo_167 17), (62, zbyo_21 6)]
theorem zbyb_415 : zbys zbyl_415 (cX12_feed.data.toList.drop 30) 30 = true := by decide +kernel
theorem dX12_feed_30 : decode cX12_feed 30 = .ok (.iload 6, 2) := zby_g zbyb_415 (i := 0) rfl rfl
theorem dX12_feed_32 : decode cX12_feed 32 = .ok (.iconst 4, 1) := zby_g zbyb_415 (i := 1) rfl rfl
theorem dX12_feed_33 : decode cX12_feed 33 = .ok (.if_icmp .ge 7, 3) := zby_g zbyb_415 (i := 2) rfl rfl
theorem dX12_feed_36 : decode cX12_feed 36 = .ok (.iload_n 1, 1) := zby_g zbyb_415 (i := 3) rfl rfl
theorem dX12_feed_37 : decode cX12_feed 37 = .ok (.goto 39, 3) := zby_g zbyb_415 (i := 4) rfl rfl
theorem dX12_feed_40 : decode cX12_feed 40 = .ok (.iload 6, 2) := zby_g zbyb_415 (i := 5) rfl rfl
theorem dX12_feed_42 : decode cX12_feed 42 = .ok (.bipush 8, 2) := zby_g zbyb_415 (i := 6) rfl rfl
theorem dX12_feed_44 : decode cX12_feed 44 = .ok (.if_icmp .ge 7, 3) := zby_g zbyb_415 (i := 7) rfl rfl
theorem dX12_feed_47 : decode cX12_feed 47 = .ok (.iload_n 2, 1) := zby_g zbyb_415 (i := 8) rfl rfl
theorem dX12_feed_48 : decode cX12_feed 48 = .ok (.goto 28, 3) := zby_g zbyb_415 (i := 9) rfl rfl
theorem dX12_feed_51 : decode cX12_feed 51 = .ok (.iload 6, 2) := zby_g zbyb_415 (i := 10) rfl rfl
theorem dX12_feed_53 : decode cX12_feed 53 = .ok (.bipush 12, 2) := zby_g zbyb_415 (i := 11) rfl rfl
theorem dX12_feed_55 : decode cX12_feed 55 = .ok (.if_icmp .ge 7, 3) := zby_g zbyb_415 (i := 12) rfl rfl
theorem dX12_feed_58 : decode cX12_feed 58 = .ok (.iload_n 3, 1) := zby_g zbyb_415 (i := 13) rfl rfl
theorem dX12_feed_59 : decode cX12_feed 59 = .ok (.goto 17, 3) := zby_g zbyb_415 (i := 14) rfl rfl
theorem dX12_feed_62 : decode cX12_feed 62 = .ok (.iload 6, 2) := zby_g zbyb_415 (i := 15) rfl rfl
noncomputable def zbyl_416 : List (Nat × zbyE) := [(64, zbyo_16 16), (66, zbyo_162 8), (69, zbyo_21 4), (71, zbyo_167 5), (74, zbyo_21 5), (76, zbyo_54 7), (78, zbyo_42), (79, zbyo_180 22), (82, zbyo_42), (83, zbyo_180 74), (86, zbyo_21 7), (88, zbyo_16 24), (90, zbyo_16 8), (92, zbyo_21 6), (94, zbyo_7), (95, zbyo_112)]
theorem zbyb_416 : zbys zbyl_416 (cX12_feed.data.toList.drop 64) 64 = true := by decide +kernel
theorem dX12_feed_64 : decode cX12_feed 64 = .ok (.bipush 16, 2) := zby_g zbyb_416 (i := 0) rfl rfl
theorem dX12_feed_66 : decode cX12_feed 66 = .ok (.if_icmp .ge 8, 3) := zby_g zbyb_416 (i := 1) rfl rfl
theorem dX12_feed_69 : decode cX12_feed 69 = .ok (.iload 4, 2) := zby_g zbyb_416 (i := 2) rfl rfl
theorem dX12_feed_71 : decode cX12_feed 71 = .ok (.goto 5, 3) := zby_g zbyb_416 (i := 3) rfl rfl
theorem dX12_feed_74 : decode cX12_feed 74 = .ok (.iload 5, 2) := zby_g zbyb_416 (i := 4) rfl rfl
theorem dX12_feed_76 : decode cX12_feed 76 = .ok (.istore 7, 2) := zby_g zbyb_416 (i := 5) rfl rfl
theorem dX12_feed_78 : decode cX12_feed 78 = .ok (.aload_n 0, 1) := zby_g zbyb_416 (i := 6) rfl rfl
theorem dX12_feed_79 : decode cX12_feed 79 = .ok (.getfield 22, 3) := zby_g zbyb_416 (i := 7) rfl rfl
theorem dX12_feed_82 : decode cX12_feed 82 = .ok (.aload_n 0, 1) := zby_g zbyb_416 (i := 8) rfl rfl
theorem dX12_feed_83 : decode cX12_feed 83 = .ok (.getfield 74, 3) := zby_g zbyb_416 (i := 9) rfl rfl
theorem dX12_feed_86 : decode cX12_feed 86 = .ok (.iload 7, 2) := zby_g zbyb_416 (i := 10) rfl rfl
theorem dX12_feed_88 : decode cX12_feed 88 = .ok (.bipush 24, 2) := zby_g zbyb_416 (i := 11) rfl rfl
theorem dX12_feed_90 : decode cX12_feed 90 = .ok (.bipush 8, 2) := zby_g zbyb_416 (i := 12) rfl rfl
theorem dX12_feed_92 : decode cX12_feed 92 = .ok (.iload 6, 2) := zby_g zbyb_416 (i := 13) rfl rfl
theorem dX12_feed_94 : decode cX12_feed 94 = .ok (.iconst 4, 1) := zby_g zbyb_416 (i := 14) rfl rfl
theorem dX12_feed_95 : decode cX12_feed 95 = .ok (.irem, 1) := zby_g zbyb_416 (i := 15) rfl rfl
noncomputable def zbyl_417 : List (Nat × zbyE) := [(96, zbyo_104), (97, zbyo_100), (98, zbyo_124), (99, zbyo_17 255), (102, zbyo_126), (103, zbyo_79), (104, zbyo_42), (105, zbyo_89), (106, zbyo_180 74), (109, zbyo_4), (110, zbyo_96), (111, zbyo_181 74), (114, zbyo_132 6 1), (117, zbyo_167 (-94)), (120, zbyo_42), (121, zbyo_180 74)]
theorem zbyb_417 : zbys zbyl_417 (cX12_feed.data.toList.drop 96) 96 = true := by decide +kernel
theorem dX12_feed_96 : decode cX12_feed 96 = .ok (.imul, 1) := zby_g zbyb_417 (i := 0) rfl rfl
theorem dX12_feed_97 : decode cX12_feed 97 = .ok (.isub, 1) := zby_g zbyb_417 (i := 1) rfl rfl
theorem dX12_feed_98 : decode cX12_feed 98 = .ok (.iushr, 1) := zby_g zbyb_417 (i := 2) rfl rfl
theorem dX12_feed_99 : decode cX12_feed 99 = .ok (.sipush 255, 3) := zby_g zbyb_417 (i := 3) rfl rfl
theorem dX12_feed_102 : decode cX12_feed 102 = .ok (.iand, 1) := zby_g zbyb_417 (i := 4) rfl rfl
theorem dX12_feed_103 : decode cX12_feed 103 = .ok (.iastore, 1) := zby_g zbyb_417 (i := 5) rfl rfl
theorem dX12_feed_104 : decode cX12_feed 104 = .ok (.aload_n 0, 1) := zby_g zbyb_417 (i := 6) rfl rfl
theorem dX12_feed_105 : decode cX12_feed 105 = .ok (.dup, 1) := zby_g zbyb_417 (i := 7) rfl rfl
theorem dX12_feed_106 : decode cX12_feed 106 = .ok (.getfield 74, 3) := zby_g zbyb_417 (i := 8) rfl rfl
theorem dX12_feed_109 : decode cX12_feed 109 = .ok (.iconst 1, 1) := zby_g zbyb_417 (i := 9) rfl rfl
theorem dX12_feed_110 : decode cX12_feed 110 = .ok (.iadd, 1) := zby_g zbyb_417 (i := 10) rfl rfl
theorem dX12_feed_111 : decode cX12_feed 111 = .ok (.putfield 74, 3) := zby_g zbyb_417 (i := 11) rfl rfl
theorem dX12_feed_114 : decode cX12_feed 114 = .ok (.iinc 6 1, 3) := zby_g zbyb_417 (i := 12) rfl rfl
theorem dX12_feed_117 : decode cX12_feed 117 = .ok (.goto (-94), 3) := zby_g zbyb_417 (i := 13) rfl rfl
theorem dX12_feed_120 : decode cX12_feed 120 = .ok (.aload_n 0, 1) := zby_g zbyb_417 (i := 14) rfl rfl
theorem dX12_feed_121 : decode cX12_feed 121 = .ok (.getfield 74, 3) := zby_g zbyb_417 (i := 15) rfl rfl
noncomputable def zbyl_418 : List (Nat × zbyE) := [(124, zbyo_172)]
theorem zbyb_418 : zbys zbyl_418 (cX12_feed.data.toList.drop 124) 124 = true := by decide +kernel
theorem dX12_feed_124 : decode cX12_feed 124 = .ok (.ireturn, 1) := zby_g zbyb_418 (i := 0) rfl rfl
noncomputable def zbyl_419 : List (Nat × zbyE) := [(0, zbyo_42), (1, zbyo_3), (2, zbyo_181 39), (5, zbyo_27), (6, zbyo_3), (7, zbyo_42), (8, zbyo_180 74), (11, zbyo_184 42), (14, zbyo_154 5), (17, zbyo_3), (18, zbyo_172), (19, zbyo_42), (20, zbyo_27), (21, zbyo_181 74), (24, zbyo_4), (25, zbyo_172)]
theorem zbyb_419 : zbys zbyl_419 (cX12_end.data.toList.drop 0) 0 = true := by decide +kernel
theorem dX12_end_0 : decode cX12_end 0 = .ok (.aload_n 0, 1) := zby_g zbyb_419 (i := 0) rfl rfl
theorem dX12_end_1 : decode cX12_end 1 = .ok (.iconst 0, 1) := zby_g zbyb_419 (i := 1) rfl rfl
theorem dX12_end_2 : decode cX12_end 2 = .ok (.putfield 39, 3) := zby_g zbyb_419 (i := 2) rfl rfl
theorem dX12_end_5 : decode cX12_end 5 = .ok (.iload_n 1, 1) := zby_g zbyb_419 (i := 3) rfl rfl
theorem dX12_end_6 : decode cX12_end 6 = .ok (.iconst 0, 1) := zby_g zbyb_419 (i := 4) rfl rfl
theorem dX12_end_7 : decode cX12_end 7 = .ok (.aload_n 0, 1) := zby_g zbyb_419 (i := 5) rfl rfl
theorem dX12_end_8 : decode cX12_end 8 = .ok (.getfield 74, 3) := zby_g zbyb_419 (i := 6) rfl rfl
theorem dX12_end_11 : decode cX12_end 11 = .ok (.invokestatic 42, 3) := zby_g zbyb_419 (i := 7) rfl rfl
theorem dX12_end_14 : decode cX12_end 14 = .ok (.ifCond .ne 5, 3) := zby_g zbyb_419 (i := 8) rfl rfl
theorem dX12_end_17 : decode cX12_end 17 = .ok (.iconst 0, 1) := zby_g zbyb_419 (i := 9) rfl rfl
theorem dX12_end_18 : decode cX12_end 18 = .ok (.ireturn, 1) := zby_g zbyb_419 (i := 10) rfl rfl
theorem dX12_end_19 : decode cX12_end 19 = .ok (.aload_n 0, 1) := zby_g zbyb_419 (i := 11) rfl rfl
theorem dX12_end_20 : decode cX12_end 20 = .ok (.iload_n 1, 1) := zby_g zbyb_419 (i := 12) rfl rfl
theorem dX12_end_21 : decode cX12_end 21 = .ok (.putfield 74, 3) := zby_g zbyb_419 (i := 13) rfl rfl
theorem dX12_end_24 : decode cX12_end 24 = .ok (.iconst 1, 1) := zby_g zbyb_419 (i := 14) rfl rfl
theorem dX12_end_25 : decode cX12_end 25 = .ok (.ireturn, 1) := zby_g zbyb_419 (i := 15) rfl rfl
noncomputable def zbyl_420 : List (Nat × zbyE) := [(0, zbyo_42), (1, zbyo_180 77), (4, zbyo_2), (5, zbyo_160 12), (8, zbyo_42), (9, zbyo_180 22), (12, zbyo_27), (13, zbyo_46), (14, zbyo_167 14), (17, zbyo_42), (18, zbyo_180 7), (21, zbyo_42), (22, zbyo_180 77), (25, zbyo_27), (26, zbyo_96), (27, zbyo_46)]
theorem zbyb_420 : zbys zbyl_420 (cX12_letter.data.toList.drop 0) 0 = true := by decide +kernel
theorem dX12_letter_0 : decode cX12_letter 0 = .ok (.aload_n 0, 1) := zby_g zbyb_420 (i := 0) rfl rfl
theorem dX12_letter_1 : decode cX12_letter 1 = .ok (.getfield 77, 3) := zby_g zbyb_420 (i := 1) rfl rfl
theorem dX12_letter_4 : decode cX12_letter 4 = .ok (.iconst (-1), 1) := zby_g zbyb_420 (i := 2) rfl rfl
theorem dX12_letter_5 : decode cX12_letter 5 = .ok (.if_icmp .ne 12, 3) := zby_g zbyb_420 (i := 3) rfl rfl
theorem dX12_letter_8 : decode cX12_letter 8 = .ok (.aload_n 0, 1) := zby_g zbyb_420 (i := 4) rfl rfl
theorem dX12_letter_9 : decode cX12_letter 9 = .ok (.getfield 22, 3) := zby_g zbyb_420 (i := 5) rfl rfl
theorem dX12_letter_12 : decode cX12_letter 12 = .ok (.iload_n 1, 1) := zby_g zbyb_420 (i := 6) rfl rfl
theorem dX12_letter_13 : decode cX12_letter 13 = .ok (.iaload, 1) := zby_g zbyb_420 (i := 7) rfl rfl
theorem dX12_letter_14 : decode cX12_letter 14 = .ok (.goto 14, 3) := zby_g zbyb_420 (i := 8) rfl rfl
theorem dX12_letter_17 : decode cX12_letter 17 = .ok (.aload_n 0, 1) := zby_g zbyb_420 (i := 9) rfl rfl
theorem dX12_letter_18 : decode cX12_letter 18 = .ok (.getfield 7, 3) := zby_g zbyb_420 (i := 10) rfl rfl
theorem dX12_letter_21 : decode cX12_letter 21 = .ok (.aload_n 0, 1) := zby_g zbyb_420 (i := 11) rfl rfl
theorem dX12_letter_22 : decode cX12_letter 22 = .ok (.getfield 77, 3) := zby_g zbyb_420 (i := 12) rfl rfl
theorem dX12_letter_25 : decode cX12_letter 25 = .ok (.iload_n 1, 1) := zby_g zbyb_420 (i := 13) rfl rfl
theorem dX12_letter_26 : decode cX12_letter 26 = .ok (.iadd, 1) := zby_g zbyb_420 (i := 14) rfl rfl
theorem dX12_letter_27 : decode cX12_letter 27 = .ok (.iaload, 1) := zby_g zbyb_420 (i := 15) rfl rfl
noncomputable def zbyl_421 : List (Nat × zbyE) := [(28, zbyo_172)]
theorem zbyb_421 : zbys zbyl_421 (cX12_letter.data.toList.drop 28) 28 = true := by decide +kernel
theorem dX12_letter_28 : decode cX12_letter 28 = .ok (.ireturn, 1) := zby_g zbyb_421 (i := 0) rfl rfl
noncomputable def zbyl_422 : List (Nat × zbyE) := [(0, zbyo_42), (1, zbyo_180 80), (4, zbyo_42), (5, zbyo_180 83), (8, zbyo_162 29), (11, zbyo_42), (12, zbyo_42), (13, zbyo_180 80), (16, zbyo_182 86), (19, zbyo_16 32), (21, zbyo_160 16), (24, zbyo_42), (25, zbyo_89), (26, zbyo_180 80), (29, zbyo_4), (30, zbyo_96)]
theorem zbyb_422 : zbys zbyl_422 (cX12_skip.data.toList.drop 0) 0 = true := by decide +kernel
theorem dX12_skip_0 : decode cX12_skip 0 = .ok (.aload_n 0, 1) := zby_g zbyb_422 (i := 0) rfl rfl
theorem dX12_skip_1 : decode cX12_skip 1 = .ok (.getfield 80, 3) := zby_g zbyb_422 (i := 1) rfl rfl
theorem dX12_skip_4 : decode cX12_skip 4 = .ok (.aload_n 0, 1) := zby_g zbyb_422 (i := 2) rfl rfl
theorem dX12_skip_5 : decode cX12_skip 5 = .ok (.getfield 83, 3) := zby_g zbyb_422 (i := 3) rfl rfl
theorem dX12_skip_8 : decode cX12_skip 8 = .ok (.if_icmp .ge 29, 3) := zby_g zbyb_422 (i := 4) rfl rfl
theorem dX12_skip_11 : decode cX12_skip 11 = .ok (.aload_n 0, 1) := zby_g zbyb_422 (i := 5) rfl rfl
theorem dX12_skip_12 : decode cX12_skip 12 = .ok (.aload_n 0, 1) := zby_g zbyb_422 (i := 6) rfl rfl
theorem dX12_skip_13 : decode cX12_skip 13 = .ok (.getfield 80, 3) := zby_g zbyb_422 (i := 7) rfl rfl
theorem dX12_skip_16 : decode cX12_skip 16 = .ok (.invokevirtual 86, 3) := zby_g zbyb_422 (i := 8) rfl rfl
theorem dX12_skip_19 : decode cX12_skip 19 = .ok (.bipush 32, 2) := zby_g zbyb_422 (i := 9) rfl rfl
theorem dX12_skip_21 : decode cX12_skip 21 = .ok (.if_icmp .ne 16, 3) := zby_g zbyb_422 (i := 10) rfl rfl
theorem dX12_skip_24 : decode cX12_skip 24 = .ok (.aload_n 0, 1) := zby_g zbyb_422 (i := 11) rfl rfl
theorem dX12_skip_25 : decode cX12_skip 25 = .ok (.dup, 1) := zby_g zbyb_422 (i := 12) rfl rfl
theorem dX12_skip_26 : decode cX12_skip 26 = .ok (.getfield 80, 3) := zby_g zbyb_422 (i := 13) rfl rfl
theorem dX12_skip_29 : decode cX12_skip 29 = .ok (.iconst 1, 1) := zby_g zbyb_422 (i := 14) rfl rfl
theorem dX12_skip_30 : decode cX12_skip 30 = .ok (.iadd, 1) := zby_g zbyb_422 (i := 15) rfl rfl
noncomputable def zbyl_423 : List (Nat × zbyE) := [(31, zbyo_181 80), (34, zbyo_167 (-34)), (37, zbyo_177)]
theorem zbyb_423 : zbys zbyl_423 (cX12_skip.data.toList.drop 31) 31 = true := by decide +kernel
theorem dX12_skip_31 : decode cX12_skip 31 = .ok (.putfield 80, 3) := zby_g zbyb_423 (i := 0) rfl rfl
theorem dX12_skip_34 : decode cX12_skip 34 = .ok (.goto (-34), 3) := zby_g zbyb_423 (i := 1) rfl rfl
theorem dX12_skip_37 : decode cX12_skip 37 = .ok (.return_, 1) := zby_g zbyb_423 (i := 2) rfl rfl
noncomputable def zbyl_424 : List (Nat × zbyE) := [(0, zbyo_42), (1, zbyo_182 89), (4, zbyo_42), (5, zbyo_180 80), (8, zbyo_42), (9, zbyo_180 83), (12, zbyo_162 19), (15, zbyo_42), (16, zbyo_42), (17, zbyo_180 80), (20, zbyo_182 86), (23, zbyo_27), (24, zbyo_160 7), (27, zbyo_4), (28, zbyo_167 4), (31, zbyo_3)]
theorem zbyb_424 : zbys zbyl_424 (cX12_isSign.data.toList.drop 0) 0 = true := by decide +kernel
theorem dX12_isSign_0 : decode cX12_isSign 0 = .ok (.aload_n 0, 1) := zby_g zbyb_424 (i := 0) rfl rfl
theorem dX12_isSign_1 : decode cX12_isSign 1 = .ok (.invokevirtual 89, 3) := zby_g zbyb_424 (i := 1) rfl rfl
theorem dX12_isSign_4 : decode cX12_isSign 4 = .ok (.aload_n 0, 1) := zby_g zbyb_424 (i := 2) rfl rfl
theorem dX12_isSign_5 : decode cX12_isSign 5 = .ok (.getfield 80, 3) := zby_g zbyb_424 (i := 3) rfl rfl
theorem dX12_isSign_8 : decode cX12_isSign 8 = .ok (.aload_n 0, 1) := zby_g zbyb_424 (i := 4) rfl rfl
theorem dX12_isSign_9 : decode cX12_isSign 9 = .ok (.getfield 83, 3) := zby_g zbyb_424 (i := 5) rfl rfl
theorem dX12_isSign_12 : decode cX12_isSign 12 = .ok (.if_icmp .ge 19, 3) := zby_g zbyb_424 (i := 6) rfl rfl
theorem dX12_isSign_15 : decode cX12_isSign 15 = .ok (.aload_n 0, 1) := zby_g zbyb_424 (i := 7) rfl rfl
theorem dX12_isSign_16 : decode cX12_isSign 16 = .ok (.aload_n 0, 1) := zby_g zbyb_424 (i := 8) rfl rfl
theorem dX12_isSign_17 : decode cX12_isSign 17 = .ok (.getfield 80, 3) := zby_g zbyb_424 (i := 9) rfl rfl
theorem dX12_isSign_20 : decode cX12_isSign 20 = .ok (.invokevirtual 86, 3) := zby_g zbyb_424 (i := 10) rfl rfl
theorem dX12_isSign_23 : decode cX12_isSign 23 = .ok (.iload_n 1, 1) := zby_g zbyb_424 (i := 11) rfl rfl
theorem dX12_isSign_24 : decode cX12_isSign 24 = .ok (.if_icmp .ne 7, 3) := zby_g zbyb_424 (i := 12) rfl rfl
theorem dX12_isSign_27 : decode cX12_isSign 27 = .ok (.iconst 1, 1) := zby_g zbyb_424 (i := 13) rfl rfl
theorem dX12_isSign_28 : decode cX12_isSign 28 = .ok (.goto 4, 3) := zby_g zbyb_424 (i := 14) rfl rfl
theorem dX12_isSign_31 : decode cX12_isSign 31 = .ok (.iconst 0, 1) := zby_g zbyb_424 (i := 15) rfl rfl
noncomputable def zbyl_425 : List (Nat × zbyE) := [(32, zbyo_172)]
theorem zbyb_425 : zbys zbyl_425 (cX12_isSign.data.toList.drop 32) 32 = true := by decide +kernel
theorem dX12_isSign_32 : decode cX12_isSign 32 = .ok (.ireturn, 1) := zby_g zbyb_425 (i := 0) rfl rfl
noncomputable def zbyl_426 : List (Nat × zbyE) := [(0, zbyo_42), (1, zbyo_182 89), (4, zbyo_42), (5, zbyo_180 80), (8, zbyo_61), (9, zbyo_28), (10, zbyo_42), (11, zbyo_180 83), (14, zbyo_162 24), (17, zbyo_42), (18, zbyo_28), (19, zbyo_182 86), (22, zbyo_16 97), (24, zbyo_16 122), (26, zbyo_184 42), (29, zbyo_153 9)]
theorem zbyb_426 : zbys zbyl_426 (cX12_has.data.toList.drop 0) 0 = true := by decide +kernel
theorem dX12_has_0 : decode cX12_has 0 = .ok (.aload_n 0, 1) := zby_g zbyb_426 (i := 0) rfl rfl
theorem dX12_has_1 : decode cX12_has 1 = .ok (.invokevirtual 89, 3) := zby_g zbyb_426 (i := 1) rfl rfl
theorem dX12_has_4 : decode cX12_has 4 = .ok (.aload_n 0, 1) := zby_g zbyb_426 (i := 2) rfl rfl
theorem dX12_has_5 : decode cX12_has 5 = .ok (.getfield 80, 3) := zby_g zbyb_426 (i := 3) rfl rfl
theorem dX12_has_8 : decode cX12_has 8 = .ok (.istore_n 2, 1) := zby_g zbyb_426 (i := 4) rfl rfl
theorem dX12_has_9 : decode cX12_has 9 = .ok (.iload_n 2, 1) := zby_g zbyb_426 (i := 5) rfl rfl
theorem dX12_has_10 : decode cX12_has 10 = .ok (.aload_n 0, 1) := zby_g zbyb_426 (i := 6) rfl rfl
theorem dX12_has_11 : decode cX12_has 11 = .ok (.getfield 83, 3) := zby_g zbyb_426 (i := 7) rfl rfl
theorem dX12_has_14 : decode cX12_has 14 = .ok (.if_icmp .ge 24, 3) := zby_g zbyb_426 (i := 8) rfl rfl
theorem dX12_has_17 : decode cX12_has 17 = .ok (.aload_n 0, 1) := zby_g zbyb_426 (i := 9) rfl rfl
theorem dX12_has_18 : decode cX12_has 18 = .ok (.iload_n 2, 1) := zby_g zbyb_426 (i := 10) rfl rfl
theorem dX12_has_19 : decode cX12_has 19 = .ok (.invokevirtual 86, 3) := zby_g zbyb_426 (i := 11) rfl rfl
theorem dX12_has_22 : decode cX12_has 22 = .ok (.bipush 97, 2) := zby_g zbyb_426 (i := 12) rfl rfl
theorem dX12_has_24 : decode cX12_has 24 = .ok (.bipush 122, 2) := zby_g zbyb_426 (i := 13) rfl rfl
theorem dX12_has_26 : decode cX12_has 26 = .ok (.invokestatic 42, 3) := zby_g zbyb_426 (i := 14) rfl rfl
theorem dX12_has_29 : decode cX12_has 29 = .ok (.ifCond .eq 9, 3) := zby_g zbyb_426 (i := 15) rfl rfl
noncomputable def zbyl_427 : List (Nat × zbyE) := [(32, zbyo_132 2 1), (35, zbyo_167 (-26)), (38, zbyo_28), (39, zbyo_42), (40, zbyo_180 80), (43, zbyo_100), (44, zbyo_43), (45, zbyo_182 92), (48, zbyo_159 5), (51, zbyo_3), (52, zbyo_172), (53, zbyo_3), (54, zbyo_62), (55, zbyo_29), (56, zbyo_43), (57, zbyo_182 92)]
theorem zbyb_427 : zbys zbyl_427 (cX12_has.data.toList.drop 32) 32 = true := by decide +kernel
theorem dX12_has_32 : decode cX12_has 32 = .ok (.iinc 2 1, 3) := zby_g zbyb_427 (i := 0) rfl rfl
theorem dX12_has_35 : decode cX12_has 35 = .ok (.goto (-26), 3) := zby_g zbyb_427 (i := 1) rfl rfl
theorem dX12_has_38 : decode cX12_has 38 = .ok (.iload_n 2, 1) := zby_g zbyb_427 (i := 2) rfl rfl
theorem dX12_has_39 : decode cX12_has 39 = .ok (.aload_n 0, 1) := zby_g zbyb_427 (i := 3) rfl rfl
theorem dX12_has_40 : decode cX12_has 40 = .ok (.getfield 80, 3) := zby_g zbyb_427 (i := 4) rfl rfl
theorem dX12_has_43 : decode cX12_has 43 = .ok (.isub, 1) := zby_g zbyb_427 (i := 5) rfl rfl
theorem dX12_has_44 : decode cX12_has 44 = .ok (.aload_n 1, 1) := zby_g zbyb_427 (i := 6) rfl rfl
theorem dX12_has_45 : decode cX12_has 45 = .ok (.invokevirtual 92, 3) := zby_g zbyb_427 (i := 7) rfl rfl
theorem dX12_has_48 : decode cX12_has 48 = .ok (.if_icmp .eq 5, 3) := zby_g zbyb_427 (i := 8) rfl rfl
theorem dX12_has_51 : decode cX12_has 51 = .ok (.iconst 0, 1) := zby_g zbyb_427 (i := 9) rfl rfl
theorem dX12_has_52 : decode cX12_has 52 = .ok (.ireturn, 1) := zby_g zbyb_427 (i := 10) rfl rfl
theorem dX12_has_53 : decode cX12_has 53 = .ok (.iconst 0, 1) := zby_g zbyb_427 (i := 11) rfl rfl
theorem dX12_has_54 : decode cX12_has 54 = .ok (.istore_n 3, 1) := zby_g zbyb_427 (i := 12) rfl rfl
theorem dX12_has_55 : decode cX12_has 55 = .ok (.iload_n 3, 1) := zby_g zbyb_427 (i := 13) rfl rfl
theorem dX12_has_56 : decode cX12_has 56 = .ok (.aload_n 1, 1) := zby_g zbyb_427 (i := 14) rfl rfl
theorem dX12_has_57 : decode cX12_has 57 = .ok (.invokevirtual 92, 3) := zby_g zbyb_427 (i := 15) rfl rfl
noncomputable def zbyl_428 : List (Nat × zbyE) := [(60, zbyo_162 29), (63, zbyo_42), (64, zbyo_42), (65, zbyo_180 80), (68, zbyo_29), (69, zbyo_96), (70, zbyo_182 86), (73, zbyo_43), (74, zbyo_29), (75, zbyo_182 97), (78, zbyo_159 5), (81, zbyo_3), (82, zbyo_172), (83, zbyo_132 3 1), (86, zbyo_167 (-31)), (89, zbyo_42)]
theorem zbyb_428 : zbys zbyl_428 (cX12_has.data.toList.drop 60) 60 = true := by decide +kernel
theorem dX12_has_60 : decode cX12_has 60 = .ok (.if_icmp .ge 29, 3) := zby_g zbyb_428 (i := 0) rfl rfl
theorem dX12_has_63 : decode cX12_has 63 = .ok (.aload_n 0, 1) := zby_g zbyb_428 (i := 1) rfl rfl
theorem dX12_has_64 : decode cX12_has 64 = .ok (.aload_n 0, 1) := zby_g zbyb_428 (i := 2) rfl rfl
theorem dX12_has_65 : decode cX12_has 65 = .ok (.getfield 80, 3) := zby_g zbyb_428 (i := 3) rfl rfl
theorem dX12_has_68 : decode cX12_has 68 = .ok (.iload_n 3, 1) := zby_g zbyb_428 (i := 4) rfl rfl
theorem dX12_has_69 : decode cX12_has 69 = .ok (.iadd, 1) := zby_g zbyb_428 (i := 5) rfl rfl
theorem dX12_has_70 : decode cX12_has 70 = .ok (.invokevirtual 86, 3) := zby_g zbyb_428 (i := 6) rfl rfl
theorem dX12_has_73 : decode cX12_has 73 = .ok (.aload_n 1, 1) := zby_g zbyb_428 (i := 7) rfl rfl
theorem dX12_has_74 : decode cX12_has 74 = .ok (.iload_n 3, 1) := zby_g zbyb_428 (i := 8) rfl rfl
theorem dX12_has_75 : decode cX12_has 75 = .ok (.invokevirtual 97, 3) := zby_g zbyb_428 (i := 9) rfl rfl
theorem dX12_has_78 : decode cX12_has 78 = .ok (.if_icmp .eq 5, 3) := zby_g zbyb_428 (i := 10) rfl rfl
theorem dX12_has_81 : decode cX12_has 81 = .ok (.iconst 0, 1) := zby_g zbyb_428 (i := 11) rfl rfl
theorem dX12_has_82 : decode cX12_has 82 = .ok (.ireturn, 1) := zby_g zbyb_428 (i := 12) rfl rfl
theorem dX12_has_83 : decode cX12_has 83 = .ok (.iinc 3 1, 3) := zby_g zbyb_428 (i := 13) rfl rfl
theorem dX12_has_86 : decode cX12_has 86 = .ok (.goto (-31), 3) := zby_g zbyb_428 (i := 14) rfl rfl
theorem dX12_has_89 : decode cX12_has 89 = .ok (.aload_n 0, 1) := zby_g zbyb_428 (i := 15) rfl rfl
noncomputable def zbyl_429 : List (Nat × zbyE) := [(90, zbyo_28), (91, zbyo_181 80), (94, zbyo_4), (95, zbyo_172)]
theorem zbyb_429 : zbys zbyl_429 (cX12_has.data.toList.drop 90) 90 = true := by decide +kernel
theorem dX12_has_90 : decode cX12_has 90 = .ok (.iload_n 2, 1) := zby_g zbyb_429 (i := 0) rfl rfl
theorem dX12_has_91 : decode cX12_has 91 = .ok (.putfield 80, 3) := zby_g zbyb_429 (i := 1) rfl rfl
theorem dX12_has_94 : decode cX12_has 94 = .ok (.iconst 1, 1) := zby_g zbyb_429 (i := 2) rfl rfl
theorem dX12_has_95 : decode cX12_has 95 = .ok (.ireturn, 1) := zby_g zbyb_429 (i := 3) rfl rfl
noncomputable def zbyl_430 : List (Nat × zbyE) := [(0, zbyo_42), (1, zbyo_180 25), (4, zbyo_2), (5, zbyo_160 8), (8, zbyo_42), (9, zbyo_27), (10, zbyo_181 25), (13, zbyo_177)]
theorem zbyb_430 : zbys zbyl_430 (cX12_wrong.data.toList.drop 0) 0 = true := by decide +kernel
theorem dX12_wrong_0 : decode cX12_wrong 0 = .ok (.aload_n 0, 1) := zby_g zbyb_430 (i := 0) rfl rfl
theorem dX12_wrong_1 : decode cX12_wrong 1 = .ok (.getfield 25, 3) := zby_g zbyb_430 (i := 1) rfl rfl
theorem dX12_wrong_4 : decode cX12_wrong 4 = .ok (.iconst (-1), 1) := zby_g zbyb_430 (i := 2) rfl rfl
theorem dX12_wrong_5 : decode cX12_wrong 5 = .ok (.if_icmp .ne 8, 3) := zby_g zbyb_430 (i := 3) rfl rfl
theorem dX12_wrong_8 : decode cX12_wrong 8 = .ok (.aload_n 0, 1) := zby_g zbyb_430 (i := 4) rfl rfl
theorem dX12_wrong_9 : decode cX12_wrong 9 = .ok (.iload_n 1, 1) := zby_g zbyb_430 (i := 5) rfl rfl
theorem dX12_wrong_10 : decode cX12_wrong 10 = .ok (.putfield 25, 3) := zby_g zbyb_430 (i := 6) rfl rfl
theorem dX12_wrong_13 : decode cX12_wrong 13 = .ok (.return_, 1) := zby_g zbyb_430 (i := 7) rfl rfl
noncomputable def zbyl_431 : List (Nat × zbyE) := [(0, zbyo_42), (1, zbyo_182 89), (4, zbyo_42), (5, zbyo_180 80), (8, zbyo_172)]
theorem zbyb_431 : zbys zbyl_431 (cX12_here.data.toList.drop 0) 0 = true := by decide +kernel
theorem dX12_here_0 : decode cX12_here 0 = .ok (.aload_n 0, 1) := zby_g zbyb_431 (i := 0) rfl rfl
theorem dX12_here_1 : decode cX12_here 1 = .ok (.invokevirtual 89, 3) := zby_g zbyb_431 (i := 1) rfl rfl
theorem dX12_here_4 : decode cX12_here 4 = .ok (.aload_n 0, 1) := zby_g zbyb_431 (i := 2) rfl rfl
theorem dX12_here_5 : decode cX12_here 5 = .ok (.getfield 80, 3) := zby_g zbyb_431 (i := 3) rfl rfl
theorem dX12_here_8 : decode cX12_here 8 = .ok (.ireturn, 1) := zby_g zbyb_431 (i := 4) rfl rfl
noncomputable def zbyl_432 : List (Nat × zbyE) := [(0, zbyo_42), (1, zbyo_180 25), (4, zbyo_2), (5, zbyo_159 5), (8, zbyo_3), (9, zbyo_172), (10, zbyo_42), (11, zbyo_182 101), (14, zbyo_62), (15, zbyo_3), (16, zbyo_54 4), (18, zbyo_42), (19, zbyo_180 80), (22, zbyo_42), (23, zbyo_180 83), (26, zbyo_162 63)]
theorem zbyb_432 : zbys zbyl_432 (cX12_figures.data.toList.drop 0) 0 = true := by decide +kernel
theorem dX12_figures_0 : decode cX12_figures 0 = .ok (.aload_n 0, 1) := zby_g zbyb_432 (i := 0) rfl rfl
theorem dX12_figures_1 : decode cX12_figures 1 = .ok (.getfield 25, 3) := zby_g zbyb_432 (i := 1) rfl rfl
theorem dX12_figures_4 : decode cX12_figures 4 = .ok (.iconst (-1), 1) := zby_g zbyb_432 (i := 2) rfl rfl
theorem dX12_figures_5 : decode cX12_figures 5 = .ok (.if_icmp .eq 5, 3) := zby_g zbyb_432 (i := 3) rfl rfl
theorem dX12_figures_8 : decode cX12_figures 8 = .ok (.iconst 0, 1) := zby_g zbyb_432 (i := 4) rfl rfl
theorem dX12_figures_9 : decode cX12_figures 9 = .ok (.ireturn, 1) := zby_g zbyb_432 (i := 5) rfl rfl
theorem dX12_figures_10 : decode cX12_figures 10 = .ok (.aload_n 0, 1) := zby_g zbyb_432 (i := 6) rfl rfl
theorem dX12_figures_11 : decode cX12_figures 11 = .ok (.invokevirtual 101, 3) := zby_g zbyb_432 (i := 7) rfl rfl
theorem dX12_figures_14 : decode cX12_figures 14 = .ok (.istore_n 3, 1) := zby_g zbyb_432 (i := 8) rfl rfl
theorem dX12_figures_15 : decode cX12_figures 15 = .ok (.iconst 0, 1) := zby_g zbyb_432 (i := 9) rfl rfl
theorem dX12_figures_16 : decode cX12_figures 16 = .ok (.istore 4, 2) := zby_g zbyb_432 (i := 10) rfl rfl
theorem dX12_figures_18 : decode cX12_figures 18 = .ok (.aload_n 0, 1) := zby_g zbyb_432 (i := 11) rfl rfl
theorem dX12_figures_19 : decode cX12_figures 19 = .ok (.getfield 80, 3) := zby_g zbyb_432 (i := 12) rfl rfl
theorem dX12_figures_22 : decode cX12_figures 22 = .ok (.aload_n 0, 1) := zby_g zbyb_432 (i := 13) rfl rfl
theorem dX12_figures_23 : decode cX12_figures 23 = .ok (.getfield 83, 3) := zby_g zbyb_432 (i := 14) rfl rfl
theorem dX12_figures_26 : decode cX12_figures 26 = .ok (.if_icmp .ge 63, 3) := zby_g zbyb_432 (i := 15) rfl rfl
noncomputable def zbyl_433 : List (Nat × zbyE) := [(29, zbyo_42), (30, zbyo_42), (31, zbyo_180 80), (34, zbyo_182 86), (37, zbyo_16 48), (39, zbyo_16 57), (41, zbyo_184 42), (44, zbyo_153 45), (47, zbyo_42), (48, zbyo_180 80), (51, zbyo_29), (52, zbyo_100), (53, zbyo_6), (54, zbyo_163 35), (57, zbyo_16 10), (59, zbyo_21 4)]
theorem zbyb_433 : zbys zbyl_433 (cX12_figures.data.toList.drop 29) 29 = true := by decide +kernel
theorem dX12_figures_29 : decode cX12_figures 29 = .ok (.aload_n 0, 1) := zby_g zbyb_433 (i := 0) rfl rfl
theorem dX12_figures_30 : decode cX12_figures 30 = .ok (.aload_n 0, 1) := zby_g zbyb_433 (i := 1) rfl rfl
theorem dX12_figures_31 : decode cX12_figures 31 = .ok (.getfield 80, 3) := zby_g zbyb_433 (i := 2) rfl rfl
theorem dX12_figures_34 : decode cX12_figures 34 = .ok (.invokevirtual 86, 3) := zby_g zbyb_433 (i := 3) rfl rfl
theorem dX12_figures_37 : decode cX12_figures 37 = .ok (.bipush 48, 2) := zby_g zbyb_433 (i := 4) rfl rfl
theorem dX12_figures_39 : decode cX12_figures 39 = .ok (.bipush 57, 2) := zby_g zbyb_433 (i := 5) rfl rfl
theorem dX12_figures_41 : decode cX12_figures 41 = .ok (.invokestatic 42, 3) := zby_g zbyb_433 (i := 6) rfl rfl
theorem dX12_figures_44 : decode cX12_figures 44 = .ok (.ifCond .eq 45, 3) := zby_g zbyb_433 (i := 7) rfl rfl
theorem dX12_figures_47 : decode cX12_figures 47 = .ok (.aload_n 0, 1) := zby_g zbyb_433 (i := 8) rfl rfl
theorem dX12_figures_48 : decode cX12_figures 48 = .ok (.getfield 80, 3) := zby_g zbyb_433 (i := 9) rfl rfl
theorem dX12_figures_51 : decode cX12_figures 51 = .ok (.iload_n 3, 1) := zby_g zbyb_433 (i := 10) rfl rfl
theorem dX12_figures_52 : decode cX12_figures 52 = .ok (.isub, 1) := zby_g zbyb_433 (i := 11) rfl rfl
theorem dX12_figures_53 : decode cX12_figures 53 = .ok (.iconst 3, 1) := zby_g zbyb_433 (i := 12) rfl rfl
theorem dX12_figures_54 : decode cX12_figures 54 = .ok (.if_icmp .gt 35, 3) := zby_g zbyb_433 (i := 13) rfl rfl
theorem dX12_figures_57 : decode cX12_figures 57 = .ok (.bipush 10, 2) := zby_g zbyb_433 (i := 14) rfl rfl
theorem dX12_figures_59 : decode cX12_figures 59 = .ok (.iload 4, 2) := zby_g zbyb_433 (i := 15) rfl rfl
noncomputable def zbyl_434 : List (Nat × zbyE) := [(61, zbyo_104), (62, zbyo_42), (63, zbyo_42), (64, zbyo_180 80), (67, zbyo_182 86), (70, zbyo_96), (71, zbyo_16 48), (73, zbyo_100), (74, zbyo_54 4), (76, zbyo_42), (77, zbyo_89), (78, zbyo_180 80), (81, zbyo_4), (82, zbyo_96), (83, zbyo_181 80), (86, zbyo_167 (-68))]
theorem zbyb_434 : zbys zbyl_434 (cX12_figures.data.toList.drop 61) 61 = true := by decide +kernel
theorem dX12_figures_61 : decode cX12_figures 61 = .ok (.imul, 1) := zby_g zbyb_434 (i := 0) rfl rfl
theorem dX12_figures_62 : decode cX12_figures 62 = .ok (.aload_n 0, 1) := zby_g zbyb_434 (i := 1) rfl rfl
theorem dX12_figures_63 : decode cX12_figures 63 = .ok (.aload_n 0, 1) := zby_g zbyb_434 (i := 2) rfl rfl
theorem dX12_figures_64 : decode cX12_figures 64 = .ok (.getfield 80, 3) := zby_g zbyb_434 (i := 3) rfl rfl
theorem dX12_figures_67 : decode cX12_figures 67 = .ok (.invokevirtual 86, 3) := zby_g zbyb_434 (i := 4) rfl rfl
theorem dX12_figures_70 : decode cX12_figures 70 = .ok (.iadd, 1) := zby_g zbyb_434 (i := 5) rfl rfl
theorem dX12_figures_71 : decode cX12_figures 71 = .ok (.bipush 48, 2) := zby_g zbyb_434 (i := 6) rfl rfl
theorem dX12_figures_73 : decode cX12_figures 73 = .ok (.isub, 1) := zby_g zbyb_434 (i := 7) rfl rfl
theorem dX12_figures_74 : decode cX12_figures 74 = .ok (.istore 4, 2) := zby_g zbyb_434 (i := 8) rfl rfl
theorem dX12_figures_76 : decode cX12_figures 76 = .ok (.aload_n 0, 1) := zby_g zbyb_434 (i := 9) rfl rfl
theorem dX12_figures_77 : decode cX12_figures 77 = .ok (.dup, 1) := zby_g zbyb_434 (i := 10) rfl rfl
theorem dX12_figures_78 : decode cX12_figures 78 = .ok (.getfield 80, 3) := zby_g zbyb_434 (i := 11) rfl rfl
theorem dX12_figures_81 : decode cX12_figures 81 = .ok (.iconst 1, 1) := zby_g zbyb_434 (i := 12) rfl rfl
theorem dX12_figures_82 : decode cX12_figures 82 = .ok (.iadd, 1) := zby_g zbyb_434 (i := 13) rfl rfl
theorem dX12_figures_83 : decode cX12_figures 83 = .ok (.putfield 80, 3) := zby_g zbyb_434 (i := 14) rfl rfl
theorem dX12_figures_86 : decode cX12_figures 86 = .ok (.goto (-68), 3) := zby_g zbyb_434 (i := 15) rfl rfl
noncomputable def zbyl_435 : List (Nat × zbyE) := [(89, zbyo_42), (90, zbyo_180 80), (93, zbyo_29), (94, zbyo_159 25), (97, zbyo_42), (98, zbyo_180 80), (101, zbyo_29), (102, zbyo_100), (103, zbyo_6), (104, zbyo_163 15), (107, zbyo_21 4), (109, zbyo_27), (110, zbyo_161 9), (113, zbyo_21 4), (115, zbyo_28), (116, zbyo_164 8)]
theorem zbyb_435 : zbys zbyl_435 (cX12_figures.data.toList.drop 89) 89 = true := by decide +kernel
theorem dX12_figures_89 : decode cX12_figures 89 = .ok (.aload_n 0, 1) := zby_g zbyb_435 (i := 0) rfl rfl
theorem dX12_figures_90 : decode cX12_figures 90 = .ok (.getfield 80, 3) := zby_g zbyb_435 (i := 1) rfl rfl
theorem dX12_figures_93 : decode cX12_figures 93 = .ok (.iload_n 3, 1) := zby_g zbyb_435 (i := 2) rfl rfl
theorem dX12_figures_94 : decode cX12_figures 94 = .ok (.if_icmp .eq 25, 3) := zby_g zbyb_435 (i := 3) rfl rfl
theorem dX12_figures_97 : decode cX12_figures 97 = .ok (.aload_n 0, 1) := zby_g zbyb_435 (i := 4) rfl rfl
theorem dX12_figures_98 : decode cX12_figures 98 = .ok (.getfield 80, 3) := zby_g zbyb_435 (i := 5) rfl rfl
theorem dX12_figures_101 : decode cX12_figures 101 = .ok (.iload_n 3, 1) := zby_g zbyb_435 (i := 6) rfl rfl
theorem dX12_figures_102 : decode cX12_figures 102 = .ok (.isub, 1) := zby_g zbyb_435 (i := 7) rfl rfl
theorem dX12_figures_103 : decode cX12_figures 103 = .ok (.iconst 3, 1) := zby_g zbyb_435 (i := 8) rfl rfl
theorem dX12_figures_104 : decode cX12_figures 104 = .ok (.if_icmp .gt 15, 3) := zby_g zbyb_435 (i := 9) rfl rfl
theorem dX12_figures_107 : decode cX12_figures 107 = .ok (.iload 4, 2) := zby_g zbyb_435 (i := 10) rfl rfl
theorem dX12_figures_109 : decode cX12_figures 109 = .ok (.iload_n 1, 1) := zby_g zbyb_435 (i := 11) rfl rfl
theorem dX12_figures_110 : decode cX12_figures 110 = .ok (.if_icmp .lt 9, 3) := zby_g zbyb_435 (i := 12) rfl rfl
theorem dX12_figures_113 : decode cX12_figures 113 = .ok (.iload 4, 2) := zby_g zbyb_435 (i := 13) rfl rfl
theorem dX12_figures_115 : decode cX12_figures 115 = .ok (.iload_n 2, 1) := zby_g zbyb_435 (i := 14) rfl rfl
theorem dX12_figures_116 : decode cX12_figures 116 = .ok (.if_icmp .le 8, 3) := zby_g zbyb_435 (i := 15) rfl rfl
noncomputable def zbyl_436 : List (Nat × zbyE) := [(119, zbyo_42), (120, zbyo_29), (121, zbyo_182 104), (124, zbyo_21 4), (126, zbyo_172)]
theorem zbyb_436 : zbys zbyl_436 (cX12_figures.data.toList.drop 119) 119 = true := by decide +kernel
theorem dX12_figures_119 : decode cX12_figures 119 = .ok (.aload_n 0, 1) := zby_g zbyb_436 (i := 0) rfl rfl
theorem dX12_figures_120 : decode cX12_figures 120 = .ok (.iload_n 3, 1) := zby_g zbyb_436 (i := 1) rfl rfl
theorem dX12_figures_121 : decode cX12_figures 121 = .ok (.invokevirtual 104, 3) := zby_g zbyb_436 (i := 2) rfl rfl
theorem dX12_figures_124 : decode cX12_figures 124 = .ok (.iload 4, 2) := zby_g zbyb_436 (i := 3) rfl rfl
theorem dX12_figures_126 : decode cX12_figures 126 = .ok (.ireturn, 1) := zby_g zbyb_436 (i := 4) rfl rfl
noncomputable def zbyl_437 : List (Nat × zbyE) := [(0, zbyo_42), (1, zbyo_180 25), (4, zbyo_2), (5, zbyo_160 19), (8, zbyo_42), (9, zbyo_43), (10, zbyo_182 108), (13, zbyo_154 11), (16, zbyo_42), (17, zbyo_42), (18, zbyo_180 80), (21, zbyo_182 104), (24, zbyo_42), (25, zbyo_28), (26, zbyo_29), (27, zbyo_182 112)]
theorem zbyb_437 : zbys zbyl_437 (cX12_after.data.toList.drop 0) 0 = true := by decide +kernel
theorem dX12_after_0 : decode cX12_after 0 = .ok (.aload_n 0, 1) := zby_g zbyb_437 (i := 0) rfl rfl
theorem dX12_after_1 : decode cX12_after 1 = .ok (.getfield 25, 3) := zby_g zbyb_437 (i := 1) rfl rfl
theorem dX12_after_4 : decode cX12_after 4 = .ok (.iconst (-1), 1) := zby_g zbyb_437 (i := 2) rfl rfl
theorem dX12_after_5 : decode cX12_after 5 = .ok (.if_icmp .ne 19, 3) := zby_g zbyb_437 (i := 3) rfl rfl
theorem dX12_after_8 : decode cX12_after 8 = .ok (.aload_n 0, 1) := zby_g zbyb_437 (i := 4) rfl rfl
theorem dX12_after_9 : decode cX12_after 9 = .ok (.aload_n 1, 1) := zby_g zbyb_437 (i := 5) rfl rfl
theorem dX12_after_10 : decode cX12_after 10 = .ok (.invokevirtual 108, 3) := zby_g zbyb_437 (i := 6) rfl rfl
theorem dX12_after_13 : decode cX12_after 13 = .ok (.ifCond .ne 11, 3) := zby_g zbyb_437 (i := 7) rfl rfl
theorem dX12_after_16 : decode cX12_after 16 = .ok (.aload_n 0, 1) := zby_g zbyb_437 (i := 8) rfl rfl
theorem dX12_after_17 : decode cX12_after 17 = .ok (.aload_n 0, 1) := zby_g zbyb_437 (i := 9) rfl rfl
theorem dX12_after_18 : decode cX12_after 18 = .ok (.getfield 80, 3) := zby_g zbyb_437 (i := 10) rfl rfl
theorem dX12_after_21 : decode cX12_after 21 = .ok (.invokevirtual 104, 3) := zby_g zbyb_437 (i := 11) rfl rfl
theorem dX12_after_24 : decode cX12_after 24 = .ok (.aload_n 0, 1) := zby_g zbyb_437 (i := 12) rfl rfl
theorem dX12_after_25 : decode cX12_after 25 = .ok (.iload_n 2, 1) := zby_g zbyb_437 (i := 13) rfl rfl
theorem dX12_after_26 : decode cX12_after 26 = .ok (.iload_n 3, 1) := zby_g zbyb_437 (i := 14) rfl rfl
theorem dX12_after_27 : decode cX12_after 27 = .ok (.invokevirtual 112, 3) := zby_g zbyb_437 (i := 15) rfl rfl
noncomputable def zbyl_438 : List (Nat × zbyE) := [(30, zbyo_172)]
theorem zbyb_438 : zbys zbyl_438 (cX12_after.data.toList.drop 30) 30 = true := by decide +kernel
theorem dX12_after_30 : decode cX12_after 30 = .ok (.ireturn, 1) := zby_g zbyb_438 (i := 0) rfl rfl
noncomputable def zbyl_439 : List (Nat × zbyE) := [(0, zbyo_42), (1, zbyo_180 7), (4, zbyo_6), (5, zbyo_46), (6, zbyo_16 8), (8, zbyo_160 8), (11, zbyo_42), (12, zbyo_27), (13, zbyo_182 104), (16, zbyo_42), (17, zbyo_3), (18, zbyo_16 99), (20, zbyo_182 112), (23, zbyo_61), (24, zbyo_42), (25, zbyo_18 115)]
theorem zbyb_439 : zbys zbyl_439 (cX12_personLine.data.toList.drop 0) 0 = true := by decide +kernel
theorem dX12_personLine_0 : decode cX12_personLine 0 = .ok (.aload_n 0, 1) := zby_g zbyb_439 (i := 0) rfl rfl
theorem dX12_personLine_1 : decode cX12_personLine 1 = .ok (.getfield 7, 3) := zby_g zbyb_439 (i := 1) rfl rfl
theorem dX12_personLine_4 : decode cX12_personLine 4 = .ok (.iconst 3, 1) := zby_g zbyb_439 (i := 2) rfl rfl
theorem dX12_personLine_5 : decode cX12_personLine 5 = .ok (.iaload, 1) := zby_g zbyb_439 (i := 3) rfl rfl
theorem dX12_personLine_6 : decode cX12_personLine 6 = .ok (.bipush 8, 2) := zby_g zbyb_439 (i := 4) rfl rfl
theorem dX12_personLine_8 : decode cX12_personLine 8 = .ok (.if_icmp .ne 8, 3) := zby_g zbyb_439 (i := 5) rfl rfl
theorem dX12_personLine_11 : decode cX12_personLine 11 = .ok (.aload_n 0, 1) := zby_g zbyb_439 (i := 6) rfl rfl
theorem dX12_personLine_12 : decode cX12_personLine 12 = .ok (.iload_n 1, 1) := zby_g zbyb_439 (i := 7) rfl rfl
theorem dX12_personLine_13 : decode cX12_personLine 13 = .ok (.invokevirtual 104, 3) := zby_g zbyb_439 (i := 8) rfl rfl
theorem dX12_personLine_16 : decode cX12_personLine 16 = .ok (.aload_n 0, 1) := zby_g zbyb_439 (i := 9) rfl rfl
theorem dX12_personLine_17 : decode cX12_personLine 17 = .ok (.iconst 0, 1) := zby_g zbyb_439 (i := 10) rfl rfl
theorem dX12_personLine_18 : decode cX12_personLine 18 = .ok (.bipush 99, 2) := zby_g zbyb_439 (i := 11) rfl rfl
theorem dX12_personLine_20 : decode cX12_personLine 20 = .ok (.invokevirtual 112, 3) := zby_g zbyb_439 (i := 12) rfl rfl
theorem dX12_personLine_23 : decode cX12_personLine 23 = .ok (.istore_n 2, 1) := zby_g zbyb_439 (i := 13) rfl rfl
theorem dX12_personLine_24 : decode cX12_personLine 24 = .ok (.aload_n 0, 1) := zby_g zbyb_439 (i := 14) rfl rfl
theorem dX12_personLine_25 : decode cX12_personLine 25 = .ok (.ldc 115, 2) := zby_g zbyb_439 (i := 15) rfl rfl
noncomputable def zbyl_440 : List (Nat × zbyE) := [(27, zbyo_3), (28, zbyo_17 999), (31, zbyo_182 117), (34, zbyo_62), (35, zbyo_42), (36, zbyo_180 25), (39, zbyo_2), (40, zbyo_160 16), (43, zbyo_42), (44, zbyo_18 121), (46, zbyo_182 108), (49, zbyo_153 7), (52, zbyo_4), (53, zbyo_167 4), (56, zbyo_3), (57, zbyo_54 4)]
theorem zbyb_440 : zbys zbyl_440 (cX12_personLine.data.toList.drop 27) 27 = true := by decide +kernel
theorem dX12_personLine_27 : decode cX12_personLine 27 = .ok (.iconst 0, 1) := zby_g zbyb_440 (i := 0) rfl rfl
theorem dX12_personLine_28 : decode cX12_personLine 28 = .ok (.sipush 999, 3) := zby_g zbyb_440 (i := 1) rfl rfl
theorem dX12_personLine_31 : decode cX12_personLine 31 = .ok (.invokevirtual 117, 3) := zby_g zbyb_440 (i := 2) rfl rfl
theorem dX12_personLine_34 : decode cX12_personLine 34 = .ok (.istore_n 3, 1) := zby_g zbyb_440 (i := 3) rfl rfl
theorem dX12_personLine_35 : decode cX12_personLine 35 = .ok (.aload_n 0, 1) := zby_g zbyb_440 (i := 4) rfl rfl
theorem dX12_personLine_36 : decode cX12_personLine 36 = .ok (.getfield 25, 3) := zby_g zbyb_440 (i := 5) rfl rfl
theorem dX12_personLine_39 : decode cX12_personLine 39 = .ok (.iconst (-1), 1) := zby_g zbyb_440 (i := 6) rfl rfl
theorem dX12_personLine_40 : decode cX12_personLine 40 = .ok (.if_icmp .ne 16, 3) := zby_g zbyb_440 (i := 7) rfl rfl
theorem dX12_personLine_43 : decode cX12_personLine 43 = .ok (.aload_n 0, 1) := zby_g zbyb_440 (i := 8) rfl rfl
theorem dX12_personLine_44 : decode cX12_personLine 44 = .ok (.ldc 121, 2) := zby_g zbyb_440 (i := 9) rfl rfl
theorem dX12_personLine_46 : decode cX12_personLine 46 = .ok (.invokevirtual 108, 3) := zby_g zbyb_440 (i := 10) rfl rfl
theorem dX12_personLine_49 : decode cX12_personLine 49 = .ok (.ifCond .eq 7, 3) := zby_g zbyb_440 (i := 11) rfl rfl
theorem dX12_personLine_52 : decode cX12_personLine 52 = .ok (.iconst 1, 1) := zby_g zbyb_440 (i := 12) rfl rfl
theorem dX12_personLine_53 : decode cX12_personLine 53 = .ok (.goto 4, 3) := zby_g zbyb_440 (i := 13) rfl rfl
theorem dX12_personLine_56 : decode cX12_personLine 56 = .ok (.iconst 0, 1) := zby_g zbyb_440 (i := 14) rfl rfl
theorem dX12_personLine_57 : decode cX12_personLine 57 = .ok (.istore 4, 2) := zby_g zbyb_440 (i := 15) rfl rfl
noncomputable def zbyl_441 : List (Nat × zbyE) := [(59, zbyo_42), (60, zbyo_180 25), (63, zbyo_2), (64, zbyo_159 4), (67, zbyo_177), (68, zbyo_42), (69, zbyo_180 7), (72, zbyo_6), (73, zbyo_46), (74, zbyo_54 5), (76, zbyo_42), (77, zbyo_21 5), (79, zbyo_3), (80, zbyo_28), (81, zbyo_182 123), (84, zbyo_42)]
theorem zbyb_441 : zbys zbyl_441 (cX12_personLine.data.toList.drop 59) 59 = true := by decide +kernel
theorem dX12_personLine_59 : decode cX12_personLine 59 = .ok (.aload_n 0, 1) := zby_g zbyb_441 (i := 0) rfl rfl
theorem dX12_personLine_60 : decode cX12_personLine 60 = .ok (.getfield 25, 3) := zby_g zbyb_441 (i := 1) rfl rfl
theorem dX12_personLine_63 : decode cX12_personLine 63 = .ok (.iconst (-1), 1) := zby_g zbyb_441 (i := 2) rfl rfl
theorem dX12_personLine_64 : decode cX12_personLine 64 = .ok (.if_icmp .eq 4, 3) := zby_g zbyb_441 (i := 3) rfl rfl
theorem dX12_personLine_67 : decode cX12_personLine 67 = .ok (.return_, 1) := zby_g zbyb_441 (i := 4) rfl rfl
theorem dX12_personLine_68 : decode cX12_personLine 68 = .ok (.aload_n 0, 1) := zby_g zbyb_441 (i := 5) rfl rfl
theorem dX12_personLine_69 : decode cX12_personLine 69 = .ok (.getfield 7, 3) := zby_g zbyb_441 (i := 6) rfl rfl
theorem dX12_personLine_72 : decode cX12_personLine 72 = .ok (.iconst 3, 1) := zby_g zbyb_441 (i := 7) rfl rfl
theorem dX12_personLine_73 : decode cX12_personLine 73 = .ok (.iaload, 1) := zby_g zbyb_441 (i := 8) rfl rfl
theorem dX12_personLine_74 : decode cX12_personLine 74 = .ok (.istore 5, 2) := zby_g zbyb_441 (i := 9) rfl rfl
theorem dX12_personLine_76 : decode cX12_personLine 76 = .ok (.aload_n 0, 1) := zby_g zbyb_441 (i := 10) rfl rfl
theorem dX12_personLine_77 : decode cX12_personLine 77 = .ok (.iload 5, 2) := zby_g zbyb_441 (i := 11) rfl rfl
theorem dX12_personLine_79 : decode cX12_personLine 79 = .ok (.iconst 0, 1) := zby_g zbyb_441 (i := 12) rfl rfl
theorem dX12_personLine_80 : decode cX12_personLine 80 = .ok (.iload_n 2, 1) := zby_g zbyb_441 (i := 13) rfl rfl
theorem dX12_personLine_81 : decode cX12_personLine 81 = .ok (.invokevirtual 123, 3) := zby_g zbyb_441 (i := 14) rfl rfl
theorem dX12_personLine_84 : decode cX12_personLine 84 = .ok (.aload_n 0, 1) := zby_g zbyb_441 (i := 15) rfl rfl
noncomputable def zbyl_442 : List (Nat × zbyE) := [(85, zbyo_21 5), (87, zbyo_4), (88, zbyo_29), (89, zbyo_182 123), (92, zbyo_42), (93, zbyo_21 5), (95, zbyo_5), (96, zbyo_3), (97, zbyo_182 123), (100, zbyo_42), (101, zbyo_21 5), (103, zbyo_6), (104, zbyo_21 4), (106, zbyo_153 7), (109, zbyo_4), (110, zbyo_167 4)]
theorem zbyb_442 : zbys zbyl_442 (cX12_personLine.data.toList.drop 85) 85 = true := by decide +kernel
theorem dX12_personLine_85 : decode cX12_personLine 85 = .ok (.iload 5, 2) := zby_g zbyb_442 (i := 0) rfl rfl
theorem dX12_personLine_87 : decode cX12_personLine 87 = .ok (.iconst 1, 1) := zby_g zbyb_442 (i := 1) rfl rfl
theorem dX12_personLine_88 : decode cX12_personLine 88 = .ok (.iload_n 3, 1) := zby_g zbyb_442 (i := 2) rfl rfl
theorem dX12_personLine_89 : decode cX12_personLine 89 = .ok (.invokevirtual 123, 3) := zby_g zbyb_442 (i := 3) rfl rfl
theorem dX12_personLine_92 : decode cX12_personLine 92 = .ok (.aload_n 0, 1) := zby_g zbyb_442 (i := 4) rfl rfl
theorem dX12_personLine_93 : decode cX12_personLine 93 = .ok (.iload 5, 2) := zby_g zbyb_442 (i := 5) rfl rfl
theorem dX12_personLine_95 : decode cX12_personLine 95 = .ok (.iconst 2, 1) := zby_g zbyb_442 (i := 6) rfl rfl
theorem dX12_personLine_96 : decode cX12_personLine 96 = .ok (.iconst 0, 1) := zby_g zbyb_442 (i := 7) rfl rfl
theorem dX12_personLine_97 : decode cX12_personLine 97 = .ok (.invokevirtual 123, 3) := zby_g zbyb_442 (i := 8) rfl rfl
theorem dX12_personLine_100 : decode cX12_personLine 100 = .ok (.aload_n 0, 1) := zby_g zbyb_442 (i := 9) rfl rfl
theorem dX12_personLine_101 : decode cX12_personLine 101 = .ok (.iload 5, 2) := zby_g zbyb_442 (i := 10) rfl rfl
theorem dX12_personLine_103 : decode cX12_personLine 103 = .ok (.iconst 3, 1) := zby_g zbyb_442 (i := 11) rfl rfl
theorem dX12_personLine_104 : decode cX12_personLine 104 = .ok (.iload 4, 2) := zby_g zbyb_442 (i := 12) rfl rfl
theorem dX12_personLine_106 : decode cX12_personLine 106 = .ok (.ifCond .eq 7, 3) := zby_g zbyb_442 (i := 13) rfl rfl
theorem dX12_personLine_109 : decode cX12_personLine 109 = .ok (.iconst 1, 1) := zby_g zbyb_442 (i := 14) rfl rfl
theorem dX12_personLine_110 : decode cX12_personLine 110 = .ok (.goto 4, 3) := zby_g zbyb_442 (i := 15) rfl rfl
noncomputable def zbyl_443 : List (Nat × zbyE) := [(113, zbyo_3), (114, zbyo_182 123), (117, zbyo_42), (118, zbyo_21 5), (120, zbyo_7), (121, zbyo_2), (122, zbyo_182 123), (125, zbyo_42), (126, zbyo_180 7), (129, zbyo_6), (130, zbyo_92), (131, zbyo_46), (132, zbyo_4), (133, zbyo_96), (134, zbyo_79), (135, zbyo_177)]
theorem zbyb_443 : zbys zbyl_443 (cX12_personLine.data.toList.drop 113) 113 = true := by decide +kernel
theorem dX12_personLine_113 : decode cX12_personLine 113 = .ok (.iconst 0, 1) := zby_g zbyb_443 (i := 0) rfl rfl
theorem dX12_personLine_114 : decode cX12_personLine 114 = .ok (.invokevirtual 123, 3) := zby_g zbyb_443 (i := 1) rfl rfl
theorem dX12_personLine_117 : decode cX12_personLine 117 = .ok (.aload_n 0, 1) := zby_g zbyb_443 (i := 2) rfl rfl
theorem dX12_personLine_118 : decode cX12_personLine 118 = .ok (.iload 5, 2) := zby_g zbyb_443 (i := 3) rfl rfl
theorem dX12_personLine_120 : decode cX12_personLine 120 = .ok (.iconst 4, 1) := zby_g zbyb_443 (i := 4) rfl rfl
theorem dX12_personLine_121 : decode cX12_personLine 121 = .ok (.iconst (-1), 1) := zby_g zbyb_443 (i := 5) rfl rfl
theorem dX12_personLine_122 : decode cX12_personLine 122 = .ok (.invokevirtual 123, 3) := zby_g zbyb_443 (i := 6) rfl rfl
theorem dX12_personLine_125 : decode cX12_personLine 125 = .ok (.aload_n 0, 1) := zby_g zbyb_443 (i := 7) rfl rfl
theorem dX12_personLine_126 : decode cX12_personLine 126 = .ok (.getfield 7, 3) := zby_g zbyb_443 (i := 8) rfl rfl
theorem dX12_personLine_129 : decode cX12_personLine 129 = .ok (.iconst 3, 1) := zby_g zbyb_443 (i := 9) rfl rfl
theorem dX12_personLine_130 : decode cX12_personLine 130 = .ok (.dup2, 1) := zby_g zbyb_443 (i := 10) rfl rfl
theorem dX12_personLine_131 : decode cX12_personLine 131 = .ok (.iaload, 1) := zby_g zbyb_443 (i := 11) rfl rfl
theorem dX12_personLine_132 : decode cX12_personLine 132 = .ok (.iconst 1, 1) := zby_g zbyb_443 (i := 12) rfl rfl
theorem dX12_personLine_133 : decode cX12_personLine 133 = .ok (.iadd, 1) := zby_g zbyb_443 (i := 13) rfl rfl
theorem dX12_personLine_134 : decode cX12_personLine 134 = .ok (.iastore, 1) := zby_g zbyb_443 (i := 14) rfl rfl
theorem dX12_personLine_135 : decode cX12_personLine 135 = .ok (.return_, 1) := zby_g zbyb_443 (i := 15) rfl rfl
noncomputable def zbyl_444 : List (Nat × zbyE) := [(0, zbyo_42), (1, zbyo_3), (2, zbyo_42), (3, zbyo_180 7), (6, zbyo_6), (7, zbyo_46), (8, zbyo_4), (9, zbyo_100), (10, zbyo_182 112), (13, zbyo_60), (14, zbyo_42), (15, zbyo_182 101), (18, zbyo_61), (19, zbyo_3), (20, zbyo_62), (21, zbyo_42)]
theorem zbyb_444 : zbys zbyl_444 (cX12_trustsLine.data.toList.drop 0) 0 = true := by decide +kernel
theorem dX12_trustsLine_0 : decode cX12_trustsLine 0 = .ok (.aload_n 0, 1) := zby_g zbyb_444 (i := 0) rfl rfl
theorem dX12_trustsLine_1 : decode cX12_trustsLine 1 = .ok (.iconst 0, 1) := zby_g zbyb_444 (i := 1) rfl rfl
theorem dX12_trustsLine_2 : decode cX12_trustsLine 2 = .ok (.aload_n 0, 1) := zby_g zbyb_444 (i := 2) rfl rfl
theorem dX12_trustsLine_3 : decode cX12_trustsLine 3 = .ok (.getfield 7, 3) := zby_g zbyb_444 (i := 3) rfl rfl
theorem dX12_trustsLine_6 : decode cX12_trustsLine 6 = .ok (.iconst 3, 1) := zby_g zbyb_444 (i := 4) rfl rfl
theorem dX12_trustsLine_7 : decode cX12_trustsLine 7 = .ok (.iaload, 1) := zby_g zbyb_444 (i := 5) rfl rfl
theorem dX12_trustsLine_8 : decode cX12_trustsLine 8 = .ok (.iconst 1, 1) := zby_g zbyb_444 (i := 6) rfl rfl
theorem dX12_trustsLine_9 : decode cX12_trustsLine 9 = .ok (.isub, 1) := zby_g zbyb_444 (i := 7) rfl rfl
theorem dX12_trustsLine_10 : decode cX12_trustsLine 10 = .ok (.invokevirtual 112, 3) := zby_g zbyb_444 (i := 8) rfl rfl
theorem dX12_trustsLine_13 : decode cX12_trustsLine 13 = .ok (.istore_n 1, 1) := zby_g zbyb_444 (i := 9) rfl rfl
theorem dX12_trustsLine_14 : decode cX12_trustsLine 14 = .ok (.aload_n 0, 1) := zby_g zbyb_444 (i := 10) rfl rfl
theorem dX12_trustsLine_15 : decode cX12_trustsLine 15 = .ok (.invokevirtual 101, 3) := zby_g zbyb_444 (i := 11) rfl rfl
theorem dX12_trustsLine_18 : decode cX12_trustsLine 18 = .ok (.istore_n 2, 1) := zby_g zbyb_444 (i := 12) rfl rfl
theorem dX12_trustsLine_19 : decode cX12_trustsLine 19 = .ok (.iconst 0, 1) := zby_g zbyb_444 (i := 13) rfl rfl
theorem dX12_trustsLine_20 : decode cX12_trustsLine 20 = .ok (.istore_n 3, 1) := zby_g zbyb_444 (i := 14) rfl rfl
theorem dX12_trustsLine_21 : decode cX12_trustsLine 21 = .ok (.aload_n 0, 1) := zby_g zbyb_444 (i := 15) rfl rfl
noncomputable def zbyl_445 : List (Nat × zbyE) := [(22, zbyo_180 25), (25, zbyo_2), (26, zbyo_160 36), (29, zbyo_28), (30, zbyo_29), (31, zbyo_96), (32, zbyo_42), (33, zbyo_180 83), (36, zbyo_162 26), (39, zbyo_42), (40, zbyo_28), (41, zbyo_29), (42, zbyo_96), (43, zbyo_182 86), (46, zbyo_16 48), (48, zbyo_16 57)]
theorem zbyb_445 : zbys zbyl_445 (cX12_trustsLine.data.toList.drop 22) 22 = true := by decide +kernel
theorem dX12_trustsLine_22 : decode cX12_trustsLine 22 = .ok (.getfield 25, 3) := zby_g zbyb_445 (i := 0) rfl rfl
theorem dX12_trustsLine_25 : decode cX12_trustsLine 25 = .ok (.iconst (-1), 1) := zby_g zbyb_445 (i := 1) rfl rfl
theorem dX12_trustsLine_26 : decode cX12_trustsLine 26 = .ok (.if_icmp .ne 36, 3) := zby_g zbyb_445 (i := 2) rfl rfl
theorem dX12_trustsLine_29 : decode cX12_trustsLine 29 = .ok (.iload_n 2, 1) := zby_g zbyb_445 (i := 3) rfl rfl
theorem dX12_trustsLine_30 : decode cX12_trustsLine 30 = .ok (.iload_n 3, 1) := zby_g zbyb_445 (i := 4) rfl rfl
theorem dX12_trustsLine_31 : decode cX12_trustsLine 31 = .ok (.iadd, 1) := zby_g zbyb_445 (i := 5) rfl rfl
theorem dX12_trustsLine_32 : decode cX12_trustsLine 32 = .ok (.aload_n 0, 1) := zby_g zbyb_445 (i := 6) rfl rfl
theorem dX12_trustsLine_33 : decode cX12_trustsLine 33 = .ok (.getfield 83, 3) := zby_g zbyb_445 (i := 7) rfl rfl
theorem dX12_trustsLine_36 : decode cX12_trustsLine 36 = .ok (.if_icmp .ge 26, 3) := zby_g zbyb_445 (i := 8) rfl rfl
theorem dX12_trustsLine_39 : decode cX12_trustsLine 39 = .ok (.aload_n 0, 1) := zby_g zbyb_445 (i := 9) rfl rfl
theorem dX12_trustsLine_40 : decode cX12_trustsLine 40 = .ok (.iload_n 2, 1) := zby_g zbyb_445 (i := 10) rfl rfl
theorem dX12_trustsLine_41 : decode cX12_trustsLine 41 = .ok (.iload_n 3, 1) := zby_g zbyb_445 (i := 11) rfl rfl
theorem dX12_trustsLine_42 : decode cX12_trustsLine 42 = .ok (.iadd, 1) := zby_g zbyb_445 (i := 12) rfl rfl
theorem dX12_trustsLine_43 : decode cX12_trustsLine 43 = .ok (.invokevirtual 86, 3) := zby_g zbyb_445 (i := 13) rfl rfl
theorem dX12_trustsLine_46 : decode cX12_trustsLine 46 = .ok (.bipush 48, 2) := zby_g zbyb_445 (i := 14) rfl rfl
theorem dX12_trustsLine_48 : decode cX12_trustsLine 48 = .ok (.bipush 57, 2) := zby_g zbyb_445 (i := 15) rfl rfl
noncomputable def zbyl_446 : List (Nat × zbyE) := [(50, zbyo_184 42), (53, zbyo_153 9), (56, zbyo_132 3 1), (59, zbyo_167 (-38)), (62, zbyo_29), (63, zbyo_42), (64, zbyo_180 7), (67, zbyo_6), (68, zbyo_46), (69, zbyo_159 8), (72, zbyo_42), (73, zbyo_28), (74, zbyo_182 104), (77, zbyo_42), (78, zbyo_180 25), (81, zbyo_2)]
theorem zbyb_446 : zbys zbyl_446 (cX12_trustsLine.data.toList.drop 50) 50 = true := by decide +kernel
theorem dX12_trustsLine_50 : decode cX12_trustsLine 50 = .ok (.invokestatic 42, 3) := zby_g zbyb_446 (i := 0) rfl rfl
theorem dX12_trustsLine_53 : decode cX12_trustsLine 53 = .ok (.ifCond .eq 9, 3) := zby_g zbyb_446 (i := 1) rfl rfl
theorem dX12_trustsLine_56 : decode cX12_trustsLine 56 = .ok (.iinc 3 1, 3) := zby_g zbyb_446 (i := 2) rfl rfl
theorem dX12_trustsLine_59 : decode cX12_trustsLine 59 = .ok (.goto (-38), 3) := zby_g zbyb_446 (i := 3) rfl rfl
theorem dX12_trustsLine_62 : decode cX12_trustsLine 62 = .ok (.iload_n 3, 1) := zby_g zbyb_446 (i := 4) rfl rfl
theorem dX12_trustsLine_63 : decode cX12_trustsLine 63 = .ok (.aload_n 0, 1) := zby_g zbyb_446 (i := 5) rfl rfl
theorem dX12_trustsLine_64 : decode cX12_trustsLine 64 = .ok (.getfield 7, 3) := zby_g zbyb_446 (i := 6) rfl rfl
theorem dX12_trustsLine_67 : decode cX12_trustsLine 67 = .ok (.iconst 3, 1) := zby_g zbyb_446 (i := 7) rfl rfl
theorem dX12_trustsLine_68 : decode cX12_trustsLine 68 = .ok (.iaload, 1) := zby_g zbyb_446 (i := 8) rfl rfl
theorem dX12_trustsLine_69 : decode cX12_trustsLine 69 = .ok (.if_icmp .eq 8, 3) := zby_g zbyb_446 (i := 9) rfl rfl
theorem dX12_trustsLine_72 : decode cX12_trustsLine 72 = .ok (.aload_n 0, 1) := zby_g zbyb_446 (i := 10) rfl rfl
theorem dX12_trustsLine_73 : decode cX12_trustsLine 73 = .ok (.iload_n 2, 1) := zby_g zbyb_446 (i := 11) rfl rfl
theorem dX12_trustsLine_74 : decode cX12_trustsLine 74 = .ok (.invokevirtual 104, 3) := zby_g zbyb_446 (i := 12) rfl rfl
theorem dX12_trustsLine_77 : decode cX12_trustsLine 77 = .ok (.aload_n 0, 1) := zby_g zbyb_446 (i := 13) rfl rfl
theorem dX12_trustsLine_78 : decode cX12_trustsLine 78 = .ok (.getfield 25, 3) := zby_g zbyb_446 (i := 14) rfl rfl
theorem dX12_trustsLine_81 : decode cX12_trustsLine 81 = .ok (.iconst (-1), 1) := zby_g zbyb_446 (i := 15) rfl rfl
noncomputable def zbyl_447 : List (Nat × zbyE) := [(82, zbyo_159 4), (85, zbyo_177), (86, zbyo_3), (87, zbyo_54 4), (89, zbyo_21 4), (91, zbyo_29), (92, zbyo_162 35), (95, zbyo_42), (96, zbyo_180 7), (99, zbyo_16 51), (101, zbyo_16 8), (103, zbyo_27), (104, zbyo_104), (105, zbyo_96), (106, zbyo_21 4), (108, zbyo_96)]
theorem zbyb_447 : zbys zbyl_447 (cX12_trustsLine.data.toList.drop 82) 82 = true := by decide +kernel
theorem dX12_trustsLine_82 : decode cX12_trustsLine 82 = .ok (.if_icmp .eq 4, 3) := zby_g zbyb_447 (i := 0) rfl rfl
theorem dX12_trustsLine_85 : decode cX12_trustsLine 85 = .ok (.return_, 1) := zby_g zbyb_447 (i := 1) rfl rfl
theorem dX12_trustsLine_86 : decode cX12_trustsLine 86 = .ok (.iconst 0, 1) := zby_g zbyb_447 (i := 2) rfl rfl
theorem dX12_trustsLine_87 : decode cX12_trustsLine 87 = .ok (.istore 4, 2) := zby_g zbyb_447 (i := 3) rfl rfl
theorem dX12_trustsLine_89 : decode cX12_trustsLine 89 = .ok (.iload 4, 2) := zby_g zbyb_447 (i := 4) rfl rfl
theorem dX12_trustsLine_91 : decode cX12_trustsLine 91 = .ok (.iload_n 3, 1) := zby_g zbyb_447 (i := 5) rfl rfl
theorem dX12_trustsLine_92 : decode cX12_trustsLine 92 = .ok (.if_icmp .ge 35, 3) := zby_g zbyb_447 (i := 6) rfl rfl
theorem dX12_trustsLine_95 : decode cX12_trustsLine 95 = .ok (.aload_n 0, 1) := zby_g zbyb_447 (i := 7) rfl rfl
theorem dX12_trustsLine_96 : decode cX12_trustsLine 96 = .ok (.getfield 7, 3) := zby_g zbyb_447 (i := 8) rfl rfl
theorem dX12_trustsLine_99 : decode cX12_trustsLine 99 = .ok (.bipush 51, 2) := zby_g zbyb_447 (i := 9) rfl rfl
theorem dX12_trustsLine_101 : decode cX12_trustsLine 101 = .ok (.bipush 8, 2) := zby_g zbyb_447 (i := 10) rfl rfl
theorem dX12_trustsLine_103 : decode cX12_trustsLine 103 = .ok (.iload_n 1, 1) := zby_g zbyb_447 (i := 11) rfl rfl
theorem dX12_trustsLine_104 : decode cX12_trustsLine 104 = .ok (.imul, 1) := zby_g zbyb_447 (i := 12) rfl rfl
theorem dX12_trustsLine_105 : decode cX12_trustsLine 105 = .ok (.iadd, 1) := zby_g zbyb_447 (i := 13) rfl rfl
theorem dX12_trustsLine_106 : decode cX12_trustsLine 106 = .ok (.iload 4, 2) := zby_g zbyb_447 (i := 14) rfl rfl
theorem dX12_trustsLine_108 : decode cX12_trustsLine 108 = .ok (.iadd, 1) := zby_g zbyb_447 (i := 15) rfl rfl
noncomputable def zbyl_448 : List (Nat × zbyE) := [(109, zbyo_42), (110, zbyo_28), (111, zbyo_21 4), (113, zbyo_96), (114, zbyo_182 86), (117, zbyo_16 48), (119, zbyo_100), (120, zbyo_79), (121, zbyo_132 4 1), (124, zbyo_167 (-35)), (127, zbyo_42), (128, zbyo_28), (129, zbyo_29), (130, zbyo_96), (131, zbyo_181 80), (134, zbyo_177)]
theorem zbyb_448 : zbys zbyl_448 (cX12_trustsLine.data.toList.drop 109) 109 = true := by decide +kernel
theorem dX12_trustsLine_109 : decode cX12_trustsLine 109 = .ok (.aload_n 0, 1) := zby_g zbyb_448 (i := 0) rfl rfl
theorem dX12_trustsLine_110 : decode cX12_trustsLine 110 = .ok (.iload_n 2, 1) := zby_g zbyb_448 (i := 1) rfl rfl
theorem dX12_trustsLine_111 : decode cX12_trustsLine 111 = .ok (.iload 4, 2) := zby_g zbyb_448 (i := 2) rfl rfl
theorem dX12_trustsLine_113 : decode cX12_trustsLine 113 = .ok (.iadd, 1) := zby_g zbyb_448 (i := 3) rfl rfl
theorem dX12_trustsLine_114 : decode cX12_trustsLine 114 = .ok (.invokevirtual 86, 3) := zby_g zbyb_448 (i := 4) rfl rfl
theorem dX12_trustsLine_117 : decode cX12_trustsLine 117 = .ok (.bipush 48, 2) := zby_g zbyb_448 (i := 5) rfl rfl
theorem dX12_trustsLine_119 : decode cX12_trustsLine 119 = .ok (.isub, 1) := zby_g zbyb_448 (i := 6) rfl rfl
theorem dX12_trustsLine_120 : decode cX12_trustsLine 120 = .ok (.iastore, 1) := zby_g zbyb_448 (i := 7) rfl rfl
theorem dX12_trustsLine_121 : decode cX12_trustsLine 121 = .ok (.iinc 4 1, 3) := zby_g zbyb_448 (i := 8) rfl rfl
theorem dX12_trustsLine_124 : decode cX12_trustsLine 124 = .ok (.goto (-35), 3) := zby_g zbyb_448 (i := 9) rfl rfl
theorem dX12_trustsLine_127 : decode cX12_trustsLine 127 = .ok (.aload_n 0, 1) := zby_g zbyb_448 (i := 10) rfl rfl
theorem dX12_trustsLine_128 : decode cX12_trustsLine 128 = .ok (.iload_n 2, 1) := zby_g zbyb_448 (i := 11) rfl rfl
theorem dX12_trustsLine_129 : decode cX12_trustsLine 129 = .ok (.iload_n 3, 1) := zby_g zbyb_448 (i := 12) rfl rfl
theorem dX12_trustsLine_130 : decode cX12_trustsLine 130 = .ok (.iadd, 1) := zby_g zbyb_448 (i := 13) rfl rfl
theorem dX12_trustsLine_131 : decode cX12_trustsLine 131 = .ok (.putfield 80, 3) := zby_g zbyb_448 (i := 14) rfl rfl
theorem dX12_trustsLine_134 : decode cX12_trustsLine 134 = .ok (.return_, 1) := zby_g zbyb_448 (i := 15) rfl rfl
noncomputable def zbyl_449 : List (Nat × zbyE) := [(0, zbyo_42), (1, zbyo_180 7), (4, zbyo_7), (5, zbyo_46), (6, zbyo_16 6), (8, zbyo_160 8), (11, zbyo_42), (12, zbyo_27), (13, zbyo_182 104), (16, zbyo_42), (17, zbyo_4), (18, zbyo_16 99), (20, zbyo_182 112), (23, zbyo_61), (24, zbyo_42), (25, zbyo_18 127)]
theorem zbyb_449 : zbys zbyl_449 (cX12_workLine.data.toList.drop 0) 0 = true := by decide +kernel
theorem dX12_workLine_0 : decode cX12_workLine 0 = .ok (.aload_n 0, 1) := zby_g zbyb_449 (i := 0) rfl rfl
theorem dX12_workLine_1 : decode cX12_workLine 1 = .ok (.getfield 7, 3) := zby_g zbyb_449 (i := 1) rfl rfl
theorem dX12_workLine_4 : decode cX12_workLine 4 = .ok (.iconst 4, 1) := zby_g zbyb_449 (i := 2) rfl rfl
theorem dX12_workLine_5 : decode cX12_workLine 5 = .ok (.iaload, 1) := zby_g zbyb_449 (i := 3) rfl rfl
theorem dX12_workLine_6 : decode cX12_workLine 6 = .ok (.bipush 6, 2) := zby_g zbyb_449 (i := 4) rfl rfl
theorem dX12_workLine_8 : decode cX12_workLine 8 = .ok (.if_icmp .ne 8, 3) := zby_g zbyb_449 (i := 5) rfl rfl
theorem dX12_workLine_11 : decode cX12_workLine 11 = .ok (.aload_n 0, 1) := zby_g zbyb_449 (i := 6) rfl rfl
theorem dX12_workLine_12 : decode cX12_workLine 12 = .ok (.iload_n 1, 1) := zby_g zbyb_449 (i := 7) rfl rfl
theorem dX12_workLine_13 : decode cX12_workLine 13 = .ok (.invokevirtual 104, 3) := zby_g zbyb_449 (i := 8) rfl rfl
theorem dX12_workLine_16 : decode cX12_workLine 16 = .ok (.aload_n 0, 1) := zby_g zbyb_449 (i := 9) rfl rfl
theorem dX12_workLine_17 : decode cX12_workLine 17 = .ok (.iconst 1, 1) := zby_g zbyb_449 (i := 10) rfl rfl
theorem dX12_workLine_18 : decode cX12_workLine 18 = .ok (.bipush 99, 2) := zby_g zbyb_449 (i := 11) rfl rfl
theorem dX12_workLine_20 : decode cX12_workLine 20 = .ok (.invokevirtual 112, 3) := zby_g zbyb_449 (i := 12) rfl rfl
theorem dX12_workLine_23 : decode cX12_workLine 23 = .ok (.istore_n 2, 1) := zby_g zbyb_449 (i := 13) rfl rfl
theorem dX12_workLine_24 : decode cX12_workLine 24 = .ok (.aload_n 0, 1) := zby_g zbyb_449 (i := 14) rfl rfl
theorem dX12_workLine_25 : decode cX12_workLine 25 = .ok (.ldc 127, 2) := zby_g zbyb_449 (i := 15) rfl rfl
noncomputable def zbyl_450 : List (Nat × zbyE) := [(27, zbyo_3), (28, zbyo_17 799), (31, zbyo_182 117), (34, zbyo_62), (35, zbyo_42), (36, zbyo_18 129), (38, zbyo_3), (39, zbyo_16 20), (41, zbyo_182 117), (44, zbyo_54 4), (46, zbyo_42), (47, zbyo_180 25), (50, zbyo_2), (51, zbyo_159 4), (54, zbyo_177), (55, zbyo_42)]
theorem zbyb_450 : zbys zbyl_450 (cX12_workLine.data.toList.drop 27) 27 = true := by decide +kernel
theorem dX12_workLine_27 : decode cX12_workLine 27 = .ok (.iconst 0, 1) := zby_g zbyb_450 (i := 0) rfl rfl
theorem dX12_workLine_28 : decode cX12_workLine 28 = .ok (.sipush 799, 3) := zby_g zbyb_450 (i := 1) rfl rfl
theorem dX12_workLine_31 : decode cX12_workLine 31 = .ok (.invokevirtual 117, 3) := zby_g zbyb_450 (i := 2) rfl rfl
theorem dX12_workLine_34 : decode cX12_workLine 34 = .ok (.istore_n 3, 1) := zby_g zbyb_450 (i := 3) rfl rfl
theorem dX12_workLine_35 : decode cX12_workLine 35 = .ok (.aload_n 0, 1) := zby_g zbyb_450 (i := 4) rfl rfl
theorem dX12_workLine_36 : decode cX12_workLine 36 = .ok (.ldc 129, 2) := zby_g zbyb_450 (i := 5) rfl rfl
theorem dX12_workLine_38 : decode cX12_workLine 38 = .ok (.iconst 0, 1) := zby_g zbyb_450 (i := 6) rfl rfl
theorem dX12_workLine_39 : decode cX12_workLine 39 = .ok (.bipush 20, 2) := zby_g zbyb_450 (i := 7) rfl rfl
theorem dX12_workLine_41 : decode cX12_workLine 41 = .ok (.invokevirtual 117, 3) := zby_g zbyb_450 (i := 8) rfl rfl
theorem dX12_workLine_44 : decode cX12_workLine 44 = .ok (.istore 4, 2) := zby_g zbyb_450 (i := 9) rfl rfl
theorem dX12_workLine_46 : decode cX12_workLine 46 = .ok (.aload_n 0, 1) := zby_g zbyb_450 (i := 10) rfl rfl
theorem dX12_workLine_47 : decode cX12_workLine 47 = .ok (.getfield 25, 3) := zby_g zbyb_450 (i := 11) rfl rfl
theorem dX12_workLine_50 : decode cX12_workLine 50 = .ok (.iconst (-1), 1) := zby_g zbyb_450 (i := 12) rfl rfl
theorem dX12_workLine_51 : decode cX12_workLine 51 = .ok (.if_icmp .eq 4, 3) := zby_g zbyb_450 (i := 13) rfl rfl
theorem dX12_workLine_54 : decode cX12_workLine 54 = .ok (.return_, 1) := zby_g zbyb_450 (i := 14) rfl rfl
theorem dX12_workLine_55 : decode cX12_workLine 55 = .ok (.aload_n 0, 1) := zby_g zbyb_450 (i := 15) rfl rfl
noncomputable def zbyl_451 : List (Nat × zbyE) := [(56, zbyo_180 7), (59, zbyo_7), (60, zbyo_46), (61, zbyo_54 5), (63, zbyo_42), (64, zbyo_21 5), (66, zbyo_3), (67, zbyo_28), (68, zbyo_182 131), (71, zbyo_42), (72, zbyo_21 5), (74, zbyo_4), (75, zbyo_29), (76, zbyo_182 131), (79, zbyo_42), (80, zbyo_21 5)]
theorem zbyb_451 : zbys zbyl_451 (cX12_workLine.data.toList.drop 56) 56 = true := by decide +kernel
theorem dX12_workLine_56 : decode cX12_workLine 56 = .ok (.getfield 7, 3) := zby_g zbyb_451 (i := 0) rfl rfl
theorem dX12_workLine_59 : decode cX12_workLine 59 = .ok (.iconst 4, 1) := zby_g zbyb_451 (i := 1) rfl rfl
theorem dX12_workLine_60 : decode cX12_workLine 60 = .ok (.iaload, 1) := zby_g zbyb_451 (i := 2) rfl rfl
theorem dX12_workLine_61 : decode cX12_workLine 61 = .ok (.istore 5, 2) := zby_g zbyb_451 (i := 3) rfl rfl
theorem dX12_workLine_63 : decode cX12_workLine 63 = .ok (.aload_n 0, 1) := zby_g zbyb_451 (i := 4) rfl rfl
theorem dX12_workLine_64 : decode cX12_workLine 64 = .ok (.iload 5, 2) := zby_g zbyb_451 (i := 5) rfl rfl
theorem dX12_workLine_66 : decode cX12_workLine 66 = .ok (.iconst 0, 1) := zby_g zbyb_451 (i := 6) rfl rfl
theorem dX12_workLine_67 : decode cX12_workLine 67 = .ok (.iload_n 2, 1) := zby_g zbyb_451 (i := 7) rfl rfl
theorem dX12_workLine_68 : decode cX12_workLine 68 = .ok (.invokevirtual 131, 3) := zby_g zbyb_451 (i := 8) rfl rfl
theorem dX12_workLine_71 : decode cX12_workLine 71 = .ok (.aload_n 0, 1) := zby_g zbyb_451 (i := 9) rfl rfl
theorem dX12_workLine_72 : decode cX12_workLine 72 = .ok (.iload 5, 2) := zby_g zbyb_451 (i := 10) rfl rfl
theorem dX12_workLine_74 : decode cX12_workLine 74 = .ok (.iconst 1, 1) := zby_g zbyb_451 (i := 11) rfl rfl
theorem dX12_workLine_75 : decode cX12_workLine 75 = .ok (.iload_n 3, 1) := zby_g zbyb_451 (i := 12) rfl rfl
theorem dX12_workLine_76 : decode cX12_workLine 76 = .ok (.invokevirtual 131, 3) := zby_g zbyb_451 (i := 13) rfl rfl
theorem dX12_workLine_79 : decode cX12_workLine 79 = .ok (.aload_n 0, 1) := zby_g zbyb_451 (i := 14) rfl rfl
theorem dX12_workLine_80 : decode cX12_workLine 80 = .ok (.iload 5, 2) := zby_g zbyb_451 (i := 15) rfl rfl
noncomputable def zbyl_452 : List (Nat × zbyE) := [(82, zbyo_5), (83, zbyo_21 4), (85, zbyo_182 131), (88, zbyo_42), (89, zbyo_21 5), (91, zbyo_6), (92, zbyo_3), (93, zbyo_182 131), (96, zbyo_42), (97, zbyo_180 7), (100, zbyo_7), (101, zbyo_92), (102, zbyo_46), (103, zbyo_4), (104, zbyo_96), (105, zbyo_79)]
theorem zbyb_452 : zbys zbyl_452 (cX12_workLine.data.toList.drop 82) 82 = true := by decide +kernel
theorem dX12_workLine_82 : decode cX12_workLine 82 = .ok (.iconst 2, 1) := zby_g zbyb_452 (i := 0) rfl rfl
theorem dX12_workLine_83 : decode cX12_workLine 83 = .ok (.iload 4, 2) := zby_g zbyb_452 (i := 1) rfl rfl
theorem dX12_workLine_85 : decode cX12_workLine 85 = .ok (.invokevirtual 131, 3) := zby_g zbyb_452 (i := 2) rfl rfl
theorem dX12_workLine_88 : decode cX12_workLine 88 = .ok (.aload_n 0, 1) := zby_g zbyb_452 (i := 3) rfl rfl
theorem dX12_workLine_89 : decode cX12_workLine 89 = .ok (.iload 5, 2) := zby_g zbyb_452 (i := 4) rfl rfl
theorem dX12_workLine_91 : decode cX12_workLine 91 = .ok (.iconst 3, 1) := zby_g zbyb_452 (i := 5) rfl rfl
theorem dX12_workLine_92 : decode cX12_workLine 92 = .ok (.iconst 0, 1) := zby_g zbyb_452 (i := 6) rfl rfl
theorem dX12_workLine_93 : decode cX12_workLine 93 = .ok (.invokevirtual 131, 3) := zby_g zbyb_452 (i := 7) rfl rfl
theorem dX12_workLine_96 : decode cX12_workLine 96 = .ok (.aload_n 0, 1) := zby_g zbyb_452 (i := 8) rfl rfl
theorem dX12_workLine_97 : decode cX12_workLine 97 = .ok (.getfield 7, 3) := zby_g zbyb_452 (i := 9) rfl rfl
theorem dX12_workLine_100 : decode cX12_workLine 100 = .ok (.iconst 4, 1) := zby_g zbyb_452 (i := 10) rfl rfl
theorem dX12_workLine_101 : decode cX12_workLine 101 = .ok (.dup2, 1) := zby_g zbyb_452 (i := 11) rfl rfl
theorem dX12_workLine_102 : decode cX12_workLine 102 = .ok (.iaload, 1) := zby_g zbyb_452 (i := 12) rfl rfl
theorem dX12_workLine_103 : decode cX12_workLine 103 = .ok (.iconst 1, 1) := zby_g zbyb_452 (i := 13) rfl rfl
theorem dX12_workLine_104 : decode cX12_workLine 104 = .ok (.iadd, 1) := zby_g zbyb_452 (i := 14) rfl rfl
theorem dX12_workLine_105 : decode cX12_workLine 105 = .ok (.iastore, 1) := zby_g zbyb_452 (i := 15) rfl rfl
noncomputable def zbyl_453 : List (Nat × zbyE) := [(106, zbyo_177)]
theorem zbyb_453 : zbys zbyl_453 (cX12_workLine.data.toList.drop 106) 106 = true := by decide +kernel
theorem dX12_workLine_106 : decode cX12_workLine 106 = .ok (.return_, 1) := zby_g zbyb_453 (i := 0) rfl rfl
noncomputable def zbyl_454 : List (Nat × zbyE) := [(0, zbyo_42), (1, zbyo_28), (2, zbyo_29), (3, zbyo_182 112), (6, zbyo_54 4), (8, zbyo_42), (9, zbyo_180 25), (12, zbyo_2), (13, zbyo_160 11), (16, zbyo_42), (17, zbyo_180 7), (20, zbyo_27), (21, zbyo_21 4), (23, zbyo_79), (24, zbyo_177)]
theorem zbyb_454 : zbys zbyl_454 (cX12_tells.data.toList.drop 0) 0 = true := by decide +kernel
theorem dX12_tells_0 : decode cX12_tells 0 = .ok (.aload_n 0, 1) := zby_g zbyb_454 (i := 0) rfl rfl
theorem dX12_tells_1 : decode cX12_tells 1 = .ok (.iload_n 2, 1) := zby_g zbyb_454 (i := 1) rfl rfl
theorem dX12_tells_2 : decode cX12_tells 2 = .ok (.iload_n 3, 1) := zby_g zbyb_454 (i := 2) rfl rfl
theorem dX12_tells_3 : decode cX12_tells 3 = .ok (.invokevirtual 112, 3) := zby_g zbyb_454 (i := 3) rfl rfl
theorem dX12_tells_6 : decode cX12_tells 6 = .ok (.istore 4, 2) := zby_g zbyb_454 (i := 4) rfl rfl
theorem dX12_tells_8 : decode cX12_tells 8 = .ok (.aload_n 0, 1) := zby_g zbyb_454 (i := 5) rfl rfl
theorem dX12_tells_9 : decode cX12_tells 9 = .ok (.getfield 25, 3) := zby_g zbyb_454 (i := 6) rfl rfl
theorem dX12_tells_12 : decode cX12_tells 12 = .ok (.iconst (-1), 1) := zby_g zbyb_454 (i := 7) rfl rfl
theorem dX12_tells_13 : decode cX12_tells 13 = .ok (.if_icmp .ne 11, 3) := zby_g zbyb_454 (i := 8) rfl rfl
theorem dX12_tells_16 : decode cX12_tells 16 = .ok (.aload_n 0, 1) := zby_g zbyb_454 (i := 9) rfl rfl
theorem dX12_tells_17 : decode cX12_tells 17 = .ok (.getfield 7, 3) := zby_g zbyb_454 (i := 10) rfl rfl
theorem dX12_tells_20 : decode cX12_tells 20 = .ok (.iload_n 1, 1) := zby_g zbyb_454 (i := 11) rfl rfl
theorem dX12_tells_21 : decode cX12_tells 21 = .ok (.iload 4, 2) := zby_g zbyb_454 (i := 12) rfl rfl
theorem dX12_tells_23 : decode cX12_tells 23 = .ok (.iastore, 1) := zby_g zbyb_454 (i := 13) rfl rfl
theorem dX12_tells_24 : decode cX12_tells 24 = .ok (.return_, 1) := zby_g zbyb_454 (i := 14) rfl rfl
noncomputable def zbyl_455 : List (Nat × zbyE) := [(0, zbyo_42), (1, zbyo_182 101), (4, zbyo_60), (5, zbyo_42), (6, zbyo_18 134), (8, zbyo_182 108), (11, zbyo_153 11), (14, zbyo_42), (15, zbyo_27), (16, zbyo_182 136), (19, zbyo_167 178), (22, zbyo_42), (23, zbyo_18 139), (25, zbyo_182 108), (28, zbyo_153 10), (31, zbyo_42)]
theorem zbyb_455 : zbys zbyl_455 (cX12_townLine.data.toList.drop 0) 0 = true := by decide +kernel
theorem dX12_townLine_0 : decode cX12_townLine 0 = .ok (.aload_n 0, 1) := zby_g zbyb_455 (i := 0) rfl rfl
theorem dX12_townLine_1 : decode cX12_townLine 1 = .ok (.invokevirtual 101, 3) := zby_g zbyb_455 (i := 1) rfl rfl
theorem dX12_townLine_4 : decode cX12_townLine 4 = .ok (.istore_n 1, 1) := zby_g zbyb_455 (i := 2) rfl rfl
theorem dX12_townLine_5 : decode cX12_townLine 5 = .ok (.aload_n 0, 1) := zby_g zbyb_455 (i := 3) rfl rfl
theorem dX12_townLine_6 : decode cX12_townLine 6 = .ok (.ldc 134, 2) := zby_g zbyb_455 (i := 4) rfl rfl
theorem dX12_townLine_8 : decode cX12_townLine 8 = .ok (.invokevirtual 108, 3) := zby_g zbyb_455 (i := 5) rfl rfl
theorem dX12_townLine_11 : decode cX12_townLine 11 = .ok (.ifCond .eq 11, 3) := zby_g zbyb_455 (i := 6) rfl rfl
theorem dX12_townLine_14 : decode cX12_townLine 14 = .ok (.aload_n 0, 1) := zby_g zbyb_455 (i := 7) rfl rfl
theorem dX12_townLine_15 : decode cX12_townLine 15 = .ok (.iload_n 1, 1) := zby_g zbyb_455 (i := 8) rfl rfl
theorem dX12_townLine_16 : decode cX12_townLine 16 = .ok (.invokevirtual 136, 3) := zby_g zbyb_455 (i := 9) rfl rfl
theorem dX12_townLine_19 : decode cX12_townLine 19 = .ok (.goto 178, 3) := zby_g zbyb_455 (i := 10) rfl rfl
theorem dX12_townLine_22 : decode cX12_townLine 22 = .ok (.aload_n 0, 1) := zby_g zbyb_455 (i := 11) rfl rfl
theorem dX12_townLine_23 : decode cX12_townLine 23 = .ok (.ldc 139, 2) := zby_g zbyb_455 (i := 12) rfl rfl
theorem dX12_townLine_25 : decode cX12_townLine 25 = .ok (.invokevirtual 108, 3) := zby_g zbyb_455 (i := 13) rfl rfl
theorem dX12_townLine_28 : decode cX12_townLine 28 = .ok (.ifCond .eq 10, 3) := zby_g zbyb_455 (i := 14) rfl rfl
theorem dX12_townLine_31 : decode cX12_townLine 31 = .ok (.aload_n 0, 1) := zby_g zbyb_455 (i := 15) rfl rfl
noncomputable def zbyl_456 : List (Nat × zbyE) := [(32, zbyo_182 141), (35, zbyo_167 162), (38, zbyo_42), (39, zbyo_18 144), (41, zbyo_182 108), (44, zbyo_153 11), (47, zbyo_42), (48, zbyo_27), (49, zbyo_182 146), (52, zbyo_167 145), (55, zbyo_42), (56, zbyo_18 149), (58, zbyo_182 108), (61, zbyo_153 15), (64, zbyo_42), (65, zbyo_8)]
theorem zbyb_456 : zbys zbyl_456 (cX12_townLine.data.toList.drop 32) 32 = true := by decide +kernel
theorem dX12_townLine_32 : decode cX12_townLine 32 = .ok (.invokevirtual 141, 3) := zby_g zbyb_456 (i := 0) rfl rfl
theorem dX12_townLine_35 : decode cX12_townLine 35 = .ok (.goto 162, 3) := zby_g zbyb_456 (i := 1) rfl rfl
theorem dX12_townLine_38 : decode cX12_townLine 38 = .ok (.aload_n 0, 1) := zby_g zbyb_456 (i := 2) rfl rfl
theorem dX12_townLine_39 : decode cX12_townLine 39 = .ok (.ldc 144, 2) := zby_g zbyb_456 (i := 3) rfl rfl
theorem dX12_townLine_41 : decode cX12_townLine 41 = .ok (.invokevirtual 108, 3) := zby_g zbyb_456 (i := 4) rfl rfl
theorem dX12_townLine_44 : decode cX12_townLine 44 = .ok (.ifCond .eq 11, 3) := zby_g zbyb_456 (i := 5) rfl rfl
theorem dX12_townLine_47 : decode cX12_townLine 47 = .ok (.aload_n 0, 1) := zby_g zbyb_456 (i := 6) rfl rfl
theorem dX12_townLine_48 : decode cX12_townLine 48 = .ok (.iload_n 1, 1) := zby_g zbyb_456 (i := 7) rfl rfl
theorem dX12_townLine_49 : decode cX12_townLine 49 = .ok (.invokevirtual 146, 3) := zby_g zbyb_456 (i := 8) rfl rfl
theorem dX12_townLine_52 : decode cX12_townLine 52 = .ok (.goto 145, 3) := zby_g zbyb_456 (i := 9) rfl rfl
theorem dX12_townLine_55 : decode cX12_townLine 55 = .ok (.aload_n 0, 1) := zby_g zbyb_456 (i := 10) rfl rfl
theorem dX12_townLine_56 : decode cX12_townLine 56 = .ok (.ldc 149, 2) := zby_g zbyb_456 (i := 11) rfl rfl
theorem dX12_townLine_58 : decode cX12_townLine 58 = .ok (.invokevirtual 108, 3) := zby_g zbyb_456 (i := 12) rfl rfl
theorem dX12_townLine_61 : decode cX12_townLine 61 = .ok (.ifCond .eq 15, 3) := zby_g zbyb_456 (i := 13) rfl rfl
theorem dX12_townLine_64 : decode cX12_townLine 64 = .ok (.aload_n 0, 1) := zby_g zbyb_456 (i := 14) rfl rfl
theorem dX12_townLine_65 : decode cX12_townLine 65 = .ok (.iconst 5, 1) := zby_g zbyb_456 (i := 15) rfl rfl
noncomputable def zbyl_457 : List (Nat × zbyE) := [(66, zbyo_3), (67, zbyo_17 999), (70, zbyo_182 151), (73, zbyo_167 124), (76, zbyo_42), (77, zbyo_18 154), (79, zbyo_182 108), (82, zbyo_153 15), (85, zbyo_42), (86, zbyo_16 6), (88, zbyo_4), (89, zbyo_16 30), (91, zbyo_182 151), (94, zbyo_167 103), (97, zbyo_42), (98, zbyo_18 156)]
theorem zbyb_457 : zbys zbyl_457 (cX12_townLine.data.toList.drop 66) 66 = true := by decide +kernel
theorem dX12_townLine_66 : decode cX12_townLine 66 = .ok (.iconst 0, 1) := zby_g zbyb_457 (i := 0) rfl rfl
theorem dX12_townLine_67 : decode cX12_townLine 67 = .ok (.sipush 999, 3) := zby_g zbyb_457 (i := 1) rfl rfl
theorem dX12_townLine_70 : decode cX12_townLine 70 = .ok (.invokevirtual 151, 3) := zby_g zbyb_457 (i := 2) rfl rfl
theorem dX12_townLine_73 : decode cX12_townLine 73 = .ok (.goto 124, 3) := zby_g zbyb_457 (i := 3) rfl rfl
theorem dX12_townLine_76 : decode cX12_townLine 76 = .ok (.aload_n 0, 1) := zby_g zbyb_457 (i := 4) rfl rfl
theorem dX12_townLine_77 : decode cX12_townLine 77 = .ok (.ldc 154, 2) := zby_g zbyb_457 (i := 5) rfl rfl
theorem dX12_townLine_79 : decode cX12_townLine 79 = .ok (.invokevirtual 108, 3) := zby_g zbyb_457 (i := 6) rfl rfl
theorem dX12_townLine_82 : decode cX12_townLine 82 = .ok (.ifCond .eq 15, 3) := zby_g zbyb_457 (i := 7) rfl rfl
theorem dX12_townLine_85 : decode cX12_townLine 85 = .ok (.aload_n 0, 1) := zby_g zbyb_457 (i := 8) rfl rfl
theorem dX12_townLine_86 : decode cX12_townLine 86 = .ok (.bipush 6, 2) := zby_g zbyb_457 (i := 9) rfl rfl
theorem dX12_townLine_88 : decode cX12_townLine 88 = .ok (.iconst 1, 1) := zby_g zbyb_457 (i := 10) rfl rfl
theorem dX12_townLine_89 : decode cX12_townLine 89 = .ok (.bipush 30, 2) := zby_g zbyb_457 (i := 11) rfl rfl
theorem dX12_townLine_91 : decode cX12_townLine 91 = .ok (.invokevirtual 151, 3) := zby_g zbyb_457 (i := 12) rfl rfl
theorem dX12_townLine_94 : decode cX12_townLine 94 = .ok (.goto 103, 3) := zby_g zbyb_457 (i := 13) rfl rfl
theorem dX12_townLine_97 : decode cX12_townLine 97 = .ok (.aload_n 0, 1) := zby_g zbyb_457 (i := 14) rfl rfl
theorem dX12_townLine_98 : decode cX12_townLine 98 = .ok (.ldc 156, 2) := zby_g zbyb_457 (i := 15) rfl rfl
noncomputable def zbyl_458 : List (Nat × zbyE) := [(100, zbyo_182 108), (103, zbyo_153 15), (106, zbyo_42), (107, zbyo_16 7), (109, zbyo_3), (110, zbyo_16 100), (112, zbyo_182 151), (115, zbyo_167 82), (118, zbyo_42), (119, zbyo_18 158), (121, zbyo_182 108), (124, zbyo_153 43), (127, zbyo_42), (128, zbyo_3), (129, zbyo_42), (130, zbyo_180 7)]
theorem zbyb_458 : zbys zbyl_458 (cX12_townLine.data.toList.drop 100) 100 = true := by decide +kernel
theorem dX12_townLine_100 : decode cX12_townLine 100 = .ok (.invokevirtual 108, 3) := zby_g zbyb_458 (i := 0) rfl rfl
theorem dX12_townLine_103 : decode cX12_townLine 103 = .ok (.ifCond .eq 15, 3) := zby_g zbyb_458 (i := 1) rfl rfl
theorem dX12_townLine_106 : decode cX12_townLine 106 = .ok (.aload_n 0, 1) := zby_g zbyb_458 (i := 2) rfl rfl
theorem dX12_townLine_107 : decode cX12_townLine 107 = .ok (.bipush 7, 2) := zby_g zbyb_458 (i := 3) rfl rfl
theorem dX12_townLine_109 : decode cX12_townLine 109 = .ok (.iconst 0, 1) := zby_g zbyb_458 (i := 4) rfl rfl
theorem dX12_townLine_110 : decode cX12_townLine 110 = .ok (.bipush 100, 2) := zby_g zbyb_458 (i := 5) rfl rfl
theorem dX12_townLine_112 : decode cX12_townLine 112 = .ok (.invokevirtual 151, 3) := zby_g zbyb_458 (i := 6) rfl rfl
theorem dX12_townLine_115 : decode cX12_townLine 115 = .ok (.goto 82, 3) := zby_g zbyb_458 (i := 7) rfl rfl
theorem dX12_townLine_118 : decode cX12_townLine 118 = .ok (.aload_n 0, 1) := zby_g zbyb_458 (i := 8) rfl rfl
theorem dX12_townLine_119 : decode cX12_townLine 119 = .ok (.ldc 158, 2) := zby_g zbyb_458 (i := 9) rfl rfl
theorem dX12_townLine_121 : decode cX12_townLine 121 = .ok (.invokevirtual 108, 3) := zby_g zbyb_458 (i := 10) rfl rfl
theorem dX12_townLine_124 : decode cX12_townLine 124 = .ok (.ifCond .eq 43, 3) := zby_g zbyb_458 (i := 11) rfl rfl
theorem dX12_townLine_127 : decode cX12_townLine 127 = .ok (.aload_n 0, 1) := zby_g zbyb_458 (i := 12) rfl rfl
theorem dX12_townLine_128 : decode cX12_townLine 128 = .ok (.iconst 0, 1) := zby_g zbyb_458 (i := 13) rfl rfl
theorem dX12_townLine_129 : decode cX12_townLine 129 = .ok (.aload_n 0, 1) := zby_g zbyb_458 (i := 14) rfl rfl
theorem dX12_townLine_130 : decode cX12_townLine 130 = .ok (.getfield 7, 3) := zby_g zbyb_458 (i := 15) rfl rfl
noncomputable def zbyl_459 : List (Nat × zbyE) := [(133, zbyo_6), (134, zbyo_46), (135, zbyo_4), (136, zbyo_100), (137, zbyo_182 112), (140, zbyo_61), (141, zbyo_42), (142, zbyo_180 25), (145, zbyo_2), (146, zbyo_160 18), (149, zbyo_42), (150, zbyo_16 11), (152, zbyo_8), (153, zbyo_28), (154, zbyo_104), (155, zbyo_96)]
theorem zbyb_459 : zbys zbyl_459 (cX12_townLine.data.toList.drop 133) 133 = true := by decide +kernel
theorem dX12_townLine_133 : decode cX12_townLine 133 = .ok (.iconst 3, 1) := zby_g zbyb_459 (i := 0) rfl rfl
theorem dX12_townLine_134 : decode cX12_townLine 134 = .ok (.iaload, 1) := zby_g zbyb_459 (i := 1) rfl rfl
theorem dX12_townLine_135 : decode cX12_townLine 135 = .ok (.iconst 1, 1) := zby_g zbyb_459 (i := 2) rfl rfl
theorem dX12_townLine_136 : decode cX12_townLine 136 = .ok (.isub, 1) := zby_g zbyb_459 (i := 3) rfl rfl
theorem dX12_townLine_137 : decode cX12_townLine 137 = .ok (.invokevirtual 112, 3) := zby_g zbyb_459 (i := 4) rfl rfl
theorem dX12_townLine_140 : decode cX12_townLine 140 = .ok (.istore_n 2, 1) := zby_g zbyb_459 (i := 5) rfl rfl
theorem dX12_townLine_141 : decode cX12_townLine 141 = .ok (.aload_n 0, 1) := zby_g zbyb_459 (i := 6) rfl rfl
theorem dX12_townLine_142 : decode cX12_townLine 142 = .ok (.getfield 25, 3) := zby_g zbyb_459 (i := 7) rfl rfl
theorem dX12_townLine_145 : decode cX12_townLine 145 = .ok (.iconst (-1), 1) := zby_g zbyb_459 (i := 8) rfl rfl
theorem dX12_townLine_146 : decode cX12_townLine 146 = .ok (.if_icmp .ne 18, 3) := zby_g zbyb_459 (i := 9) rfl rfl
theorem dX12_townLine_149 : decode cX12_townLine 149 = .ok (.aload_n 0, 1) := zby_g zbyb_459 (i := 10) rfl rfl
theorem dX12_townLine_150 : decode cX12_townLine 150 = .ok (.bipush 11, 2) := zby_g zbyb_459 (i := 11) rfl rfl
theorem dX12_townLine_152 : decode cX12_townLine 152 = .ok (.iconst 5, 1) := zby_g zbyb_459 (i := 12) rfl rfl
theorem dX12_townLine_153 : decode cX12_townLine 153 = .ok (.iload_n 2, 1) := zby_g zbyb_459 (i := 13) rfl rfl
theorem dX12_townLine_154 : decode cX12_townLine 154 = .ok (.imul, 1) := zby_g zbyb_459 (i := 14) rfl rfl
theorem dX12_townLine_155 : decode cX12_townLine 155 = .ok (.iadd, 1) := zby_g zbyb_459 (i := 15) rfl rfl
noncomputable def zbyl_460 : List (Nat × zbyE) := [(156, zbyo_5), (157, zbyo_96), (158, zbyo_3), (159, zbyo_16 99), (161, zbyo_182 151), (164, zbyo_167 33), (167, zbyo_42), (168, zbyo_18 160), (170, zbyo_182 108), (173, zbyo_153 16), (176, zbyo_42), (177, zbyo_16 8), (179, zbyo_3), (180, zbyo_17 999), (183, zbyo_182 151), (186, zbyo_167 11)]
theorem zbyb_460 : zbys zbyl_460 (cX12_townLine.data.toList.drop 156) 156 = true := by decide +kernel
theorem dX12_townLine_156 : decode cX12_townLine 156 = .ok (.iconst 2, 1) := zby_g zbyb_460 (i := 0) rfl rfl
theorem dX12_townLine_157 : decode cX12_townLine 157 = .ok (.iadd, 1) := zby_g zbyb_460 (i := 1) rfl rfl
theorem dX12_townLine_158 : decode cX12_townLine 158 = .ok (.iconst 0, 1) := zby_g zbyb_460 (i := 2) rfl rfl
theorem dX12_townLine_159 : decode cX12_townLine 159 = .ok (.bipush 99, 2) := zby_g zbyb_460 (i := 3) rfl rfl
theorem dX12_townLine_161 : decode cX12_townLine 161 = .ok (.invokevirtual 151, 3) := zby_g zbyb_460 (i := 4) rfl rfl
theorem dX12_townLine_164 : decode cX12_townLine 164 = .ok (.goto 33, 3) := zby_g zbyb_460 (i := 5) rfl rfl
theorem dX12_townLine_167 : decode cX12_townLine 167 = .ok (.aload_n 0, 1) := zby_g zbyb_460 (i := 6) rfl rfl
theorem dX12_townLine_168 : decode cX12_townLine 168 = .ok (.ldc 160, 2) := zby_g zbyb_460 (i := 7) rfl rfl
theorem dX12_townLine_170 : decode cX12_townLine 170 = .ok (.invokevirtual 108, 3) := zby_g zbyb_460 (i := 8) rfl rfl
theorem dX12_townLine_173 : decode cX12_townLine 173 = .ok (.ifCond .eq 16, 3) := zby_g zbyb_460 (i := 9) rfl rfl
theorem dX12_townLine_176 : decode cX12_townLine 176 = .ok (.aload_n 0, 1) := zby_g zbyb_460 (i := 10) rfl rfl
theorem dX12_townLine_177 : decode cX12_townLine 177 = .ok (.bipush 8, 2) := zby_g zbyb_460 (i := 11) rfl rfl
theorem dX12_townLine_179 : decode cX12_townLine 179 = .ok (.iconst 0, 1) := zby_g zbyb_460 (i := 12) rfl rfl
theorem dX12_townLine_180 : decode cX12_townLine 180 = .ok (.sipush 999, 3) := zby_g zbyb_460 (i := 13) rfl rfl
theorem dX12_townLine_183 : decode cX12_townLine 183 = .ok (.invokevirtual 151, 3) := zby_g zbyb_460 (i := 14) rfl rfl
theorem dX12_townLine_186 : decode cX12_townLine 186 = .ok (.goto 11, 3) := zby_g zbyb_460 (i := 15) rfl rfl
noncomputable def zbyl_461 : List (Nat × zbyE) := [(189, zbyo_42), (190, zbyo_42), (191, zbyo_180 80), (194, zbyo_182 104), (197, zbyo_177)]
theorem zbyb_461 : zbys zbyl_461 (cX12_townLine.data.toList.drop 189) 189 = true := by decide +kernel
theorem dX12_townLine_189 : decode cX12_townLine 189 = .ok (.aload_n 0, 1) := zby_g zbyb_461 (i := 0) rfl rfl
theorem dX12_townLine_190 : decode cX12_townLine 190 = .ok (.aload_n 0, 1) := zby_g zbyb_461 (i := 1) rfl rfl
theorem dX12_townLine_191 : decode cX12_townLine 191 = .ok (.getfield 80, 3) := zby_g zbyb_461 (i := 2) rfl rfl
theorem dX12_townLine_194 : decode cX12_townLine 194 = .ok (.invokevirtual 104, 3) := zby_g zbyb_461 (i := 3) rfl rfl
theorem dX12_townLine_197 : decode cX12_townLine 197 = .ok (.return_, 1) := zby_g zbyb_461 (i := 4) rfl rfl
noncomputable def zbyl_462 : List (Nat × zbyE) := [(0, zbyo_42), (1, zbyo_2), (2, zbyo_181 25), (5, zbyo_42), (6, zbyo_2), (7, zbyo_181 77), (10, zbyo_42), (11, zbyo_42), (12, zbyo_180 74), (15, zbyo_181 83), (18, zbyo_42), (19, zbyo_3), (20, zbyo_181 74), (23, zbyo_42), (24, zbyo_3), (25, zbyo_181 80)]
theorem zbyb_462 : zbys zbyl_462 (cX12_begins.data.toList.drop 0) 0 = true := by decide +kernel
theorem dX12_begins_0 : decode cX12_begins 0 = .ok (.aload_n 0, 1) := zby_g zbyb_462 (i := 0) rfl rfl
theorem dX12_begins_1 : decode cX12_begins 1 = .ok (.iconst (-1), 1) := zby_g zbyb_462 (i := 1) rfl rfl
theorem dX12_begins_2 : decode cX12_begins 2 = .ok (.putfield 25, 3) := zby_g zbyb_462 (i := 2) rfl rfl
theorem dX12_begins_5 : decode cX12_begins 5 = .ok (.aload_n 0, 1) := zby_g zbyb_462 (i := 3) rfl rfl
theorem dX12_begins_6 : decode cX12_begins 6 = .ok (.iconst (-1), 1) := zby_g zbyb_462 (i := 4) rfl rfl
theorem dX12_begins_7 : decode cX12_begins 7 = .ok (.putfield 77, 3) := zby_g zbyb_462 (i := 5) rfl rfl
theorem dX12_begins_10 : decode cX12_begins 10 = .ok (.aload_n 0, 1) := zby_g zbyb_462 (i := 6) rfl rfl
theorem dX12_begins_11 : decode cX12_begins 11 = .ok (.aload_n 0, 1) := zby_g zbyb_462 (i := 7) rfl rfl
theorem dX12_begins_12 : decode cX12_begins 12 = .ok (.getfield 74, 3) := zby_g zbyb_462 (i := 8) rfl rfl
theorem dX12_begins_15 : decode cX12_begins 15 = .ok (.putfield 83, 3) := zby_g zbyb_462 (i := 9) rfl rfl
theorem dX12_begins_18 : decode cX12_begins 18 = .ok (.aload_n 0, 1) := zby_g zbyb_462 (i := 10) rfl rfl
theorem dX12_begins_19 : decode cX12_begins 19 = .ok (.iconst 0, 1) := zby_g zbyb_462 (i := 11) rfl rfl
theorem dX12_begins_20 : decode cX12_begins 20 = .ok (.putfield 74, 3) := zby_g zbyb_462 (i := 12) rfl rfl
theorem dX12_begins_23 : decode cX12_begins 23 = .ok (.aload_n 0, 1) := zby_g zbyb_462 (i := 13) rfl rfl
theorem dX12_begins_24 : decode cX12_begins 24 = .ok (.iconst 0, 1) := zby_g zbyb_462 (i := 14) rfl rfl
theorem dX12_begins_25 : decode cX12_begins 25 = .ok (.putfield 80, 3) := zby_g zbyb_462 (i := 15) rfl rfl
noncomputable def zbyl_463 : List (Nat × zbyE) := [(28, zbyo_42), (29, zbyo_3), (30, zbyo_181 162), (33, zbyo_177)]
theorem zbyb_463 : zbys zbyl_463 (cX12_begins.data.toList.drop 28) 28 = true := by decide +kernel
theorem dX12_begins_28 : decode cX12_begins 28 = .ok (.aload_n 0, 1) := zby_g zbyb_463 (i := 0) rfl rfl
theorem dX12_begins_29 : decode cX12_begins 29 = .ok (.iconst 0, 1) := zby_g zbyb_463 (i := 1) rfl rfl
theorem dX12_begins_30 : decode cX12_begins 30 = .ok (.putfield 162, 3) := zby_g zbyb_463 (i := 2) rfl rfl
theorem dX12_begins_33 : decode cX12_begins 33 = .ok (.return_, 1) := zby_g zbyb_463 (i := 3) rfl rfl
noncomputable def zbyl_464 : List (Nat × zbyE) := [(0, zbyo_42), (1, zbyo_182 89), (4, zbyo_42), (5, zbyo_180 80), (8, zbyo_42), (9, zbyo_180 83), (12, zbyo_162 7), (15, zbyo_4), (16, zbyo_167 4), (19, zbyo_3), (20, zbyo_61), (21, zbyo_3), (22, zbyo_62), (23, zbyo_28), (24, zbyo_153 120), (27, zbyo_42)]
theorem zbyb_464 : zbys zbyl_464 (cX12_read.data.toList.drop 0) 0 = true := by decide +kernel
theorem dX12_read_0 : decode cX12_read 0 = .ok (.aload_n 0, 1) := zby_g zbyb_464 (i := 0) rfl rfl
theorem dX12_read_1 : decode cX12_read 1 = .ok (.invokevirtual 89, 3) := zby_g zbyb_464 (i := 1) rfl rfl
theorem dX12_read_4 : decode cX12_read 4 = .ok (.aload_n 0, 1) := zby_g zbyb_464 (i := 2) rfl rfl
theorem dX12_read_5 : decode cX12_read 5 = .ok (.getfield 80, 3) := zby_g zbyb_464 (i := 3) rfl rfl
theorem dX12_read_8 : decode cX12_read 8 = .ok (.aload_n 0, 1) := zby_g zbyb_464 (i := 4) rfl rfl
theorem dX12_read_9 : decode cX12_read 9 = .ok (.getfield 83, 3) := zby_g zbyb_464 (i := 5) rfl rfl
theorem dX12_read_12 : decode cX12_read 12 = .ok (.if_icmp .ge 7, 3) := zby_g zbyb_464 (i := 6) rfl rfl
theorem dX12_read_15 : decode cX12_read 15 = .ok (.iconst 1, 1) := zby_g zbyb_464 (i := 7) rfl rfl
theorem dX12_read_16 : decode cX12_read 16 = .ok (.goto 4, 3) := zby_g zbyb_464 (i := 8) rfl rfl
theorem dX12_read_19 : decode cX12_read 19 = .ok (.iconst 0, 1) := zby_g zbyb_464 (i := 9) rfl rfl
theorem dX12_read_20 : decode cX12_read 20 = .ok (.istore_n 2, 1) := zby_g zbyb_464 (i := 10) rfl rfl
theorem dX12_read_21 : decode cX12_read 21 = .ok (.iconst 0, 1) := zby_g zbyb_464 (i := 11) rfl rfl
theorem dX12_read_22 : decode cX12_read 22 = .ok (.istore_n 3, 1) := zby_g zbyb_464 (i := 12) rfl rfl
theorem dX12_read_23 : decode cX12_read 23 = .ok (.iload_n 2, 1) := zby_g zbyb_464 (i := 13) rfl rfl
theorem dX12_read_24 : decode cX12_read 24 = .ok (.ifCond .eq 120, 3) := zby_g zbyb_464 (i := 14) rfl rfl
theorem dX12_read_27 : decode cX12_read 27 = .ok (.aload_n 0, 1) := zby_g zbyb_464 (i := 15) rfl rfl
noncomputable def zbyl_465 : List (Nat × zbyE) := [(28, zbyo_180 25), (31, zbyo_2), (32, zbyo_160 112), (35, zbyo_42), (36, zbyo_182 89), (39, zbyo_29), (40, zbyo_27), (41, zbyo_153 8), (44, zbyo_16 12), (46, zbyo_167 5), (49, zbyo_16 14), (51, zbyo_160 14), (54, zbyo_42), (55, zbyo_42), (56, zbyo_180 80), (59, zbyo_182 104)]
theorem zbyb_465 : zbys zbyl_465 (cX12_read.data.toList.drop 28) 28 = true := by decide +kernel
theorem dX12_read_28 : decode cX12_read 28 = .ok (.getfield 25, 3) := zby_g zbyb_465 (i := 0) rfl rfl
theorem dX12_read_31 : decode cX12_read 31 = .ok (.iconst (-1), 1) := zby_g zbyb_465 (i := 1) rfl rfl
theorem dX12_read_32 : decode cX12_read 32 = .ok (.if_icmp .ne 112, 3) := zby_g zbyb_465 (i := 2) rfl rfl
theorem dX12_read_35 : decode cX12_read 35 = .ok (.aload_n 0, 1) := zby_g zbyb_465 (i := 3) rfl rfl
theorem dX12_read_36 : decode cX12_read 36 = .ok (.invokevirtual 89, 3) := zby_g zbyb_465 (i := 4) rfl rfl
theorem dX12_read_39 : decode cX12_read 39 = .ok (.iload_n 3, 1) := zby_g zbyb_465 (i := 5) rfl rfl
theorem dX12_read_40 : decode cX12_read 40 = .ok (.iload_n 1, 1) := zby_g zbyb_465 (i := 6) rfl rfl
theorem dX12_read_41 : decode cX12_read 41 = .ok (.ifCond .eq 8, 3) := zby_g zbyb_465 (i := 7) rfl rfl
theorem dX12_read_44 : decode cX12_read 44 = .ok (.bipush 12, 2) := zby_g zbyb_465 (i := 8) rfl rfl
theorem dX12_read_46 : decode cX12_read 46 = .ok (.goto 5, 3) := zby_g zbyb_465 (i := 9) rfl rfl
theorem dX12_read_49 : decode cX12_read 49 = .ok (.bipush 14, 2) := zby_g zbyb_465 (i := 10) rfl rfl
theorem dX12_read_51 : decode cX12_read 51 = .ok (.if_icmp .ne 14, 3) := zby_g zbyb_465 (i := 11) rfl rfl
theorem dX12_read_54 : decode cX12_read 54 = .ok (.aload_n 0, 1) := zby_g zbyb_465 (i := 12) rfl rfl
theorem dX12_read_55 : decode cX12_read 55 = .ok (.aload_n 0, 1) := zby_g zbyb_465 (i := 13) rfl rfl
theorem dX12_read_56 : decode cX12_read 56 = .ok (.getfield 80, 3) := zby_g zbyb_465 (i := 14) rfl rfl
theorem dX12_read_59 : decode cX12_read 59 = .ok (.invokevirtual 104, 3) := zby_g zbyb_465 (i := 15) rfl rfl
noncomputable def zbyl_466 : List (Nat × zbyE) := [(62, zbyo_167 18), (65, zbyo_27), (66, zbyo_153 10), (69, zbyo_42), (70, zbyo_182 165), (73, zbyo_167 7), (76, zbyo_42), (77, zbyo_182 168), (80, zbyo_132 3 1), (83, zbyo_42), (84, zbyo_182 89), (87, zbyo_42), (88, zbyo_180 25), (91, zbyo_2), (92, zbyo_160 14), (95, zbyo_42)]
theorem zbyb_466 : zbys zbyl_466 (cX12_read.data.toList.drop 62) 62 = true := by decide +kernel
theorem dX12_read_62 : decode cX12_read 62 = .ok (.goto 18, 3) := zby_g zbyb_466 (i := 0) rfl rfl
theorem dX12_read_65 : decode cX12_read 65 = .ok (.iload_n 1, 1) := zby_g zbyb_466 (i := 1) rfl rfl
theorem dX12_read_66 : decode cX12_read 66 = .ok (.ifCond .eq 10, 3) := zby_g zbyb_466 (i := 2) rfl rfl
theorem dX12_read_69 : decode cX12_read 69 = .ok (.aload_n 0, 1) := zby_g zbyb_466 (i := 3) rfl rfl
theorem dX12_read_70 : decode cX12_read 70 = .ok (.invokevirtual 165, 3) := zby_g zbyb_466 (i := 4) rfl rfl
theorem dX12_read_73 : decode cX12_read 73 = .ok (.goto 7, 3) := zby_g zbyb_466 (i := 5) rfl rfl
theorem dX12_read_76 : decode cX12_read 76 = .ok (.aload_n 0, 1) := zby_g zbyb_466 (i := 6) rfl rfl
theorem dX12_read_77 : decode cX12_read 77 = .ok (.invokevirtual 168, 3) := zby_g zbyb_466 (i := 7) rfl rfl
theorem dX12_read_80 : decode cX12_read 80 = .ok (.iinc 3 1, 3) := zby_g zbyb_466 (i := 8) rfl rfl
theorem dX12_read_83 : decode cX12_read 83 = .ok (.aload_n 0, 1) := zby_g zbyb_466 (i := 9) rfl rfl
theorem dX12_read_84 : decode cX12_read 84 = .ok (.invokevirtual 89, 3) := zby_g zbyb_466 (i := 10) rfl rfl
theorem dX12_read_87 : decode cX12_read 87 = .ok (.aload_n 0, 1) := zby_g zbyb_466 (i := 11) rfl rfl
theorem dX12_read_88 : decode cX12_read 88 = .ok (.getfield 25, 3) := zby_g zbyb_466 (i := 12) rfl rfl
theorem dX12_read_91 : decode cX12_read 91 = .ok (.iconst (-1), 1) := zby_g zbyb_466 (i := 13) rfl rfl
theorem dX12_read_92 : decode cX12_read 92 = .ok (.if_icmp .ne 14, 3) := zby_g zbyb_466 (i := 14) rfl rfl
theorem dX12_read_95 : decode cX12_read 95 = .ok (.aload_n 0, 1) := zby_g zbyb_466 (i := 15) rfl rfl
noncomputable def zbyl_467 : List (Nat × zbyE) := [(96, zbyo_180 80), (99, zbyo_42), (100, zbyo_180 83), (103, zbyo_160 8), (106, zbyo_3), (107, zbyo_61), (108, zbyo_167 (-85)), (111, zbyo_42), (112, zbyo_16 59), (114, zbyo_182 171), (117, zbyo_153 16), (120, zbyo_42), (121, zbyo_89), (122, zbyo_180 80), (125, zbyo_4), (126, zbyo_96)]
theorem zbyb_467 : zbys zbyl_467 (cX12_read.data.toList.drop 96) 96 = true := by decide +kernel
theorem dX12_read_96 : decode cX12_read 96 = .ok (.getfield 80, 3) := zby_g zbyb_467 (i := 0) rfl rfl
theorem dX12_read_99 : decode cX12_read 99 = .ok (.aload_n 0, 1) := zby_g zbyb_467 (i := 1) rfl rfl
theorem dX12_read_100 : decode cX12_read 100 = .ok (.getfield 83, 3) := zby_g zbyb_467 (i := 2) rfl rfl
theorem dX12_read_103 : decode cX12_read 103 = .ok (.if_icmp .ne 8, 3) := zby_g zbyb_467 (i := 3) rfl rfl
theorem dX12_read_106 : decode cX12_read 106 = .ok (.iconst 0, 1) := zby_g zbyb_467 (i := 4) rfl rfl
theorem dX12_read_107 : decode cX12_read 107 = .ok (.istore_n 2, 1) := zby_g zbyb_467 (i := 5) rfl rfl
theorem dX12_read_108 : decode cX12_read 108 = .ok (.goto (-85), 3) := zby_g zbyb_467 (i := 6) rfl rfl
theorem dX12_read_111 : decode cX12_read 111 = .ok (.aload_n 0, 1) := zby_g zbyb_467 (i := 7) rfl rfl
theorem dX12_read_112 : decode cX12_read 112 = .ok (.bipush 59, 2) := zby_g zbyb_467 (i := 8) rfl rfl
theorem dX12_read_114 : decode cX12_read 114 = .ok (.invokevirtual 171, 3) := zby_g zbyb_467 (i := 9) rfl rfl
theorem dX12_read_117 : decode cX12_read 117 = .ok (.ifCond .eq 16, 3) := zby_g zbyb_467 (i := 10) rfl rfl
theorem dX12_read_120 : decode cX12_read 120 = .ok (.aload_n 0, 1) := zby_g zbyb_467 (i := 11) rfl rfl
theorem dX12_read_121 : decode cX12_read 121 = .ok (.dup, 1) := zby_g zbyb_467 (i := 12) rfl rfl
theorem dX12_read_122 : decode cX12_read 122 = .ok (.getfield 80, 3) := zby_g zbyb_467 (i := 13) rfl rfl
theorem dX12_read_125 : decode cX12_read 125 = .ok (.iconst 1, 1) := zby_g zbyb_467 (i := 14) rfl rfl
theorem dX12_read_126 : decode cX12_read 126 = .ok (.iadd, 1) := zby_g zbyb_467 (i := 15) rfl rfl
noncomputable def zbyl_468 : List (Nat × zbyE) := [(127, zbyo_181 80), (130, zbyo_167 (-107)), (133, zbyo_42), (134, zbyo_42), (135, zbyo_180 80), (138, zbyo_182 104), (141, zbyo_167 (-118)), (144, zbyo_29), (145, zbyo_172)]
theorem zbyb_468 : zbys zbyl_468 (cX12_read.data.toList.drop 127) 127 = true := by decide +kernel
theorem dX12_read_127 : decode cX12_read 127 = .ok (.putfield 80, 3) := zby_g zbyb_468 (i := 0) rfl rfl
theorem dX12_read_130 : decode cX12_read 130 = .ok (.goto (-107), 3) := zby_g zbyb_468 (i := 1) rfl rfl
theorem dX12_read_133 : decode cX12_read 133 = .ok (.aload_n 0, 1) := zby_g zbyb_468 (i := 2) rfl rfl
theorem dX12_read_134 : decode cX12_read 134 = .ok (.aload_n 0, 1) := zby_g zbyb_468 (i := 3) rfl rfl
theorem dX12_read_135 : decode cX12_read 135 = .ok (.getfield 80, 3) := zby_g zbyb_468 (i := 4) rfl rfl
theorem dX12_read_138 : decode cX12_read 138 = .ok (.invokevirtual 104, 3) := zby_g zbyb_468 (i := 5) rfl rfl
theorem dX12_read_141 : decode cX12_read 141 = .ok (.goto (-118), 3) := zby_g zbyb_468 (i := 6) rfl rfl
theorem dX12_read_144 : decode cX12_read 144 = .ok (.iload_n 3, 1) := zby_g zbyb_468 (i := 7) rfl rfl
theorem dX12_read_145 : decode cX12_read 145 = .ok (.ireturn, 1) := zby_g zbyb_468 (i := 8) rfl rfl
noncomputable def zbyl_469 : List (Nat × zbyE) := [(0, zbyo_3), (1, zbyo_60), (2, zbyo_27), (3, zbyo_17 379), (6, zbyo_162 21), (9, zbyo_42), (10, zbyo_180 16), (13, zbyo_27), (14, zbyo_42), (15, zbyo_180 7), (18, zbyo_27), (19, zbyo_46), (20, zbyo_79), (21, zbyo_132 1 1), (24, zbyo_167 (-22)), (27, zbyo_177)]
theorem zbyb_469 : zbys zbyl_469 (cX12_putsAside.data.toList.drop 0) 0 = true := by decide +kernel
theorem dX12_putsAside_0 : decode cX12_putsAside 0 = .ok (.iconst 0, 1) := zby_g zbyb_469 (i := 0) rfl rfl
theorem dX12_putsAside_1 : decode cX12_putsAside 1 = .ok (.istore_n 1, 1) := zby_g zbyb_469 (i := 1) rfl rfl
theorem dX12_putsAside_2 : decode cX12_putsAside 2 = .ok (.iload_n 1, 1) := zby_g zbyb_469 (i := 2) rfl rfl
theorem dX12_putsAside_3 : decode cX12_putsAside 3 = .ok (.sipush 379, 3) := zby_g zbyb_469 (i := 3) rfl rfl
theorem dX12_putsAside_6 : decode cX12_putsAside 6 = .ok (.if_icmp .ge 21, 3) := zby_g zbyb_469 (i := 4) rfl rfl
theorem dX12_putsAside_9 : decode cX12_putsAside 9 = .ok (.aload_n 0, 1) := zby_g zbyb_469 (i := 5) rfl rfl
theorem dX12_putsAside_10 : decode cX12_putsAside 10 = .ok (.getfield 16, 3) := zby_g zbyb_469 (i := 6) rfl rfl
theorem dX12_putsAside_13 : decode cX12_putsAside 13 = .ok (.iload_n 1, 1) := zby_g zbyb_469 (i := 7) rfl rfl
theorem dX12_putsAside_14 : decode cX12_putsAside 14 = .ok (.aload_n 0, 1) := zby_g zbyb_469 (i := 8) rfl rfl
theorem dX12_putsAside_15 : decode cX12_putsAside 15 = .ok (.getfield 7, 3) := zby_g zbyb_469 (i := 9) rfl rfl
theorem dX12_putsAside_18 : decode cX12_putsAside 18 = .ok (.iload_n 1, 1) := zby_g zbyb_469 (i := 10) rfl rfl
theorem dX12_putsAside_19 : decode cX12_putsAside 19 = .ok (.iaload, 1) := zby_g zbyb_469 (i := 11) rfl rfl
theorem dX12_putsAside_20 : decode cX12_putsAside 20 = .ok (.iastore, 1) := zby_g zbyb_469 (i := 12) rfl rfl
theorem dX12_putsAside_21 : decode cX12_putsAside 21 = .ok (.iinc 1 1, 3) := zby_g zbyb_469 (i := 13) rfl rfl
theorem dX12_putsAside_24 : decode cX12_putsAside 24 = .ok (.goto (-22), 3) := zby_g zbyb_469 (i := 14) rfl rfl
theorem dX12_putsAside_27 : decode cX12_putsAside 27 = .ok (.return_, 1) := zby_g zbyb_469 (i := 15) rfl rfl
noncomputable def zbyl_470 : List (Nat × zbyE) := [(0, zbyo_3), (1, zbyo_60), (2, zbyo_27), (3, zbyo_17 379), (6, zbyo_162 21), (9, zbyo_42), (10, zbyo_180 7), (13, zbyo_27), (14, zbyo_42), (15, zbyo_180 16), (18, zbyo_27), (19, zbyo_46), (20, zbyo_79), (21, zbyo_132 1 1), (24, zbyo_167 (-22)), (27, zbyo_177)]
theorem zbyb_470 : zbys zbyl_470 (cX12_comesBack.data.toList.drop 0) 0 = true := by decide +kernel
theorem dX12_comesBack_0 : decode cX12_comesBack 0 = .ok (.iconst 0, 1) := zby_g zbyb_470 (i := 0) rfl rfl
theorem dX12_comesBack_1 : decode cX12_comesBack 1 = .ok (.istore_n 1, 1) := zby_g zbyb_470 (i := 1) rfl rfl
theorem dX12_comesBack_2 : decode cX12_comesBack 2 = .ok (.iload_n 1, 1) := zby_g zbyb_470 (i := 2) rfl rfl
theorem dX12_comesBack_3 : decode cX12_comesBack 3 = .ok (.sipush 379, 3) := zby_g zbyb_470 (i := 3) rfl rfl
theorem dX12_comesBack_6 : decode cX12_comesBack 6 = .ok (.if_icmp .ge 21, 3) := zby_g zbyb_470 (i := 4) rfl rfl
theorem dX12_comesBack_9 : decode cX12_comesBack 9 = .ok (.aload_n 0, 1) := zby_g zbyb_470 (i := 5) rfl rfl
theorem dX12_comesBack_10 : decode cX12_comesBack 10 = .ok (.getfield 7, 3) := zby_g zbyb_470 (i := 6) rfl rfl
theorem dX12_comesBack_13 : decode cX12_comesBack 13 = .ok (.iload_n 1, 1) := zby_g zbyb_470 (i := 7) rfl rfl
theorem dX12_comesBack_14 : decode cX12_comesBack 14 = .ok (.aload_n 0, 1) := zby_g zbyb_470 (i := 8) rfl rfl
theorem dX12_comesBack_15 : decode cX12_comesBack 15 = .ok (.getfield 16, 3) := zby_g zbyb_470 (i := 9) rfl rfl
theorem dX12_comesBack_18 : decode cX12_comesBack 18 = .ok (.iload_n 1, 1) := zby_g zbyb_470 (i := 10) rfl rfl
theorem dX12_comesBack_19 : decode cX12_comesBack 19 = .ok (.iaload, 1) := zby_g zbyb_470 (i := 11) rfl rfl
theorem dX12_comesBack_20 : decode cX12_comesBack 20 = .ok (.iastore, 1) := zby_g zbyb_470 (i := 12) rfl rfl
theorem dX12_comesBack_21 : decode cX12_comesBack 21 = .ok (.iinc 1 1, 3) := zby_g zbyb_470 (i := 13) rfl rfl
theorem dX12_comesBack_24 : decode cX12_comesBack 24 = .ok (.goto (-22), 3) := zby_g zbyb_470 (i := 14) rfl rfl
theorem dX12_comesBack_27 : decode cX12_comesBack 27 = .ok (.return_, 1) := zby_g zbyb_470 (i := 15) rfl rfl
noncomputable def zbyl_471 : List (Nat × zbyE) := [(0, zbyo_42), (1, zbyo_182 174), (4, zbyo_42), (5, zbyo_182 177), (8, zbyo_42), (9, zbyo_3), (10, zbyo_182 180), (13, zbyo_60), (14, zbyo_42), (15, zbyo_42), (16, zbyo_180 25), (19, zbyo_2), (20, zbyo_159 7), (23, zbyo_4), (24, zbyo_167 19), (27, zbyo_42)]
theorem zbyb_471 : zbys zbyl_471 (cX12_town.data.toList.drop 0) 0 = true := by decide +kernel
theorem dX12_town_0 : decode cX12_town 0 = .ok (.aload_n 0, 1) := zby_g zbyb_471 (i := 0) rfl rfl
theorem dX12_town_1 : decode cX12_town 1 = .ok (.invokevirtual 174, 3) := zby_g zbyb_471 (i := 1) rfl rfl
theorem dX12_town_4 : decode cX12_town 4 = .ok (.aload_n 0, 1) := zby_g zbyb_471 (i := 2) rfl rfl
theorem dX12_town_5 : decode cX12_town 5 = .ok (.invokevirtual 177, 3) := zby_g zbyb_471 (i := 3) rfl rfl
theorem dX12_town_8 : decode cX12_town 8 = .ok (.aload_n 0, 1) := zby_g zbyb_471 (i := 4) rfl rfl
theorem dX12_town_9 : decode cX12_town 9 = .ok (.iconst 0, 1) := zby_g zbyb_471 (i := 5) rfl rfl
theorem dX12_town_10 : decode cX12_town 10 = .ok (.invokevirtual 180, 3) := zby_g zbyb_471 (i := 6) rfl rfl
theorem dX12_town_13 : decode cX12_town 13 = .ok (.istore_n 1, 1) := zby_g zbyb_471 (i := 7) rfl rfl
theorem dX12_town_14 : decode cX12_town 14 = .ok (.aload_n 0, 1) := zby_g zbyb_471 (i := 8) rfl rfl
theorem dX12_town_15 : decode cX12_town 15 = .ok (.aload_n 0, 1) := zby_g zbyb_471 (i := 9) rfl rfl
theorem dX12_town_16 : decode cX12_town 16 = .ok (.getfield 25, 3) := zby_g zbyb_471 (i := 10) rfl rfl
theorem dX12_town_19 : decode cX12_town 19 = .ok (.iconst (-1), 1) := zby_g zbyb_471 (i := 11) rfl rfl
theorem dX12_town_20 : decode cX12_town 20 = .ok (.if_icmp .eq 7, 3) := zby_g zbyb_471 (i := 12) rfl rfl
theorem dX12_town_23 : decode cX12_town 23 = .ok (.iconst 1, 1) := zby_g zbyb_471 (i := 13) rfl rfl
theorem dX12_town_24 : decode cX12_town 24 = .ok (.goto 19, 3) := zby_g zbyb_471 (i := 14) rfl rfl
theorem dX12_town_27 : decode cX12_town 27 = .ok (.aload_n 0, 1) := zby_g zbyb_471 (i := 15) rfl rfl
noncomputable def zbyl_472 : List (Nat × zbyE) := [(28, zbyo_180 7), (31, zbyo_3), (32, zbyo_46), (33, zbyo_16 12), (35, zbyo_160 7), (38, zbyo_5), (39, zbyo_167 4), (42, zbyo_3), (43, zbyo_181 39), (46, zbyo_42), (47, zbyo_180 39), (50, zbyo_158 9), (53, zbyo_42), (54, zbyo_182 184), (57, zbyo_3), (58, zbyo_172)]
theorem zbyb_472 : zbys zbyl_472 (cX12_town.data.toList.drop 28) 28 = true := by decide +kernel
theorem dX12_town_28 : decode cX12_town 28 = .ok (.getfield 7, 3) := zby_g zbyb_472 (i := 0) rfl rfl
theorem dX12_town_31 : decode cX12_town 31 = .ok (.iconst 0, 1) := zby_g zbyb_472 (i := 1) rfl rfl
theorem dX12_town_32 : decode cX12_town 32 = .ok (.iaload, 1) := zby_g zbyb_472 (i := 2) rfl rfl
theorem dX12_town_33 : decode cX12_town 33 = .ok (.bipush 12, 2) := zby_g zbyb_472 (i := 3) rfl rfl
theorem dX12_town_35 : decode cX12_town 35 = .ok (.if_icmp .ne 7, 3) := zby_g zbyb_472 (i := 4) rfl rfl
theorem dX12_town_38 : decode cX12_town 38 = .ok (.iconst 2, 1) := zby_g zbyb_472 (i := 5) rfl rfl
theorem dX12_town_39 : decode cX12_town 39 = .ok (.goto 4, 3) := zby_g zbyb_472 (i := 6) rfl rfl
theorem dX12_town_42 : decode cX12_town 42 = .ok (.iconst 0, 1) := zby_g zbyb_472 (i := 7) rfl rfl
theorem dX12_town_43 : decode cX12_town 43 = .ok (.putfield 39, 3) := zby_g zbyb_472 (i := 8) rfl rfl
theorem dX12_town_46 : decode cX12_town 46 = .ok (.aload_n 0, 1) := zby_g zbyb_472 (i := 9) rfl rfl
theorem dX12_town_47 : decode cX12_town 47 = .ok (.getfield 39, 3) := zby_g zbyb_472 (i := 10) rfl rfl
theorem dX12_town_50 : decode cX12_town 50 = .ok (.ifCond .le 9, 3) := zby_g zbyb_472 (i := 11) rfl rfl
theorem dX12_town_53 : decode cX12_town 53 = .ok (.aload_n 0, 1) := zby_g zbyb_472 (i := 12) rfl rfl
theorem dX12_town_54 : decode cX12_town 54 = .ok (.invokevirtual 184, 3) := zby_g zbyb_472 (i := 13) rfl rfl
theorem dX12_town_57 : decode cX12_town 57 = .ok (.iconst 0, 1) := zby_g zbyb_472 (i := 14) rfl rfl
theorem dX12_town_58 : decode cX12_town 58 = .ok (.ireturn, 1) := zby_g zbyb_472 (i := 15) rfl rfl
noncomputable def zbyl_473 : List (Nat × zbyE) := [(59, zbyo_42), (60, zbyo_180 7), (63, zbyo_3), (64, zbyo_92), (65, zbyo_46), (66, zbyo_4), (67, zbyo_96), (68, zbyo_79), (69, zbyo_42), (70, zbyo_3), (71, zbyo_181 187), (74, zbyo_42), (75, zbyo_180 7), (78, zbyo_3), (79, zbyo_46), (80, zbyo_172)]
theorem zbyb_473 : zbys zbyl_473 (cX12_town.data.toList.drop 59) 59 = true := by decide +kernel
theorem dX12_town_59 : decode cX12_town 59 = .ok (.aload_n 0, 1) := zby_g zbyb_473 (i := 0) rfl rfl
theorem dX12_town_60 : decode cX12_town 60 = .ok (.getfield 7, 3) := zby_g zbyb_473 (i := 1) rfl rfl
theorem dX12_town_63 : decode cX12_town 63 = .ok (.iconst 0, 1) := zby_g zbyb_473 (i := 2) rfl rfl
theorem dX12_town_64 : decode cX12_town 64 = .ok (.dup2, 1) := zby_g zbyb_473 (i := 3) rfl rfl
theorem dX12_town_65 : decode cX12_town 65 = .ok (.iaload, 1) := zby_g zbyb_473 (i := 4) rfl rfl
theorem dX12_town_66 : decode cX12_town 66 = .ok (.iconst 1, 1) := zby_g zbyb_473 (i := 5) rfl rfl
theorem dX12_town_67 : decode cX12_town 67 = .ok (.iadd, 1) := zby_g zbyb_473 (i := 6) rfl rfl
theorem dX12_town_68 : decode cX12_town 68 = .ok (.iastore, 1) := zby_g zbyb_473 (i := 7) rfl rfl
theorem dX12_town_69 : decode cX12_town 69 = .ok (.aload_n 0, 1) := zby_g zbyb_473 (i := 8) rfl rfl
theorem dX12_town_70 : decode cX12_town 70 = .ok (.iconst 0, 1) := zby_g zbyb_473 (i := 9) rfl rfl
theorem dX12_town_71 : decode cX12_town 71 = .ok (.putfield 187, 3) := zby_g zbyb_473 (i := 10) rfl rfl
theorem dX12_town_74 : decode cX12_town 74 = .ok (.aload_n 0, 1) := zby_g zbyb_473 (i := 11) rfl rfl
theorem dX12_town_75 : decode cX12_town 75 = .ok (.getfield 7, 3) := zby_g zbyb_473 (i := 12) rfl rfl
theorem dX12_town_78 : decode cX12_town 78 = .ok (.iconst 0, 1) := zby_g zbyb_473 (i := 13) rfl rfl
theorem dX12_town_79 : decode cX12_town 79 = .ok (.iaload, 1) := zby_g zbyb_473 (i := 14) rfl rfl
theorem dX12_town_80 : decode cX12_town 80 = .ok (.ireturn, 1) := zby_g zbyb_473 (i := 15) rfl rfl
noncomputable def zbyl_474 : List (Nat × zbyE) := [(0, zbyo_42), (1, zbyo_180 25), (4, zbyo_2), (5, zbyo_159 5), (8, zbyo_3), (9, zbyo_172), (10, zbyo_42), (11, zbyo_182 89), (14, zbyo_42), (15, zbyo_180 80), (18, zbyo_42), (19, zbyo_180 83), (22, zbyo_162 30), (25, zbyo_42), (26, zbyo_42), (27, zbyo_180 80)]
theorem zbyb_474 : zbys zbyl_474 (cX12_part.data.toList.drop 0) 0 = true := by decide +kernel
theorem dX12_part_0 : decode cX12_part 0 = .ok (.aload_n 0, 1) := zby_g zbyb_474 (i := 0) rfl rfl
theorem dX12_part_1 : decode cX12_part 1 = .ok (.getfield 25, 3) := zby_g zbyb_474 (i := 1) rfl rfl
theorem dX12_part_4 : decode cX12_part 4 = .ok (.iconst (-1), 1) := zby_g zbyb_474 (i := 2) rfl rfl
theorem dX12_part_5 : decode cX12_part 5 = .ok (.if_icmp .eq 5, 3) := zby_g zbyb_474 (i := 3) rfl rfl
theorem dX12_part_8 : decode cX12_part 8 = .ok (.iconst 0, 1) := zby_g zbyb_474 (i := 4) rfl rfl
theorem dX12_part_9 : decode cX12_part 9 = .ok (.ireturn, 1) := zby_g zbyb_474 (i := 5) rfl rfl
theorem dX12_part_10 : decode cX12_part 10 = .ok (.aload_n 0, 1) := zby_g zbyb_474 (i := 6) rfl rfl
theorem dX12_part_11 : decode cX12_part 11 = .ok (.invokevirtual 89, 3) := zby_g zbyb_474 (i := 7) rfl rfl
theorem dX12_part_14 : decode cX12_part 14 = .ok (.aload_n 0, 1) := zby_g zbyb_474 (i := 8) rfl rfl
theorem dX12_part_15 : decode cX12_part 15 = .ok (.getfield 80, 3) := zby_g zbyb_474 (i := 9) rfl rfl
theorem dX12_part_18 : decode cX12_part 18 = .ok (.aload_n 0, 1) := zby_g zbyb_474 (i := 10) rfl rfl
theorem dX12_part_19 : decode cX12_part 19 = .ok (.getfield 83, 3) := zby_g zbyb_474 (i := 11) rfl rfl
theorem dX12_part_22 : decode cX12_part 22 = .ok (.if_icmp .ge 30, 3) := zby_g zbyb_474 (i := 12) rfl rfl
theorem dX12_part_25 : decode cX12_part 25 = .ok (.aload_n 0, 1) := zby_g zbyb_474 (i := 13) rfl rfl
theorem dX12_part_26 : decode cX12_part 26 = .ok (.aload_n 0, 1) := zby_g zbyb_474 (i := 14) rfl rfl
theorem dX12_part_27 : decode cX12_part 27 = .ok (.getfield 80, 3) := zby_g zbyb_474 (i := 15) rfl rfl
noncomputable def zbyl_475 : List (Nat × zbyE) := [(30, zbyo_182 86), (33, zbyo_16 48), (35, zbyo_16 57), (37, zbyo_184 42), (40, zbyo_153 12), (43, zbyo_42), (44, zbyo_3), (45, zbyo_17 999), (48, zbyo_182 112), (51, zbyo_172), (52, zbyo_42), (53, zbyo_18 190), (55, zbyo_182 108), (58, zbyo_153 7), (61, zbyo_3), (62, zbyo_167 69)]
theorem zbyb_475 : zbys zbyl_475 (cX12_part.data.toList.drop 30) 30 = true := by decide +kernel
theorem dX12_part_30 : decode cX12_part 30 = .ok (.invokevirtual 86, 3) := zby_g zbyb_475 (i := 0) rfl rfl
theorem dX12_part_33 : decode cX12_part 33 = .ok (.bipush 48, 2) := zby_g zbyb_475 (i := 1) rfl rfl
theorem dX12_part_35 : decode cX12_part 35 = .ok (.bipush 57, 2) := zby_g zbyb_475 (i := 2) rfl rfl
theorem dX12_part_37 : decode cX12_part 37 = .ok (.invokestatic 42, 3) := zby_g zbyb_475 (i := 3) rfl rfl
theorem dX12_part_40 : decode cX12_part 40 = .ok (.ifCond .eq 12, 3) := zby_g zbyb_475 (i := 4) rfl rfl
theorem dX12_part_43 : decode cX12_part 43 = .ok (.aload_n 0, 1) := zby_g zbyb_475 (i := 5) rfl rfl
theorem dX12_part_44 : decode cX12_part 44 = .ok (.iconst 0, 1) := zby_g zbyb_475 (i := 6) rfl rfl
theorem dX12_part_45 : decode cX12_part 45 = .ok (.sipush 999, 3) := zby_g zbyb_475 (i := 7) rfl rfl
theorem dX12_part_48 : decode cX12_part 48 = .ok (.invokevirtual 112, 3) := zby_g zbyb_475 (i := 8) rfl rfl
theorem dX12_part_51 : decode cX12_part 51 = .ok (.ireturn, 1) := zby_g zbyb_475 (i := 9) rfl rfl
theorem dX12_part_52 : decode cX12_part 52 = .ok (.aload_n 0, 1) := zby_g zbyb_475 (i := 10) rfl rfl
theorem dX12_part_53 : decode cX12_part 53 = .ok (.ldc 190, 2) := zby_g zbyb_475 (i := 11) rfl rfl
theorem dX12_part_55 : decode cX12_part 55 = .ok (.invokevirtual 108, 3) := zby_g zbyb_475 (i := 12) rfl rfl
theorem dX12_part_58 : decode cX12_part 58 = .ok (.ifCond .eq 7, 3) := zby_g zbyb_475 (i := 13) rfl rfl
theorem dX12_part_61 : decode cX12_part 61 = .ok (.iconst 0, 1) := zby_g zbyb_475 (i := 14) rfl rfl
theorem dX12_part_62 : decode cX12_part 62 = .ok (.goto 69, 3) := zby_g zbyb_475 (i := 15) rfl rfl
noncomputable def zbyl_476 : List (Nat × zbyE) := [(65, zbyo_42), (66, zbyo_18 192), (68, zbyo_182 108), (71, zbyo_153 7), (74, zbyo_4), (75, zbyo_167 56), (78, zbyo_42), (79, zbyo_18 194), (81, zbyo_182 108), (84, zbyo_153 7), (87, zbyo_5), (88, zbyo_167 43), (91, zbyo_42), (92, zbyo_18 195), (94, zbyo_182 108), (97, zbyo_153 7)]
theorem zbyb_476 : zbys zbyl_476 (cX12_part.data.toList.drop 65) 65 = true := by decide +kernel
theorem dX12_part_65 : decode cX12_part 65 = .ok (.aload_n 0, 1) := zby_g zbyb_476 (i := 0) rfl rfl
theorem dX12_part_66 : decode cX12_part 66 = .ok (.ldc 192, 2) := zby_g zbyb_476 (i := 1) rfl rfl
theorem dX12_part_68 : decode cX12_part 68 = .ok (.invokevirtual 108, 3) := zby_g zbyb_476 (i := 2) rfl rfl
theorem dX12_part_71 : decode cX12_part 71 = .ok (.ifCond .eq 7, 3) := zby_g zbyb_476 (i := 3) rfl rfl
theorem dX12_part_74 : decode cX12_part 74 = .ok (.iconst 1, 1) := zby_g zbyb_476 (i := 4) rfl rfl
theorem dX12_part_75 : decode cX12_part 75 = .ok (.goto 56, 3) := zby_g zbyb_476 (i := 5) rfl rfl
theorem dX12_part_78 : decode cX12_part 78 = .ok (.aload_n 0, 1) := zby_g zbyb_476 (i := 6) rfl rfl
theorem dX12_part_79 : decode cX12_part 79 = .ok (.ldc 194, 2) := zby_g zbyb_476 (i := 7) rfl rfl
theorem dX12_part_81 : decode cX12_part 81 = .ok (.invokevirtual 108, 3) := zby_g zbyb_476 (i := 8) rfl rfl
theorem dX12_part_84 : decode cX12_part 84 = .ok (.ifCond .eq 7, 3) := zby_g zbyb_476 (i := 9) rfl rfl
theorem dX12_part_87 : decode cX12_part 87 = .ok (.iconst 2, 1) := zby_g zbyb_476 (i := 10) rfl rfl
theorem dX12_part_88 : decode cX12_part 88 = .ok (.goto 43, 3) := zby_g zbyb_476 (i := 11) rfl rfl
theorem dX12_part_91 : decode cX12_part 91 = .ok (.aload_n 0, 1) := zby_g zbyb_476 (i := 12) rfl rfl
theorem dX12_part_92 : decode cX12_part 92 = .ok (.ldc 195, 2) := zby_g zbyb_476 (i := 13) rfl rfl
theorem dX12_part_94 : decode cX12_part 94 = .ok (.invokevirtual 108, 3) := zby_g zbyb_476 (i := 14) rfl rfl
theorem dX12_part_97 : decode cX12_part 97 = .ok (.ifCond .eq 7, 3) := zby_g zbyb_476 (i := 15) rfl rfl
noncomputable def zbyl_477 : List (Nat × zbyE) := [(100, zbyo_6), (101, zbyo_167 30), (104, zbyo_42), (105, zbyo_18 197), (107, zbyo_182 108), (110, zbyo_153 7), (113, zbyo_7), (114, zbyo_167 17), (117, zbyo_42), (118, zbyo_18 160), (120, zbyo_182 108), (123, zbyo_153 7), (126, zbyo_8), (127, zbyo_167 4), (130, zbyo_2), (131, zbyo_60)]
theorem zbyb_477 : zbys zbyl_477 (cX12_part.data.toList.drop 100) 100 = true := by decide +kernel
theorem dX12_part_100 : decode cX12_part 100 = .ok (.iconst 3, 1) := zby_g zbyb_477 (i := 0) rfl rfl
theorem dX12_part_101 : decode cX12_part 101 = .ok (.goto 30, 3) := zby_g zbyb_477 (i := 1) rfl rfl
theorem dX12_part_104 : decode cX12_part 104 = .ok (.aload_n 0, 1) := zby_g zbyb_477 (i := 2) rfl rfl
theorem dX12_part_105 : decode cX12_part 105 = .ok (.ldc 197, 2) := zby_g zbyb_477 (i := 3) rfl rfl
theorem dX12_part_107 : decode cX12_part 107 = .ok (.invokevirtual 108, 3) := zby_g zbyb_477 (i := 4) rfl rfl
theorem dX12_part_110 : decode cX12_part 110 = .ok (.ifCond .eq 7, 3) := zby_g zbyb_477 (i := 5) rfl rfl
theorem dX12_part_113 : decode cX12_part 113 = .ok (.iconst 4, 1) := zby_g zbyb_477 (i := 6) rfl rfl
theorem dX12_part_114 : decode cX12_part 114 = .ok (.goto 17, 3) := zby_g zbyb_477 (i := 7) rfl rfl
theorem dX12_part_117 : decode cX12_part 117 = .ok (.aload_n 0, 1) := zby_g zbyb_477 (i := 8) rfl rfl
theorem dX12_part_118 : decode cX12_part 118 = .ok (.ldc 160, 2) := zby_g zbyb_477 (i := 9) rfl rfl
theorem dX12_part_120 : decode cX12_part 120 = .ok (.invokevirtual 108, 3) := zby_g zbyb_477 (i := 10) rfl rfl
theorem dX12_part_123 : decode cX12_part 123 = .ok (.ifCond .eq 7, 3) := zby_g zbyb_477 (i := 11) rfl rfl
theorem dX12_part_126 : decode cX12_part 126 = .ok (.iconst 5, 1) := zby_g zbyb_477 (i := 12) rfl rfl
theorem dX12_part_127 : decode cX12_part 127 = .ok (.goto 4, 3) := zby_g zbyb_477 (i := 13) rfl rfl
theorem dX12_part_130 : decode cX12_part 130 = .ok (.iconst (-1), 1) := zby_g zbyb_477 (i := 14) rfl rfl
theorem dX12_part_131 : decode cX12_part 131 = .ok (.istore_n 1, 1) := zby_g zbyb_477 (i := 15) rfl rfl
noncomputable def zbyl_478 : List (Nat × zbyE) := [(132, zbyo_27), (133, zbyo_2), (134, zbyo_160 13), (137, zbyo_42), (138, zbyo_42), (139, zbyo_180 80), (142, zbyo_182 104), (145, zbyo_3), (146, zbyo_172), (147, zbyo_42), (148, zbyo_180 29), (151, zbyo_27), (152, zbyo_46), (153, zbyo_172)]
theorem zbyb_478 : zbys zbyl_478 (cX12_part.data.toList.drop 132) 132 = true := by decide +kernel
theorem dX12_part_132 : decode cX12_part 132 = .ok (.iload_n 1, 1) := zby_g zbyb_478 (i := 0) rfl rfl
theorem dX12_part_133 : decode cX12_part 133 = .ok (.iconst (-1), 1) := zby_g zbyb_478 (i := 1) rfl rfl
theorem dX12_part_134 : decode cX12_part 134 = .ok (.if_icmp .ne 13, 3) := zby_g zbyb_478 (i := 2) rfl rfl
theorem dX12_part_137 : decode cX12_part 137 = .ok (.aload_n 0, 1) := zby_g zbyb_478 (i := 3) rfl rfl
theorem dX12_part_138 : decode cX12_part 138 = .ok (.aload_n 0, 1) := zby_g zbyb_478 (i := 4) rfl rfl
theorem dX12_part_139 : decode cX12_part 139 = .ok (.getfield 80, 3) := zby_g zbyb_478 (i := 5) rfl rfl
theorem dX12_part_142 : decode cX12_part 142 = .ok (.invokevirtual 104, 3) := zby_g zbyb_478 (i := 6) rfl rfl
theorem dX12_part_145 : decode cX12_part 145 = .ok (.iconst 0, 1) := zby_g zbyb_478 (i := 7) rfl rfl
theorem dX12_part_146 : decode cX12_part 146 = .ok (.ireturn, 1) := zby_g zbyb_478 (i := 8) rfl rfl
theorem dX12_part_147 : decode cX12_part 147 = .ok (.aload_n 0, 1) := zby_g zbyb_478 (i := 9) rfl rfl
theorem dX12_part_148 : decode cX12_part 148 = .ok (.getfield 29, 3) := zby_g zbyb_478 (i := 10) rfl rfl
theorem dX12_part_151 : decode cX12_part 151 = .ok (.iload_n 1, 1) := zby_g zbyb_478 (i := 11) rfl rfl
theorem dX12_part_152 : decode cX12_part 152 = .ok (.iaload, 1) := zby_g zbyb_478 (i := 12) rfl rfl
theorem dX12_part_153 : decode cX12_part 153 = .ok (.ireturn, 1) := zby_g zbyb_478 (i := 13) rfl rfl
noncomputable def zbyl_479 : List (Nat × zbyE) := [(0, zbyo_42), (1, zbyo_182 199), (4, zbyo_60), (5, zbyo_42), (6, zbyo_180 25), (9, zbyo_2), (10, zbyo_160 32), (13, zbyo_42), (14, zbyo_16 43), (16, zbyo_182 171), (19, zbyo_153 23), (22, zbyo_42), (23, zbyo_89), (24, zbyo_180 80), (27, zbyo_4), (28, zbyo_96)]
theorem zbyb_479 : zbys zbyl_479 (cX12_sum.data.toList.drop 0) 0 = true := by decide +kernel
theorem dX12_sum_0 : decode cX12_sum 0 = .ok (.aload_n 0, 1) := zby_g zbyb_479 (i := 0) rfl rfl
theorem dX12_sum_1 : decode cX12_sum 1 = .ok (.invokevirtual 199, 3) := zby_g zbyb_479 (i := 1) rfl rfl
theorem dX12_sum_4 : decode cX12_sum 4 = .ok (.istore_n 1, 1) := zby_g zbyb_479 (i := 2) rfl rfl
theorem dX12_sum_5 : decode cX12_sum 5 = .ok (.aload_n 0, 1) := zby_g zbyb_479 (i := 3) rfl rfl
theorem dX12_sum_6 : decode cX12_sum 6 = .ok (.getfield 25, 3) := zby_g zbyb_479 (i := 4) rfl rfl
theorem dX12_sum_9 : decode cX12_sum 9 = .ok (.iconst (-1), 1) := zby_g zbyb_479 (i := 5) rfl rfl
theorem dX12_sum_10 : decode cX12_sum 10 = .ok (.if_icmp .ne 32, 3) := zby_g zbyb_479 (i := 6) rfl rfl
theorem dX12_sum_13 : decode cX12_sum 13 = .ok (.aload_n 0, 1) := zby_g zbyb_479 (i := 7) rfl rfl
theorem dX12_sum_14 : decode cX12_sum 14 = .ok (.bipush 43, 2) := zby_g zbyb_479 (i := 8) rfl rfl
theorem dX12_sum_16 : decode cX12_sum 16 = .ok (.invokevirtual 171, 3) := zby_g zbyb_479 (i := 9) rfl rfl
theorem dX12_sum_19 : decode cX12_sum 19 = .ok (.ifCond .eq 23, 3) := zby_g zbyb_479 (i := 10) rfl rfl
theorem dX12_sum_22 : decode cX12_sum 22 = .ok (.aload_n 0, 1) := zby_g zbyb_479 (i := 11) rfl rfl
theorem dX12_sum_23 : decode cX12_sum 23 = .ok (.dup, 1) := zby_g zbyb_479 (i := 12) rfl rfl
theorem dX12_sum_24 : decode cX12_sum 24 = .ok (.getfield 80, 3) := zby_g zbyb_479 (i := 13) rfl rfl
theorem dX12_sum_27 : decode cX12_sum 27 = .ok (.iconst 1, 1) := zby_g zbyb_479 (i := 14) rfl rfl
theorem dX12_sum_28 : decode cX12_sum 28 = .ok (.iadd, 1) := zby_g zbyb_479 (i := 15) rfl rfl
noncomputable def zbyl_480 : List (Nat × zbyE) := [(29, zbyo_181 80), (32, zbyo_27), (33, zbyo_42), (34, zbyo_182 199), (37, zbyo_96), (38, zbyo_60), (39, zbyo_167 (-34)), (42, zbyo_27), (43, zbyo_172)]
theorem zbyb_480 : zbys zbyl_480 (cX12_sum.data.toList.drop 29) 29 = true := by decide +kernel
theorem dX12_sum_29 : decode cX12_sum 29 = .ok (.putfield 80, 3) := zby_g zbyb_480 (i := 0) rfl rfl
theorem dX12_sum_32 : decode cX12_sum 32 = .ok (.iload_n 1, 1) := zby_g zbyb_480 (i := 1) rfl rfl
theorem dX12_sum_33 : decode cX12_sum 33 = .ok (.aload_n 0, 1) := zby_g zbyb_480 (i := 2) rfl rfl
theorem dX12_sum_34 : decode cX12_sum 34 = .ok (.invokevirtual 199, 3) := zby_g zbyb_480 (i := 3) rfl rfl
theorem dX12_sum_37 : decode cX12_sum 37 = .ok (.iadd, 1) := zby_g zbyb_480 (i := 4) rfl rfl
theorem dX12_sum_38 : decode cX12_sum 38 = .ok (.istore_n 1, 1) := zby_g zbyb_480 (i := 5) rfl rfl
theorem dX12_sum_39 : decode cX12_sum 39 = .ok (.goto (-34), 3) := zby_g zbyb_480 (i := 6) rfl rfl
theorem dX12_sum_42 : decode cX12_sum 42 = .ok (.iload_n 1, 1) := zby_g zbyb_480 (i := 7) rfl rfl
theorem dX12_sum_43 : decode cX12_sum 43 = .ok (.ireturn, 1) := zby_g zbyb_480 (i := 8) rfl rfl
noncomputable def zbyl_481 : List (Nat × zbyE) := [(0, zbyo_42), (1, zbyo_18 121), (3, zbyo_182 108), (6, zbyo_153 8), (9, zbyo_42), (10, zbyo_180 202), (13, zbyo_172), (14, zbyo_42), (15, zbyo_18 206), (17, zbyo_182 108), (20, zbyo_153 8), (23, zbyo_42), (24, zbyo_180 208), (27, zbyo_172), (28, zbyo_42), (29, zbyo_182 211)]
theorem zbyb_481 : zbys zbyl_481 (cX12_plain.data.toList.drop 0) 0 = true := by decide +kernel
theorem dX12_plain_0 : decode cX12_plain 0 = .ok (.aload_n 0, 1) := zby_g zbyb_481 (i := 0) rfl rfl
theorem dX12_plain_1 : decode cX12_plain 1 = .ok (.ldc 121, 2) := zby_g zbyb_481 (i := 1) rfl rfl
theorem dX12_plain_3 : decode cX12_plain 3 = .ok (.invokevirtual 108, 3) := zby_g zbyb_481 (i := 2) rfl rfl
theorem dX12_plain_6 : decode cX12_plain 6 = .ok (.ifCond .eq 8, 3) := zby_g zbyb_481 (i := 3) rfl rfl
theorem dX12_plain_9 : decode cX12_plain 9 = .ok (.aload_n 0, 1) := zby_g zbyb_481 (i := 4) rfl rfl
theorem dX12_plain_10 : decode cX12_plain 10 = .ok (.getfield 202, 3) := zby_g zbyb_481 (i := 5) rfl rfl
theorem dX12_plain_13 : decode cX12_plain 13 = .ok (.ireturn, 1) := zby_g zbyb_481 (i := 6) rfl rfl
theorem dX12_plain_14 : decode cX12_plain 14 = .ok (.aload_n 0, 1) := zby_g zbyb_481 (i := 7) rfl rfl
theorem dX12_plain_15 : decode cX12_plain 15 = .ok (.ldc 206, 2) := zby_g zbyb_481 (i := 8) rfl rfl
theorem dX12_plain_17 : decode cX12_plain 17 = .ok (.invokevirtual 108, 3) := zby_g zbyb_481 (i := 9) rfl rfl
theorem dX12_plain_20 : decode cX12_plain 20 = .ok (.ifCond .eq 8, 3) := zby_g zbyb_481 (i := 10) rfl rfl
theorem dX12_plain_23 : decode cX12_plain 23 = .ok (.aload_n 0, 1) := zby_g zbyb_481 (i := 11) rfl rfl
theorem dX12_plain_24 : decode cX12_plain 24 = .ok (.getfield 208, 3) := zby_g zbyb_481 (i := 12) rfl rfl
theorem dX12_plain_27 : decode cX12_plain 27 = .ok (.ireturn, 1) := zby_g zbyb_481 (i := 13) rfl rfl
theorem dX12_plain_28 : decode cX12_plain 28 = .ok (.aload_n 0, 1) := zby_g zbyb_481 (i := 14) rfl rfl
theorem dX12_plain_29 : decode cX12_plain 29 = .ok (.invokevirtual 211, 3) := zby_g zbyb_481 (i := 15) rfl rfl
noncomputable def zbyl_482 : List (Nat × zbyE) := [(32, zbyo_60), (33, zbyo_42), (34, zbyo_180 25), (37, zbyo_2), (38, zbyo_159 5), (41, zbyo_3), (42, zbyo_172), (43, zbyo_42), (44, zbyo_16 60), (46, zbyo_182 171), (49, zbyo_61), (50, zbyo_28), (51, zbyo_154 22), (54, zbyo_42), (55, zbyo_16 62), (57, zbyo_182 171)]
theorem zbyb_482 : zbys zbyl_482 (cX12_plain.data.toList.drop 32) 32 = true := by decide +kernel
theorem dX12_plain_32 : decode cX12_plain 32 = .ok (.istore_n 1, 1) := zby_g zbyb_482 (i := 0) rfl rfl
theorem dX12_plain_33 : decode cX12_plain 33 = .ok (.aload_n 0, 1) := zby_g zbyb_482 (i := 1) rfl rfl
theorem dX12_plain_34 : decode cX12_plain 34 = .ok (.getfield 25, 3) := zby_g zbyb_482 (i := 2) rfl rfl
theorem dX12_plain_37 : decode cX12_plain 37 = .ok (.iconst (-1), 1) := zby_g zbyb_482 (i := 3) rfl rfl
theorem dX12_plain_38 : decode cX12_plain 38 = .ok (.if_icmp .eq 5, 3) := zby_g zbyb_482 (i := 4) rfl rfl
theorem dX12_plain_41 : decode cX12_plain 41 = .ok (.iconst 0, 1) := zby_g zbyb_482 (i := 5) rfl rfl
theorem dX12_plain_42 : decode cX12_plain 42 = .ok (.ireturn, 1) := zby_g zbyb_482 (i := 6) rfl rfl
theorem dX12_plain_43 : decode cX12_plain 43 = .ok (.aload_n 0, 1) := zby_g zbyb_482 (i := 7) rfl rfl
theorem dX12_plain_44 : decode cX12_plain 44 = .ok (.bipush 60, 2) := zby_g zbyb_482 (i := 8) rfl rfl
theorem dX12_plain_46 : decode cX12_plain 46 = .ok (.invokevirtual 171, 3) := zby_g zbyb_482 (i := 9) rfl rfl
theorem dX12_plain_49 : decode cX12_plain 49 = .ok (.istore_n 2, 1) := zby_g zbyb_482 (i := 10) rfl rfl
theorem dX12_plain_50 : decode cX12_plain 50 = .ok (.iload_n 2, 1) := zby_g zbyb_482 (i := 11) rfl rfl
theorem dX12_plain_51 : decode cX12_plain 51 = .ok (.ifCond .ne 22, 3) := zby_g zbyb_482 (i := 12) rfl rfl
theorem dX12_plain_54 : decode cX12_plain 54 = .ok (.aload_n 0, 1) := zby_g zbyb_482 (i := 13) rfl rfl
theorem dX12_plain_55 : decode cX12_plain 55 = .ok (.bipush 62, 2) := zby_g zbyb_482 (i := 14) rfl rfl
theorem dX12_plain_57 : decode cX12_plain 57 = .ok (.invokevirtual 171, 3) := zby_g zbyb_482 (i := 15) rfl rfl
noncomputable def zbyl_483 : List (Nat × zbyE) := [(60, zbyo_154 13), (63, zbyo_42), (64, zbyo_42), (65, zbyo_180 80), (68, zbyo_182 104), (71, zbyo_3), (72, zbyo_172), (73, zbyo_42), (74, zbyo_89), (75, zbyo_180 80), (78, zbyo_4), (79, zbyo_96), (80, zbyo_181 80), (83, zbyo_42), (84, zbyo_182 211), (87, zbyo_62)]
theorem zbyb_483 : zbys zbyl_483 (cX12_plain.data.toList.drop 60) 60 = true := by decide +kernel
theorem dX12_plain_60 : decode cX12_plain 60 = .ok (.ifCond .ne 13, 3) := zby_g zbyb_483 (i := 0) rfl rfl
theorem dX12_plain_63 : decode cX12_plain 63 = .ok (.aload_n 0, 1) := zby_g zbyb_483 (i := 1) rfl rfl
theorem dX12_plain_64 : decode cX12_plain 64 = .ok (.aload_n 0, 1) := zby_g zbyb_483 (i := 2) rfl rfl
theorem dX12_plain_65 : decode cX12_plain 65 = .ok (.getfield 80, 3) := zby_g zbyb_483 (i := 3) rfl rfl
theorem dX12_plain_68 : decode cX12_plain 68 = .ok (.invokevirtual 104, 3) := zby_g zbyb_483 (i := 4) rfl rfl
theorem dX12_plain_71 : decode cX12_plain 71 = .ok (.iconst 0, 1) := zby_g zbyb_483 (i := 5) rfl rfl
theorem dX12_plain_72 : decode cX12_plain 72 = .ok (.ireturn, 1) := zby_g zbyb_483 (i := 6) rfl rfl
theorem dX12_plain_73 : decode cX12_plain 73 = .ok (.aload_n 0, 1) := zby_g zbyb_483 (i := 7) rfl rfl
theorem dX12_plain_74 : decode cX12_plain 74 = .ok (.dup, 1) := zby_g zbyb_483 (i := 8) rfl rfl
theorem dX12_plain_75 : decode cX12_plain 75 = .ok (.getfield 80, 3) := zby_g zbyb_483 (i := 9) rfl rfl
theorem dX12_plain_78 : decode cX12_plain 78 = .ok (.iconst 1, 1) := zby_g zbyb_483 (i := 10) rfl rfl
theorem dX12_plain_79 : decode cX12_plain 79 = .ok (.iadd, 1) := zby_g zbyb_483 (i := 11) rfl rfl
theorem dX12_plain_80 : decode cX12_plain 80 = .ok (.putfield 80, 3) := zby_g zbyb_483 (i := 12) rfl rfl
theorem dX12_plain_83 : decode cX12_plain 83 = .ok (.aload_n 0, 1) := zby_g zbyb_483 (i := 13) rfl rfl
theorem dX12_plain_84 : decode cX12_plain 84 = .ok (.invokevirtual 211, 3) := zby_g zbyb_483 (i := 14) rfl rfl
theorem dX12_plain_87 : decode cX12_plain 87 = .ok (.istore_n 3, 1) := zby_g zbyb_483 (i := 15) rfl rfl
noncomputable def zbyl_484 : List (Nat × zbyE) := [(88, zbyo_28), (89, zbyo_153 16), (92, zbyo_27), (93, zbyo_29), (94, zbyo_162 7), (97, zbyo_4), (98, zbyo_167 17), (101, zbyo_3), (102, zbyo_167 13), (105, zbyo_27), (106, zbyo_29), (107, zbyo_164 7), (110, zbyo_4), (111, zbyo_167 4), (114, zbyo_3), (115, zbyo_172)]
theorem zbyb_484 : zbys zbyl_484 (cX12_plain.data.toList.drop 88) 88 = true := by decide +kernel
theorem dX12_plain_88 : decode cX12_plain 88 = .ok (.iload_n 2, 1) := zby_g zbyb_484 (i := 0) rfl rfl
theorem dX12_plain_89 : decode cX12_plain 89 = .ok (.ifCond .eq 16, 3) := zby_g zbyb_484 (i := 1) rfl rfl
theorem dX12_plain_92 : decode cX12_plain 92 = .ok (.iload_n 1, 1) := zby_g zbyb_484 (i := 2) rfl rfl
theorem dX12_plain_93 : decode cX12_plain 93 = .ok (.iload_n 3, 1) := zby_g zbyb_484 (i := 3) rfl rfl
theorem dX12_plain_94 : decode cX12_plain 94 = .ok (.if_icmp .ge 7, 3) := zby_g zbyb_484 (i := 4) rfl rfl
theorem dX12_plain_97 : decode cX12_plain 97 = .ok (.iconst 1, 1) := zby_g zbyb_484 (i := 5) rfl rfl
theorem dX12_plain_98 : decode cX12_plain 98 = .ok (.goto 17, 3) := zby_g zbyb_484 (i := 6) rfl rfl
theorem dX12_plain_101 : decode cX12_plain 101 = .ok (.iconst 0, 1) := zby_g zbyb_484 (i := 7) rfl rfl
theorem dX12_plain_102 : decode cX12_plain 102 = .ok (.goto 13, 3) := zby_g zbyb_484 (i := 8) rfl rfl
theorem dX12_plain_105 : decode cX12_plain 105 = .ok (.iload_n 1, 1) := zby_g zbyb_484 (i := 9) rfl rfl
theorem dX12_plain_106 : decode cX12_plain 106 = .ok (.iload_n 3, 1) := zby_g zbyb_484 (i := 10) rfl rfl
theorem dX12_plain_107 : decode cX12_plain 107 = .ok (.if_icmp .le 7, 3) := zby_g zbyb_484 (i := 11) rfl rfl
theorem dX12_plain_110 : decode cX12_plain 110 = .ok (.iconst 1, 1) := zby_g zbyb_484 (i := 12) rfl rfl
theorem dX12_plain_111 : decode cX12_plain 111 = .ok (.goto 4, 3) := zby_g zbyb_484 (i := 13) rfl rfl
theorem dX12_plain_114 : decode cX12_plain 114 = .ok (.iconst 0, 1) := zby_g zbyb_484 (i := 14) rfl rfl
theorem dX12_plain_115 : decode cX12_plain 115 = .ok (.ireturn, 1) := zby_g zbyb_484 (i := 15) rfl rfl
noncomputable def zbyl_485 : List (Nat × zbyE) := [(0, zbyo_42), (1, zbyo_180 25), (4, zbyo_2), (5, zbyo_159 5), (8, zbyo_3), (9, zbyo_172), (10, zbyo_42), (11, zbyo_182 101), (14, zbyo_60), (15, zbyo_42), (16, zbyo_18 214), (18, zbyo_182 108), (21, zbyo_61), (22, zbyo_28), (23, zbyo_154 17), (26, zbyo_42)]
theorem zbyb_485 : zbys zbyl_485 (cX12_atom.data.toList.drop 0) 0 = true := by decide +kernel
theorem dX12_atom_0 : decode cX12_atom 0 = .ok (.aload_n 0, 1) := zby_g zbyb_485 (i := 0) rfl rfl
theorem dX12_atom_1 : decode cX12_atom 1 = .ok (.getfield 25, 3) := zby_g zbyb_485 (i := 1) rfl rfl
theorem dX12_atom_4 : decode cX12_atom 4 = .ok (.iconst (-1), 1) := zby_g zbyb_485 (i := 2) rfl rfl
theorem dX12_atom_5 : decode cX12_atom 5 = .ok (.if_icmp .eq 5, 3) := zby_g zbyb_485 (i := 3) rfl rfl
theorem dX12_atom_8 : decode cX12_atom 8 = .ok (.iconst 0, 1) := zby_g zbyb_485 (i := 4) rfl rfl
theorem dX12_atom_9 : decode cX12_atom 9 = .ok (.ireturn, 1) := zby_g zbyb_485 (i := 5) rfl rfl
theorem dX12_atom_10 : decode cX12_atom 10 = .ok (.aload_n 0, 1) := zby_g zbyb_485 (i := 6) rfl rfl
theorem dX12_atom_11 : decode cX12_atom 11 = .ok (.invokevirtual 101, 3) := zby_g zbyb_485 (i := 7) rfl rfl
theorem dX12_atom_14 : decode cX12_atom 14 = .ok (.istore_n 1, 1) := zby_g zbyb_485 (i := 8) rfl rfl
theorem dX12_atom_15 : decode cX12_atom 15 = .ok (.aload_n 0, 1) := zby_g zbyb_485 (i := 9) rfl rfl
theorem dX12_atom_16 : decode cX12_atom 16 = .ok (.ldc 214, 2) := zby_g zbyb_485 (i := 10) rfl rfl
theorem dX12_atom_18 : decode cX12_atom 18 = .ok (.invokevirtual 108, 3) := zby_g zbyb_485 (i := 11) rfl rfl
theorem dX12_atom_21 : decode cX12_atom 21 = .ok (.istore_n 2, 1) := zby_g zbyb_485 (i := 12) rfl rfl
theorem dX12_atom_22 : decode cX12_atom 22 = .ok (.iload_n 2, 1) := zby_g zbyb_485 (i := 13) rfl rfl
theorem dX12_atom_23 : decode cX12_atom 23 = .ok (.ifCond .ne 17, 3) := zby_g zbyb_485 (i := 14) rfl rfl
theorem dX12_atom_26 : decode cX12_atom 26 = .ok (.aload_n 0, 1) := zby_g zbyb_485 (i := 15) rfl rfl
noncomputable def zbyl_486 : List (Nat × zbyE) := [(27, zbyo_16 40), (29, zbyo_182 171), (32, zbyo_154 8), (35, zbyo_42), (36, zbyo_182 216), (39, zbyo_172), (40, zbyo_42), (41, zbyo_180 162), (44, zbyo_16 6), (46, zbyo_160 10), (49, zbyo_42), (50, zbyo_27), (51, zbyo_182 104), (54, zbyo_3), (55, zbyo_172), (56, zbyo_42)]
theorem zbyb_486 : zbys zbyl_486 (cX12_atom.data.toList.drop 27) 27 = true := by decide +kernel
theorem dX12_atom_27 : decode cX12_atom 27 = .ok (.bipush 40, 2) := zby_g zbyb_486 (i := 0) rfl rfl
theorem dX12_atom_29 : decode cX12_atom 29 = .ok (.invokevirtual 171, 3) := zby_g zbyb_486 (i := 1) rfl rfl
theorem dX12_atom_32 : decode cX12_atom 32 = .ok (.ifCond .ne 8, 3) := zby_g zbyb_486 (i := 2) rfl rfl
theorem dX12_atom_35 : decode cX12_atom 35 = .ok (.aload_n 0, 1) := zby_g zbyb_486 (i := 3) rfl rfl
theorem dX12_atom_36 : decode cX12_atom 36 = .ok (.invokevirtual 216, 3) := zby_g zbyb_486 (i := 4) rfl rfl
theorem dX12_atom_39 : decode cX12_atom 39 = .ok (.ireturn, 1) := zby_g zbyb_486 (i := 5) rfl rfl
theorem dX12_atom_40 : decode cX12_atom 40 = .ok (.aload_n 0, 1) := zby_g zbyb_486 (i := 6) rfl rfl
theorem dX12_atom_41 : decode cX12_atom 41 = .ok (.getfield 162, 3) := zby_g zbyb_486 (i := 7) rfl rfl
theorem dX12_atom_44 : decode cX12_atom 44 = .ok (.bipush 6, 2) := zby_g zbyb_486 (i := 8) rfl rfl
theorem dX12_atom_46 : decode cX12_atom 46 = .ok (.if_icmp .ne 10, 3) := zby_g zbyb_486 (i := 9) rfl rfl
theorem dX12_atom_49 : decode cX12_atom 49 = .ok (.aload_n 0, 1) := zby_g zbyb_486 (i := 10) rfl rfl
theorem dX12_atom_50 : decode cX12_atom 50 = .ok (.iload_n 1, 1) := zby_g zbyb_486 (i := 11) rfl rfl
theorem dX12_atom_51 : decode cX12_atom 51 = .ok (.invokevirtual 104, 3) := zby_g zbyb_486 (i := 12) rfl rfl
theorem dX12_atom_54 : decode cX12_atom 54 = .ok (.iconst 0, 1) := zby_g zbyb_486 (i := 13) rfl rfl
theorem dX12_atom_55 : decode cX12_atom 55 = .ok (.ireturn, 1) := zby_g zbyb_486 (i := 14) rfl rfl
theorem dX12_atom_56 : decode cX12_atom 56 = .ok (.aload_n 0, 1) := zby_g zbyb_486 (i := 15) rfl rfl
noncomputable def zbyl_487 : List (Nat × zbyE) := [(57, zbyo_89), (58, zbyo_180 162), (61, zbyo_4), (62, zbyo_96), (63, zbyo_181 162), (66, zbyo_3), (67, zbyo_62), (68, zbyo_28), (69, zbyo_153 19), (72, zbyo_42), (73, zbyo_182 220), (76, zbyo_154 7), (79, zbyo_4), (80, zbyo_167 4), (83, zbyo_3), (84, zbyo_62)]
theorem zbyb_487 : zbys zbyl_487 (cX12_atom.data.toList.drop 57) 57 = true := by decide +kernel
theorem dX12_atom_57 : decode cX12_atom 57 = .ok (.dup, 1) := zby_g zbyb_487 (i := 0) rfl rfl
theorem dX12_atom_58 : decode cX12_atom 58 = .ok (.getfield 162, 3) := zby_g zbyb_487 (i := 1) rfl rfl
theorem dX12_atom_61 : decode cX12_atom 61 = .ok (.iconst 1, 1) := zby_g zbyb_487 (i := 2) rfl rfl
theorem dX12_atom_62 : decode cX12_atom 62 = .ok (.iadd, 1) := zby_g zbyb_487 (i := 3) rfl rfl
theorem dX12_atom_63 : decode cX12_atom 63 = .ok (.putfield 162, 3) := zby_g zbyb_487 (i := 4) rfl rfl
theorem dX12_atom_66 : decode cX12_atom 66 = .ok (.iconst 0, 1) := zby_g zbyb_487 (i := 5) rfl rfl
theorem dX12_atom_67 : decode cX12_atom 67 = .ok (.istore_n 3, 1) := zby_g zbyb_487 (i := 6) rfl rfl
theorem dX12_atom_68 : decode cX12_atom 68 = .ok (.iload_n 2, 1) := zby_g zbyb_487 (i := 7) rfl rfl
theorem dX12_atom_69 : decode cX12_atom 69 = .ok (.ifCond .eq 19, 3) := zby_g zbyb_487 (i := 8) rfl rfl
theorem dX12_atom_72 : decode cX12_atom 72 = .ok (.aload_n 0, 1) := zby_g zbyb_487 (i := 9) rfl rfl
theorem dX12_atom_73 : decode cX12_atom 73 = .ok (.invokevirtual 220, 3) := zby_g zbyb_487 (i := 10) rfl rfl
theorem dX12_atom_76 : decode cX12_atom 76 = .ok (.ifCond .ne 7, 3) := zby_g zbyb_487 (i := 11) rfl rfl
theorem dX12_atom_79 : decode cX12_atom 79 = .ok (.iconst 1, 1) := zby_g zbyb_487 (i := 12) rfl rfl
theorem dX12_atom_80 : decode cX12_atom 80 = .ok (.goto 4, 3) := zby_g zbyb_487 (i := 13) rfl rfl
theorem dX12_atom_83 : decode cX12_atom 83 = .ok (.iconst 0, 1) := zby_g zbyb_487 (i := 14) rfl rfl
theorem dX12_atom_84 : decode cX12_atom 84 = .ok (.istore_n 3, 1) := zby_g zbyb_487 (i := 15) rfl rfl
noncomputable def zbyl_488 : List (Nat × zbyE) := [(85, zbyo_167 53), (88, zbyo_42), (89, zbyo_89), (90, zbyo_180 80), (93, zbyo_4), (94, zbyo_96), (95, zbyo_181 80), (98, zbyo_42), (99, zbyo_182 223), (102, zbyo_62), (103, zbyo_42), (104, zbyo_180 25), (107, zbyo_2), (108, zbyo_160 20), (111, zbyo_42), (112, zbyo_16 41)]
theorem zbyb_488 : zbys zbyl_488 (cX12_atom.data.toList.drop 85) 85 = true := by decide +kernel
theorem dX12_atom_85 : decode cX12_atom 85 = .ok (.goto 53, 3) := zby_g zbyb_488 (i := 0) rfl rfl
theorem dX12_atom_88 : decode cX12_atom 88 = .ok (.aload_n 0, 1) := zby_g zbyb_488 (i := 1) rfl rfl
theorem dX12_atom_89 : decode cX12_atom 89 = .ok (.dup, 1) := zby_g zbyb_488 (i := 2) rfl rfl
theorem dX12_atom_90 : decode cX12_atom 90 = .ok (.getfield 80, 3) := zby_g zbyb_488 (i := 3) rfl rfl
theorem dX12_atom_93 : decode cX12_atom 93 = .ok (.iconst 1, 1) := zby_g zbyb_488 (i := 4) rfl rfl
theorem dX12_atom_94 : decode cX12_atom 94 = .ok (.iadd, 1) := zby_g zbyb_488 (i := 5) rfl rfl
theorem dX12_atom_95 : decode cX12_atom 95 = .ok (.putfield 80, 3) := zby_g zbyb_488 (i := 6) rfl rfl
theorem dX12_atom_98 : decode cX12_atom 98 = .ok (.aload_n 0, 1) := zby_g zbyb_488 (i := 7) rfl rfl
theorem dX12_atom_99 : decode cX12_atom 99 = .ok (.invokevirtual 223, 3) := zby_g zbyb_488 (i := 8) rfl rfl
theorem dX12_atom_102 : decode cX12_atom 102 = .ok (.istore_n 3, 1) := zby_g zbyb_488 (i := 9) rfl rfl
theorem dX12_atom_103 : decode cX12_atom 103 = .ok (.aload_n 0, 1) := zby_g zbyb_488 (i := 10) rfl rfl
theorem dX12_atom_104 : decode cX12_atom 104 = .ok (.getfield 25, 3) := zby_g zbyb_488 (i := 11) rfl rfl
theorem dX12_atom_107 : decode cX12_atom 107 = .ok (.iconst (-1), 1) := zby_g zbyb_488 (i := 12) rfl rfl
theorem dX12_atom_108 : decode cX12_atom 108 = .ok (.if_icmp .ne 20, 3) := zby_g zbyb_488 (i := 13) rfl rfl
theorem dX12_atom_111 : decode cX12_atom 111 = .ok (.aload_n 0, 1) := zby_g zbyb_488 (i := 14) rfl rfl
theorem dX12_atom_112 : decode cX12_atom 112 = .ok (.bipush 41, 2) := zby_g zbyb_488 (i := 15) rfl rfl
noncomputable def zbyl_489 : List (Nat × zbyE) := [(114, zbyo_182 171), (117, zbyo_154 11), (120, zbyo_42), (121, zbyo_42), (122, zbyo_180 80), (125, zbyo_182 104), (128, zbyo_42), (129, zbyo_89), (130, zbyo_180 80), (133, zbyo_4), (134, zbyo_96), (135, zbyo_181 80), (138, zbyo_42), (139, zbyo_89), (140, zbyo_180 162), (143, zbyo_4)]
theorem zbyb_489 : zbys zbyl_489 (cX12_atom.data.toList.drop 114) 114 = true := by decide +kernel
theorem dX12_atom_114 : decode cX12_atom 114 = .ok (.invokevirtual 171, 3) := zby_g zbyb_489 (i := 0) rfl rfl
theorem dX12_atom_117 : decode cX12_atom 117 = .ok (.ifCond .ne 11, 3) := zby_g zbyb_489 (i := 1) rfl rfl
theorem dX12_atom_120 : decode cX12_atom 120 = .ok (.aload_n 0, 1) := zby_g zbyb_489 (i := 2) rfl rfl
theorem dX12_atom_121 : decode cX12_atom 121 = .ok (.aload_n 0, 1) := zby_g zbyb_489 (i := 3) rfl rfl
theorem dX12_atom_122 : decode cX12_atom 122 = .ok (.getfield 80, 3) := zby_g zbyb_489 (i := 4) rfl rfl
theorem dX12_atom_125 : decode cX12_atom 125 = .ok (.invokevirtual 104, 3) := zby_g zbyb_489 (i := 5) rfl rfl
theorem dX12_atom_128 : decode cX12_atom 128 = .ok (.aload_n 0, 1) := zby_g zbyb_489 (i := 6) rfl rfl
theorem dX12_atom_129 : decode cX12_atom 129 = .ok (.dup, 1) := zby_g zbyb_489 (i := 7) rfl rfl
theorem dX12_atom_130 : decode cX12_atom 130 = .ok (.getfield 80, 3) := zby_g zbyb_489 (i := 8) rfl rfl
theorem dX12_atom_133 : decode cX12_atom 133 = .ok (.iconst 1, 1) := zby_g zbyb_489 (i := 9) rfl rfl
theorem dX12_atom_134 : decode cX12_atom 134 = .ok (.iadd, 1) := zby_g zbyb_489 (i := 10) rfl rfl
theorem dX12_atom_135 : decode cX12_atom 135 = .ok (.putfield 80, 3) := zby_g zbyb_489 (i := 11) rfl rfl
theorem dX12_atom_138 : decode cX12_atom 138 = .ok (.aload_n 0, 1) := zby_g zbyb_489 (i := 12) rfl rfl
theorem dX12_atom_139 : decode cX12_atom 139 = .ok (.dup, 1) := zby_g zbyb_489 (i := 13) rfl rfl
theorem dX12_atom_140 : decode cX12_atom 140 = .ok (.getfield 162, 3) := zby_g zbyb_489 (i := 14) rfl rfl
theorem dX12_atom_143 : decode cX12_atom 143 = .ok (.iconst 1, 1) := zby_g zbyb_489 (i := 15) rfl rfl
noncomputable def zbyl_490 : List (Nat × zbyE) := [(144, zbyo_100), (145, zbyo_181 162), (148, zbyo_29), (149, zbyo_172)]
theorem zbyb_490 : zbys zbyl_490 (cX12_atom.data.toList.drop 144) 144 = true := by decide +kernel
theorem dX12_atom_144 : decode cX12_atom 144 = .ok (.isub, 1) := zby_g zbyb_490 (i := 0) rfl rfl
theorem dX12_atom_145 : decode cX12_atom 145 = .ok (.putfield 162, 3) := zby_g zbyb_490 (i := 1) rfl rfl
theorem dX12_atom_148 : decode cX12_atom 148 = .ok (.iload_n 3, 1) := zby_g zbyb_490 (i := 2) rfl rfl
theorem dX12_atom_149 : decode cX12_atom 149 = .ok (.ireturn, 1) := zby_g zbyb_490 (i := 3) rfl rfl
noncomputable def zbyl_491 : List (Nat × zbyE) := [(0, zbyo_42), (1, zbyo_182 220), (4, zbyo_60), (5, zbyo_42), (6, zbyo_180 25), (9, zbyo_2), (10, zbyo_160 34), (13, zbyo_42), (14, zbyo_18 226), (16, zbyo_182 108), (19, zbyo_153 25), (22, zbyo_42), (23, zbyo_182 220), (26, zbyo_61), (27, zbyo_27), (28, zbyo_153 11)]
theorem zbyb_491 : zbys zbyl_491 (cX12_every.data.toList.drop 0) 0 = true := by decide +kernel
theorem dX12_every_0 : decode cX12_every 0 = .ok (.aload_n 0, 1) := zby_g zbyb_491 (i := 0) rfl rfl
theorem dX12_every_1 : decode cX12_every 1 = .ok (.invokevirtual 220, 3) := zby_g zbyb_491 (i := 1) rfl rfl
theorem dX12_every_4 : decode cX12_every 4 = .ok (.istore_n 1, 1) := zby_g zbyb_491 (i := 2) rfl rfl
theorem dX12_every_5 : decode cX12_every 5 = .ok (.aload_n 0, 1) := zby_g zbyb_491 (i := 3) rfl rfl
theorem dX12_every_6 : decode cX12_every 6 = .ok (.getfield 25, 3) := zby_g zbyb_491 (i := 4) rfl rfl
theorem dX12_every_9 : decode cX12_every 9 = .ok (.iconst (-1), 1) := zby_g zbyb_491 (i := 5) rfl rfl
theorem dX12_every_10 : decode cX12_every 10 = .ok (.if_icmp .ne 34, 3) := zby_g zbyb_491 (i := 6) rfl rfl
theorem dX12_every_13 : decode cX12_every 13 = .ok (.aload_n 0, 1) := zby_g zbyb_491 (i := 7) rfl rfl
theorem dX12_every_14 : decode cX12_every 14 = .ok (.ldc 226, 2) := zby_g zbyb_491 (i := 8) rfl rfl
theorem dX12_every_16 : decode cX12_every 16 = .ok (.invokevirtual 108, 3) := zby_g zbyb_491 (i := 9) rfl rfl
theorem dX12_every_19 : decode cX12_every 19 = .ok (.ifCond .eq 25, 3) := zby_g zbyb_491 (i := 10) rfl rfl
theorem dX12_every_22 : decode cX12_every 22 = .ok (.aload_n 0, 1) := zby_g zbyb_491 (i := 11) rfl rfl
theorem dX12_every_23 : decode cX12_every 23 = .ok (.invokevirtual 220, 3) := zby_g zbyb_491 (i := 12) rfl rfl
theorem dX12_every_26 : decode cX12_every 26 = .ok (.istore_n 2, 1) := zby_g zbyb_491 (i := 13) rfl rfl
theorem dX12_every_27 : decode cX12_every 27 = .ok (.iload_n 1, 1) := zby_g zbyb_491 (i := 14) rfl rfl
theorem dX12_every_28 : decode cX12_every 28 = .ok (.ifCond .eq 11, 3) := zby_g zbyb_491 (i := 15) rfl rfl
noncomputable def zbyl_492 : List (Nat × zbyE) := [(31, zbyo_28), (32, zbyo_153 7), (35, zbyo_4), (36, zbyo_167 4), (39, zbyo_3), (40, zbyo_60), (41, zbyo_167 (-36)), (44, zbyo_27), (45, zbyo_172)]
theorem zbyb_492 : zbys zbyl_492 (cX12_every.data.toList.drop 31) 31 = true := by decide +kernel
theorem dX12_every_31 : decode cX12_every 31 = .ok (.iload_n 2, 1) := zby_g zbyb_492 (i := 0) rfl rfl
theorem dX12_every_32 : decode cX12_every 32 = .ok (.ifCond .eq 7, 3) := zby_g zbyb_492 (i := 1) rfl rfl
theorem dX12_every_35 : decode cX12_every 35 = .ok (.iconst 1, 1) := zby_g zbyb_492 (i := 2) rfl rfl
theorem dX12_every_36 : decode cX12_every 36 = .ok (.goto 4, 3) := zby_g zbyb_492 (i := 3) rfl rfl
theorem dX12_every_39 : decode cX12_every 39 = .ok (.iconst 0, 1) := zby_g zbyb_492 (i := 4) rfl rfl
theorem dX12_every_40 : decode cX12_every 40 = .ok (.istore_n 1, 1) := zby_g zbyb_492 (i := 5) rfl rfl
theorem dX12_every_41 : decode cX12_every 41 = .ok (.goto (-36), 3) := zby_g zbyb_492 (i := 6) rfl rfl
theorem dX12_every_44 : decode cX12_every 44 = .ok (.iload_n 1, 1) := zby_g zbyb_492 (i := 7) rfl rfl
theorem dX12_every_45 : decode cX12_every 45 = .ok (.ireturn, 1) := zby_g zbyb_492 (i := 8) rfl rfl
noncomputable def zbyl_493 : List (Nat × zbyE) := [(0, zbyo_42), (1, zbyo_182 228), (4, zbyo_60), (5, zbyo_42), (6, zbyo_180 25), (9, zbyo_2), (10, zbyo_160 34), (13, zbyo_42), (14, zbyo_18 231), (16, zbyo_182 108), (19, zbyo_153 25), (22, zbyo_42), (23, zbyo_182 228), (26, zbyo_61), (27, zbyo_27), (28, zbyo_154 7)]
theorem zbyb_493 : zbys zbyl_493 (cX12_some.data.toList.drop 0) 0 = true := by decide +kernel
theorem dX12_some_0 : decode cX12_some 0 = .ok (.aload_n 0, 1) := zby_g zbyb_493 (i := 0) rfl rfl
theorem dX12_some_1 : decode cX12_some 1 = .ok (.invokevirtual 228, 3) := zby_g zbyb_493 (i := 1) rfl rfl
theorem dX12_some_4 : decode cX12_some 4 = .ok (.istore_n 1, 1) := zby_g zbyb_493 (i := 2) rfl rfl
theorem dX12_some_5 : decode cX12_some 5 = .ok (.aload_n 0, 1) := zby_g zbyb_493 (i := 3) rfl rfl
theorem dX12_some_6 : decode cX12_some 6 = .ok (.getfield 25, 3) := zby_g zbyb_493 (i := 4) rfl rfl
theorem dX12_some_9 : decode cX12_some 9 = .ok (.iconst (-1), 1) := zby_g zbyb_493 (i := 5) rfl rfl
theorem dX12_some_10 : decode cX12_some 10 = .ok (.if_icmp .ne 34, 3) := zby_g zbyb_493 (i := 6) rfl rfl
theorem dX12_some_13 : decode cX12_some 13 = .ok (.aload_n 0, 1) := zby_g zbyb_493 (i := 7) rfl rfl
theorem dX12_some_14 : decode cX12_some 14 = .ok (.ldc 231, 2) := zby_g zbyb_493 (i := 8) rfl rfl
theorem dX12_some_16 : decode cX12_some 16 = .ok (.invokevirtual 108, 3) := zby_g zbyb_493 (i := 9) rfl rfl
theorem dX12_some_19 : decode cX12_some 19 = .ok (.ifCond .eq 25, 3) := zby_g zbyb_493 (i := 10) rfl rfl
theorem dX12_some_22 : decode cX12_some 22 = .ok (.aload_n 0, 1) := zby_g zbyb_493 (i := 11) rfl rfl
theorem dX12_some_23 : decode cX12_some 23 = .ok (.invokevirtual 228, 3) := zby_g zbyb_493 (i := 12) rfl rfl
theorem dX12_some_26 : decode cX12_some 26 = .ok (.istore_n 2, 1) := zby_g zbyb_493 (i := 13) rfl rfl
theorem dX12_some_27 : decode cX12_some 27 = .ok (.iload_n 1, 1) := zby_g zbyb_493 (i := 14) rfl rfl
theorem dX12_some_28 : decode cX12_some 28 = .ok (.ifCond .ne 7, 3) := zby_g zbyb_493 (i := 15) rfl rfl
noncomputable def zbyl_494 : List (Nat × zbyE) := [(31, zbyo_28), (32, zbyo_153 7), (35, zbyo_4), (36, zbyo_167 4), (39, zbyo_3), (40, zbyo_60), (41, zbyo_167 (-36)), (44, zbyo_27), (45, zbyo_172)]
theorem zbyb_494 : zbys zbyl_494 (cX12_some.data.toList.drop 31) 31 = true := by decide +kernel
theorem dX12_some_31 : decode cX12_some 31 = .ok (.iload_n 2, 1) := zby_g zbyb_494 (i := 0) rfl rfl
theorem dX12_some_32 : decode cX12_some 32 = .ok (.ifCond .eq 7, 3) := zby_g zbyb_494 (i := 1) rfl rfl
theorem dX12_some_35 : decode cX12_some 35 = .ok (.iconst 1, 1) := zby_g zbyb_494 (i := 2) rfl rfl
theorem dX12_some_36 : decode cX12_some 36 = .ok (.goto 4, 3) := zby_g zbyb_494 (i := 3) rfl rfl
theorem dX12_some_39 : decode cX12_some 39 = .ok (.iconst 0, 1) := zby_g zbyb_494 (i := 4) rfl rfl
theorem dX12_some_40 : decode cX12_some 40 = .ok (.istore_n 1, 1) := zby_g zbyb_494 (i := 5) rfl rfl
theorem dX12_some_41 : decode cX12_some 41 = .ok (.goto (-36), 3) := zby_g zbyb_494 (i := 6) rfl rfl
theorem dX12_some_44 : decode cX12_some 44 = .ok (.iload_n 1, 1) := zby_g zbyb_494 (i := 7) rfl rfl
theorem dX12_some_45 : decode cX12_some 45 = .ok (.ireturn, 1) := zby_g zbyb_494 (i := 8) rfl rfl
noncomputable def zbyl_495 : List (Nat × zbyE) := [(0, zbyo_42), (1, zbyo_18 233), (3, zbyo_182 108), (6, zbyo_60), (7, zbyo_27), (8, zbyo_154 21), (11, zbyo_42), (12, zbyo_18 235), (14, zbyo_182 108), (17, zbyo_154 12), (20, zbyo_42), (21, zbyo_42), (22, zbyo_180 80), (25, zbyo_182 104), (28, zbyo_177), (29, zbyo_42)]
theorem zbyb_495 : zbys zbyl_495 (cX12_lawLine.data.toList.drop 0) 0 = true := by decide +kernel
theorem dX12_lawLine_0 : decode cX12_lawLine 0 = .ok (.aload_n 0, 1) := zby_g zbyb_495 (i := 0) rfl rfl
theorem dX12_lawLine_1 : decode cX12_lawLine 1 = .ok (.ldc 233, 2) := zby_g zbyb_495 (i := 1) rfl rfl
theorem dX12_lawLine_3 : decode cX12_lawLine 3 = .ok (.invokevirtual 108, 3) := zby_g zbyb_495 (i := 2) rfl rfl
theorem dX12_lawLine_6 : decode cX12_lawLine 6 = .ok (.istore_n 1, 1) := zby_g zbyb_495 (i := 3) rfl rfl
theorem dX12_lawLine_7 : decode cX12_lawLine 7 = .ok (.iload_n 1, 1) := zby_g zbyb_495 (i := 4) rfl rfl
theorem dX12_lawLine_8 : decode cX12_lawLine 8 = .ok (.ifCond .ne 21, 3) := zby_g zbyb_495 (i := 5) rfl rfl
theorem dX12_lawLine_11 : decode cX12_lawLine 11 = .ok (.aload_n 0, 1) := zby_g zbyb_495 (i := 6) rfl rfl
theorem dX12_lawLine_12 : decode cX12_lawLine 12 = .ok (.ldc 235, 2) := zby_g zbyb_495 (i := 7) rfl rfl
theorem dX12_lawLine_14 : decode cX12_lawLine 14 = .ok (.invokevirtual 108, 3) := zby_g zbyb_495 (i := 8) rfl rfl
theorem dX12_lawLine_17 : decode cX12_lawLine 17 = .ok (.ifCond .ne 12, 3) := zby_g zbyb_495 (i := 9) rfl rfl
theorem dX12_lawLine_20 : decode cX12_lawLine 20 = .ok (.aload_n 0, 1) := zby_g zbyb_495 (i := 10) rfl rfl
theorem dX12_lawLine_21 : decode cX12_lawLine 21 = .ok (.aload_n 0, 1) := zby_g zbyb_495 (i := 11) rfl rfl
theorem dX12_lawLine_22 : decode cX12_lawLine 22 = .ok (.getfield 80, 3) := zby_g zbyb_495 (i := 12) rfl rfl
theorem dX12_lawLine_25 : decode cX12_lawLine 25 = .ok (.invokevirtual 104, 3) := zby_g zbyb_495 (i := 13) rfl rfl
theorem dX12_lawLine_28 : decode cX12_lawLine 28 = .ok (.return_, 1) := zby_g zbyb_495 (i := 14) rfl rfl
theorem dX12_lawLine_29 : decode cX12_lawLine 29 = .ok (.aload_n 0, 1) := zby_g zbyb_495 (i := 15) rfl rfl
noncomputable def zbyl_496 : List (Nat × zbyE) := [(30, zbyo_3), (31, zbyo_16 30), (33, zbyo_182 112), (36, zbyo_61), (37, zbyo_42), (38, zbyo_180 25), (41, zbyo_2), (42, zbyo_159 4), (45, zbyo_177), (46, zbyo_42), (47, zbyo_18 237), (49, zbyo_182 108), (52, zbyo_153 10), (55, zbyo_42), (56, zbyo_182 223), (59, zbyo_153 7)]
theorem zbyb_496 : zbys zbyl_496 (cX12_lawLine.data.toList.drop 30) 30 = true := by decide +kernel
theorem dX12_lawLine_30 : decode cX12_lawLine 30 = .ok (.iconst 0, 1) := zby_g zbyb_496 (i := 0) rfl rfl
theorem dX12_lawLine_31 : decode cX12_lawLine 31 = .ok (.bipush 30, 2) := zby_g zbyb_496 (i := 1) rfl rfl
theorem dX12_lawLine_33 : decode cX12_lawLine 33 = .ok (.invokevirtual 112, 3) := zby_g zbyb_496 (i := 2) rfl rfl
theorem dX12_lawLine_36 : decode cX12_lawLine 36 = .ok (.istore_n 2, 1) := zby_g zbyb_496 (i := 3) rfl rfl
theorem dX12_lawLine_37 : decode cX12_lawLine 37 = .ok (.aload_n 0, 1) := zby_g zbyb_496 (i := 4) rfl rfl
theorem dX12_lawLine_38 : decode cX12_lawLine 38 = .ok (.getfield 25, 3) := zby_g zbyb_496 (i := 5) rfl rfl
theorem dX12_lawLine_41 : decode cX12_lawLine 41 = .ok (.iconst (-1), 1) := zby_g zbyb_496 (i := 6) rfl rfl
theorem dX12_lawLine_42 : decode cX12_lawLine 42 = .ok (.if_icmp .eq 4, 3) := zby_g zbyb_496 (i := 7) rfl rfl
theorem dX12_lawLine_45 : decode cX12_lawLine 45 = .ok (.return_, 1) := zby_g zbyb_496 (i := 8) rfl rfl
theorem dX12_lawLine_46 : decode cX12_lawLine 46 = .ok (.aload_n 0, 1) := zby_g zbyb_496 (i := 9) rfl rfl
theorem dX12_lawLine_47 : decode cX12_lawLine 47 = .ok (.ldc 237, 2) := zby_g zbyb_496 (i := 10) rfl rfl
theorem dX12_lawLine_49 : decode cX12_lawLine 49 = .ok (.invokevirtual 108, 3) := zby_g zbyb_496 (i := 11) rfl rfl
theorem dX12_lawLine_52 : decode cX12_lawLine 52 = .ok (.ifCond .eq 10, 3) := zby_g zbyb_496 (i := 12) rfl rfl
theorem dX12_lawLine_55 : decode cX12_lawLine 55 = .ok (.aload_n 0, 1) := zby_g zbyb_496 (i := 13) rfl rfl
theorem dX12_lawLine_56 : decode cX12_lawLine 56 = .ok (.invokevirtual 223, 3) := zby_g zbyb_496 (i := 14) rfl rfl
theorem dX12_lawLine_59 : decode cX12_lawLine 59 = .ok (.ifCond .eq 7, 3) := zby_g zbyb_496 (i := 15) rfl rfl
noncomputable def zbyl_497 : List (Nat × zbyE) := [(62, zbyo_4), (63, zbyo_167 4), (66, zbyo_3), (67, zbyo_62), (68, zbyo_42), (69, zbyo_180 25), (72, zbyo_2), (73, zbyo_160 26), (76, zbyo_29), (77, zbyo_153 22), (80, zbyo_42), (81, zbyo_89), (82, zbyo_180 239), (85, zbyo_27), (86, zbyo_153 7), (89, zbyo_28)]
theorem zbyb_497 : zbys zbyl_497 (cX12_lawLine.data.toList.drop 62) 62 = true := by decide +kernel
theorem dX12_lawLine_62 : decode cX12_lawLine 62 = .ok (.iconst 1, 1) := zby_g zbyb_497 (i := 0) rfl rfl
theorem dX12_lawLine_63 : decode cX12_lawLine 63 = .ok (.goto 4, 3) := zby_g zbyb_497 (i := 1) rfl rfl
theorem dX12_lawLine_66 : decode cX12_lawLine 66 = .ok (.iconst 0, 1) := zby_g zbyb_497 (i := 2) rfl rfl
theorem dX12_lawLine_67 : decode cX12_lawLine 67 = .ok (.istore_n 3, 1) := zby_g zbyb_497 (i := 3) rfl rfl
theorem dX12_lawLine_68 : decode cX12_lawLine 68 = .ok (.aload_n 0, 1) := zby_g zbyb_497 (i := 4) rfl rfl
theorem dX12_lawLine_69 : decode cX12_lawLine 69 = .ok (.getfield 25, 3) := zby_g zbyb_497 (i := 5) rfl rfl
theorem dX12_lawLine_72 : decode cX12_lawLine 72 = .ok (.iconst (-1), 1) := zby_g zbyb_497 (i := 6) rfl rfl
theorem dX12_lawLine_73 : decode cX12_lawLine 73 = .ok (.if_icmp .ne 26, 3) := zby_g zbyb_497 (i := 7) rfl rfl
theorem dX12_lawLine_76 : decode cX12_lawLine 76 = .ok (.iload_n 3, 1) := zby_g zbyb_497 (i := 8) rfl rfl
theorem dX12_lawLine_77 : decode cX12_lawLine 77 = .ok (.ifCond .eq 22, 3) := zby_g zbyb_497 (i := 9) rfl rfl
theorem dX12_lawLine_80 : decode cX12_lawLine 80 = .ok (.aload_n 0, 1) := zby_g zbyb_497 (i := 10) rfl rfl
theorem dX12_lawLine_81 : decode cX12_lawLine 81 = .ok (.dup, 1) := zby_g zbyb_497 (i := 11) rfl rfl
theorem dX12_lawLine_82 : decode cX12_lawLine 82 = .ok (.getfield 239, 3) := zby_g zbyb_497 (i := 12) rfl rfl
theorem dX12_lawLine_85 : decode cX12_lawLine 85 = .ok (.iload_n 1, 1) := zby_g zbyb_497 (i := 13) rfl rfl
theorem dX12_lawLine_86 : decode cX12_lawLine 86 = .ok (.ifCond .eq 7, 3) := zby_g zbyb_497 (i := 14) rfl rfl
theorem dX12_lawLine_89 : decode cX12_lawLine 89 = .ok (.iload_n 2, 1) := zby_g zbyb_497 (i := 15) rfl rfl
noncomputable def zbyl_498 : List (Nat × zbyE) := [(90, zbyo_167 5), (93, zbyo_28), (94, zbyo_116), (95, zbyo_96), (96, zbyo_181 239), (99, zbyo_177)]
theorem zbyb_498 : zbys zbyl_498 (cX12_lawLine.data.toList.drop 90) 90 = true := by decide +kernel
theorem dX12_lawLine_90 : decode cX12_lawLine 90 = .ok (.goto 5, 3) := zby_g zbyb_498 (i := 0) rfl rfl
theorem dX12_lawLine_93 : decode cX12_lawLine 93 = .ok (.iload_n 2, 1) := zby_g zbyb_498 (i := 1) rfl rfl
theorem dX12_lawLine_94 : decode cX12_lawLine 94 = .ok (.ineg, 1) := zby_g zbyb_498 (i := 2) rfl rfl
theorem dX12_lawLine_95 : decode cX12_lawLine 95 = .ok (.iadd, 1) := zby_g zbyb_498 (i := 3) rfl rfl
theorem dX12_lawLine_96 : decode cX12_lawLine 96 = .ok (.putfield 239, 3) := zby_g zbyb_498 (i := 4) rfl rfl
theorem dX12_lawLine_99 : decode cX12_lawLine 99 = .ok (.return_, 1) := zby_g zbyb_498 (i := 5) rfl rfl
noncomputable def zbyl_499 : List (Nat × zbyE) := [(0, zbyo_42), (1, zbyo_182 177), (4, zbyo_42), (5, zbyo_4), (6, zbyo_182 180), (9, zbyo_60), (10, zbyo_42), (11, zbyo_42), (12, zbyo_180 25), (15, zbyo_2), (16, zbyo_159 7), (19, zbyo_4), (20, zbyo_167 4), (23, zbyo_3), (24, zbyo_181 39), (27, zbyo_42)]
theorem zbyb_499 : zbys zbyl_499 (cX12_law.data.toList.drop 0) 0 = true := by decide +kernel
theorem dX12_law_0 : decode cX12_law 0 = .ok (.aload_n 0, 1) := zby_g zbyb_499 (i := 0) rfl rfl
theorem dX12_law_1 : decode cX12_law 1 = .ok (.invokevirtual 177, 3) := zby_g zbyb_499 (i := 1) rfl rfl
theorem dX12_law_4 : decode cX12_law 4 = .ok (.aload_n 0, 1) := zby_g zbyb_499 (i := 2) rfl rfl
theorem dX12_law_5 : decode cX12_law 5 = .ok (.iconst 1, 1) := zby_g zbyb_499 (i := 3) rfl rfl
theorem dX12_law_6 : decode cX12_law 6 = .ok (.invokevirtual 180, 3) := zby_g zbyb_499 (i := 4) rfl rfl
theorem dX12_law_9 : decode cX12_law 9 = .ok (.istore_n 1, 1) := zby_g zbyb_499 (i := 5) rfl rfl
theorem dX12_law_10 : decode cX12_law 10 = .ok (.aload_n 0, 1) := zby_g zbyb_499 (i := 6) rfl rfl
theorem dX12_law_11 : decode cX12_law 11 = .ok (.aload_n 0, 1) := zby_g zbyb_499 (i := 7) rfl rfl
theorem dX12_law_12 : decode cX12_law 12 = .ok (.getfield 25, 3) := zby_g zbyb_499 (i := 8) rfl rfl
theorem dX12_law_15 : decode cX12_law 15 = .ok (.iconst (-1), 1) := zby_g zbyb_499 (i := 9) rfl rfl
theorem dX12_law_16 : decode cX12_law 16 = .ok (.if_icmp .eq 7, 3) := zby_g zbyb_499 (i := 10) rfl rfl
theorem dX12_law_19 : decode cX12_law 19 = .ok (.iconst 1, 1) := zby_g zbyb_499 (i := 11) rfl rfl
theorem dX12_law_20 : decode cX12_law 20 = .ok (.goto 4, 3) := zby_g zbyb_499 (i := 12) rfl rfl
theorem dX12_law_23 : decode cX12_law 23 = .ok (.iconst 0, 1) := zby_g zbyb_499 (i := 13) rfl rfl
theorem dX12_law_24 : decode cX12_law 24 = .ok (.putfield 39, 3) := zby_g zbyb_499 (i := 14) rfl rfl
theorem dX12_law_27 : decode cX12_law 27 = .ok (.aload_n 0, 1) := zby_g zbyb_499 (i := 15) rfl rfl
noncomputable def zbyl_500 : List (Nat × zbyE) := [(28, zbyo_180 39), (31, zbyo_158 5), (34, zbyo_3), (35, zbyo_172), (36, zbyo_42), (37, zbyo_180 7), (40, zbyo_4), (41, zbyo_27), (42, zbyo_79), (43, zbyo_42), (44, zbyo_180 7), (47, zbyo_5), (48, zbyo_42), (49, zbyo_180 83), (52, zbyo_79), (53, zbyo_3)]
theorem zbyb_500 : zbys zbyl_500 (cX12_law.data.toList.drop 28) 28 = true := by decide +kernel
theorem dX12_law_28 : decode cX12_law 28 = .ok (.getfield 39, 3) := zby_g zbyb_500 (i := 0) rfl rfl
theorem dX12_law_31 : decode cX12_law 31 = .ok (.ifCond .le 5, 3) := zby_g zbyb_500 (i := 1) rfl rfl
theorem dX12_law_34 : decode cX12_law 34 = .ok (.iconst 0, 1) := zby_g zbyb_500 (i := 2) rfl rfl
theorem dX12_law_35 : decode cX12_law 35 = .ok (.ireturn, 1) := zby_g zbyb_500 (i := 3) rfl rfl
theorem dX12_law_36 : decode cX12_law 36 = .ok (.aload_n 0, 1) := zby_g zbyb_500 (i := 4) rfl rfl
theorem dX12_law_37 : decode cX12_law 37 = .ok (.getfield 7, 3) := zby_g zbyb_500 (i := 5) rfl rfl
theorem dX12_law_40 : decode cX12_law 40 = .ok (.iconst 1, 1) := zby_g zbyb_500 (i := 6) rfl rfl
theorem dX12_law_41 : decode cX12_law 41 = .ok (.iload_n 1, 1) := zby_g zbyb_500 (i := 7) rfl rfl
theorem dX12_law_42 : decode cX12_law 42 = .ok (.iastore, 1) := zby_g zbyb_500 (i := 8) rfl rfl
theorem dX12_law_43 : decode cX12_law 43 = .ok (.aload_n 0, 1) := zby_g zbyb_500 (i := 9) rfl rfl
theorem dX12_law_44 : decode cX12_law 44 = .ok (.getfield 7, 3) := zby_g zbyb_500 (i := 10) rfl rfl
theorem dX12_law_47 : decode cX12_law 47 = .ok (.iconst 2, 1) := zby_g zbyb_500 (i := 11) rfl rfl
theorem dX12_law_48 : decode cX12_law 48 = .ok (.aload_n 0, 1) := zby_g zbyb_500 (i := 12) rfl rfl
theorem dX12_law_49 : decode cX12_law 49 = .ok (.getfield 83, 3) := zby_g zbyb_500 (i := 13) rfl rfl
theorem dX12_law_52 : decode cX12_law 52 = .ok (.iastore, 1) := zby_g zbyb_500 (i := 14) rfl rfl
theorem dX12_law_53 : decode cX12_law 53 = .ok (.iconst 0, 1) := zby_g zbyb_500 (i := 15) rfl rfl
noncomputable def zbyl_501 : List (Nat × zbyE) := [(54, zbyo_61), (55, zbyo_28), (56, zbyo_42), (57, zbyo_180 83), (60, zbyo_162 25), (63, zbyo_42), (64, zbyo_180 7), (67, zbyo_17 379), (70, zbyo_28), (71, zbyo_96), (72, zbyo_42), (73, zbyo_180 22), (76, zbyo_28), (77, zbyo_46), (78, zbyo_79), (79, zbyo_132 2 1)]
theorem zbyb_501 : zbys zbyl_501 (cX12_law.data.toList.drop 54) 54 = true := by decide +kernel
theorem dX12_law_54 : decode cX12_law 54 = .ok (.istore_n 2, 1) := zby_g zbyb_501 (i := 0) rfl rfl
theorem dX12_law_55 : decode cX12_law 55 = .ok (.iload_n 2, 1) := zby_g zbyb_501 (i := 1) rfl rfl
theorem dX12_law_56 : decode cX12_law 56 = .ok (.aload_n 0, 1) := zby_g zbyb_501 (i := 2) rfl rfl
theorem dX12_law_57 : decode cX12_law 57 = .ok (.getfield 83, 3) := zby_g zbyb_501 (i := 3) rfl rfl
theorem dX12_law_60 : decode cX12_law 60 = .ok (.if_icmp .ge 25, 3) := zby_g zbyb_501 (i := 4) rfl rfl
theorem dX12_law_63 : decode cX12_law 63 = .ok (.aload_n 0, 1) := zby_g zbyb_501 (i := 5) rfl rfl
theorem dX12_law_64 : decode cX12_law 64 = .ok (.getfield 7, 3) := zby_g zbyb_501 (i := 6) rfl rfl
theorem dX12_law_67 : decode cX12_law 67 = .ok (.sipush 379, 3) := zby_g zbyb_501 (i := 7) rfl rfl
theorem dX12_law_70 : decode cX12_law 70 = .ok (.iload_n 2, 1) := zby_g zbyb_501 (i := 8) rfl rfl
theorem dX12_law_71 : decode cX12_law 71 = .ok (.iadd, 1) := zby_g zbyb_501 (i := 9) rfl rfl
theorem dX12_law_72 : decode cX12_law 72 = .ok (.aload_n 0, 1) := zby_g zbyb_501 (i := 10) rfl rfl
theorem dX12_law_73 : decode cX12_law 73 = .ok (.getfield 22, 3) := zby_g zbyb_501 (i := 11) rfl rfl
theorem dX12_law_76 : decode cX12_law 76 = .ok (.iload_n 2, 1) := zby_g zbyb_501 (i := 12) rfl rfl
theorem dX12_law_77 : decode cX12_law 77 = .ok (.iaload, 1) := zby_g zbyb_501 (i := 13) rfl rfl
theorem dX12_law_78 : decode cX12_law 78 = .ok (.iastore, 1) := zby_g zbyb_501 (i := 14) rfl rfl
theorem dX12_law_79 : decode cX12_law 79 = .ok (.iinc 2 1, 3) := zby_g zbyb_501 (i := 15) rfl rfl
noncomputable def zbyl_502 : List (Nat × zbyE) := [(82, zbyo_167 (-27)), (85, zbyo_42), (86, zbyo_3), (87, zbyo_181 187), (90, zbyo_27), (91, zbyo_172)]
theorem zbyb_502 : zbys zbyl_502 (cX12_law.data.toList.drop 82) 82 = true := by decide +kernel
theorem dX12_law_82 : decode cX12_law 82 = .ok (.goto (-27), 3) := zby_g zbyb_502 (i := 0) rfl rfl
theorem dX12_law_85 : decode cX12_law 85 = .ok (.aload_n 0, 1) := zby_g zbyb_502 (i := 1) rfl rfl
theorem dX12_law_86 : decode cX12_law 86 = .ok (.iconst 0, 1) := zby_g zbyb_502 (i := 2) rfl rfl
theorem dX12_law_87 : decode cX12_law 87 = .ok (.putfield 187, 3) := zby_g zbyb_502 (i := 3) rfl rfl
theorem dX12_law_90 : decode cX12_law 90 = .ok (.iload_n 1, 1) := zby_g zbyb_502 (i := 4) rfl rfl
theorem dX12_law_91 : decode cX12_law 91 = .ok (.ireturn, 1) := zby_g zbyb_502 (i := 5) rfl rfl
noncomputable def zbyl_503 : List (Nat × zbyE) := [(0, zbyo_42), (1, zbyo_3), (2, zbyo_181 39), (5, zbyo_42), (6, zbyo_180 25), (9, zbyo_172)]
theorem zbyb_503 : zbys zbyl_503 (cX12_fault.data.toList.drop 0) 0 = true := by decide +kernel
theorem dX12_fault_0 : decode cX12_fault 0 = .ok (.aload_n 0, 1) := zby_g zbyb_503 (i := 0) rfl rfl
theorem dX12_fault_1 : decode cX12_fault 1 = .ok (.iconst 0, 1) := zby_g zbyb_503 (i := 1) rfl rfl
theorem dX12_fault_2 : decode cX12_fault 2 = .ok (.putfield 39, 3) := zby_g zbyb_503 (i := 2) rfl rfl
theorem dX12_fault_5 : decode cX12_fault 5 = .ok (.aload_n 0, 1) := zby_g zbyb_503 (i := 3) rfl rfl
theorem dX12_fault_6 : decode cX12_fault 6 = .ok (.getfield 25, 3) := zby_g zbyb_503 (i := 4) rfl rfl
theorem dX12_fault_9 : decode cX12_fault 9 = .ok (.ireturn, 1) := zby_g zbyb_503 (i := 5) rfl rfl
noncomputable def zbyl_504 : List (Nat × zbyE) := [(0, zbyo_42), (1, zbyo_180 7), (4, zbyo_4), (5, zbyo_46), (6, zbyo_2), (7, zbyo_160 19), (10, zbyo_42), (11, zbyo_27), (12, zbyo_6), (13, zbyo_182 46), (16, zbyo_4), (17, zbyo_160 7), (20, zbyo_2), (21, zbyo_167 4), (24, zbyo_3), (25, zbyo_172)]
theorem zbyb_504 : zbys zbyl_504 (cX12_turnsBy.data.toList.drop 0) 0 = true := by decide +kernel
theorem dX12_turnsBy_0 : decode cX12_turnsBy 0 = .ok (.aload_n 0, 1) := zby_g zbyb_504 (i := 0) rfl rfl
theorem dX12_turnsBy_1 : decode cX12_turnsBy 1 = .ok (.getfield 7, 3) := zby_g zbyb_504 (i := 1) rfl rfl
theorem dX12_turnsBy_4 : decode cX12_turnsBy 4 = .ok (.iconst 1, 1) := zby_g zbyb_504 (i := 2) rfl rfl
theorem dX12_turnsBy_5 : decode cX12_turnsBy 5 = .ok (.iaload, 1) := zby_g zbyb_504 (i := 3) rfl rfl
theorem dX12_turnsBy_6 : decode cX12_turnsBy 6 = .ok (.iconst (-1), 1) := zby_g zbyb_504 (i := 4) rfl rfl
theorem dX12_turnsBy_7 : decode cX12_turnsBy 7 = .ok (.if_icmp .ne 19, 3) := zby_g zbyb_504 (i := 5) rfl rfl
theorem dX12_turnsBy_10 : decode cX12_turnsBy 10 = .ok (.aload_n 0, 1) := zby_g zbyb_504 (i := 6) rfl rfl
theorem dX12_turnsBy_11 : decode cX12_turnsBy 11 = .ok (.iload_n 1, 1) := zby_g zbyb_504 (i := 7) rfl rfl
theorem dX12_turnsBy_12 : decode cX12_turnsBy 12 = .ok (.iconst 3, 1) := zby_g zbyb_504 (i := 8) rfl rfl
theorem dX12_turnsBy_13 : decode cX12_turnsBy 13 = .ok (.invokevirtual 46, 3) := zby_g zbyb_504 (i := 9) rfl rfl
theorem dX12_turnsBy_16 : decode cX12_turnsBy 16 = .ok (.iconst 1, 1) := zby_g zbyb_504 (i := 10) rfl rfl
theorem dX12_turnsBy_17 : decode cX12_turnsBy 17 = .ok (.if_icmp .ne 7, 3) := zby_g zbyb_504 (i := 11) rfl rfl
theorem dX12_turnsBy_20 : decode cX12_turnsBy 20 = .ok (.iconst (-1), 1) := zby_g zbyb_504 (i := 12) rfl rfl
theorem dX12_turnsBy_21 : decode cX12_turnsBy 21 = .ok (.goto 4, 3) := zby_g zbyb_504 (i := 13) rfl rfl
theorem dX12_turnsBy_24 : decode cX12_turnsBy 24 = .ok (.iconst 0, 1) := zby_g zbyb_504 (i := 14) rfl rfl
theorem dX12_turnsBy_25 : decode cX12_turnsBy 25 = .ok (.ireturn, 1) := zby_g zbyb_504 (i := 15) rfl rfl
noncomputable def zbyl_505 : List (Nat × zbyE) := [(26, zbyo_42), (27, zbyo_180 29), (30, zbyo_3), (31, zbyo_27), (32, zbyo_79), (33, zbyo_42), (34, zbyo_180 29), (37, zbyo_4), (38, zbyo_42), (39, zbyo_27), (40, zbyo_3), (41, zbyo_182 46), (44, zbyo_79), (45, zbyo_42), (46, zbyo_180 29), (49, zbyo_5)]
theorem zbyb_505 : zbys zbyl_505 (cX12_turnsBy.data.toList.drop 26) 26 = true := by decide +kernel
theorem dX12_turnsBy_26 : decode cX12_turnsBy 26 = .ok (.aload_n 0, 1) := zby_g zbyb_505 (i := 0) rfl rfl
theorem dX12_turnsBy_27 : decode cX12_turnsBy 27 = .ok (.getfield 29, 3) := zby_g zbyb_505 (i := 1) rfl rfl
theorem dX12_turnsBy_30 : decode cX12_turnsBy 30 = .ok (.iconst 0, 1) := zby_g zbyb_505 (i := 2) rfl rfl
theorem dX12_turnsBy_31 : decode cX12_turnsBy 31 = .ok (.iload_n 1, 1) := zby_g zbyb_505 (i := 3) rfl rfl
theorem dX12_turnsBy_32 : decode cX12_turnsBy 32 = .ok (.iastore, 1) := zby_g zbyb_505 (i := 4) rfl rfl
theorem dX12_turnsBy_33 : decode cX12_turnsBy 33 = .ok (.aload_n 0, 1) := zby_g zbyb_505 (i := 5) rfl rfl
theorem dX12_turnsBy_34 : decode cX12_turnsBy 34 = .ok (.getfield 29, 3) := zby_g zbyb_505 (i := 6) rfl rfl
theorem dX12_turnsBy_37 : decode cX12_turnsBy 37 = .ok (.iconst 1, 1) := zby_g zbyb_505 (i := 7) rfl rfl
theorem dX12_turnsBy_38 : decode cX12_turnsBy 38 = .ok (.aload_n 0, 1) := zby_g zbyb_505 (i := 8) rfl rfl
theorem dX12_turnsBy_39 : decode cX12_turnsBy 39 = .ok (.iload_n 1, 1) := zby_g zbyb_505 (i := 9) rfl rfl
theorem dX12_turnsBy_40 : decode cX12_turnsBy 40 = .ok (.iconst 0, 1) := zby_g zbyb_505 (i := 10) rfl rfl
theorem dX12_turnsBy_41 : decode cX12_turnsBy 41 = .ok (.invokevirtual 46, 3) := zby_g zbyb_505 (i := 11) rfl rfl
theorem dX12_turnsBy_44 : decode cX12_turnsBy 44 = .ok (.iastore, 1) := zby_g zbyb_505 (i := 12) rfl rfl
theorem dX12_turnsBy_45 : decode cX12_turnsBy 45 = .ok (.aload_n 0, 1) := zby_g zbyb_505 (i := 13) rfl rfl
theorem dX12_turnsBy_46 : decode cX12_turnsBy 46 = .ok (.getfield 29, 3) := zby_g zbyb_505 (i := 14) rfl rfl
theorem dX12_turnsBy_49 : decode cX12_turnsBy 49 = .ok (.iconst 2, 1) := zby_g zbyb_505 (i := 15) rfl rfl
noncomputable def zbyl_506 : List (Nat × zbyE) := [(50, zbyo_42), (51, zbyo_182 65), (54, zbyo_79), (55, zbyo_42), (56, zbyo_180 29), (59, zbyo_6), (60, zbyo_42), (61, zbyo_4), (62, zbyo_182 242), (65, zbyo_184 58), (68, zbyo_79), (69, zbyo_42), (70, zbyo_180 29), (73, zbyo_7), (74, zbyo_42), (75, zbyo_27)]
theorem zbyb_506 : zbys zbyl_506 (cX12_turnsBy.data.toList.drop 50) 50 = true := by decide +kernel
theorem dX12_turnsBy_50 : decode cX12_turnsBy 50 = .ok (.aload_n 0, 1) := zby_g zbyb_506 (i := 0) rfl rfl
theorem dX12_turnsBy_51 : decode cX12_turnsBy 51 = .ok (.invokevirtual 65, 3) := zby_g zbyb_506 (i := 1) rfl rfl
theorem dX12_turnsBy_54 : decode cX12_turnsBy 54 = .ok (.iastore, 1) := zby_g zbyb_506 (i := 2) rfl rfl
theorem dX12_turnsBy_55 : decode cX12_turnsBy 55 = .ok (.aload_n 0, 1) := zby_g zbyb_506 (i := 3) rfl rfl
theorem dX12_turnsBy_56 : decode cX12_turnsBy 56 = .ok (.getfield 29, 3) := zby_g zbyb_506 (i := 4) rfl rfl
theorem dX12_turnsBy_59 : decode cX12_turnsBy 59 = .ok (.iconst 3, 1) := zby_g zbyb_506 (i := 5) rfl rfl
theorem dX12_turnsBy_60 : decode cX12_turnsBy 60 = .ok (.aload_n 0, 1) := zby_g zbyb_506 (i := 6) rfl rfl
theorem dX12_turnsBy_61 : decode cX12_turnsBy 61 = .ok (.iconst 1, 1) := zby_g zbyb_506 (i := 7) rfl rfl
theorem dX12_turnsBy_62 : decode cX12_turnsBy 62 = .ok (.invokevirtual 242, 3) := zby_g zbyb_506 (i := 8) rfl rfl
theorem dX12_turnsBy_65 : decode cX12_turnsBy 65 = .ok (.invokestatic 58, 3) := zby_g zbyb_506 (i := 9) rfl rfl
theorem dX12_turnsBy_68 : decode cX12_turnsBy 68 = .ok (.iastore, 1) := zby_g zbyb_506 (i := 10) rfl rfl
theorem dX12_turnsBy_69 : decode cX12_turnsBy 69 = .ok (.aload_n 0, 1) := zby_g zbyb_506 (i := 11) rfl rfl
theorem dX12_turnsBy_70 : decode cX12_turnsBy 70 = .ok (.getfield 29, 3) := zby_g zbyb_506 (i := 12) rfl rfl
theorem dX12_turnsBy_73 : decode cX12_turnsBy 73 = .ok (.iconst 4, 1) := zby_g zbyb_506 (i := 13) rfl rfl
theorem dX12_turnsBy_74 : decode cX12_turnsBy 74 = .ok (.aload_n 0, 1) := zby_g zbyb_506 (i := 14) rfl rfl
theorem dX12_turnsBy_75 : decode cX12_turnsBy 75 = .ok (.iload_n 1, 1) := zby_g zbyb_506 (i := 15) rfl rfl
noncomputable def zbyl_507 : List (Nat × zbyE) := [(76, zbyo_182 245), (79, zbyo_79), (80, zbyo_42), (81, zbyo_180 29), (84, zbyo_8), (85, zbyo_42), (86, zbyo_180 7), (89, zbyo_16 8), (91, zbyo_46), (92, zbyo_79), (93, zbyo_42), (94, zbyo_42), (95, zbyo_27), (96, zbyo_6), (97, zbyo_182 46), (100, zbyo_4)]
theorem zbyb_507 : zbys zbyl_507 (cX12_turnsBy.data.toList.drop 76) 76 = true := by decide +kernel
theorem dX12_turnsBy_76 : decode cX12_turnsBy 76 = .ok (.invokevirtual 245, 3) := zby_g zbyb_507 (i := 0) rfl rfl
theorem dX12_turnsBy_79 : decode cX12_turnsBy 79 = .ok (.iastore, 1) := zby_g zbyb_507 (i := 1) rfl rfl
theorem dX12_turnsBy_80 : decode cX12_turnsBy 80 = .ok (.aload_n 0, 1) := zby_g zbyb_507 (i := 2) rfl rfl
theorem dX12_turnsBy_81 : decode cX12_turnsBy 81 = .ok (.getfield 29, 3) := zby_g zbyb_507 (i := 3) rfl rfl
theorem dX12_turnsBy_84 : decode cX12_turnsBy 84 = .ok (.iconst 5, 1) := zby_g zbyb_507 (i := 4) rfl rfl
theorem dX12_turnsBy_85 : decode cX12_turnsBy 85 = .ok (.aload_n 0, 1) := zby_g zbyb_507 (i := 5) rfl rfl
theorem dX12_turnsBy_86 : decode cX12_turnsBy 86 = .ok (.getfield 7, 3) := zby_g zbyb_507 (i := 6) rfl rfl
theorem dX12_turnsBy_89 : decode cX12_turnsBy 89 = .ok (.bipush 8, 2) := zby_g zbyb_507 (i := 7) rfl rfl
theorem dX12_turnsBy_91 : decode cX12_turnsBy 91 = .ok (.iaload, 1) := zby_g zbyb_507 (i := 8) rfl rfl
theorem dX12_turnsBy_92 : decode cX12_turnsBy 92 = .ok (.iastore, 1) := zby_g zbyb_507 (i := 9) rfl rfl
theorem dX12_turnsBy_93 : decode cX12_turnsBy 93 = .ok (.aload_n 0, 1) := zby_g zbyb_507 (i := 10) rfl rfl
theorem dX12_turnsBy_94 : decode cX12_turnsBy 94 = .ok (.aload_n 0, 1) := zby_g zbyb_507 (i := 11) rfl rfl
theorem dX12_turnsBy_95 : decode cX12_turnsBy 95 = .ok (.iload_n 1, 1) := zby_g zbyb_507 (i := 12) rfl rfl
theorem dX12_turnsBy_96 : decode cX12_turnsBy 96 = .ok (.iconst 3, 1) := zby_g zbyb_507 (i := 13) rfl rfl
theorem dX12_turnsBy_97 : decode cX12_turnsBy 97 = .ok (.invokevirtual 46, 3) := zby_g zbyb_507 (i := 14) rfl rfl
theorem dX12_turnsBy_100 : decode cX12_turnsBy 100 = .ok (.iconst 1, 1) := zby_g zbyb_507 (i := 15) rfl rfl
noncomputable def zbyl_508 : List (Nat × zbyE) := [(101, zbyo_160 7), (104, zbyo_4), (105, zbyo_167 4), (108, zbyo_3), (109, zbyo_181 202), (112, zbyo_42), (113, zbyo_42), (114, zbyo_27), (115, zbyo_5), (116, zbyo_182 46), (119, zbyo_158 7), (122, zbyo_4), (123, zbyo_167 4), (126, zbyo_3), (127, zbyo_181 208), (130, zbyo_42)]
theorem zbyb_508 : zbys zbyl_508 (cX12_turnsBy.data.toList.drop 101) 101 = true := by decide +kernel
theorem dX12_turnsBy_101 : decode cX12_turnsBy 101 = .ok (.if_icmp .ne 7, 3) := zby_g zbyb_508 (i := 0) rfl rfl
theorem dX12_turnsBy_104 : decode cX12_turnsBy 104 = .ok (.iconst 1, 1) := zby_g zbyb_508 (i := 1) rfl rfl
theorem dX12_turnsBy_105 : decode cX12_turnsBy 105 = .ok (.goto 4, 3) := zby_g zbyb_508 (i := 2) rfl rfl
theorem dX12_turnsBy_108 : decode cX12_turnsBy 108 = .ok (.iconst 0, 1) := zby_g zbyb_508 (i := 3) rfl rfl
theorem dX12_turnsBy_109 : decode cX12_turnsBy 109 = .ok (.putfield 202, 3) := zby_g zbyb_508 (i := 4) rfl rfl
theorem dX12_turnsBy_112 : decode cX12_turnsBy 112 = .ok (.aload_n 0, 1) := zby_g zbyb_508 (i := 5) rfl rfl
theorem dX12_turnsBy_113 : decode cX12_turnsBy 113 = .ok (.aload_n 0, 1) := zby_g zbyb_508 (i := 6) rfl rfl
theorem dX12_turnsBy_114 : decode cX12_turnsBy 114 = .ok (.iload_n 1, 1) := zby_g zbyb_508 (i := 7) rfl rfl
theorem dX12_turnsBy_115 : decode cX12_turnsBy 115 = .ok (.iconst 2, 1) := zby_g zbyb_508 (i := 8) rfl rfl
theorem dX12_turnsBy_116 : decode cX12_turnsBy 116 = .ok (.invokevirtual 46, 3) := zby_g zbyb_508 (i := 9) rfl rfl
theorem dX12_turnsBy_119 : decode cX12_turnsBy 119 = .ok (.ifCond .le 7, 3) := zby_g zbyb_508 (i := 10) rfl rfl
theorem dX12_turnsBy_122 : decode cX12_turnsBy 122 = .ok (.iconst 1, 1) := zby_g zbyb_508 (i := 11) rfl rfl
theorem dX12_turnsBy_123 : decode cX12_turnsBy 123 = .ok (.goto 4, 3) := zby_g zbyb_508 (i := 12) rfl rfl
theorem dX12_turnsBy_126 : decode cX12_turnsBy 126 = .ok (.iconst 0, 1) := zby_g zbyb_508 (i := 13) rfl rfl
theorem dX12_turnsBy_127 : decode cX12_turnsBy 127 = .ok (.putfield 208, 3) := zby_g zbyb_508 (i := 14) rfl rfl
theorem dX12_turnsBy_130 : decode cX12_turnsBy 130 = .ok (.aload_n 0, 1) := zby_g zbyb_508 (i := 15) rfl rfl
noncomputable def zbyl_509 : List (Nat × zbyE) := [(131, zbyo_3), (132, zbyo_181 239), (135, zbyo_42), (136, zbyo_180 25), (139, zbyo_61), (140, zbyo_42), (141, zbyo_2), (142, zbyo_181 25), (145, zbyo_42), (146, zbyo_17 379), (149, zbyo_181 77), (152, zbyo_42), (153, zbyo_42), (154, zbyo_180 7), (157, zbyo_5), (158, zbyo_46)]
theorem zbyb_509 : zbys zbyl_509 (cX12_turnsBy.data.toList.drop 131) 131 = true := by decide +kernel
theorem dX12_turnsBy_131 : decode cX12_turnsBy 131 = .ok (.iconst 0, 1) := zby_g zbyb_509 (i := 0) rfl rfl
theorem dX12_turnsBy_132 : decode cX12_turnsBy 132 = .ok (.putfield 239, 3) := zby_g zbyb_509 (i := 1) rfl rfl
theorem dX12_turnsBy_135 : decode cX12_turnsBy 135 = .ok (.aload_n 0, 1) := zby_g zbyb_509 (i := 2) rfl rfl
theorem dX12_turnsBy_136 : decode cX12_turnsBy 136 = .ok (.getfield 25, 3) := zby_g zbyb_509 (i := 3) rfl rfl
theorem dX12_turnsBy_139 : decode cX12_turnsBy 139 = .ok (.istore_n 2, 1) := zby_g zbyb_509 (i := 4) rfl rfl
theorem dX12_turnsBy_140 : decode cX12_turnsBy 140 = .ok (.aload_n 0, 1) := zby_g zbyb_509 (i := 5) rfl rfl
theorem dX12_turnsBy_141 : decode cX12_turnsBy 141 = .ok (.iconst (-1), 1) := zby_g zbyb_509 (i := 6) rfl rfl
theorem dX12_turnsBy_142 : decode cX12_turnsBy 142 = .ok (.putfield 25, 3) := zby_g zbyb_509 (i := 7) rfl rfl
theorem dX12_turnsBy_145 : decode cX12_turnsBy 145 = .ok (.aload_n 0, 1) := zby_g zbyb_509 (i := 8) rfl rfl
theorem dX12_turnsBy_146 : decode cX12_turnsBy 146 = .ok (.sipush 379, 3) := zby_g zbyb_509 (i := 9) rfl rfl
theorem dX12_turnsBy_149 : decode cX12_turnsBy 149 = .ok (.putfield 77, 3) := zby_g zbyb_509 (i := 10) rfl rfl
theorem dX12_turnsBy_152 : decode cX12_turnsBy 152 = .ok (.aload_n 0, 1) := zby_g zbyb_509 (i := 11) rfl rfl
theorem dX12_turnsBy_153 : decode cX12_turnsBy 153 = .ok (.aload_n 0, 1) := zby_g zbyb_509 (i := 12) rfl rfl
theorem dX12_turnsBy_154 : decode cX12_turnsBy 154 = .ok (.getfield 7, 3) := zby_g zbyb_509 (i := 13) rfl rfl
theorem dX12_turnsBy_157 : decode cX12_turnsBy 157 = .ok (.iconst 2, 1) := zby_g zbyb_509 (i := 14) rfl rfl
theorem dX12_turnsBy_158 : decode cX12_turnsBy 158 = .ok (.iaload, 1) := zby_g zbyb_509 (i := 15) rfl rfl
noncomputable def zbyl_510 : List (Nat × zbyE) := [(159, zbyo_181 83), (162, zbyo_42), (163, zbyo_3), (164, zbyo_181 80), (167, zbyo_42), (168, zbyo_3), (169, zbyo_181 162), (172, zbyo_42), (173, zbyo_4), (174, zbyo_182 180), (177, zbyo_62), (178, zbyo_42), (179, zbyo_28), (180, zbyo_181 25), (183, zbyo_42), (184, zbyo_180 239)]
theorem zbyb_510 : zbys zbyl_510 (cX12_turnsBy.data.toList.drop 159) 159 = true := by decide +kernel
theorem dX12_turnsBy_159 : decode cX12_turnsBy 159 = .ok (.putfield 83, 3) := zby_g zbyb_510 (i := 0) rfl rfl
theorem dX12_turnsBy_162 : decode cX12_turnsBy 162 = .ok (.aload_n 0, 1) := zby_g zbyb_510 (i := 1) rfl rfl
theorem dX12_turnsBy_163 : decode cX12_turnsBy 163 = .ok (.iconst 0, 1) := zby_g zbyb_510 (i := 2) rfl rfl
theorem dX12_turnsBy_164 : decode cX12_turnsBy 164 = .ok (.putfield 80, 3) := zby_g zbyb_510 (i := 3) rfl rfl
theorem dX12_turnsBy_167 : decode cX12_turnsBy 167 = .ok (.aload_n 0, 1) := zby_g zbyb_510 (i := 4) rfl rfl
theorem dX12_turnsBy_168 : decode cX12_turnsBy 168 = .ok (.iconst 0, 1) := zby_g zbyb_510 (i := 5) rfl rfl
theorem dX12_turnsBy_169 : decode cX12_turnsBy 169 = .ok (.putfield 162, 3) := zby_g zbyb_510 (i := 6) rfl rfl
theorem dX12_turnsBy_172 : decode cX12_turnsBy 172 = .ok (.aload_n 0, 1) := zby_g zbyb_510 (i := 7) rfl rfl
theorem dX12_turnsBy_173 : decode cX12_turnsBy 173 = .ok (.iconst 1, 1) := zby_g zbyb_510 (i := 8) rfl rfl
theorem dX12_turnsBy_174 : decode cX12_turnsBy 174 = .ok (.invokevirtual 180, 3) := zby_g zbyb_510 (i := 9) rfl rfl
theorem dX12_turnsBy_177 : decode cX12_turnsBy 177 = .ok (.istore_n 3, 1) := zby_g zbyb_510 (i := 10) rfl rfl
theorem dX12_turnsBy_178 : decode cX12_turnsBy 178 = .ok (.aload_n 0, 1) := zby_g zbyb_510 (i := 11) rfl rfl
theorem dX12_turnsBy_179 : decode cX12_turnsBy 179 = .ok (.iload_n 2, 1) := zby_g zbyb_510 (i := 12) rfl rfl
theorem dX12_turnsBy_180 : decode cX12_turnsBy 180 = .ok (.putfield 25, 3) := zby_g zbyb_510 (i := 13) rfl rfl
theorem dX12_turnsBy_183 : decode cX12_turnsBy 183 = .ok (.aload_n 0, 1) := zby_g zbyb_510 (i := 14) rfl rfl
theorem dX12_turnsBy_184 : decode cX12_turnsBy 184 = .ok (.getfield 239, 3) := zby_g zbyb_510 (i := 15) rfl rfl
noncomputable def zbyl_511 : List (Nat × zbyE) := [(187, zbyo_172)]
theorem zbyb_511 : zbys zbyl_511 (cX12_turnsBy.data.toList.drop 187) 187 = true := by decide +kernel
theorem dX12_turnsBy_187 : decode cX12_turnsBy 187 = .ok (.ireturn, 1) := zby_g zbyb_511 (i := 0) rfl rfl
noncomputable def zbyl_512 : List (Nat × zbyE) := [(0, zbyo_42), (1, zbyo_180 7), (4, zbyo_16 10), (6, zbyo_18 247), (8, zbyo_42), (9, zbyo_180 7), (12, zbyo_16 10), (14, zbyo_46), (15, zbyo_104), (16, zbyo_17 12345), (19, zbyo_96), (20, zbyo_79), (21, zbyo_42), (22, zbyo_180 7), (25, zbyo_16 10), (27, zbyo_46)]
theorem zbyb_512 : zbys zbyl_512 (cX12_draw.data.toList.drop 0) 0 = true := by decide +kernel
theorem dX12_draw_0 : decode cX12_draw 0 = .ok (.aload_n 0, 1) := zby_g zbyb_512 (i := 0) rfl rfl
theorem dX12_draw_1 : decode cX12_draw 1 = .ok (.getfield 7, 3) := zby_g zbyb_512 (i := 1) rfl rfl
theorem dX12_draw_4 : decode cX12_draw 4 = .ok (.bipush 10, 2) := zby_g zbyb_512 (i := 2) rfl rfl
theorem dX12_draw_6 : decode cX12_draw 6 = .ok (.ldc 247, 2) := zby_g zbyb_512 (i := 3) rfl rfl
theorem dX12_draw_8 : decode cX12_draw 8 = .ok (.aload_n 0, 1) := zby_g zbyb_512 (i := 4) rfl rfl
theorem dX12_draw_9 : decode cX12_draw 9 = .ok (.getfield 7, 3) := zby_g zbyb_512 (i := 5) rfl rfl
theorem dX12_draw_12 : decode cX12_draw 12 = .ok (.bipush 10, 2) := zby_g zbyb_512 (i := 6) rfl rfl
theorem dX12_draw_14 : decode cX12_draw 14 = .ok (.iaload, 1) := zby_g zbyb_512 (i := 7) rfl rfl
theorem dX12_draw_15 : decode cX12_draw 15 = .ok (.imul, 1) := zby_g zbyb_512 (i := 8) rfl rfl
theorem dX12_draw_16 : decode cX12_draw 16 = .ok (.sipush 12345, 3) := zby_g zbyb_512 (i := 9) rfl rfl
theorem dX12_draw_19 : decode cX12_draw 19 = .ok (.iadd, 1) := zby_g zbyb_512 (i := 10) rfl rfl
theorem dX12_draw_20 : decode cX12_draw 20 = .ok (.iastore, 1) := zby_g zbyb_512 (i := 11) rfl rfl
theorem dX12_draw_21 : decode cX12_draw 21 = .ok (.aload_n 0, 1) := zby_g zbyb_512 (i := 12) rfl rfl
theorem dX12_draw_22 : decode cX12_draw 22 = .ok (.getfield 7, 3) := zby_g zbyb_512 (i := 13) rfl rfl
theorem dX12_draw_25 : decode cX12_draw 25 = .ok (.bipush 10, 2) := zby_g zbyb_512 (i := 14) rfl rfl
theorem dX12_draw_27 : decode cX12_draw 27 = .ok (.iaload, 1) := zby_g zbyb_512 (i := 15) rfl rfl
noncomputable def zbyl_513 : List (Nat × zbyE) := [(28, zbyo_16 16), (30, zbyo_124), (31, zbyo_17 32767), (34, zbyo_126), (35, zbyo_27), (36, zbyo_112), (37, zbyo_172)]
theorem zbyb_513 : zbys zbyl_513 (cX12_draw.data.toList.drop 28) 28 = true := by decide +kernel
theorem dX12_draw_28 : decode cX12_draw 28 = .ok (.bipush 16, 2) := zby_g zbyb_513 (i := 0) rfl rfl
theorem dX12_draw_30 : decode cX12_draw 30 = .ok (.iushr, 1) := zby_g zbyb_513 (i := 1) rfl rfl
theorem dX12_draw_31 : decode cX12_draw 31 = .ok (.sipush 32767, 3) := zby_g zbyb_513 (i := 2) rfl rfl
theorem dX12_draw_34 : decode cX12_draw 34 = .ok (.iand, 1) := zby_g zbyb_513 (i := 3) rfl rfl
theorem dX12_draw_35 : decode cX12_draw 35 = .ok (.iload_n 1, 1) := zby_g zbyb_513 (i := 4) rfl rfl
theorem dX12_draw_36 : decode cX12_draw 36 = .ok (.irem, 1) := zby_g zbyb_513 (i := 5) rfl rfl
theorem dX12_draw_37 : decode cX12_draw 37 = .ok (.ireturn, 1) := zby_g zbyb_513 (i := 6) rfl rfl
noncomputable def zbyl_514 : List (Nat × zbyE) := [(0, zbyo_17 239), (3, zbyo_62), (4, zbyo_29), (5, zbyo_7), (6, zbyo_161 31), (9, zbyo_42), (10, zbyo_180 7), (13, zbyo_17 139), (16, zbyo_29), (17, zbyo_96), (18, zbyo_42), (19, zbyo_180 7), (22, zbyo_17 139), (25, zbyo_29), (26, zbyo_96), (27, zbyo_7)]
theorem zbyb_514 : zbys zbyl_514 (cX12_logs.data.toList.drop 0) 0 = true := by decide +kernel
theorem dX12_logs_0 : decode cX12_logs 0 = .ok (.sipush 239, 3) := zby_g zbyb_514 (i := 0) rfl rfl
theorem dX12_logs_3 : decode cX12_logs 3 = .ok (.istore_n 3, 1) := zby_g zbyb_514 (i := 1) rfl rfl
theorem dX12_logs_4 : decode cX12_logs 4 = .ok (.iload_n 3, 1) := zby_g zbyb_514 (i := 2) rfl rfl
theorem dX12_logs_5 : decode cX12_logs 5 = .ok (.iconst 4, 1) := zby_g zbyb_514 (i := 3) rfl rfl
theorem dX12_logs_6 : decode cX12_logs 6 = .ok (.if_icmp .lt 31, 3) := zby_g zbyb_514 (i := 4) rfl rfl
theorem dX12_logs_9 : decode cX12_logs 9 = .ok (.aload_n 0, 1) := zby_g zbyb_514 (i := 5) rfl rfl
theorem dX12_logs_10 : decode cX12_logs 10 = .ok (.getfield 7, 3) := zby_g zbyb_514 (i := 6) rfl rfl
theorem dX12_logs_13 : decode cX12_logs 13 = .ok (.sipush 139, 3) := zby_g zbyb_514 (i := 7) rfl rfl
theorem dX12_logs_16 : decode cX12_logs 16 = .ok (.iload_n 3, 1) := zby_g zbyb_514 (i := 8) rfl rfl
theorem dX12_logs_17 : decode cX12_logs 17 = .ok (.iadd, 1) := zby_g zbyb_514 (i := 9) rfl rfl
theorem dX12_logs_18 : decode cX12_logs 18 = .ok (.aload_n 0, 1) := zby_g zbyb_514 (i := 10) rfl rfl
theorem dX12_logs_19 : decode cX12_logs 19 = .ok (.getfield 7, 3) := zby_g zbyb_514 (i := 11) rfl rfl
theorem dX12_logs_22 : decode cX12_logs 22 = .ok (.sipush 139, 3) := zby_g zbyb_514 (i := 12) rfl rfl
theorem dX12_logs_25 : decode cX12_logs 25 = .ok (.iload_n 3, 1) := zby_g zbyb_514 (i := 13) rfl rfl
theorem dX12_logs_26 : decode cX12_logs 26 = .ok (.iadd, 1) := zby_g zbyb_514 (i := 14) rfl rfl
theorem dX12_logs_27 : decode cX12_logs 27 = .ok (.iconst 4, 1) := zby_g zbyb_514 (i := 15) rfl rfl
noncomputable def zbyl_515 : List (Nat × zbyE) := [(28, zbyo_100), (29, zbyo_46), (30, zbyo_79), (31, zbyo_132 3 (-1)), (34, zbyo_167 (-30)), (37, zbyo_42), (38, zbyo_180 7), (41, zbyo_17 139), (44, zbyo_42), (45, zbyo_180 7), (48, zbyo_16 8), (50, zbyo_46), (51, zbyo_79), (52, zbyo_42), (53, zbyo_180 7), (56, zbyo_17 140)]
theorem zbyb_515 : zbys zbyl_515 (cX12_logs.data.toList.drop 28) 28 = true := by decide +kernel
theorem dX12_logs_28 : decode cX12_logs 28 = .ok (.isub, 1) := zby_g zbyb_515 (i := 0) rfl rfl
theorem dX12_logs_29 : decode cX12_logs 29 = .ok (.iaload, 1) := zby_g zbyb_515 (i := 1) rfl rfl
theorem dX12_logs_30 : decode cX12_logs 30 = .ok (.iastore, 1) := zby_g zbyb_515 (i := 2) rfl rfl
theorem dX12_logs_31 : decode cX12_logs 31 = .ok (.iinc 3 (-1), 3) := zby_g zbyb_515 (i := 3) rfl rfl
theorem dX12_logs_34 : decode cX12_logs 34 = .ok (.goto (-30), 3) := zby_g zbyb_515 (i := 4) rfl rfl
theorem dX12_logs_37 : decode cX12_logs 37 = .ok (.aload_n 0, 1) := zby_g zbyb_515 (i := 5) rfl rfl
theorem dX12_logs_38 : decode cX12_logs 38 = .ok (.getfield 7, 3) := zby_g zbyb_515 (i := 6) rfl rfl
theorem dX12_logs_41 : decode cX12_logs 41 = .ok (.sipush 139, 3) := zby_g zbyb_515 (i := 7) rfl rfl
theorem dX12_logs_44 : decode cX12_logs 44 = .ok (.aload_n 0, 1) := zby_g zbyb_515 (i := 8) rfl rfl
theorem dX12_logs_45 : decode cX12_logs 45 = .ok (.getfield 7, 3) := zby_g zbyb_515 (i := 9) rfl rfl
theorem dX12_logs_48 : decode cX12_logs 48 = .ok (.bipush 8, 2) := zby_g zbyb_515 (i := 10) rfl rfl
theorem dX12_logs_50 : decode cX12_logs 50 = .ok (.iaload, 1) := zby_g zbyb_515 (i := 11) rfl rfl
theorem dX12_logs_51 : decode cX12_logs 51 = .ok (.iastore, 1) := zby_g zbyb_515 (i := 12) rfl rfl
theorem dX12_logs_52 : decode cX12_logs 52 = .ok (.aload_n 0, 1) := zby_g zbyb_515 (i := 13) rfl rfl
theorem dX12_logs_53 : decode cX12_logs 53 = .ok (.getfield 7, 3) := zby_g zbyb_515 (i := 14) rfl rfl
theorem dX12_logs_56 : decode cX12_logs 56 = .ok (.sipush 140, 3) := zby_g zbyb_515 (i := 15) rfl rfl
noncomputable def zbyl_516 : List (Nat × zbyE) := [(59, zbyo_27), (60, zbyo_79), (61, zbyo_42), (62, zbyo_180 7), (65, zbyo_17 141), (68, zbyo_28), (69, zbyo_79), (70, zbyo_42), (71, zbyo_180 7), (74, zbyo_17 142), (77, zbyo_42), (78, zbyo_182 62), (81, zbyo_79), (82, zbyo_42), (83, zbyo_180 7), (86, zbyo_16 9)]
theorem zbyb_516 : zbys zbyl_516 (cX12_logs.data.toList.drop 59) 59 = true := by decide +kernel
theorem dX12_logs_59 : decode cX12_logs 59 = .ok (.iload_n 1, 1) := zby_g zbyb_516 (i := 0) rfl rfl
theorem dX12_logs_60 : decode cX12_logs 60 = .ok (.iastore, 1) := zby_g zbyb_516 (i := 1) rfl rfl
theorem dX12_logs_61 : decode cX12_logs 61 = .ok (.aload_n 0, 1) := zby_g zbyb_516 (i := 2) rfl rfl
theorem dX12_logs_62 : decode cX12_logs 62 = .ok (.getfield 7, 3) := zby_g zbyb_516 (i := 3) rfl rfl
theorem dX12_logs_65 : decode cX12_logs 65 = .ok (.sipush 141, 3) := zby_g zbyb_516 (i := 4) rfl rfl
theorem dX12_logs_68 : decode cX12_logs 68 = .ok (.iload_n 2, 1) := zby_g zbyb_516 (i := 5) rfl rfl
theorem dX12_logs_69 : decode cX12_logs 69 = .ok (.iastore, 1) := zby_g zbyb_516 (i := 6) rfl rfl
theorem dX12_logs_70 : decode cX12_logs 70 = .ok (.aload_n 0, 1) := zby_g zbyb_516 (i := 7) rfl rfl
theorem dX12_logs_71 : decode cX12_logs 71 = .ok (.getfield 7, 3) := zby_g zbyb_516 (i := 8) rfl rfl
theorem dX12_logs_74 : decode cX12_logs 74 = .ok (.sipush 142, 3) := zby_g zbyb_516 (i := 9) rfl rfl
theorem dX12_logs_77 : decode cX12_logs 77 = .ok (.aload_n 0, 1) := zby_g zbyb_516 (i := 10) rfl rfl
theorem dX12_logs_78 : decode cX12_logs 78 = .ok (.invokevirtual 62, 3) := zby_g zbyb_516 (i := 11) rfl rfl
theorem dX12_logs_81 : decode cX12_logs 81 = .ok (.iastore, 1) := zby_g zbyb_516 (i := 12) rfl rfl
theorem dX12_logs_82 : decode cX12_logs 82 = .ok (.aload_n 0, 1) := zby_g zbyb_516 (i := 13) rfl rfl
theorem dX12_logs_83 : decode cX12_logs 83 = .ok (.getfield 7, 3) := zby_g zbyb_516 (i := 14) rfl rfl
theorem dX12_logs_86 : decode cX12_logs 86 = .ok (.bipush 9, 2) := zby_g zbyb_516 (i := 15) rfl rfl
noncomputable def zbyl_517 : List (Nat × zbyE) := [(88, zbyo_16 60), (90, zbyo_42), (91, zbyo_180 7), (94, zbyo_16 9), (96, zbyo_46), (97, zbyo_4), (98, zbyo_96), (99, zbyo_184 248), (102, zbyo_79), (103, zbyo_177)]
theorem zbyb_517 : zbys zbyl_517 (cX12_logs.data.toList.drop 88) 88 = true := by decide +kernel
theorem dX12_logs_88 : decode cX12_logs 88 = .ok (.bipush 60, 2) := zby_g zbyb_517 (i := 0) rfl rfl
theorem dX12_logs_90 : decode cX12_logs 90 = .ok (.aload_n 0, 1) := zby_g zbyb_517 (i := 1) rfl rfl
theorem dX12_logs_91 : decode cX12_logs 91 = .ok (.getfield 7, 3) := zby_g zbyb_517 (i := 2) rfl rfl
theorem dX12_logs_94 : decode cX12_logs 94 = .ok (.bipush 9, 2) := zby_g zbyb_517 (i := 3) rfl rfl
theorem dX12_logs_96 : decode cX12_logs 96 = .ok (.iaload, 1) := zby_g zbyb_517 (i := 4) rfl rfl
theorem dX12_logs_97 : decode cX12_logs 97 = .ok (.iconst 1, 1) := zby_g zbyb_517 (i := 5) rfl rfl
theorem dX12_logs_98 : decode cX12_logs 98 = .ok (.iadd, 1) := zby_g zbyb_517 (i := 6) rfl rfl
theorem dX12_logs_99 : decode cX12_logs 99 = .ok (.invokestatic 248, 3) := zby_g zbyb_517 (i := 7) rfl rfl
theorem dX12_logs_102 : decode cX12_logs 102 = .ok (.iastore, 1) := zby_g zbyb_517 (i := 8) rfl rfl
theorem dX12_logs_103 : decode cX12_logs 103 = .ok (.return_, 1) := zby_g zbyb_517 (i := 9) rfl rfl
noncomputable def zbyl_518 : List (Nat × zbyE) := [(0, zbyo_42), (1, zbyo_27), (2, zbyo_3), (3, zbyo_3), (4, zbyo_16 99), (6, zbyo_42), (7, zbyo_27), (8, zbyo_3), (9, zbyo_182 46), (12, zbyo_28), (13, zbyo_96), (14, zbyo_184 248), (17, zbyo_184 251), (20, zbyo_182 123), (23, zbyo_177)]
theorem zbyb_518 : zbys zbyl_518 (cX12_believes.data.toList.drop 0) 0 = true := by decide +kernel
theorem dX12_believes_0 : decode cX12_believes 0 = .ok (.aload_n 0, 1) := zby_g zbyb_518 (i := 0) rfl rfl
theorem dX12_believes_1 : decode cX12_believes 1 = .ok (.iload_n 1, 1) := zby_g zbyb_518 (i := 1) rfl rfl
theorem dX12_believes_2 : decode cX12_believes 2 = .ok (.iconst 0, 1) := zby_g zbyb_518 (i := 2) rfl rfl
theorem dX12_believes_3 : decode cX12_believes 3 = .ok (.iconst 0, 1) := zby_g zbyb_518 (i := 3) rfl rfl
theorem dX12_believes_4 : decode cX12_believes 4 = .ok (.bipush 99, 2) := zby_g zbyb_518 (i := 4) rfl rfl
theorem dX12_believes_6 : decode cX12_believes 6 = .ok (.aload_n 0, 1) := zby_g zbyb_518 (i := 5) rfl rfl
theorem dX12_believes_7 : decode cX12_believes 7 = .ok (.iload_n 1, 1) := zby_g zbyb_518 (i := 6) rfl rfl
theorem dX12_believes_8 : decode cX12_believes 8 = .ok (.iconst 0, 1) := zby_g zbyb_518 (i := 7) rfl rfl
theorem dX12_believes_9 : decode cX12_believes 9 = .ok (.invokevirtual 46, 3) := zby_g zbyb_518 (i := 8) rfl rfl
theorem dX12_believes_12 : decode cX12_believes 12 = .ok (.iload_n 2, 1) := zby_g zbyb_518 (i := 9) rfl rfl
theorem dX12_believes_13 : decode cX12_believes 13 = .ok (.iadd, 1) := zby_g zbyb_518 (i := 10) rfl rfl
theorem dX12_believes_14 : decode cX12_believes 14 = .ok (.invokestatic 248, 3) := zby_g zbyb_518 (i := 11) rfl rfl
theorem dX12_believes_17 : decode cX12_believes 17 = .ok (.invokestatic 251, 3) := zby_g zbyb_518 (i := 12) rfl rfl
theorem dX12_believes_20 : decode cX12_believes 20 = .ok (.invokevirtual 123, 3) := zby_g zbyb_518 (i := 13) rfl rfl
theorem dX12_believes_23 : decode cX12_believes 23 = .ok (.return_, 1) := zby_g zbyb_518 (i := 14) rfl rfl
noncomputable def zbyl_519 : List (Nat × zbyE) := [(0, zbyo_3), (1, zbyo_60), (2, zbyo_3), (3, zbyo_61), (4, zbyo_28), (5, zbyo_42), (6, zbyo_180 7), (9, zbyo_7), (10, zbyo_46), (11, zbyo_162 145), (14, zbyo_42), (15, zbyo_182 62), (18, zbyo_42), (19, zbyo_28), (20, zbyo_4), (21, zbyo_182 68)]
theorem zbyb_519 : zbys zbyl_519 (cX12_build.data.toList.drop 0) 0 = true := by decide +kernel
theorem dX12_build_0 : decode cX12_build 0 = .ok (.iconst 0, 1) := zby_g zbyb_519 (i := 0) rfl rfl
theorem dX12_build_1 : decode cX12_build 1 = .ok (.istore_n 1, 1) := zby_g zbyb_519 (i := 1) rfl rfl
theorem dX12_build_2 : decode cX12_build 2 = .ok (.iconst 0, 1) := zby_g zbyb_519 (i := 2) rfl rfl
theorem dX12_build_3 : decode cX12_build 3 = .ok (.istore_n 2, 1) := zby_g zbyb_519 (i := 3) rfl rfl
theorem dX12_build_4 : decode cX12_build 4 = .ok (.iload_n 2, 1) := zby_g zbyb_519 (i := 4) rfl rfl
theorem dX12_build_5 : decode cX12_build 5 = .ok (.aload_n 0, 1) := zby_g zbyb_519 (i := 5) rfl rfl
theorem dX12_build_6 : decode cX12_build 6 = .ok (.getfield 7, 3) := zby_g zbyb_519 (i := 6) rfl rfl
theorem dX12_build_9 : decode cX12_build 9 = .ok (.iconst 4, 1) := zby_g zbyb_519 (i := 7) rfl rfl
theorem dX12_build_10 : decode cX12_build 10 = .ok (.iaload, 1) := zby_g zbyb_519 (i := 8) rfl rfl
theorem dX12_build_11 : decode cX12_build 11 = .ok (.if_icmp .ge 145, 3) := zby_g zbyb_519 (i := 9) rfl rfl
theorem dX12_build_14 : decode cX12_build 14 = .ok (.aload_n 0, 1) := zby_g zbyb_519 (i := 10) rfl rfl
theorem dX12_build_15 : decode cX12_build 15 = .ok (.invokevirtual 62, 3) := zby_g zbyb_519 (i := 11) rfl rfl
theorem dX12_build_18 : decode cX12_build 18 = .ok (.aload_n 0, 1) := zby_g zbyb_519 (i := 12) rfl rfl
theorem dX12_build_19 : decode cX12_build 19 = .ok (.iload_n 2, 1) := zby_g zbyb_519 (i := 13) rfl rfl
theorem dX12_build_20 : decode cX12_build 20 = .ok (.iconst 1, 1) := zby_g zbyb_519 (i := 14) rfl rfl
theorem dX12_build_21 : decode cX12_build 21 = .ok (.invokevirtual 68, 3) := zby_g zbyb_519 (i := 15) rfl rfl
noncomputable def zbyl_520 : List (Nat × zbyE) := [(24, zbyo_161 7), (27, zbyo_4), (28, zbyo_167 4), (31, zbyo_3), (32, zbyo_62), (33, zbyo_42), (34, zbyo_28), (35, zbyo_6), (36, zbyo_182 68), (39, zbyo_4), (40, zbyo_160 54), (43, zbyo_29), (44, zbyo_153 31), (47, zbyo_42), (48, zbyo_180 7), (51, zbyo_8)]
theorem zbyb_520 : zbys zbyl_520 (cX12_build.data.toList.drop 24) 24 = true := by decide +kernel
theorem dX12_build_24 : decode cX12_build 24 = .ok (.if_icmp .lt 7, 3) := zby_g zbyb_520 (i := 0) rfl rfl
theorem dX12_build_27 : decode cX12_build 27 = .ok (.iconst 1, 1) := zby_g zbyb_520 (i := 1) rfl rfl
theorem dX12_build_28 : decode cX12_build 28 = .ok (.goto 4, 3) := zby_g zbyb_520 (i := 2) rfl rfl
theorem dX12_build_31 : decode cX12_build 31 = .ok (.iconst 0, 1) := zby_g zbyb_520 (i := 3) rfl rfl
theorem dX12_build_32 : decode cX12_build 32 = .ok (.istore_n 3, 1) := zby_g zbyb_520 (i := 4) rfl rfl
theorem dX12_build_33 : decode cX12_build 33 = .ok (.aload_n 0, 1) := zby_g zbyb_520 (i := 5) rfl rfl
theorem dX12_build_34 : decode cX12_build 34 = .ok (.iload_n 2, 1) := zby_g zbyb_520 (i := 6) rfl rfl
theorem dX12_build_35 : decode cX12_build 35 = .ok (.iconst 3, 1) := zby_g zbyb_520 (i := 7) rfl rfl
theorem dX12_build_36 : decode cX12_build 36 = .ok (.invokevirtual 68, 3) := zby_g zbyb_520 (i := 8) rfl rfl
theorem dX12_build_39 : decode cX12_build 39 = .ok (.iconst 1, 1) := zby_g zbyb_520 (i := 9) rfl rfl
theorem dX12_build_40 : decode cX12_build 40 = .ok (.if_icmp .ne 54, 3) := zby_g zbyb_520 (i := 10) rfl rfl
theorem dX12_build_43 : decode cX12_build 43 = .ok (.iload_n 3, 1) := zby_g zbyb_520 (i := 11) rfl rfl
theorem dX12_build_44 : decode cX12_build 44 = .ok (.ifCond .eq 31, 3) := zby_g zbyb_520 (i := 12) rfl rfl
theorem dX12_build_47 : decode cX12_build 47 = .ok (.aload_n 0, 1) := zby_g zbyb_520 (i := 13) rfl rfl
theorem dX12_build_48 : decode cX12_build 48 = .ok (.getfield 7, 3) := zby_g zbyb_520 (i := 14) rfl rfl
theorem dX12_build_51 : decode cX12_build 51 = .ok (.iconst 5, 1) := zby_g zbyb_520 (i := 15) rfl rfl
noncomputable def zbyl_521 : List (Nat × zbyE) := [(52, zbyo_17 9999), (55, zbyo_42), (56, zbyo_180 7), (59, zbyo_8), (60, zbyo_46), (61, zbyo_42), (62, zbyo_28), (63, zbyo_5), (64, zbyo_182 68), (67, zbyo_96), (68, zbyo_184 248), (71, zbyo_79), (72, zbyo_167 78), (75, zbyo_42), (76, zbyo_28), (77, zbyo_6)]
theorem zbyb_521 : zbys zbyl_521 (cX12_build.data.toList.drop 52) 52 = true := by decide +kernel
theorem dX12_build_52 : decode cX12_build 52 = .ok (.sipush 9999, 3) := zby_g zbyb_521 (i := 0) rfl rfl
theorem dX12_build_55 : decode cX12_build 55 = .ok (.aload_n 0, 1) := zby_g zbyb_521 (i := 1) rfl rfl
theorem dX12_build_56 : decode cX12_build 56 = .ok (.getfield 7, 3) := zby_g zbyb_521 (i := 2) rfl rfl
theorem dX12_build_59 : decode cX12_build 59 = .ok (.iconst 5, 1) := zby_g zbyb_521 (i := 3) rfl rfl
theorem dX12_build_60 : decode cX12_build 60 = .ok (.iaload, 1) := zby_g zbyb_521 (i := 4) rfl rfl
theorem dX12_build_61 : decode cX12_build 61 = .ok (.aload_n 0, 1) := zby_g zbyb_521 (i := 5) rfl rfl
theorem dX12_build_62 : decode cX12_build 62 = .ok (.iload_n 2, 1) := zby_g zbyb_521 (i := 6) rfl rfl
theorem dX12_build_63 : decode cX12_build 63 = .ok (.iconst 2, 1) := zby_g zbyb_521 (i := 7) rfl rfl
theorem dX12_build_64 : decode cX12_build 64 = .ok (.invokevirtual 68, 3) := zby_g zbyb_521 (i := 8) rfl rfl
theorem dX12_build_67 : decode cX12_build 67 = .ok (.iadd, 1) := zby_g zbyb_521 (i := 9) rfl rfl
theorem dX12_build_68 : decode cX12_build 68 = .ok (.invokestatic 248, 3) := zby_g zbyb_521 (i := 10) rfl rfl
theorem dX12_build_71 : decode cX12_build 71 = .ok (.iastore, 1) := zby_g zbyb_521 (i := 11) rfl rfl
theorem dX12_build_72 : decode cX12_build 72 = .ok (.goto 78, 3) := zby_g zbyb_521 (i := 12) rfl rfl
theorem dX12_build_75 : decode cX12_build 75 = .ok (.aload_n 0, 1) := zby_g zbyb_521 (i := 13) rfl rfl
theorem dX12_build_76 : decode cX12_build 76 = .ok (.iload_n 2, 1) := zby_g zbyb_521 (i := 14) rfl rfl
theorem dX12_build_77 : decode cX12_build 77 = .ok (.iconst 3, 1) := zby_g zbyb_521 (i := 15) rfl rfl
noncomputable def zbyl_522 : List (Nat × zbyE) := [(78, zbyo_5), (79, zbyo_182 131), (82, zbyo_42), (83, zbyo_28), (84, zbyo_4), (85, zbyo_182 254), (88, zbyo_132 1 1), (91, zbyo_167 59), (94, zbyo_42), (95, zbyo_28), (96, zbyo_6), (97, zbyo_182 68), (100, zbyo_154 50), (103, zbyo_29), (104, zbyo_153 46), (107, zbyo_42)]
theorem zbyb_522 : zbys zbyl_522 (cX12_build.data.toList.drop 78) 78 = true := by decide +kernel
theorem dX12_build_78 : decode cX12_build 78 = .ok (.iconst 2, 1) := zby_g zbyb_522 (i := 0) rfl rfl
theorem dX12_build_79 : decode cX12_build 79 = .ok (.invokevirtual 131, 3) := zby_g zbyb_522 (i := 1) rfl rfl
theorem dX12_build_82 : decode cX12_build 82 = .ok (.aload_n 0, 1) := zby_g zbyb_522 (i := 2) rfl rfl
theorem dX12_build_83 : decode cX12_build 83 = .ok (.iload_n 2, 1) := zby_g zbyb_522 (i := 3) rfl rfl
theorem dX12_build_84 : decode cX12_build 84 = .ok (.iconst 1, 1) := zby_g zbyb_522 (i := 4) rfl rfl
theorem dX12_build_85 : decode cX12_build 85 = .ok (.invokevirtual 254, 3) := zby_g zbyb_522 (i := 5) rfl rfl
theorem dX12_build_88 : decode cX12_build 88 = .ok (.iinc 1 1, 3) := zby_g zbyb_522 (i := 6) rfl rfl
theorem dX12_build_91 : decode cX12_build 91 = .ok (.goto 59, 3) := zby_g zbyb_522 (i := 7) rfl rfl
theorem dX12_build_94 : decode cX12_build 94 = .ok (.aload_n 0, 1) := zby_g zbyb_522 (i := 8) rfl rfl
theorem dX12_build_95 : decode cX12_build 95 = .ok (.iload_n 2, 1) := zby_g zbyb_522 (i := 9) rfl rfl
theorem dX12_build_96 : decode cX12_build 96 = .ok (.iconst 3, 1) := zby_g zbyb_522 (i := 10) rfl rfl
theorem dX12_build_97 : decode cX12_build 97 = .ok (.invokevirtual 68, 3) := zby_g zbyb_522 (i := 11) rfl rfl
theorem dX12_build_100 : decode cX12_build 100 = .ok (.ifCond .ne 50, 3) := zby_g zbyb_522 (i := 12) rfl rfl
theorem dX12_build_103 : decode cX12_build 103 = .ok (.iload_n 3, 1) := zby_g zbyb_522 (i := 13) rfl rfl
theorem dX12_build_104 : decode cX12_build 104 = .ok (.ifCond .eq 46, 3) := zby_g zbyb_522 (i := 14) rfl rfl
theorem dX12_build_107 : decode cX12_build 107 = .ok (.aload_n 0, 1) := zby_g zbyb_522 (i := 15) rfl rfl
noncomputable def zbyl_523 : List (Nat × zbyE) := [(108, zbyo_180 7), (111, zbyo_8), (112, zbyo_46), (113, zbyo_42), (114, zbyo_28), (115, zbyo_3), (116, zbyo_182 68), (119, zbyo_161 31), (122, zbyo_42), (123, zbyo_180 7), (126, zbyo_8), (127, zbyo_92), (128, zbyo_46), (129, zbyo_42), (130, zbyo_28), (131, zbyo_3)]
theorem zbyb_523 : zbys zbyl_523 (cX12_build.data.toList.drop 108) 108 = true := by decide +kernel
theorem dX12_build_108 : decode cX12_build 108 = .ok (.getfield 7, 3) := zby_g zbyb_523 (i := 0) rfl rfl
theorem dX12_build_111 : decode cX12_build 111 = .ok (.iconst 5, 1) := zby_g zbyb_523 (i := 1) rfl rfl
theorem dX12_build_112 : decode cX12_build 112 = .ok (.iaload, 1) := zby_g zbyb_523 (i := 2) rfl rfl
theorem dX12_build_113 : decode cX12_build 113 = .ok (.aload_n 0, 1) := zby_g zbyb_523 (i := 3) rfl rfl
theorem dX12_build_114 : decode cX12_build 114 = .ok (.iload_n 2, 1) := zby_g zbyb_523 (i := 4) rfl rfl
theorem dX12_build_115 : decode cX12_build 115 = .ok (.iconst 0, 1) := zby_g zbyb_523 (i := 5) rfl rfl
theorem dX12_build_116 : decode cX12_build 116 = .ok (.invokevirtual 68, 3) := zby_g zbyb_523 (i := 6) rfl rfl
theorem dX12_build_119 : decode cX12_build 119 = .ok (.if_icmp .lt 31, 3) := zby_g zbyb_523 (i := 7) rfl rfl
theorem dX12_build_122 : decode cX12_build 122 = .ok (.aload_n 0, 1) := zby_g zbyb_523 (i := 8) rfl rfl
theorem dX12_build_123 : decode cX12_build 123 = .ok (.getfield 7, 3) := zby_g zbyb_523 (i := 9) rfl rfl
theorem dX12_build_126 : decode cX12_build 126 = .ok (.iconst 5, 1) := zby_g zbyb_523 (i := 10) rfl rfl
theorem dX12_build_127 : decode cX12_build 127 = .ok (.dup2, 1) := zby_g zbyb_523 (i := 11) rfl rfl
theorem dX12_build_128 : decode cX12_build 128 = .ok (.iaload, 1) := zby_g zbyb_523 (i := 12) rfl rfl
theorem dX12_build_129 : decode cX12_build 129 = .ok (.aload_n 0, 1) := zby_g zbyb_523 (i := 13) rfl rfl
theorem dX12_build_130 : decode cX12_build 130 = .ok (.iload_n 2, 1) := zby_g zbyb_523 (i := 14) rfl rfl
theorem dX12_build_131 : decode cX12_build 131 = .ok (.iconst 0, 1) := zby_g zbyb_523 (i := 15) rfl rfl
noncomputable def zbyl_524 : List (Nat × zbyE) := [(132, zbyo_182 68), (135, zbyo_100), (136, zbyo_79), (137, zbyo_42), (138, zbyo_28), (139, zbyo_6), (140, zbyo_4), (141, zbyo_182 131), (144, zbyo_42), (145, zbyo_28), (146, zbyo_3), (147, zbyo_182 254), (150, zbyo_132 2 1), (153, zbyo_167 (-149)), (156, zbyo_27), (157, zbyo_172)]
theorem zbyb_524 : zbys zbyl_524 (cX12_build.data.toList.drop 132) 132 = true := by decide +kernel
theorem dX12_build_132 : decode cX12_build 132 = .ok (.invokevirtual 68, 3) := zby_g zbyb_524 (i := 0) rfl rfl
theorem dX12_build_135 : decode cX12_build 135 = .ok (.isub, 1) := zby_g zbyb_524 (i := 1) rfl rfl
theorem dX12_build_136 : decode cX12_build 136 = .ok (.iastore, 1) := zby_g zbyb_524 (i := 2) rfl rfl
theorem dX12_build_137 : decode cX12_build 137 = .ok (.aload_n 0, 1) := zby_g zbyb_524 (i := 3) rfl rfl
theorem dX12_build_138 : decode cX12_build 138 = .ok (.iload_n 2, 1) := zby_g zbyb_524 (i := 4) rfl rfl
theorem dX12_build_139 : decode cX12_build 139 = .ok (.iconst 3, 1) := zby_g zbyb_524 (i := 5) rfl rfl
theorem dX12_build_140 : decode cX12_build 140 = .ok (.iconst 1, 1) := zby_g zbyb_524 (i := 6) rfl rfl
theorem dX12_build_141 : decode cX12_build 141 = .ok (.invokevirtual 131, 3) := zby_g zbyb_524 (i := 7) rfl rfl
theorem dX12_build_144 : decode cX12_build 144 = .ok (.aload_n 0, 1) := zby_g zbyb_524 (i := 8) rfl rfl
theorem dX12_build_145 : decode cX12_build 145 = .ok (.iload_n 2, 1) := zby_g zbyb_524 (i := 9) rfl rfl
theorem dX12_build_146 : decode cX12_build 146 = .ok (.iconst 0, 1) := zby_g zbyb_524 (i := 10) rfl rfl
theorem dX12_build_147 : decode cX12_build 147 = .ok (.invokevirtual 254, 3) := zby_g zbyb_524 (i := 11) rfl rfl
theorem dX12_build_150 : decode cX12_build 150 = .ok (.iinc 2 1, 3) := zby_g zbyb_524 (i := 12) rfl rfl
theorem dX12_build_153 : decode cX12_build 153 = .ok (.goto (-149), 3) := zby_g zbyb_524 (i := 13) rfl rfl
theorem dX12_build_156 : decode cX12_build 156 = .ok (.iload_n 1, 1) := zby_g zbyb_524 (i := 14) rfl rfl
theorem dX12_build_157 : decode cX12_build 157 = .ok (.ireturn, 1) := zby_g zbyb_524 (i := 15) rfl rfl
noncomputable def zbyl_525 : List (Nat × zbyE) := [(0, zbyo_28), (1, zbyo_153 23), (4, zbyo_42), (5, zbyo_16 100), (7, zbyo_182 258), (10, zbyo_42), (11, zbyo_180 7), (14, zbyo_16 7), (16, zbyo_46), (17, zbyo_162 7), (20, zbyo_4), (21, zbyo_167 4), (24, zbyo_3), (25, zbyo_62), (26, zbyo_3), (27, zbyo_54 4)]
theorem zbyb_525 : zbys zbyl_525 (cX12_returns.data.toList.drop 0) 0 = true := by decide +kernel
theorem dX12_returns_0 : decode cX12_returns 0 = .ok (.iload_n 2, 1) := zby_g zbyb_525 (i := 0) rfl rfl
theorem dX12_returns_1 : decode cX12_returns 1 = .ok (.ifCond .eq 23, 3) := zby_g zbyb_525 (i := 1) rfl rfl
theorem dX12_returns_4 : decode cX12_returns 4 = .ok (.aload_n 0, 1) := zby_g zbyb_525 (i := 2) rfl rfl
theorem dX12_returns_5 : decode cX12_returns 5 = .ok (.bipush 100, 2) := zby_g zbyb_525 (i := 3) rfl rfl
theorem dX12_returns_7 : decode cX12_returns 7 = .ok (.invokevirtual 258, 3) := zby_g zbyb_525 (i := 4) rfl rfl
theorem dX12_returns_10 : decode cX12_returns 10 = .ok (.aload_n 0, 1) := zby_g zbyb_525 (i := 5) rfl rfl
theorem dX12_returns_11 : decode cX12_returns 11 = .ok (.getfield 7, 3) := zby_g zbyb_525 (i := 6) rfl rfl
theorem dX12_returns_14 : decode cX12_returns 14 = .ok (.bipush 7, 2) := zby_g zbyb_525 (i := 7) rfl rfl
theorem dX12_returns_16 : decode cX12_returns 16 = .ok (.iaload, 1) := zby_g zbyb_525 (i := 8) rfl rfl
theorem dX12_returns_17 : decode cX12_returns 17 = .ok (.if_icmp .ge 7, 3) := zby_g zbyb_525 (i := 9) rfl rfl
theorem dX12_returns_20 : decode cX12_returns 20 = .ok (.iconst 1, 1) := zby_g zbyb_525 (i := 10) rfl rfl
theorem dX12_returns_21 : decode cX12_returns 21 = .ok (.goto 4, 3) := zby_g zbyb_525 (i := 11) rfl rfl
theorem dX12_returns_24 : decode cX12_returns 24 = .ok (.iconst 0, 1) := zby_g zbyb_525 (i := 12) rfl rfl
theorem dX12_returns_25 : decode cX12_returns 25 = .ok (.istore_n 3, 1) := zby_g zbyb_525 (i := 13) rfl rfl
theorem dX12_returns_26 : decode cX12_returns 26 = .ok (.iconst 0, 1) := zby_g zbyb_525 (i := 14) rfl rfl
theorem dX12_returns_27 : decode cX12_returns 27 = .ok (.istore 4, 2) := zby_g zbyb_525 (i := 15) rfl rfl
noncomputable def zbyl_526 : List (Nat × zbyE) := [(29, zbyo_21 4), (31, zbyo_42), (32, zbyo_180 7), (35, zbyo_6), (36, zbyo_46), (37, zbyo_162 56), (40, zbyo_28), (41, zbyo_153 52), (44, zbyo_21 4), (46, zbyo_27), (47, zbyo_159 40), (50, zbyo_42), (51, zbyo_21 4), (53, zbyo_182 50), (56, zbyo_153 31), (59, zbyo_42)]
theorem zbyb_526 : zbys zbyl_526 (cX12_returns.data.toList.drop 29) 29 = true := by decide +kernel
theorem dX12_returns_29 : decode cX12_returns 29 = .ok (.iload 4, 2) := zby_g zbyb_526 (i := 0) rfl rfl
theorem dX12_returns_31 : decode cX12_returns 31 = .ok (.aload_n 0, 1) := zby_g zbyb_526 (i := 1) rfl rfl
theorem dX12_returns_32 : decode cX12_returns 32 = .ok (.getfield 7, 3) := zby_g zbyb_526 (i := 2) rfl rfl
theorem dX12_returns_35 : decode cX12_returns 35 = .ok (.iconst 3, 1) := zby_g zbyb_526 (i := 3) rfl rfl
theorem dX12_returns_36 : decode cX12_returns 36 = .ok (.iaload, 1) := zby_g zbyb_526 (i := 4) rfl rfl
theorem dX12_returns_37 : decode cX12_returns 37 = .ok (.if_icmp .ge 56, 3) := zby_g zbyb_526 (i := 5) rfl rfl
theorem dX12_returns_40 : decode cX12_returns 40 = .ok (.iload_n 2, 1) := zby_g zbyb_526 (i := 6) rfl rfl
theorem dX12_returns_41 : decode cX12_returns 41 = .ok (.ifCond .eq 52, 3) := zby_g zbyb_526 (i := 7) rfl rfl
theorem dX12_returns_44 : decode cX12_returns 44 = .ok (.iload 4, 2) := zby_g zbyb_526 (i := 8) rfl rfl
theorem dX12_returns_46 : decode cX12_returns 46 = .ok (.iload_n 1, 1) := zby_g zbyb_526 (i := 9) rfl rfl
theorem dX12_returns_47 : decode cX12_returns 47 = .ok (.if_icmp .eq 40, 3) := zby_g zbyb_526 (i := 10) rfl rfl
theorem dX12_returns_50 : decode cX12_returns 50 = .ok (.aload_n 0, 1) := zby_g zbyb_526 (i := 11) rfl rfl
theorem dX12_returns_51 : decode cX12_returns 51 = .ok (.iload 4, 2) := zby_g zbyb_526 (i := 12) rfl rfl
theorem dX12_returns_53 : decode cX12_returns 53 = .ok (.invokevirtual 50, 3) := zby_g zbyb_526 (i := 13) rfl rfl
theorem dX12_returns_56 : decode cX12_returns 56 = .ok (.ifCond .eq 31, 3) := zby_g zbyb_526 (i := 14) rfl rfl
theorem dX12_returns_59 : decode cX12_returns 59 = .ok (.aload_n 0, 1) := zby_g zbyb_526 (i := 15) rfl rfl
noncomputable def zbyl_527 : List (Nat × zbyE) := [(60, zbyo_21 4), (62, zbyo_29), (63, zbyo_153 13), (66, zbyo_42), (67, zbyo_21 4), (69, zbyo_27), (70, zbyo_182 71), (73, zbyo_167 11), (76, zbyo_42), (77, zbyo_21 4), (79, zbyo_27), (80, zbyo_182 71), (83, zbyo_116), (84, zbyo_182 261), (87, zbyo_132 4 1), (90, zbyo_167 (-61))]
theorem zbyb_527 : zbys zbyl_527 (cX12_returns.data.toList.drop 60) 60 = true := by decide +kernel
theorem dX12_returns_60 : decode cX12_returns 60 = .ok (.iload 4, 2) := zby_g zbyb_527 (i := 0) rfl rfl
theorem dX12_returns_62 : decode cX12_returns 62 = .ok (.iload_n 3, 1) := zby_g zbyb_527 (i := 1) rfl rfl
theorem dX12_returns_63 : decode cX12_returns 63 = .ok (.ifCond .eq 13, 3) := zby_g zbyb_527 (i := 2) rfl rfl
theorem dX12_returns_66 : decode cX12_returns 66 = .ok (.aload_n 0, 1) := zby_g zbyb_527 (i := 3) rfl rfl
theorem dX12_returns_67 : decode cX12_returns 67 = .ok (.iload 4, 2) := zby_g zbyb_527 (i := 4) rfl rfl
theorem dX12_returns_69 : decode cX12_returns 69 = .ok (.iload_n 1, 1) := zby_g zbyb_527 (i := 5) rfl rfl
theorem dX12_returns_70 : decode cX12_returns 70 = .ok (.invokevirtual 71, 3) := zby_g zbyb_527 (i := 6) rfl rfl
theorem dX12_returns_73 : decode cX12_returns 73 = .ok (.goto 11, 3) := zby_g zbyb_527 (i := 7) rfl rfl
theorem dX12_returns_76 : decode cX12_returns 76 = .ok (.aload_n 0, 1) := zby_g zbyb_527 (i := 8) rfl rfl
theorem dX12_returns_77 : decode cX12_returns 77 = .ok (.iload 4, 2) := zby_g zbyb_527 (i := 9) rfl rfl
theorem dX12_returns_79 : decode cX12_returns 79 = .ok (.iload_n 1, 1) := zby_g zbyb_527 (i := 10) rfl rfl
theorem dX12_returns_80 : decode cX12_returns 80 = .ok (.invokevirtual 71, 3) := zby_g zbyb_527 (i := 11) rfl rfl
theorem dX12_returns_83 : decode cX12_returns 83 = .ok (.ineg, 1) := zby_g zbyb_527 (i := 12) rfl rfl
theorem dX12_returns_84 : decode cX12_returns 84 = .ok (.invokevirtual 261, 3) := zby_g zbyb_527 (i := 13) rfl rfl
theorem dX12_returns_87 : decode cX12_returns 87 = .ok (.iinc 4 1, 3) := zby_g zbyb_527 (i := 14) rfl rfl
theorem dX12_returns_90 : decode cX12_returns 90 = .ok (.goto (-61), 3) := zby_g zbyb_527 (i := 15) rfl rfl
noncomputable def zbyl_528 : List (Nat × zbyE) := [(93, zbyo_42), (94, zbyo_27), (95, zbyo_7), (96, zbyo_2), (97, zbyo_182 123), (100, zbyo_28), (101, zbyo_154 4), (104, zbyo_177), (105, zbyo_42), (106, zbyo_27), (107, zbyo_3), (108, zbyo_29), (109, zbyo_153 8), (112, zbyo_16 99), (114, zbyo_167 4), (117, zbyo_3)]
theorem zbyb_528 : zbys zbyl_528 (cX12_returns.data.toList.drop 93) 93 = true := by decide +kernel
theorem dX12_returns_93 : decode cX12_returns 93 = .ok (.aload_n 0, 1) := zby_g zbyb_528 (i := 0) rfl rfl
theorem dX12_returns_94 : decode cX12_returns 94 = .ok (.iload_n 1, 1) := zby_g zbyb_528 (i := 1) rfl rfl
theorem dX12_returns_95 : decode cX12_returns 95 = .ok (.iconst 4, 1) := zby_g zbyb_528 (i := 2) rfl rfl
theorem dX12_returns_96 : decode cX12_returns 96 = .ok (.iconst (-1), 1) := zby_g zbyb_528 (i := 3) rfl rfl
theorem dX12_returns_97 : decode cX12_returns 97 = .ok (.invokevirtual 123, 3) := zby_g zbyb_528 (i := 4) rfl rfl
theorem dX12_returns_100 : decode cX12_returns 100 = .ok (.iload_n 2, 1) := zby_g zbyb_528 (i := 5) rfl rfl
theorem dX12_returns_101 : decode cX12_returns 101 = .ok (.ifCond .ne 4, 3) := zby_g zbyb_528 (i := 6) rfl rfl
theorem dX12_returns_104 : decode cX12_returns 104 = .ok (.return_, 1) := zby_g zbyb_528 (i := 7) rfl rfl
theorem dX12_returns_105 : decode cX12_returns 105 = .ok (.aload_n 0, 1) := zby_g zbyb_528 (i := 8) rfl rfl
theorem dX12_returns_106 : decode cX12_returns 106 = .ok (.iload_n 1, 1) := zby_g zbyb_528 (i := 9) rfl rfl
theorem dX12_returns_107 : decode cX12_returns 107 = .ok (.iconst 0, 1) := zby_g zbyb_528 (i := 10) rfl rfl
theorem dX12_returns_108 : decode cX12_returns 108 = .ok (.iload_n 3, 1) := zby_g zbyb_528 (i := 11) rfl rfl
theorem dX12_returns_109 : decode cX12_returns 109 = .ok (.ifCond .eq 8, 3) := zby_g zbyb_528 (i := 12) rfl rfl
theorem dX12_returns_112 : decode cX12_returns 112 = .ok (.bipush 99, 2) := zby_g zbyb_528 (i := 13) rfl rfl
theorem dX12_returns_114 : decode cX12_returns 114 = .ok (.goto 4, 3) := zby_g zbyb_528 (i := 14) rfl rfl
theorem dX12_returns_117 : decode cX12_returns 117 = .ok (.iconst 0, 1) := zby_g zbyb_528 (i := 15) rfl rfl
noncomputable def zbyl_529 : List (Nat × zbyE) := [(118, zbyo_182 123), (121, zbyo_42), (122, zbyo_27), (123, zbyo_29), (124, zbyo_153 7), (127, zbyo_5), (128, zbyo_167 4), (131, zbyo_6), (132, zbyo_182 254), (135, zbyo_177)]
theorem zbyb_529 : zbys zbyl_529 (cX12_returns.data.toList.drop 118) 118 = true := by decide +kernel
theorem dX12_returns_118 : decode cX12_returns 118 = .ok (.invokevirtual 123, 3) := zby_g zbyb_529 (i := 0) rfl rfl
theorem dX12_returns_121 : decode cX12_returns 121 = .ok (.aload_n 0, 1) := zby_g zbyb_529 (i := 1) rfl rfl
theorem dX12_returns_122 : decode cX12_returns 122 = .ok (.iload_n 1, 1) := zby_g zbyb_529 (i := 2) rfl rfl
theorem dX12_returns_123 : decode cX12_returns 123 = .ok (.iload_n 3, 1) := zby_g zbyb_529 (i := 3) rfl rfl
theorem dX12_returns_124 : decode cX12_returns 124 = .ok (.ifCond .eq 7, 3) := zby_g zbyb_529 (i := 4) rfl rfl
theorem dX12_returns_127 : decode cX12_returns 127 = .ok (.iconst 2, 1) := zby_g zbyb_529 (i := 5) rfl rfl
theorem dX12_returns_128 : decode cX12_returns 128 = .ok (.goto 4, 3) := zby_g zbyb_529 (i := 6) rfl rfl
theorem dX12_returns_131 : decode cX12_returns 131 = .ok (.iconst 3, 1) := zby_g zbyb_529 (i := 7) rfl rfl
theorem dX12_returns_132 : decode cX12_returns 132 = .ok (.invokevirtual 254, 3) := zby_g zbyb_529 (i := 8) rfl rfl
theorem dX12_returns_135 : decode cX12_returns 135 = .ok (.return_, 1) := zby_g zbyb_529 (i := 9) rfl rfl
noncomputable def zbyl_530 : List (Nat × zbyE) := [(0, zbyo_3), (1, zbyo_62), (2, zbyo_3), (3, zbyo_54 4), (5, zbyo_21 4), (7, zbyo_27), (8, zbyo_162 186), (11, zbyo_3), (12, zbyo_54 5), (14, zbyo_21 5), (16, zbyo_42), (17, zbyo_180 7), (20, zbyo_6), (21, zbyo_46), (22, zbyo_162 42), (25, zbyo_42)]
theorem zbyb_530 : zbys zbyl_530 (cX12_goes.data.toList.drop 0) 0 = true := by decide +kernel
theorem dX12_goes_0 : decode cX12_goes 0 = .ok (.iconst 0, 1) := zby_g zbyb_530 (i := 0) rfl rfl
theorem dX12_goes_1 : decode cX12_goes 1 = .ok (.istore_n 3, 1) := zby_g zbyb_530 (i := 1) rfl rfl
theorem dX12_goes_2 : decode cX12_goes 2 = .ok (.iconst 0, 1) := zby_g zbyb_530 (i := 2) rfl rfl
theorem dX12_goes_3 : decode cX12_goes 3 = .ok (.istore 4, 2) := zby_g zbyb_530 (i := 3) rfl rfl
theorem dX12_goes_5 : decode cX12_goes 5 = .ok (.iload 4, 2) := zby_g zbyb_530 (i := 4) rfl rfl
theorem dX12_goes_7 : decode cX12_goes 7 = .ok (.iload_n 1, 1) := zby_g zbyb_530 (i := 5) rfl rfl
theorem dX12_goes_8 : decode cX12_goes 8 = .ok (.if_icmp .ge 186, 3) := zby_g zbyb_530 (i := 6) rfl rfl
theorem dX12_goes_11 : decode cX12_goes 11 = .ok (.iconst 0, 1) := zby_g zbyb_530 (i := 7) rfl rfl
theorem dX12_goes_12 : decode cX12_goes 12 = .ok (.istore 5, 2) := zby_g zbyb_530 (i := 8) rfl rfl
theorem dX12_goes_14 : decode cX12_goes 14 = .ok (.iload 5, 2) := zby_g zbyb_530 (i := 9) rfl rfl
theorem dX12_goes_16 : decode cX12_goes 16 = .ok (.aload_n 0, 1) := zby_g zbyb_530 (i := 10) rfl rfl
theorem dX12_goes_17 : decode cX12_goes 17 = .ok (.getfield 7, 3) := zby_g zbyb_530 (i := 11) rfl rfl
theorem dX12_goes_20 : decode cX12_goes 20 = .ok (.iconst 3, 1) := zby_g zbyb_530 (i := 12) rfl rfl
theorem dX12_goes_21 : decode cX12_goes 21 = .ok (.iaload, 1) := zby_g zbyb_530 (i := 13) rfl rfl
theorem dX12_goes_22 : decode cX12_goes 22 = .ok (.if_icmp .ge 42, 3) := zby_g zbyb_530 (i := 14) rfl rfl
theorem dX12_goes_25 : decode cX12_goes 25 = .ok (.aload_n 0, 1) := zby_g zbyb_530 (i := 15) rfl rfl
noncomputable def zbyl_531 : List (Nat × zbyE) := [(26, zbyo_180 32), (29, zbyo_21 5), (31, zbyo_42), (32, zbyo_21 5), (34, zbyo_182 50), (37, zbyo_153 19), (40, zbyo_42), (41, zbyo_21 5), (43, zbyo_182 264), (46, zbyo_42), (47, zbyo_21 5), (49, zbyo_182 267), (52, zbyo_96), (53, zbyo_167 4), (56, zbyo_3), (57, zbyo_79)]
theorem zbyb_531 : zbys zbyl_531 (cX12_goes.data.toList.drop 26) 26 = true := by decide +kernel
theorem dX12_goes_26 : decode cX12_goes 26 = .ok (.getfield 32, 3) := zby_g zbyb_531 (i := 0) rfl rfl
theorem dX12_goes_29 : decode cX12_goes 29 = .ok (.iload 5, 2) := zby_g zbyb_531 (i := 1) rfl rfl
theorem dX12_goes_31 : decode cX12_goes 31 = .ok (.aload_n 0, 1) := zby_g zbyb_531 (i := 2) rfl rfl
theorem dX12_goes_32 : decode cX12_goes 32 = .ok (.iload 5, 2) := zby_g zbyb_531 (i := 3) rfl rfl
theorem dX12_goes_34 : decode cX12_goes 34 = .ok (.invokevirtual 50, 3) := zby_g zbyb_531 (i := 4) rfl rfl
theorem dX12_goes_37 : decode cX12_goes 37 = .ok (.ifCond .eq 19, 3) := zby_g zbyb_531 (i := 5) rfl rfl
theorem dX12_goes_40 : decode cX12_goes 40 = .ok (.aload_n 0, 1) := zby_g zbyb_531 (i := 6) rfl rfl
theorem dX12_goes_41 : decode cX12_goes 41 = .ok (.iload 5, 2) := zby_g zbyb_531 (i := 7) rfl rfl
theorem dX12_goes_43 : decode cX12_goes 43 = .ok (.invokevirtual 264, 3) := zby_g zbyb_531 (i := 8) rfl rfl
theorem dX12_goes_46 : decode cX12_goes 46 = .ok (.aload_n 0, 1) := zby_g zbyb_531 (i := 9) rfl rfl
theorem dX12_goes_47 : decode cX12_goes 47 = .ok (.iload 5, 2) := zby_g zbyb_531 (i := 10) rfl rfl
theorem dX12_goes_49 : decode cX12_goes 49 = .ok (.invokevirtual 267, 3) := zby_g zbyb_531 (i := 11) rfl rfl
theorem dX12_goes_52 : decode cX12_goes 52 = .ok (.iadd, 1) := zby_g zbyb_531 (i := 12) rfl rfl
theorem dX12_goes_53 : decode cX12_goes 53 = .ok (.goto 4, 3) := zby_g zbyb_531 (i := 13) rfl rfl
theorem dX12_goes_56 : decode cX12_goes 56 = .ok (.iconst 0, 1) := zby_g zbyb_531 (i := 14) rfl rfl
theorem dX12_goes_57 : decode cX12_goes 57 = .ok (.iastore, 1) := zby_g zbyb_531 (i := 15) rfl rfl
noncomputable def zbyl_532 : List (Nat × zbyE) := [(58, zbyo_132 5 1), (61, zbyo_167 (-47)), (64, zbyo_3), (65, zbyo_54 5), (67, zbyo_21 5), (69, zbyo_42), (70, zbyo_180 7), (73, zbyo_6), (74, zbyo_46), (75, zbyo_162 31), (78, zbyo_42), (79, zbyo_21 5), (81, zbyo_182 50), (84, zbyo_153 16), (87, zbyo_42), (88, zbyo_21 5)]
theorem zbyb_532 : zbys zbyl_532 (cX12_goes.data.toList.drop 58) 58 = true := by decide +kernel
theorem dX12_goes_58 : decode cX12_goes 58 = .ok (.iinc 5 1, 3) := zby_g zbyb_532 (i := 0) rfl rfl
theorem dX12_goes_61 : decode cX12_goes 61 = .ok (.goto (-47), 3) := zby_g zbyb_532 (i := 1) rfl rfl
theorem dX12_goes_64 : decode cX12_goes 64 = .ok (.iconst 0, 1) := zby_g zbyb_532 (i := 2) rfl rfl
theorem dX12_goes_65 : decode cX12_goes 65 = .ok (.istore 5, 2) := zby_g zbyb_532 (i := 3) rfl rfl
theorem dX12_goes_67 : decode cX12_goes 67 = .ok (.iload 5, 2) := zby_g zbyb_532 (i := 4) rfl rfl
theorem dX12_goes_69 : decode cX12_goes 69 = .ok (.aload_n 0, 1) := zby_g zbyb_532 (i := 5) rfl rfl
theorem dX12_goes_70 : decode cX12_goes 70 = .ok (.getfield 7, 3) := zby_g zbyb_532 (i := 6) rfl rfl
theorem dX12_goes_73 : decode cX12_goes 73 = .ok (.iconst 3, 1) := zby_g zbyb_532 (i := 7) rfl rfl
theorem dX12_goes_74 : decode cX12_goes 74 = .ok (.iaload, 1) := zby_g zbyb_532 (i := 8) rfl rfl
theorem dX12_goes_75 : decode cX12_goes 75 = .ok (.if_icmp .ge 31, 3) := zby_g zbyb_532 (i := 9) rfl rfl
theorem dX12_goes_78 : decode cX12_goes 78 = .ok (.aload_n 0, 1) := zby_g zbyb_532 (i := 10) rfl rfl
theorem dX12_goes_79 : decode cX12_goes 79 = .ok (.iload 5, 2) := zby_g zbyb_532 (i := 11) rfl rfl
theorem dX12_goes_81 : decode cX12_goes 81 = .ok (.invokevirtual 50, 3) := zby_g zbyb_532 (i := 12) rfl rfl
theorem dX12_goes_84 : decode cX12_goes 84 = .ok (.ifCond .eq 16, 3) := zby_g zbyb_532 (i := 13) rfl rfl
theorem dX12_goes_87 : decode cX12_goes 87 = .ok (.aload_n 0, 1) := zby_g zbyb_532 (i := 14) rfl rfl
theorem dX12_goes_88 : decode cX12_goes 88 = .ok (.iload 5, 2) := zby_g zbyb_532 (i := 15) rfl rfl
noncomputable def zbyl_533 : List (Nat × zbyE) := [(90, zbyo_42), (91, zbyo_180 32), (94, zbyo_21 5), (96, zbyo_46), (97, zbyo_182 261), (100, zbyo_132 5 1), (103, zbyo_167 (-36)), (106, zbyo_29), (107, zbyo_42), (108, zbyo_182 270), (111, zbyo_96), (112, zbyo_62), (113, zbyo_3), (114, zbyo_54 5), (116, zbyo_21 5), (118, zbyo_42)]
theorem zbyb_533 : zbys zbyl_533 (cX12_goes.data.toList.drop 90) 90 = true := by decide +kernel
theorem dX12_goes_90 : decode cX12_goes 90 = .ok (.aload_n 0, 1) := zby_g zbyb_533 (i := 0) rfl rfl
theorem dX12_goes_91 : decode cX12_goes 91 = .ok (.getfield 32, 3) := zby_g zbyb_533 (i := 1) rfl rfl
theorem dX12_goes_94 : decode cX12_goes 94 = .ok (.iload 5, 2) := zby_g zbyb_533 (i := 2) rfl rfl
theorem dX12_goes_96 : decode cX12_goes 96 = .ok (.iaload, 1) := zby_g zbyb_533 (i := 3) rfl rfl
theorem dX12_goes_97 : decode cX12_goes 97 = .ok (.invokevirtual 261, 3) := zby_g zbyb_533 (i := 4) rfl rfl
theorem dX12_goes_100 : decode cX12_goes 100 = .ok (.iinc 5 1, 3) := zby_g zbyb_533 (i := 5) rfl rfl
theorem dX12_goes_103 : decode cX12_goes 103 = .ok (.goto (-36), 3) := zby_g zbyb_533 (i := 6) rfl rfl
theorem dX12_goes_106 : decode cX12_goes 106 = .ok (.iload_n 3, 1) := zby_g zbyb_533 (i := 7) rfl rfl
theorem dX12_goes_107 : decode cX12_goes 107 = .ok (.aload_n 0, 1) := zby_g zbyb_533 (i := 8) rfl rfl
theorem dX12_goes_108 : decode cX12_goes 108 = .ok (.invokevirtual 270, 3) := zby_g zbyb_533 (i := 9) rfl rfl
theorem dX12_goes_111 : decode cX12_goes 111 = .ok (.iadd, 1) := zby_g zbyb_533 (i := 10) rfl rfl
theorem dX12_goes_112 : decode cX12_goes 112 = .ok (.istore_n 3, 1) := zby_g zbyb_533 (i := 11) rfl rfl
theorem dX12_goes_113 : decode cX12_goes 113 = .ok (.iconst 0, 1) := zby_g zbyb_533 (i := 12) rfl rfl
theorem dX12_goes_114 : decode cX12_goes 114 = .ok (.istore 5, 2) := zby_g zbyb_533 (i := 13) rfl rfl
theorem dX12_goes_116 : decode cX12_goes 116 = .ok (.iload 5, 2) := zby_g zbyb_533 (i := 14) rfl rfl
theorem dX12_goes_118 : decode cX12_goes 118 = .ok (.aload_n 0, 1) := zby_g zbyb_533 (i := 15) rfl rfl
noncomputable def zbyl_534 : List (Nat × zbyE) := [(119, zbyo_180 7), (122, zbyo_6), (123, zbyo_46), (124, zbyo_162 42), (127, zbyo_42), (128, zbyo_21 5), (130, zbyo_182 50), (133, zbyo_154 27), (136, zbyo_42), (137, zbyo_21 5), (139, zbyo_7), (140, zbyo_182 46), (143, zbyo_42), (144, zbyo_180 7), (147, zbyo_16 8), (149, zbyo_46)]
theorem zbyb_534 : zbys zbyl_534 (cX12_goes.data.toList.drop 119) 119 = true := by decide +kernel
theorem dX12_goes_119 : decode cX12_goes 119 = .ok (.getfield 7, 3) := zby_g zbyb_534 (i := 0) rfl rfl
theorem dX12_goes_122 : decode cX12_goes 122 = .ok (.iconst 3, 1) := zby_g zbyb_534 (i := 1) rfl rfl
theorem dX12_goes_123 : decode cX12_goes 123 = .ok (.iaload, 1) := zby_g zbyb_534 (i := 2) rfl rfl
theorem dX12_goes_124 : decode cX12_goes 124 = .ok (.if_icmp .ge 42, 3) := zby_g zbyb_534 (i := 3) rfl rfl
theorem dX12_goes_127 : decode cX12_goes 127 = .ok (.aload_n 0, 1) := zby_g zbyb_534 (i := 4) rfl rfl
theorem dX12_goes_128 : decode cX12_goes 128 = .ok (.iload 5, 2) := zby_g zbyb_534 (i := 5) rfl rfl
theorem dX12_goes_130 : decode cX12_goes 130 = .ok (.invokevirtual 50, 3) := zby_g zbyb_534 (i := 6) rfl rfl
theorem dX12_goes_133 : decode cX12_goes 133 = .ok (.ifCond .ne 27, 3) := zby_g zbyb_534 (i := 7) rfl rfl
theorem dX12_goes_136 : decode cX12_goes 136 = .ok (.aload_n 0, 1) := zby_g zbyb_534 (i := 8) rfl rfl
theorem dX12_goes_137 : decode cX12_goes 137 = .ok (.iload 5, 2) := zby_g zbyb_534 (i := 9) rfl rfl
theorem dX12_goes_139 : decode cX12_goes 139 = .ok (.iconst 4, 1) := zby_g zbyb_534 (i := 10) rfl rfl
theorem dX12_goes_140 : decode cX12_goes 140 = .ok (.invokevirtual 46, 3) := zby_g zbyb_534 (i := 11) rfl rfl
theorem dX12_goes_143 : decode cX12_goes 143 = .ok (.aload_n 0, 1) := zby_g zbyb_534 (i := 12) rfl rfl
theorem dX12_goes_144 : decode cX12_goes 144 = .ok (.getfield 7, 3) := zby_g zbyb_534 (i := 13) rfl rfl
theorem dX12_goes_147 : decode cX12_goes 147 = .ok (.bipush 8, 2) := zby_g zbyb_534 (i := 14) rfl rfl
theorem dX12_goes_149 : decode cX12_goes 149 = .ok (.iaload, 1) := zby_g zbyb_534 (i := 15) rfl rfl
noncomputable def zbyl_535 : List (Nat × zbyE) := [(150, zbyo_163 10), (153, zbyo_42), (154, zbyo_21 5), (156, zbyo_28), (157, zbyo_182 273), (160, zbyo_132 5 1), (163, zbyo_167 (-47)), (166, zbyo_42), (167, zbyo_180 7), (170, zbyo_16 8), (172, zbyo_17 9999), (175, zbyo_42), (176, zbyo_180 7), (179, zbyo_16 8), (181, zbyo_46), (182, zbyo_4)]
theorem zbyb_535 : zbys zbyl_535 (cX12_goes.data.toList.drop 150) 150 = true := by decide +kernel
theorem dX12_goes_150 : decode cX12_goes 150 = .ok (.if_icmp .gt 10, 3) := zby_g zbyb_535 (i := 0) rfl rfl
theorem dX12_goes_153 : decode cX12_goes 153 = .ok (.aload_n 0, 1) := zby_g zbyb_535 (i := 1) rfl rfl
theorem dX12_goes_154 : decode cX12_goes 154 = .ok (.iload 5, 2) := zby_g zbyb_535 (i := 2) rfl rfl
theorem dX12_goes_156 : decode cX12_goes 156 = .ok (.iload_n 2, 1) := zby_g zbyb_535 (i := 3) rfl rfl
theorem dX12_goes_157 : decode cX12_goes 157 = .ok (.invokevirtual 273, 3) := zby_g zbyb_535 (i := 4) rfl rfl
theorem dX12_goes_160 : decode cX12_goes 160 = .ok (.iinc 5 1, 3) := zby_g zbyb_535 (i := 5) rfl rfl
theorem dX12_goes_163 : decode cX12_goes 163 = .ok (.goto (-47), 3) := zby_g zbyb_535 (i := 6) rfl rfl
theorem dX12_goes_166 : decode cX12_goes 166 = .ok (.aload_n 0, 1) := zby_g zbyb_535 (i := 7) rfl rfl
theorem dX12_goes_167 : decode cX12_goes 167 = .ok (.getfield 7, 3) := zby_g zbyb_535 (i := 8) rfl rfl
theorem dX12_goes_170 : decode cX12_goes 170 = .ok (.bipush 8, 2) := zby_g zbyb_535 (i := 9) rfl rfl
theorem dX12_goes_172 : decode cX12_goes 172 = .ok (.sipush 9999, 3) := zby_g zbyb_535 (i := 10) rfl rfl
theorem dX12_goes_175 : decode cX12_goes 175 = .ok (.aload_n 0, 1) := zby_g zbyb_535 (i := 11) rfl rfl
theorem dX12_goes_176 : decode cX12_goes 176 = .ok (.getfield 7, 3) := zby_g zbyb_535 (i := 12) rfl rfl
theorem dX12_goes_179 : decode cX12_goes 179 = .ok (.bipush 8, 2) := zby_g zbyb_535 (i := 13) rfl rfl
theorem dX12_goes_181 : decode cX12_goes 181 = .ok (.iaload, 1) := zby_g zbyb_535 (i := 14) rfl rfl
theorem dX12_goes_182 : decode cX12_goes 182 = .ok (.iconst 1, 1) := zby_g zbyb_535 (i := 15) rfl rfl
noncomputable def zbyl_536 : List (Nat × zbyE) := [(183, zbyo_96), (184, zbyo_184 248), (187, zbyo_79), (188, zbyo_132 4 1), (191, zbyo_167 (-186)), (194, zbyo_29), (195, zbyo_172)]
theorem zbyb_536 : zbys zbyl_536 (cX12_goes.data.toList.drop 183) 183 = true := by decide +kernel
theorem dX12_goes_183 : decode cX12_goes 183 = .ok (.iadd, 1) := zby_g zbyb_536 (i := 0) rfl rfl
theorem dX12_goes_184 : decode cX12_goes 184 = .ok (.invokestatic 248, 3) := zby_g zbyb_536 (i := 1) rfl rfl
theorem dX12_goes_187 : decode cX12_goes 187 = .ok (.iastore, 1) := zby_g zbyb_536 (i := 2) rfl rfl
theorem dX12_goes_188 : decode cX12_goes 188 = .ok (.iinc 4 1, 3) := zby_g zbyb_536 (i := 3) rfl rfl
theorem dX12_goes_191 : decode cX12_goes 191 = .ok (.goto (-186), 3) := zby_g zbyb_536 (i := 4) rfl rfl
theorem dX12_goes_194 : decode cX12_goes 194 = .ok (.iload_n 3, 1) := zby_g zbyb_536 (i := 5) rfl rfl
theorem dX12_goes_195 : decode cX12_goes 195 = .ok (.ireturn, 1) := zby_g zbyb_536 (i := 6) rfl rfl
noncomputable def zbyl_537 : List (Nat × zbyE) := [(0, zbyo_42), (1, zbyo_27), (2, zbyo_4), (3, zbyo_182 46), (6, zbyo_42), (7, zbyo_27), (8, zbyo_5), (9, zbyo_182 46), (12, zbyo_42), (13, zbyo_182 277), (16, zbyo_104), (17, zbyo_96), (18, zbyo_172)]
theorem zbyb_537 : zbys zbyl_537 (cX12_worth.data.toList.drop 0) 0 = true := by decide +kernel
theorem dX12_worth_0 : decode cX12_worth 0 = .ok (.aload_n 0, 1) := zby_g zbyb_537 (i := 0) rfl rfl
theorem dX12_worth_1 : decode cX12_worth 1 = .ok (.iload_n 1, 1) := zby_g zbyb_537 (i := 1) rfl rfl
theorem dX12_worth_2 : decode cX12_worth 2 = .ok (.iconst 1, 1) := zby_g zbyb_537 (i := 2) rfl rfl
theorem dX12_worth_3 : decode cX12_worth 3 = .ok (.invokevirtual 46, 3) := zby_g zbyb_537 (i := 3) rfl rfl
theorem dX12_worth_6 : decode cX12_worth 6 = .ok (.aload_n 0, 1) := zby_g zbyb_537 (i := 4) rfl rfl
theorem dX12_worth_7 : decode cX12_worth 7 = .ok (.iload_n 1, 1) := zby_g zbyb_537 (i := 5) rfl rfl
theorem dX12_worth_8 : decode cX12_worth 8 = .ok (.iconst 2, 1) := zby_g zbyb_537 (i := 6) rfl rfl
theorem dX12_worth_9 : decode cX12_worth 9 = .ok (.invokevirtual 46, 3) := zby_g zbyb_537 (i := 7) rfl rfl
theorem dX12_worth_12 : decode cX12_worth 12 = .ok (.aload_n 0, 1) := zby_g zbyb_537 (i := 8) rfl rfl
theorem dX12_worth_13 : decode cX12_worth 13 = .ok (.invokevirtual 277, 3) := zby_g zbyb_537 (i := 9) rfl rfl
theorem dX12_worth_16 : decode cX12_worth 16 = .ok (.imul, 1) := zby_g zbyb_537 (i := 10) rfl rfl
theorem dX12_worth_17 : decode cX12_worth 17 = .ok (.iadd, 1) := zby_g zbyb_537 (i := 11) rfl rfl
theorem dX12_worth_18 : decode cX12_worth 18 = .ok (.ireturn, 1) := zby_g zbyb_537 (i := 12) rfl rfl
noncomputable def zbyl_538 : List (Nat × zbyE) := [(0, zbyo_42), (1, zbyo_42), (2, zbyo_27), (3, zbyo_182 280), (6, zbyo_154 7), (9, zbyo_4), (10, zbyo_167 18), (13, zbyo_28), (14, zbyo_3), (15, zbyo_16 8), (17, zbyo_184 42), (20, zbyo_154 7), (23, zbyo_5), (24, zbyo_167 4), (27, zbyo_3), (28, zbyo_181 39)]
theorem zbyb_538 : zbys zbyl_538 (cX12_person.data.toList.drop 0) 0 = true := by decide +kernel
theorem dX12_person_0 : decode cX12_person 0 = .ok (.aload_n 0, 1) := zby_g zbyb_538 (i := 0) rfl rfl
theorem dX12_person_1 : decode cX12_person 1 = .ok (.aload_n 0, 1) := zby_g zbyb_538 (i := 1) rfl rfl
theorem dX12_person_2 : decode cX12_person 2 = .ok (.iload_n 1, 1) := zby_g zbyb_538 (i := 2) rfl rfl
theorem dX12_person_3 : decode cX12_person 3 = .ok (.invokevirtual 280, 3) := zby_g zbyb_538 (i := 3) rfl rfl
theorem dX12_person_6 : decode cX12_person 6 = .ok (.ifCond .ne 7, 3) := zby_g zbyb_538 (i := 4) rfl rfl
theorem dX12_person_9 : decode cX12_person 9 = .ok (.iconst 1, 1) := zby_g zbyb_538 (i := 5) rfl rfl
theorem dX12_person_10 : decode cX12_person 10 = .ok (.goto 18, 3) := zby_g zbyb_538 (i := 6) rfl rfl
theorem dX12_person_13 : decode cX12_person 13 = .ok (.iload_n 2, 1) := zby_g zbyb_538 (i := 7) rfl rfl
theorem dX12_person_14 : decode cX12_person 14 = .ok (.iconst 0, 1) := zby_g zbyb_538 (i := 8) rfl rfl
theorem dX12_person_15 : decode cX12_person 15 = .ok (.bipush 8, 2) := zby_g zbyb_538 (i := 9) rfl rfl
theorem dX12_person_17 : decode cX12_person 17 = .ok (.invokestatic 42, 3) := zby_g zbyb_538 (i := 10) rfl rfl
theorem dX12_person_20 : decode cX12_person 20 = .ok (.ifCond .ne 7, 3) := zby_g zbyb_538 (i := 11) rfl rfl
theorem dX12_person_23 : decode cX12_person 23 = .ok (.iconst 2, 1) := zby_g zbyb_538 (i := 12) rfl rfl
theorem dX12_person_24 : decode cX12_person 24 = .ok (.goto 4, 3) := zby_g zbyb_538 (i := 13) rfl rfl
theorem dX12_person_27 : decode cX12_person 27 = .ok (.iconst 0, 1) := zby_g zbyb_538 (i := 14) rfl rfl
theorem dX12_person_28 : decode cX12_person 28 = .ok (.putfield 39, 3) := zby_g zbyb_538 (i := 15) rfl rfl
noncomputable def zbyl_539 : List (Nat × zbyE) := [(31, zbyo_42), (32, zbyo_180 39), (35, zbyo_158 5), (38, zbyo_3), (39, zbyo_172), (40, zbyo_28), (41, zbyo_8), (42, zbyo_162 10), (45, zbyo_42), (46, zbyo_27), (47, zbyo_28), (48, zbyo_182 46), (51, zbyo_172), (52, zbyo_28), (53, zbyo_8), (54, zbyo_160 9)]
theorem zbyb_539 : zbys zbyl_539 (cX12_person.data.toList.drop 31) 31 = true := by decide +kernel
theorem dX12_person_31 : decode cX12_person 31 = .ok (.aload_n 0, 1) := zby_g zbyb_539 (i := 0) rfl rfl
theorem dX12_person_32 : decode cX12_person 32 = .ok (.getfield 39, 3) := zby_g zbyb_539 (i := 1) rfl rfl
theorem dX12_person_35 : decode cX12_person 35 = .ok (.ifCond .le 5, 3) := zby_g zbyb_539 (i := 2) rfl rfl
theorem dX12_person_38 : decode cX12_person 38 = .ok (.iconst 0, 1) := zby_g zbyb_539 (i := 3) rfl rfl
theorem dX12_person_39 : decode cX12_person 39 = .ok (.ireturn, 1) := zby_g zbyb_539 (i := 4) rfl rfl
theorem dX12_person_40 : decode cX12_person 40 = .ok (.iload_n 2, 1) := zby_g zbyb_539 (i := 5) rfl rfl
theorem dX12_person_41 : decode cX12_person 41 = .ok (.iconst 5, 1) := zby_g zbyb_539 (i := 6) rfl rfl
theorem dX12_person_42 : decode cX12_person 42 = .ok (.if_icmp .ge 10, 3) := zby_g zbyb_539 (i := 7) rfl rfl
theorem dX12_person_45 : decode cX12_person 45 = .ok (.aload_n 0, 1) := zby_g zbyb_539 (i := 8) rfl rfl
theorem dX12_person_46 : decode cX12_person 46 = .ok (.iload_n 1, 1) := zby_g zbyb_539 (i := 9) rfl rfl
theorem dX12_person_47 : decode cX12_person 47 = .ok (.iload_n 2, 1) := zby_g zbyb_539 (i := 10) rfl rfl
theorem dX12_person_48 : decode cX12_person 48 = .ok (.invokevirtual 46, 3) := zby_g zbyb_539 (i := 11) rfl rfl
theorem dX12_person_51 : decode cX12_person 51 = .ok (.ireturn, 1) := zby_g zbyb_539 (i := 12) rfl rfl
theorem dX12_person_52 : decode cX12_person 52 = .ok (.iload_n 2, 1) := zby_g zbyb_539 (i := 13) rfl rfl
theorem dX12_person_53 : decode cX12_person 53 = .ok (.iconst 5, 1) := zby_g zbyb_539 (i := 14) rfl rfl
theorem dX12_person_54 : decode cX12_person 54 = .ok (.if_icmp .ne 9, 3) := zby_g zbyb_539 (i := 15) rfl rfl
noncomputable def zbyl_540 : List (Nat × zbyE) := [(57, zbyo_42), (58, zbyo_27), (59, zbyo_182 264), (62, zbyo_172), (63, zbyo_28), (64, zbyo_16 6), (66, zbyo_160 9), (69, zbyo_42), (70, zbyo_27), (71, zbyo_182 267), (74, zbyo_172), (75, zbyo_28), (76, zbyo_16 7), (78, zbyo_160 9), (81, zbyo_42), (82, zbyo_27)]
theorem zbyb_540 : zbys zbyl_540 (cX12_person.data.toList.drop 57) 57 = true := by decide +kernel
theorem dX12_person_57 : decode cX12_person 57 = .ok (.aload_n 0, 1) := zby_g zbyb_540 (i := 0) rfl rfl
theorem dX12_person_58 : decode cX12_person 58 = .ok (.iload_n 1, 1) := zby_g zbyb_540 (i := 1) rfl rfl
theorem dX12_person_59 : decode cX12_person 59 = .ok (.invokevirtual 264, 3) := zby_g zbyb_540 (i := 2) rfl rfl
theorem dX12_person_62 : decode cX12_person 62 = .ok (.ireturn, 1) := zby_g zbyb_540 (i := 3) rfl rfl
theorem dX12_person_63 : decode cX12_person 63 = .ok (.iload_n 2, 1) := zby_g zbyb_540 (i := 4) rfl rfl
theorem dX12_person_64 : decode cX12_person 64 = .ok (.bipush 6, 2) := zby_g zbyb_540 (i := 5) rfl rfl
theorem dX12_person_66 : decode cX12_person 66 = .ok (.if_icmp .ne 9, 3) := zby_g zbyb_540 (i := 6) rfl rfl
theorem dX12_person_69 : decode cX12_person 69 = .ok (.aload_n 0, 1) := zby_g zbyb_540 (i := 7) rfl rfl
theorem dX12_person_70 : decode cX12_person 70 = .ok (.iload_n 1, 1) := zby_g zbyb_540 (i := 8) rfl rfl
theorem dX12_person_71 : decode cX12_person 71 = .ok (.invokevirtual 267, 3) := zby_g zbyb_540 (i := 9) rfl rfl
theorem dX12_person_74 : decode cX12_person 74 = .ok (.ireturn, 1) := zby_g zbyb_540 (i := 10) rfl rfl
theorem dX12_person_75 : decode cX12_person 75 = .ok (.iload_n 2, 1) := zby_g zbyb_540 (i := 11) rfl rfl
theorem dX12_person_76 : decode cX12_person 76 = .ok (.bipush 7, 2) := zby_g zbyb_540 (i := 12) rfl rfl
theorem dX12_person_78 : decode cX12_person 78 = .ok (.if_icmp .ne 9, 3) := zby_g zbyb_540 (i := 13) rfl rfl
theorem dX12_person_81 : decode cX12_person 81 = .ok (.aload_n 0, 1) := zby_g zbyb_540 (i := 14) rfl rfl
theorem dX12_person_82 : decode cX12_person 82 = .ok (.iload_n 1, 1) := zby_g zbyb_540 (i := 15) rfl rfl
noncomputable def zbyl_541 : List (Nat × zbyE) := [(83, zbyo_182 283), (86, zbyo_172), (87, zbyo_42), (88, zbyo_27), (89, zbyo_182 50), (92, zbyo_153 10), (95, zbyo_42), (96, zbyo_182 62), (99, zbyo_154 7), (102, zbyo_3), (103, zbyo_167 17), (106, zbyo_16 100), (108, zbyo_42), (109, zbyo_27), (110, zbyo_3), (111, zbyo_182 46)]
theorem zbyb_541 : zbys zbyl_541 (cX12_person.data.toList.drop 83) 83 = true := by decide +kernel
theorem dX12_person_83 : decode cX12_person 83 = .ok (.invokevirtual 283, 3) := zby_g zbyb_541 (i := 0) rfl rfl
theorem dX12_person_86 : decode cX12_person 86 = .ok (.ireturn, 1) := zby_g zbyb_541 (i := 1) rfl rfl
theorem dX12_person_87 : decode cX12_person 87 = .ok (.aload_n 0, 1) := zby_g zbyb_541 (i := 2) rfl rfl
theorem dX12_person_88 : decode cX12_person 88 = .ok (.iload_n 1, 1) := zby_g zbyb_541 (i := 3) rfl rfl
theorem dX12_person_89 : decode cX12_person 89 = .ok (.invokevirtual 50, 3) := zby_g zbyb_541 (i := 4) rfl rfl
theorem dX12_person_92 : decode cX12_person 92 = .ok (.ifCond .eq 10, 3) := zby_g zbyb_541 (i := 5) rfl rfl
theorem dX12_person_95 : decode cX12_person 95 = .ok (.aload_n 0, 1) := zby_g zbyb_541 (i := 6) rfl rfl
theorem dX12_person_96 : decode cX12_person 96 = .ok (.invokevirtual 62, 3) := zby_g zbyb_541 (i := 7) rfl rfl
theorem dX12_person_99 : decode cX12_person 99 = .ok (.ifCond .ne 7, 3) := zby_g zbyb_541 (i := 8) rfl rfl
theorem dX12_person_102 : decode cX12_person 102 = .ok (.iconst 0, 1) := zby_g zbyb_541 (i := 9) rfl rfl
theorem dX12_person_103 : decode cX12_person 103 = .ok (.goto 17, 3) := zby_g zbyb_541 (i := 10) rfl rfl
theorem dX12_person_106 : decode cX12_person 106 = .ok (.bipush 100, 2) := zby_g zbyb_541 (i := 11) rfl rfl
theorem dX12_person_108 : decode cX12_person 108 = .ok (.aload_n 0, 1) := zby_g zbyb_541 (i := 12) rfl rfl
theorem dX12_person_109 : decode cX12_person 109 = .ok (.iload_n 1, 1) := zby_g zbyb_541 (i := 13) rfl rfl
theorem dX12_person_110 : decode cX12_person 110 = .ok (.iconst 0, 1) := zby_g zbyb_541 (i := 14) rfl rfl
theorem dX12_person_111 : decode cX12_person 111 = .ok (.invokevirtual 46, 3) := zby_g zbyb_541 (i := 15) rfl rfl
noncomputable def zbyl_542 : List (Nat × zbyE) := [(114, zbyo_104), (115, zbyo_42), (116, zbyo_182 62), (119, zbyo_108), (120, zbyo_172)]
theorem zbyb_542 : zbys zbyl_542 (cX12_person.data.toList.drop 114) 114 = true := by decide +kernel
theorem dX12_person_114 : decode cX12_person 114 = .ok (.imul, 1) := zby_g zbyb_542 (i := 0) rfl rfl
theorem dX12_person_115 : decode cX12_person 115 = .ok (.aload_n 0, 1) := zby_g zbyb_542 (i := 1) rfl rfl
theorem dX12_person_116 : decode cX12_person 116 = .ok (.invokevirtual 62, 3) := zby_g zbyb_542 (i := 2) rfl rfl
theorem dX12_person_119 : decode cX12_person 119 = .ok (.idiv, 1) := zby_g zbyb_542 (i := 3) rfl rfl
theorem dX12_person_120 : decode cX12_person 120 = .ok (.ireturn, 1) := zby_g zbyb_542 (i := 4) rfl rfl
noncomputable def zbyl_543 : List (Nat × zbyE) := [(0, zbyo_42), (1, zbyo_42), (2, zbyo_27), (3, zbyo_182 280), (6, zbyo_153 11), (9, zbyo_42), (10, zbyo_28), (11, zbyo_182 280), (14, zbyo_154 7), (17, zbyo_4), (18, zbyo_167 13), (21, zbyo_27), (22, zbyo_28), (23, zbyo_160 7), (26, zbyo_5), (27, zbyo_167 4)]
theorem zbyb_543 : zbys zbyl_543 (cX12_trust.data.toList.drop 0) 0 = true := by decide +kernel
theorem dX12_trust_0 : decode cX12_trust 0 = .ok (.aload_n 0, 1) := zby_g zbyb_543 (i := 0) rfl rfl
theorem dX12_trust_1 : decode cX12_trust 1 = .ok (.aload_n 0, 1) := zby_g zbyb_543 (i := 1) rfl rfl
theorem dX12_trust_2 : decode cX12_trust 2 = .ok (.iload_n 1, 1) := zby_g zbyb_543 (i := 2) rfl rfl
theorem dX12_trust_3 : decode cX12_trust 3 = .ok (.invokevirtual 280, 3) := zby_g zbyb_543 (i := 3) rfl rfl
theorem dX12_trust_6 : decode cX12_trust 6 = .ok (.ifCond .eq 11, 3) := zby_g zbyb_543 (i := 4) rfl rfl
theorem dX12_trust_9 : decode cX12_trust 9 = .ok (.aload_n 0, 1) := zby_g zbyb_543 (i := 5) rfl rfl
theorem dX12_trust_10 : decode cX12_trust 10 = .ok (.iload_n 2, 1) := zby_g zbyb_543 (i := 6) rfl rfl
theorem dX12_trust_11 : decode cX12_trust 11 = .ok (.invokevirtual 280, 3) := zby_g zbyb_543 (i := 7) rfl rfl
theorem dX12_trust_14 : decode cX12_trust 14 = .ok (.ifCond .ne 7, 3) := zby_g zbyb_543 (i := 8) rfl rfl
theorem dX12_trust_17 : decode cX12_trust 17 = .ok (.iconst 1, 1) := zby_g zbyb_543 (i := 9) rfl rfl
theorem dX12_trust_18 : decode cX12_trust 18 = .ok (.goto 13, 3) := zby_g zbyb_543 (i := 10) rfl rfl
theorem dX12_trust_21 : decode cX12_trust 21 = .ok (.iload_n 1, 1) := zby_g zbyb_543 (i := 11) rfl rfl
theorem dX12_trust_22 : decode cX12_trust 22 = .ok (.iload_n 2, 1) := zby_g zbyb_543 (i := 12) rfl rfl
theorem dX12_trust_23 : decode cX12_trust 23 = .ok (.if_icmp .ne 7, 3) := zby_g zbyb_543 (i := 13) rfl rfl
theorem dX12_trust_26 : decode cX12_trust 26 = .ok (.iconst 2, 1) := zby_g zbyb_543 (i := 14) rfl rfl
theorem dX12_trust_27 : decode cX12_trust 27 = .ok (.goto 4, 3) := zby_g zbyb_543 (i := 15) rfl rfl
noncomputable def zbyl_544 : List (Nat × zbyE) := [(30, zbyo_3), (31, zbyo_181 39), (34, zbyo_42), (35, zbyo_180 39), (38, zbyo_158 7), (41, zbyo_3), (42, zbyo_167 9), (45, zbyo_42), (46, zbyo_27), (47, zbyo_28), (48, zbyo_182 71), (51, zbyo_172)]
theorem zbyb_544 : zbys zbyl_544 (cX12_trust.data.toList.drop 30) 30 = true := by decide +kernel
theorem dX12_trust_30 : decode cX12_trust 30 = .ok (.iconst 0, 1) := zby_g zbyb_544 (i := 0) rfl rfl
theorem dX12_trust_31 : decode cX12_trust 31 = .ok (.putfield 39, 3) := zby_g zbyb_544 (i := 1) rfl rfl
theorem dX12_trust_34 : decode cX12_trust 34 = .ok (.aload_n 0, 1) := zby_g zbyb_544 (i := 2) rfl rfl
theorem dX12_trust_35 : decode cX12_trust 35 = .ok (.getfield 39, 3) := zby_g zbyb_544 (i := 3) rfl rfl
theorem dX12_trust_38 : decode cX12_trust 38 = .ok (.ifCond .le 7, 3) := zby_g zbyb_544 (i := 4) rfl rfl
theorem dX12_trust_41 : decode cX12_trust 41 = .ok (.iconst 0, 1) := zby_g zbyb_544 (i := 5) rfl rfl
theorem dX12_trust_42 : decode cX12_trust 42 = .ok (.goto 9, 3) := zby_g zbyb_544 (i := 6) rfl rfl
theorem dX12_trust_45 : decode cX12_trust 45 = .ok (.aload_n 0, 1) := zby_g zbyb_544 (i := 7) rfl rfl
theorem dX12_trust_46 : decode cX12_trust 46 = .ok (.iload_n 1, 1) := zby_g zbyb_544 (i := 8) rfl rfl
theorem dX12_trust_47 : decode cX12_trust 47 = .ok (.iload_n 2, 1) := zby_g zbyb_544 (i := 9) rfl rfl
theorem dX12_trust_48 : decode cX12_trust 48 = .ok (.invokevirtual 71, 3) := zby_g zbyb_544 (i := 10) rfl rfl
theorem dX12_trust_51 : decode cX12_trust 51 = .ok (.ireturn, 1) := zby_g zbyb_544 (i := 11) rfl rfl
noncomputable def zbyl_545 : List (Nat × zbyE) := [(0, zbyo_42), (1, zbyo_42), (2, zbyo_27), (3, zbyo_182 286), (6, zbyo_154 7), (9, zbyo_4), (10, zbyo_167 17), (13, zbyo_28), (14, zbyo_3), (15, zbyo_6), (16, zbyo_184 42), (19, zbyo_154 7), (22, zbyo_5), (23, zbyo_167 4), (26, zbyo_3), (27, zbyo_181 39)]
theorem zbyb_545 : zbys zbyl_545 (cX12_work.data.toList.drop 0) 0 = true := by decide +kernel
theorem dX12_work_0 : decode cX12_work 0 = .ok (.aload_n 0, 1) := zby_g zbyb_545 (i := 0) rfl rfl
theorem dX12_work_1 : decode cX12_work 1 = .ok (.aload_n 0, 1) := zby_g zbyb_545 (i := 1) rfl rfl
theorem dX12_work_2 : decode cX12_work 2 = .ok (.iload_n 1, 1) := zby_g zbyb_545 (i := 2) rfl rfl
theorem dX12_work_3 : decode cX12_work 3 = .ok (.invokevirtual 286, 3) := zby_g zbyb_545 (i := 3) rfl rfl
theorem dX12_work_6 : decode cX12_work 6 = .ok (.ifCond .ne 7, 3) := zby_g zbyb_545 (i := 4) rfl rfl
theorem dX12_work_9 : decode cX12_work 9 = .ok (.iconst 1, 1) := zby_g zbyb_545 (i := 5) rfl rfl
theorem dX12_work_10 : decode cX12_work 10 = .ok (.goto 17, 3) := zby_g zbyb_545 (i := 6) rfl rfl
theorem dX12_work_13 : decode cX12_work 13 = .ok (.iload_n 2, 1) := zby_g zbyb_545 (i := 7) rfl rfl
theorem dX12_work_14 : decode cX12_work 14 = .ok (.iconst 0, 1) := zby_g zbyb_545 (i := 8) rfl rfl
theorem dX12_work_15 : decode cX12_work 15 = .ok (.iconst 3, 1) := zby_g zbyb_545 (i := 9) rfl rfl
theorem dX12_work_16 : decode cX12_work 16 = .ok (.invokestatic 42, 3) := zby_g zbyb_545 (i := 10) rfl rfl
theorem dX12_work_19 : decode cX12_work 19 = .ok (.ifCond .ne 7, 3) := zby_g zbyb_545 (i := 11) rfl rfl
theorem dX12_work_22 : decode cX12_work 22 = .ok (.iconst 2, 1) := zby_g zbyb_545 (i := 12) rfl rfl
theorem dX12_work_23 : decode cX12_work 23 = .ok (.goto 4, 3) := zby_g zbyb_545 (i := 13) rfl rfl
theorem dX12_work_26 : decode cX12_work 26 = .ok (.iconst 0, 1) := zby_g zbyb_545 (i := 14) rfl rfl
theorem dX12_work_27 : decode cX12_work 27 = .ok (.putfield 39, 3) := zby_g zbyb_545 (i := 15) rfl rfl
noncomputable def zbyl_546 : List (Nat × zbyE) := [(30, zbyo_42), (31, zbyo_180 39), (34, zbyo_158 7), (37, zbyo_3), (38, zbyo_167 9), (41, zbyo_42), (42, zbyo_27), (43, zbyo_28), (44, zbyo_182 68), (47, zbyo_172)]
theorem zbyb_546 : zbys zbyl_546 (cX12_work.data.toList.drop 30) 30 = true := by decide +kernel
theorem dX12_work_30 : decode cX12_work 30 = .ok (.aload_n 0, 1) := zby_g zbyb_546 (i := 0) rfl rfl
theorem dX12_work_31 : decode cX12_work 31 = .ok (.getfield 39, 3) := zby_g zbyb_546 (i := 1) rfl rfl
theorem dX12_work_34 : decode cX12_work 34 = .ok (.ifCond .le 7, 3) := zby_g zbyb_546 (i := 2) rfl rfl
theorem dX12_work_37 : decode cX12_work 37 = .ok (.iconst 0, 1) := zby_g zbyb_546 (i := 3) rfl rfl
theorem dX12_work_38 : decode cX12_work 38 = .ok (.goto 9, 3) := zby_g zbyb_546 (i := 4) rfl rfl
theorem dX12_work_41 : decode cX12_work 41 = .ok (.aload_n 0, 1) := zby_g zbyb_546 (i := 5) rfl rfl
theorem dX12_work_42 : decode cX12_work 42 = .ok (.iload_n 1, 1) := zby_g zbyb_546 (i := 6) rfl rfl
theorem dX12_work_43 : decode cX12_work 43 = .ok (.iload_n 2, 1) := zby_g zbyb_546 (i := 7) rfl rfl
theorem dX12_work_44 : decode cX12_work 44 = .ok (.invokevirtual 68, 3) := zby_g zbyb_546 (i := 8) rfl rfl
theorem dX12_work_47 : decode cX12_work 47 = .ok (.ireturn, 1) := zby_g zbyb_546 (i := 9) rfl rfl
noncomputable def zbyl_547 : List (Nat × zbyE) := [(0, zbyo_42), (1, zbyo_3), (2, zbyo_181 39), (5, zbyo_42), (6, zbyo_182 277), (9, zbyo_172)]
theorem zbyb_547 : zbys zbyl_547 (cX12_price.data.toList.drop 0) 0 = true := by decide +kernel
theorem dX12_price_0 : decode cX12_price 0 = .ok (.aload_n 0, 1) := zby_g zbyb_547 (i := 0) rfl rfl
theorem dX12_price_1 : decode cX12_price 1 = .ok (.iconst 0, 1) := zby_g zbyb_547 (i := 1) rfl rfl
theorem dX12_price_2 : decode cX12_price 2 = .ok (.putfield 39, 3) := zby_g zbyb_547 (i := 2) rfl rfl
theorem dX12_price_5 : decode cX12_price 5 = .ok (.aload_n 0, 1) := zby_g zbyb_547 (i := 3) rfl rfl
theorem dX12_price_6 : decode cX12_price 6 = .ok (.invokevirtual 277, 3) := zby_g zbyb_547 (i := 4) rfl rfl
theorem dX12_price_9 : decode cX12_price 9 = .ok (.ireturn, 1) := zby_g zbyb_547 (i := 5) rfl rfl
noncomputable def zbyl_548 : List (Nat × zbyE) := [(0, zbyo_42), (1, zbyo_180 187), (4, zbyo_16 12), (6, zbyo_160 44), (9, zbyo_3), (10, zbyo_60), (11, zbyo_27), (12, zbyo_17 4169), (15, zbyo_162 25), (18, zbyo_42), (19, zbyo_180 19), (22, zbyo_27), (23, zbyo_42), (24, zbyo_180 19), (27, zbyo_27), (28, zbyo_17 379)]
theorem zbyb_548 : zbys zbyl_548 (cX12_remembers.data.toList.drop 0) 0 = true := by decide +kernel
theorem dX12_remembers_0 : decode cX12_remembers 0 = .ok (.aload_n 0, 1) := zby_g zbyb_548 (i := 0) rfl rfl
theorem dX12_remembers_1 : decode cX12_remembers 1 = .ok (.getfield 187, 3) := zby_g zbyb_548 (i := 1) rfl rfl
theorem dX12_remembers_4 : decode cX12_remembers 4 = .ok (.bipush 12, 2) := zby_g zbyb_548 (i := 2) rfl rfl
theorem dX12_remembers_6 : decode cX12_remembers 6 = .ok (.if_icmp .ne 44, 3) := zby_g zbyb_548 (i := 3) rfl rfl
theorem dX12_remembers_9 : decode cX12_remembers 9 = .ok (.iconst 0, 1) := zby_g zbyb_548 (i := 4) rfl rfl
theorem dX12_remembers_10 : decode cX12_remembers 10 = .ok (.istore_n 1, 1) := zby_g zbyb_548 (i := 5) rfl rfl
theorem dX12_remembers_11 : decode cX12_remembers 11 = .ok (.iload_n 1, 1) := zby_g zbyb_548 (i := 6) rfl rfl
theorem dX12_remembers_12 : decode cX12_remembers 12 = .ok (.sipush 4169, 3) := zby_g zbyb_548 (i := 7) rfl rfl
theorem dX12_remembers_15 : decode cX12_remembers 15 = .ok (.if_icmp .ge 25, 3) := zby_g zbyb_548 (i := 8) rfl rfl
theorem dX12_remembers_18 : decode cX12_remembers 18 = .ok (.aload_n 0, 1) := zby_g zbyb_548 (i := 9) rfl rfl
theorem dX12_remembers_19 : decode cX12_remembers 19 = .ok (.getfield 19, 3) := zby_g zbyb_548 (i := 10) rfl rfl
theorem dX12_remembers_22 : decode cX12_remembers 22 = .ok (.iload_n 1, 1) := zby_g zbyb_548 (i := 11) rfl rfl
theorem dX12_remembers_23 : decode cX12_remembers 23 = .ok (.aload_n 0, 1) := zby_g zbyb_548 (i := 12) rfl rfl
theorem dX12_remembers_24 : decode cX12_remembers 24 = .ok (.getfield 19, 3) := zby_g zbyb_548 (i := 13) rfl rfl
theorem dX12_remembers_27 : decode cX12_remembers 27 = .ok (.iload_n 1, 1) := zby_g zbyb_548 (i := 14) rfl rfl
theorem dX12_remembers_28 : decode cX12_remembers 28 = .ok (.sipush 379, 3) := zby_g zbyb_548 (i := 15) rfl rfl
noncomputable def zbyl_549 : List (Nat × zbyE) := [(31, zbyo_96), (32, zbyo_46), (33, zbyo_79), (34, zbyo_132 1 1), (37, zbyo_167 (-26)), (40, zbyo_42), (41, zbyo_89), (42, zbyo_180 187), (45, zbyo_4), (46, zbyo_100), (47, zbyo_181 187), (50, zbyo_3), (51, zbyo_60), (52, zbyo_27), (53, zbyo_17 379), (56, zbyo_162 30)]
theorem zbyb_549 : zbys zbyl_549 (cX12_remembers.data.toList.drop 31) 31 = true := by decide +kernel
theorem dX12_remembers_31 : decode cX12_remembers 31 = .ok (.iadd, 1) := zby_g zbyb_549 (i := 0) rfl rfl
theorem dX12_remembers_32 : decode cX12_remembers 32 = .ok (.iaload, 1) := zby_g zbyb_549 (i := 1) rfl rfl
theorem dX12_remembers_33 : decode cX12_remembers 33 = .ok (.iastore, 1) := zby_g zbyb_549 (i := 2) rfl rfl
theorem dX12_remembers_34 : decode cX12_remembers 34 = .ok (.iinc 1 1, 3) := zby_g zbyb_549 (i := 3) rfl rfl
theorem dX12_remembers_37 : decode cX12_remembers 37 = .ok (.goto (-26), 3) := zby_g zbyb_549 (i := 4) rfl rfl
theorem dX12_remembers_40 : decode cX12_remembers 40 = .ok (.aload_n 0, 1) := zby_g zbyb_549 (i := 5) rfl rfl
theorem dX12_remembers_41 : decode cX12_remembers 41 = .ok (.dup, 1) := zby_g zbyb_549 (i := 6) rfl rfl
theorem dX12_remembers_42 : decode cX12_remembers 42 = .ok (.getfield 187, 3) := zby_g zbyb_549 (i := 7) rfl rfl
theorem dX12_remembers_45 : decode cX12_remembers 45 = .ok (.iconst 1, 1) := zby_g zbyb_549 (i := 8) rfl rfl
theorem dX12_remembers_46 : decode cX12_remembers 46 = .ok (.isub, 1) := zby_g zbyb_549 (i := 9) rfl rfl
theorem dX12_remembers_47 : decode cX12_remembers 47 = .ok (.putfield 187, 3) := zby_g zbyb_549 (i := 10) rfl rfl
theorem dX12_remembers_50 : decode cX12_remembers 50 = .ok (.iconst 0, 1) := zby_g zbyb_549 (i := 11) rfl rfl
theorem dX12_remembers_51 : decode cX12_remembers 51 = .ok (.istore_n 1, 1) := zby_g zbyb_549 (i := 12) rfl rfl
theorem dX12_remembers_52 : decode cX12_remembers 52 = .ok (.iload_n 1, 1) := zby_g zbyb_549 (i := 13) rfl rfl
theorem dX12_remembers_53 : decode cX12_remembers 53 = .ok (.sipush 379, 3) := zby_g zbyb_549 (i := 14) rfl rfl
theorem dX12_remembers_56 : decode cX12_remembers 56 = .ok (.if_icmp .ge 30, 3) := zby_g zbyb_549 (i := 15) rfl rfl
noncomputable def zbyl_550 : List (Nat × zbyE) := [(59, zbyo_42), (60, zbyo_180 19), (63, zbyo_17 379), (66, zbyo_42), (67, zbyo_180 187), (70, zbyo_104), (71, zbyo_27), (72, zbyo_96), (73, zbyo_42), (74, zbyo_180 7), (77, zbyo_27), (78, zbyo_46), (79, zbyo_79), (80, zbyo_132 1 1), (83, zbyo_167 (-31)), (86, zbyo_42)]
theorem zbyb_550 : zbys zbyl_550 (cX12_remembers.data.toList.drop 59) 59 = true := by decide +kernel
theorem dX12_remembers_59 : decode cX12_remembers 59 = .ok (.aload_n 0, 1) := zby_g zbyb_550 (i := 0) rfl rfl
theorem dX12_remembers_60 : decode cX12_remembers 60 = .ok (.getfield 19, 3) := zby_g zbyb_550 (i := 1) rfl rfl
theorem dX12_remembers_63 : decode cX12_remembers 63 = .ok (.sipush 379, 3) := zby_g zbyb_550 (i := 2) rfl rfl
theorem dX12_remembers_66 : decode cX12_remembers 66 = .ok (.aload_n 0, 1) := zby_g zbyb_550 (i := 3) rfl rfl
theorem dX12_remembers_67 : decode cX12_remembers 67 = .ok (.getfield 187, 3) := zby_g zbyb_550 (i := 4) rfl rfl
theorem dX12_remembers_70 : decode cX12_remembers 70 = .ok (.imul, 1) := zby_g zbyb_550 (i := 5) rfl rfl
theorem dX12_remembers_71 : decode cX12_remembers 71 = .ok (.iload_n 1, 1) := zby_g zbyb_550 (i := 6) rfl rfl
theorem dX12_remembers_72 : decode cX12_remembers 72 = .ok (.iadd, 1) := zby_g zbyb_550 (i := 7) rfl rfl
theorem dX12_remembers_73 : decode cX12_remembers 73 = .ok (.aload_n 0, 1) := zby_g zbyb_550 (i := 8) rfl rfl
theorem dX12_remembers_74 : decode cX12_remembers 74 = .ok (.getfield 7, 3) := zby_g zbyb_550 (i := 9) rfl rfl
theorem dX12_remembers_77 : decode cX12_remembers 77 = .ok (.iload_n 1, 1) := zby_g zbyb_550 (i := 10) rfl rfl
theorem dX12_remembers_78 : decode cX12_remembers 78 = .ok (.iaload, 1) := zby_g zbyb_550 (i := 11) rfl rfl
theorem dX12_remembers_79 : decode cX12_remembers 79 = .ok (.iastore, 1) := zby_g zbyb_550 (i := 12) rfl rfl
theorem dX12_remembers_80 : decode cX12_remembers 80 = .ok (.iinc 1 1, 3) := zby_g zbyb_550 (i := 13) rfl rfl
theorem dX12_remembers_83 : decode cX12_remembers 83 = .ok (.goto (-31), 3) := zby_g zbyb_550 (i := 14) rfl rfl
theorem dX12_remembers_86 : decode cX12_remembers 86 = .ok (.aload_n 0, 1) := zby_g zbyb_550 (i := 15) rfl rfl
noncomputable def zbyl_551 : List (Nat × zbyE) := [(87, zbyo_89), (88, zbyo_180 187), (91, zbyo_4), (92, zbyo_96), (93, zbyo_181 187), (96, zbyo_177)]
theorem zbyb_551 : zbys zbyl_551 (cX12_remembers.data.toList.drop 87) 87 = true := by decide +kernel
theorem dX12_remembers_87 : decode cX12_remembers 87 = .ok (.dup, 1) := zby_g zbyb_551 (i := 0) rfl rfl
theorem dX12_remembers_88 : decode cX12_remembers 88 = .ok (.getfield 187, 3) := zby_g zbyb_551 (i := 1) rfl rfl
theorem dX12_remembers_91 : decode cX12_remembers 91 = .ok (.iconst 1, 1) := zby_g zbyb_551 (i := 2) rfl rfl
theorem dX12_remembers_92 : decode cX12_remembers 92 = .ok (.iadd, 1) := zby_g zbyb_551 (i := 3) rfl rfl
theorem dX12_remembers_93 : decode cX12_remembers 93 = .ok (.putfield 187, 3) := zby_g zbyb_551 (i := 4) rfl rfl
theorem dX12_remembers_96 : decode cX12_remembers 96 = .ok (.return_, 1) := zby_g zbyb_551 (i := 5) rfl rfl
noncomputable def zbyl_552 : List (Nat × zbyE) := [(0, zbyo_42), (1, zbyo_42), (2, zbyo_27), (3, zbyo_182 280), (6, zbyo_154 7), (9, zbyo_4), (10, zbyo_167 16), (13, zbyo_42), (14, zbyo_27), (15, zbyo_182 50), (18, zbyo_154 7), (21, zbyo_5), (22, zbyo_167 4), (25, zbyo_3), (26, zbyo_181 39), (29, zbyo_42)]
theorem zbyb_552 : zbys zbyl_552 (cX12_tell.data.toList.drop 0) 0 = true := by decide +kernel
theorem dX12_tell_0 : decode cX12_tell 0 = .ok (.aload_n 0, 1) := zby_g zbyb_552 (i := 0) rfl rfl
theorem dX12_tell_1 : decode cX12_tell 1 = .ok (.aload_n 0, 1) := zby_g zbyb_552 (i := 1) rfl rfl
theorem dX12_tell_2 : decode cX12_tell 2 = .ok (.iload_n 1, 1) := zby_g zbyb_552 (i := 2) rfl rfl
theorem dX12_tell_3 : decode cX12_tell 3 = .ok (.invokevirtual 280, 3) := zby_g zbyb_552 (i := 3) rfl rfl
theorem dX12_tell_6 : decode cX12_tell 6 = .ok (.ifCond .ne 7, 3) := zby_g zbyb_552 (i := 4) rfl rfl
theorem dX12_tell_9 : decode cX12_tell 9 = .ok (.iconst 1, 1) := zby_g zbyb_552 (i := 5) rfl rfl
theorem dX12_tell_10 : decode cX12_tell 10 = .ok (.goto 16, 3) := zby_g zbyb_552 (i := 6) rfl rfl
theorem dX12_tell_13 : decode cX12_tell 13 = .ok (.aload_n 0, 1) := zby_g zbyb_552 (i := 7) rfl rfl
theorem dX12_tell_14 : decode cX12_tell 14 = .ok (.iload_n 1, 1) := zby_g zbyb_552 (i := 8) rfl rfl
theorem dX12_tell_15 : decode cX12_tell 15 = .ok (.invokevirtual 50, 3) := zby_g zbyb_552 (i := 9) rfl rfl
theorem dX12_tell_18 : decode cX12_tell 18 = .ok (.ifCond .ne 7, 3) := zby_g zbyb_552 (i := 10) rfl rfl
theorem dX12_tell_21 : decode cX12_tell 21 = .ok (.iconst 2, 1) := zby_g zbyb_552 (i := 11) rfl rfl
theorem dX12_tell_22 : decode cX12_tell 22 = .ok (.goto 4, 3) := zby_g zbyb_552 (i := 12) rfl rfl
theorem dX12_tell_25 : decode cX12_tell 25 = .ok (.iconst 0, 1) := zby_g zbyb_552 (i := 13) rfl rfl
theorem dX12_tell_26 : decode cX12_tell 26 = .ok (.putfield 39, 3) := zby_g zbyb_552 (i := 14) rfl rfl
theorem dX12_tell_29 : decode cX12_tell 29 = .ok (.aload_n 0, 1) := zby_g zbyb_552 (i := 15) rfl rfl
noncomputable def zbyl_553 : List (Nat × zbyE) := [(30, zbyo_180 39), (33, zbyo_158 5), (36, zbyo_3), (37, zbyo_172), (38, zbyo_42), (39, zbyo_182 289), (42, zbyo_42), (43, zbyo_27), (44, zbyo_16 20), (46, zbyo_182 261), (49, zbyo_42), (50, zbyo_27), (51, zbyo_3), (52, zbyo_182 46), (55, zbyo_172)]
theorem zbyb_553 : zbys zbyl_553 (cX12_tell.data.toList.drop 30) 30 = true := by decide +kernel
theorem dX12_tell_30 : decode cX12_tell 30 = .ok (.getfield 39, 3) := zby_g zbyb_553 (i := 0) rfl rfl
theorem dX12_tell_33 : decode cX12_tell 33 = .ok (.ifCond .le 5, 3) := zby_g zbyb_553 (i := 1) rfl rfl
theorem dX12_tell_36 : decode cX12_tell 36 = .ok (.iconst 0, 1) := zby_g zbyb_553 (i := 2) rfl rfl
theorem dX12_tell_37 : decode cX12_tell 37 = .ok (.ireturn, 1) := zby_g zbyb_553 (i := 3) rfl rfl
theorem dX12_tell_38 : decode cX12_tell 38 = .ok (.aload_n 0, 1) := zby_g zbyb_553 (i := 4) rfl rfl
theorem dX12_tell_39 : decode cX12_tell 39 = .ok (.invokevirtual 289, 3) := zby_g zbyb_553 (i := 5) rfl rfl
theorem dX12_tell_42 : decode cX12_tell 42 = .ok (.aload_n 0, 1) := zby_g zbyb_553 (i := 6) rfl rfl
theorem dX12_tell_43 : decode cX12_tell 43 = .ok (.iload_n 1, 1) := zby_g zbyb_553 (i := 7) rfl rfl
theorem dX12_tell_44 : decode cX12_tell 44 = .ok (.bipush 20, 2) := zby_g zbyb_553 (i := 8) rfl rfl
theorem dX12_tell_46 : decode cX12_tell 46 = .ok (.invokevirtual 261, 3) := zby_g zbyb_553 (i := 9) rfl rfl
theorem dX12_tell_49 : decode cX12_tell 49 = .ok (.aload_n 0, 1) := zby_g zbyb_553 (i := 10) rfl rfl
theorem dX12_tell_50 : decode cX12_tell 50 = .ok (.iload_n 1, 1) := zby_g zbyb_553 (i := 11) rfl rfl
theorem dX12_tell_51 : decode cX12_tell 51 = .ok (.iconst 0, 1) := zby_g zbyb_553 (i := 12) rfl rfl
theorem dX12_tell_52 : decode cX12_tell 52 = .ok (.invokevirtual 46, 3) := zby_g zbyb_553 (i := 13) rfl rfl
theorem dX12_tell_55 : decode cX12_tell 55 = .ok (.ireturn, 1) := zby_g zbyb_553 (i := 14) rfl rfl
noncomputable def zbyl_554 : List (Nat × zbyE) := [(0, zbyo_42), (1, zbyo_42), (2, zbyo_27), (3, zbyo_182 280), (6, zbyo_153 11), (9, zbyo_42), (10, zbyo_28), (11, zbyo_182 280), (14, zbyo_154 7), (17, zbyo_4), (18, zbyo_167 23), (21, zbyo_27), (22, zbyo_28), (23, zbyo_159 13), (26, zbyo_29), (27, zbyo_3)]
theorem zbyb_554 : zbys zbyl_554 (cX12_tie.data.toList.drop 0) 0 = true := by decide +kernel
theorem dX12_tie_0 : decode cX12_tie 0 = .ok (.aload_n 0, 1) := zby_g zbyb_554 (i := 0) rfl rfl
theorem dX12_tie_1 : decode cX12_tie 1 = .ok (.aload_n 0, 1) := zby_g zbyb_554 (i := 1) rfl rfl
theorem dX12_tie_2 : decode cX12_tie 2 = .ok (.iload_n 1, 1) := zby_g zbyb_554 (i := 2) rfl rfl
theorem dX12_tie_3 : decode cX12_tie 3 = .ok (.invokevirtual 280, 3) := zby_g zbyb_554 (i := 3) rfl rfl
theorem dX12_tie_6 : decode cX12_tie 6 = .ok (.ifCond .eq 11, 3) := zby_g zbyb_554 (i := 4) rfl rfl
theorem dX12_tie_9 : decode cX12_tie 9 = .ok (.aload_n 0, 1) := zby_g zbyb_554 (i := 5) rfl rfl
theorem dX12_tie_10 : decode cX12_tie 10 = .ok (.iload_n 2, 1) := zby_g zbyb_554 (i := 6) rfl rfl
theorem dX12_tie_11 : decode cX12_tie 11 = .ok (.invokevirtual 280, 3) := zby_g zbyb_554 (i := 7) rfl rfl
theorem dX12_tie_14 : decode cX12_tie 14 = .ok (.ifCond .ne 7, 3) := zby_g zbyb_554 (i := 8) rfl rfl
theorem dX12_tie_17 : decode cX12_tie 17 = .ok (.iconst 1, 1) := zby_g zbyb_554 (i := 9) rfl rfl
theorem dX12_tie_18 : decode cX12_tie 18 = .ok (.goto 23, 3) := zby_g zbyb_554 (i := 10) rfl rfl
theorem dX12_tie_21 : decode cX12_tie 21 = .ok (.iload_n 1, 1) := zby_g zbyb_554 (i := 11) rfl rfl
theorem dX12_tie_22 : decode cX12_tie 22 = .ok (.iload_n 2, 1) := zby_g zbyb_554 (i := 12) rfl rfl
theorem dX12_tie_23 : decode cX12_tie 23 = .ok (.if_icmp .eq 13, 3) := zby_g zbyb_554 (i := 13) rfl rfl
theorem dX12_tie_26 : decode cX12_tie 26 = .ok (.iload_n 3, 1) := zby_g zbyb_554 (i := 14) rfl rfl
theorem dX12_tie_27 : decode cX12_tie 27 = .ok (.iconst 0, 1) := zby_g zbyb_554 (i := 15) rfl rfl
noncomputable def zbyl_555 : List (Nat × zbyE) := [(28, zbyo_16 9), (30, zbyo_184 42), (33, zbyo_154 7), (36, zbyo_5), (37, zbyo_167 4), (40, zbyo_3), (41, zbyo_181 39), (44, zbyo_42), (45, zbyo_180 39), (48, zbyo_158 5), (51, zbyo_3), (52, zbyo_172), (53, zbyo_42), (54, zbyo_182 289), (57, zbyo_42), (58, zbyo_27)]
theorem zbyb_555 : zbys zbyl_555 (cX12_tie.data.toList.drop 28) 28 = true := by decide +kernel
theorem dX12_tie_28 : decode cX12_tie 28 = .ok (.bipush 9, 2) := zby_g zbyb_555 (i := 0) rfl rfl
theorem dX12_tie_30 : decode cX12_tie 30 = .ok (.invokestatic 42, 3) := zby_g zbyb_555 (i := 1) rfl rfl
theorem dX12_tie_33 : decode cX12_tie 33 = .ok (.ifCond .ne 7, 3) := zby_g zbyb_555 (i := 2) rfl rfl
theorem dX12_tie_36 : decode cX12_tie 36 = .ok (.iconst 2, 1) := zby_g zbyb_555 (i := 3) rfl rfl
theorem dX12_tie_37 : decode cX12_tie 37 = .ok (.goto 4, 3) := zby_g zbyb_555 (i := 4) rfl rfl
theorem dX12_tie_40 : decode cX12_tie 40 = .ok (.iconst 0, 1) := zby_g zbyb_555 (i := 5) rfl rfl
theorem dX12_tie_41 : decode cX12_tie 41 = .ok (.putfield 39, 3) := zby_g zbyb_555 (i := 6) rfl rfl
theorem dX12_tie_44 : decode cX12_tie 44 = .ok (.aload_n 0, 1) := zby_g zbyb_555 (i := 7) rfl rfl
theorem dX12_tie_45 : decode cX12_tie 45 = .ok (.getfield 39, 3) := zby_g zbyb_555 (i := 8) rfl rfl
theorem dX12_tie_48 : decode cX12_tie 48 = .ok (.ifCond .le 5, 3) := zby_g zbyb_555 (i := 9) rfl rfl
theorem dX12_tie_51 : decode cX12_tie 51 = .ok (.iconst 0, 1) := zby_g zbyb_555 (i := 10) rfl rfl
theorem dX12_tie_52 : decode cX12_tie 52 = .ok (.ireturn, 1) := zby_g zbyb_555 (i := 11) rfl rfl
theorem dX12_tie_53 : decode cX12_tie 53 = .ok (.aload_n 0, 1) := zby_g zbyb_555 (i := 12) rfl rfl
theorem dX12_tie_54 : decode cX12_tie 54 = .ok (.invokevirtual 289, 3) := zby_g zbyb_555 (i := 13) rfl rfl
theorem dX12_tie_57 : decode cX12_tie 57 = .ok (.aload_n 0, 1) := zby_g zbyb_555 (i := 14) rfl rfl
theorem dX12_tie_58 : decode cX12_tie 58 = .ok (.iload_n 1, 1) := zby_g zbyb_555 (i := 15) rfl rfl
noncomputable def zbyl_556 : List (Nat × zbyE) := [(59, zbyo_28), (60, zbyo_182 71), (63, zbyo_54 4), (65, zbyo_42), (66, zbyo_180 7), (69, zbyo_16 51), (71, zbyo_16 8), (73, zbyo_27), (74, zbyo_104), (75, zbyo_96), (76, zbyo_28), (77, zbyo_96), (78, zbyo_29), (79, zbyo_79), (80, zbyo_21 4), (82, zbyo_172)]
theorem zbyb_556 : zbys zbyl_556 (cX12_tie.data.toList.drop 59) 59 = true := by decide +kernel
theorem dX12_tie_59 : decode cX12_tie 59 = .ok (.iload_n 2, 1) := zby_g zbyb_556 (i := 0) rfl rfl
theorem dX12_tie_60 : decode cX12_tie 60 = .ok (.invokevirtual 71, 3) := zby_g zbyb_556 (i := 1) rfl rfl
theorem dX12_tie_63 : decode cX12_tie 63 = .ok (.istore 4, 2) := zby_g zbyb_556 (i := 2) rfl rfl
theorem dX12_tie_65 : decode cX12_tie 65 = .ok (.aload_n 0, 1) := zby_g zbyb_556 (i := 3) rfl rfl
theorem dX12_tie_66 : decode cX12_tie 66 = .ok (.getfield 7, 3) := zby_g zbyb_556 (i := 4) rfl rfl
theorem dX12_tie_69 : decode cX12_tie 69 = .ok (.bipush 51, 2) := zby_g zbyb_556 (i := 5) rfl rfl
theorem dX12_tie_71 : decode cX12_tie 71 = .ok (.bipush 8, 2) := zby_g zbyb_556 (i := 6) rfl rfl
theorem dX12_tie_73 : decode cX12_tie 73 = .ok (.iload_n 1, 1) := zby_g zbyb_556 (i := 7) rfl rfl
theorem dX12_tie_74 : decode cX12_tie 74 = .ok (.imul, 1) := zby_g zbyb_556 (i := 8) rfl rfl
theorem dX12_tie_75 : decode cX12_tie 75 = .ok (.iadd, 1) := zby_g zbyb_556 (i := 9) rfl rfl
theorem dX12_tie_76 : decode cX12_tie 76 = .ok (.iload_n 2, 1) := zby_g zbyb_556 (i := 10) rfl rfl
theorem dX12_tie_77 : decode cX12_tie 77 = .ok (.iadd, 1) := zby_g zbyb_556 (i := 11) rfl rfl
theorem dX12_tie_78 : decode cX12_tie 78 = .ok (.iload_n 3, 1) := zby_g zbyb_556 (i := 12) rfl rfl
theorem dX12_tie_79 : decode cX12_tie 79 = .ok (.iastore, 1) := zby_g zbyb_556 (i := 13) rfl rfl
theorem dX12_tie_80 : decode cX12_tie 80 = .ok (.iload 4, 2) := zby_g zbyb_556 (i := 14) rfl rfl
theorem dX12_tie_82 : decode cX12_tie 82 = .ok (.ireturn, 1) := zby_g zbyb_556 (i := 15) rfl rfl
noncomputable def zbyl_557 : List (Nat × zbyE) := [(0, zbyo_42), (1, zbyo_42), (2, zbyo_27), (3, zbyo_182 286), (6, zbyo_154 7), (9, zbyo_4), (10, zbyo_167 18), (13, zbyo_42), (14, zbyo_27), (15, zbyo_6), (16, zbyo_182 68), (19, zbyo_5), (20, zbyo_159 7), (23, zbyo_5), (24, zbyo_167 4), (27, zbyo_3)]
theorem zbyb_557 : zbys zbyl_557 (cX12_plan.data.toList.drop 0) 0 = true := by decide +kernel
theorem dX12_plan_0 : decode cX12_plan 0 = .ok (.aload_n 0, 1) := zby_g zbyb_557 (i := 0) rfl rfl
theorem dX12_plan_1 : decode cX12_plan 1 = .ok (.aload_n 0, 1) := zby_g zbyb_557 (i := 1) rfl rfl
theorem dX12_plan_2 : decode cX12_plan 2 = .ok (.iload_n 1, 1) := zby_g zbyb_557 (i := 2) rfl rfl
theorem dX12_plan_3 : decode cX12_plan 3 = .ok (.invokevirtual 286, 3) := zby_g zbyb_557 (i := 3) rfl rfl
theorem dX12_plan_6 : decode cX12_plan 6 = .ok (.ifCond .ne 7, 3) := zby_g zbyb_557 (i := 4) rfl rfl
theorem dX12_plan_9 : decode cX12_plan 9 = .ok (.iconst 1, 1) := zby_g zbyb_557 (i := 5) rfl rfl
theorem dX12_plan_10 : decode cX12_plan 10 = .ok (.goto 18, 3) := zby_g zbyb_557 (i := 6) rfl rfl
theorem dX12_plan_13 : decode cX12_plan 13 = .ok (.aload_n 0, 1) := zby_g zbyb_557 (i := 7) rfl rfl
theorem dX12_plan_14 : decode cX12_plan 14 = .ok (.iload_n 1, 1) := zby_g zbyb_557 (i := 8) rfl rfl
theorem dX12_plan_15 : decode cX12_plan 15 = .ok (.iconst 3, 1) := zby_g zbyb_557 (i := 9) rfl rfl
theorem dX12_plan_16 : decode cX12_plan 16 = .ok (.invokevirtual 68, 3) := zby_g zbyb_557 (i := 10) rfl rfl
theorem dX12_plan_19 : decode cX12_plan 19 = .ok (.iconst 2, 1) := zby_g zbyb_557 (i := 11) rfl rfl
theorem dX12_plan_20 : decode cX12_plan 20 = .ok (.if_icmp .eq 7, 3) := zby_g zbyb_557 (i := 12) rfl rfl
theorem dX12_plan_23 : decode cX12_plan 23 = .ok (.iconst 2, 1) := zby_g zbyb_557 (i := 13) rfl rfl
theorem dX12_plan_24 : decode cX12_plan 24 = .ok (.goto 4, 3) := zby_g zbyb_557 (i := 14) rfl rfl
theorem dX12_plan_27 : decode cX12_plan 27 = .ok (.iconst 0, 1) := zby_g zbyb_557 (i := 15) rfl rfl
noncomputable def zbyl_558 : List (Nat × zbyE) := [(28, zbyo_181 39), (31, zbyo_42), (32, zbyo_180 39), (35, zbyo_158 4), (38, zbyo_177), (39, zbyo_42), (40, zbyo_182 289), (43, zbyo_42), (44, zbyo_27), (45, zbyo_6), (46, zbyo_3), (47, zbyo_182 131), (50, zbyo_177)]
theorem zbyb_558 : zbys zbyl_558 (cX12_plan.data.toList.drop 28) 28 = true := by decide +kernel
theorem dX12_plan_28 : decode cX12_plan 28 = .ok (.putfield 39, 3) := zby_g zbyb_558 (i := 0) rfl rfl
theorem dX12_plan_31 : decode cX12_plan 31 = .ok (.aload_n 0, 1) := zby_g zbyb_558 (i := 1) rfl rfl
theorem dX12_plan_32 : decode cX12_plan 32 = .ok (.getfield 39, 3) := zby_g zbyb_558 (i := 2) rfl rfl
theorem dX12_plan_35 : decode cX12_plan 35 = .ok (.ifCond .le 4, 3) := zby_g zbyb_558 (i := 3) rfl rfl
theorem dX12_plan_38 : decode cX12_plan 38 = .ok (.return_, 1) := zby_g zbyb_558 (i := 4) rfl rfl
theorem dX12_plan_39 : decode cX12_plan 39 = .ok (.aload_n 0, 1) := zby_g zbyb_558 (i := 5) rfl rfl
theorem dX12_plan_40 : decode cX12_plan 40 = .ok (.invokevirtual 289, 3) := zby_g zbyb_558 (i := 6) rfl rfl
theorem dX12_plan_43 : decode cX12_plan 43 = .ok (.aload_n 0, 1) := zby_g zbyb_558 (i := 7) rfl rfl
theorem dX12_plan_44 : decode cX12_plan 44 = .ok (.iload_n 1, 1) := zby_g zbyb_558 (i := 8) rfl rfl
theorem dX12_plan_45 : decode cX12_plan 45 = .ok (.iconst 3, 1) := zby_g zbyb_558 (i := 9) rfl rfl
theorem dX12_plan_46 : decode cX12_plan 46 = .ok (.iconst 0, 1) := zby_g zbyb_558 (i := 10) rfl rfl
theorem dX12_plan_47 : decode cX12_plan 47 = .ok (.invokevirtual 131, 3) := zby_g zbyb_558 (i := 11) rfl rfl
theorem dX12_plan_50 : decode cX12_plan 50 = .ok (.return_, 1) := zby_g zbyb_558 (i := 12) rfl rfl
noncomputable def zbyl_559 : List (Nat × zbyE) := [(0, zbyo_42), (1, zbyo_42), (2, zbyo_27), (3, zbyo_182 280), (6, zbyo_154 7), (9, zbyo_4), (10, zbyo_167 16), (13, zbyo_42), (14, zbyo_27), (15, zbyo_182 50), (18, zbyo_154 7), (21, zbyo_5), (22, zbyo_167 4), (25, zbyo_3), (26, zbyo_181 39), (29, zbyo_42)]
theorem zbyb_559 : zbys zbyl_559 (cX12_send.data.toList.drop 0) 0 = true := by decide +kernel
theorem dX12_send_0 : decode cX12_send 0 = .ok (.aload_n 0, 1) := zby_g zbyb_559 (i := 0) rfl rfl
theorem dX12_send_1 : decode cX12_send 1 = .ok (.aload_n 0, 1) := zby_g zbyb_559 (i := 1) rfl rfl
theorem dX12_send_2 : decode cX12_send 2 = .ok (.iload_n 1, 1) := zby_g zbyb_559 (i := 2) rfl rfl
theorem dX12_send_3 : decode cX12_send 3 = .ok (.invokevirtual 280, 3) := zby_g zbyb_559 (i := 3) rfl rfl
theorem dX12_send_6 : decode cX12_send 6 = .ok (.ifCond .ne 7, 3) := zby_g zbyb_559 (i := 4) rfl rfl
theorem dX12_send_9 : decode cX12_send 9 = .ok (.iconst 1, 1) := zby_g zbyb_559 (i := 5) rfl rfl
theorem dX12_send_10 : decode cX12_send 10 = .ok (.goto 16, 3) := zby_g zbyb_559 (i := 6) rfl rfl
theorem dX12_send_13 : decode cX12_send 13 = .ok (.aload_n 0, 1) := zby_g zbyb_559 (i := 7) rfl rfl
theorem dX12_send_14 : decode cX12_send 14 = .ok (.iload_n 1, 1) := zby_g zbyb_559 (i := 8) rfl rfl
theorem dX12_send_15 : decode cX12_send 15 = .ok (.invokevirtual 50, 3) := zby_g zbyb_559 (i := 9) rfl rfl
theorem dX12_send_18 : decode cX12_send 18 = .ok (.ifCond .ne 7, 3) := zby_g zbyb_559 (i := 10) rfl rfl
theorem dX12_send_21 : decode cX12_send 21 = .ok (.iconst 2, 1) := zby_g zbyb_559 (i := 11) rfl rfl
theorem dX12_send_22 : decode cX12_send 22 = .ok (.goto 4, 3) := zby_g zbyb_559 (i := 12) rfl rfl
theorem dX12_send_25 : decode cX12_send 25 = .ok (.iconst 0, 1) := zby_g zbyb_559 (i := 13) rfl rfl
theorem dX12_send_26 : decode cX12_send 26 = .ok (.putfield 39, 3) := zby_g zbyb_559 (i := 14) rfl rfl
theorem dX12_send_29 : decode cX12_send 29 = .ok (.aload_n 0, 1) := zby_g zbyb_559 (i := 15) rfl rfl
noncomputable def zbyl_560 : List (Nat × zbyE) := [(30, zbyo_180 39), (33, zbyo_158 5), (36, zbyo_3), (37, zbyo_172), (38, zbyo_42), (39, zbyo_182 289), (42, zbyo_42), (43, zbyo_27), (44, zbyo_7), (45, zbyo_42), (46, zbyo_180 7), (49, zbyo_16 8), (51, zbyo_46), (52, zbyo_42), (53, zbyo_180 7), (56, zbyo_16 6)]
theorem zbyb_560 : zbys zbyl_560 (cX12_send.data.toList.drop 30) 30 = true := by decide +kernel
theorem dX12_send_30 : decode cX12_send 30 = .ok (.getfield 39, 3) := zby_g zbyb_560 (i := 0) rfl rfl
theorem dX12_send_33 : decode cX12_send 33 = .ok (.ifCond .le 5, 3) := zby_g zbyb_560 (i := 1) rfl rfl
theorem dX12_send_36 : decode cX12_send 36 = .ok (.iconst 0, 1) := zby_g zbyb_560 (i := 2) rfl rfl
theorem dX12_send_37 : decode cX12_send 37 = .ok (.ireturn, 1) := zby_g zbyb_560 (i := 3) rfl rfl
theorem dX12_send_38 : decode cX12_send 38 = .ok (.aload_n 0, 1) := zby_g zbyb_560 (i := 4) rfl rfl
theorem dX12_send_39 : decode cX12_send 39 = .ok (.invokevirtual 289, 3) := zby_g zbyb_560 (i := 5) rfl rfl
theorem dX12_send_42 : decode cX12_send 42 = .ok (.aload_n 0, 1) := zby_g zbyb_560 (i := 6) rfl rfl
theorem dX12_send_43 : decode cX12_send 43 = .ok (.iload_n 1, 1) := zby_g zbyb_560 (i := 7) rfl rfl
theorem dX12_send_44 : decode cX12_send 44 = .ok (.iconst 4, 1) := zby_g zbyb_560 (i := 8) rfl rfl
theorem dX12_send_45 : decode cX12_send 45 = .ok (.aload_n 0, 1) := zby_g zbyb_560 (i := 9) rfl rfl
theorem dX12_send_46 : decode cX12_send 46 = .ok (.getfield 7, 3) := zby_g zbyb_560 (i := 10) rfl rfl
theorem dX12_send_49 : decode cX12_send 49 = .ok (.bipush 8, 2) := zby_g zbyb_560 (i := 11) rfl rfl
theorem dX12_send_51 : decode cX12_send 51 = .ok (.iaload, 1) := zby_g zbyb_560 (i := 12) rfl rfl
theorem dX12_send_52 : decode cX12_send 52 = .ok (.aload_n 0, 1) := zby_g zbyb_560 (i := 13) rfl rfl
theorem dX12_send_53 : decode cX12_send 53 = .ok (.getfield 7, 3) := zby_g zbyb_560 (i := 14) rfl rfl
theorem dX12_send_56 : decode cX12_send 56 = .ok (.bipush 6, 2) := zby_g zbyb_560 (i := 15) rfl rfl
noncomputable def zbyl_561 : List (Nat × zbyE) := [(58, zbyo_46), (59, zbyo_96), (60, zbyo_182 123), (63, zbyo_42), (64, zbyo_27), (65, zbyo_7), (66, zbyo_182 46), (69, zbyo_172)]
theorem zbyb_561 : zbys zbyl_561 (cX12_send.data.toList.drop 58) 58 = true := by decide +kernel
theorem dX12_send_58 : decode cX12_send 58 = .ok (.iaload, 1) := zby_g zbyb_561 (i := 0) rfl rfl
theorem dX12_send_59 : decode cX12_send 59 = .ok (.iadd, 1) := zby_g zbyb_561 (i := 1) rfl rfl
theorem dX12_send_60 : decode cX12_send 60 = .ok (.invokevirtual 123, 3) := zby_g zbyb_561 (i := 2) rfl rfl
theorem dX12_send_63 : decode cX12_send 63 = .ok (.aload_n 0, 1) := zby_g zbyb_561 (i := 3) rfl rfl
theorem dX12_send_64 : decode cX12_send 64 = .ok (.iload_n 1, 1) := zby_g zbyb_561 (i := 4) rfl rfl
theorem dX12_send_65 : decode cX12_send 65 = .ok (.iconst 4, 1) := zby_g zbyb_561 (i := 5) rfl rfl
theorem dX12_send_66 : decode cX12_send 66 = .ok (.invokevirtual 46, 3) := zby_g zbyb_561 (i := 6) rfl rfl
theorem dX12_send_69 : decode cX12_send 69 = .ok (.ireturn, 1) := zby_g zbyb_561 (i := 7) rfl rfl
noncomputable def zbyl_562 : List (Nat × zbyE) := [(0, zbyo_42), (1, zbyo_42), (2, zbyo_27), (3, zbyo_182 280), (6, zbyo_154 7), (9, zbyo_4), (10, zbyo_167 50), (13, zbyo_28), (14, zbyo_4), (15, zbyo_16 99), (17, zbyo_184 42), (20, zbyo_154 7), (23, zbyo_5), (24, zbyo_167 36), (27, zbyo_42), (28, zbyo_27)]
theorem zbyb_562 : zbys zbyl_562 (cX12_buy.data.toList.drop 0) 0 = true := by decide +kernel
theorem dX12_buy_0 : decode cX12_buy 0 = .ok (.aload_n 0, 1) := zby_g zbyb_562 (i := 0) rfl rfl
theorem dX12_buy_1 : decode cX12_buy 1 = .ok (.aload_n 0, 1) := zby_g zbyb_562 (i := 1) rfl rfl
theorem dX12_buy_2 : decode cX12_buy 2 = .ok (.iload_n 1, 1) := zby_g zbyb_562 (i := 2) rfl rfl
theorem dX12_buy_3 : decode cX12_buy 3 = .ok (.invokevirtual 280, 3) := zby_g zbyb_562 (i := 3) rfl rfl
theorem dX12_buy_6 : decode cX12_buy 6 = .ok (.ifCond .ne 7, 3) := zby_g zbyb_562 (i := 4) rfl rfl
theorem dX12_buy_9 : decode cX12_buy 9 = .ok (.iconst 1, 1) := zby_g zbyb_562 (i := 5) rfl rfl
theorem dX12_buy_10 : decode cX12_buy 10 = .ok (.goto 50, 3) := zby_g zbyb_562 (i := 6) rfl rfl
theorem dX12_buy_13 : decode cX12_buy 13 = .ok (.iload_n 2, 1) := zby_g zbyb_562 (i := 7) rfl rfl
theorem dX12_buy_14 : decode cX12_buy 14 = .ok (.iconst 1, 1) := zby_g zbyb_562 (i := 8) rfl rfl
theorem dX12_buy_15 : decode cX12_buy 15 = .ok (.bipush 99, 2) := zby_g zbyb_562 (i := 9) rfl rfl
theorem dX12_buy_17 : decode cX12_buy 17 = .ok (.invokestatic 42, 3) := zby_g zbyb_562 (i := 10) rfl rfl
theorem dX12_buy_20 : decode cX12_buy 20 = .ok (.ifCond .ne 7, 3) := zby_g zbyb_562 (i := 11) rfl rfl
theorem dX12_buy_23 : decode cX12_buy 23 = .ok (.iconst 2, 1) := zby_g zbyb_562 (i := 12) rfl rfl
theorem dX12_buy_24 : decode cX12_buy 24 = .ok (.goto 36, 3) := zby_g zbyb_562 (i := 13) rfl rfl
theorem dX12_buy_27 : decode cX12_buy 27 = .ok (.aload_n 0, 1) := zby_g zbyb_562 (i := 14) rfl rfl
theorem dX12_buy_28 : decode cX12_buy 28 = .ok (.iload_n 1, 1) := zby_g zbyb_562 (i := 15) rfl rfl
noncomputable def zbyl_563 : List (Nat × zbyE) := [(29, zbyo_5), (30, zbyo_182 46), (33, zbyo_28), (34, zbyo_96), (35, zbyo_16 99), (37, zbyo_163 18), (40, zbyo_42), (41, zbyo_27), (42, zbyo_4), (43, zbyo_182 46), (46, zbyo_28), (47, zbyo_42), (48, zbyo_182 277), (51, zbyo_104), (52, zbyo_162 7), (55, zbyo_6)]
theorem zbyb_563 : zbys zbyl_563 (cX12_buy.data.toList.drop 29) 29 = true := by decide +kernel
theorem dX12_buy_29 : decode cX12_buy 29 = .ok (.iconst 2, 1) := zby_g zbyb_563 (i := 0) rfl rfl
theorem dX12_buy_30 : decode cX12_buy 30 = .ok (.invokevirtual 46, 3) := zby_g zbyb_563 (i := 1) rfl rfl
theorem dX12_buy_33 : decode cX12_buy 33 = .ok (.iload_n 2, 1) := zby_g zbyb_563 (i := 2) rfl rfl
theorem dX12_buy_34 : decode cX12_buy 34 = .ok (.iadd, 1) := zby_g zbyb_563 (i := 3) rfl rfl
theorem dX12_buy_35 : decode cX12_buy 35 = .ok (.bipush 99, 2) := zby_g zbyb_563 (i := 4) rfl rfl
theorem dX12_buy_37 : decode cX12_buy 37 = .ok (.if_icmp .gt 18, 3) := zby_g zbyb_563 (i := 5) rfl rfl
theorem dX12_buy_40 : decode cX12_buy 40 = .ok (.aload_n 0, 1) := zby_g zbyb_563 (i := 6) rfl rfl
theorem dX12_buy_41 : decode cX12_buy 41 = .ok (.iload_n 1, 1) := zby_g zbyb_563 (i := 7) rfl rfl
theorem dX12_buy_42 : decode cX12_buy 42 = .ok (.iconst 1, 1) := zby_g zbyb_563 (i := 8) rfl rfl
theorem dX12_buy_43 : decode cX12_buy 43 = .ok (.invokevirtual 46, 3) := zby_g zbyb_563 (i := 9) rfl rfl
theorem dX12_buy_46 : decode cX12_buy 46 = .ok (.iload_n 2, 1) := zby_g zbyb_563 (i := 10) rfl rfl
theorem dX12_buy_47 : decode cX12_buy 47 = .ok (.aload_n 0, 1) := zby_g zbyb_563 (i := 11) rfl rfl
theorem dX12_buy_48 : decode cX12_buy 48 = .ok (.invokevirtual 277, 3) := zby_g zbyb_563 (i := 12) rfl rfl
theorem dX12_buy_51 : decode cX12_buy 51 = .ok (.imul, 1) := zby_g zbyb_563 (i := 13) rfl rfl
theorem dX12_buy_52 : decode cX12_buy 52 = .ok (.if_icmp .ge 7, 3) := zby_g zbyb_563 (i := 14) rfl rfl
theorem dX12_buy_55 : decode cX12_buy 55 = .ok (.iconst 3, 1) := zby_g zbyb_563 (i := 15) rfl rfl
noncomputable def zbyl_564 : List (Nat × zbyE) := [(56, zbyo_167 4), (59, zbyo_3), (60, zbyo_181 39), (63, zbyo_42), (64, zbyo_180 39), (67, zbyo_158 5), (70, zbyo_3), (71, zbyo_172), (72, zbyo_42), (73, zbyo_182 289), (76, zbyo_28), (77, zbyo_42), (78, zbyo_182 277), (81, zbyo_104), (82, zbyo_62), (83, zbyo_42)]
theorem zbyb_564 : zbys zbyl_564 (cX12_buy.data.toList.drop 56) 56 = true := by decide +kernel
theorem dX12_buy_56 : decode cX12_buy 56 = .ok (.goto 4, 3) := zby_g zbyb_564 (i := 0) rfl rfl
theorem dX12_buy_59 : decode cX12_buy 59 = .ok (.iconst 0, 1) := zby_g zbyb_564 (i := 1) rfl rfl
theorem dX12_buy_60 : decode cX12_buy 60 = .ok (.putfield 39, 3) := zby_g zbyb_564 (i := 2) rfl rfl
theorem dX12_buy_63 : decode cX12_buy 63 = .ok (.aload_n 0, 1) := zby_g zbyb_564 (i := 3) rfl rfl
theorem dX12_buy_64 : decode cX12_buy 64 = .ok (.getfield 39, 3) := zby_g zbyb_564 (i := 4) rfl rfl
theorem dX12_buy_67 : decode cX12_buy 67 = .ok (.ifCond .le 5, 3) := zby_g zbyb_564 (i := 5) rfl rfl
theorem dX12_buy_70 : decode cX12_buy 70 = .ok (.iconst 0, 1) := zby_g zbyb_564 (i := 6) rfl rfl
theorem dX12_buy_71 : decode cX12_buy 71 = .ok (.ireturn, 1) := zby_g zbyb_564 (i := 7) rfl rfl
theorem dX12_buy_72 : decode cX12_buy 72 = .ok (.aload_n 0, 1) := zby_g zbyb_564 (i := 8) rfl rfl
theorem dX12_buy_73 : decode cX12_buy 73 = .ok (.invokevirtual 289, 3) := zby_g zbyb_564 (i := 9) rfl rfl
theorem dX12_buy_76 : decode cX12_buy 76 = .ok (.iload_n 2, 1) := zby_g zbyb_564 (i := 10) rfl rfl
theorem dX12_buy_77 : decode cX12_buy 77 = .ok (.aload_n 0, 1) := zby_g zbyb_564 (i := 11) rfl rfl
theorem dX12_buy_78 : decode cX12_buy 78 = .ok (.invokevirtual 277, 3) := zby_g zbyb_564 (i := 12) rfl rfl
theorem dX12_buy_81 : decode cX12_buy 81 = .ok (.imul, 1) := zby_g zbyb_564 (i := 13) rfl rfl
theorem dX12_buy_82 : decode cX12_buy 82 = .ok (.istore_n 3, 1) := zby_g zbyb_564 (i := 14) rfl rfl
theorem dX12_buy_83 : decode cX12_buy 83 = .ok (.aload_n 0, 1) := zby_g zbyb_564 (i := 15) rfl rfl
noncomputable def zbyl_565 : List (Nat × zbyE) := [(84, zbyo_27), (85, zbyo_4), (86, zbyo_42), (87, zbyo_27), (88, zbyo_4), (89, zbyo_182 46), (92, zbyo_29), (93, zbyo_100), (94, zbyo_182 123), (97, zbyo_42), (98, zbyo_27), (99, zbyo_5), (100, zbyo_42), (101, zbyo_27), (102, zbyo_5), (103, zbyo_182 46)]
theorem zbyb_565 : zbys zbyl_565 (cX12_buy.data.toList.drop 84) 84 = true := by decide +kernel
theorem dX12_buy_84 : decode cX12_buy 84 = .ok (.iload_n 1, 1) := zby_g zbyb_565 (i := 0) rfl rfl
theorem dX12_buy_85 : decode cX12_buy 85 = .ok (.iconst 1, 1) := zby_g zbyb_565 (i := 1) rfl rfl
theorem dX12_buy_86 : decode cX12_buy 86 = .ok (.aload_n 0, 1) := zby_g zbyb_565 (i := 2) rfl rfl
theorem dX12_buy_87 : decode cX12_buy 87 = .ok (.iload_n 1, 1) := zby_g zbyb_565 (i := 3) rfl rfl
theorem dX12_buy_88 : decode cX12_buy 88 = .ok (.iconst 1, 1) := zby_g zbyb_565 (i := 4) rfl rfl
theorem dX12_buy_89 : decode cX12_buy 89 = .ok (.invokevirtual 46, 3) := zby_g zbyb_565 (i := 5) rfl rfl
theorem dX12_buy_92 : decode cX12_buy 92 = .ok (.iload_n 3, 1) := zby_g zbyb_565 (i := 6) rfl rfl
theorem dX12_buy_93 : decode cX12_buy 93 = .ok (.isub, 1) := zby_g zbyb_565 (i := 7) rfl rfl
theorem dX12_buy_94 : decode cX12_buy 94 = .ok (.invokevirtual 123, 3) := zby_g zbyb_565 (i := 8) rfl rfl
theorem dX12_buy_97 : decode cX12_buy 97 = .ok (.aload_n 0, 1) := zby_g zbyb_565 (i := 9) rfl rfl
theorem dX12_buy_98 : decode cX12_buy 98 = .ok (.iload_n 1, 1) := zby_g zbyb_565 (i := 10) rfl rfl
theorem dX12_buy_99 : decode cX12_buy 99 = .ok (.iconst 2, 1) := zby_g zbyb_565 (i := 11) rfl rfl
theorem dX12_buy_100 : decode cX12_buy 100 = .ok (.aload_n 0, 1) := zby_g zbyb_565 (i := 12) rfl rfl
theorem dX12_buy_101 : decode cX12_buy 101 = .ok (.iload_n 1, 1) := zby_g zbyb_565 (i := 13) rfl rfl
theorem dX12_buy_102 : decode cX12_buy 102 = .ok (.iconst 2, 1) := zby_g zbyb_565 (i := 14) rfl rfl
theorem dX12_buy_103 : decode cX12_buy 103 = .ok (.invokevirtual 46, 3) := zby_g zbyb_565 (i := 15) rfl rfl
noncomputable def zbyl_566 : List (Nat × zbyE) := [(106, zbyo_28), (107, zbyo_96), (108, zbyo_182 123), (111, zbyo_42), (112, zbyo_180 7), (115, zbyo_8), (116, zbyo_17 9999), (119, zbyo_42), (120, zbyo_180 7), (123, zbyo_8), (124, zbyo_46), (125, zbyo_29), (126, zbyo_96), (127, zbyo_184 248), (130, zbyo_79), (131, zbyo_42)]
theorem zbyb_566 : zbys zbyl_566 (cX12_buy.data.toList.drop 106) 106 = true := by decide +kernel
theorem dX12_buy_106 : decode cX12_buy 106 = .ok (.iload_n 2, 1) := zby_g zbyb_566 (i := 0) rfl rfl
theorem dX12_buy_107 : decode cX12_buy 107 = .ok (.iadd, 1) := zby_g zbyb_566 (i := 1) rfl rfl
theorem dX12_buy_108 : decode cX12_buy 108 = .ok (.invokevirtual 123, 3) := zby_g zbyb_566 (i := 2) rfl rfl
theorem dX12_buy_111 : decode cX12_buy 111 = .ok (.aload_n 0, 1) := zby_g zbyb_566 (i := 3) rfl rfl
theorem dX12_buy_112 : decode cX12_buy 112 = .ok (.getfield 7, 3) := zby_g zbyb_566 (i := 4) rfl rfl
theorem dX12_buy_115 : decode cX12_buy 115 = .ok (.iconst 5, 1) := zby_g zbyb_566 (i := 5) rfl rfl
theorem dX12_buy_116 : decode cX12_buy 116 = .ok (.sipush 9999, 3) := zby_g zbyb_566 (i := 6) rfl rfl
theorem dX12_buy_119 : decode cX12_buy 119 = .ok (.aload_n 0, 1) := zby_g zbyb_566 (i := 7) rfl rfl
theorem dX12_buy_120 : decode cX12_buy 120 = .ok (.getfield 7, 3) := zby_g zbyb_566 (i := 8) rfl rfl
theorem dX12_buy_123 : decode cX12_buy 123 = .ok (.iconst 5, 1) := zby_g zbyb_566 (i := 9) rfl rfl
theorem dX12_buy_124 : decode cX12_buy 124 = .ok (.iaload, 1) := zby_g zbyb_566 (i := 10) rfl rfl
theorem dX12_buy_125 : decode cX12_buy 125 = .ok (.iload_n 3, 1) := zby_g zbyb_566 (i := 11) rfl rfl
theorem dX12_buy_126 : decode cX12_buy 126 = .ok (.iadd, 1) := zby_g zbyb_566 (i := 12) rfl rfl
theorem dX12_buy_127 : decode cX12_buy 127 = .ok (.invokestatic 248, 3) := zby_g zbyb_566 (i := 13) rfl rfl
theorem dX12_buy_130 : decode cX12_buy 130 = .ok (.iastore, 1) := zby_g zbyb_566 (i := 14) rfl rfl
theorem dX12_buy_131 : decode cX12_buy 131 = .ok (.aload_n 0, 1) := zby_g zbyb_566 (i := 15) rfl rfl
noncomputable def zbyl_567 : List (Nat × zbyE) := [(132, zbyo_27), (133, zbyo_4), (134, zbyo_182 46), (137, zbyo_172)]
theorem zbyb_567 : zbys zbyl_567 (cX12_buy.data.toList.drop 132) 132 = true := by decide +kernel
theorem dX12_buy_132 : decode cX12_buy 132 = .ok (.iload_n 1, 1) := zby_g zbyb_567 (i := 0) rfl rfl
theorem dX12_buy_133 : decode cX12_buy 133 = .ok (.iconst 1, 1) := zby_g zbyb_567 (i := 1) rfl rfl
theorem dX12_buy_134 : decode cX12_buy 134 = .ok (.invokevirtual 46, 3) := zby_g zbyb_567 (i := 2) rfl rfl
theorem dX12_buy_137 : decode cX12_buy 137 = .ok (.ireturn, 1) := zby_g zbyb_567 (i := 3) rfl rfl
noncomputable def zbyl_568 : List (Nat × zbyE) := [(0, zbyo_42), (1, zbyo_42), (2, zbyo_27), (3, zbyo_182 280), (6, zbyo_154 7), (9, zbyo_4), (10, zbyo_167 47), (13, zbyo_28), (14, zbyo_4), (15, zbyo_16 99), (17, zbyo_184 42), (20, zbyo_154 7), (23, zbyo_5), (24, zbyo_167 33), (27, zbyo_42), (28, zbyo_27)]
theorem zbyb_568 : zbys zbyl_568 (cX12_sell.data.toList.drop 0) 0 = true := by decide +kernel
theorem dX12_sell_0 : decode cX12_sell 0 = .ok (.aload_n 0, 1) := zby_g zbyb_568 (i := 0) rfl rfl
theorem dX12_sell_1 : decode cX12_sell 1 = .ok (.aload_n 0, 1) := zby_g zbyb_568 (i := 1) rfl rfl
theorem dX12_sell_2 : decode cX12_sell 2 = .ok (.iload_n 1, 1) := zby_g zbyb_568 (i := 2) rfl rfl
theorem dX12_sell_3 : decode cX12_sell 3 = .ok (.invokevirtual 280, 3) := zby_g zbyb_568 (i := 3) rfl rfl
theorem dX12_sell_6 : decode cX12_sell 6 = .ok (.ifCond .ne 7, 3) := zby_g zbyb_568 (i := 4) rfl rfl
theorem dX12_sell_9 : decode cX12_sell 9 = .ok (.iconst 1, 1) := zby_g zbyb_568 (i := 5) rfl rfl
theorem dX12_sell_10 : decode cX12_sell 10 = .ok (.goto 47, 3) := zby_g zbyb_568 (i := 6) rfl rfl
theorem dX12_sell_13 : decode cX12_sell 13 = .ok (.iload_n 2, 1) := zby_g zbyb_568 (i := 7) rfl rfl
theorem dX12_sell_14 : decode cX12_sell 14 = .ok (.iconst 1, 1) := zby_g zbyb_568 (i := 8) rfl rfl
theorem dX12_sell_15 : decode cX12_sell 15 = .ok (.bipush 99, 2) := zby_g zbyb_568 (i := 9) rfl rfl
theorem dX12_sell_17 : decode cX12_sell 17 = .ok (.invokestatic 42, 3) := zby_g zbyb_568 (i := 10) rfl rfl
theorem dX12_sell_20 : decode cX12_sell 20 = .ok (.ifCond .ne 7, 3) := zby_g zbyb_568 (i := 11) rfl rfl
theorem dX12_sell_23 : decode cX12_sell 23 = .ok (.iconst 2, 1) := zby_g zbyb_568 (i := 12) rfl rfl
theorem dX12_sell_24 : decode cX12_sell 24 = .ok (.goto 33, 3) := zby_g zbyb_568 (i := 13) rfl rfl
theorem dX12_sell_27 : decode cX12_sell 27 = .ok (.aload_n 0, 1) := zby_g zbyb_568 (i := 14) rfl rfl
theorem dX12_sell_28 : decode cX12_sell 28 = .ok (.iload_n 1, 1) := zby_g zbyb_568 (i := 15) rfl rfl
noncomputable def zbyl_569 : List (Nat × zbyE) := [(29, zbyo_5), (30, zbyo_182 46), (33, zbyo_28), (34, zbyo_161 18), (37, zbyo_42), (38, zbyo_180 7), (41, zbyo_8), (42, zbyo_46), (43, zbyo_28), (44, zbyo_42), (45, zbyo_182 277), (48, zbyo_104), (49, zbyo_162 7), (52, zbyo_6), (53, zbyo_167 4), (56, zbyo_3)]
theorem zbyb_569 : zbys zbyl_569 (cX12_sell.data.toList.drop 29) 29 = true := by decide +kernel
theorem dX12_sell_29 : decode cX12_sell 29 = .ok (.iconst 2, 1) := zby_g zbyb_569 (i := 0) rfl rfl
theorem dX12_sell_30 : decode cX12_sell 30 = .ok (.invokevirtual 46, 3) := zby_g zbyb_569 (i := 1) rfl rfl
theorem dX12_sell_33 : decode cX12_sell 33 = .ok (.iload_n 2, 1) := zby_g zbyb_569 (i := 2) rfl rfl
theorem dX12_sell_34 : decode cX12_sell 34 = .ok (.if_icmp .lt 18, 3) := zby_g zbyb_569 (i := 3) rfl rfl
theorem dX12_sell_37 : decode cX12_sell 37 = .ok (.aload_n 0, 1) := zby_g zbyb_569 (i := 4) rfl rfl
theorem dX12_sell_38 : decode cX12_sell 38 = .ok (.getfield 7, 3) := zby_g zbyb_569 (i := 5) rfl rfl
theorem dX12_sell_41 : decode cX12_sell 41 = .ok (.iconst 5, 1) := zby_g zbyb_569 (i := 6) rfl rfl
theorem dX12_sell_42 : decode cX12_sell 42 = .ok (.iaload, 1) := zby_g zbyb_569 (i := 7) rfl rfl
theorem dX12_sell_43 : decode cX12_sell 43 = .ok (.iload_n 2, 1) := zby_g zbyb_569 (i := 8) rfl rfl
theorem dX12_sell_44 : decode cX12_sell 44 = .ok (.aload_n 0, 1) := zby_g zbyb_569 (i := 9) rfl rfl
theorem dX12_sell_45 : decode cX12_sell 45 = .ok (.invokevirtual 277, 3) := zby_g zbyb_569 (i := 10) rfl rfl
theorem dX12_sell_48 : decode cX12_sell 48 = .ok (.imul, 1) := zby_g zbyb_569 (i := 11) rfl rfl
theorem dX12_sell_49 : decode cX12_sell 49 = .ok (.if_icmp .ge 7, 3) := zby_g zbyb_569 (i := 12) rfl rfl
theorem dX12_sell_52 : decode cX12_sell 52 = .ok (.iconst 3, 1) := zby_g zbyb_569 (i := 13) rfl rfl
theorem dX12_sell_53 : decode cX12_sell 53 = .ok (.goto 4, 3) := zby_g zbyb_569 (i := 14) rfl rfl
theorem dX12_sell_56 : decode cX12_sell 56 = .ok (.iconst 0, 1) := zby_g zbyb_569 (i := 15) rfl rfl
noncomputable def zbyl_570 : List (Nat × zbyE) := [(57, zbyo_181 39), (60, zbyo_42), (61, zbyo_180 39), (64, zbyo_158 5), (67, zbyo_3), (68, zbyo_172), (69, zbyo_42), (70, zbyo_182 289), (73, zbyo_28), (74, zbyo_42), (75, zbyo_182 277), (78, zbyo_104), (79, zbyo_62), (80, zbyo_42), (81, zbyo_27), (82, zbyo_4)]
theorem zbyb_570 : zbys zbyl_570 (cX12_sell.data.toList.drop 57) 57 = true := by decide +kernel
theorem dX12_sell_57 : decode cX12_sell 57 = .ok (.putfield 39, 3) := zby_g zbyb_570 (i := 0) rfl rfl
theorem dX12_sell_60 : decode cX12_sell 60 = .ok (.aload_n 0, 1) := zby_g zbyb_570 (i := 1) rfl rfl
theorem dX12_sell_61 : decode cX12_sell 61 = .ok (.getfield 39, 3) := zby_g zbyb_570 (i := 2) rfl rfl
theorem dX12_sell_64 : decode cX12_sell 64 = .ok (.ifCond .le 5, 3) := zby_g zbyb_570 (i := 3) rfl rfl
theorem dX12_sell_67 : decode cX12_sell 67 = .ok (.iconst 0, 1) := zby_g zbyb_570 (i := 4) rfl rfl
theorem dX12_sell_68 : decode cX12_sell 68 = .ok (.ireturn, 1) := zby_g zbyb_570 (i := 5) rfl rfl
theorem dX12_sell_69 : decode cX12_sell 69 = .ok (.aload_n 0, 1) := zby_g zbyb_570 (i := 6) rfl rfl
theorem dX12_sell_70 : decode cX12_sell 70 = .ok (.invokevirtual 289, 3) := zby_g zbyb_570 (i := 7) rfl rfl
theorem dX12_sell_73 : decode cX12_sell 73 = .ok (.iload_n 2, 1) := zby_g zbyb_570 (i := 8) rfl rfl
theorem dX12_sell_74 : decode cX12_sell 74 = .ok (.aload_n 0, 1) := zby_g zbyb_570 (i := 9) rfl rfl
theorem dX12_sell_75 : decode cX12_sell 75 = .ok (.invokevirtual 277, 3) := zby_g zbyb_570 (i := 10) rfl rfl
theorem dX12_sell_78 : decode cX12_sell 78 = .ok (.imul, 1) := zby_g zbyb_570 (i := 11) rfl rfl
theorem dX12_sell_79 : decode cX12_sell 79 = .ok (.istore_n 3, 1) := zby_g zbyb_570 (i := 12) rfl rfl
theorem dX12_sell_80 : decode cX12_sell 80 = .ok (.aload_n 0, 1) := zby_g zbyb_570 (i := 13) rfl rfl
theorem dX12_sell_81 : decode cX12_sell 81 = .ok (.iload_n 1, 1) := zby_g zbyb_570 (i := 14) rfl rfl
theorem dX12_sell_82 : decode cX12_sell 82 = .ok (.iconst 1, 1) := zby_g zbyb_570 (i := 15) rfl rfl
noncomputable def zbyl_571 : List (Nat × zbyE) := [(83, zbyo_17 9999), (86, zbyo_42), (87, zbyo_27), (88, zbyo_4), (89, zbyo_182 46), (92, zbyo_29), (93, zbyo_96), (94, zbyo_184 248), (97, zbyo_182 123), (100, zbyo_42), (101, zbyo_27), (102, zbyo_5), (103, zbyo_42), (104, zbyo_27), (105, zbyo_5), (106, zbyo_182 46)]
theorem zbyb_571 : zbys zbyl_571 (cX12_sell.data.toList.drop 83) 83 = true := by decide +kernel
theorem dX12_sell_83 : decode cX12_sell 83 = .ok (.sipush 9999, 3) := zby_g zbyb_571 (i := 0) rfl rfl
theorem dX12_sell_86 : decode cX12_sell 86 = .ok (.aload_n 0, 1) := zby_g zbyb_571 (i := 1) rfl rfl
theorem dX12_sell_87 : decode cX12_sell 87 = .ok (.iload_n 1, 1) := zby_g zbyb_571 (i := 2) rfl rfl
theorem dX12_sell_88 : decode cX12_sell 88 = .ok (.iconst 1, 1) := zby_g zbyb_571 (i := 3) rfl rfl
theorem dX12_sell_89 : decode cX12_sell 89 = .ok (.invokevirtual 46, 3) := zby_g zbyb_571 (i := 4) rfl rfl
theorem dX12_sell_92 : decode cX12_sell 92 = .ok (.iload_n 3, 1) := zby_g zbyb_571 (i := 5) rfl rfl
theorem dX12_sell_93 : decode cX12_sell 93 = .ok (.iadd, 1) := zby_g zbyb_571 (i := 6) rfl rfl
theorem dX12_sell_94 : decode cX12_sell 94 = .ok (.invokestatic 248, 3) := zby_g zbyb_571 (i := 7) rfl rfl
theorem dX12_sell_97 : decode cX12_sell 97 = .ok (.invokevirtual 123, 3) := zby_g zbyb_571 (i := 8) rfl rfl
theorem dX12_sell_100 : decode cX12_sell 100 = .ok (.aload_n 0, 1) := zby_g zbyb_571 (i := 9) rfl rfl
theorem dX12_sell_101 : decode cX12_sell 101 = .ok (.iload_n 1, 1) := zby_g zbyb_571 (i := 10) rfl rfl
theorem dX12_sell_102 : decode cX12_sell 102 = .ok (.iconst 2, 1) := zby_g zbyb_571 (i := 11) rfl rfl
theorem dX12_sell_103 : decode cX12_sell 103 = .ok (.aload_n 0, 1) := zby_g zbyb_571 (i := 12) rfl rfl
theorem dX12_sell_104 : decode cX12_sell 104 = .ok (.iload_n 1, 1) := zby_g zbyb_571 (i := 13) rfl rfl
theorem dX12_sell_105 : decode cX12_sell 105 = .ok (.iconst 2, 1) := zby_g zbyb_571 (i := 14) rfl rfl
theorem dX12_sell_106 : decode cX12_sell 106 = .ok (.invokevirtual 46, 3) := zby_g zbyb_571 (i := 15) rfl rfl
noncomputable def zbyl_572 : List (Nat × zbyE) := [(109, zbyo_28), (110, zbyo_100), (111, zbyo_182 123), (114, zbyo_42), (115, zbyo_180 7), (118, zbyo_8), (119, zbyo_92), (120, zbyo_46), (121, zbyo_29), (122, zbyo_100), (123, zbyo_79), (124, zbyo_42), (125, zbyo_27), (126, zbyo_4), (127, zbyo_182 46), (130, zbyo_172)]
theorem zbyb_572 : zbys zbyl_572 (cX12_sell.data.toList.drop 109) 109 = true := by decide +kernel
theorem dX12_sell_109 : decode cX12_sell 109 = .ok (.iload_n 2, 1) := zby_g zbyb_572 (i := 0) rfl rfl
theorem dX12_sell_110 : decode cX12_sell 110 = .ok (.isub, 1) := zby_g zbyb_572 (i := 1) rfl rfl
theorem dX12_sell_111 : decode cX12_sell 111 = .ok (.invokevirtual 123, 3) := zby_g zbyb_572 (i := 2) rfl rfl
theorem dX12_sell_114 : decode cX12_sell 114 = .ok (.aload_n 0, 1) := zby_g zbyb_572 (i := 3) rfl rfl
theorem dX12_sell_115 : decode cX12_sell 115 = .ok (.getfield 7, 3) := zby_g zbyb_572 (i := 4) rfl rfl
theorem dX12_sell_118 : decode cX12_sell 118 = .ok (.iconst 5, 1) := zby_g zbyb_572 (i := 5) rfl rfl
theorem dX12_sell_119 : decode cX12_sell 119 = .ok (.dup2, 1) := zby_g zbyb_572 (i := 6) rfl rfl
theorem dX12_sell_120 : decode cX12_sell 120 = .ok (.iaload, 1) := zby_g zbyb_572 (i := 7) rfl rfl
theorem dX12_sell_121 : decode cX12_sell 121 = .ok (.iload_n 3, 1) := zby_g zbyb_572 (i := 8) rfl rfl
theorem dX12_sell_122 : decode cX12_sell 122 = .ok (.isub, 1) := zby_g zbyb_572 (i := 9) rfl rfl
theorem dX12_sell_123 : decode cX12_sell 123 = .ok (.iastore, 1) := zby_g zbyb_572 (i := 10) rfl rfl
theorem dX12_sell_124 : decode cX12_sell 124 = .ok (.aload_n 0, 1) := zby_g zbyb_572 (i := 11) rfl rfl
theorem dX12_sell_125 : decode cX12_sell 125 = .ok (.iload_n 1, 1) := zby_g zbyb_572 (i := 12) rfl rfl
theorem dX12_sell_126 : decode cX12_sell 126 = .ok (.iconst 1, 1) := zby_g zbyb_572 (i := 13) rfl rfl
theorem dX12_sell_127 : decode cX12_sell 127 = .ok (.invokevirtual 46, 3) := zby_g zbyb_572 (i := 14) rfl rfl
theorem dX12_sell_130 : decode cX12_sell 130 = .ok (.ireturn, 1) := zby_g zbyb_572 (i := 15) rfl rfl
noncomputable def zbyl_573 : List (Nat × zbyE) := [(0, zbyo_42), (1, zbyo_42), (2, zbyo_27), (3, zbyo_182 280), (6, zbyo_154 7), (9, zbyo_4), (10, zbyo_167 4), (13, zbyo_3), (14, zbyo_181 39), (17, zbyo_42), (18, zbyo_180 39), (21, zbyo_158 5), (24, zbyo_3), (25, zbyo_172), (26, zbyo_42), (27, zbyo_182 289)]
theorem zbyb_573 : zbys zbyl_573 (cX12_dry.data.toList.drop 0) 0 = true := by decide +kernel
theorem dX12_dry_0 : decode cX12_dry 0 = .ok (.aload_n 0, 1) := zby_g zbyb_573 (i := 0) rfl rfl
theorem dX12_dry_1 : decode cX12_dry 1 = .ok (.aload_n 0, 1) := zby_g zbyb_573 (i := 1) rfl rfl
theorem dX12_dry_2 : decode cX12_dry 2 = .ok (.iload_n 1, 1) := zby_g zbyb_573 (i := 2) rfl rfl
theorem dX12_dry_3 : decode cX12_dry 3 = .ok (.invokevirtual 280, 3) := zby_g zbyb_573 (i := 3) rfl rfl
theorem dX12_dry_6 : decode cX12_dry 6 = .ok (.ifCond .ne 7, 3) := zby_g zbyb_573 (i := 4) rfl rfl
theorem dX12_dry_9 : decode cX12_dry 9 = .ok (.iconst 1, 1) := zby_g zbyb_573 (i := 5) rfl rfl
theorem dX12_dry_10 : decode cX12_dry 10 = .ok (.goto 4, 3) := zby_g zbyb_573 (i := 6) rfl rfl
theorem dX12_dry_13 : decode cX12_dry 13 = .ok (.iconst 0, 1) := zby_g zbyb_573 (i := 7) rfl rfl
theorem dX12_dry_14 : decode cX12_dry 14 = .ok (.putfield 39, 3) := zby_g zbyb_573 (i := 8) rfl rfl
theorem dX12_dry_17 : decode cX12_dry 17 = .ok (.aload_n 0, 1) := zby_g zbyb_573 (i := 9) rfl rfl
theorem dX12_dry_18 : decode cX12_dry 18 = .ok (.getfield 39, 3) := zby_g zbyb_573 (i := 10) rfl rfl
theorem dX12_dry_21 : decode cX12_dry 21 = .ok (.ifCond .le 5, 3) := zby_g zbyb_573 (i := 11) rfl rfl
theorem dX12_dry_24 : decode cX12_dry 24 = .ok (.iconst 0, 1) := zby_g zbyb_573 (i := 12) rfl rfl
theorem dX12_dry_25 : decode cX12_dry 25 = .ok (.ireturn, 1) := zby_g zbyb_573 (i := 13) rfl rfl
theorem dX12_dry_26 : decode cX12_dry 26 = .ok (.aload_n 0, 1) := zby_g zbyb_573 (i := 14) rfl rfl
theorem dX12_dry_27 : decode cX12_dry 27 = .ok (.invokevirtual 289, 3) := zby_g zbyb_573 (i := 15) rfl rfl
noncomputable def zbyl_574 : List (Nat × zbyE) := [(30, zbyo_42), (31, zbyo_27), (32, zbyo_6), (33, zbyo_182 46), (36, zbyo_4), (37, zbyo_160 7), (40, zbyo_4), (41, zbyo_167 4), (44, zbyo_3), (45, zbyo_62), (46, zbyo_42), (47, zbyo_27), (48, zbyo_6), (49, zbyo_28), (50, zbyo_153 7), (53, zbyo_4)]
theorem zbyb_574 : zbys zbyl_574 (cX12_dry.data.toList.drop 30) 30 = true := by decide +kernel
theorem dX12_dry_30 : decode cX12_dry 30 = .ok (.aload_n 0, 1) := zby_g zbyb_574 (i := 0) rfl rfl
theorem dX12_dry_31 : decode cX12_dry 31 = .ok (.iload_n 1, 1) := zby_g zbyb_574 (i := 1) rfl rfl
theorem dX12_dry_32 : decode cX12_dry 32 = .ok (.iconst 3, 1) := zby_g zbyb_574 (i := 2) rfl rfl
theorem dX12_dry_33 : decode cX12_dry 33 = .ok (.invokevirtual 46, 3) := zby_g zbyb_574 (i := 3) rfl rfl
theorem dX12_dry_36 : decode cX12_dry 36 = .ok (.iconst 1, 1) := zby_g zbyb_574 (i := 4) rfl rfl
theorem dX12_dry_37 : decode cX12_dry 37 = .ok (.if_icmp .ne 7, 3) := zby_g zbyb_574 (i := 5) rfl rfl
theorem dX12_dry_40 : decode cX12_dry 40 = .ok (.iconst 1, 1) := zby_g zbyb_574 (i := 6) rfl rfl
theorem dX12_dry_41 : decode cX12_dry 41 = .ok (.goto 4, 3) := zby_g zbyb_574 (i := 7) rfl rfl
theorem dX12_dry_44 : decode cX12_dry 44 = .ok (.iconst 0, 1) := zby_g zbyb_574 (i := 8) rfl rfl
theorem dX12_dry_45 : decode cX12_dry 45 = .ok (.istore_n 3, 1) := zby_g zbyb_574 (i := 9) rfl rfl
theorem dX12_dry_46 : decode cX12_dry 46 = .ok (.aload_n 0, 1) := zby_g zbyb_574 (i := 10) rfl rfl
theorem dX12_dry_47 : decode cX12_dry 47 = .ok (.iload_n 1, 1) := zby_g zbyb_574 (i := 11) rfl rfl
theorem dX12_dry_48 : decode cX12_dry 48 = .ok (.iconst 3, 1) := zby_g zbyb_574 (i := 12) rfl rfl
theorem dX12_dry_49 : decode cX12_dry 49 = .ok (.iload_n 2, 1) := zby_g zbyb_574 (i := 13) rfl rfl
theorem dX12_dry_50 : decode cX12_dry 50 = .ok (.ifCond .eq 7, 3) := zby_g zbyb_574 (i := 14) rfl rfl
theorem dX12_dry_53 : decode cX12_dry 53 = .ok (.iconst 1, 1) := zby_g zbyb_574 (i := 15) rfl rfl
noncomputable def zbyl_575 : List (Nat × zbyE) := [(54, zbyo_167 4), (57, zbyo_3), (58, zbyo_182 123), (61, zbyo_29), (62, zbyo_28), (63, zbyo_159 7), (66, zbyo_4), (67, zbyo_167 4), (70, zbyo_3), (71, zbyo_172)]
theorem zbyb_575 : zbys zbyl_575 (cX12_dry.data.toList.drop 54) 54 = true := by decide +kernel
theorem dX12_dry_54 : decode cX12_dry 54 = .ok (.goto 4, 3) := zby_g zbyb_575 (i := 0) rfl rfl
theorem dX12_dry_57 : decode cX12_dry 57 = .ok (.iconst 0, 1) := zby_g zbyb_575 (i := 1) rfl rfl
theorem dX12_dry_58 : decode cX12_dry 58 = .ok (.invokevirtual 123, 3) := zby_g zbyb_575 (i := 2) rfl rfl
theorem dX12_dry_61 : decode cX12_dry 61 = .ok (.iload_n 3, 1) := zby_g zbyb_575 (i := 3) rfl rfl
theorem dX12_dry_62 : decode cX12_dry 62 = .ok (.iload_n 2, 1) := zby_g zbyb_575 (i := 4) rfl rfl
theorem dX12_dry_63 : decode cX12_dry 63 = .ok (.if_icmp .eq 7, 3) := zby_g zbyb_575 (i := 5) rfl rfl
theorem dX12_dry_66 : decode cX12_dry 66 = .ok (.iconst 1, 1) := zby_g zbyb_575 (i := 6) rfl rfl
theorem dX12_dry_67 : decode cX12_dry 67 = .ok (.goto 4, 3) := zby_g zbyb_575 (i := 7) rfl rfl
theorem dX12_dry_70 : decode cX12_dry 70 = .ok (.iconst 0, 1) := zby_g zbyb_575 (i := 8) rfl rfl
theorem dX12_dry_71 : decode cX12_dry 71 = .ok (.ireturn, 1) := zby_g zbyb_575 (i := 9) rfl rfl
noncomputable def zbyl_576 : List (Nat × zbyE) := [(0, zbyo_42), (1, zbyo_27), (2, zbyo_4), (3, zbyo_16 60), (5, zbyo_184 42), (8, zbyo_154 7), (11, zbyo_4), (12, zbyo_167 4), (15, zbyo_3), (16, zbyo_181 39), (19, zbyo_42), (20, zbyo_180 39), (23, zbyo_158 5), (26, zbyo_3), (27, zbyo_172), (28, zbyo_42)]
theorem zbyb_576 : zbys zbyl_576 (cX12_days.data.toList.drop 0) 0 = true := by decide +kernel
theorem dX12_days_0 : decode cX12_days 0 = .ok (.aload_n 0, 1) := zby_g zbyb_576 (i := 0) rfl rfl
theorem dX12_days_1 : decode cX12_days 1 = .ok (.iload_n 1, 1) := zby_g zbyb_576 (i := 1) rfl rfl
theorem dX12_days_2 : decode cX12_days 2 = .ok (.iconst 1, 1) := zby_g zbyb_576 (i := 2) rfl rfl
theorem dX12_days_3 : decode cX12_days 3 = .ok (.bipush 60, 2) := zby_g zbyb_576 (i := 3) rfl rfl
theorem dX12_days_5 : decode cX12_days 5 = .ok (.invokestatic 42, 3) := zby_g zbyb_576 (i := 4) rfl rfl
theorem dX12_days_8 : decode cX12_days 8 = .ok (.ifCond .ne 7, 3) := zby_g zbyb_576 (i := 5) rfl rfl
theorem dX12_days_11 : decode cX12_days 11 = .ok (.iconst 1, 1) := zby_g zbyb_576 (i := 6) rfl rfl
theorem dX12_days_12 : decode cX12_days 12 = .ok (.goto 4, 3) := zby_g zbyb_576 (i := 7) rfl rfl
theorem dX12_days_15 : decode cX12_days 15 = .ok (.iconst 0, 1) := zby_g zbyb_576 (i := 8) rfl rfl
theorem dX12_days_16 : decode cX12_days 16 = .ok (.putfield 39, 3) := zby_g zbyb_576 (i := 9) rfl rfl
theorem dX12_days_19 : decode cX12_days 19 = .ok (.aload_n 0, 1) := zby_g zbyb_576 (i := 10) rfl rfl
theorem dX12_days_20 : decode cX12_days 20 = .ok (.getfield 39, 3) := zby_g zbyb_576 (i := 11) rfl rfl
theorem dX12_days_23 : decode cX12_days 23 = .ok (.ifCond .le 5, 3) := zby_g zbyb_576 (i := 12) rfl rfl
theorem dX12_days_26 : decode cX12_days 26 = .ok (.iconst 0, 1) := zby_g zbyb_576 (i := 13) rfl rfl
theorem dX12_days_27 : decode cX12_days 27 = .ok (.ireturn, 1) := zby_g zbyb_576 (i := 14) rfl rfl
theorem dX12_days_28 : decode cX12_days 28 = .ok (.aload_n 0, 1) := zby_g zbyb_576 (i := 15) rfl rfl
noncomputable def zbyl_577 : List (Nat × zbyE) := [(29, zbyo_182 289), (32, zbyo_42), (33, zbyo_27), (34, zbyo_4), (35, zbyo_182 292), (38, zbyo_172)]
theorem zbyb_577 : zbys zbyl_577 (cX12_days.data.toList.drop 29) 29 = true := by decide +kernel
theorem dX12_days_29 : decode cX12_days 29 = .ok (.invokevirtual 289, 3) := zby_g zbyb_577 (i := 0) rfl rfl
theorem dX12_days_32 : decode cX12_days 32 = .ok (.aload_n 0, 1) := zby_g zbyb_577 (i := 1) rfl rfl
theorem dX12_days_33 : decode cX12_days 33 = .ok (.iload_n 1, 1) := zby_g zbyb_577 (i := 2) rfl rfl
theorem dX12_days_34 : decode cX12_days 34 = .ok (.iconst 1, 1) := zby_g zbyb_577 (i := 3) rfl rfl
theorem dX12_days_35 : decode cX12_days 35 = .ok (.invokevirtual 292, 3) := zby_g zbyb_577 (i := 4) rfl rfl
theorem dX12_days_38 : decode cX12_days 38 = .ok (.ireturn, 1) := zby_g zbyb_577 (i := 5) rfl rfl
noncomputable def zbyl_578 : List (Nat × zbyE) := [(0, zbyo_42), (1, zbyo_42), (2, zbyo_27), (3, zbyo_182 280), (6, zbyo_154 7), (9, zbyo_4), (10, zbyo_167 18), (13, zbyo_28), (14, zbyo_3), (15, zbyo_16 100), (17, zbyo_184 42), (20, zbyo_154 7), (23, zbyo_5), (24, zbyo_167 4), (27, zbyo_3), (28, zbyo_181 39)]
theorem zbyb_578 : zbys zbyl_578 (cX12_ahead.data.toList.drop 0) 0 = true := by decide +kernel
theorem dX12_ahead_0 : decode cX12_ahead 0 = .ok (.aload_n 0, 1) := zby_g zbyb_578 (i := 0) rfl rfl
theorem dX12_ahead_1 : decode cX12_ahead 1 = .ok (.aload_n 0, 1) := zby_g zbyb_578 (i := 1) rfl rfl
theorem dX12_ahead_2 : decode cX12_ahead 2 = .ok (.iload_n 1, 1) := zby_g zbyb_578 (i := 2) rfl rfl
theorem dX12_ahead_3 : decode cX12_ahead 3 = .ok (.invokevirtual 280, 3) := zby_g zbyb_578 (i := 3) rfl rfl
theorem dX12_ahead_6 : decode cX12_ahead 6 = .ok (.ifCond .ne 7, 3) := zby_g zbyb_578 (i := 4) rfl rfl
theorem dX12_ahead_9 : decode cX12_ahead 9 = .ok (.iconst 1, 1) := zby_g zbyb_578 (i := 5) rfl rfl
theorem dX12_ahead_10 : decode cX12_ahead 10 = .ok (.goto 18, 3) := zby_g zbyb_578 (i := 6) rfl rfl
theorem dX12_ahead_13 : decode cX12_ahead 13 = .ok (.iload_n 2, 1) := zby_g zbyb_578 (i := 7) rfl rfl
theorem dX12_ahead_14 : decode cX12_ahead 14 = .ok (.iconst 0, 1) := zby_g zbyb_578 (i := 8) rfl rfl
theorem dX12_ahead_15 : decode cX12_ahead 15 = .ok (.bipush 100, 2) := zby_g zbyb_578 (i := 9) rfl rfl
theorem dX12_ahead_17 : decode cX12_ahead 17 = .ok (.invokestatic 42, 3) := zby_g zbyb_578 (i := 10) rfl rfl
theorem dX12_ahead_20 : decode cX12_ahead 20 = .ok (.ifCond .ne 7, 3) := zby_g zbyb_578 (i := 11) rfl rfl
theorem dX12_ahead_23 : decode cX12_ahead 23 = .ok (.iconst 2, 1) := zby_g zbyb_578 (i := 12) rfl rfl
theorem dX12_ahead_24 : decode cX12_ahead 24 = .ok (.goto 4, 3) := zby_g zbyb_578 (i := 13) rfl rfl
theorem dX12_ahead_27 : decode cX12_ahead 27 = .ok (.iconst 0, 1) := zby_g zbyb_578 (i := 14) rfl rfl
theorem dX12_ahead_28 : decode cX12_ahead 28 = .ok (.putfield 39, 3) := zby_g zbyb_578 (i := 15) rfl rfl
noncomputable def zbyl_579 : List (Nat × zbyE) := [(31, zbyo_42), (32, zbyo_180 39), (35, zbyo_158 5), (38, zbyo_3), (39, zbyo_172), (40, zbyo_42), (41, zbyo_182 174), (44, zbyo_42), (45, zbyo_28), (46, zbyo_3), (47, zbyo_182 292), (50, zbyo_62), (51, zbyo_42), (52, zbyo_27), (53, zbyo_3), (54, zbyo_182 46)]
theorem zbyb_579 : zbys zbyl_579 (cX12_ahead.data.toList.drop 31) 31 = true := by decide +kernel
theorem dX12_ahead_31 : decode cX12_ahead 31 = .ok (.aload_n 0, 1) := zby_g zbyb_579 (i := 0) rfl rfl
theorem dX12_ahead_32 : decode cX12_ahead 32 = .ok (.getfield 39, 3) := zby_g zbyb_579 (i := 1) rfl rfl
theorem dX12_ahead_35 : decode cX12_ahead 35 = .ok (.ifCond .le 5, 3) := zby_g zbyb_579 (i := 2) rfl rfl
theorem dX12_ahead_38 : decode cX12_ahead 38 = .ok (.iconst 0, 1) := zby_g zbyb_579 (i := 3) rfl rfl
theorem dX12_ahead_39 : decode cX12_ahead 39 = .ok (.ireturn, 1) := zby_g zbyb_579 (i := 4) rfl rfl
theorem dX12_ahead_40 : decode cX12_ahead 40 = .ok (.aload_n 0, 1) := zby_g zbyb_579 (i := 5) rfl rfl
theorem dX12_ahead_41 : decode cX12_ahead 41 = .ok (.invokevirtual 174, 3) := zby_g zbyb_579 (i := 6) rfl rfl
theorem dX12_ahead_44 : decode cX12_ahead 44 = .ok (.aload_n 0, 1) := zby_g zbyb_579 (i := 7) rfl rfl
theorem dX12_ahead_45 : decode cX12_ahead 45 = .ok (.iload_n 2, 1) := zby_g zbyb_579 (i := 8) rfl rfl
theorem dX12_ahead_46 : decode cX12_ahead 46 = .ok (.iconst 0, 1) := zby_g zbyb_579 (i := 9) rfl rfl
theorem dX12_ahead_47 : decode cX12_ahead 47 = .ok (.invokevirtual 292, 3) := zby_g zbyb_579 (i := 10) rfl rfl
theorem dX12_ahead_50 : decode cX12_ahead 50 = .ok (.istore_n 3, 1) := zby_g zbyb_579 (i := 11) rfl rfl
theorem dX12_ahead_51 : decode cX12_ahead 51 = .ok (.aload_n 0, 1) := zby_g zbyb_579 (i := 12) rfl rfl
theorem dX12_ahead_52 : decode cX12_ahead 52 = .ok (.iload_n 1, 1) := zby_g zbyb_579 (i := 13) rfl rfl
theorem dX12_ahead_53 : decode cX12_ahead 53 = .ok (.iconst 0, 1) := zby_g zbyb_579 (i := 14) rfl rfl
theorem dX12_ahead_54 : decode cX12_ahead 54 = .ok (.invokevirtual 46, 3) := zby_g zbyb_579 (i := 15) rfl rfl
noncomputable def zbyl_580 : List (Nat × zbyE) := [(57, zbyo_54 4), (59, zbyo_42), (60, zbyo_182 184), (63, zbyo_21 4), (65, zbyo_172)]
theorem zbyb_580 : zbys zbyl_580 (cX12_ahead.data.toList.drop 57) 57 = true := by decide +kernel
theorem dX12_ahead_57 : decode cX12_ahead 57 = .ok (.istore 4, 2) := zby_g zbyb_580 (i := 0) rfl rfl
theorem dX12_ahead_59 : decode cX12_ahead 59 = .ok (.aload_n 0, 1) := zby_g zbyb_580 (i := 1) rfl rfl
theorem dX12_ahead_60 : decode cX12_ahead 60 = .ok (.invokevirtual 184, 3) := zby_g zbyb_580 (i := 2) rfl rfl
theorem dX12_ahead_63 : decode cX12_ahead 63 = .ok (.iload 4, 2) := zby_g zbyb_580 (i := 3) rfl rfl
theorem dX12_ahead_65 : decode cX12_ahead 65 = .ok (.ireturn, 1) := zby_g zbyb_580 (i := 4) rfl rfl
noncomputable def zbyl_581 : List (Nat × zbyE) := [(0, zbyo_42), (1, zbyo_182 174), (4, zbyo_3), (5, zbyo_54 4), (7, zbyo_21 4), (9, zbyo_42), (10, zbyo_180 7), (13, zbyo_6), (14, zbyo_46), (15, zbyo_162 25), (18, zbyo_28), (19, zbyo_21 4), (21, zbyo_184 296), (24, zbyo_153 10), (27, zbyo_42), (28, zbyo_21 4)]
theorem zbyb_581 : zbys zbyl_581 (cX12_believedBy.data.toList.drop 0) 0 = true := by decide +kernel
theorem dX12_believedBy_0 : decode cX12_believedBy 0 = .ok (.aload_n 0, 1) := zby_g zbyb_581 (i := 0) rfl rfl
theorem dX12_believedBy_1 : decode cX12_believedBy 1 = .ok (.invokevirtual 174, 3) := zby_g zbyb_581 (i := 1) rfl rfl
theorem dX12_believedBy_4 : decode cX12_believedBy 4 = .ok (.iconst 0, 1) := zby_g zbyb_581 (i := 2) rfl rfl
theorem dX12_believedBy_5 : decode cX12_believedBy 5 = .ok (.istore 4, 2) := zby_g zbyb_581 (i := 3) rfl rfl
theorem dX12_believedBy_7 : decode cX12_believedBy 7 = .ok (.iload 4, 2) := zby_g zbyb_581 (i := 4) rfl rfl
theorem dX12_believedBy_9 : decode cX12_believedBy 9 = .ok (.aload_n 0, 1) := zby_g zbyb_581 (i := 5) rfl rfl
theorem dX12_believedBy_10 : decode cX12_believedBy 10 = .ok (.getfield 7, 3) := zby_g zbyb_581 (i := 6) rfl rfl
theorem dX12_believedBy_13 : decode cX12_believedBy 13 = .ok (.iconst 3, 1) := zby_g zbyb_581 (i := 7) rfl rfl
theorem dX12_believedBy_14 : decode cX12_believedBy 14 = .ok (.iaload, 1) := zby_g zbyb_581 (i := 8) rfl rfl
theorem dX12_believedBy_15 : decode cX12_believedBy 15 = .ok (.if_icmp .ge 25, 3) := zby_g zbyb_581 (i := 9) rfl rfl
theorem dX12_believedBy_18 : decode cX12_believedBy 18 = .ok (.iload_n 2, 1) := zby_g zbyb_581 (i := 10) rfl rfl
theorem dX12_believedBy_19 : decode cX12_believedBy 19 = .ok (.iload 4, 2) := zby_g zbyb_581 (i := 11) rfl rfl
theorem dX12_believedBy_21 : decode cX12_believedBy 21 = .ok (.invokestatic 296, 3) := zby_g zbyb_581 (i := 12) rfl rfl
theorem dX12_believedBy_24 : decode cX12_believedBy 24 = .ok (.ifCond .eq 10, 3) := zby_g zbyb_581 (i := 13) rfl rfl
theorem dX12_believedBy_27 : decode cX12_believedBy 27 = .ok (.aload_n 0, 1) := zby_g zbyb_581 (i := 14) rfl rfl
theorem dX12_believedBy_28 : decode cX12_believedBy 28 = .ok (.iload 4, 2) := zby_g zbyb_581 (i := 15) rfl rfl
noncomputable def zbyl_582 : List (Nat × zbyE) := [(30, zbyo_29), (31, zbyo_182 261), (34, zbyo_132 4 1), (37, zbyo_167 (-30)), (40, zbyo_42), (41, zbyo_27), (42, zbyo_3), (43, zbyo_182 292), (46, zbyo_54 4), (48, zbyo_42), (49, zbyo_182 62), (52, zbyo_54 5), (54, zbyo_42), (55, zbyo_182 184), (58, zbyo_21 5), (60, zbyo_172)]
theorem zbyb_582 : zbys zbyl_582 (cX12_believedBy.data.toList.drop 30) 30 = true := by decide +kernel
theorem dX12_believedBy_30 : decode cX12_believedBy 30 = .ok (.iload_n 3, 1) := zby_g zbyb_582 (i := 0) rfl rfl
theorem dX12_believedBy_31 : decode cX12_believedBy 31 = .ok (.invokevirtual 261, 3) := zby_g zbyb_582 (i := 1) rfl rfl
theorem dX12_believedBy_34 : decode cX12_believedBy 34 = .ok (.iinc 4 1, 3) := zby_g zbyb_582 (i := 2) rfl rfl
theorem dX12_believedBy_37 : decode cX12_believedBy 37 = .ok (.goto (-30), 3) := zby_g zbyb_582 (i := 3) rfl rfl
theorem dX12_believedBy_40 : decode cX12_believedBy 40 = .ok (.aload_n 0, 1) := zby_g zbyb_582 (i := 4) rfl rfl
theorem dX12_believedBy_41 : decode cX12_believedBy 41 = .ok (.iload_n 1, 1) := zby_g zbyb_582 (i := 5) rfl rfl
theorem dX12_believedBy_42 : decode cX12_believedBy 42 = .ok (.iconst 0, 1) := zby_g zbyb_582 (i := 6) rfl rfl
theorem dX12_believedBy_43 : decode cX12_believedBy 43 = .ok (.invokevirtual 292, 3) := zby_g zbyb_582 (i := 7) rfl rfl
theorem dX12_believedBy_46 : decode cX12_believedBy 46 = .ok (.istore 4, 2) := zby_g zbyb_582 (i := 8) rfl rfl
theorem dX12_believedBy_48 : decode cX12_believedBy 48 = .ok (.aload_n 0, 1) := zby_g zbyb_582 (i := 9) rfl rfl
theorem dX12_believedBy_49 : decode cX12_believedBy 49 = .ok (.invokevirtual 62, 3) := zby_g zbyb_582 (i := 10) rfl rfl
theorem dX12_believedBy_52 : decode cX12_believedBy 52 = .ok (.istore 5, 2) := zby_g zbyb_582 (i := 11) rfl rfl
theorem dX12_believedBy_54 : decode cX12_believedBy 54 = .ok (.aload_n 0, 1) := zby_g zbyb_582 (i := 12) rfl rfl
theorem dX12_believedBy_55 : decode cX12_believedBy 55 = .ok (.invokevirtual 184, 3) := zby_g zbyb_582 (i := 13) rfl rfl
theorem dX12_believedBy_58 : decode cX12_believedBy 58 = .ok (.iload 5, 2) := zby_g zbyb_582 (i := 14) rfl rfl
theorem dX12_believedBy_60 : decode cX12_believedBy 60 = .ok (.ireturn, 1) := zby_g zbyb_582 (i := 15) rfl rfl
noncomputable def zbyl_583 : List (Nat × zbyE) := [(0, zbyo_42), (1, zbyo_27), (2, zbyo_3), (3, zbyo_16 100), (5, zbyo_184 42), (8, zbyo_154 7), (11, zbyo_4), (12, zbyo_167 4), (15, zbyo_3), (16, zbyo_181 39), (19, zbyo_42), (20, zbyo_180 39), (23, zbyo_158 5), (26, zbyo_3), (27, zbyo_172), (28, zbyo_42)]
theorem zbyb_583 : zbys zbyl_583 (cX12_then.data.toList.drop 0) 0 = true := by decide +kernel
theorem dX12_then_0 : decode cX12_then 0 = .ok (.aload_n 0, 1) := zby_g zbyb_583 (i := 0) rfl rfl
theorem dX12_then_1 : decode cX12_then 1 = .ok (.iload_n 1, 1) := zby_g zbyb_583 (i := 1) rfl rfl
theorem dX12_then_2 : decode cX12_then 2 = .ok (.iconst 0, 1) := zby_g zbyb_583 (i := 2) rfl rfl
theorem dX12_then_3 : decode cX12_then 3 = .ok (.bipush 100, 2) := zby_g zbyb_583 (i := 3) rfl rfl
theorem dX12_then_5 : decode cX12_then 5 = .ok (.invokestatic 42, 3) := zby_g zbyb_583 (i := 4) rfl rfl
theorem dX12_then_8 : decode cX12_then 8 = .ok (.ifCond .ne 7, 3) := zby_g zbyb_583 (i := 5) rfl rfl
theorem dX12_then_11 : decode cX12_then 11 = .ok (.iconst 1, 1) := zby_g zbyb_583 (i := 6) rfl rfl
theorem dX12_then_12 : decode cX12_then 12 = .ok (.goto 4, 3) := zby_g zbyb_583 (i := 7) rfl rfl
theorem dX12_then_15 : decode cX12_then 15 = .ok (.iconst 0, 1) := zby_g zbyb_583 (i := 8) rfl rfl
theorem dX12_then_16 : decode cX12_then 16 = .ok (.putfield 39, 3) := zby_g zbyb_583 (i := 9) rfl rfl
theorem dX12_then_19 : decode cX12_then 19 = .ok (.aload_n 0, 1) := zby_g zbyb_583 (i := 10) rfl rfl
theorem dX12_then_20 : decode cX12_then 20 = .ok (.getfield 39, 3) := zby_g zbyb_583 (i := 11) rfl rfl
theorem dX12_then_23 : decode cX12_then 23 = .ok (.ifCond .le 5, 3) := zby_g zbyb_583 (i := 12) rfl rfl
theorem dX12_then_26 : decode cX12_then 26 = .ok (.iconst 0, 1) := zby_g zbyb_583 (i := 13) rfl rfl
theorem dX12_then_27 : decode cX12_then 27 = .ok (.ireturn, 1) := zby_g zbyb_583 (i := 14) rfl rfl
theorem dX12_then_28 : decode cX12_then 28 = .ok (.aload_n 0, 1) := zby_g zbyb_583 (i := 15) rfl rfl
noncomputable def zbyl_584 : List (Nat × zbyE) := [(29, zbyo_182 174), (32, zbyo_42), (33, zbyo_27), (34, zbyo_3), (35, zbyo_182 292), (38, zbyo_62), (39, zbyo_28), (40, zbyo_153 12), (43, zbyo_42), (44, zbyo_180 7), (47, zbyo_8), (48, zbyo_46), (49, zbyo_167 7), (52, zbyo_42), (53, zbyo_182 62), (56, zbyo_54 4)]
theorem zbyb_584 : zbys zbyl_584 (cX12_then.data.toList.drop 29) 29 = true := by decide +kernel
theorem dX12_then_29 : decode cX12_then 29 = .ok (.invokevirtual 174, 3) := zby_g zbyb_584 (i := 0) rfl rfl
theorem dX12_then_32 : decode cX12_then 32 = .ok (.aload_n 0, 1) := zby_g zbyb_584 (i := 1) rfl rfl
theorem dX12_then_33 : decode cX12_then 33 = .ok (.iload_n 1, 1) := zby_g zbyb_584 (i := 2) rfl rfl
theorem dX12_then_34 : decode cX12_then 34 = .ok (.iconst 0, 1) := zby_g zbyb_584 (i := 3) rfl rfl
theorem dX12_then_35 : decode cX12_then 35 = .ok (.invokevirtual 292, 3) := zby_g zbyb_584 (i := 4) rfl rfl
theorem dX12_then_38 : decode cX12_then 38 = .ok (.istore_n 3, 1) := zby_g zbyb_584 (i := 5) rfl rfl
theorem dX12_then_39 : decode cX12_then 39 = .ok (.iload_n 2, 1) := zby_g zbyb_584 (i := 6) rfl rfl
theorem dX12_then_40 : decode cX12_then 40 = .ok (.ifCond .eq 12, 3) := zby_g zbyb_584 (i := 7) rfl rfl
theorem dX12_then_43 : decode cX12_then 43 = .ok (.aload_n 0, 1) := zby_g zbyb_584 (i := 8) rfl rfl
theorem dX12_then_44 : decode cX12_then 44 = .ok (.getfield 7, 3) := zby_g zbyb_584 (i := 9) rfl rfl
theorem dX12_then_47 : decode cX12_then 47 = .ok (.iconst 5, 1) := zby_g zbyb_584 (i := 10) rfl rfl
theorem dX12_then_48 : decode cX12_then 48 = .ok (.iaload, 1) := zby_g zbyb_584 (i := 11) rfl rfl
theorem dX12_then_49 : decode cX12_then 49 = .ok (.goto 7, 3) := zby_g zbyb_584 (i := 12) rfl rfl
theorem dX12_then_52 : decode cX12_then 52 = .ok (.aload_n 0, 1) := zby_g zbyb_584 (i := 13) rfl rfl
theorem dX12_then_53 : decode cX12_then 53 = .ok (.invokevirtual 62, 3) := zby_g zbyb_584 (i := 14) rfl rfl
theorem dX12_then_56 : decode cX12_then 56 = .ok (.istore 4, 2) := zby_g zbyb_584 (i := 15) rfl rfl
noncomputable def zbyl_585 : List (Nat × zbyE) := [(58, zbyo_42), (59, zbyo_182 184), (62, zbyo_21 4), (64, zbyo_172)]
theorem zbyb_585 : zbys zbyl_585 (cX12_then.data.toList.drop 58) 58 = true := by decide +kernel
theorem dX12_then_58 : decode cX12_then 58 = .ok (.aload_n 0, 1) := zby_g zbyb_585 (i := 0) rfl rfl
theorem dX12_then_59 : decode cX12_then 59 = .ok (.invokevirtual 184, 3) := zby_g zbyb_585 (i := 1) rfl rfl
theorem dX12_then_62 : decode cX12_then 62 = .ok (.iload 4, 2) := zby_g zbyb_585 (i := 2) rfl rfl
theorem dX12_then_64 : decode cX12_then 64 = .ok (.ireturn, 1) := zby_g zbyb_585 (i := 3) rfl rfl
noncomputable def zbyl_586 : List (Nat × zbyE) := [(0, zbyo_42), (1, zbyo_42), (2, zbyo_27), (3, zbyo_182 280), (6, zbyo_154 7), (9, zbyo_4), (10, zbyo_167 18), (13, zbyo_28), (14, zbyo_3), (15, zbyo_16 30), (17, zbyo_184 42), (20, zbyo_154 7), (23, zbyo_5), (24, zbyo_167 4), (27, zbyo_3), (28, zbyo_181 39)]
theorem zbyb_586 : zbys zbyl_586 (cX12_sways.data.toList.drop 0) 0 = true := by decide +kernel
theorem dX12_sways_0 : decode cX12_sways 0 = .ok (.aload_n 0, 1) := zby_g zbyb_586 (i := 0) rfl rfl
theorem dX12_sways_1 : decode cX12_sways 1 = .ok (.aload_n 0, 1) := zby_g zbyb_586 (i := 1) rfl rfl
theorem dX12_sways_2 : decode cX12_sways 2 = .ok (.iload_n 1, 1) := zby_g zbyb_586 (i := 2) rfl rfl
theorem dX12_sways_3 : decode cX12_sways 3 = .ok (.invokevirtual 280, 3) := zby_g zbyb_586 (i := 3) rfl rfl
theorem dX12_sways_6 : decode cX12_sways 6 = .ok (.ifCond .ne 7, 3) := zby_g zbyb_586 (i := 4) rfl rfl
theorem dX12_sways_9 : decode cX12_sways 9 = .ok (.iconst 1, 1) := zby_g zbyb_586 (i := 5) rfl rfl
theorem dX12_sways_10 : decode cX12_sways 10 = .ok (.goto 18, 3) := zby_g zbyb_586 (i := 6) rfl rfl
theorem dX12_sways_13 : decode cX12_sways 13 = .ok (.iload_n 2, 1) := zby_g zbyb_586 (i := 7) rfl rfl
theorem dX12_sways_14 : decode cX12_sways 14 = .ok (.iconst 0, 1) := zby_g zbyb_586 (i := 8) rfl rfl
theorem dX12_sways_15 : decode cX12_sways 15 = .ok (.bipush 30, 2) := zby_g zbyb_586 (i := 9) rfl rfl
theorem dX12_sways_17 : decode cX12_sways 17 = .ok (.invokestatic 42, 3) := zby_g zbyb_586 (i := 10) rfl rfl
theorem dX12_sways_20 : decode cX12_sways 20 = .ok (.ifCond .ne 7, 3) := zby_g zbyb_586 (i := 11) rfl rfl
theorem dX12_sways_23 : decode cX12_sways 23 = .ok (.iconst 2, 1) := zby_g zbyb_586 (i := 12) rfl rfl
theorem dX12_sways_24 : decode cX12_sways 24 = .ok (.goto 4, 3) := zby_g zbyb_586 (i := 13) rfl rfl
theorem dX12_sways_27 : decode cX12_sways 27 = .ok (.iconst 0, 1) := zby_g zbyb_586 (i := 14) rfl rfl
theorem dX12_sways_28 : decode cX12_sways 28 = .ok (.putfield 39, 3) := zby_g zbyb_586 (i := 15) rfl rfl
noncomputable def zbyl_587 : List (Nat × zbyE) := [(31, zbyo_42), (32, zbyo_180 39), (35, zbyo_158 7), (38, zbyo_3), (39, zbyo_167 21), (42, zbyo_42), (43, zbyo_28), (44, zbyo_4), (45, zbyo_27), (46, zbyo_120), (47, zbyo_16 10), (49, zbyo_182 300), (52, zbyo_42), (53, zbyo_28), (54, zbyo_3), (55, zbyo_3)]
theorem zbyb_587 : zbys zbyl_587 (cX12_sways.data.toList.drop 31) 31 = true := by decide +kernel
theorem dX12_sways_31 : decode cX12_sways 31 = .ok (.aload_n 0, 1) := zby_g zbyb_587 (i := 0) rfl rfl
theorem dX12_sways_32 : decode cX12_sways 32 = .ok (.getfield 39, 3) := zby_g zbyb_587 (i := 1) rfl rfl
theorem dX12_sways_35 : decode cX12_sways 35 = .ok (.ifCond .le 7, 3) := zby_g zbyb_587 (i := 2) rfl rfl
theorem dX12_sways_38 : decode cX12_sways 38 = .ok (.iconst 0, 1) := zby_g zbyb_587 (i := 3) rfl rfl
theorem dX12_sways_39 : decode cX12_sways 39 = .ok (.goto 21, 3) := zby_g zbyb_587 (i := 4) rfl rfl
theorem dX12_sways_42 : decode cX12_sways 42 = .ok (.aload_n 0, 1) := zby_g zbyb_587 (i := 5) rfl rfl
theorem dX12_sways_43 : decode cX12_sways 43 = .ok (.iload_n 2, 1) := zby_g zbyb_587 (i := 6) rfl rfl
theorem dX12_sways_44 : decode cX12_sways 44 = .ok (.iconst 1, 1) := zby_g zbyb_587 (i := 7) rfl rfl
theorem dX12_sways_45 : decode cX12_sways 45 = .ok (.iload_n 1, 1) := zby_g zbyb_587 (i := 8) rfl rfl
theorem dX12_sways_46 : decode cX12_sways 46 = .ok (.ishl, 1) := zby_g zbyb_587 (i := 9) rfl rfl
theorem dX12_sways_47 : decode cX12_sways 47 = .ok (.bipush 10, 2) := zby_g zbyb_587 (i := 10) rfl rfl
theorem dX12_sways_49 : decode cX12_sways 49 = .ok (.invokevirtual 300, 3) := zby_g zbyb_587 (i := 11) rfl rfl
theorem dX12_sways_52 : decode cX12_sways 52 = .ok (.aload_n 0, 1) := zby_g zbyb_587 (i := 12) rfl rfl
theorem dX12_sways_53 : decode cX12_sways 53 = .ok (.iload_n 2, 1) := zby_g zbyb_587 (i := 13) rfl rfl
theorem dX12_sways_54 : decode cX12_sways 54 = .ok (.iconst 0, 1) := zby_g zbyb_587 (i := 14) rfl rfl
theorem dX12_sways_55 : decode cX12_sways 55 = .ok (.iconst 0, 1) := zby_g zbyb_587 (i := 15) rfl rfl
noncomputable def zbyl_588 : List (Nat × zbyE) := [(56, zbyo_182 300), (59, zbyo_100), (60, zbyo_172)]
theorem zbyb_588 : zbys zbyl_588 (cX12_sways.data.toList.drop 56) 56 = true := by decide +kernel
theorem dX12_sways_56 : decode cX12_sways 56 = .ok (.invokevirtual 300, 3) := zby_g zbyb_588 (i := 0) rfl rfl
theorem dX12_sways_59 : decode cX12_sways 59 = .ok (.isub, 1) := zby_g zbyb_588 (i := 1) rfl rfl
theorem dX12_sways_60 : decode cX12_sways 60 = .ok (.ireturn, 1) := zby_g zbyb_588 (i := 2) rfl rfl
noncomputable def zbyl_589 : List (Nat × zbyE) := [(0, zbyo_42), (1, zbyo_27), (2, zbyo_3), (3, zbyo_16 30), (5, zbyo_184 42), (8, zbyo_154 7), (11, zbyo_4), (12, zbyo_167 4), (15, zbyo_3), (16, zbyo_181 39), (19, zbyo_42), (20, zbyo_180 39), (23, zbyo_158 5), (26, zbyo_3), (27, zbyo_172), (28, zbyo_2)]
theorem zbyb_589 : zbys zbyl_589 (cX12_guru.data.toList.drop 0) 0 = true := by decide +kernel
theorem dX12_guru_0 : decode cX12_guru 0 = .ok (.aload_n 0, 1) := zby_g zbyb_589 (i := 0) rfl rfl
theorem dX12_guru_1 : decode cX12_guru 1 = .ok (.iload_n 1, 1) := zby_g zbyb_589 (i := 1) rfl rfl
theorem dX12_guru_2 : decode cX12_guru 2 = .ok (.iconst 0, 1) := zby_g zbyb_589 (i := 2) rfl rfl
theorem dX12_guru_3 : decode cX12_guru 3 = .ok (.bipush 30, 2) := zby_g zbyb_589 (i := 3) rfl rfl
theorem dX12_guru_5 : decode cX12_guru 5 = .ok (.invokestatic 42, 3) := zby_g zbyb_589 (i := 4) rfl rfl
theorem dX12_guru_8 : decode cX12_guru 8 = .ok (.ifCond .ne 7, 3) := zby_g zbyb_589 (i := 5) rfl rfl
theorem dX12_guru_11 : decode cX12_guru 11 = .ok (.iconst 1, 1) := zby_g zbyb_589 (i := 6) rfl rfl
theorem dX12_guru_12 : decode cX12_guru 12 = .ok (.goto 4, 3) := zby_g zbyb_589 (i := 7) rfl rfl
theorem dX12_guru_15 : decode cX12_guru 15 = .ok (.iconst 0, 1) := zby_g zbyb_589 (i := 8) rfl rfl
theorem dX12_guru_16 : decode cX12_guru 16 = .ok (.putfield 39, 3) := zby_g zbyb_589 (i := 9) rfl rfl
theorem dX12_guru_19 : decode cX12_guru 19 = .ok (.aload_n 0, 1) := zby_g zbyb_589 (i := 10) rfl rfl
theorem dX12_guru_20 : decode cX12_guru 20 = .ok (.getfield 39, 3) := zby_g zbyb_589 (i := 11) rfl rfl
theorem dX12_guru_23 : decode cX12_guru 23 = .ok (.ifCond .le 5, 3) := zby_g zbyb_589 (i := 12) rfl rfl
theorem dX12_guru_26 : decode cX12_guru 26 = .ok (.iconst 0, 1) := zby_g zbyb_589 (i := 13) rfl rfl
theorem dX12_guru_27 : decode cX12_guru 27 = .ok (.ireturn, 1) := zby_g zbyb_589 (i := 14) rfl rfl
theorem dX12_guru_28 : decode cX12_guru 28 = .ok (.iconst (-1), 1) := zby_g zbyb_589 (i := 15) rfl rfl
noncomputable def zbyl_590 : List (Nat × zbyE) := [(29, zbyo_61), (30, zbyo_3), (31, zbyo_62), (32, zbyo_3), (33, zbyo_54 4), (35, zbyo_21 4), (37, zbyo_42), (38, zbyo_180 7), (41, zbyo_6), (42, zbyo_46), (43, zbyo_162 64), (46, zbyo_42), (47, zbyo_21 4), (49, zbyo_182 50), (52, zbyo_153 17), (55, zbyo_42)]
theorem zbyb_590 : zbys zbyl_590 (cX12_guru.data.toList.drop 29) 29 = true := by decide +kernel
theorem dX12_guru_29 : decode cX12_guru 29 = .ok (.istore_n 2, 1) := zby_g zbyb_590 (i := 0) rfl rfl
theorem dX12_guru_30 : decode cX12_guru 30 = .ok (.iconst 0, 1) := zby_g zbyb_590 (i := 1) rfl rfl
theorem dX12_guru_31 : decode cX12_guru 31 = .ok (.istore_n 3, 1) := zby_g zbyb_590 (i := 2) rfl rfl
theorem dX12_guru_32 : decode cX12_guru 32 = .ok (.iconst 0, 1) := zby_g zbyb_590 (i := 3) rfl rfl
theorem dX12_guru_33 : decode cX12_guru 33 = .ok (.istore 4, 2) := zby_g zbyb_590 (i := 4) rfl rfl
theorem dX12_guru_35 : decode cX12_guru 35 = .ok (.iload 4, 2) := zby_g zbyb_590 (i := 5) rfl rfl
theorem dX12_guru_37 : decode cX12_guru 37 = .ok (.aload_n 0, 1) := zby_g zbyb_590 (i := 6) rfl rfl
theorem dX12_guru_38 : decode cX12_guru 38 = .ok (.getfield 7, 3) := zby_g zbyb_590 (i := 7) rfl rfl
theorem dX12_guru_41 : decode cX12_guru 41 = .ok (.iconst 3, 1) := zby_g zbyb_590 (i := 8) rfl rfl
theorem dX12_guru_42 : decode cX12_guru 42 = .ok (.iaload, 1) := zby_g zbyb_590 (i := 9) rfl rfl
theorem dX12_guru_43 : decode cX12_guru 43 = .ok (.if_icmp .ge 64, 3) := zby_g zbyb_590 (i := 10) rfl rfl
theorem dX12_guru_46 : decode cX12_guru 46 = .ok (.aload_n 0, 1) := zby_g zbyb_590 (i := 11) rfl rfl
theorem dX12_guru_47 : decode cX12_guru 47 = .ok (.iload 4, 2) := zby_g zbyb_590 (i := 12) rfl rfl
theorem dX12_guru_49 : decode cX12_guru 49 = .ok (.invokevirtual 50, 3) := zby_g zbyb_590 (i := 13) rfl rfl
theorem dX12_guru_52 : decode cX12_guru 52 = .ok (.ifCond .eq 17, 3) := zby_g zbyb_590 (i := 14) rfl rfl
theorem dX12_guru_55 : decode cX12_guru 55 = .ok (.aload_n 0, 1) := zby_g zbyb_590 (i := 15) rfl rfl
noncomputable def zbyl_591 : List (Nat × zbyE) := [(56, zbyo_27), (57, zbyo_4), (58, zbyo_21 4), (60, zbyo_120), (61, zbyo_16 10), (63, zbyo_182 300), (66, zbyo_167 4), (69, zbyo_3), (70, zbyo_54 5), (72, zbyo_42), (73, zbyo_21 4), (75, zbyo_182 50), (78, zbyo_153 23), (81, zbyo_28), (82, zbyo_2), (83, zbyo_159 12)]
theorem zbyb_591 : zbys zbyl_591 (cX12_guru.data.toList.drop 56) 56 = true := by decide +kernel
theorem dX12_guru_56 : decode cX12_guru 56 = .ok (.iload_n 1, 1) := zby_g zbyb_591 (i := 0) rfl rfl
theorem dX12_guru_57 : decode cX12_guru 57 = .ok (.iconst 1, 1) := zby_g zbyb_591 (i := 1) rfl rfl
theorem dX12_guru_58 : decode cX12_guru 58 = .ok (.iload 4, 2) := zby_g zbyb_591 (i := 2) rfl rfl
theorem dX12_guru_60 : decode cX12_guru 60 = .ok (.ishl, 1) := zby_g zbyb_591 (i := 3) rfl rfl
theorem dX12_guru_61 : decode cX12_guru 61 = .ok (.bipush 10, 2) := zby_g zbyb_591 (i := 4) rfl rfl
theorem dX12_guru_63 : decode cX12_guru 63 = .ok (.invokevirtual 300, 3) := zby_g zbyb_591 (i := 5) rfl rfl
theorem dX12_guru_66 : decode cX12_guru 66 = .ok (.goto 4, 3) := zby_g zbyb_591 (i := 6) rfl rfl
theorem dX12_guru_69 : decode cX12_guru 69 = .ok (.iconst 0, 1) := zby_g zbyb_591 (i := 7) rfl rfl
theorem dX12_guru_70 : decode cX12_guru 70 = .ok (.istore 5, 2) := zby_g zbyb_591 (i := 8) rfl rfl
theorem dX12_guru_72 : decode cX12_guru 72 = .ok (.aload_n 0, 1) := zby_g zbyb_591 (i := 9) rfl rfl
theorem dX12_guru_73 : decode cX12_guru 73 = .ok (.iload 4, 2) := zby_g zbyb_591 (i := 10) rfl rfl
theorem dX12_guru_75 : decode cX12_guru 75 = .ok (.invokevirtual 50, 3) := zby_g zbyb_591 (i := 11) rfl rfl
theorem dX12_guru_78 : decode cX12_guru 78 = .ok (.ifCond .eq 23, 3) := zby_g zbyb_591 (i := 12) rfl rfl
theorem dX12_guru_81 : decode cX12_guru 81 = .ok (.iload_n 2, 1) := zby_g zbyb_591 (i := 13) rfl rfl
theorem dX12_guru_82 : decode cX12_guru 82 = .ok (.iconst (-1), 1) := zby_g zbyb_591 (i := 14) rfl rfl
theorem dX12_guru_83 : decode cX12_guru 83 = .ok (.if_icmp .eq 12, 3) := zby_g zbyb_591 (i := 15) rfl rfl
noncomputable def zbyl_592 : List (Nat × zbyE) := [(86, zbyo_21 5), (88, zbyo_29), (89, zbyo_163 6), (92, zbyo_167 9), (95, zbyo_21 5), (97, zbyo_62), (98, zbyo_21 4), (100, zbyo_61), (101, zbyo_132 4 1), (104, zbyo_167 (-69)), (107, zbyo_28), (108, zbyo_172)]
theorem zbyb_592 : zbys zbyl_592 (cX12_guru.data.toList.drop 86) 86 = true := by decide +kernel
theorem dX12_guru_86 : decode cX12_guru 86 = .ok (.iload 5, 2) := zby_g zbyb_592 (i := 0) rfl rfl
theorem dX12_guru_88 : decode cX12_guru 88 = .ok (.iload_n 3, 1) := zby_g zbyb_592 (i := 1) rfl rfl
theorem dX12_guru_89 : decode cX12_guru 89 = .ok (.if_icmp .gt 6, 3) := zby_g zbyb_592 (i := 2) rfl rfl
theorem dX12_guru_92 : decode cX12_guru 92 = .ok (.goto 9, 3) := zby_g zbyb_592 (i := 3) rfl rfl
theorem dX12_guru_95 : decode cX12_guru 95 = .ok (.iload 5, 2) := zby_g zbyb_592 (i := 4) rfl rfl
theorem dX12_guru_97 : decode cX12_guru 97 = .ok (.istore_n 3, 1) := zby_g zbyb_592 (i := 5) rfl rfl
theorem dX12_guru_98 : decode cX12_guru 98 = .ok (.iload 4, 2) := zby_g zbyb_592 (i := 6) rfl rfl
theorem dX12_guru_100 : decode cX12_guru 100 = .ok (.istore_n 2, 1) := zby_g zbyb_592 (i := 7) rfl rfl
theorem dX12_guru_101 : decode cX12_guru 101 = .ok (.iinc 4 1, 3) := zby_g zbyb_592 (i := 8) rfl rfl
theorem dX12_guru_104 : decode cX12_guru 104 = .ok (.goto (-69), 3) := zby_g zbyb_592 (i := 9) rfl rfl
theorem dX12_guru_107 : decode cX12_guru 107 = .ok (.iload_n 2, 1) := zby_g zbyb_592 (i := 10) rfl rfl
theorem dX12_guru_108 : decode cX12_guru 108 = .ok (.ireturn, 1) := zby_g zbyb_592 (i := 11) rfl rfl
noncomputable def zbyl_593 : List (Nat × zbyE) := [(0, zbyo_42), (1, zbyo_27), (2, zbyo_4), (3, zbyo_17 792), (6, zbyo_184 42), (9, zbyo_153 13), (12, zbyo_28), (13, zbyo_3), (14, zbyo_16 30), (16, zbyo_184 42), (19, zbyo_154 7), (22, zbyo_4), (23, zbyo_167 4), (26, zbyo_3), (27, zbyo_181 39), (30, zbyo_42)]
theorem zbyb_593 : zbys zbyl_593 (cX12_must.data.toList.drop 0) 0 = true := by decide +kernel
theorem dX12_must_0 : decode cX12_must 0 = .ok (.aload_n 0, 1) := zby_g zbyb_593 (i := 0) rfl rfl
theorem dX12_must_1 : decode cX12_must 1 = .ok (.iload_n 1, 1) := zby_g zbyb_593 (i := 1) rfl rfl
theorem dX12_must_2 : decode cX12_must 2 = .ok (.iconst 1, 1) := zby_g zbyb_593 (i := 2) rfl rfl
theorem dX12_must_3 : decode cX12_must 3 = .ok (.sipush 792, 3) := zby_g zbyb_593 (i := 3) rfl rfl
theorem dX12_must_6 : decode cX12_must 6 = .ok (.invokestatic 42, 3) := zby_g zbyb_593 (i := 4) rfl rfl
theorem dX12_must_9 : decode cX12_must 9 = .ok (.ifCond .eq 13, 3) := zby_g zbyb_593 (i := 5) rfl rfl
theorem dX12_must_12 : decode cX12_must 12 = .ok (.iload_n 2, 1) := zby_g zbyb_593 (i := 6) rfl rfl
theorem dX12_must_13 : decode cX12_must 13 = .ok (.iconst 0, 1) := zby_g zbyb_593 (i := 7) rfl rfl
theorem dX12_must_14 : decode cX12_must 14 = .ok (.bipush 30, 2) := zby_g zbyb_593 (i := 8) rfl rfl
theorem dX12_must_16 : decode cX12_must 16 = .ok (.invokestatic 42, 3) := zby_g zbyb_593 (i := 9) rfl rfl
theorem dX12_must_19 : decode cX12_must 19 = .ok (.ifCond .ne 7, 3) := zby_g zbyb_593 (i := 10) rfl rfl
theorem dX12_must_22 : decode cX12_must 22 = .ok (.iconst 1, 1) := zby_g zbyb_593 (i := 11) rfl rfl
theorem dX12_must_23 : decode cX12_must 23 = .ok (.goto 4, 3) := zby_g zbyb_593 (i := 12) rfl rfl
theorem dX12_must_26 : decode cX12_must 26 = .ok (.iconst 0, 1) := zby_g zbyb_593 (i := 13) rfl rfl
theorem dX12_must_27 : decode cX12_must 27 = .ok (.putfield 39, 3) := zby_g zbyb_593 (i := 14) rfl rfl
theorem dX12_must_30 : decode cX12_must 30 = .ok (.aload_n 0, 1) := zby_g zbyb_593 (i := 15) rfl rfl
noncomputable def zbyl_594 : List (Nat × zbyE) := [(31, zbyo_180 39), (34, zbyo_158 5), (37, zbyo_3), (38, zbyo_172), (39, zbyo_42), (40, zbyo_182 54), (43, zbyo_62), (44, zbyo_2), (45, zbyo_54 4), (47, zbyo_3), (48, zbyo_54 5), (50, zbyo_21 5), (52, zbyo_4), (53, zbyo_42), (54, zbyo_180 7), (57, zbyo_6)]
theorem zbyb_594 : zbys zbyl_594 (cX12_must.data.toList.drop 31) 31 = true := by decide +kernel
theorem dX12_must_31 : decode cX12_must 31 = .ok (.getfield 39, 3) := zby_g zbyb_594 (i := 0) rfl rfl
theorem dX12_must_34 : decode cX12_must 34 = .ok (.ifCond .le 5, 3) := zby_g zbyb_594 (i := 1) rfl rfl
theorem dX12_must_37 : decode cX12_must 37 = .ok (.iconst 0, 1) := zby_g zbyb_594 (i := 2) rfl rfl
theorem dX12_must_38 : decode cX12_must 38 = .ok (.ireturn, 1) := zby_g zbyb_594 (i := 3) rfl rfl
theorem dX12_must_39 : decode cX12_must 39 = .ok (.aload_n 0, 1) := zby_g zbyb_594 (i := 4) rfl rfl
theorem dX12_must_40 : decode cX12_must 40 = .ok (.invokevirtual 54, 3) := zby_g zbyb_594 (i := 5) rfl rfl
theorem dX12_must_43 : decode cX12_must 43 = .ok (.istore_n 3, 1) := zby_g zbyb_594 (i := 6) rfl rfl
theorem dX12_must_44 : decode cX12_must 44 = .ok (.iconst (-1), 1) := zby_g zbyb_594 (i := 7) rfl rfl
theorem dX12_must_45 : decode cX12_must 45 = .ok (.istore 4, 2) := zby_g zbyb_594 (i := 8) rfl rfl
theorem dX12_must_47 : decode cX12_must 47 = .ok (.iconst 0, 1) := zby_g zbyb_594 (i := 9) rfl rfl
theorem dX12_must_48 : decode cX12_must 48 = .ok (.istore 5, 2) := zby_g zbyb_594 (i := 10) rfl rfl
theorem dX12_must_50 : decode cX12_must 50 = .ok (.iload 5, 2) := zby_g zbyb_594 (i := 11) rfl rfl
theorem dX12_must_52 : decode cX12_must 52 = .ok (.iconst 1, 1) := zby_g zbyb_594 (i := 12) rfl rfl
theorem dX12_must_53 : decode cX12_must 53 = .ok (.aload_n 0, 1) := zby_g zbyb_594 (i := 13) rfl rfl
theorem dX12_must_54 : decode cX12_must 54 = .ok (.getfield 7, 3) := zby_g zbyb_594 (i := 14) rfl rfl
theorem dX12_must_57 : decode cX12_must 57 = .ok (.iconst 3, 1) := zby_g zbyb_594 (i := 15) rfl rfl
noncomputable def zbyl_595 : List (Nat × zbyE) := [(58, zbyo_46), (59, zbyo_120), (60, zbyo_162 54), (63, zbyo_21 5), (65, zbyo_29), (66, zbyo_2), (67, zbyo_130), (68, zbyo_126), (69, zbyo_154 39), (72, zbyo_21 4), (74, zbyo_2), (75, zbyo_159 16), (78, zbyo_21 5), (80, zbyo_184 58), (83, zbyo_21 4), (85, zbyo_184 58)]
theorem zbyb_595 : zbys zbyl_595 (cX12_must.data.toList.drop 58) 58 = true := by decide +kernel
theorem dX12_must_58 : decode cX12_must 58 = .ok (.iaload, 1) := zby_g zbyb_595 (i := 0) rfl rfl
theorem dX12_must_59 : decode cX12_must 59 = .ok (.ishl, 1) := zby_g zbyb_595 (i := 1) rfl rfl
theorem dX12_must_60 : decode cX12_must 60 = .ok (.if_icmp .ge 54, 3) := zby_g zbyb_595 (i := 2) rfl rfl
theorem dX12_must_63 : decode cX12_must 63 = .ok (.iload 5, 2) := zby_g zbyb_595 (i := 3) rfl rfl
theorem dX12_must_65 : decode cX12_must 65 = .ok (.iload_n 3, 1) := zby_g zbyb_595 (i := 4) rfl rfl
theorem dX12_must_66 : decode cX12_must 66 = .ok (.iconst (-1), 1) := zby_g zbyb_595 (i := 5) rfl rfl
theorem dX12_must_67 : decode cX12_must 67 = .ok (.ixor, 1) := zby_g zbyb_595 (i := 6) rfl rfl
theorem dX12_must_68 : decode cX12_must 68 = .ok (.iand, 1) := zby_g zbyb_595 (i := 7) rfl rfl
theorem dX12_must_69 : decode cX12_must 69 = .ok (.ifCond .ne 39, 3) := zby_g zbyb_595 (i := 8) rfl rfl
theorem dX12_must_72 : decode cX12_must 72 = .ok (.iload 4, 2) := zby_g zbyb_595 (i := 9) rfl rfl
theorem dX12_must_74 : decode cX12_must 74 = .ok (.iconst (-1), 1) := zby_g zbyb_595 (i := 10) rfl rfl
theorem dX12_must_75 : decode cX12_must 75 = .ok (.if_icmp .eq 16, 3) := zby_g zbyb_595 (i := 11) rfl rfl
theorem dX12_must_78 : decode cX12_must 78 = .ok (.iload 5, 2) := zby_g zbyb_595 (i := 12) rfl rfl
theorem dX12_must_80 : decode cX12_must 80 = .ok (.invokestatic 58, 3) := zby_g zbyb_595 (i := 13) rfl rfl
theorem dX12_must_83 : decode cX12_must 83 = .ok (.iload 4, 2) := zby_g zbyb_595 (i := 14) rfl rfl
theorem dX12_must_85 : decode cX12_must 85 = .ok (.invokestatic 58, 3) := zby_g zbyb_595 (i := 15) rfl rfl
noncomputable def zbyl_596 : List (Nat × zbyE) := [(88, zbyo_162 20), (91, zbyo_42), (92, zbyo_28), (93, zbyo_21 5), (95, zbyo_16 20), (97, zbyo_182 300), (100, zbyo_27), (101, zbyo_161 7), (104, zbyo_21 5), (106, zbyo_54 4), (108, zbyo_132 5 1), (111, zbyo_167 (-61)), (114, zbyo_21 4), (116, zbyo_172)]
theorem zbyb_596 : zbys zbyl_596 (cX12_must.data.toList.drop 88) 88 = true := by decide +kernel
theorem dX12_must_88 : decode cX12_must 88 = .ok (.if_icmp .ge 20, 3) := zby_g zbyb_596 (i := 0) rfl rfl
theorem dX12_must_91 : decode cX12_must 91 = .ok (.aload_n 0, 1) := zby_g zbyb_596 (i := 1) rfl rfl
theorem dX12_must_92 : decode cX12_must 92 = .ok (.iload_n 2, 1) := zby_g zbyb_596 (i := 2) rfl rfl
theorem dX12_must_93 : decode cX12_must 93 = .ok (.iload 5, 2) := zby_g zbyb_596 (i := 3) rfl rfl
theorem dX12_must_95 : decode cX12_must 95 = .ok (.bipush 20, 2) := zby_g zbyb_596 (i := 4) rfl rfl
theorem dX12_must_97 : decode cX12_must 97 = .ok (.invokevirtual 300, 3) := zby_g zbyb_596 (i := 5) rfl rfl
theorem dX12_must_100 : decode cX12_must 100 = .ok (.iload_n 1, 1) := zby_g zbyb_596 (i := 6) rfl rfl
theorem dX12_must_101 : decode cX12_must 101 = .ok (.if_icmp .lt 7, 3) := zby_g zbyb_596 (i := 7) rfl rfl
theorem dX12_must_104 : decode cX12_must 104 = .ok (.iload 5, 2) := zby_g zbyb_596 (i := 8) rfl rfl
theorem dX12_must_106 : decode cX12_must 106 = .ok (.istore 4, 2) := zby_g zbyb_596 (i := 9) rfl rfl
theorem dX12_must_108 : decode cX12_must 108 = .ok (.iinc 5 1, 3) := zby_g zbyb_596 (i := 10) rfl rfl
theorem dX12_must_111 : decode cX12_must 111 = .ok (.goto (-61), 3) := zby_g zbyb_596 (i := 11) rfl rfl
theorem dX12_must_114 : decode cX12_must 114 = .ok (.iload 4, 2) := zby_g zbyb_596 (i := 12) rfl rfl
theorem dX12_must_116 : decode cX12_must 116 = .ok (.ireturn, 1) := zby_g zbyb_596 (i := 13) rfl rfl
noncomputable def zbyl_597 : List (Nat × zbyE) := [(0, zbyo_42), (1, zbyo_27), (2, zbyo_4), (3, zbyo_17 792), (6, zbyo_184 42), (9, zbyo_154 7), (12, zbyo_4), (13, zbyo_167 4), (16, zbyo_3), (17, zbyo_181 39), (20, zbyo_42), (21, zbyo_180 39), (24, zbyo_158 5), (27, zbyo_3), (28, zbyo_172), (29, zbyo_42)]
theorem zbyb_597 : zbys zbyl_597 (cX12_reaches.data.toList.drop 0) 0 = true := by decide +kernel
theorem dX12_reaches_0 : decode cX12_reaches 0 = .ok (.aload_n 0, 1) := zby_g zbyb_597 (i := 0) rfl rfl
theorem dX12_reaches_1 : decode cX12_reaches 1 = .ok (.iload_n 1, 1) := zby_g zbyb_597 (i := 1) rfl rfl
theorem dX12_reaches_2 : decode cX12_reaches 2 = .ok (.iconst 1, 1) := zby_g zbyb_597 (i := 2) rfl rfl
theorem dX12_reaches_3 : decode cX12_reaches 3 = .ok (.sipush 792, 3) := zby_g zbyb_597 (i := 3) rfl rfl
theorem dX12_reaches_6 : decode cX12_reaches 6 = .ok (.invokestatic 42, 3) := zby_g zbyb_597 (i := 4) rfl rfl
theorem dX12_reaches_9 : decode cX12_reaches 9 = .ok (.ifCond .ne 7, 3) := zby_g zbyb_597 (i := 5) rfl rfl
theorem dX12_reaches_12 : decode cX12_reaches 12 = .ok (.iconst 1, 1) := zby_g zbyb_597 (i := 6) rfl rfl
theorem dX12_reaches_13 : decode cX12_reaches 13 = .ok (.goto 4, 3) := zby_g zbyb_597 (i := 7) rfl rfl
theorem dX12_reaches_16 : decode cX12_reaches 16 = .ok (.iconst 0, 1) := zby_g zbyb_597 (i := 8) rfl rfl
theorem dX12_reaches_17 : decode cX12_reaches 17 = .ok (.putfield 39, 3) := zby_g zbyb_597 (i := 9) rfl rfl
theorem dX12_reaches_20 : decode cX12_reaches 20 = .ok (.aload_n 0, 1) := zby_g zbyb_597 (i := 10) rfl rfl
theorem dX12_reaches_21 : decode cX12_reaches 21 = .ok (.getfield 39, 3) := zby_g zbyb_597 (i := 11) rfl rfl
theorem dX12_reaches_24 : decode cX12_reaches 24 = .ok (.ifCond .le 5, 3) := zby_g zbyb_597 (i := 12) rfl rfl
theorem dX12_reaches_27 : decode cX12_reaches 27 = .ok (.iconst 0, 1) := zby_g zbyb_597 (i := 13) rfl rfl
theorem dX12_reaches_28 : decode cX12_reaches 28 = .ok (.ireturn, 1) := zby_g zbyb_597 (i := 14) rfl rfl
theorem dX12_reaches_29 : decode cX12_reaches 29 = .ok (.aload_n 0, 1) := zby_g zbyb_597 (i := 15) rfl rfl
noncomputable def zbyl_598 : List (Nat × zbyE) := [(30, zbyo_182 174), (33, zbyo_2), (34, zbyo_61), (35, zbyo_3), (36, zbyo_62), (37, zbyo_29), (38, zbyo_16 100), (40, zbyo_163 32), (43, zbyo_28), (44, zbyo_2), (45, zbyo_160 27), (48, zbyo_42), (49, zbyo_182 62), (52, zbyo_27), (53, zbyo_161 5), (56, zbyo_29)]
theorem zbyb_598 : zbys zbyl_598 (cX12_reaches.data.toList.drop 30) 30 = true := by decide +kernel
theorem dX12_reaches_30 : decode cX12_reaches 30 = .ok (.invokevirtual 174, 3) := zby_g zbyb_598 (i := 0) rfl rfl
theorem dX12_reaches_33 : decode cX12_reaches 33 = .ok (.iconst (-1), 1) := zby_g zbyb_598 (i := 1) rfl rfl
theorem dX12_reaches_34 : decode cX12_reaches 34 = .ok (.istore_n 2, 1) := zby_g zbyb_598 (i := 2) rfl rfl
theorem dX12_reaches_35 : decode cX12_reaches 35 = .ok (.iconst 0, 1) := zby_g zbyb_598 (i := 3) rfl rfl
theorem dX12_reaches_36 : decode cX12_reaches 36 = .ok (.istore_n 3, 1) := zby_g zbyb_598 (i := 4) rfl rfl
theorem dX12_reaches_37 : decode cX12_reaches 37 = .ok (.iload_n 3, 1) := zby_g zbyb_598 (i := 5) rfl rfl
theorem dX12_reaches_38 : decode cX12_reaches 38 = .ok (.bipush 100, 2) := zby_g zbyb_598 (i := 6) rfl rfl
theorem dX12_reaches_40 : decode cX12_reaches 40 = .ok (.if_icmp .gt 32, 3) := zby_g zbyb_598 (i := 7) rfl rfl
theorem dX12_reaches_43 : decode cX12_reaches 43 = .ok (.iload_n 2, 1) := zby_g zbyb_598 (i := 8) rfl rfl
theorem dX12_reaches_44 : decode cX12_reaches 44 = .ok (.iconst (-1), 1) := zby_g zbyb_598 (i := 9) rfl rfl
theorem dX12_reaches_45 : decode cX12_reaches 45 = .ok (.if_icmp .ne 27, 3) := zby_g zbyb_598 (i := 10) rfl rfl
theorem dX12_reaches_48 : decode cX12_reaches 48 = .ok (.aload_n 0, 1) := zby_g zbyb_598 (i := 11) rfl rfl
theorem dX12_reaches_49 : decode cX12_reaches 49 = .ok (.invokevirtual 62, 3) := zby_g zbyb_598 (i := 12) rfl rfl
theorem dX12_reaches_52 : decode cX12_reaches 52 = .ok (.iload_n 1, 1) := zby_g zbyb_598 (i := 13) rfl rfl
theorem dX12_reaches_53 : decode cX12_reaches 53 = .ok (.if_icmp .lt 5, 3) := zby_g zbyb_598 (i := 14) rfl rfl
theorem dX12_reaches_56 : decode cX12_reaches 56 = .ok (.iload_n 3, 1) := zby_g zbyb_598 (i := 15) rfl rfl
noncomputable def zbyl_599 : List (Nat × zbyE) := [(57, zbyo_61), (58, zbyo_42), (59, zbyo_4), (60, zbyo_3), (61, zbyo_182 292), (64, zbyo_54 4), (66, zbyo_132 3 1), (69, zbyo_167 (-32)), (72, zbyo_42), (73, zbyo_182 184), (76, zbyo_28), (77, zbyo_172)]
theorem zbyb_599 : zbys zbyl_599 (cX12_reaches.data.toList.drop 57) 57 = true := by decide +kernel
theorem dX12_reaches_57 : decode cX12_reaches 57 = .ok (.istore_n 2, 1) := zby_g zbyb_599 (i := 0) rfl rfl
theorem dX12_reaches_58 : decode cX12_reaches 58 = .ok (.aload_n 0, 1) := zby_g zbyb_599 (i := 1) rfl rfl
theorem dX12_reaches_59 : decode cX12_reaches 59 = .ok (.iconst 1, 1) := zby_g zbyb_599 (i := 2) rfl rfl
theorem dX12_reaches_60 : decode cX12_reaches 60 = .ok (.iconst 0, 1) := zby_g zbyb_599 (i := 3) rfl rfl
theorem dX12_reaches_61 : decode cX12_reaches 61 = .ok (.invokevirtual 292, 3) := zby_g zbyb_599 (i := 4) rfl rfl
theorem dX12_reaches_64 : decode cX12_reaches 64 = .ok (.istore 4, 2) := zby_g zbyb_599 (i := 5) rfl rfl
theorem dX12_reaches_66 : decode cX12_reaches 66 = .ok (.iinc 3 1, 3) := zby_g zbyb_599 (i := 6) rfl rfl
theorem dX12_reaches_69 : decode cX12_reaches 69 = .ok (.goto (-32), 3) := zby_g zbyb_599 (i := 7) rfl rfl
theorem dX12_reaches_72 : decode cX12_reaches 72 = .ok (.aload_n 0, 1) := zby_g zbyb_599 (i := 8) rfl rfl
theorem dX12_reaches_73 : decode cX12_reaches 73 = .ok (.invokevirtual 184, 3) := zby_g zbyb_599 (i := 9) rfl rfl
theorem dX12_reaches_76 : decode cX12_reaches 76 = .ok (.iload_n 2, 1) := zby_g zbyb_599 (i := 10) rfl rfl
theorem dX12_reaches_77 : decode cX12_reaches 77 = .ok (.ireturn, 1) := zby_g zbyb_599 (i := 11) rfl rfl
noncomputable def zbyl_600 : List (Nat × zbyE) := [(0, zbyo_3), (1, zbyo_60), (2, zbyo_3), (3, zbyo_61), (4, zbyo_28), (5, zbyo_42), (6, zbyo_180 7), (9, zbyo_6), (10, zbyo_46), (11, zbyo_162 38), (14, zbyo_27), (15, zbyo_42), (16, zbyo_28), (17, zbyo_182 50), (20, zbyo_153 20), (23, zbyo_42)]
theorem zbyb_600 : zbys zbyl_600 (cX12_doubtsNow.data.toList.drop 0) 0 = true := by decide +kernel
theorem dX12_doubtsNow_0 : decode cX12_doubtsNow 0 = .ok (.iconst 0, 1) := zby_g zbyb_600 (i := 0) rfl rfl
theorem dX12_doubtsNow_1 : decode cX12_doubtsNow 1 = .ok (.istore_n 1, 1) := zby_g zbyb_600 (i := 1) rfl rfl
theorem dX12_doubtsNow_2 : decode cX12_doubtsNow 2 = .ok (.iconst 0, 1) := zby_g zbyb_600 (i := 2) rfl rfl
theorem dX12_doubtsNow_3 : decode cX12_doubtsNow 3 = .ok (.istore_n 2, 1) := zby_g zbyb_600 (i := 3) rfl rfl
theorem dX12_doubtsNow_4 : decode cX12_doubtsNow 4 = .ok (.iload_n 2, 1) := zby_g zbyb_600 (i := 4) rfl rfl
theorem dX12_doubtsNow_5 : decode cX12_doubtsNow 5 = .ok (.aload_n 0, 1) := zby_g zbyb_600 (i := 5) rfl rfl
theorem dX12_doubtsNow_6 : decode cX12_doubtsNow 6 = .ok (.getfield 7, 3) := zby_g zbyb_600 (i := 6) rfl rfl
theorem dX12_doubtsNow_9 : decode cX12_doubtsNow 9 = .ok (.iconst 3, 1) := zby_g zbyb_600 (i := 7) rfl rfl
theorem dX12_doubtsNow_10 : decode cX12_doubtsNow 10 = .ok (.iaload, 1) := zby_g zbyb_600 (i := 8) rfl rfl
theorem dX12_doubtsNow_11 : decode cX12_doubtsNow 11 = .ok (.if_icmp .ge 38, 3) := zby_g zbyb_600 (i := 9) rfl rfl
theorem dX12_doubtsNow_14 : decode cX12_doubtsNow 14 = .ok (.iload_n 1, 1) := zby_g zbyb_600 (i := 10) rfl rfl
theorem dX12_doubtsNow_15 : decode cX12_doubtsNow 15 = .ok (.aload_n 0, 1) := zby_g zbyb_600 (i := 11) rfl rfl
theorem dX12_doubtsNow_16 : decode cX12_doubtsNow 16 = .ok (.iload_n 2, 1) := zby_g zbyb_600 (i := 12) rfl rfl
theorem dX12_doubtsNow_17 : decode cX12_doubtsNow 17 = .ok (.invokevirtual 50, 3) := zby_g zbyb_600 (i := 13) rfl rfl
theorem dX12_doubtsNow_20 : decode cX12_doubtsNow 20 = .ok (.ifCond .eq 20, 3) := zby_g zbyb_600 (i := 14) rfl rfl
theorem dX12_doubtsNow_23 : decode cX12_doubtsNow 23 = .ok (.aload_n 0, 1) := zby_g zbyb_600 (i := 15) rfl rfl
noncomputable def zbyl_601 : List (Nat × zbyE) := [(24, zbyo_28), (25, zbyo_3), (26, zbyo_182 46), (29, zbyo_16 33), (31, zbyo_162 9), (34, zbyo_4), (35, zbyo_28), (36, zbyo_120), (37, zbyo_167 4), (40, zbyo_3), (41, zbyo_128), (42, zbyo_60), (43, zbyo_132 2 1), (46, zbyo_167 (-42)), (49, zbyo_27), (50, zbyo_172)]
theorem zbyb_601 : zbys zbyl_601 (cX12_doubtsNow.data.toList.drop 24) 24 = true := by decide +kernel
theorem dX12_doubtsNow_24 : decode cX12_doubtsNow 24 = .ok (.iload_n 2, 1) := zby_g zbyb_601 (i := 0) rfl rfl
theorem dX12_doubtsNow_25 : decode cX12_doubtsNow 25 = .ok (.iconst 0, 1) := zby_g zbyb_601 (i := 1) rfl rfl
theorem dX12_doubtsNow_26 : decode cX12_doubtsNow 26 = .ok (.invokevirtual 46, 3) := zby_g zbyb_601 (i := 2) rfl rfl
theorem dX12_doubtsNow_29 : decode cX12_doubtsNow 29 = .ok (.bipush 33, 2) := zby_g zbyb_601 (i := 3) rfl rfl
theorem dX12_doubtsNow_31 : decode cX12_doubtsNow 31 = .ok (.if_icmp .ge 9, 3) := zby_g zbyb_601 (i := 4) rfl rfl
theorem dX12_doubtsNow_34 : decode cX12_doubtsNow 34 = .ok (.iconst 1, 1) := zby_g zbyb_601 (i := 5) rfl rfl
theorem dX12_doubtsNow_35 : decode cX12_doubtsNow 35 = .ok (.iload_n 2, 1) := zby_g zbyb_601 (i := 6) rfl rfl
theorem dX12_doubtsNow_36 : decode cX12_doubtsNow 36 = .ok (.ishl, 1) := zby_g zbyb_601 (i := 7) rfl rfl
theorem dX12_doubtsNow_37 : decode cX12_doubtsNow 37 = .ok (.goto 4, 3) := zby_g zbyb_601 (i := 8) rfl rfl
theorem dX12_doubtsNow_40 : decode cX12_doubtsNow 40 = .ok (.iconst 0, 1) := zby_g zbyb_601 (i := 9) rfl rfl
theorem dX12_doubtsNow_41 : decode cX12_doubtsNow 41 = .ok (.ior, 1) := zby_g zbyb_601 (i := 10) rfl rfl
theorem dX12_doubtsNow_42 : decode cX12_doubtsNow 42 = .ok (.istore_n 1, 1) := zby_g zbyb_601 (i := 11) rfl rfl
theorem dX12_doubtsNow_43 : decode cX12_doubtsNow 43 = .ok (.iinc 2 1, 3) := zby_g zbyb_601 (i := 12) rfl rfl
theorem dX12_doubtsNow_46 : decode cX12_doubtsNow 46 = .ok (.goto (-42), 3) := zby_g zbyb_601 (i := 13) rfl rfl
theorem dX12_doubtsNow_49 : decode cX12_doubtsNow 49 = .ok (.iload_n 1, 1) := zby_g zbyb_601 (i := 14) rfl rfl
theorem dX12_doubtsNow_50 : decode cX12_doubtsNow 50 = .ok (.ireturn, 1) := zby_g zbyb_601 (i := 15) rfl rfl
noncomputable def zbyl_602 : List (Nat × zbyE) := [(0, zbyo_42), (1, zbyo_3), (2, zbyo_181 39), (5, zbyo_42), (6, zbyo_182 304), (9, zbyo_172)]
theorem zbyb_602 : zbys zbyl_602 (cX12_doubts.data.toList.drop 0) 0 = true := by decide +kernel
theorem dX12_doubts_0 : decode cX12_doubts 0 = .ok (.aload_n 0, 1) := zby_g zbyb_602 (i := 0) rfl rfl
theorem dX12_doubts_1 : decode cX12_doubts 1 = .ok (.iconst 0, 1) := zby_g zbyb_602 (i := 1) rfl rfl
theorem dX12_doubts_2 : decode cX12_doubts 2 = .ok (.putfield 39, 3) := zby_g zbyb_602 (i := 2) rfl rfl
theorem dX12_doubts_5 : decode cX12_doubts 5 = .ok (.aload_n 0, 1) := zby_g zbyb_602 (i := 3) rfl rfl
theorem dX12_doubts_6 : decode cX12_doubts 6 = .ok (.invokevirtual 304, 3) := zby_g zbyb_602 (i := 4) rfl rfl
theorem dX12_doubts_9 : decode cX12_doubts 9 = .ok (.ireturn, 1) := zby_g zbyb_602 (i := 5) rfl rfl
noncomputable def zbyl_603 : List (Nat × zbyE) := [(0, zbyo_42), (1, zbyo_3), (2, zbyo_181 39), (5, zbyo_42), (6, zbyo_182 174), (9, zbyo_2), (10, zbyo_60), (11, zbyo_3), (12, zbyo_61), (13, zbyo_28), (14, zbyo_16 100), (16, zbyo_163 51), (19, zbyo_27), (20, zbyo_2), (21, zbyo_160 46), (24, zbyo_42)]
theorem zbyb_603 : zbys zbyl_603 (cX12_ruin.data.toList.drop 0) 0 = true := by decide +kernel
theorem dX12_ruin_0 : decode cX12_ruin 0 = .ok (.aload_n 0, 1) := zby_g zbyb_603 (i := 0) rfl rfl
theorem dX12_ruin_1 : decode cX12_ruin 1 = .ok (.iconst 0, 1) := zby_g zbyb_603 (i := 1) rfl rfl
theorem dX12_ruin_2 : decode cX12_ruin 2 = .ok (.putfield 39, 3) := zby_g zbyb_603 (i := 2) rfl rfl
theorem dX12_ruin_5 : decode cX12_ruin 5 = .ok (.aload_n 0, 1) := zby_g zbyb_603 (i := 3) rfl rfl
theorem dX12_ruin_6 : decode cX12_ruin 6 = .ok (.invokevirtual 174, 3) := zby_g zbyb_603 (i := 4) rfl rfl
theorem dX12_ruin_9 : decode cX12_ruin 9 = .ok (.iconst (-1), 1) := zby_g zbyb_603 (i := 5) rfl rfl
theorem dX12_ruin_10 : decode cX12_ruin 10 = .ok (.istore_n 1, 1) := zby_g zbyb_603 (i := 6) rfl rfl
theorem dX12_ruin_11 : decode cX12_ruin 11 = .ok (.iconst 0, 1) := zby_g zbyb_603 (i := 7) rfl rfl
theorem dX12_ruin_12 : decode cX12_ruin 12 = .ok (.istore_n 2, 1) := zby_g zbyb_603 (i := 8) rfl rfl
theorem dX12_ruin_13 : decode cX12_ruin 13 = .ok (.iload_n 2, 1) := zby_g zbyb_603 (i := 9) rfl rfl
theorem dX12_ruin_14 : decode cX12_ruin 14 = .ok (.bipush 100, 2) := zby_g zbyb_603 (i := 10) rfl rfl
theorem dX12_ruin_16 : decode cX12_ruin 16 = .ok (.if_icmp .gt 51, 3) := zby_g zbyb_603 (i := 11) rfl rfl
theorem dX12_ruin_19 : decode cX12_ruin 19 = .ok (.iload_n 1, 1) := zby_g zbyb_603 (i := 12) rfl rfl
theorem dX12_ruin_20 : decode cX12_ruin 20 = .ok (.iconst (-1), 1) := zby_g zbyb_603 (i := 13) rfl rfl
theorem dX12_ruin_21 : decode cX12_ruin 21 = .ok (.if_icmp .ne 46, 3) := zby_g zbyb_603 (i := 14) rfl rfl
theorem dX12_ruin_24 : decode cX12_ruin 24 = .ok (.aload_n 0, 1) := zby_g zbyb_603 (i := 15) rfl rfl
noncomputable def zbyl_604 : List (Nat × zbyE) := [(25, zbyo_182 54), (28, zbyo_153 26), (31, zbyo_6), (32, zbyo_42), (33, zbyo_182 304), (36, zbyo_184 58), (39, zbyo_104), (40, zbyo_5), (41, zbyo_42), (42, zbyo_182 54), (45, zbyo_184 58), (48, zbyo_104), (49, zbyo_161 5), (52, zbyo_28), (53, zbyo_60), (54, zbyo_42)]
theorem zbyb_604 : zbys zbyl_604 (cX12_ruin.data.toList.drop 25) 25 = true := by decide +kernel
theorem dX12_ruin_25 : decode cX12_ruin 25 = .ok (.invokevirtual 54, 3) := zby_g zbyb_604 (i := 0) rfl rfl
theorem dX12_ruin_28 : decode cX12_ruin 28 = .ok (.ifCond .eq 26, 3) := zby_g zbyb_604 (i := 1) rfl rfl
theorem dX12_ruin_31 : decode cX12_ruin 31 = .ok (.iconst 3, 1) := zby_g zbyb_604 (i := 2) rfl rfl
theorem dX12_ruin_32 : decode cX12_ruin 32 = .ok (.aload_n 0, 1) := zby_g zbyb_604 (i := 3) rfl rfl
theorem dX12_ruin_33 : decode cX12_ruin 33 = .ok (.invokevirtual 304, 3) := zby_g zbyb_604 (i := 4) rfl rfl
theorem dX12_ruin_36 : decode cX12_ruin 36 = .ok (.invokestatic 58, 3) := zby_g zbyb_604 (i := 5) rfl rfl
theorem dX12_ruin_39 : decode cX12_ruin 39 = .ok (.imul, 1) := zby_g zbyb_604 (i := 6) rfl rfl
theorem dX12_ruin_40 : decode cX12_ruin 40 = .ok (.iconst 2, 1) := zby_g zbyb_604 (i := 7) rfl rfl
theorem dX12_ruin_41 : decode cX12_ruin 41 = .ok (.aload_n 0, 1) := zby_g zbyb_604 (i := 8) rfl rfl
theorem dX12_ruin_42 : decode cX12_ruin 42 = .ok (.invokevirtual 54, 3) := zby_g zbyb_604 (i := 9) rfl rfl
theorem dX12_ruin_45 : decode cX12_ruin 45 = .ok (.invokestatic 58, 3) := zby_g zbyb_604 (i := 10) rfl rfl
theorem dX12_ruin_48 : decode cX12_ruin 48 = .ok (.imul, 1) := zby_g zbyb_604 (i := 11) rfl rfl
theorem dX12_ruin_49 : decode cX12_ruin 49 = .ok (.if_icmp .lt 5, 3) := zby_g zbyb_604 (i := 12) rfl rfl
theorem dX12_ruin_52 : decode cX12_ruin 52 = .ok (.iload_n 2, 1) := zby_g zbyb_604 (i := 13) rfl rfl
theorem dX12_ruin_53 : decode cX12_ruin 53 = .ok (.istore_n 1, 1) := zby_g zbyb_604 (i := 14) rfl rfl
theorem dX12_ruin_54 : decode cX12_ruin 54 = .ok (.aload_n 0, 1) := zby_g zbyb_604 (i := 15) rfl rfl
noncomputable def zbyl_605 : List (Nat × zbyE) := [(55, zbyo_4), (56, zbyo_3), (57, zbyo_182 292), (60, zbyo_62), (61, zbyo_132 2 1), (64, zbyo_167 (-51)), (67, zbyo_42), (68, zbyo_182 184), (71, zbyo_27), (72, zbyo_172)]
theorem zbyb_605 : zbys zbyl_605 (cX12_ruin.data.toList.drop 55) 55 = true := by decide +kernel
theorem dX12_ruin_55 : decode cX12_ruin 55 = .ok (.iconst 1, 1) := zby_g zbyb_605 (i := 0) rfl rfl
theorem dX12_ruin_56 : decode cX12_ruin 56 = .ok (.iconst 0, 1) := zby_g zbyb_605 (i := 1) rfl rfl
theorem dX12_ruin_57 : decode cX12_ruin 57 = .ok (.invokevirtual 292, 3) := zby_g zbyb_605 (i := 2) rfl rfl
theorem dX12_ruin_60 : decode cX12_ruin 60 = .ok (.istore_n 3, 1) := zby_g zbyb_605 (i := 3) rfl rfl
theorem dX12_ruin_61 : decode cX12_ruin 61 = .ok (.iinc 2 1, 3) := zby_g zbyb_605 (i := 4) rfl rfl
theorem dX12_ruin_64 : decode cX12_ruin 64 = .ok (.goto (-51), 3) := zby_g zbyb_605 (i := 5) rfl rfl
theorem dX12_ruin_67 : decode cX12_ruin 67 = .ok (.aload_n 0, 1) := zby_g zbyb_605 (i := 6) rfl rfl
theorem dX12_ruin_68 : decode cX12_ruin 68 = .ok (.invokevirtual 184, 3) := zby_g zbyb_605 (i := 7) rfl rfl
theorem dX12_ruin_71 : decode cX12_ruin 71 = .ok (.iload_n 1, 1) := zby_g zbyb_605 (i := 8) rfl rfl
theorem dX12_ruin_72 : decode cX12_ruin 72 = .ok (.ireturn, 1) := zby_g zbyb_605 (i := 9) rfl rfl
noncomputable def zbyl_606 : List (Nat × zbyE) := [(0, zbyo_42), (1, zbyo_27), (2, zbyo_3), (3, zbyo_16 100), (5, zbyo_184 42), (8, zbyo_154 7), (11, zbyo_4), (12, zbyo_167 4), (15, zbyo_3), (16, zbyo_181 39), (19, zbyo_42), (20, zbyo_180 39), (23, zbyo_158 5), (26, zbyo_3), (27, zbyo_172), (28, zbyo_42)]
theorem zbyb_606 : zbys zbyl_606 (cX12_dearest.data.toList.drop 0) 0 = true := by decide +kernel
theorem dX12_dearest_0 : decode cX12_dearest 0 = .ok (.aload_n 0, 1) := zby_g zbyb_606 (i := 0) rfl rfl
theorem dX12_dearest_1 : decode cX12_dearest 1 = .ok (.iload_n 1, 1) := zby_g zbyb_606 (i := 1) rfl rfl
theorem dX12_dearest_2 : decode cX12_dearest 2 = .ok (.iconst 0, 1) := zby_g zbyb_606 (i := 2) rfl rfl
theorem dX12_dearest_3 : decode cX12_dearest 3 = .ok (.bipush 100, 2) := zby_g zbyb_606 (i := 3) rfl rfl
theorem dX12_dearest_5 : decode cX12_dearest 5 = .ok (.invokestatic 42, 3) := zby_g zbyb_606 (i := 4) rfl rfl
theorem dX12_dearest_8 : decode cX12_dearest 8 = .ok (.ifCond .ne 7, 3) := zby_g zbyb_606 (i := 5) rfl rfl
theorem dX12_dearest_11 : decode cX12_dearest 11 = .ok (.iconst 1, 1) := zby_g zbyb_606 (i := 6) rfl rfl
theorem dX12_dearest_12 : decode cX12_dearest 12 = .ok (.goto 4, 3) := zby_g zbyb_606 (i := 7) rfl rfl
theorem dX12_dearest_15 : decode cX12_dearest 15 = .ok (.iconst 0, 1) := zby_g zbyb_606 (i := 8) rfl rfl
theorem dX12_dearest_16 : decode cX12_dearest 16 = .ok (.putfield 39, 3) := zby_g zbyb_606 (i := 9) rfl rfl
theorem dX12_dearest_19 : decode cX12_dearest 19 = .ok (.aload_n 0, 1) := zby_g zbyb_606 (i := 10) rfl rfl
theorem dX12_dearest_20 : decode cX12_dearest 20 = .ok (.getfield 39, 3) := zby_g zbyb_606 (i := 11) rfl rfl
theorem dX12_dearest_23 : decode cX12_dearest 23 = .ok (.ifCond .le 5, 3) := zby_g zbyb_606 (i := 12) rfl rfl
theorem dX12_dearest_26 : decode cX12_dearest 26 = .ok (.iconst 0, 1) := zby_g zbyb_606 (i := 13) rfl rfl
theorem dX12_dearest_27 : decode cX12_dearest 27 = .ok (.ireturn, 1) := zby_g zbyb_606 (i := 14) rfl rfl
theorem dX12_dearest_28 : decode cX12_dearest 28 = .ok (.aload_n 0, 1) := zby_g zbyb_606 (i := 15) rfl rfl
noncomputable def zbyl_607 : List (Nat × zbyE) := [(29, zbyo_182 174), (32, zbyo_3), (33, zbyo_62), (34, zbyo_3), (35, zbyo_54 4), (37, zbyo_3), (38, zbyo_54 5), (40, zbyo_21 5), (42, zbyo_27), (43, zbyo_163 46), (46, zbyo_42), (47, zbyo_182 277), (50, zbyo_54 6), (52, zbyo_21 6), (54, zbyo_21 4), (56, zbyo_164 8)]
theorem zbyb_607 : zbys zbyl_607 (cX12_dearest.data.toList.drop 29) 29 = true := by decide +kernel
theorem dX12_dearest_29 : decode cX12_dearest 29 = .ok (.invokevirtual 174, 3) := zby_g zbyb_607 (i := 0) rfl rfl
theorem dX12_dearest_32 : decode cX12_dearest 32 = .ok (.iconst 0, 1) := zby_g zbyb_607 (i := 1) rfl rfl
theorem dX12_dearest_33 : decode cX12_dearest 33 = .ok (.istore_n 3, 1) := zby_g zbyb_607 (i := 2) rfl rfl
theorem dX12_dearest_34 : decode cX12_dearest 34 = .ok (.iconst 0, 1) := zby_g zbyb_607 (i := 3) rfl rfl
theorem dX12_dearest_35 : decode cX12_dearest 35 = .ok (.istore 4, 2) := zby_g zbyb_607 (i := 4) rfl rfl
theorem dX12_dearest_37 : decode cX12_dearest 37 = .ok (.iconst 0, 1) := zby_g zbyb_607 (i := 5) rfl rfl
theorem dX12_dearest_38 : decode cX12_dearest 38 = .ok (.istore 5, 2) := zby_g zbyb_607 (i := 6) rfl rfl
theorem dX12_dearest_40 : decode cX12_dearest 40 = .ok (.iload 5, 2) := zby_g zbyb_607 (i := 7) rfl rfl
theorem dX12_dearest_42 : decode cX12_dearest 42 = .ok (.iload_n 1, 1) := zby_g zbyb_607 (i := 8) rfl rfl
theorem dX12_dearest_43 : decode cX12_dearest 43 = .ok (.if_icmp .gt 46, 3) := zby_g zbyb_607 (i := 9) rfl rfl
theorem dX12_dearest_46 : decode cX12_dearest 46 = .ok (.aload_n 0, 1) := zby_g zbyb_607 (i := 10) rfl rfl
theorem dX12_dearest_47 : decode cX12_dearest 47 = .ok (.invokevirtual 277, 3) := zby_g zbyb_607 (i := 11) rfl rfl
theorem dX12_dearest_50 : decode cX12_dearest 50 = .ok (.istore 6, 2) := zby_g zbyb_607 (i := 12) rfl rfl
theorem dX12_dearest_52 : decode cX12_dearest 52 = .ok (.iload 6, 2) := zby_g zbyb_607 (i := 13) rfl rfl
theorem dX12_dearest_54 : decode cX12_dearest 54 = .ok (.iload 4, 2) := zby_g zbyb_607 (i := 14) rfl rfl
theorem dX12_dearest_56 : decode cX12_dearest 56 = .ok (.if_icmp .le 8, 3) := zby_g zbyb_607 (i := 15) rfl rfl
noncomputable def zbyl_608 : List (Nat × zbyE) := [(59, zbyo_21 5), (61, zbyo_167 4), (64, zbyo_29), (65, zbyo_62), (66, zbyo_21 4), (68, zbyo_21 6), (70, zbyo_184 251), (73, zbyo_54 4), (75, zbyo_42), (76, zbyo_4), (77, zbyo_3), (78, zbyo_182 292), (81, zbyo_54 7), (83, zbyo_132 5 1), (86, zbyo_167 (-46)), (89, zbyo_42)]
theorem zbyb_608 : zbys zbyl_608 (cX12_dearest.data.toList.drop 59) 59 = true := by decide +kernel
theorem dX12_dearest_59 : decode cX12_dearest 59 = .ok (.iload 5, 2) := zby_g zbyb_608 (i := 0) rfl rfl
theorem dX12_dearest_61 : decode cX12_dearest 61 = .ok (.goto 4, 3) := zby_g zbyb_608 (i := 1) rfl rfl
theorem dX12_dearest_64 : decode cX12_dearest 64 = .ok (.iload_n 3, 1) := zby_g zbyb_608 (i := 2) rfl rfl
theorem dX12_dearest_65 : decode cX12_dearest 65 = .ok (.istore_n 3, 1) := zby_g zbyb_608 (i := 3) rfl rfl
theorem dX12_dearest_66 : decode cX12_dearest 66 = .ok (.iload 4, 2) := zby_g zbyb_608 (i := 4) rfl rfl
theorem dX12_dearest_68 : decode cX12_dearest 68 = .ok (.iload 6, 2) := zby_g zbyb_608 (i := 5) rfl rfl
theorem dX12_dearest_70 : decode cX12_dearest 70 = .ok (.invokestatic 251, 3) := zby_g zbyb_608 (i := 6) rfl rfl
theorem dX12_dearest_73 : decode cX12_dearest 73 = .ok (.istore 4, 2) := zby_g zbyb_608 (i := 7) rfl rfl
theorem dX12_dearest_75 : decode cX12_dearest 75 = .ok (.aload_n 0, 1) := zby_g zbyb_608 (i := 8) rfl rfl
theorem dX12_dearest_76 : decode cX12_dearest 76 = .ok (.iconst 1, 1) := zby_g zbyb_608 (i := 9) rfl rfl
theorem dX12_dearest_77 : decode cX12_dearest 77 = .ok (.iconst 0, 1) := zby_g zbyb_608 (i := 10) rfl rfl
theorem dX12_dearest_78 : decode cX12_dearest 78 = .ok (.invokevirtual 292, 3) := zby_g zbyb_608 (i := 11) rfl rfl
theorem dX12_dearest_81 : decode cX12_dearest 81 = .ok (.istore 7, 2) := zby_g zbyb_608 (i := 12) rfl rfl
theorem dX12_dearest_83 : decode cX12_dearest 83 = .ok (.iinc 5 1, 3) := zby_g zbyb_608 (i := 13) rfl rfl
theorem dX12_dearest_86 : decode cX12_dearest 86 = .ok (.goto (-46), 3) := zby_g zbyb_608 (i := 14) rfl rfl
theorem dX12_dearest_89 : decode cX12_dearest 89 = .ok (.aload_n 0, 1) := zby_g zbyb_608 (i := 15) rfl rfl
noncomputable def zbyl_609 : List (Nat × zbyE) := [(90, zbyo_182 184), (93, zbyo_28), (94, zbyo_153 8), (97, zbyo_21 4), (99, zbyo_167 4), (102, zbyo_29), (103, zbyo_172)]
theorem zbyb_609 : zbys zbyl_609 (cX12_dearest.data.toList.drop 90) 90 = true := by decide +kernel
theorem dX12_dearest_90 : decode cX12_dearest 90 = .ok (.invokevirtual 184, 3) := zby_g zbyb_609 (i := 0) rfl rfl
theorem dX12_dearest_93 : decode cX12_dearest 93 = .ok (.iload_n 2, 1) := zby_g zbyb_609 (i := 1) rfl rfl
theorem dX12_dearest_94 : decode cX12_dearest 94 = .ok (.ifCond .eq 8, 3) := zby_g zbyb_609 (i := 2) rfl rfl
theorem dX12_dearest_97 : decode cX12_dearest 97 = .ok (.iload 4, 2) := zby_g zbyb_609 (i := 3) rfl rfl
theorem dX12_dearest_99 : decode cX12_dearest 99 = .ok (.goto 4, 3) := zby_g zbyb_609 (i := 4) rfl rfl
theorem dX12_dearest_102 : decode cX12_dearest 102 = .ok (.iload_n 3, 1) := zby_g zbyb_609 (i := 5) rfl rfl
theorem dX12_dearest_103 : decode cX12_dearest 103 = .ok (.ireturn, 1) := zby_g zbyb_609 (i := 6) rfl rfl
noncomputable def zbyl_610 : List (Nat × zbyE) := [(0, zbyo_42), (1, zbyo_27), (2, zbyo_3), (3, zbyo_16 100), (5, zbyo_184 42), (8, zbyo_154 7), (11, zbyo_4), (12, zbyo_167 4), (15, zbyo_3), (16, zbyo_181 39), (19, zbyo_42), (20, zbyo_180 39), (23, zbyo_158 5), (26, zbyo_3), (27, zbyo_172), (28, zbyo_42)]
theorem zbyb_610 : zbys zbyl_610 (cX12_falls.data.toList.drop 0) 0 = true := by decide +kernel
theorem dX12_falls_0 : decode cX12_falls 0 = .ok (.aload_n 0, 1) := zby_g zbyb_610 (i := 0) rfl rfl
theorem dX12_falls_1 : decode cX12_falls 1 = .ok (.iload_n 1, 1) := zby_g zbyb_610 (i := 1) rfl rfl
theorem dX12_falls_2 : decode cX12_falls 2 = .ok (.iconst 0, 1) := zby_g zbyb_610 (i := 2) rfl rfl
theorem dX12_falls_3 : decode cX12_falls 3 = .ok (.bipush 100, 2) := zby_g zbyb_610 (i := 3) rfl rfl
theorem dX12_falls_5 : decode cX12_falls 5 = .ok (.invokestatic 42, 3) := zby_g zbyb_610 (i := 4) rfl rfl
theorem dX12_falls_8 : decode cX12_falls 8 = .ok (.ifCond .ne 7, 3) := zby_g zbyb_610 (i := 5) rfl rfl
theorem dX12_falls_11 : decode cX12_falls 11 = .ok (.iconst 1, 1) := zby_g zbyb_610 (i := 6) rfl rfl
theorem dX12_falls_12 : decode cX12_falls 12 = .ok (.goto 4, 3) := zby_g zbyb_610 (i := 7) rfl rfl
theorem dX12_falls_15 : decode cX12_falls 15 = .ok (.iconst 0, 1) := zby_g zbyb_610 (i := 8) rfl rfl
theorem dX12_falls_16 : decode cX12_falls 16 = .ok (.putfield 39, 3) := zby_g zbyb_610 (i := 9) rfl rfl
theorem dX12_falls_19 : decode cX12_falls 19 = .ok (.aload_n 0, 1) := zby_g zbyb_610 (i := 10) rfl rfl
theorem dX12_falls_20 : decode cX12_falls 20 = .ok (.getfield 39, 3) := zby_g zbyb_610 (i := 11) rfl rfl
theorem dX12_falls_23 : decode cX12_falls 23 = .ok (.ifCond .le 5, 3) := zby_g zbyb_610 (i := 12) rfl rfl
theorem dX12_falls_26 : decode cX12_falls 26 = .ok (.iconst 0, 1) := zby_g zbyb_610 (i := 13) rfl rfl
theorem dX12_falls_27 : decode cX12_falls 27 = .ok (.ireturn, 1) := zby_g zbyb_610 (i := 14) rfl rfl
theorem dX12_falls_28 : decode cX12_falls 28 = .ok (.aload_n 0, 1) := zby_g zbyb_610 (i := 15) rfl rfl
noncomputable def zbyl_611 : List (Nat × zbyE) := [(29, zbyo_5), (30, zbyo_182 242), (33, zbyo_61), (34, zbyo_42), (35, zbyo_182 174), (38, zbyo_42), (39, zbyo_27), (40, zbyo_3), (41, zbyo_182 292), (44, zbyo_62), (45, zbyo_42), (46, zbyo_5), (47, zbyo_182 242), (50, zbyo_28), (51, zbyo_2), (52, zbyo_130)]
theorem zbyb_611 : zbys zbyl_611 (cX12_falls.data.toList.drop 29) 29 = true := by decide +kernel
theorem dX12_falls_29 : decode cX12_falls 29 = .ok (.iconst 2, 1) := zby_g zbyb_611 (i := 0) rfl rfl
theorem dX12_falls_30 : decode cX12_falls 30 = .ok (.invokevirtual 242, 3) := zby_g zbyb_611 (i := 1) rfl rfl
theorem dX12_falls_33 : decode cX12_falls 33 = .ok (.istore_n 2, 1) := zby_g zbyb_611 (i := 2) rfl rfl
theorem dX12_falls_34 : decode cX12_falls 34 = .ok (.aload_n 0, 1) := zby_g zbyb_611 (i := 3) rfl rfl
theorem dX12_falls_35 : decode cX12_falls 35 = .ok (.invokevirtual 174, 3) := zby_g zbyb_611 (i := 4) rfl rfl
theorem dX12_falls_38 : decode cX12_falls 38 = .ok (.aload_n 0, 1) := zby_g zbyb_611 (i := 5) rfl rfl
theorem dX12_falls_39 : decode cX12_falls 39 = .ok (.iload_n 1, 1) := zby_g zbyb_611 (i := 6) rfl rfl
theorem dX12_falls_40 : decode cX12_falls 40 = .ok (.iconst 0, 1) := zby_g zbyb_611 (i := 7) rfl rfl
theorem dX12_falls_41 : decode cX12_falls 41 = .ok (.invokevirtual 292, 3) := zby_g zbyb_611 (i := 8) rfl rfl
theorem dX12_falls_44 : decode cX12_falls 44 = .ok (.istore_n 3, 1) := zby_g zbyb_611 (i := 9) rfl rfl
theorem dX12_falls_45 : decode cX12_falls 45 = .ok (.aload_n 0, 1) := zby_g zbyb_611 (i := 10) rfl rfl
theorem dX12_falls_46 : decode cX12_falls 46 = .ok (.iconst 2, 1) := zby_g zbyb_611 (i := 11) rfl rfl
theorem dX12_falls_47 : decode cX12_falls 47 = .ok (.invokevirtual 242, 3) := zby_g zbyb_611 (i := 12) rfl rfl
theorem dX12_falls_50 : decode cX12_falls 50 = .ok (.iload_n 2, 1) := zby_g zbyb_611 (i := 13) rfl rfl
theorem dX12_falls_51 : decode cX12_falls 51 = .ok (.iconst (-1), 1) := zby_g zbyb_611 (i := 14) rfl rfl
theorem dX12_falls_52 : decode cX12_falls 52 = .ok (.ixor, 1) := zby_g zbyb_611 (i := 15) rfl rfl
noncomputable def zbyl_612 : List (Nat × zbyE) := [(53, zbyo_126), (54, zbyo_54 4), (56, zbyo_42), (57, zbyo_182 184), (60, zbyo_21 4), (62, zbyo_172)]
theorem zbyb_612 : zbys zbyl_612 (cX12_falls.data.toList.drop 53) 53 = true := by decide +kernel
theorem dX12_falls_53 : decode cX12_falls 53 = .ok (.iand, 1) := zby_g zbyb_612 (i := 0) rfl rfl
theorem dX12_falls_54 : decode cX12_falls 54 = .ok (.istore 4, 2) := zby_g zbyb_612 (i := 1) rfl rfl
theorem dX12_falls_56 : decode cX12_falls 56 = .ok (.aload_n 0, 1) := zby_g zbyb_612 (i := 2) rfl rfl
theorem dX12_falls_57 : decode cX12_falls 57 = .ok (.invokevirtual 184, 3) := zby_g zbyb_612 (i := 3) rfl rfl
theorem dX12_falls_60 : decode cX12_falls 60 = .ok (.iload 4, 2) := zby_g zbyb_612 (i := 4) rfl rfl
theorem dX12_falls_62 : decode cX12_falls 62 = .ok (.ireturn, 1) := zby_g zbyb_612 (i := 5) rfl rfl
noncomputable def zbyl_613 : List (Nat × zbyE) := [(0, zbyo_42), (1, zbyo_42), (2, zbyo_27), (3, zbyo_182 286), (6, zbyo_154 7), (9, zbyo_4), (10, zbyo_167 4), (13, zbyo_3), (14, zbyo_181 39), (17, zbyo_42), (18, zbyo_180 39), (21, zbyo_158 5), (24, zbyo_3), (25, zbyo_172), (26, zbyo_42), (27, zbyo_182 174)]
theorem zbyb_613 : zbys zbyl_613 (cX12_last.data.toList.drop 0) 0 = true := by decide +kernel
theorem dX12_last_0 : decode cX12_last 0 = .ok (.aload_n 0, 1) := zby_g zbyb_613 (i := 0) rfl rfl
theorem dX12_last_1 : decode cX12_last 1 = .ok (.aload_n 0, 1) := zby_g zbyb_613 (i := 1) rfl rfl
theorem dX12_last_2 : decode cX12_last 2 = .ok (.iload_n 1, 1) := zby_g zbyb_613 (i := 2) rfl rfl
theorem dX12_last_3 : decode cX12_last 3 = .ok (.invokevirtual 286, 3) := zby_g zbyb_613 (i := 3) rfl rfl
theorem dX12_last_6 : decode cX12_last 6 = .ok (.ifCond .ne 7, 3) := zby_g zbyb_613 (i := 4) rfl rfl
theorem dX12_last_9 : decode cX12_last 9 = .ok (.iconst 1, 1) := zby_g zbyb_613 (i := 5) rfl rfl
theorem dX12_last_10 : decode cX12_last 10 = .ok (.goto 4, 3) := zby_g zbyb_613 (i := 6) rfl rfl
theorem dX12_last_13 : decode cX12_last 13 = .ok (.iconst 0, 1) := zby_g zbyb_613 (i := 7) rfl rfl
theorem dX12_last_14 : decode cX12_last 14 = .ok (.putfield 39, 3) := zby_g zbyb_613 (i := 8) rfl rfl
theorem dX12_last_17 : decode cX12_last 17 = .ok (.aload_n 0, 1) := zby_g zbyb_613 (i := 9) rfl rfl
theorem dX12_last_18 : decode cX12_last 18 = .ok (.getfield 39, 3) := zby_g zbyb_613 (i := 10) rfl rfl
theorem dX12_last_21 : decode cX12_last 21 = .ok (.ifCond .le 5, 3) := zby_g zbyb_613 (i := 11) rfl rfl
theorem dX12_last_24 : decode cX12_last 24 = .ok (.iconst 0, 1) := zby_g zbyb_613 (i := 12) rfl rfl
theorem dX12_last_25 : decode cX12_last 25 = .ok (.ireturn, 1) := zby_g zbyb_613 (i := 13) rfl rfl
theorem dX12_last_26 : decode cX12_last 26 = .ok (.aload_n 0, 1) := zby_g zbyb_613 (i := 14) rfl rfl
theorem dX12_last_27 : decode cX12_last 27 = .ok (.invokevirtual 174, 3) := zby_g zbyb_613 (i := 15) rfl rfl
noncomputable def zbyl_614 : List (Nat × zbyE) := [(30, zbyo_2), (31, zbyo_61), (32, zbyo_3), (33, zbyo_62), (34, zbyo_29), (35, zbyo_16 100), (37, zbyo_163 34), (40, zbyo_28), (41, zbyo_2), (42, zbyo_160 29), (45, zbyo_42), (46, zbyo_27), (47, zbyo_6), (48, zbyo_182 68), (51, zbyo_5), (52, zbyo_160 5)]
theorem zbyb_614 : zbys zbyl_614 (cX12_last.data.toList.drop 30) 30 = true := by decide +kernel
theorem dX12_last_30 : decode cX12_last 30 = .ok (.iconst (-1), 1) := zby_g zbyb_614 (i := 0) rfl rfl
theorem dX12_last_31 : decode cX12_last 31 = .ok (.istore_n 2, 1) := zby_g zbyb_614 (i := 1) rfl rfl
theorem dX12_last_32 : decode cX12_last 32 = .ok (.iconst 0, 1) := zby_g zbyb_614 (i := 2) rfl rfl
theorem dX12_last_33 : decode cX12_last 33 = .ok (.istore_n 3, 1) := zby_g zbyb_614 (i := 3) rfl rfl
theorem dX12_last_34 : decode cX12_last 34 = .ok (.iload_n 3, 1) := zby_g zbyb_614 (i := 4) rfl rfl
theorem dX12_last_35 : decode cX12_last 35 = .ok (.bipush 100, 2) := zby_g zbyb_614 (i := 5) rfl rfl
theorem dX12_last_37 : decode cX12_last 37 = .ok (.if_icmp .gt 34, 3) := zby_g zbyb_614 (i := 6) rfl rfl
theorem dX12_last_40 : decode cX12_last 40 = .ok (.iload_n 2, 1) := zby_g zbyb_614 (i := 7) rfl rfl
theorem dX12_last_41 : decode cX12_last 41 = .ok (.iconst (-1), 1) := zby_g zbyb_614 (i := 8) rfl rfl
theorem dX12_last_42 : decode cX12_last 42 = .ok (.if_icmp .ne 29, 3) := zby_g zbyb_614 (i := 9) rfl rfl
theorem dX12_last_45 : decode cX12_last 45 = .ok (.aload_n 0, 1) := zby_g zbyb_614 (i := 10) rfl rfl
theorem dX12_last_46 : decode cX12_last 46 = .ok (.iload_n 1, 1) := zby_g zbyb_614 (i := 11) rfl rfl
theorem dX12_last_47 : decode cX12_last 47 = .ok (.iconst 3, 1) := zby_g zbyb_614 (i := 12) rfl rfl
theorem dX12_last_48 : decode cX12_last 48 = .ok (.invokevirtual 68, 3) := zby_g zbyb_614 (i := 13) rfl rfl
theorem dX12_last_51 : decode cX12_last 51 = .ok (.iconst 2, 1) := zby_g zbyb_614 (i := 14) rfl rfl
theorem dX12_last_52 : decode cX12_last 52 = .ok (.if_icmp .ne 5, 3) := zby_g zbyb_614 (i := 15) rfl rfl
noncomputable def zbyl_615 : List (Nat × zbyE) := [(55, zbyo_29), (56, zbyo_61), (57, zbyo_42), (58, zbyo_4), (59, zbyo_3), (60, zbyo_182 292), (63, zbyo_54 4), (65, zbyo_132 3 1), (68, zbyo_167 (-34)), (71, zbyo_42), (72, zbyo_182 184), (75, zbyo_28), (76, zbyo_172)]
theorem zbyb_615 : zbys zbyl_615 (cX12_last.data.toList.drop 55) 55 = true := by decide +kernel
theorem dX12_last_55 : decode cX12_last 55 = .ok (.iload_n 3, 1) := zby_g zbyb_615 (i := 0) rfl rfl
theorem dX12_last_56 : decode cX12_last 56 = .ok (.istore_n 2, 1) := zby_g zbyb_615 (i := 1) rfl rfl
theorem dX12_last_57 : decode cX12_last 57 = .ok (.aload_n 0, 1) := zby_g zbyb_615 (i := 2) rfl rfl
theorem dX12_last_58 : decode cX12_last 58 = .ok (.iconst 1, 1) := zby_g zbyb_615 (i := 3) rfl rfl
theorem dX12_last_59 : decode cX12_last 59 = .ok (.iconst 0, 1) := zby_g zbyb_615 (i := 4) rfl rfl
theorem dX12_last_60 : decode cX12_last 60 = .ok (.invokevirtual 292, 3) := zby_g zbyb_615 (i := 5) rfl rfl
theorem dX12_last_63 : decode cX12_last 63 = .ok (.istore 4, 2) := zby_g zbyb_615 (i := 6) rfl rfl
theorem dX12_last_65 : decode cX12_last 65 = .ok (.iinc 3 1, 3) := zby_g zbyb_615 (i := 7) rfl rfl
theorem dX12_last_68 : decode cX12_last 68 = .ok (.goto (-34), 3) := zby_g zbyb_615 (i := 8) rfl rfl
theorem dX12_last_71 : decode cX12_last 71 = .ok (.aload_n 0, 1) := zby_g zbyb_615 (i := 9) rfl rfl
theorem dX12_last_72 : decode cX12_last 72 = .ok (.invokevirtual 184, 3) := zby_g zbyb_615 (i := 10) rfl rfl
theorem dX12_last_75 : decode cX12_last 75 = .ok (.iload_n 2, 1) := zby_g zbyb_615 (i := 11) rfl rfl
theorem dX12_last_76 : decode cX12_last 76 = .ok (.ireturn, 1) := zby_g zbyb_615 (i := 12) rfl rfl
noncomputable def zbyl_616 : List (Nat × zbyE) := [(0, zbyo_3), (1, zbyo_62), (2, zbyo_3), (3, zbyo_54 4), (5, zbyo_21 4), (7, zbyo_42), (8, zbyo_180 7), (11, zbyo_7), (12, zbyo_46), (13, zbyo_162 32), (16, zbyo_29), (17, zbyo_27), (18, zbyo_21 4), (20, zbyo_184 296), (23, zbyo_153 13), (26, zbyo_42)]
theorem zbyb_616 : zbys zbyl_616 (cX12_sumOf.data.toList.drop 0) 0 = true := by decide +kernel
theorem dX12_sumOf_0 : decode cX12_sumOf 0 = .ok (.iconst 0, 1) := zby_g zbyb_616 (i := 0) rfl rfl
theorem dX12_sumOf_1 : decode cX12_sumOf 1 = .ok (.istore_n 3, 1) := zby_g zbyb_616 (i := 1) rfl rfl
theorem dX12_sumOf_2 : decode cX12_sumOf 2 = .ok (.iconst 0, 1) := zby_g zbyb_616 (i := 2) rfl rfl
theorem dX12_sumOf_3 : decode cX12_sumOf 3 = .ok (.istore 4, 2) := zby_g zbyb_616 (i := 3) rfl rfl
theorem dX12_sumOf_5 : decode cX12_sumOf 5 = .ok (.iload 4, 2) := zby_g zbyb_616 (i := 4) rfl rfl
theorem dX12_sumOf_7 : decode cX12_sumOf 7 = .ok (.aload_n 0, 1) := zby_g zbyb_616 (i := 5) rfl rfl
theorem dX12_sumOf_8 : decode cX12_sumOf 8 = .ok (.getfield 7, 3) := zby_g zbyb_616 (i := 6) rfl rfl
theorem dX12_sumOf_11 : decode cX12_sumOf 11 = .ok (.iconst 4, 1) := zby_g zbyb_616 (i := 7) rfl rfl
theorem dX12_sumOf_12 : decode cX12_sumOf 12 = .ok (.iaload, 1) := zby_g zbyb_616 (i := 8) rfl rfl
theorem dX12_sumOf_13 : decode cX12_sumOf 13 = .ok (.if_icmp .ge 32, 3) := zby_g zbyb_616 (i := 9) rfl rfl
theorem dX12_sumOf_16 : decode cX12_sumOf 16 = .ok (.iload_n 3, 1) := zby_g zbyb_616 (i := 10) rfl rfl
theorem dX12_sumOf_17 : decode cX12_sumOf 17 = .ok (.iload_n 1, 1) := zby_g zbyb_616 (i := 11) rfl rfl
theorem dX12_sumOf_18 : decode cX12_sumOf 18 = .ok (.iload 4, 2) := zby_g zbyb_616 (i := 12) rfl rfl
theorem dX12_sumOf_20 : decode cX12_sumOf 20 = .ok (.invokestatic 296, 3) := zby_g zbyb_616 (i := 13) rfl rfl
theorem dX12_sumOf_23 : decode cX12_sumOf 23 = .ok (.ifCond .eq 13, 3) := zby_g zbyb_616 (i := 14) rfl rfl
theorem dX12_sumOf_26 : decode cX12_sumOf 26 = .ok (.aload_n 0, 1) := zby_g zbyb_616 (i := 15) rfl rfl
noncomputable def zbyl_617 : List (Nat × zbyE) := [(27, zbyo_21 4), (29, zbyo_28), (30, zbyo_182 68), (33, zbyo_167 4), (36, zbyo_3), (37, zbyo_96), (38, zbyo_62), (39, zbyo_132 4 1), (42, zbyo_167 (-37)), (45, zbyo_29), (46, zbyo_172)]
theorem zbyb_617 : zbys zbyl_617 (cX12_sumOf.data.toList.drop 27) 27 = true := by decide +kernel
theorem dX12_sumOf_27 : decode cX12_sumOf 27 = .ok (.iload 4, 2) := zby_g zbyb_617 (i := 0) rfl rfl
theorem dX12_sumOf_29 : decode cX12_sumOf 29 = .ok (.iload_n 2, 1) := zby_g zbyb_617 (i := 1) rfl rfl
theorem dX12_sumOf_30 : decode cX12_sumOf 30 = .ok (.invokevirtual 68, 3) := zby_g zbyb_617 (i := 2) rfl rfl
theorem dX12_sumOf_33 : decode cX12_sumOf 33 = .ok (.goto 4, 3) := zby_g zbyb_617 (i := 3) rfl rfl
theorem dX12_sumOf_36 : decode cX12_sumOf 36 = .ok (.iconst 0, 1) := zby_g zbyb_617 (i := 4) rfl rfl
theorem dX12_sumOf_37 : decode cX12_sumOf 37 = .ok (.iadd, 1) := zby_g zbyb_617 (i := 5) rfl rfl
theorem dX12_sumOf_38 : decode cX12_sumOf 38 = .ok (.istore_n 3, 1) := zby_g zbyb_617 (i := 6) rfl rfl
theorem dX12_sumOf_39 : decode cX12_sumOf 39 = .ok (.iinc 4 1, 3) := zby_g zbyb_617 (i := 7) rfl rfl
theorem dX12_sumOf_42 : decode cX12_sumOf 42 = .ok (.goto (-37), 3) := zby_g zbyb_617 (i := 8) rfl rfl
theorem dX12_sumOf_45 : decode cX12_sumOf 45 = .ok (.iload_n 3, 1) := zby_g zbyb_617 (i := 9) rfl rfl
theorem dX12_sumOf_46 : decode cX12_sumOf 46 = .ok (.ireturn, 1) := zby_g zbyb_617 (i := 10) rfl rfl
noncomputable def zbyl_618 : List (Nat × zbyE) := [(0, zbyo_42), (1, zbyo_3), (2, zbyo_181 39), (5, zbyo_3), (6, zbyo_61), (7, zbyo_3), (8, zbyo_62), (9, zbyo_29), (10, zbyo_42), (11, zbyo_180 7), (14, zbyo_7), (15, zbyo_46), (16, zbyo_162 41), (19, zbyo_28), (20, zbyo_42), (21, zbyo_29)]
theorem zbyb_618 : zbys zbyl_618 (cX12_chosen.data.toList.drop 0) 0 = true := by decide +kernel
theorem dX12_chosen_0 : decode cX12_chosen 0 = .ok (.aload_n 0, 1) := zby_g zbyb_618 (i := 0) rfl rfl
theorem dX12_chosen_1 : decode cX12_chosen 1 = .ok (.iconst 0, 1) := zby_g zbyb_618 (i := 1) rfl rfl
theorem dX12_chosen_2 : decode cX12_chosen 2 = .ok (.putfield 39, 3) := zby_g zbyb_618 (i := 2) rfl rfl
theorem dX12_chosen_5 : decode cX12_chosen 5 = .ok (.iconst 0, 1) := zby_g zbyb_618 (i := 3) rfl rfl
theorem dX12_chosen_6 : decode cX12_chosen 6 = .ok (.istore_n 2, 1) := zby_g zbyb_618 (i := 4) rfl rfl
theorem dX12_chosen_7 : decode cX12_chosen 7 = .ok (.iconst 0, 1) := zby_g zbyb_618 (i := 5) rfl rfl
theorem dX12_chosen_8 : decode cX12_chosen 8 = .ok (.istore_n 3, 1) := zby_g zbyb_618 (i := 6) rfl rfl
theorem dX12_chosen_9 : decode cX12_chosen 9 = .ok (.iload_n 3, 1) := zby_g zbyb_618 (i := 7) rfl rfl
theorem dX12_chosen_10 : decode cX12_chosen 10 = .ok (.aload_n 0, 1) := zby_g zbyb_618 (i := 8) rfl rfl
theorem dX12_chosen_11 : decode cX12_chosen 11 = .ok (.getfield 7, 3) := zby_g zbyb_618 (i := 9) rfl rfl
theorem dX12_chosen_14 : decode cX12_chosen 14 = .ok (.iconst 4, 1) := zby_g zbyb_618 (i := 10) rfl rfl
theorem dX12_chosen_15 : decode cX12_chosen 15 = .ok (.iaload, 1) := zby_g zbyb_618 (i := 11) rfl rfl
theorem dX12_chosen_16 : decode cX12_chosen 16 = .ok (.if_icmp .ge 41, 3) := zby_g zbyb_618 (i := 12) rfl rfl
theorem dX12_chosen_19 : decode cX12_chosen 19 = .ok (.iload_n 2, 1) := zby_g zbyb_618 (i := 13) rfl rfl
theorem dX12_chosen_20 : decode cX12_chosen 20 = .ok (.aload_n 0, 1) := zby_g zbyb_618 (i := 14) rfl rfl
theorem dX12_chosen_21 : decode cX12_chosen 21 = .ok (.iload_n 3, 1) := zby_g zbyb_618 (i := 15) rfl rfl
noncomputable def zbyl_619 : List (Nat × zbyE) := [(22, zbyo_6), (23, zbyo_182 68), (26, zbyo_154 22), (29, zbyo_42), (30, zbyo_29), (31, zbyo_4), (32, zbyo_182 68), (35, zbyo_42), (36, zbyo_182 62), (39, zbyo_163 9), (42, zbyo_4), (43, zbyo_29), (44, zbyo_120), (45, zbyo_167 4), (48, zbyo_3), (49, zbyo_128)]
theorem zbyb_619 : zbys zbyl_619 (cX12_chosen.data.toList.drop 22) 22 = true := by decide +kernel
theorem dX12_chosen_22 : decode cX12_chosen 22 = .ok (.iconst 3, 1) := zby_g zbyb_619 (i := 0) rfl rfl
theorem dX12_chosen_23 : decode cX12_chosen 23 = .ok (.invokevirtual 68, 3) := zby_g zbyb_619 (i := 1) rfl rfl
theorem dX12_chosen_26 : decode cX12_chosen 26 = .ok (.ifCond .ne 22, 3) := zby_g zbyb_619 (i := 2) rfl rfl
theorem dX12_chosen_29 : decode cX12_chosen 29 = .ok (.aload_n 0, 1) := zby_g zbyb_619 (i := 3) rfl rfl
theorem dX12_chosen_30 : decode cX12_chosen 30 = .ok (.iload_n 3, 1) := zby_g zbyb_619 (i := 4) rfl rfl
theorem dX12_chosen_31 : decode cX12_chosen 31 = .ok (.iconst 1, 1) := zby_g zbyb_619 (i := 5) rfl rfl
theorem dX12_chosen_32 : decode cX12_chosen 32 = .ok (.invokevirtual 68, 3) := zby_g zbyb_619 (i := 6) rfl rfl
theorem dX12_chosen_35 : decode cX12_chosen 35 = .ok (.aload_n 0, 1) := zby_g zbyb_619 (i := 7) rfl rfl
theorem dX12_chosen_36 : decode cX12_chosen 36 = .ok (.invokevirtual 62, 3) := zby_g zbyb_619 (i := 8) rfl rfl
theorem dX12_chosen_39 : decode cX12_chosen 39 = .ok (.if_icmp .gt 9, 3) := zby_g zbyb_619 (i := 9) rfl rfl
theorem dX12_chosen_42 : decode cX12_chosen 42 = .ok (.iconst 1, 1) := zby_g zbyb_619 (i := 10) rfl rfl
theorem dX12_chosen_43 : decode cX12_chosen 43 = .ok (.iload_n 3, 1) := zby_g zbyb_619 (i := 11) rfl rfl
theorem dX12_chosen_44 : decode cX12_chosen 44 = .ok (.ishl, 1) := zby_g zbyb_619 (i := 12) rfl rfl
theorem dX12_chosen_45 : decode cX12_chosen 45 = .ok (.goto 4, 3) := zby_g zbyb_619 (i := 13) rfl rfl
theorem dX12_chosen_48 : decode cX12_chosen 48 = .ok (.iconst 0, 1) := zby_g zbyb_619 (i := 14) rfl rfl
theorem dX12_chosen_49 : decode cX12_chosen 49 = .ok (.ior, 1) := zby_g zbyb_619 (i := 15) rfl rfl
noncomputable def zbyl_620 : List (Nat × zbyE) := [(50, zbyo_61), (51, zbyo_132 3 1), (54, zbyo_167 (-45)), (57, zbyo_3), (58, zbyo_62), (59, zbyo_3), (60, zbyo_54 4), (62, zbyo_21 4), (64, zbyo_4), (65, zbyo_42), (66, zbyo_180 7), (69, zbyo_7), (70, zbyo_46), (71, zbyo_120), (72, zbyo_162 53), (75, zbyo_21 4)]
theorem zbyb_620 : zbys zbyl_620 (cX12_chosen.data.toList.drop 50) 50 = true := by decide +kernel
theorem dX12_chosen_50 : decode cX12_chosen 50 = .ok (.istore_n 2, 1) := zby_g zbyb_620 (i := 0) rfl rfl
theorem dX12_chosen_51 : decode cX12_chosen 51 = .ok (.iinc 3 1, 3) := zby_g zbyb_620 (i := 1) rfl rfl
theorem dX12_chosen_54 : decode cX12_chosen 54 = .ok (.goto (-45), 3) := zby_g zbyb_620 (i := 2) rfl rfl
theorem dX12_chosen_57 : decode cX12_chosen 57 = .ok (.iconst 0, 1) := zby_g zbyb_620 (i := 3) rfl rfl
theorem dX12_chosen_58 : decode cX12_chosen 58 = .ok (.istore_n 3, 1) := zby_g zbyb_620 (i := 4) rfl rfl
theorem dX12_chosen_59 : decode cX12_chosen 59 = .ok (.iconst 0, 1) := zby_g zbyb_620 (i := 5) rfl rfl
theorem dX12_chosen_60 : decode cX12_chosen 60 = .ok (.istore 4, 2) := zby_g zbyb_620 (i := 6) rfl rfl
theorem dX12_chosen_62 : decode cX12_chosen 62 = .ok (.iload 4, 2) := zby_g zbyb_620 (i := 7) rfl rfl
theorem dX12_chosen_64 : decode cX12_chosen 64 = .ok (.iconst 1, 1) := zby_g zbyb_620 (i := 8) rfl rfl
theorem dX12_chosen_65 : decode cX12_chosen 65 = .ok (.aload_n 0, 1) := zby_g zbyb_620 (i := 9) rfl rfl
theorem dX12_chosen_66 : decode cX12_chosen 66 = .ok (.getfield 7, 3) := zby_g zbyb_620 (i := 10) rfl rfl
theorem dX12_chosen_69 : decode cX12_chosen 69 = .ok (.iconst 4, 1) := zby_g zbyb_620 (i := 11) rfl rfl
theorem dX12_chosen_70 : decode cX12_chosen 70 = .ok (.iaload, 1) := zby_g zbyb_620 (i := 12) rfl rfl
theorem dX12_chosen_71 : decode cX12_chosen 71 = .ok (.ishl, 1) := zby_g zbyb_620 (i := 13) rfl rfl
theorem dX12_chosen_72 : decode cX12_chosen 72 = .ok (.if_icmp .ge 53, 3) := zby_g zbyb_620 (i := 14) rfl rfl
theorem dX12_chosen_75 : decode cX12_chosen 75 = .ok (.iload 4, 2) := zby_g zbyb_620 (i := 15) rfl rfl
noncomputable def zbyl_621 : List (Nat × zbyE) := [(77, zbyo_28), (78, zbyo_2), (79, zbyo_130), (80, zbyo_126), (81, zbyo_154 38), (84, zbyo_42), (85, zbyo_21 4), (87, zbyo_3), (88, zbyo_182 307), (91, zbyo_42), (92, zbyo_180 7), (95, zbyo_8), (96, zbyo_46), (97, zbyo_163 22), (100, zbyo_42), (101, zbyo_21 4)]
theorem zbyb_621 : zbys zbyl_621 (cX12_chosen.data.toList.drop 77) 77 = true := by decide +kernel
theorem dX12_chosen_77 : decode cX12_chosen 77 = .ok (.iload_n 2, 1) := zby_g zbyb_621 (i := 0) rfl rfl
theorem dX12_chosen_78 : decode cX12_chosen 78 = .ok (.iconst (-1), 1) := zby_g zbyb_621 (i := 1) rfl rfl
theorem dX12_chosen_79 : decode cX12_chosen 79 = .ok (.ixor, 1) := zby_g zbyb_621 (i := 2) rfl rfl
theorem dX12_chosen_80 : decode cX12_chosen 80 = .ok (.iand, 1) := zby_g zbyb_621 (i := 3) rfl rfl
theorem dX12_chosen_81 : decode cX12_chosen 81 = .ok (.ifCond .ne 38, 3) := zby_g zbyb_621 (i := 4) rfl rfl
theorem dX12_chosen_84 : decode cX12_chosen 84 = .ok (.aload_n 0, 1) := zby_g zbyb_621 (i := 5) rfl rfl
theorem dX12_chosen_85 : decode cX12_chosen 85 = .ok (.iload 4, 2) := zby_g zbyb_621 (i := 6) rfl rfl
theorem dX12_chosen_87 : decode cX12_chosen 87 = .ok (.iconst 0, 1) := zby_g zbyb_621 (i := 7) rfl rfl
theorem dX12_chosen_88 : decode cX12_chosen 88 = .ok (.invokevirtual 307, 3) := zby_g zbyb_621 (i := 8) rfl rfl
theorem dX12_chosen_91 : decode cX12_chosen 91 = .ok (.aload_n 0, 1) := zby_g zbyb_621 (i := 9) rfl rfl
theorem dX12_chosen_92 : decode cX12_chosen 92 = .ok (.getfield 7, 3) := zby_g zbyb_621 (i := 10) rfl rfl
theorem dX12_chosen_95 : decode cX12_chosen 95 = .ok (.iconst 5, 1) := zby_g zbyb_621 (i := 11) rfl rfl
theorem dX12_chosen_96 : decode cX12_chosen 96 = .ok (.iaload, 1) := zby_g zbyb_621 (i := 12) rfl rfl
theorem dX12_chosen_97 : decode cX12_chosen 97 = .ok (.if_icmp .gt 22, 3) := zby_g zbyb_621 (i := 13) rfl rfl
theorem dX12_chosen_100 : decode cX12_chosen 100 = .ok (.aload_n 0, 1) := zby_g zbyb_621 (i := 14) rfl rfl
theorem dX12_chosen_101 : decode cX12_chosen 101 = .ok (.iload 4, 2) := zby_g zbyb_621 (i := 15) rfl rfl
noncomputable def zbyl_622 : List (Nat × zbyE) := [(103, zbyo_5), (104, zbyo_182 307), (107, zbyo_42), (108, zbyo_29), (109, zbyo_5), (110, zbyo_182 307), (113, zbyo_164 6), (116, zbyo_21 4), (118, zbyo_62), (119, zbyo_132 4 1), (122, zbyo_167 (-60)), (125, zbyo_27), (126, zbyo_153 12), (129, zbyo_42), (130, zbyo_29), (131, zbyo_5)]
theorem zbyb_622 : zbys zbyl_622 (cX12_chosen.data.toList.drop 103) 103 = true := by decide +kernel
theorem dX12_chosen_103 : decode cX12_chosen 103 = .ok (.iconst 2, 1) := zby_g zbyb_622 (i := 0) rfl rfl
theorem dX12_chosen_104 : decode cX12_chosen 104 = .ok (.invokevirtual 307, 3) := zby_g zbyb_622 (i := 1) rfl rfl
theorem dX12_chosen_107 : decode cX12_chosen 107 = .ok (.aload_n 0, 1) := zby_g zbyb_622 (i := 2) rfl rfl
theorem dX12_chosen_108 : decode cX12_chosen 108 = .ok (.iload_n 3, 1) := zby_g zbyb_622 (i := 3) rfl rfl
theorem dX12_chosen_109 : decode cX12_chosen 109 = .ok (.iconst 2, 1) := zby_g zbyb_622 (i := 4) rfl rfl
theorem dX12_chosen_110 : decode cX12_chosen 110 = .ok (.invokevirtual 307, 3) := zby_g zbyb_622 (i := 5) rfl rfl
theorem dX12_chosen_113 : decode cX12_chosen 113 = .ok (.if_icmp .le 6, 3) := zby_g zbyb_622 (i := 6) rfl rfl
theorem dX12_chosen_116 : decode cX12_chosen 116 = .ok (.iload 4, 2) := zby_g zbyb_622 (i := 7) rfl rfl
theorem dX12_chosen_118 : decode cX12_chosen 118 = .ok (.istore_n 3, 1) := zby_g zbyb_622 (i := 8) rfl rfl
theorem dX12_chosen_119 : decode cX12_chosen 119 = .ok (.iinc 4 1, 3) := zby_g zbyb_622 (i := 9) rfl rfl
theorem dX12_chosen_122 : decode cX12_chosen 122 = .ok (.goto (-60), 3) := zby_g zbyb_622 (i := 10) rfl rfl
theorem dX12_chosen_125 : decode cX12_chosen 125 = .ok (.iload_n 1, 1) := zby_g zbyb_622 (i := 11) rfl rfl
theorem dX12_chosen_126 : decode cX12_chosen 126 = .ok (.ifCond .eq 12, 3) := zby_g zbyb_622 (i := 12) rfl rfl
theorem dX12_chosen_129 : decode cX12_chosen 129 = .ok (.aload_n 0, 1) := zby_g zbyb_622 (i := 13) rfl rfl
theorem dX12_chosen_130 : decode cX12_chosen 130 = .ok (.iload_n 3, 1) := zby_g zbyb_622 (i := 14) rfl rfl
theorem dX12_chosen_131 : decode cX12_chosen 131 = .ok (.iconst 2, 1) := zby_g zbyb_622 (i := 15) rfl rfl
noncomputable def zbyl_623 : List (Nat × zbyE) := [(132, zbyo_182 307), (135, zbyo_167 4), (138, zbyo_29), (139, zbyo_172)]
theorem zbyb_623 : zbys zbyl_623 (cX12_chosen.data.toList.drop 132) 132 = true := by decide +kernel
theorem dX12_chosen_132 : decode cX12_chosen 132 = .ok (.invokevirtual 307, 3) := zby_g zbyb_623 (i := 0) rfl rfl
theorem dX12_chosen_135 : decode cX12_chosen 135 = .ok (.goto 4, 3) := zby_g zbyb_623 (i := 1) rfl rfl
theorem dX12_chosen_138 : decode cX12_chosen 138 = .ok (.iload_n 3, 1) := zby_g zbyb_623 (i := 2) rfl rfl
theorem dX12_chosen_139 : decode cX12_chosen 139 = .ok (.ireturn, 1) := zby_g zbyb_623 (i := 3) rfl rfl
noncomputable def zbyl_624 : List (Nat × zbyE) := [(0, zbyo_42), (1, zbyo_180 74), (4, zbyo_60), (5, zbyo_42), (6, zbyo_3), (7, zbyo_181 74), (10, zbyo_3), (11, zbyo_61), (12, zbyo_27), (13, zbyo_16 12), (15, zbyo_163 7), (18, zbyo_4), (19, zbyo_167 4), (22, zbyo_3), (23, zbyo_62), (24, zbyo_3)]
theorem zbyb_624 : zbys zbyl_624 (cX12_heard.data.toList.drop 0) 0 = true := by decide +kernel
theorem dX12_heard_0 : decode cX12_heard 0 = .ok (.aload_n 0, 1) := zby_g zbyb_624 (i := 0) rfl rfl
theorem dX12_heard_1 : decode cX12_heard 1 = .ok (.getfield 74, 3) := zby_g zbyb_624 (i := 1) rfl rfl
theorem dX12_heard_4 : decode cX12_heard 4 = .ok (.istore_n 1, 1) := zby_g zbyb_624 (i := 2) rfl rfl
theorem dX12_heard_5 : decode cX12_heard 5 = .ok (.aload_n 0, 1) := zby_g zbyb_624 (i := 3) rfl rfl
theorem dX12_heard_6 : decode cX12_heard 6 = .ok (.iconst 0, 1) := zby_g zbyb_624 (i := 4) rfl rfl
theorem dX12_heard_7 : decode cX12_heard 7 = .ok (.putfield 74, 3) := zby_g zbyb_624 (i := 5) rfl rfl
theorem dX12_heard_10 : decode cX12_heard 10 = .ok (.iconst 0, 1) := zby_g zbyb_624 (i := 6) rfl rfl
theorem dX12_heard_11 : decode cX12_heard 11 = .ok (.istore_n 2, 1) := zby_g zbyb_624 (i := 7) rfl rfl
theorem dX12_heard_12 : decode cX12_heard 12 = .ok (.iload_n 1, 1) := zby_g zbyb_624 (i := 8) rfl rfl
theorem dX12_heard_13 : decode cX12_heard 13 = .ok (.bipush 12, 2) := zby_g zbyb_624 (i := 9) rfl rfl
theorem dX12_heard_15 : decode cX12_heard 15 = .ok (.if_icmp .gt 7, 3) := zby_g zbyb_624 (i := 10) rfl rfl
theorem dX12_heard_18 : decode cX12_heard 18 = .ok (.iconst 1, 1) := zby_g zbyb_624 (i := 11) rfl rfl
theorem dX12_heard_19 : decode cX12_heard 19 = .ok (.goto 4, 3) := zby_g zbyb_624 (i := 12) rfl rfl
theorem dX12_heard_22 : decode cX12_heard 22 = .ok (.iconst 0, 1) := zby_g zbyb_624 (i := 13) rfl rfl
theorem dX12_heard_23 : decode cX12_heard 23 = .ok (.istore_n 3, 1) := zby_g zbyb_624 (i := 14) rfl rfl
theorem dX12_heard_24 : decode cX12_heard 24 = .ok (.iconst 0, 1) := zby_g zbyb_624 (i := 15) rfl rfl
noncomputable def zbyl_625 : List (Nat × zbyE) := [(25, zbyo_54 4), (27, zbyo_21 4), (29, zbyo_27), (30, zbyo_162 49), (33, zbyo_29), (34, zbyo_153 45), (37, zbyo_42), (38, zbyo_180 22), (41, zbyo_21 4), (43, zbyo_46), (44, zbyo_5), (45, zbyo_162 7), (48, zbyo_4), (49, zbyo_167 4), (52, zbyo_3), (53, zbyo_62)]
theorem zbyb_625 : zbys zbyl_625 (cX12_heard.data.toList.drop 25) 25 = true := by decide +kernel
theorem dX12_heard_25 : decode cX12_heard 25 = .ok (.istore 4, 2) := zby_g zbyb_625 (i := 0) rfl rfl
theorem dX12_heard_27 : decode cX12_heard 27 = .ok (.iload 4, 2) := zby_g zbyb_625 (i := 1) rfl rfl
theorem dX12_heard_29 : decode cX12_heard 29 = .ok (.iload_n 1, 1) := zby_g zbyb_625 (i := 2) rfl rfl
theorem dX12_heard_30 : decode cX12_heard 30 = .ok (.if_icmp .ge 49, 3) := zby_g zbyb_625 (i := 3) rfl rfl
theorem dX12_heard_33 : decode cX12_heard 33 = .ok (.iload_n 3, 1) := zby_g zbyb_625 (i := 4) rfl rfl
theorem dX12_heard_34 : decode cX12_heard 34 = .ok (.ifCond .eq 45, 3) := zby_g zbyb_625 (i := 5) rfl rfl
theorem dX12_heard_37 : decode cX12_heard 37 = .ok (.aload_n 0, 1) := zby_g zbyb_625 (i := 6) rfl rfl
theorem dX12_heard_38 : decode cX12_heard 38 = .ok (.getfield 22, 3) := zby_g zbyb_625 (i := 7) rfl rfl
theorem dX12_heard_41 : decode cX12_heard 41 = .ok (.iload 4, 2) := zby_g zbyb_625 (i := 8) rfl rfl
theorem dX12_heard_43 : decode cX12_heard 43 = .ok (.iaload, 1) := zby_g zbyb_625 (i := 9) rfl rfl
theorem dX12_heard_44 : decode cX12_heard 44 = .ok (.iconst 2, 1) := zby_g zbyb_625 (i := 10) rfl rfl
theorem dX12_heard_45 : decode cX12_heard 45 = .ok (.if_icmp .ge 7, 3) := zby_g zbyb_625 (i := 11) rfl rfl
theorem dX12_heard_48 : decode cX12_heard 48 = .ok (.iconst 1, 1) := zby_g zbyb_625 (i := 12) rfl rfl
theorem dX12_heard_49 : decode cX12_heard 49 = .ok (.goto 4, 3) := zby_g zbyb_625 (i := 13) rfl rfl
theorem dX12_heard_52 : decode cX12_heard 52 = .ok (.iconst 0, 1) := zby_g zbyb_625 (i := 14) rfl rfl
theorem dX12_heard_53 : decode cX12_heard 53 = .ok (.istore_n 3, 1) := zby_g zbyb_625 (i := 15) rfl rfl
noncomputable def zbyl_626 : List (Nat × zbyE) := [(54, zbyo_28), (55, zbyo_42), (56, zbyo_180 22), (59, zbyo_21 4), (61, zbyo_46), (62, zbyo_4), (63, zbyo_160 7), (66, zbyo_4), (67, zbyo_167 4), (70, zbyo_2), (71, zbyo_96), (72, zbyo_61), (73, zbyo_132 4 1), (76, zbyo_167 (-49)), (79, zbyo_29), (80, zbyo_153 7)]
theorem zbyb_626 : zbys zbyl_626 (cX12_heard.data.toList.drop 54) 54 = true := by decide +kernel
theorem dX12_heard_54 : decode cX12_heard 54 = .ok (.iload_n 2, 1) := zby_g zbyb_626 (i := 0) rfl rfl
theorem dX12_heard_55 : decode cX12_heard 55 = .ok (.aload_n 0, 1) := zby_g zbyb_626 (i := 1) rfl rfl
theorem dX12_heard_56 : decode cX12_heard 56 = .ok (.getfield 22, 3) := zby_g zbyb_626 (i := 2) rfl rfl
theorem dX12_heard_59 : decode cX12_heard 59 = .ok (.iload 4, 2) := zby_g zbyb_626 (i := 3) rfl rfl
theorem dX12_heard_61 : decode cX12_heard 61 = .ok (.iaload, 1) := zby_g zbyb_626 (i := 4) rfl rfl
theorem dX12_heard_62 : decode cX12_heard 62 = .ok (.iconst 1, 1) := zby_g zbyb_626 (i := 5) rfl rfl
theorem dX12_heard_63 : decode cX12_heard 63 = .ok (.if_icmp .ne 7, 3) := zby_g zbyb_626 (i := 6) rfl rfl
theorem dX12_heard_66 : decode cX12_heard 66 = .ok (.iconst 1, 1) := zby_g zbyb_626 (i := 7) rfl rfl
theorem dX12_heard_67 : decode cX12_heard 67 = .ok (.goto 4, 3) := zby_g zbyb_626 (i := 8) rfl rfl
theorem dX12_heard_70 : decode cX12_heard 70 = .ok (.iconst (-1), 1) := zby_g zbyb_626 (i := 9) rfl rfl
theorem dX12_heard_71 : decode cX12_heard 71 = .ok (.iadd, 1) := zby_g zbyb_626 (i := 10) rfl rfl
theorem dX12_heard_72 : decode cX12_heard 72 = .ok (.istore_n 2, 1) := zby_g zbyb_626 (i := 11) rfl rfl
theorem dX12_heard_73 : decode cX12_heard 73 = .ok (.iinc 4 1, 3) := zby_g zbyb_626 (i := 12) rfl rfl
theorem dX12_heard_76 : decode cX12_heard 76 = .ok (.goto (-49), 3) := zby_g zbyb_626 (i := 13) rfl rfl
theorem dX12_heard_79 : decode cX12_heard 79 = .ok (.iload_n 3, 1) := zby_g zbyb_626 (i := 14) rfl rfl
theorem dX12_heard_80 : decode cX12_heard 80 = .ok (.ifCond .eq 7, 3) := zby_g zbyb_626 (i := 15) rfl rfl
noncomputable def zbyl_627 : List (Nat × zbyE) := [(83, zbyo_28), (84, zbyo_167 5), (87, zbyo_16 100), (89, zbyo_172)]
theorem zbyb_627 : zbys zbyl_627 (cX12_heard.data.toList.drop 83) 83 = true := by decide +kernel
theorem dX12_heard_83 : decode cX12_heard 83 = .ok (.iload_n 2, 1) := zby_g zbyb_627 (i := 0) rfl rfl
theorem dX12_heard_84 : decode cX12_heard 84 = .ok (.goto 5, 3) := zby_g zbyb_627 (i := 1) rfl rfl
theorem dX12_heard_87 : decode cX12_heard 87 = .ok (.bipush 100, 2) := zby_g zbyb_627 (i := 2) rfl rfl
theorem dX12_heard_89 : decode cX12_heard 89 = .ok (.ireturn, 1) := zby_g zbyb_627 (i := 3) rfl rfl
noncomputable def zbyl_628 : List (Nat × zbyE) := [(0, zbyo_10), (1, zbyo_64), (2, zbyo_3), (3, zbyo_62), (4, zbyo_29), (5, zbyo_26), (6, zbyo_162 15), (9, zbyo_31), (10, zbyo_20 310), (13, zbyo_105), (14, zbyo_64), (15, zbyo_132 3 1), (18, zbyo_167 (-14)), (21, zbyo_31), (22, zbyo_173)]
theorem zbyb_628 : zbys zbyl_628 (cX12_nines.data.toList.drop 0) 0 = true := by decide +kernel
theorem dX12_nines_0 : decode cX12_nines 0 = .ok (.lconst 1, 1) := zby_g zbyb_628 (i := 0) rfl rfl
theorem dX12_nines_1 : decode cX12_nines 1 = .ok (.lstore_n 1, 1) := zby_g zbyb_628 (i := 1) rfl rfl
theorem dX12_nines_2 : decode cX12_nines 2 = .ok (.iconst 0, 1) := zby_g zbyb_628 (i := 2) rfl rfl
theorem dX12_nines_3 : decode cX12_nines 3 = .ok (.istore_n 3, 1) := zby_g zbyb_628 (i := 3) rfl rfl
theorem dX12_nines_4 : decode cX12_nines 4 = .ok (.iload_n 3, 1) := zby_g zbyb_628 (i := 4) rfl rfl
theorem dX12_nines_5 : decode cX12_nines 5 = .ok (.iload_n 0, 1) := zby_g zbyb_628 (i := 5) rfl rfl
theorem dX12_nines_6 : decode cX12_nines 6 = .ok (.if_icmp .ge 15, 3) := zby_g zbyb_628 (i := 6) rfl rfl
theorem dX12_nines_9 : decode cX12_nines 9 = .ok (.lload_n 1, 1) := zby_g zbyb_628 (i := 7) rfl rfl
theorem dX12_nines_10 : decode cX12_nines 10 = .ok (.ldc2_w 310, 3) := zby_g zbyb_628 (i := 8) rfl rfl
theorem dX12_nines_13 : decode cX12_nines 13 = .ok (.lmul, 1) := zby_g zbyb_628 (i := 9) rfl rfl
theorem dX12_nines_14 : decode cX12_nines 14 = .ok (.lstore_n 1, 1) := zby_g zbyb_628 (i := 10) rfl rfl
theorem dX12_nines_15 : decode cX12_nines 15 = .ok (.iinc 3 1, 3) := zby_g zbyb_628 (i := 11) rfl rfl
theorem dX12_nines_18 : decode cX12_nines 18 = .ok (.goto (-14), 3) := zby_g zbyb_628 (i := 12) rfl rfl
theorem dX12_nines_21 : decode cX12_nines 21 = .ok (.lload_n 1, 1) := zby_g zbyb_628 (i := 13) rfl rfl
theorem dX12_nines_22 : decode cX12_nines 22 = .ok (.lreturn, 1) := zby_g zbyb_628 (i := 14) rfl rfl
noncomputable def zbyl_629 : List (Nat × zbyE) := [(0, zbyo_42), (1, zbyo_182 312), (4, zbyo_61), (5, zbyo_42), (6, zbyo_28), (7, zbyo_16 100), (9, zbyo_159 13), (12, zbyo_27), (13, zbyo_3), (14, zbyo_16 100), (16, zbyo_184 42), (19, zbyo_154 7), (22, zbyo_4), (23, zbyo_167 4), (26, zbyo_3), (27, zbyo_181 39)]
theorem zbyb_629 : zbys zbyl_629 (cX12_river.data.toList.drop 0) 0 = true := by decide +kernel
theorem dX12_river_0 : decode cX12_river 0 = .ok (.aload_n 0, 1) := zby_g zbyb_629 (i := 0) rfl rfl
theorem dX12_river_1 : decode cX12_river 1 = .ok (.invokevirtual 312, 3) := zby_g zbyb_629 (i := 1) rfl rfl
theorem dX12_river_4 : decode cX12_river 4 = .ok (.istore_n 2, 1) := zby_g zbyb_629 (i := 2) rfl rfl
theorem dX12_river_5 : decode cX12_river 5 = .ok (.aload_n 0, 1) := zby_g zbyb_629 (i := 3) rfl rfl
theorem dX12_river_6 : decode cX12_river 6 = .ok (.iload_n 2, 1) := zby_g zbyb_629 (i := 4) rfl rfl
theorem dX12_river_7 : decode cX12_river 7 = .ok (.bipush 100, 2) := zby_g zbyb_629 (i := 5) rfl rfl
theorem dX12_river_9 : decode cX12_river 9 = .ok (.if_icmp .eq 13, 3) := zby_g zbyb_629 (i := 6) rfl rfl
theorem dX12_river_12 : decode cX12_river 12 = .ok (.iload_n 1, 1) := zby_g zbyb_629 (i := 7) rfl rfl
theorem dX12_river_13 : decode cX12_river 13 = .ok (.iconst 0, 1) := zby_g zbyb_629 (i := 8) rfl rfl
theorem dX12_river_14 : decode cX12_river 14 = .ok (.bipush 100, 2) := zby_g zbyb_629 (i := 9) rfl rfl
theorem dX12_river_16 : decode cX12_river 16 = .ok (.invokestatic 42, 3) := zby_g zbyb_629 (i := 10) rfl rfl
theorem dX12_river_19 : decode cX12_river 19 = .ok (.ifCond .ne 7, 3) := zby_g zbyb_629 (i := 11) rfl rfl
theorem dX12_river_22 : decode cX12_river 22 = .ok (.iconst 1, 1) := zby_g zbyb_629 (i := 12) rfl rfl
theorem dX12_river_23 : decode cX12_river 23 = .ok (.goto 4, 3) := zby_g zbyb_629 (i := 13) rfl rfl
theorem dX12_river_26 : decode cX12_river 26 = .ok (.iconst 0, 1) := zby_g zbyb_629 (i := 14) rfl rfl
theorem dX12_river_27 : decode cX12_river 27 = .ok (.putfield 39, 3) := zby_g zbyb_629 (i := 15) rfl rfl
noncomputable def zbyl_630 : List (Nat × zbyE) := [(30, zbyo_42), (31, zbyo_180 39), (34, zbyo_158 5), (37, zbyo_3), (38, zbyo_172), (39, zbyo_27), (40, zbyo_133), (41, zbyo_3), (42, zbyo_28), (43, zbyo_184 251), (46, zbyo_184 315), (49, zbyo_105), (50, zbyo_66), (51, zbyo_16 100), (53, zbyo_27), (54, zbyo_100)]
theorem zbyb_630 : zbys zbyl_630 (cX12_river.data.toList.drop 30) 30 = true := by decide +kernel
theorem dX12_river_30 : decode cX12_river 30 = .ok (.aload_n 0, 1) := zby_g zbyb_630 (i := 0) rfl rfl
theorem dX12_river_31 : decode cX12_river 31 = .ok (.getfield 39, 3) := zby_g zbyb_630 (i := 1) rfl rfl
theorem dX12_river_34 : decode cX12_river 34 = .ok (.ifCond .le 5, 3) := zby_g zbyb_630 (i := 2) rfl rfl
theorem dX12_river_37 : decode cX12_river 37 = .ok (.iconst 0, 1) := zby_g zbyb_630 (i := 3) rfl rfl
theorem dX12_river_38 : decode cX12_river 38 = .ok (.ireturn, 1) := zby_g zbyb_630 (i := 4) rfl rfl
theorem dX12_river_39 : decode cX12_river 39 = .ok (.iload_n 1, 1) := zby_g zbyb_630 (i := 5) rfl rfl
theorem dX12_river_40 : decode cX12_river 40 = .ok (.i2l, 1) := zby_g zbyb_630 (i := 6) rfl rfl
theorem dX12_river_41 : decode cX12_river 41 = .ok (.iconst 0, 1) := zby_g zbyb_630 (i := 7) rfl rfl
theorem dX12_river_42 : decode cX12_river 42 = .ok (.iload_n 2, 1) := zby_g zbyb_630 (i := 8) rfl rfl
theorem dX12_river_43 : decode cX12_river 43 = .ok (.invokestatic 251, 3) := zby_g zbyb_630 (i := 9) rfl rfl
theorem dX12_river_46 : decode cX12_river 46 = .ok (.invokestatic 315, 3) := zby_g zbyb_630 (i := 10) rfl rfl
theorem dX12_river_49 : decode cX12_river 49 = .ok (.lmul, 1) := zby_g zbyb_630 (i := 11) rfl rfl
theorem dX12_river_50 : decode cX12_river 50 = .ok (.lstore_n 3, 1) := zby_g zbyb_630 (i := 12) rfl rfl
theorem dX12_river_51 : decode cX12_river 51 = .ok (.bipush 100, 2) := zby_g zbyb_630 (i := 13) rfl rfl
theorem dX12_river_53 : decode cX12_river 53 = .ok (.iload_n 1, 1) := zby_g zbyb_630 (i := 14) rfl rfl
theorem dX12_river_54 : decode cX12_river 54 = .ok (.isub, 1) := zby_g zbyb_630 (i := 15) rfl rfl
noncomputable def zbyl_631 : List (Nat × zbyE) := [(55, zbyo_133), (56, zbyo_3), (57, zbyo_28), (58, zbyo_116), (59, zbyo_184 251), (62, zbyo_184 315), (65, zbyo_105), (66, zbyo_55 5), (68, zbyo_20 319), (71, zbyo_33), (72, zbyo_105), (73, zbyo_33), (74, zbyo_22 5), (76, zbyo_97), (77, zbyo_109), (78, zbyo_136)]
theorem zbyb_631 : zbys zbyl_631 (cX12_river.data.toList.drop 55) 55 = true := by decide +kernel
theorem dX12_river_55 : decode cX12_river 55 = .ok (.i2l, 1) := zby_g zbyb_631 (i := 0) rfl rfl
theorem dX12_river_56 : decode cX12_river 56 = .ok (.iconst 0, 1) := zby_g zbyb_631 (i := 1) rfl rfl
theorem dX12_river_57 : decode cX12_river 57 = .ok (.iload_n 2, 1) := zby_g zbyb_631 (i := 2) rfl rfl
theorem dX12_river_58 : decode cX12_river 58 = .ok (.ineg, 1) := zby_g zbyb_631 (i := 3) rfl rfl
theorem dX12_river_59 : decode cX12_river 59 = .ok (.invokestatic 251, 3) := zby_g zbyb_631 (i := 4) rfl rfl
theorem dX12_river_62 : decode cX12_river 62 = .ok (.invokestatic 315, 3) := zby_g zbyb_631 (i := 5) rfl rfl
theorem dX12_river_65 : decode cX12_river 65 = .ok (.lmul, 1) := zby_g zbyb_631 (i := 6) rfl rfl
theorem dX12_river_66 : decode cX12_river 66 = .ok (.lstore 5, 2) := zby_g zbyb_631 (i := 7) rfl rfl
theorem dX12_river_68 : decode cX12_river 68 = .ok (.ldc2_w 319, 3) := zby_g zbyb_631 (i := 8) rfl rfl
theorem dX12_river_71 : decode cX12_river 71 = .ok (.lload_n 3, 1) := zby_g zbyb_631 (i := 9) rfl rfl
theorem dX12_river_72 : decode cX12_river 72 = .ok (.lmul, 1) := zby_g zbyb_631 (i := 10) rfl rfl
theorem dX12_river_73 : decode cX12_river 73 = .ok (.lload_n 3, 1) := zby_g zbyb_631 (i := 11) rfl rfl
theorem dX12_river_74 : decode cX12_river 74 = .ok (.lload 5, 2) := zby_g zbyb_631 (i := 12) rfl rfl
theorem dX12_river_76 : decode cX12_river 76 = .ok (.ladd, 1) := zby_g zbyb_631 (i := 13) rfl rfl
theorem dX12_river_77 : decode cX12_river 77 = .ok (.ldiv, 1) := zby_g zbyb_631 (i := 14) rfl rfl
theorem dX12_river_78 : decode cX12_river 78 = .ok (.l2i, 1) := zby_g zbyb_631 (i := 15) rfl rfl
noncomputable def zbyl_632 : List (Nat × zbyE) := [(79, zbyo_172)]
theorem zbyb_632 : zbys zbyl_632 (cX12_river.data.toList.drop 79) 79 = true := by decide +kernel
theorem dX12_river_79 : decode cX12_river 79 = .ok (.ireturn, 1) := zby_g zbyb_632 (i := 0) rfl rfl
noncomputable def zbyl_633 : List (Nat × zbyE) := [(0, zbyo_42), (1, zbyo_182 312), (4, zbyo_61), (5, zbyo_42), (6, zbyo_28), (7, zbyo_16 100), (9, zbyo_159 13), (12, zbyo_27), (13, zbyo_3), (14, zbyo_16 100), (16, zbyo_184 42), (19, zbyo_154 7), (22, zbyo_4), (23, zbyo_167 4), (26, zbyo_3), (27, zbyo_181 39)]
theorem zbyb_633 : zbys zbyl_633 (cX12_more.data.toList.drop 0) 0 = true := by decide +kernel
theorem dX12_more_0 : decode cX12_more 0 = .ok (.aload_n 0, 1) := zby_g zbyb_633 (i := 0) rfl rfl
theorem dX12_more_1 : decode cX12_more 1 = .ok (.invokevirtual 312, 3) := zby_g zbyb_633 (i := 1) rfl rfl
theorem dX12_more_4 : decode cX12_more 4 = .ok (.istore_n 2, 1) := zby_g zbyb_633 (i := 2) rfl rfl
theorem dX12_more_5 : decode cX12_more 5 = .ok (.aload_n 0, 1) := zby_g zbyb_633 (i := 3) rfl rfl
theorem dX12_more_6 : decode cX12_more 6 = .ok (.iload_n 2, 1) := zby_g zbyb_633 (i := 4) rfl rfl
theorem dX12_more_7 : decode cX12_more 7 = .ok (.bipush 100, 2) := zby_g zbyb_633 (i := 5) rfl rfl
theorem dX12_more_9 : decode cX12_more 9 = .ok (.if_icmp .eq 13, 3) := zby_g zbyb_633 (i := 6) rfl rfl
theorem dX12_more_12 : decode cX12_more 12 = .ok (.iload_n 1, 1) := zby_g zbyb_633 (i := 7) rfl rfl
theorem dX12_more_13 : decode cX12_more 13 = .ok (.iconst 0, 1) := zby_g zbyb_633 (i := 8) rfl rfl
theorem dX12_more_14 : decode cX12_more 14 = .ok (.bipush 100, 2) := zby_g zbyb_633 (i := 9) rfl rfl
theorem dX12_more_16 : decode cX12_more 16 = .ok (.invokestatic 42, 3) := zby_g zbyb_633 (i := 10) rfl rfl
theorem dX12_more_19 : decode cX12_more 19 = .ok (.ifCond .ne 7, 3) := zby_g zbyb_633 (i := 11) rfl rfl
theorem dX12_more_22 : decode cX12_more 22 = .ok (.iconst 1, 1) := zby_g zbyb_633 (i := 12) rfl rfl
theorem dX12_more_23 : decode cX12_more 23 = .ok (.goto 4, 3) := zby_g zbyb_633 (i := 13) rfl rfl
theorem dX12_more_26 : decode cX12_more 26 = .ok (.iconst 0, 1) := zby_g zbyb_633 (i := 14) rfl rfl
theorem dX12_more_27 : decode cX12_more 27 = .ok (.putfield 39, 3) := zby_g zbyb_633 (i := 15) rfl rfl
noncomputable def zbyl_634 : List (Nat × zbyE) := [(30, zbyo_42), (31, zbyo_180 39), (34, zbyo_158 5), (37, zbyo_3), (38, zbyo_172), (39, zbyo_3), (40, zbyo_62), (41, zbyo_29), (42, zbyo_16 20), (44, zbyo_163 62), (47, zbyo_27), (48, zbyo_133), (49, zbyo_16 14), (51, zbyo_3), (52, zbyo_28), (53, zbyo_29)]
theorem zbyb_634 : zbys zbyl_634 (cX12_more.data.toList.drop 30) 30 = true := by decide +kernel
theorem dX12_more_30 : decode cX12_more 30 = .ok (.aload_n 0, 1) := zby_g zbyb_634 (i := 0) rfl rfl
theorem dX12_more_31 : decode cX12_more 31 = .ok (.getfield 39, 3) := zby_g zbyb_634 (i := 1) rfl rfl
theorem dX12_more_34 : decode cX12_more 34 = .ok (.ifCond .le 5, 3) := zby_g zbyb_634 (i := 2) rfl rfl
theorem dX12_more_37 : decode cX12_more 37 = .ok (.iconst 0, 1) := zby_g zbyb_634 (i := 3) rfl rfl
theorem dX12_more_38 : decode cX12_more 38 = .ok (.ireturn, 1) := zby_g zbyb_634 (i := 4) rfl rfl
theorem dX12_more_39 : decode cX12_more 39 = .ok (.iconst 0, 1) := zby_g zbyb_634 (i := 5) rfl rfl
theorem dX12_more_40 : decode cX12_more 40 = .ok (.istore_n 3, 1) := zby_g zbyb_634 (i := 6) rfl rfl
theorem dX12_more_41 : decode cX12_more 41 = .ok (.iload_n 3, 1) := zby_g zbyb_634 (i := 7) rfl rfl
theorem dX12_more_42 : decode cX12_more 42 = .ok (.bipush 20, 2) := zby_g zbyb_634 (i := 8) rfl rfl
theorem dX12_more_44 : decode cX12_more 44 = .ok (.if_icmp .gt 62, 3) := zby_g zbyb_634 (i := 9) rfl rfl
theorem dX12_more_47 : decode cX12_more 47 = .ok (.iload_n 1, 1) := zby_g zbyb_634 (i := 10) rfl rfl
theorem dX12_more_48 : decode cX12_more 48 = .ok (.i2l, 1) := zby_g zbyb_634 (i := 11) rfl rfl
theorem dX12_more_49 : decode cX12_more 49 = .ok (.bipush 14, 2) := zby_g zbyb_634 (i := 12) rfl rfl
theorem dX12_more_51 : decode cX12_more 51 = .ok (.iconst 0, 1) := zby_g zbyb_634 (i := 13) rfl rfl
theorem dX12_more_52 : decode cX12_more 52 = .ok (.iload_n 2, 1) := zby_g zbyb_634 (i := 14) rfl rfl
theorem dX12_more_53 : decode cX12_more 53 = .ok (.iload_n 3, 1) := zby_g zbyb_634 (i := 15) rfl rfl
noncomputable def zbyl_635 : List (Nat × zbyE) := [(54, zbyo_96), (55, zbyo_184 251), (58, zbyo_184 248), (61, zbyo_184 315), (64, zbyo_105), (65, zbyo_55 4), (67, zbyo_16 100), (69, zbyo_27), (70, zbyo_100), (71, zbyo_133), (72, zbyo_3), (73, zbyo_28), (74, zbyo_116), (75, zbyo_29), (76, zbyo_100), (77, zbyo_184 251)]
theorem zbyb_635 : zbys zbyl_635 (cX12_more.data.toList.drop 54) 54 = true := by decide +kernel
theorem dX12_more_54 : decode cX12_more 54 = .ok (.iadd, 1) := zby_g zbyb_635 (i := 0) rfl rfl
theorem dX12_more_55 : decode cX12_more 55 = .ok (.invokestatic 251, 3) := zby_g zbyb_635 (i := 1) rfl rfl
theorem dX12_more_58 : decode cX12_more 58 = .ok (.invokestatic 248, 3) := zby_g zbyb_635 (i := 2) rfl rfl
theorem dX12_more_61 : decode cX12_more 61 = .ok (.invokestatic 315, 3) := zby_g zbyb_635 (i := 3) rfl rfl
theorem dX12_more_64 : decode cX12_more 64 = .ok (.lmul, 1) := zby_g zbyb_635 (i := 4) rfl rfl
theorem dX12_more_65 : decode cX12_more 65 = .ok (.lstore 4, 2) := zby_g zbyb_635 (i := 5) rfl rfl
theorem dX12_more_67 : decode cX12_more 67 = .ok (.bipush 100, 2) := zby_g zbyb_635 (i := 6) rfl rfl
theorem dX12_more_69 : decode cX12_more 69 = .ok (.iload_n 1, 1) := zby_g zbyb_635 (i := 7) rfl rfl
theorem dX12_more_70 : decode cX12_more 70 = .ok (.isub, 1) := zby_g zbyb_635 (i := 8) rfl rfl
theorem dX12_more_71 : decode cX12_more 71 = .ok (.i2l, 1) := zby_g zbyb_635 (i := 9) rfl rfl
theorem dX12_more_72 : decode cX12_more 72 = .ok (.iconst 0, 1) := zby_g zbyb_635 (i := 10) rfl rfl
theorem dX12_more_73 : decode cX12_more 73 = .ok (.iload_n 2, 1) := zby_g zbyb_635 (i := 11) rfl rfl
theorem dX12_more_74 : decode cX12_more 74 = .ok (.ineg, 1) := zby_g zbyb_635 (i := 12) rfl rfl
theorem dX12_more_75 : decode cX12_more 75 = .ok (.iload_n 3, 1) := zby_g zbyb_635 (i := 13) rfl rfl
theorem dX12_more_76 : decode cX12_more 76 = .ok (.isub, 1) := zby_g zbyb_635 (i := 14) rfl rfl
theorem dX12_more_77 : decode cX12_more 77 = .ok (.invokestatic 251, 3) := zby_g zbyb_635 (i := 15) rfl rfl
noncomputable def zbyl_636 : List (Nat × zbyE) := [(80, zbyo_184 315), (83, zbyo_105), (84, zbyo_55 6), (86, zbyo_22 4), (88, zbyo_20 321), (91, zbyo_22 6), (93, zbyo_105), (94, zbyo_148), (95, zbyo_155 5), (98, zbyo_29), (99, zbyo_172), (100, zbyo_132 3 1), (103, zbyo_167 (-62)), (106, zbyo_2), (107, zbyo_172)]
theorem zbyb_636 : zbys zbyl_636 (cX12_more.data.toList.drop 80) 80 = true := by decide +kernel
theorem dX12_more_80 : decode cX12_more 80 = .ok (.invokestatic 315, 3) := zby_g zbyb_636 (i := 0) rfl rfl
theorem dX12_more_83 : decode cX12_more 83 = .ok (.lmul, 1) := zby_g zbyb_636 (i := 1) rfl rfl
theorem dX12_more_84 : decode cX12_more 84 = .ok (.lstore 6, 2) := zby_g zbyb_636 (i := 2) rfl rfl
theorem dX12_more_86 : decode cX12_more 86 = .ok (.lload 4, 2) := zby_g zbyb_636 (i := 3) rfl rfl
theorem dX12_more_88 : decode cX12_more 88 = .ok (.ldc2_w 321, 3) := zby_g zbyb_636 (i := 4) rfl rfl
theorem dX12_more_91 : decode cX12_more 91 = .ok (.lload 6, 2) := zby_g zbyb_636 (i := 5) rfl rfl
theorem dX12_more_93 : decode cX12_more 93 = .ok (.lmul, 1) := zby_g zbyb_636 (i := 6) rfl rfl
theorem dX12_more_94 : decode cX12_more 94 = .ok (.lcmp, 1) := zby_g zbyb_636 (i := 7) rfl rfl
theorem dX12_more_95 : decode cX12_more 95 = .ok (.ifCond .lt 5, 3) := zby_g zbyb_636 (i := 8) rfl rfl
theorem dX12_more_98 : decode cX12_more 98 = .ok (.iload_n 3, 1) := zby_g zbyb_636 (i := 9) rfl rfl
theorem dX12_more_99 : decode cX12_more 99 = .ok (.ireturn, 1) := zby_g zbyb_636 (i := 10) rfl rfl
theorem dX12_more_100 : decode cX12_more 100 = .ok (.iinc 3 1, 3) := zby_g zbyb_636 (i := 11) rfl rfl
theorem dX12_more_103 : decode cX12_more 103 = .ok (.goto (-62), 3) := zby_g zbyb_636 (i := 12) rfl rfl
theorem dX12_more_106 : decode cX12_more 106 = .ok (.iconst (-1), 1) := zby_g zbyb_636 (i := 13) rfl rfl
theorem dX12_more_107 : decode cX12_more 107 = .ok (.ireturn, 1) := zby_g zbyb_636 (i := 14) rfl rfl
noncomputable def zbyl_637 : List (Nat × zbyE) := [(0, zbyo_26), (1, zbyo_27), (2, zbyo_184 296), (5, zbyo_26), (6, zbyo_28), (7, zbyo_184 296), (10, zbyo_160 7), (13, zbyo_4), (14, zbyo_167 4), (17, zbyo_3), (18, zbyo_172)]
theorem zbyb_637 : zbys zbyl_637 (cX12_says.data.toList.drop 0) 0 = true := by decide +kernel
theorem dX12_says_0 : decode cX12_says 0 = .ok (.iload_n 0, 1) := zby_g zbyb_637 (i := 0) rfl rfl
theorem dX12_says_1 : decode cX12_says 1 = .ok (.iload_n 1, 1) := zby_g zbyb_637 (i := 1) rfl rfl
theorem dX12_says_2 : decode cX12_says 2 = .ok (.invokestatic 296, 3) := zby_g zbyb_637 (i := 2) rfl rfl
theorem dX12_says_5 : decode cX12_says 5 = .ok (.iload_n 0, 1) := zby_g zbyb_637 (i := 3) rfl rfl
theorem dX12_says_6 : decode cX12_says 6 = .ok (.iload_n 2, 1) := zby_g zbyb_637 (i := 4) rfl rfl
theorem dX12_says_7 : decode cX12_says 7 = .ok (.invokestatic 296, 3) := zby_g zbyb_637 (i := 5) rfl rfl
theorem dX12_says_10 : decode cX12_says 10 = .ok (.if_icmp .ne 7, 3) := zby_g zbyb_637 (i := 6) rfl rfl
theorem dX12_says_13 : decode cX12_says 13 = .ok (.iconst 1, 1) := zby_g zbyb_637 (i := 7) rfl rfl
theorem dX12_says_14 : decode cX12_says 14 = .ok (.goto 4, 3) := zby_g zbyb_637 (i := 8) rfl rfl
theorem dX12_says_17 : decode cX12_says 17 = .ok (.iconst 0, 1) := zby_g zbyb_637 (i := 9) rfl rfl
theorem dX12_says_18 : decode cX12_says 18 = .ok (.ireturn, 1) := zby_g zbyb_637 (i := 10) rfl rfl
noncomputable def zbyl_638 : List (Nat × zbyE) := [(0, zbyo_42), (1, zbyo_180 74), (4, zbyo_60), (5, zbyo_42), (6, zbyo_3), (7, zbyo_181 74), (10, zbyo_27), (11, zbyo_6), (12, zbyo_112), (13, zbyo_154 13), (16, zbyo_27), (17, zbyo_16 36), (19, zbyo_163 7), (22, zbyo_4), (23, zbyo_167 4), (26, zbyo_3)]
theorem zbyb_638 : zbys zbyl_638 (cX12_told.data.toList.drop 0) 0 = true := by decide +kernel
theorem dX12_told_0 : decode cX12_told 0 = .ok (.aload_n 0, 1) := zby_g zbyb_638 (i := 0) rfl rfl
theorem dX12_told_1 : decode cX12_told 1 = .ok (.getfield 74, 3) := zby_g zbyb_638 (i := 1) rfl rfl
theorem dX12_told_4 : decode cX12_told 4 = .ok (.istore_n 1, 1) := zby_g zbyb_638 (i := 2) rfl rfl
theorem dX12_told_5 : decode cX12_told 5 = .ok (.aload_n 0, 1) := zby_g zbyb_638 (i := 3) rfl rfl
theorem dX12_told_6 : decode cX12_told 6 = .ok (.iconst 0, 1) := zby_g zbyb_638 (i := 4) rfl rfl
theorem dX12_told_7 : decode cX12_told 7 = .ok (.putfield 74, 3) := zby_g zbyb_638 (i := 5) rfl rfl
theorem dX12_told_10 : decode cX12_told 10 = .ok (.iload_n 1, 1) := zby_g zbyb_638 (i := 6) rfl rfl
theorem dX12_told_11 : decode cX12_told 11 = .ok (.iconst 3, 1) := zby_g zbyb_638 (i := 7) rfl rfl
theorem dX12_told_12 : decode cX12_told 12 = .ok (.irem, 1) := zby_g zbyb_638 (i := 8) rfl rfl
theorem dX12_told_13 : decode cX12_told 13 = .ok (.ifCond .ne 13, 3) := zby_g zbyb_638 (i := 9) rfl rfl
theorem dX12_told_16 : decode cX12_told 16 = .ok (.iload_n 1, 1) := zby_g zbyb_638 (i := 10) rfl rfl
theorem dX12_told_17 : decode cX12_told 17 = .ok (.bipush 36, 2) := zby_g zbyb_638 (i := 11) rfl rfl
theorem dX12_told_19 : decode cX12_told 19 = .ok (.if_icmp .gt 7, 3) := zby_g zbyb_638 (i := 12) rfl rfl
theorem dX12_told_22 : decode cX12_told 22 = .ok (.iconst 1, 1) := zby_g zbyb_638 (i := 13) rfl rfl
theorem dX12_told_23 : decode cX12_told 23 = .ok (.goto 4, 3) := zby_g zbyb_638 (i := 14) rfl rfl
theorem dX12_told_26 : decode cX12_told 26 = .ok (.iconst 0, 1) := zby_g zbyb_638 (i := 15) rfl rfl
noncomputable def zbyl_639 : List (Nat × zbyE) := [(27, zbyo_61), (28, zbyo_3), (29, zbyo_62), (30, zbyo_29), (31, zbyo_27), (32, zbyo_162 80), (35, zbyo_28), (36, zbyo_153 76), (39, zbyo_42), (40, zbyo_180 22), (43, zbyo_29), (44, zbyo_46), (45, zbyo_42), (46, zbyo_180 7), (49, zbyo_6), (50, zbyo_46)]
theorem zbyb_639 : zbys zbyl_639 (cX12_told.data.toList.drop 27) 27 = true := by decide +kernel
theorem dX12_told_27 : decode cX12_told 27 = .ok (.istore_n 2, 1) := zby_g zbyb_639 (i := 0) rfl rfl
theorem dX12_told_28 : decode cX12_told 28 = .ok (.iconst 0, 1) := zby_g zbyb_639 (i := 1) rfl rfl
theorem dX12_told_29 : decode cX12_told 29 = .ok (.istore_n 3, 1) := zby_g zbyb_639 (i := 2) rfl rfl
theorem dX12_told_30 : decode cX12_told 30 = .ok (.iload_n 3, 1) := zby_g zbyb_639 (i := 3) rfl rfl
theorem dX12_told_31 : decode cX12_told 31 = .ok (.iload_n 1, 1) := zby_g zbyb_639 (i := 4) rfl rfl
theorem dX12_told_32 : decode cX12_told 32 = .ok (.if_icmp .ge 80, 3) := zby_g zbyb_639 (i := 5) rfl rfl
theorem dX12_told_35 : decode cX12_told 35 = .ok (.iload_n 2, 1) := zby_g zbyb_639 (i := 6) rfl rfl
theorem dX12_told_36 : decode cX12_told 36 = .ok (.ifCond .eq 76, 3) := zby_g zbyb_639 (i := 7) rfl rfl
theorem dX12_told_39 : decode cX12_told 39 = .ok (.aload_n 0, 1) := zby_g zbyb_639 (i := 8) rfl rfl
theorem dX12_told_40 : decode cX12_told 40 = .ok (.getfield 22, 3) := zby_g zbyb_639 (i := 9) rfl rfl
theorem dX12_told_43 : decode cX12_told 43 = .ok (.iload_n 3, 1) := zby_g zbyb_639 (i := 10) rfl rfl
theorem dX12_told_44 : decode cX12_told 44 = .ok (.iaload, 1) := zby_g zbyb_639 (i := 11) rfl rfl
theorem dX12_told_45 : decode cX12_told 45 = .ok (.aload_n 0, 1) := zby_g zbyb_639 (i := 12) rfl rfl
theorem dX12_told_46 : decode cX12_told 46 = .ok (.getfield 7, 3) := zby_g zbyb_639 (i := 13) rfl rfl
theorem dX12_told_49 : decode cX12_told 49 = .ok (.iconst 3, 1) := zby_g zbyb_639 (i := 14) rfl rfl
theorem dX12_told_50 : decode cX12_told 50 = .ok (.iaload, 1) := zby_g zbyb_639 (i := 15) rfl rfl
noncomputable def zbyl_640 : List (Nat × zbyE) := [(51, zbyo_162 53), (54, zbyo_42), (55, zbyo_180 22), (58, zbyo_29), (59, zbyo_4), (60, zbyo_96), (61, zbyo_46), (62, zbyo_42), (63, zbyo_180 7), (66, zbyo_6), (67, zbyo_46), (68, zbyo_162 36), (71, zbyo_42), (72, zbyo_180 22), (75, zbyo_29), (76, zbyo_46)]
theorem zbyb_640 : zbys zbyl_640 (cX12_told.data.toList.drop 51) 51 = true := by decide +kernel
theorem dX12_told_51 : decode cX12_told 51 = .ok (.if_icmp .ge 53, 3) := zby_g zbyb_640 (i := 0) rfl rfl
theorem dX12_told_54 : decode cX12_told 54 = .ok (.aload_n 0, 1) := zby_g zbyb_640 (i := 1) rfl rfl
theorem dX12_told_55 : decode cX12_told 55 = .ok (.getfield 22, 3) := zby_g zbyb_640 (i := 2) rfl rfl
theorem dX12_told_58 : decode cX12_told 58 = .ok (.iload_n 3, 1) := zby_g zbyb_640 (i := 3) rfl rfl
theorem dX12_told_59 : decode cX12_told 59 = .ok (.iconst 1, 1) := zby_g zbyb_640 (i := 4) rfl rfl
theorem dX12_told_60 : decode cX12_told 60 = .ok (.iadd, 1) := zby_g zbyb_640 (i := 5) rfl rfl
theorem dX12_told_61 : decode cX12_told 61 = .ok (.iaload, 1) := zby_g zbyb_640 (i := 6) rfl rfl
theorem dX12_told_62 : decode cX12_told 62 = .ok (.aload_n 0, 1) := zby_g zbyb_640 (i := 7) rfl rfl
theorem dX12_told_63 : decode cX12_told 63 = .ok (.getfield 7, 3) := zby_g zbyb_640 (i := 8) rfl rfl
theorem dX12_told_66 : decode cX12_told 66 = .ok (.iconst 3, 1) := zby_g zbyb_640 (i := 9) rfl rfl
theorem dX12_told_67 : decode cX12_told 67 = .ok (.iaload, 1) := zby_g zbyb_640 (i := 10) rfl rfl
theorem dX12_told_68 : decode cX12_told 68 = .ok (.if_icmp .ge 36, 3) := zby_g zbyb_640 (i := 11) rfl rfl
theorem dX12_told_71 : decode cX12_told 71 = .ok (.aload_n 0, 1) := zby_g zbyb_640 (i := 12) rfl rfl
theorem dX12_told_72 : decode cX12_told 72 = .ok (.getfield 22, 3) := zby_g zbyb_640 (i := 13) rfl rfl
theorem dX12_told_75 : decode cX12_told 75 = .ok (.iload_n 3, 1) := zby_g zbyb_640 (i := 14) rfl rfl
theorem dX12_told_76 : decode cX12_told 76 = .ok (.iaload, 1) := zby_g zbyb_640 (i := 15) rfl rfl
noncomputable def zbyl_641 : List (Nat × zbyE) := [(77, zbyo_42), (78, zbyo_180 22), (81, zbyo_29), (82, zbyo_4), (83, zbyo_96), (84, zbyo_46), (85, zbyo_159 19), (88, zbyo_42), (89, zbyo_180 22), (92, zbyo_29), (93, zbyo_5), (94, zbyo_96), (95, zbyo_46), (96, zbyo_5), (97, zbyo_162 7), (100, zbyo_4)]
theorem zbyb_641 : zbys zbyl_641 (cX12_told.data.toList.drop 77) 77 = true := by decide +kernel
theorem dX12_told_77 : decode cX12_told 77 = .ok (.aload_n 0, 1) := zby_g zbyb_641 (i := 0) rfl rfl
theorem dX12_told_78 : decode cX12_told 78 = .ok (.getfield 22, 3) := zby_g zbyb_641 (i := 1) rfl rfl
theorem dX12_told_81 : decode cX12_told 81 = .ok (.iload_n 3, 1) := zby_g zbyb_641 (i := 2) rfl rfl
theorem dX12_told_82 : decode cX12_told 82 = .ok (.iconst 1, 1) := zby_g zbyb_641 (i := 3) rfl rfl
theorem dX12_told_83 : decode cX12_told 83 = .ok (.iadd, 1) := zby_g zbyb_641 (i := 4) rfl rfl
theorem dX12_told_84 : decode cX12_told 84 = .ok (.iaload, 1) := zby_g zbyb_641 (i := 5) rfl rfl
theorem dX12_told_85 : decode cX12_told 85 = .ok (.if_icmp .eq 19, 3) := zby_g zbyb_641 (i := 6) rfl rfl
theorem dX12_told_88 : decode cX12_told 88 = .ok (.aload_n 0, 1) := zby_g zbyb_641 (i := 7) rfl rfl
theorem dX12_told_89 : decode cX12_told 89 = .ok (.getfield 22, 3) := zby_g zbyb_641 (i := 8) rfl rfl
theorem dX12_told_92 : decode cX12_told 92 = .ok (.iload_n 3, 1) := zby_g zbyb_641 (i := 9) rfl rfl
theorem dX12_told_93 : decode cX12_told 93 = .ok (.iconst 2, 1) := zby_g zbyb_641 (i := 10) rfl rfl
theorem dX12_told_94 : decode cX12_told 94 = .ok (.iadd, 1) := zby_g zbyb_641 (i := 11) rfl rfl
theorem dX12_told_95 : decode cX12_told 95 = .ok (.iaload, 1) := zby_g zbyb_641 (i := 12) rfl rfl
theorem dX12_told_96 : decode cX12_told 96 = .ok (.iconst 2, 1) := zby_g zbyb_641 (i := 13) rfl rfl
theorem dX12_told_97 : decode cX12_told 97 = .ok (.if_icmp .ge 7, 3) := zby_g zbyb_641 (i := 14) rfl rfl
theorem dX12_told_100 : decode cX12_told 100 = .ok (.iconst 1, 1) := zby_g zbyb_641 (i := 15) rfl rfl
noncomputable def zbyl_642 : List (Nat × zbyE) := [(101, zbyo_167 4), (104, zbyo_3), (105, zbyo_61), (106, zbyo_132 3 3), (109, zbyo_167 (-79)), (112, zbyo_28), (113, zbyo_154 5), (116, zbyo_2), (117, zbyo_172), (118, zbyo_3), (119, zbyo_62), (120, zbyo_3), (121, zbyo_54 4), (123, zbyo_21 4), (125, zbyo_4), (126, zbyo_42)]
theorem zbyb_642 : zbys zbyl_642 (cX12_told.data.toList.drop 101) 101 = true := by decide +kernel
theorem dX12_told_101 : decode cX12_told 101 = .ok (.goto 4, 3) := zby_g zbyb_642 (i := 0) rfl rfl
theorem dX12_told_104 : decode cX12_told 104 = .ok (.iconst 0, 1) := zby_g zbyb_642 (i := 1) rfl rfl
theorem dX12_told_105 : decode cX12_told 105 = .ok (.istore_n 2, 1) := zby_g zbyb_642 (i := 2) rfl rfl
theorem dX12_told_106 : decode cX12_told 106 = .ok (.iinc 3 3, 3) := zby_g zbyb_642 (i := 3) rfl rfl
theorem dX12_told_109 : decode cX12_told 109 = .ok (.goto (-79), 3) := zby_g zbyb_642 (i := 4) rfl rfl
theorem dX12_told_112 : decode cX12_told 112 = .ok (.iload_n 2, 1) := zby_g zbyb_642 (i := 5) rfl rfl
theorem dX12_told_113 : decode cX12_told 113 = .ok (.ifCond .ne 5, 3) := zby_g zbyb_642 (i := 6) rfl rfl
theorem dX12_told_116 : decode cX12_told 116 = .ok (.iconst (-1), 1) := zby_g zbyb_642 (i := 7) rfl rfl
theorem dX12_told_117 : decode cX12_told 117 = .ok (.ireturn, 1) := zby_g zbyb_642 (i := 8) rfl rfl
theorem dX12_told_118 : decode cX12_told 118 = .ok (.iconst 0, 1) := zby_g zbyb_642 (i := 9) rfl rfl
theorem dX12_told_119 : decode cX12_told 119 = .ok (.istore_n 3, 1) := zby_g zbyb_642 (i := 10) rfl rfl
theorem dX12_told_120 : decode cX12_told 120 = .ok (.iconst 0, 1) := zby_g zbyb_642 (i := 11) rfl rfl
theorem dX12_told_121 : decode cX12_told 121 = .ok (.istore 4, 2) := zby_g zbyb_642 (i := 12) rfl rfl
theorem dX12_told_123 : decode cX12_told 123 = .ok (.iload 4, 2) := zby_g zbyb_642 (i := 13) rfl rfl
theorem dX12_told_125 : decode cX12_told 125 = .ok (.iconst 1, 1) := zby_g zbyb_642 (i := 14) rfl rfl
theorem dX12_told_126 : decode cX12_told 126 = .ok (.aload_n 0, 1) := zby_g zbyb_642 (i := 15) rfl rfl
noncomputable def zbyl_643 : List (Nat × zbyE) := [(127, zbyo_180 7), (130, zbyo_6), (131, zbyo_46), (132, zbyo_120), (133, zbyo_162 114), (136, zbyo_42), (137, zbyo_180 35), (140, zbyo_21 4), (142, zbyo_4), (143, zbyo_84), (144, zbyo_3), (145, zbyo_54 5), (147, zbyo_21 5), (149, zbyo_27), (150, zbyo_162 73), (153, zbyo_42)]
theorem zbyb_643 : zbys zbyl_643 (cX12_told.data.toList.drop 127) 127 = true := by decide +kernel
theorem dX12_told_127 : decode cX12_told 127 = .ok (.getfield 7, 3) := zby_g zbyb_643 (i := 0) rfl rfl
theorem dX12_told_130 : decode cX12_told 130 = .ok (.iconst 3, 1) := zby_g zbyb_643 (i := 1) rfl rfl
theorem dX12_told_131 : decode cX12_told 131 = .ok (.iaload, 1) := zby_g zbyb_643 (i := 2) rfl rfl
theorem dX12_told_132 : decode cX12_told 132 = .ok (.ishl, 1) := zby_g zbyb_643 (i := 3) rfl rfl
theorem dX12_told_133 : decode cX12_told 133 = .ok (.if_icmp .ge 114, 3) := zby_g zbyb_643 (i := 4) rfl rfl
theorem dX12_told_136 : decode cX12_told 136 = .ok (.aload_n 0, 1) := zby_g zbyb_643 (i := 5) rfl rfl
theorem dX12_told_137 : decode cX12_told 137 = .ok (.getfield 35, 3) := zby_g zbyb_643 (i := 6) rfl rfl
theorem dX12_told_140 : decode cX12_told 140 = .ok (.iload 4, 2) := zby_g zbyb_643 (i := 7) rfl rfl
theorem dX12_told_142 : decode cX12_told 142 = .ok (.iconst 1, 1) := zby_g zbyb_643 (i := 8) rfl rfl
theorem dX12_told_143 : decode cX12_told 143 = .ok (.bastore, 1) := zby_g zbyb_643 (i := 9) rfl rfl
theorem dX12_told_144 : decode cX12_told 144 = .ok (.iconst 0, 1) := zby_g zbyb_643 (i := 10) rfl rfl
theorem dX12_told_145 : decode cX12_told 145 = .ok (.istore 5, 2) := zby_g zbyb_643 (i := 11) rfl rfl
theorem dX12_told_147 : decode cX12_told 147 = .ok (.iload 5, 2) := zby_g zbyb_643 (i := 12) rfl rfl
theorem dX12_told_149 : decode cX12_told 149 = .ok (.iload_n 1, 1) := zby_g zbyb_643 (i := 13) rfl rfl
theorem dX12_told_150 : decode cX12_told 150 = .ok (.if_icmp .ge 73, 3) := zby_g zbyb_643 (i := 14) rfl rfl
theorem dX12_told_153 : decode cX12_told 153 = .ok (.aload_n 0, 1) := zby_g zbyb_643 (i := 15) rfl rfl
noncomputable def zbyl_644 : List (Nat × zbyE) := [(154, zbyo_180 35), (157, zbyo_21 4), (159, zbyo_51), (160, zbyo_153 63), (163, zbyo_42), (164, zbyo_180 35), (167, zbyo_21 4), (169, zbyo_21 4), (171, zbyo_42), (172, zbyo_180 22), (175, zbyo_21 5), (177, zbyo_46), (178, zbyo_42), (179, zbyo_180 22), (182, zbyo_21 5), (184, zbyo_4)]
theorem zbyb_644 : zbys zbyl_644 (cX12_told.data.toList.drop 154) 154 = true := by decide +kernel
theorem dX12_told_154 : decode cX12_told 154 = .ok (.getfield 35, 3) := zby_g zbyb_644 (i := 0) rfl rfl
theorem dX12_told_157 : decode cX12_told 157 = .ok (.iload 4, 2) := zby_g zbyb_644 (i := 1) rfl rfl
theorem dX12_told_159 : decode cX12_told 159 = .ok (.baload, 1) := zby_g zbyb_644 (i := 2) rfl rfl
theorem dX12_told_160 : decode cX12_told 160 = .ok (.ifCond .eq 63, 3) := zby_g zbyb_644 (i := 3) rfl rfl
theorem dX12_told_163 : decode cX12_told 163 = .ok (.aload_n 0, 1) := zby_g zbyb_644 (i := 4) rfl rfl
theorem dX12_told_164 : decode cX12_told 164 = .ok (.getfield 35, 3) := zby_g zbyb_644 (i := 5) rfl rfl
theorem dX12_told_167 : decode cX12_told 167 = .ok (.iload 4, 2) := zby_g zbyb_644 (i := 6) rfl rfl
theorem dX12_told_169 : decode cX12_told 169 = .ok (.iload 4, 2) := zby_g zbyb_644 (i := 7) rfl rfl
theorem dX12_told_171 : decode cX12_told 171 = .ok (.aload_n 0, 1) := zby_g zbyb_644 (i := 8) rfl rfl
theorem dX12_told_172 : decode cX12_told 172 = .ok (.getfield 22, 3) := zby_g zbyb_644 (i := 9) rfl rfl
theorem dX12_told_175 : decode cX12_told 175 = .ok (.iload 5, 2) := zby_g zbyb_644 (i := 10) rfl rfl
theorem dX12_told_177 : decode cX12_told 177 = .ok (.iaload, 1) := zby_g zbyb_644 (i := 11) rfl rfl
theorem dX12_told_178 : decode cX12_told 178 = .ok (.aload_n 0, 1) := zby_g zbyb_644 (i := 12) rfl rfl
theorem dX12_told_179 : decode cX12_told 179 = .ok (.getfield 22, 3) := zby_g zbyb_644 (i := 13) rfl rfl
theorem dX12_told_182 : decode cX12_told 182 = .ok (.iload 5, 2) := zby_g zbyb_644 (i := 14) rfl rfl
theorem dX12_told_184 : decode cX12_told 184 = .ok (.iconst 1, 1) := zby_g zbyb_644 (i := 15) rfl rfl
noncomputable def zbyl_645 : List (Nat × zbyE) := [(185, zbyo_96), (186, zbyo_46), (187, zbyo_184 323), (190, zbyo_42), (191, zbyo_180 22), (194, zbyo_21 5), (196, zbyo_5), (197, zbyo_96), (198, zbyo_46), (199, zbyo_4), (200, zbyo_160 7), (203, zbyo_4), (204, zbyo_167 4), (207, zbyo_3), (208, zbyo_160 7), (211, zbyo_4)]
theorem zbyb_645 : zbys zbyl_645 (cX12_told.data.toList.drop 185) 185 = true := by decide +kernel
theorem dX12_told_185 : decode cX12_told 185 = .ok (.iadd, 1) := zby_g zbyb_645 (i := 0) rfl rfl
theorem dX12_told_186 : decode cX12_told 186 = .ok (.iaload, 1) := zby_g zbyb_645 (i := 1) rfl rfl
theorem dX12_told_187 : decode cX12_told 187 = .ok (.invokestatic 323, 3) := zby_g zbyb_645 (i := 2) rfl rfl
theorem dX12_told_190 : decode cX12_told 190 = .ok (.aload_n 0, 1) := zby_g zbyb_645 (i := 3) rfl rfl
theorem dX12_told_191 : decode cX12_told 191 = .ok (.getfield 22, 3) := zby_g zbyb_645 (i := 4) rfl rfl
theorem dX12_told_194 : decode cX12_told 194 = .ok (.iload 5, 2) := zby_g zbyb_645 (i := 5) rfl rfl
theorem dX12_told_196 : decode cX12_told 196 = .ok (.iconst 2, 1) := zby_g zbyb_645 (i := 6) rfl rfl
theorem dX12_told_197 : decode cX12_told 197 = .ok (.iadd, 1) := zby_g zbyb_645 (i := 7) rfl rfl
theorem dX12_told_198 : decode cX12_told 198 = .ok (.iaload, 1) := zby_g zbyb_645 (i := 8) rfl rfl
theorem dX12_told_199 : decode cX12_told 199 = .ok (.iconst 1, 1) := zby_g zbyb_645 (i := 9) rfl rfl
theorem dX12_told_200 : decode cX12_told 200 = .ok (.if_icmp .ne 7, 3) := zby_g zbyb_645 (i := 10) rfl rfl
theorem dX12_told_203 : decode cX12_told 203 = .ok (.iconst 1, 1) := zby_g zbyb_645 (i := 11) rfl rfl
theorem dX12_told_204 : decode cX12_told 204 = .ok (.goto 4, 3) := zby_g zbyb_645 (i := 12) rfl rfl
theorem dX12_told_207 : decode cX12_told 207 = .ok (.iconst 0, 1) := zby_g zbyb_645 (i := 13) rfl rfl
theorem dX12_told_208 : decode cX12_told 208 = .ok (.if_icmp .ne 7, 3) := zby_g zbyb_645 (i := 14) rfl rfl
theorem dX12_told_211 : decode cX12_told 211 = .ok (.iconst 1, 1) := zby_g zbyb_645 (i := 15) rfl rfl
noncomputable def zbyl_646 : List (Nat × zbyE) := [(212, zbyo_167 4), (215, zbyo_3), (216, zbyo_84), (217, zbyo_132 5 3), (220, zbyo_167 (-73)), (223, zbyo_29), (224, zbyo_42), (225, zbyo_180 35), (228, zbyo_21 4), (230, zbyo_51), (231, zbyo_153 7), (234, zbyo_4), (235, zbyo_167 4), (238, zbyo_3), (239, zbyo_96), (240, zbyo_62)]
theorem zbyb_646 : zbys zbyl_646 (cX12_told.data.toList.drop 212) 212 = true := by decide +kernel
theorem dX12_told_212 : decode cX12_told 212 = .ok (.goto 4, 3) := zby_g zbyb_646 (i := 0) rfl rfl
theorem dX12_told_215 : decode cX12_told 215 = .ok (.iconst 0, 1) := zby_g zbyb_646 (i := 1) rfl rfl
theorem dX12_told_216 : decode cX12_told 216 = .ok (.bastore, 1) := zby_g zbyb_646 (i := 2) rfl rfl
theorem dX12_told_217 : decode cX12_told 217 = .ok (.iinc 5 3, 3) := zby_g zbyb_646 (i := 3) rfl rfl
theorem dX12_told_220 : decode cX12_told 220 = .ok (.goto (-73), 3) := zby_g zbyb_646 (i := 4) rfl rfl
theorem dX12_told_223 : decode cX12_told 223 = .ok (.iload_n 3, 1) := zby_g zbyb_646 (i := 5) rfl rfl
theorem dX12_told_224 : decode cX12_told 224 = .ok (.aload_n 0, 1) := zby_g zbyb_646 (i := 6) rfl rfl
theorem dX12_told_225 : decode cX12_told 225 = .ok (.getfield 35, 3) := zby_g zbyb_646 (i := 7) rfl rfl
theorem dX12_told_228 : decode cX12_told 228 = .ok (.iload 4, 2) := zby_g zbyb_646 (i := 8) rfl rfl
theorem dX12_told_230 : decode cX12_told 230 = .ok (.baload, 1) := zby_g zbyb_646 (i := 9) rfl rfl
theorem dX12_told_231 : decode cX12_told 231 = .ok (.ifCond .eq 7, 3) := zby_g zbyb_646 (i := 10) rfl rfl
theorem dX12_told_234 : decode cX12_told 234 = .ok (.iconst 1, 1) := zby_g zbyb_646 (i := 11) rfl rfl
theorem dX12_told_235 : decode cX12_told 235 = .ok (.goto 4, 3) := zby_g zbyb_646 (i := 12) rfl rfl
theorem dX12_told_238 : decode cX12_told 238 = .ok (.iconst 0, 1) := zby_g zbyb_646 (i := 13) rfl rfl
theorem dX12_told_239 : decode cX12_told 239 = .ok (.iadd, 1) := zby_g zbyb_646 (i := 14) rfl rfl
theorem dX12_told_240 : decode cX12_told 240 = .ok (.istore_n 3, 1) := zby_g zbyb_646 (i := 15) rfl rfl
noncomputable def zbyl_647 : List (Nat × zbyE) := [(241, zbyo_132 4 1), (244, zbyo_167 (-121)), (247, zbyo_29), (248, zbyo_172)]
theorem zbyb_647 : zbys zbyl_647 (cX12_told.data.toList.drop 241) 241 = true := by decide +kernel
theorem dX12_told_241 : decode cX12_told 241 = .ok (.iinc 4 1, 3) := zby_g zbyb_647 (i := 0) rfl rfl
theorem dX12_told_244 : decode cX12_told 244 = .ok (.goto (-121), 3) := zby_g zbyb_647 (i := 1) rfl rfl
theorem dX12_told_247 : decode cX12_told 247 = .ok (.iload_n 3, 1) := zby_g zbyb_647 (i := 2) rfl rfl
theorem dX12_told_248 : decode cX12_told 248 = .ok (.ireturn, 1) := zby_g zbyb_647 (i := 3) rfl rfl
noncomputable def zbyl_648 : List (Nat × zbyE) := [(0, zbyo_42), (1, zbyo_182 326), (4, zbyo_61), (5, zbyo_42), (6, zbyo_28), (7, zbyo_2), (8, zbyo_160 7), (11, zbyo_4), (12, zbyo_167 4), (15, zbyo_3), (16, zbyo_181 39), (19, zbyo_42), (20, zbyo_180 39), (23, zbyo_157 7), (26, zbyo_27), (27, zbyo_154 16)]
theorem zbyb_648 : zbys zbyl_648 (cX12_liars.data.toList.drop 0) 0 = true := by decide +kernel
theorem dX12_liars_0 : decode cX12_liars 0 = .ok (.aload_n 0, 1) := zby_g zbyb_648 (i := 0) rfl rfl
theorem dX12_liars_1 : decode cX12_liars 1 = .ok (.invokevirtual 326, 3) := zby_g zbyb_648 (i := 1) rfl rfl
theorem dX12_liars_4 : decode cX12_liars 4 = .ok (.istore_n 2, 1) := zby_g zbyb_648 (i := 2) rfl rfl
theorem dX12_liars_5 : decode cX12_liars 5 = .ok (.aload_n 0, 1) := zby_g zbyb_648 (i := 3) rfl rfl
theorem dX12_liars_6 : decode cX12_liars 6 = .ok (.iload_n 2, 1) := zby_g zbyb_648 (i := 4) rfl rfl
theorem dX12_liars_7 : decode cX12_liars 7 = .ok (.iconst (-1), 1) := zby_g zbyb_648 (i := 5) rfl rfl
theorem dX12_liars_8 : decode cX12_liars 8 = .ok (.if_icmp .ne 7, 3) := zby_g zbyb_648 (i := 6) rfl rfl
theorem dX12_liars_11 : decode cX12_liars 11 = .ok (.iconst 1, 1) := zby_g zbyb_648 (i := 7) rfl rfl
theorem dX12_liars_12 : decode cX12_liars 12 = .ok (.goto 4, 3) := zby_g zbyb_648 (i := 8) rfl rfl
theorem dX12_liars_15 : decode cX12_liars 15 = .ok (.iconst 0, 1) := zby_g zbyb_648 (i := 9) rfl rfl
theorem dX12_liars_16 : decode cX12_liars 16 = .ok (.putfield 39, 3) := zby_g zbyb_648 (i := 10) rfl rfl
theorem dX12_liars_19 : decode cX12_liars 19 = .ok (.aload_n 0, 1) := zby_g zbyb_648 (i := 11) rfl rfl
theorem dX12_liars_20 : decode cX12_liars 20 = .ok (.getfield 39, 3) := zby_g zbyb_648 (i := 12) rfl rfl
theorem dX12_liars_23 : decode cX12_liars 23 = .ok (.ifCond .gt 7, 3) := zby_g zbyb_648 (i := 13) rfl rfl
theorem dX12_liars_26 : decode cX12_liars 26 = .ok (.iload_n 1, 1) := zby_g zbyb_648 (i := 14) rfl rfl
theorem dX12_liars_27 : decode cX12_liars 27 = .ok (.ifCond .ne 16, 3) := zby_g zbyb_648 (i := 15) rfl rfl
noncomputable def zbyl_649 : List (Nat × zbyE) := [(30, zbyo_42), (31, zbyo_180 39), (34, zbyo_158 7), (37, zbyo_3), (38, zbyo_167 4), (41, zbyo_28), (42, zbyo_172), (43, zbyo_28), (44, zbyo_154 7), (47, zbyo_3), (48, zbyo_167 13), (51, zbyo_4), (52, zbyo_42), (53, zbyo_180 7), (56, zbyo_6), (57, zbyo_46)]
theorem zbyb_649 : zbys zbyl_649 (cX12_liars.data.toList.drop 30) 30 = true := by decide +kernel
theorem dX12_liars_30 : decode cX12_liars 30 = .ok (.aload_n 0, 1) := zby_g zbyb_649 (i := 0) rfl rfl
theorem dX12_liars_31 : decode cX12_liars 31 = .ok (.getfield 39, 3) := zby_g zbyb_649 (i := 1) rfl rfl
theorem dX12_liars_34 : decode cX12_liars 34 = .ok (.ifCond .le 7, 3) := zby_g zbyb_649 (i := 2) rfl rfl
theorem dX12_liars_37 : decode cX12_liars 37 = .ok (.iconst 0, 1) := zby_g zbyb_649 (i := 3) rfl rfl
theorem dX12_liars_38 : decode cX12_liars 38 = .ok (.goto 4, 3) := zby_g zbyb_649 (i := 4) rfl rfl
theorem dX12_liars_41 : decode cX12_liars 41 = .ok (.iload_n 2, 1) := zby_g zbyb_649 (i := 5) rfl rfl
theorem dX12_liars_42 : decode cX12_liars 42 = .ok (.ireturn, 1) := zby_g zbyb_649 (i := 6) rfl rfl
theorem dX12_liars_43 : decode cX12_liars 43 = .ok (.iload_n 2, 1) := zby_g zbyb_649 (i := 7) rfl rfl
theorem dX12_liars_44 : decode cX12_liars 44 = .ok (.ifCond .ne 7, 3) := zby_g zbyb_649 (i := 8) rfl rfl
theorem dX12_liars_47 : decode cX12_liars 47 = .ok (.iconst 0, 1) := zby_g zbyb_649 (i := 9) rfl rfl
theorem dX12_liars_48 : decode cX12_liars 48 = .ok (.goto 13, 3) := zby_g zbyb_649 (i := 10) rfl rfl
theorem dX12_liars_51 : decode cX12_liars 51 = .ok (.iconst 1, 1) := zby_g zbyb_649 (i := 11) rfl rfl
theorem dX12_liars_52 : decode cX12_liars 52 = .ok (.aload_n 0, 1) := zby_g zbyb_649 (i := 12) rfl rfl
theorem dX12_liars_53 : decode cX12_liars 53 = .ok (.getfield 7, 3) := zby_g zbyb_649 (i := 13) rfl rfl
theorem dX12_liars_56 : decode cX12_liars 56 = .ok (.iconst 3, 1) := zby_g zbyb_649 (i := 14) rfl rfl
theorem dX12_liars_57 : decode cX12_liars 57 = .ok (.iaload, 1) := zby_g zbyb_649 (i := 15) rfl rfl
noncomputable def zbyl_650 : List (Nat × zbyE) := [(58, zbyo_120), (59, zbyo_4), (60, zbyo_100), (61, zbyo_62), (62, zbyo_3), (63, zbyo_54 4), (65, zbyo_21 4), (67, zbyo_4), (68, zbyo_42), (69, zbyo_180 7), (72, zbyo_6), (73, zbyo_46), (74, zbyo_120), (75, zbyo_162 24), (78, zbyo_42), (79, zbyo_180 35)]
theorem zbyb_650 : zbys zbyl_650 (cX12_liars.data.toList.drop 58) 58 = true := by decide +kernel
theorem dX12_liars_58 : decode cX12_liars 58 = .ok (.ishl, 1) := zby_g zbyb_650 (i := 0) rfl rfl
theorem dX12_liars_59 : decode cX12_liars 59 = .ok (.iconst 1, 1) := zby_g zbyb_650 (i := 1) rfl rfl
theorem dX12_liars_60 : decode cX12_liars 60 = .ok (.isub, 1) := zby_g zbyb_650 (i := 2) rfl rfl
theorem dX12_liars_61 : decode cX12_liars 61 = .ok (.istore_n 3, 1) := zby_g zbyb_650 (i := 3) rfl rfl
theorem dX12_liars_62 : decode cX12_liars 62 = .ok (.iconst 0, 1) := zby_g zbyb_650 (i := 4) rfl rfl
theorem dX12_liars_63 : decode cX12_liars 63 = .ok (.istore 4, 2) := zby_g zbyb_650 (i := 5) rfl rfl
theorem dX12_liars_65 : decode cX12_liars 65 = .ok (.iload 4, 2) := zby_g zbyb_650 (i := 6) rfl rfl
theorem dX12_liars_67 : decode cX12_liars 67 = .ok (.iconst 1, 1) := zby_g zbyb_650 (i := 7) rfl rfl
theorem dX12_liars_68 : decode cX12_liars 68 = .ok (.aload_n 0, 1) := zby_g zbyb_650 (i := 8) rfl rfl
theorem dX12_liars_69 : decode cX12_liars 69 = .ok (.getfield 7, 3) := zby_g zbyb_650 (i := 9) rfl rfl
theorem dX12_liars_72 : decode cX12_liars 72 = .ok (.iconst 3, 1) := zby_g zbyb_650 (i := 10) rfl rfl
theorem dX12_liars_73 : decode cX12_liars 73 = .ok (.iaload, 1) := zby_g zbyb_650 (i := 11) rfl rfl
theorem dX12_liars_74 : decode cX12_liars 74 = .ok (.ishl, 1) := zby_g zbyb_650 (i := 12) rfl rfl
theorem dX12_liars_75 : decode cX12_liars 75 = .ok (.if_icmp .ge 24, 3) := zby_g zbyb_650 (i := 13) rfl rfl
theorem dX12_liars_78 : decode cX12_liars 78 = .ok (.aload_n 0, 1) := zby_g zbyb_650 (i := 14) rfl rfl
theorem dX12_liars_79 : decode cX12_liars 79 = .ok (.getfield 35, 3) := zby_g zbyb_650 (i := 15) rfl rfl
noncomputable def zbyl_651 : List (Nat × zbyE) := [(82, zbyo_21 4), (84, zbyo_51), (85, zbyo_153 8), (88, zbyo_29), (89, zbyo_21 4), (91, zbyo_126), (92, zbyo_62), (93, zbyo_132 4 1), (96, zbyo_167 (-31)), (99, zbyo_29), (100, zbyo_172)]
theorem zbyb_651 : zbys zbyl_651 (cX12_liars.data.toList.drop 82) 82 = true := by decide +kernel
theorem dX12_liars_82 : decode cX12_liars 82 = .ok (.iload 4, 2) := zby_g zbyb_651 (i := 0) rfl rfl
theorem dX12_liars_84 : decode cX12_liars 84 = .ok (.baload, 1) := zby_g zbyb_651 (i := 1) rfl rfl
theorem dX12_liars_85 : decode cX12_liars 85 = .ok (.ifCond .eq 8, 3) := zby_g zbyb_651 (i := 2) rfl rfl
theorem dX12_liars_88 : decode cX12_liars 88 = .ok (.iload_n 3, 1) := zby_g zbyb_651 (i := 3) rfl rfl
theorem dX12_liars_89 : decode cX12_liars 89 = .ok (.iload 4, 2) := zby_g zbyb_651 (i := 4) rfl rfl
theorem dX12_liars_91 : decode cX12_liars 91 = .ok (.iand, 1) := zby_g zbyb_651 (i := 5) rfl rfl
theorem dX12_liars_92 : decode cX12_liars 92 = .ok (.istore_n 3, 1) := zby_g zbyb_651 (i := 6) rfl rfl
theorem dX12_liars_93 : decode cX12_liars 93 = .ok (.iinc 4 1, 3) := zby_g zbyb_651 (i := 7) rfl rfl
theorem dX12_liars_96 : decode cX12_liars 96 = .ok (.goto (-31), 3) := zby_g zbyb_651 (i := 8) rfl rfl
theorem dX12_liars_99 : decode cX12_liars 99 = .ok (.iload_n 3, 1) := zby_g zbyb_651 (i := 9) rfl rfl
theorem dX12_liars_100 : decode cX12_liars 100 = .ok (.ireturn, 1) := zby_g zbyb_651 (i := 10) rfl rfl
noncomputable def zbyl_652 : List (Nat × zbyE) := [(0, zbyo_42), (1, zbyo_182 326), (4, zbyo_60), (5, zbyo_42), (6, zbyo_27), (7, zbyo_2), (8, zbyo_160 7), (11, zbyo_4), (12, zbyo_167 4), (15, zbyo_3), (16, zbyo_181 39), (19, zbyo_42), (20, zbyo_180 39), (23, zbyo_158 5), (26, zbyo_3), (27, zbyo_172)]
theorem zbyb_652 : zbys zbyl_652 (cX12_ask.data.toList.drop 0) 0 = true := by decide +kernel
theorem dX12_ask_0 : decode cX12_ask 0 = .ok (.aload_n 0, 1) := zby_g zbyb_652 (i := 0) rfl rfl
theorem dX12_ask_1 : decode cX12_ask 1 = .ok (.invokevirtual 326, 3) := zby_g zbyb_652 (i := 1) rfl rfl
theorem dX12_ask_4 : decode cX12_ask 4 = .ok (.istore_n 1, 1) := zby_g zbyb_652 (i := 2) rfl rfl
theorem dX12_ask_5 : decode cX12_ask 5 = .ok (.aload_n 0, 1) := zby_g zbyb_652 (i := 3) rfl rfl
theorem dX12_ask_6 : decode cX12_ask 6 = .ok (.iload_n 1, 1) := zby_g zbyb_652 (i := 4) rfl rfl
theorem dX12_ask_7 : decode cX12_ask 7 = .ok (.iconst (-1), 1) := zby_g zbyb_652 (i := 5) rfl rfl
theorem dX12_ask_8 : decode cX12_ask 8 = .ok (.if_icmp .ne 7, 3) := zby_g zbyb_652 (i := 6) rfl rfl
theorem dX12_ask_11 : decode cX12_ask 11 = .ok (.iconst 1, 1) := zby_g zbyb_652 (i := 7) rfl rfl
theorem dX12_ask_12 : decode cX12_ask 12 = .ok (.goto 4, 3) := zby_g zbyb_652 (i := 8) rfl rfl
theorem dX12_ask_15 : decode cX12_ask 15 = .ok (.iconst 0, 1) := zby_g zbyb_652 (i := 9) rfl rfl
theorem dX12_ask_16 : decode cX12_ask 16 = .ok (.putfield 39, 3) := zby_g zbyb_652 (i := 10) rfl rfl
theorem dX12_ask_19 : decode cX12_ask 19 = .ok (.aload_n 0, 1) := zby_g zbyb_652 (i := 11) rfl rfl
theorem dX12_ask_20 : decode cX12_ask 20 = .ok (.getfield 39, 3) := zby_g zbyb_652 (i := 12) rfl rfl
theorem dX12_ask_23 : decode cX12_ask 23 = .ok (.ifCond .le 5, 3) := zby_g zbyb_652 (i := 13) rfl rfl
theorem dX12_ask_26 : decode cX12_ask 26 = .ok (.iconst 0, 1) := zby_g zbyb_652 (i := 14) rfl rfl
theorem dX12_ask_27 : decode cX12_ask 27 = .ok (.ireturn, 1) := zby_g zbyb_652 (i := 15) rfl rfl
noncomputable def zbyl_653 : List (Nat × zbyE) := [(28, zbyo_2), (29, zbyo_61), (30, zbyo_19 329), (33, zbyo_62), (34, zbyo_3), (35, zbyo_54 4), (37, zbyo_21 4), (39, zbyo_42), (40, zbyo_180 7), (43, zbyo_6), (44, zbyo_46), (45, zbyo_162 136), (48, zbyo_27), (49, zbyo_4), (50, zbyo_164 131), (53, zbyo_3)]
theorem zbyb_653 : zbys zbyl_653 (cX12_ask.data.toList.drop 28) 28 = true := by decide +kernel
theorem dX12_ask_28 : decode cX12_ask 28 = .ok (.iconst (-1), 1) := zby_g zbyb_653 (i := 0) rfl rfl
theorem dX12_ask_29 : decode cX12_ask 29 = .ok (.istore_n 2, 1) := zby_g zbyb_653 (i := 1) rfl rfl
theorem dX12_ask_30 : decode cX12_ask 30 = .ok (.ldc_w 329, 3) := zby_g zbyb_653 (i := 2) rfl rfl
theorem dX12_ask_33 : decode cX12_ask 33 = .ok (.istore_n 3, 1) := zby_g zbyb_653 (i := 3) rfl rfl
theorem dX12_ask_34 : decode cX12_ask 34 = .ok (.iconst 0, 1) := zby_g zbyb_653 (i := 4) rfl rfl
theorem dX12_ask_35 : decode cX12_ask 35 = .ok (.istore 4, 2) := zby_g zbyb_653 (i := 5) rfl rfl
theorem dX12_ask_37 : decode cX12_ask 37 = .ok (.iload 4, 2) := zby_g zbyb_653 (i := 6) rfl rfl
theorem dX12_ask_39 : decode cX12_ask 39 = .ok (.aload_n 0, 1) := zby_g zbyb_653 (i := 7) rfl rfl
theorem dX12_ask_40 : decode cX12_ask 40 = .ok (.getfield 7, 3) := zby_g zbyb_653 (i := 8) rfl rfl
theorem dX12_ask_43 : decode cX12_ask 43 = .ok (.iconst 3, 1) := zby_g zbyb_653 (i := 9) rfl rfl
theorem dX12_ask_44 : decode cX12_ask 44 = .ok (.iaload, 1) := zby_g zbyb_653 (i := 10) rfl rfl
theorem dX12_ask_45 : decode cX12_ask 45 = .ok (.if_icmp .ge 136, 3) := zby_g zbyb_653 (i := 11) rfl rfl
theorem dX12_ask_48 : decode cX12_ask 48 = .ok (.iload_n 1, 1) := zby_g zbyb_653 (i := 12) rfl rfl
theorem dX12_ask_49 : decode cX12_ask 49 = .ok (.iconst 1, 1) := zby_g zbyb_653 (i := 13) rfl rfl
theorem dX12_ask_50 : decode cX12_ask 50 = .ok (.if_icmp .le 131, 3) := zby_g zbyb_653 (i := 14) rfl rfl
theorem dX12_ask_53 : decode cX12_ask 53 = .ok (.iconst 0, 1) := zby_g zbyb_653 (i := 15) rfl rfl
noncomputable def zbyl_654 : List (Nat × zbyE) := [(54, zbyo_54 5), (56, zbyo_21 5), (58, zbyo_42), (59, zbyo_180 7), (62, zbyo_6), (63, zbyo_46), (64, zbyo_162 111), (67, zbyo_21 4), (69, zbyo_21 5), (71, zbyo_160 6), (74, zbyo_167 95), (77, zbyo_3), (78, zbyo_54 6), (80, zbyo_3), (81, zbyo_54 7), (83, zbyo_21 7)]
theorem zbyb_654 : zbys zbyl_654 (cX12_ask.data.toList.drop 54) 54 = true := by decide +kernel
theorem dX12_ask_54 : decode cX12_ask 54 = .ok (.istore 5, 2) := zby_g zbyb_654 (i := 0) rfl rfl
theorem dX12_ask_56 : decode cX12_ask 56 = .ok (.iload 5, 2) := zby_g zbyb_654 (i := 1) rfl rfl
theorem dX12_ask_58 : decode cX12_ask 58 = .ok (.aload_n 0, 1) := zby_g zbyb_654 (i := 2) rfl rfl
theorem dX12_ask_59 : decode cX12_ask 59 = .ok (.getfield 7, 3) := zby_g zbyb_654 (i := 3) rfl rfl
theorem dX12_ask_62 : decode cX12_ask 62 = .ok (.iconst 3, 1) := zby_g zbyb_654 (i := 4) rfl rfl
theorem dX12_ask_63 : decode cX12_ask 63 = .ok (.iaload, 1) := zby_g zbyb_654 (i := 5) rfl rfl
theorem dX12_ask_64 : decode cX12_ask 64 = .ok (.if_icmp .ge 111, 3) := zby_g zbyb_654 (i := 6) rfl rfl
theorem dX12_ask_67 : decode cX12_ask 67 = .ok (.iload 4, 2) := zby_g zbyb_654 (i := 7) rfl rfl
theorem dX12_ask_69 : decode cX12_ask 69 = .ok (.iload 5, 2) := zby_g zbyb_654 (i := 8) rfl rfl
theorem dX12_ask_71 : decode cX12_ask 71 = .ok (.if_icmp .ne 6, 3) := zby_g zbyb_654 (i := 9) rfl rfl
theorem dX12_ask_74 : decode cX12_ask 74 = .ok (.goto 95, 3) := zby_g zbyb_654 (i := 10) rfl rfl
theorem dX12_ask_77 : decode cX12_ask 77 = .ok (.iconst 0, 1) := zby_g zbyb_654 (i := 11) rfl rfl
theorem dX12_ask_78 : decode cX12_ask 78 = .ok (.istore 6, 2) := zby_g zbyb_654 (i := 12) rfl rfl
theorem dX12_ask_80 : decode cX12_ask 80 = .ok (.iconst 0, 1) := zby_g zbyb_654 (i := 13) rfl rfl
theorem dX12_ask_81 : decode cX12_ask 81 = .ok (.istore 7, 2) := zby_g zbyb_654 (i := 14) rfl rfl
theorem dX12_ask_83 : decode cX12_ask 83 = .ok (.iload 7, 2) := zby_g zbyb_654 (i := 15) rfl rfl
noncomputable def zbyl_655 : List (Nat × zbyE) := [(85, zbyo_4), (86, zbyo_42), (87, zbyo_180 7), (90, zbyo_6), (91, zbyo_46), (92, zbyo_120), (93, zbyo_162 41), (96, zbyo_21 6), (98, zbyo_42), (99, zbyo_180 35), (102, zbyo_21 7), (104, zbyo_51), (105, zbyo_153 19), (108, zbyo_21 7), (110, zbyo_21 4), (112, zbyo_21 5)]
theorem zbyb_655 : zbys zbyl_655 (cX12_ask.data.toList.drop 85) 85 = true := by decide +kernel
theorem dX12_ask_85 : decode cX12_ask 85 = .ok (.iconst 1, 1) := zby_g zbyb_655 (i := 0) rfl rfl
theorem dX12_ask_86 : decode cX12_ask 86 = .ok (.aload_n 0, 1) := zby_g zbyb_655 (i := 1) rfl rfl
theorem dX12_ask_87 : decode cX12_ask 87 = .ok (.getfield 7, 3) := zby_g zbyb_655 (i := 2) rfl rfl
theorem dX12_ask_90 : decode cX12_ask 90 = .ok (.iconst 3, 1) := zby_g zbyb_655 (i := 3) rfl rfl
theorem dX12_ask_91 : decode cX12_ask 91 = .ok (.iaload, 1) := zby_g zbyb_655 (i := 4) rfl rfl
theorem dX12_ask_92 : decode cX12_ask 92 = .ok (.ishl, 1) := zby_g zbyb_655 (i := 5) rfl rfl
theorem dX12_ask_93 : decode cX12_ask 93 = .ok (.if_icmp .ge 41, 3) := zby_g zbyb_655 (i := 6) rfl rfl
theorem dX12_ask_96 : decode cX12_ask 96 = .ok (.iload 6, 2) := zby_g zbyb_655 (i := 7) rfl rfl
theorem dX12_ask_98 : decode cX12_ask 98 = .ok (.aload_n 0, 1) := zby_g zbyb_655 (i := 8) rfl rfl
theorem dX12_ask_99 : decode cX12_ask 99 = .ok (.getfield 35, 3) := zby_g zbyb_655 (i := 9) rfl rfl
theorem dX12_ask_102 : decode cX12_ask 102 = .ok (.iload 7, 2) := zby_g zbyb_655 (i := 10) rfl rfl
theorem dX12_ask_104 : decode cX12_ask 104 = .ok (.baload, 1) := zby_g zbyb_655 (i := 11) rfl rfl
theorem dX12_ask_105 : decode cX12_ask 105 = .ok (.ifCond .eq 19, 3) := zby_g zbyb_655 (i := 12) rfl rfl
theorem dX12_ask_108 : decode cX12_ask 108 = .ok (.iload 7, 2) := zby_g zbyb_655 (i := 13) rfl rfl
theorem dX12_ask_110 : decode cX12_ask 110 = .ok (.iload 4, 2) := zby_g zbyb_655 (i := 14) rfl rfl
theorem dX12_ask_112 : decode cX12_ask 112 = .ok (.iload 5, 2) := zby_g zbyb_655 (i := 15) rfl rfl
noncomputable def zbyl_656 : List (Nat × zbyE) := [(114, zbyo_184 323), (117, zbyo_153 7), (120, zbyo_4), (121, zbyo_167 4), (124, zbyo_3), (125, zbyo_96), (126, zbyo_54 6), (128, zbyo_132 7 1), (131, zbyo_167 (-48)), (134, zbyo_21 6), (136, zbyo_27), (137, zbyo_21 6), (139, zbyo_100), (140, zbyo_184 251), (143, zbyo_29), (144, zbyo_161 6)]
theorem zbyb_656 : zbys zbyl_656 (cX12_ask.data.toList.drop 114) 114 = true := by decide +kernel
theorem dX12_ask_114 : decode cX12_ask 114 = .ok (.invokestatic 323, 3) := zby_g zbyb_656 (i := 0) rfl rfl
theorem dX12_ask_117 : decode cX12_ask 117 = .ok (.ifCond .eq 7, 3) := zby_g zbyb_656 (i := 1) rfl rfl
theorem dX12_ask_120 : decode cX12_ask 120 = .ok (.iconst 1, 1) := zby_g zbyb_656 (i := 2) rfl rfl
theorem dX12_ask_121 : decode cX12_ask 121 = .ok (.goto 4, 3) := zby_g zbyb_656 (i := 3) rfl rfl
theorem dX12_ask_124 : decode cX12_ask 124 = .ok (.iconst 0, 1) := zby_g zbyb_656 (i := 4) rfl rfl
theorem dX12_ask_125 : decode cX12_ask 125 = .ok (.iadd, 1) := zby_g zbyb_656 (i := 5) rfl rfl
theorem dX12_ask_126 : decode cX12_ask 126 = .ok (.istore 6, 2) := zby_g zbyb_656 (i := 6) rfl rfl
theorem dX12_ask_128 : decode cX12_ask 128 = .ok (.iinc 7 1, 3) := zby_g zbyb_656 (i := 7) rfl rfl
theorem dX12_ask_131 : decode cX12_ask 131 = .ok (.goto (-48), 3) := zby_g zbyb_656 (i := 8) rfl rfl
theorem dX12_ask_134 : decode cX12_ask 134 = .ok (.iload 6, 2) := zby_g zbyb_656 (i := 9) rfl rfl
theorem dX12_ask_136 : decode cX12_ask 136 = .ok (.iload_n 1, 1) := zby_g zbyb_656 (i := 10) rfl rfl
theorem dX12_ask_137 : decode cX12_ask 137 = .ok (.iload 6, 2) := zby_g zbyb_656 (i := 11) rfl rfl
theorem dX12_ask_139 : decode cX12_ask 139 = .ok (.isub, 1) := zby_g zbyb_656 (i := 12) rfl rfl
theorem dX12_ask_140 : decode cX12_ask 140 = .ok (.invokestatic 251, 3) := zby_g zbyb_656 (i := 13) rfl rfl
theorem dX12_ask_143 : decode cX12_ask 143 = .ok (.iload_n 3, 1) := zby_g zbyb_656 (i := 14) rfl rfl
theorem dX12_ask_144 : decode cX12_ask 144 = .ok (.if_icmp .lt 6, 3) := zby_g zbyb_656 (i := 15) rfl rfl
noncomputable def zbyl_657 : List (Nat × zbyE) := [(147, zbyo_167 22), (150, zbyo_21 6), (152, zbyo_27), (153, zbyo_21 6), (155, zbyo_100), (156, zbyo_184 251), (159, zbyo_62), (160, zbyo_16 10), (162, zbyo_21 4), (164, zbyo_104), (165, zbyo_21 5), (167, zbyo_96), (168, zbyo_61), (169, zbyo_132 5 1), (172, zbyo_167 (-116)), (175, zbyo_132 4 1)]
theorem zbyb_657 : zbys zbyl_657 (cX12_ask.data.toList.drop 147) 147 = true := by decide +kernel
theorem dX12_ask_147 : decode cX12_ask 147 = .ok (.goto 22, 3) := zby_g zbyb_657 (i := 0) rfl rfl
theorem dX12_ask_150 : decode cX12_ask 150 = .ok (.iload 6, 2) := zby_g zbyb_657 (i := 1) rfl rfl
theorem dX12_ask_152 : decode cX12_ask 152 = .ok (.iload_n 1, 1) := zby_g zbyb_657 (i := 2) rfl rfl
theorem dX12_ask_153 : decode cX12_ask 153 = .ok (.iload 6, 2) := zby_g zbyb_657 (i := 3) rfl rfl
theorem dX12_ask_155 : decode cX12_ask 155 = .ok (.isub, 1) := zby_g zbyb_657 (i := 4) rfl rfl
theorem dX12_ask_156 : decode cX12_ask 156 = .ok (.invokestatic 251, 3) := zby_g zbyb_657 (i := 5) rfl rfl
theorem dX12_ask_159 : decode cX12_ask 159 = .ok (.istore_n 3, 1) := zby_g zbyb_657 (i := 6) rfl rfl
theorem dX12_ask_160 : decode cX12_ask 160 = .ok (.bipush 10, 2) := zby_g zbyb_657 (i := 7) rfl rfl
theorem dX12_ask_162 : decode cX12_ask 162 = .ok (.iload 4, 2) := zby_g zbyb_657 (i := 8) rfl rfl
theorem dX12_ask_164 : decode cX12_ask 164 = .ok (.imul, 1) := zby_g zbyb_657 (i := 9) rfl rfl
theorem dX12_ask_165 : decode cX12_ask 165 = .ok (.iload 5, 2) := zby_g zbyb_657 (i := 10) rfl rfl
theorem dX12_ask_167 : decode cX12_ask 167 = .ok (.iadd, 1) := zby_g zbyb_657 (i := 11) rfl rfl
theorem dX12_ask_168 : decode cX12_ask 168 = .ok (.istore_n 2, 1) := zby_g zbyb_657 (i := 12) rfl rfl
theorem dX12_ask_169 : decode cX12_ask 169 = .ok (.iinc 5 1, 3) := zby_g zbyb_657 (i := 13) rfl rfl
theorem dX12_ask_172 : decode cX12_ask 172 = .ok (.goto (-116), 3) := zby_g zbyb_657 (i := 14) rfl rfl
theorem dX12_ask_175 : decode cX12_ask 175 = .ok (.iinc 4 1, 3) := zby_g zbyb_657 (i := 15) rfl rfl
noncomputable def zbyl_658 : List (Nat × zbyE) := [(178, zbyo_167 (-141)), (181, zbyo_28), (182, zbyo_172)]
theorem zbyb_658 : zbys zbyl_658 (cX12_ask.data.toList.drop 178) 178 = true := by decide +kernel
theorem dX12_ask_178 : decode cX12_ask 178 = .ok (.goto (-141), 3) := zby_g zbyb_658 (i := 0) rfl rfl
theorem dX12_ask_181 : decode cX12_ask 181 = .ok (.iload_n 2, 1) := zby_g zbyb_658 (i := 1) rfl rfl
theorem dX12_ask_182 : decode cX12_ask 182 = .ok (.ireturn, 1) := zby_g zbyb_658 (i := 2) rfl rfl
noncomputable def zbyl_659 : List (Nat × zbyE) := [(0, zbyo_27), (1, zbyo_62), (2, zbyo_3), (3, zbyo_54 4), (5, zbyo_21 4), (7, zbyo_28), (8, zbyo_162 87), (11, zbyo_29), (12, zbyo_54 5), (14, zbyo_3), (15, zbyo_54 6), (17, zbyo_21 6), (19, zbyo_42), (20, zbyo_180 7), (23, zbyo_6), (24, zbyo_46)]
theorem zbyb_659 : zbys zbyl_659 (cX12_passes.data.toList.drop 0) 0 = true := by decide +kernel
theorem dX12_passes_0 : decode cX12_passes 0 = .ok (.iload_n 1, 1) := zby_g zbyb_659 (i := 0) rfl rfl
theorem dX12_passes_1 : decode cX12_passes 1 = .ok (.istore_n 3, 1) := zby_g zbyb_659 (i := 1) rfl rfl
theorem dX12_passes_2 : decode cX12_passes 2 = .ok (.iconst 0, 1) := zby_g zbyb_659 (i := 2) rfl rfl
theorem dX12_passes_3 : decode cX12_passes 3 = .ok (.istore 4, 2) := zby_g zbyb_659 (i := 3) rfl rfl
theorem dX12_passes_5 : decode cX12_passes 5 = .ok (.iload 4, 2) := zby_g zbyb_659 (i := 4) rfl rfl
theorem dX12_passes_7 : decode cX12_passes 7 = .ok (.iload_n 2, 1) := zby_g zbyb_659 (i := 5) rfl rfl
theorem dX12_passes_8 : decode cX12_passes 8 = .ok (.if_icmp .ge 87, 3) := zby_g zbyb_659 (i := 6) rfl rfl
theorem dX12_passes_11 : decode cX12_passes 11 = .ok (.iload_n 3, 1) := zby_g zbyb_659 (i := 7) rfl rfl
theorem dX12_passes_12 : decode cX12_passes 12 = .ok (.istore 5, 2) := zby_g zbyb_659 (i := 8) rfl rfl
theorem dX12_passes_14 : decode cX12_passes 14 = .ok (.iconst 0, 1) := zby_g zbyb_659 (i := 9) rfl rfl
theorem dX12_passes_15 : decode cX12_passes 15 = .ok (.istore 6, 2) := zby_g zbyb_659 (i := 10) rfl rfl
theorem dX12_passes_17 : decode cX12_passes 17 = .ok (.iload 6, 2) := zby_g zbyb_659 (i := 11) rfl rfl
theorem dX12_passes_19 : decode cX12_passes 19 = .ok (.aload_n 0, 1) := zby_g zbyb_659 (i := 12) rfl rfl
theorem dX12_passes_20 : decode cX12_passes 20 = .ok (.getfield 7, 3) := zby_g zbyb_659 (i := 13) rfl rfl
theorem dX12_passes_23 : decode cX12_passes 23 = .ok (.iconst 3, 1) := zby_g zbyb_659 (i := 14) rfl rfl
theorem dX12_passes_24 : decode cX12_passes 24 = .ok (.iaload, 1) := zby_g zbyb_659 (i := 15) rfl rfl
noncomputable def zbyl_660 : List (Nat × zbyE) := [(25, zbyo_162 64), (28, zbyo_3), (29, zbyo_54 7), (31, zbyo_21 7), (33, zbyo_42), (34, zbyo_180 7), (37, zbyo_6), (38, zbyo_46), (39, zbyo_162 44), (42, zbyo_21 6), (44, zbyo_21 7), (46, zbyo_159 31), (49, zbyo_21 5), (51, zbyo_21 7), (53, zbyo_184 296), (56, zbyo_153 21)]
theorem zbyb_660 : zbys zbyl_660 (cX12_passes.data.toList.drop 25) 25 = true := by decide +kernel
theorem dX12_passes_25 : decode cX12_passes 25 = .ok (.if_icmp .ge 64, 3) := zby_g zbyb_660 (i := 0) rfl rfl
theorem dX12_passes_28 : decode cX12_passes 28 = .ok (.iconst 0, 1) := zby_g zbyb_660 (i := 1) rfl rfl
theorem dX12_passes_29 : decode cX12_passes 29 = .ok (.istore 7, 2) := zby_g zbyb_660 (i := 2) rfl rfl
theorem dX12_passes_31 : decode cX12_passes 31 = .ok (.iload 7, 2) := zby_g zbyb_660 (i := 3) rfl rfl
theorem dX12_passes_33 : decode cX12_passes 33 = .ok (.aload_n 0, 1) := zby_g zbyb_660 (i := 4) rfl rfl
theorem dX12_passes_34 : decode cX12_passes 34 = .ok (.getfield 7, 3) := zby_g zbyb_660 (i := 5) rfl rfl
theorem dX12_passes_37 : decode cX12_passes 37 = .ok (.iconst 3, 1) := zby_g zbyb_660 (i := 6) rfl rfl
theorem dX12_passes_38 : decode cX12_passes 38 = .ok (.iaload, 1) := zby_g zbyb_660 (i := 7) rfl rfl
theorem dX12_passes_39 : decode cX12_passes 39 = .ok (.if_icmp .ge 44, 3) := zby_g zbyb_660 (i := 8) rfl rfl
theorem dX12_passes_42 : decode cX12_passes 42 = .ok (.iload 6, 2) := zby_g zbyb_660 (i := 9) rfl rfl
theorem dX12_passes_44 : decode cX12_passes 44 = .ok (.iload 7, 2) := zby_g zbyb_660 (i := 10) rfl rfl
theorem dX12_passes_46 : decode cX12_passes 46 = .ok (.if_icmp .eq 31, 3) := zby_g zbyb_660 (i := 11) rfl rfl
theorem dX12_passes_49 : decode cX12_passes 49 = .ok (.iload 5, 2) := zby_g zbyb_660 (i := 12) rfl rfl
theorem dX12_passes_51 : decode cX12_passes 51 = .ok (.iload 7, 2) := zby_g zbyb_660 (i := 13) rfl rfl
theorem dX12_passes_53 : decode cX12_passes 53 = .ok (.invokestatic 296, 3) := zby_g zbyb_660 (i := 14) rfl rfl
theorem dX12_passes_56 : decode cX12_passes 56 = .ok (.ifCond .eq 21, 3) := zby_g zbyb_660 (i := 15) rfl rfl
noncomputable def zbyl_661 : List (Nat × zbyE) := [(59, zbyo_42), (60, zbyo_21 6), (62, zbyo_21 7), (64, zbyo_182 71), (67, zbyo_158 10), (70, zbyo_29), (71, zbyo_4), (72, zbyo_21 6), (74, zbyo_120), (75, zbyo_128), (76, zbyo_62), (77, zbyo_132 7 1), (80, zbyo_167 (-49)), (83, zbyo_132 6 1), (86, zbyo_167 (-69)), (89, zbyo_132 4 1)]
theorem zbyb_661 : zbys zbyl_661 (cX12_passes.data.toList.drop 59) 59 = true := by decide +kernel
theorem dX12_passes_59 : decode cX12_passes 59 = .ok (.aload_n 0, 1) := zby_g zbyb_661 (i := 0) rfl rfl
theorem dX12_passes_60 : decode cX12_passes 60 = .ok (.iload 6, 2) := zby_g zbyb_661 (i := 1) rfl rfl
theorem dX12_passes_62 : decode cX12_passes 62 = .ok (.iload 7, 2) := zby_g zbyb_661 (i := 2) rfl rfl
theorem dX12_passes_64 : decode cX12_passes 64 = .ok (.invokevirtual 71, 3) := zby_g zbyb_661 (i := 3) rfl rfl
theorem dX12_passes_67 : decode cX12_passes 67 = .ok (.ifCond .le 10, 3) := zby_g zbyb_661 (i := 4) rfl rfl
theorem dX12_passes_70 : decode cX12_passes 70 = .ok (.iload_n 3, 1) := zby_g zbyb_661 (i := 5) rfl rfl
theorem dX12_passes_71 : decode cX12_passes 71 = .ok (.iconst 1, 1) := zby_g zbyb_661 (i := 6) rfl rfl
theorem dX12_passes_72 : decode cX12_passes 72 = .ok (.iload 6, 2) := zby_g zbyb_661 (i := 7) rfl rfl
theorem dX12_passes_74 : decode cX12_passes 74 = .ok (.ishl, 1) := zby_g zbyb_661 (i := 8) rfl rfl
theorem dX12_passes_75 : decode cX12_passes 75 = .ok (.ior, 1) := zby_g zbyb_661 (i := 9) rfl rfl
theorem dX12_passes_76 : decode cX12_passes 76 = .ok (.istore_n 3, 1) := zby_g zbyb_661 (i := 10) rfl rfl
theorem dX12_passes_77 : decode cX12_passes 77 = .ok (.iinc 7 1, 3) := zby_g zbyb_661 (i := 11) rfl rfl
theorem dX12_passes_80 : decode cX12_passes 80 = .ok (.goto (-49), 3) := zby_g zbyb_661 (i := 12) rfl rfl
theorem dX12_passes_83 : decode cX12_passes 83 = .ok (.iinc 6 1, 3) := zby_g zbyb_661 (i := 13) rfl rfl
theorem dX12_passes_86 : decode cX12_passes 86 = .ok (.goto (-69), 3) := zby_g zbyb_661 (i := 14) rfl rfl
theorem dX12_passes_89 : decode cX12_passes 89 = .ok (.iinc 4 1, 3) := zby_g zbyb_661 (i := 15) rfl rfl
noncomputable def zbyl_662 : List (Nat × zbyE) := [(92, zbyo_167 (-87)), (95, zbyo_29), (96, zbyo_172)]
theorem zbyb_662 : zbys zbyl_662 (cX12_passes.data.toList.drop 92) 92 = true := by decide +kernel
theorem dX12_passes_92 : decode cX12_passes 92 = .ok (.goto (-87), 3) := zby_g zbyb_662 (i := 0) rfl rfl
theorem dX12_passes_95 : decode cX12_passes 95 = .ok (.iload_n 3, 1) := zby_g zbyb_662 (i := 1) rfl rfl
theorem dX12_passes_96 : decode cX12_passes 96 = .ok (.ireturn, 1) := zby_g zbyb_662 (i := 2) rfl rfl
noncomputable def zbyl_663 : List (Nat × zbyE) := [(0, zbyo_42), (1, zbyo_42), (2, zbyo_27), (3, zbyo_182 280), (6, zbyo_154 7), (9, zbyo_4), (10, zbyo_167 4), (13, zbyo_3), (14, zbyo_181 39), (17, zbyo_42), (18, zbyo_180 39), (21, zbyo_158 7), (24, zbyo_3), (25, zbyo_167 18), (28, zbyo_42), (29, zbyo_4)]
theorem zbyb_663 : zbys zbyl_663 (cX12_word.data.toList.drop 0) 0 = true := by decide +kernel
theorem dX12_word_0 : decode cX12_word 0 = .ok (.aload_n 0, 1) := zby_g zbyb_663 (i := 0) rfl rfl
theorem dX12_word_1 : decode cX12_word 1 = .ok (.aload_n 0, 1) := zby_g zbyb_663 (i := 1) rfl rfl
theorem dX12_word_2 : decode cX12_word 2 = .ok (.iload_n 1, 1) := zby_g zbyb_663 (i := 2) rfl rfl
theorem dX12_word_3 : decode cX12_word 3 = .ok (.invokevirtual 280, 3) := zby_g zbyb_663 (i := 3) rfl rfl
theorem dX12_word_6 : decode cX12_word 6 = .ok (.ifCond .ne 7, 3) := zby_g zbyb_663 (i := 4) rfl rfl
theorem dX12_word_9 : decode cX12_word 9 = .ok (.iconst 1, 1) := zby_g zbyb_663 (i := 5) rfl rfl
theorem dX12_word_10 : decode cX12_word 10 = .ok (.goto 4, 3) := zby_g zbyb_663 (i := 6) rfl rfl
theorem dX12_word_13 : decode cX12_word 13 = .ok (.iconst 0, 1) := zby_g zbyb_663 (i := 7) rfl rfl
theorem dX12_word_14 : decode cX12_word 14 = .ok (.putfield 39, 3) := zby_g zbyb_663 (i := 8) rfl rfl
theorem dX12_word_17 : decode cX12_word 17 = .ok (.aload_n 0, 1) := zby_g zbyb_663 (i := 9) rfl rfl
theorem dX12_word_18 : decode cX12_word 18 = .ok (.getfield 39, 3) := zby_g zbyb_663 (i := 10) rfl rfl
theorem dX12_word_21 : decode cX12_word 21 = .ok (.ifCond .le 7, 3) := zby_g zbyb_663 (i := 11) rfl rfl
theorem dX12_word_24 : decode cX12_word 24 = .ok (.iconst 0, 1) := zby_g zbyb_663 (i := 12) rfl rfl
theorem dX12_word_25 : decode cX12_word 25 = .ok (.goto 18, 3) := zby_g zbyb_663 (i := 13) rfl rfl
theorem dX12_word_28 : decode cX12_word 28 = .ok (.aload_n 0, 1) := zby_g zbyb_663 (i := 14) rfl rfl
theorem dX12_word_29 : decode cX12_word 29 = .ok (.iconst 1, 1) := zby_g zbyb_663 (i := 15) rfl rfl
noncomputable def zbyl_664 : List (Nat × zbyE) := [(30, zbyo_27), (31, zbyo_120), (32, zbyo_16 8), (34, zbyo_182 330), (37, zbyo_4), (38, zbyo_27), (39, zbyo_120), (40, zbyo_2), (41, zbyo_130), (42, zbyo_126), (43, zbyo_172)]
theorem zbyb_664 : zbys zbyl_664 (cX12_word.data.toList.drop 30) 30 = true := by decide +kernel
theorem dX12_word_30 : decode cX12_word 30 = .ok (.iload_n 1, 1) := zby_g zbyb_664 (i := 0) rfl rfl
theorem dX12_word_31 : decode cX12_word 31 = .ok (.ishl, 1) := zby_g zbyb_664 (i := 1) rfl rfl
theorem dX12_word_32 : decode cX12_word 32 = .ok (.bipush 8, 2) := zby_g zbyb_664 (i := 2) rfl rfl
theorem dX12_word_34 : decode cX12_word 34 = .ok (.invokevirtual 330, 3) := zby_g zbyb_664 (i := 3) rfl rfl
theorem dX12_word_37 : decode cX12_word 37 = .ok (.iconst 1, 1) := zby_g zbyb_664 (i := 4) rfl rfl
theorem dX12_word_38 : decode cX12_word 38 = .ok (.iload_n 1, 1) := zby_g zbyb_664 (i := 5) rfl rfl
theorem dX12_word_39 : decode cX12_word 39 = .ok (.ishl, 1) := zby_g zbyb_664 (i := 6) rfl rfl
theorem dX12_word_40 : decode cX12_word 40 = .ok (.iconst (-1), 1) := zby_g zbyb_664 (i := 7) rfl rfl
theorem dX12_word_41 : decode cX12_word 41 = .ok (.ixor, 1) := zby_g zbyb_664 (i := 8) rfl rfl
theorem dX12_word_42 : decode cX12_word 42 = .ok (.iand, 1) := zby_g zbyb_664 (i := 9) rfl rfl
theorem dX12_word_43 : decode cX12_word 43 = .ok (.ireturn, 1) := zby_g zbyb_664 (i := 10) rfl rfl
noncomputable def zbyl_665 : List (Nat × zbyE) := [(0, zbyo_42), (1, zbyo_42), (2, zbyo_27), (3, zbyo_182 280), (6, zbyo_153 11), (9, zbyo_42), (10, zbyo_28), (11, zbyo_182 280), (14, zbyo_154 7), (17, zbyo_4), (18, zbyo_167 13), (21, zbyo_27), (22, zbyo_28), (23, zbyo_160 7), (26, zbyo_5), (27, zbyo_167 4)]
theorem zbyb_665 : zbys zbyl_665 (cX12_steps.data.toList.drop 0) 0 = true := by decide +kernel
theorem dX12_steps_0 : decode cX12_steps 0 = .ok (.aload_n 0, 1) := zby_g zbyb_665 (i := 0) rfl rfl
theorem dX12_steps_1 : decode cX12_steps 1 = .ok (.aload_n 0, 1) := zby_g zbyb_665 (i := 1) rfl rfl
theorem dX12_steps_2 : decode cX12_steps 2 = .ok (.iload_n 1, 1) := zby_g zbyb_665 (i := 2) rfl rfl
theorem dX12_steps_3 : decode cX12_steps 3 = .ok (.invokevirtual 280, 3) := zby_g zbyb_665 (i := 3) rfl rfl
theorem dX12_steps_6 : decode cX12_steps 6 = .ok (.ifCond .eq 11, 3) := zby_g zbyb_665 (i := 4) rfl rfl
theorem dX12_steps_9 : decode cX12_steps 9 = .ok (.aload_n 0, 1) := zby_g zbyb_665 (i := 5) rfl rfl
theorem dX12_steps_10 : decode cX12_steps 10 = .ok (.iload_n 2, 1) := zby_g zbyb_665 (i := 6) rfl rfl
theorem dX12_steps_11 : decode cX12_steps 11 = .ok (.invokevirtual 280, 3) := zby_g zbyb_665 (i := 7) rfl rfl
theorem dX12_steps_14 : decode cX12_steps 14 = .ok (.ifCond .ne 7, 3) := zby_g zbyb_665 (i := 8) rfl rfl
theorem dX12_steps_17 : decode cX12_steps 17 = .ok (.iconst 1, 1) := zby_g zbyb_665 (i := 9) rfl rfl
theorem dX12_steps_18 : decode cX12_steps 18 = .ok (.goto 13, 3) := zby_g zbyb_665 (i := 10) rfl rfl
theorem dX12_steps_21 : decode cX12_steps 21 = .ok (.iload_n 1, 1) := zby_g zbyb_665 (i := 11) rfl rfl
theorem dX12_steps_22 : decode cX12_steps 22 = .ok (.iload_n 2, 1) := zby_g zbyb_665 (i := 12) rfl rfl
theorem dX12_steps_23 : decode cX12_steps 23 = .ok (.if_icmp .ne 7, 3) := zby_g zbyb_665 (i := 13) rfl rfl
theorem dX12_steps_26 : decode cX12_steps 26 = .ok (.iconst 2, 1) := zby_g zbyb_665 (i := 14) rfl rfl
theorem dX12_steps_27 : decode cX12_steps 27 = .ok (.goto 4, 3) := zby_g zbyb_665 (i := 15) rfl rfl
noncomputable def zbyl_666 : List (Nat × zbyE) := [(30, zbyo_3), (31, zbyo_181 39), (34, zbyo_42), (35, zbyo_180 39), (38, zbyo_158 5), (41, zbyo_3), (42, zbyo_172), (43, zbyo_4), (44, zbyo_62), (45, zbyo_29), (46, zbyo_16 8), (48, zbyo_162 26), (51, zbyo_42), (52, zbyo_4), (53, zbyo_27), (54, zbyo_120)]
theorem zbyb_666 : zbys zbyl_666 (cX12_steps.data.toList.drop 30) 30 = true := by decide +kernel
theorem dX12_steps_30 : decode cX12_steps 30 = .ok (.iconst 0, 1) := zby_g zbyb_666 (i := 0) rfl rfl
theorem dX12_steps_31 : decode cX12_steps 31 = .ok (.putfield 39, 3) := zby_g zbyb_666 (i := 1) rfl rfl
theorem dX12_steps_34 : decode cX12_steps 34 = .ok (.aload_n 0, 1) := zby_g zbyb_666 (i := 2) rfl rfl
theorem dX12_steps_35 : decode cX12_steps 35 = .ok (.getfield 39, 3) := zby_g zbyb_666 (i := 3) rfl rfl
theorem dX12_steps_38 : decode cX12_steps 38 = .ok (.ifCond .le 5, 3) := zby_g zbyb_666 (i := 4) rfl rfl
theorem dX12_steps_41 : decode cX12_steps 41 = .ok (.iconst 0, 1) := zby_g zbyb_666 (i := 5) rfl rfl
theorem dX12_steps_42 : decode cX12_steps 42 = .ok (.ireturn, 1) := zby_g zbyb_666 (i := 6) rfl rfl
theorem dX12_steps_43 : decode cX12_steps 43 = .ok (.iconst 1, 1) := zby_g zbyb_666 (i := 7) rfl rfl
theorem dX12_steps_44 : decode cX12_steps 44 = .ok (.istore_n 3, 1) := zby_g zbyb_666 (i := 8) rfl rfl
theorem dX12_steps_45 : decode cX12_steps 45 = .ok (.iload_n 3, 1) := zby_g zbyb_666 (i := 9) rfl rfl
theorem dX12_steps_46 : decode cX12_steps 46 = .ok (.bipush 8, 2) := zby_g zbyb_666 (i := 10) rfl rfl
theorem dX12_steps_48 : decode cX12_steps 48 = .ok (.if_icmp .ge 26, 3) := zby_g zbyb_666 (i := 11) rfl rfl
theorem dX12_steps_51 : decode cX12_steps 51 = .ok (.aload_n 0, 1) := zby_g zbyb_666 (i := 12) rfl rfl
theorem dX12_steps_52 : decode cX12_steps 52 = .ok (.iconst 1, 1) := zby_g zbyb_666 (i := 13) rfl rfl
theorem dX12_steps_53 : decode cX12_steps 53 = .ok (.iload_n 1, 1) := zby_g zbyb_666 (i := 14) rfl rfl
theorem dX12_steps_54 : decode cX12_steps 54 = .ok (.ishl, 1) := zby_g zbyb_666 (i := 15) rfl rfl
noncomputable def zbyl_667 : List (Nat × zbyE) := [(55, zbyo_29), (56, zbyo_182 330), (59, zbyo_28), (60, zbyo_184 296), (63, zbyo_153 5), (66, zbyo_29), (67, zbyo_172), (68, zbyo_132 3 1), (71, zbyo_167 (-26)), (74, zbyo_2), (75, zbyo_172)]
theorem zbyb_667 : zbys zbyl_667 (cX12_steps.data.toList.drop 55) 55 = true := by decide +kernel
theorem dX12_steps_55 : decode cX12_steps 55 = .ok (.iload_n 3, 1) := zby_g zbyb_667 (i := 0) rfl rfl
theorem dX12_steps_56 : decode cX12_steps 56 = .ok (.invokevirtual 330, 3) := zby_g zbyb_667 (i := 1) rfl rfl
theorem dX12_steps_59 : decode cX12_steps 59 = .ok (.iload_n 2, 1) := zby_g zbyb_667 (i := 2) rfl rfl
theorem dX12_steps_60 : decode cX12_steps 60 = .ok (.invokestatic 296, 3) := zby_g zbyb_667 (i := 3) rfl rfl
theorem dX12_steps_63 : decode cX12_steps 63 = .ok (.ifCond .eq 5, 3) := zby_g zbyb_667 (i := 4) rfl rfl
theorem dX12_steps_66 : decode cX12_steps 66 = .ok (.iload_n 3, 1) := zby_g zbyb_667 (i := 5) rfl rfl
theorem dX12_steps_67 : decode cX12_steps 67 = .ok (.ireturn, 1) := zby_g zbyb_667 (i := 6) rfl rfl
theorem dX12_steps_68 : decode cX12_steps 68 = .ok (.iinc 3 1, 3) := zby_g zbyb_667 (i := 7) rfl rfl
theorem dX12_steps_71 : decode cX12_steps 71 = .ok (.goto (-26), 3) := zby_g zbyb_667 (i := 8) rfl rfl
theorem dX12_steps_74 : decode cX12_steps 74 = .ok (.iconst (-1), 1) := zby_g zbyb_667 (i := 9) rfl rfl
theorem dX12_steps_75 : decode cX12_steps 75 = .ok (.ireturn, 1) := zby_g zbyb_667 (i := 10) rfl rfl
noncomputable def zbyl_668 : List (Nat × zbyE) := [(0, zbyo_4), (1, zbyo_27), (2, zbyo_120), (3, zbyo_61), (4, zbyo_42), (5, zbyo_4), (6, zbyo_27), (7, zbyo_120), (8, zbyo_16 8), (10, zbyo_182 330), (13, zbyo_62), (14, zbyo_3), (15, zbyo_54 4), (17, zbyo_21 4), (19, zbyo_42), (20, zbyo_180 7)]
theorem zbyb_668 : zbys zbyl_668 (cX12_circleOf.data.toList.drop 0) 0 = true := by decide +kernel
theorem dX12_circleOf_0 : decode cX12_circleOf 0 = .ok (.iconst 1, 1) := zby_g zbyb_668 (i := 0) rfl rfl
theorem dX12_circleOf_1 : decode cX12_circleOf 1 = .ok (.iload_n 1, 1) := zby_g zbyb_668 (i := 1) rfl rfl
theorem dX12_circleOf_2 : decode cX12_circleOf 2 = .ok (.ishl, 1) := zby_g zbyb_668 (i := 2) rfl rfl
theorem dX12_circleOf_3 : decode cX12_circleOf 3 = .ok (.istore_n 2, 1) := zby_g zbyb_668 (i := 3) rfl rfl
theorem dX12_circleOf_4 : decode cX12_circleOf 4 = .ok (.aload_n 0, 1) := zby_g zbyb_668 (i := 4) rfl rfl
theorem dX12_circleOf_5 : decode cX12_circleOf 5 = .ok (.iconst 1, 1) := zby_g zbyb_668 (i := 5) rfl rfl
theorem dX12_circleOf_6 : decode cX12_circleOf 6 = .ok (.iload_n 1, 1) := zby_g zbyb_668 (i := 6) rfl rfl
theorem dX12_circleOf_7 : decode cX12_circleOf 7 = .ok (.ishl, 1) := zby_g zbyb_668 (i := 7) rfl rfl
theorem dX12_circleOf_8 : decode cX12_circleOf 8 = .ok (.bipush 8, 2) := zby_g zbyb_668 (i := 8) rfl rfl
theorem dX12_circleOf_10 : decode cX12_circleOf 10 = .ok (.invokevirtual 330, 3) := zby_g zbyb_668 (i := 9) rfl rfl
theorem dX12_circleOf_13 : decode cX12_circleOf 13 = .ok (.istore_n 3, 1) := zby_g zbyb_668 (i := 10) rfl rfl
theorem dX12_circleOf_14 : decode cX12_circleOf 14 = .ok (.iconst 0, 1) := zby_g zbyb_668 (i := 11) rfl rfl
theorem dX12_circleOf_15 : decode cX12_circleOf 15 = .ok (.istore 4, 2) := zby_g zbyb_668 (i := 12) rfl rfl
theorem dX12_circleOf_17 : decode cX12_circleOf 17 = .ok (.iload 4, 2) := zby_g zbyb_668 (i := 13) rfl rfl
theorem dX12_circleOf_19 : decode cX12_circleOf 19 = .ok (.aload_n 0, 1) := zby_g zbyb_668 (i := 14) rfl rfl
theorem dX12_circleOf_20 : decode cX12_circleOf 20 = .ok (.getfield 7, 3) := zby_g zbyb_668 (i := 15) rfl rfl
noncomputable def zbyl_669 : List (Nat × zbyE) := [(23, zbyo_6), (24, zbyo_46), (25, zbyo_162 42), (28, zbyo_29), (29, zbyo_21 4), (31, zbyo_184 296), (34, zbyo_153 27), (37, zbyo_42), (38, zbyo_4), (39, zbyo_21 4), (41, zbyo_120), (42, zbyo_16 8), (44, zbyo_182 330), (47, zbyo_27), (48, zbyo_184 296), (51, zbyo_153 10)]
theorem zbyb_669 : zbys zbyl_669 (cX12_circleOf.data.toList.drop 23) 23 = true := by decide +kernel
theorem dX12_circleOf_23 : decode cX12_circleOf 23 = .ok (.iconst 3, 1) := zby_g zbyb_669 (i := 0) rfl rfl
theorem dX12_circleOf_24 : decode cX12_circleOf 24 = .ok (.iaload, 1) := zby_g zbyb_669 (i := 1) rfl rfl
theorem dX12_circleOf_25 : decode cX12_circleOf 25 = .ok (.if_icmp .ge 42, 3) := zby_g zbyb_669 (i := 2) rfl rfl
theorem dX12_circleOf_28 : decode cX12_circleOf 28 = .ok (.iload_n 3, 1) := zby_g zbyb_669 (i := 3) rfl rfl
theorem dX12_circleOf_29 : decode cX12_circleOf 29 = .ok (.iload 4, 2) := zby_g zbyb_669 (i := 4) rfl rfl
theorem dX12_circleOf_31 : decode cX12_circleOf 31 = .ok (.invokestatic 296, 3) := zby_g zbyb_669 (i := 5) rfl rfl
theorem dX12_circleOf_34 : decode cX12_circleOf 34 = .ok (.ifCond .eq 27, 3) := zby_g zbyb_669 (i := 6) rfl rfl
theorem dX12_circleOf_37 : decode cX12_circleOf 37 = .ok (.aload_n 0, 1) := zby_g zbyb_669 (i := 7) rfl rfl
theorem dX12_circleOf_38 : decode cX12_circleOf 38 = .ok (.iconst 1, 1) := zby_g zbyb_669 (i := 8) rfl rfl
theorem dX12_circleOf_39 : decode cX12_circleOf 39 = .ok (.iload 4, 2) := zby_g zbyb_669 (i := 9) rfl rfl
theorem dX12_circleOf_41 : decode cX12_circleOf 41 = .ok (.ishl, 1) := zby_g zbyb_669 (i := 10) rfl rfl
theorem dX12_circleOf_42 : decode cX12_circleOf 42 = .ok (.bipush 8, 2) := zby_g zbyb_669 (i := 11) rfl rfl
theorem dX12_circleOf_44 : decode cX12_circleOf 44 = .ok (.invokevirtual 330, 3) := zby_g zbyb_669 (i := 12) rfl rfl
theorem dX12_circleOf_47 : decode cX12_circleOf 47 = .ok (.iload_n 1, 1) := zby_g zbyb_669 (i := 13) rfl rfl
theorem dX12_circleOf_48 : decode cX12_circleOf 48 = .ok (.invokestatic 296, 3) := zby_g zbyb_669 (i := 14) rfl rfl
theorem dX12_circleOf_51 : decode cX12_circleOf 51 = .ok (.ifCond .eq 10, 3) := zby_g zbyb_669 (i := 15) rfl rfl
noncomputable def zbyl_670 : List (Nat × zbyE) := [(54, zbyo_28), (55, zbyo_4), (56, zbyo_21 4), (58, zbyo_120), (59, zbyo_128), (60, zbyo_61), (61, zbyo_132 4 1), (64, zbyo_167 (-47)), (67, zbyo_28), (68, zbyo_172)]
theorem zbyb_670 : zbys zbyl_670 (cX12_circleOf.data.toList.drop 54) 54 = true := by decide +kernel
theorem dX12_circleOf_54 : decode cX12_circleOf 54 = .ok (.iload_n 2, 1) := zby_g zbyb_670 (i := 0) rfl rfl
theorem dX12_circleOf_55 : decode cX12_circleOf 55 = .ok (.iconst 1, 1) := zby_g zbyb_670 (i := 1) rfl rfl
theorem dX12_circleOf_56 : decode cX12_circleOf 56 = .ok (.iload 4, 2) := zby_g zbyb_670 (i := 2) rfl rfl
theorem dX12_circleOf_58 : decode cX12_circleOf 58 = .ok (.ishl, 1) := zby_g zbyb_670 (i := 3) rfl rfl
theorem dX12_circleOf_59 : decode cX12_circleOf 59 = .ok (.ior, 1) := zby_g zbyb_670 (i := 4) rfl rfl
theorem dX12_circleOf_60 : decode cX12_circleOf 60 = .ok (.istore_n 2, 1) := zby_g zbyb_670 (i := 5) rfl rfl
theorem dX12_circleOf_61 : decode cX12_circleOf 61 = .ok (.iinc 4 1, 3) := zby_g zbyb_670 (i := 6) rfl rfl
theorem dX12_circleOf_64 : decode cX12_circleOf 64 = .ok (.goto (-47), 3) := zby_g zbyb_670 (i := 7) rfl rfl
theorem dX12_circleOf_67 : decode cX12_circleOf 67 = .ok (.iload_n 2, 1) := zby_g zbyb_670 (i := 8) rfl rfl
theorem dX12_circleOf_68 : decode cX12_circleOf 68 = .ok (.ireturn, 1) := zby_g zbyb_670 (i := 9) rfl rfl
noncomputable def zbyl_671 : List (Nat × zbyE) := [(0, zbyo_42), (1, zbyo_3), (2, zbyo_181 39), (5, zbyo_3), (6, zbyo_60), (7, zbyo_3), (8, zbyo_61), (9, zbyo_28), (10, zbyo_42), (11, zbyo_180 7), (14, zbyo_6), (15, zbyo_46), (16, zbyo_162 41), (19, zbyo_42), (20, zbyo_28), (21, zbyo_182 333)]
theorem zbyb_671 : zbys zbyl_671 (cX12_circles.data.toList.drop 0) 0 = true := by decide +kernel
theorem dX12_circles_0 : decode cX12_circles 0 = .ok (.aload_n 0, 1) := zby_g zbyb_671 (i := 0) rfl rfl
theorem dX12_circles_1 : decode cX12_circles 1 = .ok (.iconst 0, 1) := zby_g zbyb_671 (i := 1) rfl rfl
theorem dX12_circles_2 : decode cX12_circles 2 = .ok (.putfield 39, 3) := zby_g zbyb_671 (i := 2) rfl rfl
theorem dX12_circles_5 : decode cX12_circles 5 = .ok (.iconst 0, 1) := zby_g zbyb_671 (i := 3) rfl rfl
theorem dX12_circles_6 : decode cX12_circles 6 = .ok (.istore_n 1, 1) := zby_g zbyb_671 (i := 4) rfl rfl
theorem dX12_circles_7 : decode cX12_circles 7 = .ok (.iconst 0, 1) := zby_g zbyb_671 (i := 5) rfl rfl
theorem dX12_circles_8 : decode cX12_circles 8 = .ok (.istore_n 2, 1) := zby_g zbyb_671 (i := 6) rfl rfl
theorem dX12_circles_9 : decode cX12_circles 9 = .ok (.iload_n 2, 1) := zby_g zbyb_671 (i := 7) rfl rfl
theorem dX12_circles_10 : decode cX12_circles 10 = .ok (.aload_n 0, 1) := zby_g zbyb_671 (i := 8) rfl rfl
theorem dX12_circles_11 : decode cX12_circles 11 = .ok (.getfield 7, 3) := zby_g zbyb_671 (i := 9) rfl rfl
theorem dX12_circles_14 : decode cX12_circles 14 = .ok (.iconst 3, 1) := zby_g zbyb_671 (i := 10) rfl rfl
theorem dX12_circles_15 : decode cX12_circles 15 = .ok (.iaload, 1) := zby_g zbyb_671 (i := 11) rfl rfl
theorem dX12_circles_16 : decode cX12_circles 16 = .ok (.if_icmp .ge 41, 3) := zby_g zbyb_671 (i := 12) rfl rfl
theorem dX12_circles_19 : decode cX12_circles 19 = .ok (.aload_n 0, 1) := zby_g zbyb_671 (i := 13) rfl rfl
theorem dX12_circles_20 : decode cX12_circles 20 = .ok (.iload_n 2, 1) := zby_g zbyb_671 (i := 14) rfl rfl
theorem dX12_circles_21 : decode cX12_circles 21 = .ok (.invokevirtual 333, 3) := zby_g zbyb_671 (i := 15) rfl rfl
noncomputable def zbyl_672 : List (Nat × zbyE) := [(24, zbyo_62), (25, zbyo_27), (26, zbyo_29), (27, zbyo_184 58), (30, zbyo_4), (31, zbyo_164 17), (34, zbyo_29), (35, zbyo_4), (36, zbyo_28), (37, zbyo_120), (38, zbyo_4), (39, zbyo_100), (40, zbyo_126), (41, zbyo_154 7), (44, zbyo_4), (45, zbyo_167 4)]
theorem zbyb_672 : zbys zbyl_672 (cX12_circles.data.toList.drop 24) 24 = true := by decide +kernel
theorem dX12_circles_24 : decode cX12_circles 24 = .ok (.istore_n 3, 1) := zby_g zbyb_672 (i := 0) rfl rfl
theorem dX12_circles_25 : decode cX12_circles 25 = .ok (.iload_n 1, 1) := zby_g zbyb_672 (i := 1) rfl rfl
theorem dX12_circles_26 : decode cX12_circles 26 = .ok (.iload_n 3, 1) := zby_g zbyb_672 (i := 2) rfl rfl
theorem dX12_circles_27 : decode cX12_circles 27 = .ok (.invokestatic 58, 3) := zby_g zbyb_672 (i := 3) rfl rfl
theorem dX12_circles_30 : decode cX12_circles 30 = .ok (.iconst 1, 1) := zby_g zbyb_672 (i := 4) rfl rfl
theorem dX12_circles_31 : decode cX12_circles 31 = .ok (.if_icmp .le 17, 3) := zby_g zbyb_672 (i := 5) rfl rfl
theorem dX12_circles_34 : decode cX12_circles 34 = .ok (.iload_n 3, 1) := zby_g zbyb_672 (i := 6) rfl rfl
theorem dX12_circles_35 : decode cX12_circles 35 = .ok (.iconst 1, 1) := zby_g zbyb_672 (i := 7) rfl rfl
theorem dX12_circles_36 : decode cX12_circles 36 = .ok (.iload_n 2, 1) := zby_g zbyb_672 (i := 8) rfl rfl
theorem dX12_circles_37 : decode cX12_circles 37 = .ok (.ishl, 1) := zby_g zbyb_672 (i := 9) rfl rfl
theorem dX12_circles_38 : decode cX12_circles 38 = .ok (.iconst 1, 1) := zby_g zbyb_672 (i := 10) rfl rfl
theorem dX12_circles_39 : decode cX12_circles 39 = .ok (.isub, 1) := zby_g zbyb_672 (i := 11) rfl rfl
theorem dX12_circles_40 : decode cX12_circles 40 = .ok (.iand, 1) := zby_g zbyb_672 (i := 12) rfl rfl
theorem dX12_circles_41 : decode cX12_circles 41 = .ok (.ifCond .ne 7, 3) := zby_g zbyb_672 (i := 13) rfl rfl
theorem dX12_circles_44 : decode cX12_circles 44 = .ok (.iconst 1, 1) := zby_g zbyb_672 (i := 14) rfl rfl
theorem dX12_circles_45 : decode cX12_circles 45 = .ok (.goto 4, 3) := zby_g zbyb_672 (i := 15) rfl rfl
noncomputable def zbyl_673 : List (Nat × zbyE) := [(48, zbyo_3), (49, zbyo_96), (50, zbyo_60), (51, zbyo_132 2 1), (54, zbyo_167 (-45)), (57, zbyo_27), (58, zbyo_172)]
theorem zbyb_673 : zbys zbyl_673 (cX12_circles.data.toList.drop 48) 48 = true := by decide +kernel
theorem dX12_circles_48 : decode cX12_circles 48 = .ok (.iconst 0, 1) := zby_g zbyb_673 (i := 0) rfl rfl
theorem dX12_circles_49 : decode cX12_circles 49 = .ok (.iadd, 1) := zby_g zbyb_673 (i := 1) rfl rfl
theorem dX12_circles_50 : decode cX12_circles 50 = .ok (.istore_n 1, 1) := zby_g zbyb_673 (i := 2) rfl rfl
theorem dX12_circles_51 : decode cX12_circles 51 = .ok (.iinc 2 1, 3) := zby_g zbyb_673 (i := 3) rfl rfl
theorem dX12_circles_54 : decode cX12_circles 54 = .ok (.goto (-45), 3) := zby_g zbyb_673 (i := 4) rfl rfl
theorem dX12_circles_57 : decode cX12_circles 57 = .ok (.iload_n 1, 1) := zby_g zbyb_673 (i := 5) rfl rfl
theorem dX12_circles_58 : decode cX12_circles 58 = .ok (.ireturn, 1) := zby_g zbyb_673 (i := 6) rfl rfl
noncomputable def zbyl_674 : List (Nat × zbyE) := [(0, zbyo_42), (1, zbyo_3), (2, zbyo_181 39), (5, zbyo_3), (6, zbyo_60), (7, zbyo_3), (8, zbyo_61), (9, zbyo_28), (10, zbyo_42), (11, zbyo_180 7), (14, zbyo_6), (15, zbyo_46), (16, zbyo_162 83), (19, zbyo_42), (20, zbyo_28), (21, zbyo_182 245)]
theorem zbyb_674 : zbys zbyl_674 (cX12_hermits.data.toList.drop 0) 0 = true := by decide +kernel
theorem dX12_hermits_0 : decode cX12_hermits 0 = .ok (.aload_n 0, 1) := zby_g zbyb_674 (i := 0) rfl rfl
theorem dX12_hermits_1 : decode cX12_hermits 1 = .ok (.iconst 0, 1) := zby_g zbyb_674 (i := 1) rfl rfl
theorem dX12_hermits_2 : decode cX12_hermits 2 = .ok (.putfield 39, 3) := zby_g zbyb_674 (i := 2) rfl rfl
theorem dX12_hermits_5 : decode cX12_hermits 5 = .ok (.iconst 0, 1) := zby_g zbyb_674 (i := 3) rfl rfl
theorem dX12_hermits_6 : decode cX12_hermits 6 = .ok (.istore_n 1, 1) := zby_g zbyb_674 (i := 4) rfl rfl
theorem dX12_hermits_7 : decode cX12_hermits 7 = .ok (.iconst 0, 1) := zby_g zbyb_674 (i := 5) rfl rfl
theorem dX12_hermits_8 : decode cX12_hermits 8 = .ok (.istore_n 2, 1) := zby_g zbyb_674 (i := 6) rfl rfl
theorem dX12_hermits_9 : decode cX12_hermits 9 = .ok (.iload_n 2, 1) := zby_g zbyb_674 (i := 7) rfl rfl
theorem dX12_hermits_10 : decode cX12_hermits 10 = .ok (.aload_n 0, 1) := zby_g zbyb_674 (i := 8) rfl rfl
theorem dX12_hermits_11 : decode cX12_hermits 11 = .ok (.getfield 7, 3) := zby_g zbyb_674 (i := 9) rfl rfl
theorem dX12_hermits_14 : decode cX12_hermits 14 = .ok (.iconst 3, 1) := zby_g zbyb_674 (i := 10) rfl rfl
theorem dX12_hermits_15 : decode cX12_hermits 15 = .ok (.iaload, 1) := zby_g zbyb_674 (i := 11) rfl rfl
theorem dX12_hermits_16 : decode cX12_hermits 16 = .ok (.if_icmp .ge 83, 3) := zby_g zbyb_674 (i := 12) rfl rfl
theorem dX12_hermits_19 : decode cX12_hermits 19 = .ok (.aload_n 0, 1) := zby_g zbyb_674 (i := 13) rfl rfl
theorem dX12_hermits_20 : decode cX12_hermits 20 = .ok (.iload_n 2, 1) := zby_g zbyb_674 (i := 14) rfl rfl
theorem dX12_hermits_21 : decode cX12_hermits 21 = .ok (.invokevirtual 245, 3) := zby_g zbyb_674 (i := 15) rfl rfl
noncomputable def zbyl_675 : List (Nat × zbyE) := [(24, zbyo_154 7), (27, zbyo_4), (28, zbyo_167 4), (31, zbyo_3), (32, zbyo_62), (33, zbyo_3), (34, zbyo_54 4), (36, zbyo_21 4), (38, zbyo_42), (39, zbyo_180 7), (42, zbyo_6), (43, zbyo_46), (44, zbyo_162 35), (47, zbyo_29), (48, zbyo_153 31), (51, zbyo_21 4)]
theorem zbyb_675 : zbys zbyl_675 (cX12_hermits.data.toList.drop 24) 24 = true := by decide +kernel
theorem dX12_hermits_24 : decode cX12_hermits 24 = .ok (.ifCond .ne 7, 3) := zby_g zbyb_675 (i := 0) rfl rfl
theorem dX12_hermits_27 : decode cX12_hermits 27 = .ok (.iconst 1, 1) := zby_g zbyb_675 (i := 1) rfl rfl
theorem dX12_hermits_28 : decode cX12_hermits 28 = .ok (.goto 4, 3) := zby_g zbyb_675 (i := 2) rfl rfl
theorem dX12_hermits_31 : decode cX12_hermits 31 = .ok (.iconst 0, 1) := zby_g zbyb_675 (i := 3) rfl rfl
theorem dX12_hermits_32 : decode cX12_hermits 32 = .ok (.istore_n 3, 1) := zby_g zbyb_675 (i := 4) rfl rfl
theorem dX12_hermits_33 : decode cX12_hermits 33 = .ok (.iconst 0, 1) := zby_g zbyb_675 (i := 5) rfl rfl
theorem dX12_hermits_34 : decode cX12_hermits 34 = .ok (.istore 4, 2) := zby_g zbyb_675 (i := 6) rfl rfl
theorem dX12_hermits_36 : decode cX12_hermits 36 = .ok (.iload 4, 2) := zby_g zbyb_675 (i := 7) rfl rfl
theorem dX12_hermits_38 : decode cX12_hermits 38 = .ok (.aload_n 0, 1) := zby_g zbyb_675 (i := 8) rfl rfl
theorem dX12_hermits_39 : decode cX12_hermits 39 = .ok (.getfield 7, 3) := zby_g zbyb_675 (i := 9) rfl rfl
theorem dX12_hermits_42 : decode cX12_hermits 42 = .ok (.iconst 3, 1) := zby_g zbyb_675 (i := 10) rfl rfl
theorem dX12_hermits_43 : decode cX12_hermits 43 = .ok (.iaload, 1) := zby_g zbyb_675 (i := 11) rfl rfl
theorem dX12_hermits_44 : decode cX12_hermits 44 = .ok (.if_icmp .ge 35, 3) := zby_g zbyb_675 (i := 12) rfl rfl
theorem dX12_hermits_47 : decode cX12_hermits 47 = .ok (.iload_n 3, 1) := zby_g zbyb_675 (i := 13) rfl rfl
theorem dX12_hermits_48 : decode cX12_hermits 48 = .ok (.ifCond .eq 31, 3) := zby_g zbyb_675 (i := 14) rfl rfl
theorem dX12_hermits_51 : decode cX12_hermits 51 = .ok (.iload 4, 2) := zby_g zbyb_675 (i := 15) rfl rfl
noncomputable def zbyl_676 : List (Nat × zbyE) := [(53, zbyo_28), (54, zbyo_159 13), (57, zbyo_42), (58, zbyo_21 4), (60, zbyo_28), (61, zbyo_182 71), (64, zbyo_154 7), (67, zbyo_4), (68, zbyo_167 4), (71, zbyo_3), (72, zbyo_62), (73, zbyo_132 4 1), (76, zbyo_167 (-40)), (79, zbyo_27), (80, zbyo_29), (81, zbyo_153 9)]
theorem zbyb_676 : zbys zbyl_676 (cX12_hermits.data.toList.drop 53) 53 = true := by decide +kernel
theorem dX12_hermits_53 : decode cX12_hermits 53 = .ok (.iload_n 2, 1) := zby_g zbyb_676 (i := 0) rfl rfl
theorem dX12_hermits_54 : decode cX12_hermits 54 = .ok (.if_icmp .eq 13, 3) := zby_g zbyb_676 (i := 1) rfl rfl
theorem dX12_hermits_57 : decode cX12_hermits 57 = .ok (.aload_n 0, 1) := zby_g zbyb_676 (i := 2) rfl rfl
theorem dX12_hermits_58 : decode cX12_hermits 58 = .ok (.iload 4, 2) := zby_g zbyb_676 (i := 3) rfl rfl
theorem dX12_hermits_60 : decode cX12_hermits 60 = .ok (.iload_n 2, 1) := zby_g zbyb_676 (i := 4) rfl rfl
theorem dX12_hermits_61 : decode cX12_hermits 61 = .ok (.invokevirtual 71, 3) := zby_g zbyb_676 (i := 5) rfl rfl
theorem dX12_hermits_64 : decode cX12_hermits 64 = .ok (.ifCond .ne 7, 3) := zby_g zbyb_676 (i := 6) rfl rfl
theorem dX12_hermits_67 : decode cX12_hermits 67 = .ok (.iconst 1, 1) := zby_g zbyb_676 (i := 7) rfl rfl
theorem dX12_hermits_68 : decode cX12_hermits 68 = .ok (.goto 4, 3) := zby_g zbyb_676 (i := 8) rfl rfl
theorem dX12_hermits_71 : decode cX12_hermits 71 = .ok (.iconst 0, 1) := zby_g zbyb_676 (i := 9) rfl rfl
theorem dX12_hermits_72 : decode cX12_hermits 72 = .ok (.istore_n 3, 1) := zby_g zbyb_676 (i := 10) rfl rfl
theorem dX12_hermits_73 : decode cX12_hermits 73 = .ok (.iinc 4 1, 3) := zby_g zbyb_676 (i := 11) rfl rfl
theorem dX12_hermits_76 : decode cX12_hermits 76 = .ok (.goto (-40), 3) := zby_g zbyb_676 (i := 12) rfl rfl
theorem dX12_hermits_79 : decode cX12_hermits 79 = .ok (.iload_n 1, 1) := zby_g zbyb_676 (i := 13) rfl rfl
theorem dX12_hermits_80 : decode cX12_hermits 80 = .ok (.iload_n 3, 1) := zby_g zbyb_676 (i := 14) rfl rfl
theorem dX12_hermits_81 : decode cX12_hermits 81 = .ok (.ifCond .eq 9, 3) := zby_g zbyb_676 (i := 15) rfl rfl
noncomputable def zbyl_677 : List (Nat × zbyE) := [(84, zbyo_4), (85, zbyo_28), (86, zbyo_120), (87, zbyo_167 4), (90, zbyo_3), (91, zbyo_128), (92, zbyo_60), (93, zbyo_132 2 1), (96, zbyo_167 (-87)), (99, zbyo_27), (100, zbyo_172)]
theorem zbyb_677 : zbys zbyl_677 (cX12_hermits.data.toList.drop 84) 84 = true := by decide +kernel
theorem dX12_hermits_84 : decode cX12_hermits 84 = .ok (.iconst 1, 1) := zby_g zbyb_677 (i := 0) rfl rfl
theorem dX12_hermits_85 : decode cX12_hermits 85 = .ok (.iload_n 2, 1) := zby_g zbyb_677 (i := 1) rfl rfl
theorem dX12_hermits_86 : decode cX12_hermits 86 = .ok (.ishl, 1) := zby_g zbyb_677 (i := 2) rfl rfl
theorem dX12_hermits_87 : decode cX12_hermits 87 = .ok (.goto 4, 3) := zby_g zbyb_677 (i := 3) rfl rfl
theorem dX12_hermits_90 : decode cX12_hermits 90 = .ok (.iconst 0, 1) := zby_g zbyb_677 (i := 4) rfl rfl
theorem dX12_hermits_91 : decode cX12_hermits 91 = .ok (.ior, 1) := zby_g zbyb_677 (i := 5) rfl rfl
theorem dX12_hermits_92 : decode cX12_hermits 92 = .ok (.istore_n 1, 1) := zby_g zbyb_677 (i := 6) rfl rfl
theorem dX12_hermits_93 : decode cX12_hermits 93 = .ok (.iinc 2 1, 3) := zby_g zbyb_677 (i := 7) rfl rfl
theorem dX12_hermits_96 : decode cX12_hermits 96 = .ok (.goto (-87), 3) := zby_g zbyb_677 (i := 8) rfl rfl
theorem dX12_hermits_99 : decode cX12_hermits 99 = .ok (.iload_n 1, 1) := zby_g zbyb_677 (i := 9) rfl rfl
theorem dX12_hermits_100 : decode cX12_hermits 100 = .ok (.ireturn, 1) := zby_g zbyb_677 (i := 10) rfl rfl
noncomputable def zbyl_678 : List (Nat × zbyE) := [(0, zbyo_26), (1, zbyo_154 16), (4, zbyo_27), (5, zbyo_154 7), (8, zbyo_8), (9, zbyo_167 18), (12, zbyo_16 20), (14, zbyo_167 13), (17, zbyo_27), (18, zbyo_154 8), (21, zbyo_16 (-10)), (23, zbyo_167 4), (26, zbyo_3), (27, zbyo_172)]
theorem zbyb_678 : zbys zbyl_678 (cX12_moreBy.data.toList.drop 0) 0 = true := by decide +kernel
theorem dX12_moreBy_0 : decode cX12_moreBy 0 = .ok (.iload_n 0, 1) := zby_g zbyb_678 (i := 0) rfl rfl
theorem dX12_moreBy_1 : decode cX12_moreBy 1 = .ok (.ifCond .ne 16, 3) := zby_g zbyb_678 (i := 1) rfl rfl
theorem dX12_moreBy_4 : decode cX12_moreBy 4 = .ok (.iload_n 1, 1) := zby_g zbyb_678 (i := 2) rfl rfl
theorem dX12_moreBy_5 : decode cX12_moreBy 5 = .ok (.ifCond .ne 7, 3) := zby_g zbyb_678 (i := 3) rfl rfl
theorem dX12_moreBy_8 : decode cX12_moreBy 8 = .ok (.iconst 5, 1) := zby_g zbyb_678 (i := 4) rfl rfl
theorem dX12_moreBy_9 : decode cX12_moreBy 9 = .ok (.goto 18, 3) := zby_g zbyb_678 (i := 5) rfl rfl
theorem dX12_moreBy_12 : decode cX12_moreBy 12 = .ok (.bipush 20, 2) := zby_g zbyb_678 (i := 6) rfl rfl
theorem dX12_moreBy_14 : decode cX12_moreBy 14 = .ok (.goto 13, 3) := zby_g zbyb_678 (i := 7) rfl rfl
theorem dX12_moreBy_17 : decode cX12_moreBy 17 = .ok (.iload_n 1, 1) := zby_g zbyb_678 (i := 8) rfl rfl
theorem dX12_moreBy_18 : decode cX12_moreBy 18 = .ok (.ifCond .ne 8, 3) := zby_g zbyb_678 (i := 9) rfl rfl
theorem dX12_moreBy_21 : decode cX12_moreBy 21 = .ok (.bipush (-10), 2) := zby_g zbyb_678 (i := 10) rfl rfl
theorem dX12_moreBy_23 : decode cX12_moreBy 23 = .ok (.goto 4, 3) := zby_g zbyb_678 (i := 11) rfl rfl
theorem dX12_moreBy_26 : decode cX12_moreBy 26 = .ok (.iconst 0, 1) := zby_g zbyb_678 (i := 12) rfl rfl
theorem dX12_moreBy_27 : decode cX12_moreBy 27 = .ok (.ireturn, 1) := zby_g zbyb_678 (i := 13) rfl rfl
noncomputable def zbyl_679 : List (Nat × zbyE) := [(0, zbyo_26), (1, zbyo_27), (2, zbyo_184 336), (5, zbyo_26), (6, zbyo_154 7), (9, zbyo_7), (10, zbyo_167 4), (13, zbyo_3), (14, zbyo_100), (15, zbyo_172)]
theorem zbyb_679 : zbys zbyl_679 (cX12_tellerHas.data.toList.drop 0) 0 = true := by decide +kernel
theorem dX12_tellerHas_0 : decode cX12_tellerHas 0 = .ok (.iload_n 0, 1) := zby_g zbyb_679 (i := 0) rfl rfl
theorem dX12_tellerHas_1 : decode cX12_tellerHas 1 = .ok (.iload_n 1, 1) := zby_g zbyb_679 (i := 1) rfl rfl
theorem dX12_tellerHas_2 : decode cX12_tellerHas 2 = .ok (.invokestatic 336, 3) := zby_g zbyb_679 (i := 2) rfl rfl
theorem dX12_tellerHas_5 : decode cX12_tellerHas 5 = .ok (.iload_n 0, 1) := zby_g zbyb_679 (i := 3) rfl rfl
theorem dX12_tellerHas_6 : decode cX12_tellerHas 6 = .ok (.ifCond .ne 7, 3) := zby_g zbyb_679 (i := 4) rfl rfl
theorem dX12_tellerHas_9 : decode cX12_tellerHas 9 = .ok (.iconst 4, 1) := zby_g zbyb_679 (i := 5) rfl rfl
theorem dX12_tellerHas_10 : decode cX12_tellerHas 10 = .ok (.goto 4, 3) := zby_g zbyb_679 (i := 6) rfl rfl
theorem dX12_tellerHas_13 : decode cX12_tellerHas 13 = .ok (.iconst 0, 1) := zby_g zbyb_679 (i := 7) rfl rfl
theorem dX12_tellerHas_14 : decode cX12_tellerHas 14 = .ok (.isub, 1) := zby_g zbyb_679 (i := 8) rfl rfl
theorem dX12_tellerHas_15 : decode cX12_tellerHas 15 = .ok (.ireturn, 1) := zby_g zbyb_679 (i := 9) rfl rfl
noncomputable def zbyl_680 : List (Nat × zbyE) := [(0, zbyo_29), (1, zbyo_21 4), (3, zbyo_184 336), (6, zbyo_116), (7, zbyo_21 4), (9, zbyo_154 12), (12, zbyo_42), (13, zbyo_27), (14, zbyo_28), (15, zbyo_182 71), (18, zbyo_167 4), (21, zbyo_3), (22, zbyo_100), (23, zbyo_172)]
theorem zbyb_680 : zbys zbyl_680 (cX12_dryHas.data.toList.drop 0) 0 = true := by decide +kernel
theorem dX12_dryHas_0 : decode cX12_dryHas 0 = .ok (.iload_n 3, 1) := zby_g zbyb_680 (i := 0) rfl rfl
theorem dX12_dryHas_1 : decode cX12_dryHas 1 = .ok (.iload 4, 2) := zby_g zbyb_680 (i := 1) rfl rfl
theorem dX12_dryHas_3 : decode cX12_dryHas 3 = .ok (.invokestatic 336, 3) := zby_g zbyb_680 (i := 2) rfl rfl
theorem dX12_dryHas_6 : decode cX12_dryHas 6 = .ok (.ineg, 1) := zby_g zbyb_680 (i := 3) rfl rfl
theorem dX12_dryHas_7 : decode cX12_dryHas 7 = .ok (.iload 4, 2) := zby_g zbyb_680 (i := 4) rfl rfl
theorem dX12_dryHas_9 : decode cX12_dryHas 9 = .ok (.ifCond .ne 12, 3) := zby_g zbyb_680 (i := 5) rfl rfl
theorem dX12_dryHas_12 : decode cX12_dryHas 12 = .ok (.aload_n 0, 1) := zby_g zbyb_680 (i := 6) rfl rfl
theorem dX12_dryHas_13 : decode cX12_dryHas 13 = .ok (.iload_n 1, 1) := zby_g zbyb_680 (i := 7) rfl rfl
theorem dX12_dryHas_14 : decode cX12_dryHas 14 = .ok (.iload_n 2, 1) := zby_g zbyb_680 (i := 8) rfl rfl
theorem dX12_dryHas_15 : decode cX12_dryHas 15 = .ok (.invokevirtual 71, 3) := zby_g zbyb_680 (i := 9) rfl rfl
theorem dX12_dryHas_18 : decode cX12_dryHas 18 = .ok (.goto 4, 3) := zby_g zbyb_680 (i := 10) rfl rfl
theorem dX12_dryHas_21 : decode cX12_dryHas 21 = .ok (.iconst 0, 1) := zby_g zbyb_680 (i := 11) rfl rfl
theorem dX12_dryHas_22 : decode cX12_dryHas 22 = .ok (.isub, 1) := zby_g zbyb_680 (i := 12) rfl rfl
theorem dX12_dryHas_23 : decode cX12_dryHas 23 = .ok (.ireturn, 1) := zby_g zbyb_680 (i := 13) rfl rfl
noncomputable def zbyl_681 : List (Nat × zbyE) := [(0, zbyo_42), (1, zbyo_42), (2, zbyo_27), (3, zbyo_182 280), (6, zbyo_153 11), (9, zbyo_42), (10, zbyo_28), (11, zbyo_182 280), (14, zbyo_154 7), (17, zbyo_4), (18, zbyo_167 13), (21, zbyo_27), (22, zbyo_28), (23, zbyo_160 7), (26, zbyo_5), (27, zbyo_167 4)]
theorem zbyb_681 : zbys zbyl_681 (cX12_rests.data.toList.drop 0) 0 = true := by decide +kernel
theorem dX12_rests_0 : decode cX12_rests 0 = .ok (.aload_n 0, 1) := zby_g zbyb_681 (i := 0) rfl rfl
theorem dX12_rests_1 : decode cX12_rests 1 = .ok (.aload_n 0, 1) := zby_g zbyb_681 (i := 1) rfl rfl
theorem dX12_rests_2 : decode cX12_rests 2 = .ok (.iload_n 1, 1) := zby_g zbyb_681 (i := 2) rfl rfl
theorem dX12_rests_3 : decode cX12_rests 3 = .ok (.invokevirtual 280, 3) := zby_g zbyb_681 (i := 3) rfl rfl
theorem dX12_rests_6 : decode cX12_rests 6 = .ok (.ifCond .eq 11, 3) := zby_g zbyb_681 (i := 4) rfl rfl
theorem dX12_rests_9 : decode cX12_rests 9 = .ok (.aload_n 0, 1) := zby_g zbyb_681 (i := 5) rfl rfl
theorem dX12_rests_10 : decode cX12_rests 10 = .ok (.iload_n 2, 1) := zby_g zbyb_681 (i := 6) rfl rfl
theorem dX12_rests_11 : decode cX12_rests 11 = .ok (.invokevirtual 280, 3) := zby_g zbyb_681 (i := 7) rfl rfl
theorem dX12_rests_14 : decode cX12_rests 14 = .ok (.ifCond .ne 7, 3) := zby_g zbyb_681 (i := 8) rfl rfl
theorem dX12_rests_17 : decode cX12_rests 17 = .ok (.iconst 1, 1) := zby_g zbyb_681 (i := 9) rfl rfl
theorem dX12_rests_18 : decode cX12_rests 18 = .ok (.goto 13, 3) := zby_g zbyb_681 (i := 10) rfl rfl
theorem dX12_rests_21 : decode cX12_rests 21 = .ok (.iload_n 1, 1) := zby_g zbyb_681 (i := 11) rfl rfl
theorem dX12_rests_22 : decode cX12_rests 22 = .ok (.iload_n 2, 1) := zby_g zbyb_681 (i := 12) rfl rfl
theorem dX12_rests_23 : decode cX12_rests 23 = .ok (.if_icmp .ne 7, 3) := zby_g zbyb_681 (i := 13) rfl rfl
theorem dX12_rests_26 : decode cX12_rests 26 = .ok (.iconst 2, 1) := zby_g zbyb_681 (i := 14) rfl rfl
theorem dX12_rests_27 : decode cX12_rests 27 = .ok (.goto 4, 3) := zby_g zbyb_681 (i := 15) rfl rfl
noncomputable def zbyl_682 : List (Nat × zbyE) := [(30, zbyo_3), (31, zbyo_181 39), (34, zbyo_42), (35, zbyo_180 39), (38, zbyo_158 5), (41, zbyo_3), (42, zbyo_172), (43, zbyo_3), (44, zbyo_62), (45, zbyo_3), (46, zbyo_54 4), (48, zbyo_21 4), (50, zbyo_7), (51, zbyo_162 72), (54, zbyo_21 4), (56, zbyo_5)]
theorem zbyb_682 : zbys zbyl_682 (cX12_rests.data.toList.drop 30) 30 = true := by decide +kernel
theorem dX12_rests_30 : decode cX12_rests 30 = .ok (.iconst 0, 1) := zby_g zbyb_682 (i := 0) rfl rfl
theorem dX12_rests_31 : decode cX12_rests 31 = .ok (.putfield 39, 3) := zby_g zbyb_682 (i := 1) rfl rfl
theorem dX12_rests_34 : decode cX12_rests 34 = .ok (.aload_n 0, 1) := zby_g zbyb_682 (i := 2) rfl rfl
theorem dX12_rests_35 : decode cX12_rests 35 = .ok (.getfield 39, 3) := zby_g zbyb_682 (i := 3) rfl rfl
theorem dX12_rests_38 : decode cX12_rests 38 = .ok (.ifCond .le 5, 3) := zby_g zbyb_682 (i := 4) rfl rfl
theorem dX12_rests_41 : decode cX12_rests 41 = .ok (.iconst 0, 1) := zby_g zbyb_682 (i := 5) rfl rfl
theorem dX12_rests_42 : decode cX12_rests 42 = .ok (.ireturn, 1) := zby_g zbyb_682 (i := 6) rfl rfl
theorem dX12_rests_43 : decode cX12_rests 43 = .ok (.iconst 0, 1) := zby_g zbyb_682 (i := 7) rfl rfl
theorem dX12_rests_44 : decode cX12_rests 44 = .ok (.istore_n 3, 1) := zby_g zbyb_682 (i := 8) rfl rfl
theorem dX12_rests_45 : decode cX12_rests 45 = .ok (.iconst 0, 1) := zby_g zbyb_682 (i := 9) rfl rfl
theorem dX12_rests_46 : decode cX12_rests 46 = .ok (.istore 4, 2) := zby_g zbyb_682 (i := 10) rfl rfl
theorem dX12_rests_48 : decode cX12_rests 48 = .ok (.iload 4, 2) := zby_g zbyb_682 (i := 11) rfl rfl
theorem dX12_rests_50 : decode cX12_rests 50 = .ok (.iconst 4, 1) := zby_g zbyb_682 (i := 12) rfl rfl
theorem dX12_rests_51 : decode cX12_rests 51 = .ok (.if_icmp .ge 72, 3) := zby_g zbyb_682 (i := 13) rfl rfl
theorem dX12_rests_54 : decode cX12_rests 54 = .ok (.iload 4, 2) := zby_g zbyb_682 (i := 14) rfl rfl
theorem dX12_rests_56 : decode cX12_rests 56 = .ok (.iconst 2, 1) := zby_g zbyb_682 (i := 15) rfl rfl
noncomputable def zbyl_683 : List (Nat × zbyE) := [(57, zbyo_108), (58, zbyo_54 5), (60, zbyo_21 4), (62, zbyo_5), (63, zbyo_112), (64, zbyo_54 6), (66, zbyo_4), (67, zbyo_21 5), (69, zbyo_100), (70, zbyo_21 6), (72, zbyo_184 339), (75, zbyo_21 5), (77, zbyo_21 6), (79, zbyo_184 339), (82, zbyo_163 35), (85, zbyo_42)]
theorem zbyb_683 : zbys zbyl_683 (cX12_rests.data.toList.drop 57) 57 = true := by decide +kernel
theorem dX12_rests_57 : decode cX12_rests 57 = .ok (.idiv, 1) := zby_g zbyb_683 (i := 0) rfl rfl
theorem dX12_rests_58 : decode cX12_rests 58 = .ok (.istore 5, 2) := zby_g zbyb_683 (i := 1) rfl rfl
theorem dX12_rests_60 : decode cX12_rests 60 = .ok (.iload 4, 2) := zby_g zbyb_683 (i := 2) rfl rfl
theorem dX12_rests_62 : decode cX12_rests 62 = .ok (.iconst 2, 1) := zby_g zbyb_683 (i := 3) rfl rfl
theorem dX12_rests_63 : decode cX12_rests 63 = .ok (.irem, 1) := zby_g zbyb_683 (i := 4) rfl rfl
theorem dX12_rests_64 : decode cX12_rests 64 = .ok (.istore 6, 2) := zby_g zbyb_683 (i := 5) rfl rfl
theorem dX12_rests_66 : decode cX12_rests 66 = .ok (.iconst 1, 1) := zby_g zbyb_683 (i := 6) rfl rfl
theorem dX12_rests_67 : decode cX12_rests 67 = .ok (.iload 5, 2) := zby_g zbyb_683 (i := 7) rfl rfl
theorem dX12_rests_69 : decode cX12_rests 69 = .ok (.isub, 1) := zby_g zbyb_683 (i := 8) rfl rfl
theorem dX12_rests_70 : decode cX12_rests 70 = .ok (.iload 6, 2) := zby_g zbyb_683 (i := 9) rfl rfl
theorem dX12_rests_72 : decode cX12_rests 72 = .ok (.invokestatic 339, 3) := zby_g zbyb_683 (i := 10) rfl rfl
theorem dX12_rests_75 : decode cX12_rests 75 = .ok (.iload 5, 2) := zby_g zbyb_683 (i := 11) rfl rfl
theorem dX12_rests_77 : decode cX12_rests 77 = .ok (.iload 6, 2) := zby_g zbyb_683 (i := 12) rfl rfl
theorem dX12_rests_79 : decode cX12_rests 79 = .ok (.invokestatic 339, 3) := zby_g zbyb_683 (i := 13) rfl rfl
theorem dX12_rests_82 : decode cX12_rests 82 = .ok (.if_icmp .gt 35, 3) := zby_g zbyb_683 (i := 14) rfl rfl
theorem dX12_rests_85 : decode cX12_rests 85 = .ok (.aload_n 0, 1) := zby_g zbyb_683 (i := 15) rfl rfl
noncomputable def zbyl_684 : List (Nat × zbyE) := [(86, zbyo_27), (87, zbyo_28), (88, zbyo_21 5), (90, zbyo_4), (91, zbyo_21 6), (93, zbyo_100), (94, zbyo_182 342), (97, zbyo_42), (98, zbyo_27), (99, zbyo_28), (100, zbyo_21 5), (102, zbyo_21 6), (104, zbyo_182 342), (107, zbyo_163 10), (110, zbyo_29), (111, zbyo_4)]
theorem zbyb_684 : zbys zbyl_684 (cX12_rests.data.toList.drop 86) 86 = true := by decide +kernel
theorem dX12_rests_86 : decode cX12_rests 86 = .ok (.iload_n 1, 1) := zby_g zbyb_684 (i := 0) rfl rfl
theorem dX12_rests_87 : decode cX12_rests 87 = .ok (.iload_n 2, 1) := zby_g zbyb_684 (i := 1) rfl rfl
theorem dX12_rests_88 : decode cX12_rests 88 = .ok (.iload 5, 2) := zby_g zbyb_684 (i := 2) rfl rfl
theorem dX12_rests_90 : decode cX12_rests 90 = .ok (.iconst 1, 1) := zby_g zbyb_684 (i := 3) rfl rfl
theorem dX12_rests_91 : decode cX12_rests 91 = .ok (.iload 6, 2) := zby_g zbyb_684 (i := 4) rfl rfl
theorem dX12_rests_93 : decode cX12_rests 93 = .ok (.isub, 1) := zby_g zbyb_684 (i := 5) rfl rfl
theorem dX12_rests_94 : decode cX12_rests 94 = .ok (.invokevirtual 342, 3) := zby_g zbyb_684 (i := 6) rfl rfl
theorem dX12_rests_97 : decode cX12_rests 97 = .ok (.aload_n 0, 1) := zby_g zbyb_684 (i := 7) rfl rfl
theorem dX12_rests_98 : decode cX12_rests 98 = .ok (.iload_n 1, 1) := zby_g zbyb_684 (i := 8) rfl rfl
theorem dX12_rests_99 : decode cX12_rests 99 = .ok (.iload_n 2, 1) := zby_g zbyb_684 (i := 9) rfl rfl
theorem dX12_rests_100 : decode cX12_rests 100 = .ok (.iload 5, 2) := zby_g zbyb_684 (i := 10) rfl rfl
theorem dX12_rests_102 : decode cX12_rests 102 = .ok (.iload 6, 2) := zby_g zbyb_684 (i := 11) rfl rfl
theorem dX12_rests_104 : decode cX12_rests 104 = .ok (.invokevirtual 342, 3) := zby_g zbyb_684 (i := 12) rfl rfl
theorem dX12_rests_107 : decode cX12_rests 107 = .ok (.if_icmp .gt 10, 3) := zby_g zbyb_684 (i := 13) rfl rfl
theorem dX12_rests_110 : decode cX12_rests 110 = .ok (.iload_n 3, 1) := zby_g zbyb_684 (i := 14) rfl rfl
theorem dX12_rests_111 : decode cX12_rests 111 = .ok (.iconst 1, 1) := zby_g zbyb_684 (i := 15) rfl rfl
noncomputable def zbyl_685 : List (Nat × zbyE) := [(112, zbyo_21 4), (114, zbyo_120), (115, zbyo_128), (116, zbyo_62), (117, zbyo_132 4 1), (120, zbyo_167 (-72)), (123, zbyo_29), (124, zbyo_172)]
theorem zbyb_685 : zbys zbyl_685 (cX12_rests.data.toList.drop 112) 112 = true := by decide +kernel
theorem dX12_rests_112 : decode cX12_rests 112 = .ok (.iload 4, 2) := zby_g zbyb_685 (i := 0) rfl rfl
theorem dX12_rests_114 : decode cX12_rests 114 = .ok (.ishl, 1) := zby_g zbyb_685 (i := 1) rfl rfl
theorem dX12_rests_115 : decode cX12_rests 115 = .ok (.ior, 1) := zby_g zbyb_685 (i := 2) rfl rfl
theorem dX12_rests_116 : decode cX12_rests 116 = .ok (.istore_n 3, 1) := zby_g zbyb_685 (i := 3) rfl rfl
theorem dX12_rests_117 : decode cX12_rests 117 = .ok (.iinc 4 1, 3) := zby_g zbyb_685 (i := 4) rfl rfl
theorem dX12_rests_120 : decode cX12_rests 120 = .ok (.goto (-72), 3) := zby_g zbyb_685 (i := 5) rfl rfl
theorem dX12_rests_123 : decode cX12_rests 123 = .ok (.iload_n 3, 1) := zby_g zbyb_685 (i := 6) rfl rfl
theorem dX12_rests_124 : decode cX12_rests 124 = .ok (.ireturn, 1) := zby_g zbyb_685 (i := 7) rfl rfl
noncomputable def zbyl_686 : List (Nat × zbyE) := [(0, zbyo_42), (1, zbyo_3), (2, zbyo_181 39), (5, zbyo_2), (6, zbyo_60), (7, zbyo_3), (8, zbyo_61), (9, zbyo_28), (10, zbyo_42), (11, zbyo_180 7), (14, zbyo_6), (15, zbyo_46), (16, zbyo_162 29), (19, zbyo_27), (20, zbyo_2), (21, zbyo_159 16)]
theorem zbyb_686 : zbys zbyl_686 (cX12_richest.data.toList.drop 0) 0 = true := by decide +kernel
theorem dX12_richest_0 : decode cX12_richest 0 = .ok (.aload_n 0, 1) := zby_g zbyb_686 (i := 0) rfl rfl
theorem dX12_richest_1 : decode cX12_richest 1 = .ok (.iconst 0, 1) := zby_g zbyb_686 (i := 1) rfl rfl
theorem dX12_richest_2 : decode cX12_richest 2 = .ok (.putfield 39, 3) := zby_g zbyb_686 (i := 2) rfl rfl
theorem dX12_richest_5 : decode cX12_richest 5 = .ok (.iconst (-1), 1) := zby_g zbyb_686 (i := 3) rfl rfl
theorem dX12_richest_6 : decode cX12_richest 6 = .ok (.istore_n 1, 1) := zby_g zbyb_686 (i := 4) rfl rfl
theorem dX12_richest_7 : decode cX12_richest 7 = .ok (.iconst 0, 1) := zby_g zbyb_686 (i := 5) rfl rfl
theorem dX12_richest_8 : decode cX12_richest 8 = .ok (.istore_n 2, 1) := zby_g zbyb_686 (i := 6) rfl rfl
theorem dX12_richest_9 : decode cX12_richest 9 = .ok (.iload_n 2, 1) := zby_g zbyb_686 (i := 7) rfl rfl
theorem dX12_richest_10 : decode cX12_richest 10 = .ok (.aload_n 0, 1) := zby_g zbyb_686 (i := 8) rfl rfl
theorem dX12_richest_11 : decode cX12_richest 11 = .ok (.getfield 7, 3) := zby_g zbyb_686 (i := 9) rfl rfl
theorem dX12_richest_14 : decode cX12_richest 14 = .ok (.iconst 3, 1) := zby_g zbyb_686 (i := 10) rfl rfl
theorem dX12_richest_15 : decode cX12_richest 15 = .ok (.iaload, 1) := zby_g zbyb_686 (i := 11) rfl rfl
theorem dX12_richest_16 : decode cX12_richest 16 = .ok (.if_icmp .ge 29, 3) := zby_g zbyb_686 (i := 12) rfl rfl
theorem dX12_richest_19 : decode cX12_richest 19 = .ok (.iload_n 1, 1) := zby_g zbyb_686 (i := 13) rfl rfl
theorem dX12_richest_20 : decode cX12_richest 20 = .ok (.iconst (-1), 1) := zby_g zbyb_686 (i := 14) rfl rfl
theorem dX12_richest_21 : decode cX12_richest 21 = .ok (.if_icmp .eq 16, 3) := zby_g zbyb_686 (i := 15) rfl rfl
noncomputable def zbyl_687 : List (Nat × zbyE) := [(24, zbyo_42), (25, zbyo_28), (26, zbyo_182 283), (29, zbyo_42), (30, zbyo_27), (31, zbyo_182 283), (34, zbyo_164 5), (37, zbyo_28), (38, zbyo_60), (39, zbyo_132 2 1), (42, zbyo_167 (-33)), (45, zbyo_27), (46, zbyo_172)]
theorem zbyb_687 : zbys zbyl_687 (cX12_richest.data.toList.drop 24) 24 = true := by decide +kernel
theorem dX12_richest_24 : decode cX12_richest 24 = .ok (.aload_n 0, 1) := zby_g zbyb_687 (i := 0) rfl rfl
theorem dX12_richest_25 : decode cX12_richest 25 = .ok (.iload_n 2, 1) := zby_g zbyb_687 (i := 1) rfl rfl
theorem dX12_richest_26 : decode cX12_richest 26 = .ok (.invokevirtual 283, 3) := zby_g zbyb_687 (i := 2) rfl rfl
theorem dX12_richest_29 : decode cX12_richest 29 = .ok (.aload_n 0, 1) := zby_g zbyb_687 (i := 3) rfl rfl
theorem dX12_richest_30 : decode cX12_richest 30 = .ok (.iload_n 1, 1) := zby_g zbyb_687 (i := 4) rfl rfl
theorem dX12_richest_31 : decode cX12_richest 31 = .ok (.invokevirtual 283, 3) := zby_g zbyb_687 (i := 5) rfl rfl
theorem dX12_richest_34 : decode cX12_richest 34 = .ok (.if_icmp .le 5, 3) := zby_g zbyb_687 (i := 6) rfl rfl
theorem dX12_richest_37 : decode cX12_richest 37 = .ok (.iload_n 2, 1) := zby_g zbyb_687 (i := 7) rfl rfl
theorem dX12_richest_38 : decode cX12_richest 38 = .ok (.istore_n 1, 1) := zby_g zbyb_687 (i := 8) rfl rfl
theorem dX12_richest_39 : decode cX12_richest 39 = .ok (.iinc 2 1, 3) := zby_g zbyb_687 (i := 9) rfl rfl
theorem dX12_richest_42 : decode cX12_richest 42 = .ok (.goto (-33), 3) := zby_g zbyb_687 (i := 10) rfl rfl
theorem dX12_richest_45 : decode cX12_richest 45 = .ok (.iload_n 1, 1) := zby_g zbyb_687 (i := 11) rfl rfl
theorem dX12_richest_46 : decode cX12_richest 46 = .ok (.ireturn, 1) := zby_g zbyb_687 (i := 12) rfl rfl
noncomputable def zbyl_688 : List (Nat × zbyE) := [(0, zbyo_42), (1, zbyo_3), (2, zbyo_181 39), (5, zbyo_2), (6, zbyo_60), (7, zbyo_3), (8, zbyo_61), (9, zbyo_28), (10, zbyo_42), (11, zbyo_180 7), (14, zbyo_6), (15, zbyo_46), (16, zbyo_162 39), (19, zbyo_42), (20, zbyo_28), (21, zbyo_182 50)]
theorem zbyb_688 : zbys zbyl_688 (cX12_firmest.data.toList.drop 0) 0 = true := by decide +kernel
theorem dX12_firmest_0 : decode cX12_firmest 0 = .ok (.aload_n 0, 1) := zby_g zbyb_688 (i := 0) rfl rfl
theorem dX12_firmest_1 : decode cX12_firmest 1 = .ok (.iconst 0, 1) := zby_g zbyb_688 (i := 1) rfl rfl
theorem dX12_firmest_2 : decode cX12_firmest 2 = .ok (.putfield 39, 3) := zby_g zbyb_688 (i := 2) rfl rfl
theorem dX12_firmest_5 : decode cX12_firmest 5 = .ok (.iconst (-1), 1) := zby_g zbyb_688 (i := 3) rfl rfl
theorem dX12_firmest_6 : decode cX12_firmest 6 = .ok (.istore_n 1, 1) := zby_g zbyb_688 (i := 4) rfl rfl
theorem dX12_firmest_7 : decode cX12_firmest 7 = .ok (.iconst 0, 1) := zby_g zbyb_688 (i := 5) rfl rfl
theorem dX12_firmest_8 : decode cX12_firmest 8 = .ok (.istore_n 2, 1) := zby_g zbyb_688 (i := 6) rfl rfl
theorem dX12_firmest_9 : decode cX12_firmest 9 = .ok (.iload_n 2, 1) := zby_g zbyb_688 (i := 7) rfl rfl
theorem dX12_firmest_10 : decode cX12_firmest 10 = .ok (.aload_n 0, 1) := zby_g zbyb_688 (i := 8) rfl rfl
theorem dX12_firmest_11 : decode cX12_firmest 11 = .ok (.getfield 7, 3) := zby_g zbyb_688 (i := 9) rfl rfl
theorem dX12_firmest_14 : decode cX12_firmest 14 = .ok (.iconst 3, 1) := zby_g zbyb_688 (i := 10) rfl rfl
theorem dX12_firmest_15 : decode cX12_firmest 15 = .ok (.iaload, 1) := zby_g zbyb_688 (i := 11) rfl rfl
theorem dX12_firmest_16 : decode cX12_firmest 16 = .ok (.if_icmp .ge 39, 3) := zby_g zbyb_688 (i := 12) rfl rfl
theorem dX12_firmest_19 : decode cX12_firmest 19 = .ok (.aload_n 0, 1) := zby_g zbyb_688 (i := 13) rfl rfl
theorem dX12_firmest_20 : decode cX12_firmest 20 = .ok (.iload_n 2, 1) := zby_g zbyb_688 (i := 14) rfl rfl
theorem dX12_firmest_21 : decode cX12_firmest 21 = .ok (.invokevirtual 50, 3) := zby_g zbyb_688 (i := 15) rfl rfl
noncomputable def zbyl_689 : List (Nat × zbyE) := [(24, zbyo_153 25), (27, zbyo_27), (28, zbyo_2), (29, zbyo_159 18), (32, zbyo_42), (33, zbyo_28), (34, zbyo_3), (35, zbyo_182 46), (38, zbyo_42), (39, zbyo_27), (40, zbyo_3), (41, zbyo_182 46), (44, zbyo_164 5), (47, zbyo_28), (48, zbyo_60), (49, zbyo_132 2 1)]
theorem zbyb_689 : zbys zbyl_689 (cX12_firmest.data.toList.drop 24) 24 = true := by decide +kernel
theorem dX12_firmest_24 : decode cX12_firmest 24 = .ok (.ifCond .eq 25, 3) := zby_g zbyb_689 (i := 0) rfl rfl
theorem dX12_firmest_27 : decode cX12_firmest 27 = .ok (.iload_n 1, 1) := zby_g zbyb_689 (i := 1) rfl rfl
theorem dX12_firmest_28 : decode cX12_firmest 28 = .ok (.iconst (-1), 1) := zby_g zbyb_689 (i := 2) rfl rfl
theorem dX12_firmest_29 : decode cX12_firmest 29 = .ok (.if_icmp .eq 18, 3) := zby_g zbyb_689 (i := 3) rfl rfl
theorem dX12_firmest_32 : decode cX12_firmest 32 = .ok (.aload_n 0, 1) := zby_g zbyb_689 (i := 4) rfl rfl
theorem dX12_firmest_33 : decode cX12_firmest 33 = .ok (.iload_n 2, 1) := zby_g zbyb_689 (i := 5) rfl rfl
theorem dX12_firmest_34 : decode cX12_firmest 34 = .ok (.iconst 0, 1) := zby_g zbyb_689 (i := 6) rfl rfl
theorem dX12_firmest_35 : decode cX12_firmest 35 = .ok (.invokevirtual 46, 3) := zby_g zbyb_689 (i := 7) rfl rfl
theorem dX12_firmest_38 : decode cX12_firmest 38 = .ok (.aload_n 0, 1) := zby_g zbyb_689 (i := 8) rfl rfl
theorem dX12_firmest_39 : decode cX12_firmest 39 = .ok (.iload_n 1, 1) := zby_g zbyb_689 (i := 9) rfl rfl
theorem dX12_firmest_40 : decode cX12_firmest 40 = .ok (.iconst 0, 1) := zby_g zbyb_689 (i := 10) rfl rfl
theorem dX12_firmest_41 : decode cX12_firmest 41 = .ok (.invokevirtual 46, 3) := zby_g zbyb_689 (i := 11) rfl rfl
theorem dX12_firmest_44 : decode cX12_firmest 44 = .ok (.if_icmp .le 5, 3) := zby_g zbyb_689 (i := 12) rfl rfl
theorem dX12_firmest_47 : decode cX12_firmest 47 = .ok (.iload_n 2, 1) := zby_g zbyb_689 (i := 13) rfl rfl
theorem dX12_firmest_48 : decode cX12_firmest 48 = .ok (.istore_n 1, 1) := zby_g zbyb_689 (i := 14) rfl rfl
theorem dX12_firmest_49 : decode cX12_firmest 49 = .ok (.iinc 2 1, 3) := zby_g zbyb_689 (i := 15) rfl rfl
noncomputable def zbyl_690 : List (Nat × zbyE) := [(52, zbyo_167 (-43)), (55, zbyo_27), (56, zbyo_172)]
theorem zbyb_690 : zbys zbyl_690 (cX12_firmest.data.toList.drop 52) 52 = true := by decide +kernel
theorem dX12_firmest_52 : decode cX12_firmest 52 = .ok (.goto (-43), 3) := zby_g zbyb_690 (i := 0) rfl rfl
theorem dX12_firmest_55 : decode cX12_firmest 55 = .ok (.iload_n 1, 1) := zby_g zbyb_690 (i := 1) rfl rfl
theorem dX12_firmest_56 : decode cX12_firmest 56 = .ok (.ireturn, 1) := zby_g zbyb_690 (i := 2) rfl rfl
noncomputable def zbyl_691 : List (Nat × zbyE) := [(0, zbyo_42), (1, zbyo_3), (2, zbyo_181 39), (5, zbyo_2), (6, zbyo_60), (7, zbyo_3), (8, zbyo_61), (9, zbyo_28), (10, zbyo_42), (11, zbyo_180 7), (14, zbyo_6), (15, zbyo_46), (16, zbyo_162 59), (19, zbyo_42), (20, zbyo_28), (21, zbyo_182 50)]
theorem zbyb_691 : zbys zbyl_691 (cX12_home.data.toList.drop 0) 0 = true := by decide +kernel
theorem dX12_home_0 : decode cX12_home 0 = .ok (.aload_n 0, 1) := zby_g zbyb_691 (i := 0) rfl rfl
theorem dX12_home_1 : decode cX12_home 1 = .ok (.iconst 0, 1) := zby_g zbyb_691 (i := 1) rfl rfl
theorem dX12_home_2 : decode cX12_home 2 = .ok (.putfield 39, 3) := zby_g zbyb_691 (i := 2) rfl rfl
theorem dX12_home_5 : decode cX12_home 5 = .ok (.iconst (-1), 1) := zby_g zbyb_691 (i := 3) rfl rfl
theorem dX12_home_6 : decode cX12_home 6 = .ok (.istore_n 1, 1) := zby_g zbyb_691 (i := 4) rfl rfl
theorem dX12_home_7 : decode cX12_home 7 = .ok (.iconst 0, 1) := zby_g zbyb_691 (i := 5) rfl rfl
theorem dX12_home_8 : decode cX12_home 8 = .ok (.istore_n 2, 1) := zby_g zbyb_691 (i := 6) rfl rfl
theorem dX12_home_9 : decode cX12_home 9 = .ok (.iload_n 2, 1) := zby_g zbyb_691 (i := 7) rfl rfl
theorem dX12_home_10 : decode cX12_home 10 = .ok (.aload_n 0, 1) := zby_g zbyb_691 (i := 8) rfl rfl
theorem dX12_home_11 : decode cX12_home 11 = .ok (.getfield 7, 3) := zby_g zbyb_691 (i := 9) rfl rfl
theorem dX12_home_14 : decode cX12_home 14 = .ok (.iconst 3, 1) := zby_g zbyb_691 (i := 10) rfl rfl
theorem dX12_home_15 : decode cX12_home 15 = .ok (.iaload, 1) := zby_g zbyb_691 (i := 11) rfl rfl
theorem dX12_home_16 : decode cX12_home 16 = .ok (.if_icmp .ge 59, 3) := zby_g zbyb_691 (i := 12) rfl rfl
theorem dX12_home_19 : decode cX12_home 19 = .ok (.aload_n 0, 1) := zby_g zbyb_691 (i := 13) rfl rfl
theorem dX12_home_20 : decode cX12_home 20 = .ok (.iload_n 2, 1) := zby_g zbyb_691 (i := 14) rfl rfl
theorem dX12_home_21 : decode cX12_home 21 = .ok (.invokevirtual 50, 3) := zby_g zbyb_691 (i := 15) rfl rfl
noncomputable def zbyl_692 : List (Nat × zbyE) := [(24, zbyo_153 9), (27, zbyo_19 329), (30, zbyo_167 19), (33, zbyo_42), (34, zbyo_180 7), (37, zbyo_16 8), (39, zbyo_46), (40, zbyo_42), (41, zbyo_28), (42, zbyo_7), (43, zbyo_182 46), (46, zbyo_184 251), (49, zbyo_62), (50, zbyo_29), (51, zbyo_19 329), (54, zbyo_159 15)]
theorem zbyb_692 : zbys zbyl_692 (cX12_home.data.toList.drop 24) 24 = true := by decide +kernel
theorem dX12_home_24 : decode cX12_home 24 = .ok (.ifCond .eq 9, 3) := zby_g zbyb_692 (i := 0) rfl rfl
theorem dX12_home_27 : decode cX12_home 27 = .ok (.ldc_w 329, 3) := zby_g zbyb_692 (i := 1) rfl rfl
theorem dX12_home_30 : decode cX12_home 30 = .ok (.goto 19, 3) := zby_g zbyb_692 (i := 2) rfl rfl
theorem dX12_home_33 : decode cX12_home 33 = .ok (.aload_n 0, 1) := zby_g zbyb_692 (i := 3) rfl rfl
theorem dX12_home_34 : decode cX12_home 34 = .ok (.getfield 7, 3) := zby_g zbyb_692 (i := 4) rfl rfl
theorem dX12_home_37 : decode cX12_home 37 = .ok (.bipush 8, 2) := zby_g zbyb_692 (i := 5) rfl rfl
theorem dX12_home_39 : decode cX12_home 39 = .ok (.iaload, 1) := zby_g zbyb_692 (i := 6) rfl rfl
theorem dX12_home_40 : decode cX12_home 40 = .ok (.aload_n 0, 1) := zby_g zbyb_692 (i := 7) rfl rfl
theorem dX12_home_41 : decode cX12_home 41 = .ok (.iload_n 2, 1) := zby_g zbyb_692 (i := 8) rfl rfl
theorem dX12_home_42 : decode cX12_home 42 = .ok (.iconst 4, 1) := zby_g zbyb_692 (i := 9) rfl rfl
theorem dX12_home_43 : decode cX12_home 43 = .ok (.invokevirtual 46, 3) := zby_g zbyb_692 (i := 10) rfl rfl
theorem dX12_home_46 : decode cX12_home 46 = .ok (.invokestatic 251, 3) := zby_g zbyb_692 (i := 11) rfl rfl
theorem dX12_home_49 : decode cX12_home 49 = .ok (.istore_n 3, 1) := zby_g zbyb_692 (i := 12) rfl rfl
theorem dX12_home_50 : decode cX12_home 50 = .ok (.iload_n 3, 1) := zby_g zbyb_692 (i := 13) rfl rfl
theorem dX12_home_51 : decode cX12_home 51 = .ok (.ldc_w 329, 3) := zby_g zbyb_692 (i := 14) rfl rfl
theorem dX12_home_54 : decode cX12_home 54 = .ok (.if_icmp .eq 15, 3) := zby_g zbyb_692 (i := 15) rfl rfl
noncomputable def zbyl_693 : List (Nat × zbyE) := [(57, zbyo_27), (58, zbyo_2), (59, zbyo_159 8), (62, zbyo_29), (63, zbyo_27), (64, zbyo_162 5), (67, zbyo_29), (68, zbyo_60), (69, zbyo_132 2 1), (72, zbyo_167 (-63)), (75, zbyo_27), (76, zbyo_172)]
theorem zbyb_693 : zbys zbyl_693 (cX12_home.data.toList.drop 57) 57 = true := by decide +kernel
theorem dX12_home_57 : decode cX12_home 57 = .ok (.iload_n 1, 1) := zby_g zbyb_693 (i := 0) rfl rfl
theorem dX12_home_58 : decode cX12_home 58 = .ok (.iconst (-1), 1) := zby_g zbyb_693 (i := 1) rfl rfl
theorem dX12_home_59 : decode cX12_home 59 = .ok (.if_icmp .eq 8, 3) := zby_g zbyb_693 (i := 2) rfl rfl
theorem dX12_home_62 : decode cX12_home 62 = .ok (.iload_n 3, 1) := zby_g zbyb_693 (i := 3) rfl rfl
theorem dX12_home_63 : decode cX12_home 63 = .ok (.iload_n 1, 1) := zby_g zbyb_693 (i := 4) rfl rfl
theorem dX12_home_64 : decode cX12_home 64 = .ok (.if_icmp .ge 5, 3) := zby_g zbyb_693 (i := 5) rfl rfl
theorem dX12_home_67 : decode cX12_home 67 = .ok (.iload_n 3, 1) := zby_g zbyb_693 (i := 6) rfl rfl
theorem dX12_home_68 : decode cX12_home 68 = .ok (.istore_n 1, 1) := zby_g zbyb_693 (i := 7) rfl rfl
theorem dX12_home_69 : decode cX12_home 69 = .ok (.iinc 2 1, 3) := zby_g zbyb_693 (i := 8) rfl rfl
theorem dX12_home_72 : decode cX12_home 72 = .ok (.goto (-63), 3) := zby_g zbyb_693 (i := 9) rfl rfl
theorem dX12_home_75 : decode cX12_home 75 = .ok (.iload_n 1, 1) := zby_g zbyb_693 (i := 10) rfl rfl
theorem dX12_home_76 : decode cX12_home 76 = .ok (.ireturn, 1) := zby_g zbyb_693 (i := 11) rfl rfl
noncomputable def zbyl_694 : List (Nat × zbyE) := [(0, zbyo_42), (1, zbyo_27), (2, zbyo_3), (3, zbyo_16 60), (5, zbyo_184 42), (8, zbyo_154 7), (11, zbyo_4), (12, zbyo_167 4), (15, zbyo_3), (16, zbyo_181 39), (19, zbyo_42), (20, zbyo_180 39), (23, zbyo_158 5), (26, zbyo_3), (27, zbyo_172), (28, zbyo_42)]
theorem zbyb_694 : zbys zbyl_694 (cX12_trial.data.toList.drop 0) 0 = true := by decide +kernel
theorem dX12_trial_0 : decode cX12_trial 0 = .ok (.aload_n 0, 1) := zby_g zbyb_694 (i := 0) rfl rfl
theorem dX12_trial_1 : decode cX12_trial 1 = .ok (.iload_n 1, 1) := zby_g zbyb_694 (i := 1) rfl rfl
theorem dX12_trial_2 : decode cX12_trial 2 = .ok (.iconst 0, 1) := zby_g zbyb_694 (i := 2) rfl rfl
theorem dX12_trial_3 : decode cX12_trial 3 = .ok (.bipush 60, 2) := zby_g zbyb_694 (i := 3) rfl rfl
theorem dX12_trial_5 : decode cX12_trial 5 = .ok (.invokestatic 42, 3) := zby_g zbyb_694 (i := 4) rfl rfl
theorem dX12_trial_8 : decode cX12_trial 8 = .ok (.ifCond .ne 7, 3) := zby_g zbyb_694 (i := 5) rfl rfl
theorem dX12_trial_11 : decode cX12_trial 11 = .ok (.iconst 1, 1) := zby_g zbyb_694 (i := 6) rfl rfl
theorem dX12_trial_12 : decode cX12_trial 12 = .ok (.goto 4, 3) := zby_g zbyb_694 (i := 7) rfl rfl
theorem dX12_trial_15 : decode cX12_trial 15 = .ok (.iconst 0, 1) := zby_g zbyb_694 (i := 8) rfl rfl
theorem dX12_trial_16 : decode cX12_trial 16 = .ok (.putfield 39, 3) := zby_g zbyb_694 (i := 9) rfl rfl
theorem dX12_trial_19 : decode cX12_trial 19 = .ok (.aload_n 0, 1) := zby_g zbyb_694 (i := 10) rfl rfl
theorem dX12_trial_20 : decode cX12_trial 20 = .ok (.getfield 39, 3) := zby_g zbyb_694 (i := 11) rfl rfl
theorem dX12_trial_23 : decode cX12_trial 23 = .ok (.ifCond .le 5, 3) := zby_g zbyb_694 (i := 12) rfl rfl
theorem dX12_trial_26 : decode cX12_trial 26 = .ok (.iconst 0, 1) := zby_g zbyb_694 (i := 13) rfl rfl
theorem dX12_trial_27 : decode cX12_trial 27 = .ok (.ireturn, 1) := zby_g zbyb_694 (i := 14) rfl rfl
theorem dX12_trial_28 : decode cX12_trial 28 = .ok (.aload_n 0, 1) := zby_g zbyb_694 (i := 15) rfl rfl
noncomputable def zbyl_695 : List (Nat × zbyE) := [(29, zbyo_182 174), (32, zbyo_42), (33, zbyo_27), (34, zbyo_4), (35, zbyo_182 292), (38, zbyo_62), (39, zbyo_28), (40, zbyo_153 12), (43, zbyo_42), (44, zbyo_180 7), (47, zbyo_8), (48, zbyo_46), (49, zbyo_167 7), (52, zbyo_42), (53, zbyo_182 62), (56, zbyo_54 4)]
theorem zbyb_695 : zbys zbyl_695 (cX12_trial.data.toList.drop 29) 29 = true := by decide +kernel
theorem dX12_trial_29 : decode cX12_trial 29 = .ok (.invokevirtual 174, 3) := zby_g zbyb_695 (i := 0) rfl rfl
theorem dX12_trial_32 : decode cX12_trial 32 = .ok (.aload_n 0, 1) := zby_g zbyb_695 (i := 1) rfl rfl
theorem dX12_trial_33 : decode cX12_trial 33 = .ok (.iload_n 1, 1) := zby_g zbyb_695 (i := 2) rfl rfl
theorem dX12_trial_34 : decode cX12_trial 34 = .ok (.iconst 1, 1) := zby_g zbyb_695 (i := 3) rfl rfl
theorem dX12_trial_35 : decode cX12_trial 35 = .ok (.invokevirtual 292, 3) := zby_g zbyb_695 (i := 4) rfl rfl
theorem dX12_trial_38 : decode cX12_trial 38 = .ok (.istore_n 3, 1) := zby_g zbyb_695 (i := 5) rfl rfl
theorem dX12_trial_39 : decode cX12_trial 39 = .ok (.iload_n 2, 1) := zby_g zbyb_695 (i := 6) rfl rfl
theorem dX12_trial_40 : decode cX12_trial 40 = .ok (.ifCond .eq 12, 3) := zby_g zbyb_695 (i := 7) rfl rfl
theorem dX12_trial_43 : decode cX12_trial 43 = .ok (.aload_n 0, 1) := zby_g zbyb_695 (i := 8) rfl rfl
theorem dX12_trial_44 : decode cX12_trial 44 = .ok (.getfield 7, 3) := zby_g zbyb_695 (i := 9) rfl rfl
theorem dX12_trial_47 : decode cX12_trial 47 = .ok (.iconst 5, 1) := zby_g zbyb_695 (i := 10) rfl rfl
theorem dX12_trial_48 : decode cX12_trial 48 = .ok (.iaload, 1) := zby_g zbyb_695 (i := 11) rfl rfl
theorem dX12_trial_49 : decode cX12_trial 49 = .ok (.goto 7, 3) := zby_g zbyb_695 (i := 12) rfl rfl
theorem dX12_trial_52 : decode cX12_trial 52 = .ok (.aload_n 0, 1) := zby_g zbyb_695 (i := 13) rfl rfl
theorem dX12_trial_53 : decode cX12_trial 53 = .ok (.invokevirtual 62, 3) := zby_g zbyb_695 (i := 14) rfl rfl
theorem dX12_trial_56 : decode cX12_trial 56 = .ok (.istore 4, 2) := zby_g zbyb_695 (i := 15) rfl rfl
noncomputable def zbyl_696 : List (Nat × zbyE) := [(58, zbyo_42), (59, zbyo_182 184), (62, zbyo_21 4), (64, zbyo_172)]
theorem zbyb_696 : zbys zbyl_696 (cX12_trial.data.toList.drop 58) 58 = true := by decide +kernel
theorem dX12_trial_58 : decode cX12_trial 58 = .ok (.aload_n 0, 1) := zby_g zbyb_696 (i := 0) rfl rfl
theorem dX12_trial_59 : decode cX12_trial 59 = .ok (.invokevirtual 184, 3) := zby_g zbyb_696 (i := 1) rfl rfl
theorem dX12_trial_62 : decode cX12_trial 62 = .ok (.iload 4, 2) := zby_g zbyb_696 (i := 2) rfl rfl
theorem dX12_trial_64 : decode cX12_trial 64 = .ok (.ireturn, 1) := zby_g zbyb_696 (i := 3) rfl rfl
noncomputable def zbyl_697 : List (Nat × zbyE) := [(0, zbyo_42), (1, zbyo_27), (2, zbyo_3), (3, zbyo_16 60), (5, zbyo_184 42), (8, zbyo_154 7), (11, zbyo_4), (12, zbyo_167 4), (15, zbyo_3), (16, zbyo_181 39), (19, zbyo_42), (20, zbyo_180 39), (23, zbyo_158 5), (26, zbyo_3), (27, zbyo_172), (28, zbyo_42)]
theorem zbyb_697 : zbys zbyl_697 (cX12_span.data.toList.drop 0) 0 = true := by decide +kernel
theorem dX12_span_0 : decode cX12_span 0 = .ok (.aload_n 0, 1) := zby_g zbyb_697 (i := 0) rfl rfl
theorem dX12_span_1 : decode cX12_span 1 = .ok (.iload_n 1, 1) := zby_g zbyb_697 (i := 1) rfl rfl
theorem dX12_span_2 : decode cX12_span 2 = .ok (.iconst 0, 1) := zby_g zbyb_697 (i := 2) rfl rfl
theorem dX12_span_3 : decode cX12_span 3 = .ok (.bipush 60, 2) := zby_g zbyb_697 (i := 3) rfl rfl
theorem dX12_span_5 : decode cX12_span 5 = .ok (.invokestatic 42, 3) := zby_g zbyb_697 (i := 4) rfl rfl
theorem dX12_span_8 : decode cX12_span 8 = .ok (.ifCond .ne 7, 3) := zby_g zbyb_697 (i := 5) rfl rfl
theorem dX12_span_11 : decode cX12_span 11 = .ok (.iconst 1, 1) := zby_g zbyb_697 (i := 6) rfl rfl
theorem dX12_span_12 : decode cX12_span 12 = .ok (.goto 4, 3) := zby_g zbyb_697 (i := 7) rfl rfl
theorem dX12_span_15 : decode cX12_span 15 = .ok (.iconst 0, 1) := zby_g zbyb_697 (i := 8) rfl rfl
theorem dX12_span_16 : decode cX12_span 16 = .ok (.putfield 39, 3) := zby_g zbyb_697 (i := 9) rfl rfl
theorem dX12_span_19 : decode cX12_span 19 = .ok (.aload_n 0, 1) := zby_g zbyb_697 (i := 10) rfl rfl
theorem dX12_span_20 : decode cX12_span 20 = .ok (.getfield 39, 3) := zby_g zbyb_697 (i := 11) rfl rfl
theorem dX12_span_23 : decode cX12_span 23 = .ok (.ifCond .le 5, 3) := zby_g zbyb_697 (i := 12) rfl rfl
theorem dX12_span_26 : decode cX12_span 26 = .ok (.iconst 0, 1) := zby_g zbyb_697 (i := 13) rfl rfl
theorem dX12_span_27 : decode cX12_span 27 = .ok (.ireturn, 1) := zby_g zbyb_697 (i := 14) rfl rfl
theorem dX12_span_28 : decode cX12_span 28 = .ok (.aload_n 0, 1) := zby_g zbyb_697 (i := 15) rfl rfl
noncomputable def zbyl_698 : List (Nat × zbyE) := [(29, zbyo_182 174), (32, zbyo_2), (33, zbyo_62), (34, zbyo_4), (35, zbyo_54 4), (37, zbyo_21 4), (39, zbyo_16 6), (41, zbyo_163 66), (44, zbyo_42), (45, zbyo_180 7), (48, zbyo_16 10), (50, zbyo_21 4), (52, zbyo_79), (53, zbyo_42), (54, zbyo_27), (55, zbyo_4)]
theorem zbyb_698 : zbys zbyl_698 (cX12_span.data.toList.drop 29) 29 = true := by decide +kernel
theorem dX12_span_29 : decode cX12_span 29 = .ok (.invokevirtual 174, 3) := zby_g zbyb_698 (i := 0) rfl rfl
theorem dX12_span_32 : decode cX12_span 32 = .ok (.iconst (-1), 1) := zby_g zbyb_698 (i := 1) rfl rfl
theorem dX12_span_33 : decode cX12_span 33 = .ok (.istore_n 3, 1) := zby_g zbyb_698 (i := 2) rfl rfl
theorem dX12_span_34 : decode cX12_span 34 = .ok (.iconst 1, 1) := zby_g zbyb_698 (i := 3) rfl rfl
theorem dX12_span_35 : decode cX12_span 35 = .ok (.istore 4, 2) := zby_g zbyb_698 (i := 4) rfl rfl
theorem dX12_span_37 : decode cX12_span 37 = .ok (.iload 4, 2) := zby_g zbyb_698 (i := 5) rfl rfl
theorem dX12_span_39 : decode cX12_span 39 = .ok (.bipush 6, 2) := zby_g zbyb_698 (i := 6) rfl rfl
theorem dX12_span_41 : decode cX12_span 41 = .ok (.if_icmp .gt 66, 3) := zby_g zbyb_698 (i := 7) rfl rfl
theorem dX12_span_44 : decode cX12_span 44 = .ok (.aload_n 0, 1) := zby_g zbyb_698 (i := 8) rfl rfl
theorem dX12_span_45 : decode cX12_span 45 = .ok (.getfield 7, 3) := zby_g zbyb_698 (i := 9) rfl rfl
theorem dX12_span_48 : decode cX12_span 48 = .ok (.bipush 10, 2) := zby_g zbyb_698 (i := 10) rfl rfl
theorem dX12_span_50 : decode cX12_span 50 = .ok (.iload 4, 2) := zby_g zbyb_698 (i := 11) rfl rfl
theorem dX12_span_52 : decode cX12_span 52 = .ok (.iastore, 1) := zby_g zbyb_698 (i := 12) rfl rfl
theorem dX12_span_53 : decode cX12_span 53 = .ok (.aload_n 0, 1) := zby_g zbyb_698 (i := 13) rfl rfl
theorem dX12_span_54 : decode cX12_span 54 = .ok (.iload_n 1, 1) := zby_g zbyb_698 (i := 14) rfl rfl
theorem dX12_span_55 : decode cX12_span 55 = .ok (.iconst 1, 1) := zby_g zbyb_698 (i := 15) rfl rfl
noncomputable def zbyl_699 : List (Nat × zbyE) := [(56, zbyo_182 292), (59, zbyo_54 5), (61, zbyo_42), (62, zbyo_182 62), (65, zbyo_54 6), (67, zbyo_42), (68, zbyo_182 184), (71, zbyo_29), (72, zbyo_2), (73, zbyo_160 8), (76, zbyo_21 6), (78, zbyo_167 22), (81, zbyo_28), (82, zbyo_153 12), (85, zbyo_29), (86, zbyo_21 6)]
theorem zbyb_699 : zbys zbyl_699 (cX12_span.data.toList.drop 56) 56 = true := by decide +kernel
theorem dX12_span_56 : decode cX12_span 56 = .ok (.invokevirtual 292, 3) := zby_g zbyb_699 (i := 0) rfl rfl
theorem dX12_span_59 : decode cX12_span 59 = .ok (.istore 5, 2) := zby_g zbyb_699 (i := 1) rfl rfl
theorem dX12_span_61 : decode cX12_span 61 = .ok (.aload_n 0, 1) := zby_g zbyb_699 (i := 2) rfl rfl
theorem dX12_span_62 : decode cX12_span 62 = .ok (.invokevirtual 62, 3) := zby_g zbyb_699 (i := 3) rfl rfl
theorem dX12_span_65 : decode cX12_span 65 = .ok (.istore 6, 2) := zby_g zbyb_699 (i := 4) rfl rfl
theorem dX12_span_67 : decode cX12_span 67 = .ok (.aload_n 0, 1) := zby_g zbyb_699 (i := 5) rfl rfl
theorem dX12_span_68 : decode cX12_span 68 = .ok (.invokevirtual 184, 3) := zby_g zbyb_699 (i := 6) rfl rfl
theorem dX12_span_71 : decode cX12_span 71 = .ok (.iload_n 3, 1) := zby_g zbyb_699 (i := 7) rfl rfl
theorem dX12_span_72 : decode cX12_span 72 = .ok (.iconst (-1), 1) := zby_g zbyb_699 (i := 8) rfl rfl
theorem dX12_span_73 : decode cX12_span 73 = .ok (.if_icmp .ne 8, 3) := zby_g zbyb_699 (i := 9) rfl rfl
theorem dX12_span_76 : decode cX12_span 76 = .ok (.iload 6, 2) := zby_g zbyb_699 (i := 10) rfl rfl
theorem dX12_span_78 : decode cX12_span 78 = .ok (.goto 22, 3) := zby_g zbyb_699 (i := 11) rfl rfl
theorem dX12_span_81 : decode cX12_span 81 = .ok (.iload_n 2, 1) := zby_g zbyb_699 (i := 12) rfl rfl
theorem dX12_span_82 : decode cX12_span 82 = .ok (.ifCond .eq 12, 3) := zby_g zbyb_699 (i := 13) rfl rfl
theorem dX12_span_85 : decode cX12_span 85 = .ok (.iload_n 3, 1) := zby_g zbyb_699 (i := 14) rfl rfl
theorem dX12_span_86 : decode cX12_span 86 = .ok (.iload 6, 2) := zby_g zbyb_699 (i := 15) rfl rfl
noncomputable def zbyl_700 : List (Nat × zbyE) := [(88, zbyo_184 251), (91, zbyo_167 9), (94, zbyo_29), (95, zbyo_21 6), (97, zbyo_184 248), (100, zbyo_62), (101, zbyo_132 4 1), (104, zbyo_167 (-67)), (107, zbyo_29), (108, zbyo_172)]
theorem zbyb_700 : zbys zbyl_700 (cX12_span.data.toList.drop 88) 88 = true := by decide +kernel
theorem dX12_span_88 : decode cX12_span 88 = .ok (.invokestatic 251, 3) := zby_g zbyb_700 (i := 0) rfl rfl
theorem dX12_span_91 : decode cX12_span 91 = .ok (.goto 9, 3) := zby_g zbyb_700 (i := 1) rfl rfl
theorem dX12_span_94 : decode cX12_span 94 = .ok (.iload_n 3, 1) := zby_g zbyb_700 (i := 2) rfl rfl
theorem dX12_span_95 : decode cX12_span 95 = .ok (.iload 6, 2) := zby_g zbyb_700 (i := 3) rfl rfl
theorem dX12_span_97 : decode cX12_span 97 = .ok (.invokestatic 248, 3) := zby_g zbyb_700 (i := 4) rfl rfl
theorem dX12_span_100 : decode cX12_span 100 = .ok (.istore_n 3, 1) := zby_g zbyb_700 (i := 5) rfl rfl
theorem dX12_span_101 : decode cX12_span 101 = .ok (.iinc 4 1, 3) := zby_g zbyb_700 (i := 6) rfl rfl
theorem dX12_span_104 : decode cX12_span 104 = .ok (.goto (-67), 3) := zby_g zbyb_700 (i := 7) rfl rfl
theorem dX12_span_107 : decode cX12_span 107 = .ok (.iload_n 3, 1) := zby_g zbyb_700 (i := 8) rfl rfl
theorem dX12_span_108 : decode cX12_span 108 = .ok (.ireturn, 1) := zby_g zbyb_700 (i := 9) rfl rfl
noncomputable def zbyl_701 : List (Nat × zbyE) := [(0, zbyo_42), (1, zbyo_180 7), (4, zbyo_17 139), (7, zbyo_7), (8, zbyo_27), (9, zbyo_104), (10, zbyo_96), (11, zbyo_28), (12, zbyo_96), (13, zbyo_46), (14, zbyo_172)]
theorem zbyb_701 : zbys zbyl_701 (cX12_logged.data.toList.drop 0) 0 = true := by decide +kernel
theorem dX12_logged_0 : decode cX12_logged 0 = .ok (.aload_n 0, 1) := zby_g zbyb_701 (i := 0) rfl rfl
theorem dX12_logged_1 : decode cX12_logged 1 = .ok (.getfield 7, 3) := zby_g zbyb_701 (i := 1) rfl rfl
theorem dX12_logged_4 : decode cX12_logged 4 = .ok (.sipush 139, 3) := zby_g zbyb_701 (i := 2) rfl rfl
theorem dX12_logged_7 : decode cX12_logged 7 = .ok (.iconst 4, 1) := zby_g zbyb_701 (i := 3) rfl rfl
theorem dX12_logged_8 : decode cX12_logged 8 = .ok (.iload_n 1, 1) := zby_g zbyb_701 (i := 4) rfl rfl
theorem dX12_logged_9 : decode cX12_logged 9 = .ok (.imul, 1) := zby_g zbyb_701 (i := 5) rfl rfl
theorem dX12_logged_10 : decode cX12_logged 10 = .ok (.iadd, 1) := zby_g zbyb_701 (i := 6) rfl rfl
theorem dX12_logged_11 : decode cX12_logged 11 = .ok (.iload_n 2, 1) := zby_g zbyb_701 (i := 7) rfl rfl
theorem dX12_logged_12 : decode cX12_logged 12 = .ok (.iadd, 1) := zby_g zbyb_701 (i := 8) rfl rfl
theorem dX12_logged_13 : decode cX12_logged 13 = .ok (.iaload, 1) := zby_g zbyb_701 (i := 9) rfl rfl
theorem dX12_logged_14 : decode cX12_logged 14 = .ok (.ireturn, 1) := zby_g zbyb_701 (i := 10) rfl rfl
noncomputable def zbyl_702 : List (Nat × zbyE) := [(0, zbyo_42), (1, zbyo_42), (2, zbyo_27), (3, zbyo_182 286), (6, zbyo_154 7), (9, zbyo_4), (10, zbyo_167 4), (13, zbyo_3), (14, zbyo_181 39), (17, zbyo_42), (18, zbyo_180 39), (21, zbyo_158 5), (24, zbyo_3), (25, zbyo_172), (26, zbyo_3), (27, zbyo_62)]
theorem zbyb_702 : zbys zbyl_702 (cX12_led.data.toList.drop 0) 0 = true := by decide +kernel
theorem dX12_led_0 : decode cX12_led 0 = .ok (.aload_n 0, 1) := zby_g zbyb_702 (i := 0) rfl rfl
theorem dX12_led_1 : decode cX12_led 1 = .ok (.aload_n 0, 1) := zby_g zbyb_702 (i := 1) rfl rfl
theorem dX12_led_2 : decode cX12_led 2 = .ok (.iload_n 1, 1) := zby_g zbyb_702 (i := 2) rfl rfl
theorem dX12_led_3 : decode cX12_led 3 = .ok (.invokevirtual 286, 3) := zby_g zbyb_702 (i := 3) rfl rfl
theorem dX12_led_6 : decode cX12_led 6 = .ok (.ifCond .ne 7, 3) := zby_g zbyb_702 (i := 4) rfl rfl
theorem dX12_led_9 : decode cX12_led 9 = .ok (.iconst 1, 1) := zby_g zbyb_702 (i := 5) rfl rfl
theorem dX12_led_10 : decode cX12_led 10 = .ok (.goto 4, 3) := zby_g zbyb_702 (i := 6) rfl rfl
theorem dX12_led_13 : decode cX12_led 13 = .ok (.iconst 0, 1) := zby_g zbyb_702 (i := 7) rfl rfl
theorem dX12_led_14 : decode cX12_led 14 = .ok (.putfield 39, 3) := zby_g zbyb_702 (i := 8) rfl rfl
theorem dX12_led_17 : decode cX12_led 17 = .ok (.aload_n 0, 1) := zby_g zbyb_702 (i := 9) rfl rfl
theorem dX12_led_18 : decode cX12_led 18 = .ok (.getfield 39, 3) := zby_g zbyb_702 (i := 10) rfl rfl
theorem dX12_led_21 : decode cX12_led 21 = .ok (.ifCond .le 5, 3) := zby_g zbyb_702 (i := 11) rfl rfl
theorem dX12_led_24 : decode cX12_led 24 = .ok (.iconst 0, 1) := zby_g zbyb_702 (i := 12) rfl rfl
theorem dX12_led_25 : decode cX12_led 25 = .ok (.ireturn, 1) := zby_g zbyb_702 (i := 13) rfl rfl
theorem dX12_led_26 : decode cX12_led 26 = .ok (.iconst 0, 1) := zby_g zbyb_702 (i := 14) rfl rfl
theorem dX12_led_27 : decode cX12_led 27 = .ok (.istore_n 3, 1) := zby_g zbyb_702 (i := 15) rfl rfl
noncomputable def zbyl_703 : List (Nat × zbyE) := [(28, zbyo_2), (29, zbyo_54 4), (31, zbyo_42), (32, zbyo_180 7), (35, zbyo_16 9), (37, zbyo_46), (38, zbyo_4), (39, zbyo_100), (40, zbyo_54 5), (42, zbyo_21 5), (44, zbyo_155 46), (47, zbyo_42), (48, zbyo_21 5), (50, zbyo_4), (51, zbyo_182 346), (54, zbyo_27)]
theorem zbyb_703 : zbys zbyl_703 (cX12_led.data.toList.drop 28) 28 = true := by decide +kernel
theorem dX12_led_28 : decode cX12_led 28 = .ok (.iconst (-1), 1) := zby_g zbyb_703 (i := 0) rfl rfl
theorem dX12_led_29 : decode cX12_led 29 = .ok (.istore 4, 2) := zby_g zbyb_703 (i := 1) rfl rfl
theorem dX12_led_31 : decode cX12_led 31 = .ok (.aload_n 0, 1) := zby_g zbyb_703 (i := 2) rfl rfl
theorem dX12_led_32 : decode cX12_led 32 = .ok (.getfield 7, 3) := zby_g zbyb_703 (i := 3) rfl rfl
theorem dX12_led_35 : decode cX12_led 35 = .ok (.bipush 9, 2) := zby_g zbyb_703 (i := 4) rfl rfl
theorem dX12_led_37 : decode cX12_led 37 = .ok (.iaload, 1) := zby_g zbyb_703 (i := 5) rfl rfl
theorem dX12_led_38 : decode cX12_led 38 = .ok (.iconst 1, 1) := zby_g zbyb_703 (i := 6) rfl rfl
theorem dX12_led_39 : decode cX12_led 39 = .ok (.isub, 1) := zby_g zbyb_703 (i := 7) rfl rfl
theorem dX12_led_40 : decode cX12_led 40 = .ok (.istore 5, 2) := zby_g zbyb_703 (i := 8) rfl rfl
theorem dX12_led_42 : decode cX12_led 42 = .ok (.iload 5, 2) := zby_g zbyb_703 (i := 9) rfl rfl
theorem dX12_led_44 : decode cX12_led 44 = .ok (.ifCond .lt 46, 3) := zby_g zbyb_703 (i := 10) rfl rfl
theorem dX12_led_47 : decode cX12_led 47 = .ok (.aload_n 0, 1) := zby_g zbyb_703 (i := 11) rfl rfl
theorem dX12_led_48 : decode cX12_led 48 = .ok (.iload 5, 2) := zby_g zbyb_703 (i := 12) rfl rfl
theorem dX12_led_50 : decode cX12_led 50 = .ok (.iconst 1, 1) := zby_g zbyb_703 (i := 13) rfl rfl
theorem dX12_led_51 : decode cX12_led 51 = .ok (.invokevirtual 346, 3) := zby_g zbyb_703 (i := 14) rfl rfl
theorem dX12_led_54 : decode cX12_led 54 = .ok (.iload_n 1, 1) := zby_g zbyb_703 (i := 15) rfl rfl
noncomputable def zbyl_704 : List (Nat × zbyE) := [(55, zbyo_160 29), (58, zbyo_42), (59, zbyo_21 5), (61, zbyo_5), (62, zbyo_182 346), (65, zbyo_4), (66, zbyo_164 6), (69, zbyo_167 15), (72, zbyo_132 3 1), (75, zbyo_42), (76, zbyo_21 5), (78, zbyo_3), (79, zbyo_182 346), (82, zbyo_54 4), (84, zbyo_132 5 (-1)), (87, zbyo_167 (-45))]
theorem zbyb_704 : zbys zbyl_704 (cX12_led.data.toList.drop 55) 55 = true := by decide +kernel
theorem dX12_led_55 : decode cX12_led 55 = .ok (.if_icmp .ne 29, 3) := zby_g zbyb_704 (i := 0) rfl rfl
theorem dX12_led_58 : decode cX12_led 58 = .ok (.aload_n 0, 1) := zby_g zbyb_704 (i := 1) rfl rfl
theorem dX12_led_59 : decode cX12_led 59 = .ok (.iload 5, 2) := zby_g zbyb_704 (i := 2) rfl rfl
theorem dX12_led_61 : decode cX12_led 61 = .ok (.iconst 2, 1) := zby_g zbyb_704 (i := 3) rfl rfl
theorem dX12_led_62 : decode cX12_led 62 = .ok (.invokevirtual 346, 3) := zby_g zbyb_704 (i := 4) rfl rfl
theorem dX12_led_65 : decode cX12_led 65 = .ok (.iconst 1, 1) := zby_g zbyb_704 (i := 5) rfl rfl
theorem dX12_led_66 : decode cX12_led 66 = .ok (.if_icmp .le 6, 3) := zby_g zbyb_704 (i := 6) rfl rfl
theorem dX12_led_69 : decode cX12_led 69 = .ok (.goto 15, 3) := zby_g zbyb_704 (i := 7) rfl rfl
theorem dX12_led_72 : decode cX12_led 72 = .ok (.iinc 3 1, 3) := zby_g zbyb_704 (i := 8) rfl rfl
theorem dX12_led_75 : decode cX12_led 75 = .ok (.aload_n 0, 1) := zby_g zbyb_704 (i := 9) rfl rfl
theorem dX12_led_76 : decode cX12_led 76 = .ok (.iload 5, 2) := zby_g zbyb_704 (i := 10) rfl rfl
theorem dX12_led_78 : decode cX12_led 78 = .ok (.iconst 0, 1) := zby_g zbyb_704 (i := 11) rfl rfl
theorem dX12_led_79 : decode cX12_led 79 = .ok (.invokevirtual 346, 3) := zby_g zbyb_704 (i := 12) rfl rfl
theorem dX12_led_82 : decode cX12_led 82 = .ok (.istore 4, 2) := zby_g zbyb_704 (i := 13) rfl rfl
theorem dX12_led_84 : decode cX12_led 84 = .ok (.iinc 5 (-1), 3) := zby_g zbyb_704 (i := 14) rfl rfl
theorem dX12_led_87 : decode cX12_led 87 = .ok (.goto (-45), 3) := zby_g zbyb_704 (i := 15) rfl rfl
noncomputable def zbyl_705 : List (Nat × zbyE) := [(90, zbyo_28), (91, zbyo_153 8), (94, zbyo_21 4), (96, zbyo_167 4), (99, zbyo_29), (100, zbyo_172)]
theorem zbyb_705 : zbys zbyl_705 (cX12_led.data.toList.drop 90) 90 = true := by decide +kernel
theorem dX12_led_90 : decode cX12_led 90 = .ok (.iload_n 2, 1) := zby_g zbyb_705 (i := 0) rfl rfl
theorem dX12_led_91 : decode cX12_led 91 = .ok (.ifCond .eq 8, 3) := zby_g zbyb_705 (i := 1) rfl rfl
theorem dX12_led_94 : decode cX12_led 94 = .ok (.iload 4, 2) := zby_g zbyb_705 (i := 2) rfl rfl
theorem dX12_led_96 : decode cX12_led 96 = .ok (.goto 4, 3) := zby_g zbyb_705 (i := 3) rfl rfl
theorem dX12_led_99 : decode cX12_led 99 = .ok (.iload_n 3, 1) := zby_g zbyb_705 (i := 4) rfl rfl
theorem dX12_led_100 : decode cX12_led 100 = .ok (.ireturn, 1) := zby_g zbyb_705 (i := 5) rfl rfl
noncomputable def zbyl_706 : List (Nat × zbyE) := [(0, zbyo_42), (1, zbyo_28), (2, zbyo_3), (3, zbyo_6), (4, zbyo_184 42), (7, zbyo_154 7), (10, zbyo_4), (11, zbyo_167 4), (14, zbyo_3), (15, zbyo_181 39), (18, zbyo_42), (19, zbyo_180 39), (22, zbyo_158 5), (25, zbyo_3), (26, zbyo_172), (27, zbyo_27)]
theorem zbyb_706 : zbys zbyl_706 (cX12_log.data.toList.drop 0) 0 = true := by decide +kernel
theorem dX12_log_0 : decode cX12_log 0 = .ok (.aload_n 0, 1) := zby_g zbyb_706 (i := 0) rfl rfl
theorem dX12_log_1 : decode cX12_log 1 = .ok (.iload_n 2, 1) := zby_g zbyb_706 (i := 1) rfl rfl
theorem dX12_log_2 : decode cX12_log 2 = .ok (.iconst 0, 1) := zby_g zbyb_706 (i := 2) rfl rfl
theorem dX12_log_3 : decode cX12_log 3 = .ok (.iconst 3, 1) := zby_g zbyb_706 (i := 3) rfl rfl
theorem dX12_log_4 : decode cX12_log 4 = .ok (.invokestatic 42, 3) := zby_g zbyb_706 (i := 4) rfl rfl
theorem dX12_log_7 : decode cX12_log 7 = .ok (.ifCond .ne 7, 3) := zby_g zbyb_706 (i := 5) rfl rfl
theorem dX12_log_10 : decode cX12_log 10 = .ok (.iconst 1, 1) := zby_g zbyb_706 (i := 6) rfl rfl
theorem dX12_log_11 : decode cX12_log 11 = .ok (.goto 4, 3) := zby_g zbyb_706 (i := 7) rfl rfl
theorem dX12_log_14 : decode cX12_log 14 = .ok (.iconst 0, 1) := zby_g zbyb_706 (i := 8) rfl rfl
theorem dX12_log_15 : decode cX12_log 15 = .ok (.putfield 39, 3) := zby_g zbyb_706 (i := 9) rfl rfl
theorem dX12_log_18 : decode cX12_log 18 = .ok (.aload_n 0, 1) := zby_g zbyb_706 (i := 10) rfl rfl
theorem dX12_log_19 : decode cX12_log 19 = .ok (.getfield 39, 3) := zby_g zbyb_706 (i := 11) rfl rfl
theorem dX12_log_22 : decode cX12_log 22 = .ok (.ifCond .le 5, 3) := zby_g zbyb_706 (i := 12) rfl rfl
theorem dX12_log_25 : decode cX12_log 25 = .ok (.iconst 0, 1) := zby_g zbyb_706 (i := 13) rfl rfl
theorem dX12_log_26 : decode cX12_log 26 = .ok (.ireturn, 1) := zby_g zbyb_706 (i := 14) rfl rfl
theorem dX12_log_27 : decode cX12_log 27 = .ok (.iload_n 1, 1) := zby_g zbyb_706 (i := 15) rfl rfl
noncomputable def zbyl_707 : List (Nat × zbyE) := [(28, zbyo_3), (29, zbyo_42), (30, zbyo_180 7), (33, zbyo_16 9), (35, zbyo_46), (36, zbyo_4), (37, zbyo_100), (38, zbyo_184 42), (41, zbyo_153 12), (44, zbyo_42), (45, zbyo_27), (46, zbyo_28), (47, zbyo_182 346), (50, zbyo_167 4), (53, zbyo_2), (54, zbyo_172)]
theorem zbyb_707 : zbys zbyl_707 (cX12_log.data.toList.drop 28) 28 = true := by decide +kernel
theorem dX12_log_28 : decode cX12_log 28 = .ok (.iconst 0, 1) := zby_g zbyb_707 (i := 0) rfl rfl
theorem dX12_log_29 : decode cX12_log 29 = .ok (.aload_n 0, 1) := zby_g zbyb_707 (i := 1) rfl rfl
theorem dX12_log_30 : decode cX12_log 30 = .ok (.getfield 7, 3) := zby_g zbyb_707 (i := 2) rfl rfl
theorem dX12_log_33 : decode cX12_log 33 = .ok (.bipush 9, 2) := zby_g zbyb_707 (i := 3) rfl rfl
theorem dX12_log_35 : decode cX12_log 35 = .ok (.iaload, 1) := zby_g zbyb_707 (i := 4) rfl rfl
theorem dX12_log_36 : decode cX12_log 36 = .ok (.iconst 1, 1) := zby_g zbyb_707 (i := 5) rfl rfl
theorem dX12_log_37 : decode cX12_log 37 = .ok (.isub, 1) := zby_g zbyb_707 (i := 6) rfl rfl
theorem dX12_log_38 : decode cX12_log 38 = .ok (.invokestatic 42, 3) := zby_g zbyb_707 (i := 7) rfl rfl
theorem dX12_log_41 : decode cX12_log 41 = .ok (.ifCond .eq 12, 3) := zby_g zbyb_707 (i := 8) rfl rfl
theorem dX12_log_44 : decode cX12_log 44 = .ok (.aload_n 0, 1) := zby_g zbyb_707 (i := 9) rfl rfl
theorem dX12_log_45 : decode cX12_log 45 = .ok (.iload_n 1, 1) := zby_g zbyb_707 (i := 10) rfl rfl
theorem dX12_log_46 : decode cX12_log 46 = .ok (.iload_n 2, 1) := zby_g zbyb_707 (i := 11) rfl rfl
theorem dX12_log_47 : decode cX12_log 47 = .ok (.invokevirtual 346, 3) := zby_g zbyb_707 (i := 12) rfl rfl
theorem dX12_log_50 : decode cX12_log 50 = .ok (.goto 4, 3) := zby_g zbyb_707 (i := 13) rfl rfl
theorem dX12_log_53 : decode cX12_log 53 = .ok (.iconst (-1), 1) := zby_g zbyb_707 (i := 14) rfl rfl
theorem dX12_log_54 : decode cX12_log 54 = .ok (.ireturn, 1) := zby_g zbyb_707 (i := 15) rfl rfl
noncomputable def zbyl_708 : List (Nat × zbyE) := [(0, zbyo_42), (1, zbyo_3), (2, zbyo_181 39), (5, zbyo_42), (6, zbyo_180 7), (9, zbyo_16 10), (11, zbyo_46), (12, zbyo_61), (13, zbyo_42), (14, zbyo_180 7), (17, zbyo_16 10), (19, zbyo_27), (20, zbyo_79), (21, zbyo_28), (22, zbyo_172)]
theorem zbyb_708 : zbys zbyl_708 (cX12_seed.data.toList.drop 0) 0 = true := by decide +kernel
theorem dX12_seed_0 : decode cX12_seed 0 = .ok (.aload_n 0, 1) := zby_g zbyb_708 (i := 0) rfl rfl
theorem dX12_seed_1 : decode cX12_seed 1 = .ok (.iconst 0, 1) := zby_g zbyb_708 (i := 1) rfl rfl
theorem dX12_seed_2 : decode cX12_seed 2 = .ok (.putfield 39, 3) := zby_g zbyb_708 (i := 2) rfl rfl
theorem dX12_seed_5 : decode cX12_seed 5 = .ok (.aload_n 0, 1) := zby_g zbyb_708 (i := 3) rfl rfl
theorem dX12_seed_6 : decode cX12_seed 6 = .ok (.getfield 7, 3) := zby_g zbyb_708 (i := 4) rfl rfl
theorem dX12_seed_9 : decode cX12_seed 9 = .ok (.bipush 10, 2) := zby_g zbyb_708 (i := 5) rfl rfl
theorem dX12_seed_11 : decode cX12_seed 11 = .ok (.iaload, 1) := zby_g zbyb_708 (i := 6) rfl rfl
theorem dX12_seed_12 : decode cX12_seed 12 = .ok (.istore_n 2, 1) := zby_g zbyb_708 (i := 7) rfl rfl
theorem dX12_seed_13 : decode cX12_seed 13 = .ok (.aload_n 0, 1) := zby_g zbyb_708 (i := 8) rfl rfl
theorem dX12_seed_14 : decode cX12_seed 14 = .ok (.getfield 7, 3) := zby_g zbyb_708 (i := 9) rfl rfl
theorem dX12_seed_17 : decode cX12_seed 17 = .ok (.bipush 10, 2) := zby_g zbyb_708 (i := 10) rfl rfl
theorem dX12_seed_19 : decode cX12_seed 19 = .ok (.iload_n 1, 1) := zby_g zbyb_708 (i := 11) rfl rfl
theorem dX12_seed_20 : decode cX12_seed 20 = .ok (.iastore, 1) := zby_g zbyb_708 (i := 12) rfl rfl
theorem dX12_seed_21 : decode cX12_seed 21 = .ok (.iload_n 2, 1) := zby_g zbyb_708 (i := 13) rfl rfl
theorem dX12_seed_22 : decode cX12_seed 22 = .ok (.ireturn, 1) := zby_g zbyb_708 (i := 14) rfl rfl
noncomputable def zbyl_709 : List (Nat × zbyE) := [(0, zbyo_42), (1, zbyo_3), (2, zbyo_181 39), (5, zbyo_42), (6, zbyo_180 187), (9, zbyo_154 5), (12, zbyo_3), (13, zbyo_172), (14, zbyo_42), (15, zbyo_89), (16, zbyo_180 187), (19, zbyo_4), (20, zbyo_100), (21, zbyo_181 187), (24, zbyo_3), (25, zbyo_60)]
theorem zbyb_709 : zbys zbyl_709 (cX12_undo.data.toList.drop 0) 0 = true := by decide +kernel
theorem dX12_undo_0 : decode cX12_undo 0 = .ok (.aload_n 0, 1) := zby_g zbyb_709 (i := 0) rfl rfl
theorem dX12_undo_1 : decode cX12_undo 1 = .ok (.iconst 0, 1) := zby_g zbyb_709 (i := 1) rfl rfl
theorem dX12_undo_2 : decode cX12_undo 2 = .ok (.putfield 39, 3) := zby_g zbyb_709 (i := 2) rfl rfl
theorem dX12_undo_5 : decode cX12_undo 5 = .ok (.aload_n 0, 1) := zby_g zbyb_709 (i := 3) rfl rfl
theorem dX12_undo_6 : decode cX12_undo 6 = .ok (.getfield 187, 3) := zby_g zbyb_709 (i := 4) rfl rfl
theorem dX12_undo_9 : decode cX12_undo 9 = .ok (.ifCond .ne 5, 3) := zby_g zbyb_709 (i := 5) rfl rfl
theorem dX12_undo_12 : decode cX12_undo 12 = .ok (.iconst 0, 1) := zby_g zbyb_709 (i := 6) rfl rfl
theorem dX12_undo_13 : decode cX12_undo 13 = .ok (.ireturn, 1) := zby_g zbyb_709 (i := 7) rfl rfl
theorem dX12_undo_14 : decode cX12_undo 14 = .ok (.aload_n 0, 1) := zby_g zbyb_709 (i := 8) rfl rfl
theorem dX12_undo_15 : decode cX12_undo 15 = .ok (.dup, 1) := zby_g zbyb_709 (i := 9) rfl rfl
theorem dX12_undo_16 : decode cX12_undo 16 = .ok (.getfield 187, 3) := zby_g zbyb_709 (i := 10) rfl rfl
theorem dX12_undo_19 : decode cX12_undo 19 = .ok (.iconst 1, 1) := zby_g zbyb_709 (i := 11) rfl rfl
theorem dX12_undo_20 : decode cX12_undo 20 = .ok (.isub, 1) := zby_g zbyb_709 (i := 12) rfl rfl
theorem dX12_undo_21 : decode cX12_undo 21 = .ok (.putfield 187, 3) := zby_g zbyb_709 (i := 13) rfl rfl
theorem dX12_undo_24 : decode cX12_undo 24 = .ok (.iconst 0, 1) := zby_g zbyb_709 (i := 14) rfl rfl
theorem dX12_undo_25 : decode cX12_undo 25 = .ok (.istore_n 1, 1) := zby_g zbyb_709 (i := 15) rfl rfl
noncomputable def zbyl_710 : List (Nat × zbyE) := [(26, zbyo_27), (27, zbyo_17 379), (30, zbyo_162 30), (33, zbyo_42), (34, zbyo_180 7), (37, zbyo_27), (38, zbyo_42), (39, zbyo_180 19), (42, zbyo_17 379), (45, zbyo_42), (46, zbyo_180 187), (49, zbyo_104), (50, zbyo_27), (51, zbyo_96), (52, zbyo_46), (53, zbyo_79)]
theorem zbyb_710 : zbys zbyl_710 (cX12_undo.data.toList.drop 26) 26 = true := by decide +kernel
theorem dX12_undo_26 : decode cX12_undo 26 = .ok (.iload_n 1, 1) := zby_g zbyb_710 (i := 0) rfl rfl
theorem dX12_undo_27 : decode cX12_undo 27 = .ok (.sipush 379, 3) := zby_g zbyb_710 (i := 1) rfl rfl
theorem dX12_undo_30 : decode cX12_undo 30 = .ok (.if_icmp .ge 30, 3) := zby_g zbyb_710 (i := 2) rfl rfl
theorem dX12_undo_33 : decode cX12_undo 33 = .ok (.aload_n 0, 1) := zby_g zbyb_710 (i := 3) rfl rfl
theorem dX12_undo_34 : decode cX12_undo 34 = .ok (.getfield 7, 3) := zby_g zbyb_710 (i := 4) rfl rfl
theorem dX12_undo_37 : decode cX12_undo 37 = .ok (.iload_n 1, 1) := zby_g zbyb_710 (i := 5) rfl rfl
theorem dX12_undo_38 : decode cX12_undo 38 = .ok (.aload_n 0, 1) := zby_g zbyb_710 (i := 6) rfl rfl
theorem dX12_undo_39 : decode cX12_undo 39 = .ok (.getfield 19, 3) := zby_g zbyb_710 (i := 7) rfl rfl
theorem dX12_undo_42 : decode cX12_undo 42 = .ok (.sipush 379, 3) := zby_g zbyb_710 (i := 8) rfl rfl
theorem dX12_undo_45 : decode cX12_undo 45 = .ok (.aload_n 0, 1) := zby_g zbyb_710 (i := 9) rfl rfl
theorem dX12_undo_46 : decode cX12_undo 46 = .ok (.getfield 187, 3) := zby_g zbyb_710 (i := 10) rfl rfl
theorem dX12_undo_49 : decode cX12_undo 49 = .ok (.imul, 1) := zby_g zbyb_710 (i := 11) rfl rfl
theorem dX12_undo_50 : decode cX12_undo 50 = .ok (.iload_n 1, 1) := zby_g zbyb_710 (i := 12) rfl rfl
theorem dX12_undo_51 : decode cX12_undo 51 = .ok (.iadd, 1) := zby_g zbyb_710 (i := 13) rfl rfl
theorem dX12_undo_52 : decode cX12_undo 52 = .ok (.iaload, 1) := zby_g zbyb_710 (i := 14) rfl rfl
theorem dX12_undo_53 : decode cX12_undo 53 = .ok (.iastore, 1) := zby_g zbyb_710 (i := 15) rfl rfl
noncomputable def zbyl_711 : List (Nat × zbyE) := [(54, zbyo_132 1 1), (57, zbyo_167 (-31)), (60, zbyo_4), (61, zbyo_172)]
theorem zbyb_711 : zbys zbyl_711 (cX12_undo.data.toList.drop 54) 54 = true := by decide +kernel
theorem dX12_undo_54 : decode cX12_undo 54 = .ok (.iinc 1 1, 3) := zby_g zbyb_711 (i := 0) rfl rfl
theorem dX12_undo_57 : decode cX12_undo 57 = .ok (.goto (-31), 3) := zby_g zbyb_711 (i := 1) rfl rfl
theorem dX12_undo_60 : decode cX12_undo 60 = .ok (.iconst 1, 1) := zby_g zbyb_711 (i := 2) rfl rfl
theorem dX12_undo_61 : decode cX12_undo 61 = .ok (.ireturn, 1) := zby_g zbyb_711 (i := 3) rfl rfl
noncomputable def zbyl_712 : List (Nat × zbyE) := [(0, zbyo_42), (1, zbyo_3), (2, zbyo_181 39), (5, zbyo_3), (6, zbyo_60), (7, zbyo_27), (8, zbyo_17 779), (11, zbyo_162 21), (14, zbyo_42), (15, zbyo_180 13), (18, zbyo_27), (19, zbyo_42), (20, zbyo_180 7), (23, zbyo_27), (24, zbyo_46), (25, zbyo_79)]
theorem zbyb_712 : zbys zbyl_712 (cX12_image.data.toList.drop 0) 0 = true := by decide +kernel
theorem dX12_image_0 : decode cX12_image 0 = .ok (.aload_n 0, 1) := zby_g zbyb_712 (i := 0) rfl rfl
theorem dX12_image_1 : decode cX12_image 1 = .ok (.iconst 0, 1) := zby_g zbyb_712 (i := 1) rfl rfl
theorem dX12_image_2 : decode cX12_image 2 = .ok (.putfield 39, 3) := zby_g zbyb_712 (i := 2) rfl rfl
theorem dX12_image_5 : decode cX12_image 5 = .ok (.iconst 0, 1) := zby_g zbyb_712 (i := 3) rfl rfl
theorem dX12_image_6 : decode cX12_image 6 = .ok (.istore_n 1, 1) := zby_g zbyb_712 (i := 4) rfl rfl
theorem dX12_image_7 : decode cX12_image 7 = .ok (.iload_n 1, 1) := zby_g zbyb_712 (i := 5) rfl rfl
theorem dX12_image_8 : decode cX12_image 8 = .ok (.sipush 779, 3) := zby_g zbyb_712 (i := 6) rfl rfl
theorem dX12_image_11 : decode cX12_image 11 = .ok (.if_icmp .ge 21, 3) := zby_g zbyb_712 (i := 7) rfl rfl
theorem dX12_image_14 : decode cX12_image 14 = .ok (.aload_n 0, 1) := zby_g zbyb_712 (i := 8) rfl rfl
theorem dX12_image_15 : decode cX12_image 15 = .ok (.getfield 13, 3) := zby_g zbyb_712 (i := 9) rfl rfl
theorem dX12_image_18 : decode cX12_image 18 = .ok (.iload_n 1, 1) := zby_g zbyb_712 (i := 10) rfl rfl
theorem dX12_image_19 : decode cX12_image 19 = .ok (.aload_n 0, 1) := zby_g zbyb_712 (i := 11) rfl rfl
theorem dX12_image_20 : decode cX12_image 20 = .ok (.getfield 7, 3) := zby_g zbyb_712 (i := 12) rfl rfl
theorem dX12_image_23 : decode cX12_image 23 = .ok (.iload_n 1, 1) := zby_g zbyb_712 (i := 13) rfl rfl
theorem dX12_image_24 : decode cX12_image 24 = .ok (.iaload, 1) := zby_g zbyb_712 (i := 14) rfl rfl
theorem dX12_image_25 : decode cX12_image 25 = .ok (.iastore, 1) := zby_g zbyb_712 (i := 15) rfl rfl
noncomputable def zbyl_713 : List (Nat × zbyE) := [(26, zbyo_132 1 1), (29, zbyo_167 (-22)), (32, zbyo_42), (33, zbyo_4), (34, zbyo_181 349), (37, zbyo_177)]
theorem zbyb_713 : zbys zbyl_713 (cX12_image.data.toList.drop 26) 26 = true := by decide +kernel
theorem dX12_image_26 : decode cX12_image 26 = .ok (.iinc 1 1, 3) := zby_g zbyb_713 (i := 0) rfl rfl
theorem dX12_image_29 : decode cX12_image 29 = .ok (.goto (-22), 3) := zby_g zbyb_713 (i := 1) rfl rfl
theorem dX12_image_32 : decode cX12_image 32 = .ok (.aload_n 0, 1) := zby_g zbyb_713 (i := 2) rfl rfl
theorem dX12_image_33 : decode cX12_image 33 = .ok (.iconst 1, 1) := zby_g zbyb_713 (i := 3) rfl rfl
theorem dX12_image_34 : decode cX12_image 34 = .ok (.putfield 349, 3) := zby_g zbyb_713 (i := 4) rfl rfl
theorem dX12_image_37 : decode cX12_image 37 = .ok (.return_, 1) := zby_g zbyb_713 (i := 5) rfl rfl
noncomputable def zbyl_714 : List (Nat × zbyE) := [(0, zbyo_42), (1, zbyo_3), (2, zbyo_181 39), (5, zbyo_42), (6, zbyo_180 349), (9, zbyo_154 5), (12, zbyo_3), (13, zbyo_172), (14, zbyo_3), (15, zbyo_60), (16, zbyo_27), (17, zbyo_17 779), (20, zbyo_162 21), (23, zbyo_42), (24, zbyo_180 7), (27, zbyo_27)]
theorem zbyb_714 : zbys zbyl_714 (cX12_back.data.toList.drop 0) 0 = true := by decide +kernel
theorem dX12_back_0 : decode cX12_back 0 = .ok (.aload_n 0, 1) := zby_g zbyb_714 (i := 0) rfl rfl
theorem dX12_back_1 : decode cX12_back 1 = .ok (.iconst 0, 1) := zby_g zbyb_714 (i := 1) rfl rfl
theorem dX12_back_2 : decode cX12_back 2 = .ok (.putfield 39, 3) := zby_g zbyb_714 (i := 2) rfl rfl
theorem dX12_back_5 : decode cX12_back 5 = .ok (.aload_n 0, 1) := zby_g zbyb_714 (i := 3) rfl rfl
theorem dX12_back_6 : decode cX12_back 6 = .ok (.getfield 349, 3) := zby_g zbyb_714 (i := 4) rfl rfl
theorem dX12_back_9 : decode cX12_back 9 = .ok (.ifCond .ne 5, 3) := zby_g zbyb_714 (i := 5) rfl rfl
theorem dX12_back_12 : decode cX12_back 12 = .ok (.iconst 0, 1) := zby_g zbyb_714 (i := 6) rfl rfl
theorem dX12_back_13 : decode cX12_back 13 = .ok (.ireturn, 1) := zby_g zbyb_714 (i := 7) rfl rfl
theorem dX12_back_14 : decode cX12_back 14 = .ok (.iconst 0, 1) := zby_g zbyb_714 (i := 8) rfl rfl
theorem dX12_back_15 : decode cX12_back 15 = .ok (.istore_n 1, 1) := zby_g zbyb_714 (i := 9) rfl rfl
theorem dX12_back_16 : decode cX12_back 16 = .ok (.iload_n 1, 1) := zby_g zbyb_714 (i := 10) rfl rfl
theorem dX12_back_17 : decode cX12_back 17 = .ok (.sipush 779, 3) := zby_g zbyb_714 (i := 11) rfl rfl
theorem dX12_back_20 : decode cX12_back 20 = .ok (.if_icmp .ge 21, 3) := zby_g zbyb_714 (i := 12) rfl rfl
theorem dX12_back_23 : decode cX12_back 23 = .ok (.aload_n 0, 1) := zby_g zbyb_714 (i := 13) rfl rfl
theorem dX12_back_24 : decode cX12_back 24 = .ok (.getfield 7, 3) := zby_g zbyb_714 (i := 14) rfl rfl
theorem dX12_back_27 : decode cX12_back 27 = .ok (.iload_n 1, 1) := zby_g zbyb_714 (i := 15) rfl rfl
noncomputable def zbyl_715 : List (Nat × zbyE) := [(28, zbyo_42), (29, zbyo_180 13), (32, zbyo_27), (33, zbyo_46), (34, zbyo_79), (35, zbyo_132 1 1), (38, zbyo_167 (-22)), (41, zbyo_42), (42, zbyo_3), (43, zbyo_181 187), (46, zbyo_4), (47, zbyo_172)]
theorem zbyb_715 : zbys zbyl_715 (cX12_back.data.toList.drop 28) 28 = true := by decide +kernel
theorem dX12_back_28 : decode cX12_back 28 = .ok (.aload_n 0, 1) := zby_g zbyb_715 (i := 0) rfl rfl
theorem dX12_back_29 : decode cX12_back 29 = .ok (.getfield 13, 3) := zby_g zbyb_715 (i := 1) rfl rfl
theorem dX12_back_32 : decode cX12_back 32 = .ok (.iload_n 1, 1) := zby_g zbyb_715 (i := 2) rfl rfl
theorem dX12_back_33 : decode cX12_back 33 = .ok (.iaload, 1) := zby_g zbyb_715 (i := 3) rfl rfl
theorem dX12_back_34 : decode cX12_back 34 = .ok (.iastore, 1) := zby_g zbyb_715 (i := 4) rfl rfl
theorem dX12_back_35 : decode cX12_back 35 = .ok (.iinc 1 1, 3) := zby_g zbyb_715 (i := 5) rfl rfl
theorem dX12_back_38 : decode cX12_back 38 = .ok (.goto (-22), 3) := zby_g zbyb_715 (i := 6) rfl rfl
theorem dX12_back_41 : decode cX12_back 41 = .ok (.aload_n 0, 1) := zby_g zbyb_715 (i := 7) rfl rfl
theorem dX12_back_42 : decode cX12_back 42 = .ok (.iconst 0, 1) := zby_g zbyb_715 (i := 8) rfl rfl
theorem dX12_back_43 : decode cX12_back 43 = .ok (.putfield 187, 3) := zby_g zbyb_715 (i := 9) rfl rfl
theorem dX12_back_46 : decode cX12_back 46 = .ok (.iconst 1, 1) := zby_g zbyb_715 (i := 10) rfl rfl
theorem dX12_back_47 : decode cX12_back 47 = .ok (.ireturn, 1) := zby_g zbyb_715 (i := 11) rfl rfl
noncomputable def zbyl_716 : List (Nat × zbyE) := [(0, zbyo_3), (1, zbyo_60), (2, zbyo_3), (3, zbyo_61), (4, zbyo_28), (5, zbyo_42), (6, zbyo_180 7), (9, zbyo_6), (10, zbyo_46), (11, zbyo_162 18), (14, zbyo_27), (15, zbyo_42), (16, zbyo_28), (17, zbyo_5), (18, zbyo_182 46), (21, zbyo_96)]
theorem zbyb_716 : zbys zbyl_716 (cX12_sharesOfAll.data.toList.drop 0) 0 = true := by decide +kernel
theorem dX12_sharesOfAll_0 : decode cX12_sharesOfAll 0 = .ok (.iconst 0, 1) := zby_g zbyb_716 (i := 0) rfl rfl
theorem dX12_sharesOfAll_1 : decode cX12_sharesOfAll 1 = .ok (.istore_n 1, 1) := zby_g zbyb_716 (i := 1) rfl rfl
theorem dX12_sharesOfAll_2 : decode cX12_sharesOfAll 2 = .ok (.iconst 0, 1) := zby_g zbyb_716 (i := 2) rfl rfl
theorem dX12_sharesOfAll_3 : decode cX12_sharesOfAll 3 = .ok (.istore_n 2, 1) := zby_g zbyb_716 (i := 3) rfl rfl
theorem dX12_sharesOfAll_4 : decode cX12_sharesOfAll 4 = .ok (.iload_n 2, 1) := zby_g zbyb_716 (i := 4) rfl rfl
theorem dX12_sharesOfAll_5 : decode cX12_sharesOfAll 5 = .ok (.aload_n 0, 1) := zby_g zbyb_716 (i := 5) rfl rfl
theorem dX12_sharesOfAll_6 : decode cX12_sharesOfAll 6 = .ok (.getfield 7, 3) := zby_g zbyb_716 (i := 6) rfl rfl
theorem dX12_sharesOfAll_9 : decode cX12_sharesOfAll 9 = .ok (.iconst 3, 1) := zby_g zbyb_716 (i := 7) rfl rfl
theorem dX12_sharesOfAll_10 : decode cX12_sharesOfAll 10 = .ok (.iaload, 1) := zby_g zbyb_716 (i := 8) rfl rfl
theorem dX12_sharesOfAll_11 : decode cX12_sharesOfAll 11 = .ok (.if_icmp .ge 18, 3) := zby_g zbyb_716 (i := 9) rfl rfl
theorem dX12_sharesOfAll_14 : decode cX12_sharesOfAll 14 = .ok (.iload_n 1, 1) := zby_g zbyb_716 (i := 10) rfl rfl
theorem dX12_sharesOfAll_15 : decode cX12_sharesOfAll 15 = .ok (.aload_n 0, 1) := zby_g zbyb_716 (i := 11) rfl rfl
theorem dX12_sharesOfAll_16 : decode cX12_sharesOfAll 16 = .ok (.iload_n 2, 1) := zby_g zbyb_716 (i := 12) rfl rfl
theorem dX12_sharesOfAll_17 : decode cX12_sharesOfAll 17 = .ok (.iconst 2, 1) := zby_g zbyb_716 (i := 13) rfl rfl
theorem dX12_sharesOfAll_18 : decode cX12_sharesOfAll 18 = .ok (.invokevirtual 46, 3) := zby_g zbyb_716 (i := 14) rfl rfl
theorem dX12_sharesOfAll_21 : decode cX12_sharesOfAll 21 = .ok (.iadd, 1) := zby_g zbyb_716 (i := 15) rfl rfl
noncomputable def zbyl_717 : List (Nat × zbyE) := [(22, zbyo_60), (23, zbyo_132 2 1), (26, zbyo_167 (-22)), (29, zbyo_27), (30, zbyo_172)]
theorem zbyb_717 : zbys zbyl_717 (cX12_sharesOfAll.data.toList.drop 22) 22 = true := by decide +kernel
theorem dX12_sharesOfAll_22 : decode cX12_sharesOfAll 22 = .ok (.istore_n 1, 1) := zby_g zbyb_717 (i := 0) rfl rfl
theorem dX12_sharesOfAll_23 : decode cX12_sharesOfAll 23 = .ok (.iinc 2 1, 3) := zby_g zbyb_717 (i := 1) rfl rfl
theorem dX12_sharesOfAll_26 : decode cX12_sharesOfAll 26 = .ok (.goto (-22), 3) := zby_g zbyb_717 (i := 2) rfl rfl
theorem dX12_sharesOfAll_29 : decode cX12_sharesOfAll 29 = .ok (.iload_n 1, 1) := zby_g zbyb_717 (i := 3) rfl rfl
theorem dX12_sharesOfAll_30 : decode cX12_sharesOfAll 30 = .ok (.ireturn, 1) := zby_g zbyb_717 (i := 4) rfl rfl
noncomputable def zbyl_718 : List (Nat × zbyE) := [(0, zbyo_42), (1, zbyo_3), (2, zbyo_181 39), (5, zbyo_27), (6, zbyo_154 10), (9, zbyo_42), (10, zbyo_180 7), (13, zbyo_6), (14, zbyo_46), (15, zbyo_172), (16, zbyo_27), (17, zbyo_4), (18, zbyo_160 10), (21, zbyo_42), (22, zbyo_180 7), (25, zbyo_7)]
theorem zbyb_718 : zbys zbyl_718 (cX12_count.data.toList.drop 0) 0 = true := by decide +kernel
theorem dX12_count_0 : decode cX12_count 0 = .ok (.aload_n 0, 1) := zby_g zbyb_718 (i := 0) rfl rfl
theorem dX12_count_1 : decode cX12_count 1 = .ok (.iconst 0, 1) := zby_g zbyb_718 (i := 1) rfl rfl
theorem dX12_count_2 : decode cX12_count 2 = .ok (.putfield 39, 3) := zby_g zbyb_718 (i := 2) rfl rfl
theorem dX12_count_5 : decode cX12_count 5 = .ok (.iload_n 1, 1) := zby_g zbyb_718 (i := 3) rfl rfl
theorem dX12_count_6 : decode cX12_count 6 = .ok (.ifCond .ne 10, 3) := zby_g zbyb_718 (i := 4) rfl rfl
theorem dX12_count_9 : decode cX12_count 9 = .ok (.aload_n 0, 1) := zby_g zbyb_718 (i := 5) rfl rfl
theorem dX12_count_10 : decode cX12_count 10 = .ok (.getfield 7, 3) := zby_g zbyb_718 (i := 6) rfl rfl
theorem dX12_count_13 : decode cX12_count 13 = .ok (.iconst 3, 1) := zby_g zbyb_718 (i := 7) rfl rfl
theorem dX12_count_14 : decode cX12_count 14 = .ok (.iaload, 1) := zby_g zbyb_718 (i := 8) rfl rfl
theorem dX12_count_15 : decode cX12_count 15 = .ok (.ireturn, 1) := zby_g zbyb_718 (i := 9) rfl rfl
theorem dX12_count_16 : decode cX12_count 16 = .ok (.iload_n 1, 1) := zby_g zbyb_718 (i := 10) rfl rfl
theorem dX12_count_17 : decode cX12_count 17 = .ok (.iconst 1, 1) := zby_g zbyb_718 (i := 11) rfl rfl
theorem dX12_count_18 : decode cX12_count 18 = .ok (.if_icmp .ne 10, 3) := zby_g zbyb_718 (i := 12) rfl rfl
theorem dX12_count_21 : decode cX12_count 21 = .ok (.aload_n 0, 1) := zby_g zbyb_718 (i := 13) rfl rfl
theorem dX12_count_22 : decode cX12_count 22 = .ok (.getfield 7, 3) := zby_g zbyb_718 (i := 14) rfl rfl
theorem dX12_count_25 : decode cX12_count 25 = .ok (.iconst 4, 1) := zby_g zbyb_718 (i := 15) rfl rfl
noncomputable def zbyl_719 : List (Nat × zbyE) := [(26, zbyo_46), (27, zbyo_172), (28, zbyo_27), (29, zbyo_5), (30, zbyo_160 10), (33, zbyo_42), (34, zbyo_180 7), (37, zbyo_3), (38, zbyo_46), (39, zbyo_172), (40, zbyo_27), (41, zbyo_6), (42, zbyo_160 10), (45, zbyo_42), (46, zbyo_180 7), (49, zbyo_4)]
theorem zbyb_719 : zbys zbyl_719 (cX12_count.data.toList.drop 26) 26 = true := by decide +kernel
theorem dX12_count_26 : decode cX12_count 26 = .ok (.iaload, 1) := zby_g zbyb_719 (i := 0) rfl rfl
theorem dX12_count_27 : decode cX12_count 27 = .ok (.ireturn, 1) := zby_g zbyb_719 (i := 1) rfl rfl
theorem dX12_count_28 : decode cX12_count 28 = .ok (.iload_n 1, 1) := zby_g zbyb_719 (i := 2) rfl rfl
theorem dX12_count_29 : decode cX12_count 29 = .ok (.iconst 2, 1) := zby_g zbyb_719 (i := 3) rfl rfl
theorem dX12_count_30 : decode cX12_count 30 = .ok (.if_icmp .ne 10, 3) := zby_g zbyb_719 (i := 4) rfl rfl
theorem dX12_count_33 : decode cX12_count 33 = .ok (.aload_n 0, 1) := zby_g zbyb_719 (i := 5) rfl rfl
theorem dX12_count_34 : decode cX12_count 34 = .ok (.getfield 7, 3) := zby_g zbyb_719 (i := 6) rfl rfl
theorem dX12_count_37 : decode cX12_count 37 = .ok (.iconst 0, 1) := zby_g zbyb_719 (i := 7) rfl rfl
theorem dX12_count_38 : decode cX12_count 38 = .ok (.iaload, 1) := zby_g zbyb_719 (i := 8) rfl rfl
theorem dX12_count_39 : decode cX12_count 39 = .ok (.ireturn, 1) := zby_g zbyb_719 (i := 9) rfl rfl
theorem dX12_count_40 : decode cX12_count 40 = .ok (.iload_n 1, 1) := zby_g zbyb_719 (i := 10) rfl rfl
theorem dX12_count_41 : decode cX12_count 41 = .ok (.iconst 3, 1) := zby_g zbyb_719 (i := 11) rfl rfl
theorem dX12_count_42 : decode cX12_count 42 = .ok (.if_icmp .ne 10, 3) := zby_g zbyb_719 (i := 12) rfl rfl
theorem dX12_count_45 : decode cX12_count 45 = .ok (.aload_n 0, 1) := zby_g zbyb_719 (i := 13) rfl rfl
theorem dX12_count_46 : decode cX12_count 46 = .ok (.getfield 7, 3) := zby_g zbyb_719 (i := 14) rfl rfl
theorem dX12_count_49 : decode cX12_count 49 = .ok (.iconst 1, 1) := zby_g zbyb_719 (i := 15) rfl rfl
noncomputable def zbyl_720 : List (Nat × zbyE) := [(50, zbyo_46), (51, zbyo_172), (52, zbyo_27), (53, zbyo_7), (54, zbyo_160 11), (57, zbyo_42), (58, zbyo_180 7), (61, zbyo_16 8), (63, zbyo_46), (64, zbyo_172), (65, zbyo_27), (66, zbyo_8), (67, zbyo_160 10), (70, zbyo_42), (71, zbyo_180 7), (74, zbyo_8)]
theorem zbyb_720 : zbys zbyl_720 (cX12_count.data.toList.drop 50) 50 = true := by decide +kernel
theorem dX12_count_50 : decode cX12_count 50 = .ok (.iaload, 1) := zby_g zbyb_720 (i := 0) rfl rfl
theorem dX12_count_51 : decode cX12_count 51 = .ok (.ireturn, 1) := zby_g zbyb_720 (i := 1) rfl rfl
theorem dX12_count_52 : decode cX12_count 52 = .ok (.iload_n 1, 1) := zby_g zbyb_720 (i := 2) rfl rfl
theorem dX12_count_53 : decode cX12_count 53 = .ok (.iconst 4, 1) := zby_g zbyb_720 (i := 3) rfl rfl
theorem dX12_count_54 : decode cX12_count 54 = .ok (.if_icmp .ne 11, 3) := zby_g zbyb_720 (i := 4) rfl rfl
theorem dX12_count_57 : decode cX12_count 57 = .ok (.aload_n 0, 1) := zby_g zbyb_720 (i := 5) rfl rfl
theorem dX12_count_58 : decode cX12_count 58 = .ok (.getfield 7, 3) := zby_g zbyb_720 (i := 6) rfl rfl
theorem dX12_count_61 : decode cX12_count 61 = .ok (.bipush 8, 2) := zby_g zbyb_720 (i := 7) rfl rfl
theorem dX12_count_63 : decode cX12_count 63 = .ok (.iaload, 1) := zby_g zbyb_720 (i := 8) rfl rfl
theorem dX12_count_64 : decode cX12_count 64 = .ok (.ireturn, 1) := zby_g zbyb_720 (i := 9) rfl rfl
theorem dX12_count_65 : decode cX12_count 65 = .ok (.iload_n 1, 1) := zby_g zbyb_720 (i := 10) rfl rfl
theorem dX12_count_66 : decode cX12_count 66 = .ok (.iconst 5, 1) := zby_g zbyb_720 (i := 11) rfl rfl
theorem dX12_count_67 : decode cX12_count 67 = .ok (.if_icmp .ne 10, 3) := zby_g zbyb_720 (i := 12) rfl rfl
theorem dX12_count_70 : decode cX12_count 70 = .ok (.aload_n 0, 1) := zby_g zbyb_720 (i := 13) rfl rfl
theorem dX12_count_71 : decode cX12_count 71 = .ok (.getfield 7, 3) := zby_g zbyb_720 (i := 14) rfl rfl
theorem dX12_count_74 : decode cX12_count 74 = .ok (.iconst 5, 1) := zby_g zbyb_720 (i := 15) rfl rfl
noncomputable def zbyl_721 : List (Nat × zbyE) := [(75, zbyo_46), (76, zbyo_172), (77, zbyo_27), (78, zbyo_16 6), (80, zbyo_160 8), (83, zbyo_42), (84, zbyo_182 62), (87, zbyo_172), (88, zbyo_27), (89, zbyo_16 7), (91, zbyo_160 8), (94, zbyo_42), (95, zbyo_182 54), (98, zbyo_172), (99, zbyo_27), (100, zbyo_16 8)]
theorem zbyb_721 : zbys zbyl_721 (cX12_count.data.toList.drop 75) 75 = true := by decide +kernel
theorem dX12_count_75 : decode cX12_count 75 = .ok (.iaload, 1) := zby_g zbyb_721 (i := 0) rfl rfl
theorem dX12_count_76 : decode cX12_count 76 = .ok (.ireturn, 1) := zby_g zbyb_721 (i := 1) rfl rfl
theorem dX12_count_77 : decode cX12_count 77 = .ok (.iload_n 1, 1) := zby_g zbyb_721 (i := 2) rfl rfl
theorem dX12_count_78 : decode cX12_count 78 = .ok (.bipush 6, 2) := zby_g zbyb_721 (i := 3) rfl rfl
theorem dX12_count_80 : decode cX12_count 80 = .ok (.if_icmp .ne 8, 3) := zby_g zbyb_721 (i := 4) rfl rfl
theorem dX12_count_83 : decode cX12_count 83 = .ok (.aload_n 0, 1) := zby_g zbyb_721 (i := 5) rfl rfl
theorem dX12_count_84 : decode cX12_count 84 = .ok (.invokevirtual 62, 3) := zby_g zbyb_721 (i := 6) rfl rfl
theorem dX12_count_87 : decode cX12_count 87 = .ok (.ireturn, 1) := zby_g zbyb_721 (i := 7) rfl rfl
theorem dX12_count_88 : decode cX12_count 88 = .ok (.iload_n 1, 1) := zby_g zbyb_721 (i := 8) rfl rfl
theorem dX12_count_89 : decode cX12_count 89 = .ok (.bipush 7, 2) := zby_g zbyb_721 (i := 9) rfl rfl
theorem dX12_count_91 : decode cX12_count 91 = .ok (.if_icmp .ne 8, 3) := zby_g zbyb_721 (i := 10) rfl rfl
theorem dX12_count_94 : decode cX12_count 94 = .ok (.aload_n 0, 1) := zby_g zbyb_721 (i := 11) rfl rfl
theorem dX12_count_95 : decode cX12_count 95 = .ok (.invokevirtual 54, 3) := zby_g zbyb_721 (i := 12) rfl rfl
theorem dX12_count_98 : decode cX12_count 98 = .ok (.ireturn, 1) := zby_g zbyb_721 (i := 13) rfl rfl
theorem dX12_count_99 : decode cX12_count 99 = .ok (.iload_n 1, 1) := zby_g zbyb_721 (i := 14) rfl rfl
theorem dX12_count_100 : decode cX12_count 100 = .ok (.bipush 8, 2) := zby_g zbyb_721 (i := 15) rfl rfl
noncomputable def zbyl_722 : List (Nat × zbyE) := [(102, zbyo_16 9), (104, zbyo_184 42), (107, zbyo_153 12), (110, zbyo_42), (111, zbyo_27), (112, zbyo_16 7), (114, zbyo_100), (115, zbyo_182 242), (118, zbyo_172), (119, zbyo_27), (120, zbyo_16 10), (122, zbyo_160 8), (125, zbyo_42), (126, zbyo_182 352), (129, zbyo_172), (130, zbyo_27)]
theorem zbyb_722 : zbys zbyl_722 (cX12_count.data.toList.drop 102) 102 = true := by decide +kernel
theorem dX12_count_102 : decode cX12_count 102 = .ok (.bipush 9, 2) := zby_g zbyb_722 (i := 0) rfl rfl
theorem dX12_count_104 : decode cX12_count 104 = .ok (.invokestatic 42, 3) := zby_g zbyb_722 (i := 1) rfl rfl
theorem dX12_count_107 : decode cX12_count 107 = .ok (.ifCond .eq 12, 3) := zby_g zbyb_722 (i := 2) rfl rfl
theorem dX12_count_110 : decode cX12_count 110 = .ok (.aload_n 0, 1) := zby_g zbyb_722 (i := 3) rfl rfl
theorem dX12_count_111 : decode cX12_count 111 = .ok (.iload_n 1, 1) := zby_g zbyb_722 (i := 4) rfl rfl
theorem dX12_count_112 : decode cX12_count 112 = .ok (.bipush 7, 2) := zby_g zbyb_722 (i := 5) rfl rfl
theorem dX12_count_114 : decode cX12_count 114 = .ok (.isub, 1) := zby_g zbyb_722 (i := 6) rfl rfl
theorem dX12_count_115 : decode cX12_count 115 = .ok (.invokevirtual 242, 3) := zby_g zbyb_722 (i := 7) rfl rfl
theorem dX12_count_118 : decode cX12_count 118 = .ok (.ireturn, 1) := zby_g zbyb_722 (i := 8) rfl rfl
theorem dX12_count_119 : decode cX12_count 119 = .ok (.iload_n 1, 1) := zby_g zbyb_722 (i := 9) rfl rfl
theorem dX12_count_120 : decode cX12_count 120 = .ok (.bipush 10, 2) := zby_g zbyb_722 (i := 10) rfl rfl
theorem dX12_count_122 : decode cX12_count 122 = .ok (.if_icmp .ne 8, 3) := zby_g zbyb_722 (i := 11) rfl rfl
theorem dX12_count_125 : decode cX12_count 125 = .ok (.aload_n 0, 1) := zby_g zbyb_722 (i := 12) rfl rfl
theorem dX12_count_126 : decode cX12_count 126 = .ok (.invokevirtual 352, 3) := zby_g zbyb_722 (i := 13) rfl rfl
theorem dX12_count_129 : decode cX12_count 129 = .ok (.ireturn, 1) := zby_g zbyb_722 (i := 14) rfl rfl
theorem dX12_count_130 : decode cX12_count 130 = .ok (.iload_n 1, 1) := zby_g zbyb_722 (i := 15) rfl rfl
noncomputable def zbyl_723 : List (Nat × zbyE) := [(131, zbyo_16 11), (133, zbyo_160 11), (136, zbyo_42), (137, zbyo_180 7), (140, zbyo_16 9), (142, zbyo_46), (143, zbyo_172), (144, zbyo_27), (145, zbyo_16 12), (147, zbyo_160 10), (150, zbyo_42), (151, zbyo_180 187), (154, zbyo_167 4), (157, zbyo_2), (158, zbyo_172)]
theorem zbyb_723 : zbys zbyl_723 (cX12_count.data.toList.drop 131) 131 = true := by decide +kernel
theorem dX12_count_131 : decode cX12_count 131 = .ok (.bipush 11, 2) := zby_g zbyb_723 (i := 0) rfl rfl
theorem dX12_count_133 : decode cX12_count 133 = .ok (.if_icmp .ne 11, 3) := zby_g zbyb_723 (i := 1) rfl rfl
theorem dX12_count_136 : decode cX12_count 136 = .ok (.aload_n 0, 1) := zby_g zbyb_723 (i := 2) rfl rfl
theorem dX12_count_137 : decode cX12_count 137 = .ok (.getfield 7, 3) := zby_g zbyb_723 (i := 3) rfl rfl
theorem dX12_count_140 : decode cX12_count 140 = .ok (.bipush 9, 2) := zby_g zbyb_723 (i := 4) rfl rfl
theorem dX12_count_142 : decode cX12_count 142 = .ok (.iaload, 1) := zby_g zbyb_723 (i := 5) rfl rfl
theorem dX12_count_143 : decode cX12_count 143 = .ok (.ireturn, 1) := zby_g zbyb_723 (i := 6) rfl rfl
theorem dX12_count_144 : decode cX12_count 144 = .ok (.iload_n 1, 1) := zby_g zbyb_723 (i := 7) rfl rfl
theorem dX12_count_145 : decode cX12_count 145 = .ok (.bipush 12, 2) := zby_g zbyb_723 (i := 8) rfl rfl
theorem dX12_count_147 : decode cX12_count 147 = .ok (.if_icmp .ne 10, 3) := zby_g zbyb_723 (i := 9) rfl rfl
theorem dX12_count_150 : decode cX12_count 150 = .ok (.aload_n 0, 1) := zby_g zbyb_723 (i := 10) rfl rfl
theorem dX12_count_151 : decode cX12_count 151 = .ok (.getfield 187, 3) := zby_g zbyb_723 (i := 11) rfl rfl
theorem dX12_count_154 : decode cX12_count 154 = .ok (.goto 4, 3) := zby_g zbyb_723 (i := 12) rfl rfl
theorem dX12_count_157 : decode cX12_count 157 = .ok (.iconst (-1), 1) := zby_g zbyb_723 (i := 13) rfl rfl
theorem dX12_count_158 : decode cX12_count 158 = .ok (.ireturn, 1) := zby_g zbyb_723 (i := 14) rfl rfl
noncomputable def zbyl_724 : List (Nat × zbyE) := [(0, zbyo_26), (1, zbyo_26), (2, zbyo_4), (3, zbyo_124), (4, zbyo_19 265), (7, zbyo_126), (8, zbyo_100), (9, zbyo_59), (10, zbyo_26), (11, zbyo_19 266), (14, zbyo_126), (15, zbyo_26), (16, zbyo_5), (17, zbyo_124), (18, zbyo_19 266), (21, zbyo_126)]
theorem zbyb_724 : zbys zbyl_724 (cJ6_bitCount_0f7a4.data.toList.drop 0) 0 = true := by decide +kernel
theorem dJ6_bitCount_0f7a4_0 : decode cJ6_bitCount_0f7a4 0 = .ok (.iload_n 0, 1) := zby_g zbyb_724 (i := 0) rfl rfl
theorem dJ6_bitCount_0f7a4_1 : decode cJ6_bitCount_0f7a4 1 = .ok (.iload_n 0, 1) := zby_g zbyb_724 (i := 1) rfl rfl
theorem dJ6_bitCount_0f7a4_2 : decode cJ6_bitCount_0f7a4 2 = .ok (.iconst 1, 1) := zby_g zbyb_724 (i := 2) rfl rfl
theorem dJ6_bitCount_0f7a4_3 : decode cJ6_bitCount_0f7a4 3 = .ok (.iushr, 1) := zby_g zbyb_724 (i := 3) rfl rfl
theorem dJ6_bitCount_0f7a4_4 : decode cJ6_bitCount_0f7a4 4 = .ok (.ldc_w 265, 3) := zby_g zbyb_724 (i := 4) rfl rfl
theorem dJ6_bitCount_0f7a4_7 : decode cJ6_bitCount_0f7a4 7 = .ok (.iand, 1) := zby_g zbyb_724 (i := 5) rfl rfl
theorem dJ6_bitCount_0f7a4_8 : decode cJ6_bitCount_0f7a4 8 = .ok (.isub, 1) := zby_g zbyb_724 (i := 6) rfl rfl
theorem dJ6_bitCount_0f7a4_9 : decode cJ6_bitCount_0f7a4 9 = .ok (.istore_n 0, 1) := zby_g zbyb_724 (i := 7) rfl rfl
theorem dJ6_bitCount_0f7a4_10 : decode cJ6_bitCount_0f7a4 10 = .ok (.iload_n 0, 1) := zby_g zbyb_724 (i := 8) rfl rfl
theorem dJ6_bitCount_0f7a4_11 : decode cJ6_bitCount_0f7a4 11 = .ok (.ldc_w 266, 3) := zby_g zbyb_724 (i := 9) rfl rfl
theorem dJ6_bitCount_0f7a4_14 : decode cJ6_bitCount_0f7a4 14 = .ok (.iand, 1) := zby_g zbyb_724 (i := 10) rfl rfl
theorem dJ6_bitCount_0f7a4_15 : decode cJ6_bitCount_0f7a4 15 = .ok (.iload_n 0, 1) := zby_g zbyb_724 (i := 11) rfl rfl
theorem dJ6_bitCount_0f7a4_16 : decode cJ6_bitCount_0f7a4 16 = .ok (.iconst 2, 1) := zby_g zbyb_724 (i := 12) rfl rfl
theorem dJ6_bitCount_0f7a4_17 : decode cJ6_bitCount_0f7a4 17 = .ok (.iushr, 1) := zby_g zbyb_724 (i := 13) rfl rfl
theorem dJ6_bitCount_0f7a4_18 : decode cJ6_bitCount_0f7a4 18 = .ok (.ldc_w 266, 3) := zby_g zbyb_724 (i := 14) rfl rfl
theorem dJ6_bitCount_0f7a4_21 : decode cJ6_bitCount_0f7a4 21 = .ok (.iand, 1) := zby_g zbyb_724 (i := 15) rfl rfl
noncomputable def zbyl_725 : List (Nat × zbyE) := [(22, zbyo_96), (23, zbyo_59), (24, zbyo_26), (25, zbyo_26), (26, zbyo_7), (27, zbyo_124), (28, zbyo_96), (29, zbyo_19 267), (32, zbyo_126), (33, zbyo_59), (34, zbyo_26), (35, zbyo_26), (36, zbyo_16 8), (38, zbyo_124), (39, zbyo_96), (40, zbyo_59)]
theorem zbyb_725 : zbys zbyl_725 (cJ6_bitCount_0f7a4.data.toList.drop 22) 22 = true := by decide +kernel
theorem dJ6_bitCount_0f7a4_22 : decode cJ6_bitCount_0f7a4 22 = .ok (.iadd, 1) := zby_g zbyb_725 (i := 0) rfl rfl
theorem dJ6_bitCount_0f7a4_23 : decode cJ6_bitCount_0f7a4 23 = .ok (.istore_n 0, 1) := zby_g zbyb_725 (i := 1) rfl rfl
theorem dJ6_bitCount_0f7a4_24 : decode cJ6_bitCount_0f7a4 24 = .ok (.iload_n 0, 1) := zby_g zbyb_725 (i := 2) rfl rfl
theorem dJ6_bitCount_0f7a4_25 : decode cJ6_bitCount_0f7a4 25 = .ok (.iload_n 0, 1) := zby_g zbyb_725 (i := 3) rfl rfl
theorem dJ6_bitCount_0f7a4_26 : decode cJ6_bitCount_0f7a4 26 = .ok (.iconst 4, 1) := zby_g zbyb_725 (i := 4) rfl rfl
theorem dJ6_bitCount_0f7a4_27 : decode cJ6_bitCount_0f7a4 27 = .ok (.iushr, 1) := zby_g zbyb_725 (i := 5) rfl rfl
theorem dJ6_bitCount_0f7a4_28 : decode cJ6_bitCount_0f7a4 28 = .ok (.iadd, 1) := zby_g zbyb_725 (i := 6) rfl rfl
theorem dJ6_bitCount_0f7a4_29 : decode cJ6_bitCount_0f7a4 29 = .ok (.ldc_w 267, 3) := zby_g zbyb_725 (i := 7) rfl rfl
theorem dJ6_bitCount_0f7a4_32 : decode cJ6_bitCount_0f7a4 32 = .ok (.iand, 1) := zby_g zbyb_725 (i := 8) rfl rfl
theorem dJ6_bitCount_0f7a4_33 : decode cJ6_bitCount_0f7a4 33 = .ok (.istore_n 0, 1) := zby_g zbyb_725 (i := 9) rfl rfl
theorem dJ6_bitCount_0f7a4_34 : decode cJ6_bitCount_0f7a4 34 = .ok (.iload_n 0, 1) := zby_g zbyb_725 (i := 10) rfl rfl
theorem dJ6_bitCount_0f7a4_35 : decode cJ6_bitCount_0f7a4 35 = .ok (.iload_n 0, 1) := zby_g zbyb_725 (i := 11) rfl rfl
theorem dJ6_bitCount_0f7a4_36 : decode cJ6_bitCount_0f7a4 36 = .ok (.bipush 8, 2) := zby_g zbyb_725 (i := 12) rfl rfl
theorem dJ6_bitCount_0f7a4_38 : decode cJ6_bitCount_0f7a4 38 = .ok (.iushr, 1) := zby_g zbyb_725 (i := 13) rfl rfl
theorem dJ6_bitCount_0f7a4_39 : decode cJ6_bitCount_0f7a4 39 = .ok (.iadd, 1) := zby_g zbyb_725 (i := 14) rfl rfl
theorem dJ6_bitCount_0f7a4_40 : decode cJ6_bitCount_0f7a4 40 = .ok (.istore_n 0, 1) := zby_g zbyb_725 (i := 15) rfl rfl
noncomputable def zbyl_726 : List (Nat × zbyE) := [(41, zbyo_26), (42, zbyo_26), (43, zbyo_16 16), (45, zbyo_124), (46, zbyo_96), (47, zbyo_59), (48, zbyo_26), (49, zbyo_16 63), (51, zbyo_126), (52, zbyo_172)]
theorem zbyb_726 : zbys zbyl_726 (cJ6_bitCount_0f7a4.data.toList.drop 41) 41 = true := by decide +kernel
theorem dJ6_bitCount_0f7a4_41 : decode cJ6_bitCount_0f7a4 41 = .ok (.iload_n 0, 1) := zby_g zbyb_726 (i := 0) rfl rfl
theorem dJ6_bitCount_0f7a4_42 : decode cJ6_bitCount_0f7a4 42 = .ok (.iload_n 0, 1) := zby_g zbyb_726 (i := 1) rfl rfl
theorem dJ6_bitCount_0f7a4_43 : decode cJ6_bitCount_0f7a4 43 = .ok (.bipush 16, 2) := zby_g zbyb_726 (i := 2) rfl rfl
theorem dJ6_bitCount_0f7a4_45 : decode cJ6_bitCount_0f7a4 45 = .ok (.iushr, 1) := zby_g zbyb_726 (i := 3) rfl rfl
theorem dJ6_bitCount_0f7a4_46 : decode cJ6_bitCount_0f7a4 46 = .ok (.iadd, 1) := zby_g zbyb_726 (i := 4) rfl rfl
theorem dJ6_bitCount_0f7a4_47 : decode cJ6_bitCount_0f7a4 47 = .ok (.istore_n 0, 1) := zby_g zbyb_726 (i := 5) rfl rfl
theorem dJ6_bitCount_0f7a4_48 : decode cJ6_bitCount_0f7a4 48 = .ok (.iload_n 0, 1) := zby_g zbyb_726 (i := 6) rfl rfl
theorem dJ6_bitCount_0f7a4_49 : decode cJ6_bitCount_0f7a4 49 = .ok (.bipush 63, 2) := zby_g zbyb_726 (i := 7) rfl rfl
theorem dJ6_bitCount_0f7a4_51 : decode cJ6_bitCount_0f7a4 51 = .ok (.iand, 1) := zby_g zbyb_726 (i := 8) rfl rfl
theorem dJ6_bitCount_0f7a4_52 : decode cJ6_bitCount_0f7a4 52 = .ok (.ireturn, 1) := zby_g zbyb_726 (i := 9) rfl rfl
noncomputable def zbyl_727 : List (Nat × zbyE) := [(0, zbyo_26), (1, zbyo_27), (2, zbyo_112), (3, zbyo_61), (4, zbyo_26), (5, zbyo_27), (6, zbyo_130), (7, zbyo_156 11), (10, zbyo_28), (11, zbyo_153 7), (14, zbyo_28), (15, zbyo_27), (16, zbyo_96), (17, zbyo_172), (18, zbyo_28), (19, zbyo_172)]
theorem zbyb_727 : zbys zbyl_727 (cJ9_floorMod_7cf53.data.toList.drop 0) 0 = true := by decide +kernel
theorem dJ9_floorMod_7cf53_0 : decode cJ9_floorMod_7cf53 0 = .ok (.iload_n 0, 1) := zby_g zbyb_727 (i := 0) rfl rfl
theorem dJ9_floorMod_7cf53_1 : decode cJ9_floorMod_7cf53 1 = .ok (.iload_n 1, 1) := zby_g zbyb_727 (i := 1) rfl rfl
theorem dJ9_floorMod_7cf53_2 : decode cJ9_floorMod_7cf53 2 = .ok (.irem, 1) := zby_g zbyb_727 (i := 2) rfl rfl
theorem dJ9_floorMod_7cf53_3 : decode cJ9_floorMod_7cf53 3 = .ok (.istore_n 2, 1) := zby_g zbyb_727 (i := 3) rfl rfl
theorem dJ9_floorMod_7cf53_4 : decode cJ9_floorMod_7cf53 4 = .ok (.iload_n 0, 1) := zby_g zbyb_727 (i := 4) rfl rfl
theorem dJ9_floorMod_7cf53_5 : decode cJ9_floorMod_7cf53 5 = .ok (.iload_n 1, 1) := zby_g zbyb_727 (i := 5) rfl rfl
theorem dJ9_floorMod_7cf53_6 : decode cJ9_floorMod_7cf53 6 = .ok (.ixor, 1) := zby_g zbyb_727 (i := 6) rfl rfl
theorem dJ9_floorMod_7cf53_7 : decode cJ9_floorMod_7cf53 7 = .ok (.ifCond .ge 11, 3) := zby_g zbyb_727 (i := 7) rfl rfl
theorem dJ9_floorMod_7cf53_10 : decode cJ9_floorMod_7cf53 10 = .ok (.iload_n 2, 1) := zby_g zbyb_727 (i := 8) rfl rfl
theorem dJ9_floorMod_7cf53_11 : decode cJ9_floorMod_7cf53 11 = .ok (.ifCond .eq 7, 3) := zby_g zbyb_727 (i := 9) rfl rfl
theorem dJ9_floorMod_7cf53_14 : decode cJ9_floorMod_7cf53 14 = .ok (.iload_n 2, 1) := zby_g zbyb_727 (i := 10) rfl rfl
theorem dJ9_floorMod_7cf53_15 : decode cJ9_floorMod_7cf53 15 = .ok (.iload_n 1, 1) := zby_g zbyb_727 (i := 11) rfl rfl
theorem dJ9_floorMod_7cf53_16 : decode cJ9_floorMod_7cf53 16 = .ok (.iadd, 1) := zby_g zbyb_727 (i := 12) rfl rfl
theorem dJ9_floorMod_7cf53_17 : decode cJ9_floorMod_7cf53 17 = .ok (.ireturn, 1) := zby_g zbyb_727 (i := 13) rfl rfl
theorem dJ9_floorMod_7cf53_18 : decode cJ9_floorMod_7cf53 18 = .ok (.iload_n 2, 1) := zby_g zbyb_727 (i := 14) rfl rfl
theorem dJ9_floorMod_7cf53_19 : decode cJ9_floorMod_7cf53 19 = .ok (.ireturn, 1) := zby_g zbyb_727 (i := 15) rfl rfl
noncomputable def zbyl_728 : List (Nat × zbyE) := [(0, zbyo_26), (1, zbyo_27), (2, zbyo_161 7), (5, zbyo_26), (6, zbyo_167 4), (9, zbyo_27), (10, zbyo_172)]
theorem zbyb_728 : zbys zbyl_728 (cJ9_max_7cf53.data.toList.drop 0) 0 = true := by decide +kernel
theorem dJ9_max_7cf53_0 : decode cJ9_max_7cf53 0 = .ok (.iload_n 0, 1) := zby_g zbyb_728 (i := 0) rfl rfl
theorem dJ9_max_7cf53_1 : decode cJ9_max_7cf53 1 = .ok (.iload_n 1, 1) := zby_g zbyb_728 (i := 1) rfl rfl
theorem dJ9_max_7cf53_2 : decode cJ9_max_7cf53 2 = .ok (.if_icmp .lt 7, 3) := zby_g zbyb_728 (i := 2) rfl rfl
theorem dJ9_max_7cf53_5 : decode cJ9_max_7cf53 5 = .ok (.iload_n 0, 1) := zby_g zbyb_728 (i := 3) rfl rfl
theorem dJ9_max_7cf53_6 : decode cJ9_max_7cf53 6 = .ok (.goto 4, 3) := zby_g zbyb_728 (i := 4) rfl rfl
theorem dJ9_max_7cf53_9 : decode cJ9_max_7cf53 9 = .ok (.iload_n 1, 1) := zby_g zbyb_728 (i := 5) rfl rfl
theorem dJ9_max_7cf53_10 : decode cJ9_max_7cf53 10 = .ok (.ireturn, 1) := zby_g zbyb_728 (i := 6) rfl rfl
noncomputable def zbyl_729 : List (Nat × zbyE) := [(0, zbyo_26), (1, zbyo_27), (2, zbyo_163 7), (5, zbyo_26), (6, zbyo_167 4), (9, zbyo_27), (10, zbyo_172)]
theorem zbyb_729 : zbys zbyl_729 (cJ9_min_7cf53.data.toList.drop 0) 0 = true := by decide +kernel
theorem dJ9_min_7cf53_0 : decode cJ9_min_7cf53 0 = .ok (.iload_n 0, 1) := zby_g zbyb_729 (i := 0) rfl rfl
theorem dJ9_min_7cf53_1 : decode cJ9_min_7cf53 1 = .ok (.iload_n 1, 1) := zby_g zbyb_729 (i := 1) rfl rfl
theorem dJ9_min_7cf53_2 : decode cJ9_min_7cf53 2 = .ok (.if_icmp .gt 7, 3) := zby_g zbyb_729 (i := 2) rfl rfl
theorem dJ9_min_7cf53_5 : decode cJ9_min_7cf53 5 = .ok (.iload_n 0, 1) := zby_g zbyb_729 (i := 3) rfl rfl
theorem dJ9_min_7cf53_6 : decode cJ9_min_7cf53 6 = .ok (.goto 4, 3) := zby_g zbyb_729 (i := 4) rfl rfl
theorem dJ9_min_7cf53_9 : decode cJ9_min_7cf53 9 = .ok (.iload_n 1, 1) := zby_g zbyb_729 (i := 5) rfl rfl
theorem dJ9_min_7cf53_10 : decode cJ9_min_7cf53 10 = .ok (.ireturn, 1) := zby_g zbyb_729 (i := 6) rfl rfl
noncomputable def zbyl_730 : List (Nat × zbyE) := [(0, zbyo_42), (1, zbyo_180 9), (4, zbyo_190), (5, zbyo_42), (6, zbyo_182 335), (9, zbyo_122), (10, zbyo_172)]
theorem zbyb_730 : zbys zbyl_730 (cJ0_length_8abf5.data.toList.drop 0) 0 = true := by decide +kernel
theorem dJ0_length_8abf5_0 : decode cJ0_length_8abf5 0 = .ok (.aload_n 0, 1) := zby_g zbyb_730 (i := 0) rfl rfl
theorem dJ0_length_8abf5_1 : decode cJ0_length_8abf5 1 = .ok (.getfield 9, 3) := zby_g zbyb_730 (i := 1) rfl rfl
theorem dJ0_length_8abf5_4 : decode cJ0_length_8abf5 4 = .ok (.arraylength, 1) := zby_g zbyb_730 (i := 2) rfl rfl
theorem dJ0_length_8abf5_5 : decode cJ0_length_8abf5 5 = .ok (.aload_n 0, 1) := zby_g zbyb_730 (i := 3) rfl rfl
theorem dJ0_length_8abf5_6 : decode cJ0_length_8abf5 6 = .ok (.invokevirtual 335, 3) := zby_g zbyb_730 (i := 4) rfl rfl
theorem dJ0_length_8abf5_9 : decode cJ0_length_8abf5 9 = .ok (.ishr, 1) := zby_g zbyb_730 (i := 5) rfl rfl
theorem dJ0_length_8abf5_10 : decode cJ0_length_8abf5 10 = .ok (.ireturn, 1) := zby_g zbyb_730 (i := 6) rfl rfl
noncomputable def zbyl_731 : List (Nat × zbyE) := [(0, zbyo_42), (1, zbyo_182 492), (4, zbyo_153 12), (7, zbyo_42), (8, zbyo_180 9), (11, zbyo_27), (12, zbyo_184 495), (15, zbyo_172), (16, zbyo_42), (17, zbyo_180 9), (20, zbyo_27), (21, zbyo_184 498), (24, zbyo_172)]
theorem zbyb_731 : zbys zbyl_731 (cJ0_charAt_5068e.data.toList.drop 0) 0 = true := by decide +kernel
theorem dJ0_charAt_5068e_0 : decode cJ0_charAt_5068e 0 = .ok (.aload_n 0, 1) := zby_g zbyb_731 (i := 0) rfl rfl
theorem dJ0_charAt_5068e_1 : decode cJ0_charAt_5068e 1 = .ok (.invokevirtual 492, 3) := zby_g zbyb_731 (i := 1) rfl rfl
theorem dJ0_charAt_5068e_4 : decode cJ0_charAt_5068e 4 = .ok (.ifCond .eq 12, 3) := zby_g zbyb_731 (i := 2) rfl rfl
theorem dJ0_charAt_5068e_7 : decode cJ0_charAt_5068e 7 = .ok (.aload_n 0, 1) := zby_g zbyb_731 (i := 3) rfl rfl
theorem dJ0_charAt_5068e_8 : decode cJ0_charAt_5068e 8 = .ok (.getfield 9, 3) := zby_g zbyb_731 (i := 4) rfl rfl
theorem dJ0_charAt_5068e_11 : decode cJ0_charAt_5068e 11 = .ok (.iload_n 1, 1) := zby_g zbyb_731 (i := 5) rfl rfl
theorem dJ0_charAt_5068e_12 : decode cJ0_charAt_5068e 12 = .ok (.invokestatic 495, 3) := zby_g zbyb_731 (i := 6) rfl rfl
theorem dJ0_charAt_5068e_15 : decode cJ0_charAt_5068e 15 = .ok (.ireturn, 1) := zby_g zbyb_731 (i := 7) rfl rfl
theorem dJ0_charAt_5068e_16 : decode cJ0_charAt_5068e 16 = .ok (.aload_n 0, 1) := zby_g zbyb_731 (i := 8) rfl rfl
theorem dJ0_charAt_5068e_17 : decode cJ0_charAt_5068e 17 = .ok (.getfield 9, 3) := zby_g zbyb_731 (i := 9) rfl rfl
theorem dJ0_charAt_5068e_20 : decode cJ0_charAt_5068e 20 = .ok (.iload_n 1, 1) := zby_g zbyb_731 (i := 10) rfl rfl
theorem dJ0_charAt_5068e_21 : decode cJ0_charAt_5068e 21 = .ok (.invokestatic 498, 3) := zby_g zbyb_731 (i := 11) rfl rfl
theorem dJ0_charAt_5068e_24 : decode cJ0_charAt_5068e 24 = .ok (.ireturn, 1) := zby_g zbyb_731 (i := 12) rfl rfl
noncomputable def zbyl_732 : List (Nat × zbyE) := [(0, zbyo_178 38), (3, zbyo_153 10), (6, zbyo_42), (7, zbyo_180 15), (10, zbyo_167 4), (13, zbyo_4), (14, zbyo_172)]
theorem zbyb_732 : zbys zbyl_732 (cJ0_coder_7d493.data.toList.drop 0) 0 = true := by decide +kernel
theorem dJ0_coder_7d493_0 : decode cJ0_coder_7d493 0 = .ok (.getstatic 38, 3) := zby_g zbyb_732 (i := 0) rfl rfl
theorem dJ0_coder_7d493_3 : decode cJ0_coder_7d493 3 = .ok (.ifCond .eq 10, 3) := zby_g zbyb_732 (i := 1) rfl rfl
theorem dJ0_coder_7d493_6 : decode cJ0_coder_7d493 6 = .ok (.aload_n 0, 1) := zby_g zbyb_732 (i := 2) rfl rfl
theorem dJ0_coder_7d493_7 : decode cJ0_coder_7d493 7 = .ok (.getfield 15, 3) := zby_g zbyb_732 (i := 3) rfl rfl
theorem dJ0_coder_7d493_10 : decode cJ0_coder_7d493 10 = .ok (.goto 4, 3) := zby_g zbyb_732 (i := 4) rfl rfl
theorem dJ0_coder_7d493_13 : decode cJ0_coder_7d493 13 = .ok (.iconst 1, 1) := zby_g zbyb_732 (i := 5) rfl rfl
theorem dJ0_coder_7d493_14 : decode cJ0_coder_7d493 14 = .ok (.ireturn, 1) := zby_g zbyb_732 (i := 6) rfl rfl
noncomputable def zbyl_733 : List (Nat × zbyE) := [(0, zbyo_178 38), (3, zbyo_153 14), (6, zbyo_42), (7, zbyo_180 15), (10, zbyo_154 7), (13, zbyo_4), (14, zbyo_167 4), (17, zbyo_3), (18, zbyo_172)]
theorem zbyb_733 : zbys zbyl_733 (cJ0_isLatin1_aae02.data.toList.drop 0) 0 = true := by decide +kernel
theorem dJ0_isLatin1_aae02_0 : decode cJ0_isLatin1_aae02 0 = .ok (.getstatic 38, 3) := zby_g zbyb_733 (i := 0) rfl rfl
theorem dJ0_isLatin1_aae02_3 : decode cJ0_isLatin1_aae02 3 = .ok (.ifCond .eq 14, 3) := zby_g zbyb_733 (i := 1) rfl rfl
theorem dJ0_isLatin1_aae02_6 : decode cJ0_isLatin1_aae02 6 = .ok (.aload_n 0, 1) := zby_g zbyb_733 (i := 2) rfl rfl
theorem dJ0_isLatin1_aae02_7 : decode cJ0_isLatin1_aae02 7 = .ok (.getfield 15, 3) := zby_g zbyb_733 (i := 3) rfl rfl
theorem dJ0_isLatin1_aae02_10 : decode cJ0_isLatin1_aae02 10 = .ok (.ifCond .ne 7, 3) := zby_g zbyb_733 (i := 4) rfl rfl
theorem dJ0_isLatin1_aae02_13 : decode cJ0_isLatin1_aae02 13 = .ok (.iconst 1, 1) := zby_g zbyb_733 (i := 5) rfl rfl
theorem dJ0_isLatin1_aae02_14 : decode cJ0_isLatin1_aae02 14 = .ok (.goto 4, 3) := zby_g zbyb_733 (i := 6) rfl rfl
theorem dJ0_isLatin1_aae02_17 : decode cJ0_isLatin1_aae02 17 = .ok (.iconst 0, 1) := zby_g zbyb_733 (i := 7) rfl rfl
theorem dJ0_isLatin1_aae02_18 : decode cJ0_isLatin1_aae02 18 = .ok (.ireturn, 1) := zby_g zbyb_733 (i := 8) rfl rfl
noncomputable def zbyl_734 : List (Nat × zbyE) := [(0, zbyo_26), (1, zbyo_27), (2, zbyo_178 1053), (5, zbyo_184 1059), (8, zbyo_87), (9, zbyo_177)]
theorem zbyb_734 : zbys zbyl_734 (cJ0_checkIndex_df160.data.toList.drop 0) 0 = true := by decide +kernel
theorem dJ0_checkIndex_df160_0 : decode cJ0_checkIndex_df160 0 = .ok (.iload_n 0, 1) := zby_g zbyb_734 (i := 0) rfl rfl
theorem dJ0_checkIndex_df160_1 : decode cJ0_checkIndex_df160 1 = .ok (.iload_n 1, 1) := zby_g zbyb_734 (i := 1) rfl rfl
theorem dJ0_checkIndex_df160_2 : decode cJ0_checkIndex_df160 2 = .ok (.getstatic 1053, 3) := zby_g zbyb_734 (i := 2) rfl rfl
theorem dJ0_checkIndex_df160_5 : decode cJ0_checkIndex_df160 5 = .ok (.invokestatic 1059, 3) := zby_g zbyb_734 (i := 3) rfl rfl
theorem dJ0_checkIndex_df160_8 : decode cJ0_checkIndex_df160 8 = .ok (.pop, 1) := zby_g zbyb_734 (i := 4) rfl rfl
theorem dJ0_checkIndex_df160_9 : decode cJ0_checkIndex_df160 9 = .ok (.return_, 1) := zby_g zbyb_734 (i := 5) rfl rfl
noncomputable def zbyl_735 : List (Nat × zbyE) := [(0, zbyo_27), (1, zbyo_42), (2, zbyo_190), (3, zbyo_184 9), (6, zbyo_42), (7, zbyo_27), (8, zbyo_51), (9, zbyo_17 255), (12, zbyo_126), (13, zbyo_146), (14, zbyo_172)]
theorem zbyb_735 : zbys zbyl_735 (cJ1_charAt_3b067.data.toList.drop 0) 0 = true := by decide +kernel
theorem dJ1_charAt_3b067_0 : decode cJ1_charAt_3b067 0 = .ok (.iload_n 1, 1) := zby_g zbyb_735 (i := 0) rfl rfl
theorem dJ1_charAt_3b067_1 : decode cJ1_charAt_3b067 1 = .ok (.aload_n 0, 1) := zby_g zbyb_735 (i := 1) rfl rfl
theorem dJ1_charAt_3b067_2 : decode cJ1_charAt_3b067 2 = .ok (.arraylength, 1) := zby_g zbyb_735 (i := 2) rfl rfl
theorem dJ1_charAt_3b067_3 : decode cJ1_charAt_3b067 3 = .ok (.invokestatic 9, 3) := zby_g zbyb_735 (i := 3) rfl rfl
theorem dJ1_charAt_3b067_6 : decode cJ1_charAt_3b067 6 = .ok (.aload_n 0, 1) := zby_g zbyb_735 (i := 4) rfl rfl
theorem dJ1_charAt_3b067_7 : decode cJ1_charAt_3b067 7 = .ok (.iload_n 1, 1) := zby_g zbyb_735 (i := 5) rfl rfl
theorem dJ1_charAt_3b067_8 : decode cJ1_charAt_3b067 8 = .ok (.baload, 1) := zby_g zbyb_735 (i := 6) rfl rfl
theorem dJ1_charAt_3b067_9 : decode cJ1_charAt_3b067 9 = .ok (.sipush 255, 3) := zby_g zbyb_735 (i := 7) rfl rfl
theorem dJ1_charAt_3b067_12 : decode cJ1_charAt_3b067 12 = .ok (.iand, 1) := zby_g zbyb_735 (i := 8) rfl rfl
theorem dJ1_charAt_3b067_13 : decode cJ1_charAt_3b067 13 = .ok (.i2c, 1) := zby_g zbyb_735 (i := 9) rfl rfl
theorem dJ1_charAt_3b067_14 : decode cJ1_charAt_3b067 14 = .ok (.ireturn, 1) := zby_g zbyb_735 (i := 10) rfl rfl
noncomputable def zbyl_736 : List (Nat × zbyE) := [(0, zbyo_178 44), (3, zbyo_154 25), (6, zbyo_27), (7, zbyo_155 11), (10, zbyo_27), (11, zbyo_42), (12, zbyo_184 48), (15, zbyo_161 13), (18, zbyo_187 52), (21, zbyo_89), (22, zbyo_18 54), (24, zbyo_183 56), (27, zbyo_191), (28, zbyo_27), (29, zbyo_4), (30, zbyo_120)]
theorem zbyb_736 : zbys zbyl_736 (cJ2_getChar_3b067.data.toList.drop 0) 0 = true := by decide +kernel
theorem dJ2_getChar_3b067_0 : decode cJ2_getChar_3b067 0 = .ok (.getstatic 44, 3) := zby_g zbyb_736 (i := 0) rfl rfl
theorem dJ2_getChar_3b067_3 : decode cJ2_getChar_3b067 3 = .ok (.ifCond .ne 25, 3) := zby_g zbyb_736 (i := 1) rfl rfl
theorem dJ2_getChar_3b067_6 : decode cJ2_getChar_3b067 6 = .ok (.iload_n 1, 1) := zby_g zbyb_736 (i := 2) rfl rfl
theorem dJ2_getChar_3b067_7 : decode cJ2_getChar_3b067 7 = .ok (.ifCond .lt 11, 3) := zby_g zbyb_736 (i := 3) rfl rfl
theorem dJ2_getChar_3b067_10 : decode cJ2_getChar_3b067 10 = .ok (.iload_n 1, 1) := zby_g zbyb_736 (i := 4) rfl rfl
theorem dJ2_getChar_3b067_11 : decode cJ2_getChar_3b067 11 = .ok (.aload_n 0, 1) := zby_g zbyb_736 (i := 5) rfl rfl
theorem dJ2_getChar_3b067_12 : decode cJ2_getChar_3b067 12 = .ok (.invokestatic 48, 3) := zby_g zbyb_736 (i := 6) rfl rfl
theorem dJ2_getChar_3b067_15 : decode cJ2_getChar_3b067 15 = .ok (.if_icmp .lt 13, 3) := zby_g zbyb_736 (i := 7) rfl rfl
theorem dJ2_getChar_3b067_18 : decode cJ2_getChar_3b067 18 = .ok (.new 52, 3) := zby_g zbyb_736 (i := 8) rfl rfl
theorem dJ2_getChar_3b067_21 : decode cJ2_getChar_3b067 21 = .ok (.dup, 1) := zby_g zbyb_736 (i := 9) rfl rfl
theorem dJ2_getChar_3b067_22 : decode cJ2_getChar_3b067 22 = .ok (.ldc 54, 2) := zby_g zbyb_736 (i := 10) rfl rfl
theorem dJ2_getChar_3b067_24 : decode cJ2_getChar_3b067 24 = .ok (.invokespecial 56, 3) := zby_g zbyb_736 (i := 11) rfl rfl
theorem dJ2_getChar_3b067_27 : decode cJ2_getChar_3b067 27 = .ok (.athrow, 1) := zby_g zbyb_736 (i := 12) rfl rfl
theorem dJ2_getChar_3b067_28 : decode cJ2_getChar_3b067 28 = .ok (.iload_n 1, 1) := zby_g zbyb_736 (i := 13) rfl rfl
theorem dJ2_getChar_3b067_29 : decode cJ2_getChar_3b067 29 = .ok (.iconst 1, 1) := zby_g zbyb_736 (i := 14) rfl rfl
theorem dJ2_getChar_3b067_30 : decode cJ2_getChar_3b067 30 = .ok (.ishl, 1) := zby_g zbyb_736 (i := 15) rfl rfl
noncomputable def zbyl_737 : List (Nat × zbyE) := [(31, zbyo_60), (32, zbyo_42), (33, zbyo_27), (34, zbyo_132 1 1), (37, zbyo_51), (38, zbyo_17 255), (41, zbyo_126), (42, zbyo_178 59), (45, zbyo_120), (46, zbyo_42), (47, zbyo_27), (48, zbyo_51), (49, zbyo_17 255), (52, zbyo_126), (53, zbyo_178 63), (56, zbyo_120)]
theorem zbyb_737 : zbys zbyl_737 (cJ2_getChar_3b067.data.toList.drop 31) 31 = true := by decide +kernel
theorem dJ2_getChar_3b067_31 : decode cJ2_getChar_3b067 31 = .ok (.istore_n 1, 1) := zby_g zbyb_737 (i := 0) rfl rfl
theorem dJ2_getChar_3b067_32 : decode cJ2_getChar_3b067 32 = .ok (.aload_n 0, 1) := zby_g zbyb_737 (i := 1) rfl rfl
theorem dJ2_getChar_3b067_33 : decode cJ2_getChar_3b067 33 = .ok (.iload_n 1, 1) := zby_g zbyb_737 (i := 2) rfl rfl
theorem dJ2_getChar_3b067_34 : decode cJ2_getChar_3b067 34 = .ok (.iinc 1 1, 3) := zby_g zbyb_737 (i := 3) rfl rfl
theorem dJ2_getChar_3b067_37 : decode cJ2_getChar_3b067 37 = .ok (.baload, 1) := zby_g zbyb_737 (i := 4) rfl rfl
theorem dJ2_getChar_3b067_38 : decode cJ2_getChar_3b067 38 = .ok (.sipush 255, 3) := zby_g zbyb_737 (i := 5) rfl rfl
theorem dJ2_getChar_3b067_41 : decode cJ2_getChar_3b067 41 = .ok (.iand, 1) := zby_g zbyb_737 (i := 6) rfl rfl
theorem dJ2_getChar_3b067_42 : decode cJ2_getChar_3b067 42 = .ok (.getstatic 59, 3) := zby_g zbyb_737 (i := 7) rfl rfl
theorem dJ2_getChar_3b067_45 : decode cJ2_getChar_3b067 45 = .ok (.ishl, 1) := zby_g zbyb_737 (i := 8) rfl rfl
theorem dJ2_getChar_3b067_46 : decode cJ2_getChar_3b067 46 = .ok (.aload_n 0, 1) := zby_g zbyb_737 (i := 9) rfl rfl
theorem dJ2_getChar_3b067_47 : decode cJ2_getChar_3b067 47 = .ok (.iload_n 1, 1) := zby_g zbyb_737 (i := 10) rfl rfl
theorem dJ2_getChar_3b067_48 : decode cJ2_getChar_3b067 48 = .ok (.baload, 1) := zby_g zbyb_737 (i := 11) rfl rfl
theorem dJ2_getChar_3b067_49 : decode cJ2_getChar_3b067 49 = .ok (.sipush 255, 3) := zby_g zbyb_737 (i := 12) rfl rfl
theorem dJ2_getChar_3b067_52 : decode cJ2_getChar_3b067 52 = .ok (.iand, 1) := zby_g zbyb_737 (i := 13) rfl rfl
theorem dJ2_getChar_3b067_53 : decode cJ2_getChar_3b067 53 = .ok (.getstatic 63, 3) := zby_g zbyb_737 (i := 14) rfl rfl
theorem dJ2_getChar_3b067_56 : decode cJ2_getChar_3b067 56 = .ok (.ishl, 1) := zby_g zbyb_737 (i := 15) rfl rfl
noncomputable def zbyl_738 : List (Nat × zbyE) := [(57, zbyo_128), (58, zbyo_146), (59, zbyo_172)]
theorem zbyb_738 : zbys zbyl_738 (cJ2_getChar_3b067.data.toList.drop 57) 57 = true := by decide +kernel
theorem dJ2_getChar_3b067_57 : decode cJ2_getChar_3b067 57 = .ok (.ior, 1) := zby_g zbyb_738 (i := 0) rfl rfl
theorem dJ2_getChar_3b067_58 : decode cJ2_getChar_3b067 58 = .ok (.i2c, 1) := zby_g zbyb_738 (i := 1) rfl rfl
theorem dJ2_getChar_3b067_59 : decode cJ2_getChar_3b067 59 = .ok (.ireturn, 1) := zby_g zbyb_738 (i := 2) rfl rfl
noncomputable def zbyl_739 : List (Nat × zbyE) := [(0, zbyo_42), (1, zbyo_190), (2, zbyo_4), (3, zbyo_122), (4, zbyo_172)]
theorem zbyb_739 : zbys zbyl_739 (cJ2_length_9d52b.data.toList.drop 0) 0 = true := by decide +kernel
theorem dJ2_length_9d52b_0 : decode cJ2_length_9d52b 0 = .ok (.aload_n 0, 1) := zby_g zbyb_739 (i := 0) rfl rfl
theorem dJ2_length_9d52b_1 : decode cJ2_length_9d52b 1 = .ok (.arraylength, 1) := zby_g zbyb_739 (i := 1) rfl rfl
theorem dJ2_length_9d52b_2 : decode cJ2_length_9d52b 2 = .ok (.iconst 1, 1) := zby_g zbyb_739 (i := 2) rfl rfl
theorem dJ2_length_9d52b_3 : decode cJ2_length_9d52b 3 = .ok (.ishr, 1) := zby_g zbyb_739 (i := 3) rfl rfl
theorem dJ2_length_9d52b_4 : decode cJ2_length_9d52b 4 = .ok (.ireturn, 1) := zby_g zbyb_739 (i := 4) rfl rfl
noncomputable def zbyl_740 : List (Nat × zbyE) := [(0, zbyo_27), (1, zbyo_42), (2, zbyo_184 67), (5, zbyo_42), (6, zbyo_27), (7, zbyo_184 71), (10, zbyo_172)]
theorem zbyb_740 : zbys zbyl_740 (cJ2_charAt_3b067.data.toList.drop 0) 0 = true := by decide +kernel
theorem dJ2_charAt_3b067_0 : decode cJ2_charAt_3b067 0 = .ok (.iload_n 1, 1) := zby_g zbyb_740 (i := 0) rfl rfl
theorem dJ2_charAt_3b067_1 : decode cJ2_charAt_3b067 1 = .ok (.aload_n 0, 1) := zby_g zbyb_740 (i := 1) rfl rfl
theorem dJ2_charAt_3b067_2 : decode cJ2_charAt_3b067 2 = .ok (.invokestatic 67, 3) := zby_g zbyb_740 (i := 2) rfl rfl
theorem dJ2_charAt_3b067_5 : decode cJ2_charAt_3b067 5 = .ok (.aload_n 0, 1) := zby_g zbyb_740 (i := 3) rfl rfl
theorem dJ2_charAt_3b067_6 : decode cJ2_charAt_3b067 6 = .ok (.iload_n 1, 1) := zby_g zbyb_740 (i := 4) rfl rfl
theorem dJ2_charAt_3b067_7 : decode cJ2_charAt_3b067 7 = .ok (.invokestatic 71, 3) := zby_g zbyb_740 (i := 5) rfl rfl
theorem dJ2_charAt_3b067_10 : decode cJ2_charAt_3b067 10 = .ok (.ireturn, 1) := zby_g zbyb_740 (i := 6) rfl rfl
noncomputable def zbyl_741 : List (Nat × zbyE) := [(0, zbyo_26), (1, zbyo_43), (2, zbyo_184 48), (5, zbyo_184 414), (8, zbyo_177)]
theorem zbyb_741 : zbys zbyl_741 (cJ2_checkIndex_2214a.data.toList.drop 0) 0 = true := by decide +kernel
theorem dJ2_checkIndex_2214a_0 : decode cJ2_checkIndex_2214a 0 = .ok (.iload_n 0, 1) := zby_g zbyb_741 (i := 0) rfl rfl
theorem dJ2_checkIndex_2214a_1 : decode cJ2_checkIndex_2214a 1 = .ok (.aload_n 1, 1) := zby_g zbyb_741 (i := 1) rfl rfl
theorem dJ2_checkIndex_2214a_2 : decode cJ2_checkIndex_2214a 2 = .ok (.invokestatic 48, 3) := zby_g zbyb_741 (i := 2) rfl rfl
theorem dJ2_checkIndex_2214a_5 : decode cJ2_checkIndex_2214a 5 = .ok (.invokestatic 414, 3) := zby_g zbyb_741 (i := 3) rfl rfl
theorem dJ2_checkIndex_2214a_8 : decode cJ2_checkIndex_2214a 8 = .ok (.return_, 1) := zby_g zbyb_741 (i := 4) rfl rfl
noncomputable def zbyl_742 : List (Nat × zbyE) := [(0, zbyo_26), (1, zbyo_155 8), (4, zbyo_26), (5, zbyo_27), (6, zbyo_161 10), (9, zbyo_44), (10, zbyo_26), (11, zbyo_27), (12, zbyo_184 95), (15, zbyo_191), (16, zbyo_26), (17, zbyo_172)]
theorem zbyb_742 : zbys zbyl_742 (cJ3_checkIndex_8e157.data.toList.drop 0) 0 = true := by decide +kernel
theorem dJ3_checkIndex_8e157_0 : decode cJ3_checkIndex_8e157 0 = .ok (.iload_n 0, 1) := zby_g zbyb_742 (i := 0) rfl rfl
theorem dJ3_checkIndex_8e157_1 : decode cJ3_checkIndex_8e157 1 = .ok (.ifCond .lt 8, 3) := zby_g zbyb_742 (i := 1) rfl rfl
theorem dJ3_checkIndex_8e157_4 : decode cJ3_checkIndex_8e157 4 = .ok (.iload_n 0, 1) := zby_g zbyb_742 (i := 2) rfl rfl
theorem dJ3_checkIndex_8e157_5 : decode cJ3_checkIndex_8e157 5 = .ok (.iload_n 1, 1) := zby_g zbyb_742 (i := 3) rfl rfl
theorem dJ3_checkIndex_8e157_6 : decode cJ3_checkIndex_8e157 6 = .ok (.if_icmp .lt 10, 3) := zby_g zbyb_742 (i := 4) rfl rfl
theorem dJ3_checkIndex_8e157_9 : decode cJ3_checkIndex_8e157 9 = .ok (.aload_n 2, 1) := zby_g zbyb_742 (i := 5) rfl rfl
theorem dJ3_checkIndex_8e157_10 : decode cJ3_checkIndex_8e157 10 = .ok (.iload_n 0, 1) := zby_g zbyb_742 (i := 6) rfl rfl
theorem dJ3_checkIndex_8e157_11 : decode cJ3_checkIndex_8e157 11 = .ok (.iload_n 1, 1) := zby_g zbyb_742 (i := 7) rfl rfl
theorem dJ3_checkIndex_8e157_12 : decode cJ3_checkIndex_8e157 12 = .ok (.invokestatic 95, 3) := zby_g zbyb_742 (i := 8) rfl rfl
theorem dJ3_checkIndex_8e157_15 : decode cJ3_checkIndex_8e157 15 = .ok (.athrow, 1) := zby_g zbyb_742 (i := 9) rfl rfl
theorem dJ3_checkIndex_8e157_16 : decode cJ3_checkIndex_8e157 16 = .ok (.iload_n 0, 1) := zby_g zbyb_742 (i := 10) rfl rfl
theorem dJ3_checkIndex_8e157_17 : decode cJ3_checkIndex_8e157 17 = .ok (.ireturn, 1) := zby_g zbyb_742 (i := 11) rfl rfl
noncomputable def zbyl_743 : List (Nat × zbyE) := [(0, zbyo_43), (1, zbyo_3), (2, zbyo_42), (3, zbyo_182 7), (6, zbyo_133), (7, zbyo_80), (8, zbyo_167 9), (11, zbyo_77), (12, zbyo_4), (13, zbyo_172), (14, zbyo_77), (15, zbyo_5), (16, zbyo_172), (17, zbyo_3), (18, zbyo_172)]
theorem zbyb_743 : zbys zbyl_743 (cL_town.data.toList.drop 0) 0 = true := by decide +kernel
theorem dL_town_0 : decode cL_town 0 = .ok (.aload_n 1, 1) := zby_g zbyb_743 (i := 0) rfl rfl
theorem dL_town_1 : decode cL_town 1 = .ok (.iconst 0, 1) := zby_g zbyb_743 (i := 1) rfl rfl
theorem dL_town_2 : decode cL_town 2 = .ok (.aload_n 0, 1) := zby_g zbyb_743 (i := 2) rfl rfl
theorem dL_town_3 : decode cL_town 3 = .ok (.invokevirtual 7, 3) := zby_g zbyb_743 (i := 3) rfl rfl
theorem dL_town_6 : decode cL_town 6 = .ok (.i2l, 1) := zby_g zbyb_743 (i := 4) rfl rfl
theorem dL_town_7 : decode cL_town 7 = .ok (.lastore, 1) := zby_g zbyb_743 (i := 5) rfl rfl
theorem dL_town_8 : decode cL_town 8 = .ok (.goto 9, 3) := zby_g zbyb_743 (i := 6) rfl rfl
theorem dL_town_11 : decode cL_town 11 = .ok (.astore_n 2, 1) := zby_g zbyb_743 (i := 7) rfl rfl
theorem dL_town_12 : decode cL_town 12 = .ok (.iconst 1, 1) := zby_g zbyb_743 (i := 8) rfl rfl
theorem dL_town_13 : decode cL_town 13 = .ok (.ireturn, 1) := zby_g zbyb_743 (i := 9) rfl rfl
theorem dL_town_14 : decode cL_town 14 = .ok (.astore_n 2, 1) := zby_g zbyb_743 (i := 10) rfl rfl
theorem dL_town_15 : decode cL_town 15 = .ok (.iconst 2, 1) := zby_g zbyb_743 (i := 11) rfl rfl
theorem dL_town_16 : decode cL_town 16 = .ok (.ireturn, 1) := zby_g zbyb_743 (i := 12) rfl rfl
theorem dL_town_17 : decode cL_town 17 = .ok (.iconst 0, 1) := zby_g zbyb_743 (i := 13) rfl rfl
theorem dL_town_18 : decode cL_town 18 = .ok (.ireturn, 1) := zby_g zbyb_743 (i := 14) rfl rfl
noncomputable def zbyl_744 : List (Nat × zbyE) := [(0, zbyo_43), (1, zbyo_3), (2, zbyo_42), (3, zbyo_182 17), (6, zbyo_133), (7, zbyo_80), (8, zbyo_167 6), (11, zbyo_77), (12, zbyo_4), (13, zbyo_172), (14, zbyo_3), (15, zbyo_172)]
theorem zbyb_744 : zbys zbyl_744 (cL_law.data.toList.drop 0) 0 = true := by decide +kernel
theorem dL_law_0 : decode cL_law 0 = .ok (.aload_n 1, 1) := zby_g zbyb_744 (i := 0) rfl rfl
theorem dL_law_1 : decode cL_law 1 = .ok (.iconst 0, 1) := zby_g zbyb_744 (i := 1) rfl rfl
theorem dL_law_2 : decode cL_law 2 = .ok (.aload_n 0, 1) := zby_g zbyb_744 (i := 2) rfl rfl
theorem dL_law_3 : decode cL_law 3 = .ok (.invokevirtual 17, 3) := zby_g zbyb_744 (i := 3) rfl rfl
theorem dL_law_6 : decode cL_law 6 = .ok (.i2l, 1) := zby_g zbyb_744 (i := 4) rfl rfl
theorem dL_law_7 : decode cL_law 7 = .ok (.lastore, 1) := zby_g zbyb_744 (i := 5) rfl rfl
theorem dL_law_8 : decode cL_law 8 = .ok (.goto 6, 3) := zby_g zbyb_744 (i := 6) rfl rfl
theorem dL_law_11 : decode cL_law 11 = .ok (.astore_n 2, 1) := zby_g zbyb_744 (i := 7) rfl rfl
theorem dL_law_12 : decode cL_law 12 = .ok (.iconst 1, 1) := zby_g zbyb_744 (i := 8) rfl rfl
theorem dL_law_13 : decode cL_law 13 = .ok (.ireturn, 1) := zby_g zbyb_744 (i := 9) rfl rfl
theorem dL_law_14 : decode cL_law 14 = .ok (.iconst 0, 1) := zby_g zbyb_744 (i := 10) rfl rfl
theorem dL_law_15 : decode cL_law 15 = .ok (.ireturn, 1) := zby_g zbyb_744 (i := 11) rfl rfl
noncomputable def zbyl_745 : List (Nat × zbyE) := [(0, zbyo_45), (1, zbyo_3), (2, zbyo_42), (3, zbyo_27), (4, zbyo_28), (5, zbyo_182 20), (8, zbyo_133), (9, zbyo_80), (10, zbyo_167 11), (13, zbyo_58 4), (15, zbyo_4), (16, zbyo_172), (17, zbyo_58 4), (19, zbyo_5), (20, zbyo_172), (21, zbyo_3)]
theorem zbyb_745 : zbys zbyl_745 (cL_person.data.toList.drop 0) 0 = true := by decide +kernel
theorem dL_person_0 : decode cL_person 0 = .ok (.aload_n 3, 1) := zby_g zbyb_745 (i := 0) rfl rfl
theorem dL_person_1 : decode cL_person 1 = .ok (.iconst 0, 1) := zby_g zbyb_745 (i := 1) rfl rfl
theorem dL_person_2 : decode cL_person 2 = .ok (.aload_n 0, 1) := zby_g zbyb_745 (i := 2) rfl rfl
theorem dL_person_3 : decode cL_person 3 = .ok (.iload_n 1, 1) := zby_g zbyb_745 (i := 3) rfl rfl
theorem dL_person_4 : decode cL_person 4 = .ok (.iload_n 2, 1) := zby_g zbyb_745 (i := 4) rfl rfl
theorem dL_person_5 : decode cL_person 5 = .ok (.invokevirtual 20, 3) := zby_g zbyb_745 (i := 5) rfl rfl
theorem dL_person_8 : decode cL_person 8 = .ok (.i2l, 1) := zby_g zbyb_745 (i := 6) rfl rfl
theorem dL_person_9 : decode cL_person 9 = .ok (.lastore, 1) := zby_g zbyb_745 (i := 7) rfl rfl
theorem dL_person_10 : decode cL_person 10 = .ok (.goto 11, 3) := zby_g zbyb_745 (i := 8) rfl rfl
theorem dL_person_13 : decode cL_person 13 = .ok (.astore 4, 2) := zby_g zbyb_745 (i := 9) rfl rfl
theorem dL_person_15 : decode cL_person 15 = .ok (.iconst 1, 1) := zby_g zbyb_745 (i := 10) rfl rfl
theorem dL_person_16 : decode cL_person 16 = .ok (.ireturn, 1) := zby_g zbyb_745 (i := 11) rfl rfl
theorem dL_person_17 : decode cL_person 17 = .ok (.astore 4, 2) := zby_g zbyb_745 (i := 12) rfl rfl
theorem dL_person_19 : decode cL_person 19 = .ok (.iconst 2, 1) := zby_g zbyb_745 (i := 13) rfl rfl
theorem dL_person_20 : decode cL_person 20 = .ok (.ireturn, 1) := zby_g zbyb_745 (i := 14) rfl rfl
theorem dL_person_21 : decode cL_person 21 = .ok (.iconst 0, 1) := zby_g zbyb_745 (i := 15) rfl rfl
noncomputable def zbyl_746 : List (Nat × zbyE) := [(22, zbyo_172)]
theorem zbyb_746 : zbys zbyl_746 (cL_person.data.toList.drop 22) 22 = true := by decide +kernel
theorem dL_person_22 : decode cL_person 22 = .ok (.ireturn, 1) := zby_g zbyb_746 (i := 0) rfl rfl
noncomputable def zbyl_747 : List (Nat × zbyE) := [(0, zbyo_45), (1, zbyo_3), (2, zbyo_42), (3, zbyo_27), (4, zbyo_28), (5, zbyo_182 28), (8, zbyo_133), (9, zbyo_80), (10, zbyo_167 11), (13, zbyo_58 4), (15, zbyo_4), (16, zbyo_172), (17, zbyo_58 4), (19, zbyo_5), (20, zbyo_172), (21, zbyo_3)]
theorem zbyb_747 : zbys zbyl_747 (cL_trust.data.toList.drop 0) 0 = true := by decide +kernel
theorem dL_trust_0 : decode cL_trust 0 = .ok (.aload_n 3, 1) := zby_g zbyb_747 (i := 0) rfl rfl
theorem dL_trust_1 : decode cL_trust 1 = .ok (.iconst 0, 1) := zby_g zbyb_747 (i := 1) rfl rfl
theorem dL_trust_2 : decode cL_trust 2 = .ok (.aload_n 0, 1) := zby_g zbyb_747 (i := 2) rfl rfl
theorem dL_trust_3 : decode cL_trust 3 = .ok (.iload_n 1, 1) := zby_g zbyb_747 (i := 3) rfl rfl
theorem dL_trust_4 : decode cL_trust 4 = .ok (.iload_n 2, 1) := zby_g zbyb_747 (i := 4) rfl rfl
theorem dL_trust_5 : decode cL_trust 5 = .ok (.invokevirtual 28, 3) := zby_g zbyb_747 (i := 5) rfl rfl
theorem dL_trust_8 : decode cL_trust 8 = .ok (.i2l, 1) := zby_g zbyb_747 (i := 6) rfl rfl
theorem dL_trust_9 : decode cL_trust 9 = .ok (.lastore, 1) := zby_g zbyb_747 (i := 7) rfl rfl
theorem dL_trust_10 : decode cL_trust 10 = .ok (.goto 11, 3) := zby_g zbyb_747 (i := 8) rfl rfl
theorem dL_trust_13 : decode cL_trust 13 = .ok (.astore 4, 2) := zby_g zbyb_747 (i := 9) rfl rfl
theorem dL_trust_15 : decode cL_trust 15 = .ok (.iconst 1, 1) := zby_g zbyb_747 (i := 10) rfl rfl
theorem dL_trust_16 : decode cL_trust 16 = .ok (.ireturn, 1) := zby_g zbyb_747 (i := 11) rfl rfl
theorem dL_trust_17 : decode cL_trust 17 = .ok (.astore 4, 2) := zby_g zbyb_747 (i := 12) rfl rfl
theorem dL_trust_19 : decode cL_trust 19 = .ok (.iconst 2, 1) := zby_g zbyb_747 (i := 13) rfl rfl
theorem dL_trust_20 : decode cL_trust 20 = .ok (.ireturn, 1) := zby_g zbyb_747 (i := 14) rfl rfl
theorem dL_trust_21 : decode cL_trust 21 = .ok (.iconst 0, 1) := zby_g zbyb_747 (i := 15) rfl rfl
noncomputable def zbyl_748 : List (Nat × zbyE) := [(22, zbyo_172)]
theorem zbyb_748 : zbys zbyl_748 (cL_trust.data.toList.drop 22) 22 = true := by decide +kernel
theorem dL_trust_22 : decode cL_trust 22 = .ok (.ireturn, 1) := zby_g zbyb_748 (i := 0) rfl rfl
noncomputable def zbyl_749 : List (Nat × zbyE) := [(0, zbyo_45), (1, zbyo_3), (2, zbyo_42), (3, zbyo_27), (4, zbyo_28), (5, zbyo_182 31), (8, zbyo_133), (9, zbyo_80), (10, zbyo_167 11), (13, zbyo_58 4), (15, zbyo_4), (16, zbyo_172), (17, zbyo_58 4), (19, zbyo_5), (20, zbyo_172), (21, zbyo_3)]
theorem zbyb_749 : zbys zbyl_749 (cL_work.data.toList.drop 0) 0 = true := by decide +kernel
theorem dL_work_0 : decode cL_work 0 = .ok (.aload_n 3, 1) := zby_g zbyb_749 (i := 0) rfl rfl
theorem dL_work_1 : decode cL_work 1 = .ok (.iconst 0, 1) := zby_g zbyb_749 (i := 1) rfl rfl
theorem dL_work_2 : decode cL_work 2 = .ok (.aload_n 0, 1) := zby_g zbyb_749 (i := 2) rfl rfl
theorem dL_work_3 : decode cL_work 3 = .ok (.iload_n 1, 1) := zby_g zbyb_749 (i := 3) rfl rfl
theorem dL_work_4 : decode cL_work 4 = .ok (.iload_n 2, 1) := zby_g zbyb_749 (i := 4) rfl rfl
theorem dL_work_5 : decode cL_work 5 = .ok (.invokevirtual 31, 3) := zby_g zbyb_749 (i := 5) rfl rfl
theorem dL_work_8 : decode cL_work 8 = .ok (.i2l, 1) := zby_g zbyb_749 (i := 6) rfl rfl
theorem dL_work_9 : decode cL_work 9 = .ok (.lastore, 1) := zby_g zbyb_749 (i := 7) rfl rfl
theorem dL_work_10 : decode cL_work 10 = .ok (.goto 11, 3) := zby_g zbyb_749 (i := 8) rfl rfl
theorem dL_work_13 : decode cL_work 13 = .ok (.astore 4, 2) := zby_g zbyb_749 (i := 9) rfl rfl
theorem dL_work_15 : decode cL_work 15 = .ok (.iconst 1, 1) := zby_g zbyb_749 (i := 10) rfl rfl
theorem dL_work_16 : decode cL_work 16 = .ok (.ireturn, 1) := zby_g zbyb_749 (i := 11) rfl rfl
theorem dL_work_17 : decode cL_work 17 = .ok (.astore 4, 2) := zby_g zbyb_749 (i := 12) rfl rfl
theorem dL_work_19 : decode cL_work 19 = .ok (.iconst 2, 1) := zby_g zbyb_749 (i := 13) rfl rfl
theorem dL_work_20 : decode cL_work 20 = .ok (.ireturn, 1) := zby_g zbyb_749 (i := 14) rfl rfl
theorem dL_work_21 : decode cL_work 21 = .ok (.iconst 0, 1) := zby_g zbyb_749 (i := 15) rfl rfl
noncomputable def zbyl_750 : List (Nat × zbyE) := [(22, zbyo_172)]
theorem zbyb_750 : zbys zbyl_750 (cL_work.data.toList.drop 22) 22 = true := by decide +kernel
theorem dL_work_22 : decode cL_work 22 = .ok (.ireturn, 1) := zby_g zbyb_750 (i := 0) rfl rfl
noncomputable def zbyl_751 : List (Nat × zbyE) := [(0, zbyo_44), (1, zbyo_3), (2, zbyo_42), (3, zbyo_27), (4, zbyo_182 34), (7, zbyo_133), (8, zbyo_80), (9, zbyo_167 9), (12, zbyo_78), (13, zbyo_4), (14, zbyo_172), (15, zbyo_78), (16, zbyo_5), (17, zbyo_172), (18, zbyo_3), (19, zbyo_172)]
theorem zbyb_751 : zbys zbyl_751 (cL_tell.data.toList.drop 0) 0 = true := by decide +kernel
theorem dL_tell_0 : decode cL_tell 0 = .ok (.aload_n 2, 1) := zby_g zbyb_751 (i := 0) rfl rfl
theorem dL_tell_1 : decode cL_tell 1 = .ok (.iconst 0, 1) := zby_g zbyb_751 (i := 1) rfl rfl
theorem dL_tell_2 : decode cL_tell 2 = .ok (.aload_n 0, 1) := zby_g zbyb_751 (i := 2) rfl rfl
theorem dL_tell_3 : decode cL_tell 3 = .ok (.iload_n 1, 1) := zby_g zbyb_751 (i := 3) rfl rfl
theorem dL_tell_4 : decode cL_tell 4 = .ok (.invokevirtual 34, 3) := zby_g zbyb_751 (i := 4) rfl rfl
theorem dL_tell_7 : decode cL_tell 7 = .ok (.i2l, 1) := zby_g zbyb_751 (i := 5) rfl rfl
theorem dL_tell_8 : decode cL_tell 8 = .ok (.lastore, 1) := zby_g zbyb_751 (i := 6) rfl rfl
theorem dL_tell_9 : decode cL_tell 9 = .ok (.goto 9, 3) := zby_g zbyb_751 (i := 7) rfl rfl
theorem dL_tell_12 : decode cL_tell 12 = .ok (.astore_n 3, 1) := zby_g zbyb_751 (i := 8) rfl rfl
theorem dL_tell_13 : decode cL_tell 13 = .ok (.iconst 1, 1) := zby_g zbyb_751 (i := 9) rfl rfl
theorem dL_tell_14 : decode cL_tell 14 = .ok (.ireturn, 1) := zby_g zbyb_751 (i := 10) rfl rfl
theorem dL_tell_15 : decode cL_tell 15 = .ok (.astore_n 3, 1) := zby_g zbyb_751 (i := 11) rfl rfl
theorem dL_tell_16 : decode cL_tell 16 = .ok (.iconst 2, 1) := zby_g zbyb_751 (i := 12) rfl rfl
theorem dL_tell_17 : decode cL_tell 17 = .ok (.ireturn, 1) := zby_g zbyb_751 (i := 13) rfl rfl
theorem dL_tell_18 : decode cL_tell 18 = .ok (.iconst 0, 1) := zby_g zbyb_751 (i := 14) rfl rfl
theorem dL_tell_19 : decode cL_tell 19 = .ok (.ireturn, 1) := zby_g zbyb_751 (i := 15) rfl rfl
noncomputable def zbyl_752 : List (Nat × zbyE) := [(0, zbyo_25 4), (2, zbyo_3), (3, zbyo_42), (4, zbyo_27), (5, zbyo_28), (6, zbyo_29), (7, zbyo_182 40), (10, zbyo_133), (11, zbyo_80), (12, zbyo_167 11), (15, zbyo_58 5), (17, zbyo_4), (18, zbyo_172), (19, zbyo_58 5), (21, zbyo_5), (22, zbyo_172)]
theorem zbyb_752 : zbys zbyl_752 (cL_tie.data.toList.drop 0) 0 = true := by decide +kernel
theorem dL_tie_0 : decode cL_tie 0 = .ok (.aload 4, 2) := zby_g zbyb_752 (i := 0) rfl rfl
theorem dL_tie_2 : decode cL_tie 2 = .ok (.iconst 0, 1) := zby_g zbyb_752 (i := 1) rfl rfl
theorem dL_tie_3 : decode cL_tie 3 = .ok (.aload_n 0, 1) := zby_g zbyb_752 (i := 2) rfl rfl
theorem dL_tie_4 : decode cL_tie 4 = .ok (.iload_n 1, 1) := zby_g zbyb_752 (i := 3) rfl rfl
theorem dL_tie_5 : decode cL_tie 5 = .ok (.iload_n 2, 1) := zby_g zbyb_752 (i := 4) rfl rfl
theorem dL_tie_6 : decode cL_tie 6 = .ok (.iload_n 3, 1) := zby_g zbyb_752 (i := 5) rfl rfl
theorem dL_tie_7 : decode cL_tie 7 = .ok (.invokevirtual 40, 3) := zby_g zbyb_752 (i := 6) rfl rfl
theorem dL_tie_10 : decode cL_tie 10 = .ok (.i2l, 1) := zby_g zbyb_752 (i := 7) rfl rfl
theorem dL_tie_11 : decode cL_tie 11 = .ok (.lastore, 1) := zby_g zbyb_752 (i := 8) rfl rfl
theorem dL_tie_12 : decode cL_tie 12 = .ok (.goto 11, 3) := zby_g zbyb_752 (i := 9) rfl rfl
theorem dL_tie_15 : decode cL_tie 15 = .ok (.astore 5, 2) := zby_g zbyb_752 (i := 10) rfl rfl
theorem dL_tie_17 : decode cL_tie 17 = .ok (.iconst 1, 1) := zby_g zbyb_752 (i := 11) rfl rfl
theorem dL_tie_18 : decode cL_tie 18 = .ok (.ireturn, 1) := zby_g zbyb_752 (i := 12) rfl rfl
theorem dL_tie_19 : decode cL_tie 19 = .ok (.astore 5, 2) := zby_g zbyb_752 (i := 13) rfl rfl
theorem dL_tie_21 : decode cL_tie 21 = .ok (.iconst 2, 1) := zby_g zbyb_752 (i := 14) rfl rfl
theorem dL_tie_22 : decode cL_tie 22 = .ok (.ireturn, 1) := zby_g zbyb_752 (i := 15) rfl rfl
noncomputable def zbyl_753 : List (Nat × zbyE) := [(23, zbyo_3), (24, zbyo_172)]
theorem zbyb_753 : zbys zbyl_753 (cL_tie.data.toList.drop 23) 23 = true := by decide +kernel
theorem dL_tie_23 : decode cL_tie 23 = .ok (.iconst 0, 1) := zby_g zbyb_753 (i := 0) rfl rfl
theorem dL_tie_24 : decode cL_tie 24 = .ok (.ireturn, 1) := zby_g zbyb_753 (i := 1) rfl rfl
noncomputable def zbyl_754 : List (Nat × zbyE) := [(0, zbyo_42), (1, zbyo_27), (2, zbyo_182 44), (5, zbyo_167 9), (8, zbyo_77), (9, zbyo_4), (10, zbyo_172), (11, zbyo_77), (12, zbyo_5), (13, zbyo_172), (14, zbyo_3), (15, zbyo_172)]
theorem zbyb_754 : zbys zbyl_754 (cL_plan.data.toList.drop 0) 0 = true := by decide +kernel
theorem dL_plan_0 : decode cL_plan 0 = .ok (.aload_n 0, 1) := zby_g zbyb_754 (i := 0) rfl rfl
theorem dL_plan_1 : decode cL_plan 1 = .ok (.iload_n 1, 1) := zby_g zbyb_754 (i := 1) rfl rfl
theorem dL_plan_2 : decode cL_plan 2 = .ok (.invokevirtual 44, 3) := zby_g zbyb_754 (i := 2) rfl rfl
theorem dL_plan_5 : decode cL_plan 5 = .ok (.goto 9, 3) := zby_g zbyb_754 (i := 3) rfl rfl
theorem dL_plan_8 : decode cL_plan 8 = .ok (.astore_n 2, 1) := zby_g zbyb_754 (i := 4) rfl rfl
theorem dL_plan_9 : decode cL_plan 9 = .ok (.iconst 1, 1) := zby_g zbyb_754 (i := 5) rfl rfl
theorem dL_plan_10 : decode cL_plan 10 = .ok (.ireturn, 1) := zby_g zbyb_754 (i := 6) rfl rfl
theorem dL_plan_11 : decode cL_plan 11 = .ok (.astore_n 2, 1) := zby_g zbyb_754 (i := 7) rfl rfl
theorem dL_plan_12 : decode cL_plan 12 = .ok (.iconst 2, 1) := zby_g zbyb_754 (i := 8) rfl rfl
theorem dL_plan_13 : decode cL_plan 13 = .ok (.ireturn, 1) := zby_g zbyb_754 (i := 9) rfl rfl
theorem dL_plan_14 : decode cL_plan 14 = .ok (.iconst 0, 1) := zby_g zbyb_754 (i := 10) rfl rfl
theorem dL_plan_15 : decode cL_plan 15 = .ok (.ireturn, 1) := zby_g zbyb_754 (i := 11) rfl rfl
noncomputable def zbyl_755 : List (Nat × zbyE) := [(0, zbyo_44), (1, zbyo_3), (2, zbyo_42), (3, zbyo_27), (4, zbyo_182 48), (7, zbyo_133), (8, zbyo_80), (9, zbyo_167 9), (12, zbyo_78), (13, zbyo_4), (14, zbyo_172), (15, zbyo_78), (16, zbyo_5), (17, zbyo_172), (18, zbyo_3), (19, zbyo_172)]
theorem zbyb_755 : zbys zbyl_755 (cL_send.data.toList.drop 0) 0 = true := by decide +kernel
theorem dL_send_0 : decode cL_send 0 = .ok (.aload_n 2, 1) := zby_g zbyb_755 (i := 0) rfl rfl
theorem dL_send_1 : decode cL_send 1 = .ok (.iconst 0, 1) := zby_g zbyb_755 (i := 1) rfl rfl
theorem dL_send_2 : decode cL_send 2 = .ok (.aload_n 0, 1) := zby_g zbyb_755 (i := 2) rfl rfl
theorem dL_send_3 : decode cL_send 3 = .ok (.iload_n 1, 1) := zby_g zbyb_755 (i := 3) rfl rfl
theorem dL_send_4 : decode cL_send 4 = .ok (.invokevirtual 48, 3) := zby_g zbyb_755 (i := 4) rfl rfl
theorem dL_send_7 : decode cL_send 7 = .ok (.i2l, 1) := zby_g zbyb_755 (i := 5) rfl rfl
theorem dL_send_8 : decode cL_send 8 = .ok (.lastore, 1) := zby_g zbyb_755 (i := 6) rfl rfl
theorem dL_send_9 : decode cL_send 9 = .ok (.goto 9, 3) := zby_g zbyb_755 (i := 7) rfl rfl
theorem dL_send_12 : decode cL_send 12 = .ok (.astore_n 3, 1) := zby_g zbyb_755 (i := 8) rfl rfl
theorem dL_send_13 : decode cL_send 13 = .ok (.iconst 1, 1) := zby_g zbyb_755 (i := 9) rfl rfl
theorem dL_send_14 : decode cL_send 14 = .ok (.ireturn, 1) := zby_g zbyb_755 (i := 10) rfl rfl
theorem dL_send_15 : decode cL_send 15 = .ok (.astore_n 3, 1) := zby_g zbyb_755 (i := 11) rfl rfl
theorem dL_send_16 : decode cL_send 16 = .ok (.iconst 2, 1) := zby_g zbyb_755 (i := 12) rfl rfl
theorem dL_send_17 : decode cL_send 17 = .ok (.ireturn, 1) := zby_g zbyb_755 (i := 13) rfl rfl
theorem dL_send_18 : decode cL_send 18 = .ok (.iconst 0, 1) := zby_g zbyb_755 (i := 14) rfl rfl
theorem dL_send_19 : decode cL_send 19 = .ok (.ireturn, 1) := zby_g zbyb_755 (i := 15) rfl rfl
noncomputable def zbyl_756 : List (Nat × zbyE) := [(0, zbyo_45), (1, zbyo_3), (2, zbyo_42), (3, zbyo_27), (4, zbyo_28), (5, zbyo_182 51), (8, zbyo_133), (9, zbyo_80), (10, zbyo_167 15), (13, zbyo_58 4), (15, zbyo_4), (16, zbyo_172), (17, zbyo_58 4), (19, zbyo_5), (20, zbyo_172), (21, zbyo_58 4)]
theorem zbyb_756 : zbys zbyl_756 (cL_buy.data.toList.drop 0) 0 = true := by decide +kernel
theorem dL_buy_0 : decode cL_buy 0 = .ok (.aload_n 3, 1) := zby_g zbyb_756 (i := 0) rfl rfl
theorem dL_buy_1 : decode cL_buy 1 = .ok (.iconst 0, 1) := zby_g zbyb_756 (i := 1) rfl rfl
theorem dL_buy_2 : decode cL_buy 2 = .ok (.aload_n 0, 1) := zby_g zbyb_756 (i := 2) rfl rfl
theorem dL_buy_3 : decode cL_buy 3 = .ok (.iload_n 1, 1) := zby_g zbyb_756 (i := 3) rfl rfl
theorem dL_buy_4 : decode cL_buy 4 = .ok (.iload_n 2, 1) := zby_g zbyb_756 (i := 4) rfl rfl
theorem dL_buy_5 : decode cL_buy 5 = .ok (.invokevirtual 51, 3) := zby_g zbyb_756 (i := 5) rfl rfl
theorem dL_buy_8 : decode cL_buy 8 = .ok (.i2l, 1) := zby_g zbyb_756 (i := 6) rfl rfl
theorem dL_buy_9 : decode cL_buy 9 = .ok (.lastore, 1) := zby_g zbyb_756 (i := 7) rfl rfl
theorem dL_buy_10 : decode cL_buy 10 = .ok (.goto 15, 3) := zby_g zbyb_756 (i := 8) rfl rfl
theorem dL_buy_13 : decode cL_buy 13 = .ok (.astore 4, 2) := zby_g zbyb_756 (i := 9) rfl rfl
theorem dL_buy_15 : decode cL_buy 15 = .ok (.iconst 1, 1) := zby_g zbyb_756 (i := 10) rfl rfl
theorem dL_buy_16 : decode cL_buy 16 = .ok (.ireturn, 1) := zby_g zbyb_756 (i := 11) rfl rfl
theorem dL_buy_17 : decode cL_buy 17 = .ok (.astore 4, 2) := zby_g zbyb_756 (i := 12) rfl rfl
theorem dL_buy_19 : decode cL_buy 19 = .ok (.iconst 2, 1) := zby_g zbyb_756 (i := 13) rfl rfl
theorem dL_buy_20 : decode cL_buy 20 = .ok (.ireturn, 1) := zby_g zbyb_756 (i := 14) rfl rfl
theorem dL_buy_21 : decode cL_buy 21 = .ok (.astore 4, 2) := zby_g zbyb_756 (i := 15) rfl rfl
noncomputable def zbyl_757 : List (Nat × zbyE) := [(23, zbyo_6), (24, zbyo_172), (25, zbyo_3), (26, zbyo_172)]
theorem zbyb_757 : zbys zbyl_757 (cL_buy.data.toList.drop 23) 23 = true := by decide +kernel
theorem dL_buy_23 : decode cL_buy 23 = .ok (.iconst 3, 1) := zby_g zbyb_757 (i := 0) rfl rfl
theorem dL_buy_24 : decode cL_buy 24 = .ok (.ireturn, 1) := zby_g zbyb_757 (i := 1) rfl rfl
theorem dL_buy_25 : decode cL_buy 25 = .ok (.iconst 0, 1) := zby_g zbyb_757 (i := 2) rfl rfl
theorem dL_buy_26 : decode cL_buy 26 = .ok (.ireturn, 1) := zby_g zbyb_757 (i := 3) rfl rfl
noncomputable def zbyl_758 : List (Nat × zbyE) := [(0, zbyo_45), (1, zbyo_3), (2, zbyo_42), (3, zbyo_27), (4, zbyo_28), (5, zbyo_182 54), (8, zbyo_133), (9, zbyo_80), (10, zbyo_167 15), (13, zbyo_58 4), (15, zbyo_4), (16, zbyo_172), (17, zbyo_58 4), (19, zbyo_5), (20, zbyo_172), (21, zbyo_58 4)]
theorem zbyb_758 : zbys zbyl_758 (cL_sell.data.toList.drop 0) 0 = true := by decide +kernel
theorem dL_sell_0 : decode cL_sell 0 = .ok (.aload_n 3, 1) := zby_g zbyb_758 (i := 0) rfl rfl
theorem dL_sell_1 : decode cL_sell 1 = .ok (.iconst 0, 1) := zby_g zbyb_758 (i := 1) rfl rfl
theorem dL_sell_2 : decode cL_sell 2 = .ok (.aload_n 0, 1) := zby_g zbyb_758 (i := 2) rfl rfl
theorem dL_sell_3 : decode cL_sell 3 = .ok (.iload_n 1, 1) := zby_g zbyb_758 (i := 3) rfl rfl
theorem dL_sell_4 : decode cL_sell 4 = .ok (.iload_n 2, 1) := zby_g zbyb_758 (i := 4) rfl rfl
theorem dL_sell_5 : decode cL_sell 5 = .ok (.invokevirtual 54, 3) := zby_g zbyb_758 (i := 5) rfl rfl
theorem dL_sell_8 : decode cL_sell 8 = .ok (.i2l, 1) := zby_g zbyb_758 (i := 6) rfl rfl
theorem dL_sell_9 : decode cL_sell 9 = .ok (.lastore, 1) := zby_g zbyb_758 (i := 7) rfl rfl
theorem dL_sell_10 : decode cL_sell 10 = .ok (.goto 15, 3) := zby_g zbyb_758 (i := 8) rfl rfl
theorem dL_sell_13 : decode cL_sell 13 = .ok (.astore 4, 2) := zby_g zbyb_758 (i := 9) rfl rfl
theorem dL_sell_15 : decode cL_sell 15 = .ok (.iconst 1, 1) := zby_g zbyb_758 (i := 10) rfl rfl
theorem dL_sell_16 : decode cL_sell 16 = .ok (.ireturn, 1) := zby_g zbyb_758 (i := 11) rfl rfl
theorem dL_sell_17 : decode cL_sell 17 = .ok (.astore 4, 2) := zby_g zbyb_758 (i := 12) rfl rfl
theorem dL_sell_19 : decode cL_sell 19 = .ok (.iconst 2, 1) := zby_g zbyb_758 (i := 13) rfl rfl
theorem dL_sell_20 : decode cL_sell 20 = .ok (.ireturn, 1) := zby_g zbyb_758 (i := 14) rfl rfl
theorem dL_sell_21 : decode cL_sell 21 = .ok (.astore 4, 2) := zby_g zbyb_758 (i := 15) rfl rfl
noncomputable def zbyl_759 : List (Nat × zbyE) := [(23, zbyo_6), (24, zbyo_172), (25, zbyo_3), (26, zbyo_172)]
theorem zbyb_759 : zbys zbyl_759 (cL_sell.data.toList.drop 23) 23 = true := by decide +kernel
theorem dL_sell_23 : decode cL_sell 23 = .ok (.iconst 3, 1) := zby_g zbyb_759 (i := 0) rfl rfl
theorem dL_sell_24 : decode cL_sell 24 = .ok (.ireturn, 1) := zby_g zbyb_759 (i := 1) rfl rfl
theorem dL_sell_25 : decode cL_sell 25 = .ok (.iconst 0, 1) := zby_g zbyb_759 (i := 2) rfl rfl
theorem dL_sell_26 : decode cL_sell 26 = .ok (.ireturn, 1) := zby_g zbyb_759 (i := 3) rfl rfl
noncomputable def zbyl_760 : List (Nat × zbyE) := [(0, zbyo_45), (1, zbyo_3), (2, zbyo_42), (3, zbyo_27), (4, zbyo_28), (5, zbyo_182 57), (8, zbyo_153 7), (11, zbyo_10), (12, zbyo_167 4), (15, zbyo_9), (16, zbyo_80), (17, zbyo_167 7), (20, zbyo_58 4), (22, zbyo_4), (23, zbyo_172), (24, zbyo_3)]
theorem zbyb_760 : zbys zbyl_760 (cL_dry.data.toList.drop 0) 0 = true := by decide +kernel
theorem dL_dry_0 : decode cL_dry 0 = .ok (.aload_n 3, 1) := zby_g zbyb_760 (i := 0) rfl rfl
theorem dL_dry_1 : decode cL_dry 1 = .ok (.iconst 0, 1) := zby_g zbyb_760 (i := 1) rfl rfl
theorem dL_dry_2 : decode cL_dry 2 = .ok (.aload_n 0, 1) := zby_g zbyb_760 (i := 2) rfl rfl
theorem dL_dry_3 : decode cL_dry 3 = .ok (.iload_n 1, 1) := zby_g zbyb_760 (i := 3) rfl rfl
theorem dL_dry_4 : decode cL_dry 4 = .ok (.iload_n 2, 1) := zby_g zbyb_760 (i := 4) rfl rfl
theorem dL_dry_5 : decode cL_dry 5 = .ok (.invokevirtual 57, 3) := zby_g zbyb_760 (i := 5) rfl rfl
theorem dL_dry_8 : decode cL_dry 8 = .ok (.ifCond .eq 7, 3) := zby_g zbyb_760 (i := 6) rfl rfl
theorem dL_dry_11 : decode cL_dry 11 = .ok (.lconst 1, 1) := zby_g zbyb_760 (i := 7) rfl rfl
theorem dL_dry_12 : decode cL_dry 12 = .ok (.goto 4, 3) := zby_g zbyb_760 (i := 8) rfl rfl
theorem dL_dry_15 : decode cL_dry 15 = .ok (.lconst 0, 1) := zby_g zbyb_760 (i := 9) rfl rfl
theorem dL_dry_16 : decode cL_dry 16 = .ok (.lastore, 1) := zby_g zbyb_760 (i := 10) rfl rfl
theorem dL_dry_17 : decode cL_dry 17 = .ok (.goto 7, 3) := zby_g zbyb_760 (i := 11) rfl rfl
theorem dL_dry_20 : decode cL_dry 20 = .ok (.astore 4, 2) := zby_g zbyb_760 (i := 12) rfl rfl
theorem dL_dry_22 : decode cL_dry 22 = .ok (.iconst 1, 1) := zby_g zbyb_760 (i := 13) rfl rfl
theorem dL_dry_23 : decode cL_dry 23 = .ok (.ireturn, 1) := zby_g zbyb_760 (i := 14) rfl rfl
theorem dL_dry_24 : decode cL_dry 24 = .ok (.iconst 0, 1) := zby_g zbyb_760 (i := 15) rfl rfl
noncomputable def zbyl_761 : List (Nat × zbyE) := [(25, zbyo_172)]
theorem zbyb_761 : zbys zbyl_761 (cL_dry.data.toList.drop 25) 25 = true := by decide +kernel
theorem dL_dry_25 : decode cL_dry 25 = .ok (.ireturn, 1) := zby_g zbyb_761 (i := 0) rfl rfl
noncomputable def zbyl_762 : List (Nat × zbyE) := [(0, zbyo_44), (1, zbyo_3), (2, zbyo_42), (3, zbyo_27), (4, zbyo_182 61), (7, zbyo_133), (8, zbyo_80), (9, zbyo_167 6), (12, zbyo_78), (13, zbyo_4), (14, zbyo_172), (15, zbyo_3), (16, zbyo_172)]
theorem zbyb_762 : zbys zbyl_762 (cL_days.data.toList.drop 0) 0 = true := by decide +kernel
theorem dL_days_0 : decode cL_days 0 = .ok (.aload_n 2, 1) := zby_g zbyb_762 (i := 0) rfl rfl
theorem dL_days_1 : decode cL_days 1 = .ok (.iconst 0, 1) := zby_g zbyb_762 (i := 1) rfl rfl
theorem dL_days_2 : decode cL_days 2 = .ok (.aload_n 0, 1) := zby_g zbyb_762 (i := 2) rfl rfl
theorem dL_days_3 : decode cL_days 3 = .ok (.iload_n 1, 1) := zby_g zbyb_762 (i := 3) rfl rfl
theorem dL_days_4 : decode cL_days 4 = .ok (.invokevirtual 61, 3) := zby_g zbyb_762 (i := 4) rfl rfl
theorem dL_days_7 : decode cL_days 7 = .ok (.i2l, 1) := zby_g zbyb_762 (i := 5) rfl rfl
theorem dL_days_8 : decode cL_days 8 = .ok (.lastore, 1) := zby_g zbyb_762 (i := 6) rfl rfl
theorem dL_days_9 : decode cL_days 9 = .ok (.goto 6, 3) := zby_g zbyb_762 (i := 7) rfl rfl
theorem dL_days_12 : decode cL_days 12 = .ok (.astore_n 3, 1) := zby_g zbyb_762 (i := 8) rfl rfl
theorem dL_days_13 : decode cL_days 13 = .ok (.iconst 1, 1) := zby_g zbyb_762 (i := 9) rfl rfl
theorem dL_days_14 : decode cL_days 14 = .ok (.ireturn, 1) := zby_g zbyb_762 (i := 10) rfl rfl
theorem dL_days_15 : decode cL_days 15 = .ok (.iconst 0, 1) := zby_g zbyb_762 (i := 11) rfl rfl
theorem dL_days_16 : decode cL_days 16 = .ok (.ireturn, 1) := zby_g zbyb_762 (i := 12) rfl rfl
noncomputable def zbyl_763 : List (Nat × zbyE) := [(0, zbyo_45), (1, zbyo_3), (2, zbyo_42), (3, zbyo_27), (4, zbyo_28), (5, zbyo_182 64), (8, zbyo_133), (9, zbyo_80), (10, zbyo_167 11), (13, zbyo_58 4), (15, zbyo_4), (16, zbyo_172), (17, zbyo_58 4), (19, zbyo_5), (20, zbyo_172), (21, zbyo_3)]
theorem zbyb_763 : zbys zbyl_763 (cL_ahead.data.toList.drop 0) 0 = true := by decide +kernel
theorem dL_ahead_0 : decode cL_ahead 0 = .ok (.aload_n 3, 1) := zby_g zbyb_763 (i := 0) rfl rfl
theorem dL_ahead_1 : decode cL_ahead 1 = .ok (.iconst 0, 1) := zby_g zbyb_763 (i := 1) rfl rfl
theorem dL_ahead_2 : decode cL_ahead 2 = .ok (.aload_n 0, 1) := zby_g zbyb_763 (i := 2) rfl rfl
theorem dL_ahead_3 : decode cL_ahead 3 = .ok (.iload_n 1, 1) := zby_g zbyb_763 (i := 3) rfl rfl
theorem dL_ahead_4 : decode cL_ahead 4 = .ok (.iload_n 2, 1) := zby_g zbyb_763 (i := 4) rfl rfl
theorem dL_ahead_5 : decode cL_ahead 5 = .ok (.invokevirtual 64, 3) := zby_g zbyb_763 (i := 5) rfl rfl
theorem dL_ahead_8 : decode cL_ahead 8 = .ok (.i2l, 1) := zby_g zbyb_763 (i := 6) rfl rfl
theorem dL_ahead_9 : decode cL_ahead 9 = .ok (.lastore, 1) := zby_g zbyb_763 (i := 7) rfl rfl
theorem dL_ahead_10 : decode cL_ahead 10 = .ok (.goto 11, 3) := zby_g zbyb_763 (i := 8) rfl rfl
theorem dL_ahead_13 : decode cL_ahead 13 = .ok (.astore 4, 2) := zby_g zbyb_763 (i := 9) rfl rfl
theorem dL_ahead_15 : decode cL_ahead 15 = .ok (.iconst 1, 1) := zby_g zbyb_763 (i := 10) rfl rfl
theorem dL_ahead_16 : decode cL_ahead 16 = .ok (.ireturn, 1) := zby_g zbyb_763 (i := 11) rfl rfl
theorem dL_ahead_17 : decode cL_ahead 17 = .ok (.astore 4, 2) := zby_g zbyb_763 (i := 12) rfl rfl
theorem dL_ahead_19 : decode cL_ahead 19 = .ok (.iconst 2, 1) := zby_g zbyb_763 (i := 13) rfl rfl
theorem dL_ahead_20 : decode cL_ahead 20 = .ok (.ireturn, 1) := zby_g zbyb_763 (i := 14) rfl rfl
theorem dL_ahead_21 : decode cL_ahead 21 = .ok (.iconst 0, 1) := zby_g zbyb_763 (i := 15) rfl rfl
noncomputable def zbyl_764 : List (Nat × zbyE) := [(22, zbyo_172)]
theorem zbyb_764 : zbys zbyl_764 (cL_ahead.data.toList.drop 22) 22 = true := by decide +kernel
theorem dL_ahead_22 : decode cL_ahead 22 = .ok (.ireturn, 1) := zby_g zbyb_764 (i := 0) rfl rfl
noncomputable def zbyl_765 : List (Nat × zbyE) := [(0, zbyo_45), (1, zbyo_3), (2, zbyo_42), (3, zbyo_27), (4, zbyo_28), (5, zbyo_182 67), (8, zbyo_133), (9, zbyo_80), (10, zbyo_167 7), (13, zbyo_58 4), (15, zbyo_4), (16, zbyo_172), (17, zbyo_3), (18, zbyo_172)]
theorem zbyb_765 : zbys zbyl_765 (cL_then.data.toList.drop 0) 0 = true := by decide +kernel
theorem dL_then_0 : decode cL_then 0 = .ok (.aload_n 3, 1) := zby_g zbyb_765 (i := 0) rfl rfl
theorem dL_then_1 : decode cL_then 1 = .ok (.iconst 0, 1) := zby_g zbyb_765 (i := 1) rfl rfl
theorem dL_then_2 : decode cL_then 2 = .ok (.aload_n 0, 1) := zby_g zbyb_765 (i := 2) rfl rfl
theorem dL_then_3 : decode cL_then 3 = .ok (.iload_n 1, 1) := zby_g zbyb_765 (i := 3) rfl rfl
theorem dL_then_4 : decode cL_then 4 = .ok (.iload_n 2, 1) := zby_g zbyb_765 (i := 4) rfl rfl
theorem dL_then_5 : decode cL_then 5 = .ok (.invokevirtual 67, 3) := zby_g zbyb_765 (i := 5) rfl rfl
theorem dL_then_8 : decode cL_then 8 = .ok (.i2l, 1) := zby_g zbyb_765 (i := 6) rfl rfl
theorem dL_then_9 : decode cL_then 9 = .ok (.lastore, 1) := zby_g zbyb_765 (i := 7) rfl rfl
theorem dL_then_10 : decode cL_then 10 = .ok (.goto 7, 3) := zby_g zbyb_765 (i := 8) rfl rfl
theorem dL_then_13 : decode cL_then 13 = .ok (.astore 4, 2) := zby_g zbyb_765 (i := 9) rfl rfl
theorem dL_then_15 : decode cL_then 15 = .ok (.iconst 1, 1) := zby_g zbyb_765 (i := 10) rfl rfl
theorem dL_then_16 : decode cL_then 16 = .ok (.ireturn, 1) := zby_g zbyb_765 (i := 11) rfl rfl
theorem dL_then_17 : decode cL_then 17 = .ok (.iconst 0, 1) := zby_g zbyb_765 (i := 12) rfl rfl
theorem dL_then_18 : decode cL_then 18 = .ok (.ireturn, 1) := zby_g zbyb_765 (i := 13) rfl rfl
noncomputable def zbyl_766 : List (Nat × zbyE) := [(0, zbyo_45), (1, zbyo_3), (2, zbyo_42), (3, zbyo_27), (4, zbyo_28), (5, zbyo_182 71), (8, zbyo_133), (9, zbyo_80), (10, zbyo_167 11), (13, zbyo_58 4), (15, zbyo_4), (16, zbyo_172), (17, zbyo_58 4), (19, zbyo_5), (20, zbyo_172), (21, zbyo_3)]
theorem zbyb_766 : zbys zbyl_766 (cL_sways.data.toList.drop 0) 0 = true := by decide +kernel
theorem dL_sways_0 : decode cL_sways 0 = .ok (.aload_n 3, 1) := zby_g zbyb_766 (i := 0) rfl rfl
theorem dL_sways_1 : decode cL_sways 1 = .ok (.iconst 0, 1) := zby_g zbyb_766 (i := 1) rfl rfl
theorem dL_sways_2 : decode cL_sways 2 = .ok (.aload_n 0, 1) := zby_g zbyb_766 (i := 2) rfl rfl
theorem dL_sways_3 : decode cL_sways 3 = .ok (.iload_n 1, 1) := zby_g zbyb_766 (i := 3) rfl rfl
theorem dL_sways_4 : decode cL_sways 4 = .ok (.iload_n 2, 1) := zby_g zbyb_766 (i := 4) rfl rfl
theorem dL_sways_5 : decode cL_sways 5 = .ok (.invokevirtual 71, 3) := zby_g zbyb_766 (i := 5) rfl rfl
theorem dL_sways_8 : decode cL_sways 8 = .ok (.i2l, 1) := zby_g zbyb_766 (i := 6) rfl rfl
theorem dL_sways_9 : decode cL_sways 9 = .ok (.lastore, 1) := zby_g zbyb_766 (i := 7) rfl rfl
theorem dL_sways_10 : decode cL_sways 10 = .ok (.goto 11, 3) := zby_g zbyb_766 (i := 8) rfl rfl
theorem dL_sways_13 : decode cL_sways 13 = .ok (.astore 4, 2) := zby_g zbyb_766 (i := 9) rfl rfl
theorem dL_sways_15 : decode cL_sways 15 = .ok (.iconst 1, 1) := zby_g zbyb_766 (i := 10) rfl rfl
theorem dL_sways_16 : decode cL_sways 16 = .ok (.ireturn, 1) := zby_g zbyb_766 (i := 11) rfl rfl
theorem dL_sways_17 : decode cL_sways 17 = .ok (.astore 4, 2) := zby_g zbyb_766 (i := 12) rfl rfl
theorem dL_sways_19 : decode cL_sways 19 = .ok (.iconst 2, 1) := zby_g zbyb_766 (i := 13) rfl rfl
theorem dL_sways_20 : decode cL_sways 20 = .ok (.ireturn, 1) := zby_g zbyb_766 (i := 14) rfl rfl
theorem dL_sways_21 : decode cL_sways 21 = .ok (.iconst 0, 1) := zby_g zbyb_766 (i := 15) rfl rfl
noncomputable def zbyl_767 : List (Nat × zbyE) := [(22, zbyo_172)]
theorem zbyb_767 : zbys zbyl_767 (cL_sways.data.toList.drop 22) 22 = true := by decide +kernel
theorem dL_sways_22 : decode cL_sways 22 = .ok (.ireturn, 1) := zby_g zbyb_767 (i := 0) rfl rfl
noncomputable def zbyl_768 : List (Nat × zbyE) := [(0, zbyo_44), (1, zbyo_3), (2, zbyo_42), (3, zbyo_27), (4, zbyo_182 74), (7, zbyo_133), (8, zbyo_80), (9, zbyo_167 6), (12, zbyo_78), (13, zbyo_4), (14, zbyo_172), (15, zbyo_3), (16, zbyo_172)]
theorem zbyb_768 : zbys zbyl_768 (cL_guru.data.toList.drop 0) 0 = true := by decide +kernel
theorem dL_guru_0 : decode cL_guru 0 = .ok (.aload_n 2, 1) := zby_g zbyb_768 (i := 0) rfl rfl
theorem dL_guru_1 : decode cL_guru 1 = .ok (.iconst 0, 1) := zby_g zbyb_768 (i := 1) rfl rfl
theorem dL_guru_2 : decode cL_guru 2 = .ok (.aload_n 0, 1) := zby_g zbyb_768 (i := 2) rfl rfl
theorem dL_guru_3 : decode cL_guru 3 = .ok (.iload_n 1, 1) := zby_g zbyb_768 (i := 3) rfl rfl
theorem dL_guru_4 : decode cL_guru 4 = .ok (.invokevirtual 74, 3) := zby_g zbyb_768 (i := 4) rfl rfl
theorem dL_guru_7 : decode cL_guru 7 = .ok (.i2l, 1) := zby_g zbyb_768 (i := 5) rfl rfl
theorem dL_guru_8 : decode cL_guru 8 = .ok (.lastore, 1) := zby_g zbyb_768 (i := 6) rfl rfl
theorem dL_guru_9 : decode cL_guru 9 = .ok (.goto 6, 3) := zby_g zbyb_768 (i := 7) rfl rfl
theorem dL_guru_12 : decode cL_guru 12 = .ok (.astore_n 3, 1) := zby_g zbyb_768 (i := 8) rfl rfl
theorem dL_guru_13 : decode cL_guru 13 = .ok (.iconst 1, 1) := zby_g zbyb_768 (i := 9) rfl rfl
theorem dL_guru_14 : decode cL_guru 14 = .ok (.ireturn, 1) := zby_g zbyb_768 (i := 10) rfl rfl
theorem dL_guru_15 : decode cL_guru 15 = .ok (.iconst 0, 1) := zby_g zbyb_768 (i := 11) rfl rfl
theorem dL_guru_16 : decode cL_guru 16 = .ok (.ireturn, 1) := zby_g zbyb_768 (i := 12) rfl rfl
noncomputable def zbyl_769 : List (Nat × zbyE) := [(0, zbyo_45), (1, zbyo_3), (2, zbyo_42), (3, zbyo_27), (4, zbyo_28), (5, zbyo_182 77), (8, zbyo_133), (9, zbyo_80), (10, zbyo_167 7), (13, zbyo_58 4), (15, zbyo_4), (16, zbyo_172), (17, zbyo_3), (18, zbyo_172)]
theorem zbyb_769 : zbys zbyl_769 (cL_must.data.toList.drop 0) 0 = true := by decide +kernel
theorem dL_must_0 : decode cL_must 0 = .ok (.aload_n 3, 1) := zby_g zbyb_769 (i := 0) rfl rfl
theorem dL_must_1 : decode cL_must 1 = .ok (.iconst 0, 1) := zby_g zbyb_769 (i := 1) rfl rfl
theorem dL_must_2 : decode cL_must 2 = .ok (.aload_n 0, 1) := zby_g zbyb_769 (i := 2) rfl rfl
theorem dL_must_3 : decode cL_must 3 = .ok (.iload_n 1, 1) := zby_g zbyb_769 (i := 3) rfl rfl
theorem dL_must_4 : decode cL_must 4 = .ok (.iload_n 2, 1) := zby_g zbyb_769 (i := 4) rfl rfl
theorem dL_must_5 : decode cL_must 5 = .ok (.invokevirtual 77, 3) := zby_g zbyb_769 (i := 5) rfl rfl
theorem dL_must_8 : decode cL_must 8 = .ok (.i2l, 1) := zby_g zbyb_769 (i := 6) rfl rfl
theorem dL_must_9 : decode cL_must 9 = .ok (.lastore, 1) := zby_g zbyb_769 (i := 7) rfl rfl
theorem dL_must_10 : decode cL_must 10 = .ok (.goto 7, 3) := zby_g zbyb_769 (i := 8) rfl rfl
theorem dL_must_13 : decode cL_must 13 = .ok (.astore 4, 2) := zby_g zbyb_769 (i := 9) rfl rfl
theorem dL_must_15 : decode cL_must 15 = .ok (.iconst 1, 1) := zby_g zbyb_769 (i := 10) rfl rfl
theorem dL_must_16 : decode cL_must 16 = .ok (.ireturn, 1) := zby_g zbyb_769 (i := 11) rfl rfl
theorem dL_must_17 : decode cL_must 17 = .ok (.iconst 0, 1) := zby_g zbyb_769 (i := 12) rfl rfl
theorem dL_must_18 : decode cL_must 18 = .ok (.ireturn, 1) := zby_g zbyb_769 (i := 13) rfl rfl
noncomputable def zbyl_770 : List (Nat × zbyE) := [(0, zbyo_44), (1, zbyo_3), (2, zbyo_42), (3, zbyo_27), (4, zbyo_182 80), (7, zbyo_133), (8, zbyo_80), (9, zbyo_167 6), (12, zbyo_78), (13, zbyo_4), (14, zbyo_172), (15, zbyo_3), (16, zbyo_172)]
theorem zbyb_770 : zbys zbyl_770 (cL_reaches.data.toList.drop 0) 0 = true := by decide +kernel
theorem dL_reaches_0 : decode cL_reaches 0 = .ok (.aload_n 2, 1) := zby_g zbyb_770 (i := 0) rfl rfl
theorem dL_reaches_1 : decode cL_reaches 1 = .ok (.iconst 0, 1) := zby_g zbyb_770 (i := 1) rfl rfl
theorem dL_reaches_2 : decode cL_reaches 2 = .ok (.aload_n 0, 1) := zby_g zbyb_770 (i := 2) rfl rfl
theorem dL_reaches_3 : decode cL_reaches 3 = .ok (.iload_n 1, 1) := zby_g zbyb_770 (i := 3) rfl rfl
theorem dL_reaches_4 : decode cL_reaches 4 = .ok (.invokevirtual 80, 3) := zby_g zbyb_770 (i := 4) rfl rfl
theorem dL_reaches_7 : decode cL_reaches 7 = .ok (.i2l, 1) := zby_g zbyb_770 (i := 5) rfl rfl
theorem dL_reaches_8 : decode cL_reaches 8 = .ok (.lastore, 1) := zby_g zbyb_770 (i := 6) rfl rfl
theorem dL_reaches_9 : decode cL_reaches 9 = .ok (.goto 6, 3) := zby_g zbyb_770 (i := 7) rfl rfl
theorem dL_reaches_12 : decode cL_reaches 12 = .ok (.astore_n 3, 1) := zby_g zbyb_770 (i := 8) rfl rfl
theorem dL_reaches_13 : decode cL_reaches 13 = .ok (.iconst 1, 1) := zby_g zbyb_770 (i := 9) rfl rfl
theorem dL_reaches_14 : decode cL_reaches 14 = .ok (.ireturn, 1) := zby_g zbyb_770 (i := 10) rfl rfl
theorem dL_reaches_15 : decode cL_reaches 15 = .ok (.iconst 0, 1) := zby_g zbyb_770 (i := 11) rfl rfl
theorem dL_reaches_16 : decode cL_reaches 16 = .ok (.ireturn, 1) := zby_g zbyb_770 (i := 12) rfl rfl
noncomputable def zbyl_771 : List (Nat × zbyE) := [(0, zbyo_45), (1, zbyo_3), (2, zbyo_42), (3, zbyo_27), (4, zbyo_28), (5, zbyo_182 83), (8, zbyo_133), (9, zbyo_80), (10, zbyo_167 7), (13, zbyo_58 4), (15, zbyo_4), (16, zbyo_172), (17, zbyo_3), (18, zbyo_172)]
theorem zbyb_771 : zbys zbyl_771 (cL_dearest.data.toList.drop 0) 0 = true := by decide +kernel
theorem dL_dearest_0 : decode cL_dearest 0 = .ok (.aload_n 3, 1) := zby_g zbyb_771 (i := 0) rfl rfl
theorem dL_dearest_1 : decode cL_dearest 1 = .ok (.iconst 0, 1) := zby_g zbyb_771 (i := 1) rfl rfl
theorem dL_dearest_2 : decode cL_dearest 2 = .ok (.aload_n 0, 1) := zby_g zbyb_771 (i := 2) rfl rfl
theorem dL_dearest_3 : decode cL_dearest 3 = .ok (.iload_n 1, 1) := zby_g zbyb_771 (i := 3) rfl rfl
theorem dL_dearest_4 : decode cL_dearest 4 = .ok (.iload_n 2, 1) := zby_g zbyb_771 (i := 4) rfl rfl
theorem dL_dearest_5 : decode cL_dearest 5 = .ok (.invokevirtual 83, 3) := zby_g zbyb_771 (i := 5) rfl rfl
theorem dL_dearest_8 : decode cL_dearest 8 = .ok (.i2l, 1) := zby_g zbyb_771 (i := 6) rfl rfl
theorem dL_dearest_9 : decode cL_dearest 9 = .ok (.lastore, 1) := zby_g zbyb_771 (i := 7) rfl rfl
theorem dL_dearest_10 : decode cL_dearest 10 = .ok (.goto 7, 3) := zby_g zbyb_771 (i := 8) rfl rfl
theorem dL_dearest_13 : decode cL_dearest 13 = .ok (.astore 4, 2) := zby_g zbyb_771 (i := 9) rfl rfl
theorem dL_dearest_15 : decode cL_dearest 15 = .ok (.iconst 1, 1) := zby_g zbyb_771 (i := 10) rfl rfl
theorem dL_dearest_16 : decode cL_dearest 16 = .ok (.ireturn, 1) := zby_g zbyb_771 (i := 11) rfl rfl
theorem dL_dearest_17 : decode cL_dearest 17 = .ok (.iconst 0, 1) := zby_g zbyb_771 (i := 12) rfl rfl
theorem dL_dearest_18 : decode cL_dearest 18 = .ok (.ireturn, 1) := zby_g zbyb_771 (i := 13) rfl rfl
noncomputable def zbyl_772 : List (Nat × zbyE) := [(0, zbyo_44), (1, zbyo_3), (2, zbyo_42), (3, zbyo_27), (4, zbyo_182 86), (7, zbyo_133), (8, zbyo_80), (9, zbyo_167 6), (12, zbyo_78), (13, zbyo_4), (14, zbyo_172), (15, zbyo_3), (16, zbyo_172)]
theorem zbyb_772 : zbys zbyl_772 (cL_falls.data.toList.drop 0) 0 = true := by decide +kernel
theorem dL_falls_0 : decode cL_falls 0 = .ok (.aload_n 2, 1) := zby_g zbyb_772 (i := 0) rfl rfl
theorem dL_falls_1 : decode cL_falls 1 = .ok (.iconst 0, 1) := zby_g zbyb_772 (i := 1) rfl rfl
theorem dL_falls_2 : decode cL_falls 2 = .ok (.aload_n 0, 1) := zby_g zbyb_772 (i := 2) rfl rfl
theorem dL_falls_3 : decode cL_falls 3 = .ok (.iload_n 1, 1) := zby_g zbyb_772 (i := 3) rfl rfl
theorem dL_falls_4 : decode cL_falls 4 = .ok (.invokevirtual 86, 3) := zby_g zbyb_772 (i := 4) rfl rfl
theorem dL_falls_7 : decode cL_falls 7 = .ok (.i2l, 1) := zby_g zbyb_772 (i := 5) rfl rfl
theorem dL_falls_8 : decode cL_falls 8 = .ok (.lastore, 1) := zby_g zbyb_772 (i := 6) rfl rfl
theorem dL_falls_9 : decode cL_falls 9 = .ok (.goto 6, 3) := zby_g zbyb_772 (i := 7) rfl rfl
theorem dL_falls_12 : decode cL_falls 12 = .ok (.astore_n 3, 1) := zby_g zbyb_772 (i := 8) rfl rfl
theorem dL_falls_13 : decode cL_falls 13 = .ok (.iconst 1, 1) := zby_g zbyb_772 (i := 9) rfl rfl
theorem dL_falls_14 : decode cL_falls 14 = .ok (.ireturn, 1) := zby_g zbyb_772 (i := 10) rfl rfl
theorem dL_falls_15 : decode cL_falls 15 = .ok (.iconst 0, 1) := zby_g zbyb_772 (i := 11) rfl rfl
theorem dL_falls_16 : decode cL_falls 16 = .ok (.ireturn, 1) := zby_g zbyb_772 (i := 12) rfl rfl
noncomputable def zbyl_773 : List (Nat × zbyE) := [(0, zbyo_44), (1, zbyo_3), (2, zbyo_42), (3, zbyo_27), (4, zbyo_182 89), (7, zbyo_133), (8, zbyo_80), (9, zbyo_167 6), (12, zbyo_78), (13, zbyo_4), (14, zbyo_172), (15, zbyo_3), (16, zbyo_172)]
theorem zbyb_773 : zbys zbyl_773 (cL_river.data.toList.drop 0) 0 = true := by decide +kernel
theorem dL_river_0 : decode cL_river 0 = .ok (.aload_n 2, 1) := zby_g zbyb_773 (i := 0) rfl rfl
theorem dL_river_1 : decode cL_river 1 = .ok (.iconst 0, 1) := zby_g zbyb_773 (i := 1) rfl rfl
theorem dL_river_2 : decode cL_river 2 = .ok (.aload_n 0, 1) := zby_g zbyb_773 (i := 2) rfl rfl
theorem dL_river_3 : decode cL_river 3 = .ok (.iload_n 1, 1) := zby_g zbyb_773 (i := 3) rfl rfl
theorem dL_river_4 : decode cL_river 4 = .ok (.invokevirtual 89, 3) := zby_g zbyb_773 (i := 4) rfl rfl
theorem dL_river_7 : decode cL_river 7 = .ok (.i2l, 1) := zby_g zbyb_773 (i := 5) rfl rfl
theorem dL_river_8 : decode cL_river 8 = .ok (.lastore, 1) := zby_g zbyb_773 (i := 6) rfl rfl
theorem dL_river_9 : decode cL_river 9 = .ok (.goto 6, 3) := zby_g zbyb_773 (i := 7) rfl rfl
theorem dL_river_12 : decode cL_river 12 = .ok (.astore_n 3, 1) := zby_g zbyb_773 (i := 8) rfl rfl
theorem dL_river_13 : decode cL_river 13 = .ok (.iconst 1, 1) := zby_g zbyb_773 (i := 9) rfl rfl
theorem dL_river_14 : decode cL_river 14 = .ok (.ireturn, 1) := zby_g zbyb_773 (i := 10) rfl rfl
theorem dL_river_15 : decode cL_river 15 = .ok (.iconst 0, 1) := zby_g zbyb_773 (i := 11) rfl rfl
theorem dL_river_16 : decode cL_river 16 = .ok (.ireturn, 1) := zby_g zbyb_773 (i := 12) rfl rfl
noncomputable def zbyl_774 : List (Nat × zbyE) := [(0, zbyo_44), (1, zbyo_3), (2, zbyo_42), (3, zbyo_27), (4, zbyo_182 92), (7, zbyo_133), (8, zbyo_80), (9, zbyo_167 6), (12, zbyo_78), (13, zbyo_4), (14, zbyo_172), (15, zbyo_3), (16, zbyo_172)]
theorem zbyb_774 : zbys zbyl_774 (cL_more.data.toList.drop 0) 0 = true := by decide +kernel
theorem dL_more_0 : decode cL_more 0 = .ok (.aload_n 2, 1) := zby_g zbyb_774 (i := 0) rfl rfl
theorem dL_more_1 : decode cL_more 1 = .ok (.iconst 0, 1) := zby_g zbyb_774 (i := 1) rfl rfl
theorem dL_more_2 : decode cL_more 2 = .ok (.aload_n 0, 1) := zby_g zbyb_774 (i := 2) rfl rfl
theorem dL_more_3 : decode cL_more 3 = .ok (.iload_n 1, 1) := zby_g zbyb_774 (i := 3) rfl rfl
theorem dL_more_4 : decode cL_more 4 = .ok (.invokevirtual 92, 3) := zby_g zbyb_774 (i := 4) rfl rfl
theorem dL_more_7 : decode cL_more 7 = .ok (.i2l, 1) := zby_g zbyb_774 (i := 5) rfl rfl
theorem dL_more_8 : decode cL_more 8 = .ok (.lastore, 1) := zby_g zbyb_774 (i := 6) rfl rfl
theorem dL_more_9 : decode cL_more 9 = .ok (.goto 6, 3) := zby_g zbyb_774 (i := 7) rfl rfl
theorem dL_more_12 : decode cL_more 12 = .ok (.astore_n 3, 1) := zby_g zbyb_774 (i := 8) rfl rfl
theorem dL_more_13 : decode cL_more 13 = .ok (.iconst 1, 1) := zby_g zbyb_774 (i := 9) rfl rfl
theorem dL_more_14 : decode cL_more 14 = .ok (.ireturn, 1) := zby_g zbyb_774 (i := 10) rfl rfl
theorem dL_more_15 : decode cL_more 15 = .ok (.iconst 0, 1) := zby_g zbyb_774 (i := 11) rfl rfl
theorem dL_more_16 : decode cL_more 16 = .ok (.ireturn, 1) := zby_g zbyb_774 (i := 12) rfl rfl
noncomputable def zbyl_775 : List (Nat × zbyE) := [(0, zbyo_44), (1, zbyo_3), (2, zbyo_42), (3, zbyo_27), (4, zbyo_182 95), (7, zbyo_133), (8, zbyo_80), (9, zbyo_167 6), (12, zbyo_78), (13, zbyo_4), (14, zbyo_172), (15, zbyo_3), (16, zbyo_172)]
theorem zbyb_775 : zbys zbyl_775 (cL_liars.data.toList.drop 0) 0 = true := by decide +kernel
theorem dL_liars_0 : decode cL_liars 0 = .ok (.aload_n 2, 1) := zby_g zbyb_775 (i := 0) rfl rfl
theorem dL_liars_1 : decode cL_liars 1 = .ok (.iconst 0, 1) := zby_g zbyb_775 (i := 1) rfl rfl
theorem dL_liars_2 : decode cL_liars 2 = .ok (.aload_n 0, 1) := zby_g zbyb_775 (i := 2) rfl rfl
theorem dL_liars_3 : decode cL_liars 3 = .ok (.iload_n 1, 1) := zby_g zbyb_775 (i := 3) rfl rfl
theorem dL_liars_4 : decode cL_liars 4 = .ok (.invokevirtual 95, 3) := zby_g zbyb_775 (i := 4) rfl rfl
theorem dL_liars_7 : decode cL_liars 7 = .ok (.i2l, 1) := zby_g zbyb_775 (i := 5) rfl rfl
theorem dL_liars_8 : decode cL_liars 8 = .ok (.lastore, 1) := zby_g zbyb_775 (i := 6) rfl rfl
theorem dL_liars_9 : decode cL_liars 9 = .ok (.goto 6, 3) := zby_g zbyb_775 (i := 7) rfl rfl
theorem dL_liars_12 : decode cL_liars 12 = .ok (.astore_n 3, 1) := zby_g zbyb_775 (i := 8) rfl rfl
theorem dL_liars_13 : decode cL_liars 13 = .ok (.iconst 1, 1) := zby_g zbyb_775 (i := 9) rfl rfl
theorem dL_liars_14 : decode cL_liars 14 = .ok (.ireturn, 1) := zby_g zbyb_775 (i := 10) rfl rfl
theorem dL_liars_15 : decode cL_liars 15 = .ok (.iconst 0, 1) := zby_g zbyb_775 (i := 11) rfl rfl
theorem dL_liars_16 : decode cL_liars 16 = .ok (.ireturn, 1) := zby_g zbyb_775 (i := 12) rfl rfl
noncomputable def zbyl_776 : List (Nat × zbyE) := [(0, zbyo_43), (1, zbyo_3), (2, zbyo_42), (3, zbyo_182 99), (6, zbyo_133), (7, zbyo_80), (8, zbyo_167 6), (11, zbyo_77), (12, zbyo_4), (13, zbyo_172), (14, zbyo_3), (15, zbyo_172)]
theorem zbyb_776 : zbys zbyl_776 (cL_ask.data.toList.drop 0) 0 = true := by decide +kernel
theorem dL_ask_0 : decode cL_ask 0 = .ok (.aload_n 1, 1) := zby_g zbyb_776 (i := 0) rfl rfl
theorem dL_ask_1 : decode cL_ask 1 = .ok (.iconst 0, 1) := zby_g zbyb_776 (i := 1) rfl rfl
theorem dL_ask_2 : decode cL_ask 2 = .ok (.aload_n 0, 1) := zby_g zbyb_776 (i := 2) rfl rfl
theorem dL_ask_3 : decode cL_ask 3 = .ok (.invokevirtual 99, 3) := zby_g zbyb_776 (i := 3) rfl rfl
theorem dL_ask_6 : decode cL_ask 6 = .ok (.i2l, 1) := zby_g zbyb_776 (i := 4) rfl rfl
theorem dL_ask_7 : decode cL_ask 7 = .ok (.lastore, 1) := zby_g zbyb_776 (i := 5) rfl rfl
theorem dL_ask_8 : decode cL_ask 8 = .ok (.goto 6, 3) := zby_g zbyb_776 (i := 6) rfl rfl
theorem dL_ask_11 : decode cL_ask 11 = .ok (.astore_n 2, 1) := zby_g zbyb_776 (i := 7) rfl rfl
theorem dL_ask_12 : decode cL_ask 12 = .ok (.iconst 1, 1) := zby_g zbyb_776 (i := 8) rfl rfl
theorem dL_ask_13 : decode cL_ask 13 = .ok (.ireturn, 1) := zby_g zbyb_776 (i := 9) rfl rfl
theorem dL_ask_14 : decode cL_ask 14 = .ok (.iconst 0, 1) := zby_g zbyb_776 (i := 10) rfl rfl
theorem dL_ask_15 : decode cL_ask 15 = .ok (.ireturn, 1) := zby_g zbyb_776 (i := 11) rfl rfl
noncomputable def zbyl_777 : List (Nat × zbyE) := [(0, zbyo_44), (1, zbyo_3), (2, zbyo_42), (3, zbyo_27), (4, zbyo_182 102), (7, zbyo_133), (8, zbyo_80), (9, zbyo_167 6), (12, zbyo_78), (13, zbyo_4), (14, zbyo_172), (15, zbyo_3), (16, zbyo_172)]
theorem zbyb_777 : zbys zbyl_777 (cL_word.data.toList.drop 0) 0 = true := by decide +kernel
theorem dL_word_0 : decode cL_word 0 = .ok (.aload_n 2, 1) := zby_g zbyb_777 (i := 0) rfl rfl
theorem dL_word_1 : decode cL_word 1 = .ok (.iconst 0, 1) := zby_g zbyb_777 (i := 1) rfl rfl
theorem dL_word_2 : decode cL_word 2 = .ok (.aload_n 0, 1) := zby_g zbyb_777 (i := 2) rfl rfl
theorem dL_word_3 : decode cL_word 3 = .ok (.iload_n 1, 1) := zby_g zbyb_777 (i := 3) rfl rfl
theorem dL_word_4 : decode cL_word 4 = .ok (.invokevirtual 102, 3) := zby_g zbyb_777 (i := 4) rfl rfl
theorem dL_word_7 : decode cL_word 7 = .ok (.i2l, 1) := zby_g zbyb_777 (i := 5) rfl rfl
theorem dL_word_8 : decode cL_word 8 = .ok (.lastore, 1) := zby_g zbyb_777 (i := 6) rfl rfl
theorem dL_word_9 : decode cL_word 9 = .ok (.goto 6, 3) := zby_g zbyb_777 (i := 7) rfl rfl
theorem dL_word_12 : decode cL_word 12 = .ok (.astore_n 3, 1) := zby_g zbyb_777 (i := 8) rfl rfl
theorem dL_word_13 : decode cL_word 13 = .ok (.iconst 1, 1) := zby_g zbyb_777 (i := 9) rfl rfl
theorem dL_word_14 : decode cL_word 14 = .ok (.ireturn, 1) := zby_g zbyb_777 (i := 10) rfl rfl
theorem dL_word_15 : decode cL_word 15 = .ok (.iconst 0, 1) := zby_g zbyb_777 (i := 11) rfl rfl
theorem dL_word_16 : decode cL_word 16 = .ok (.ireturn, 1) := zby_g zbyb_777 (i := 12) rfl rfl
noncomputable def zbyl_778 : List (Nat × zbyE) := [(0, zbyo_45), (1, zbyo_3), (2, zbyo_42), (3, zbyo_27), (4, zbyo_28), (5, zbyo_182 105), (8, zbyo_133), (9, zbyo_80), (10, zbyo_167 11), (13, zbyo_58 4), (15, zbyo_4), (16, zbyo_172), (17, zbyo_58 4), (19, zbyo_5), (20, zbyo_172), (21, zbyo_3)]
theorem zbyb_778 : zbys zbyl_778 (cL_steps.data.toList.drop 0) 0 = true := by decide +kernel
theorem dL_steps_0 : decode cL_steps 0 = .ok (.aload_n 3, 1) := zby_g zbyb_778 (i := 0) rfl rfl
theorem dL_steps_1 : decode cL_steps 1 = .ok (.iconst 0, 1) := zby_g zbyb_778 (i := 1) rfl rfl
theorem dL_steps_2 : decode cL_steps 2 = .ok (.aload_n 0, 1) := zby_g zbyb_778 (i := 2) rfl rfl
theorem dL_steps_3 : decode cL_steps 3 = .ok (.iload_n 1, 1) := zby_g zbyb_778 (i := 3) rfl rfl
theorem dL_steps_4 : decode cL_steps 4 = .ok (.iload_n 2, 1) := zby_g zbyb_778 (i := 4) rfl rfl
theorem dL_steps_5 : decode cL_steps 5 = .ok (.invokevirtual 105, 3) := zby_g zbyb_778 (i := 5) rfl rfl
theorem dL_steps_8 : decode cL_steps 8 = .ok (.i2l, 1) := zby_g zbyb_778 (i := 6) rfl rfl
theorem dL_steps_9 : decode cL_steps 9 = .ok (.lastore, 1) := zby_g zbyb_778 (i := 7) rfl rfl
theorem dL_steps_10 : decode cL_steps 10 = .ok (.goto 11, 3) := zby_g zbyb_778 (i := 8) rfl rfl
theorem dL_steps_13 : decode cL_steps 13 = .ok (.astore 4, 2) := zby_g zbyb_778 (i := 9) rfl rfl
theorem dL_steps_15 : decode cL_steps 15 = .ok (.iconst 1, 1) := zby_g zbyb_778 (i := 10) rfl rfl
theorem dL_steps_16 : decode cL_steps 16 = .ok (.ireturn, 1) := zby_g zbyb_778 (i := 11) rfl rfl
theorem dL_steps_17 : decode cL_steps 17 = .ok (.astore 4, 2) := zby_g zbyb_778 (i := 12) rfl rfl
theorem dL_steps_19 : decode cL_steps 19 = .ok (.iconst 2, 1) := zby_g zbyb_778 (i := 13) rfl rfl
theorem dL_steps_20 : decode cL_steps 20 = .ok (.ireturn, 1) := zby_g zbyb_778 (i := 14) rfl rfl
theorem dL_steps_21 : decode cL_steps 21 = .ok (.iconst 0, 1) := zby_g zbyb_778 (i := 15) rfl rfl
noncomputable def zbyl_779 : List (Nat × zbyE) := [(22, zbyo_172)]
theorem zbyb_779 : zbys zbyl_779 (cL_steps.data.toList.drop 22) 22 = true := by decide +kernel
theorem dL_steps_22 : decode cL_steps 22 = .ok (.ireturn, 1) := zby_g zbyb_779 (i := 0) rfl rfl
noncomputable def zbyl_780 : List (Nat × zbyE) := [(0, zbyo_45), (1, zbyo_3), (2, zbyo_42), (3, zbyo_27), (4, zbyo_28), (5, zbyo_182 108), (8, zbyo_133), (9, zbyo_80), (10, zbyo_167 11), (13, zbyo_58 4), (15, zbyo_4), (16, zbyo_172), (17, zbyo_58 4), (19, zbyo_5), (20, zbyo_172), (21, zbyo_3)]
theorem zbyb_780 : zbys zbyl_780 (cL_rests.data.toList.drop 0) 0 = true := by decide +kernel
theorem dL_rests_0 : decode cL_rests 0 = .ok (.aload_n 3, 1) := zby_g zbyb_780 (i := 0) rfl rfl
theorem dL_rests_1 : decode cL_rests 1 = .ok (.iconst 0, 1) := zby_g zbyb_780 (i := 1) rfl rfl
theorem dL_rests_2 : decode cL_rests 2 = .ok (.aload_n 0, 1) := zby_g zbyb_780 (i := 2) rfl rfl
theorem dL_rests_3 : decode cL_rests 3 = .ok (.iload_n 1, 1) := zby_g zbyb_780 (i := 3) rfl rfl
theorem dL_rests_4 : decode cL_rests 4 = .ok (.iload_n 2, 1) := zby_g zbyb_780 (i := 4) rfl rfl
theorem dL_rests_5 : decode cL_rests 5 = .ok (.invokevirtual 108, 3) := zby_g zbyb_780 (i := 5) rfl rfl
theorem dL_rests_8 : decode cL_rests 8 = .ok (.i2l, 1) := zby_g zbyb_780 (i := 6) rfl rfl
theorem dL_rests_9 : decode cL_rests 9 = .ok (.lastore, 1) := zby_g zbyb_780 (i := 7) rfl rfl
theorem dL_rests_10 : decode cL_rests 10 = .ok (.goto 11, 3) := zby_g zbyb_780 (i := 8) rfl rfl
theorem dL_rests_13 : decode cL_rests 13 = .ok (.astore 4, 2) := zby_g zbyb_780 (i := 9) rfl rfl
theorem dL_rests_15 : decode cL_rests 15 = .ok (.iconst 1, 1) := zby_g zbyb_780 (i := 10) rfl rfl
theorem dL_rests_16 : decode cL_rests 16 = .ok (.ireturn, 1) := zby_g zbyb_780 (i := 11) rfl rfl
theorem dL_rests_17 : decode cL_rests 17 = .ok (.astore 4, 2) := zby_g zbyb_780 (i := 12) rfl rfl
theorem dL_rests_19 : decode cL_rests 19 = .ok (.iconst 2, 1) := zby_g zbyb_780 (i := 13) rfl rfl
theorem dL_rests_20 : decode cL_rests 20 = .ok (.ireturn, 1) := zby_g zbyb_780 (i := 14) rfl rfl
theorem dL_rests_21 : decode cL_rests 21 = .ok (.iconst 0, 1) := zby_g zbyb_780 (i := 15) rfl rfl
noncomputable def zbyl_781 : List (Nat × zbyE) := [(22, zbyo_172)]
theorem zbyb_781 : zbys zbyl_781 (cL_rests.data.toList.drop 22) 22 = true := by decide +kernel
theorem dL_rests_22 : decode cL_rests 22 = .ok (.ireturn, 1) := zby_g zbyb_781 (i := 0) rfl rfl
noncomputable def zbyl_782 : List (Nat × zbyE) := [(0, zbyo_44), (1, zbyo_3), (2, zbyo_42), (3, zbyo_27), (4, zbyo_182 111), (7, zbyo_133), (8, zbyo_80), (9, zbyo_167 6), (12, zbyo_78), (13, zbyo_4), (14, zbyo_172), (15, zbyo_3), (16, zbyo_172)]
theorem zbyb_782 : zbys zbyl_782 (cL_last.data.toList.drop 0) 0 = true := by decide +kernel
theorem dL_last_0 : decode cL_last 0 = .ok (.aload_n 2, 1) := zby_g zbyb_782 (i := 0) rfl rfl
theorem dL_last_1 : decode cL_last 1 = .ok (.iconst 0, 1) := zby_g zbyb_782 (i := 1) rfl rfl
theorem dL_last_2 : decode cL_last 2 = .ok (.aload_n 0, 1) := zby_g zbyb_782 (i := 2) rfl rfl
theorem dL_last_3 : decode cL_last 3 = .ok (.iload_n 1, 1) := zby_g zbyb_782 (i := 3) rfl rfl
theorem dL_last_4 : decode cL_last 4 = .ok (.invokevirtual 111, 3) := zby_g zbyb_782 (i := 4) rfl rfl
theorem dL_last_7 : decode cL_last 7 = .ok (.i2l, 1) := zby_g zbyb_782 (i := 5) rfl rfl
theorem dL_last_8 : decode cL_last 8 = .ok (.lastore, 1) := zby_g zbyb_782 (i := 6) rfl rfl
theorem dL_last_9 : decode cL_last 9 = .ok (.goto 6, 3) := zby_g zbyb_782 (i := 7) rfl rfl
theorem dL_last_12 : decode cL_last 12 = .ok (.astore_n 3, 1) := zby_g zbyb_782 (i := 8) rfl rfl
theorem dL_last_13 : decode cL_last 13 = .ok (.iconst 1, 1) := zby_g zbyb_782 (i := 9) rfl rfl
theorem dL_last_14 : decode cL_last 14 = .ok (.ireturn, 1) := zby_g zbyb_782 (i := 10) rfl rfl
theorem dL_last_15 : decode cL_last 15 = .ok (.iconst 0, 1) := zby_g zbyb_782 (i := 11) rfl rfl
theorem dL_last_16 : decode cL_last 16 = .ok (.ireturn, 1) := zby_g zbyb_782 (i := 12) rfl rfl
noncomputable def zbyl_783 : List (Nat × zbyE) := [(0, zbyo_45), (1, zbyo_3), (2, zbyo_42), (3, zbyo_27), (4, zbyo_28), (5, zbyo_182 114), (8, zbyo_133), (9, zbyo_80), (10, zbyo_167 7), (13, zbyo_58 4), (15, zbyo_4), (16, zbyo_172), (17, zbyo_3), (18, zbyo_172)]
theorem zbyb_783 : zbys zbyl_783 (cL_trial.data.toList.drop 0) 0 = true := by decide +kernel
theorem dL_trial_0 : decode cL_trial 0 = .ok (.aload_n 3, 1) := zby_g zbyb_783 (i := 0) rfl rfl
theorem dL_trial_1 : decode cL_trial 1 = .ok (.iconst 0, 1) := zby_g zbyb_783 (i := 1) rfl rfl
theorem dL_trial_2 : decode cL_trial 2 = .ok (.aload_n 0, 1) := zby_g zbyb_783 (i := 2) rfl rfl
theorem dL_trial_3 : decode cL_trial 3 = .ok (.iload_n 1, 1) := zby_g zbyb_783 (i := 3) rfl rfl
theorem dL_trial_4 : decode cL_trial 4 = .ok (.iload_n 2, 1) := zby_g zbyb_783 (i := 4) rfl rfl
theorem dL_trial_5 : decode cL_trial 5 = .ok (.invokevirtual 114, 3) := zby_g zbyb_783 (i := 5) rfl rfl
theorem dL_trial_8 : decode cL_trial 8 = .ok (.i2l, 1) := zby_g zbyb_783 (i := 6) rfl rfl
theorem dL_trial_9 : decode cL_trial 9 = .ok (.lastore, 1) := zby_g zbyb_783 (i := 7) rfl rfl
theorem dL_trial_10 : decode cL_trial 10 = .ok (.goto 7, 3) := zby_g zbyb_783 (i := 8) rfl rfl
theorem dL_trial_13 : decode cL_trial 13 = .ok (.astore 4, 2) := zby_g zbyb_783 (i := 9) rfl rfl
theorem dL_trial_15 : decode cL_trial 15 = .ok (.iconst 1, 1) := zby_g zbyb_783 (i := 10) rfl rfl
theorem dL_trial_16 : decode cL_trial 16 = .ok (.ireturn, 1) := zby_g zbyb_783 (i := 11) rfl rfl
theorem dL_trial_17 : decode cL_trial 17 = .ok (.iconst 0, 1) := zby_g zbyb_783 (i := 12) rfl rfl
theorem dL_trial_18 : decode cL_trial 18 = .ok (.ireturn, 1) := zby_g zbyb_783 (i := 13) rfl rfl
noncomputable def zbyl_784 : List (Nat × zbyE) := [(0, zbyo_45), (1, zbyo_3), (2, zbyo_42), (3, zbyo_27), (4, zbyo_28), (5, zbyo_182 117), (8, zbyo_133), (9, zbyo_80), (10, zbyo_167 7), (13, zbyo_58 4), (15, zbyo_4), (16, zbyo_172), (17, zbyo_3), (18, zbyo_172)]
theorem zbyb_784 : zbys zbyl_784 (cL_span.data.toList.drop 0) 0 = true := by decide +kernel
theorem dL_span_0 : decode cL_span 0 = .ok (.aload_n 3, 1) := zby_g zbyb_784 (i := 0) rfl rfl
theorem dL_span_1 : decode cL_span 1 = .ok (.iconst 0, 1) := zby_g zbyb_784 (i := 1) rfl rfl
theorem dL_span_2 : decode cL_span 2 = .ok (.aload_n 0, 1) := zby_g zbyb_784 (i := 2) rfl rfl
theorem dL_span_3 : decode cL_span 3 = .ok (.iload_n 1, 1) := zby_g zbyb_784 (i := 3) rfl rfl
theorem dL_span_4 : decode cL_span 4 = .ok (.iload_n 2, 1) := zby_g zbyb_784 (i := 4) rfl rfl
theorem dL_span_5 : decode cL_span 5 = .ok (.invokevirtual 117, 3) := zby_g zbyb_784 (i := 5) rfl rfl
theorem dL_span_8 : decode cL_span 8 = .ok (.i2l, 1) := zby_g zbyb_784 (i := 6) rfl rfl
theorem dL_span_9 : decode cL_span 9 = .ok (.lastore, 1) := zby_g zbyb_784 (i := 7) rfl rfl
theorem dL_span_10 : decode cL_span 10 = .ok (.goto 7, 3) := zby_g zbyb_784 (i := 8) rfl rfl
theorem dL_span_13 : decode cL_span 13 = .ok (.astore 4, 2) := zby_g zbyb_784 (i := 9) rfl rfl
theorem dL_span_15 : decode cL_span 15 = .ok (.iconst 1, 1) := zby_g zbyb_784 (i := 10) rfl rfl
theorem dL_span_16 : decode cL_span 16 = .ok (.ireturn, 1) := zby_g zbyb_784 (i := 11) rfl rfl
theorem dL_span_17 : decode cL_span 17 = .ok (.iconst 0, 1) := zby_g zbyb_784 (i := 12) rfl rfl
theorem dL_span_18 : decode cL_span 18 = .ok (.ireturn, 1) := zby_g zbyb_784 (i := 13) rfl rfl
noncomputable def zbyl_785 : List (Nat × zbyE) := [(0, zbyo_45), (1, zbyo_3), (2, zbyo_42), (3, zbyo_27), (4, zbyo_28), (5, zbyo_182 120), (8, zbyo_133), (9, zbyo_80), (10, zbyo_167 7), (13, zbyo_58 4), (15, zbyo_4), (16, zbyo_172), (17, zbyo_3), (18, zbyo_172)]
theorem zbyb_785 : zbys zbyl_785 (cL_led.data.toList.drop 0) 0 = true := by decide +kernel
theorem dL_led_0 : decode cL_led 0 = .ok (.aload_n 3, 1) := zby_g zbyb_785 (i := 0) rfl rfl
theorem dL_led_1 : decode cL_led 1 = .ok (.iconst 0, 1) := zby_g zbyb_785 (i := 1) rfl rfl
theorem dL_led_2 : decode cL_led 2 = .ok (.aload_n 0, 1) := zby_g zbyb_785 (i := 2) rfl rfl
theorem dL_led_3 : decode cL_led 3 = .ok (.iload_n 1, 1) := zby_g zbyb_785 (i := 3) rfl rfl
theorem dL_led_4 : decode cL_led 4 = .ok (.iload_n 2, 1) := zby_g zbyb_785 (i := 4) rfl rfl
theorem dL_led_5 : decode cL_led 5 = .ok (.invokevirtual 120, 3) := zby_g zbyb_785 (i := 5) rfl rfl
theorem dL_led_8 : decode cL_led 8 = .ok (.i2l, 1) := zby_g zbyb_785 (i := 6) rfl rfl
theorem dL_led_9 : decode cL_led 9 = .ok (.lastore, 1) := zby_g zbyb_785 (i := 7) rfl rfl
theorem dL_led_10 : decode cL_led 10 = .ok (.goto 7, 3) := zby_g zbyb_785 (i := 8) rfl rfl
theorem dL_led_13 : decode cL_led 13 = .ok (.astore 4, 2) := zby_g zbyb_785 (i := 9) rfl rfl
theorem dL_led_15 : decode cL_led 15 = .ok (.iconst 1, 1) := zby_g zbyb_785 (i := 10) rfl rfl
theorem dL_led_16 : decode cL_led 16 = .ok (.ireturn, 1) := zby_g zbyb_785 (i := 11) rfl rfl
theorem dL_led_17 : decode cL_led 17 = .ok (.iconst 0, 1) := zby_g zbyb_785 (i := 12) rfl rfl
theorem dL_led_18 : decode cL_led 18 = .ok (.ireturn, 1) := zby_g zbyb_785 (i := 13) rfl rfl
noncomputable def zbyl_786 : List (Nat × zbyE) := [(0, zbyo_45), (1, zbyo_3), (2, zbyo_42), (3, zbyo_27), (4, zbyo_28), (5, zbyo_182 123), (8, zbyo_133), (9, zbyo_80), (10, zbyo_167 7), (13, zbyo_58 4), (15, zbyo_4), (16, zbyo_172), (17, zbyo_3), (18, zbyo_172)]
theorem zbyb_786 : zbys zbyl_786 (cL_log.data.toList.drop 0) 0 = true := by decide +kernel
theorem dL_log_0 : decode cL_log 0 = .ok (.aload_n 3, 1) := zby_g zbyb_786 (i := 0) rfl rfl
theorem dL_log_1 : decode cL_log 1 = .ok (.iconst 0, 1) := zby_g zbyb_786 (i := 1) rfl rfl
theorem dL_log_2 : decode cL_log 2 = .ok (.aload_n 0, 1) := zby_g zbyb_786 (i := 2) rfl rfl
theorem dL_log_3 : decode cL_log 3 = .ok (.iload_n 1, 1) := zby_g zbyb_786 (i := 3) rfl rfl
theorem dL_log_4 : decode cL_log 4 = .ok (.iload_n 2, 1) := zby_g zbyb_786 (i := 4) rfl rfl
theorem dL_log_5 : decode cL_log 5 = .ok (.invokevirtual 123, 3) := zby_g zbyb_786 (i := 5) rfl rfl
theorem dL_log_8 : decode cL_log 8 = .ok (.i2l, 1) := zby_g zbyb_786 (i := 6) rfl rfl
theorem dL_log_9 : decode cL_log 9 = .ok (.lastore, 1) := zby_g zbyb_786 (i := 7) rfl rfl
theorem dL_log_10 : decode cL_log 10 = .ok (.goto 7, 3) := zby_g zbyb_786 (i := 8) rfl rfl
theorem dL_log_13 : decode cL_log 13 = .ok (.astore 4, 2) := zby_g zbyb_786 (i := 9) rfl rfl
theorem dL_log_15 : decode cL_log 15 = .ok (.iconst 1, 1) := zby_g zbyb_786 (i := 10) rfl rfl
theorem dL_log_16 : decode cL_log 16 = .ok (.ireturn, 1) := zby_g zbyb_786 (i := 11) rfl rfl
theorem dL_log_17 : decode cL_log 17 = .ok (.iconst 0, 1) := zby_g zbyb_786 (i := 12) rfl rfl
theorem dL_log_18 : decode cL_log 18 = .ok (.ireturn, 1) := zby_g zbyb_786 (i := 13) rfl rfl
