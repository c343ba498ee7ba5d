def zdl_260 : List (Nat × Instr × Nat) := [(5, .aload_n 0, 1), (6, .getfield 7, 3), (9, .iconst 3, 1), (10, .iaload, 1), (11, .if_icmp .ge 30, 3), (14, .iload_n 1, 1), (15, .aload_n 0, 1), (16, .iload_n 2, 1), (17, .invokevirtual 50, 3), (20, .ifCond .eq 12, 3), (23, .aload_n 0, 1), (24, .iload_n 2, 1), (25, .iconst 0, 1), (26, .invokevirtual 46, 3), (29, .goto 4, 3), (32, .iconst 0, 1), (33, .iadd, 1), (34, .istore_n 1, 1), (35, .iinc 2 1, 3), (38, .goto (-34), 3), (41, .iload_n 1, 1), (42, .ireturn, 1)]
theorem zdb_260 : zdk cX12_believed zdl_260 = true := by decide +kernel
theorem dX12_believed_5 : decode cX12_believed 5 = .ok (.aload_n 0, 1) := zdk_g zdb_260 (i := 0) rfl
theorem dX12_believed_6 : decode cX12_believed 6 = .ok (.getfield 7, 3) := zdk_g zdb_260 (i := 1) rfl
theorem dX12_believed_9 : decode cX12_believed 9 = .ok (.iconst 3, 1) := zdk_g zdb_260 (i := 2) rfl
theorem dX12_believed_10 : decode cX12_believed 10 = .ok (.iaload, 1) := zdk_g zdb_260 (i := 3) rfl
theorem dX12_believed_11 : decode cX12_believed 11 = .ok (.if_icmp .ge 30, 3) := zdk_g zdb_260 (i := 4) rfl
theorem dX12_believed_14 : decode cX12_believed 14 = .ok (.iload_n 1, 1) := zdk_g zdb_260 (i := 5) rfl
theorem dX12_believed_15 : decode cX12_believed 15 = .ok (.aload_n 0, 1) := zdk_g zdb_260 (i := 6) rfl
theorem dX12_believed_16 : decode cX12_believed 16 = .ok (.iload_n 2, 1) := zdk_g zdb_260 (i := 7) rfl
theorem dX12_believed_17 : decode cX12_believed 17 = .ok (.invokevirtual 50, 3) := zdk_g zdb_260 (i := 8) rfl
theorem dX12_believed_20 : decode cX12_believed 20 = .ok (.ifCond .eq 12, 3) := zdk_g zdb_260 (i := 9) rfl
theorem dX12_believed_23 : decode cX12_believed 23 = .ok (.aload_n 0, 1) := zdk_g zdb_260 (i := 10) rfl
theorem dX12_believed_24 : decode cX12_believed 24 = .ok (.iload_n 2, 1) := zdk_g zdb_260 (i := 11) rfl
theorem dX12_believed_25 : decode cX12_believed 25 = .ok (.iconst 0, 1) := zdk_g zdb_260 (i := 12) rfl
theorem dX12_believed_26 : decode cX12_believed 26 = .ok (.invokevirtual 46, 3) := zdk_g zdb_260 (i := 13) rfl
theorem dX12_believed_29 : decode cX12_believed 29 = .ok (.goto 4, 3) := zdk_g zdb_260 (i := 14) rfl
theorem dX12_believed_32 : decode cX12_believed 32 = .ok (.iconst 0, 1) := zdk_g zdb_260 (i := 15) rfl
theorem dX12_believed_33 : decode cX12_believed 33 = .ok (.iadd, 1) := zdk_g zdb_260 (i := 16) rfl
theorem dX12_believed_34 : decode cX12_believed 34 = .ok (.istore_n 1, 1) := zdk_g zdb_260 (i := 17) rfl
theorem dX12_believed_35 : decode cX12_believed 35 = .ok (.iinc 2 1, 3) := zdk_g zdb_260 (i := 18) rfl
theorem dX12_believed_38 : decode cX12_believed 38 = .ok (.goto (-34), 3) := zdk_g zdb_260 (i := 19) rfl
theorem dX12_believed_41 : decode cX12_believed 41 = .ok (.iload_n 1, 1) := zdk_g zdb_260 (i := 20) rfl
theorem dX12_believed_42 : decode cX12_believed 42 = .ok (.ireturn, 1) := zdk_g zdb_260 (i := 21) rfl
def zdl_261 : List (Nat × Instr × Nat) := [(0, .aload_n 0, 1), (1, .invokevirtual 54, 3), (4, .invokestatic 58, 3), (7, .istore_n 1, 1), (8, .iload_n 1, 1), (9, .ifCond .ne 7, 3), (12, .iconst 0, 1), (13, .goto 9, 3), (16, .aload_n 0, 1), (17, .invokevirtual 62, 3), (20, .iload_n 1, 1), (21, .idiv, 1), (22, .ireturn, 1)]
theorem zdb_261 : zdk cX12_mean zdl_261 = true := by decide +kernel
theorem dX12_mean_0 : decode cX12_mean 0 = .ok (.aload_n 0, 1) := zdk_g zdb_261 (i := 0) rfl
theorem dX12_mean_1 : decode cX12_mean 1 = .ok (.invokevirtual 54, 3) := zdk_g zdb_261 (i := 1) rfl
theorem dX12_mean_4 : decode cX12_mean 4 = .ok (.invokestatic 58, 3) := zdk_g zdb_261 (i := 2) rfl
theorem dX12_mean_7 : decode cX12_mean 7 = .ok (.istore_n 1, 1) := zdk_g zdb_261 (i := 3) rfl
theorem dX12_mean_8 : decode cX12_mean 8 = .ok (.iload_n 1, 1) := zdk_g zdb_261 (i := 4) rfl
theorem dX12_mean_9 : decode cX12_mean 9 = .ok (.ifCond .ne 7, 3) := zdk_g zdb_261 (i := 5) rfl
theorem dX12_mean_12 : decode cX12_mean 12 = .ok (.iconst 0, 1) := zdk_g zdb_261 (i := 6) rfl
theorem dX12_mean_13 : decode cX12_mean 13 = .ok (.goto 9, 3) := zdk_g zdb_261 (i := 7) rfl
theorem dX12_mean_16 : decode cX12_mean 16 = .ok (.aload_n 0, 1) := zdk_g zdb_261 (i := 8) rfl
theorem dX12_mean_17 : decode cX12_mean 17 = .ok (.invokevirtual 62, 3) := zdk_g zdb_261 (i := 9) rfl
theorem dX12_mean_20 : decode cX12_mean 20 = .ok (.iload_n 1, 1) := zdk_g zdb_261 (i := 10) rfl
theorem dX12_mean_21 : decode cX12_mean 21 = .ok (.idiv, 1) := zdk_g zdb_261 (i := 11) rfl
theorem dX12_mean_22 : decode cX12_mean 22 = .ok (.ireturn, 1) := zdk_g zdb_261 (i := 12) rfl
def zdl_262 : List (Nat × Instr × Nat) := [(0, .aload_n 0, 1), (1, .invokevirtual 65, 3), (4, .aload_n 0, 1), (5, .invokevirtual 65, 3), (8, .imul, 1), (9, .bipush 50, 2), (11, .idiv, 1), (12, .iconst 1, 1), (13, .iadd, 1), (14, .ireturn, 1)]
theorem zdb_262 : zdk cX12_priceNow zdl_262 = true := by decide +kernel
theorem dX12_priceNow_0 : decode cX12_priceNow 0 = .ok (.aload_n 0, 1) := zdk_g zdb_262 (i := 0) rfl
theorem dX12_priceNow_1 : decode cX12_priceNow 1 = .ok (.invokevirtual 65, 3) := zdk_g zdb_262 (i := 1) rfl
theorem dX12_priceNow_4 : decode cX12_priceNow 4 = .ok (.aload_n 0, 1) := zdk_g zdb_262 (i := 2) rfl
theorem dX12_priceNow_5 : decode cX12_priceNow 5 = .ok (.invokevirtual 65, 3) := zdk_g zdb_262 (i := 3) rfl
theorem dX12_priceNow_8 : decode cX12_priceNow 8 = .ok (.imul, 1) := zdk_g zdb_262 (i := 4) rfl
theorem dX12_priceNow_9 : decode cX12_priceNow 9 = .ok (.bipush 50, 2) := zdk_g zdb_262 (i := 5) rfl
theorem dX12_priceNow_11 : decode cX12_priceNow 11 = .ok (.idiv, 1) := zdk_g zdb_262 (i := 6) rfl
theorem dX12_priceNow_12 : decode cX12_priceNow 12 = .ok (.iconst 1, 1) := zdk_g zdb_262 (i := 7) rfl
theorem dX12_priceNow_13 : decode cX12_priceNow 13 = .ok (.iadd, 1) := zdk_g zdb_262 (i := 8) rfl
theorem dX12_priceNow_14 : decode cX12_priceNow 14 = .ok (.ireturn, 1) := zdk_g zdb_262 (i := 9) rfl
def zdl_263 : List (Nat × Instr × Nat) := [(0, .iconst 0, 1), (1, .istore_n 2, 1), (2, .iconst 0, 1), (3, .istore_n 3, 1), (4, .iload_n 3, 1), (5, .aload_n 0, 1), (6, .getfield 7, 3), (9, .iconst 4, 1), (10, .iaload, 1), (11, .if_icmp .ge 29, 3), (14, .iload_n 2, 1), (15, .aload_n 0, 1), (16, .iload_n 3, 1), (17, .iconst 3, 1), (18, .invokevirtual 68, 3), (21, .iload_n 1, 1), (22, .if_icmp .ne 9, 3), (25, .iconst 1, 1), (26, .iload_n 3, 1), (27, .ishl, 1), (28, .goto 4, 3), (31, .iconst 0, 1), (32, .ior, 1), (33, .istore_n 2, 1), (34, .iinc 3 1, 3), (37, .goto (-33), 3), (40, .iload_n 2, 1), (41, .ireturn, 1)]
theorem zdb_263 : zdk cX12_worksOf zdl_263 = true := by decide +kernel
theorem dX12_worksOf_0 : decode cX12_worksOf 0 = .ok (.iconst 0, 1) := zdk_g zdb_263 (i := 0) rfl
theorem dX12_worksOf_1 : decode cX12_worksOf 1 = .ok (.istore_n 2, 1) := zdk_g zdb_263 (i := 1) rfl
theorem dX12_worksOf_2 : decode cX12_worksOf 2 = .ok (.iconst 0, 1) := zdk_g zdb_263 (i := 2) rfl
theorem dX12_worksOf_3 : decode cX12_worksOf 3 = .ok (.istore_n 3, 1) := zdk_g zdb_263 (i := 3) rfl
theorem dX12_worksOf_4 : decode cX12_worksOf 4 = .ok (.iload_n 3, 1) := zdk_g zdb_263 (i := 4) rfl
theorem dX12_worksOf_5 : decode cX12_worksOf 5 = .ok (.aload_n 0, 1) := zdk_g zdb_263 (i := 5) rfl
theorem dX12_worksOf_6 : decode cX12_worksOf 6 = .ok (.getfield 7, 3) := zdk_g zdb_263 (i := 6) rfl
theorem dX12_worksOf_9 : decode cX12_worksOf 9 = .ok (.iconst 4, 1) := zdk_g zdb_263 (i := 7) rfl
theorem dX12_worksOf_10 : decode cX12_worksOf 10 = .ok (.iaload, 1) := zdk_g zdb_263 (i := 8) rfl
theorem dX12_worksOf_11 : decode cX12_worksOf 11 = .ok (.if_icmp .ge 29, 3) := zdk_g zdb_263 (i := 9) rfl
theorem dX12_worksOf_14 : decode cX12_worksOf 14 = .ok (.iload_n 2, 1) := zdk_g zdb_263 (i := 10) rfl
theorem dX12_worksOf_15 : decode cX12_worksOf 15 = .ok (.aload_n 0, 1) := zdk_g zdb_263 (i := 11) rfl
theorem dX12_worksOf_16 : decode cX12_worksOf 16 = .ok (.iload_n 3, 1) := zdk_g zdb_263 (i := 12) rfl
theorem dX12_worksOf_17 : decode cX12_worksOf 17 = .ok (.iconst 3, 1) := zdk_g zdb_263 (i := 13) rfl
theorem dX12_worksOf_18 : decode cX12_worksOf 18 = .ok (.invokevirtual 68, 3) := zdk_g zdb_263 (i := 14) rfl
theorem dX12_worksOf_21 : decode cX12_worksOf 21 = .ok (.iload_n 1, 1) := zdk_g zdb_263 (i := 15) rfl
theorem dX12_worksOf_22 : decode cX12_worksOf 22 = .ok (.if_icmp .ne 9, 3) := zdk_g zdb_263 (i := 16) rfl
theorem dX12_worksOf_25 : decode cX12_worksOf 25 = .ok (.iconst 1, 1) := zdk_g zdb_263 (i := 17) rfl
theorem dX12_worksOf_26 : decode cX12_worksOf 26 = .ok (.iload_n 3, 1) := zdk_g zdb_263 (i := 18) rfl
theorem dX12_worksOf_27 : decode cX12_worksOf 27 = .ok (.ishl, 1) := zdk_g zdb_263 (i := 19) rfl
theorem dX12_worksOf_28 : decode cX12_worksOf 28 = .ok (.goto 4, 3) := zdk_g zdb_263 (i := 20) rfl
theorem dX12_worksOf_31 : decode cX12_worksOf 31 = .ok (.iconst 0, 1) := zdk_g zdb_263 (i := 21) rfl
theorem dX12_worksOf_32 : decode cX12_worksOf 32 = .ok (.ior, 1) := zdk_g zdb_263 (i := 22) rfl
theorem dX12_worksOf_33 : decode cX12_worksOf 33 = .ok (.istore_n 2, 1) := zdk_g zdb_263 (i := 23) rfl
theorem dX12_worksOf_34 : decode cX12_worksOf 34 = .ok (.iinc 3 1, 3) := zdk_g zdb_263 (i := 24) rfl
theorem dX12_worksOf_37 : decode cX12_worksOf 37 = .ok (.goto (-33), 3) := zdk_g zdb_263 (i := 25) rfl
theorem dX12_worksOf_40 : decode cX12_worksOf 40 = .ok (.iload_n 2, 1) := zdk_g zdb_263 (i := 26) rfl
theorem dX12_worksOf_41 : decode cX12_worksOf 41 = .ok (.ireturn, 1) := zdk_g zdb_263 (i := 27) rfl
def zdl_264 : List (Nat × Instr × Nat) := [(0, .iconst 0, 1), (1, .istore_n 2, 1), (2, .iconst 0, 1), (3, .istore_n 3, 1), (4, .iload_n 3, 1), (5, .aload_n 0, 1), (6, .getfield 7, 3), (9, .iconst 3, 1), (10, .iaload, 1), (11, .if_icmp .ge 31, 3), (14, .iload_n 2, 1), (15, .iload_n 3, 1), (16, .iload_n 1, 1), (17, .if_icmp .eq 16, 3), (20, .aload_n 0, 1), (21, .iload_n 1, 1), (22, .iload_n 3, 1), (23, .invokevirtual 71, 3), (26, .ifCond .le 7, 3), (29, .iconst 1, 1), (30, .goto 4, 3), (33, .iconst 0, 1), (34, .iadd, 1), (35, .istore_n 2, 1), (36, .iinc 3 1, 3), (39, .goto (-35), 3), (42, .iload_n 2, 1), (43, .ireturn, 1)]
theorem zdb_264 : zdk cX12_ties zdl_264 = true := by decide +kernel
theorem dX12_ties_0 : decode cX12_ties 0 = .ok (.iconst 0, 1) := zdk_g zdb_264 (i := 0) rfl
theorem dX12_ties_1 : decode cX12_ties 1 = .ok (.istore_n 2, 1) := zdk_g zdb_264 (i := 1) rfl
theorem dX12_ties_2 : decode cX12_ties 2 = .ok (.iconst 0, 1) := zdk_g zdb_264 (i := 2) rfl
theorem dX12_ties_3 : decode cX12_ties 3 = .ok (.istore_n 3, 1) := zdk_g zdb_264 (i := 3) rfl
theorem dX12_ties_4 : decode cX12_ties 4 = .ok (.iload_n 3, 1) := zdk_g zdb_264 (i := 4) rfl
theorem dX12_ties_5 : decode cX12_ties 5 = .ok (.aload_n 0, 1) := zdk_g zdb_264 (i := 5) rfl
theorem dX12_ties_6 : decode cX12_ties 6 = .ok (.getfield 7, 3) := zdk_g zdb_264 (i := 6) rfl
theorem dX12_ties_9 : decode cX12_ties 9 = .ok (.iconst 3, 1) := zdk_g zdb_264 (i := 7) rfl
theorem dX12_ties_10 : decode cX12_ties 10 = .ok (.iaload, 1) := zdk_g zdb_264 (i := 8) rfl
theorem dX12_ties_11 : decode cX12_ties 11 = .ok (.if_icmp .ge 31, 3) := zdk_g zdb_264 (i := 9) rfl
theorem dX12_ties_14 : decode cX12_ties 14 = .ok (.iload_n 2, 1) := zdk_g zdb_264 (i := 10) rfl
theorem dX12_ties_15 : decode cX12_ties 15 = .ok (.iload_n 3, 1) := zdk_g zdb_264 (i := 11) rfl
theorem dX12_ties_16 : decode cX12_ties 16 = .ok (.iload_n 1, 1) := zdk_g zdb_264 (i := 12) rfl
theorem dX12_ties_17 : decode cX12_ties 17 = .ok (.if_icmp .eq 16, 3) := zdk_g zdb_264 (i := 13) rfl
theorem dX12_ties_20 : decode cX12_ties 20 = .ok (.aload_n 0, 1) := zdk_g zdb_264 (i := 14) rfl
theorem dX12_ties_21 : decode cX12_ties 21 = .ok (.iload_n 1, 1) := zdk_g zdb_264 (i := 15) rfl
theorem dX12_ties_22 : decode cX12_ties 22 = .ok (.iload_n 3, 1) := zdk_g zdb_264 (i := 16) rfl
theorem dX12_ties_23 : decode cX12_ties 23 = .ok (.invokevirtual 71, 3) := zdk_g zdb_264 (i := 17) rfl
theorem dX12_ties_26 : decode cX12_ties 26 = .ok (.ifCond .le 7, 3) := zdk_g zdb_264 (i := 18) rfl
theorem dX12_ties_29 : decode cX12_ties 29 = .ok (.iconst 1, 1) := zdk_g zdb_264 (i := 19) rfl
theorem dX12_ties_30 : decode cX12_ties 30 = .ok (.goto 4, 3) := zdk_g zdb_264 (i := 20) rfl
theorem dX12_ties_33 : decode cX12_ties 33 = .ok (.iconst 0, 1) := zdk_g zdb_264 (i := 21) rfl
theorem dX12_ties_34 : decode cX12_ties 34 = .ok (.iadd, 1) := zdk_g zdb_264 (i := 22) rfl
theorem dX12_ties_35 : decode cX12_ties 35 = .ok (.istore_n 2, 1) := zdk_g zdb_264 (i := 23) rfl
theorem dX12_ties_36 : decode cX12_ties 36 = .ok (.iinc 3 1, 3) := zdk_g zdb_264 (i := 24) rfl
theorem dX12_ties_39 : decode cX12_ties 39 = .ok (.goto (-35), 3) := zdk_g zdb_264 (i := 25) rfl
theorem dX12_ties_42 : decode cX12_ties 42 = .ok (.iload_n 2, 1) := zdk_g zdb_264 (i := 26) rfl
theorem dX12_ties_43 : decode cX12_ties 43 = .ok (.ireturn, 1) := zdk_g zdb_264 (i := 27) rfl
def zdl_265 : List (Nat × Instr × Nat) := [(0, .iconst 0, 1), (1, .istore_n 2, 1), (2, .iconst 0, 1), (3, .istore_n 3, 1), (4, .iload_n 3, 1), (5, .aload_n 0, 1), (6, .getfield 7, 3), (9, .iconst 3, 1), (10, .iaload, 1), (11, .if_icmp .ge 49, 3), (14, .iload_n 2, 1), (15, .iload_n 3, 1), (16, .iload_n 1, 1), (17, .if_icmp .eq 34, 3), (20, .aload_n 0, 1), (21, .iload_n 3, 1), (22, .invokevirtual 50, 3), (25, .ifCond .eq 26, 3), (28, .aload_n 0, 1), (29, .iload_n 1, 1), (30, .iload_n 3, 1), (31, .invokevirtual 71, 3), (34, .aload_n 0, 1), (35, .iload_n 3, 1), (36, .iconst 0, 1), (37, .invokevirtual 46, 3), (40, .aload_n 0, 1), (41, .iload_n 1, 1), (42, .iconst 0, 1), (43, .invokevirtual 46, 3), (46, .isub, 1), (47, .imul, 1)]
theorem zdb_265 : zdk cX12_pull zdl_265 = true := by decide +kernel
theorem dX12_pull_0 : decode cX12_pull 0 = .ok (.iconst 0, 1) := zdk_g zdb_265 (i := 0) rfl
theorem dX12_pull_1 : decode cX12_pull 1 = .ok (.istore_n 2, 1) := zdk_g zdb_265 (i := 1) rfl
theorem dX12_pull_2 : decode cX12_pull 2 = .ok (.iconst 0, 1) := zdk_g zdb_265 (i := 2) rfl
theorem dX12_pull_3 : decode cX12_pull 3 = .ok (.istore_n 3, 1) := zdk_g zdb_265 (i := 3) rfl
theorem dX12_pull_4 : decode cX12_pull 4 = .ok (.iload_n 3, 1) := zdk_g zdb_265 (i := 4) rfl
theorem dX12_pull_5 : decode cX12_pull 5 = .ok (.aload_n 0, 1) := zdk_g zdb_265 (i := 5) rfl
theorem dX12_pull_6 : decode cX12_pull 6 = .ok (.getfield 7, 3) := zdk_g zdb_265 (i := 6) rfl
theorem dX12_pull_9 : decode cX12_pull 9 = .ok (.iconst 3, 1) := zdk_g zdb_265 (i := 7) rfl
theorem dX12_pull_10 : decode cX12_pull 10 = .ok (.iaload, 1) := zdk_g zdb_265 (i := 8) rfl
theorem dX12_pull_11 : decode cX12_pull 11 = .ok (.if_icmp .ge 49, 3) := zdk_g zdb_265 (i := 9) rfl
theorem dX12_pull_14 : decode cX12_pull 14 = .ok (.iload_n 2, 1) := zdk_g zdb_265 (i := 10) rfl
theorem dX12_pull_15 : decode cX12_pull 15 = .ok (.iload_n 3, 1) := zdk_g zdb_265 (i := 11) rfl
theorem dX12_pull_16 : decode cX12_pull 16 = .ok (.iload_n 1, 1) := zdk_g zdb_265 (i := 12) rfl
theorem dX12_pull_17 : decode cX12_pull 17 = .ok (.if_icmp .eq 34, 3) := zdk_g zdb_265 (i := 13) rfl
theorem dX12_pull_20 : decode cX12_pull 20 = .ok (.aload_n 0, 1) := zdk_g zdb_265 (i := 14) rfl
theorem dX12_pull_21 : decode cX12_pull 21 = .ok (.iload_n 3, 1) := zdk_g zdb_265 (i := 15) rfl
theorem dX12_pull_22 : decode cX12_pull 22 = .ok (.invokevirtual 50, 3) := zdk_g zdb_265 (i := 16) rfl
theorem dX12_pull_25 : decode cX12_pull 25 = .ok (.ifCond .eq 26, 3) := zdk_g zdb_265 (i := 17) rfl
theorem dX12_pull_28 : decode cX12_pull 28 = .ok (.aload_n 0, 1) := zdk_g zdb_265 (i := 18) rfl
theorem dX12_pull_29 : decode cX12_pull 29 = .ok (.iload_n 1, 1) := zdk_g zdb_265 (i := 19) rfl
theorem dX12_pull_30 : decode cX12_pull 30 = .ok (.iload_n 3, 1) := zdk_g zdb_265 (i := 20) rfl
theorem dX12_pull_31 : decode cX12_pull 31 = .ok (.invokevirtual 71, 3) := zdk_g zdb_265 (i := 21) rfl
theorem dX12_pull_34 : decode cX12_pull 34 = .ok (.aload_n 0, 1) := zdk_g zdb_265 (i := 22) rfl
theorem dX12_pull_35 : decode cX12_pull 35 = .ok (.iload_n 3, 1) := zdk_g zdb_265 (i := 23) rfl
theorem dX12_pull_36 : decode cX12_pull 36 = .ok (.iconst 0, 1) := zdk_g zdb_265 (i := 24) rfl
theorem dX12_pull_37 : decode cX12_pull 37 = .ok (.invokevirtual 46, 3) := zdk_g zdb_265 (i := 25) rfl
theorem dX12_pull_40 : decode cX12_pull 40 = .ok (.aload_n 0, 1) := zdk_g zdb_265 (i := 26) rfl
theorem dX12_pull_41 : decode cX12_pull 41 = .ok (.iload_n 1, 1) := zdk_g zdb_265 (i := 27) rfl
theorem dX12_pull_42 : decode cX12_pull 42 = .ok (.iconst 0, 1) := zdk_g zdb_265 (i := 28) rfl
theorem dX12_pull_43 : decode cX12_pull 43 = .ok (.invokevirtual 46, 3) := zdk_g zdb_265 (i := 29) rfl
theorem dX12_pull_46 : decode cX12_pull 46 = .ok (.isub, 1) := zdk_g zdb_265 (i := 30) rfl
theorem dX12_pull_47 : decode cX12_pull 47 = .ok (.imul, 1) := zdk_g zdb_265 (i := 31) rfl
def zdl_266 : List (Nat × Instr × Nat) := [(48, .goto 4, 3), (51, .iconst 0, 1), (52, .iadd, 1), (53, .istore_n 2, 1), (54, .iinc 3 1, 3), (57, .goto (-53), 3), (60, .iload_n 2, 1), (61, .ifCond .ge 12, 3), (64, .iload_n 2, 1), (65, .ineg, 1), (66, .bipush 40, 2), (68, .idiv, 1), (69, .ineg, 1), (70, .goto 7, 3), (73, .iload_n 2, 1), (74, .bipush 40, 2), (76, .idiv, 1), (77, .ireturn, 1)]
theorem zdb_266 : zdk cX12_pull zdl_266 = true := by decide +kernel
theorem dX12_pull_48 : decode cX12_pull 48 = .ok (.goto 4, 3) := zdk_g zdb_266 (i := 0) rfl
theorem dX12_pull_51 : decode cX12_pull 51 = .ok (.iconst 0, 1) := zdk_g zdb_266 (i := 1) rfl
theorem dX12_pull_52 : decode cX12_pull 52 = .ok (.iadd, 1) := zdk_g zdb_266 (i := 2) rfl
theorem dX12_pull_53 : decode cX12_pull 53 = .ok (.istore_n 2, 1) := zdk_g zdb_266 (i := 3) rfl
theorem dX12_pull_54 : decode cX12_pull 54 = .ok (.iinc 3 1, 3) := zdk_g zdb_266 (i := 4) rfl
theorem dX12_pull_57 : decode cX12_pull 57 = .ok (.goto (-53), 3) := zdk_g zdb_266 (i := 5) rfl
theorem dX12_pull_60 : decode cX12_pull 60 = .ok (.iload_n 2, 1) := zdk_g zdb_266 (i := 6) rfl
theorem dX12_pull_61 : decode cX12_pull 61 = .ok (.ifCond .ge 12, 3) := zdk_g zdb_266 (i := 7) rfl
theorem dX12_pull_64 : decode cX12_pull 64 = .ok (.iload_n 2, 1) := zdk_g zdb_266 (i := 8) rfl
theorem dX12_pull_65 : decode cX12_pull 65 = .ok (.ineg, 1) := zdk_g zdb_266 (i := 9) rfl
theorem dX12_pull_66 : decode cX12_pull 66 = .ok (.bipush 40, 2) := zdk_g zdb_266 (i := 10) rfl
theorem dX12_pull_68 : decode cX12_pull 68 = .ok (.idiv, 1) := zdk_g zdb_266 (i := 11) rfl
theorem dX12_pull_69 : decode cX12_pull 69 = .ok (.ineg, 1) := zdk_g zdb_266 (i := 12) rfl
theorem dX12_pull_70 : decode cX12_pull 70 = .ok (.goto 7, 3) := zdk_g zdb_266 (i := 13) rfl
theorem dX12_pull_73 : decode cX12_pull 73 = .ok (.iload_n 2, 1) := zdk_g zdb_266 (i := 14) rfl
theorem dX12_pull_74 : decode cX12_pull 74 = .ok (.bipush 40, 2) := zdk_g zdb_266 (i := 15) rfl
theorem dX12_pull_76 : decode cX12_pull 76 = .ok (.idiv, 1) := zdk_g zdb_266 (i := 16) rfl
theorem dX12_pull_77 : decode cX12_pull 77 = .ok (.ireturn, 1) := zdk_g zdb_266 (i := 17) rfl
def zdl_267 : List (Nat × Instr × Nat) := [(0, .aload_n 0, 1), (1, .iconst 0, 1), (2, .putfield 39, 3), (5, .aload_n 0, 1), (6, .getfield 74, 3), (9, .bipush 20, 2), (11, .iadd, 1), (12, .sipush 400, 3), (15, .if_icmp .le 5, 3), (18, .iconst (-1), 1), (19, .ireturn, 1), (20, .iconst 0, 1), (21, .istore 6, 2), (23, .iload 6, 2), (25, .bipush 20, 2), (27, .if_icmp .ge 93, 3), (30, .iload 6, 2), (32, .iconst 4, 1), (33, .if_icmp .ge 7, 3), (36, .iload_n 1, 1), (37, .goto 39, 3), (40, .iload 6, 2), (42, .bipush 8, 2), (44, .if_icmp .ge 7, 3), (47, .iload_n 2, 1), (48, .goto 28, 3), (51, .iload 6, 2), (53, .bipush 12, 2), (55, .if_icmp .ge 7, 3), (58, .iload_n 3, 1), (59, .goto 17, 3), (62, .iload 6, 2)]
theorem zdb_267 : zdk cX12_feed zdl_267 = true := by decide +kernel
theorem dX12_feed_0 : decode cX12_feed 0 = .ok (.aload_n 0, 1) := zdk_g zdb_267 (i := 0) rfl
theorem dX12_feed_1 : decode cX12_feed 1 = .ok (.iconst 0, 1) := zdk_g zdb_267 (i := 1) rfl
theorem dX12_feed_2 : decode cX12_feed 2 = .ok (.putfield 39, 3) := zdk_g zdb_267 (i := 2) rfl
theorem dX12_feed_5 : decode cX12_feed 5 = .ok (.aload_n 0, 1) := zdk_g zdb_267 (i := 3) rfl
theorem dX12_feed_6 : decode cX12_feed 6 = .ok (.getfield 74, 3) := zdk_g zdb_267 (i := 4) rfl
theorem dX12_feed_9 : decode cX12_feed 9 = .ok (.bipush 20, 2) := zdk_g zdb_267 (i := 5) rfl
theorem dX12_feed_11 : decode cX12_feed 11 = .ok (.iadd, 1) := zdk_g zdb_267 (i := 6) rfl
theorem dX12_feed_12 : decode cX12_feed 12 = .ok (.sipush 400, 3) := zdk_g zdb_267 (i := 7) rfl
theorem dX12_feed_15 : decode cX12_feed 15 = .ok (.if_icmp .le 5, 3) := zdk_g zdb_267 (i := 8) rfl
theorem dX12_feed_18 : decode cX12_feed 18 = .ok (.iconst (-1), 1) := zdk_g zdb_267 (i := 9) rfl
theorem dX12_feed_19 : decode cX12_feed 19 = .ok (.ireturn, 1) := zdk_g zdb_267 (i := 10) rfl
theorem dX12_feed_20 : decode cX12_feed 20 = .ok (.iconst 0, 1) := zdk_g zdb_267 (i := 11) rfl
theorem dX12_feed_21 : decode cX12_feed 21 = .ok (.istore 6, 2) := zdk_g zdb_267 (i := 12) rfl
theorem dX12_feed_23 : decode cX12_feed 23 = .ok (.iload 6, 2) := zdk_g zdb_267 (i := 13) rfl
theorem dX12_feed_25 : decode cX12_feed 25 = .ok (.bipush 20, 2) := zdk_g zdb_267 (i := 14) rfl
theorem dX12_feed_27 : decode cX12_feed 27 = .ok (.if_icmp .ge 93, 3) := zdk_g zdb_267 (i := 15) rfl
theorem dX12_feed_30 : decode cX12_feed 30 = .ok (.iload 6, 2) := zdk_g zdb_267 (i := 16) rfl
theorem dX12_feed_32 : decode cX12_feed 32 = .ok (.iconst 4, 1) := zdk_g zdb_267 (i := 17) rfl
theorem dX12_feed_33 : decode cX12_feed 33 = .ok (.if_icmp .ge 7, 3) := zdk_g zdb_267 (i := 18) rfl
theorem dX12_feed_36 : decode cX12_feed 36 = .ok (.iload_n 1, 1) := zdk_g zdb_267 (i := 19) rfl
theorem dX12_feed_37 : decode cX12_feed 37 = .ok (.goto 39, 3) := zdk_g zdb_267 (i := 20) rfl
theorem dX12_feed_40 : decode cX12_feed 40 = .ok (.iload 6, 2) := zdk_g zdb_267 (i := 21) rfl
theorem dX12_feed_42 : decode cX12_feed 42 = .ok (.bipush 8, 2) := zdk_g zdb_267 (i := 22) rfl
theorem dX12_feed_44 : decode cX12_feed 44 = .ok (.if_icmp .ge 7, 3) := zdk_g zdb_267 (i := 23) rfl
theorem dX12_feed_47 : decode cX12_feed 47 = .ok (.iload_n 2, 1) := zdk_g zdb_267 (i := 24) rfl
theorem dX12_feed_48 : decode cX12_feed 48 = .ok (.goto 28, 3) := zdk_g zdb_267 (i := 25) rfl
theorem dX12_feed_51 : decode cX12_feed 51 = .ok (.iload 6, 2) := zdk_g zdb_267 (i := 26) rfl
theorem dX12_feed_53 : decode cX12_feed 53 = .ok (.bipush 12, 2) := zdk_g zdb_267 (i := 27) rfl
theorem dX12_feed_55 : decode cX12_feed 55 = .ok (.if_icmp .ge 7, 3) := zdk_g zdb_267 (i := 28) rfl
theorem dX12_feed_58 : decode cX12_feed 58 = .ok (.iload_n 3, 1) := zdk_g zdb_267 (i := 29) rfl
theorem dX12_feed_59 : decode cX12_feed 59 = .ok (.goto 17, 3) := zdk_g zdb_267 (i := 30) rfl
theorem dX12_feed_62 : decode cX12_feed 62 = .ok (.iload 6, 2) := zdk_g zdb_267 (i := 31) rfl
def zdl_268 : List (Nat × Instr × Nat) := [(64, .bipush 16, 2), (66, .if_icmp .ge 8, 3), (69, .iload 4, 2), (71, .goto 5, 3), (74, .iload 5, 2), (76, .istore 7, 2), (78, .aload_n 0, 1), (79, .getfield 22, 3), (82, .aload_n 0, 1), (83, .getfield 74, 3), (86, .iload 7, 2), (88, .bipush 24, 2), (90, .bipush 8, 2), (92, .iload 6, 2), (94, .iconst 4, 1), (95, .irem, 1), (96, .imul, 1), (97, .isub, 1), (98, .iushr, 1), (99, .sipush 255, 3), (102, .iand, 1), (103, .iastore, 1), (104, .aload_n 0, 1), (105, .dup, 1), (106, .getfield 74, 3), (109, .iconst 1, 1), (110, .iadd, 1), (111, .putfield 74, 3), (114, .iinc 6 1, 3), (117, .goto (-94), 3), (120, .aload_n 0, 1), (121, .getfield 74, 3)]
theorem zdb_268 : zdk cX12_feed zdl_268 = true := by decide +kernel
theorem dX12_feed_64 : decode cX12_feed 64 = .ok (.bipush 16, 2) := zdk_g zdb_268 (i := 0) rfl
theorem dX12_feed_66 : decode cX12_feed 66 = .ok (.if_icmp .ge 8, 3) := zdk_g zdb_268 (i := 1) rfl
theorem dX12_feed_69 : decode cX12_feed 69 = .ok (.iload 4, 2) := zdk_g zdb_268 (i := 2) rfl
theorem dX12_feed_71 : decode cX12_feed 71 = .ok (.goto 5, 3) := zdk_g zdb_268 (i := 3) rfl
theorem dX12_feed_74 : decode cX12_feed 74 = .ok (.iload 5, 2) := zdk_g zdb_268 (i := 4) rfl
theorem dX12_feed_76 : decode cX12_feed 76 = .ok (.istore 7, 2) := zdk_g zdb_268 (i := 5) rfl
theorem dX12_feed_78 : decode cX12_feed 78 = .ok (.aload_n 0, 1) := zdk_g zdb_268 (i := 6) rfl
theorem dX12_feed_79 : decode cX12_feed 79 = .ok (.getfield 22, 3) := zdk_g zdb_268 (i := 7) rfl
theorem dX12_feed_82 : decode cX12_feed 82 = .ok (.aload_n 0, 1) := zdk_g zdb_268 (i := 8) rfl
theorem dX12_feed_83 : decode cX12_feed 83 = .ok (.getfield 74, 3) := zdk_g zdb_268 (i := 9) rfl
theorem dX12_feed_86 : decode cX12_feed 86 = .ok (.iload 7, 2) := zdk_g zdb_268 (i := 10) rfl
theorem dX12_feed_88 : decode cX12_feed 88 = .ok (.bipush 24, 2) := zdk_g zdb_268 (i := 11) rfl
theorem dX12_feed_90 : decode cX12_feed 90 = .ok (.bipush 8, 2) := zdk_g zdb_268 (i := 12) rfl
theorem dX12_feed_92 : decode cX12_feed 92 = .ok (.iload 6, 2) := zdk_g zdb_268 (i := 13) rfl
theorem dX12_feed_94 : decode cX12_feed 94 = .ok (.iconst 4, 1) := zdk_g zdb_268 (i := 14) rfl
theorem dX12_feed_95 : decode cX12_feed 95 = .ok (.irem, 1) := zdk_g zdb_268 (i := 15) rfl
theorem dX12_feed_96 : decode cX12_feed 96 = .ok (.imul, 1) := zdk_g zdb_268 (i := 16) rfl
theorem dX12_feed_97 : decode cX12_feed 97 = .ok (.isub, 1) := zdk_g zdb_268 (i := 17) rfl
theorem dX12_feed_98 : decode cX12_feed 98 = .ok (.iushr, 1) := zdk_g zdb_268 (i := 18) rfl
theorem dX12_feed_99 : decode cX12_feed 99 = .ok (.sipush 255, 3) := zdk_g zdb_268 (i := 19) rfl
theorem dX12_feed_102 : decode cX12_feed 102 = .ok (.iand, 1) := zdk_g zdb_268 (i := 20) rfl
theorem dX12_feed_103 : decode cX12_feed 103 = .ok (.iastore, 1) := zdk_g zdb_268 (i := 21) rfl
theorem dX12_feed_104 : decode cX12_feed 104 = .ok (.aload_n 0, 1) := zdk_g zdb_268 (i := 22) rfl
theorem dX12_feed_105 : decode cX12_feed 105 = .ok (.dup, 1) := zdk_g zdb_268 (i := 23) rfl
theorem dX12_feed_106 : decode cX12_feed 106 = .ok (.getfield 74, 3) := zdk_g zdb_268 (i := 24) rfl
theorem dX12_feed_109 : decode cX12_feed 109 = .ok (.iconst 1, 1) := zdk_g zdb_268 (i := 25) rfl
theorem dX12_feed_110 : decode cX12_feed 110 = .ok (.iadd, 1) := zdk_g zdb_268 (i := 26) rfl
theorem dX12_feed_111 : decode cX12_feed 111 = .ok (.putfield 74, 3) := zdk_g zdb_268 (i := 27) rfl
theorem dX12_feed_114 : decode cX12_feed 114 = .ok (.iinc 6 1, 3) := zdk_g zdb_268 (i := 28) rfl
theorem dX12_feed_117 : decode cX12_feed 117 = .ok (.goto (-94), 3) := zdk_g zdb_268 (i := 29) rfl
theorem dX12_feed_120 : decode cX12_feed 120 = .ok (.aload_n 0, 1) := zdk_g zdb_268 (i := 30) rfl
theorem dX12_feed_121 : decode cX12_feed 121 = .ok (.getfield 74, 3) := zdk_g zdb_268 (i := 31) rfl
def zdl_269 : List (Nat × Instr × Nat) := [(124, .ireturn, 1)]
theorem zdb_269 : zdk cX12_feed zdl_269 = true := by decide +kernel
theorem dX12_feed_124 : decode cX12_feed 124 = .ok (.ireturn, 1) := zdk_g zdb_269 (i := 0) rfl
def zdl_270 : List (Nat × Instr × Nat) := [(0, .aload_n 0, 1), (1, .iconst 0, 1), (2, .putfield 39, 3), (5, .iload_n 1, 1), (6, .iconst 0, 1), (7, .aload_n 0, 1), (8, .getfield 74, 3), (11, .invokestatic 42, 3), (14, .ifCond .ne 5, 3), (17, .iconst 0, 1), (18, .ireturn, 1), (19, .aload_n 0, 1), (20, .iload_n 1, 1), (21, .putfield 74, 3), (24, .iconst 1, 1), (25, .ireturn, 1)]
theorem zdb_270 : zdk cX12_end zdl_270 = true := by decide +kernel
theorem dX12_end_0 : decode cX12_end 0 = .ok (.aload_n 0, 1) := zdk_g zdb_270 (i := 0) rfl
theorem dX12_end_1 : decode cX12_end 1 = .ok (.iconst 0, 1) := zdk_g zdb_270 (i := 1) rfl
theorem dX12_end_2 : decode cX12_end 2 = .ok (.putfield 39, 3) := zdk_g zdb_270 (i := 2) rfl
theorem dX12_end_5 : decode cX12_end 5 = .ok (.iload_n 1, 1) := zdk_g zdb_270 (i := 3) rfl
theorem dX12_end_6 : decode cX12_end 6 = .ok (.iconst 0, 1) := zdk_g zdb_270 (i := 4) rfl
theorem dX12_end_7 : decode cX12_end 7 = .ok (.aload_n 0, 1) := zdk_g zdb_270 (i := 5) rfl
theorem dX12_end_8 : decode cX12_end 8 = .ok (.getfield 74, 3) := zdk_g zdb_270 (i := 6) rfl
theorem dX12_end_11 : decode cX12_end 11 = .ok (.invokestatic 42, 3) := zdk_g zdb_270 (i := 7) rfl
theorem dX12_end_14 : decode cX12_end 14 = .ok (.ifCond .ne 5, 3) := zdk_g zdb_270 (i := 8) rfl
theorem dX12_end_17 : decode cX12_end 17 = .ok (.iconst 0, 1) := zdk_g zdb_270 (i := 9) rfl
theorem dX12_end_18 : decode cX12_end 18 = .ok (.ireturn, 1) := zdk_g zdb_270 (i := 10) rfl
theorem dX12_end_19 : decode cX12_end 19 = .ok (.aload_n 0, 1) := zdk_g zdb_270 (i := 11) rfl
theorem dX12_end_20 : decode cX12_end 20 = .ok (.iload_n 1, 1) := zdk_g zdb_270 (i := 12) rfl
theorem dX12_end_21 : decode cX12_end 21 = .ok (.putfield 74, 3) := zdk_g zdb_270 (i := 13) rfl
theorem dX12_end_24 : decode cX12_end 24 = .ok (.iconst 1, 1) := zdk_g zdb_270 (i := 14) rfl
theorem dX12_end_25 : decode cX12_end 25 = .ok (.ireturn, 1) := zdk_g zdb_270 (i := 15) rfl
def zdl_271 : List (Nat × Instr × Nat) := [(0, .aload_n 0, 1), (1, .getfield 77, 3), (4, .iconst (-1), 1), (5, .if_icmp .ne 12, 3), (8, .aload_n 0, 1), (9, .getfield 22, 3), (12, .iload_n 1, 1), (13, .iaload, 1), (14, .goto 14, 3), (17, .aload_n 0, 1), (18, .getfield 7, 3), (21, .aload_n 0, 1), (22, .getfield 77, 3), (25, .iload_n 1, 1), (26, .iadd, 1), (27, .iaload, 1), (28, .ireturn, 1)]
theorem zdb_271 : zdk cX12_letter zdl_271 = true := by decide +kernel
theorem dX12_letter_0 : decode cX12_letter 0 = .ok (.aload_n 0, 1) := zdk_g zdb_271 (i := 0) rfl
theorem dX12_letter_1 : decode cX12_letter 1 = .ok (.getfield 77, 3) := zdk_g zdb_271 (i := 1) rfl
theorem dX12_letter_4 : decode cX12_letter 4 = .ok (.iconst (-1), 1) := zdk_g zdb_271 (i := 2) rfl
theorem dX12_letter_5 : decode cX12_letter 5 = .ok (.if_icmp .ne 12, 3) := zdk_g zdb_271 (i := 3) rfl
theorem dX12_letter_8 : decode cX12_letter 8 = .ok (.aload_n 0, 1) := zdk_g zdb_271 (i := 4) rfl
theorem dX12_letter_9 : decode cX12_letter 9 = .ok (.getfield 22, 3) := zdk_g zdb_271 (i := 5) rfl
theorem dX12_letter_12 : decode cX12_letter 12 = .ok (.iload_n 1, 1) := zdk_g zdb_271 (i := 6) rfl
theorem dX12_letter_13 : decode cX12_letter 13 = .ok (.iaload, 1) := zdk_g zdb_271 (i := 7) rfl
theorem dX12_letter_14 : decode cX12_letter 14 = .ok (.goto 14, 3) := zdk_g zdb_271 (i := 8) rfl
theorem dX12_letter_17 : decode cX12_letter 17 = .ok (.aload_n 0, 1) := zdk_g zdb_271 (i := 9) rfl
theorem dX12_letter_18 : decode cX12_letter 18 = .ok (.getfield 7, 3) := zdk_g zdb_271 (i := 10) rfl
theorem dX12_letter_21 : decode cX12_letter 21 = .ok (.aload_n 0, 1) := zdk_g zdb_271 (i := 11) rfl
theorem dX12_letter_22 : decode cX12_letter 22 = .ok (.getfield 77, 3) := zdk_g zdb_271 (i := 12) rfl
theorem dX12_letter_25 : decode cX12_letter 25 = .ok (.iload_n 1, 1) := zdk_g zdb_271 (i := 13) rfl
theorem dX12_letter_26 : decode cX12_letter 26 = .ok (.iadd, 1) := zdk_g zdb_271 (i := 14) rfl
theorem dX12_letter_27 : decode cX12_letter 27 = .ok (.iaload, 1) := zdk_g zdb_271 (i := 15) rfl
theorem dX12_letter_28 : decode cX12_letter 28 = .ok (.ireturn, 1) := zdk_g zdb_271 (i := 16) rfl
def zdl_272 : List (Nat × Instr × Nat) := [(0, .aload_n 0, 1), (1, .getfield 80, 3), (4, .aload_n 0, 1), (5, .getfield 83, 3), (8, .if_icmp .ge 29, 3), (11, .aload_n 0, 1), (12, .aload_n 0, 1), (13, .getfield 80, 3), (16, .invokevirtual 86, 3), (19, .bipush 32, 2), (21, .if_icmp .ne 16, 3), (24, .aload_n 0, 1), (25, .dup, 1), (26, .getfield 80, 3), (29, .iconst 1, 1), (30, .iadd, 1), (31, .putfield 80, 3), (34, .goto (-34), 3), (37, .return_, 1)]
theorem zdb_272 : zdk cX12_skip zdl_272 = true := by decide +kernel
theorem dX12_skip_0 : decode cX12_skip 0 = .ok (.aload_n 0, 1) := zdk_g zdb_272 (i := 0) rfl
theorem dX12_skip_1 : decode cX12_skip 1 = .ok (.getfield 80, 3) := zdk_g zdb_272 (i := 1) rfl
theorem dX12_skip_4 : decode cX12_skip 4 = .ok (.aload_n 0, 1) := zdk_g zdb_272 (i := 2) rfl
theorem dX12_skip_5 : decode cX12_skip 5 = .ok (.getfield 83, 3) := zdk_g zdb_272 (i := 3) rfl
theorem dX12_skip_8 : decode cX12_skip 8 = .ok (.if_icmp .ge 29, 3) := zdk_g zdb_272 (i := 4) rfl
theorem dX12_skip_11 : decode cX12_skip 11 = .ok (.aload_n 0, 1) := zdk_g zdb_272 (i := 5) rfl
theorem dX12_skip_12 : decode cX12_skip 12 = .ok (.aload_n 0, 1) := zdk_g zdb_272 (i := 6) rfl
theorem dX12_skip_13 : decode cX12_skip 13 = .ok (.getfield 80, 3) := zdk_g zdb_272 (i := 7) rfl
theorem dX12_skip_16 : decode cX12_skip 16 = .ok (.invokevirtual 86, 3) := zdk_g zdb_272 (i := 8) rfl
theorem dX12_skip_19 : decode cX12_skip 19 = .ok (.bipush 32, 2) := zdk_g zdb_272 (i := 9) rfl
theorem dX12_skip_21 : decode cX12_skip 21 = .ok (.if_icmp .ne 16, 3) := zdk_g zdb_272 (i := 10) rfl
theorem dX12_skip_24 : decode cX12_skip 24 = .ok (.aload_n 0, 1) := zdk_g zdb_272 (i := 11) rfl
theorem dX12_skip_25 : decode cX12_skip 25 = .ok (.dup, 1) := zdk_g zdb_272 (i := 12) rfl
theorem dX12_skip_26 : decode cX12_skip 26 = .ok (.getfield 80, 3) := zdk_g zdb_272 (i := 13) rfl
theorem dX12_skip_29 : decode cX12_skip 29 = .ok (.iconst 1, 1) := zdk_g zdb_272 (i := 14) rfl
theorem dX12_skip_30 : decode cX12_skip 30 = .ok (.iadd, 1) := zdk_g zdb_272 (i := 15) rfl
theorem dX12_skip_31 : decode cX12_skip 31 = .ok (.putfield 80, 3) := zdk_g zdb_272 (i := 16) rfl
theorem dX12_skip_34 : decode cX12_skip 34 = .ok (.goto (-34), 3) := zdk_g zdb_272 (i := 17) rfl
theorem dX12_skip_37 : decode cX12_skip 37 = .ok (.return_, 1) := zdk_g zdb_272 (i := 18) rfl
def zdl_273 : List (Nat × Instr × Nat) := [(0, .aload_n 0, 1), (1, .invokevirtual 89, 3), (4, .aload_n 0, 1), (5, .getfield 80, 3), (8, .aload_n 0, 1), (9, .getfield 83, 3), (12, .if_icmp .ge 19, 3), (15, .aload_n 0, 1), (16, .aload_n 0, 1), (17, .getfield 80, 3), (20, .invokevirtual 86, 3), (23, .iload_n 1, 1), (24, .if_icmp .ne 7, 3), (27, .iconst 1, 1), (28, .goto 4, 3), (31, .iconst 0, 1), (32, .ireturn, 1)]
theorem zdb_273 : zdk cX12_isSign zdl_273 = true := by decide +kernel
theorem dX12_isSign_0 : decode cX12_isSign 0 = .ok (.aload_n 0, 1) := zdk_g zdb_273 (i := 0) rfl
theorem dX12_isSign_1 : decode cX12_isSign 1 = .ok (.invokevirtual 89, 3) := zdk_g zdb_273 (i := 1) rfl
theorem dX12_isSign_4 : decode cX12_isSign 4 = .ok (.aload_n 0, 1) := zdk_g zdb_273 (i := 2) rfl
theorem dX12_isSign_5 : decode cX12_isSign 5 = .ok (.getfield 80, 3) := zdk_g zdb_273 (i := 3) rfl
theorem dX12_isSign_8 : decode cX12_isSign 8 = .ok (.aload_n 0, 1) := zdk_g zdb_273 (i := 4) rfl
theorem dX12_isSign_9 : decode cX12_isSign 9 = .ok (.getfield 83, 3) := zdk_g zdb_273 (i := 5) rfl
theorem dX12_isSign_12 : decode cX12_isSign 12 = .ok (.if_icmp .ge 19, 3) := zdk_g zdb_273 (i := 6) rfl
theorem dX12_isSign_15 : decode cX12_isSign 15 = .ok (.aload_n 0, 1) := zdk_g zdb_273 (i := 7) rfl
theorem dX12_isSign_16 : decode cX12_isSign 16 = .ok (.aload_n 0, 1) := zdk_g zdb_273 (i := 8) rfl
theorem dX12_isSign_17 : decode cX12_isSign 17 = .ok (.getfield 80, 3) := zdk_g zdb_273 (i := 9) rfl
theorem dX12_isSign_20 : decode cX12_isSign 20 = .ok (.invokevirtual 86, 3) := zdk_g zdb_273 (i := 10) rfl
theorem dX12_isSign_23 : decode cX12_isSign 23 = .ok (.iload_n 1, 1) := zdk_g zdb_273 (i := 11) rfl
theorem dX12_isSign_24 : decode cX12_isSign 24 = .ok (.if_icmp .ne 7, 3) := zdk_g zdb_273 (i := 12) rfl
theorem dX12_isSign_27 : decode cX12_isSign 27 = .ok (.iconst 1, 1) := zdk_g zdb_273 (i := 13) rfl
theorem dX12_isSign_28 : decode cX12_isSign 28 = .ok (.goto 4, 3) := zdk_g zdb_273 (i := 14) rfl
theorem dX12_isSign_31 : decode cX12_isSign 31 = .ok (.iconst 0, 1) := zdk_g zdb_273 (i := 15) rfl
theorem dX12_isSign_32 : decode cX12_isSign 32 = .ok (.ireturn, 1) := zdk_g zdb_273 (i := 16) rfl
def zdl_274 : List (Nat × Instr × Nat) := [(0, .aload_n 0, 1), (1, .invokevirtual 89, 3), (4, .aload_n 0, 1), (5, .getfield 80, 3), (8, .istore_n 2, 1), (9, .iload_n 2, 1), (10, .aload_n 0, 1), (11, .getfield 83, 3), (14, .if_icmp .ge 24, 3), (17, .aload_n 0, 1), (18, .iload_n 2, 1), (19, .invokevirtual 86, 3), (22, .bipush 97, 2), (24, .bipush 122, 2), (26, .invokestatic 42, 3), (29, .ifCond .eq 9, 3), (32, .iinc 2 1, 3), (35, .goto (-26), 3), (38, .iload_n 2, 1), (39, .aload_n 0, 1), (40, .getfield 80, 3), (43, .isub, 1), (44, .aload_n 1, 1), (45, .invokevirtual 92, 3), (48, .if_icmp .eq 5, 3), (51, .iconst 0, 1), (52, .ireturn, 1), (53, .iconst 0, 1), (54, .istore_n 3, 1), (55, .iload_n 3, 1), (56, .aload_n 1, 1), (57, .invokevirtual 92, 3)]
theorem zdb_274 : zdk cX12_has zdl_274 = true := by decide +kernel
theorem dX12_has_0 : decode cX12_has 0 = .ok (.aload_n 0, 1) := zdk_g zdb_274 (i := 0) rfl
theorem dX12_has_1 : decode cX12_has 1 = .ok (.invokevirtual 89, 3) := zdk_g zdb_274 (i := 1) rfl
theorem dX12_has_4 : decode cX12_has 4 = .ok (.aload_n 0, 1) := zdk_g zdb_274 (i := 2) rfl
theorem dX12_has_5 : decode cX12_has 5 = .ok (.getfield 80, 3) := zdk_g zdb_274 (i := 3) rfl
theorem dX12_has_8 : decode cX12_has 8 = .ok (.istore_n 2, 1) := zdk_g zdb_274 (i := 4) rfl
theorem dX12_has_9 : decode cX12_has 9 = .ok (.iload_n 2, 1) := zdk_g zdb_274 (i := 5) rfl
theorem dX12_has_10 : decode cX12_has 10 = .ok (.aload_n 0, 1) := zdk_g zdb_274 (i := 6) rfl
theorem dX12_has_11 : decode cX12_has 11 = .ok (.getfield 83, 3) := zdk_g zdb_274 (i := 7) rfl
theorem dX12_has_14 : decode cX12_has 14 = .ok (.if_icmp .ge 24, 3) := zdk_g zdb_274 (i := 8) rfl
theorem dX12_has_17 : decode cX12_has 17 = .ok (.aload_n 0, 1) := zdk_g zdb_274 (i := 9) rfl
theorem dX12_has_18 : decode cX12_has 18 = .ok (.iload_n 2, 1) := zdk_g zdb_274 (i := 10) rfl
theorem dX12_has_19 : decode cX12_has 19 = .ok (.invokevirtual 86, 3) := zdk_g zdb_274 (i := 11) rfl
theorem dX12_has_22 : decode cX12_has 22 = .ok (.bipush 97, 2) := zdk_g zdb_274 (i := 12) rfl
theorem dX12_has_24 : decode cX12_has 24 = .ok (.bipush 122, 2) := zdk_g zdb_274 (i := 13) rfl
theorem dX12_has_26 : decode cX12_has 26 = .ok (.invokestatic 42, 3) := zdk_g zdb_274 (i := 14) rfl
theorem dX12_has_29 : decode cX12_has 29 = .ok (.ifCond .eq 9, 3) := zdk_g zdb_274 (i := 15) rfl
theorem dX12_has_32 : decode cX12_has 32 = .ok (.iinc 2 1, 3) := zdk_g zdb_274 (i := 16) rfl
theorem dX12_has_35 : decode cX12_has 35 = .ok (.goto (-26), 3) := zdk_g zdb_274 (i := 17) rfl
theorem dX12_has_38 : decode cX12_has 38 = .ok (.iload_n 2, 1) := zdk_g zdb_274 (i := 18) rfl
theorem dX12_has_39 : decode cX12_has 39 = .ok (.aload_n 0, 1) := zdk_g zdb_274 (i := 19) rfl
theorem dX12_has_40 : decode cX12_has 40 = .ok (.getfield 80, 3) := zdk_g zdb_274 (i := 20) rfl
theorem dX12_has_43 : decode cX12_has 43 = .ok (.isub, 1) := zdk_g zdb_274 (i := 21) rfl
theorem dX12_has_44 : decode cX12_has 44 = .ok (.aload_n 1, 1) := zdk_g zdb_274 (i := 22) rfl
theorem dX12_has_45 : decode cX12_has 45 = .ok (.invokevirtual 92, 3) := zdk_g zdb_274 (i := 23) rfl
theorem dX12_has_48 : decode cX12_has 48 = .ok (.if_icmp .eq 5, 3) := zdk_g zdb_274 (i := 24) rfl
theorem dX12_has_51 : decode cX12_has 51 = .ok (.iconst 0, 1) := zdk_g zdb_274 (i := 25) rfl
theorem dX12_has_52 : decode cX12_has 52 = .ok (.ireturn, 1) := zdk_g zdb_274 (i := 26) rfl
theorem dX12_has_53 : decode cX12_has 53 = .ok (.iconst 0, 1) := zdk_g zdb_274 (i := 27) rfl
theorem dX12_has_54 : decode cX12_has 54 = .ok (.istore_n 3, 1) := zdk_g zdb_274 (i := 28) rfl
theorem dX12_has_55 : decode cX12_has 55 = .ok (.iload_n 3, 1) := zdk_g zdb_274 (i := 29) rfl
theorem dX12_has_56 : decode cX12_has 56 = .ok (.aload_n 1, 1) := zdk_g zdb_274 (i := 30) rfl
theorem dX12_has_57 : decode cX12_has 57 = .ok (.invokevirtual 92, 3) := zdk_g zdb_274 (i := 31) rfl
def zdl_275 : List (Nat × Instr × Nat) := [(60, .if_icmp .ge 29, 3), (63, .aload_n 0, 1), (64, .aload_n 0, 1), (65, .getfield 80, 3), (68, .iload_n 3, 1), (69, .iadd, 1), (70, .invokevirtual 86, 3), (73, .aload_n 1, 1), (74, .iload_n 3, 1), (75, .invokevirtual 97, 3), (78, .if_icmp .eq 5, 3), (81, .iconst 0, 1), (82, .ireturn, 1), (83, .iinc 3 1, 3), (86, .goto (-31), 3), (89, .aload_n 0, 1), (90, .iload_n 2, 1), (91, .putfield 80, 3), (94, .iconst 1, 1), (95, .ireturn, 1)]
theorem zdb_275 : zdk cX12_has zdl_275 = true := by decide +kernel
theorem dX12_has_60 : decode cX12_has 60 = .ok (.if_icmp .ge 29, 3) := zdk_g zdb_275 (i := 0) rfl
theorem dX12_has_63 : decode cX12_has 63 = .ok (.aload_n 0, 1) := zdk_g zdb_275 (i := 1) rfl
theorem dX12_has_64 : decode cX12_has 64 = .ok (.aload_n 0, 1) := zdk_g zdb_275 (i := 2) rfl
theorem dX12_has_65 : decode cX12_has 65 = .ok (.getfield 80, 3) := zdk_g zdb_275 (i := 3) rfl
theorem dX12_has_68 : decode cX12_has 68 = .ok (.iload_n 3, 1) := zdk_g zdb_275 (i := 4) rfl
theorem dX12_has_69 : decode cX12_has 69 = .ok (.iadd, 1) := zdk_g zdb_275 (i := 5) rfl
theorem dX12_has_70 : decode cX12_has 70 = .ok (.invokevirtual 86, 3) := zdk_g zdb_275 (i := 6) rfl
theorem dX12_has_73 : decode cX12_has 73 = .ok (.aload_n 1, 1) := zdk_g zdb_275 (i := 7) rfl
theorem dX12_has_74 : decode cX12_has 74 = .ok (.iload_n 3, 1) := zdk_g zdb_275 (i := 8) rfl
theorem dX12_has_75 : decode cX12_has 75 = .ok (.invokevirtual 97, 3) := zdk_g zdb_275 (i := 9) rfl
theorem dX12_has_78 : decode cX12_has 78 = .ok (.if_icmp .eq 5, 3) := zdk_g zdb_275 (i := 10) rfl
theorem dX12_has_81 : decode cX12_has 81 = .ok (.iconst 0, 1) := zdk_g zdb_275 (i := 11) rfl
theorem dX12_has_82 : decode cX12_has 82 = .ok (.ireturn, 1) := zdk_g zdb_275 (i := 12) rfl
theorem dX12_has_83 : decode cX12_has 83 = .ok (.iinc 3 1, 3) := zdk_g zdb_275 (i := 13) rfl
theorem dX12_has_86 : decode cX12_has 86 = .ok (.goto (-31), 3) := zdk_g zdb_275 (i := 14) rfl
theorem dX12_has_89 : decode cX12_has 89 = .ok (.aload_n 0, 1) := zdk_g zdb_275 (i := 15) rfl
theorem dX12_has_90 : decode cX12_has 90 = .ok (.iload_n 2, 1) := zdk_g zdb_275 (i := 16) rfl
theorem dX12_has_91 : decode cX12_has 91 = .ok (.putfield 80, 3) := zdk_g zdb_275 (i := 17) rfl
theorem dX12_has_94 : decode cX12_has 94 = .ok (.iconst 1, 1) := zdk_g zdb_275 (i := 18) rfl
theorem dX12_has_95 : decode cX12_has 95 = .ok (.ireturn, 1) := zdk_g zdb_275 (i := 19) rfl
def zdl_276 : List (Nat × Instr × Nat) := [(0, .aload_n 0, 1), (1, .getfield 25, 3), (4, .iconst (-1), 1), (5, .if_icmp .ne 8, 3), (8, .aload_n 0, 1), (9, .iload_n 1, 1), (10, .putfield 25, 3), (13, .return_, 1)]
theorem zdb_276 : zdk cX12_wrong zdl_276 = true := by decide +kernel
theorem dX12_wrong_0 : decode cX12_wrong 0 = .ok (.aload_n 0, 1) := zdk_g zdb_276 (i := 0) rfl
theorem dX12_wrong_1 : decode cX12_wrong 1 = .ok (.getfield 25, 3) := zdk_g zdb_276 (i := 1) rfl
theorem dX12_wrong_4 : decode cX12_wrong 4 = .ok (.iconst (-1), 1) := zdk_g zdb_276 (i := 2) rfl
theorem dX12_wrong_5 : decode cX12_wrong 5 = .ok (.if_icmp .ne 8, 3) := zdk_g zdb_276 (i := 3) rfl
theorem dX12_wrong_8 : decode cX12_wrong 8 = .ok (.aload_n 0, 1) := zdk_g zdb_276 (i := 4) rfl
theorem dX12_wrong_9 : decode cX12_wrong 9 = .ok (.iload_n 1, 1) := zdk_g zdb_276 (i := 5) rfl
theorem dX12_wrong_10 : decode cX12_wrong 10 = .ok (.putfield 25, 3) := zdk_g zdb_276 (i := 6) rfl
theorem dX12_wrong_13 : decode cX12_wrong 13 = .ok (.return_, 1) := zdk_g zdb_276 (i := 7) rfl
def zdl_277 : List (Nat × Instr × Nat) := [(0, .aload_n 0, 1), (1, .invokevirtual 89, 3), (4, .aload_n 0, 1), (5, .getfield 80, 3), (8, .ireturn, 1)]
theorem zdb_277 : zdk cX12_here zdl_277 = true := by decide +kernel
theorem dX12_here_0 : decode cX12_here 0 = .ok (.aload_n 0, 1) := zdk_g zdb_277 (i := 0) rfl
theorem dX12_here_1 : decode cX12_here 1 = .ok (.invokevirtual 89, 3) := zdk_g zdb_277 (i := 1) rfl
theorem dX12_here_4 : decode cX12_here 4 = .ok (.aload_n 0, 1) := zdk_g zdb_277 (i := 2) rfl
theorem dX12_here_5 : decode cX12_here 5 = .ok (.getfield 80, 3) := zdk_g zdb_277 (i := 3) rfl
theorem dX12_here_8 : decode cX12_here 8 = .ok (.ireturn, 1) := zdk_g zdb_277 (i := 4) rfl
def zdl_278 : List (Nat × Instr × Nat) := [(0, .aload_n 0, 1), (1, .getfield 25, 3), (4, .iconst (-1), 1), (5, .if_icmp .eq 5, 3), (8, .iconst 0, 1), (9, .ireturn, 1), (10, .aload_n 0, 1), (11, .invokevirtual 101, 3), (14, .istore_n 3, 1), (15, .iconst 0, 1), (16, .istore 4, 2), (18, .aload_n 0, 1), (19, .getfield 80, 3), (22, .aload_n 0, 1), (23, .getfield 83, 3), (26, .if_icmp .ge 63, 3), (29, .aload_n 0, 1), (30, .aload_n 0, 1), (31, .getfield 80, 3), (34, .invokevirtual 86, 3), (37, .bipush 48, 2), (39, .bipush 57, 2), (41, .invokestatic 42, 3), (44, .ifCond .eq 45, 3), (47, .aload_n 0, 1), (48, .getfield 80, 3), (51, .iload_n 3, 1), (52, .isub, 1), (53, .iconst 3, 1), (54, .if_icmp .gt 35, 3), (57, .bipush 10, 2), (59, .iload 4, 2)]
theorem zdb_278 : zdk cX12_figures zdl_278 = true := by decide +kernel
theorem dX12_figures_0 : decode cX12_figures 0 = .ok (.aload_n 0, 1) := zdk_g zdb_278 (i := 0) rfl
theorem dX12_figures_1 : decode cX12_figures 1 = .ok (.getfield 25, 3) := zdk_g zdb_278 (i := 1) rfl
theorem dX12_figures_4 : decode cX12_figures 4 = .ok (.iconst (-1), 1) := zdk_g zdb_278 (i := 2) rfl
theorem dX12_figures_5 : decode cX12_figures 5 = .ok (.if_icmp .eq 5, 3) := zdk_g zdb_278 (i := 3) rfl
theorem dX12_figures_8 : decode cX12_figures 8 = .ok (.iconst 0, 1) := zdk_g zdb_278 (i := 4) rfl
theorem dX12_figures_9 : decode cX12_figures 9 = .ok (.ireturn, 1) := zdk_g zdb_278 (i := 5) rfl
theorem dX12_figures_10 : decode cX12_figures 10 = .ok (.aload_n 0, 1) := zdk_g zdb_278 (i := 6) rfl
theorem dX12_figures_11 : decode cX12_figures 11 = .ok (.invokevirtual 101, 3) := zdk_g zdb_278 (i := 7) rfl
theorem dX12_figures_14 : decode cX12_figures 14 = .ok (.istore_n 3, 1) := zdk_g zdb_278 (i := 8) rfl
theorem dX12_figures_15 : decode cX12_figures 15 = .ok (.iconst 0, 1) := zdk_g zdb_278 (i := 9) rfl
theorem dX12_figures_16 : decode cX12_figures 16 = .ok (.istore 4, 2) := zdk_g zdb_278 (i := 10) rfl
theorem dX12_figures_18 : decode cX12_figures 18 = .ok (.aload_n 0, 1) := zdk_g zdb_278 (i := 11) rfl
theorem dX12_figures_19 : decode cX12_figures 19 = .ok (.getfield 80, 3) := zdk_g zdb_278 (i := 12) rfl
theorem dX12_figures_22 : decode cX12_figures 22 = .ok (.aload_n 0, 1) := zdk_g zdb_278 (i := 13) rfl
theorem dX12_figures_23 : decode cX12_figures 23 = .ok (.getfield 83, 3) := zdk_g zdb_278 (i := 14) rfl
theorem dX12_figures_26 : decode cX12_figures 26 = .ok (.if_icmp .ge 63, 3) := zdk_g zdb_278 (i := 15) rfl
theorem dX12_figures_29 : decode cX12_figures 29 = .ok (.aload_n 0, 1) := zdk_g zdb_278 (i := 16) rfl
theorem dX12_figures_30 : decode cX12_figures 30 = .ok (.aload_n 0, 1) := zdk_g zdb_278 (i := 17) rfl
theorem dX12_figures_31 : decode cX12_figures 31 = .ok (.getfield 80, 3) := zdk_g zdb_278 (i := 18) rfl
theorem dX12_figures_34 : decode cX12_figures 34 = .ok (.invokevirtual 86, 3) := zdk_g zdb_278 (i := 19) rfl
theorem dX12_figures_37 : decode cX12_figures 37 = .ok (.bipush 48, 2) := zdk_g zdb_278 (i := 20) rfl
theorem dX12_figures_39 : decode cX12_figures 39 = .ok (.bipush 57, 2) := zdk_g zdb_278 (i := 21) rfl
theorem dX12_figures_41 : decode cX12_figures 41 = .ok (.invokestatic 42, 3) := zdk_g zdb_278 (i := 22) rfl
theorem dX12_figures_44 : decode cX12_figures 44 = .ok (.ifCond .eq 45, 3) := zdk_g zdb_278 (i := 23) rfl
theorem dX12_figures_47 : decode cX12_figures 47 = .ok (.aload_n 0, 1) := zdk_g zdb_278 (i := 24) rfl
theorem dX12_figures_48 : decode cX12_figures 48 = .ok (.getfield 80, 3) := zdk_g zdb_278 (i := 25) rfl
theorem dX12_figures_51 : decode cX12_figures 51 = .ok (.iload_n 3, 1) := zdk_g zdb_278 (i := 26) rfl
theorem dX12_figures_52 : decode cX12_figures 52 = .ok (.isub, 1) := zdk_g zdb_278 (i := 27) rfl
theorem dX12_figures_53 : decode cX12_figures 53 = .ok (.iconst 3, 1) := zdk_g zdb_278 (i := 28) rfl
theorem dX12_figures_54 : decode cX12_figures 54 = .ok (.if_icmp .gt 35, 3) := zdk_g zdb_278 (i := 29) rfl
theorem dX12_figures_57 : decode cX12_figures 57 = .ok (.bipush 10, 2) := zdk_g zdb_278 (i := 30) rfl
theorem dX12_figures_59 : decode cX12_figures 59 = .ok (.iload 4, 2) := zdk_g zdb_278 (i := 31) rfl
def zdl_279 : List (Nat × Instr × Nat) := [(61, .imul, 1), (62, .aload_n 0, 1), (63, .aload_n 0, 1), (64, .getfield 80, 3), (67, .invokevirtual 86, 3), (70, .iadd, 1), (71, .bipush 48, 2), (73, .isub, 1), (74, .istore 4, 2), (76, .aload_n 0, 1), (77, .dup, 1), (78, .getfield 80, 3), (81, .iconst 1, 1), (82, .iadd, 1), (83, .putfield 80, 3), (86, .goto (-68), 3), (89, .aload_n 0, 1), (90, .getfield 80, 3), (93, .iload_n 3, 1), (94, .if_icmp .eq 25, 3), (97, .aload_n 0, 1), (98, .getfield 80, 3), (101, .iload_n 3, 1), (102, .isub, 1), (103, .iconst 3, 1), (104, .if_icmp .gt 15, 3), (107, .iload 4, 2), (109, .iload_n 1, 1), (110, .if_icmp .lt 9, 3), (113, .iload 4, 2), (115, .iload_n 2, 1), (116, .if_icmp .le 8, 3)]
theorem zdb_279 : zdk cX12_figures zdl_279 = true := by decide +kernel
theorem dX12_figures_61 : decode cX12_figures 61 = .ok (.imul, 1) := zdk_g zdb_279 (i := 0) rfl
theorem dX12_figures_62 : decode cX12_figures 62 = .ok (.aload_n 0, 1) := zdk_g zdb_279 (i := 1) rfl
theorem dX12_figures_63 : decode cX12_figures 63 = .ok (.aload_n 0, 1) := zdk_g zdb_279 (i := 2) rfl
theorem dX12_figures_64 : decode cX12_figures 64 = .ok (.getfield 80, 3) := zdk_g zdb_279 (i := 3) rfl
theorem dX12_figures_67 : decode cX12_figures 67 = .ok (.invokevirtual 86, 3) := zdk_g zdb_279 (i := 4) rfl
theorem dX12_figures_70 : decode cX12_figures 70 = .ok (.iadd, 1) := zdk_g zdb_279 (i := 5) rfl
theorem dX12_figures_71 : decode cX12_figures 71 = .ok (.bipush 48, 2) := zdk_g zdb_279 (i := 6) rfl
theorem dX12_figures_73 : decode cX12_figures 73 = .ok (.isub, 1) := zdk_g zdb_279 (i := 7) rfl
theorem dX12_figures_74 : decode cX12_figures 74 = .ok (.istore 4, 2) := zdk_g zdb_279 (i := 8) rfl
theorem dX12_figures_76 : decode cX12_figures 76 = .ok (.aload_n 0, 1) := zdk_g zdb_279 (i := 9) rfl
theorem dX12_figures_77 : decode cX12_figures 77 = .ok (.dup, 1) := zdk_g zdb_279 (i := 10) rfl
theorem dX12_figures_78 : decode cX12_figures 78 = .ok (.getfield 80, 3) := zdk_g zdb_279 (i := 11) rfl
theorem dX12_figures_81 : decode cX12_figures 81 = .ok (.iconst 1, 1) := zdk_g zdb_279 (i := 12) rfl
theorem dX12_figures_82 : decode cX12_figures 82 = .ok (.iadd, 1) := zdk_g zdb_279 (i := 13) rfl
theorem dX12_figures_83 : decode cX12_figures 83 = .ok (.putfield 80, 3) := zdk_g zdb_279 (i := 14) rfl
theorem dX12_figures_86 : decode cX12_figures 86 = .ok (.goto (-68), 3) := zdk_g zdb_279 (i := 15) rfl
theorem dX12_figures_89 : decode cX12_figures 89 = .ok (.aload_n 0, 1) := zdk_g zdb_279 (i := 16) rfl
theorem dX12_figures_90 : decode cX12_figures 90 = .ok (.getfield 80, 3) := zdk_g zdb_279 (i := 17) rfl
theorem dX12_figures_93 : decode cX12_figures 93 = .ok (.iload_n 3, 1) := zdk_g zdb_279 (i := 18) rfl
theorem dX12_figures_94 : decode cX12_figures 94 = .ok (.if_icmp .eq 25, 3) := zdk_g zdb_279 (i := 19) rfl
theorem dX12_figures_97 : decode cX12_figures 97 = .ok (.aload_n 0, 1) := zdk_g zdb_279 (i := 20) rfl
theorem dX12_figures_98 : decode cX12_figures 98 = .ok (.getfield 80, 3) := zdk_g zdb_279 (i := 21) rfl
theorem dX12_figures_101 : decode cX12_figures 101 = .ok (.iload_n 3, 1) := zdk_g zdb_279 (i := 22) rfl
theorem dX12_figures_102 : decode cX12_figures 102 = .ok (.isub, 1) := zdk_g zdb_279 (i := 23) rfl
theorem dX12_figures_103 : decode cX12_figures 103 = .ok (.iconst 3, 1) := zdk_g zdb_279 (i := 24) rfl
theorem dX12_figures_104 : decode cX12_figures 104 = .ok (.if_icmp .gt 15, 3) := zdk_g zdb_279 (i := 25) rfl
theorem dX12_figures_107 : decode cX12_figures 107 = .ok (.iload 4, 2) := zdk_g zdb_279 (i := 26) rfl
theorem dX12_figures_109 : decode cX12_figures 109 = .ok (.iload_n 1, 1) := zdk_g zdb_279 (i := 27) rfl
theorem dX12_figures_110 : decode cX12_figures 110 = .ok (.if_icmp .lt 9, 3) := zdk_g zdb_279 (i := 28) rfl
theorem dX12_figures_113 : decode cX12_figures 113 = .ok (.iload 4, 2) := zdk_g zdb_279 (i := 29) rfl
theorem dX12_figures_115 : decode cX12_figures 115 = .ok (.iload_n 2, 1) := zdk_g zdb_279 (i := 30) rfl
theorem dX12_figures_116 : decode cX12_figures 116 = .ok (.if_icmp .le 8, 3) := zdk_g zdb_279 (i := 31) rfl
def zdl_280 : List (Nat × Instr × Nat) := [(119, .aload_n 0, 1), (120, .iload_n 3, 1), (121, .invokevirtual 104, 3), (124, .iload 4, 2), (126, .ireturn, 1)]
theorem zdb_280 : zdk cX12_figures zdl_280 = true := by decide +kernel
theorem dX12_figures_119 : decode cX12_figures 119 = .ok (.aload_n 0, 1) := zdk_g zdb_280 (i := 0) rfl
theorem dX12_figures_120 : decode cX12_figures 120 = .ok (.iload_n 3, 1) := zdk_g zdb_280 (i := 1) rfl
theorem dX12_figures_121 : decode cX12_figures 121 = .ok (.invokevirtual 104, 3) := zdk_g zdb_280 (i := 2) rfl
theorem dX12_figures_124 : decode cX12_figures 124 = .ok (.iload 4, 2) := zdk_g zdb_280 (i := 3) rfl
theorem dX12_figures_126 : decode cX12_figures 126 = .ok (.ireturn, 1) := zdk_g zdb_280 (i := 4) rfl
def zdl_281 : List (Nat × Instr × Nat) := [(0, .aload_n 0, 1), (1, .getfield 25, 3), (4, .iconst (-1), 1), (5, .if_icmp .ne 19, 3), (8, .aload_n 0, 1), (9, .aload_n 1, 1), (10, .invokevirtual 108, 3), (13, .ifCond .ne 11, 3), (16, .aload_n 0, 1), (17, .aload_n 0, 1), (18, .getfield 80, 3), (21, .invokevirtual 104, 3), (24, .aload_n 0, 1), (25, .iload_n 2, 1), (26, .iload_n 3, 1), (27, .invokevirtual 112, 3), (30, .ireturn, 1)]
theorem zdb_281 : zdk cX12_after zdl_281 = true := by decide +kernel
theorem dX12_after_0 : decode cX12_after 0 = .ok (.aload_n 0, 1) := zdk_g zdb_281 (i := 0) rfl
theorem dX12_after_1 : decode cX12_after 1 = .ok (.getfield 25, 3) := zdk_g zdb_281 (i := 1) rfl
theorem dX12_after_4 : decode cX12_after 4 = .ok (.iconst (-1), 1) := zdk_g zdb_281 (i := 2) rfl
theorem dX12_after_5 : decode cX12_after 5 = .ok (.if_icmp .ne 19, 3) := zdk_g zdb_281 (i := 3) rfl
theorem dX12_after_8 : decode cX12_after 8 = .ok (.aload_n 0, 1) := zdk_g zdb_281 (i := 4) rfl
theorem dX12_after_9 : decode cX12_after 9 = .ok (.aload_n 1, 1) := zdk_g zdb_281 (i := 5) rfl
theorem dX12_after_10 : decode cX12_after 10 = .ok (.invokevirtual 108, 3) := zdk_g zdb_281 (i := 6) rfl
theorem dX12_after_13 : decode cX12_after 13 = .ok (.ifCond .ne 11, 3) := zdk_g zdb_281 (i := 7) rfl
theorem dX12_after_16 : decode cX12_after 16 = .ok (.aload_n 0, 1) := zdk_g zdb_281 (i := 8) rfl
theorem dX12_after_17 : decode cX12_after 17 = .ok (.aload_n 0, 1) := zdk_g zdb_281 (i := 9) rfl
theorem dX12_after_18 : decode cX12_after 18 = .ok (.getfield 80, 3) := zdk_g zdb_281 (i := 10) rfl
theorem dX12_after_21 : decode cX12_after 21 = .ok (.invokevirtual 104, 3) := zdk_g zdb_281 (i := 11) rfl
theorem dX12_after_24 : decode cX12_after 24 = .ok (.aload_n 0, 1) := zdk_g zdb_281 (i := 12) rfl
theorem dX12_after_25 : decode cX12_after 25 = .ok (.iload_n 2, 1) := zdk_g zdb_281 (i := 13) rfl
theorem dX12_after_26 : decode cX12_after 26 = .ok (.iload_n 3, 1) := zdk_g zdb_281 (i := 14) rfl
theorem dX12_after_27 : decode cX12_after 27 = .ok (.invokevirtual 112, 3) := zdk_g zdb_281 (i := 15) rfl
theorem dX12_after_30 : decode cX12_after 30 = .ok (.ireturn, 1) := zdk_g zdb_281 (i := 16) rfl
def zdl_282 : List (Nat × Instr × Nat) := [(0, .aload_n 0, 1), (1, .getfield 7, 3), (4, .iconst 3, 1), (5, .iaload, 1), (6, .bipush 8, 2), (8, .if_icmp .ne 8, 3), (11, .aload_n 0, 1), (12, .iload_n 1, 1), (13, .invokevirtual 104, 3), (16, .aload_n 0, 1), (17, .iconst 0, 1), (18, .bipush 99, 2), (20, .invokevirtual 112, 3), (23, .istore_n 2, 1), (24, .aload_n 0, 1), (25, .ldc 115, 2), (27, .iconst 0, 1), (28, .sipush 999, 3), (31, .invokevirtual 117, 3), (34, .istore_n 3, 1), (35, .aload_n 0, 1), (36, .getfield 25, 3), (39, .iconst (-1), 1), (40, .if_icmp .ne 16, 3), (43, .aload_n 0, 1), (44, .ldc 121, 2), (46, .invokevirtual 108, 3), (49, .ifCond .eq 7, 3), (52, .iconst 1, 1), (53, .goto 4, 3), (56, .iconst 0, 1), (57, .istore 4, 2)]
theorem zdb_282 : zdk cX12_personLine zdl_282 = true := by decide +kernel
theorem dX12_personLine_0 : decode cX12_personLine 0 = .ok (.aload_n 0, 1) := zdk_g zdb_282 (i := 0) rfl
theorem dX12_personLine_1 : decode cX12_personLine 1 = .ok (.getfield 7, 3) := zdk_g zdb_282 (i := 1) rfl
theorem dX12_personLine_4 : decode cX12_personLine 4 = .ok (.iconst 3, 1) := zdk_g zdb_282 (i := 2) rfl
theorem dX12_personLine_5 : decode cX12_personLine 5 = .ok (.iaload, 1) := zdk_g zdb_282 (i := 3) rfl
theorem dX12_personLine_6 : decode cX12_personLine 6 = .ok (.bipush 8, 2) := zdk_g zdb_282 (i := 4) rfl
theorem dX12_personLine_8 : decode cX12_personLine 8 = .ok (.if_icmp .ne 8, 3) := zdk_g zdb_282 (i := 5) rfl
theorem dX12_personLine_11 : decode cX12_personLine 11 = .ok (.aload_n 0, 1) := zdk_g zdb_282 (i := 6) rfl
theorem dX12_personLine_12 : decode cX12_personLine 12 = .ok (.iload_n 1, 1) := zdk_g zdb_282 (i := 7) rfl
theorem dX12_personLine_13 : decode cX12_personLine 13 = .ok (.invokevirtual 104, 3) := zdk_g zdb_282 (i := 8) rfl
theorem dX12_personLine_16 : decode cX12_personLine 16 = .ok (.aload_n 0, 1) := zdk_g zdb_282 (i := 9) rfl
theorem dX12_personLine_17 : decode cX12_personLine 17 = .ok (.iconst 0, 1) := zdk_g zdb_282 (i := 10) rfl
theorem dX12_personLine_18 : decode cX12_personLine 18 = .ok (.bipush 99, 2) := zdk_g zdb_282 (i := 11) rfl
theorem dX12_personLine_20 : decode cX12_personLine 20 = .ok (.invokevirtual 112, 3) := zdk_g zdb_282 (i := 12) rfl
theorem dX12_personLine_23 : decode cX12_personLine 23 = .ok (.istore_n 2, 1) := zdk_g zdb_282 (i := 13) rfl
theorem dX12_personLine_24 : decode cX12_personLine 24 = .ok (.aload_n 0, 1) := zdk_g zdb_282 (i := 14) rfl
theorem dX12_personLine_25 : decode cX12_personLine 25 = .ok (.ldc 115, 2) := zdk_g zdb_282 (i := 15) rfl
theorem dX12_personLine_27 : decode cX12_personLine 27 = .ok (.iconst 0, 1) := zdk_g zdb_282 (i := 16) rfl
theorem dX12_personLine_28 : decode cX12_personLine 28 = .ok (.sipush 999, 3) := zdk_g zdb_282 (i := 17) rfl
theorem dX12_personLine_31 : decode cX12_personLine 31 = .ok (.invokevirtual 117, 3) := zdk_g zdb_282 (i := 18) rfl
theorem dX12_personLine_34 : decode cX12_personLine 34 = .ok (.istore_n 3, 1) := zdk_g zdb_282 (i := 19) rfl
theorem dX12_personLine_35 : decode cX12_personLine 35 = .ok (.aload_n 0, 1) := zdk_g zdb_282 (i := 20) rfl
theorem dX12_personLine_36 : decode cX12_personLine 36 = .ok (.getfield 25, 3) := zdk_g zdb_282 (i := 21) rfl
theorem dX12_personLine_39 : decode cX12_personLine 39 = .ok (.iconst (-1), 1) := zdk_g zdb_282 (i := 22) rfl
theorem dX12_personLine_40 : decode cX12_personLine 40 = .ok (.if_icmp .ne 16, 3) := zdk_g zdb_282 (i := 23) rfl
theorem dX12_personLine_43 : decode cX12_personLine 43 = .ok (.aload_n 0, 1) := zdk_g zdb_282 (i := 24) rfl
theorem dX12_personLine_44 : decode cX12_personLine 44 = .ok (.ldc 121, 2) := zdk_g zdb_282 (i := 25) rfl
theorem dX12_personLine_46 : decode cX12_personLine 46 = .ok (.invokevirtual 108, 3) := zdk_g zdb_282 (i := 26) rfl
theorem dX12_personLine_49 : decode cX12_personLine 49 = .ok (.ifCond .eq 7, 3) := zdk_g zdb_282 (i := 27) rfl
theorem dX12_personLine_52 : decode cX12_personLine 52 = .ok (.iconst 1, 1) := zdk_g zdb_282 (i := 28) rfl
theorem dX12_personLine_53 : decode cX12_personLine 53 = .ok (.goto 4, 3) := zdk_g zdb_282 (i := 29) rfl
theorem dX12_personLine_56 : decode cX12_personLine 56 = .ok (.iconst 0, 1) := zdk_g zdb_282 (i := 30) rfl
theorem dX12_personLine_57 : decode cX12_personLine 57 = .ok (.istore 4, 2) := zdk_g zdb_282 (i := 31) rfl
def zdl_283 : List (Nat × Instr × Nat) := [(59, .aload_n 0, 1), (60, .getfield 25, 3), (63, .iconst (-1), 1), (64, .if_icmp .eq 4, 3), (67, .return_, 1), (68, .aload_n 0, 1), (69, .getfield 7, 3), (72, .iconst 3, 1), (73, .iaload, 1), (74, .istore 5, 2), (76, .aload_n 0, 1), (77, .iload 5, 2), (79, .iconst 0, 1), (80, .iload_n 2, 1), (81, .invokevirtual 123, 3), (84, .aload_n 0, 1), (85, .iload 5, 2), (87, .iconst 1, 1), (88, .iload_n 3, 1), (89, .invokevirtual 123, 3), (92, .aload_n 0, 1), (93, .iload 5, 2), (95, .iconst 2, 1), (96, .iconst 0, 1), (97, .invokevirtual 123, 3), (100, .aload_n 0, 1), (101, .iload 5, 2), (103, .iconst 3, 1), (104, .iload 4, 2), (106, .ifCond .eq 7, 3), (109, .iconst 1, 1), (110, .goto 4, 3)]
theorem zdb_283 : zdk cX12_personLine zdl_283 = true := by decide +kernel
theorem dX12_personLine_59 : decode cX12_personLine 59 = .ok (.aload_n 0, 1) := zdk_g zdb_283 (i := 0) rfl
theorem dX12_personLine_60 : decode cX12_personLine 60 = .ok (.getfield 25, 3) := zdk_g zdb_283 (i := 1) rfl
theorem dX12_personLine_63 : decode cX12_personLine 63 = .ok (.iconst (-1), 1) := zdk_g zdb_283 (i := 2) rfl
theorem dX12_personLine_64 : decode cX12_personLine 64 = .ok (.if_icmp .eq 4, 3) := zdk_g zdb_283 (i := 3) rfl
theorem dX12_personLine_67 : decode cX12_personLine 67 = .ok (.return_, 1) := zdk_g zdb_283 (i := 4) rfl
theorem dX12_personLine_68 : decode cX12_personLine 68 = .ok (.aload_n 0, 1) := zdk_g zdb_283 (i := 5) rfl
theorem dX12_personLine_69 : decode cX12_personLine 69 = .ok (.getfield 7, 3) := zdk_g zdb_283 (i := 6) rfl
theorem dX12_personLine_72 : decode cX12_personLine 72 = .ok (.iconst 3, 1) := zdk_g zdb_283 (i := 7) rfl
theorem dX12_personLine_73 : decode cX12_personLine 73 = .ok (.iaload, 1) := zdk_g zdb_283 (i := 8) rfl
theorem dX12_personLine_74 : decode cX12_personLine 74 = .ok (.istore 5, 2) := zdk_g zdb_283 (i := 9) rfl
theorem dX12_personLine_76 : decode cX12_personLine 76 = .ok (.aload_n 0, 1) := zdk_g zdb_283 (i := 10) rfl
theorem dX12_personLine_77 : decode cX12_personLine 77 = .ok (.iload 5, 2) := zdk_g zdb_283 (i := 11) rfl
theorem dX12_personLine_79 : decode cX12_personLine 79 = .ok (.iconst 0, 1) := zdk_g zdb_283 (i := 12) rfl
theorem dX12_personLine_80 : decode cX12_personLine 80 = .ok (.iload_n 2, 1) := zdk_g zdb_283 (i := 13) rfl
theorem dX12_personLine_81 : decode cX12_personLine 81 = .ok (.invokevirtual 123, 3) := zdk_g zdb_283 (i := 14) rfl
theorem dX12_personLine_84 : decode cX12_personLine 84 = .ok (.aload_n 0, 1) := zdk_g zdb_283 (i := 15) rfl
theorem dX12_personLine_85 : decode cX12_personLine 85 = .ok (.iload 5, 2) := zdk_g zdb_283 (i := 16) rfl
theorem dX12_personLine_87 : decode cX12_personLine 87 = .ok (.iconst 1, 1) := zdk_g zdb_283 (i := 17) rfl
theorem dX12_personLine_88 : decode cX12_personLine 88 = .ok (.iload_n 3, 1) := zdk_g zdb_283 (i := 18) rfl
theorem dX12_personLine_89 : decode cX12_personLine 89 = .ok (.invokevirtual 123, 3) := zdk_g zdb_283 (i := 19) rfl
theorem dX12_personLine_92 : decode cX12_personLine 92 = .ok (.aload_n 0, 1) := zdk_g zdb_283 (i := 20) rfl
theorem dX12_personLine_93 : decode cX12_personLine 93 = .ok (.iload 5, 2) := zdk_g zdb_283 (i := 21) rfl
theorem dX12_personLine_95 : decode cX12_personLine 95 = .ok (.iconst 2, 1) := zdk_g zdb_283 (i := 22) rfl
theorem dX12_personLine_96 : decode cX12_personLine 96 = .ok (.iconst 0, 1) := zdk_g zdb_283 (i := 23) rfl
theorem dX12_personLine_97 : decode cX12_personLine 97 = .ok (.invokevirtual 123, 3) := zdk_g zdb_283 (i := 24) rfl
theorem dX12_personLine_100 : decode cX12_personLine 100 = .ok (.aload_n 0, 1) := zdk_g zdb_283 (i := 25) rfl
theorem dX12_personLine_101 : decode cX12_personLine 101 = .ok (.iload 5, 2) := zdk_g zdb_283 (i := 26) rfl
theorem dX12_personLine_103 : decode cX12_personLine 103 = .ok (.iconst 3, 1) := zdk_g zdb_283 (i := 27) rfl
theorem dX12_personLine_104 : decode cX12_personLine 104 = .ok (.iload 4, 2) := zdk_g zdb_283 (i := 28) rfl
theorem dX12_personLine_106 : decode cX12_personLine 106 = .ok (.ifCond .eq 7, 3) := zdk_g zdb_283 (i := 29) rfl
theorem dX12_personLine_109 : decode cX12_personLine 109 = .ok (.iconst 1, 1) := zdk_g zdb_283 (i := 30) rfl
theorem dX12_personLine_110 : decode cX12_personLine 110 = .ok (.goto 4, 3) := zdk_g zdb_283 (i := 31) rfl
def zdl_284 : List (Nat × Instr × Nat) := [(113, .iconst 0, 1), (114, .invokevirtual 123, 3), (117, .aload_n 0, 1), (118, .iload 5, 2), (120, .iconst 4, 1), (121, .iconst (-1), 1), (122, .invokevirtual 123, 3), (125, .aload_n 0, 1), (126, .getfield 7, 3), (129, .iconst 3, 1), (130, .dup2, 1), (131, .iaload, 1), (132, .iconst 1, 1), (133, .iadd, 1), (134, .iastore, 1), (135, .return_, 1)]
theorem zdb_284 : zdk cX12_personLine zdl_284 = true := by decide +kernel
theorem dX12_personLine_113 : decode cX12_personLine 113 = .ok (.iconst 0, 1) := zdk_g zdb_284 (i := 0) rfl
theorem dX12_personLine_114 : decode cX12_personLine 114 = .ok (.invokevirtual 123, 3) := zdk_g zdb_284 (i := 1) rfl
theorem dX12_personLine_117 : decode cX12_personLine 117 = .ok (.aload_n 0, 1) := zdk_g zdb_284 (i := 2) rfl
theorem dX12_personLine_118 : decode cX12_personLine 118 = .ok (.iload 5, 2) := zdk_g zdb_284 (i := 3) rfl
theorem dX12_personLine_120 : decode cX12_personLine 120 = .ok (.iconst 4, 1) := zdk_g zdb_284 (i := 4) rfl
theorem dX12_personLine_121 : decode cX12_personLine 121 = .ok (.iconst (-1), 1) := zdk_g zdb_284 (i := 5) rfl
theorem dX12_personLine_122 : decode cX12_personLine 122 = .ok (.invokevirtual 123, 3) := zdk_g zdb_284 (i := 6) rfl
theorem dX12_personLine_125 : decode cX12_personLine 125 = .ok (.aload_n 0, 1) := zdk_g zdb_284 (i := 7) rfl
theorem dX12_personLine_126 : decode cX12_personLine 126 = .ok (.getfield 7, 3) := zdk_g zdb_284 (i := 8) rfl
theorem dX12_personLine_129 : decode cX12_personLine 129 = .ok (.iconst 3, 1) := zdk_g zdb_284 (i := 9) rfl
theorem dX12_personLine_130 : decode cX12_personLine 130 = .ok (.dup2, 1) := zdk_g zdb_284 (i := 10) rfl
theorem dX12_personLine_131 : decode cX12_personLine 131 = .ok (.iaload, 1) := zdk_g zdb_284 (i := 11) rfl
theorem dX12_personLine_132 : decode cX12_personLine 132 = .ok (.iconst 1, 1) := zdk_g zdb_284 (i := 12) rfl
theorem dX12_personLine_133 : decode cX12_personLine 133 = .ok (.iadd, 1) := zdk_g zdb_284 (i := 13) rfl
theorem dX12_personLine_134 : decode cX12_personLine 134 = .ok (.iastore, 1) := zdk_g zdb_284 (i := 14) rfl
theorem dX12_personLine_135 : decode cX12_personLine 135 = .ok (.return_, 1) := zdk_g zdb_284 (i := 15) rfl
def zdl_285 : List (Nat × Instr × Nat) := [(0, .aload_n 0, 1), (1, .iconst 0, 1), (2, .aload_n 0, 1), (3, .getfield 7, 3), (6, .iconst 3, 1), (7, .iaload, 1), (8, .iconst 1, 1), (9, .isub, 1), (10, .invokevirtual 112, 3), (13, .istore_n 1, 1), (14, .aload_n 0, 1), (15, .invokevirtual 101, 3), (18, .istore_n 2, 1), (19, .iconst 0, 1), (20, .istore_n 3, 1), (21, .aload_n 0, 1), (22, .getfield 25, 3), (25, .iconst (-1), 1), (26, .if_icmp .ne 36, 3), (29, .iload_n 2, 1), (30, .iload_n 3, 1), (31, .iadd, 1), (32, .aload_n 0, 1), (33, .getfield 83, 3), (36, .if_icmp .ge 26, 3), (39, .aload_n 0, 1), (40, .iload_n 2, 1), (41, .iload_n 3, 1), (42, .iadd, 1), (43, .invokevirtual 86, 3), (46, .bipush 48, 2), (48, .bipush 57, 2)]
theorem zdb_285 : zdk cX12_trustsLine zdl_285 = true := by decide +kernel
theorem dX12_trustsLine_0 : decode cX12_trustsLine 0 = .ok (.aload_n 0, 1) := zdk_g zdb_285 (i := 0) rfl
theorem dX12_trustsLine_1 : decode cX12_trustsLine 1 = .ok (.iconst 0, 1) := zdk_g zdb_285 (i := 1) rfl
theorem dX12_trustsLine_2 : decode cX12_trustsLine 2 = .ok (.aload_n 0, 1) := zdk_g zdb_285 (i := 2) rfl
theorem dX12_trustsLine_3 : decode cX12_trustsLine 3 = .ok (.getfield 7, 3) := zdk_g zdb_285 (i := 3) rfl
theorem dX12_trustsLine_6 : decode cX12_trustsLine 6 = .ok (.iconst 3, 1) := zdk_g zdb_285 (i := 4) rfl
theorem dX12_trustsLine_7 : decode cX12_trustsLine 7 = .ok (.iaload, 1) := zdk_g zdb_285 (i := 5) rfl
theorem dX12_trustsLine_8 : decode cX12_trustsLine 8 = .ok (.iconst 1, 1) := zdk_g zdb_285 (i := 6) rfl
theorem dX12_trustsLine_9 : decode cX12_trustsLine 9 = .ok (.isub, 1) := zdk_g zdb_285 (i := 7) rfl
theorem dX12_trustsLine_10 : decode cX12_trustsLine 10 = .ok (.invokevirtual 112, 3) := zdk_g zdb_285 (i := 8) rfl
theorem dX12_trustsLine_13 : decode cX12_trustsLine 13 = .ok (.istore_n 1, 1) := zdk_g zdb_285 (i := 9) rfl
theorem dX12_trustsLine_14 : decode cX12_trustsLine 14 = .ok (.aload_n 0, 1) := zdk_g zdb_285 (i := 10) rfl
theorem dX12_trustsLine_15 : decode cX12_trustsLine 15 = .ok (.invokevirtual 101, 3) := zdk_g zdb_285 (i := 11) rfl
theorem dX12_trustsLine_18 : decode cX12_trustsLine 18 = .ok (.istore_n 2, 1) := zdk_g zdb_285 (i := 12) rfl
theorem dX12_trustsLine_19 : decode cX12_trustsLine 19 = .ok (.iconst 0, 1) := zdk_g zdb_285 (i := 13) rfl
theorem dX12_trustsLine_20 : decode cX12_trustsLine 20 = .ok (.istore_n 3, 1) := zdk_g zdb_285 (i := 14) rfl
theorem dX12_trustsLine_21 : decode cX12_trustsLine 21 = .ok (.aload_n 0, 1) := zdk_g zdb_285 (i := 15) rfl
theorem dX12_trustsLine_22 : decode cX12_trustsLine 22 = .ok (.getfield 25, 3) := zdk_g zdb_285 (i := 16) rfl
theorem dX12_trustsLine_25 : decode cX12_trustsLine 25 = .ok (.iconst (-1), 1) := zdk_g zdb_285 (i := 17) rfl
theorem dX12_trustsLine_26 : decode cX12_trustsLine 26 = .ok (.if_icmp .ne 36, 3) := zdk_g zdb_285 (i := 18) rfl
theorem dX12_trustsLine_29 : decode cX12_trustsLine 29 = .ok (.iload_n 2, 1) := zdk_g zdb_285 (i := 19) rfl
theorem dX12_trustsLine_30 : decode cX12_trustsLine 30 = .ok (.iload_n 3, 1) := zdk_g zdb_285 (i := 20) rfl
theorem dX12_trustsLine_31 : decode cX12_trustsLine 31 = .ok (.iadd, 1) := zdk_g zdb_285 (i := 21) rfl
theorem dX12_trustsLine_32 : decode cX12_trustsLine 32 = .ok (.aload_n 0, 1) := zdk_g zdb_285 (i := 22) rfl
theorem dX12_trustsLine_33 : decode cX12_trustsLine 33 = .ok (.getfield 83, 3) := zdk_g zdb_285 (i := 23) rfl
theorem dX12_trustsLine_36 : decode cX12_trustsLine 36 = .ok (.if_icmp .ge 26, 3) := zdk_g zdb_285 (i := 24) rfl
theorem dX12_trustsLine_39 : decode cX12_trustsLine 39 = .ok (.aload_n 0, 1) := zdk_g zdb_285 (i := 25) rfl
theorem dX12_trustsLine_40 : decode cX12_trustsLine 40 = .ok (.iload_n 2, 1) := zdk_g zdb_285 (i := 26) rfl
theorem dX12_trustsLine_41 : decode cX12_trustsLine 41 = .ok (.iload_n 3, 1) := zdk_g zdb_285 (i := 27) rfl
theorem dX12_trustsLine_42 : decode cX12_trustsLine 42 = .ok (.iadd, 1) := zdk_g zdb_285 (i := 28) rfl
theorem dX12_trustsLine_43 : decode cX12_trustsLine 43 = .ok (.invokevirtual 86, 3) := zdk_g zdb_285 (i := 29) rfl
theorem dX12_trustsLine_46 : decode cX12_trustsLine 46 = .ok (.bipush 48, 2) := zdk_g zdb_285 (i := 30) rfl
theorem dX12_trustsLine_48 : decode cX12_trustsLine 48 = .ok (.bipush 57, 2) := zdk_g zdb_285 (i := 31) rfl
def zdl_286 : List (Nat × Instr × Nat) := [(50, .invokestatic 42, 3), (53, .ifCond .eq 9, 3), (56, .iinc 3 1, 3), (59, .goto (-38), 3), (62, .iload_n 3, 1), (63, .aload_n 0, 1), (64, .getfield 7, 3), (67, .iconst 3, 1), (68, .iaload, 1), (69, .if_icmp .eq 8, 3), (72, .aload_n 0, 1), (73, .iload_n 2, 1), (74, .invokevirtual 104, 3), (77, .aload_n 0, 1), (78, .getfield 25, 3), (81, .iconst (-1), 1), (82, .if_icmp .eq 4, 3), (85, .return_, 1), (86, .iconst 0, 1), (87, .istore 4, 2), (89, .iload 4, 2), (91, .iload_n 3, 1), (92, .if_icmp .ge 35, 3), (95, .aload_n 0, 1), (96, .getfield 7, 3), (99, .bipush 51, 2), (101, .bipush 8, 2), (103, .iload_n 1, 1), (104, .imul, 1), (105, .iadd, 1), (106, .iload 4, 2), (108, .iadd, 1)]
theorem zdb_286 : zdk cX12_trustsLine zdl_286 = true := by decide +kernel
theorem dX12_trustsLine_50 : decode cX12_trustsLine 50 = .ok (.invokestatic 42, 3) := zdk_g zdb_286 (i := 0) rfl
theorem dX12_trustsLine_53 : decode cX12_trustsLine 53 = .ok (.ifCond .eq 9, 3) := zdk_g zdb_286 (i := 1) rfl
theorem dX12_trustsLine_56 : decode cX12_trustsLine 56 = .ok (.iinc 3 1, 3) := zdk_g zdb_286 (i := 2) rfl
theorem dX12_trustsLine_59 : decode cX12_trustsLine 59 = .ok (.goto (-38), 3) := zdk_g zdb_286 (i := 3) rfl
theorem dX12_trustsLine_62 : decode cX12_trustsLine 62 = .ok (.iload_n 3, 1) := zdk_g zdb_286 (i := 4) rfl
theorem dX12_trustsLine_63 : decode cX12_trustsLine 63 = .ok (.aload_n 0, 1) := zdk_g zdb_286 (i := 5) rfl
theorem dX12_trustsLine_64 : decode cX12_trustsLine 64 = .ok (.getfield 7, 3) := zdk_g zdb_286 (i := 6) rfl
theorem dX12_trustsLine_67 : decode cX12_trustsLine 67 = .ok (.iconst 3, 1) := zdk_g zdb_286 (i := 7) rfl
theorem dX12_trustsLine_68 : decode cX12_trustsLine 68 = .ok (.iaload, 1) := zdk_g zdb_286 (i := 8) rfl
theorem dX12_trustsLine_69 : decode cX12_trustsLine 69 = .ok (.if_icmp .eq 8, 3) := zdk_g zdb_286 (i := 9) rfl
theorem dX12_trustsLine_72 : decode cX12_trustsLine 72 = .ok (.aload_n 0, 1) := zdk_g zdb_286 (i := 10) rfl
theorem dX12_trustsLine_73 : decode cX12_trustsLine 73 = .ok (.iload_n 2, 1) := zdk_g zdb_286 (i := 11) rfl
theorem dX12_trustsLine_74 : decode cX12_trustsLine 74 = .ok (.invokevirtual 104, 3) := zdk_g zdb_286 (i := 12) rfl
theorem dX12_trustsLine_77 : decode cX12_trustsLine 77 = .ok (.aload_n 0, 1) := zdk_g zdb_286 (i := 13) rfl
theorem dX12_trustsLine_78 : decode cX12_trustsLine 78 = .ok (.getfield 25, 3) := zdk_g zdb_286 (i := 14) rfl
theorem dX12_trustsLine_81 : decode cX12_trustsLine 81 = .ok (.iconst (-1), 1) := zdk_g zdb_286 (i := 15) rfl
theorem dX12_trustsLine_82 : decode cX12_trustsLine 82 = .ok (.if_icmp .eq 4, 3) := zdk_g zdb_286 (i := 16) rfl
theorem dX12_trustsLine_85 : decode cX12_trustsLine 85 = .ok (.return_, 1) := zdk_g zdb_286 (i := 17) rfl
theorem dX12_trustsLine_86 : decode cX12_trustsLine 86 = .ok (.iconst 0, 1) := zdk_g zdb_286 (i := 18) rfl
theorem dX12_trustsLine_87 : decode cX12_trustsLine 87 = .ok (.istore 4, 2) := zdk_g zdb_286 (i := 19) rfl
theorem dX12_trustsLine_89 : decode cX12_trustsLine 89 = .ok (.iload 4, 2) := zdk_g zdb_286 (i := 20) rfl
theorem dX12_trustsLine_91 : decode cX12_trustsLine 91 = .ok (.iload_n 3, 1) := zdk_g zdb_286 (i := 21) rfl
theorem dX12_trustsLine_92 : decode cX12_trustsLine 92 = .ok (.if_icmp .ge 35, 3) := zdk_g zdb_286 (i := 22) rfl
theorem dX12_trustsLine_95 : decode cX12_trustsLine 95 = .ok (.aload_n 0, 1) := zdk_g zdb_286 (i := 23) rfl
theorem dX12_trustsLine_96 : decode cX12_trustsLine 96 = .ok (.getfield 7, 3) := zdk_g zdb_286 (i := 24) rfl
theorem dX12_trustsLine_99 : decode cX12_trustsLine 99 = .ok (.bipush 51, 2) := zdk_g zdb_286 (i := 25) rfl
theorem dX12_trustsLine_101 : decode cX12_trustsLine 101 = .ok (.bipush 8, 2) := zdk_g zdb_286 (i := 26) rfl
theorem dX12_trustsLine_103 : decode cX12_trustsLine 103 = .ok (.iload_n 1, 1) := zdk_g zdb_286 (i := 27) rfl
theorem dX12_trustsLine_104 : decode cX12_trustsLine 104 = .ok (.imul, 1) := zdk_g zdb_286 (i := 28) rfl
theorem dX12_trustsLine_105 : decode cX12_trustsLine 105 = .ok (.iadd, 1) := zdk_g zdb_286 (i := 29) rfl
theorem dX12_trustsLine_106 : decode cX12_trustsLine 106 = .ok (.iload 4, 2) := zdk_g zdb_286 (i := 30) rfl
theorem dX12_trustsLine_108 : decode cX12_trustsLine 108 = .ok (.iadd, 1) := zdk_g zdb_286 (i := 31) rfl
def zdl_287 : List (Nat × Instr × Nat) := [(109, .aload_n 0, 1), (110, .iload_n 2, 1), (111, .iload 4, 2), (113, .iadd, 1), (114, .invokevirtual 86, 3), (117, .bipush 48, 2), (119, .isub, 1), (120, .iastore, 1), (121, .iinc 4 1, 3), (124, .goto (-35), 3), (127, .aload_n 0, 1), (128, .iload_n 2, 1), (129, .iload_n 3, 1), (130, .iadd, 1), (131, .putfield 80, 3), (134, .return_, 1)]
theorem zdb_287 : zdk cX12_trustsLine zdl_287 = true := by decide +kernel
theorem dX12_trustsLine_109 : decode cX12_trustsLine 109 = .ok (.aload_n 0, 1) := zdk_g zdb_287 (i := 0) rfl
theorem dX12_trustsLine_110 : decode cX12_trustsLine 110 = .ok (.iload_n 2, 1) := zdk_g zdb_287 (i := 1) rfl
theorem dX12_trustsLine_111 : decode cX12_trustsLine 111 = .ok (.iload 4, 2) := zdk_g zdb_287 (i := 2) rfl
theorem dX12_trustsLine_113 : decode cX12_trustsLine 113 = .ok (.iadd, 1) := zdk_g zdb_287 (i := 3) rfl
theorem dX12_trustsLine_114 : decode cX12_trustsLine 114 = .ok (.invokevirtual 86, 3) := zdk_g zdb_287 (i := 4) rfl
theorem dX12_trustsLine_117 : decode cX12_trustsLine 117 = .ok (.bipush 48, 2) := zdk_g zdb_287 (i := 5) rfl
theorem dX12_trustsLine_119 : decode cX12_trustsLine 119 = .ok (.isub, 1) := zdk_g zdb_287 (i := 6) rfl
theorem dX12_trustsLine_120 : decode cX12_trustsLine 120 = .ok (.iastore, 1) := zdk_g zdb_287 (i := 7) rfl
theorem dX12_trustsLine_121 : decode cX12_trustsLine 121 = .ok (.iinc 4 1, 3) := zdk_g zdb_287 (i := 8) rfl
theorem dX12_trustsLine_124 : decode cX12_trustsLine 124 = .ok (.goto (-35), 3) := zdk_g zdb_287 (i := 9) rfl
theorem dX12_trustsLine_127 : decode cX12_trustsLine 127 = .ok (.aload_n 0, 1) := zdk_g zdb_287 (i := 10) rfl
theorem dX12_trustsLine_128 : decode cX12_trustsLine 128 = .ok (.iload_n 2, 1) := zdk_g zdb_287 (i := 11) rfl
theorem dX12_trustsLine_129 : decode cX12_trustsLine 129 = .ok (.iload_n 3, 1) := zdk_g zdb_287 (i := 12) rfl
theorem dX12_trustsLine_130 : decode cX12_trustsLine 130 = .ok (.iadd, 1) := zdk_g zdb_287 (i := 13) rfl
theorem dX12_trustsLine_131 : decode cX12_trustsLine 131 = .ok (.putfield 80, 3) := zdk_g zdb_287 (i := 14) rfl
theorem dX12_trustsLine_134 : decode cX12_trustsLine 134 = .ok (.return_, 1) := zdk_g zdb_287 (i := 15) rfl
def zdl_288 : List (Nat × Instr × Nat) := [(0, .aload_n 0, 1), (1, .getfield 7, 3), (4, .iconst 4, 1), (5, .iaload, 1), (6, .bipush 6, 2), (8, .if_icmp .ne 8, 3), (11, .aload_n 0, 1), (12, .iload_n 1, 1), (13, .invokevirtual 104, 3), (16, .aload_n 0, 1), (17, .iconst 1, 1), (18, .bipush 99, 2), (20, .invokevirtual 112, 3), (23, .istore_n 2, 1), (24, .aload_n 0, 1), (25, .ldc 127, 2), (27, .iconst 0, 1), (28, .sipush 799, 3), (31, .invokevirtual 117, 3), (34, .istore_n 3, 1), (35, .aload_n 0, 1), (36, .ldc 129, 2), (38, .iconst 0, 1), (39, .bipush 20, 2), (41, .invokevirtual 117, 3), (44, .istore 4, 2), (46, .aload_n 0, 1), (47, .getfield 25, 3), (50, .iconst (-1), 1), (51, .if_icmp .eq 4, 3), (54, .return_, 1), (55, .aload_n 0, 1)]
theorem zdb_288 : zdk cX12_workLine zdl_288 = true := by decide +kernel
theorem dX12_workLine_0 : decode cX12_workLine 0 = .ok (.aload_n 0, 1) := zdk_g zdb_288 (i := 0) rfl
theorem dX12_workLine_1 : decode cX12_workLine 1 = .ok (.getfield 7, 3) := zdk_g zdb_288 (i := 1) rfl
theorem dX12_workLine_4 : decode cX12_workLine 4 = .ok (.iconst 4, 1) := zdk_g zdb_288 (i := 2) rfl
theorem dX12_workLine_5 : decode cX12_workLine 5 = .ok (.iaload, 1) := zdk_g zdb_288 (i := 3) rfl
theorem dX12_workLine_6 : decode cX12_workLine 6 = .ok (.bipush 6, 2) := zdk_g zdb_288 (i := 4) rfl
theorem dX12_workLine_8 : decode cX12_workLine 8 = .ok (.if_icmp .ne 8, 3) := zdk_g zdb_288 (i := 5) rfl
theorem dX12_workLine_11 : decode cX12_workLine 11 = .ok (.aload_n 0, 1) := zdk_g zdb_288 (i := 6) rfl
theorem dX12_workLine_12 : decode cX12_workLine 12 = .ok (.iload_n 1, 1) := zdk_g zdb_288 (i := 7) rfl
theorem dX12_workLine_13 : decode cX12_workLine 13 = .ok (.invokevirtual 104, 3) := zdk_g zdb_288 (i := 8) rfl
theorem dX12_workLine_16 : decode cX12_workLine 16 = .ok (.aload_n 0, 1) := zdk_g zdb_288 (i := 9) rfl
theorem dX12_workLine_17 : decode cX12_workLine 17 = .ok (.iconst 1, 1) := zdk_g zdb_288 (i := 10) rfl
theorem dX12_workLine_18 : decode cX12_workLine 18 = .ok (.bipush 99, 2) := zdk_g zdb_288 (i := 11) rfl
theorem dX12_workLine_20 : decode cX12_workLine 20 = .ok (.invokevirtual 112, 3) := zdk_g zdb_288 (i := 12) rfl
theorem dX12_workLine_23 : decode cX12_workLine 23 = .ok (.istore_n 2, 1) := zdk_g zdb_288 (i := 13) rfl
theorem dX12_workLine_24 : decode cX12_workLine 24 = .ok (.aload_n 0, 1) := zdk_g zdb_288 (i := 14) rfl
theorem dX12_workLine_25 : decode cX12_workLine 25 = .ok (.ldc 127, 2) := zdk_g zdb_288 (i := 15) rfl
theorem dX12_workLine_27 : decode cX12_workLine 27 = .ok (.iconst 0, 1) := zdk_g zdb_288 (i := 16) rfl
theorem dX12_workLine_28 : decode cX12_workLine 28 = .ok (.sipush 799, 3) := zdk_g zdb_288 (i := 17) rfl
theorem dX12_workLine_31 : decode cX12_workLine 31 = .ok (.invokevirtual 117, 3) := zdk_g zdb_288 (i := 18) rfl
theorem dX12_workLine_34 : decode cX12_workLine 34 = .ok (.istore_n 3, 1) := zdk_g zdb_288 (i := 19) rfl
theorem dX12_workLine_35 : decode cX12_workLine 35 = .ok (.aload_n 0, 1) := zdk_g zdb_288 (i := 20) rfl
theorem dX12_workLine_36 : decode cX12_workLine 36 = .ok (.ldc 129, 2) := zdk_g zdb_288 (i := 21) rfl
theorem dX12_workLine_38 : decode cX12_workLine 38 = .ok (.iconst 0, 1) := zdk_g zdb_288 (i := 22) rfl
theorem dX12_workLine_39 : decode cX12_workLine 39 = .ok (.bipush 20, 2) := zdk_g zdb_288 (i := 23) rfl
theorem dX12_workLine_41 : decode cX12_workLine 41 = .ok (.invokevirtual 117, 3) := zdk_g zdb_288 (i := 24) rfl
theorem dX12_workLine_44 : decode cX12_workLine 44 = .ok (.istore 4, 2) := zdk_g zdb_288 (i := 25) rfl
theorem dX12_workLine_46 : decode cX12_workLine 46 = .ok (.aload_n 0, 1) := zdk_g zdb_288 (i := 26) rfl
theorem dX12_workLine_47 : decode cX12_workLine 47 = .ok (.getfield 25, 3) := zdk_g zdb_288 (i := 27) rfl
theorem dX12_workLine_50 : decode cX12_workLine 50 = .ok (.iconst (-1), 1) := zdk_g zdb_288 (i := 28) rfl
theorem dX12_workLine_51 : decode cX12_workLine 51 = .ok (.if_icmp .eq 4, 3) := zdk_g zdb_288 (i := 29) rfl
theorem dX12_workLine_54 : decode cX12_workLine 54 = .ok (.return_, 1) := zdk_g zdb_288 (i := 30) rfl
theorem dX12_workLine_55 : decode cX12_workLine 55 = .ok (.aload_n 0, 1) := zdk_g zdb_288 (i := 31) rfl
def zdl_289 : List (Nat × Instr × Nat) := [(56, .getfield 7, 3), (59, .iconst 4, 1), (60, .iaload, 1), (61, .istore 5, 2), (63, .aload_n 0, 1), (64, .iload 5, 2), (66, .iconst 0, 1), (67, .iload_n 2, 1), (68, .invokevirtual 131, 3), (71, .aload_n 0, 1), (72, .iload 5, 2), (74, .iconst 1, 1), (75, .iload_n 3, 1), (76, .invokevirtual 131, 3), (79, .aload_n 0, 1), (80, .iload 5, 2), (82, .iconst 2, 1), (83, .iload 4, 2), (85, .invokevirtual 131, 3), (88, .aload_n 0, 1), (89, .iload 5, 2), (91, .iconst 3, 1), (92, .iconst 0, 1), (93, .invokevirtual 131, 3), (96, .aload_n 0, 1), (97, .getfield 7, 3), (100, .iconst 4, 1), (101, .dup2, 1), (102, .iaload, 1), (103, .iconst 1, 1), (104, .iadd, 1), (105, .iastore, 1)]
theorem zdb_289 : zdk cX12_workLine zdl_289 = true := by decide +kernel
theorem dX12_workLine_56 : decode cX12_workLine 56 = .ok (.getfield 7, 3) := zdk_g zdb_289 (i := 0) rfl
theorem dX12_workLine_59 : decode cX12_workLine 59 = .ok (.iconst 4, 1) := zdk_g zdb_289 (i := 1) rfl
theorem dX12_workLine_60 : decode cX12_workLine 60 = .ok (.iaload, 1) := zdk_g zdb_289 (i := 2) rfl
theorem dX12_workLine_61 : decode cX12_workLine 61 = .ok (.istore 5, 2) := zdk_g zdb_289 (i := 3) rfl
theorem dX12_workLine_63 : decode cX12_workLine 63 = .ok (.aload_n 0, 1) := zdk_g zdb_289 (i := 4) rfl
theorem dX12_workLine_64 : decode cX12_workLine 64 = .ok (.iload 5, 2) := zdk_g zdb_289 (i := 5) rfl
theorem dX12_workLine_66 : decode cX12_workLine 66 = .ok (.iconst 0, 1) := zdk_g zdb_289 (i := 6) rfl
theorem dX12_workLine_67 : decode cX12_workLine 67 = .ok (.iload_n 2, 1) := zdk_g zdb_289 (i := 7) rfl
theorem dX12_workLine_68 : decode cX12_workLine 68 = .ok (.invokevirtual 131, 3) := zdk_g zdb_289 (i := 8) rfl
theorem dX12_workLine_71 : decode cX12_workLine 71 = .ok (.aload_n 0, 1) := zdk_g zdb_289 (i := 9) rfl
theorem dX12_workLine_72 : decode cX12_workLine 72 = .ok (.iload 5, 2) := zdk_g zdb_289 (i := 10) rfl
theorem dX12_workLine_74 : decode cX12_workLine 74 = .ok (.iconst 1, 1) := zdk_g zdb_289 (i := 11) rfl
theorem dX12_workLine_75 : decode cX12_workLine 75 = .ok (.iload_n 3, 1) := zdk_g zdb_289 (i := 12) rfl
theorem dX12_workLine_76 : decode cX12_workLine 76 = .ok (.invokevirtual 131, 3) := zdk_g zdb_289 (i := 13) rfl
theorem dX12_workLine_79 : decode cX12_workLine 79 = .ok (.aload_n 0, 1) := zdk_g zdb_289 (i := 14) rfl
theorem dX12_workLine_80 : decode cX12_workLine 80 = .ok (.iload 5, 2) := zdk_g zdb_289 (i := 15) rfl
theorem dX12_workLine_82 : decode cX12_workLine 82 = .ok (.iconst 2, 1) := zdk_g zdb_289 (i := 16) rfl
theorem dX12_workLine_83 : decode cX12_workLine 83 = .ok (.iload 4, 2) := zdk_g zdb_289 (i := 17) rfl
theorem dX12_workLine_85 : decode cX12_workLine 85 = .ok (.invokevirtual 131, 3) := zdk_g zdb_289 (i := 18) rfl
theorem dX12_workLine_88 : decode cX12_workLine 88 = .ok (.aload_n 0, 1) := zdk_g zdb_289 (i := 19) rfl
theorem dX12_workLine_89 : decode cX12_workLine 89 = .ok (.iload 5, 2) := zdk_g zdb_289 (i := 20) rfl
theorem dX12_workLine_91 : decode cX12_workLine 91 = .ok (.iconst 3, 1) := zdk_g zdb_289 (i := 21) rfl
theorem dX12_workLine_92 : decode cX12_workLine 92 = .ok (.iconst 0, 1) := zdk_g zdb_289 (i := 22) rfl
theorem dX12_workLine_93 : decode cX12_workLine 93 = .ok (.invokevirtual 131, 3) := zdk_g zdb_289 (i := 23) rfl
theorem dX12_workLine_96 : decode cX12_workLine 96 = .ok (.aload_n 0, 1) := zdk_g zdb_289 (i := 24) rfl
theorem dX12_workLine_97 : decode cX12_workLine 97 = .ok (.getfield 7, 3) := zdk_g zdb_289 (i := 25) rfl
theorem dX12_workLine_100 : decode cX12_workLine 100 = .ok (.iconst 4, 1) := zdk_g zdb_289 (i := 26) rfl
theorem dX12_workLine_101 : decode cX12_workLine 101 = .ok (.dup2, 1) := zdk_g zdb_289 (i := 27) rfl
theorem dX12_workLine_102 : decode cX12_workLine 102 = .ok (.iaload, 1) := zdk_g zdb_289 (i := 28) rfl
theorem dX12_workLine_103 : decode cX12_workLine 103 = .ok (.iconst 1, 1) := zdk_g zdb_289 (i := 29) rfl
theorem dX12_workLine_104 : decode cX12_workLine 104 = .ok (.iadd, 1) := zdk_g zdb_289 (i := 30) rfl
theorem dX12_workLine_105 : decode cX12_workLine 105 = .ok (.iastore, 1) := zdk_g zdb_289 (i := 31) rfl
def zdl_290 : List (Nat × Instr × Nat) := [(106, .return_, 1)]
theorem zdb_290 : zdk cX12_workLine zdl_290 = true := by decide +kernel
theorem dX12_workLine_106 : decode cX12_workLine 106 = .ok (.return_, 1) := zdk_g zdb_290 (i := 0) rfl
def zdl_291 : List (Nat × Instr × Nat) := [(0, .aload_n 0, 1), (1, .iload_n 2, 1), (2, .iload_n 3, 1), (3, .invokevirtual 112, 3), (6, .istore 4, 2), (8, .aload_n 0, 1), (9, .getfield 25, 3), (12, .iconst (-1), 1), (13, .if_icmp .ne 11, 3), (16, .aload_n 0, 1), (17, .getfield 7, 3), (20, .iload_n 1, 1), (21, .iload 4, 2), (23, .iastore, 1), (24, .return_, 1)]
theorem zdb_291 : zdk cX12_tells zdl_291 = true := by decide +kernel
theorem dX12_tells_0 : decode cX12_tells 0 = .ok (.aload_n 0, 1) := zdk_g zdb_291 (i := 0) rfl
theorem dX12_tells_1 : decode cX12_tells 1 = .ok (.iload_n 2, 1) := zdk_g zdb_291 (i := 1) rfl
theorem dX12_tells_2 : decode cX12_tells 2 = .ok (.iload_n 3, 1) := zdk_g zdb_291 (i := 2) rfl
theorem dX12_tells_3 : decode cX12_tells 3 = .ok (.invokevirtual 112, 3) := zdk_g zdb_291 (i := 3) rfl
theorem dX12_tells_6 : decode cX12_tells 6 = .ok (.istore 4, 2) := zdk_g zdb_291 (i := 4) rfl
theorem dX12_tells_8 : decode cX12_tells 8 = .ok (.aload_n 0, 1) := zdk_g zdb_291 (i := 5) rfl
theorem dX12_tells_9 : decode cX12_tells 9 = .ok (.getfield 25, 3) := zdk_g zdb_291 (i := 6) rfl
theorem dX12_tells_12 : decode cX12_tells 12 = .ok (.iconst (-1), 1) := zdk_g zdb_291 (i := 7) rfl
theorem dX12_tells_13 : decode cX12_tells 13 = .ok (.if_icmp .ne 11, 3) := zdk_g zdb_291 (i := 8) rfl
theorem dX12_tells_16 : decode cX12_tells 16 = .ok (.aload_n 0, 1) := zdk_g zdb_291 (i := 9) rfl
theorem dX12_tells_17 : decode cX12_tells 17 = .ok (.getfield 7, 3) := zdk_g zdb_291 (i := 10) rfl
theorem dX12_tells_20 : decode cX12_tells 20 = .ok (.iload_n 1, 1) := zdk_g zdb_291 (i := 11) rfl
theorem dX12_tells_21 : decode cX12_tells 21 = .ok (.iload 4, 2) := zdk_g zdb_291 (i := 12) rfl
theorem dX12_tells_23 : decode cX12_tells 23 = .ok (.iastore, 1) := zdk_g zdb_291 (i := 13) rfl
theorem dX12_tells_24 : decode cX12_tells 24 = .ok (.return_, 1) := zdk_g zdb_291 (i := 14) rfl
def zdl_292 : List (Nat × Instr × Nat) := [(0, .aload_n 0, 1), (1, .invokevirtual 101, 3), (4, .istore_n 1, 1), (5, .aload_n 0, 1), (6, .ldc 134, 2), (8, .invokevirtual 108, 3), (11, .ifCond .eq 11, 3), (14, .aload_n 0, 1), (15, .iload_n 1, 1), (16, .invokevirtual 136, 3), (19, .goto 178, 3), (22, .aload_n 0, 1), (23, .ldc 139, 2), (25, .invokevirtual 108, 3), (28, .ifCond .eq 10, 3), (31, .aload_n 0, 1), (32, .invokevirtual 141, 3), (35, .goto 162, 3), (38, .aload_n 0, 1), (39, .ldc 144, 2), (41, .invokevirtual 108, 3), (44, .ifCond .eq 11, 3), (47, .aload_n 0, 1), (48, .iload_n 1, 1), (49, .invokevirtual 146, 3), (52, .goto 145, 3), (55, .aload_n 0, 1), (56, .ldc 149, 2), (58, .invokevirtual 108, 3), (61, .ifCond .eq 15, 3), (64, .aload_n 0, 1), (65, .iconst 5, 1)]
theorem zdb_292 : zdk cX12_townLine zdl_292 = true := by decide +kernel
theorem dX12_townLine_0 : decode cX12_townLine 0 = .ok (.aload_n 0, 1) := zdk_g zdb_292 (i := 0) rfl
theorem dX12_townLine_1 : decode cX12_townLine 1 = .ok (.invokevirtual 101, 3) := zdk_g zdb_292 (i := 1) rfl
theorem dX12_townLine_4 : decode cX12_townLine 4 = .ok (.istore_n 1, 1) := zdk_g zdb_292 (i := 2) rfl
theorem dX12_townLine_5 : decode cX12_townLine 5 = .ok (.aload_n 0, 1) := zdk_g zdb_292 (i := 3) rfl
theorem dX12_townLine_6 : decode cX12_townLine 6 = .ok (.ldc 134, 2) := zdk_g zdb_292 (i := 4) rfl
theorem dX12_townLine_8 : decode cX12_townLine 8 = .ok (.invokevirtual 108, 3) := zdk_g zdb_292 (i := 5) rfl
theorem dX12_townLine_11 : decode cX12_townLine 11 = .ok (.ifCond .eq 11, 3) := zdk_g zdb_292 (i := 6) rfl
theorem dX12_townLine_14 : decode cX12_townLine 14 = .ok (.aload_n 0, 1) := zdk_g zdb_292 (i := 7) rfl
theorem dX12_townLine_15 : decode cX12_townLine 15 = .ok (.iload_n 1, 1) := zdk_g zdb_292 (i := 8) rfl
theorem dX12_townLine_16 : decode cX12_townLine 16 = .ok (.invokevirtual 136, 3) := zdk_g zdb_292 (i := 9) rfl
theorem dX12_townLine_19 : decode cX12_townLine 19 = .ok (.goto 178, 3) := zdk_g zdb_292 (i := 10) rfl
theorem dX12_townLine_22 : decode cX12_townLine 22 = .ok (.aload_n 0, 1) := zdk_g zdb_292 (i := 11) rfl
theorem dX12_townLine_23 : decode cX12_townLine 23 = .ok (.ldc 139, 2) := zdk_g zdb_292 (i := 12) rfl
theorem dX12_townLine_25 : decode cX12_townLine 25 = .ok (.invokevirtual 108, 3) := zdk_g zdb_292 (i := 13) rfl
theorem dX12_townLine_28 : decode cX12_townLine 28 = .ok (.ifCond .eq 10, 3) := zdk_g zdb_292 (i := 14) rfl
theorem dX12_townLine_31 : decode cX12_townLine 31 = .ok (.aload_n 0, 1) := zdk_g zdb_292 (i := 15) rfl
theorem dX12_townLine_32 : decode cX12_townLine 32 = .ok (.invokevirtual 141, 3) := zdk_g zdb_292 (i := 16) rfl
theorem dX12_townLine_35 : decode cX12_townLine 35 = .ok (.goto 162, 3) := zdk_g zdb_292 (i := 17) rfl
theorem dX12_townLine_38 : decode cX12_townLine 38 = .ok (.aload_n 0, 1) := zdk_g zdb_292 (i := 18) rfl
theorem dX12_townLine_39 : decode cX12_townLine 39 = .ok (.ldc 144, 2) := zdk_g zdb_292 (i := 19) rfl
theorem dX12_townLine_41 : decode cX12_townLine 41 = .ok (.invokevirtual 108, 3) := zdk_g zdb_292 (i := 20) rfl
theorem dX12_townLine_44 : decode cX12_townLine 44 = .ok (.ifCond .eq 11, 3) := zdk_g zdb_292 (i := 21) rfl
theorem dX12_townLine_47 : decode cX12_townLine 47 = .ok (.aload_n 0, 1) := zdk_g zdb_292 (i := 22) rfl
theorem dX12_townLine_48 : decode cX12_townLine 48 = .ok (.iload_n 1, 1) := zdk_g zdb_292 (i := 23) rfl
theorem dX12_townLine_49 : decode cX12_townLine 49 = .ok (.invokevirtual 146, 3) := zdk_g zdb_292 (i := 24) rfl
theorem dX12_townLine_52 : decode cX12_townLine 52 = .ok (.goto 145, 3) := zdk_g zdb_292 (i := 25) rfl
theorem dX12_townLine_55 : decode cX12_townLine 55 = .ok (.aload_n 0, 1) := zdk_g zdb_292 (i := 26) rfl
theorem dX12_townLine_56 : decode cX12_townLine 56 = .ok (.ldc 149, 2) := zdk_g zdb_292 (i := 27) rfl
theorem dX12_townLine_58 : decode cX12_townLine 58 = .ok (.invokevirtual 108, 3) := zdk_g zdb_292 (i := 28) rfl
theorem dX12_townLine_61 : decode cX12_townLine 61 = .ok (.ifCond .eq 15, 3) := zdk_g zdb_292 (i := 29) rfl
theorem dX12_townLine_64 : decode cX12_townLine 64 = .ok (.aload_n 0, 1) := zdk_g zdb_292 (i := 30) rfl
theorem dX12_townLine_65 : decode cX12_townLine 65 = .ok (.iconst 5, 1) := zdk_g zdb_292 (i := 31) rfl
def zdl_293 : List (Nat × Instr × Nat) := [(66, .iconst 0, 1), (67, .sipush 999, 3), (70, .invokevirtual 151, 3), (73, .goto 124, 3), (76, .aload_n 0, 1), (77, .ldc 154, 2), (79, .invokevirtual 108, 3), (82, .ifCond .eq 15, 3), (85, .aload_n 0, 1), (86, .bipush 6, 2), (88, .iconst 1, 1), (89, .bipush 30, 2), (91, .invokevirtual 151, 3), (94, .goto 103, 3), (97, .aload_n 0, 1), (98, .ldc 156, 2), (100, .invokevirtual 108, 3), (103, .ifCond .eq 15, 3), (106, .aload_n 0, 1), (107, .bipush 7, 2), (109, .iconst 0, 1), (110, .bipush 100, 2), (112, .invokevirtual 151, 3), (115, .goto 82, 3), (118, .aload_n 0, 1), (119, .ldc 158, 2), (121, .invokevirtual 108, 3), (124, .ifCond .eq 43, 3), (127, .aload_n 0, 1), (128, .iconst 0, 1), (129, .aload_n 0, 1), (130, .getfield 7, 3)]
theorem zdb_293 : zdk cX12_townLine zdl_293 = true := by decide +kernel
theorem dX12_townLine_66 : decode cX12_townLine 66 = .ok (.iconst 0, 1) := zdk_g zdb_293 (i := 0) rfl
theorem dX12_townLine_67 : decode cX12_townLine 67 = .ok (.sipush 999, 3) := zdk_g zdb_293 (i := 1) rfl
theorem dX12_townLine_70 : decode cX12_townLine 70 = .ok (.invokevirtual 151, 3) := zdk_g zdb_293 (i := 2) rfl
theorem dX12_townLine_73 : decode cX12_townLine 73 = .ok (.goto 124, 3) := zdk_g zdb_293 (i := 3) rfl
theorem dX12_townLine_76 : decode cX12_townLine 76 = .ok (.aload_n 0, 1) := zdk_g zdb_293 (i := 4) rfl
theorem dX12_townLine_77 : decode cX12_townLine 77 = .ok (.ldc 154, 2) := zdk_g zdb_293 (i := 5) rfl
theorem dX12_townLine_79 : decode cX12_townLine 79 = .ok (.invokevirtual 108, 3) := zdk_g zdb_293 (i := 6) rfl
theorem dX12_townLine_82 : decode cX12_townLine 82 = .ok (.ifCond .eq 15, 3) := zdk_g zdb_293 (i := 7) rfl
theorem dX12_townLine_85 : decode cX12_townLine 85 = .ok (.aload_n 0, 1) := zdk_g zdb_293 (i := 8) rfl
theorem dX12_townLine_86 : decode cX12_townLine 86 = .ok (.bipush 6, 2) := zdk_g zdb_293 (i := 9) rfl
theorem dX12_townLine_88 : decode cX12_townLine 88 = .ok (.iconst 1, 1) := zdk_g zdb_293 (i := 10) rfl
theorem dX12_townLine_89 : decode cX12_townLine 89 = .ok (.bipush 30, 2) := zdk_g zdb_293 (i := 11) rfl
theorem dX12_townLine_91 : decode cX12_townLine 91 = .ok (.invokevirtual 151, 3) := zdk_g zdb_293 (i := 12) rfl
theorem dX12_townLine_94 : decode cX12_townLine 94 = .ok (.goto 103, 3) := zdk_g zdb_293 (i := 13) rfl
theorem dX12_townLine_97 : decode cX12_townLine 97 = .ok (.aload_n 0, 1) := zdk_g zdb_293 (i := 14) rfl
theorem dX12_townLine_98 : decode cX12_townLine 98 = .ok (.ldc 156, 2) := zdk_g zdb_293 (i := 15) rfl
theorem dX12_townLine_100 : decode cX12_townLine 100 = .ok (.invokevirtual 108, 3) := zdk_g zdb_293 (i := 16) rfl
theorem dX12_townLine_103 : decode cX12_townLine 103 = .ok (.ifCond .eq 15, 3) := zdk_g zdb_293 (i := 17) rfl
theorem dX12_townLine_106 : decode cX12_townLine 106 = .ok (.aload_n 0, 1) := zdk_g zdb_293 (i := 18) rfl
theorem dX12_townLine_107 : decode cX12_townLine 107 = .ok (.bipush 7, 2) := zdk_g zdb_293 (i := 19) rfl
theorem dX12_townLine_109 : decode cX12_townLine 109 = .ok (.iconst 0, 1) := zdk_g zdb_293 (i := 20) rfl
theorem dX12_townLine_110 : decode cX12_townLine 110 = .ok (.bipush 100, 2) := zdk_g zdb_293 (i := 21) rfl
theorem dX12_townLine_112 : decode cX12_townLine 112 = .ok (.invokevirtual 151, 3) := zdk_g zdb_293 (i := 22) rfl
theorem dX12_townLine_115 : decode cX12_townLine 115 = .ok (.goto 82, 3) := zdk_g zdb_293 (i := 23) rfl
theorem dX12_townLine_118 : decode cX12_townLine 118 = .ok (.aload_n 0, 1) := zdk_g zdb_293 (i := 24) rfl
theorem dX12_townLine_119 : decode cX12_townLine 119 = .ok (.ldc 158, 2) := zdk_g zdb_293 (i := 25) rfl
theorem dX12_townLine_121 : decode cX12_townLine 121 = .ok (.invokevirtual 108, 3) := zdk_g zdb_293 (i := 26) rfl
theorem dX12_townLine_124 : decode cX12_townLine 124 = .ok (.ifCond .eq 43, 3) := zdk_g zdb_293 (i := 27) rfl
theorem dX12_townLine_127 : decode cX12_townLine 127 = .ok (.aload_n 0, 1) := zdk_g zdb_293 (i := 28) rfl
theorem dX12_townLine_128 : decode cX12_townLine 128 = .ok (.iconst 0, 1) := zdk_g zdb_293 (i := 29) rfl
theorem dX12_townLine_129 : decode cX12_townLine 129 = .ok (.aload_n 0, 1) := zdk_g zdb_293 (i := 30) rfl
theorem dX12_townLine_130 : decode cX12_townLine 130 = .ok (.getfield 7, 3) := zdk_g zdb_293 (i := 31) rfl
def zdl_294 : List (Nat × Instr × Nat) := [(133, .iconst 3, 1), (134, .iaload, 1), (135, .iconst 1, 1), (136, .isub, 1), (137, .invokevirtual 112, 3), (140, .istore_n 2, 1), (141, .aload_n 0, 1), (142, .getfield 25, 3), (145, .iconst (-1), 1), (146, .if_icmp .ne 18, 3), (149, .aload_n 0, 1), (150, .bipush 11, 2), (152, .iconst 5, 1), (153, .iload_n 2, 1), (154, .imul, 1), (155, .iadd, 1), (156, .iconst 2, 1), (157, .iadd, 1), (158, .iconst 0, 1), (159, .bipush 99, 2), (161, .invokevirtual 151, 3), (164, .goto 33, 3), (167, .aload_n 0, 1), (168, .ldc 160, 2), (170, .invokevirtual 108, 3), (173, .ifCond .eq 16, 3), (176, .aload_n 0, 1), (177, .bipush 8, 2), (179, .iconst 0, 1), (180, .sipush 999, 3), (183, .invokevirtual 151, 3), (186, .goto 11, 3)]
theorem zdb_294 : zdk cX12_townLine zdl_294 = true := by decide +kernel
theorem dX12_townLine_133 : decode cX12_townLine 133 = .ok (.iconst 3, 1) := zdk_g zdb_294 (i := 0) rfl
theorem dX12_townLine_134 : decode cX12_townLine 134 = .ok (.iaload, 1) := zdk_g zdb_294 (i := 1) rfl
theorem dX12_townLine_135 : decode cX12_townLine 135 = .ok (.iconst 1, 1) := zdk_g zdb_294 (i := 2) rfl
theorem dX12_townLine_136 : decode cX12_townLine 136 = .ok (.isub, 1) := zdk_g zdb_294 (i := 3) rfl
theorem dX12_townLine_137 : decode cX12_townLine 137 = .ok (.invokevirtual 112, 3) := zdk_g zdb_294 (i := 4) rfl
theorem dX12_townLine_140 : decode cX12_townLine 140 = .ok (.istore_n 2, 1) := zdk_g zdb_294 (i := 5) rfl
theorem dX12_townLine_141 : decode cX12_townLine 141 = .ok (.aload_n 0, 1) := zdk_g zdb_294 (i := 6) rfl
theorem dX12_townLine_142 : decode cX12_townLine 142 = .ok (.getfield 25, 3) := zdk_g zdb_294 (i := 7) rfl
theorem dX12_townLine_145 : decode cX12_townLine 145 = .ok (.iconst (-1), 1) := zdk_g zdb_294 (i := 8) rfl
theorem dX12_townLine_146 : decode cX12_townLine 146 = .ok (.if_icmp .ne 18, 3) := zdk_g zdb_294 (i := 9) rfl
theorem dX12_townLine_149 : decode cX12_townLine 149 = .ok (.aload_n 0, 1) := zdk_g zdb_294 (i := 10) rfl
theorem dX12_townLine_150 : decode cX12_townLine 150 = .ok (.bipush 11, 2) := zdk_g zdb_294 (i := 11) rfl
theorem dX12_townLine_152 : decode cX12_townLine 152 = .ok (.iconst 5, 1) := zdk_g zdb_294 (i := 12) rfl
theorem dX12_townLine_153 : decode cX12_townLine 153 = .ok (.iload_n 2, 1) := zdk_g zdb_294 (i := 13) rfl
theorem dX12_townLine_154 : decode cX12_townLine 154 = .ok (.imul, 1) := zdk_g zdb_294 (i := 14) rfl
theorem dX12_townLine_155 : decode cX12_townLine 155 = .ok (.iadd, 1) := zdk_g zdb_294 (i := 15) rfl
theorem dX12_townLine_156 : decode cX12_townLine 156 = .ok (.iconst 2, 1) := zdk_g zdb_294 (i := 16) rfl
theorem dX12_townLine_157 : decode cX12_townLine 157 = .ok (.iadd, 1) := zdk_g zdb_294 (i := 17) rfl
theorem dX12_townLine_158 : decode cX12_townLine 158 = .ok (.iconst 0, 1) := zdk_g zdb_294 (i := 18) rfl
theorem dX12_townLine_159 : decode cX12_townLine 159 = .ok (.bipush 99, 2) := zdk_g zdb_294 (i := 19) rfl
theorem dX12_townLine_161 : decode cX12_townLine 161 = .ok (.invokevirtual 151, 3) := zdk_g zdb_294 (i := 20) rfl
theorem dX12_townLine_164 : decode cX12_townLine 164 = .ok (.goto 33, 3) := zdk_g zdb_294 (i := 21) rfl
theorem dX12_townLine_167 : decode cX12_townLine 167 = .ok (.aload_n 0, 1) := zdk_g zdb_294 (i := 22) rfl
theorem dX12_townLine_168 : decode cX12_townLine 168 = .ok (.ldc 160, 2) := zdk_g zdb_294 (i := 23) rfl
theorem dX12_townLine_170 : decode cX12_townLine 170 = .ok (.invokevirtual 108, 3) := zdk_g zdb_294 (i := 24) rfl
theorem dX12_townLine_173 : decode cX12_townLine 173 = .ok (.ifCond .eq 16, 3) := zdk_g zdb_294 (i := 25) rfl
theorem dX12_townLine_176 : decode cX12_townLine 176 = .ok (.aload_n 0, 1) := zdk_g zdb_294 (i := 26) rfl
theorem dX12_townLine_177 : decode cX12_townLine 177 = .ok (.bipush 8, 2) := zdk_g zdb_294 (i := 27) rfl
theorem dX12_townLine_179 : decode cX12_townLine 179 = .ok (.iconst 0, 1) := zdk_g zdb_294 (i := 28) rfl
theorem dX12_townLine_180 : decode cX12_townLine 180 = .ok (.sipush 999, 3) := zdk_g zdb_294 (i := 29) rfl
theorem dX12_townLine_183 : decode cX12_townLine 183 = .ok (.invokevirtual 151, 3) := zdk_g zdb_294 (i := 30) rfl
theorem dX12_townLine_186 : decode cX12_townLine 186 = .ok (.goto 11, 3) := zdk_g zdb_294 (i := 31) rfl
def zdl_295 : List (Nat × Instr × Nat) := [(189, .aload_n 0, 1), (190, .aload_n 0, 1), (191, .getfield 80, 3), (194, .invokevirtual 104, 3), (197, .return_, 1)]
theorem zdb_295 : zdk cX12_townLine zdl_295 = true := by decide +kernel
theorem dX12_townLine_189 : decode cX12_townLine 189 = .ok (.aload_n 0, 1) := zdk_g zdb_295 (i := 0) rfl
theorem dX12_townLine_190 : decode cX12_townLine 190 = .ok (.aload_n 0, 1) := zdk_g zdb_295 (i := 1) rfl
theorem dX12_townLine_191 : decode cX12_townLine 191 = .ok (.getfield 80, 3) := zdk_g zdb_295 (i := 2) rfl
theorem dX12_townLine_194 : decode cX12_townLine 194 = .ok (.invokevirtual 104, 3) := zdk_g zdb_295 (i := 3) rfl
theorem dX12_townLine_197 : decode cX12_townLine 197 = .ok (.return_, 1) := zdk_g zdb_295 (i := 4) rfl
def zdl_296 : List (Nat × Instr × Nat) := [(0, .aload_n 0, 1), (1, .iconst (-1), 1), (2, .putfield 25, 3), (5, .aload_n 0, 1), (6, .iconst (-1), 1), (7, .putfield 77, 3), (10, .aload_n 0, 1), (11, .aload_n 0, 1), (12, .getfield 74, 3), (15, .putfield 83, 3), (18, .aload_n 0, 1), (19, .iconst 0, 1), (20, .putfield 74, 3), (23, .aload_n 0, 1), (24, .iconst 0, 1), (25, .putfield 80, 3), (28, .aload_n 0, 1), (29, .iconst 0, 1), (30, .putfield 162, 3), (33, .return_, 1)]
theorem zdb_296 : zdk cX12_begins zdl_296 = true := by decide +kernel
theorem dX12_begins_0 : decode cX12_begins 0 = .ok (.aload_n 0, 1) := zdk_g zdb_296 (i := 0) rfl
theorem dX12_begins_1 : decode cX12_begins 1 = .ok (.iconst (-1), 1) := zdk_g zdb_296 (i := 1) rfl
theorem dX12_begins_2 : decode cX12_begins 2 = .ok (.putfield 25, 3) := zdk_g zdb_296 (i := 2) rfl
theorem dX12_begins_5 : decode cX12_begins 5 = .ok (.aload_n 0, 1) := zdk_g zdb_296 (i := 3) rfl
theorem dX12_begins_6 : decode cX12_begins 6 = .ok (.iconst (-1), 1) := zdk_g zdb_296 (i := 4) rfl
theorem dX12_begins_7 : decode cX12_begins 7 = .ok (.putfield 77, 3) := zdk_g zdb_296 (i := 5) rfl
theorem dX12_begins_10 : decode cX12_begins 10 = .ok (.aload_n 0, 1) := zdk_g zdb_296 (i := 6) rfl
theorem dX12_begins_11 : decode cX12_begins 11 = .ok (.aload_n 0, 1) := zdk_g zdb_296 (i := 7) rfl
theorem dX12_begins_12 : decode cX12_begins 12 = .ok (.getfield 74, 3) := zdk_g zdb_296 (i := 8) rfl
theorem dX12_begins_15 : decode cX12_begins 15 = .ok (.putfield 83, 3) := zdk_g zdb_296 (i := 9) rfl
theorem dX12_begins_18 : decode cX12_begins 18 = .ok (.aload_n 0, 1) := zdk_g zdb_296 (i := 10) rfl
theorem dX12_begins_19 : decode cX12_begins 19 = .ok (.iconst 0, 1) := zdk_g zdb_296 (i := 11) rfl
theorem dX12_begins_20 : decode cX12_begins 20 = .ok (.putfield 74, 3) := zdk_g zdb_296 (i := 12) rfl
theorem dX12_begins_23 : decode cX12_begins 23 = .ok (.aload_n 0, 1) := zdk_g zdb_296 (i := 13) rfl
theorem dX12_begins_24 : decode cX12_begins 24 = .ok (.iconst 0, 1) := zdk_g zdb_296 (i := 14) rfl
theorem dX12_begins_25 : decode cX12_begins 25 = .ok (.putfield 80, 3) := zdk_g zdb_296 (i := 15) rfl
theorem dX12_begins_28 : decode cX12_begins 28 = .ok (.aload_n 0, 1) := zdk_g zdb_296 (i := 16) rfl
theorem dX12_begins_29 : decode cX12_begins 29 = .ok (.iconst 0, 1) := zdk_g zdb_296 (i := 17) rfl
theorem dX12_begins_30 : decode cX12_begins 30 = .ok (.putfield 162, 3) := zdk_g zdb_296 (i := 18) rfl
theorem dX12_begins_33 : decode cX12_begins 33 = .ok (.return_, 1) := zdk_g zdb_296 (i := 19) rfl
def zdl_297 : List (Nat × Instr × Nat) := [(0, .aload_n 0, 1), (1, .invokevirtual 89, 3), (4, .aload_n 0, 1), (5, .getfield 80, 3), (8, .aload_n 0, 1), (9, .getfield 83, 3), (12, .if_icmp .ge 7, 3), (15, .iconst 1, 1), (16, .goto 4, 3), (19, .iconst 0, 1), (20, .istore_n 2, 1), (21, .iconst 0, 1), (22, .istore_n 3, 1), (23, .iload_n 2, 1), (24, .ifCond .eq 120, 3), (27, .aload_n 0, 1), (28, .getfield 25, 3), (31, .iconst (-1), 1), (32, .if_icmp .ne 112, 3), (35, .aload_n 0, 1), (36, .invokevirtual 89, 3), (39, .iload_n 3, 1), (40, .iload_n 1, 1), (41, .ifCond .eq 8, 3), (44, .bipush 12, 2), (46, .goto 5, 3), (49, .bipush 14, 2), (51, .if_icmp .ne 14, 3), (54, .aload_n 0, 1), (55, .aload_n 0, 1), (56, .getfield 80, 3), (59, .invokevirtual 104, 3)]
theorem zdb_297 : zdk cX12_read zdl_297 = true := by decide +kernel
theorem dX12_read_0 : decode cX12_read 0 = .ok (.aload_n 0, 1) := zdk_g zdb_297 (i := 0) rfl
theorem dX12_read_1 : decode cX12_read 1 = .ok (.invokevirtual 89, 3) := zdk_g zdb_297 (i := 1) rfl
theorem dX12_read_4 : decode cX12_read 4 = .ok (.aload_n 0, 1) := zdk_g zdb_297 (i := 2) rfl
theorem dX12_read_5 : decode cX12_read 5 = .ok (.getfield 80, 3) := zdk_g zdb_297 (i := 3) rfl
theorem dX12_read_8 : decode cX12_read 8 = .ok (.aload_n 0, 1) := zdk_g zdb_297 (i := 4) rfl
theorem dX12_read_9 : decode cX12_read 9 = .ok (.getfield 83, 3) := zdk_g zdb_297 (i := 5) rfl
theorem dX12_read_12 : decode cX12_read 12 = .ok (.if_icmp .ge 7, 3) := zdk_g zdb_297 (i := 6) rfl
theorem dX12_read_15 : decode cX12_read 15 = .ok (.iconst 1, 1) := zdk_g zdb_297 (i := 7) rfl
theorem dX12_read_16 : decode cX12_read 16 = .ok (.goto 4, 3) := zdk_g zdb_297 (i := 8) rfl
theorem dX12_read_19 : decode cX12_read 19 = .ok (.iconst 0, 1) := zdk_g zdb_297 (i := 9) rfl
theorem dX12_read_20 : decode cX12_read 20 = .ok (.istore_n 2, 1) := zdk_g zdb_297 (i := 10) rfl
theorem dX12_read_21 : decode cX12_read 21 = .ok (.iconst 0, 1) := zdk_g zdb_297 (i := 11) rfl
theorem dX12_read_22 : decode cX12_read 22 = .ok (.istore_n 3, 1) := zdk_g zdb_297 (i := 12) rfl
theorem dX12_read_23 : decode cX12_read 23 = .ok (.iload_n 2, 1) := zdk_g zdb_297 (i := 13) rfl
theorem dX12_read_24 : decode cX12_read 24 = .ok (.ifCond .eq 120, 3) := zdk_g zdb_297 (i := 14) rfl
theorem dX12_read_27 : decode cX12_read 27 = .ok (.aload_n 0, 1) := zdk_g zdb_297 (i := 15) rfl
theorem dX12_read_28 : decode cX12_read 28 = .ok (.getfield 25, 3) := zdk_g zdb_297 (i := 16) rfl
theorem dX12_read_31 : decode cX12_read 31 = .ok (.iconst (-1), 1) := zdk_g zdb_297 (i := 17) rfl
theorem dX12_read_32 : decode cX12_read 32 = .ok (.if_icmp .ne 112, 3) := zdk_g zdb_297 (i := 18) rfl
theorem dX12_read_35 : decode cX12_read 35 = .ok (.aload_n 0, 1) := zdk_g zdb_297 (i := 19) rfl
theorem dX12_read_36 : decode cX12_read 36 = .ok (.invokevirtual 89, 3) := zdk_g zdb_297 (i := 20) rfl
theorem dX12_read_39 : decode cX12_read 39 = .ok (.iload_n 3, 1) := zdk_g zdb_297 (i := 21) rfl
theorem dX12_read_40 : decode cX12_read 40 = .ok (.iload_n 1, 1) := zdk_g zdb_297 (i := 22) rfl
theorem dX12_read_41 : decode cX12_read 41 = .ok (.ifCond .eq 8, 3) := zdk_g zdb_297 (i := 23) rfl
theorem dX12_read_44 : decode cX12_read 44 = .ok (.bipush 12, 2) := zdk_g zdb_297 (i := 24) rfl
theorem dX12_read_46 : decode cX12_read 46 = .ok (.goto 5, 3) := zdk_g zdb_297 (i := 25) rfl
theorem dX12_read_49 : decode cX12_read 49 = .ok (.bipush 14, 2) := zdk_g zdb_297 (i := 26) rfl
theorem dX12_read_51 : decode cX12_read 51 = .ok (.if_icmp .ne 14, 3) := zdk_g zdb_297 (i := 27) rfl
theorem dX12_read_54 : decode cX12_read 54 = .ok (.aload_n 0, 1) := zdk_g zdb_297 (i := 28) rfl
theorem dX12_read_55 : decode cX12_read 55 = .ok (.aload_n 0, 1) := zdk_g zdb_297 (i := 29) rfl
theorem dX12_read_56 : decode cX12_read 56 = .ok (.getfield 80, 3) := zdk_g zdb_297 (i := 30) rfl
theorem dX12_read_59 : decode cX12_read 59 = .ok (.invokevirtual 104, 3) := zdk_g zdb_297 (i := 31) rfl
def zdl_298 : List (Nat × Instr × Nat) := [(62, .goto 18, 3), (65, .iload_n 1, 1), (66, .ifCond .eq 10, 3), (69, .aload_n 0, 1), (70, .invokevirtual 165, 3), (73, .goto 7, 3), (76, .aload_n 0, 1), (77, .invokevirtual 168, 3), (80, .iinc 3 1, 3), (83, .aload_n 0, 1), (84, .invokevirtual 89, 3), (87, .aload_n 0, 1), (88, .getfield 25, 3), (91, .iconst (-1), 1), (92, .if_icmp .ne 14, 3), (95, .aload_n 0, 1), (96, .getfield 80, 3), (99, .aload_n 0, 1), (100, .getfield 83, 3), (103, .if_icmp .ne 8, 3), (106, .iconst 0, 1), (107, .istore_n 2, 1), (108, .goto (-85), 3), (111, .aload_n 0, 1), (112, .bipush 59, 2), (114, .invokevirtual 171, 3), (117, .ifCond .eq 16, 3), (120, .aload_n 0, 1), (121, .dup, 1), (122, .getfield 80, 3), (125, .iconst 1, 1), (126, .iadd, 1)]
theorem zdb_298 : zdk cX12_read zdl_298 = true := by decide +kernel
theorem dX12_read_62 : decode cX12_read 62 = .ok (.goto 18, 3) := zdk_g zdb_298 (i := 0) rfl
theorem dX12_read_65 : decode cX12_read 65 = .ok (.iload_n 1, 1) := zdk_g zdb_298 (i := 1) rfl
theorem dX12_read_66 : decode cX12_read 66 = .ok (.ifCond .eq 10, 3) := zdk_g zdb_298 (i := 2) rfl
theorem dX12_read_69 : decode cX12_read 69 = .ok (.aload_n 0, 1) := zdk_g zdb_298 (i := 3) rfl
theorem dX12_read_70 : decode cX12_read 70 = .ok (.invokevirtual 165, 3) := zdk_g zdb_298 (i := 4) rfl
theorem dX12_read_73 : decode cX12_read 73 = .ok (.goto 7, 3) := zdk_g zdb_298 (i := 5) rfl
theorem dX12_read_76 : decode cX12_read 76 = .ok (.aload_n 0, 1) := zdk_g zdb_298 (i := 6) rfl
theorem dX12_read_77 : decode cX12_read 77 = .ok (.invokevirtual 168, 3) := zdk_g zdb_298 (i := 7) rfl
theorem dX12_read_80 : decode cX12_read 80 = .ok (.iinc 3 1, 3) := zdk_g zdb_298 (i := 8) rfl
theorem dX12_read_83 : decode cX12_read 83 = .ok (.aload_n 0, 1) := zdk_g zdb_298 (i := 9) rfl
theorem dX12_read_84 : decode cX12_read 84 = .ok (.invokevirtual 89, 3) := zdk_g zdb_298 (i := 10) rfl
theorem dX12_read_87 : decode cX12_read 87 = .ok (.aload_n 0, 1) := zdk_g zdb_298 (i := 11) rfl
theorem dX12_read_88 : decode cX12_read 88 = .ok (.getfield 25, 3) := zdk_g zdb_298 (i := 12) rfl
theorem dX12_read_91 : decode cX12_read 91 = .ok (.iconst (-1), 1) := zdk_g zdb_298 (i := 13) rfl
theorem dX12_read_92 : decode cX12_read 92 = .ok (.if_icmp .ne 14, 3) := zdk_g zdb_298 (i := 14) rfl
theorem dX12_read_95 : decode cX12_read 95 = .ok (.aload_n 0, 1) := zdk_g zdb_298 (i := 15) rfl
theorem dX12_read_96 : decode cX12_read 96 = .ok (.getfield 80, 3) := zdk_g zdb_298 (i := 16) rfl
theorem dX12_read_99 : decode cX12_read 99 = .ok (.aload_n 0, 1) := zdk_g zdb_298 (i := 17) rfl
theorem dX12_read_100 : decode cX12_read 100 = .ok (.getfield 83, 3) := zdk_g zdb_298 (i := 18) rfl
theorem dX12_read_103 : decode cX12_read 103 = .ok (.if_icmp .ne 8, 3) := zdk_g zdb_298 (i := 19) rfl
theorem dX12_read_106 : decode cX12_read 106 = .ok (.iconst 0, 1) := zdk_g zdb_298 (i := 20) rfl
theorem dX12_read_107 : decode cX12_read 107 = .ok (.istore_n 2, 1) := zdk_g zdb_298 (i := 21) rfl
theorem dX12_read_108 : decode cX12_read 108 = .ok (.goto (-85), 3) := zdk_g zdb_298 (i := 22) rfl
theorem dX12_read_111 : decode cX12_read 111 = .ok (.aload_n 0, 1) := zdk_g zdb_298 (i := 23) rfl
theorem dX12_read_112 : decode cX12_read 112 = .ok (.bipush 59, 2) := zdk_g zdb_298 (i := 24) rfl
theorem dX12_read_114 : decode cX12_read 114 = .ok (.invokevirtual 171, 3) := zdk_g zdb_298 (i := 25) rfl
theorem dX12_read_117 : decode cX12_read 117 = .ok (.ifCond .eq 16, 3) := zdk_g zdb_298 (i := 26) rfl
theorem dX12_read_120 : decode cX12_read 120 = .ok (.aload_n 0, 1) := zdk_g zdb_298 (i := 27) rfl
theorem dX12_read_121 : decode cX12_read 121 = .ok (.dup, 1) := zdk_g zdb_298 (i := 28) rfl
theorem dX12_read_122 : decode cX12_read 122 = .ok (.getfield 80, 3) := zdk_g zdb_298 (i := 29) rfl
theorem dX12_read_125 : decode cX12_read 125 = .ok (.iconst 1, 1) := zdk_g zdb_298 (i := 30) rfl
theorem dX12_read_126 : decode cX12_read 126 = .ok (.iadd, 1) := zdk_g zdb_298 (i := 31) rfl
def zdl_299 : List (Nat × Instr × Nat) := [(127, .putfield 80, 3), (130, .goto (-107), 3), (133, .aload_n 0, 1), (134, .aload_n 0, 1), (135, .getfield 80, 3), (138, .invokevirtual 104, 3), (141, .goto (-118), 3), (144, .iload_n 3, 1), (145, .ireturn, 1)]
theorem zdb_299 : zdk cX12_read zdl_299 = true := by decide +kernel
theorem dX12_read_127 : decode cX12_read 127 = .ok (.putfield 80, 3) := zdk_g zdb_299 (i := 0) rfl
theorem dX12_read_130 : decode cX12_read 130 = .ok (.goto (-107), 3) := zdk_g zdb_299 (i := 1) rfl
theorem dX12_read_133 : decode cX12_read 133 = .ok (.aload_n 0, 1) := zdk_g zdb_299 (i := 2) rfl
theorem dX12_read_134 : decode cX12_read 134 = .ok (.aload_n 0, 1) := zdk_g zdb_299 (i := 3) rfl
theorem dX12_read_135 : decode cX12_read 135 = .ok (.getfield 80, 3) := zdk_g zdb_299 (i := 4) rfl
theorem dX12_read_138 : decode cX12_read 138 = .ok (.invokevirtual 104, 3) := zdk_g zdb_299 (i := 5) rfl
theorem dX12_read_141 : decode cX12_read 141 = .ok (.goto (-118), 3) := zdk_g zdb_299 (i := 6) rfl
theorem dX12_read_144 : decode cX12_read 144 = .ok (.iload_n 3, 1) := zdk_g zdb_299 (i := 7) rfl
theorem dX12_read_145 : decode cX12_read 145 = .ok (.ireturn, 1) := zdk_g zdb_299 (i := 8) rfl
def zdl_300 : List (Nat × Instr × Nat) := [(0, .iconst 0, 1), (1, .istore_n 1, 1), (2, .iload_n 1, 1), (3, .sipush 379, 3), (6, .if_icmp .ge 21, 3), (9, .aload_n 0, 1), (10, .getfield 16, 3), (13, .iload_n 1, 1), (14, .aload_n 0, 1), (15, .getfield 7, 3), (18, .iload_n 1, 1), (19, .iaload, 1), (20, .iastore, 1), (21, .iinc 1 1, 3), (24, .goto (-22), 3), (27, .return_, 1)]
theorem zdb_300 : zdk cX12_putsAside zdl_300 = true := by decide +kernel
theorem dX12_putsAside_0 : decode cX12_putsAside 0 = .ok (.iconst 0, 1) := zdk_g zdb_300 (i := 0) rfl
theorem dX12_putsAside_1 : decode cX12_putsAside 1 = .ok (.istore_n 1, 1) := zdk_g zdb_300 (i := 1) rfl
theorem dX12_putsAside_2 : decode cX12_putsAside 2 = .ok (.iload_n 1, 1) := zdk_g zdb_300 (i := 2) rfl
theorem dX12_putsAside_3 : decode cX12_putsAside 3 = .ok (.sipush 379, 3) := zdk_g zdb_300 (i := 3) rfl
theorem dX12_putsAside_6 : decode cX12_putsAside 6 = .ok (.if_icmp .ge 21, 3) := zdk_g zdb_300 (i := 4) rfl
theorem dX12_putsAside_9 : decode cX12_putsAside 9 = .ok (.aload_n 0, 1) := zdk_g zdb_300 (i := 5) rfl
theorem dX12_putsAside_10 : decode cX12_putsAside 10 = .ok (.getfield 16, 3) := zdk_g zdb_300 (i := 6) rfl
theorem dX12_putsAside_13 : decode cX12_putsAside 13 = .ok (.iload_n 1, 1) := zdk_g zdb_300 (i := 7) rfl
theorem dX12_putsAside_14 : decode cX12_putsAside 14 = .ok (.aload_n 0, 1) := zdk_g zdb_300 (i := 8) rfl
theorem dX12_putsAside_15 : decode cX12_putsAside 15 = .ok (.getfield 7, 3) := zdk_g zdb_300 (i := 9) rfl
theorem dX12_putsAside_18 : decode cX12_putsAside 18 = .ok (.iload_n 1, 1) := zdk_g zdb_300 (i := 10) rfl
theorem dX12_putsAside_19 : decode cX12_putsAside 19 = .ok (.iaload, 1) := zdk_g zdb_300 (i := 11) rfl
theorem dX12_putsAside_20 : decode cX12_putsAside 20 = .ok (.iastore, 1) := zdk_g zdb_300 (i := 12) rfl
theorem dX12_putsAside_21 : decode cX12_putsAside 21 = .ok (.iinc 1 1, 3) := zdk_g zdb_300 (i := 13) rfl
theorem dX12_putsAside_24 : decode cX12_putsAside 24 = .ok (.goto (-22), 3) := zdk_g zdb_300 (i := 14) rfl
theorem dX12_putsAside_27 : decode cX12_putsAside 27 = .ok (.return_, 1) := zdk_g zdb_300 (i := 15) rfl
def zdl_301 : List (Nat × Instr × Nat) := [(0, .iconst 0, 1), (1, .istore_n 1, 1), (2, .iload_n 1, 1), (3, .sipush 379, 3), (6, .if_icmp .ge 21, 3), (9, .aload_n 0, 1), (10, .getfield 7, 3), (13, .iload_n 1, 1), (14, .aload_n 0, 1), (15, .getfield 16, 3), (18, .iload_n 1, 1), (19, .iaload, 1), (20, .iastore, 1), (21, .iinc 1 1, 3), (24, .goto (-22), 3), (27, .return_, 1)]
theorem zdb_301 : zdk cX12_comesBack zdl_301 = true := by decide +kernel
theorem dX12_comesBack_0 : decode cX12_comesBack 0 = .ok (.iconst 0, 1) := zdk_g zdb_301 (i := 0) rfl
theorem dX12_comesBack_1 : decode cX12_comesBack 1 = .ok (.istore_n 1, 1) := zdk_g zdb_301 (i := 1) rfl
theorem dX12_comesBack_2 : decode cX12_comesBack 2 = .ok (.iload_n 1, 1) := zdk_g zdb_301 (i := 2) rfl
theorem dX12_comesBack_3 : decode cX12_comesBack 3 = .ok (.sipush 379, 3) := zdk_g zdb_301 (i := 3) rfl
theorem dX12_comesBack_6 : decode cX12_comesBack 6 = .ok (.if_icmp .ge 21, 3) := zdk_g zdb_301 (i := 4) rfl
theorem dX12_comesBack_9 : decode cX12_comesBack 9 = .ok (.aload_n 0, 1) := zdk_g zdb_301 (i := 5) rfl
theorem dX12_comesBack_10 : decode cX12_comesBack 10 = .ok (.getfield 7, 3) := zdk_g zdb_301 (i := 6) rfl
theorem dX12_comesBack_13 : decode cX12_comesBack 13 = .ok (.iload_n 1, 1) := zdk_g zdb_301 (i := 7) rfl
theorem dX12_comesBack_14 : decode cX12_comesBack 14 = .ok (.aload_n 0, 1) := zdk_g zdb_301 (i := 8) rfl
theorem dX12_comesBack_15 : decode cX12_comesBack 15 = .ok (.getfield 16, 3) := zdk_g zdb_301 (i := 9) rfl
theorem dX12_comesBack_18 : decode cX12_comesBack 18 = .ok (.iload_n 1, 1) := zdk_g zdb_301 (i := 10) rfl
theorem dX12_comesBack_19 : decode cX12_comesBack 19 = .ok (.iaload, 1) := zdk_g zdb_301 (i := 11) rfl
theorem dX12_comesBack_20 : decode cX12_comesBack 20 = .ok (.iastore, 1) := zdk_g zdb_301 (i := 12) rfl
theorem dX12_comesBack_21 : decode cX12_comesBack 21 = .ok (.iinc 1 1, 3) := zdk_g zdb_301 (i := 13) rfl
theorem dX12_comesBack_24 : decode cX12_comesBack 24 = .ok (.goto (-22), 3) := zdk_g zdb_301 (i := 14) rfl
theorem dX12_comesBack_27 : decode cX12_comesBack 27 = .ok (.return_, 1) := zdk_g zdb_301 (i := 15) rfl
def zdl_302 : List (Nat × Instr × Nat) := [(0, .aload_n 0, 1), (1, .invokevirtual 174, 3), (4, .aload_n 0, 1), (5, .invokevirtual 177, 3), (8, .aload_n 0, 1), (9, .iconst 0, 1), (10, .invokevirtual 180, 3), (13, .istore_n 1, 1), (14, .aload_n 0, 1), (15, .aload_n 0, 1), (16, .getfield 25, 3), (19, .iconst (-1), 1), (20, .if_icmp .eq 7, 3), (23, .iconst 1, 1), (24, .goto 19, 3), (27, .aload_n 0, 1), (28, .getfield 7, 3), (31, .iconst 0, 1), (32, .iaload, 1), (33, .bipush 12, 2), (35, .if_icmp .ne 7, 3), (38, .iconst 2, 1), (39, .goto 4, 3), (42, .iconst 0, 1), (43, .putfield 39, 3), (46, .aload_n 0, 1), (47, .getfield 39, 3), (50, .ifCond .le 9, 3), (53, .aload_n 0, 1), (54, .invokevirtual 184, 3), (57, .iconst 0, 1), (58, .ireturn, 1)]
theorem zdb_302 : zdk cX12_town zdl_302 = true := by decide +kernel
theorem dX12_town_0 : decode cX12_town 0 = .ok (.aload_n 0, 1) := zdk_g zdb_302 (i := 0) rfl
theorem dX12_town_1 : decode cX12_town 1 = .ok (.invokevirtual 174, 3) := zdk_g zdb_302 (i := 1) rfl
theorem dX12_town_4 : decode cX12_town 4 = .ok (.aload_n 0, 1) := zdk_g zdb_302 (i := 2) rfl
theorem dX12_town_5 : decode cX12_town 5 = .ok (.invokevirtual 177, 3) := zdk_g zdb_302 (i := 3) rfl
theorem dX12_town_8 : decode cX12_town 8 = .ok (.aload_n 0, 1) := zdk_g zdb_302 (i := 4) rfl
theorem dX12_town_9 : decode cX12_town 9 = .ok (.iconst 0, 1) := zdk_g zdb_302 (i := 5) rfl
theorem dX12_town_10 : decode cX12_town 10 = .ok (.invokevirtual 180, 3) := zdk_g zdb_302 (i := 6) rfl
theorem dX12_town_13 : decode cX12_town 13 = .ok (.istore_n 1, 1) := zdk_g zdb_302 (i := 7) rfl
theorem dX12_town_14 : decode cX12_town 14 = .ok (.aload_n 0, 1) := zdk_g zdb_302 (i := 8) rfl
theorem dX12_town_15 : decode cX12_town 15 = .ok (.aload_n 0, 1) := zdk_g zdb_302 (i := 9) rfl
theorem dX12_town_16 : decode cX12_town 16 = .ok (.getfield 25, 3) := zdk_g zdb_302 (i := 10) rfl
theorem dX12_town_19 : decode cX12_town 19 = .ok (.iconst (-1), 1) := zdk_g zdb_302 (i := 11) rfl
theorem dX12_town_20 : decode cX12_town 20 = .ok (.if_icmp .eq 7, 3) := zdk_g zdb_302 (i := 12) rfl
theorem dX12_town_23 : decode cX12_town 23 = .ok (.iconst 1, 1) := zdk_g zdb_302 (i := 13) rfl
theorem dX12_town_24 : decode cX12_town 24 = .ok (.goto 19, 3) := zdk_g zdb_302 (i := 14) rfl
theorem dX12_town_27 : decode cX12_town 27 = .ok (.aload_n 0, 1) := zdk_g zdb_302 (i := 15) rfl
theorem dX12_town_28 : decode cX12_town 28 = .ok (.getfield 7, 3) := zdk_g zdb_302 (i := 16) rfl
theorem dX12_town_31 : decode cX12_town 31 = .ok (.iconst 0, 1) := zdk_g zdb_302 (i := 17) rfl
theorem dX12_town_32 : decode cX12_town 32 = .ok (.iaload, 1) := zdk_g zdb_302 (i := 18) rfl
theorem dX12_town_33 : decode cX12_town 33 = .ok (.bipush 12, 2) := zdk_g zdb_302 (i := 19) rfl
theorem dX12_town_35 : decode cX12_town 35 = .ok (.if_icmp .ne 7, 3) := zdk_g zdb_302 (i := 20) rfl
theorem dX12_town_38 : decode cX12_town 38 = .ok (.iconst 2, 1) := zdk_g zdb_302 (i := 21) rfl
theorem dX12_town_39 : decode cX12_town 39 = .ok (.goto 4, 3) := zdk_g zdb_302 (i := 22) rfl
theorem dX12_town_42 : decode cX12_town 42 = .ok (.iconst 0, 1) := zdk_g zdb_302 (i := 23) rfl
theorem dX12_town_43 : decode cX12_town 43 = .ok (.putfield 39, 3) := zdk_g zdb_302 (i := 24) rfl
theorem dX12_town_46 : decode cX12_town 46 = .ok (.aload_n 0, 1) := zdk_g zdb_302 (i := 25) rfl
theorem dX12_town_47 : decode cX12_town 47 = .ok (.getfield 39, 3) := zdk_g zdb_302 (i := 26) rfl
theorem dX12_town_50 : decode cX12_town 50 = .ok (.ifCond .le 9, 3) := zdk_g zdb_302 (i := 27) rfl
theorem dX12_town_53 : decode cX12_town 53 = .ok (.aload_n 0, 1) := zdk_g zdb_302 (i := 28) rfl
theorem dX12_town_54 : decode cX12_town 54 = .ok (.invokevirtual 184, 3) := zdk_g zdb_302 (i := 29) rfl
theorem dX12_town_57 : decode cX12_town 57 = .ok (.iconst 0, 1) := zdk_g zdb_302 (i := 30) rfl
theorem dX12_town_58 : decode cX12_town 58 = .ok (.ireturn, 1) := zdk_g zdb_302 (i := 31) rfl
def zdl_303 : List (Nat × Instr × Nat) := [(59, .aload_n 0, 1), (60, .getfield 7, 3), (63, .iconst 0, 1), (64, .dup2, 1), (65, .iaload, 1), (66, .iconst 1, 1), (67, .iadd, 1), (68, .iastore, 1), (69, .aload_n 0, 1), (70, .iconst 0, 1), (71, .putfield 187, 3), (74, .aload_n 0, 1), (75, .getfield 7, 3), (78, .iconst 0, 1), (79, .iaload, 1), (80, .ireturn, 1)]
theorem zdb_303 : zdk cX12_town zdl_303 = true := by decide +kernel
theorem dX12_town_59 : decode cX12_town 59 = .ok (.aload_n 0, 1) := zdk_g zdb_303 (i := 0) rfl
theorem dX12_town_60 : decode cX12_town 60 = .ok (.getfield 7, 3) := zdk_g zdb_303 (i := 1) rfl
theorem dX12_town_63 : decode cX12_town 63 = .ok (.iconst 0, 1) := zdk_g zdb_303 (i := 2) rfl
theorem dX12_town_64 : decode cX12_town 64 = .ok (.dup2, 1) := zdk_g zdb_303 (i := 3) rfl
theorem dX12_town_65 : decode cX12_town 65 = .ok (.iaload, 1) := zdk_g zdb_303 (i := 4) rfl
theorem dX12_town_66 : decode cX12_town 66 = .ok (.iconst 1, 1) := zdk_g zdb_303 (i := 5) rfl
theorem dX12_town_67 : decode cX12_town 67 = .ok (.iadd, 1) := zdk_g zdb_303 (i := 6) rfl
theorem dX12_town_68 : decode cX12_town 68 = .ok (.iastore, 1) := zdk_g zdb_303 (i := 7) rfl
theorem dX12_town_69 : decode cX12_town 69 = .ok (.aload_n 0, 1) := zdk_g zdb_303 (i := 8) rfl
theorem dX12_town_70 : decode cX12_town 70 = .ok (.iconst 0, 1) := zdk_g zdb_303 (i := 9) rfl
theorem dX12_town_71 : decode cX12_town 71 = .ok (.putfield 187, 3) := zdk_g zdb_303 (i := 10) rfl
theorem dX12_town_74 : decode cX12_town 74 = .ok (.aload_n 0, 1) := zdk_g zdb_303 (i := 11) rfl
theorem dX12_town_75 : decode cX12_town 75 = .ok (.getfield 7, 3) := zdk_g zdb_303 (i := 12) rfl
theorem dX12_town_78 : decode cX12_town 78 = .ok (.iconst 0, 1) := zdk_g zdb_303 (i := 13) rfl
theorem dX12_town_79 : decode cX12_town 79 = .ok (.iaload, 1) := zdk_g zdb_303 (i := 14) rfl
theorem dX12_town_80 : decode cX12_town 80 = .ok (.ireturn, 1) := zdk_g zdb_303 (i := 15) rfl
def zdl_304 : List (Nat × Instr × Nat) := [(0, .aload_n 0, 1), (1, .getfield 25, 3), (4, .iconst (-1), 1), (5, .if_icmp .eq 5, 3), (8, .iconst 0, 1), (9, .ireturn, 1), (10, .aload_n 0, 1), (11, .invokevirtual 89, 3), (14, .aload_n 0, 1), (15, .getfield 80, 3), (18, .aload_n 0, 1), (19, .getfield 83, 3), (22, .if_icmp .ge 30, 3), (25, .aload_n 0, 1), (26, .aload_n 0, 1), (27, .getfield 80, 3), (30, .invokevirtual 86, 3), (33, .bipush 48, 2), (35, .bipush 57, 2), (37, .invokestatic 42, 3), (40, .ifCond .eq 12, 3), (43, .aload_n 0, 1), (44, .iconst 0, 1), (45, .sipush 999, 3), (48, .invokevirtual 112, 3), (51, .ireturn, 1), (52, .aload_n 0, 1), (53, .ldc 190, 2), (55, .invokevirtual 108, 3), (58, .ifCond .eq 7, 3), (61, .iconst 0, 1), (62, .goto 69, 3)]
theorem zdb_304 : zdk cX12_part zdl_304 = true := by decide +kernel
theorem dX12_part_0 : decode cX12_part 0 = .ok (.aload_n 0, 1) := zdk_g zdb_304 (i := 0) rfl
theorem dX12_part_1 : decode cX12_part 1 = .ok (.getfield 25, 3) := zdk_g zdb_304 (i := 1) rfl
theorem dX12_part_4 : decode cX12_part 4 = .ok (.iconst (-1), 1) := zdk_g zdb_304 (i := 2) rfl
theorem dX12_part_5 : decode cX12_part 5 = .ok (.if_icmp .eq 5, 3) := zdk_g zdb_304 (i := 3) rfl
theorem dX12_part_8 : decode cX12_part 8 = .ok (.iconst 0, 1) := zdk_g zdb_304 (i := 4) rfl
theorem dX12_part_9 : decode cX12_part 9 = .ok (.ireturn, 1) := zdk_g zdb_304 (i := 5) rfl
theorem dX12_part_10 : decode cX12_part 10 = .ok (.aload_n 0, 1) := zdk_g zdb_304 (i := 6) rfl
theorem dX12_part_11 : decode cX12_part 11 = .ok (.invokevirtual 89, 3) := zdk_g zdb_304 (i := 7) rfl
theorem dX12_part_14 : decode cX12_part 14 = .ok (.aload_n 0, 1) := zdk_g zdb_304 (i := 8) rfl
theorem dX12_part_15 : decode cX12_part 15 = .ok (.getfield 80, 3) := zdk_g zdb_304 (i := 9) rfl
theorem dX12_part_18 : decode cX12_part 18 = .ok (.aload_n 0, 1) := zdk_g zdb_304 (i := 10) rfl
theorem dX12_part_19 : decode cX12_part 19 = .ok (.getfield 83, 3) := zdk_g zdb_304 (i := 11) rfl
theorem dX12_part_22 : decode cX12_part 22 = .ok (.if_icmp .ge 30, 3) := zdk_g zdb_304 (i := 12) rfl
theorem dX12_part_25 : decode cX12_part 25 = .ok (.aload_n 0, 1) := zdk_g zdb_304 (i := 13) rfl
theorem dX12_part_26 : decode cX12_part 26 = .ok (.aload_n 0, 1) := zdk_g zdb_304 (i := 14) rfl
theorem dX12_part_27 : decode cX12_part 27 = .ok (.getfield 80, 3) := zdk_g zdb_304 (i := 15) rfl
theorem dX12_part_30 : decode cX12_part 30 = .ok (.invokevirtual 86, 3) := zdk_g zdb_304 (i := 16) rfl
theorem dX12_part_33 : decode cX12_part 33 = .ok (.bipush 48, 2) := zdk_g zdb_304 (i := 17) rfl
theorem dX12_part_35 : decode cX12_part 35 = .ok (.bipush 57, 2) := zdk_g zdb_304 (i := 18) rfl
theorem dX12_part_37 : decode cX12_part 37 = .ok (.invokestatic 42, 3) := zdk_g zdb_304 (i := 19) rfl
theorem dX12_part_40 : decode cX12_part 40 = .ok (.ifCond .eq 12, 3) := zdk_g zdb_304 (i := 20) rfl
theorem dX12_part_43 : decode cX12_part 43 = .ok (.aload_n 0, 1) := zdk_g zdb_304 (i := 21) rfl
theorem dX12_part_44 : decode cX12_part 44 = .ok (.iconst 0, 1) := zdk_g zdb_304 (i := 22) rfl
theorem dX12_part_45 : decode cX12_part 45 = .ok (.sipush 999, 3) := zdk_g zdb_304 (i := 23) rfl
theorem dX12_part_48 : decode cX12_part 48 = .ok (.invokevirtual 112, 3) := zdk_g zdb_304 (i := 24) rfl
theorem dX12_part_51 : decode cX12_part 51 = .ok (.ireturn, 1) := zdk_g zdb_304 (i := 25) rfl
theorem dX12_part_52 : decode cX12_part 52 = .ok (.aload_n 0, 1) := zdk_g zdb_304 (i := 26) rfl
theorem dX12_part_53 : decode cX12_part 53 = .ok (.ldc 190, 2) := zdk_g zdb_304 (i := 27) rfl
theorem dX12_part_55 : decode cX12_part 55 = .ok (.invokevirtual 108, 3) := zdk_g zdb_304 (i := 28) rfl
theorem dX12_part_58 : decode cX12_part 58 = .ok (.ifCond .eq 7, 3) := zdk_g zdb_304 (i := 29) rfl
theorem dX12_part_61 : decode cX12_part 61 = .ok (.iconst 0, 1) := zdk_g zdb_304 (i := 30) rfl
theorem dX12_part_62 : decode cX12_part 62 = .ok (.goto 69, 3) := zdk_g zdb_304 (i := 31) rfl
def zdl_305 : List (Nat × Instr × Nat) := [(65, .aload_n 0, 1), (66, .ldc 192, 2), (68, .invokevirtual 108, 3), (71, .ifCond .eq 7, 3), (74, .iconst 1, 1), (75, .goto 56, 3), (78, .aload_n 0, 1), (79, .ldc 194, 2), (81, .invokevirtual 108, 3), (84, .ifCond .eq 7, 3), (87, .iconst 2, 1), (88, .goto 43, 3), (91, .aload_n 0, 1), (92, .ldc 195, 2), (94, .invokevirtual 108, 3), (97, .ifCond .eq 7, 3), (100, .iconst 3, 1), (101, .goto 30, 3), (104, .aload_n 0, 1), (105, .ldc 197, 2), (107, .invokevirtual 108, 3), (110, .ifCond .eq 7, 3), (113, .iconst 4, 1), (114, .goto 17, 3), (117, .aload_n 0, 1), (118, .ldc 160, 2), (120, .invokevirtual 108, 3), (123, .ifCond .eq 7, 3), (126, .iconst 5, 1), (127, .goto 4, 3), (130, .iconst (-1), 1), (131, .istore_n 1, 1)]
theorem zdb_305 : zdk cX12_part zdl_305 = true := by decide +kernel
theorem dX12_part_65 : decode cX12_part 65 = .ok (.aload_n 0, 1) := zdk_g zdb_305 (i := 0) rfl
theorem dX12_part_66 : decode cX12_part 66 = .ok (.ldc 192, 2) := zdk_g zdb_305 (i := 1) rfl
theorem dX12_part_68 : decode cX12_part 68 = .ok (.invokevirtual 108, 3) := zdk_g zdb_305 (i := 2) rfl
theorem dX12_part_71 : decode cX12_part 71 = .ok (.ifCond .eq 7, 3) := zdk_g zdb_305 (i := 3) rfl
theorem dX12_part_74 : decode cX12_part 74 = .ok (.iconst 1, 1) := zdk_g zdb_305 (i := 4) rfl
theorem dX12_part_75 : decode cX12_part 75 = .ok (.goto 56, 3) := zdk_g zdb_305 (i := 5) rfl
theorem dX12_part_78 : decode cX12_part 78 = .ok (.aload_n 0, 1) := zdk_g zdb_305 (i := 6) rfl
theorem dX12_part_79 : decode cX12_part 79 = .ok (.ldc 194, 2) := zdk_g zdb_305 (i := 7) rfl
theorem dX12_part_81 : decode cX12_part 81 = .ok (.invokevirtual 108, 3) := zdk_g zdb_305 (i := 8) rfl
theorem dX12_part_84 : decode cX12_part 84 = .ok (.ifCond .eq 7, 3) := zdk_g zdb_305 (i := 9) rfl
theorem dX12_part_87 : decode cX12_part 87 = .ok (.iconst 2, 1) := zdk_g zdb_305 (i := 10) rfl
theorem dX12_part_88 : decode cX12_part 88 = .ok (.goto 43, 3) := zdk_g zdb_305 (i := 11) rfl
theorem dX12_part_91 : decode cX12_part 91 = .ok (.aload_n 0, 1) := zdk_g zdb_305 (i := 12) rfl
theorem dX12_part_92 : decode cX12_part 92 = .ok (.ldc 195, 2) := zdk_g zdb_305 (i := 13) rfl
theorem dX12_part_94 : decode cX12_part 94 = .ok (.invokevirtual 108, 3) := zdk_g zdb_305 (i := 14) rfl
theorem dX12_part_97 : decode cX12_part 97 = .ok (.ifCond .eq 7, 3) := zdk_g zdb_305 (i := 15) rfl
theorem dX12_part_100 : decode cX12_part 100 = .ok (.iconst 3, 1) := zdk_g zdb_305 (i := 16) rfl
theorem dX12_part_101 : decode cX12_part 101 = .ok (.goto 30, 3) := zdk_g zdb_305 (i := 17) rfl
theorem dX12_part_104 : decode cX12_part 104 = .ok (.aload_n 0, 1) := zdk_g zdb_305 (i := 18) rfl
theorem dX12_part_105 : decode cX12_part 105 = .ok (.ldc 197, 2) := zdk_g zdb_305 (i := 19) rfl
theorem dX12_part_107 : decode cX12_part 107 = .ok (.invokevirtual 108, 3) := zdk_g zdb_305 (i := 20) rfl
theorem dX12_part_110 : decode cX12_part 110 = .ok (.ifCond .eq 7, 3) := zdk_g zdb_305 (i := 21) rfl
theorem dX12_part_113 : decode cX12_part 113 = .ok (.iconst 4, 1) := zdk_g zdb_305 (i := 22) rfl
theorem dX12_part_114 : decode cX12_part 114 = .ok (.goto 17, 3) := zdk_g zdb_305 (i := 23) rfl
theorem dX12_part_117 : decode cX12_part 117 = .ok (.aload_n 0, 1) := zdk_g zdb_305 (i := 24) rfl
theorem dX12_part_118 : decode cX12_part 118 = .ok (.ldc 160, 2) := zdk_g zdb_305 (i := 25) rfl
theorem dX12_part_120 : decode cX12_part 120 = .ok (.invokevirtual 108, 3) := zdk_g zdb_305 (i := 26) rfl
theorem dX12_part_123 : decode cX12_part 123 = .ok (.ifCond .eq 7, 3) := zdk_g zdb_305 (i := 27) rfl
theorem dX12_part_126 : decode cX12_part 126 = .ok (.iconst 5, 1) := zdk_g zdb_305 (i := 28) rfl
theorem dX12_part_127 : decode cX12_part 127 = .ok (.goto 4, 3) := zdk_g zdb_305 (i := 29) rfl
theorem dX12_part_130 : decode cX12_part 130 = .ok (.iconst (-1), 1) := zdk_g zdb_305 (i := 30) rfl
theorem dX12_part_131 : decode cX12_part 131 = .ok (.istore_n 1, 1) := zdk_g zdb_305 (i := 31) rfl
def zdl_306 : List (Nat × Instr × Nat) := [(132, .iload_n 1, 1), (133, .iconst (-1), 1), (134, .if_icmp .ne 13, 3), (137, .aload_n 0, 1), (138, .aload_n 0, 1), (139, .getfield 80, 3), (142, .invokevirtual 104, 3), (145, .iconst 0, 1), (146, .ireturn, 1), (147, .aload_n 0, 1), (148, .getfield 29, 3), (151, .iload_n 1, 1), (152, .iaload, 1), (153, .ireturn, 1)]
theorem zdb_306 : zdk cX12_part zdl_306 = true := by decide +kernel
theorem dX12_part_132 : decode cX12_part 132 = .ok (.iload_n 1, 1) := zdk_g zdb_306 (i := 0) rfl
theorem dX12_part_133 : decode cX12_part 133 = .ok (.iconst (-1), 1) := zdk_g zdb_306 (i := 1) rfl
theorem dX12_part_134 : decode cX12_part 134 = .ok (.if_icmp .ne 13, 3) := zdk_g zdb_306 (i := 2) rfl
theorem dX12_part_137 : decode cX12_part 137 = .ok (.aload_n 0, 1) := zdk_g zdb_306 (i := 3) rfl
theorem dX12_part_138 : decode cX12_part 138 = .ok (.aload_n 0, 1) := zdk_g zdb_306 (i := 4) rfl
theorem dX12_part_139 : decode cX12_part 139 = .ok (.getfield 80, 3) := zdk_g zdb_306 (i := 5) rfl
theorem dX12_part_142 : decode cX12_part 142 = .ok (.invokevirtual 104, 3) := zdk_g zdb_306 (i := 6) rfl
theorem dX12_part_145 : decode cX12_part 145 = .ok (.iconst 0, 1) := zdk_g zdb_306 (i := 7) rfl
theorem dX12_part_146 : decode cX12_part 146 = .ok (.ireturn, 1) := zdk_g zdb_306 (i := 8) rfl
theorem dX12_part_147 : decode cX12_part 147 = .ok (.aload_n 0, 1) := zdk_g zdb_306 (i := 9) rfl
theorem dX12_part_148 : decode cX12_part 148 = .ok (.getfield 29, 3) := zdk_g zdb_306 (i := 10) rfl
theorem dX12_part_151 : decode cX12_part 151 = .ok (.iload_n 1, 1) := zdk_g zdb_306 (i := 11) rfl
theorem dX12_part_152 : decode cX12_part 152 = .ok (.iaload, 1) := zdk_g zdb_306 (i := 12) rfl
theorem dX12_part_153 : decode cX12_part 153 = .ok (.ireturn, 1) := zdk_g zdb_306 (i := 13) rfl
def zdl_307 : List (Nat × Instr × Nat) := [(0, .aload_n 0, 1), (1, .invokevirtual 199, 3), (4, .istore_n 1, 1), (5, .aload_n 0, 1), (6, .getfield 25, 3), (9, .iconst (-1), 1), (10, .if_icmp .ne 32, 3), (13, .aload_n 0, 1), (14, .bipush 43, 2), (16, .invokevirtual 171, 3), (19, .ifCond .eq 23, 3), (22, .aload_n 0, 1), (23, .dup, 1), (24, .getfield 80, 3), (27, .iconst 1, 1), (28, .iadd, 1), (29, .putfield 80, 3), (32, .iload_n 1, 1), (33, .aload_n 0, 1), (34, .invokevirtual 199, 3), (37, .iadd, 1), (38, .istore_n 1, 1), (39, .goto (-34), 3), (42, .iload_n 1, 1), (43, .ireturn, 1)]
theorem zdb_307 : zdk cX12_sum zdl_307 = true := by decide +kernel
theorem dX12_sum_0 : decode cX12_sum 0 = .ok (.aload_n 0, 1) := zdk_g zdb_307 (i := 0) rfl
theorem dX12_sum_1 : decode cX12_sum 1 = .ok (.invokevirtual 199, 3) := zdk_g zdb_307 (i := 1) rfl
theorem dX12_sum_4 : decode cX12_sum 4 = .ok (.istore_n 1, 1) := zdk_g zdb_307 (i := 2) rfl
theorem dX12_sum_5 : decode cX12_sum 5 = .ok (.aload_n 0, 1) := zdk_g zdb_307 (i := 3) rfl
theorem dX12_sum_6 : decode cX12_sum 6 = .ok (.getfield 25, 3) := zdk_g zdb_307 (i := 4) rfl
theorem dX12_sum_9 : decode cX12_sum 9 = .ok (.iconst (-1), 1) := zdk_g zdb_307 (i := 5) rfl
theorem dX12_sum_10 : decode cX12_sum 10 = .ok (.if_icmp .ne 32, 3) := zdk_g zdb_307 (i := 6) rfl
theorem dX12_sum_13 : decode cX12_sum 13 = .ok (.aload_n 0, 1) := zdk_g zdb_307 (i := 7) rfl
theorem dX12_sum_14 : decode cX12_sum 14 = .ok (.bipush 43, 2) := zdk_g zdb_307 (i := 8) rfl
theorem dX12_sum_16 : decode cX12_sum 16 = .ok (.invokevirtual 171, 3) := zdk_g zdb_307 (i := 9) rfl
theorem dX12_sum_19 : decode cX12_sum 19 = .ok (.ifCond .eq 23, 3) := zdk_g zdb_307 (i := 10) rfl
theorem dX12_sum_22 : decode cX12_sum 22 = .ok (.aload_n 0, 1) := zdk_g zdb_307 (i := 11) rfl
theorem dX12_sum_23 : decode cX12_sum 23 = .ok (.dup, 1) := zdk_g zdb_307 (i := 12) rfl
theorem dX12_sum_24 : decode cX12_sum 24 = .ok (.getfield 80, 3) := zdk_g zdb_307 (i := 13) rfl
theorem dX12_sum_27 : decode cX12_sum 27 = .ok (.iconst 1, 1) := zdk_g zdb_307 (i := 14) rfl
theorem dX12_sum_28 : decode cX12_sum 28 = .ok (.iadd, 1) := zdk_g zdb_307 (i := 15) rfl
theorem dX12_sum_29 : decode cX12_sum 29 = .ok (.putfield 80, 3) := zdk_g zdb_307 (i := 16) rfl
theorem dX12_sum_32 : decode cX12_sum 32 = .ok (.iload_n 1, 1) := zdk_g zdb_307 (i := 17) rfl
theorem dX12_sum_33 : decode cX12_sum 33 = .ok (.aload_n 0, 1) := zdk_g zdb_307 (i := 18) rfl
theorem dX12_sum_34 : decode cX12_sum 34 = .ok (.invokevirtual 199, 3) := zdk_g zdb_307 (i := 19) rfl
theorem dX12_sum_37 : decode cX12_sum 37 = .ok (.iadd, 1) := zdk_g zdb_307 (i := 20) rfl
theorem dX12_sum_38 : decode cX12_sum 38 = .ok (.istore_n 1, 1) := zdk_g zdb_307 (i := 21) rfl
theorem dX12_sum_39 : decode cX12_sum 39 = .ok (.goto (-34), 3) := zdk_g zdb_307 (i := 22) rfl
theorem dX12_sum_42 : decode cX12_sum 42 = .ok (.iload_n 1, 1) := zdk_g zdb_307 (i := 23) rfl
theorem dX12_sum_43 : decode cX12_sum 43 = .ok (.ireturn, 1) := zdk_g zdb_307 (i := 24) rfl
def zdl_308 : List (Nat × Instr × Nat) := [(0, .aload_n 0, 1), (1, .ldc 121, 2), (3, .invokevirtual 108, 3), (6, .ifCond .eq 8, 3), (9, .aload_n 0, 1), (10, .getfield 202, 3), (13, .ireturn, 1), (14, .aload_n 0, 1), (15, .ldc 206, 2), (17, .invokevirtual 108, 3), (20, .ifCond .eq 8, 3), (23, .aload_n 0, 1), (24, .getfield 208, 3), (27, .ireturn, 1), (28, .aload_n 0, 1), (29, .invokevirtual 211, 3), (32, .istore_n 1, 1), (33, .aload_n 0, 1), (34, .getfield 25, 3), (37, .iconst (-1), 1), (38, .if_icmp .eq 5, 3), (41, .iconst 0, 1), (42, .ireturn, 1), (43, .aload_n 0, 1), (44, .bipush 60, 2), (46, .invokevirtual 171, 3), (49, .istore_n 2, 1), (50, .iload_n 2, 1), (51, .ifCond .ne 22, 3), (54, .aload_n 0, 1), (55, .bipush 62, 2), (57, .invokevirtual 171, 3)]
theorem zdb_308 : zdk cX12_plain zdl_308 = true := by decide +kernel
theorem dX12_plain_0 : decode cX12_plain 0 = .ok (.aload_n 0, 1) := zdk_g zdb_308 (i := 0) rfl
theorem dX12_plain_1 : decode cX12_plain 1 = .ok (.ldc 121, 2) := zdk_g zdb_308 (i := 1) rfl
theorem dX12_plain_3 : decode cX12_plain 3 = .ok (.invokevirtual 108, 3) := zdk_g zdb_308 (i := 2) rfl
theorem dX12_plain_6 : decode cX12_plain 6 = .ok (.ifCond .eq 8, 3) := zdk_g zdb_308 (i := 3) rfl
theorem dX12_plain_9 : decode cX12_plain 9 = .ok (.aload_n 0, 1) := zdk_g zdb_308 (i := 4) rfl
theorem dX12_plain_10 : decode cX12_plain 10 = .ok (.getfield 202, 3) := zdk_g zdb_308 (i := 5) rfl
theorem dX12_plain_13 : decode cX12_plain 13 = .ok (.ireturn, 1) := zdk_g zdb_308 (i := 6) rfl
theorem dX12_plain_14 : decode cX12_plain 14 = .ok (.aload_n 0, 1) := zdk_g zdb_308 (i := 7) rfl
theorem dX12_plain_15 : decode cX12_plain 15 = .ok (.ldc 206, 2) := zdk_g zdb_308 (i := 8) rfl
theorem dX12_plain_17 : decode cX12_plain 17 = .ok (.invokevirtual 108, 3) := zdk_g zdb_308 (i := 9) rfl
theorem dX12_plain_20 : decode cX12_plain 20 = .ok (.ifCond .eq 8, 3) := zdk_g zdb_308 (i := 10) rfl
theorem dX12_plain_23 : decode cX12_plain 23 = .ok (.aload_n 0, 1) := zdk_g zdb_308 (i := 11) rfl
theorem dX12_plain_24 : decode cX12_plain 24 = .ok (.getfield 208, 3) := zdk_g zdb_308 (i := 12) rfl
theorem dX12_plain_27 : decode cX12_plain 27 = .ok (.ireturn, 1) := zdk_g zdb_308 (i := 13) rfl
theorem dX12_plain_28 : decode cX12_plain 28 = .ok (.aload_n 0, 1) := zdk_g zdb_308 (i := 14) rfl
theorem dX12_plain_29 : decode cX12_plain 29 = .ok (.invokevirtual 211, 3) := zdk_g zdb_308 (i := 15) rfl
theorem dX12_plain_32 : decode cX12_plain 32 = .ok (.istore_n 1, 1) := zdk_g zdb_308 (i := 16) rfl
theorem dX12_plain_33 : decode cX12_plain 33 = .ok (.aload_n 0, 1) := zdk_g zdb_308 (i := 17) rfl
theorem dX12_plain_34 : decode cX12_plain 34 = .ok (.getfield 25, 3) := zdk_g zdb_308 (i := 18) rfl
theorem dX12_plain_37 : decode cX12_plain 37 = .ok (.iconst (-1), 1) := zdk_g zdb_308 (i := 19) rfl
theorem dX12_plain_38 : decode cX12_plain 38 = .ok (.if_icmp .eq 5, 3) := zdk_g zdb_308 (i := 20) rfl
theorem dX12_plain_41 : decode cX12_plain 41 = .ok (.iconst 0, 1) := zdk_g zdb_308 (i := 21) rfl
theorem dX12_plain_42 : decode cX12_plain 42 = .ok (.ireturn, 1) := zdk_g zdb_308 (i := 22) rfl
theorem dX12_plain_43 : decode cX12_plain 43 = .ok (.aload_n 0, 1) := zdk_g zdb_308 (i := 23) rfl
theorem dX12_plain_44 : decode cX12_plain 44 = .ok (.bipush 60, 2) := zdk_g zdb_308 (i := 24) rfl
theorem dX12_plain_46 : decode cX12_plain 46 = .ok (.invokevirtual 171, 3) := zdk_g zdb_308 (i := 25) rfl
theorem dX12_plain_49 : decode cX12_plain 49 = .ok (.istore_n 2, 1) := zdk_g zdb_308 (i := 26) rfl
theorem dX12_plain_50 : decode cX12_plain 50 = .ok (.iload_n 2, 1) := zdk_g zdb_308 (i := 27) rfl
theorem dX12_plain_51 : decode cX12_plain 51 = .ok (.ifCond .ne 22, 3) := zdk_g zdb_308 (i := 28) rfl
theorem dX12_plain_54 : decode cX12_plain 54 = .ok (.aload_n 0, 1) := zdk_g zdb_308 (i := 29) rfl
theorem dX12_plain_55 : decode cX12_plain 55 = .ok (.bipush 62, 2) := zdk_g zdb_308 (i := 30) rfl
theorem dX12_plain_57 : decode cX12_plain 57 = .ok (.invokevirtual 171, 3) := zdk_g zdb_308 (i := 31) rfl
def zdl_309 : List (Nat × Instr × Nat) := [(60, .ifCond .ne 13, 3), (63, .aload_n 0, 1), (64, .aload_n 0, 1), (65, .getfield 80, 3), (68, .invokevirtual 104, 3), (71, .iconst 0, 1), (72, .ireturn, 1), (73, .aload_n 0, 1), (74, .dup, 1), (75, .getfield 80, 3), (78, .iconst 1, 1), (79, .iadd, 1), (80, .putfield 80, 3), (83, .aload_n 0, 1), (84, .invokevirtual 211, 3), (87, .istore_n 3, 1), (88, .iload_n 2, 1), (89, .ifCond .eq 16, 3), (92, .iload_n 1, 1), (93, .iload_n 3, 1), (94, .if_icmp .ge 7, 3), (97, .iconst 1, 1), (98, .goto 17, 3), (101, .iconst 0, 1), (102, .goto 13, 3), (105, .iload_n 1, 1), (106, .iload_n 3, 1), (107, .if_icmp .le 7, 3), (110, .iconst 1, 1), (111, .goto 4, 3), (114, .iconst 0, 1), (115, .ireturn, 1)]
theorem zdb_309 : zdk cX12_plain zdl_309 = true := by decide +kernel
theorem dX12_plain_60 : decode cX12_plain 60 = .ok (.ifCond .ne 13, 3) := zdk_g zdb_309 (i := 0) rfl
theorem dX12_plain_63 : decode cX12_plain 63 = .ok (.aload_n 0, 1) := zdk_g zdb_309 (i := 1) rfl
theorem dX12_plain_64 : decode cX12_plain 64 = .ok (.aload_n 0, 1) := zdk_g zdb_309 (i := 2) rfl
theorem dX12_plain_65 : decode cX12_plain 65 = .ok (.getfield 80, 3) := zdk_g zdb_309 (i := 3) rfl
theorem dX12_plain_68 : decode cX12_plain 68 = .ok (.invokevirtual 104, 3) := zdk_g zdb_309 (i := 4) rfl
theorem dX12_plain_71 : decode cX12_plain 71 = .ok (.iconst 0, 1) := zdk_g zdb_309 (i := 5) rfl
theorem dX12_plain_72 : decode cX12_plain 72 = .ok (.ireturn, 1) := zdk_g zdb_309 (i := 6) rfl
theorem dX12_plain_73 : decode cX12_plain 73 = .ok (.aload_n 0, 1) := zdk_g zdb_309 (i := 7) rfl
theorem dX12_plain_74 : decode cX12_plain 74 = .ok (.dup, 1) := zdk_g zdb_309 (i := 8) rfl
theorem dX12_plain_75 : decode cX12_plain 75 = .ok (.getfield 80, 3) := zdk_g zdb_309 (i := 9) rfl
theorem dX12_plain_78 : decode cX12_plain 78 = .ok (.iconst 1, 1) := zdk_g zdb_309 (i := 10) rfl
theorem dX12_plain_79 : decode cX12_plain 79 = .ok (.iadd, 1) := zdk_g zdb_309 (i := 11) rfl
theorem dX12_plain_80 : decode cX12_plain 80 = .ok (.putfield 80, 3) := zdk_g zdb_309 (i := 12) rfl
theorem dX12_plain_83 : decode cX12_plain 83 = .ok (.aload_n 0, 1) := zdk_g zdb_309 (i := 13) rfl
theorem dX12_plain_84 : decode cX12_plain 84 = .ok (.invokevirtual 211, 3) := zdk_g zdb_309 (i := 14) rfl
theorem dX12_plain_87 : decode cX12_plain 87 = .ok (.istore_n 3, 1) := zdk_g zdb_309 (i := 15) rfl
theorem dX12_plain_88 : decode cX12_plain 88 = .ok (.iload_n 2, 1) := zdk_g zdb_309 (i := 16) rfl
theorem dX12_plain_89 : decode cX12_plain 89 = .ok (.ifCond .eq 16, 3) := zdk_g zdb_309 (i := 17) rfl
theorem dX12_plain_92 : decode cX12_plain 92 = .ok (.iload_n 1, 1) := zdk_g zdb_309 (i := 18) rfl
theorem dX12_plain_93 : decode cX12_plain 93 = .ok (.iload_n 3, 1) := zdk_g zdb_309 (i := 19) rfl
theorem dX12_plain_94 : decode cX12_plain 94 = .ok (.if_icmp .ge 7, 3) := zdk_g zdb_309 (i := 20) rfl
theorem dX12_plain_97 : decode cX12_plain 97 = .ok (.iconst 1, 1) := zdk_g zdb_309 (i := 21) rfl
theorem dX12_plain_98 : decode cX12_plain 98 = .ok (.goto 17, 3) := zdk_g zdb_309 (i := 22) rfl
theorem dX12_plain_101 : decode cX12_plain 101 = .ok (.iconst 0, 1) := zdk_g zdb_309 (i := 23) rfl
theorem dX12_plain_102 : decode cX12_plain 102 = .ok (.goto 13, 3) := zdk_g zdb_309 (i := 24) rfl
theorem dX12_plain_105 : decode cX12_plain 105 = .ok (.iload_n 1, 1) := zdk_g zdb_309 (i := 25) rfl
theorem dX12_plain_106 : decode cX12_plain 106 = .ok (.iload_n 3, 1) := zdk_g zdb_309 (i := 26) rfl
theorem dX12_plain_107 : decode cX12_plain 107 = .ok (.if_icmp .le 7, 3) := zdk_g zdb_309 (i := 27) rfl
theorem dX12_plain_110 : decode cX12_plain 110 = .ok (.iconst 1, 1) := zdk_g zdb_309 (i := 28) rfl
theorem dX12_plain_111 : decode cX12_plain 111 = .ok (.goto 4, 3) := zdk_g zdb_309 (i := 29) rfl
theorem dX12_plain_114 : decode cX12_plain 114 = .ok (.iconst 0, 1) := zdk_g zdb_309 (i := 30) rfl
theorem dX12_plain_115 : decode cX12_plain 115 = .ok (.ireturn, 1) := zdk_g zdb_309 (i := 31) rfl
def zdl_310 : List (Nat × Instr × Nat) := [(0, .aload_n 0, 1), (1, .getfield 25, 3), (4, .iconst (-1), 1), (5, .if_icmp .eq 5, 3), (8, .iconst 0, 1), (9, .ireturn, 1), (10, .aload_n 0, 1), (11, .invokevirtual 101, 3), (14, .istore_n 1, 1), (15, .aload_n 0, 1), (16, .ldc 214, 2), (18, .invokevirtual 108, 3), (21, .istore_n 2, 1), (22, .iload_n 2, 1), (23, .ifCond .ne 17, 3), (26, .aload_n 0, 1), (27, .bipush 40, 2), (29, .invokevirtual 171, 3), (32, .ifCond .ne 8, 3), (35, .aload_n 0, 1), (36, .invokevirtual 216, 3), (39, .ireturn, 1), (40, .aload_n 0, 1), (41, .getfield 162, 3), (44, .bipush 6, 2), (46, .if_icmp .ne 10, 3), (49, .aload_n 0, 1), (50, .iload_n 1, 1), (51, .invokevirtual 104, 3), (54, .iconst 0, 1), (55, .ireturn, 1), (56, .aload_n 0, 1)]
theorem zdb_310 : zdk cX12_atom zdl_310 = true := by decide +kernel
theorem dX12_atom_0 : decode cX12_atom 0 = .ok (.aload_n 0, 1) := zdk_g zdb_310 (i := 0) rfl
theorem dX12_atom_1 : decode cX12_atom 1 = .ok (.getfield 25, 3) := zdk_g zdb_310 (i := 1) rfl
theorem dX12_atom_4 : decode cX12_atom 4 = .ok (.iconst (-1), 1) := zdk_g zdb_310 (i := 2) rfl
theorem dX12_atom_5 : decode cX12_atom 5 = .ok (.if_icmp .eq 5, 3) := zdk_g zdb_310 (i := 3) rfl
theorem dX12_atom_8 : decode cX12_atom 8 = .ok (.iconst 0, 1) := zdk_g zdb_310 (i := 4) rfl
theorem dX12_atom_9 : decode cX12_atom 9 = .ok (.ireturn, 1) := zdk_g zdb_310 (i := 5) rfl
theorem dX12_atom_10 : decode cX12_atom 10 = .ok (.aload_n 0, 1) := zdk_g zdb_310 (i := 6) rfl
theorem dX12_atom_11 : decode cX12_atom 11 = .ok (.invokevirtual 101, 3) := zdk_g zdb_310 (i := 7) rfl
theorem dX12_atom_14 : decode cX12_atom 14 = .ok (.istore_n 1, 1) := zdk_g zdb_310 (i := 8) rfl
theorem dX12_atom_15 : decode cX12_atom 15 = .ok (.aload_n 0, 1) := zdk_g zdb_310 (i := 9) rfl
theorem dX12_atom_16 : decode cX12_atom 16 = .ok (.ldc 214, 2) := zdk_g zdb_310 (i := 10) rfl
theorem dX12_atom_18 : decode cX12_atom 18 = .ok (.invokevirtual 108, 3) := zdk_g zdb_310 (i := 11) rfl
theorem dX12_atom_21 : decode cX12_atom 21 = .ok (.istore_n 2, 1) := zdk_g zdb_310 (i := 12) rfl
theorem dX12_atom_22 : decode cX12_atom 22 = .ok (.iload_n 2, 1) := zdk_g zdb_310 (i := 13) rfl
theorem dX12_atom_23 : decode cX12_atom 23 = .ok (.ifCond .ne 17, 3) := zdk_g zdb_310 (i := 14) rfl
theorem dX12_atom_26 : decode cX12_atom 26 = .ok (.aload_n 0, 1) := zdk_g zdb_310 (i := 15) rfl
theorem dX12_atom_27 : decode cX12_atom 27 = .ok (.bipush 40, 2) := zdk_g zdb_310 (i := 16) rfl
theorem dX12_atom_29 : decode cX12_atom 29 = .ok (.invokevirtual 171, 3) := zdk_g zdb_310 (i := 17) rfl
theorem dX12_atom_32 : decode cX12_atom 32 = .ok (.ifCond .ne 8, 3) := zdk_g zdb_310 (i := 18) rfl
theorem dX12_atom_35 : decode cX12_atom 35 = .ok (.aload_n 0, 1) := zdk_g zdb_310 (i := 19) rfl
theorem dX12_atom_36 : decode cX12_atom 36 = .ok (.invokevirtual 216, 3) := zdk_g zdb_310 (i := 20) rfl
theorem dX12_atom_39 : decode cX12_atom 39 = .ok (.ireturn, 1) := zdk_g zdb_310 (i := 21) rfl
theorem dX12_atom_40 : decode cX12_atom 40 = .ok (.aload_n 0, 1) := zdk_g zdb_310 (i := 22) rfl
theorem dX12_atom_41 : decode cX12_atom 41 = .ok (.getfield 162, 3) := zdk_g zdb_310 (i := 23) rfl
theorem dX12_atom_44 : decode cX12_atom 44 = .ok (.bipush 6, 2) := zdk_g zdb_310 (i := 24) rfl
theorem dX12_atom_46 : decode cX12_atom 46 = .ok (.if_icmp .ne 10, 3) := zdk_g zdb_310 (i := 25) rfl
theorem dX12_atom_49 : decode cX12_atom 49 = .ok (.aload_n 0, 1) := zdk_g zdb_310 (i := 26) rfl
theorem dX12_atom_50 : decode cX12_atom 50 = .ok (.iload_n 1, 1) := zdk_g zdb_310 (i := 27) rfl
theorem dX12_atom_51 : decode cX12_atom 51 = .ok (.invokevirtual 104, 3) := zdk_g zdb_310 (i := 28) rfl
theorem dX12_atom_54 : decode cX12_atom 54 = .ok (.iconst 0, 1) := zdk_g zdb_310 (i := 29) rfl
theorem dX12_atom_55 : decode cX12_atom 55 = .ok (.ireturn, 1) := zdk_g zdb_310 (i := 30) rfl
theorem dX12_atom_56 : decode cX12_atom 56 = .ok (.aload_n 0, 1) := zdk_g zdb_310 (i := 31) rfl
def zdl_311 : List (Nat × Instr × Nat) := [(57, .dup, 1), (58, .getfield 162, 3), (61, .iconst 1, 1), (62, .iadd, 1), (63, .putfield 162, 3), (66, .iconst 0, 1), (67, .istore_n 3, 1), (68, .iload_n 2, 1), (69, .ifCond .eq 19, 3), (72, .aload_n 0, 1), (73, .invokevirtual 220, 3), (76, .ifCond .ne 7, 3), (79, .iconst 1, 1), (80, .goto 4, 3), (83, .iconst 0, 1), (84, .istore_n 3, 1), (85, .goto 53, 3), (88, .aload_n 0, 1), (89, .dup, 1), (90, .getfield 80, 3), (93, .iconst 1, 1), (94, .iadd, 1), (95, .putfield 80, 3), (98, .aload_n 0, 1), (99, .invokevirtual 223, 3), (102, .istore_n 3, 1), (103, .aload_n 0, 1), (104, .getfield 25, 3), (107, .iconst (-1), 1), (108, .if_icmp .ne 20, 3), (111, .aload_n 0, 1), (112, .bipush 41, 2)]
theorem zdb_311 : zdk cX12_atom zdl_311 = true := by decide +kernel
theorem dX12_atom_57 : decode cX12_atom 57 = .ok (.dup, 1) := zdk_g zdb_311 (i := 0) rfl
theorem dX12_atom_58 : decode cX12_atom 58 = .ok (.getfield 162, 3) := zdk_g zdb_311 (i := 1) rfl
theorem dX12_atom_61 : decode cX12_atom 61 = .ok (.iconst 1, 1) := zdk_g zdb_311 (i := 2) rfl
theorem dX12_atom_62 : decode cX12_atom 62 = .ok (.iadd, 1) := zdk_g zdb_311 (i := 3) rfl
theorem dX12_atom_63 : decode cX12_atom 63 = .ok (.putfield 162, 3) := zdk_g zdb_311 (i := 4) rfl
theorem dX12_atom_66 : decode cX12_atom 66 = .ok (.iconst 0, 1) := zdk_g zdb_311 (i := 5) rfl
theorem dX12_atom_67 : decode cX12_atom 67 = .ok (.istore_n 3, 1) := zdk_g zdb_311 (i := 6) rfl
theorem dX12_atom_68 : decode cX12_atom 68 = .ok (.iload_n 2, 1) := zdk_g zdb_311 (i := 7) rfl
theorem dX12_atom_69 : decode cX12_atom 69 = .ok (.ifCond .eq 19, 3) := zdk_g zdb_311 (i := 8) rfl
theorem dX12_atom_72 : decode cX12_atom 72 = .ok (.aload_n 0, 1) := zdk_g zdb_311 (i := 9) rfl
theorem dX12_atom_73 : decode cX12_atom 73 = .ok (.invokevirtual 220, 3) := zdk_g zdb_311 (i := 10) rfl
theorem dX12_atom_76 : decode cX12_atom 76 = .ok (.ifCond .ne 7, 3) := zdk_g zdb_311 (i := 11) rfl
theorem dX12_atom_79 : decode cX12_atom 79 = .ok (.iconst 1, 1) := zdk_g zdb_311 (i := 12) rfl
theorem dX12_atom_80 : decode cX12_atom 80 = .ok (.goto 4, 3) := zdk_g zdb_311 (i := 13) rfl
theorem dX12_atom_83 : decode cX12_atom 83 = .ok (.iconst 0, 1) := zdk_g zdb_311 (i := 14) rfl
theorem dX12_atom_84 : decode cX12_atom 84 = .ok (.istore_n 3, 1) := zdk_g zdb_311 (i := 15) rfl
theorem dX12_atom_85 : decode cX12_atom 85 = .ok (.goto 53, 3) := zdk_g zdb_311 (i := 16) rfl
theorem dX12_atom_88 : decode cX12_atom 88 = .ok (.aload_n 0, 1) := zdk_g zdb_311 (i := 17) rfl
theorem dX12_atom_89 : decode cX12_atom 89 = .ok (.dup, 1) := zdk_g zdb_311 (i := 18) rfl
theorem dX12_atom_90 : decode cX12_atom 90 = .ok (.getfield 80, 3) := zdk_g zdb_311 (i := 19) rfl
theorem dX12_atom_93 : decode cX12_atom 93 = .ok (.iconst 1, 1) := zdk_g zdb_311 (i := 20) rfl
theorem dX12_atom_94 : decode cX12_atom 94 = .ok (.iadd, 1) := zdk_g zdb_311 (i := 21) rfl
theorem dX12_atom_95 : decode cX12_atom 95 = .ok (.putfield 80, 3) := zdk_g zdb_311 (i := 22) rfl
theorem dX12_atom_98 : decode cX12_atom 98 = .ok (.aload_n 0, 1) := zdk_g zdb_311 (i := 23) rfl
theorem dX12_atom_99 : decode cX12_atom 99 = .ok (.invokevirtual 223, 3) := zdk_g zdb_311 (i := 24) rfl
theorem dX12_atom_102 : decode cX12_atom 102 = .ok (.istore_n 3, 1) := zdk_g zdb_311 (i := 25) rfl
theorem dX12_atom_103 : decode cX12_atom 103 = .ok (.aload_n 0, 1) := zdk_g zdb_311 (i := 26) rfl
theorem dX12_atom_104 : decode cX12_atom 104 = .ok (.getfield 25, 3) := zdk_g zdb_311 (i := 27) rfl
theorem dX12_atom_107 : decode cX12_atom 107 = .ok (.iconst (-1), 1) := zdk_g zdb_311 (i := 28) rfl
theorem dX12_atom_108 : decode cX12_atom 108 = .ok (.if_icmp .ne 20, 3) := zdk_g zdb_311 (i := 29) rfl
theorem dX12_atom_111 : decode cX12_atom 111 = .ok (.aload_n 0, 1) := zdk_g zdb_311 (i := 30) rfl
theorem dX12_atom_112 : decode cX12_atom 112 = .ok (.bipush 41, 2) := zdk_g zdb_311 (i := 31) rfl
def zdl_312 : List (Nat × Instr × Nat) := [(114, .invokevirtual 171, 3), (117, .ifCond .ne 11, 3), (120, .aload_n 0, 1), (121, .aload_n 0, 1), (122, .getfield 80, 3), (125, .invokevirtual 104, 3), (128, .aload_n 0, 1), (129, .dup, 1), (130, .getfield 80, 3), (133, .iconst 1, 1), (134, .iadd, 1), (135, .putfield 80, 3), (138, .aload_n 0, 1), (139, .dup, 1), (140, .getfield 162, 3), (143, .iconst 1, 1), (144, .isub, 1), (145, .putfield 162, 3), (148, .iload_n 3, 1), (149, .ireturn, 1)]
theorem zdb_312 : zdk cX12_atom zdl_312 = true := by decide +kernel
theorem dX12_atom_114 : decode cX12_atom 114 = .ok (.invokevirtual 171, 3) := zdk_g zdb_312 (i := 0) rfl
theorem dX12_atom_117 : decode cX12_atom 117 = .ok (.ifCond .ne 11, 3) := zdk_g zdb_312 (i := 1) rfl
theorem dX12_atom_120 : decode cX12_atom 120 = .ok (.aload_n 0, 1) := zdk_g zdb_312 (i := 2) rfl
theorem dX12_atom_121 : decode cX12_atom 121 = .ok (.aload_n 0, 1) := zdk_g zdb_312 (i := 3) rfl
theorem dX12_atom_122 : decode cX12_atom 122 = .ok (.getfield 80, 3) := zdk_g zdb_312 (i := 4) rfl
theorem dX12_atom_125 : decode cX12_atom 125 = .ok (.invokevirtual 104, 3) := zdk_g zdb_312 (i := 5) rfl
theorem dX12_atom_128 : decode cX12_atom 128 = .ok (.aload_n 0, 1) := zdk_g zdb_312 (i := 6) rfl
theorem dX12_atom_129 : decode cX12_atom 129 = .ok (.dup, 1) := zdk_g zdb_312 (i := 7) rfl
theorem dX12_atom_130 : decode cX12_atom 130 = .ok (.getfield 80, 3) := zdk_g zdb_312 (i := 8) rfl
theorem dX12_atom_133 : decode cX12_atom 133 = .ok (.iconst 1, 1) := zdk_g zdb_312 (i := 9) rfl
theorem dX12_atom_134 : decode cX12_atom 134 = .ok (.iadd, 1) := zdk_g zdb_312 (i := 10) rfl
theorem dX12_atom_135 : decode cX12_atom 135 = .ok (.putfield 80, 3) := zdk_g zdb_312 (i := 11) rfl
theorem dX12_atom_138 : decode cX12_atom 138 = .ok (.aload_n 0, 1) := zdk_g zdb_312 (i := 12) rfl
theorem dX12_atom_139 : decode cX12_atom 139 = .ok (.dup, 1) := zdk_g zdb_312 (i := 13) rfl
theorem dX12_atom_140 : decode cX12_atom 140 = .ok (.getfield 162, 3) := zdk_g zdb_312 (i := 14) rfl
theorem dX12_atom_143 : decode cX12_atom 143 = .ok (.iconst 1, 1) := zdk_g zdb_312 (i := 15) rfl
theorem dX12_atom_144 : decode cX12_atom 144 = .ok (.isub, 1) := zdk_g zdb_312 (i := 16) rfl
theorem dX12_atom_145 : decode cX12_atom 145 = .ok (.putfield 162, 3) := zdk_g zdb_312 (i := 17) rfl
theorem dX12_atom_148 : decode cX12_atom 148 = .ok (.iload_n 3, 1) := zdk_g zdb_312 (i := 18) rfl
theorem dX12_atom_149 : decode cX12_atom 149 = .ok (.ireturn, 1) := zdk_g zdb_312 (i := 19) rfl
def zdl_313 : List (Nat × Instr × Nat) := [(0, .aload_n 0, 1), (1, .invokevirtual 220, 3), (4, .istore_n 1, 1), (5, .aload_n 0, 1), (6, .getfield 25, 3), (9, .iconst (-1), 1), (10, .if_icmp .ne 34, 3), (13, .aload_n 0, 1), (14, .ldc 226, 2), (16, .invokevirtual 108, 3), (19, .ifCond .eq 25, 3), (22, .aload_n 0, 1), (23, .invokevirtual 220, 3), (26, .istore_n 2, 1), (27, .iload_n 1, 1), (28, .ifCond .eq 11, 3), (31, .iload_n 2, 1), (32, .ifCond .eq 7, 3), (35, .iconst 1, 1), (36, .goto 4, 3), (39, .iconst 0, 1), (40, .istore_n 1, 1), (41, .goto (-36), 3), (44, .iload_n 1, 1), (45, .ireturn, 1)]
theorem zdb_313 : zdk cX12_every zdl_313 = true := by decide +kernel
theorem dX12_every_0 : decode cX12_every 0 = .ok (.aload_n 0, 1) := zdk_g zdb_313 (i := 0) rfl
theorem dX12_every_1 : decode cX12_every 1 = .ok (.invokevirtual 220, 3) := zdk_g zdb_313 (i := 1) rfl
theorem dX12_every_4 : decode cX12_every 4 = .ok (.istore_n 1, 1) := zdk_g zdb_313 (i := 2) rfl
theorem dX12_every_5 : decode cX12_every 5 = .ok (.aload_n 0, 1) := zdk_g zdb_313 (i := 3) rfl
theorem dX12_every_6 : decode cX12_every 6 = .ok (.getfield 25, 3) := zdk_g zdb_313 (i := 4) rfl
theorem dX12_every_9 : decode cX12_every 9 = .ok (.iconst (-1), 1) := zdk_g zdb_313 (i := 5) rfl
theorem dX12_every_10 : decode cX12_every 10 = .ok (.if_icmp .ne 34, 3) := zdk_g zdb_313 (i := 6) rfl
theorem dX12_every_13 : decode cX12_every 13 = .ok (.aload_n 0, 1) := zdk_g zdb_313 (i := 7) rfl
theorem dX12_every_14 : decode cX12_every 14 = .ok (.ldc 226, 2) := zdk_g zdb_313 (i := 8) rfl
theorem dX12_every_16 : decode cX12_every 16 = .ok (.invokevirtual 108, 3) := zdk_g zdb_313 (i := 9) rfl
theorem dX12_every_19 : decode cX12_every 19 = .ok (.ifCond .eq 25, 3) := zdk_g zdb_313 (i := 10) rfl
theorem dX12_every_22 : decode cX12_every 22 = .ok (.aload_n 0, 1) := zdk_g zdb_313 (i := 11) rfl
theorem dX12_every_23 : decode cX12_every 23 = .ok (.invokevirtual 220, 3) := zdk_g zdb_313 (i := 12) rfl
theorem dX12_every_26 : decode cX12_every 26 = .ok (.istore_n 2, 1) := zdk_g zdb_313 (i := 13) rfl
theorem dX12_every_27 : decode cX12_every 27 = .ok (.iload_n 1, 1) := zdk_g zdb_313 (i := 14) rfl
theorem dX12_every_28 : decode cX12_every 28 = .ok (.ifCond .eq 11, 3) := zdk_g zdb_313 (i := 15) rfl
theorem dX12_every_31 : decode cX12_every 31 = .ok (.iload_n 2, 1) := zdk_g zdb_313 (i := 16) rfl
theorem dX12_every_32 : decode cX12_every 32 = .ok (.ifCond .eq 7, 3) := zdk_g zdb_313 (i := 17) rfl
theorem dX12_every_35 : decode cX12_every 35 = .ok (.iconst 1, 1) := zdk_g zdb_313 (i := 18) rfl
theorem dX12_every_36 : decode cX12_every 36 = .ok (.goto 4, 3) := zdk_g zdb_313 (i := 19) rfl
theorem dX12_every_39 : decode cX12_every 39 = .ok (.iconst 0, 1) := zdk_g zdb_313 (i := 20) rfl
theorem dX12_every_40 : decode cX12_every 40 = .ok (.istore_n 1, 1) := zdk_g zdb_313 (i := 21) rfl
theorem dX12_every_41 : decode cX12_every 41 = .ok (.goto (-36), 3) := zdk_g zdb_313 (i := 22) rfl
theorem dX12_every_44 : decode cX12_every 44 = .ok (.iload_n 1, 1) := zdk_g zdb_313 (i := 23) rfl
theorem dX12_every_45 : decode cX12_every 45 = .ok (.ireturn, 1) := zdk_g zdb_313 (i := 24) rfl
def zdl_314 : List (Nat × Instr × Nat) := [(0, .aload_n 0, 1), (1, .invokevirtual 228, 3), (4, .istore_n 1, 1), (5, .aload_n 0, 1), (6, .getfield 25, 3), (9, .iconst (-1), 1), (10, .if_icmp .ne 34, 3), (13, .aload_n 0, 1), (14, .ldc 231, 2), (16, .invokevirtual 108, 3), (19, .ifCond .eq 25, 3), (22, .aload_n 0, 1), (23, .invokevirtual 228, 3), (26, .istore_n 2, 1), (27, .iload_n 1, 1), (28, .ifCond .ne 7, 3), (31, .iload_n 2, 1), (32, .ifCond .eq 7, 3), (35, .iconst 1, 1), (36, .goto 4, 3), (39, .iconst 0, 1), (40, .istore_n 1, 1), (41, .goto (-36), 3), (44, .iload_n 1, 1), (45, .ireturn, 1)]
theorem zdb_314 : zdk cX12_some zdl_314 = true := by decide +kernel
theorem dX12_some_0 : decode cX12_some 0 = .ok (.aload_n 0, 1) := zdk_g zdb_314 (i := 0) rfl
theorem dX12_some_1 : decode cX12_some 1 = .ok (.invokevirtual 228, 3) := zdk_g zdb_314 (i := 1) rfl
theorem dX12_some_4 : decode cX12_some 4 = .ok (.istore_n 1, 1) := zdk_g zdb_314 (i := 2) rfl
theorem dX12_some_5 : decode cX12_some 5 = .ok (.aload_n 0, 1) := zdk_g zdb_314 (i := 3) rfl
theorem dX12_some_6 : decode cX12_some 6 = .ok (.getfield 25, 3) := zdk_g zdb_314 (i := 4) rfl
theorem dX12_some_9 : decode cX12_some 9 = .ok (.iconst (-1), 1) := zdk_g zdb_314 (i := 5) rfl
theorem dX12_some_10 : decode cX12_some 10 = .ok (.if_icmp .ne 34, 3) := zdk_g zdb_314 (i := 6) rfl
theorem dX12_some_13 : decode cX12_some 13 = .ok (.aload_n 0, 1) := zdk_g zdb_314 (i := 7) rfl
theorem dX12_some_14 : decode cX12_some 14 = .ok (.ldc 231, 2) := zdk_g zdb_314 (i := 8) rfl
theorem dX12_some_16 : decode cX12_some 16 = .ok (.invokevirtual 108, 3) := zdk_g zdb_314 (i := 9) rfl
theorem dX12_some_19 : decode cX12_some 19 = .ok (.ifCond .eq 25, 3) := zdk_g zdb_314 (i := 10) rfl
theorem dX12_some_22 : decode cX12_some 22 = .ok (.aload_n 0, 1) := zdk_g zdb_314 (i := 11) rfl
theorem dX12_some_23 : decode cX12_some 23 = .ok (.invokevirtual 228, 3) := zdk_g zdb_314 (i := 12) rfl
theorem dX12_some_26 : decode cX12_some 26 = .ok (.istore_n 2, 1) := zdk_g zdb_314 (i := 13) rfl
theorem dX12_some_27 : decode cX12_some 27 = .ok (.iload_n 1, 1) := zdk_g zdb_314 (i := 14) rfl
theorem dX12_some_28 : decode cX12_some 28 = .ok (.ifCond .ne 7, 3) := zdk_g zdb_314 (i := 15) rfl
theorem dX12_some_31 : decode cX12_some 31 = .ok (.iload_n 2, 1) := zdk_g zdb_314 (i := 16) rfl
theorem dX12_some_32 : decode cX12_some 32 = .ok (.ifCond .eq 7, 3) := zdk_g zdb_314 (i := 17) rfl
theorem dX12_some_35 : decode cX12_some 35 = .ok (.iconst 1, 1) := zdk_g zdb_314 (i := 18) rfl
theorem dX12_some_36 : decode cX12_some 36 = .ok (.goto 4, 3) := zdk_g zdb_314 (i := 19) rfl
theorem dX12_some_39 : decode cX12_some 39 = .ok (.iconst 0, 1) := zdk_g zdb_314 (i := 20) rfl
theorem dX12_some_40 : decode cX12_some 40 = .ok (.istore_n 1, 1) := zdk_g zdb_314 (i := 21) rfl
theorem dX12_some_41 : decode cX12_some 41 = .ok (.goto (-36), 3) := zdk_g zdb_314 (i := 22) rfl
theorem dX12_some_44 : decode cX12_some 44 = .ok (.iload_n 1, 1) := zdk_g zdb_314 (i := 23) rfl
theorem dX12_some_45 : decode cX12_some 45 = .ok (.ireturn, 1) := zdk_g zdb_314 (i := 24) rfl
def zdl_315 : List (Nat × Instr × Nat) := [(0, .aload_n 0, 1), (1, .ldc 233, 2), (3, .invokevirtual 108, 3), (6, .istore_n 1, 1), (7, .iload_n 1, 1), (8, .ifCond .ne 21, 3), (11, .aload_n 0, 1), (12, .ldc 235, 2), (14, .invokevirtual 108, 3), (17, .ifCond .ne 12, 3), (20, .aload_n 0, 1), (21, .aload_n 0, 1), (22, .getfield 80, 3), (25, .invokevirtual 104, 3), (28, .return_, 1), (29, .aload_n 0, 1), (30, .iconst 0, 1), (31, .bipush 30, 2), (33, .invokevirtual 112, 3), (36, .istore_n 2, 1), (37, .aload_n 0, 1), (38, .getfield 25, 3), (41, .iconst (-1), 1), (42, .if_icmp .eq 4, 3), (45, .return_, 1), (46, .aload_n 0, 1), (47, .ldc 237, 2), (49, .invokevirtual 108, 3), (52, .ifCond .eq 10, 3), (55, .aload_n 0, 1), (56, .invokevirtual 223, 3), (59, .ifCond .eq 7, 3)]
theorem zdb_315 : zdk cX12_lawLine zdl_315 = true := by decide +kernel
theorem dX12_lawLine_0 : decode cX12_lawLine 0 = .ok (.aload_n 0, 1) := zdk_g zdb_315 (i := 0) rfl
theorem dX12_lawLine_1 : decode cX12_lawLine 1 = .ok (.ldc 233, 2) := zdk_g zdb_315 (i := 1) rfl
theorem dX12_lawLine_3 : decode cX12_lawLine 3 = .ok (.invokevirtual 108, 3) := zdk_g zdb_315 (i := 2) rfl
theorem dX12_lawLine_6 : decode cX12_lawLine 6 = .ok (.istore_n 1, 1) := zdk_g zdb_315 (i := 3) rfl
theorem dX12_lawLine_7 : decode cX12_lawLine 7 = .ok (.iload_n 1, 1) := zdk_g zdb_315 (i := 4) rfl
theorem dX12_lawLine_8 : decode cX12_lawLine 8 = .ok (.ifCond .ne 21, 3) := zdk_g zdb_315 (i := 5) rfl
theorem dX12_lawLine_11 : decode cX12_lawLine 11 = .ok (.aload_n 0, 1) := zdk_g zdb_315 (i := 6) rfl
theorem dX12_lawLine_12 : decode cX12_lawLine 12 = .ok (.ldc 235, 2) := zdk_g zdb_315 (i := 7) rfl
theorem dX12_lawLine_14 : decode cX12_lawLine 14 = .ok (.invokevirtual 108, 3) := zdk_g zdb_315 (i := 8) rfl
theorem dX12_lawLine_17 : decode cX12_lawLine 17 = .ok (.ifCond .ne 12, 3) := zdk_g zdb_315 (i := 9) rfl
theorem dX12_lawLine_20 : decode cX12_lawLine 20 = .ok (.aload_n 0, 1) := zdk_g zdb_315 (i := 10) rfl
theorem dX12_lawLine_21 : decode cX12_lawLine 21 = .ok (.aload_n 0, 1) := zdk_g zdb_315 (i := 11) rfl
theorem dX12_lawLine_22 : decode cX12_lawLine 22 = .ok (.getfield 80, 3) := zdk_g zdb_315 (i := 12) rfl
theorem dX12_lawLine_25 : decode cX12_lawLine 25 = .ok (.invokevirtual 104, 3) := zdk_g zdb_315 (i := 13) rfl
theorem dX12_lawLine_28 : decode cX12_lawLine 28 = .ok (.return_, 1) := zdk_g zdb_315 (i := 14) rfl
theorem dX12_lawLine_29 : decode cX12_lawLine 29 = .ok (.aload_n 0, 1) := zdk_g zdb_315 (i := 15) rfl
theorem dX12_lawLine_30 : decode cX12_lawLine 30 = .ok (.iconst 0, 1) := zdk_g zdb_315 (i := 16) rfl
theorem dX12_lawLine_31 : decode cX12_lawLine 31 = .ok (.bipush 30, 2) := zdk_g zdb_315 (i := 17) rfl
theorem dX12_lawLine_33 : decode cX12_lawLine 33 = .ok (.invokevirtual 112, 3) := zdk_g zdb_315 (i := 18) rfl
theorem dX12_lawLine_36 : decode cX12_lawLine 36 = .ok (.istore_n 2, 1) := zdk_g zdb_315 (i := 19) rfl
theorem dX12_lawLine_37 : decode cX12_lawLine 37 = .ok (.aload_n 0, 1) := zdk_g zdb_315 (i := 20) rfl
theorem dX12_lawLine_38 : decode cX12_lawLine 38 = .ok (.getfield 25, 3) := zdk_g zdb_315 (i := 21) rfl
theorem dX12_lawLine_41 : decode cX12_lawLine 41 = .ok (.iconst (-1), 1) := zdk_g zdb_315 (i := 22) rfl
theorem dX12_lawLine_42 : decode cX12_lawLine 42 = .ok (.if_icmp .eq 4, 3) := zdk_g zdb_315 (i := 23) rfl
theorem dX12_lawLine_45 : decode cX12_lawLine 45 = .ok (.return_, 1) := zdk_g zdb_315 (i := 24) rfl
theorem dX12_lawLine_46 : decode cX12_lawLine 46 = .ok (.aload_n 0, 1) := zdk_g zdb_315 (i := 25) rfl
theorem dX12_lawLine_47 : decode cX12_lawLine 47 = .ok (.ldc 237, 2) := zdk_g zdb_315 (i := 26) rfl
theorem dX12_lawLine_49 : decode cX12_lawLine 49 = .ok (.invokevirtual 108, 3) := zdk_g zdb_315 (i := 27) rfl
theorem dX12_lawLine_52 : decode cX12_lawLine 52 = .ok (.ifCond .eq 10, 3) := zdk_g zdb_315 (i := 28) rfl
theorem dX12_lawLine_55 : decode cX12_lawLine 55 = .ok (.aload_n 0, 1) := zdk_g zdb_315 (i := 29) rfl
theorem dX12_lawLine_56 : decode cX12_lawLine 56 = .ok (.invokevirtual 223, 3) := zdk_g zdb_315 (i := 30) rfl
theorem dX12_lawLine_59 : decode cX12_lawLine 59 = .ok (.ifCond .eq 7, 3) := zdk_g zdb_315 (i := 31) rfl
def zdl_316 : List (Nat × Instr × Nat) := [(62, .iconst 1, 1), (63, .goto 4, 3), (66, .iconst 0, 1), (67, .istore_n 3, 1), (68, .aload_n 0, 1), (69, .getfield 25, 3), (72, .iconst (-1), 1), (73, .if_icmp .ne 26, 3), (76, .iload_n 3, 1), (77, .ifCond .eq 22, 3), (80, .aload_n 0, 1), (81, .dup, 1), (82, .getfield 239, 3), (85, .iload_n 1, 1), (86, .ifCond .eq 7, 3), (89, .iload_n 2, 1), (90, .goto 5, 3), (93, .iload_n 2, 1), (94, .ineg, 1), (95, .iadd, 1), (96, .putfield 239, 3), (99, .return_, 1)]
theorem zdb_316 : zdk cX12_lawLine zdl_316 = true := by decide +kernel
theorem dX12_lawLine_62 : decode cX12_lawLine 62 = .ok (.iconst 1, 1) := zdk_g zdb_316 (i := 0) rfl
theorem dX12_lawLine_63 : decode cX12_lawLine 63 = .ok (.goto 4, 3) := zdk_g zdb_316 (i := 1) rfl
theorem dX12_lawLine_66 : decode cX12_lawLine 66 = .ok (.iconst 0, 1) := zdk_g zdb_316 (i := 2) rfl
theorem dX12_lawLine_67 : decode cX12_lawLine 67 = .ok (.istore_n 3, 1) := zdk_g zdb_316 (i := 3) rfl
theorem dX12_lawLine_68 : decode cX12_lawLine 68 = .ok (.aload_n 0, 1) := zdk_g zdb_316 (i := 4) rfl
theorem dX12_lawLine_69 : decode cX12_lawLine 69 = .ok (.getfield 25, 3) := zdk_g zdb_316 (i := 5) rfl
theorem dX12_lawLine_72 : decode cX12_lawLine 72 = .ok (.iconst (-1), 1) := zdk_g zdb_316 (i := 6) rfl
theorem dX12_lawLine_73 : decode cX12_lawLine 73 = .ok (.if_icmp .ne 26, 3) := zdk_g zdb_316 (i := 7) rfl
theorem dX12_lawLine_76 : decode cX12_lawLine 76 = .ok (.iload_n 3, 1) := zdk_g zdb_316 (i := 8) rfl
theorem dX12_lawLine_77 : decode cX12_lawLine 77 = .ok (.ifCond .eq 22, 3) := zdk_g zdb_316 (i := 9) rfl
theorem dX12_lawLine_80 : decode cX12_lawLine 80 = .ok (.aload_n 0, 1) := zdk_g zdb_316 (i := 10) rfl
theorem dX12_lawLine_81 : decode cX12_lawLine 81 = .ok (.dup, 1) := zdk_g zdb_316 (i := 11) rfl
theorem dX12_lawLine_82 : decode cX12_lawLine 82 = .ok (.getfield 239, 3) := zdk_g zdb_316 (i := 12) rfl
theorem dX12_lawLine_85 : decode cX12_lawLine 85 = .ok (.iload_n 1, 1) := zdk_g zdb_316 (i := 13) rfl
theorem dX12_lawLine_86 : decode cX12_lawLine 86 = .ok (.ifCond .eq 7, 3) := zdk_g zdb_316 (i := 14) rfl
theorem dX12_lawLine_89 : decode cX12_lawLine 89 = .ok (.iload_n 2, 1) := zdk_g zdb_316 (i := 15) rfl
theorem dX12_lawLine_90 : decode cX12_lawLine 90 = .ok (.goto 5, 3) := zdk_g zdb_316 (i := 16) rfl
theorem dX12_lawLine_93 : decode cX12_lawLine 93 = .ok (.iload_n 2, 1) := zdk_g zdb_316 (i := 17) rfl
theorem dX12_lawLine_94 : decode cX12_lawLine 94 = .ok (.ineg, 1) := zdk_g zdb_316 (i := 18) rfl
theorem dX12_lawLine_95 : decode cX12_lawLine 95 = .ok (.iadd, 1) := zdk_g zdb_316 (i := 19) rfl
theorem dX12_lawLine_96 : decode cX12_lawLine 96 = .ok (.putfield 239, 3) := zdk_g zdb_316 (i := 20) rfl
theorem dX12_lawLine_99 : decode cX12_lawLine 99 = .ok (.return_, 1) := zdk_g zdb_316 (i := 21) rfl
def zdl_317 : List (Nat × Instr × Nat) := [(0, .aload_n 0, 1), (1, .invokevirtual 177, 3), (4, .aload_n 0, 1), (5, .iconst 1, 1), (6, .invokevirtual 180, 3), (9, .istore_n 1, 1), (10, .aload_n 0, 1), (11, .aload_n 0, 1), (12, .getfield 25, 3), (15, .iconst (-1), 1), (16, .if_icmp .eq 7, 3), (19, .iconst 1, 1), (20, .goto 4, 3), (23, .iconst 0, 1), (24, .putfield 39, 3), (27, .aload_n 0, 1), (28, .getfield 39, 3), (31, .ifCond .le 5, 3), (34, .iconst 0, 1), (35, .ireturn, 1), (36, .aload_n 0, 1), (37, .getfield 7, 3), (40, .iconst 1, 1), (41, .iload_n 1, 1), (42, .iastore, 1), (43, .aload_n 0, 1), (44, .getfield 7, 3), (47, .iconst 2, 1), (48, .aload_n 0, 1), (49, .getfield 83, 3), (52, .iastore, 1), (53, .iconst 0, 1)]
theorem zdb_317 : zdk cX12_law zdl_317 = true := by decide +kernel
theorem dX12_law_0 : decode cX12_law 0 = .ok (.aload_n 0, 1) := zdk_g zdb_317 (i := 0) rfl
theorem dX12_law_1 : decode cX12_law 1 = .ok (.invokevirtual 177, 3) := zdk_g zdb_317 (i := 1) rfl
theorem dX12_law_4 : decode cX12_law 4 = .ok (.aload_n 0, 1) := zdk_g zdb_317 (i := 2) rfl
theorem dX12_law_5 : decode cX12_law 5 = .ok (.iconst 1, 1) := zdk_g zdb_317 (i := 3) rfl
theorem dX12_law_6 : decode cX12_law 6 = .ok (.invokevirtual 180, 3) := zdk_g zdb_317 (i := 4) rfl
theorem dX12_law_9 : decode cX12_law 9 = .ok (.istore_n 1, 1) := zdk_g zdb_317 (i := 5) rfl
theorem dX12_law_10 : decode cX12_law 10 = .ok (.aload_n 0, 1) := zdk_g zdb_317 (i := 6) rfl
theorem dX12_law_11 : decode cX12_law 11 = .ok (.aload_n 0, 1) := zdk_g zdb_317 (i := 7) rfl
theorem dX12_law_12 : decode cX12_law 12 = .ok (.getfield 25, 3) := zdk_g zdb_317 (i := 8) rfl
theorem dX12_law_15 : decode cX12_law 15 = .ok (.iconst (-1), 1) := zdk_g zdb_317 (i := 9) rfl
theorem dX12_law_16 : decode cX12_law 16 = .ok (.if_icmp .eq 7, 3) := zdk_g zdb_317 (i := 10) rfl
theorem dX12_law_19 : decode cX12_law 19 = .ok (.iconst 1, 1) := zdk_g zdb_317 (i := 11) rfl
theorem dX12_law_20 : decode cX12_law 20 = .ok (.goto 4, 3) := zdk_g zdb_317 (i := 12) rfl
theorem dX12_law_23 : decode cX12_law 23 = .ok (.iconst 0, 1) := zdk_g zdb_317 (i := 13) rfl
theorem dX12_law_24 : decode cX12_law 24 = .ok (.putfield 39, 3) := zdk_g zdb_317 (i := 14) rfl
theorem dX12_law_27 : decode cX12_law 27 = .ok (.aload_n 0, 1) := zdk_g zdb_317 (i := 15) rfl
theorem dX12_law_28 : decode cX12_law 28 = .ok (.getfield 39, 3) := zdk_g zdb_317 (i := 16) rfl
theorem dX12_law_31 : decode cX12_law 31 = .ok (.ifCond .le 5, 3) := zdk_g zdb_317 (i := 17) rfl
theorem dX12_law_34 : decode cX12_law 34 = .ok (.iconst 0, 1) := zdk_g zdb_317 (i := 18) rfl
theorem dX12_law_35 : decode cX12_law 35 = .ok (.ireturn, 1) := zdk_g zdb_317 (i := 19) rfl
theorem dX12_law_36 : decode cX12_law 36 = .ok (.aload_n 0, 1) := zdk_g zdb_317 (i := 20) rfl
theorem dX12_law_37 : decode cX12_law 37 = .ok (.getfield 7, 3) := zdk_g zdb_317 (i := 21) rfl
theorem dX12_law_40 : decode cX12_law 40 = .ok (.iconst 1, 1) := zdk_g zdb_317 (i := 22) rfl
theorem dX12_law_41 : decode cX12_law 41 = .ok (.iload_n 1, 1) := zdk_g zdb_317 (i := 23) rfl
theorem dX12_law_42 : decode cX12_law 42 = .ok (.iastore, 1) := zdk_g zdb_317 (i := 24) rfl
theorem dX12_law_43 : decode cX12_law 43 = .ok (.aload_n 0, 1) := zdk_g zdb_317 (i := 25) rfl
theorem dX12_law_44 : decode cX12_law 44 = .ok (.getfield 7, 3) := zdk_g zdb_317 (i := 26) rfl
theorem dX12_law_47 : decode cX12_law 47 = .ok (.iconst 2, 1) := zdk_g zdb_317 (i := 27) rfl
theorem dX12_law_48 : decode cX12_law 48 = .ok (.aload_n 0, 1) := zdk_g zdb_317 (i := 28) rfl
theorem dX12_law_49 : decode cX12_law 49 = .ok (.getfield 83, 3) := zdk_g zdb_317 (i := 29) rfl
theorem dX12_law_52 : decode cX12_law 52 = .ok (.iastore, 1) := zdk_g zdb_317 (i := 30) rfl
theorem dX12_law_53 : decode cX12_law 53 = .ok (.iconst 0, 1) := zdk_g zdb_317 (i := 31) rfl
def zdl_318 : List (Nat × Instr × Nat) := [(54, .istore_n 2, 1), (55, .iload_n 2, 1), (56, .aload_n 0, 1), (57, .getfield 83, 3), (60, .if_icmp .ge 25, 3), (63, .aload_n 0, 1), (64, .getfield 7, 3), (67, .sipush 379, 3), (70, .iload_n 2, 1), (71, .iadd, 1), (72, .aload_n 0, 1), (73, .getfield 22, 3), (76, .iload_n 2, 1), (77, .iaload, 1), (78, .iastore, 1), (79, .iinc 2 1, 3), (82, .goto (-27), 3), (85, .aload_n 0, 1), (86, .iconst 0, 1), (87, .putfield 187, 3), (90, .iload_n 1, 1), (91, .ireturn, 1)]
theorem zdb_318 : zdk cX12_law zdl_318 = true := by decide +kernel
theorem dX12_law_54 : decode cX12_law 54 = .ok (.istore_n 2, 1) := zdk_g zdb_318 (i := 0) rfl
theorem dX12_law_55 : decode cX12_law 55 = .ok (.iload_n 2, 1) := zdk_g zdb_318 (i := 1) rfl
theorem dX12_law_56 : decode cX12_law 56 = .ok (.aload_n 0, 1) := zdk_g zdb_318 (i := 2) rfl
theorem dX12_law_57 : decode cX12_law 57 = .ok (.getfield 83, 3) := zdk_g zdb_318 (i := 3) rfl
theorem dX12_law_60 : decode cX12_law 60 = .ok (.if_icmp .ge 25, 3) := zdk_g zdb_318 (i := 4) rfl
theorem dX12_law_63 : decode cX12_law 63 = .ok (.aload_n 0, 1) := zdk_g zdb_318 (i := 5) rfl
theorem dX12_law_64 : decode cX12_law 64 = .ok (.getfield 7, 3) := zdk_g zdb_318 (i := 6) rfl
theorem dX12_law_67 : decode cX12_law 67 = .ok (.sipush 379, 3) := zdk_g zdb_318 (i := 7) rfl
theorem dX12_law_70 : decode cX12_law 70 = .ok (.iload_n 2, 1) := zdk_g zdb_318 (i := 8) rfl
theorem dX12_law_71 : decode cX12_law 71 = .ok (.iadd, 1) := zdk_g zdb_318 (i := 9) rfl
theorem dX12_law_72 : decode cX12_law 72 = .ok (.aload_n 0, 1) := zdk_g zdb_318 (i := 10) rfl
theorem dX12_law_73 : decode cX12_law 73 = .ok (.getfield 22, 3) := zdk_g zdb_318 (i := 11) rfl
theorem dX12_law_76 : decode cX12_law 76 = .ok (.iload_n 2, 1) := zdk_g zdb_318 (i := 12) rfl
theorem dX12_law_77 : decode cX12_law 77 = .ok (.iaload, 1) := zdk_g zdb_318 (i := 13) rfl
theorem dX12_law_78 : decode cX12_law 78 = .ok (.iastore, 1) := zdk_g zdb_318 (i := 14) rfl
theorem dX12_law_79 : decode cX12_law 79 = .ok (.iinc 2 1, 3) := zdk_g zdb_318 (i := 15) rfl
theorem dX12_law_82 : decode cX12_law 82 = .ok (.goto (-27), 3) := zdk_g zdb_318 (i := 16) rfl
theorem dX12_law_85 : decode cX12_law 85 = .ok (.aload_n 0, 1) := zdk_g zdb_318 (i := 17) rfl
theorem dX12_law_86 : decode cX12_law 86 = .ok (.iconst 0, 1) := zdk_g zdb_318 (i := 18) rfl
theorem dX12_law_87 : decode cX12_law 87 = .ok (.putfield 187, 3) := zdk_g zdb_318 (i := 19) rfl
theorem dX12_law_90 : decode cX12_law 90 = .ok (.iload_n 1, 1) := zdk_g zdb_318 (i := 20) rfl
theorem dX12_law_91 : decode cX12_law 91 = .ok (.ireturn, 1) := zdk_g zdb_318 (i := 21) rfl
def zdl_319 : List (Nat × Instr × Nat) := [(0, .aload_n 0, 1), (1, .iconst 0, 1), (2, .putfield 39, 3), (5, .aload_n 0, 1), (6, .getfield 25, 3), (9, .ireturn, 1)]
theorem zdb_319 : zdk cX12_fault zdl_319 = true := by decide +kernel
theorem dX12_fault_0 : decode cX12_fault 0 = .ok (.aload_n 0, 1) := zdk_g zdb_319 (i := 0) rfl
theorem dX12_fault_1 : decode cX12_fault 1 = .ok (.iconst 0, 1) := zdk_g zdb_319 (i := 1) rfl
theorem dX12_fault_2 : decode cX12_fault 2 = .ok (.putfield 39, 3) := zdk_g zdb_319 (i := 2) rfl
theorem dX12_fault_5 : decode cX12_fault 5 = .ok (.aload_n 0, 1) := zdk_g zdb_319 (i := 3) rfl
theorem dX12_fault_6 : decode cX12_fault 6 = .ok (.getfield 25, 3) := zdk_g zdb_319 (i := 4) rfl
theorem dX12_fault_9 : decode cX12_fault 9 = .ok (.ireturn, 1) := zdk_g zdb_319 (i := 5) rfl
def zdl_320 : List (Nat × Instr × Nat) := [(0, .aload_n 0, 1), (1, .getfield 7, 3), (4, .iconst 1, 1), (5, .iaload, 1), (6, .iconst (-1), 1), (7, .if_icmp .ne 19, 3), (10, .aload_n 0, 1), (11, .iload_n 1, 1), (12, .iconst 3, 1), (13, .invokevirtual 46, 3), (16, .iconst 1, 1), (17, .if_icmp .ne 7, 3), (20, .iconst (-1), 1), (21, .goto 4, 3), (24, .iconst 0, 1), (25, .ireturn, 1), (26, .aload_n 0, 1), (27, .getfield 29, 3), (30, .iconst 0, 1), (31, .iload_n 1, 1), (32, .iastore, 1), (33, .aload_n 0, 1), (34, .getfield 29, 3), (37, .iconst 1, 1), (38, .aload_n 0, 1), (39, .iload_n 1, 1), (40, .iconst 0, 1), (41, .invokevirtual 46, 3), (44, .iastore, 1), (45, .aload_n 0, 1), (46, .getfield 29, 3), (49, .iconst 2, 1)]
theorem zdb_320 : zdk cX12_turnsBy zdl_320 = true := by decide +kernel
theorem dX12_turnsBy_0 : decode cX12_turnsBy 0 = .ok (.aload_n 0, 1) := zdk_g zdb_320 (i := 0) rfl
theorem dX12_turnsBy_1 : decode cX12_turnsBy 1 = .ok (.getfield 7, 3) := zdk_g zdb_320 (i := 1) rfl
theorem dX12_turnsBy_4 : decode cX12_turnsBy 4 = .ok (.iconst 1, 1) := zdk_g zdb_320 (i := 2) rfl
theorem dX12_turnsBy_5 : decode cX12_turnsBy 5 = .ok (.iaload, 1) := zdk_g zdb_320 (i := 3) rfl
theorem dX12_turnsBy_6 : decode cX12_turnsBy 6 = .ok (.iconst (-1), 1) := zdk_g zdb_320 (i := 4) rfl
theorem dX12_turnsBy_7 : decode cX12_turnsBy 7 = .ok (.if_icmp .ne 19, 3) := zdk_g zdb_320 (i := 5) rfl
theorem dX12_turnsBy_10 : decode cX12_turnsBy 10 = .ok (.aload_n 0, 1) := zdk_g zdb_320 (i := 6) rfl
theorem dX12_turnsBy_11 : decode cX12_turnsBy 11 = .ok (.iload_n 1, 1) := zdk_g zdb_320 (i := 7) rfl
theorem dX12_turnsBy_12 : decode cX12_turnsBy 12 = .ok (.iconst 3, 1) := zdk_g zdb_320 (i := 8) rfl
theorem dX12_turnsBy_13 : decode cX12_turnsBy 13 = .ok (.invokevirtual 46, 3) := zdk_g zdb_320 (i := 9) rfl
theorem dX12_turnsBy_16 : decode cX12_turnsBy 16 = .ok (.iconst 1, 1) := zdk_g zdb_320 (i := 10) rfl
theorem dX12_turnsBy_17 : decode cX12_turnsBy 17 = .ok (.if_icmp .ne 7, 3) := zdk_g zdb_320 (i := 11) rfl
theorem dX12_turnsBy_20 : decode cX12_turnsBy 20 = .ok (.iconst (-1), 1) := zdk_g zdb_320 (i := 12) rfl
theorem dX12_turnsBy_21 : decode cX12_turnsBy 21 = .ok (.goto 4, 3) := zdk_g zdb_320 (i := 13) rfl
theorem dX12_turnsBy_24 : decode cX12_turnsBy 24 = .ok (.iconst 0, 1) := zdk_g zdb_320 (i := 14) rfl
theorem dX12_turnsBy_25 : decode cX12_turnsBy 25 = .ok (.ireturn, 1) := zdk_g zdb_320 (i := 15) rfl
theorem dX12_turnsBy_26 : decode cX12_turnsBy 26 = .ok (.aload_n 0, 1) := zdk_g zdb_320 (i := 16) rfl
theorem dX12_turnsBy_27 : decode cX12_turnsBy 27 = .ok (.getfield 29, 3) := zdk_g zdb_320 (i := 17) rfl
theorem dX12_turnsBy_30 : decode cX12_turnsBy 30 = .ok (.iconst 0, 1) := zdk_g zdb_320 (i := 18) rfl
theorem dX12_turnsBy_31 : decode cX12_turnsBy 31 = .ok (.iload_n 1, 1) := zdk_g zdb_320 (i := 19) rfl
theorem dX12_turnsBy_32 : decode cX12_turnsBy 32 = .ok (.iastore, 1) := zdk_g zdb_320 (i := 20) rfl
theorem dX12_turnsBy_33 : decode cX12_turnsBy 33 = .ok (.aload_n 0, 1) := zdk_g zdb_320 (i := 21) rfl
theorem dX12_turnsBy_34 : decode cX12_turnsBy 34 = .ok (.getfield 29, 3) := zdk_g zdb_320 (i := 22) rfl
theorem dX12_turnsBy_37 : decode cX12_turnsBy 37 = .ok (.iconst 1, 1) := zdk_g zdb_320 (i := 23) rfl
theorem dX12_turnsBy_38 : decode cX12_turnsBy 38 = .ok (.aload_n 0, 1) := zdk_g zdb_320 (i := 24) rfl
theorem dX12_turnsBy_39 : decode cX12_turnsBy 39 = .ok (.iload_n 1, 1) := zdk_g zdb_320 (i := 25) rfl
theorem dX12_turnsBy_40 : decode cX12_turnsBy 40 = .ok (.iconst 0, 1) := zdk_g zdb_320 (i := 26) rfl
theorem dX12_turnsBy_41 : decode cX12_turnsBy 41 = .ok (.invokevirtual 46, 3) := zdk_g zdb_320 (i := 27) rfl
theorem dX12_turnsBy_44 : decode cX12_turnsBy 44 = .ok (.iastore, 1) := zdk_g zdb_320 (i := 28) rfl
theorem dX12_turnsBy_45 : decode cX12_turnsBy 45 = .ok (.aload_n 0, 1) := zdk_g zdb_320 (i := 29) rfl
theorem dX12_turnsBy_46 : decode cX12_turnsBy 46 = .ok (.getfield 29, 3) := zdk_g zdb_320 (i := 30) rfl
theorem dX12_turnsBy_49 : decode cX12_turnsBy 49 = .ok (.iconst 2, 1) := zdk_g zdb_320 (i := 31) rfl
def zdl_321 : List (Nat × Instr × Nat) := [(50, .aload_n 0, 1), (51, .invokevirtual 65, 3), (54, .iastore, 1), (55, .aload_n 0, 1), (56, .getfield 29, 3), (59, .iconst 3, 1), (60, .aload_n 0, 1), (61, .iconst 1, 1), (62, .invokevirtual 242, 3), (65, .invokestatic 58, 3), (68, .iastore, 1), (69, .aload_n 0, 1), (70, .getfield 29, 3), (73, .iconst 4, 1), (74, .aload_n 0, 1), (75, .iload_n 1, 1), (76, .invokevirtual 245, 3), (79, .iastore, 1), (80, .aload_n 0, 1), (81, .getfield 29, 3), (84, .iconst 5, 1), (85, .aload_n 0, 1), (86, .getfield 7, 3), (89, .bipush 8, 2), (91, .iaload, 1), (92, .iastore, 1), (93, .aload_n 0, 1), (94, .aload_n 0, 1), (95, .iload_n 1, 1), (96, .iconst 3, 1), (97, .invokevirtual 46, 3), (100, .iconst 1, 1)]
theorem zdb_321 : zdk cX12_turnsBy zdl_321 = true := by decide +kernel
theorem dX12_turnsBy_50 : decode cX12_turnsBy 50 = .ok (.aload_n 0, 1) := zdk_g zdb_321 (i := 0) rfl
theorem dX12_turnsBy_51 : decode cX12_turnsBy 51 = .ok (.invokevirtual 65, 3) := zdk_g zdb_321 (i := 1) rfl
theorem dX12_turnsBy_54 : decode cX12_turnsBy 54 = .ok (.iastore, 1) := zdk_g zdb_321 (i := 2) rfl
theorem dX12_turnsBy_55 : decode cX12_turnsBy 55 = .ok (.aload_n 0, 1) := zdk_g zdb_321 (i := 3) rfl
theorem dX12_turnsBy_56 : decode cX12_turnsBy 56 = .ok (.getfield 29, 3) := zdk_g zdb_321 (i := 4) rfl
theorem dX12_turnsBy_59 : decode cX12_turnsBy 59 = .ok (.iconst 3, 1) := zdk_g zdb_321 (i := 5) rfl
theorem dX12_turnsBy_60 : decode cX12_turnsBy 60 = .ok (.aload_n 0, 1) := zdk_g zdb_321 (i := 6) rfl
theorem dX12_turnsBy_61 : decode cX12_turnsBy 61 = .ok (.iconst 1, 1) := zdk_g zdb_321 (i := 7) rfl
theorem dX12_turnsBy_62 : decode cX12_turnsBy 62 = .ok (.invokevirtual 242, 3) := zdk_g zdb_321 (i := 8) rfl
theorem dX12_turnsBy_65 : decode cX12_turnsBy 65 = .ok (.invokestatic 58, 3) := zdk_g zdb_321 (i := 9) rfl
theorem dX12_turnsBy_68 : decode cX12_turnsBy 68 = .ok (.iastore, 1) := zdk_g zdb_321 (i := 10) rfl
theorem dX12_turnsBy_69 : decode cX12_turnsBy 69 = .ok (.aload_n 0, 1) := zdk_g zdb_321 (i := 11) rfl
theorem dX12_turnsBy_70 : decode cX12_turnsBy 70 = .ok (.getfield 29, 3) := zdk_g zdb_321 (i := 12) rfl
theorem dX12_turnsBy_73 : decode cX12_turnsBy 73 = .ok (.iconst 4, 1) := zdk_g zdb_321 (i := 13) rfl
theorem dX12_turnsBy_74 : decode cX12_turnsBy 74 = .ok (.aload_n 0, 1) := zdk_g zdb_321 (i := 14) rfl
theorem dX12_turnsBy_75 : decode cX12_turnsBy 75 = .ok (.iload_n 1, 1) := zdk_g zdb_321 (i := 15) rfl
theorem dX12_turnsBy_76 : decode cX12_turnsBy 76 = .ok (.invokevirtual 245, 3) := zdk_g zdb_321 (i := 16) rfl
theorem dX12_turnsBy_79 : decode cX12_turnsBy 79 = .ok (.iastore, 1) := zdk_g zdb_321 (i := 17) rfl
theorem dX12_turnsBy_80 : decode cX12_turnsBy 80 = .ok (.aload_n 0, 1) := zdk_g zdb_321 (i := 18) rfl
theorem dX12_turnsBy_81 : decode cX12_turnsBy 81 = .ok (.getfield 29, 3) := zdk_g zdb_321 (i := 19) rfl
theorem dX12_turnsBy_84 : decode cX12_turnsBy 84 = .ok (.iconst 5, 1) := zdk_g zdb_321 (i := 20) rfl
theorem dX12_turnsBy_85 : decode cX12_turnsBy 85 = .ok (.aload_n 0, 1) := zdk_g zdb_321 (i := 21) rfl
theorem dX12_turnsBy_86 : decode cX12_turnsBy 86 = .ok (.getfield 7, 3) := zdk_g zdb_321 (i := 22) rfl
theorem dX12_turnsBy_89 : decode cX12_turnsBy 89 = .ok (.bipush 8, 2) := zdk_g zdb_321 (i := 23) rfl
theorem dX12_turnsBy_91 : decode cX12_turnsBy 91 = .ok (.iaload, 1) := zdk_g zdb_321 (i := 24) rfl
theorem dX12_turnsBy_92 : decode cX12_turnsBy 92 = .ok (.iastore, 1) := zdk_g zdb_321 (i := 25) rfl
theorem dX12_turnsBy_93 : decode cX12_turnsBy 93 = .ok (.aload_n 0, 1) := zdk_g zdb_321 (i := 26) rfl
theorem dX12_turnsBy_94 : decode cX12_turnsBy 94 = .ok (.aload_n 0, 1) := zdk_g zdb_321 (i := 27) rfl
theorem dX12_turnsBy_95 : decode cX12_turnsBy 95 = .ok (.iload_n 1, 1) := zdk_g zdb_321 (i := 28) rfl
theorem dX12_turnsBy_96 : decode cX12_turnsBy 96 = .ok (.iconst 3, 1) := zdk_g zdb_321 (i := 29) rfl
theorem dX12_turnsBy_97 : decode cX12_turnsBy 97 = .ok (.invokevirtual 46, 3) := zdk_g zdb_321 (i := 30) rfl
theorem dX12_turnsBy_100 : decode cX12_turnsBy 100 = .ok (.iconst 1, 1) := zdk_g zdb_321 (i := 31) rfl
def zdl_322 : List (Nat × Instr × Nat) := [(101, .if_icmp .ne 7, 3), (104, .iconst 1, 1), (105, .goto 4, 3), (108, .iconst 0, 1), (109, .putfield 202, 3), (112, .aload_n 0, 1), (113, .aload_n 0, 1), (114, .iload_n 1, 1), (115, .iconst 2, 1), (116, .invokevirtual 46, 3), (119, .ifCond .le 7, 3), (122, .iconst 1, 1), (123, .goto 4, 3), (126, .iconst 0, 1), (127, .putfield 208, 3), (130, .aload_n 0, 1), (131, .iconst 0, 1), (132, .putfield 239, 3), (135, .aload_n 0, 1), (136, .getfield 25, 3), (139, .istore_n 2, 1), (140, .aload_n 0, 1), (141, .iconst (-1), 1), (142, .putfield 25, 3), (145, .aload_n 0, 1), (146, .sipush 379, 3), (149, .putfield 77, 3), (152, .aload_n 0, 1), (153, .aload_n 0, 1), (154, .getfield 7, 3), (157, .iconst 2, 1), (158, .iaload, 1)]
theorem zdb_322 : zdk cX12_turnsBy zdl_322 = true := by decide +kernel
theorem dX12_turnsBy_101 : decode cX12_turnsBy 101 = .ok (.if_icmp .ne 7, 3) := zdk_g zdb_322 (i := 0) rfl
theorem dX12_turnsBy_104 : decode cX12_turnsBy 104 = .ok (.iconst 1, 1) := zdk_g zdb_322 (i := 1) rfl
theorem dX12_turnsBy_105 : decode cX12_turnsBy 105 = .ok (.goto 4, 3) := zdk_g zdb_322 (i := 2) rfl
theorem dX12_turnsBy_108 : decode cX12_turnsBy 108 = .ok (.iconst 0, 1) := zdk_g zdb_322 (i := 3) rfl
theorem dX12_turnsBy_109 : decode cX12_turnsBy 109 = .ok (.putfield 202, 3) := zdk_g zdb_322 (i := 4) rfl
theorem dX12_turnsBy_112 : decode cX12_turnsBy 112 = .ok (.aload_n 0, 1) := zdk_g zdb_322 (i := 5) rfl
theorem dX12_turnsBy_113 : decode cX12_turnsBy 113 = .ok (.aload_n 0, 1) := zdk_g zdb_322 (i := 6) rfl
theorem dX12_turnsBy_114 : decode cX12_turnsBy 114 = .ok (.iload_n 1, 1) := zdk_g zdb_322 (i := 7) rfl
theorem dX12_turnsBy_115 : decode cX12_turnsBy 115 = .ok (.iconst 2, 1) := zdk_g zdb_322 (i := 8) rfl
theorem dX12_turnsBy_116 : decode cX12_turnsBy 116 = .ok (.invokevirtual 46, 3) := zdk_g zdb_322 (i := 9) rfl
theorem dX12_turnsBy_119 : decode cX12_turnsBy 119 = .ok (.ifCond .le 7, 3) := zdk_g zdb_322 (i := 10) rfl
theorem dX12_turnsBy_122 : decode cX12_turnsBy 122 = .ok (.iconst 1, 1) := zdk_g zdb_322 (i := 11) rfl
theorem dX12_turnsBy_123 : decode cX12_turnsBy 123 = .ok (.goto 4, 3) := zdk_g zdb_322 (i := 12) rfl
theorem dX12_turnsBy_126 : decode cX12_turnsBy 126 = .ok (.iconst 0, 1) := zdk_g zdb_322 (i := 13) rfl
theorem dX12_turnsBy_127 : decode cX12_turnsBy 127 = .ok (.putfield 208, 3) := zdk_g zdb_322 (i := 14) rfl
theorem dX12_turnsBy_130 : decode cX12_turnsBy 130 = .ok (.aload_n 0, 1) := zdk_g zdb_322 (i := 15) rfl
theorem dX12_turnsBy_131 : decode cX12_turnsBy 131 = .ok (.iconst 0, 1) := zdk_g zdb_322 (i := 16) rfl
theorem dX12_turnsBy_132 : decode cX12_turnsBy 132 = .ok (.putfield 239, 3) := zdk_g zdb_322 (i := 17) rfl
theorem dX12_turnsBy_135 : decode cX12_turnsBy 135 = .ok (.aload_n 0, 1) := zdk_g zdb_322 (i := 18) rfl
theorem dX12_turnsBy_136 : decode cX12_turnsBy 136 = .ok (.getfield 25, 3) := zdk_g zdb_322 (i := 19) rfl
theorem dX12_turnsBy_139 : decode cX12_turnsBy 139 = .ok (.istore_n 2, 1) := zdk_g zdb_322 (i := 20) rfl
theorem dX12_turnsBy_140 : decode cX12_turnsBy 140 = .ok (.aload_n 0, 1) := zdk_g zdb_322 (i := 21) rfl
theorem dX12_turnsBy_141 : decode cX12_turnsBy 141 = .ok (.iconst (-1), 1) := zdk_g zdb_322 (i := 22) rfl
theorem dX12_turnsBy_142 : decode cX12_turnsBy 142 = .ok (.putfield 25, 3) := zdk_g zdb_322 (i := 23) rfl
theorem dX12_turnsBy_145 : decode cX12_turnsBy 145 = .ok (.aload_n 0, 1) := zdk_g zdb_322 (i := 24) rfl
theorem dX12_turnsBy_146 : decode cX12_turnsBy 146 = .ok (.sipush 379, 3) := zdk_g zdb_322 (i := 25) rfl
theorem dX12_turnsBy_149 : decode cX12_turnsBy 149 = .ok (.putfield 77, 3) := zdk_g zdb_322 (i := 26) rfl
theorem dX12_turnsBy_152 : decode cX12_turnsBy 152 = .ok (.aload_n 0, 1) := zdk_g zdb_322 (i := 27) rfl
theorem dX12_turnsBy_153 : decode cX12_turnsBy 153 = .ok (.aload_n 0, 1) := zdk_g zdb_322 (i := 28) rfl
theorem dX12_turnsBy_154 : decode cX12_turnsBy 154 = .ok (.getfield 7, 3) := zdk_g zdb_322 (i := 29) rfl
theorem dX12_turnsBy_157 : decode cX12_turnsBy 157 = .ok (.iconst 2, 1) := zdk_g zdb_322 (i := 30) rfl
theorem dX12_turnsBy_158 : decode cX12_turnsBy 158 = .ok (.iaload, 1) := zdk_g zdb_322 (i := 31) rfl
def zdl_323 : List (Nat × Instr × Nat) := [(159, .putfield 83, 3), (162, .aload_n 0, 1), (163, .iconst 0, 1), (164, .putfield 80, 3), (167, .aload_n 0, 1), (168, .iconst 0, 1), (169, .putfield 162, 3), (172, .aload_n 0, 1), (173, .iconst 1, 1), (174, .invokevirtual 180, 3), (177, .istore_n 3, 1), (178, .aload_n 0, 1), (179, .iload_n 2, 1), (180, .putfield 25, 3), (183, .aload_n 0, 1), (184, .getfield 239, 3), (187, .ireturn, 1)]
theorem zdb_323 : zdk cX12_turnsBy zdl_323 = true := by decide +kernel
theorem dX12_turnsBy_159 : decode cX12_turnsBy 159 = .ok (.putfield 83, 3) := zdk_g zdb_323 (i := 0) rfl
theorem dX12_turnsBy_162 : decode cX12_turnsBy 162 = .ok (.aload_n 0, 1) := zdk_g zdb_323 (i := 1) rfl
theorem dX12_turnsBy_163 : decode cX12_turnsBy 163 = .ok (.iconst 0, 1) := zdk_g zdb_323 (i := 2) rfl
theorem dX12_turnsBy_164 : decode cX12_turnsBy 164 = .ok (.putfield 80, 3) := zdk_g zdb_323 (i := 3) rfl
theorem dX12_turnsBy_167 : decode cX12_turnsBy 167 = .ok (.aload_n 0, 1) := zdk_g zdb_323 (i := 4) rfl
theorem dX12_turnsBy_168 : decode cX12_turnsBy 168 = .ok (.iconst 0, 1) := zdk_g zdb_323 (i := 5) rfl
theorem dX12_turnsBy_169 : decode cX12_turnsBy 169 = .ok (.putfield 162, 3) := zdk_g zdb_323 (i := 6) rfl
theorem dX12_turnsBy_172 : decode cX12_turnsBy 172 = .ok (.aload_n 0, 1) := zdk_g zdb_323 (i := 7) rfl
theorem dX12_turnsBy_173 : decode cX12_turnsBy 173 = .ok (.iconst 1, 1) := zdk_g zdb_323 (i := 8) rfl
theorem dX12_turnsBy_174 : decode cX12_turnsBy 174 = .ok (.invokevirtual 180, 3) := zdk_g zdb_323 (i := 9) rfl
theorem dX12_turnsBy_177 : decode cX12_turnsBy 177 = .ok (.istore_n 3, 1) := zdk_g zdb_323 (i := 10) rfl
theorem dX12_turnsBy_178 : decode cX12_turnsBy 178 = .ok (.aload_n 0, 1) := zdk_g zdb_323 (i := 11) rfl
theorem dX12_turnsBy_179 : decode cX12_turnsBy 179 = .ok (.iload_n 2, 1) := zdk_g zdb_323 (i := 12) rfl
theorem dX12_turnsBy_180 : decode cX12_turnsBy 180 = .ok (.putfield 25, 3) := zdk_g zdb_323 (i := 13) rfl
theorem dX12_turnsBy_183 : decode cX12_turnsBy 183 = .ok (.aload_n 0, 1) := zdk_g zdb_323 (i := 14) rfl
theorem dX12_turnsBy_184 : decode cX12_turnsBy 184 = .ok (.getfield 239, 3) := zdk_g zdb_323 (i := 15) rfl
theorem dX12_turnsBy_187 : decode cX12_turnsBy 187 = .ok (.ireturn, 1) := zdk_g zdb_323 (i := 16) rfl
def zdl_324 : List (Nat × Instr × Nat) := [(0, .aload_n 0, 1), (1, .getfield 7, 3), (4, .bipush 10, 2), (6, .ldc 247, 2), (8, .aload_n 0, 1), (9, .getfield 7, 3), (12, .bipush 10, 2), (14, .iaload, 1), (15, .imul, 1), (16, .sipush 12345, 3), (19, .iadd, 1), (20, .iastore, 1), (21, .aload_n 0, 1), (22, .getfield 7, 3), (25, .bipush 10, 2), (27, .iaload, 1), (28, .bipush 16, 2), (30, .iushr, 1), (31, .sipush 32767, 3), (34, .iand, 1), (35, .iload_n 1, 1), (36, .irem, 1), (37, .ireturn, 1)]
theorem zdb_324 : zdk cX12_draw zdl_324 = true := by decide +kernel
theorem dX12_draw_0 : decode cX12_draw 0 = .ok (.aload_n 0, 1) := zdk_g zdb_324 (i := 0) rfl
theorem dX12_draw_1 : decode cX12_draw 1 = .ok (.getfield 7, 3) := zdk_g zdb_324 (i := 1) rfl
theorem dX12_draw_4 : decode cX12_draw 4 = .ok (.bipush 10, 2) := zdk_g zdb_324 (i := 2) rfl
theorem dX12_draw_6 : decode cX12_draw 6 = .ok (.ldc 247, 2) := zdk_g zdb_324 (i := 3) rfl
theorem dX12_draw_8 : decode cX12_draw 8 = .ok (.aload_n 0, 1) := zdk_g zdb_324 (i := 4) rfl
theorem dX12_draw_9 : decode cX12_draw 9 = .ok (.getfield 7, 3) := zdk_g zdb_324 (i := 5) rfl
theorem dX12_draw_12 : decode cX12_draw 12 = .ok (.bipush 10, 2) := zdk_g zdb_324 (i := 6) rfl
theorem dX12_draw_14 : decode cX12_draw 14 = .ok (.iaload, 1) := zdk_g zdb_324 (i := 7) rfl
theorem dX12_draw_15 : decode cX12_draw 15 = .ok (.imul, 1) := zdk_g zdb_324 (i := 8) rfl
theorem dX12_draw_16 : decode cX12_draw 16 = .ok (.sipush 12345, 3) := zdk_g zdb_324 (i := 9) rfl
theorem dX12_draw_19 : decode cX12_draw 19 = .ok (.iadd, 1) := zdk_g zdb_324 (i := 10) rfl
theorem dX12_draw_20 : decode cX12_draw 20 = .ok (.iastore, 1) := zdk_g zdb_324 (i := 11) rfl
theorem dX12_draw_21 : decode cX12_draw 21 = .ok (.aload_n 0, 1) := zdk_g zdb_324 (i := 12) rfl
theorem dX12_draw_22 : decode cX12_draw 22 = .ok (.getfield 7, 3) := zdk_g zdb_324 (i := 13) rfl
theorem dX12_draw_25 : decode cX12_draw 25 = .ok (.bipush 10, 2) := zdk_g zdb_324 (i := 14) rfl
theorem dX12_draw_27 : decode cX12_draw 27 = .ok (.iaload, 1) := zdk_g zdb_324 (i := 15) rfl
theorem dX12_draw_28 : decode cX12_draw 28 = .ok (.bipush 16, 2) := zdk_g zdb_324 (i := 16) rfl
theorem dX12_draw_30 : decode cX12_draw 30 = .ok (.iushr, 1) := zdk_g zdb_324 (i := 17) rfl
theorem dX12_draw_31 : decode cX12_draw 31 = .ok (.sipush 32767, 3) := zdk_g zdb_324 (i := 18) rfl
theorem dX12_draw_34 : decode cX12_draw 34 = .ok (.iand, 1) := zdk_g zdb_324 (i := 19) rfl
theorem dX12_draw_35 : decode cX12_draw 35 = .ok (.iload_n 1, 1) := zdk_g zdb_324 (i := 20) rfl
theorem dX12_draw_36 : decode cX12_draw 36 = .ok (.irem, 1) := zdk_g zdb_324 (i := 21) rfl
theorem dX12_draw_37 : decode cX12_draw 37 = .ok (.ireturn, 1) := zdk_g zdb_324 (i := 22) rfl
def zdl_325 : List (Nat × Instr × Nat) := [(0, .sipush 239, 3), (3, .istore_n 3, 1), (4, .iload_n 3, 1), (5, .iconst 4, 1), (6, .if_icmp .lt 31, 3), (9, .aload_n 0, 1), (10, .getfield 7, 3), (13, .sipush 139, 3), (16, .iload_n 3, 1), (17, .iadd, 1), (18, .aload_n 0, 1), (19, .getfield 7, 3), (22, .sipush 139, 3), (25, .iload_n 3, 1), (26, .iadd, 1), (27, .iconst 4, 1), (28, .isub, 1), (29, .iaload, 1), (30, .iastore, 1), (31, .iinc 3 (-1), 3), (34, .goto (-30), 3), (37, .aload_n 0, 1), (38, .getfield 7, 3), (41, .sipush 139, 3), (44, .aload_n 0, 1), (45, .getfield 7, 3), (48, .bipush 8, 2), (50, .iaload, 1), (51, .iastore, 1), (52, .aload_n 0, 1), (53, .getfield 7, 3), (56, .sipush 140, 3)]
theorem zdb_325 : zdk cX12_logs zdl_325 = true := by decide +kernel
theorem dX12_logs_0 : decode cX12_logs 0 = .ok (.sipush 239, 3) := zdk_g zdb_325 (i := 0) rfl
theorem dX12_logs_3 : decode cX12_logs 3 = .ok (.istore_n 3, 1) := zdk_g zdb_325 (i := 1) rfl
theorem dX12_logs_4 : decode cX12_logs 4 = .ok (.iload_n 3, 1) := zdk_g zdb_325 (i := 2) rfl
theorem dX12_logs_5 : decode cX12_logs 5 = .ok (.iconst 4, 1) := zdk_g zdb_325 (i := 3) rfl
theorem dX12_logs_6 : decode cX12_logs 6 = .ok (.if_icmp .lt 31, 3) := zdk_g zdb_325 (i := 4) rfl
theorem dX12_logs_9 : decode cX12_logs 9 = .ok (.aload_n 0, 1) := zdk_g zdb_325 (i := 5) rfl
theorem dX12_logs_10 : decode cX12_logs 10 = .ok (.getfield 7, 3) := zdk_g zdb_325 (i := 6) rfl
theorem dX12_logs_13 : decode cX12_logs 13 = .ok (.sipush 139, 3) := zdk_g zdb_325 (i := 7) rfl
theorem dX12_logs_16 : decode cX12_logs 16 = .ok (.iload_n 3, 1) := zdk_g zdb_325 (i := 8) rfl
theorem dX12_logs_17 : decode cX12_logs 17 = .ok (.iadd, 1) := zdk_g zdb_325 (i := 9) rfl
theorem dX12_logs_18 : decode cX12_logs 18 = .ok (.aload_n 0, 1) := zdk_g zdb_325 (i := 10) rfl
theorem dX12_logs_19 : decode cX12_logs 19 = .ok (.getfield 7, 3) := zdk_g zdb_325 (i := 11) rfl
theorem dX12_logs_22 : decode cX12_logs 22 = .ok (.sipush 139, 3) := zdk_g zdb_325 (i := 12) rfl
theorem dX12_logs_25 : decode cX12_logs 25 = .ok (.iload_n 3, 1) := zdk_g zdb_325 (i := 13) rfl
theorem dX12_logs_26 : decode cX12_logs 26 = .ok (.iadd, 1) := zdk_g zdb_325 (i := 14) rfl
theorem dX12_logs_27 : decode cX12_logs 27 = .ok (.iconst 4, 1) := zdk_g zdb_325 (i := 15) rfl
theorem dX12_logs_28 : decode cX12_logs 28 = .ok (.isub, 1) := zdk_g zdb_325 (i := 16) rfl
theorem dX12_logs_29 : decode cX12_logs 29 = .ok (.iaload, 1) := zdk_g zdb_325 (i := 17) rfl
theorem dX12_logs_30 : decode cX12_logs 30 = .ok (.iastore, 1) := zdk_g zdb_325 (i := 18) rfl
theorem dX12_logs_31 : decode cX12_logs 31 = .ok (.iinc 3 (-1), 3) := zdk_g zdb_325 (i := 19) rfl
theorem dX12_logs_34 : decode cX12_logs 34 = .ok (.goto (-30), 3) := zdk_g zdb_325 (i := 20) rfl
theorem dX12_logs_37 : decode cX12_logs 37 = .ok (.aload_n 0, 1) := zdk_g zdb_325 (i := 21) rfl
theorem dX12_logs_38 : decode cX12_logs 38 = .ok (.getfield 7, 3) := zdk_g zdb_325 (i := 22) rfl
theorem dX12_logs_41 : decode cX12_logs 41 = .ok (.sipush 139, 3) := zdk_g zdb_325 (i := 23) rfl
theorem dX12_logs_44 : decode cX12_logs 44 = .ok (.aload_n 0, 1) := zdk_g zdb_325 (i := 24) rfl
theorem dX12_logs_45 : decode cX12_logs 45 = .ok (.getfield 7, 3) := zdk_g zdb_325 (i := 25) rfl
theorem dX12_logs_48 : decode cX12_logs 48 = .ok (.bipush 8, 2) := zdk_g zdb_325 (i := 26) rfl
theorem dX12_logs_50 : decode cX12_logs 50 = .ok (.iaload, 1) := zdk_g zdb_325 (i := 27) rfl
theorem dX12_logs_51 : decode cX12_logs 51 = .ok (.iastore, 1) := zdk_g zdb_325 (i := 28) rfl
theorem dX12_logs_52 : decode cX12_logs 52 = .ok (.aload_n 0, 1) := zdk_g zdb_325 (i := 29) rfl
theorem dX12_logs_53 : decode cX12_logs 53 = .ok (.getfield 7, 3) := zdk_g zdb_325 (i := 30) rfl
theorem dX12_logs_56 : decode cX12_logs 56 = .ok (.sipush 140, 3) := zdk_g zdb_325 (i := 31) rfl
def zdl_326 : List (Nat × Instr × Nat) := [(59, .iload_n 1, 1), (60, .iastore, 1), (61, .aload_n 0, 1), (62, .getfield 7, 3), (65, .sipush 141, 3), (68, .iload_n 2, 1), (69, .iastore, 1), (70, .aload_n 0, 1), (71, .getfield 7, 3), (74, .sipush 142, 3), (77, .aload_n 0, 1), (78, .invokevirtual 62, 3), (81, .iastore, 1), (82, .aload_n 0, 1), (83, .getfield 7, 3), (86, .bipush 9, 2), (88, .bipush 60, 2), (90, .aload_n 0, 1), (91, .getfield 7, 3), (94, .bipush 9, 2), (96, .iaload, 1), (97, .iconst 1, 1), (98, .iadd, 1), (99, .invokestatic 248, 3), (102, .iastore, 1), (103, .return_, 1)]
theorem zdb_326 : zdk cX12_logs zdl_326 = true := by decide +kernel
theorem dX12_logs_59 : decode cX12_logs 59 = .ok (.iload_n 1, 1) := zdk_g zdb_326 (i := 0) rfl
theorem dX12_logs_60 : decode cX12_logs 60 = .ok (.iastore, 1) := zdk_g zdb_326 (i := 1) rfl
theorem dX12_logs_61 : decode cX12_logs 61 = .ok (.aload_n 0, 1) := zdk_g zdb_326 (i := 2) rfl
theorem dX12_logs_62 : decode cX12_logs 62 = .ok (.getfield 7, 3) := zdk_g zdb_326 (i := 3) rfl
theorem dX12_logs_65 : decode cX12_logs 65 = .ok (.sipush 141, 3) := zdk_g zdb_326 (i := 4) rfl
theorem dX12_logs_68 : decode cX12_logs 68 = .ok (.iload_n 2, 1) := zdk_g zdb_326 (i := 5) rfl
theorem dX12_logs_69 : decode cX12_logs 69 = .ok (.iastore, 1) := zdk_g zdb_326 (i := 6) rfl
theorem dX12_logs_70 : decode cX12_logs 70 = .ok (.aload_n 0, 1) := zdk_g zdb_326 (i := 7) rfl
theorem dX12_logs_71 : decode cX12_logs 71 = .ok (.getfield 7, 3) := zdk_g zdb_326 (i := 8) rfl
theorem dX12_logs_74 : decode cX12_logs 74 = .ok (.sipush 142, 3) := zdk_g zdb_326 (i := 9) rfl
theorem dX12_logs_77 : decode cX12_logs 77 = .ok (.aload_n 0, 1) := zdk_g zdb_326 (i := 10) rfl
theorem dX12_logs_78 : decode cX12_logs 78 = .ok (.invokevirtual 62, 3) := zdk_g zdb_326 (i := 11) rfl
theorem dX12_logs_81 : decode cX12_logs 81 = .ok (.iastore, 1) := zdk_g zdb_326 (i := 12) rfl
theorem dX12_logs_82 : decode cX12_logs 82 = .ok (.aload_n 0, 1) := zdk_g zdb_326 (i := 13) rfl
theorem dX12_logs_83 : decode cX12_logs 83 = .ok (.getfield 7, 3) := zdk_g zdb_326 (i := 14) rfl
theorem dX12_logs_86 : decode cX12_logs 86 = .ok (.bipush 9, 2) := zdk_g zdb_326 (i := 15) rfl
theorem dX12_logs_88 : decode cX12_logs 88 = .ok (.bipush 60, 2) := zdk_g zdb_326 (i := 16) rfl
theorem dX12_logs_90 : decode cX12_logs 90 = .ok (.aload_n 0, 1) := zdk_g zdb_326 (i := 17) rfl
theorem dX12_logs_91 : decode cX12_logs 91 = .ok (.getfield 7, 3) := zdk_g zdb_326 (i := 18) rfl
theorem dX12_logs_94 : decode cX12_logs 94 = .ok (.bipush 9, 2) := zdk_g zdb_326 (i := 19) rfl
theorem dX12_logs_96 : decode cX12_logs 96 = .ok (.iaload, 1) := zdk_g zdb_326 (i := 20) rfl
theorem dX12_logs_97 : decode cX12_logs 97 = .ok (.iconst 1, 1) := zdk_g zdb_326 (i := 21) rfl
theorem dX12_logs_98 : decode cX12_logs 98 = .ok (.iadd, 1) := zdk_g zdb_326 (i := 22) rfl
theorem dX12_logs_99 : decode cX12_logs 99 = .ok (.invokestatic 248, 3) := zdk_g zdb_326 (i := 23) rfl
theorem dX12_logs_102 : decode cX12_logs 102 = .ok (.iastore, 1) := zdk_g zdb_326 (i := 24) rfl
theorem dX12_logs_103 : decode cX12_logs 103 = .ok (.return_, 1) := zdk_g zdb_326 (i := 25) rfl
def zdl_327 : List (Nat × Instr × Nat) := [(0, .aload_n 0, 1), (1, .iload_n 1, 1), (2, .iconst 0, 1), (3, .iconst 0, 1), (4, .bipush 99, 2), (6, .aload_n 0, 1), (7, .iload_n 1, 1), (8, .iconst 0, 1), (9, .invokevirtual 46, 3), (12, .iload_n 2, 1), (13, .iadd, 1), (14, .invokestatic 248, 3), (17, .invokestatic 251, 3), (20, .invokevirtual 123, 3), (23, .return_, 1)]
theorem zdb_327 : zdk cX12_believes zdl_327 = true := by decide +kernel
theorem dX12_believes_0 : decode cX12_believes 0 = .ok (.aload_n 0, 1) := zdk_g zdb_327 (i := 0) rfl
theorem dX12_believes_1 : decode cX12_believes 1 = .ok (.iload_n 1, 1) := zdk_g zdb_327 (i := 1) rfl
theorem dX12_believes_2 : decode cX12_believes 2 = .ok (.iconst 0, 1) := zdk_g zdb_327 (i := 2) rfl
theorem dX12_believes_3 : decode cX12_believes 3 = .ok (.iconst 0, 1) := zdk_g zdb_327 (i := 3) rfl
theorem dX12_believes_4 : decode cX12_believes 4 = .ok (.bipush 99, 2) := zdk_g zdb_327 (i := 4) rfl
theorem dX12_believes_6 : decode cX12_believes 6 = .ok (.aload_n 0, 1) := zdk_g zdb_327 (i := 5) rfl
theorem dX12_believes_7 : decode cX12_believes 7 = .ok (.iload_n 1, 1) := zdk_g zdb_327 (i := 6) rfl
theorem dX12_believes_8 : decode cX12_believes 8 = .ok (.iconst 0, 1) := zdk_g zdb_327 (i := 7) rfl
theorem dX12_believes_9 : decode cX12_believes 9 = .ok (.invokevirtual 46, 3) := zdk_g zdb_327 (i := 8) rfl
theorem dX12_believes_12 : decode cX12_believes 12 = .ok (.iload_n 2, 1) := zdk_g zdb_327 (i := 9) rfl
theorem dX12_believes_13 : decode cX12_believes 13 = .ok (.iadd, 1) := zdk_g zdb_327 (i := 10) rfl
theorem dX12_believes_14 : decode cX12_believes 14 = .ok (.invokestatic 248, 3) := zdk_g zdb_327 (i := 11) rfl
theorem dX12_believes_17 : decode cX12_believes 17 = .ok (.invokestatic 251, 3) := zdk_g zdb_327 (i := 12) rfl
theorem dX12_believes_20 : decode cX12_believes 20 = .ok (.invokevirtual 123, 3) := zdk_g zdb_327 (i := 13) rfl
theorem dX12_believes_23 : decode cX12_believes 23 = .ok (.return_, 1) := zdk_g zdb_327 (i := 14) rfl
def zdl_328 : List (Nat × Instr × Nat) := [(0, .iconst 0, 1), (1, .istore_n 1, 1), (2, .iconst 0, 1), (3, .istore_n 2, 1), (4, .iload_n 2, 1), (5, .aload_n 0, 1), (6, .getfield 7, 3), (9, .iconst 4, 1), (10, .iaload, 1), (11, .if_icmp .ge 145, 3), (14, .aload_n 0, 1), (15, .invokevirtual 62, 3), (18, .aload_n 0, 1), (19, .iload_n 2, 1), (20, .iconst 1, 1), (21, .invokevirtual 68, 3), (24, .if_icmp .lt 7, 3), (27, .iconst 1, 1), (28, .goto 4, 3), (31, .iconst 0, 1), (32, .istore_n 3, 1), (33, .aload_n 0, 1), (34, .iload_n 2, 1), (35, .iconst 3, 1), (36, .invokevirtual 68, 3), (39, .iconst 1, 1), (40, .if_icmp .ne 54, 3), (43, .iload_n 3, 1), (44, .ifCond .eq 31, 3), (47, .aload_n 0, 1), (48, .getfield 7, 3), (51, .iconst 5, 1)]
theorem zdb_328 : zdk cX12_build zdl_328 = true := by decide +kernel
theorem dX12_build_0 : decode cX12_build 0 = .ok (.iconst 0, 1) := zdk_g zdb_328 (i := 0) rfl
theorem dX12_build_1 : decode cX12_build 1 = .ok (.istore_n 1, 1) := zdk_g zdb_328 (i := 1) rfl
theorem dX12_build_2 : decode cX12_build 2 = .ok (.iconst 0, 1) := zdk_g zdb_328 (i := 2) rfl
theorem dX12_build_3 : decode cX12_build 3 = .ok (.istore_n 2, 1) := zdk_g zdb_328 (i := 3) rfl
theorem dX12_build_4 : decode cX12_build 4 = .ok (.iload_n 2, 1) := zdk_g zdb_328 (i := 4) rfl
theorem dX12_build_5 : decode cX12_build 5 = .ok (.aload_n 0, 1) := zdk_g zdb_328 (i := 5) rfl
theorem dX12_build_6 : decode cX12_build 6 = .ok (.getfield 7, 3) := zdk_g zdb_328 (i := 6) rfl
theorem dX12_build_9 : decode cX12_build 9 = .ok (.iconst 4, 1) := zdk_g zdb_328 (i := 7) rfl
theorem dX12_build_10 : decode cX12_build 10 = .ok (.iaload, 1) := zdk_g zdb_328 (i := 8) rfl
theorem dX12_build_11 : decode cX12_build 11 = .ok (.if_icmp .ge 145, 3) := zdk_g zdb_328 (i := 9) rfl
theorem dX12_build_14 : decode cX12_build 14 = .ok (.aload_n 0, 1) := zdk_g zdb_328 (i := 10) rfl
theorem dX12_build_15 : decode cX12_build 15 = .ok (.invokevirtual 62, 3) := zdk_g zdb_328 (i := 11) rfl
theorem dX12_build_18 : decode cX12_build 18 = .ok (.aload_n 0, 1) := zdk_g zdb_328 (i := 12) rfl
theorem dX12_build_19 : decode cX12_build 19 = .ok (.iload_n 2, 1) := zdk_g zdb_328 (i := 13) rfl
theorem dX12_build_20 : decode cX12_build 20 = .ok (.iconst 1, 1) := zdk_g zdb_328 (i := 14) rfl
theorem dX12_build_21 : decode cX12_build 21 = .ok (.invokevirtual 68, 3) := zdk_g zdb_328 (i := 15) rfl
theorem dX12_build_24 : decode cX12_build 24 = .ok (.if_icmp .lt 7, 3) := zdk_g zdb_328 (i := 16) rfl
theorem dX12_build_27 : decode cX12_build 27 = .ok (.iconst 1, 1) := zdk_g zdb_328 (i := 17) rfl
theorem dX12_build_28 : decode cX12_build 28 = .ok (.goto 4, 3) := zdk_g zdb_328 (i := 18) rfl
theorem dX12_build_31 : decode cX12_build 31 = .ok (.iconst 0, 1) := zdk_g zdb_328 (i := 19) rfl
theorem dX12_build_32 : decode cX12_build 32 = .ok (.istore_n 3, 1) := zdk_g zdb_328 (i := 20) rfl
theorem dX12_build_33 : decode cX12_build 33 = .ok (.aload_n 0, 1) := zdk_g zdb_328 (i := 21) rfl
theorem dX12_build_34 : decode cX12_build 34 = .ok (.iload_n 2, 1) := zdk_g zdb_328 (i := 22) rfl
theorem dX12_build_35 : decode cX12_build 35 = .ok (.iconst 3, 1) := zdk_g zdb_328 (i := 23) rfl
theorem dX12_build_36 : decode cX12_build 36 = .ok (.invokevirtual 68, 3) := zdk_g zdb_328 (i := 24) rfl
theorem dX12_build_39 : decode cX12_build 39 = .ok (.iconst 1, 1) := zdk_g zdb_328 (i := 25) rfl
theorem dX12_build_40 : decode cX12_build 40 = .ok (.if_icmp .ne 54, 3) := zdk_g zdb_328 (i := 26) rfl
theorem dX12_build_43 : decode cX12_build 43 = .ok (.iload_n 3, 1) := zdk_g zdb_328 (i := 27) rfl
theorem dX12_build_44 : decode cX12_build 44 = .ok (.ifCond .eq 31, 3) := zdk_g zdb_328 (i := 28) rfl
theorem dX12_build_47 : decode cX12_build 47 = .ok (.aload_n 0, 1) := zdk_g zdb_328 (i := 29) rfl
theorem dX12_build_48 : decode cX12_build 48 = .ok (.getfield 7, 3) := zdk_g zdb_328 (i := 30) rfl
theorem dX12_build_51 : decode cX12_build 51 = .ok (.iconst 5, 1) := zdk_g zdb_328 (i := 31) rfl
def zdl_329 : List (Nat × Instr × Nat) := [(52, .sipush 9999, 3), (55, .aload_n 0, 1), (56, .getfield 7, 3), (59, .iconst 5, 1), (60, .iaload, 1), (61, .aload_n 0, 1), (62, .iload_n 2, 1), (63, .iconst 2, 1), (64, .invokevirtual 68, 3), (67, .iadd, 1), (68, .invokestatic 248, 3), (71, .iastore, 1), (72, .goto 78, 3), (75, .aload_n 0, 1), (76, .iload_n 2, 1), (77, .iconst 3, 1), (78, .iconst 2, 1), (79, .invokevirtual 131, 3), (82, .aload_n 0, 1), (83, .iload_n 2, 1), (84, .iconst 1, 1), (85, .invokevirtual 254, 3), (88, .iinc 1 1, 3), (91, .goto 59, 3), (94, .aload_n 0, 1), (95, .iload_n 2, 1), (96, .iconst 3, 1), (97, .invokevirtual 68, 3), (100, .ifCond .ne 50, 3), (103, .iload_n 3, 1), (104, .ifCond .eq 46, 3), (107, .aload_n 0, 1)]
theorem zdb_329 : zdk cX12_build zdl_329 = true := by decide +kernel
theorem dX12_build_52 : decode cX12_build 52 = .ok (.sipush 9999, 3) := zdk_g zdb_329 (i := 0) rfl
theorem dX12_build_55 : decode cX12_build 55 = .ok (.aload_n 0, 1) := zdk_g zdb_329 (i := 1) rfl
theorem dX12_build_56 : decode cX12_build 56 = .ok (.getfield 7, 3) := zdk_g zdb_329 (i := 2) rfl
theorem dX12_build_59 : decode cX12_build 59 = .ok (.iconst 5, 1) := zdk_g zdb_329 (i := 3) rfl
theorem dX12_build_60 : decode cX12_build 60 = .ok (.iaload, 1) := zdk_g zdb_329 (i := 4) rfl
theorem dX12_build_61 : decode cX12_build 61 = .ok (.aload_n 0, 1) := zdk_g zdb_329 (i := 5) rfl
theorem dX12_build_62 : decode cX12_build 62 = .ok (.iload_n 2, 1) := zdk_g zdb_329 (i := 6) rfl
theorem dX12_build_63 : decode cX12_build 63 = .ok (.iconst 2, 1) := zdk_g zdb_329 (i := 7) rfl
theorem dX12_build_64 : decode cX12_build 64 = .ok (.invokevirtual 68, 3) := zdk_g zdb_329 (i := 8) rfl
theorem dX12_build_67 : decode cX12_build 67 = .ok (.iadd, 1) := zdk_g zdb_329 (i := 9) rfl
theorem dX12_build_68 : decode cX12_build 68 = .ok (.invokestatic 248, 3) := zdk_g zdb_329 (i := 10) rfl
theorem dX12_build_71 : decode cX12_build 71 = .ok (.iastore, 1) := zdk_g zdb_329 (i := 11) rfl
theorem dX12_build_72 : decode cX12_build 72 = .ok (.goto 78, 3) := zdk_g zdb_329 (i := 12) rfl
theorem dX12_build_75 : decode cX12_build 75 = .ok (.aload_n 0, 1) := zdk_g zdb_329 (i := 13) rfl
theorem dX12_build_76 : decode cX12_build 76 = .ok (.iload_n 2, 1) := zdk_g zdb_329 (i := 14) rfl
theorem dX12_build_77 : decode cX12_build 77 = .ok (.iconst 3, 1) := zdk_g zdb_329 (i := 15) rfl
theorem dX12_build_78 : decode cX12_build 78 = .ok (.iconst 2, 1) := zdk_g zdb_329 (i := 16) rfl
theorem dX12_build_79 : decode cX12_build 79 = .ok (.invokevirtual 131, 3) := zdk_g zdb_329 (i := 17) rfl
theorem dX12_build_82 : decode cX12_build 82 = .ok (.aload_n 0, 1) := zdk_g zdb_329 (i := 18) rfl
theorem dX12_build_83 : decode cX12_build 83 = .ok (.iload_n 2, 1) := zdk_g zdb_329 (i := 19) rfl
theorem dX12_build_84 : decode cX12_build 84 = .ok (.iconst 1, 1) := zdk_g zdb_329 (i := 20) rfl
theorem dX12_build_85 : decode cX12_build 85 = .ok (.invokevirtual 254, 3) := zdk_g zdb_329 (i := 21) rfl
theorem dX12_build_88 : decode cX12_build 88 = .ok (.iinc 1 1, 3) := zdk_g zdb_329 (i := 22) rfl
theorem dX12_build_91 : decode cX12_build 91 = .ok (.goto 59, 3) := zdk_g zdb_329 (i := 23) rfl
theorem dX12_build_94 : decode cX12_build 94 = .ok (.aload_n 0, 1) := zdk_g zdb_329 (i := 24) rfl
theorem dX12_build_95 : decode cX12_build 95 = .ok (.iload_n 2, 1) := zdk_g zdb_329 (i := 25) rfl
theorem dX12_build_96 : decode cX12_build 96 = .ok (.iconst 3, 1) := zdk_g zdb_329 (i := 26) rfl
theorem dX12_build_97 : decode cX12_build 97 = .ok (.invokevirtual 68, 3) := zdk_g zdb_329 (i := 27) rfl
theorem dX12_build_100 : decode cX12_build 100 = .ok (.ifCond .ne 50, 3) := zdk_g zdb_329 (i := 28) rfl
theorem dX12_build_103 : decode cX12_build 103 = .ok (.iload_n 3, 1) := zdk_g zdb_329 (i := 29) rfl
theorem dX12_build_104 : decode cX12_build 104 = .ok (.ifCond .eq 46, 3) := zdk_g zdb_329 (i := 30) rfl
theorem dX12_build_107 : decode cX12_build 107 = .ok (.aload_n 0, 1) := zdk_g zdb_329 (i := 31) rfl
def zdl_330 : List (Nat × Instr × Nat) := [(108, .getfield 7, 3), (111, .iconst 5, 1), (112, .iaload, 1), (113, .aload_n 0, 1), (114, .iload_n 2, 1), (115, .iconst 0, 1), (116, .invokevirtual 68, 3), (119, .if_icmp .lt 31, 3), (122, .aload_n 0, 1), (123, .getfield 7, 3), (126, .iconst 5, 1), (127, .dup2, 1), (128, .iaload, 1), (129, .aload_n 0, 1), (130, .iload_n 2, 1), (131, .iconst 0, 1), (132, .invokevirtual 68, 3), (135, .isub, 1), (136, .iastore, 1), (137, .aload_n 0, 1), (138, .iload_n 2, 1), (139, .iconst 3, 1), (140, .iconst 1, 1), (141, .invokevirtual 131, 3), (144, .aload_n 0, 1), (145, .iload_n 2, 1), (146, .iconst 0, 1), (147, .invokevirtual 254, 3), (150, .iinc 2 1, 3), (153, .goto (-149), 3), (156, .iload_n 1, 1), (157, .ireturn, 1)]
theorem zdb_330 : zdk cX12_build zdl_330 = true := by decide +kernel
theorem dX12_build_108 : decode cX12_build 108 = .ok (.getfield 7, 3) := zdk_g zdb_330 (i := 0) rfl
theorem dX12_build_111 : decode cX12_build 111 = .ok (.iconst 5, 1) := zdk_g zdb_330 (i := 1) rfl
theorem dX12_build_112 : decode cX12_build 112 = .ok (.iaload, 1) := zdk_g zdb_330 (i := 2) rfl
theorem dX12_build_113 : decode cX12_build 113 = .ok (.aload_n 0, 1) := zdk_g zdb_330 (i := 3) rfl
theorem dX12_build_114 : decode cX12_build 114 = .ok (.iload_n 2, 1) := zdk_g zdb_330 (i := 4) rfl
theorem dX12_build_115 : decode cX12_build 115 = .ok (.iconst 0, 1) := zdk_g zdb_330 (i := 5) rfl
theorem dX12_build_116 : decode cX12_build 116 = .ok (.invokevirtual 68, 3) := zdk_g zdb_330 (i := 6) rfl
theorem dX12_build_119 : decode cX12_build 119 = .ok (.if_icmp .lt 31, 3) := zdk_g zdb_330 (i := 7) rfl
theorem dX12_build_122 : decode cX12_build 122 = .ok (.aload_n 0, 1) := zdk_g zdb_330 (i := 8) rfl
theorem dX12_build_123 : decode cX12_build 123 = .ok (.getfield 7, 3) := zdk_g zdb_330 (i := 9) rfl
theorem dX12_build_126 : decode cX12_build 126 = .ok (.iconst 5, 1) := zdk_g zdb_330 (i := 10) rfl
theorem dX12_build_127 : decode cX12_build 127 = .ok (.dup2, 1) := zdk_g zdb_330 (i := 11) rfl
theorem dX12_build_128 : decode cX12_build 128 = .ok (.iaload, 1) := zdk_g zdb_330 (i := 12) rfl
theorem dX12_build_129 : decode cX12_build 129 = .ok (.aload_n 0, 1) := zdk_g zdb_330 (i := 13) rfl
theorem dX12_build_130 : decode cX12_build 130 = .ok (.iload_n 2, 1) := zdk_g zdb_330 (i := 14) rfl
theorem dX12_build_131 : decode cX12_build 131 = .ok (.iconst 0, 1) := zdk_g zdb_330 (i := 15) rfl
theorem dX12_build_132 : decode cX12_build 132 = .ok (.invokevirtual 68, 3) := zdk_g zdb_330 (i := 16) rfl
theorem dX12_build_135 : decode cX12_build 135 = .ok (.isub, 1) := zdk_g zdb_330 (i := 17) rfl
theorem dX12_build_136 : decode cX12_build 136 = .ok (.iastore, 1) := zdk_g zdb_330 (i := 18) rfl
theorem dX12_build_137 : decode cX12_build 137 = .ok (.aload_n 0, 1) := zdk_g zdb_330 (i := 19) rfl
theorem dX12_build_138 : decode cX12_build 138 = .ok (.iload_n 2, 1) := zdk_g zdb_330 (i := 20) rfl
theorem dX12_build_139 : decode cX12_build 139 = .ok (.iconst 3, 1) := zdk_g zdb_330 (i := 21) rfl
theorem dX12_build_140 : decode cX12_build 140 = .ok (.iconst 1, 1) := zdk_g zdb_330 (i := 22) rfl
theorem dX12_build_141 : decode cX12_build 141 = .ok (.invokevirtual 131, 3) := zdk_g zdb_330 (i := 23) rfl
theorem dX12_build_144 : decode cX12_build 144 = .ok (.aload_n 0, 1) := zdk_g zdb_330 (i := 24) rfl
theorem dX12_build_145 : decode cX12_build 145 = .ok (.iload_n 2, 1) := zdk_g zdb_330 (i := 25) rfl
theorem dX12_build_146 : decode cX12_build 146 = .ok (.iconst 0, 1) := zdk_g zdb_330 (i := 26) rfl
theorem dX12_build_147 : decode cX12_build 147 = .ok (.invokevirtual 254, 3) := zdk_g zdb_330 (i := 27) rfl
theorem dX12_build_150 : decode cX12_build 150 = .ok (.iinc 2 1, 3) := zdk_g zdb_330 (i := 28) rfl
theorem dX12_build_153 : decode cX12_build 153 = .ok (.goto (-149), 3) := zdk_g zdb_330 (i := 29) rfl
theorem dX12_build_156 : decode cX12_build 156 = .ok (.iload_n 1, 1) := zdk_g zdb_330 (i := 30) rfl
theorem dX12_build_157 : decode cX12_build 157 = .ok (.ireturn, 1) := zdk_g zdb_330 (i := 31) rfl
def zdl_331 : List (Nat × Instr × Nat) := [(0, .iload_n 2, 1), (1, .ifCond .eq 23, 3), (4, .aload_n 0, 1), (5, .bipush 100, 2), (7, .invokevirtual 258, 3), (10, .aload_n 0, 1), (11, .getfield 7, 3), (14, .bipush 7, 2), (16, .iaload, 1), (17, .if_icmp .ge 7, 3), (20, .iconst 1, 1), (21, .goto 4, 3), (24, .iconst 0, 1), (25, .istore_n 3, 1), (26, .iconst 0, 1), (27, .istore 4, 2), (29, .iload 4, 2), (31, .aload_n 0, 1), (32, .getfield 7, 3), (35, .iconst 3, 1), (36, .iaload, 1), (37, .if_icmp .ge 56, 3), (40, .iload_n 2, 1), (41, .ifCond .eq 52, 3), (44, .iload 4, 2), (46, .iload_n 1, 1), (47, .if_icmp .eq 40, 3), (50, .aload_n 0, 1), (51, .iload 4, 2), (53, .invokevirtual 50, 3), (56, .ifCond .eq 31, 3), (59, .aload_n 0, 1)]
theorem zdb_331 : zdk cX12_returns zdl_331 = true := by decide +kernel
theorem dX12_returns_0 : decode cX12_returns 0 = .ok (.iload_n 2, 1) := zdk_g zdb_331 (i := 0) rfl
theorem dX12_returns_1 : decode cX12_returns 1 = .ok (.ifCond .eq 23, 3) := zdk_g zdb_331 (i := 1) rfl
theorem dX12_returns_4 : decode cX12_returns 4 = .ok (.aload_n 0, 1) := zdk_g zdb_331 (i := 2) rfl
theorem dX12_returns_5 : decode cX12_returns 5 = .ok (.bipush 100, 2) := zdk_g zdb_331 (i := 3) rfl
theorem dX12_returns_7 : decode cX12_returns 7 = .ok (.invokevirtual 258, 3) := zdk_g zdb_331 (i := 4) rfl
theorem dX12_returns_10 : decode cX12_returns 10 = .ok (.aload_n 0, 1) := zdk_g zdb_331 (i := 5) rfl
theorem dX12_returns_11 : decode cX12_returns 11 = .ok (.getfield 7, 3) := zdk_g zdb_331 (i := 6) rfl
theorem dX12_returns_14 : decode cX12_returns 14 = .ok (.bipush 7, 2) := zdk_g zdb_331 (i := 7) rfl
theorem dX12_returns_16 : decode cX12_returns 16 = .ok (.iaload, 1) := zdk_g zdb_331 (i := 8) rfl
theorem dX12_returns_17 : decode cX12_returns 17 = .ok (.if_icmp .ge 7, 3) := zdk_g zdb_331 (i := 9) rfl
theorem dX12_returns_20 : decode cX12_returns 20 = .ok (.iconst 1, 1) := zdk_g zdb_331 (i := 10) rfl
theorem dX12_returns_21 : decode cX12_returns 21 = .ok (.goto 4, 3) := zdk_g zdb_331 (i := 11) rfl
theorem dX12_returns_24 : decode cX12_returns 24 = .ok (.iconst 0, 1) := zdk_g zdb_331 (i := 12) rfl
theorem dX12_returns_25 : decode cX12_returns 25 = .ok (.istore_n 3, 1) := zdk_g zdb_331 (i := 13) rfl
theorem dX12_returns_26 : decode cX12_returns 26 = .ok (.iconst 0, 1) := zdk_g zdb_331 (i := 14) rfl
theorem dX12_returns_27 : decode cX12_returns 27 = .ok (.istore 4, 2) := zdk_g zdb_331 (i := 15) rfl
theorem dX12_returns_29 : decode cX12_returns 29 = .ok (.iload 4, 2) := zdk_g zdb_331 (i := 16) rfl
theorem dX12_returns_31 : decode cX12_returns 31 = .ok (.aload_n 0, 1) := zdk_g zdb_331 (i := 17) rfl
theorem dX12_returns_32 : decode cX12_returns 32 = .ok (.getfield 7, 3) := zdk_g zdb_331 (i := 18) rfl
theorem dX12_returns_35 : decode cX12_returns 35 = .ok (.iconst 3, 1) := zdk_g zdb_331 (i := 19) rfl
theorem dX12_returns_36 : decode cX12_returns 36 = .ok (.iaload, 1) := zdk_g zdb_331 (i := 20) rfl
theorem dX12_returns_37 : decode cX12_returns 37 = .ok (.if_icmp .ge 56, 3) := zdk_g zdb_331 (i := 21) rfl
theorem dX12_returns_40 : decode cX12_returns 40 = .ok (.iload_n 2, 1) := zdk_g zdb_331 (i := 22) rfl
theorem dX12_returns_41 : decode cX12_returns 41 = .ok (.ifCond .eq 52, 3) := zdk_g zdb_331 (i := 23) rfl
theorem dX12_returns_44 : decode cX12_returns 44 = .ok (.iload 4, 2) := zdk_g zdb_331 (i := 24) rfl
theorem dX12_returns_46 : decode cX12_returns 46 = .ok (.iload_n 1, 1) := zdk_g zdb_331 (i := 25) rfl
theorem dX12_returns_47 : decode cX12_returns 47 = .ok (.if_icmp .eq 40, 3) := zdk_g zdb_331 (i := 26) rfl
theorem dX12_returns_50 : decode cX12_returns 50 = .ok (.aload_n 0, 1) := zdk_g zdb_331 (i := 27) rfl
theorem dX12_returns_51 : decode cX12_returns 51 = .ok (.iload 4, 2) := zdk_g zdb_331 (i := 28) rfl
theorem dX12_returns_53 : decode cX12_returns 53 = .ok (.invokevirtual 50, 3) := zdk_g zdb_331 (i := 29) rfl
theorem dX12_returns_56 : decode cX12_returns 56 = .ok (.ifCond .eq 31, 3) := zdk_g zdb_331 (i := 30) rfl
theorem dX12_returns_59 : decode cX12_returns 59 = .ok (.aload_n 0, 1) := zdk_g zdb_331 (i := 31) rfl
def zdl_332 : List (Nat × Instr × Nat) := [(60, .iload 4, 2), (62, .iload_n 3, 1), (63, .ifCond .eq 13, 3), (66, .aload_n 0, 1), (67, .iload 4, 2), (69, .iload_n 1, 1), (70, .invokevirtual 71, 3), (73, .goto 11, 3), (76, .aload_n 0, 1), (77, .iload 4, 2), (79, .iload_n 1, 1), (80, .invokevirtual 71, 3), (83, .ineg, 1), (84, .invokevirtual 261, 3), (87, .iinc 4 1, 3), (90, .goto (-61), 3), (93, .aload_n 0, 1), (94, .iload_n 1, 1), (95, .iconst 4, 1), (96, .iconst (-1), 1), (97, .invokevirtual 123, 3), (100, .iload_n 2, 1), (101, .ifCond .ne 4, 3), (104, .return_, 1), (105, .aload_n 0, 1), (106, .iload_n 1, 1), (107, .iconst 0, 1), (108, .iload_n 3, 1), (109, .ifCond .eq 8, 3), (112, .bipush 99, 2), (114, .goto 4, 3), (117, .iconst 0, 1)]
theorem zdb_332 : zdk cX12_returns zdl_332 = true := by decide +kernel
theorem dX12_returns_60 : decode cX12_returns 60 = .ok (.iload 4, 2) := zdk_g zdb_332 (i := 0) rfl
theorem dX12_returns_62 : decode cX12_returns 62 = .ok (.iload_n 3, 1) := zdk_g zdb_332 (i := 1) rfl
theorem dX12_returns_63 : decode cX12_returns 63 = .ok (.ifCond .eq 13, 3) := zdk_g zdb_332 (i := 2) rfl
theorem dX12_returns_66 : decode cX12_returns 66 = .ok (.aload_n 0, 1) := zdk_g zdb_332 (i := 3) rfl
theorem dX12_returns_67 : decode cX12_returns 67 = .ok (.iload 4, 2) := zdk_g zdb_332 (i := 4) rfl
theorem dX12_returns_69 : decode cX12_returns 69 = .ok (.iload_n 1, 1) := zdk_g zdb_332 (i := 5) rfl
theorem dX12_returns_70 : decode cX12_returns 70 = .ok (.invokevirtual 71, 3) := zdk_g zdb_332 (i := 6) rfl
theorem dX12_returns_73 : decode cX12_returns 73 = .ok (.goto 11, 3) := zdk_g zdb_332 (i := 7) rfl
theorem dX12_returns_76 : decode cX12_returns 76 = .ok (.aload_n 0, 1) := zdk_g zdb_332 (i := 8) rfl
theorem dX12_returns_77 : decode cX12_returns 77 = .ok (.iload 4, 2) := zdk_g zdb_332 (i := 9) rfl
theorem dX12_returns_79 : decode cX12_returns 79 = .ok (.iload_n 1, 1) := zdk_g zdb_332 (i := 10) rfl
theorem dX12_returns_80 : decode cX12_returns 80 = .ok (.invokevirtual 71, 3) := zdk_g zdb_332 (i := 11) rfl
theorem dX12_returns_83 : decode cX12_returns 83 = .ok (.ineg, 1) := zdk_g zdb_332 (i := 12) rfl
theorem dX12_returns_84 : decode cX12_returns 84 = .ok (.invokevirtual 261, 3) := zdk_g zdb_332 (i := 13) rfl
theorem dX12_returns_87 : decode cX12_returns 87 = .ok (.iinc 4 1, 3) := zdk_g zdb_332 (i := 14) rfl
theorem dX12_returns_90 : decode cX12_returns 90 = .ok (.goto (-61), 3) := zdk_g zdb_332 (i := 15) rfl
theorem dX12_returns_93 : decode cX12_returns 93 = .ok (.aload_n 0, 1) := zdk_g zdb_332 (i := 16) rfl
theorem dX12_returns_94 : decode cX12_returns 94 = .ok (.iload_n 1, 1) := zdk_g zdb_332 (i := 17) rfl
theorem dX12_returns_95 : decode cX12_returns 95 = .ok (.iconst 4, 1) := zdk_g zdb_332 (i := 18) rfl
theorem dX12_returns_96 : decode cX12_returns 96 = .ok (.iconst (-1), 1) := zdk_g zdb_332 (i := 19) rfl
theorem dX12_returns_97 : decode cX12_returns 97 = .ok (.invokevirtual 123, 3) := zdk_g zdb_332 (i := 20) rfl
theorem dX12_returns_100 : decode cX12_returns 100 = .ok (.iload_n 2, 1) := zdk_g zdb_332 (i := 21) rfl
theorem dX12_returns_101 : decode cX12_returns 101 = .ok (.ifCond .ne 4, 3) := zdk_g zdb_332 (i := 22) rfl
theorem dX12_returns_104 : decode cX12_returns 104 = .ok (.return_, 1) := zdk_g zdb_332 (i := 23) rfl
theorem dX12_returns_105 : decode cX12_returns 105 = .ok (.aload_n 0, 1) := zdk_g zdb_332 (i := 24) rfl
theorem dX12_returns_106 : decode cX12_returns 106 = .ok (.iload_n 1, 1) := zdk_g zdb_332 (i := 25) rfl
theorem dX12_returns_107 : decode cX12_returns 107 = .ok (.iconst 0, 1) := zdk_g zdb_332 (i := 26) rfl
theorem dX12_returns_108 : decode cX12_returns 108 = .ok (.iload_n 3, 1) := zdk_g zdb_332 (i := 27) rfl
theorem dX12_returns_109 : decode cX12_returns 109 = .ok (.ifCond .eq 8, 3) := zdk_g zdb_332 (i := 28) rfl
theorem dX12_returns_112 : decode cX12_returns 112 = .ok (.bipush 99, 2) := zdk_g zdb_332 (i := 29) rfl
theorem dX12_returns_114 : decode cX12_returns 114 = .ok (.goto 4, 3) := zdk_g zdb_332 (i := 30) rfl
theorem dX12_returns_117 : decode cX12_returns 117 = .ok (.iconst 0, 1) := zdk_g zdb_332 (i := 31) rfl
def zdl_333 : List (Nat × Instr × Nat) := [(118, .invokevirtual 123, 3), (121, .aload_n 0, 1), (122, .iload_n 1, 1), (123, .iload_n 3, 1), (124, .ifCond .eq 7, 3), (127, .iconst 2, 1), (128, .goto 4, 3), (131, .iconst 3, 1), (132, .invokevirtual 254, 3), (135, .return_, 1)]
theorem zdb_333 : zdk cX12_returns zdl_333 = true := by decide +kernel
theorem dX12_returns_118 : decode cX12_returns 118 = .ok (.invokevirtual 123, 3) := zdk_g zdb_333 (i := 0) rfl
theorem dX12_returns_121 : decode cX12_returns 121 = .ok (.aload_n 0, 1) := zdk_g zdb_333 (i := 1) rfl
theorem dX12_returns_122 : decode cX12_returns 122 = .ok (.iload_n 1, 1) := zdk_g zdb_333 (i := 2) rfl
theorem dX12_returns_123 : decode cX12_returns 123 = .ok (.iload_n 3, 1) := zdk_g zdb_333 (i := 3) rfl
theorem dX12_returns_124 : decode cX12_returns 124 = .ok (.ifCond .eq 7, 3) := zdk_g zdb_333 (i := 4) rfl
theorem dX12_returns_127 : decode cX12_returns 127 = .ok (.iconst 2, 1) := zdk_g zdb_333 (i := 5) rfl
theorem dX12_returns_128 : decode cX12_returns 128 = .ok (.goto 4, 3) := zdk_g zdb_333 (i := 6) rfl
theorem dX12_returns_131 : decode cX12_returns 131 = .ok (.iconst 3, 1) := zdk_g zdb_333 (i := 7) rfl
theorem dX12_returns_132 : decode cX12_returns 132 = .ok (.invokevirtual 254, 3) := zdk_g zdb_333 (i := 8) rfl
theorem dX12_returns_135 : decode cX12_returns 135 = .ok (.return_, 1) := zdk_g zdb_333 (i := 9) rfl
def zdl_334 : List (Nat × Instr × Nat) := [(0, .iconst 0, 1), (1, .istore_n 3, 1), (2, .iconst 0, 1), (3, .istore 4, 2), (5, .iload 4, 2), (7, .iload_n 1, 1), (8, .if_icmp .ge 186, 3), (11, .iconst 0, 1), (12, .istore 5, 2), (14, .iload 5, 2), (16, .aload_n 0, 1), (17, .getfield 7, 3), (20, .iconst 3, 1), (21, .iaload, 1), (22, .if_icmp .ge 42, 3), (25, .aload_n 0, 1), (26, .getfield 32, 3), (29, .iload 5, 2), (31, .aload_n 0, 1), (32, .iload 5, 2), (34, .invokevirtual 50, 3), (37, .ifCond .eq 19, 3), (40, .aload_n 0, 1), (41, .iload 5, 2), (43, .invokevirtual 264, 3), (46, .aload_n 0, 1), (47, .iload 5, 2), (49, .invokevirtual 267, 3), (52, .iadd, 1), (53, .goto 4, 3), (56, .iconst 0, 1), (57, .iastore, 1)]
theorem zdb_334 : zdk cX12_goes zdl_334 = true := by decide +kernel
theorem dX12_goes_0 : decode cX12_goes 0 = .ok (.iconst 0, 1) := zdk_g zdb_334 (i := 0) rfl
theorem dX12_goes_1 : decode cX12_goes 1 = .ok (.istore_n 3, 1) := zdk_g zdb_334 (i := 1) rfl
theorem dX12_goes_2 : decode cX12_goes 2 = .ok (.iconst 0, 1) := zdk_g zdb_334 (i := 2) rfl
theorem dX12_goes_3 : decode cX12_goes 3 = .ok (.istore 4, 2) := zdk_g zdb_334 (i := 3) rfl
theorem dX12_goes_5 : decode cX12_goes 5 = .ok (.iload 4, 2) := zdk_g zdb_334 (i := 4) rfl
theorem dX12_goes_7 : decode cX12_goes 7 = .ok (.iload_n 1, 1) := zdk_g zdb_334 (i := 5) rfl
theorem dX12_goes_8 : decode cX12_goes 8 = .ok (.if_icmp .ge 186, 3) := zdk_g zdb_334 (i := 6) rfl
theorem dX12_goes_11 : decode cX12_goes 11 = .ok (.iconst 0, 1) := zdk_g zdb_334 (i := 7) rfl
theorem dX12_goes_12 : decode cX12_goes 12 = .ok (.istore 5, 2) := zdk_g zdb_334 (i := 8) rfl
theorem dX12_goes_14 : decode cX12_goes 14 = .ok (.iload 5, 2) := zdk_g zdb_334 (i := 9) rfl
theorem dX12_goes_16 : decode cX12_goes 16 = .ok (.aload_n 0, 1) := zdk_g zdb_334 (i := 10) rfl
theorem dX12_goes_17 : decode cX12_goes 17 = .ok (.getfield 7, 3) := zdk_g zdb_334 (i := 11) rfl
theorem dX12_goes_20 : decode cX12_goes 20 = .ok (.iconst 3, 1) := zdk_g zdb_334 (i := 12) rfl
theorem dX12_goes_21 : decode cX12_goes 21 = .ok (.iaload, 1) := zdk_g zdb_334 (i := 13) rfl
theorem dX12_goes_22 : decode cX12_goes 22 = .ok (.if_icmp .ge 42, 3) := zdk_g zdb_334 (i := 14) rfl
theorem dX12_goes_25 : decode cX12_goes 25 = .ok (.aload_n 0, 1) := zdk_g zdb_334 (i := 15) rfl
theorem dX12_goes_26 : decode cX12_goes 26 = .ok (.getfield 32, 3) := zdk_g zdb_334 (i := 16) rfl
theorem dX12_goes_29 : decode cX12_goes 29 = .ok (.iload 5, 2) := zdk_g zdb_334 (i := 17) rfl
theorem dX12_goes_31 : decode cX12_goes 31 = .ok (.aload_n 0, 1) := zdk_g zdb_334 (i := 18) rfl
theorem dX12_goes_32 : decode cX12_goes 32 = .ok (.iload 5, 2) := zdk_g zdb_334 (i := 19) rfl
theorem dX12_goes_34 : decode cX12_goes 34 = .ok (.invokevirtual 50, 3) := zdk_g zdb_334 (i := 20) rfl
theorem dX12_goes_37 : decode cX12_goes 37 = .ok (.ifCond .eq 19, 3) := zdk_g zdb_334 (i := 21) rfl
theorem dX12_goes_40 : decode cX12_goes 40 = .ok (.aload_n 0, 1) := zdk_g zdb_334 (i := 22) rfl
theorem dX12_goes_41 : decode cX12_goes 41 = .ok (.iload 5, 2) := zdk_g zdb_334 (i := 23) rfl
theorem dX12_goes_43 : decode cX12_goes 43 = .ok (.invokevirtual 264, 3) := zdk_g zdb_334 (i := 24) rfl
theorem dX12_goes_46 : decode cX12_goes 46 = .ok (.aload_n 0, 1) := zdk_g zdb_334 (i := 25) rfl
theorem dX12_goes_47 : decode cX12_goes 47 = .ok (.iload 5, 2) := zdk_g zdb_334 (i := 26) rfl
theorem dX12_goes_49 : decode cX12_goes 49 = .ok (.invokevirtual 267, 3) := zdk_g zdb_334 (i := 27) rfl
theorem dX12_goes_52 : decode cX12_goes 52 = .ok (.iadd, 1) := zdk_g zdb_334 (i := 28) rfl
theorem dX12_goes_53 : decode cX12_goes 53 = .ok (.goto 4, 3) := zdk_g zdb_334 (i := 29) rfl
theorem dX12_goes_56 : decode cX12_goes 56 = .ok (.iconst 0, 1) := zdk_g zdb_334 (i := 30) rfl
theorem dX12_goes_57 : decode cX12_goes 57 = .ok (.iastore, 1) := zdk_g zdb_334 (i := 31) rfl
def zdl_335 : List (Nat × Instr × Nat) := [(58, .iinc 5 1, 3), (61, .goto (-47), 3), (64, .iconst 0, 1), (65, .istore 5, 2), (67, .iload 5, 2), (69, .aload_n 0, 1), (70, .getfield 7, 3), (73, .iconst 3, 1), (74, .iaload, 1), (75, .if_icmp .ge 31, 3), (78, .aload_n 0, 1), (79, .iload 5, 2), (81, .invokevirtual 50, 3), (84, .ifCond .eq 16, 3), (87, .aload_n 0, 1), (88, .iload 5, 2), (90, .aload_n 0, 1), (91, .getfield 32, 3), (94, .iload 5, 2), (96, .iaload, 1), (97, .invokevirtual 261, 3), (100, .iinc 5 1, 3), (103, .goto (-36), 3), (106, .iload_n 3, 1), (107, .aload_n 0, 1), (108, .invokevirtual 270, 3), (111, .iadd, 1), (112, .istore_n 3, 1), (113, .iconst 0, 1), (114, .istore 5, 2), (116, .iload 5, 2), (118, .aload_n 0, 1)]
theorem zdb_335 : zdk cX12_goes zdl_335 = true := by decide +kernel
theorem dX12_goes_58 : decode cX12_goes 58 = .ok (.iinc 5 1, 3) := zdk_g zdb_335 (i := 0) rfl
theorem dX12_goes_61 : decode cX12_goes 61 = .ok (.goto (-47), 3) := zdk_g zdb_335 (i := 1) rfl
theorem dX12_goes_64 : decode cX12_goes 64 = .ok (.iconst 0, 1) := zdk_g zdb_335 (i := 2) rfl
theorem dX12_goes_65 : decode cX12_goes 65 = .ok (.istore 5, 2) := zdk_g zdb_335 (i := 3) rfl
theorem dX12_goes_67 : decode cX12_goes 67 = .ok (.iload 5, 2) := zdk_g zdb_335 (i := 4) rfl
theorem dX12_goes_69 : decode cX12_goes 69 = .ok (.aload_n 0, 1) := zdk_g zdb_335 (i := 5) rfl
theorem dX12_goes_70 : decode cX12_goes 70 = .ok (.getfield 7, 3) := zdk_g zdb_335 (i := 6) rfl
theorem dX12_goes_73 : decode cX12_goes 73 = .ok (.iconst 3, 1) := zdk_g zdb_335 (i := 7) rfl
theorem dX12_goes_74 : decode cX12_goes 74 = .ok (.iaload, 1) := zdk_g zdb_335 (i := 8) rfl
theorem dX12_goes_75 : decode cX12_goes 75 = .ok (.if_icmp .ge 31, 3) := zdk_g zdb_335 (i := 9) rfl
theorem dX12_goes_78 : decode cX12_goes 78 = .ok (.aload_n 0, 1) := zdk_g zdb_335 (i := 10) rfl
theorem dX12_goes_79 : decode cX12_goes 79 = .ok (.iload 5, 2) := zdk_g zdb_335 (i := 11) rfl
theorem dX12_goes_81 : decode cX12_goes 81 = .ok (.invokevirtual 50, 3) := zdk_g zdb_335 (i := 12) rfl
theorem dX12_goes_84 : decode cX12_goes 84 = .ok (.ifCond .eq 16, 3) := zdk_g zdb_335 (i := 13) rfl
theorem dX12_goes_87 : decode cX12_goes 87 = .ok (.aload_n 0, 1) := zdk_g zdb_335 (i := 14) rfl
theorem dX12_goes_88 : decode cX12_goes 88 = .ok (.iload 5, 2) := zdk_g zdb_335 (i := 15) rfl
theorem dX12_goes_90 : decode cX12_goes 90 = .ok (.aload_n 0, 1) := zdk_g zdb_335 (i := 16) rfl
theorem dX12_goes_91 : decode cX12_goes 91 = .ok (.getfield 32, 3) := zdk_g zdb_335 (i := 17) rfl
theorem dX12_goes_94 : decode cX12_goes 94 = .ok (.iload 5, 2) := zdk_g zdb_335 (i := 18) rfl
theorem dX12_goes_96 : decode cX12_goes 96 = .ok (.iaload, 1) := zdk_g zdb_335 (i := 19) rfl
theorem dX12_goes_97 : decode cX12_goes 97 = .ok (.invokevirtual 261, 3) := zdk_g zdb_335 (i := 20) rfl
theorem dX12_goes_100 : decode cX12_goes 100 = .ok (.iinc 5 1, 3) := zdk_g zdb_335 (i := 21) rfl
theorem dX12_goes_103 : decode cX12_goes 103 = .ok (.goto (-36), 3) := zdk_g zdb_335 (i := 22) rfl
theorem dX12_goes_106 : decode cX12_goes 106 = .ok (.iload_n 3, 1) := zdk_g zdb_335 (i := 23) rfl
theorem dX12_goes_107 : decode cX12_goes 107 = .ok (.aload_n 0, 1) := zdk_g zdb_335 (i := 24) rfl
theorem dX12_goes_108 : decode cX12_goes 108 = .ok (.invokevirtual 270, 3) := zdk_g zdb_335 (i := 25) rfl
theorem dX12_goes_111 : decode cX12_goes 111 = .ok (.iadd, 1) := zdk_g zdb_335 (i := 26) rfl
theorem dX12_goes_112 : decode cX12_goes 112 = .ok (.istore_n 3, 1) := zdk_g zdb_335 (i := 27) rfl
theorem dX12_goes_113 : decode cX12_goes 113 = .ok (.iconst 0, 1) := zdk_g zdb_335 (i := 28) rfl
theorem dX12_goes_114 : decode cX12_goes 114 = .ok (.istore 5, 2) := zdk_g zdb_335 (i := 29) rfl
theorem dX12_goes_116 : decode cX12_goes 116 = .ok (.iload 5, 2) := zdk_g zdb_335 (i := 30) rfl
theorem dX12_goes_118 : decode cX12_goes 118 = .ok (.aload_n 0, 1) := zdk_g zdb_335 (i := 31) rfl
def zdl_336 : List (Nat × Instr × Nat) := [(119, .getfield 7, 3), (122, .iconst 3, 1), (123, .iaload, 1), (124, .if_icmp .ge 42, 3), (127, .aload_n 0, 1), (128, .iload 5, 2), (130, .invokevirtual 50, 3), (133, .ifCond .ne 27, 3), (136, .aload_n 0, 1), (137, .iload 5, 2), (139, .iconst 4, 1), (140, .invokevirtual 46, 3), (143, .aload_n 0, 1), (144, .getfield 7, 3), (147, .bipush 8, 2), (149, .iaload, 1), (150, .if_icmp .gt 10, 3), (153, .aload_n 0, 1), (154, .iload 5, 2), (156, .iload_n 2, 1), (157, .invokevirtual 273, 3), (160, .iinc 5 1, 3), (163, .goto (-47), 3), (166, .aload_n 0, 1), (167, .getfield 7, 3), (170, .bipush 8, 2), (172, .sipush 9999, 3), (175, .aload_n 0, 1), (176, .getfield 7, 3), (179, .bipush 8, 2), (181, .iaload, 1), (182, .iconst 1, 1)]
theorem zdb_336 : zdk cX12_goes zdl_336 = true := by decide +kernel
theorem dX12_goes_119 : decode cX12_goes 119 = .ok (.getfield 7, 3) := zdk_g zdb_336 (i := 0) rfl
theorem dX12_goes_122 : decode cX12_goes 122 = .ok (.iconst 3, 1) := zdk_g zdb_336 (i := 1) rfl
theorem dX12_goes_123 : decode cX12_goes 123 = .ok (.iaload, 1) := zdk_g zdb_336 (i := 2) rfl
theorem dX12_goes_124 : decode cX12_goes 124 = .ok (.if_icmp .ge 42, 3) := zdk_g zdb_336 (i := 3) rfl
theorem dX12_goes_127 : decode cX12_goes 127 = .ok (.aload_n 0, 1) := zdk_g zdb_336 (i := 4) rfl
theorem dX12_goes_128 : decode cX12_goes 128 = .ok (.iload 5, 2) := zdk_g zdb_336 (i := 5) rfl
theorem dX12_goes_130 : decode cX12_goes 130 = .ok (.invokevirtual 50, 3) := zdk_g zdb_336 (i := 6) rfl
theorem dX12_goes_133 : decode cX12_goes 133 = .ok (.ifCond .ne 27, 3) := zdk_g zdb_336 (i := 7) rfl
theorem dX12_goes_136 : decode cX12_goes 136 = .ok (.aload_n 0, 1) := zdk_g zdb_336 (i := 8) rfl
theorem dX12_goes_137 : decode cX12_goes 137 = .ok (.iload 5, 2) := zdk_g zdb_336 (i := 9) rfl
theorem dX12_goes_139 : decode cX12_goes 139 = .ok (.iconst 4, 1) := zdk_g zdb_336 (i := 10) rfl
theorem dX12_goes_140 : decode cX12_goes 140 = .ok (.invokevirtual 46, 3) := zdk_g zdb_336 (i := 11) rfl
theorem dX12_goes_143 : decode cX12_goes 143 = .ok (.aload_n 0, 1) := zdk_g zdb_336 (i := 12) rfl
theorem dX12_goes_144 : decode cX12_goes 144 = .ok (.getfield 7, 3) := zdk_g zdb_336 (i := 13) rfl
theorem dX12_goes_147 : decode cX12_goes 147 = .ok (.bipush 8, 2) := zdk_g zdb_336 (i := 14) rfl
theorem dX12_goes_149 : decode cX12_goes 149 = .ok (.iaload, 1) := zdk_g zdb_336 (i := 15) rfl
theorem dX12_goes_150 : decode cX12_goes 150 = .ok (.if_icmp .gt 10, 3) := zdk_g zdb_336 (i := 16) rfl
theorem dX12_goes_153 : decode cX12_goes 153 = .ok (.aload_n 0, 1) := zdk_g zdb_336 (i := 17) rfl
theorem dX12_goes_154 : decode cX12_goes 154 = .ok (.iload 5, 2) := zdk_g zdb_336 (i := 18) rfl
theorem dX12_goes_156 : decode cX12_goes 156 = .ok (.iload_n 2, 1) := zdk_g zdb_336 (i := 19) rfl
theorem dX12_goes_157 : decode cX12_goes 157 = .ok (.invokevirtual 273, 3) := zdk_g zdb_336 (i := 20) rfl
theorem dX12_goes_160 : decode cX12_goes 160 = .ok (.iinc 5 1, 3) := zdk_g zdb_336 (i := 21) rfl
theorem dX12_goes_163 : decode cX12_goes 163 = .ok (.goto (-47), 3) := zdk_g zdb_336 (i := 22) rfl
theorem dX12_goes_166 : decode cX12_goes 166 = .ok (.aload_n 0, 1) := zdk_g zdb_336 (i := 23) rfl
theorem dX12_goes_167 : decode cX12_goes 167 = .ok (.getfield 7, 3) := zdk_g zdb_336 (i := 24) rfl
theorem dX12_goes_170 : decode cX12_goes 170 = .ok (.bipush 8, 2) := zdk_g zdb_336 (i := 25) rfl
theorem dX12_goes_172 : decode cX12_goes 172 = .ok (.sipush 9999, 3) := zdk_g zdb_336 (i := 26) rfl
theorem dX12_goes_175 : decode cX12_goes 175 = .ok (.aload_n 0, 1) := zdk_g zdb_336 (i := 27) rfl
theorem dX12_goes_176 : decode cX12_goes 176 = .ok (.getfield 7, 3) := zdk_g zdb_336 (i := 28) rfl
theorem dX12_goes_179 : decode cX12_goes 179 = .ok (.bipush 8, 2) := zdk_g zdb_336 (i := 29) rfl
theorem dX12_goes_181 : decode cX12_goes 181 = .ok (.iaload, 1) := zdk_g zdb_336 (i := 30) rfl
theorem dX12_goes_182 : decode cX12_goes 182 = .ok (.iconst 1, 1) := zdk_g zdb_336 (i := 31) rfl
def zdl_337 : List (Nat × Instr × Nat) := [(183, .iadd, 1), (184, .invokestatic 248, 3), (187, .iastore, 1), (188, .iinc 4 1, 3), (191, .goto (-186), 3), (194, .iload_n 3, 1), (195, .ireturn, 1)]
theorem zdb_337 : zdk cX12_goes zdl_337 = true := by decide +kernel
theorem dX12_goes_183 : decode cX12_goes 183 = .ok (.iadd, 1) := zdk_g zdb_337 (i := 0) rfl
theorem dX12_goes_184 : decode cX12_goes 184 = .ok (.invokestatic 248, 3) := zdk_g zdb_337 (i := 1) rfl
theorem dX12_goes_187 : decode cX12_goes 187 = .ok (.iastore, 1) := zdk_g zdb_337 (i := 2) rfl
theorem dX12_goes_188 : decode cX12_goes 188 = .ok (.iinc 4 1, 3) := zdk_g zdb_337 (i := 3) rfl
theorem dX12_goes_191 : decode cX12_goes 191 = .ok (.goto (-186), 3) := zdk_g zdb_337 (i := 4) rfl
theorem dX12_goes_194 : decode cX12_goes 194 = .ok (.iload_n 3, 1) := zdk_g zdb_337 (i := 5) rfl
theorem dX12_goes_195 : decode cX12_goes 195 = .ok (.ireturn, 1) := zdk_g zdb_337 (i := 6) rfl
def zdl_338 : List (Nat × Instr × Nat) := [(0, .aload_n 0, 1), (1, .iload_n 1, 1), (2, .iconst 1, 1), (3, .invokevirtual 46, 3), (6, .aload_n 0, 1), (7, .iload_n 1, 1), (8, .iconst 2, 1), (9, .invokevirtual 46, 3), (12, .aload_n 0, 1), (13, .invokevirtual 277, 3), (16, .imul, 1), (17, .iadd, 1), (18, .ireturn, 1)]
theorem zdb_338 : zdk cX12_worth zdl_338 = true := by decide +kernel
theorem dX12_worth_0 : decode cX12_worth 0 = .ok (.aload_n 0, 1) := zdk_g zdb_338 (i := 0) rfl
theorem dX12_worth_1 : decode cX12_worth 1 = .ok (.iload_n 1, 1) := zdk_g zdb_338 (i := 1) rfl
theorem dX12_worth_2 : decode cX12_worth 2 = .ok (.iconst 1, 1) := zdk_g zdb_338 (i := 2) rfl
theorem dX12_worth_3 : decode cX12_worth 3 = .ok (.invokevirtual 46, 3) := zdk_g zdb_338 (i := 3) rfl
theorem dX12_worth_6 : decode cX12_worth 6 = .ok (.aload_n 0, 1) := zdk_g zdb_338 (i := 4) rfl
theorem dX12_worth_7 : decode cX12_worth 7 = .ok (.iload_n 1, 1) := zdk_g zdb_338 (i := 5) rfl
theorem dX12_worth_8 : decode cX12_worth 8 = .ok (.iconst 2, 1) := zdk_g zdb_338 (i := 6) rfl
theorem dX12_worth_9 : decode cX12_worth 9 = .ok (.invokevirtual 46, 3) := zdk_g zdb_338 (i := 7) rfl
theorem dX12_worth_12 : decode cX12_worth 12 = .ok (.aload_n 0, 1) := zdk_g zdb_338 (i := 8) rfl
theorem dX12_worth_13 : decode cX12_worth 13 = .ok (.invokevirtual 277, 3) := zdk_g zdb_338 (i := 9) rfl
theorem dX12_worth_16 : decode cX12_worth 16 = .ok (.imul, 1) := zdk_g zdb_338 (i := 10) rfl
theorem dX12_worth_17 : decode cX12_worth 17 = .ok (.iadd, 1) := zdk_g zdb_338 (i := 11) rfl
theorem dX12_worth_18 : decode cX12_worth 18 = .ok (.ireturn, 1) := zdk_g zdb_338 (i := 12) rfl
def zdl_339 : List (Nat × Instr × Nat) := [(0, .aload_n 0, 1), (1, .aload_n 0, 1), (2, .iload_n 1, 1), (3, .invokevirtual 280, 3), (6, .ifCond .ne 7, 3), (9, .iconst 1, 1), (10, .goto 18, 3), (13, .iload_n 2, 1), (14, .iconst 0, 1), (15, .bipush 8, 2), (17, .invokestatic 42, 3), (20, .ifCond .ne 7, 3), (23, .iconst 2, 1), (24, .goto 4, 3), (27, .iconst 0, 1), (28, .putfield 39, 3), (31, .aload_n 0, 1), (32, .getfield 39, 3), (35, .ifCond .le 5, 3), (38, .iconst 0, 1), (39, .ireturn, 1), (40, .iload_n 2, 1), (41, .iconst 5, 1), (42, .if_icmp .ge 10, 3), (45, .aload_n 0, 1), (46, .iload_n 1, 1), (47, .iload_n 2, 1), (48, .invokevirtual 46, 3), (51, .ireturn, 1), (52, .iload_n 2, 1), (53, .iconst 5, 1), (54, .if_icmp .ne 9, 3)]
theorem zdb_339 : zdk cX12_person zdl_339 = true := by decide +kernel
theorem dX12_person_0 : decode cX12_person 0 = .ok (.aload_n 0, 1) := zdk_g zdb_339 (i := 0) rfl
theorem dX12_person_1 : decode cX12_person 1 = .ok (.aload_n 0, 1) := zdk_g zdb_339 (i := 1) rfl
theorem dX12_person_2 : decode cX12_person 2 = .ok (.iload_n 1, 1) := zdk_g zdb_339 (i := 2) rfl
theorem dX12_person_3 : decode cX12_person 3 = .ok (.invokevirtual 280, 3) := zdk_g zdb_339 (i := 3) rfl
theorem dX12_person_6 : decode cX12_person 6 = .ok (.ifCond .ne 7, 3) := zdk_g zdb_339 (i := 4) rfl
theorem dX12_person_9 : decode cX12_person 9 = .ok (.iconst 1, 1) := zdk_g zdb_339 (i := 5) rfl
theorem dX12_person_10 : decode cX12_person 10 = .ok (.goto 18, 3) := zdk_g zdb_339 (i := 6) rfl
theorem dX12_person_13 : decode cX12_person 13 = .ok (.iload_n 2, 1) := zdk_g zdb_339 (i := 7) rfl
theorem dX12_person_14 : decode cX12_person 14 = .ok (.iconst 0, 1) := zdk_g zdb_339 (i := 8) rfl
theorem dX12_person_15 : decode cX12_person 15 = .ok (.bipush 8, 2) := zdk_g zdb_339 (i := 9) rfl
theorem dX12_person_17 : decode cX12_person 17 = .ok (.invokestatic 42, 3) := zdk_g zdb_339 (i := 10) rfl
theorem dX12_person_20 : decode cX12_person 20 = .ok (.ifCond .ne 7, 3) := zdk_g zdb_339 (i := 11) rfl
theorem dX12_person_23 : decode cX12_person 23 = .ok (.iconst 2, 1) := zdk_g zdb_339 (i := 12) rfl
theorem dX12_person_24 : decode cX12_person 24 = .ok (.goto 4, 3) := zdk_g zdb_339 (i := 13) rfl
theorem dX12_person_27 : decode cX12_person 27 = .ok (.iconst 0, 1) := zdk_g zdb_339 (i := 14) rfl
theorem dX12_person_28 : decode cX12_person 28 = .ok (.putfield 39, 3) := zdk_g zdb_339 (i := 15) rfl
theorem dX12_person_31 : decode cX12_person 31 = .ok (.aload_n 0, 1) := zdk_g zdb_339 (i := 16) rfl
theorem dX12_person_32 : decode cX12_person 32 = .ok (.getfield 39, 3) := zdk_g zdb_339 (i := 17) rfl
theorem dX12_person_35 : decode cX12_person 35 = .ok (.ifCond .le 5, 3) := zdk_g zdb_339 (i := 18) rfl
theorem dX12_person_38 : decode cX12_person 38 = .ok (.iconst 0, 1) := zdk_g zdb_339 (i := 19) rfl
theorem dX12_person_39 : decode cX12_person 39 = .ok (.ireturn, 1) := zdk_g zdb_339 (i := 20) rfl
theorem dX12_person_40 : decode cX12_person 40 = .ok (.iload_n 2, 1) := zdk_g zdb_339 (i := 21) rfl
theorem dX12_person_41 : decode cX12_person 41 = .ok (.iconst 5, 1) := zdk_g zdb_339 (i := 22) rfl
theorem dX12_person_42 : decode cX12_person 42 = .ok (.if_icmp .ge 10, 3) := zdk_g zdb_339 (i := 23) rfl
theorem dX12_person_45 : decode cX12_person 45 = .ok (.aload_n 0, 1) := zdk_g zdb_339 (i := 24) rfl
theorem dX12_person_46 : decode cX12_person 46 = .ok (.iload_n 1, 1) := zdk_g zdb_339 (i := 25) rfl
theorem dX12_person_47 : decode cX12_person 47 = .ok (.iload_n 2, 1) := zdk_g zdb_339 (i := 26) rfl
theorem dX12_person_48 : decode cX12_person 48 = .ok (.invokevirtual 46, 3) := zdk_g zdb_339 (i := 27) rfl
theorem dX12_person_51 : decode cX12_person 51 = .ok (.ireturn, 1) := zdk_g zdb_339 (i := 28) rfl
theorem dX12_person_52 : decode cX12_person 52 = .ok (.iload_n 2, 1) := zdk_g zdb_339 (i := 29) rfl
theorem dX12_person_53 : decode cX12_person 53 = .ok (.iconst 5, 1) := zdk_g zdb_339 (i := 30) rfl
theorem dX12_person_54 : decode cX12_person 54 = .ok (.if_icmp .ne 9, 3) := zdk_g zdb_339 (i := 31) rfl
def zdl_340 : List (Nat × Instr × Nat) := [(57, .aload_n 0, 1), (58, .iload_n 1, 1), (59, .invokevirtual 264, 3), (62, .ireturn, 1), (63, .iload_n 2, 1), (64, .bipush 6, 2), (66, .if_icmp .ne 9, 3), (69, .aload_n 0, 1), (70, .iload_n 1, 1), (71, .invokevirtual 267, 3), (74, .ireturn, 1), (75, .iload_n 2, 1), (76, .bipush 7, 2), (78, .if_icmp .ne 9, 3), (81, .aload_n 0, 1), (82, .iload_n 1, 1), (83, .invokevirtual 283, 3), (86, .ireturn, 1), (87, .aload_n 0, 1), (88, .iload_n 1, 1), (89, .invokevirtual 50, 3), (92, .ifCond .eq 10, 3), (95, .aload_n 0, 1), (96, .invokevirtual 62, 3), (99, .ifCond .ne 7, 3), (102, .iconst 0, 1), (103, .goto 17, 3), (106, .bipush 100, 2), (108, .aload_n 0, 1), (109, .iload_n 1, 1), (110, .iconst 0, 1), (111, .invokevirtual 46, 3)]
theorem zdb_340 : zdk cX12_person zdl_340 = true := by decide +kernel
theorem dX12_person_57 : decode cX12_person 57 = .ok (.aload_n 0, 1) := zdk_g zdb_340 (i := 0) rfl
theorem dX12_person_58 : decode cX12_person 58 = .ok (.iload_n 1, 1) := zdk_g zdb_340 (i := 1) rfl
theorem dX12_person_59 : decode cX12_person 59 = .ok (.invokevirtual 264, 3) := zdk_g zdb_340 (i := 2) rfl
theorem dX12_person_62 : decode cX12_person 62 = .ok (.ireturn, 1) := zdk_g zdb_340 (i := 3) rfl
theorem dX12_person_63 : decode cX12_person 63 = .ok (.iload_n 2, 1) := zdk_g zdb_340 (i := 4) rfl
theorem dX12_person_64 : decode cX12_person 64 = .ok (.bipush 6, 2) := zdk_g zdb_340 (i := 5) rfl
theorem dX12_person_66 : decode cX12_person 66 = .ok (.if_icmp .ne 9, 3) := zdk_g zdb_340 (i := 6) rfl
theorem dX12_person_69 : decode cX12_person 69 = .ok (.aload_n 0, 1) := zdk_g zdb_340 (i := 7) rfl
theorem dX12_person_70 : decode cX12_person 70 = .ok (.iload_n 1, 1) := zdk_g zdb_340 (i := 8) rfl
theorem dX12_person_71 : decode cX12_person 71 = .ok (.invokevirtual 267, 3) := zdk_g zdb_340 (i := 9) rfl
theorem dX12_person_74 : decode cX12_person 74 = .ok (.ireturn, 1) := zdk_g zdb_340 (i := 10) rfl
theorem dX12_person_75 : decode cX12_person 75 = .ok (.iload_n 2, 1) := zdk_g zdb_340 (i := 11) rfl
theorem dX12_person_76 : decode cX12_person 76 = .ok (.bipush 7, 2) := zdk_g zdb_340 (i := 12) rfl
theorem dX12_person_78 : decode cX12_person 78 = .ok (.if_icmp .ne 9, 3) := zdk_g zdb_340 (i := 13) rfl
theorem dX12_person_81 : decode cX12_person 81 = .ok (.aload_n 0, 1) := zdk_g zdb_340 (i := 14) rfl
theorem dX12_person_82 : decode cX12_person 82 = .ok (.iload_n 1, 1) := zdk_g zdb_340 (i := 15) rfl
theorem dX12_person_83 : decode cX12_person 83 = .ok (.invokevirtual 283, 3) := zdk_g zdb_340 (i := 16) rfl
theorem dX12_person_86 : decode cX12_person 86 = .ok (.ireturn, 1) := zdk_g zdb_340 (i := 17) rfl
theorem dX12_person_87 : decode cX12_person 87 = .ok (.aload_n 0, 1) := zdk_g zdb_340 (i := 18) rfl
theorem dX12_person_88 : decode cX12_person 88 = .ok (.iload_n 1, 1) := zdk_g zdb_340 (i := 19) rfl
theorem dX12_person_89 : decode cX12_person 89 = .ok (.invokevirtual 50, 3) := zdk_g zdb_340 (i := 20) rfl
theorem dX12_person_92 : decode cX12_person 92 = .ok (.ifCond .eq 10, 3) := zdk_g zdb_340 (i := 21) rfl
theorem dX12_person_95 : decode cX12_person 95 = .ok (.aload_n 0, 1) := zdk_g zdb_340 (i := 22) rfl
theorem dX12_person_96 : decode cX12_person 96 = .ok (.invokevirtual 62, 3) := zdk_g zdb_340 (i := 23) rfl
theorem dX12_person_99 : decode cX12_person 99 = .ok (.ifCond .ne 7, 3) := zdk_g zdb_340 (i := 24) rfl
theorem dX12_person_102 : decode cX12_person 102 = .ok (.iconst 0, 1) := zdk_g zdb_340 (i := 25) rfl
theorem dX12_person_103 : decode cX12_person 103 = .ok (.goto 17, 3) := zdk_g zdb_340 (i := 26) rfl
theorem dX12_person_106 : decode cX12_person 106 = .ok (.bipush 100, 2) := zdk_g zdb_340 (i := 27) rfl
theorem dX12_person_108 : decode cX12_person 108 = .ok (.aload_n 0, 1) := zdk_g zdb_340 (i := 28) rfl
theorem dX12_person_109 : decode cX12_person 109 = .ok (.iload_n 1, 1) := zdk_g zdb_340 (i := 29) rfl
theorem dX12_person_110 : decode cX12_person 110 = .ok (.iconst 0, 1) := zdk_g zdb_340 (i := 30) rfl
theorem dX12_person_111 : decode cX12_person 111 = .ok (.invokevirtual 46, 3) := zdk_g zdb_340 (i := 31) rfl
def zdl_341 : List (Nat × Instr × Nat) := [(114, .imul, 1), (115, .aload_n 0, 1), (116, .invokevirtual 62, 3), (119, .idiv, 1), (120, .ireturn, 1)]
theorem zdb_341 : zdk cX12_person zdl_341 = true := by decide +kernel
theorem dX12_person_114 : decode cX12_person 114 = .ok (.imul, 1) := zdk_g zdb_341 (i := 0) rfl
theorem dX12_person_115 : decode cX12_person 115 = .ok (.aload_n 0, 1) := zdk_g zdb_341 (i := 1) rfl
theorem dX12_person_116 : decode cX12_person 116 = .ok (.invokevirtual 62, 3) := zdk_g zdb_341 (i := 2) rfl
theorem dX12_person_119 : decode cX12_person 119 = .ok (.idiv, 1) := zdk_g zdb_341 (i := 3) rfl
theorem dX12_person_120 : decode cX12_person 120 = .ok (.ireturn, 1) := zdk_g zdb_341 (i := 4) rfl
def zdl_342 : List (Nat × Instr × Nat) := [(0, .aload_n 0, 1), (1, .aload_n 0, 1), (2, .iload_n 1, 1), (3, .invokevirtual 280, 3), (6, .ifCond .eq 11, 3), (9, .aload_n 0, 1), (10, .iload_n 2, 1), (11, .invokevirtual 280, 3), (14, .ifCond .ne 7, 3), (17, .iconst 1, 1), (18, .goto 13, 3), (21, .iload_n 1, 1), (22, .iload_n 2, 1), (23, .if_icmp .ne 7, 3), (26, .iconst 2, 1), (27, .goto 4, 3), (30, .iconst 0, 1), (31, .putfield 39, 3), (34, .aload_n 0, 1), (35, .getfield 39, 3), (38, .ifCond .le 7, 3), (41, .iconst 0, 1), (42, .goto 9, 3), (45, .aload_n 0, 1), (46, .iload_n 1, 1), (47, .iload_n 2, 1), (48, .invokevirtual 71, 3), (51, .ireturn, 1)]
theorem zdb_342 : zdk cX12_trust zdl_342 = true := by decide +kernel
theorem dX12_trust_0 : decode cX12_trust 0 = .ok (.aload_n 0, 1) := zdk_g zdb_342 (i := 0) rfl
theorem dX12_trust_1 : decode cX12_trust 1 = .ok (.aload_n 0, 1) := zdk_g zdb_342 (i := 1) rfl
theorem dX12_trust_2 : decode cX12_trust 2 = .ok (.iload_n 1, 1) := zdk_g zdb_342 (i := 2) rfl
theorem dX12_trust_3 : decode cX12_trust 3 = .ok (.invokevirtual 280, 3) := zdk_g zdb_342 (i := 3) rfl
theorem dX12_trust_6 : decode cX12_trust 6 = .ok (.ifCond .eq 11, 3) := zdk_g zdb_342 (i := 4) rfl
theorem dX12_trust_9 : decode cX12_trust 9 = .ok (.aload_n 0, 1) := zdk_g zdb_342 (i := 5) rfl
theorem dX12_trust_10 : decode cX12_trust 10 = .ok (.iload_n 2, 1) := zdk_g zdb_342 (i := 6) rfl
theorem dX12_trust_11 : decode cX12_trust 11 = .ok (.invokevirtual 280, 3) := zdk_g zdb_342 (i := 7) rfl
theorem dX12_trust_14 : decode cX12_trust 14 = .ok (.ifCond .ne 7, 3) := zdk_g zdb_342 (i := 8) rfl
theorem dX12_trust_17 : decode cX12_trust 17 = .ok (.iconst 1, 1) := zdk_g zdb_342 (i := 9) rfl
theorem dX12_trust_18 : decode cX12_trust 18 = .ok (.goto 13, 3) := zdk_g zdb_342 (i := 10) rfl
theorem dX12_trust_21 : decode cX12_trust 21 = .ok (.iload_n 1, 1) := zdk_g zdb_342 (i := 11) rfl
theorem dX12_trust_22 : decode cX12_trust 22 = .ok (.iload_n 2, 1) := zdk_g zdb_342 (i := 12) rfl
theorem dX12_trust_23 : decode cX12_trust 23 = .ok (.if_icmp .ne 7, 3) := zdk_g zdb_342 (i := 13) rfl
theorem dX12_trust_26 : decode cX12_trust 26 = .ok (.iconst 2, 1) := zdk_g zdb_342 (i := 14) rfl
theorem dX12_trust_27 : decode cX12_trust 27 = .ok (.goto 4, 3) := zdk_g zdb_342 (i := 15) rfl
theorem dX12_trust_30 : decode cX12_trust 30 = .ok (.iconst 0, 1) := zdk_g zdb_342 (i := 16) rfl
theorem dX12_trust_31 : decode cX12_trust 31 = .ok (.putfield 39, 3) := zdk_g zdb_342 (i := 17) rfl
theorem dX12_trust_34 : decode cX12_trust 34 = .ok (.aload_n 0, 1) := zdk_g zdb_342 (i := 18) rfl
theorem dX12_trust_35 : decode cX12_trust 35 = .ok (.getfield 39, 3) := zdk_g zdb_342 (i := 19) rfl
theorem dX12_trust_38 : decode cX12_trust 38 = .ok (.ifCond .le 7, 3) := zdk_g zdb_342 (i := 20) rfl
theorem dX12_trust_41 : decode cX12_trust 41 = .ok (.iconst 0, 1) := zdk_g zdb_342 (i := 21) rfl
theorem dX12_trust_42 : decode cX12_trust 42 = .ok (.goto 9, 3) := zdk_g zdb_342 (i := 22) rfl
theorem dX12_trust_45 : decode cX12_trust 45 = .ok (.aload_n 0, 1) := zdk_g zdb_342 (i := 23) rfl
theorem dX12_trust_46 : decode cX12_trust 46 = .ok (.iload_n 1, 1) := zdk_g zdb_342 (i := 24) rfl
theorem dX12_trust_47 : decode cX12_trust 47 = .ok (.iload_n 2, 1) := zdk_g zdb_342 (i := 25) rfl
theorem dX12_trust_48 : decode cX12_trust 48 = .ok (.invokevirtual 71, 3) := zdk_g zdb_342 (i := 26) rfl
theorem dX12_trust_51 : decode cX12_trust 51 = .ok (.ireturn, 1) := zdk_g zdb_342 (i := 27) rfl
def zdl_343 : List (Nat × Instr × Nat) := [(0, .aload_n 0, 1), (1, .aload_n 0, 1), (2, .iload_n 1, 1), (3, .invokevirtual 286, 3), (6, .ifCond .ne 7, 3), (9, .iconst 1, 1), (10, .goto 17, 3), (13, .iload_n 2, 1), (14, .iconst 0, 1), (15, .iconst 3, 1), (16, .invokestatic 42, 3), (19, .ifCond .ne 7, 3), (22, .iconst 2, 1), (23, .goto 4, 3), (26, .iconst 0, 1), (27, .putfield 39, 3), (30, .aload_n 0, 1), (31, .getfield 39, 3), (34, .ifCond .le 7, 3), (37, .iconst 0, 1), (38, .goto 9, 3), (41, .aload_n 0, 1), (42, .iload_n 1, 1), (43, .iload_n 2, 1), (44, .invokevirtual 68, 3), (47, .ireturn, 1)]
theorem zdb_343 : zdk cX12_work zdl_343 = true := by decide +kernel
theorem dX12_work_0 : decode cX12_work 0 = .ok (.aload_n 0, 1) := zdk_g zdb_343 (i := 0) rfl
theorem dX12_work_1 : decode cX12_work 1 = .ok (.aload_n 0, 1) := zdk_g zdb_343 (i := 1) rfl
theorem dX12_work_2 : decode cX12_work 2 = .ok (.iload_n 1, 1) := zdk_g zdb_343 (i := 2) rfl
theorem dX12_work_3 : decode cX12_work 3 = .ok (.invokevirtual 286, 3) := zdk_g zdb_343 (i := 3) rfl
theorem dX12_work_6 : decode cX12_work 6 = .ok (.ifCond .ne 7, 3) := zdk_g zdb_343 (i := 4) rfl
theorem dX12_work_9 : decode cX12_work 9 = .ok (.iconst 1, 1) := zdk_g zdb_343 (i := 5) rfl
theorem dX12_work_10 : decode cX12_work 10 = .ok (.goto 17, 3) := zdk_g zdb_343 (i := 6) rfl
theorem dX12_work_13 : decode cX12_work 13 = .ok (.iload_n 2, 1) := zdk_g zdb_343 (i := 7) rfl
theorem dX12_work_14 : decode cX12_work 14 = .ok (.iconst 0, 1) := zdk_g zdb_343 (i := 8) rfl
theorem dX12_work_15 : decode cX12_work 15 = .ok (.iconst 3, 1) := zdk_g zdb_343 (i := 9) rfl
theorem dX12_work_16 : decode cX12_work 16 = .ok (.invokestatic 42, 3) := zdk_g zdb_343 (i := 10) rfl
theorem dX12_work_19 : decode cX12_work 19 = .ok (.ifCond .ne 7, 3) := zdk_g zdb_343 (i := 11) rfl
theorem dX12_work_22 : decode cX12_work 22 = .ok (.iconst 2, 1) := zdk_g zdb_343 (i := 12) rfl
theorem dX12_work_23 : decode cX12_work 23 = .ok (.goto 4, 3) := zdk_g zdb_343 (i := 13) rfl
theorem dX12_work_26 : decode cX12_work 26 = .ok (.iconst 0, 1) := zdk_g zdb_343 (i := 14) rfl
theorem dX12_work_27 : decode cX12_work 27 = .ok (.putfield 39, 3) := zdk_g zdb_343 (i := 15) rfl
theorem dX12_work_30 : decode cX12_work 30 = .ok (.aload_n 0, 1) := zdk_g zdb_343 (i := 16) rfl
theorem dX12_work_31 : decode cX12_work 31 = .ok (.getfield 39, 3) := zdk_g zdb_343 (i := 17) rfl
theorem dX12_work_34 : decode cX12_work 34 = .ok (.ifCond .le 7, 3) := zdk_g zdb_343 (i := 18) rfl
theorem dX12_work_37 : decode cX12_work 37 = .ok (.iconst 0, 1) := zdk_g zdb_343 (i := 19) rfl
theorem dX12_work_38 : decode cX12_work 38 = .ok (.goto 9, 3) := zdk_g zdb_343 (i := 20) rfl
theorem dX12_work_41 : decode cX12_work 41 = .ok (.aload_n 0, 1) := zdk_g zdb_343 (i := 21) rfl
theorem dX12_work_42 : decode cX12_work 42 = .ok (.iload_n 1, 1) := zdk_g zdb_343 (i := 22) rfl
theorem dX12_work_43 : decode cX12_work 43 = .ok (.iload_n 2, 1) := zdk_g zdb_343 (i := 23) rfl
theorem dX12_work_44 : decode cX12_work 44 = .ok (.invokevirtual 68, 3) := zdk_g zdb_343 (i := 24) rfl
theorem dX12_work_47 : decode cX12_work 47 = .ok (.ireturn, 1) := zdk_g zdb_343 (i := 25) rfl
def zdl_344 : List (Nat × Instr × Nat) := [(0, .aload_n 0, 1), (1, .iconst 0, 1), (2, .putfield 39, 3), (5, .aload_n 0, 1), (6, .invokevirtual 277, 3), (9, .ireturn, 1)]
theorem zdb_344 : zdk cX12_price zdl_344 = true := by decide +kernel
theorem dX12_price_0 : decode cX12_price 0 = .ok (.aload_n 0, 1) := zdk_g zdb_344 (i := 0) rfl
theorem dX12_price_1 : decode cX12_price 1 = .ok (.iconst 0, 1) := zdk_g zdb_344 (i := 1) rfl
theorem dX12_price_2 : decode cX12_price 2 = .ok (.putfield 39, 3) := zdk_g zdb_344 (i := 2) rfl
theorem dX12_price_5 : decode cX12_price 5 = .ok (.aload_n 0, 1) := zdk_g zdb_344 (i := 3) rfl
theorem dX12_price_6 : decode cX12_price 6 = .ok (.invokevirtual 277, 3) := zdk_g zdb_344 (i := 4) rfl
theorem dX12_price_9 : decode cX12_price 9 = .ok (.ireturn, 1) := zdk_g zdb_344 (i := 5) rfl
def zdl_345 : List (Nat × Instr × Nat) := [(0, .aload_n 0, 1), (1, .getfield 187, 3), (4, .bipush 12, 2), (6, .if_icmp .ne 44, 3), (9, .iconst 0, 1), (10, .istore_n 1, 1), (11, .iload_n 1, 1), (12, .sipush 4169, 3), (15, .if_icmp .ge 25, 3), (18, .aload_n 0, 1), (19, .getfield 19, 3), (22, .iload_n 1, 1), (23, .aload_n 0, 1), (24, .getfield 19, 3), (27, .iload_n 1, 1), (28, .sipush 379, 3), (31, .iadd, 1), (32, .iaload, 1), (33, .iastore, 1), (34, .iinc 1 1, 3), (37, .goto (-26), 3), (40, .aload_n 0, 1), (41, .dup, 1), (42, .getfield 187, 3), (45, .iconst 1, 1), (46, .isub, 1), (47, .putfield 187, 3), (50, .iconst 0, 1), (51, .istore_n 1, 1), (52, .iload_n 1, 1), (53, .sipush 379, 3), (56, .if_icmp .ge 30, 3)]
theorem zdb_345 : zdk cX12_remembers zdl_345 = true := by decide +kernel
theorem dX12_remembers_0 : decode cX12_remembers 0 = .ok (.aload_n 0, 1) := zdk_g zdb_345 (i := 0) rfl
theorem dX12_remembers_1 : decode cX12_remembers 1 = .ok (.getfield 187, 3) := zdk_g zdb_345 (i := 1) rfl
theorem dX12_remembers_4 : decode cX12_remembers 4 = .ok (.bipush 12, 2) := zdk_g zdb_345 (i := 2) rfl
theorem dX12_remembers_6 : decode cX12_remembers 6 = .ok (.if_icmp .ne 44, 3) := zdk_g zdb_345 (i := 3) rfl
theorem dX12_remembers_9 : decode cX12_remembers 9 = .ok (.iconst 0, 1) := zdk_g zdb_345 (i := 4) rfl
theorem dX12_remembers_10 : decode cX12_remembers 10 = .ok (.istore_n 1, 1) := zdk_g zdb_345 (i := 5) rfl
theorem dX12_remembers_11 : decode cX12_remembers 11 = .ok (.iload_n 1, 1) := zdk_g zdb_345 (i := 6) rfl
theorem dX12_remembers_12 : decode cX12_remembers 12 = .ok (.sipush 4169, 3) := zdk_g zdb_345 (i := 7) rfl
theorem dX12_remembers_15 : decode cX12_remembers 15 = .ok (.if_icmp .ge 25, 3) := zdk_g zdb_345 (i := 8) rfl
theorem dX12_remembers_18 : decode cX12_remembers 18 = .ok (.aload_n 0, 1) := zdk_g zdb_345 (i := 9) rfl
theorem dX12_remembers_19 : decode cX12_remembers 19 = .ok (.getfield 19, 3) := zdk_g zdb_345 (i := 10) rfl
theorem dX12_remembers_22 : decode cX12_remembers 22 = .ok (.iload_n 1, 1) := zdk_g zdb_345 (i := 11) rfl
theorem dX12_remembers_23 : decode cX12_remembers 23 = .ok (.aload_n 0, 1) := zdk_g zdb_345 (i := 12) rfl
theorem dX12_remembers_24 : decode cX12_remembers 24 = .ok (.getfield 19, 3) := zdk_g zdb_345 (i := 13) rfl
theorem dX12_remembers_27 : decode cX12_remembers 27 = .ok (.iload_n 1, 1) := zdk_g zdb_345 (i := 14) rfl
theorem dX12_remembers_28 : decode cX12_remembers 28 = .ok (.sipush 379, 3) := zdk_g zdb_345 (i := 15) rfl
theorem dX12_remembers_31 : decode cX12_remembers 31 = .ok (.iadd, 1) := zdk_g zdb_345 (i := 16) rfl
theorem dX12_remembers_32 : decode cX12_remembers 32 = .ok (.iaload, 1) := zdk_g zdb_345 (i := 17) rfl
theorem dX12_remembers_33 : decode cX12_remembers 33 = .ok (.iastore, 1) := zdk_g zdb_345 (i := 18) rfl
theorem dX12_remembers_34 : decode cX12_remembers 34 = .ok (.iinc 1 1, 3) := zdk_g zdb_345 (i := 19) rfl
theorem dX12_remembers_37 : decode cX12_remembers 37 = .ok (.goto (-26), 3) := zdk_g zdb_345 (i := 20) rfl
theorem dX12_remembers_40 : decode cX12_remembers 40 = .ok (.aload_n 0, 1) := zdk_g zdb_345 (i := 21) rfl
theorem dX12_remembers_41 : decode cX12_remembers 41 = .ok (.dup, 1) := zdk_g zdb_345 (i := 22) rfl
theorem dX12_remembers_42 : decode cX12_remembers 42 = .ok (.getfield 187, 3) := zdk_g zdb_345 (i := 23) rfl
theorem dX12_remembers_45 : decode cX12_remembers 45 = .ok (.iconst 1, 1) := zdk_g zdb_345 (i := 24) rfl
theorem dX12_remembers_46 : decode cX12_remembers 46 = .ok (.isub, 1) := zdk_g zdb_345 (i := 25) rfl
theorem dX12_remembers_47 : decode cX12_remembers 47 = .ok (.putfield 187, 3) := zdk_g zdb_345 (i := 26) rfl
theorem dX12_remembers_50 : decode cX12_remembers 50 = .ok (.iconst 0, 1) := zdk_g zdb_345 (i := 27) rfl
theorem dX12_remembers_51 : decode cX12_remembers 51 = .ok (.istore_n 1, 1) := zdk_g zdb_345 (i := 28) rfl
theorem dX12_remembers_52 : decode cX12_remembers 52 = .ok (.iload_n 1, 1) := zdk_g zdb_345 (i := 29) rfl
theorem dX12_remembers_53 : decode cX12_remembers 53 = .ok (.sipush 379, 3) := zdk_g zdb_345 (i := 30) rfl
theorem dX12_remembers_56 : decode cX12_remembers 56 = .ok (.if_icmp .ge 30, 3) := zdk_g zdb_345 (i := 31) rfl
def zdl_346 : List (Nat × Instr × Nat) := [(59, .aload_n 0, 1), (60, .getfield 19, 3), (63, .sipush 379, 3), (66, .aload_n 0, 1), (67, .getfield 187, 3), (70, .imul, 1), (71, .iload_n 1, 1), (72, .iadd, 1), (73, .aload_n 0, 1), (74, .getfield 7, 3), (77, .iload_n 1, 1), (78, .iaload, 1), (79, .iastore, 1), (80, .iinc 1 1, 3), (83, .goto (-31), 3), (86, .aload_n 0, 1), (87, .dup, 1), (88, .getfield 187, 3), (91, .iconst 1, 1), (92, .iadd, 1), (93, .putfield 187, 3), (96, .return_, 1)]
theorem zdb_346 : zdk cX12_remembers zdl_346 = true := by decide +kernel
theorem dX12_remembers_59 : decode cX12_remembers 59 = .ok (.aload_n 0, 1) := zdk_g zdb_346 (i := 0) rfl
theorem dX12_remembers_60 : decode cX12_remembers 60 = .ok (.getfield 19, 3) := zdk_g zdb_346 (i := 1) rfl
theorem dX12_remembers_63 : decode cX12_remembers 63 = .ok (.sipush 379, 3) := zdk_g zdb_346 (i := 2) rfl
theorem dX12_remembers_66 : decode cX12_remembers 66 = .ok (.aload_n 0, 1) := zdk_g zdb_346 (i := 3) rfl
theorem dX12_remembers_67 : decode cX12_remembers 67 = .ok (.getfield 187, 3) := zdk_g zdb_346 (i := 4) rfl
theorem dX12_remembers_70 : decode cX12_remembers 70 = .ok (.imul, 1) := zdk_g zdb_346 (i := 5) rfl
theorem dX12_remembers_71 : decode cX12_remembers 71 = .ok (.iload_n 1, 1) := zdk_g zdb_346 (i := 6) rfl
theorem dX12_remembers_72 : decode cX12_remembers 72 = .ok (.iadd, 1) := zdk_g zdb_346 (i := 7) rfl
theorem dX12_remembers_73 : decode cX12_remembers 73 = .ok (.aload_n 0, 1) := zdk_g zdb_346 (i := 8) rfl
theorem dX12_remembers_74 : decode cX12_remembers 74 = .ok (.getfield 7, 3) := zdk_g zdb_346 (i := 9) rfl
theorem dX12_remembers_77 : decode cX12_remembers 77 = .ok (.iload_n 1, 1) := zdk_g zdb_346 (i := 10) rfl
theorem dX12_remembers_78 : decode cX12_remembers 78 = .ok (.iaload, 1) := zdk_g zdb_346 (i := 11) rfl
theorem dX12_remembers_79 : decode cX12_remembers 79 = .ok (.iastore, 1) := zdk_g zdb_346 (i := 12) rfl
theorem dX12_remembers_80 : decode cX12_remembers 80 = .ok (.iinc 1 1, 3) := zdk_g zdb_346 (i := 13) rfl
theorem dX12_remembers_83 : decode cX12_remembers 83 = .ok (.goto (-31), 3) := zdk_g zdb_346 (i := 14) rfl
theorem dX12_remembers_86 : decode cX12_remembers 86 = .ok (.aload_n 0, 1) := zdk_g zdb_346 (i := 15) rfl
theorem dX12_remembers_87 : decode cX12_remembers 87 = .ok (.dup, 1) := zdk_g zdb_346 (i := 16) rfl
theorem dX12_remembers_88 : decode cX12_remembers 88 = .ok (.getfield 187, 3) := zdk_g zdb_346 (i := 17) rfl
theorem dX12_remembers_91 : decode cX12_remembers 91 = .ok (.iconst 1, 1) := zdk_g zdb_346 (i := 18) rfl
theorem dX12_remembers_92 : decode cX12_remembers 92 = .ok (.iadd, 1) := zdk_g zdb_346 (i := 19) rfl
theorem dX12_remembers_93 : decode cX12_remembers 93 = .ok (.putfield 187, 3) := zdk_g zdb_346 (i := 20) rfl
theorem dX12_remembers_96 : decode cX12_remembers 96 = .ok (.return_, 1) := zdk_g zdb_346 (i := 21) rfl
def zdl_347 : List (Nat × Instr × Nat) := [(0, .aload_n 0, 1), (1, .aload_n 0, 1), (2, .iload_n 1, 1), (3, .invokevirtual 280, 3), (6, .ifCond .ne 7, 3), (9, .iconst 1, 1), (10, .goto 16, 3), (13, .aload_n 0, 1), (14, .iload_n 1, 1), (15, .invokevirtual 50, 3), (18, .ifCond .ne 7, 3), (21, .iconst 2, 1), (22, .goto 4, 3), (25, .iconst 0, 1), (26, .putfield 39, 3), (29, .aload_n 0, 1), (30, .getfield 39, 3), (33, .ifCond .le 5, 3), (36, .iconst 0, 1), (37, .ireturn, 1), (38, .aload_n 0, 1), (39, .invokevirtual 289, 3), (42, .aload_n 0, 1), (43, .iload_n 1, 1), (44, .bipush 20, 2), (46, .invokevirtual 261, 3), (49, .aload_n 0, 1), (50, .iload_n 1, 1), (51, .iconst 0, 1), (52, .invokevirtual 46, 3), (55, .ireturn, 1)]
theorem zdb_347 : zdk cX12_tell zdl_347 = true := by decide +kernel
theorem dX12_tell_0 : decode cX12_tell 0 = .ok (.aload_n 0, 1) := zdk_g zdb_347 (i := 0) rfl
theorem dX12_tell_1 : decode cX12_tell 1 = .ok (.aload_n 0, 1) := zdk_g zdb_347 (i := 1) rfl
theorem dX12_tell_2 : decode cX12_tell 2 = .ok (.iload_n 1, 1) := zdk_g zdb_347 (i := 2) rfl
theorem dX12_tell_3 : decode cX12_tell 3 = .ok (.invokevirtual 280, 3) := zdk_g zdb_347 (i := 3) rfl
theorem dX12_tell_6 : decode cX12_tell 6 = .ok (.ifCond .ne 7, 3) := zdk_g zdb_347 (i := 4) rfl
theorem dX12_tell_9 : decode cX12_tell 9 = .ok (.iconst 1, 1) := zdk_g zdb_347 (i := 5) rfl
theorem dX12_tell_10 : decode cX12_tell 10 = .ok (.goto 16, 3) := zdk_g zdb_347 (i := 6) rfl
theorem dX12_tell_13 : decode cX12_tell 13 = .ok (.aload_n 0, 1) := zdk_g zdb_347 (i := 7) rfl
theorem dX12_tell_14 : decode cX12_tell 14 = .ok (.iload_n 1, 1) := zdk_g zdb_347 (i := 8) rfl
theorem dX12_tell_15 : decode cX12_tell 15 = .ok (.invokevirtual 50, 3) := zdk_g zdb_347 (i := 9) rfl
theorem dX12_tell_18 : decode cX12_tell 18 = .ok (.ifCond .ne 7, 3) := zdk_g zdb_347 (i := 10) rfl
theorem dX12_tell_21 : decode cX12_tell 21 = .ok (.iconst 2, 1) := zdk_g zdb_347 (i := 11) rfl
theorem dX12_tell_22 : decode cX12_tell 22 = .ok (.goto 4, 3) := zdk_g zdb_347 (i := 12) rfl
theorem dX12_tell_25 : decode cX12_tell 25 = .ok (.iconst 0, 1) := zdk_g zdb_347 (i := 13) rfl
theorem dX12_tell_26 : decode cX12_tell 26 = .ok (.putfield 39, 3) := zdk_g zdb_347 (i := 14) rfl
theorem dX12_tell_29 : decode cX12_tell 29 = .ok (.aload_n 0, 1) := zdk_g zdb_347 (i := 15) rfl
theorem dX12_tell_30 : decode cX12_tell 30 = .ok (.getfield 39, 3) := zdk_g zdb_347 (i := 16) rfl
theorem dX12_tell_33 : decode cX12_tell 33 = .ok (.ifCond .le 5, 3) := zdk_g zdb_347 (i := 17) rfl
theorem dX12_tell_36 : decode cX12_tell 36 = .ok (.iconst 0, 1) := zdk_g zdb_347 (i := 18) rfl
theorem dX12_tell_37 : decode cX12_tell 37 = .ok (.ireturn, 1) := zdk_g zdb_347 (i := 19) rfl
theorem dX12_tell_38 : decode cX12_tell 38 = .ok (.aload_n 0, 1) := zdk_g zdb_347 (i := 20) rfl
theorem dX12_tell_39 : decode cX12_tell 39 = .ok (.invokevirtual 289, 3) := zdk_g zdb_347 (i := 21) rfl
theorem dX12_tell_42 : decode cX12_tell 42 = .ok (.aload_n 0, 1) := zdk_g zdb_347 (i := 22) rfl
theorem dX12_tell_43 : decode cX12_tell 43 = .ok (.iload_n 1, 1) := zdk_g zdb_347 (i := 23) rfl
theorem dX12_tell_44 : decode cX12_tell 44 = .ok (.bipush 20, 2) := zdk_g zdb_347 (i := 24) rfl
theorem dX12_tell_46 : decode cX12_tell 46 = .ok (.invokevirtual 261, 3) := zdk_g zdb_347 (i := 25) rfl
theorem dX12_tell_49 : decode cX12_tell 49 = .ok (.aload_n 0, 1) := zdk_g zdb_347 (i := 26) rfl
theorem dX12_tell_50 : decode cX12_tell 50 = .ok (.iload_n 1, 1) := zdk_g zdb_347 (i := 27) rfl
theorem dX12_tell_51 : decode cX12_tell 51 = .ok (.iconst 0, 1) := zdk_g zdb_347 (i := 28) rfl
theorem dX12_tell_52 : decode cX12_tell 52 = .ok (.invokevirtual 46, 3) := zdk_g zdb_347 (i := 29) rfl
theorem dX12_tell_55 : decode cX12_tell 55 = .ok (.ireturn, 1) := zdk_g zdb_347 (i := 30) rfl
def zdl_348 : List (Nat × Instr × Nat) := [(0, .aload_n 0, 1), (1, .aload_n 0, 1), (2, .iload_n 1, 1), (3, .invokevirtual 280, 3), (6, .ifCond .eq 11, 3), (9, .aload_n 0, 1), (10, .iload_n 2, 1), (11, .invokevirtual 280, 3), (14, .ifCond .ne 7, 3), (17, .iconst 1, 1), (18, .goto 23, 3), (21, .iload_n 1, 1), (22, .iload_n 2, 1), (23, .if_icmp .eq 13, 3), (26, .iload_n 3, 1), (27, .iconst 0, 1), (28, .bipush 9, 2), (30, .invokestatic 42, 3), (33, .ifCond .ne 7, 3), (36, .iconst 2, 1), (37, .goto 4, 3), (40, .iconst 0, 1), (41, .putfield 39, 3), (44, .aload_n 0, 1), (45, .getfield 39, 3), (48, .ifCond .le 5, 3), (51, .iconst 0, 1), (52, .ireturn, 1), (53, .aload_n 0, 1), (54, .invokevirtual 289, 3), (57, .aload_n 0, 1), (58, .iload_n 1, 1)]
theorem zdb_348 : zdk cX12_tie zdl_348 = true := by decide +kernel
theorem dX12_tie_0 : decode cX12_tie 0 = .ok (.aload_n 0, 1) := zdk_g zdb_348 (i := 0) rfl
theorem dX12_tie_1 : decode cX12_tie 1 = .ok (.aload_n 0, 1) := zdk_g zdb_348 (i := 1) rfl
theorem dX12_tie_2 : decode cX12_tie 2 = .ok (.iload_n 1, 1) := zdk_g zdb_348 (i := 2) rfl
theorem dX12_tie_3 : decode cX12_tie 3 = .ok (.invokevirtual 280, 3) := zdk_g zdb_348 (i := 3) rfl
theorem dX12_tie_6 : decode cX12_tie 6 = .ok (.ifCond .eq 11, 3) := zdk_g zdb_348 (i := 4) rfl
theorem dX12_tie_9 : decode cX12_tie 9 = .ok (.aload_n 0, 1) := zdk_g zdb_348 (i := 5) rfl
theorem dX12_tie_10 : decode cX12_tie 10 = .ok (.iload_n 2, 1) := zdk_g zdb_348 (i := 6) rfl
theorem dX12_tie_11 : decode cX12_tie 11 = .ok (.invokevirtual 280, 3) := zdk_g zdb_348 (i := 7) rfl
theorem dX12_tie_14 : decode cX12_tie 14 = .ok (.ifCond .ne 7, 3) := zdk_g zdb_348 (i := 8) rfl
theorem dX12_tie_17 : decode cX12_tie 17 = .ok (.iconst 1, 1) := zdk_g zdb_348 (i := 9) rfl
theorem dX12_tie_18 : decode cX12_tie 18 = .ok (.goto 23, 3) := zdk_g zdb_348 (i := 10) rfl
theorem dX12_tie_21 : decode cX12_tie 21 = .ok (.iload_n 1, 1) := zdk_g zdb_348 (i := 11) rfl
theorem dX12_tie_22 : decode cX12_tie 22 = .ok (.iload_n 2, 1) := zdk_g zdb_348 (i := 12) rfl
theorem dX12_tie_23 : decode cX12_tie 23 = .ok (.if_icmp .eq 13, 3) := zdk_g zdb_348 (i := 13) rfl
theorem dX12_tie_26 : decode cX12_tie 26 = .ok (.iload_n 3, 1) := zdk_g zdb_348 (i := 14) rfl
theorem dX12_tie_27 : decode cX12_tie 27 = .ok (.iconst 0, 1) := zdk_g zdb_348 (i := 15) rfl
theorem dX12_tie_28 : decode cX12_tie 28 = .ok (.bipush 9, 2) := zdk_g zdb_348 (i := 16) rfl
theorem dX12_tie_30 : decode cX12_tie 30 = .ok (.invokestatic 42, 3) := zdk_g zdb_348 (i := 17) rfl
theorem dX12_tie_33 : decode cX12_tie 33 = .ok (.ifCond .ne 7, 3) := zdk_g zdb_348 (i := 18) rfl
theorem dX12_tie_36 : decode cX12_tie 36 = .ok (.iconst 2, 1) := zdk_g zdb_348 (i := 19) rfl
theorem dX12_tie_37 : decode cX12_tie 37 = .ok (.goto 4, 3) := zdk_g zdb_348 (i := 20) rfl
theorem dX12_tie_40 : decode cX12_tie 40 = .ok (.iconst 0, 1) := zdk_g zdb_348 (i := 21) rfl
theorem dX12_tie_41 : decode cX12_tie 41 = .ok (.putfield 39, 3) := zdk_g zdb_348 (i := 22) rfl
theorem dX12_tie_44 : decode cX12_tie 44 = .ok (.aload_n 0, 1) := zdk_g zdb_348 (i := 23) rfl
theorem dX12_tie_45 : decode cX12_tie 45 = .ok (.getfield 39, 3) := zdk_g zdb_348 (i := 24) rfl
theorem dX12_tie_48 : decode cX12_tie 48 = .ok (.ifCond .le 5, 3) := zdk_g zdb_348 (i := 25) rfl
theorem dX12_tie_51 : decode cX12_tie 51 = .ok (.iconst 0, 1) := zdk_g zdb_348 (i := 26) rfl
theorem dX12_tie_52 : decode cX12_tie 52 = .ok (.ireturn, 1) := zdk_g zdb_348 (i := 27) rfl
theorem dX12_tie_53 : decode cX12_tie 53 = .ok (.aload_n 0, 1) := zdk_g zdb_348 (i := 28) rfl
theorem dX12_tie_54 : decode cX12_tie 54 = .ok (.invokevirtual 289, 3) := zdk_g zdb_348 (i := 29) rfl
theorem dX12_tie_57 : decode cX12_tie 57 = .ok (.aload_n 0, 1) := zdk_g zdb_348 (i := 30) rfl
theorem dX12_tie_58 : decode cX12_tie 58 = .ok (.iload_n 1, 1) := zdk_g zdb_348 (i := 31) rfl
def zdl_349 : List (Nat × Instr × Nat) := [(59, .iload_n 2, 1), (60, .invokevirtual 71, 3), (63, .istore 4, 2), (65, .aload_n 0, 1), (66, .getfield 7, 3), (69, .bipush 51, 2), (71, .bipush 8, 2), (73, .iload_n 1, 1), (74, .imul, 1), (75, .iadd, 1), (76, .iload_n 2, 1), (77, .iadd, 1), (78, .iload_n 3, 1), (79, .iastore, 1), (80, .iload 4, 2), (82, .ireturn, 1)]
theorem zdb_349 : zdk cX12_tie zdl_349 = true := by decide +kernel
theorem dX12_tie_59 : decode cX12_tie 59 = .ok (.iload_n 2, 1) := zdk_g zdb_349 (i := 0) rfl
theorem dX12_tie_60 : decode cX12_tie 60 = .ok (.invokevirtual 71, 3) := zdk_g zdb_349 (i := 1) rfl
theorem dX12_tie_63 : decode cX12_tie 63 = .ok (.istore 4, 2) := zdk_g zdb_349 (i := 2) rfl
theorem dX12_tie_65 : decode cX12_tie 65 = .ok (.aload_n 0, 1) := zdk_g zdb_349 (i := 3) rfl
theorem dX12_tie_66 : decode cX12_tie 66 = .ok (.getfield 7, 3) := zdk_g zdb_349 (i := 4) rfl
theorem dX12_tie_69 : decode cX12_tie 69 = .ok (.bipush 51, 2) := zdk_g zdb_349 (i := 5) rfl
theorem dX12_tie_71 : decode cX12_tie 71 = .ok (.bipush 8, 2) := zdk_g zdb_349 (i := 6) rfl
theorem dX12_tie_73 : decode cX12_tie 73 = .ok (.iload_n 1, 1) := zdk_g zdb_349 (i := 7) rfl
theorem dX12_tie_74 : decode cX12_tie 74 = .ok (.imul, 1) := zdk_g zdb_349 (i := 8) rfl
theorem dX12_tie_75 : decode cX12_tie 75 = .ok (.iadd, 1) := zdk_g zdb_349 (i := 9) rfl
theorem dX12_tie_76 : decode cX12_tie 76 = .ok (.iload_n 2, 1) := zdk_g zdb_349 (i := 10) rfl
theorem dX12_tie_77 : decode cX12_tie 77 = .ok (.iadd, 1) := zdk_g zdb_349 (i := 11) rfl
theorem dX12_tie_78 : decode cX12_tie 78 = .ok (.iload_n 3, 1) := zdk_g zdb_349 (i := 12) rfl
theorem dX12_tie_79 : decode cX12_tie 79 = .ok (.iastore, 1) := zdk_g zdb_349 (i := 13) rfl
theorem dX12_tie_80 : decode cX12_tie 80 = .ok (.iload 4, 2) := zdk_g zdb_349 (i := 14) rfl
theorem dX12_tie_82 : decode cX12_tie 82 = .ok (.ireturn, 1) := zdk_g zdb_349 (i := 15) rfl
def zdl_350 : List (Nat × Instr × Nat) := [(0, .aload_n 0, 1), (1, .aload_n 0, 1), (2, .iload_n 1, 1), (3, .invokevirtual 286, 3), (6, .ifCond .ne 7, 3), (9, .iconst 1, 1), (10, .goto 18, 3), (13, .aload_n 0, 1), (14, .iload_n 1, 1), (15, .iconst 3, 1), (16, .invokevirtual 68, 3), (19, .iconst 2, 1), (20, .if_icmp .eq 7, 3), (23, .iconst 2, 1), (24, .goto 4, 3), (27, .iconst 0, 1), (28, .putfield 39, 3), (31, .aload_n 0, 1), (32, .getfield 39, 3), (35, .ifCond .le 4, 3), (38, .return_, 1), (39, .aload_n 0, 1), (40, .invokevirtual 289, 3), (43, .aload_n 0, 1), (44, .iload_n 1, 1), (45, .iconst 3, 1), (46, .iconst 0, 1), (47, .invokevirtual 131, 3), (50, .return_, 1)]
theorem zdb_350 : zdk cX12_plan zdl_350 = true := by decide +kernel
theorem dX12_plan_0 : decode cX12_plan 0 = .ok (.aload_n 0, 1) := zdk_g zdb_350 (i := 0) rfl
theorem dX12_plan_1 : decode cX12_plan 1 = .ok (.aload_n 0, 1) := zdk_g zdb_350 (i := 1) rfl
theorem dX12_plan_2 : decode cX12_plan 2 = .ok (.iload_n 1, 1) := zdk_g zdb_350 (i := 2) rfl
theorem dX12_plan_3 : decode cX12_plan 3 = .ok (.invokevirtual 286, 3) := zdk_g zdb_350 (i := 3) rfl
theorem dX12_plan_6 : decode cX12_plan 6 = .ok (.ifCond .ne 7, 3) := zdk_g zdb_350 (i := 4) rfl
theorem dX12_plan_9 : decode cX12_plan 9 = .ok (.iconst 1, 1) := zdk_g zdb_350 (i := 5) rfl
theorem dX12_plan_10 : decode cX12_plan 10 = .ok (.goto 18, 3) := zdk_g zdb_350 (i := 6) rfl
theorem dX12_plan_13 : decode cX12_plan 13 = .ok (.aload_n 0, 1) := zdk_g zdb_350 (i := 7) rfl
theorem dX12_plan_14 : decode cX12_plan 14 = .ok (.iload_n 1, 1) := zdk_g zdb_350 (i := 8) rfl
theorem dX12_plan_15 : decode cX12_plan 15 = .ok (.iconst 3, 1) := zdk_g zdb_350 (i := 9) rfl
theorem dX12_plan_16 : decode cX12_plan 16 = .ok (.invokevirtual 68, 3) := zdk_g zdb_350 (i := 10) rfl
theorem dX12_plan_19 : decode cX12_plan 19 = .ok (.iconst 2, 1) := zdk_g zdb_350 (i := 11) rfl
theorem dX12_plan_20 : decode cX12_plan 20 = .ok (.if_icmp .eq 7, 3) := zdk_g zdb_350 (i := 12) rfl
theorem dX12_plan_23 : decode cX12_plan 23 = .ok (.iconst 2, 1) := zdk_g zdb_350 (i := 13) rfl
theorem dX12_plan_24 : decode cX12_plan 24 = .ok (.goto 4, 3) := zdk_g zdb_350 (i := 14) rfl
theorem dX12_plan_27 : decode cX12_plan 27 = .ok (.iconst 0, 1) := zdk_g zdb_350 (i := 15) rfl
theorem dX12_plan_28 : decode cX12_plan 28 = .ok (.putfield 39, 3) := zdk_g zdb_350 (i := 16) rfl
theorem dX12_plan_31 : decode cX12_plan 31 = .ok (.aload_n 0, 1) := zdk_g zdb_350 (i := 17) rfl
theorem dX12_plan_32 : decode cX12_plan 32 = .ok (.getfield 39, 3) := zdk_g zdb_350 (i := 18) rfl
theorem dX12_plan_35 : decode cX12_plan 35 = .ok (.ifCond .le 4, 3) := zdk_g zdb_350 (i := 19) rfl
theorem dX12_plan_38 : decode cX12_plan 38 = .ok (.return_, 1) := zdk_g zdb_350 (i := 20) rfl
theorem dX12_plan_39 : decode cX12_plan 39 = .ok (.aload_n 0, 1) := zdk_g zdb_350 (i := 21) rfl
theorem dX12_plan_40 : decode cX12_plan 40 = .ok (.invokevirtual 289, 3) := zdk_g zdb_350 (i := 22) rfl
theorem dX12_plan_43 : decode cX12_plan 43 = .ok (.aload_n 0, 1) := zdk_g zdb_350 (i := 23) rfl
theorem dX12_plan_44 : decode cX12_plan 44 = .ok (.iload_n 1, 1) := zdk_g zdb_350 (i := 24) rfl
theorem dX12_plan_45 : decode cX12_plan 45 = .ok (.iconst 3, 1) := zdk_g zdb_350 (i := 25) rfl
theorem dX12_plan_46 : decode cX12_plan 46 = .ok (.iconst 0, 1) := zdk_g zdb_350 (i := 26) rfl
theorem dX12_plan_47 : decode cX12_plan 47 = .ok (.invokevirtual 131, 3) := zdk_g zdb_350 (i := 27) rfl
theorem dX12_plan_50 : decode cX12_plan 50 = .ok (.return_, 1) := zdk_g zdb_350 (i := 28) rfl
def zdl_351 : List (Nat × Instr × Nat) := [(0, .aload_n 0, 1), (1, .aload_n 0, 1), (2, .iload_n 1, 1), (3, .invokevirtual 280, 3), (6, .ifCond .ne 7, 3), (9, .iconst 1, 1), (10, .goto 16, 3), (13, .aload_n 0, 1), (14, .iload_n 1, 1), (15, .invokevirtual 50, 3), (18, .ifCond .ne 7, 3), (21, .iconst 2, 1), (22, .goto 4, 3), (25, .iconst 0, 1), (26, .putfield 39, 3), (29, .aload_n 0, 1), (30, .getfield 39, 3), (33, .ifCond .le 5, 3), (36, .iconst 0, 1), (37, .ireturn, 1), (38, .aload_n 0, 1), (39, .invokevirtual 289, 3), (42, .aload_n 0, 1), (43, .iload_n 1, 1), (44, .iconst 4, 1), (45, .aload_n 0, 1), (46, .getfield 7, 3), (49, .bipush 8, 2), (51, .iaload, 1), (52, .aload_n 0, 1), (53, .getfield 7, 3), (56, .bipush 6, 2)]
theorem zdb_351 : zdk cX12_send zdl_351 = true := by decide +kernel
theorem dX12_send_0 : decode cX12_send 0 = .ok (.aload_n 0, 1) := zdk_g zdb_351 (i := 0) rfl
theorem dX12_send_1 : decode cX12_send 1 = .ok (.aload_n 0, 1) := zdk_g zdb_351 (i := 1) rfl
theorem dX12_send_2 : decode cX12_send 2 = .ok (.iload_n 1, 1) := zdk_g zdb_351 (i := 2) rfl
theorem dX12_send_3 : decode cX12_send 3 = .ok (.invokevirtual 280, 3) := zdk_g zdb_351 (i := 3) rfl
theorem dX12_send_6 : decode cX12_send 6 = .ok (.ifCond .ne 7, 3) := zdk_g zdb_351 (i := 4) rfl
theorem dX12_send_9 : decode cX12_send 9 = .ok (.iconst 1, 1) := zdk_g zdb_351 (i := 5) rfl
theorem dX12_send_10 : decode cX12_send 10 = .ok (.goto 16, 3) := zdk_g zdb_351 (i := 6) rfl
theorem dX12_send_13 : decode cX12_send 13 = .ok (.aload_n 0, 1) := zdk_g zdb_351 (i := 7) rfl
theorem dX12_send_14 : decode cX12_send 14 = .ok (.iload_n 1, 1) := zdk_g zdb_351 (i := 8) rfl
theorem dX12_send_15 : decode cX12_send 15 = .ok (.invokevirtual 50, 3) := zdk_g zdb_351 (i := 9) rfl
theorem dX12_send_18 : decode cX12_send 18 = .ok (.ifCond .ne 7, 3) := zdk_g zdb_351 (i := 10) rfl
theorem dX12_send_21 : decode cX12_send 21 = .ok (.iconst 2, 1) := zdk_g zdb_351 (i := 11) rfl
theorem dX12_send_22 : decode cX12_send 22 = .ok (.goto 4, 3) := zdk_g zdb_351 (i := 12) rfl
theorem dX12_send_25 : decode cX12_send 25 = .ok (.iconst 0, 1) := zdk_g zdb_351 (i := 13) rfl
theorem dX12_send_26 : decode cX12_send 26 = .ok (.putfield 39, 3) := zdk_g zdb_351 (i := 14) rfl
theorem dX12_send_29 : decode cX12_send 29 = .ok (.aload_n 0, 1) := zdk_g zdb_351 (i := 15) rfl
theorem dX12_send_30 : decode cX12_send 30 = .ok (.getfield 39, 3) := zdk_g zdb_351 (i := 16) rfl
theorem dX12_send_33 : decode cX12_send 33 = .ok (.ifCond .le 5, 3) := zdk_g zdb_351 (i := 17) rfl
theorem dX12_send_36 : decode cX12_send 36 = .ok (.iconst 0, 1) := zdk_g zdb_351 (i := 18) rfl
theorem dX12_send_37 : decode cX12_send 37 = .ok (.ireturn, 1) := zdk_g zdb_351 (i := 19) rfl
theorem dX12_send_38 : decode cX12_send 38 = .ok (.aload_n 0, 1) := zdk_g zdb_351 (i := 20) rfl
theorem dX12_send_39 : decode cX12_send 39 = .ok (.invokevirtual 289, 3) := zdk_g zdb_351 (i := 21) rfl
theorem dX12_send_42 : decode cX12_send 42 = .ok (.aload_n 0, 1) := zdk_g zdb_351 (i := 22) rfl
theorem dX12_send_43 : decode cX12_send 43 = .ok (.iload_n 1, 1) := zdk_g zdb_351 (i := 23) rfl
theorem dX12_send_44 : decode cX12_send 44 = .ok (.iconst 4, 1) := zdk_g zdb_351 (i := 24) rfl
theorem dX12_send_45 : decode cX12_send 45 = .ok (.aload_n 0, 1) := zdk_g zdb_351 (i := 25) rfl
theorem dX12_send_46 : decode cX12_send 46 = .ok (.getfield 7, 3) := zdk_g zdb_351 (i := 26) rfl
theorem dX12_send_49 : decode cX12_send 49 = .ok (.bipush 8, 2) := zdk_g zdb_351 (i := 27) rfl
theorem dX12_send_51 : decode cX12_send 51 = .ok (.iaload, 1) := zdk_g zdb_351 (i := 28) rfl
theorem dX12_send_52 : decode cX12_send 52 = .ok (.aload_n 0, 1) := zdk_g zdb_351 (i := 29) rfl
theorem dX12_send_53 : decode cX12_send 53 = .ok (.getfield 7, 3) := zdk_g zdb_351 (i := 30) rfl
theorem dX12_send_56 : decode cX12_send 56 = .ok (.bipush 6, 2) := zdk_g zdb_351 (i := 31) rfl
def zdl_352 : List (Nat × Instr × Nat) := [(58, .iaload, 1), (59, .iadd, 1), (60, .invokevirtual 123, 3), (63, .aload_n 0, 1), (64, .iload_n 1, 1), (65, .iconst 4, 1), (66, .invokevirtual 46, 3), (69, .ireturn, 1)]
theorem zdb_352 : zdk cX12_send zdl_352 = true := by decide +kernel
theorem dX12_send_58 : decode cX12_send 58 = .ok (.iaload, 1) := zdk_g zdb_352 (i := 0) rfl
theorem dX12_send_59 : decode cX12_send 59 = .ok (.iadd, 1) := zdk_g zdb_352 (i := 1) rfl
theorem dX12_send_60 : decode cX12_send 60 = .ok (.invokevirtual 123, 3) := zdk_g zdb_352 (i := 2) rfl
theorem dX12_send_63 : decode cX12_send 63 = .ok (.aload_n 0, 1) := zdk_g zdb_352 (i := 3) rfl
theorem dX12_send_64 : decode cX12_send 64 = .ok (.iload_n 1, 1) := zdk_g zdb_352 (i := 4) rfl
theorem dX12_send_65 : decode cX12_send 65 = .ok (.iconst 4, 1) := zdk_g zdb_352 (i := 5) rfl
theorem dX12_send_66 : decode cX12_send 66 = .ok (.invokevirtual 46, 3) := zdk_g zdb_352 (i := 6) rfl
theorem dX12_send_69 : decode cX12_send 69 = .ok (.ireturn, 1) := zdk_g zdb_352 (i := 7) rfl
def zdl_353 : List (Nat × Instr × Nat) := [(0, .aload_n 0, 1), (1, .aload_n 0, 1), (2, .iload_n 1, 1), (3, .invokevirtual 280, 3), (6, .ifCond .ne 7, 3), (9, .iconst 1, 1), (10, .goto 50, 3), (13, .iload_n 2, 1), (14, .iconst 1, 1), (15, .bipush 99, 2), (17, .invokestatic 42, 3), (20, .ifCond .ne 7, 3), (23, .iconst 2, 1), (24, .goto 36, 3), (27, .aload_n 0, 1), (28, .iload_n 1, 1), (29, .iconst 2, 1), (30, .invokevirtual 46, 3), (33, .iload_n 2, 1), (34, .iadd, 1), (35, .bipush 99, 2), (37, .if_icmp .gt 18, 3), (40, .aload_n 0, 1), (41, .iload_n 1, 1), (42, .iconst 1, 1), (43, .invokevirtual 46, 3), (46, .iload_n 2, 1), (47, .aload_n 0, 1), (48, .invokevirtual 277, 3), (51, .imul, 1), (52, .if_icmp .ge 7, 3), (55, .iconst 3, 1)]
theorem zdb_353 : zdk cX12_buy zdl_353 = true := by decide +kernel
theorem dX12_buy_0 : decode cX12_buy 0 = .ok (.aload_n 0, 1) := zdk_g zdb_353 (i := 0) rfl
theorem dX12_buy_1 : decode cX12_buy 1 = .ok (.aload_n 0, 1) := zdk_g zdb_353 (i := 1) rfl
theorem dX12_buy_2 : decode cX12_buy 2 = .ok (.iload_n 1, 1) := zdk_g zdb_353 (i := 2) rfl
theorem dX12_buy_3 : decode cX12_buy 3 = .ok (.invokevirtual 280, 3) := zdk_g zdb_353 (i := 3) rfl
theorem dX12_buy_6 : decode cX12_buy 6 = .ok (.ifCond .ne 7, 3) := zdk_g zdb_353 (i := 4) rfl
theorem dX12_buy_9 : decode cX12_buy 9 = .ok (.iconst 1, 1) := zdk_g zdb_353 (i := 5) rfl
theorem dX12_buy_10 : decode cX12_buy 10 = .ok (.goto 50, 3) := zdk_g zdb_353 (i := 6) rfl
theorem dX12_buy_13 : decode cX12_buy 13 = .ok (.iload_n 2, 1) := zdk_g zdb_353 (i := 7) rfl
theorem dX12_buy_14 : decode cX12_buy 14 = .ok (.iconst 1, 1) := zdk_g zdb_353 (i := 8) rfl
theorem dX12_buy_15 : decode cX12_buy 15 = .ok (.bipush 99, 2) := zdk_g zdb_353 (i := 9) rfl
theorem dX12_buy_17 : decode cX12_buy 17 = .ok (.invokestatic 42, 3) := zdk_g zdb_353 (i := 10) rfl
theorem dX12_buy_20 : decode cX12_buy 20 = .ok (.ifCond .ne 7, 3) := zdk_g zdb_353 (i := 11) rfl
theorem dX12_buy_23 : decode cX12_buy 23 = .ok (.iconst 2, 1) := zdk_g zdb_353 (i := 12) rfl
theorem dX12_buy_24 : decode cX12_buy 24 = .ok (.goto 36, 3) := zdk_g zdb_353 (i := 13) rfl
theorem dX12_buy_27 : decode cX12_buy 27 = .ok (.aload_n 0, 1) := zdk_g zdb_353 (i := 14) rfl
theorem dX12_buy_28 : decode cX12_buy 28 = .ok (.iload_n 1, 1) := zdk_g zdb_353 (i := 15) rfl
theorem dX12_buy_29 : decode cX12_buy 29 = .ok (.iconst 2, 1) := zdk_g zdb_353 (i := 16) rfl
theorem dX12_buy_30 : decode cX12_buy 30 = .ok (.invokevirtual 46, 3) := zdk_g zdb_353 (i := 17) rfl
theorem dX12_buy_33 : decode cX12_buy 33 = .ok (.iload_n 2, 1) := zdk_g zdb_353 (i := 18) rfl
theorem dX12_buy_34 : decode cX12_buy 34 = .ok (.iadd, 1) := zdk_g zdb_353 (i := 19) rfl
theorem dX12_buy_35 : decode cX12_buy 35 = .ok (.bipush 99, 2) := zdk_g zdb_353 (i := 20) rfl
theorem dX12_buy_37 : decode cX12_buy 37 = .ok (.if_icmp .gt 18, 3) := zdk_g zdb_353 (i := 21) rfl
theorem dX12_buy_40 : decode cX12_buy 40 = .ok (.aload_n 0, 1) := zdk_g zdb_353 (i := 22) rfl
theorem dX12_buy_41 : decode cX12_buy 41 = .ok (.iload_n 1, 1) := zdk_g zdb_353 (i := 23) rfl
theorem dX12_buy_42 : decode cX12_buy 42 = .ok (.iconst 1, 1) := zdk_g zdb_353 (i := 24) rfl
theorem dX12_buy_43 : decode cX12_buy 43 = .ok (.invokevirtual 46, 3) := zdk_g zdb_353 (i := 25) rfl
theorem dX12_buy_46 : decode cX12_buy 46 = .ok (.iload_n 2, 1) := zdk_g zdb_353 (i := 26) rfl
theorem dX12_buy_47 : decode cX12_buy 47 = .ok (.aload_n 0, 1) := zdk_g zdb_353 (i := 27) rfl
theorem dX12_buy_48 : decode cX12_buy 48 = .ok (.invokevirtual 277, 3) := zdk_g zdb_353 (i := 28) rfl
theorem dX12_buy_51 : decode cX12_buy 51 = .ok (.imul, 1) := zdk_g zdb_353 (i := 29) rfl
theorem dX12_buy_52 : decode cX12_buy 52 = .ok (.if_icmp .ge 7, 3) := zdk_g zdb_353 (i := 30) rfl
theorem dX12_buy_55 : decode cX12_buy 55 = .ok (.iconst 3, 1) := zdk_g zdb_353 (i := 31) rfl
def zdl_354 : List (Nat × Instr × Nat) := [(56, .goto 4, 3), (59, .iconst 0, 1), (60, .putfield 39, 3), (63, .aload_n 0, 1), (64, .getfield 39, 3), (67, .ifCond .le 5, 3), (70, .iconst 0, 1), (71, .ireturn, 1), (72, .aload_n 0, 1), (73, .invokevirtual 289, 3), (76, .iload_n 2, 1), (77, .aload_n 0, 1), (78, .invokevirtual 277, 3), (81, .imul, 1), (82, .istore_n 3, 1), (83, .aload_n 0, 1), (84, .iload_n 1, 1), (85, .iconst 1, 1), (86, .aload_n 0, 1), (87, .iload_n 1, 1), (88, .iconst 1, 1), (89, .invokevirtual 46, 3), (92, .iload_n 3, 1), (93, .isub, 1), (94, .invokevirtual 123, 3), (97, .aload_n 0, 1), (98, .iload_n 1, 1), (99, .iconst 2, 1), (100, .aload_n 0, 1), (101, .iload_n 1, 1), (102, .iconst 2, 1), (103, .invokevirtual 46, 3)]
theorem zdb_354 : zdk cX12_buy zdl_354 = true := by decide +kernel
theorem dX12_buy_56 : decode cX12_buy 56 = .ok (.goto 4, 3) := zdk_g zdb_354 (i := 0) rfl
theorem dX12_buy_59 : decode cX12_buy 59 = .ok (.iconst 0, 1) := zdk_g zdb_354 (i := 1) rfl
theorem dX12_buy_60 : decode cX12_buy 60 = .ok (.putfield 39, 3) := zdk_g zdb_354 (i := 2) rfl
theorem dX12_buy_63 : decode cX12_buy 63 = .ok (.aload_n 0, 1) := zdk_g zdb_354 (i := 3) rfl
theorem dX12_buy_64 : decode cX12_buy 64 = .ok (.getfield 39, 3) := zdk_g zdb_354 (i := 4) rfl
theorem dX12_buy_67 : decode cX12_buy 67 = .ok (.ifCond .le 5, 3) := zdk_g zdb_354 (i := 5) rfl
theorem dX12_buy_70 : decode cX12_buy 70 = .ok (.iconst 0, 1) := zdk_g zdb_354 (i := 6) rfl
theorem dX12_buy_71 : decode cX12_buy 71 = .ok (.ireturn, 1) := zdk_g zdb_354 (i := 7) rfl
theorem dX12_buy_72 : decode cX12_buy 72 = .ok (.aload_n 0, 1) := zdk_g zdb_354 (i := 8) rfl
theorem dX12_buy_73 : decode cX12_buy 73 = .ok (.invokevirtual 289, 3) := zdk_g zdb_354 (i := 9) rfl
theorem dX12_buy_76 : decode cX12_buy 76 = .ok (.iload_n 2, 1) := zdk_g zdb_354 (i := 10) rfl
theorem dX12_buy_77 : decode cX12_buy 77 = .ok (.aload_n 0, 1) := zdk_g zdb_354 (i := 11) rfl
theorem dX12_buy_78 : decode cX12_buy 78 = .ok (.invokevirtual 277, 3) := zdk_g zdb_354 (i := 12) rfl
theorem dX12_buy_81 : decode cX12_buy 81 = .ok (.imul, 1) := zdk_g zdb_354 (i := 13) rfl
theorem dX12_buy_82 : decode cX12_buy 82 = .ok (.istore_n 3, 1) := zdk_g zdb_354 (i := 14) rfl
theorem dX12_buy_83 : decode cX12_buy 83 = .ok (.aload_n 0, 1) := zdk_g zdb_354 (i := 15) rfl
theorem dX12_buy_84 : decode cX12_buy 84 = .ok (.iload_n 1, 1) := zdk_g zdb_354 (i := 16) rfl
theorem dX12_buy_85 : decode cX12_buy 85 = .ok (.iconst 1, 1) := zdk_g zdb_354 (i := 17) rfl
theorem dX12_buy_86 : decode cX12_buy 86 = .ok (.aload_n 0, 1) := zdk_g zdb_354 (i := 18) rfl
theorem dX12_buy_87 : decode cX12_buy 87 = .ok (.iload_n 1, 1) := zdk_g zdb_354 (i := 19) rfl
theorem dX12_buy_88 : decode cX12_buy 88 = .ok (.iconst 1, 1) := zdk_g zdb_354 (i := 20) rfl
theorem dX12_buy_89 : decode cX12_buy 89 = .ok (.invokevirtual 46, 3) := zdk_g zdb_354 (i := 21) rfl
theorem dX12_buy_92 : decode cX12_buy 92 = .ok (.iload_n 3, 1) := zdk_g zdb_354 (i := 22) rfl
theorem dX12_buy_93 : decode cX12_buy 93 = .ok (.isub, 1) := zdk_g zdb_354 (i := 23) rfl
theorem dX12_buy_94 : decode cX12_buy 94 = .ok (.invokevirtual 123, 3) := zdk_g zdb_354 (i := 24) rfl
theorem dX12_buy_97 : decode cX12_buy 97 = .ok (.aload_n 0, 1) := zdk_g zdb_354 (i := 25) rfl
theorem dX12_buy_98 : decode cX12_buy 98 = .ok (.iload_n 1, 1) := zdk_g zdb_354 (i := 26) rfl
theorem dX12_buy_99 : decode cX12_buy 99 = .ok (.iconst 2, 1) := zdk_g zdb_354 (i := 27) rfl
theorem dX12_buy_100 : decode cX12_buy 100 = .ok (.aload_n 0, 1) := zdk_g zdb_354 (i := 28) rfl
theorem dX12_buy_101 : decode cX12_buy 101 = .ok (.iload_n 1, 1) := zdk_g zdb_354 (i := 29) rfl
theorem dX12_buy_102 : decode cX12_buy 102 = .ok (.iconst 2, 1) := zdk_g zdb_354 (i := 30) rfl
theorem dX12_buy_103 : decode cX12_buy 103 = .ok (.invokevirtual 46, 3) := zdk_g zdb_354 (i := 31) rfl
def zdl_355 : List (Nat × Instr × Nat) := [(106, .iload_n 2, 1), (107, .iadd, 1), (108, .invokevirtual 123, 3), (111, .aload_n 0, 1), (112, .getfield 7, 3), (115, .iconst 5, 1), (116, .sipush 9999, 3), (119, .aload_n 0, 1), (120, .getfield 7, 3), (123, .iconst 5, 1), (124, .iaload, 1), (125, .iload_n 3, 1), (126, .iadd, 1), (127, .invokestatic 248, 3), (130, .iastore, 1), (131, .aload_n 0, 1), (132, .iload_n 1, 1), (133, .iconst 1, 1), (134, .invokevirtual 46, 3), (137, .ireturn, 1)]
theorem zdb_355 : zdk cX12_buy zdl_355 = true := by decide +kernel
theorem dX12_buy_106 : decode cX12_buy 106 = .ok (.iload_n 2, 1) := zdk_g zdb_355 (i := 0) rfl
theorem dX12_buy_107 : decode cX12_buy 107 = .ok (.iadd, 1) := zdk_g zdb_355 (i := 1) rfl
theorem dX12_buy_108 : decode cX12_buy 108 = .ok (.invokevirtual 123, 3) := zdk_g zdb_355 (i := 2) rfl
theorem dX12_buy_111 : decode cX12_buy 111 = .ok (.aload_n 0, 1) := zdk_g zdb_355 (i := 3) rfl
theorem dX12_buy_112 : decode cX12_buy 112 = .ok (.getfield 7, 3) := zdk_g zdb_355 (i := 4) rfl
theorem dX12_buy_115 : decode cX12_buy 115 = .ok (.iconst 5, 1) := zdk_g zdb_355 (i := 5) rfl
theorem dX12_buy_116 : decode cX12_buy 116 = .ok (.sipush 9999, 3) := zdk_g zdb_355 (i := 6) rfl
theorem dX12_buy_119 : decode cX12_buy 119 = .ok (.aload_n 0, 1) := zdk_g zdb_355 (i := 7) rfl
theorem dX12_buy_120 : decode cX12_buy 120 = .ok (.getfield 7, 3) := zdk_g zdb_355 (i := 8) rfl
theorem dX12_buy_123 : decode cX12_buy 123 = .ok (.iconst 5, 1) := zdk_g zdb_355 (i := 9) rfl
theorem dX12_buy_124 : decode cX12_buy 124 = .ok (.iaload, 1) := zdk_g zdb_355 (i := 10) rfl
theorem dX12_buy_125 : decode cX12_buy 125 = .ok (.iload_n 3, 1) := zdk_g zdb_355 (i := 11) rfl
theorem dX12_buy_126 : decode cX12_buy 126 = .ok (.iadd, 1) := zdk_g zdb_355 (i := 12) rfl
theorem dX12_buy_127 : decode cX12_buy 127 = .ok (.invokestatic 248, 3) := zdk_g zdb_355 (i := 13) rfl
theorem dX12_buy_130 : decode cX12_buy 130 = .ok (.iastore, 1) := zdk_g zdb_355 (i := 14) rfl
theorem dX12_buy_131 : decode cX12_buy 131 = .ok (.aload_n 0, 1) := zdk_g zdb_355 (i := 15) rfl
theorem dX12_buy_132 : decode cX12_buy 132 = .ok (.iload_n 1, 1) := zdk_g zdb_355 (i := 16) rfl
theorem dX12_buy_133 : decode cX12_buy 133 = .ok (.iconst 1, 1) := zdk_g zdb_355 (i := 17) rfl
theorem dX12_buy_134 : decode cX12_buy 134 = .ok (.invokevirtual 46, 3) := zdk_g zdb_355 (i := 18) rfl
theorem dX12_buy_137 : decode cX12_buy 137 = .ok (.ireturn, 1) := zdk_g zdb_355 (i := 19) rfl
def zdl_356 : List (Nat × Instr × Nat) := [(0, .aload_n 0, 1), (1, .aload_n 0, 1), (2, .iload_n 1, 1), (3, .invokevirtual 280, 3), (6, .ifCond .ne 7, 3), (9, .iconst 1, 1), (10, .goto 47, 3), (13, .iload_n 2, 1), (14, .iconst 1, 1), (15, .bipush 99, 2), (17, .invokestatic 42, 3), (20, .ifCond .ne 7, 3), (23, .iconst 2, 1), (24, .goto 33, 3), (27, .aload_n 0, 1), (28, .iload_n 1, 1), (29, .iconst 2, 1), (30, .invokevirtual 46, 3), (33, .iload_n 2, 1), (34, .if_icmp .lt 18, 3), (37, .aload_n 0, 1), (38, .getfield 7, 3), (41, .iconst 5, 1), (42, .iaload, 1), (43, .iload_n 2, 1), (44, .aload_n 0, 1), (45, .invokevirtual 277, 3), (48, .imul, 1), (49, .if_icmp .ge 7, 3), (52, .iconst 3, 1), (53, .goto 4, 3), (56, .iconst 0, 1)]
theorem zdb_356 : zdk cX12_sell zdl_356 = true := by decide +kernel
theorem dX12_sell_0 : decode cX12_sell 0 = .ok (.aload_n 0, 1) := zdk_g zdb_356 (i := 0) rfl
theorem dX12_sell_1 : decode cX12_sell 1 = .ok (.aload_n 0, 1) := zdk_g zdb_356 (i := 1) rfl
theorem dX12_sell_2 : decode cX12_sell 2 = .ok (.iload_n 1, 1) := zdk_g zdb_356 (i := 2) rfl
theorem dX12_sell_3 : decode cX12_sell 3 = .ok (.invokevirtual 280, 3) := zdk_g zdb_356 (i := 3) rfl
theorem dX12_sell_6 : decode cX12_sell 6 = .ok (.ifCond .ne 7, 3) := zdk_g zdb_356 (i := 4) rfl
theorem dX12_sell_9 : decode cX12_sell 9 = .ok (.iconst 1, 1) := zdk_g zdb_356 (i := 5) rfl
theorem dX12_sell_10 : decode cX12_sell 10 = .ok (.goto 47, 3) := zdk_g zdb_356 (i := 6) rfl
theorem dX12_sell_13 : decode cX12_sell 13 = .ok (.iload_n 2, 1) := zdk_g zdb_356 (i := 7) rfl
theorem dX12_sell_14 : decode cX12_sell 14 = .ok (.iconst 1, 1) := zdk_g zdb_356 (i := 8) rfl
theorem dX12_sell_15 : decode cX12_sell 15 = .ok (.bipush 99, 2) := zdk_g zdb_356 (i := 9) rfl
theorem dX12_sell_17 : decode cX12_sell 17 = .ok (.invokestatic 42, 3) := zdk_g zdb_356 (i := 10) rfl
theorem dX12_sell_20 : decode cX12_sell 20 = .ok (.ifCond .ne 7, 3) := zdk_g zdb_356 (i := 11) rfl
theorem dX12_sell_23 : decode cX12_sell 23 = .ok (.iconst 2, 1) := zdk_g zdb_356 (i := 12) rfl
theorem dX12_sell_24 : decode cX12_sell 24 = .ok (.goto 33, 3) := zdk_g zdb_356 (i := 13) rfl
theorem dX12_sell_27 : decode cX12_sell 27 = .ok (.aload_n 0, 1) := zdk_g zdb_356 (i := 14) rfl
theorem dX12_sell_28 : decode cX12_sell 28 = .ok (.iload_n 1, 1) := zdk_g zdb_356 (i := 15) rfl
theorem dX12_sell_29 : decode cX12_sell 29 = .ok (.iconst 2, 1) := zdk_g zdb_356 (i := 16) rfl
theorem dX12_sell_30 : decode cX12_sell 30 = .ok (.invokevirtual 46, 3) := zdk_g zdb_356 (i := 17) rfl
theorem dX12_sell_33 : decode cX12_sell 33 = .ok (.iload_n 2, 1) := zdk_g zdb_356 (i := 18) rfl
theorem dX12_sell_34 : decode cX12_sell 34 = .ok (.if_icmp .lt 18, 3) := zdk_g zdb_356 (i := 19) rfl
theorem dX12_sell_37 : decode cX12_sell 37 = .ok (.aload_n 0, 1) := zdk_g zdb_356 (i := 20) rfl
theorem dX12_sell_38 : decode cX12_sell 38 = .ok (.getfield 7, 3) := zdk_g zdb_356 (i := 21) rfl
theorem dX12_sell_41 : decode cX12_sell 41 = .ok (.iconst 5, 1) := zdk_g zdb_356 (i := 22) rfl
theorem dX12_sell_42 : decode cX12_sell 42 = .ok (.iaload, 1) := zdk_g zdb_356 (i := 23) rfl
theorem dX12_sell_43 : decode cX12_sell 43 = .ok (.iload_n 2, 1) := zdk_g zdb_356 (i := 24) rfl
theorem dX12_sell_44 : decode cX12_sell 44 = .ok (.aload_n 0, 1) := zdk_g zdb_356 (i := 25) rfl
theorem dX12_sell_45 : decode cX12_sell 45 = .ok (.invokevirtual 277, 3) := zdk_g zdb_356 (i := 26) rfl
theorem dX12_sell_48 : decode cX12_sell 48 = .ok (.imul, 1) := zdk_g zdb_356 (i := 27) rfl
theorem dX12_sell_49 : decode cX12_sell 49 = .ok (.if_icmp .ge 7, 3) := zdk_g zdb_356 (i := 28) rfl
theorem dX12_sell_52 : decode cX12_sell 52 = .ok (.iconst 3, 1) := zdk_g zdb_356 (i := 29) rfl
theorem dX12_sell_53 : decode cX12_sell 53 = .ok (.goto 4, 3) := zdk_g zdb_356 (i := 30) rfl
theorem dX12_sell_56 : decode cX12_sell 56 = .ok (.iconst 0, 1) := zdk_g zdb_356 (i := 31) rfl
def zdl_357 : List (Nat × Instr × Nat) := [(57, .putfield 39, 3), (60, .aload_n 0, 1), (61, .getfield 39, 3), (64, .ifCond .le 5, 3), (67, .iconst 0, 1), (68, .ireturn, 1), (69, .aload_n 0, 1), (70, .invokevirtual 289, 3), (73, .iload_n 2, 1), (74, .aload_n 0, 1), (75, .invokevirtual 277, 3), (78, .imul, 1), (79, .istore_n 3, 1), (80, .aload_n 0, 1), (81, .iload_n 1, 1), (82, .iconst 1, 1), (83, .sipush 9999, 3), (86, .aload_n 0, 1), (87, .iload_n 1, 1), (88, .iconst 1, 1), (89, .invokevirtual 46, 3), (92, .iload_n 3, 1), (93, .iadd, 1), (94, .invokestatic 248, 3), (97, .invokevirtual 123, 3), (100, .aload_n 0, 1), (101, .iload_n 1, 1), (102, .iconst 2, 1), (103, .aload_n 0, 1), (104, .iload_n 1, 1), (105, .iconst 2, 1), (106, .invokevirtual 46, 3)]
theorem zdb_357 : zdk cX12_sell zdl_357 = true := by decide +kernel
theorem dX12_sell_57 : decode cX12_sell 57 = .ok (.putfield 39, 3) := zdk_g zdb_357 (i := 0) rfl
theorem dX12_sell_60 : decode cX12_sell 60 = .ok (.aload_n 0, 1) := zdk_g zdb_357 (i := 1) rfl
theorem dX12_sell_61 : decode cX12_sell 61 = .ok (.getfield 39, 3) := zdk_g zdb_357 (i := 2) rfl
theorem dX12_sell_64 : decode cX12_sell 64 = .ok (.ifCond .le 5, 3) := zdk_g zdb_357 (i := 3) rfl
theorem dX12_sell_67 : decode cX12_sell 67 = .ok (.iconst 0, 1) := zdk_g zdb_357 (i := 4) rfl
theorem dX12_sell_68 : decode cX12_sell 68 = .ok (.ireturn, 1) := zdk_g zdb_357 (i := 5) rfl
theorem dX12_sell_69 : decode cX12_sell 69 = .ok (.aload_n 0, 1) := zdk_g zdb_357 (i := 6) rfl
theorem dX12_sell_70 : decode cX12_sell 70 = .ok (.invokevirtual 289, 3) := zdk_g zdb_357 (i := 7) rfl
theorem dX12_sell_73 : decode cX12_sell 73 = .ok (.iload_n 2, 1) := zdk_g zdb_357 (i := 8) rfl
theorem dX12_sell_74 : decode cX12_sell 74 = .ok (.aload_n 0, 1) := zdk_g zdb_357 (i := 9) rfl
theorem dX12_sell_75 : decode cX12_sell 75 = .ok (.invokevirtual 277, 3) := zdk_g zdb_357 (i := 10) rfl
theorem dX12_sell_78 : decode cX12_sell 78 = .ok (.imul, 1) := zdk_g zdb_357 (i := 11) rfl
theorem dX12_sell_79 : decode cX12_sell 79 = .ok (.istore_n 3, 1) := zdk_g zdb_357 (i := 12) rfl
theorem dX12_sell_80 : decode cX12_sell 80 = .ok (.aload_n 0, 1) := zdk_g zdb_357 (i := 13) rfl
theorem dX12_sell_81 : decode cX12_sell 81 = .ok (.iload_n 1, 1) := zdk_g zdb_357 (i := 14) rfl
theorem dX12_sell_82 : decode cX12_sell 82 = .ok (.iconst 1, 1) := zdk_g zdb_357 (i := 15) rfl
theorem dX12_sell_83 : decode cX12_sell 83 = .ok (.sipush 9999, 3) := zdk_g zdb_357 (i := 16) rfl
theorem dX12_sell_86 : decode cX12_sell 86 = .ok (.aload_n 0, 1) := zdk_g zdb_357 (i := 17) rfl
theorem dX12_sell_87 : decode cX12_sell 87 = .ok (.iload_n 1, 1) := zdk_g zdb_357 (i := 18) rfl
theorem dX12_sell_88 : decode cX12_sell 88 = .ok (.iconst 1, 1) := zdk_g zdb_357 (i := 19) rfl
theorem dX12_sell_89 : decode cX12_sell 89 = .ok (.invokevirtual 46, 3) := zdk_g zdb_357 (i := 20) rfl
theorem dX12_sell_92 : decode cX12_sell 92 = .ok (.iload_n 3, 1) := zdk_g zdb_357 (i := 21) rfl
theorem dX12_sell_93 : decode cX12_sell 93 = .ok (.iadd, 1) := zdk_g zdb_357 (i := 22) rfl
theorem dX12_sell_94 : decode cX12_sell 94 = .ok (.invokestatic 248, 3) := zdk_g zdb_357 (i := 23) rfl
theorem dX12_sell_97 : decode cX12_sell 97 = .ok (.invokevirtual 123, 3) := zdk_g zdb_357 (i := 24) rfl
theorem dX12_sell_100 : decode cX12_sell 100 = .ok (.aload_n 0, 1) := zdk_g zdb_357 (i := 25) rfl
theorem dX12_sell_101 : decode cX12_sell 101 = .ok (.iload_n 1, 1) := zdk_g zdb_357 (i := 26) rfl
theorem dX12_sell_102 : decode cX12_sell 102 = .ok (.iconst 2, 1) := zdk_g zdb_357 (i := 27) rfl
theorem dX12_sell_103 : decode cX12_sell 103 = .ok (.aload_n 0, 1) := zdk_g zdb_357 (i := 28) rfl
theorem dX12_sell_104 : decode cX12_sell 104 = .ok (.iload_n 1, 1) := zdk_g zdb_357 (i := 29) rfl
theorem dX12_sell_105 : decode cX12_sell 105 = .ok (.iconst 2, 1) := zdk_g zdb_357 (i := 30) rfl
theorem dX12_sell_106 : decode cX12_sell 106 = .ok (.invokevirtual 46, 3) := zdk_g zdb_357 (i := 31) rfl
def zdl_358 : List (Nat × Instr × Nat) := [(109, .iload_n 2, 1), (110, .isub, 1), (111, .invokevirtual 123, 3), (114, .aload_n 0, 1), (115, .getfield 7, 3), (118, .iconst 5, 1), (119, .dup2, 1), (120, .iaload, 1), (121, .iload_n 3, 1), (122, .isub, 1), (123, .iastore, 1), (124, .aload_n 0, 1), (125, .iload_n 1, 1), (126, .iconst 1, 1), (127, .invokevirtual 46, 3), (130, .ireturn, 1)]
theorem zdb_358 : zdk cX12_sell zdl_358 = true := by decide +kernel
theorem dX12_sell_109 : decode cX12_sell 109 = .ok (.iload_n 2, 1) := zdk_g zdb_358 (i := 0) rfl
theorem dX12_sell_110 : decode cX12_sell 110 = .ok (.isub, 1) := zdk_g zdb_358 (i := 1) rfl
theorem dX12_sell_111 : decode cX12_sell 111 = .ok (.invokevirtual 123, 3) := zdk_g zdb_358 (i := 2) rfl
theorem dX12_sell_114 : decode cX12_sell 114 = .ok (.aload_n 0, 1) := zdk_g zdb_358 (i := 3) rfl
theorem dX12_sell_115 : decode cX12_sell 115 = .ok (.getfield 7, 3) := zdk_g zdb_358 (i := 4) rfl
theorem dX12_sell_118 : decode cX12_sell 118 = .ok (.iconst 5, 1) := zdk_g zdb_358 (i := 5) rfl
theorem dX12_sell_119 : decode cX12_sell 119 = .ok (.dup2, 1) := zdk_g zdb_358 (i := 6) rfl
theorem dX12_sell_120 : decode cX12_sell 120 = .ok (.iaload, 1) := zdk_g zdb_358 (i := 7) rfl
theorem dX12_sell_121 : decode cX12_sell 121 = .ok (.iload_n 3, 1) := zdk_g zdb_358 (i := 8) rfl
theorem dX12_sell_122 : decode cX12_sell 122 = .ok (.isub, 1) := zdk_g zdb_358 (i := 9) rfl
theorem dX12_sell_123 : decode cX12_sell 123 = .ok (.iastore, 1) := zdk_g zdb_358 (i := 10) rfl
theorem dX12_sell_124 : decode cX12_sell 124 = .ok (.aload_n 0, 1) := zdk_g zdb_358 (i := 11) rfl
theorem dX12_sell_125 : decode cX12_sell 125 = .ok (.iload_n 1, 1) := zdk_g zdb_358 (i := 12) rfl
theorem dX12_sell_126 : decode cX12_sell 126 = .ok (.iconst 1, 1) := zdk_g zdb_358 (i := 13) rfl
theorem dX12_sell_127 : decode cX12_sell 127 = .ok (.invokevirtual 46, 3) := zdk_g zdb_358 (i := 14) rfl
theorem dX12_sell_130 : decode cX12_sell 130 = .ok (.ireturn, 1) := zdk_g zdb_358 (i := 15) rfl
def zdl_359 : List (Nat × Instr × Nat) := [(0, .aload_n 0, 1), (1, .aload_n 0, 1), (2, .iload_n 1, 1), (3, .invokevirtual 280, 3), (6, .ifCond .ne 7, 3), (9, .iconst 1, 1), (10, .goto 4, 3), (13, .iconst 0, 1), (14, .putfield 39, 3), (17, .aload_n 0, 1), (18, .getfield 39, 3), (21, .ifCond .le 5, 3), (24, .iconst 0, 1), (25, .ireturn, 1), (26, .aload_n 0, 1), (27, .invokevirtual 289, 3), (30, .aload_n 0, 1), (31, .iload_n 1, 1), (32, .iconst 3, 1), (33, .invokevirtual 46, 3), (36, .iconst 1, 1), (37, .if_icmp .ne 7, 3), (40, .iconst 1, 1), (41, .goto 4, 3), (44, .iconst 0, 1), (45, .istore_n 3, 1), (46, .aload_n 0, 1), (47, .iload_n 1, 1), (48, .iconst 3, 1), (49, .iload_n 2, 1), (50, .ifCond .eq 7, 3), (53, .iconst 1, 1)]
theorem zdb_359 : zdk cX12_dry zdl_359 = true := by decide +kernel
theorem dX12_dry_0 : decode cX12_dry 0 = .ok (.aload_n 0, 1) := zdk_g zdb_359 (i := 0) rfl
theorem dX12_dry_1 : decode cX12_dry 1 = .ok (.aload_n 0, 1) := zdk_g zdb_359 (i := 1) rfl
theorem dX12_dry_2 : decode cX12_dry 2 = .ok (.iload_n 1, 1) := zdk_g zdb_359 (i := 2) rfl
theorem dX12_dry_3 : decode cX12_dry 3 = .ok (.invokevirtual 280, 3) := zdk_g zdb_359 (i := 3) rfl
theorem dX12_dry_6 : decode cX12_dry 6 = .ok (.ifCond .ne 7, 3) := zdk_g zdb_359 (i := 4) rfl
theorem dX12_dry_9 : decode cX12_dry 9 = .ok (.iconst 1, 1) := zdk_g zdb_359 (i := 5) rfl
theorem dX12_dry_10 : decode cX12_dry 10 = .ok (.goto 4, 3) := zdk_g zdb_359 (i := 6) rfl
theorem dX12_dry_13 : decode cX12_dry 13 = .ok (.iconst 0, 1) := zdk_g zdb_359 (i := 7) rfl
theorem dX12_dry_14 : decode cX12_dry 14 = .ok (.putfield 39, 3) := zdk_g zdb_359 (i := 8) rfl
theorem dX12_dry_17 : decode cX12_dry 17 = .ok (.aload_n 0, 1) := zdk_g zdb_359 (i := 9) rfl
theorem dX12_dry_18 : decode cX12_dry 18 = .ok (.getfield 39, 3) := zdk_g zdb_359 (i := 10) rfl
theorem dX12_dry_21 : decode cX12_dry 21 = .ok (.ifCond .le 5, 3) := zdk_g zdb_359 (i := 11) rfl
theorem dX12_dry_24 : decode cX12_dry 24 = .ok (.iconst 0, 1) := zdk_g zdb_359 (i := 12) rfl
theorem dX12_dry_25 : decode cX12_dry 25 = .ok (.ireturn, 1) := zdk_g zdb_359 (i := 13) rfl
theorem dX12_dry_26 : decode cX12_dry 26 = .ok (.aload_n 0, 1) := zdk_g zdb_359 (i := 14) rfl
theorem dX12_dry_27 : decode cX12_dry 27 = .ok (.invokevirtual 289, 3) := zdk_g zdb_359 (i := 15) rfl
theorem dX12_dry_30 : decode cX12_dry 30 = .ok (.aload_n 0, 1) := zdk_g zdb_359 (i := 16) rfl
theorem dX12_dry_31 : decode cX12_dry 31 = .ok (.iload_n 1, 1) := zdk_g zdb_359 (i := 17) rfl
theorem dX12_dry_32 : decode cX12_dry 32 = .ok (.iconst 3, 1) := zdk_g zdb_359 (i := 18) rfl
theorem dX12_dry_33 : decode cX12_dry 33 = .ok (.invokevirtual 46, 3) := zdk_g zdb_359 (i := 19) rfl
theorem dX12_dry_36 : decode cX12_dry 36 = .ok (.iconst 1, 1) := zdk_g zdb_359 (i := 20) rfl
theorem dX12_dry_37 : decode cX12_dry 37 = .ok (.if_icmp .ne 7, 3) := zdk_g zdb_359 (i := 21) rfl
theorem dX12_dry_40 : decode cX12_dry 40 = .ok (.iconst 1, 1) := zdk_g zdb_359 (i := 22) rfl
theorem dX12_dry_41 : decode cX12_dry 41 = .ok (.goto 4, 3) := zdk_g zdb_359 (i := 23) rfl
theorem dX12_dry_44 : decode cX12_dry 44 = .ok (.iconst 0, 1) := zdk_g zdb_359 (i := 24) rfl
theorem dX12_dry_45 : decode cX12_dry 45 = .ok (.istore_n 3, 1) := zdk_g zdb_359 (i := 25) rfl
theorem dX12_dry_46 : decode cX12_dry 46 = .ok (.aload_n 0, 1) := zdk_g zdb_359 (i := 26) rfl
theorem dX12_dry_47 : decode cX12_dry 47 = .ok (.iload_n 1, 1) := zdk_g zdb_359 (i := 27) rfl
theorem dX12_dry_48 : decode cX12_dry 48 = .ok (.iconst 3, 1) := zdk_g zdb_359 (i := 28) rfl
theorem dX12_dry_49 : decode cX12_dry 49 = .ok (.iload_n 2, 1) := zdk_g zdb_359 (i := 29) rfl
theorem dX12_dry_50 : decode cX12_dry 50 = .ok (.ifCond .eq 7, 3) := zdk_g zdb_359 (i := 30) rfl
theorem dX12_dry_53 : decode cX12_dry 53 = .ok (.iconst 1, 1) := zdk_g zdb_359 (i := 31) rfl
def zdl_360 : List (Nat × Instr × Nat) := [(54, .goto 4, 3), (57, .iconst 0, 1), (58, .invokevirtual 123, 3), (61, .iload_n 3, 1), (62, .iload_n 2, 1), (63, .if_icmp .eq 7, 3), (66, .iconst 1, 1), (67, .goto 4, 3), (70, .iconst 0, 1), (71, .ireturn, 1)]
theorem zdb_360 : zdk cX12_dry zdl_360 = true := by decide +kernel
theorem dX12_dry_54 : decode cX12_dry 54 = .ok (.goto 4, 3) := zdk_g zdb_360 (i := 0) rfl
theorem dX12_dry_57 : decode cX12_dry 57 = .ok (.iconst 0, 1) := zdk_g zdb_360 (i := 1) rfl
theorem dX12_dry_58 : decode cX12_dry 58 = .ok (.invokevirtual 123, 3) := zdk_g zdb_360 (i := 2) rfl
theorem dX12_dry_61 : decode cX12_dry 61 = .ok (.iload_n 3, 1) := zdk_g zdb_360 (i := 3) rfl
theorem dX12_dry_62 : decode cX12_dry 62 = .ok (.iload_n 2, 1) := zdk_g zdb_360 (i := 4) rfl
theorem dX12_dry_63 : decode cX12_dry 63 = .ok (.if_icmp .eq 7, 3) := zdk_g zdb_360 (i := 5) rfl
theorem dX12_dry_66 : decode cX12_dry 66 = .ok (.iconst 1, 1) := zdk_g zdb_360 (i := 6) rfl
theorem dX12_dry_67 : decode cX12_dry 67 = .ok (.goto 4, 3) := zdk_g zdb_360 (i := 7) rfl
theorem dX12_dry_70 : decode cX12_dry 70 = .ok (.iconst 0, 1) := zdk_g zdb_360 (i := 8) rfl
theorem dX12_dry_71 : decode cX12_dry 71 = .ok (.ireturn, 1) := zdk_g zdb_360 (i := 9) rfl
def zdl_361 : List (Nat × Instr × Nat) := [(0, .aload_n 0, 1), (1, .iload_n 1, 1), (2, .iconst 1, 1), (3, .bipush 60, 2), (5, .invokestatic 42, 3), (8, .ifCond .ne 7, 3), (11, .iconst 1, 1), (12, .goto 4, 3), (15, .iconst 0, 1), (16, .putfield 39, 3), (19, .aload_n 0, 1), (20, .getfield 39, 3), (23, .ifCond .le 5, 3), (26, .iconst 0, 1), (27, .ireturn, 1), (28, .aload_n 0, 1), (29, .invokevirtual 289, 3), (32, .aload_n 0, 1), (33, .iload_n 1, 1), (34, .iconst 1, 1), (35, .invokevirtual 292, 3), (38, .ireturn, 1)]
theorem zdb_361 : zdk cX12_days zdl_361 = true := by decide +kernel
theorem dX12_days_0 : decode cX12_days 0 = .ok (.aload_n 0, 1) := zdk_g zdb_361 (i := 0) rfl
theorem dX12_days_1 : decode cX12_days 1 = .ok (.iload_n 1, 1) := zdk_g zdb_361 (i := 1) rfl
theorem dX12_days_2 : decode cX12_days 2 = .ok (.iconst 1, 1) := zdk_g zdb_361 (i := 2) rfl
theorem dX12_days_3 : decode cX12_days 3 = .ok (.bipush 60, 2) := zdk_g zdb_361 (i := 3) rfl
theorem dX12_days_5 : decode cX12_days 5 = .ok (.invokestatic 42, 3) := zdk_g zdb_361 (i := 4) rfl
theorem dX12_days_8 : decode cX12_days 8 = .ok (.ifCond .ne 7, 3) := zdk_g zdb_361 (i := 5) rfl
theorem dX12_days_11 : decode cX12_days 11 = .ok (.iconst 1, 1) := zdk_g zdb_361 (i := 6) rfl
theorem dX12_days_12 : decode cX12_days 12 = .ok (.goto 4, 3) := zdk_g zdb_361 (i := 7) rfl
theorem dX12_days_15 : decode cX12_days 15 = .ok (.iconst 0, 1) := zdk_g zdb_361 (i := 8) rfl
theorem dX12_days_16 : decode cX12_days 16 = .ok (.putfield 39, 3) := zdk_g zdb_361 (i := 9) rfl
theorem dX12_days_19 : decode cX12_days 19 = .ok (.aload_n 0, 1) := zdk_g zdb_361 (i := 10) rfl
theorem dX12_days_20 : decode cX12_days 20 = .ok (.getfield 39, 3) := zdk_g zdb_361 (i := 11) rfl
theorem dX12_days_23 : decode cX12_days 23 = .ok (.ifCond .le 5, 3) := zdk_g zdb_361 (i := 12) rfl
theorem dX12_days_26 : decode cX12_days 26 = .ok (.iconst 0, 1) := zdk_g zdb_361 (i := 13) rfl
theorem dX12_days_27 : decode cX12_days 27 = .ok (.ireturn, 1) := zdk_g zdb_361 (i := 14) rfl
theorem dX12_days_28 : decode cX12_days 28 = .ok (.aload_n 0, 1) := zdk_g zdb_361 (i := 15) rfl
theorem dX12_days_29 : decode cX12_days 29 = .ok (.invokevirtual 289, 3) := zdk_g zdb_361 (i := 16) rfl
theorem dX12_days_32 : decode cX12_days 32 = .ok (.aload_n 0, 1) := zdk_g zdb_361 (i := 17) rfl
theorem dX12_days_33 : decode cX12_days 33 = .ok (.iload_n 1, 1) := zdk_g zdb_361 (i := 18) rfl
theorem dX12_days_34 : decode cX12_days 34 = .ok (.iconst 1, 1) := zdk_g zdb_361 (i := 19) rfl
theorem dX12_days_35 : decode cX12_days 35 = .ok (.invokevirtual 292, 3) := zdk_g zdb_361 (i := 20) rfl
theorem dX12_days_38 : decode cX12_days 38 = .ok (.ireturn, 1) := zdk_g zdb_361 (i := 21) rfl
def zdl_362 : List (Nat × Instr × Nat) := [(0, .aload_n 0, 1), (1, .aload_n 0, 1), (2, .iload_n 1, 1), (3, .invokevirtual 280, 3), (6, .ifCond .ne 7, 3), (9, .iconst 1, 1), (10, .goto 18, 3), (13, .iload_n 2, 1), (14, .iconst 0, 1), (15, .bipush 100, 2), (17, .invokestatic 42, 3), (20, .ifCond .ne 7, 3), (23, .iconst 2, 1), (24, .goto 4, 3), (27, .iconst 0, 1), (28, .putfield 39, 3), (31, .aload_n 0, 1), (32, .getfield 39, 3), (35, .ifCond .le 5, 3), (38, .iconst 0, 1), (39, .ireturn, 1), (40, .aload_n 0, 1), (41, .invokevirtual 174, 3), (44, .aload_n 0, 1), (45, .iload_n 2, 1), (46, .iconst 0, 1), (47, .invokevirtual 292, 3), (50, .istore_n 3, 1), (51, .aload_n 0, 1), (52, .iload_n 1, 1), (53, .iconst 0, 1), (54, .invokevirtual 46, 3)]
theorem zdb_362 : zdk cX12_ahead zdl_362 = true := by decide +kernel
theorem dX12_ahead_0 : decode cX12_ahead 0 = .ok (.aload_n 0, 1) := zdk_g zdb_362 (i := 0) rfl
theorem dX12_ahead_1 : decode cX12_ahead 1 = .ok (.aload_n 0, 1) := zdk_g zdb_362 (i := 1) rfl
theorem dX12_ahead_2 : decode cX12_ahead 2 = .ok (.iload_n 1, 1) := zdk_g zdb_362 (i := 2) rfl
theorem dX12_ahead_3 : decode cX12_ahead 3 = .ok (.invokevirtual 280, 3) := zdk_g zdb_362 (i := 3) rfl
theorem dX12_ahead_6 : decode cX12_ahead 6 = .ok (.ifCond .ne 7, 3) := zdk_g zdb_362 (i := 4) rfl
theorem dX12_ahead_9 : decode cX12_ahead 9 = .ok (.iconst 1, 1) := zdk_g zdb_362 (i := 5) rfl
theorem dX12_ahead_10 : decode cX12_ahead 10 = .ok (.goto 18, 3) := zdk_g zdb_362 (i := 6) rfl
theorem dX12_ahead_13 : decode cX12_ahead 13 = .ok (.iload_n 2, 1) := zdk_g zdb_362 (i := 7) rfl
theorem dX12_ahead_14 : decode cX12_ahead 14 = .ok (.iconst 0, 1) := zdk_g zdb_362 (i := 8) rfl
theorem dX12_ahead_15 : decode cX12_ahead 15 = .ok (.bipush 100, 2) := zdk_g zdb_362 (i := 9) rfl
theorem dX12_ahead_17 : decode cX12_ahead 17 = .ok (.invokestatic 42, 3) := zdk_g zdb_362 (i := 10) rfl
theorem dX12_ahead_20 : decode cX12_ahead 20 = .ok (.ifCond .ne 7, 3) := zdk_g zdb_362 (i := 11) rfl
theorem dX12_ahead_23 : decode cX12_ahead 23 = .ok (.iconst 2, 1) := zdk_g zdb_362 (i := 12) rfl
theorem dX12_ahead_24 : decode cX12_ahead 24 = .ok (.goto 4, 3) := zdk_g zdb_362 (i := 13) rfl
theorem dX12_ahead_27 : decode cX12_ahead 27 = .ok (.iconst 0, 1) := zdk_g zdb_362 (i := 14) rfl
theorem dX12_ahead_28 : decode cX12_ahead 28 = .ok (.putfield 39, 3) := zdk_g zdb_362 (i := 15) rfl
theorem dX12_ahead_31 : decode cX12_ahead 31 = .ok (.aload_n 0, 1) := zdk_g zdb_362 (i := 16) rfl
theorem dX12_ahead_32 : decode cX12_ahead 32 = .ok (.getfield 39, 3) := zdk_g zdb_362 (i := 17) rfl
theorem dX12_ahead_35 : decode cX12_ahead 35 = .ok (.ifCond .le 5, 3) := zdk_g zdb_362 (i := 18) rfl
theorem dX12_ahead_38 : decode cX12_ahead 38 = .ok (.iconst 0, 1) := zdk_g zdb_362 (i := 19) rfl
theorem dX12_ahead_39 : decode cX12_ahead 39 = .ok (.ireturn, 1) := zdk_g zdb_362 (i := 20) rfl
theorem dX12_ahead_40 : decode cX12_ahead 40 = .ok (.aload_n 0, 1) := zdk_g zdb_362 (i := 21) rfl
theorem dX12_ahead_41 : decode cX12_ahead 41 = .ok (.invokevirtual 174, 3) := zdk_g zdb_362 (i := 22) rfl
theorem dX12_ahead_44 : decode cX12_ahead 44 = .ok (.aload_n 0, 1) := zdk_g zdb_362 (i := 23) rfl
theorem dX12_ahead_45 : decode cX12_ahead 45 = .ok (.iload_n 2, 1) := zdk_g zdb_362 (i := 24) rfl
theorem dX12_ahead_46 : decode cX12_ahead 46 = .ok (.iconst 0, 1) := zdk_g zdb_362 (i := 25) rfl
theorem dX12_ahead_47 : decode cX12_ahead 47 = .ok (.invokevirtual 292, 3) := zdk_g zdb_362 (i := 26) rfl
theorem dX12_ahead_50 : decode cX12_ahead 50 = .ok (.istore_n 3, 1) := zdk_g zdb_362 (i := 27) rfl
theorem dX12_ahead_51 : decode cX12_ahead 51 = .ok (.aload_n 0, 1) := zdk_g zdb_362 (i := 28) rfl
theorem dX12_ahead_52 : decode cX12_ahead 52 = .ok (.iload_n 1, 1) := zdk_g zdb_362 (i := 29) rfl
theorem dX12_ahead_53 : decode cX12_ahead 53 = .ok (.iconst 0, 1) := zdk_g zdb_362 (i := 30) rfl
theorem dX12_ahead_54 : decode cX12_ahead 54 = .ok (.invokevirtual 46, 3) := zdk_g zdb_362 (i := 31) rfl
def zdl_363 : List (Nat × Instr × Nat) := [(57, .istore 4, 2), (59, .aload_n 0, 1), (60, .invokevirtual 184, 3), (63, .iload 4, 2), (65, .ireturn, 1)]
theorem zdb_363 : zdk cX12_ahead zdl_363 = true := by decide +kernel
theorem dX12_ahead_57 : decode cX12_ahead 57 = .ok (.istore 4, 2) := zdk_g zdb_363 (i := 0) rfl
theorem dX12_ahead_59 : decode cX12_ahead 59 = .ok (.aload_n 0, 1) := zdk_g zdb_363 (i := 1) rfl
theorem dX12_ahead_60 : decode cX12_ahead 60 = .ok (.invokevirtual 184, 3) := zdk_g zdb_363 (i := 2) rfl
theorem dX12_ahead_63 : decode cX12_ahead 63 = .ok (.iload 4, 2) := zdk_g zdb_363 (i := 3) rfl
theorem dX12_ahead_65 : decode cX12_ahead 65 = .ok (.ireturn, 1) := zdk_g zdb_363 (i := 4) rfl
def zdl_364 : List (Nat × Instr × Nat) := [(0, .aload_n 0, 1), (1, .invokevirtual 174, 3), (4, .iconst 0, 1), (5, .istore 4, 2), (7, .iload 4, 2), (9, .aload_n 0, 1), (10, .getfield 7, 3), (13, .iconst 3, 1), (14, .iaload, 1), (15, .if_icmp .ge 25, 3), (18, .iload_n 2, 1), (19, .iload 4, 2), (21, .invokestatic 296, 3), (24, .ifCond .eq 10, 3), (27, .aload_n 0, 1), (28, .iload 4, 2), (30, .iload_n 3, 1), (31, .invokevirtual 261, 3), (34, .iinc 4 1, 3), (37, .goto (-30), 3), (40, .aload_n 0, 1), (41, .iload_n 1, 1), (42, .iconst 0, 1), (43, .invokevirtual 292, 3), (46, .istore 4, 2), (48, .aload_n 0, 1), (49, .invokevirtual 62, 3), (52, .istore 5, 2), (54, .aload_n 0, 1), (55, .invokevirtual 184, 3), (58, .iload 5, 2), (60, .ireturn, 1)]
theorem zdb_364 : zdk cX12_believedBy zdl_364 = true := by decide +kernel
theorem dX12_believedBy_0 : decode cX12_believedBy 0 = .ok (.aload_n 0, 1) := zdk_g zdb_364 (i := 0) rfl
theorem dX12_believedBy_1 : decode cX12_believedBy 1 = .ok (.invokevirtual 174, 3) := zdk_g zdb_364 (i := 1) rfl
theorem dX12_believedBy_4 : decode cX12_believedBy 4 = .ok (.iconst 0, 1) := zdk_g zdb_364 (i := 2) rfl
theorem dX12_believedBy_5 : decode cX12_believedBy 5 = .ok (.istore 4, 2) := zdk_g zdb_364 (i := 3) rfl
theorem dX12_believedBy_7 : decode cX12_believedBy 7 = .ok (.iload 4, 2) := zdk_g zdb_364 (i := 4) rfl
theorem dX12_believedBy_9 : decode cX12_believedBy 9 = .ok (.aload_n 0, 1) := zdk_g zdb_364 (i := 5) rfl
theorem dX12_believedBy_10 : decode cX12_believedBy 10 = .ok (.getfield 7, 3) := zdk_g zdb_364 (i := 6) rfl
theorem dX12_believedBy_13 : decode cX12_believedBy 13 = .ok (.iconst 3, 1) := zdk_g zdb_364 (i := 7) rfl
theorem dX12_believedBy_14 : decode cX12_believedBy 14 = .ok (.iaload, 1) := zdk_g zdb_364 (i := 8) rfl
theorem dX12_believedBy_15 : decode cX12_believedBy 15 = .ok (.if_icmp .ge 25, 3) := zdk_g zdb_364 (i := 9) rfl
theorem dX12_believedBy_18 : decode cX12_believedBy 18 = .ok (.iload_n 2, 1) := zdk_g zdb_364 (i := 10) rfl
theorem dX12_believedBy_19 : decode cX12_believedBy 19 = .ok (.iload 4, 2) := zdk_g zdb_364 (i := 11) rfl
theorem dX12_believedBy_21 : decode cX12_believedBy 21 = .ok (.invokestatic 296, 3) := zdk_g zdb_364 (i := 12) rfl
theorem dX12_believedBy_24 : decode cX12_believedBy 24 = .ok (.ifCond .eq 10, 3) := zdk_g zdb_364 (i := 13) rfl
theorem dX12_believedBy_27 : decode cX12_believedBy 27 = .ok (.aload_n 0, 1) := zdk_g zdb_364 (i := 14) rfl
theorem dX12_believedBy_28 : decode cX12_believedBy 28 = .ok (.iload 4, 2) := zdk_g zdb_364 (i := 15) rfl
theorem dX12_believedBy_30 : decode cX12_believedBy 30 = .ok (.iload_n 3, 1) := zdk_g zdb_364 (i := 16) rfl
theorem dX12_believedBy_31 : decode cX12_believedBy 31 = .ok (.invokevirtual 261, 3) := zdk_g zdb_364 (i := 17) rfl
theorem dX12_believedBy_34 : decode cX12_believedBy 34 = .ok (.iinc 4 1, 3) := zdk_g zdb_364 (i := 18) rfl
theorem dX12_believedBy_37 : decode cX12_believedBy 37 = .ok (.goto (-30), 3) := zdk_g zdb_364 (i := 19) rfl
theorem dX12_believedBy_40 : decode cX12_believedBy 40 = .ok (.aload_n 0, 1) := zdk_g zdb_364 (i := 20) rfl
theorem dX12_believedBy_41 : decode cX12_believedBy 41 = .ok (.iload_n 1, 1) := zdk_g zdb_364 (i := 21) rfl
theorem dX12_believedBy_42 : decode cX12_believedBy 42 = .ok (.iconst 0, 1) := zdk_g zdb_364 (i := 22) rfl
theorem dX12_believedBy_43 : decode cX12_believedBy 43 = .ok (.invokevirtual 292, 3) := zdk_g zdb_364 (i := 23) rfl
theorem dX12_believedBy_46 : decode cX12_believedBy 46 = .ok (.istore 4, 2) := zdk_g zdb_364 (i := 24) rfl
theorem dX12_believedBy_48 : decode cX12_believedBy 48 = .ok (.aload_n 0, 1) := zdk_g zdb_364 (i := 25) rfl
theorem dX12_believedBy_49 : decode cX12_believedBy 49 = .ok (.invokevirtual 62, 3) := zdk_g zdb_364 (i := 26) rfl
theorem dX12_believedBy_52 : decode cX12_believedBy 52 = .ok (.istore 5, 2) := zdk_g zdb_364 (i := 27) rfl
theorem dX12_believedBy_54 : decode cX12_believedBy 54 = .ok (.aload_n 0, 1) := zdk_g zdb_364 (i := 28) rfl
theorem dX12_believedBy_55 : decode cX12_believedBy 55 = .ok (.invokevirtual 184, 3) := zdk_g zdb_364 (i := 29) rfl
theorem dX12_believedBy_58 : decode cX12_believedBy 58 = .ok (.iload 5, 2) := zdk_g zdb_364 (i := 30) rfl
theorem dX12_believedBy_60 : decode cX12_believedBy 60 = .ok (.ireturn, 1) := zdk_g zdb_364 (i := 31) rfl
def zdl_365 : List (Nat × Instr × Nat) := [(0, .aload_n 0, 1), (1, .iload_n 1, 1), (2, .iconst 0, 1), (3, .bipush 100, 2), (5, .invokestatic 42, 3), (8, .ifCond .ne 7, 3), (11, .iconst 1, 1), (12, .goto 4, 3), (15, .iconst 0, 1), (16, .putfield 39, 3), (19, .aload_n 0, 1), (20, .getfield 39, 3), (23, .ifCond .le 5, 3), (26, .iconst 0, 1), (27, .ireturn, 1), (28, .aload_n 0, 1), (29, .invokevirtual 174, 3), (32, .aload_n 0, 1), (33, .iload_n 1, 1), (34, .iconst 0, 1), (35, .invokevirtual 292, 3), (38, .istore_n 3, 1), (39, .iload_n 2, 1), (40, .ifCond .eq 12, 3), (43, .aload_n 0, 1), (44, .getfield 7, 3), (47, .iconst 5, 1), (48, .iaload, 1), (49, .goto 7, 3), (52, .aload_n 0, 1), (53, .invokevirtual 62, 3), (56, .istore 4, 2)]
theorem zdb_365 : zdk cX12_then zdl_365 = true := by decide +kernel
theorem dX12_then_0 : decode cX12_then 0 = .ok (.aload_n 0, 1) := zdk_g zdb_365 (i := 0) rfl
theorem dX12_then_1 : decode cX12_then 1 = .ok (.iload_n 1, 1) := zdk_g zdb_365 (i := 1) rfl
theorem dX12_then_2 : decode cX12_then 2 = .ok (.iconst 0, 1) := zdk_g zdb_365 (i := 2) rfl
theorem dX12_then_3 : decode cX12_then 3 = .ok (.bipush 100, 2) := zdk_g zdb_365 (i := 3) rfl
theorem dX12_then_5 : decode cX12_then 5 = .ok (.invokestatic 42, 3) := zdk_g zdb_365 (i := 4) rfl
theorem dX12_then_8 : decode cX12_then 8 = .ok (.ifCond .ne 7, 3) := zdk_g zdb_365 (i := 5) rfl
theorem dX12_then_11 : decode cX12_then 11 = .ok (.iconst 1, 1) := zdk_g zdb_365 (i := 6) rfl
theorem dX12_then_12 : decode cX12_then 12 = .ok (.goto 4, 3) := zdk_g zdb_365 (i := 7) rfl
theorem dX12_then_15 : decode cX12_then 15 = .ok (.iconst 0, 1) := zdk_g zdb_365 (i := 8) rfl
theorem dX12_then_16 : decode cX12_then 16 = .ok (.putfield 39, 3) := zdk_g zdb_365 (i := 9) rfl
theorem dX12_then_19 : decode cX12_then 19 = .ok (.aload_n 0, 1) := zdk_g zdb_365 (i := 10) rfl
theorem dX12_then_20 : decode cX12_then 20 = .ok (.getfield 39, 3) := zdk_g zdb_365 (i := 11) rfl
theorem dX12_then_23 : decode cX12_then 23 = .ok (.ifCond .le 5, 3) := zdk_g zdb_365 (i := 12) rfl
theorem dX12_then_26 : decode cX12_then 26 = .ok (.iconst 0, 1) := zdk_g zdb_365 (i := 13) rfl
theorem dX12_then_27 : decode cX12_then 27 = .ok (.ireturn, 1) := zdk_g zdb_365 (i := 14) rfl
theorem dX12_then_28 : decode cX12_then 28 = .ok (.aload_n 0, 1) := zdk_g zdb_365 (i := 15) rfl
theorem dX12_then_29 : decode cX12_then 29 = .ok (.invokevirtual 174, 3) := zdk_g zdb_365 (i := 16) rfl
theorem dX12_then_32 : decode cX12_then 32 = .ok (.aload_n 0, 1) := zdk_g zdb_365 (i := 17) rfl
theorem dX12_then_33 : decode cX12_then 33 = .ok (.iload_n 1, 1) := zdk_g zdb_365 (i := 18) rfl
theorem dX12_then_34 : decode cX12_then 34 = .ok (.iconst 0, 1) := zdk_g zdb_365 (i := 19) rfl
theorem dX12_then_35 : decode cX12_then 35 = .ok (.invokevirtual 292, 3) := zdk_g zdb_365 (i := 20) rfl
theorem dX12_then_38 : decode cX12_then 38 = .ok (.istore_n 3, 1) := zdk_g zdb_365 (i := 21) rfl
theorem dX12_then_39 : decode cX12_then 39 = .ok (.iload_n 2, 1) := zdk_g zdb_365 (i := 22) rfl
theorem dX12_then_40 : decode cX12_then 40 = .ok (.ifCond .eq 12, 3) := zdk_g zdb_365 (i := 23) rfl
theorem dX12_then_43 : decode cX12_then 43 = .ok (.aload_n 0, 1) := zdk_g zdb_365 (i := 24) rfl
theorem dX12_then_44 : decode cX12_then 44 = .ok (.getfield 7, 3) := zdk_g zdb_365 (i := 25) rfl
theorem dX12_then_47 : decode cX12_then 47 = .ok (.iconst 5, 1) := zdk_g zdb_365 (i := 26) rfl
theorem dX12_then_48 : decode cX12_then 48 = .ok (.iaload, 1) := zdk_g zdb_365 (i := 27) rfl
theorem dX12_then_49 : decode cX12_then 49 = .ok (.goto 7, 3) := zdk_g zdb_365 (i := 28) rfl
theorem dX12_then_52 : decode cX12_then 52 = .ok (.aload_n 0, 1) := zdk_g zdb_365 (i := 29) rfl
theorem dX12_then_53 : decode cX12_then 53 = .ok (.invokevirtual 62, 3) := zdk_g zdb_365 (i := 30) rfl
theorem dX12_then_56 : decode cX12_then 56 = .ok (.istore 4, 2) := zdk_g zdb_365 (i := 31) rfl
def zdl_366 : List (Nat × Instr × Nat) := [(58, .aload_n 0, 1), (59, .invokevirtual 184, 3), (62, .iload 4, 2), (64, .ireturn, 1)]
theorem zdb_366 : zdk cX12_then zdl_366 = true := by decide +kernel
theorem dX12_then_58 : decode cX12_then 58 = .ok (.aload_n 0, 1) := zdk_g zdb_366 (i := 0) rfl
theorem dX12_then_59 : decode cX12_then 59 = .ok (.invokevirtual 184, 3) := zdk_g zdb_366 (i := 1) rfl
theorem dX12_then_62 : decode cX12_then 62 = .ok (.iload 4, 2) := zdk_g zdb_366 (i := 2) rfl
theorem dX12_then_64 : decode cX12_then 64 = .ok (.ireturn, 1) := zdk_g zdb_366 (i := 3) rfl
def zdl_367 : List (Nat × Instr × Nat) := [(0, .aload_n 0, 1), (1, .aload_n 0, 1), (2, .iload_n 1, 1), (3, .invokevirtual 280, 3), (6, .ifCond .ne 7, 3), (9, .iconst 1, 1), (10, .goto 18, 3), (13, .iload_n 2, 1), (14, .iconst 0, 1), (15, .bipush 30, 2), (17, .invokestatic 42, 3), (20, .ifCond .ne 7, 3), (23, .iconst 2, 1), (24, .goto 4, 3), (27, .iconst 0, 1), (28, .putfield 39, 3), (31, .aload_n 0, 1), (32, .getfield 39, 3), (35, .ifCond .le 7, 3), (38, .iconst 0, 1), (39, .goto 21, 3), (42, .aload_n 0, 1), (43, .iload_n 2, 1), (44, .iconst 1, 1), (45, .iload_n 1, 1), (46, .ishl, 1), (47, .bipush 10, 2), (49, .invokevirtual 300, 3), (52, .aload_n 0, 1), (53, .iload_n 2, 1), (54, .iconst 0, 1), (55, .iconst 0, 1)]
theorem zdb_367 : zdk cX12_sways zdl_367 = true := by decide +kernel
theorem dX12_sways_0 : decode cX12_sways 0 = .ok (.aload_n 0, 1) := zdk_g zdb_367 (i := 0) rfl
theorem dX12_sways_1 : decode cX12_sways 1 = .ok (.aload_n 0, 1) := zdk_g zdb_367 (i := 1) rfl
theorem dX12_sways_2 : decode cX12_sways 2 = .ok (.iload_n 1, 1) := zdk_g zdb_367 (i := 2) rfl
theorem dX12_sways_3 : decode cX12_sways 3 = .ok (.invokevirtual 280, 3) := zdk_g zdb_367 (i := 3) rfl
theorem dX12_sways_6 : decode cX12_sways 6 = .ok (.ifCond .ne 7, 3) := zdk_g zdb_367 (i := 4) rfl
theorem dX12_sways_9 : decode cX12_sways 9 = .ok (.iconst 1, 1) := zdk_g zdb_367 (i := 5) rfl
theorem dX12_sways_10 : decode cX12_sways 10 = .ok (.goto 18, 3) := zdk_g zdb_367 (i := 6) rfl
theorem dX12_sways_13 : decode cX12_sways 13 = .ok (.iload_n 2, 1) := zdk_g zdb_367 (i := 7) rfl
theorem dX12_sways_14 : decode cX12_sways 14 = .ok (.iconst 0, 1) := zdk_g zdb_367 (i := 8) rfl
theorem dX12_sways_15 : decode cX12_sways 15 = .ok (.bipush 30, 2) := zdk_g zdb_367 (i := 9) rfl
theorem dX12_sways_17 : decode cX12_sways 17 = .ok (.invokestatic 42, 3) := zdk_g zdb_367 (i := 10) rfl
theorem dX12_sways_20 : decode cX12_sways 20 = .ok (.ifCond .ne 7, 3) := zdk_g zdb_367 (i := 11) rfl
theorem dX12_sways_23 : decode cX12_sways 23 = .ok (.iconst 2, 1) := zdk_g zdb_367 (i := 12) rfl
theorem dX12_sways_24 : decode cX12_sways 24 = .ok (.goto 4, 3) := zdk_g zdb_367 (i := 13) rfl
theorem dX12_sways_27 : decode cX12_sways 27 = .ok (.iconst 0, 1) := zdk_g zdb_367 (i := 14) rfl
theorem dX12_sways_28 : decode cX12_sways 28 = .ok (.putfield 39, 3) := zdk_g zdb_367 (i := 15) rfl
theorem dX12_sways_31 : decode cX12_sways 31 = .ok (.aload_n 0, 1) := zdk_g zdb_367 (i := 16) rfl
theorem dX12_sways_32 : decode cX12_sways 32 = .ok (.getfield 39, 3) := zdk_g zdb_367 (i := 17) rfl
theorem dX12_sways_35 : decode cX12_sways 35 = .ok (.ifCond .le 7, 3) := zdk_g zdb_367 (i := 18) rfl
theorem dX12_sways_38 : decode cX12_sways 38 = .ok (.iconst 0, 1) := zdk_g zdb_367 (i := 19) rfl
theorem dX12_sways_39 : decode cX12_sways 39 = .ok (.goto 21, 3) := zdk_g zdb_367 (i := 20) rfl
theorem dX12_sways_42 : decode cX12_sways 42 = .ok (.aload_n 0, 1) := zdk_g zdb_367 (i := 21) rfl
theorem dX12_sways_43 : decode cX12_sways 43 = .ok (.iload_n 2, 1) := zdk_g zdb_367 (i := 22) rfl
theorem dX12_sways_44 : decode cX12_sways 44 = .ok (.iconst 1, 1) := zdk_g zdb_367 (i := 23) rfl
theorem dX12_sways_45 : decode cX12_sways 45 = .ok (.iload_n 1, 1) := zdk_g zdb_367 (i := 24) rfl
theorem dX12_sways_46 : decode cX12_sways 46 = .ok (.ishl, 1) := zdk_g zdb_367 (i := 25) rfl
theorem dX12_sways_47 : decode cX12_sways 47 = .ok (.bipush 10, 2) := zdk_g zdb_367 (i := 26) rfl
theorem dX12_sways_49 : decode cX12_sways 49 = .ok (.invokevirtual 300, 3) := zdk_g zdb_367 (i := 27) rfl
theorem dX12_sways_52 : decode cX12_sways 52 = .ok (.aload_n 0, 1) := zdk_g zdb_367 (i := 28) rfl
theorem dX12_sways_53 : decode cX12_sways 53 = .ok (.iload_n 2, 1) := zdk_g zdb_367 (i := 29) rfl
theorem dX12_sways_54 : decode cX12_sways 54 = .ok (.iconst 0, 1) := zdk_g zdb_367 (i := 30) rfl
theorem dX12_sways_55 : decode cX12_sways 55 = .ok (.iconst 0, 1) := zdk_g zdb_367 (i := 31) rfl
def zdl_368 : List (Nat × Instr × Nat) := [(56, .invokevirtual 300, 3), (59, .isub, 1), (60, .ireturn, 1)]
theorem zdb_368 : zdk cX12_sways zdl_368 = true := by decide +kernel
theorem dX12_sways_56 : decode cX12_sways 56 = .ok (.invokevirtual 300, 3) := zdk_g zdb_368 (i := 0) rfl
theorem dX12_sways_59 : decode cX12_sways 59 = .ok (.isub, 1) := zdk_g zdb_368 (i := 1) rfl
theorem dX12_sways_60 : decode cX12_sways 60 = .ok (.ireturn, 1) := zdk_g zdb_368 (i := 2) rfl
