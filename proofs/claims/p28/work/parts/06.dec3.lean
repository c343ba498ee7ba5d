theorem zdc_512 : decode cX12_believed 5 = .ok (.aload_n 0, 1) ∧ decode cX12_believed 6 = .ok (.getfield 7, 3) ∧ decode cX12_believed 9 = .ok (.iconst 3, 1) ∧ decode cX12_believed 10 = .ok (.iaload, 1) ∧ decode cX12_believed 11 = .ok (.if_icmp .ge 30, 3) ∧ decode cX12_believed 14 = .ok (.iload_n 1, 1) ∧ decode cX12_believed 15 = .ok (.aload_n 0, 1) ∧ decode cX12_believed 16 = .ok (.iload_n 2, 1) ∧ decode cX12_believed 17 = .ok (.invokevirtual 50, 3) ∧ decode cX12_believed 20 = .ok (.ifCond .eq 12, 3) := by decide +kernel
theorem dX12_believed_5 : decode cX12_believed 5 = .ok (.aload_n 0, 1) := zdc_512.1
theorem dX12_believed_6 : decode cX12_believed 6 = .ok (.getfield 7, 3) := zdc_512.2.1
theorem dX12_believed_9 : decode cX12_believed 9 = .ok (.iconst 3, 1) := zdc_512.2.2.1
theorem dX12_believed_10 : decode cX12_believed 10 = .ok (.iaload, 1) := zdc_512.2.2.2.1
theorem dX12_believed_11 : decode cX12_believed 11 = .ok (.if_icmp .ge 30, 3) := zdc_512.2.2.2.2.1
theorem dX12_believed_14 : decode cX12_believed 14 = .ok (.iload_n 1, 1) := zdc_512.2.2.2.2.2.1
theorem dX12_believed_15 : decode cX12_believed 15 = .ok (.aload_n 0, 1) := zdc_512.2.2.2.2.2.2.1
theorem dX12_believed_16 : decode cX12_believed 16 = .ok (.iload_n 2, 1) := zdc_512.2.2.2.2.2.2.2.1
theorem dX12_believed_17 : decode cX12_believed 17 = .ok (.invokevirtual 50, 3) := zdc_512.2.2.2.2.2.2.2.2.1
theorem dX12_believed_20 : decode cX12_believed 20 = .ok (.ifCond .eq 12, 3) := zdc_512.2.2.2.2.2.2.2.2.2
theorem zdc_513 : decode cX12_believed 23 = .ok (.aload_n 0, 1) ∧ decode cX12_believed 24 = .ok (.iload_n 2, 1) ∧ decode cX12_believed 25 = .ok (.iconst 0, 1) ∧ decode cX12_believed 26 = .ok (.invokevirtual 46, 3) ∧ decode cX12_believed 29 = .ok (.goto 4, 3) ∧ decode cX12_believed 32 = .ok (.iconst 0, 1) ∧ decode cX12_believed 33 = .ok (.iadd, 1) ∧ decode cX12_believed 34 = .ok (.istore_n 1, 1) ∧ decode cX12_believed 35 = .ok (.iinc 2 1, 3) ∧ decode cX12_believed 38 = .ok (.goto (-34), 3) := by decide +kernel
theorem dX12_believed_23 : decode cX12_believed 23 = .ok (.aload_n 0, 1) := zdc_513.1
theorem dX12_believed_24 : decode cX12_believed 24 = .ok (.iload_n 2, 1) := zdc_513.2.1
theorem dX12_believed_25 : decode cX12_believed 25 = .ok (.iconst 0, 1) := zdc_513.2.2.1
theorem dX12_believed_26 : decode cX12_believed 26 = .ok (.invokevirtual 46, 3) := zdc_513.2.2.2.1
theorem dX12_believed_29 : decode cX12_believed 29 = .ok (.goto 4, 3) := zdc_513.2.2.2.2.1
theorem dX12_believed_32 : decode cX12_believed 32 = .ok (.iconst 0, 1) := zdc_513.2.2.2.2.2.1
theorem dX12_believed_33 : decode cX12_believed 33 = .ok (.iadd, 1) := zdc_513.2.2.2.2.2.2.1
theorem dX12_believed_34 : decode cX12_believed 34 = .ok (.istore_n 1, 1) := zdc_513.2.2.2.2.2.2.2.1
theorem dX12_believed_35 : decode cX12_believed 35 = .ok (.iinc 2 1, 3) := zdc_513.2.2.2.2.2.2.2.2.1
theorem dX12_believed_38 : decode cX12_believed 38 = .ok (.goto (-34), 3) := zdc_513.2.2.2.2.2.2.2.2.2
theorem zdc_514 : decode cX12_believed 41 = .ok (.iload_n 1, 1) ∧ decode cX12_believed 42 = .ok (.ireturn, 1) ∧ decode cX12_mean 0 = .ok (.aload_n 0, 1) ∧ decode cX12_mean 1 = .ok (.invokevirtual 54, 3) ∧ decode cX12_mean 4 = .ok (.invokestatic 58, 3) ∧ decode cX12_mean 7 = .ok (.istore_n 1, 1) ∧ decode cX12_mean 8 = .ok (.iload_n 1, 1) ∧ decode cX12_mean 9 = .ok (.ifCond .ne 7, 3) ∧ decode cX12_mean 12 = .ok (.iconst 0, 1) ∧ decode cX12_mean 13 = .ok (.goto 9, 3) := by decide +kernel
theorem dX12_believed_41 : decode cX12_believed 41 = .ok (.iload_n 1, 1) := zdc_514.1
theorem dX12_believed_42 : decode cX12_believed 42 = .ok (.ireturn, 1) := zdc_514.2.1
theorem dX12_mean_0 : decode cX12_mean 0 = .ok (.aload_n 0, 1) := zdc_514.2.2.1
theorem dX12_mean_1 : decode cX12_mean 1 = .ok (.invokevirtual 54, 3) := zdc_514.2.2.2.1
theorem dX12_mean_4 : decode cX12_mean 4 = .ok (.invokestatic 58, 3) := zdc_514.2.2.2.2.1
theorem dX12_mean_7 : decode cX12_mean 7 = .ok (.istore_n 1, 1) := zdc_514.2.2.2.2.2.1
theorem dX12_mean_8 : decode cX12_mean 8 = .ok (.iload_n 1, 1) := zdc_514.2.2.2.2.2.2.1
theorem dX12_mean_9 : decode cX12_mean 9 = .ok (.ifCond .ne 7, 3) := zdc_514.2.2.2.2.2.2.2.1
theorem dX12_mean_12 : decode cX12_mean 12 = .ok (.iconst 0, 1) := zdc_514.2.2.2.2.2.2.2.2.1
theorem dX12_mean_13 : decode cX12_mean 13 = .ok (.goto 9, 3) := zdc_514.2.2.2.2.2.2.2.2.2
theorem zdc_515 : decode cX12_mean 16 = .ok (.aload_n 0, 1) ∧ decode cX12_mean 17 = .ok (.invokevirtual 62, 3) ∧ decode cX12_mean 20 = .ok (.iload_n 1, 1) ∧ decode cX12_mean 21 = .ok (.idiv, 1) ∧ decode cX12_mean 22 = .ok (.ireturn, 1) ∧ decode cX12_priceNow 0 = .ok (.aload_n 0, 1) ∧ decode cX12_priceNow 1 = .ok (.invokevirtual 65, 3) ∧ decode cX12_priceNow 4 = .ok (.aload_n 0, 1) ∧ decode cX12_priceNow 5 = .ok (.invokevirtual 65, 3) ∧ decode cX12_priceNow 8 = .ok (.imul, 1) := by decide +kernel
theorem dX12_mean_16 : decode cX12_mean 16 = .ok (.aload_n 0, 1) := zdc_515.1
theorem dX12_mean_17 : decode cX12_mean 17 = .ok (.invokevirtual 62, 3) := zdc_515.2.1
theorem dX12_mean_20 : decode cX12_mean 20 = .ok (.iload_n 1, 1) := zdc_515.2.2.1
theorem dX12_mean_21 : decode cX12_mean 21 = .ok (.idiv, 1) := zdc_515.2.2.2.1
theorem dX12_mean_22 : decode cX12_mean 22 = .ok (.ireturn, 1) := zdc_515.2.2.2.2.1
theorem dX12_priceNow_0 : decode cX12_priceNow 0 = .ok (.aload_n 0, 1) := zdc_515.2.2.2.2.2.1
theorem dX12_priceNow_1 : decode cX12_priceNow 1 = .ok (.invokevirtual 65, 3) := zdc_515.2.2.2.2.2.2.1
theorem dX12_priceNow_4 : decode cX12_priceNow 4 = .ok (.aload_n 0, 1) := zdc_515.2.2.2.2.2.2.2.1
theorem dX12_priceNow_5 : decode cX12_priceNow 5 = .ok (.invokevirtual 65, 3) := zdc_515.2.2.2.2.2.2.2.2.1
theorem dX12_priceNow_8 : decode cX12_priceNow 8 = .ok (.imul, 1) := zdc_515.2.2.2.2.2.2.2.2.2
theorem zdc_516 : decode cX12_priceNow 9 = .ok (.bipush 50, 2) ∧ decode cX12_priceNow 11 = .ok (.idiv, 1) ∧ decode cX12_priceNow 12 = .ok (.iconst 1, 1) ∧ decode cX12_priceNow 13 = .ok (.iadd, 1) ∧ decode cX12_priceNow 14 = .ok (.ireturn, 1) ∧ decode cX12_worksOf 0 = .ok (.iconst 0, 1) ∧ decode cX12_worksOf 1 = .ok (.istore_n 2, 1) ∧ decode cX12_worksOf 2 = .ok (.iconst 0, 1) ∧ decode cX12_worksOf 3 = .ok (.istore_n 3, 1) ∧ decode cX12_worksOf 4 = .ok (.iload_n 3, 1) := by decide +kernel
theorem dX12_priceNow_9 : decode cX12_priceNow 9 = .ok (.bipush 50, 2) := zdc_516.1
theorem dX12_priceNow_11 : decode cX12_priceNow 11 = .ok (.idiv, 1) := zdc_516.2.1
theorem dX12_priceNow_12 : decode cX12_priceNow 12 = .ok (.iconst 1, 1) := zdc_516.2.2.1
theorem dX12_priceNow_13 : decode cX12_priceNow 13 = .ok (.iadd, 1) := zdc_516.2.2.2.1
theorem dX12_priceNow_14 : decode cX12_priceNow 14 = .ok (.ireturn, 1) := zdc_516.2.2.2.2.1
theorem dX12_worksOf_0 : decode cX12_worksOf 0 = .ok (.iconst 0, 1) := zdc_516.2.2.2.2.2.1
theorem dX12_worksOf_1 : decode cX12_worksOf 1 = .ok (.istore_n 2, 1) := zdc_516.2.2.2.2.2.2.1
theorem dX12_worksOf_2 : decode cX12_worksOf 2 = .ok (.iconst 0, 1) := zdc_516.2.2.2.2.2.2.2.1
theorem dX12_worksOf_3 : decode cX12_worksOf 3 = .ok (.istore_n 3, 1) := zdc_516.2.2.2.2.2.2.2.2.1
theorem dX12_worksOf_4 : decode cX12_worksOf 4 = .ok (.iload_n 3, 1) := zdc_516.2.2.2.2.2.2.2.2.2
theorem zdc_517 : decode cX12_worksOf 5 = .ok (.aload_n 0, 1) ∧ decode cX12_worksOf 6 = .ok (.getfield 7, 3) ∧ decode cX12_worksOf 9 = .ok (.iconst 4, 1) ∧ decode cX12_worksOf 10 = .ok (.iaload, 1) ∧ decode cX12_worksOf 11 = .ok (.if_icmp .ge 29, 3) ∧ decode cX12_worksOf 14 = .ok (.iload_n 2, 1) ∧ decode cX12_worksOf 15 = .ok (.aload_n 0, 1) ∧ decode cX12_worksOf 16 = .ok (.iload_n 3, 1) ∧ decode cX12_worksOf 17 = .ok (.iconst 3, 1) ∧ decode cX12_worksOf 18 = .ok (.invokevirtual 68, 3) := by decide +kernel
theorem dX12_worksOf_5 : decode cX12_worksOf 5 = .ok (.aload_n 0, 1) := zdc_517.1
theorem dX12_worksOf_6 : decode cX12_worksOf 6 = .ok (.getfield 7, 3) := zdc_517.2.1
theorem dX12_worksOf_9 : decode cX12_worksOf 9 = .ok (.iconst 4, 1) := zdc_517.2.2.1
theorem dX12_worksOf_10 : decode cX12_worksOf 10 = .ok (.iaload, 1) := zdc_517.2.2.2.1
theorem dX12_worksOf_11 : decode cX12_worksOf 11 = .ok (.if_icmp .ge 29, 3) := zdc_517.2.2.2.2.1
theorem dX12_worksOf_14 : decode cX12_worksOf 14 = .ok (.iload_n 2, 1) := zdc_517.2.2.2.2.2.1
theorem dX12_worksOf_15 : decode cX12_worksOf 15 = .ok (.aload_n 0, 1) := zdc_517.2.2.2.2.2.2.1
theorem dX12_worksOf_16 : decode cX12_worksOf 16 = .ok (.iload_n 3, 1) := zdc_517.2.2.2.2.2.2.2.1
theorem dX12_worksOf_17 : decode cX12_worksOf 17 = .ok (.iconst 3, 1) := zdc_517.2.2.2.2.2.2.2.2.1
theorem dX12_worksOf_18 : decode cX12_worksOf 18 = .ok (.invokevirtual 68, 3) := zdc_517.2.2.2.2.2.2.2.2.2
theorem zdc_518 : decode cX12_worksOf 21 = .ok (.iload_n 1, 1) ∧ decode cX12_worksOf 22 = .ok (.if_icmp .ne 9, 3) ∧ decode cX12_worksOf 25 = .ok (.iconst 1, 1) ∧ decode cX12_worksOf 26 = .ok (.iload_n 3, 1) ∧ decode cX12_worksOf 27 = .ok (.ishl, 1) ∧ decode cX12_worksOf 28 = .ok (.goto 4, 3) ∧ decode cX12_worksOf 31 = .ok (.iconst 0, 1) ∧ decode cX12_worksOf 32 = .ok (.ior, 1) ∧ decode cX12_worksOf 33 = .ok (.istore_n 2, 1) ∧ decode cX12_worksOf 34 = .ok (.iinc 3 1, 3) := by decide +kernel
theorem dX12_worksOf_21 : decode cX12_worksOf 21 = .ok (.iload_n 1, 1) := zdc_518.1
theorem dX12_worksOf_22 : decode cX12_worksOf 22 = .ok (.if_icmp .ne 9, 3) := zdc_518.2.1
theorem dX12_worksOf_25 : decode cX12_worksOf 25 = .ok (.iconst 1, 1) := zdc_518.2.2.1
theorem dX12_worksOf_26 : decode cX12_worksOf 26 = .ok (.iload_n 3, 1) := zdc_518.2.2.2.1
theorem dX12_worksOf_27 : decode cX12_worksOf 27 = .ok (.ishl, 1) := zdc_518.2.2.2.2.1
theorem dX12_worksOf_28 : decode cX12_worksOf 28 = .ok (.goto 4, 3) := zdc_518.2.2.2.2.2.1
theorem dX12_worksOf_31 : decode cX12_worksOf 31 = .ok (.iconst 0, 1) := zdc_518.2.2.2.2.2.2.1
theorem dX12_worksOf_32 : decode cX12_worksOf 32 = .ok (.ior, 1) := zdc_518.2.2.2.2.2.2.2.1
theorem dX12_worksOf_33 : decode cX12_worksOf 33 = .ok (.istore_n 2, 1) := zdc_518.2.2.2.2.2.2.2.2.1
theorem dX12_worksOf_34 : decode cX12_worksOf 34 = .ok (.iinc 3 1, 3) := zdc_518.2.2.2.2.2.2.2.2.2
theorem zdc_519 : decode cX12_worksOf 37 = .ok (.goto (-33), 3) ∧ decode cX12_worksOf 40 = .ok (.iload_n 2, 1) ∧ decode cX12_worksOf 41 = .ok (.ireturn, 1) ∧ decode cX12_ties 0 = .ok (.iconst 0, 1) ∧ decode cX12_ties 1 = .ok (.istore_n 2, 1) ∧ decode cX12_ties 2 = .ok (.iconst 0, 1) ∧ decode cX12_ties 3 = .ok (.istore_n 3, 1) ∧ decode cX12_ties 4 = .ok (.iload_n 3, 1) ∧ decode cX12_ties 5 = .ok (.aload_n 0, 1) ∧ decode cX12_ties 6 = .ok (.getfield 7, 3) := by decide +kernel
theorem dX12_worksOf_37 : decode cX12_worksOf 37 = .ok (.goto (-33), 3) := zdc_519.1
theorem dX12_worksOf_40 : decode cX12_worksOf 40 = .ok (.iload_n 2, 1) := zdc_519.2.1
theorem dX12_worksOf_41 : decode cX12_worksOf 41 = .ok (.ireturn, 1) := zdc_519.2.2.1
theorem dX12_ties_0 : decode cX12_ties 0 = .ok (.iconst 0, 1) := zdc_519.2.2.2.1
theorem dX12_ties_1 : decode cX12_ties 1 = .ok (.istore_n 2, 1) := zdc_519.2.2.2.2.1
theorem dX12_ties_2 : decode cX12_ties 2 = .ok (.iconst 0, 1) := zdc_519.2.2.2.2.2.1
theorem dX12_ties_3 : decode cX12_ties 3 = .ok (.istore_n 3, 1) := zdc_519.2.2.2.2.2.2.1
theorem dX12_ties_4 : decode cX12_ties 4 = .ok (.iload_n 3, 1) := zdc_519.2.2.2.2.2.2.2.1
theorem dX12_ties_5 : decode cX12_ties 5 = .ok (.aload_n 0, 1) := zdc_519.2.2.2.2.2.2.2.2.1
theorem dX12_ties_6 : decode cX12_ties 6 = .ok (.getfield 7, 3) := zdc_519.2.2.2.2.2.2.2.2.2
theorem zdc_520 : decode cX12_ties 9 = .ok (.iconst 3, 1) ∧ decode cX12_ties 10 = .ok (.iaload, 1) ∧ decode cX12_ties 11 = .ok (.if_icmp .ge 31, 3) ∧ decode cX12_ties 14 = .ok (.iload_n 2, 1) ∧ decode cX12_ties 15 = .ok (.iload_n 3, 1) ∧ decode cX12_ties 16 = .ok (.iload_n 1, 1) ∧ decode cX12_ties 17 = .ok (.if_icmp .eq 16, 3) ∧ decode cX12_ties 20 = .ok (.aload_n 0, 1) ∧ decode cX12_ties 21 = .ok (.iload_n 1, 1) ∧ decode cX12_ties 22 = .ok (.iload_n 3, 1) := by decide +kernel
theorem dX12_ties_9 : decode cX12_ties 9 = .ok (.iconst 3, 1) := zdc_520.1
theorem dX12_ties_10 : decode cX12_ties 10 = .ok (.iaload, 1) := zdc_520.2.1
theorem dX12_ties_11 : decode cX12_ties 11 = .ok (.if_icmp .ge 31, 3) := zdc_520.2.2.1
theorem dX12_ties_14 : decode cX12_ties 14 = .ok (.iload_n 2, 1) := zdc_520.2.2.2.1
theorem dX12_ties_15 : decode cX12_ties 15 = .ok (.iload_n 3, 1) := zdc_520.2.2.2.2.1
theorem dX12_ties_16 : decode cX12_ties 16 = .ok (.iload_n 1, 1) := zdc_520.2.2.2.2.2.1
theorem dX12_ties_17 : decode cX12_ties 17 = .ok (.if_icmp .eq 16, 3) := zdc_520.2.2.2.2.2.2.1
theorem dX12_ties_20 : decode cX12_ties 20 = .ok (.aload_n 0, 1) := zdc_520.2.2.2.2.2.2.2.1
theorem dX12_ties_21 : decode cX12_ties 21 = .ok (.iload_n 1, 1) := zdc_520.2.2.2.2.2.2.2.2.1
theorem dX12_ties_22 : decode cX12_ties 22 = .ok (.iload_n 3, 1) := zdc_520.2.2.2.2.2.2.2.2.2
theorem zdc_521 : decode cX12_ties 23 = .ok (.invokevirtual 71, 3) ∧ decode cX12_ties 26 = .ok (.ifCond .le 7, 3) ∧ decode cX12_ties 29 = .ok (.iconst 1, 1) ∧ decode cX12_ties 30 = .ok (.goto 4, 3) ∧ decode cX12_ties 33 = .ok (.iconst 0, 1) ∧ decode cX12_ties 34 = .ok (.iadd, 1) ∧ decode cX12_ties 35 = .ok (.istore_n 2, 1) ∧ decode cX12_ties 36 = .ok (.iinc 3 1, 3) ∧ decode cX12_ties 39 = .ok (.goto (-35), 3) ∧ decode cX12_ties 42 = .ok (.iload_n 2, 1) := by decide +kernel
theorem dX12_ties_23 : decode cX12_ties 23 = .ok (.invokevirtual 71, 3) := zdc_521.1
theorem dX12_ties_26 : decode cX12_ties 26 = .ok (.ifCond .le 7, 3) := zdc_521.2.1
theorem dX12_ties_29 : decode cX12_ties 29 = .ok (.iconst 1, 1) := zdc_521.2.2.1
theorem dX12_ties_30 : decode cX12_ties 30 = .ok (.goto 4, 3) := zdc_521.2.2.2.1
theorem dX12_ties_33 : decode cX12_ties 33 = .ok (.iconst 0, 1) := zdc_521.2.2.2.2.1
theorem dX12_ties_34 : decode cX12_ties 34 = .ok (.iadd, 1) := zdc_521.2.2.2.2.2.1
theorem dX12_ties_35 : decode cX12_ties 35 = .ok (.istore_n 2, 1) := zdc_521.2.2.2.2.2.2.1
theorem dX12_ties_36 : decode cX12_ties 36 = .ok (.iinc 3 1, 3) := zdc_521.2.2.2.2.2.2.2.1
theorem dX12_ties_39 : decode cX12_ties 39 = .ok (.goto (-35), 3) := zdc_521.2.2.2.2.2.2.2.2.1
theorem dX12_ties_42 : decode cX12_ties 42 = .ok (.iload_n 2, 1) := zdc_521.2.2.2.2.2.2.2.2.2
theorem zdc_522 : decode cX12_ties 43 = .ok (.ireturn, 1) ∧ decode cX12_pull 0 = .ok (.iconst 0, 1) ∧ decode cX12_pull 1 = .ok (.istore_n 2, 1) ∧ decode cX12_pull 2 = .ok (.iconst 0, 1) ∧ decode cX12_pull 3 = .ok (.istore_n 3, 1) ∧ decode cX12_pull 4 = .ok (.iload_n 3, 1) ∧ decode cX12_pull 5 = .ok (.aload_n 0, 1) ∧ decode cX12_pull 6 = .ok (.getfield 7, 3) ∧ decode cX12_pull 9 = .ok (.iconst 3, 1) ∧ decode cX12_pull 10 = .ok (.iaload, 1) := by decide +kernel
theorem dX12_ties_43 : decode cX12_ties 43 = .ok (.ireturn, 1) := zdc_522.1
theorem dX12_pull_0 : decode cX12_pull 0 = .ok (.iconst 0, 1) := zdc_522.2.1
theorem dX12_pull_1 : decode cX12_pull 1 = .ok (.istore_n 2, 1) := zdc_522.2.2.1
theorem dX12_pull_2 : decode cX12_pull 2 = .ok (.iconst 0, 1) := zdc_522.2.2.2.1
theorem dX12_pull_3 : decode cX12_pull 3 = .ok (.istore_n 3, 1) := zdc_522.2.2.2.2.1
theorem dX12_pull_4 : decode cX12_pull 4 = .ok (.iload_n 3, 1) := zdc_522.2.2.2.2.2.1
theorem dX12_pull_5 : decode cX12_pull 5 = .ok (.aload_n 0, 1) := zdc_522.2.2.2.2.2.2.1
theorem dX12_pull_6 : decode cX12_pull 6 = .ok (.getfield 7, 3) := zdc_522.2.2.2.2.2.2.2.1
theorem dX12_pull_9 : decode cX12_pull 9 = .ok (.iconst 3, 1) := zdc_522.2.2.2.2.2.2.2.2.1
theorem dX12_pull_10 : decode cX12_pull 10 = .ok (.iaload, 1) := zdc_522.2.2.2.2.2.2.2.2.2
theorem zdc_523 : decode cX12_pull 11 = .ok (.if_icmp .ge 49, 3) ∧ decode cX12_pull 14 = .ok (.iload_n 2, 1) ∧ decode cX12_pull 15 = .ok (.iload_n 3, 1) ∧ decode cX12_pull 16 = .ok (.iload_n 1, 1) ∧ decode cX12_pull 17 = .ok (.if_icmp .eq 34, 3) ∧ decode cX12_pull 20 = .ok (.aload_n 0, 1) ∧ decode cX12_pull 21 = .ok (.iload_n 3, 1) ∧ decode cX12_pull 22 = .ok (.invokevirtual 50, 3) ∧ decode cX12_pull 25 = .ok (.ifCond .eq 26, 3) ∧ decode cX12_pull 28 = .ok (.aload_n 0, 1) := by decide +kernel
theorem dX12_pull_11 : decode cX12_pull 11 = .ok (.if_icmp .ge 49, 3) := zdc_523.1
theorem dX12_pull_14 : decode cX12_pull 14 = .ok (.iload_n 2, 1) := zdc_523.2.1
theorem dX12_pull_15 : decode cX12_pull 15 = .ok (.iload_n 3, 1) := zdc_523.2.2.1
theorem dX12_pull_16 : decode cX12_pull 16 = .ok (.iload_n 1, 1) := zdc_523.2.2.2.1
theorem dX12_pull_17 : decode cX12_pull 17 = .ok (.if_icmp .eq 34, 3) := zdc_523.2.2.2.2.1
theorem dX12_pull_20 : decode cX12_pull 20 = .ok (.aload_n 0, 1) := zdc_523.2.2.2.2.2.1
theorem dX12_pull_21 : decode cX12_pull 21 = .ok (.iload_n 3, 1) := zdc_523.2.2.2.2.2.2.1
theorem dX12_pull_22 : decode cX12_pull 22 = .ok (.invokevirtual 50, 3) := zdc_523.2.2.2.2.2.2.2.1
theorem dX12_pull_25 : decode cX12_pull 25 = .ok (.ifCond .eq 26, 3) := zdc_523.2.2.2.2.2.2.2.2.1
theorem dX12_pull_28 : decode cX12_pull 28 = .ok (.aload_n 0, 1) := zdc_523.2.2.2.2.2.2.2.2.2
theorem zdc_524 : decode cX12_pull 29 = .ok (.iload_n 1, 1) ∧ decode cX12_pull 30 = .ok (.iload_n 3, 1) ∧ decode cX12_pull 31 = .ok (.invokevirtual 71, 3) ∧ decode cX12_pull 34 = .ok (.aload_n 0, 1) ∧ decode cX12_pull 35 = .ok (.iload_n 3, 1) ∧ decode cX12_pull 36 = .ok (.iconst 0, 1) ∧ decode cX12_pull 37 = .ok (.invokevirtual 46, 3) ∧ decode cX12_pull 40 = .ok (.aload_n 0, 1) ∧ decode cX12_pull 41 = .ok (.iload_n 1, 1) ∧ decode cX12_pull 42 = .ok (.iconst 0, 1) := by decide +kernel
theorem dX12_pull_29 : decode cX12_pull 29 = .ok (.iload_n 1, 1) := zdc_524.1
theorem dX12_pull_30 : decode cX12_pull 30 = .ok (.iload_n 3, 1) := zdc_524.2.1
theorem dX12_pull_31 : decode cX12_pull 31 = .ok (.invokevirtual 71, 3) := zdc_524.2.2.1
theorem dX12_pull_34 : decode cX12_pull 34 = .ok (.aload_n 0, 1) := zdc_524.2.2.2.1
theorem dX12_pull_35 : decode cX12_pull 35 = .ok (.iload_n 3, 1) := zdc_524.2.2.2.2.1
theorem dX12_pull_36 : decode cX12_pull 36 = .ok (.iconst 0, 1) := zdc_524.2.2.2.2.2.1
theorem dX12_pull_37 : decode cX12_pull 37 = .ok (.invokevirtual 46, 3) := zdc_524.2.2.2.2.2.2.1
theorem dX12_pull_40 : decode cX12_pull 40 = .ok (.aload_n 0, 1) := zdc_524.2.2.2.2.2.2.2.1
theorem dX12_pull_41 : decode cX12_pull 41 = .ok (.iload_n 1, 1) := zdc_524.2.2.2.2.2.2.2.2.1
theorem dX12_pull_42 : decode cX12_pull 42 = .ok (.iconst 0, 1) := zdc_524.2.2.2.2.2.2.2.2.2
theorem zdc_525 : decode cX12_pull 43 = .ok (.invokevirtual 46, 3) ∧ decode cX12_pull 46 = .ok (.isub, 1) ∧ decode cX12_pull 47 = .ok (.imul, 1) ∧ decode cX12_pull 48 = .ok (.goto 4, 3) ∧ decode cX12_pull 51 = .ok (.iconst 0, 1) ∧ decode cX12_pull 52 = .ok (.iadd, 1) ∧ decode cX12_pull 53 = .ok (.istore_n 2, 1) ∧ decode cX12_pull 54 = .ok (.iinc 3 1, 3) ∧ decode cX12_pull 57 = .ok (.goto (-53), 3) ∧ decode cX12_pull 60 = .ok (.iload_n 2, 1) := by decide +kernel
theorem dX12_pull_43 : decode cX12_pull 43 = .ok (.invokevirtual 46, 3) := zdc_525.1
theorem dX12_pull_46 : decode cX12_pull 46 = .ok (.isub, 1) := zdc_525.2.1
theorem dX12_pull_47 : decode cX12_pull 47 = .ok (.imul, 1) := zdc_525.2.2.1
theorem dX12_pull_48 : decode cX12_pull 48 = .ok (.goto 4, 3) := zdc_525.2.2.2.1
theorem dX12_pull_51 : decode cX12_pull 51 = .ok (.iconst 0, 1) := zdc_525.2.2.2.2.1
theorem dX12_pull_52 : decode cX12_pull 52 = .ok (.iadd, 1) := zdc_525.2.2.2.2.2.1
theorem dX12_pull_53 : decode cX12_pull 53 = .ok (.istore_n 2, 1) := zdc_525.2.2.2.2.2.2.1
theorem dX12_pull_54 : decode cX12_pull 54 = .ok (.iinc 3 1, 3) := zdc_525.2.2.2.2.2.2.2.1
theorem dX12_pull_57 : decode cX12_pull 57 = .ok (.goto (-53), 3) := zdc_525.2.2.2.2.2.2.2.2.1
theorem dX12_pull_60 : decode cX12_pull 60 = .ok (.iload_n 2, 1) := zdc_525.2.2.2.2.2.2.2.2.2
theorem zdc_526 : decode cX12_pull 61 = .ok (.ifCond .ge 12, 3) ∧ decode cX12_pull 64 = .ok (.iload_n 2, 1) ∧ decode cX12_pull 65 = .ok (.ineg, 1) ∧ decode cX12_pull 66 = .ok (.bipush 40, 2) ∧ decode cX12_pull 68 = .ok (.idiv, 1) ∧ decode cX12_pull 69 = .ok (.ineg, 1) ∧ decode cX12_pull 70 = .ok (.goto 7, 3) ∧ decode cX12_pull 73 = .ok (.iload_n 2, 1) ∧ decode cX12_pull 74 = .ok (.bipush 40, 2) ∧ decode cX12_pull 76 = .ok (.idiv, 1) := by decide +kernel
theorem dX12_pull_61 : decode cX12_pull 61 = .ok (.ifCond .ge 12, 3) := zdc_526.1
theorem dX12_pull_64 : decode cX12_pull 64 = .ok (.iload_n 2, 1) := zdc_526.2.1
theorem dX12_pull_65 : decode cX12_pull 65 = .ok (.ineg, 1) := zdc_526.2.2.1
theorem dX12_pull_66 : decode cX12_pull 66 = .ok (.bipush 40, 2) := zdc_526.2.2.2.1
theorem dX12_pull_68 : decode cX12_pull 68 = .ok (.idiv, 1) := zdc_526.2.2.2.2.1
theorem dX12_pull_69 : decode cX12_pull 69 = .ok (.ineg, 1) := zdc_526.2.2.2.2.2.1
theorem dX12_pull_70 : decode cX12_pull 70 = .ok (.goto 7, 3) := zdc_526.2.2.2.2.2.2.1
theorem dX12_pull_73 : decode cX12_pull 73 = .ok (.iload_n 2, 1) := zdc_526.2.2.2.2.2.2.2.1
theorem dX12_pull_74 : decode cX12_pull 74 = .ok (.bipush 40, 2) := zdc_526.2.2.2.2.2.2.2.2.1
theorem dX12_pull_76 : decode cX12_pull 76 = .ok (.idiv, 1) := zdc_526.2.2.2.2.2.2.2.2.2
theorem zdc_527 : decode cX12_pull 77 = .ok (.ireturn, 1) ∧ decode cX12_feed 0 = .ok (.aload_n 0, 1) ∧ decode cX12_feed 1 = .ok (.iconst 0, 1) ∧ decode cX12_feed 2 = .ok (.putfield 39, 3) ∧ decode cX12_feed 5 = .ok (.aload_n 0, 1) ∧ decode cX12_feed 6 = .ok (.getfield 74, 3) ∧ decode cX12_feed 9 = .ok (.bipush 20, 2) ∧ decode cX12_feed 11 = .ok (.iadd, 1) ∧ decode cX12_feed 12 = .ok (.sipush 400, 3) ∧ decode cX12_feed 15 = .ok (.if_icmp .le 5, 3) := by decide +kernel
theorem dX12_pull_77 : decode cX12_pull 77 = .ok (.ireturn, 1) := zdc_527.1
theorem dX12_feed_0 : decode cX12_feed 0 = .ok (.aload_n 0, 1) := zdc_527.2.1
theorem dX12_feed_1 : decode cX12_feed 1 = .ok (.iconst 0, 1) := zdc_527.2.2.1
theorem dX12_feed_2 : decode cX12_feed 2 = .ok (.putfield 39, 3) := zdc_527.2.2.2.1
theorem dX12_feed_5 : decode cX12_feed 5 = .ok (.aload_n 0, 1) := zdc_527.2.2.2.2.1
theorem dX12_feed_6 : decode cX12_feed 6 = .ok (.getfield 74, 3) := zdc_527.2.2.2.2.2.1
theorem dX12_feed_9 : decode cX12_feed 9 = .ok (.bipush 20, 2) := zdc_527.2.2.2.2.2.2.1
theorem dX12_feed_11 : decode cX12_feed 11 = .ok (.iadd, 1) := zdc_527.2.2.2.2.2.2.2.1
theorem dX12_feed_12 : decode cX12_feed 12 = .ok (.sipush 400, 3) := zdc_527.2.2.2.2.2.2.2.2.1
theorem dX12_feed_15 : decode cX12_feed 15 = .ok (.if_icmp .le 5, 3) := zdc_527.2.2.2.2.2.2.2.2.2
theorem zdc_528 : decode cX12_feed 18 = .ok (.iconst (-1), 1) ∧ decode cX12_feed 19 = .ok (.ireturn, 1) ∧ decode cX12_feed 20 = .ok (.iconst 0, 1) ∧ decode cX12_feed 21 = .ok (.istore 6, 2) ∧ decode cX12_feed 23 = .ok (.iload 6, 2) ∧ decode cX12_feed 25 = .ok (.bipush 20, 2) ∧ decode cX12_feed 27 = .ok (.if_icmp .ge 93, 3) ∧ decode cX12_feed 30 = .ok (.iload 6, 2) ∧ decode cX12_feed 32 = .ok (.iconst 4, 1) ∧ decode cX12_feed 33 = .ok (.if_icmp .ge 7, 3) := by decide +kernel
theorem dX12_feed_18 : decode cX12_feed 18 = .ok (.iconst (-1), 1) := zdc_528.1
theorem dX12_feed_19 : decode cX12_feed 19 = .ok (.ireturn, 1) := zdc_528.2.1
theorem dX12_feed_20 : decode cX12_feed 20 = .ok (.iconst 0, 1) := zdc_528.2.2.1
theorem dX12_feed_21 : decode cX12_feed 21 = .ok (.istore 6, 2) := zdc_528.2.2.2.1
theorem dX12_feed_23 : decode cX12_feed 23 = .ok (.iload 6, 2) := zdc_528.2.2.2.2.1
theorem dX12_feed_25 : decode cX12_feed 25 = .ok (.bipush 20, 2) := zdc_528.2.2.2.2.2.1
theorem dX12_feed_27 : decode cX12_feed 27 = .ok (.if_icmp .ge 93, 3) := zdc_528.2.2.2.2.2.2.1
theorem dX12_feed_30 : decode cX12_feed 30 = .ok (.iload 6, 2) := zdc_528.2.2.2.2.2.2.2.1
theorem dX12_feed_32 : decode cX12_feed 32 = .ok (.iconst 4, 1) := zdc_528.2.2.2.2.2.2.2.2.1
theorem dX12_feed_33 : decode cX12_feed 33 = .ok (.if_icmp .ge 7, 3) := zdc_528.2.2.2.2.2.2.2.2.2
theorem zdc_529 : decode cX12_feed 36 = .ok (.iload_n 1, 1) ∧ decode cX12_feed 37 = .ok (.goto 39, 3) ∧ decode cX12_feed 40 = .ok (.iload 6, 2) ∧ decode cX12_feed 42 = .ok (.bipush 8, 2) ∧ decode cX12_feed 44 = .ok (.if_icmp .ge 7, 3) ∧ decode cX12_feed 47 = .ok (.iload_n 2, 1) ∧ decode cX12_feed 48 = .ok (.goto 28, 3) ∧ decode cX12_feed 51 = .ok (.iload 6, 2) ∧ decode cX12_feed 53 = .ok (.bipush 12, 2) ∧ decode cX12_feed 55 = .ok (.if_icmp .ge 7, 3) := by decide +kernel
theorem dX12_feed_36 : decode cX12_feed 36 = .ok (.iload_n 1, 1) := zdc_529.1
theorem dX12_feed_37 : decode cX12_feed 37 = .ok (.goto 39, 3) := zdc_529.2.1
theorem dX12_feed_40 : decode cX12_feed 40 = .ok (.iload 6, 2) := zdc_529.2.2.1
theorem dX12_feed_42 : decode cX12_feed 42 = .ok (.bipush 8, 2) := zdc_529.2.2.2.1
theorem dX12_feed_44 : decode cX12_feed 44 = .ok (.if_icmp .ge 7, 3) := zdc_529.2.2.2.2.1
theorem dX12_feed_47 : decode cX12_feed 47 = .ok (.iload_n 2, 1) := zdc_529.2.2.2.2.2.1
theorem dX12_feed_48 : decode cX12_feed 48 = .ok (.goto 28, 3) := zdc_529.2.2.2.2.2.2.1
theorem dX12_feed_51 : decode cX12_feed 51 = .ok (.iload 6, 2) := zdc_529.2.2.2.2.2.2.2.1
theorem dX12_feed_53 : decode cX12_feed 53 = .ok (.bipush 12, 2) := zdc_529.2.2.2.2.2.2.2.2.1
theorem dX12_feed_55 : decode cX12_feed 55 = .ok (.if_icmp .ge 7, 3) := zdc_529.2.2.2.2.2.2.2.2.2
theorem zdc_530 : decode cX12_feed 58 = .ok (.iload_n 3, 1) ∧ decode cX12_feed 59 = .ok (.goto 17, 3) ∧ decode cX12_feed 62 = .ok (.iload 6, 2) ∧ decode cX12_feed 64 = .ok (.bipush 16, 2) ∧ decode cX12_feed 66 = .ok (.if_icmp .ge 8, 3) ∧ decode cX12_feed 69 = .ok (.iload 4, 2) ∧ decode cX12_feed 71 = .ok (.goto 5, 3) ∧ decode cX12_feed 74 = .ok (.iload 5, 2) ∧ decode cX12_feed 76 = .ok (.istore 7, 2) ∧ decode cX12_feed 78 = .ok (.aload_n 0, 1) := by decide +kernel
theorem dX12_feed_58 : decode cX12_feed 58 = .ok (.iload_n 3, 1) := zdc_530.1
theorem dX12_feed_59 : decode cX12_feed 59 = .ok (.goto 17, 3) := zdc_530.2.1
theorem dX12_feed_62 : decode cX12_feed 62 = .ok (.iload 6, 2) := zdc_530.2.2.1
theorem dX12_feed_64 : decode cX12_feed 64 = .ok (.bipush 16, 2) := zdc_530.2.2.2.1
theorem dX12_feed_66 : decode cX12_feed 66 = .ok (.if_icmp .ge 8, 3) := zdc_530.2.2.2.2.1
theorem dX12_feed_69 : decode cX12_feed 69 = .ok (.iload 4, 2) := zdc_530.2.2.2.2.2.1
theorem dX12_feed_71 : decode cX12_feed 71 = .ok (.goto 5, 3) := zdc_530.2.2.2.2.2.2.1
theorem dX12_feed_74 : decode cX12_feed 74 = .ok (.iload 5, 2) := zdc_530.2.2.2.2.2.2.2.1
theorem dX12_feed_76 : decode cX12_feed 76 = .ok (.istore 7, 2) := zdc_530.2.2.2.2.2.2.2.2.1
theorem dX12_feed_78 : decode cX12_feed 78 = .ok (.aload_n 0, 1) := zdc_530.2.2.2.2.2.2.2.2.2
theorem zdc_531 : decode cX12_feed 79 = .ok (.getfield 22, 3) ∧ decode cX12_feed 82 = .ok (.aload_n 0, 1) ∧ decode cX12_feed 83 = .ok (.getfield 74, 3) ∧ decode cX12_feed 86 = .ok (.iload 7, 2) ∧ decode cX12_feed 88 = .ok (.bipush 24, 2) ∧ decode cX12_feed 90 = .ok (.bipush 8, 2) ∧ decode cX12_feed 92 = .ok (.iload 6, 2) ∧ decode cX12_feed 94 = .ok (.iconst 4, 1) ∧ decode cX12_feed 95 = .ok (.irem, 1) ∧ decode cX12_feed 96 = .ok (.imul, 1) := by decide +kernel
theorem dX12_feed_79 : decode cX12_feed 79 = .ok (.getfield 22, 3) := zdc_531.1
theorem dX12_feed_82 : decode cX12_feed 82 = .ok (.aload_n 0, 1) := zdc_531.2.1
theorem dX12_feed_83 : decode cX12_feed 83 = .ok (.getfield 74, 3) := zdc_531.2.2.1
theorem dX12_feed_86 : decode cX12_feed 86 = .ok (.iload 7, 2) := zdc_531.2.2.2.1
theorem dX12_feed_88 : decode cX12_feed 88 = .ok (.bipush 24, 2) := zdc_531.2.2.2.2.1
theorem dX12_feed_90 : decode cX12_feed 90 = .ok (.bipush 8, 2) := zdc_531.2.2.2.2.2.1
theorem dX12_feed_92 : decode cX12_feed 92 = .ok (.iload 6, 2) := zdc_531.2.2.2.2.2.2.1
theorem dX12_feed_94 : decode cX12_feed 94 = .ok (.iconst 4, 1) := zdc_531.2.2.2.2.2.2.2.1
theorem dX12_feed_95 : decode cX12_feed 95 = .ok (.irem, 1) := zdc_531.2.2.2.2.2.2.2.2.1
theorem dX12_feed_96 : decode cX12_feed 96 = .ok (.imul, 1) := zdc_531.2.2.2.2.2.2.2.2.2
theorem zdc_532 : decode cX12_feed 97 = .ok (.isub, 1) ∧ decode cX12_feed 98 = .ok (.iushr, 1) ∧ decode cX12_feed 99 = .ok (.sipush 255, 3) ∧ decode cX12_feed 102 = .ok (.iand, 1) ∧ decode cX12_feed 103 = .ok (.iastore, 1) ∧ decode cX12_feed 104 = .ok (.aload_n 0, 1) ∧ decode cX12_feed 105 = .ok (.dup, 1) ∧ decode cX12_feed 106 = .ok (.getfield 74, 3) ∧ decode cX12_feed 109 = .ok (.iconst 1, 1) ∧ decode cX12_feed 110 = .ok (.iadd, 1) := by decide +kernel
theorem dX12_feed_97 : decode cX12_feed 97 = .ok (.isub, 1) := zdc_532.1
theorem dX12_feed_98 : decode cX12_feed 98 = .ok (.iushr, 1) := zdc_532.2.1
theorem dX12_feed_99 : decode cX12_feed 99 = .ok (.sipush 255, 3) := zdc_532.2.2.1
theorem dX12_feed_102 : decode cX12_feed 102 = .ok (.iand, 1) := zdc_532.2.2.2.1
theorem dX12_feed_103 : decode cX12_feed 103 = .ok (.iastore, 1) := zdc_532.2.2.2.2.1
theorem dX12_feed_104 : decode cX12_feed 104 = .ok (.aload_n 0, 1) := zdc_532.2.2.2.2.2.1
theorem dX12_feed_105 : decode cX12_feed 105 = .ok (.dup, 1) := zdc_532.2.2.2.2.2.2.1
theorem dX12_feed_106 : decode cX12_feed 106 = .ok (.getfield 74, 3) := zdc_532.2.2.2.2.2.2.2.1
theorem dX12_feed_109 : decode cX12_feed 109 = .ok (.iconst 1, 1) := zdc_532.2.2.2.2.2.2.2.2.1
theorem dX12_feed_110 : decode cX12_feed 110 = .ok (.iadd, 1) := zdc_532.2.2.2.2.2.2.2.2.2
theorem zdc_533 : decode cX12_feed 111 = .ok (.putfield 74, 3) ∧ decode cX12_feed 114 = .ok (.iinc 6 1, 3) ∧ decode cX12_feed 117 = .ok (.goto (-94), 3) ∧ decode cX12_feed 120 = .ok (.aload_n 0, 1) ∧ decode cX12_feed 121 = .ok (.getfield 74, 3) ∧ decode cX12_feed 124 = .ok (.ireturn, 1) ∧ decode cX12_end 0 = .ok (.aload_n 0, 1) ∧ decode cX12_end 1 = .ok (.iconst 0, 1) ∧ decode cX12_end 2 = .ok (.putfield 39, 3) ∧ decode cX12_end 5 = .ok (.iload_n 1, 1) := by decide +kernel
theorem dX12_feed_111 : decode cX12_feed 111 = .ok (.putfield 74, 3) := zdc_533.1
theorem dX12_feed_114 : decode cX12_feed 114 = .ok (.iinc 6 1, 3) := zdc_533.2.1
theorem dX12_feed_117 : decode cX12_feed 117 = .ok (.goto (-94), 3) := zdc_533.2.2.1
theorem dX12_feed_120 : decode cX12_feed 120 = .ok (.aload_n 0, 1) := zdc_533.2.2.2.1
theorem dX12_feed_121 : decode cX12_feed 121 = .ok (.getfield 74, 3) := zdc_533.2.2.2.2.1
theorem dX12_feed_124 : decode cX12_feed 124 = .ok (.ireturn, 1) := zdc_533.2.2.2.2.2.1
theorem dX12_end_0 : decode cX12_end 0 = .ok (.aload_n 0, 1) := zdc_533.2.2.2.2.2.2.1
theorem dX12_end_1 : decode cX12_end 1 = .ok (.iconst 0, 1) := zdc_533.2.2.2.2.2.2.2.1
theorem dX12_end_2 : decode cX12_end 2 = .ok (.putfield 39, 3) := zdc_533.2.2.2.2.2.2.2.2.1
theorem dX12_end_5 : decode cX12_end 5 = .ok (.iload_n 1, 1) := zdc_533.2.2.2.2.2.2.2.2.2
theorem zdc_534 : decode cX12_end 6 = .ok (.iconst 0, 1) ∧ decode cX12_end 7 = .ok (.aload_n 0, 1) ∧ decode cX12_end 8 = .ok (.getfield 74, 3) ∧ decode cX12_end 11 = .ok (.invokestatic 42, 3) ∧ decode cX12_end 14 = .ok (.ifCond .ne 5, 3) ∧ decode cX12_end 17 = .ok (.iconst 0, 1) ∧ decode cX12_end 18 = .ok (.ireturn, 1) ∧ decode cX12_end 19 = .ok (.aload_n 0, 1) ∧ decode cX12_end 20 = .ok (.iload_n 1, 1) ∧ decode cX12_end 21 = .ok (.putfield 74, 3) := by decide +kernel
theorem dX12_end_6 : decode cX12_end 6 = .ok (.iconst 0, 1) := zdc_534.1
theorem dX12_end_7 : decode cX12_end 7 = .ok (.aload_n 0, 1) := zdc_534.2.1
theorem dX12_end_8 : decode cX12_end 8 = .ok (.getfield 74, 3) := zdc_534.2.2.1
theorem dX12_end_11 : decode cX12_end 11 = .ok (.invokestatic 42, 3) := zdc_534.2.2.2.1
theorem dX12_end_14 : decode cX12_end 14 = .ok (.ifCond .ne 5, 3) := zdc_534.2.2.2.2.1
theorem dX12_end_17 : decode cX12_end 17 = .ok (.iconst 0, 1) := zdc_534.2.2.2.2.2.1
theorem dX12_end_18 : decode cX12_end 18 = .ok (.ireturn, 1) := zdc_534.2.2.2.2.2.2.1
theorem dX12_end_19 : decode cX12_end 19 = .ok (.aload_n 0, 1) := zdc_534.2.2.2.2.2.2.2.1
theorem dX12_end_20 : decode cX12_end 20 = .ok (.iload_n 1, 1) := zdc_534.2.2.2.2.2.2.2.2.1
theorem dX12_end_21 : decode cX12_end 21 = .ok (.putfield 74, 3) := zdc_534.2.2.2.2.2.2.2.2.2
theorem zdc_535 : decode cX12_end 24 = .ok (.iconst 1, 1) ∧ decode cX12_end 25 = .ok (.ireturn, 1) ∧ decode cX12_letter 0 = .ok (.aload_n 0, 1) ∧ decode cX12_letter 1 = .ok (.getfield 77, 3) ∧ decode cX12_letter 4 = .ok (.iconst (-1), 1) ∧ decode cX12_letter 5 = .ok (.if_icmp .ne 12, 3) ∧ decode cX12_letter 8 = .ok (.aload_n 0, 1) ∧ decode cX12_letter 9 = .ok (.getfield 22, 3) ∧ decode cX12_letter 12 = .ok (.iload_n 1, 1) ∧ decode cX12_letter 13 = .ok (.iaload, 1) := by decide +kernel
theorem dX12_end_24 : decode cX12_end 24 = .ok (.iconst 1, 1) := zdc_535.1
theorem dX12_end_25 : decode cX12_end 25 = .ok (.ireturn, 1) := zdc_535.2.1
theorem dX12_letter_0 : decode cX12_letter 0 = .ok (.aload_n 0, 1) := zdc_535.2.2.1
theorem dX12_letter_1 : decode cX12_letter 1 = .ok (.getfield 77, 3) := zdc_535.2.2.2.1
theorem dX12_letter_4 : decode cX12_letter 4 = .ok (.iconst (-1), 1) := zdc_535.2.2.2.2.1
theorem dX12_letter_5 : decode cX12_letter 5 = .ok (.if_icmp .ne 12, 3) := zdc_535.2.2.2.2.2.1
theorem dX12_letter_8 : decode cX12_letter 8 = .ok (.aload_n 0, 1) := zdc_535.2.2.2.2.2.2.1
theorem dX12_letter_9 : decode cX12_letter 9 = .ok (.getfield 22, 3) := zdc_535.2.2.2.2.2.2.2.1
theorem dX12_letter_12 : decode cX12_letter 12 = .ok (.iload_n 1, 1) := zdc_535.2.2.2.2.2.2.2.2.1
theorem dX12_letter_13 : decode cX12_letter 13 = .ok (.iaload, 1) := zdc_535.2.2.2.2.2.2.2.2.2
theorem zdc_536 : decode cX12_letter 14 = .ok (.goto 14, 3) ∧ decode cX12_letter 17 = .ok (.aload_n 0, 1) ∧ decode cX12_letter 18 = .ok (.getfield 7, 3) ∧ decode cX12_letter 21 = .ok (.aload_n 0, 1) ∧ decode cX12_letter 22 = .ok (.getfield 77, 3) ∧ decode cX12_letter 25 = .ok (.iload_n 1, 1) ∧ decode cX12_letter 26 = .ok (.iadd, 1) ∧ decode cX12_letter 27 = .ok (.iaload, 1) ∧ decode cX12_letter 28 = .ok (.ireturn, 1) ∧ decode cX12_skip 0 = .ok (.aload_n 0, 1) := by decide +kernel
theorem dX12_letter_14 : decode cX12_letter 14 = .ok (.goto 14, 3) := zdc_536.1
theorem dX12_letter_17 : decode cX12_letter 17 = .ok (.aload_n 0, 1) := zdc_536.2.1
theorem dX12_letter_18 : decode cX12_letter 18 = .ok (.getfield 7, 3) := zdc_536.2.2.1
theorem dX12_letter_21 : decode cX12_letter 21 = .ok (.aload_n 0, 1) := zdc_536.2.2.2.1
theorem dX12_letter_22 : decode cX12_letter 22 = .ok (.getfield 77, 3) := zdc_536.2.2.2.2.1
theorem dX12_letter_25 : decode cX12_letter 25 = .ok (.iload_n 1, 1) := zdc_536.2.2.2.2.2.1
theorem dX12_letter_26 : decode cX12_letter 26 = .ok (.iadd, 1) := zdc_536.2.2.2.2.2.2.1
theorem dX12_letter_27 : decode cX12_letter 27 = .ok (.iaload, 1) := zdc_536.2.2.2.2.2.2.2.1
theorem dX12_letter_28 : decode cX12_letter 28 = .ok (.ireturn, 1) := zdc_536.2.2.2.2.2.2.2.2.1
theorem dX12_skip_0 : decode cX12_skip 0 = .ok (.aload_n 0, 1) := zdc_536.2.2.2.2.2.2.2.2.2
theorem zdc_537 : decode cX12_skip 1 = .ok (.getfield 80, 3) ∧ decode cX12_skip 4 = .ok (.aload_n 0, 1) ∧ decode cX12_skip 5 = .ok (.getfield 83, 3) ∧ decode cX12_skip 8 = .ok (.if_icmp .ge 29, 3) ∧ decode cX12_skip 11 = .ok (.aload_n 0, 1) ∧ decode cX12_skip 12 = .ok (.aload_n 0, 1) ∧ decode cX12_skip 13 = .ok (.getfield 80, 3) ∧ decode cX12_skip 16 = .ok (.invokevirtual 86, 3) ∧ decode cX12_skip 19 = .ok (.bipush 32, 2) ∧ decode cX12_skip 21 = .ok (.if_icmp .ne 16, 3) := by decide +kernel
theorem dX12_skip_1 : decode cX12_skip 1 = .ok (.getfield 80, 3) := zdc_537.1
theorem dX12_skip_4 : decode cX12_skip 4 = .ok (.aload_n 0, 1) := zdc_537.2.1
theorem dX12_skip_5 : decode cX12_skip 5 = .ok (.getfield 83, 3) := zdc_537.2.2.1
theorem dX12_skip_8 : decode cX12_skip 8 = .ok (.if_icmp .ge 29, 3) := zdc_537.2.2.2.1
theorem dX12_skip_11 : decode cX12_skip 11 = .ok (.aload_n 0, 1) := zdc_537.2.2.2.2.1
theorem dX12_skip_12 : decode cX12_skip 12 = .ok (.aload_n 0, 1) := zdc_537.2.2.2.2.2.1
theorem dX12_skip_13 : decode cX12_skip 13 = .ok (.getfield 80, 3) := zdc_537.2.2.2.2.2.2.1
theorem dX12_skip_16 : decode cX12_skip 16 = .ok (.invokevirtual 86, 3) := zdc_537.2.2.2.2.2.2.2.1
theorem dX12_skip_19 : decode cX12_skip 19 = .ok (.bipush 32, 2) := zdc_537.2.2.2.2.2.2.2.2.1
theorem dX12_skip_21 : decode cX12_skip 21 = .ok (.if_icmp .ne 16, 3) := zdc_537.2.2.2.2.2.2.2.2.2
theorem zdc_538 : decode cX12_skip 24 = .ok (.aload_n 0, 1) ∧ decode cX12_skip 25 = .ok (.dup, 1) ∧ decode cX12_skip 26 = .ok (.getfield 80, 3) ∧ decode cX12_skip 29 = .ok (.iconst 1, 1) ∧ decode cX12_skip 30 = .ok (.iadd, 1) ∧ decode cX12_skip 31 = .ok (.putfield 80, 3) ∧ decode cX12_skip 34 = .ok (.goto (-34), 3) ∧ decode cX12_skip 37 = .ok (.return_, 1) ∧ decode cX12_isSign 0 = .ok (.aload_n 0, 1) ∧ decode cX12_isSign 1 = .ok (.invokevirtual 89, 3) := by decide +kernel
theorem dX12_skip_24 : decode cX12_skip 24 = .ok (.aload_n 0, 1) := zdc_538.1
theorem dX12_skip_25 : decode cX12_skip 25 = .ok (.dup, 1) := zdc_538.2.1
theorem dX12_skip_26 : decode cX12_skip 26 = .ok (.getfield 80, 3) := zdc_538.2.2.1
theorem dX12_skip_29 : decode cX12_skip 29 = .ok (.iconst 1, 1) := zdc_538.2.2.2.1
theorem dX12_skip_30 : decode cX12_skip 30 = .ok (.iadd, 1) := zdc_538.2.2.2.2.1
theorem dX12_skip_31 : decode cX12_skip 31 = .ok (.putfield 80, 3) := zdc_538.2.2.2.2.2.1
theorem dX12_skip_34 : decode cX12_skip 34 = .ok (.goto (-34), 3) := zdc_538.2.2.2.2.2.2.1
theorem dX12_skip_37 : decode cX12_skip 37 = .ok (.return_, 1) := zdc_538.2.2.2.2.2.2.2.1
theorem dX12_isSign_0 : decode cX12_isSign 0 = .ok (.aload_n 0, 1) := zdc_538.2.2.2.2.2.2.2.2.1
theorem dX12_isSign_1 : decode cX12_isSign 1 = .ok (.invokevirtual 89, 3) := zdc_538.2.2.2.2.2.2.2.2.2
theorem zdc_539 : decode cX12_isSign 4 = .ok (.aload_n 0, 1) ∧ decode cX12_isSign 5 = .ok (.getfield 80, 3) ∧ decode cX12_isSign 8 = .ok (.aload_n 0, 1) ∧ decode cX12_isSign 9 = .ok (.getfield 83, 3) ∧ decode cX12_isSign 12 = .ok (.if_icmp .ge 19, 3) ∧ decode cX12_isSign 15 = .ok (.aload_n 0, 1) ∧ decode cX12_isSign 16 = .ok (.aload_n 0, 1) ∧ decode cX12_isSign 17 = .ok (.getfield 80, 3) ∧ decode cX12_isSign 20 = .ok (.invokevirtual 86, 3) ∧ decode cX12_isSign 23 = .ok (.iload_n 1, 1) := by decide +kernel
theorem dX12_isSign_4 : decode cX12_isSign 4 = .ok (.aload_n 0, 1) := zdc_539.1
theorem dX12_isSign_5 : decode cX12_isSign 5 = .ok (.getfield 80, 3) := zdc_539.2.1
theorem dX12_isSign_8 : decode cX12_isSign 8 = .ok (.aload_n 0, 1) := zdc_539.2.2.1
theorem dX12_isSign_9 : decode cX12_isSign 9 = .ok (.getfield 83, 3) := zdc_539.2.2.2.1
theorem dX12_isSign_12 : decode cX12_isSign 12 = .ok (.if_icmp .ge 19, 3) := zdc_539.2.2.2.2.1
theorem dX12_isSign_15 : decode cX12_isSign 15 = .ok (.aload_n 0, 1) := zdc_539.2.2.2.2.2.1
theorem dX12_isSign_16 : decode cX12_isSign 16 = .ok (.aload_n 0, 1) := zdc_539.2.2.2.2.2.2.1
theorem dX12_isSign_17 : decode cX12_isSign 17 = .ok (.getfield 80, 3) := zdc_539.2.2.2.2.2.2.2.1
theorem dX12_isSign_20 : decode cX12_isSign 20 = .ok (.invokevirtual 86, 3) := zdc_539.2.2.2.2.2.2.2.2.1
theorem dX12_isSign_23 : decode cX12_isSign 23 = .ok (.iload_n 1, 1) := zdc_539.2.2.2.2.2.2.2.2.2
theorem zdc_540 : decode cX12_isSign 24 = .ok (.if_icmp .ne 7, 3) ∧ decode cX12_isSign 27 = .ok (.iconst 1, 1) ∧ decode cX12_isSign 28 = .ok (.goto 4, 3) ∧ decode cX12_isSign 31 = .ok (.iconst 0, 1) ∧ decode cX12_isSign 32 = .ok (.ireturn, 1) ∧ decode cX12_has 0 = .ok (.aload_n 0, 1) ∧ decode cX12_has 1 = .ok (.invokevirtual 89, 3) ∧ decode cX12_has 4 = .ok (.aload_n 0, 1) ∧ decode cX12_has 5 = .ok (.getfield 80, 3) ∧ decode cX12_has 8 = .ok (.istore_n 2, 1) := by decide +kernel
theorem dX12_isSign_24 : decode cX12_isSign 24 = .ok (.if_icmp .ne 7, 3) := zdc_540.1
theorem dX12_isSign_27 : decode cX12_isSign 27 = .ok (.iconst 1, 1) := zdc_540.2.1
theorem dX12_isSign_28 : decode cX12_isSign 28 = .ok (.goto 4, 3) := zdc_540.2.2.1
theorem dX12_isSign_31 : decode cX12_isSign 31 = .ok (.iconst 0, 1) := zdc_540.2.2.2.1
theorem dX12_isSign_32 : decode cX12_isSign 32 = .ok (.ireturn, 1) := zdc_540.2.2.2.2.1
theorem dX12_has_0 : decode cX12_has 0 = .ok (.aload_n 0, 1) := zdc_540.2.2.2.2.2.1
theorem dX12_has_1 : decode cX12_has 1 = .ok (.invokevirtual 89, 3) := zdc_540.2.2.2.2.2.2.1
theorem dX12_has_4 : decode cX12_has 4 = .ok (.aload_n 0, 1) := zdc_540.2.2.2.2.2.2.2.1
theorem dX12_has_5 : decode cX12_has 5 = .ok (.getfield 80, 3) := zdc_540.2.2.2.2.2.2.2.2.1
theorem dX12_has_8 : decode cX12_has 8 = .ok (.istore_n 2, 1) := zdc_540.2.2.2.2.2.2.2.2.2
theorem zdc_541 : decode cX12_has 9 = .ok (.iload_n 2, 1) ∧ decode cX12_has 10 = .ok (.aload_n 0, 1) ∧ decode cX12_has 11 = .ok (.getfield 83, 3) ∧ decode cX12_has 14 = .ok (.if_icmp .ge 24, 3) ∧ decode cX12_has 17 = .ok (.aload_n 0, 1) ∧ decode cX12_has 18 = .ok (.iload_n 2, 1) ∧ decode cX12_has 19 = .ok (.invokevirtual 86, 3) ∧ decode cX12_has 22 = .ok (.bipush 97, 2) ∧ decode cX12_has 24 = .ok (.bipush 122, 2) ∧ decode cX12_has 26 = .ok (.invokestatic 42, 3) := by decide +kernel
theorem dX12_has_9 : decode cX12_has 9 = .ok (.iload_n 2, 1) := zdc_541.1
theorem dX12_has_10 : decode cX12_has 10 = .ok (.aload_n 0, 1) := zdc_541.2.1
theorem dX12_has_11 : decode cX12_has 11 = .ok (.getfield 83, 3) := zdc_541.2.2.1
theorem dX12_has_14 : decode cX12_has 14 = .ok (.if_icmp .ge 24, 3) := zdc_541.2.2.2.1
theorem dX12_has_17 : decode cX12_has 17 = .ok (.aload_n 0, 1) := zdc_541.2.2.2.2.1
theorem dX12_has_18 : decode cX12_has 18 = .ok (.iload_n 2, 1) := zdc_541.2.2.2.2.2.1
theorem dX12_has_19 : decode cX12_has 19 = .ok (.invokevirtual 86, 3) := zdc_541.2.2.2.2.2.2.1
theorem dX12_has_22 : decode cX12_has 22 = .ok (.bipush 97, 2) := zdc_541.2.2.2.2.2.2.2.1
theorem dX12_has_24 : decode cX12_has 24 = .ok (.bipush 122, 2) := zdc_541.2.2.2.2.2.2.2.2.1
theorem dX12_has_26 : decode cX12_has 26 = .ok (.invokestatic 42, 3) := zdc_541.2.2.2.2.2.2.2.2.2
theorem zdc_542 : decode cX12_has 29 = .ok (.ifCond .eq 9, 3) ∧ decode cX12_has 32 = .ok (.iinc 2 1, 3) ∧ decode cX12_has 35 = .ok (.goto (-26), 3) ∧ decode cX12_has 38 = .ok (.iload_n 2, 1) ∧ decode cX12_has 39 = .ok (.aload_n 0, 1) ∧ decode cX12_has 40 = .ok (.getfield 80, 3) ∧ decode cX12_has 43 = .ok (.isub, 1) ∧ decode cX12_has 44 = .ok (.aload_n 1, 1) ∧ decode cX12_has 45 = .ok (.invokevirtual 92, 3) ∧ decode cX12_has 48 = .ok (.if_icmp .eq 5, 3) := by decide +kernel
theorem dX12_has_29 : decode cX12_has 29 = .ok (.ifCond .eq 9, 3) := zdc_542.1
theorem dX12_has_32 : decode cX12_has 32 = .ok (.iinc 2 1, 3) := zdc_542.2.1
theorem dX12_has_35 : decode cX12_has 35 = .ok (.goto (-26), 3) := zdc_542.2.2.1
theorem dX12_has_38 : decode cX12_has 38 = .ok (.iload_n 2, 1) := zdc_542.2.2.2.1
theorem dX12_has_39 : decode cX12_has 39 = .ok (.aload_n 0, 1) := zdc_542.2.2.2.2.1
theorem dX12_has_40 : decode cX12_has 40 = .ok (.getfield 80, 3) := zdc_542.2.2.2.2.2.1
theorem dX12_has_43 : decode cX12_has 43 = .ok (.isub, 1) := zdc_542.2.2.2.2.2.2.1
theorem dX12_has_44 : decode cX12_has 44 = .ok (.aload_n 1, 1) := zdc_542.2.2.2.2.2.2.2.1
theorem dX12_has_45 : decode cX12_has 45 = .ok (.invokevirtual 92, 3) := zdc_542.2.2.2.2.2.2.2.2.1
theorem dX12_has_48 : decode cX12_has 48 = .ok (.if_icmp .eq 5, 3) := zdc_542.2.2.2.2.2.2.2.2.2
theorem zdc_543 : decode cX12_has 51 = .ok (.iconst 0, 1) ∧ decode cX12_has 52 = .ok (.ireturn, 1) ∧ decode cX12_has 53 = .ok (.iconst 0, 1) ∧ decode cX12_has 54 = .ok (.istore_n 3, 1) ∧ decode cX12_has 55 = .ok (.iload_n 3, 1) ∧ decode cX12_has 56 = .ok (.aload_n 1, 1) ∧ decode cX12_has 57 = .ok (.invokevirtual 92, 3) ∧ decode cX12_has 60 = .ok (.if_icmp .ge 29, 3) ∧ decode cX12_has 63 = .ok (.aload_n 0, 1) ∧ decode cX12_has 64 = .ok (.aload_n 0, 1) := by decide +kernel
theorem dX12_has_51 : decode cX12_has 51 = .ok (.iconst 0, 1) := zdc_543.1
theorem dX12_has_52 : decode cX12_has 52 = .ok (.ireturn, 1) := zdc_543.2.1
theorem dX12_has_53 : decode cX12_has 53 = .ok (.iconst 0, 1) := zdc_543.2.2.1
theorem dX12_has_54 : decode cX12_has 54 = .ok (.istore_n 3, 1) := zdc_543.2.2.2.1
theorem dX12_has_55 : decode cX12_has 55 = .ok (.iload_n 3, 1) := zdc_543.2.2.2.2.1
theorem dX12_has_56 : decode cX12_has 56 = .ok (.aload_n 1, 1) := zdc_543.2.2.2.2.2.1
theorem dX12_has_57 : decode cX12_has 57 = .ok (.invokevirtual 92, 3) := zdc_543.2.2.2.2.2.2.1
theorem dX12_has_60 : decode cX12_has 60 = .ok (.if_icmp .ge 29, 3) := zdc_543.2.2.2.2.2.2.2.1
theorem dX12_has_63 : decode cX12_has 63 = .ok (.aload_n 0, 1) := zdc_543.2.2.2.2.2.2.2.2.1
theorem dX12_has_64 : decode cX12_has 64 = .ok (.aload_n 0, 1) := zdc_543.2.2.2.2.2.2.2.2.2
theorem zdc_544 : decode cX12_has 65 = .ok (.getfield 80, 3) ∧ decode cX12_has 68 = .ok (.iload_n 3, 1) ∧ decode cX12_has 69 = .ok (.iadd, 1) ∧ decode cX12_has 70 = .ok (.invokevirtual 86, 3) ∧ decode cX12_has 73 = .ok (.aload_n 1, 1) ∧ decode cX12_has 74 = .ok (.iload_n 3, 1) ∧ decode cX12_has 75 = .ok (.invokevirtual 97, 3) ∧ decode cX12_has 78 = .ok (.if_icmp .eq 5, 3) ∧ decode cX12_has 81 = .ok (.iconst 0, 1) ∧ decode cX12_has 82 = .ok (.ireturn, 1) := by decide +kernel
theorem dX12_has_65 : decode cX12_has 65 = .ok (.getfield 80, 3) := zdc_544.1
theorem dX12_has_68 : decode cX12_has 68 = .ok (.iload_n 3, 1) := zdc_544.2.1
theorem dX12_has_69 : decode cX12_has 69 = .ok (.iadd, 1) := zdc_544.2.2.1
theorem dX12_has_70 : decode cX12_has 70 = .ok (.invokevirtual 86, 3) := zdc_544.2.2.2.1
theorem dX12_has_73 : decode cX12_has 73 = .ok (.aload_n 1, 1) := zdc_544.2.2.2.2.1
theorem dX12_has_74 : decode cX12_has 74 = .ok (.iload_n 3, 1) := zdc_544.2.2.2.2.2.1
theorem dX12_has_75 : decode cX12_has 75 = .ok (.invokevirtual 97, 3) := zdc_544.2.2.2.2.2.2.1
theorem dX12_has_78 : decode cX12_has 78 = .ok (.if_icmp .eq 5, 3) := zdc_544.2.2.2.2.2.2.2.1
theorem dX12_has_81 : decode cX12_has 81 = .ok (.iconst 0, 1) := zdc_544.2.2.2.2.2.2.2.2.1
theorem dX12_has_82 : decode cX12_has 82 = .ok (.ireturn, 1) := zdc_544.2.2.2.2.2.2.2.2.2
theorem zdc_545 : decode cX12_has 83 = .ok (.iinc 3 1, 3) ∧ decode cX12_has 86 = .ok (.goto (-31), 3) ∧ decode cX12_has 89 = .ok (.aload_n 0, 1) ∧ decode cX12_has 90 = .ok (.iload_n 2, 1) ∧ decode cX12_has 91 = .ok (.putfield 80, 3) ∧ decode cX12_has 94 = .ok (.iconst 1, 1) ∧ decode cX12_has 95 = .ok (.ireturn, 1) ∧ decode cX12_wrong 0 = .ok (.aload_n 0, 1) ∧ decode cX12_wrong 1 = .ok (.getfield 25, 3) ∧ decode cX12_wrong 4 = .ok (.iconst (-1), 1) := by decide +kernel
theorem dX12_has_83 : decode cX12_has 83 = .ok (.iinc 3 1, 3) := zdc_545.1
theorem dX12_has_86 : decode cX12_has 86 = .ok (.goto (-31), 3) := zdc_545.2.1
theorem dX12_has_89 : decode cX12_has 89 = .ok (.aload_n 0, 1) := zdc_545.2.2.1
theorem dX12_has_90 : decode cX12_has 90 = .ok (.iload_n 2, 1) := zdc_545.2.2.2.1
theorem dX12_has_91 : decode cX12_has 91 = .ok (.putfield 80, 3) := zdc_545.2.2.2.2.1
theorem dX12_has_94 : decode cX12_has 94 = .ok (.iconst 1, 1) := zdc_545.2.2.2.2.2.1
theorem dX12_has_95 : decode cX12_has 95 = .ok (.ireturn, 1) := zdc_545.2.2.2.2.2.2.1
theorem dX12_wrong_0 : decode cX12_wrong 0 = .ok (.aload_n 0, 1) := zdc_545.2.2.2.2.2.2.2.1
theorem dX12_wrong_1 : decode cX12_wrong 1 = .ok (.getfield 25, 3) := zdc_545.2.2.2.2.2.2.2.2.1
theorem dX12_wrong_4 : decode cX12_wrong 4 = .ok (.iconst (-1), 1) := zdc_545.2.2.2.2.2.2.2.2.2
theorem zdc_546 : decode cX12_wrong 5 = .ok (.if_icmp .ne 8, 3) ∧ decode cX12_wrong 8 = .ok (.aload_n 0, 1) ∧ decode cX12_wrong 9 = .ok (.iload_n 1, 1) ∧ decode cX12_wrong 10 = .ok (.putfield 25, 3) ∧ decode cX12_wrong 13 = .ok (.return_, 1) ∧ decode cX12_here 0 = .ok (.aload_n 0, 1) ∧ decode cX12_here 1 = .ok (.invokevirtual 89, 3) ∧ decode cX12_here 4 = .ok (.aload_n 0, 1) ∧ decode cX12_here 5 = .ok (.getfield 80, 3) ∧ decode cX12_here 8 = .ok (.ireturn, 1) := by decide +kernel
theorem dX12_wrong_5 : decode cX12_wrong 5 = .ok (.if_icmp .ne 8, 3) := zdc_546.1
theorem dX12_wrong_8 : decode cX12_wrong 8 = .ok (.aload_n 0, 1) := zdc_546.2.1
theorem dX12_wrong_9 : decode cX12_wrong 9 = .ok (.iload_n 1, 1) := zdc_546.2.2.1
theorem dX12_wrong_10 : decode cX12_wrong 10 = .ok (.putfield 25, 3) := zdc_546.2.2.2.1
theorem dX12_wrong_13 : decode cX12_wrong 13 = .ok (.return_, 1) := zdc_546.2.2.2.2.1
theorem dX12_here_0 : decode cX12_here 0 = .ok (.aload_n 0, 1) := zdc_546.2.2.2.2.2.1
theorem dX12_here_1 : decode cX12_here 1 = .ok (.invokevirtual 89, 3) := zdc_546.2.2.2.2.2.2.1
theorem dX12_here_4 : decode cX12_here 4 = .ok (.aload_n 0, 1) := zdc_546.2.2.2.2.2.2.2.1
theorem dX12_here_5 : decode cX12_here 5 = .ok (.getfield 80, 3) := zdc_546.2.2.2.2.2.2.2.2.1
theorem dX12_here_8 : decode cX12_here 8 = .ok (.ireturn, 1) := zdc_546.2.2.2.2.2.2.2.2.2
theorem zdc_547 : decode cX12_figures 0 = .ok (.aload_n 0, 1) ∧ decode cX12_figures 1 = .ok (.getfield 25, 3) ∧ decode cX12_figures 4 = .ok (.iconst (-1), 1) ∧ decode cX12_figures 5 = .ok (.if_icmp .eq 5, 3) ∧ decode cX12_figures 8 = .ok (.iconst 0, 1) ∧ decode cX12_figures 9 = .ok (.ireturn, 1) ∧ decode cX12_figures 10 = .ok (.aload_n 0, 1) ∧ decode cX12_figures 11 = .ok (.invokevirtual 101, 3) ∧ decode cX12_figures 14 = .ok (.istore_n 3, 1) ∧ decode cX12_figures 15 = .ok (.iconst 0, 1) := by decide +kernel
theorem dX12_figures_0 : decode cX12_figures 0 = .ok (.aload_n 0, 1) := zdc_547.1
theorem dX12_figures_1 : decode cX12_figures 1 = .ok (.getfield 25, 3) := zdc_547.2.1
theorem dX12_figures_4 : decode cX12_figures 4 = .ok (.iconst (-1), 1) := zdc_547.2.2.1
theorem dX12_figures_5 : decode cX12_figures 5 = .ok (.if_icmp .eq 5, 3) := zdc_547.2.2.2.1
theorem dX12_figures_8 : decode cX12_figures 8 = .ok (.iconst 0, 1) := zdc_547.2.2.2.2.1
theorem dX12_figures_9 : decode cX12_figures 9 = .ok (.ireturn, 1) := zdc_547.2.2.2.2.2.1
theorem dX12_figures_10 : decode cX12_figures 10 = .ok (.aload_n 0, 1) := zdc_547.2.2.2.2.2.2.1
theorem dX12_figures_11 : decode cX12_figures 11 = .ok (.invokevirtual 101, 3) := zdc_547.2.2.2.2.2.2.2.1
theorem dX12_figures_14 : decode cX12_figures 14 = .ok (.istore_n 3, 1) := zdc_547.2.2.2.2.2.2.2.2.1
theorem dX12_figures_15 : decode cX12_figures 15 = .ok (.iconst 0, 1) := zdc_547.2.2.2.2.2.2.2.2.2
theorem zdc_548 : decode cX12_figures 16 = .ok (.istore 4, 2) ∧ decode cX12_figures 18 = .ok (.aload_n 0, 1) ∧ decode cX12_figures 19 = .ok (.getfield 80, 3) ∧ decode cX12_figures 22 = .ok (.aload_n 0, 1) ∧ decode cX12_figures 23 = .ok (.getfield 83, 3) ∧ decode cX12_figures 26 = .ok (.if_icmp .ge 63, 3) ∧ decode cX12_figures 29 = .ok (.aload_n 0, 1) ∧ decode cX12_figures 30 = .ok (.aload_n 0, 1) ∧ decode cX12_figures 31 = .ok (.getfield 80, 3) ∧ decode cX12_figures 34 = .ok (.invokevirtual 86, 3) := by decide +kernel
theorem dX12_figures_16 : decode cX12_figures 16 = .ok (.istore 4, 2) := zdc_548.1
theorem dX12_figures_18 : decode cX12_figures 18 = .ok (.aload_n 0, 1) := zdc_548.2.1
theorem dX12_figures_19 : decode cX12_figures 19 = .ok (.getfield 80, 3) := zdc_548.2.2.1
theorem dX12_figures_22 : decode cX12_figures 22 = .ok (.aload_n 0, 1) := zdc_548.2.2.2.1
theorem dX12_figures_23 : decode cX12_figures 23 = .ok (.getfield 83, 3) := zdc_548.2.2.2.2.1
theorem dX12_figures_26 : decode cX12_figures 26 = .ok (.if_icmp .ge 63, 3) := zdc_548.2.2.2.2.2.1
theorem dX12_figures_29 : decode cX12_figures 29 = .ok (.aload_n 0, 1) := zdc_548.2.2.2.2.2.2.1
theorem dX12_figures_30 : decode cX12_figures 30 = .ok (.aload_n 0, 1) := zdc_548.2.2.2.2.2.2.2.1
theorem dX12_figures_31 : decode cX12_figures 31 = .ok (.getfield 80, 3) := zdc_548.2.2.2.2.2.2.2.2.1
theorem dX12_figures_34 : decode cX12_figures 34 = .ok (.invokevirtual 86, 3) := zdc_548.2.2.2.2.2.2.2.2.2
theorem zdc_549 : decode cX12_figures 37 = .ok (.bipush 48, 2) ∧ decode cX12_figures 39 = .ok (.bipush 57, 2) ∧ decode cX12_figures 41 = .ok (.invokestatic 42, 3) ∧ decode cX12_figures 44 = .ok (.ifCond .eq 45, 3) ∧ decode cX12_figures 47 = .ok (.aload_n 0, 1) ∧ decode cX12_figures 48 = .ok (.getfield 80, 3) ∧ decode cX12_figures 51 = .ok (.iload_n 3, 1) ∧ decode cX12_figures 52 = .ok (.isub, 1) ∧ decode cX12_figures 53 = .ok (.iconst 3, 1) ∧ decode cX12_figures 54 = .ok (.if_icmp .gt 35, 3) := by decide +kernel
theorem dX12_figures_37 : decode cX12_figures 37 = .ok (.bipush 48, 2) := zdc_549.1
theorem dX12_figures_39 : decode cX12_figures 39 = .ok (.bipush 57, 2) := zdc_549.2.1
theorem dX12_figures_41 : decode cX12_figures 41 = .ok (.invokestatic 42, 3) := zdc_549.2.2.1
theorem dX12_figures_44 : decode cX12_figures 44 = .ok (.ifCond .eq 45, 3) := zdc_549.2.2.2.1
theorem dX12_figures_47 : decode cX12_figures 47 = .ok (.aload_n 0, 1) := zdc_549.2.2.2.2.1
theorem dX12_figures_48 : decode cX12_figures 48 = .ok (.getfield 80, 3) := zdc_549.2.2.2.2.2.1
theorem dX12_figures_51 : decode cX12_figures 51 = .ok (.iload_n 3, 1) := zdc_549.2.2.2.2.2.2.1
theorem dX12_figures_52 : decode cX12_figures 52 = .ok (.isub, 1) := zdc_549.2.2.2.2.2.2.2.1
theorem dX12_figures_53 : decode cX12_figures 53 = .ok (.iconst 3, 1) := zdc_549.2.2.2.2.2.2.2.2.1
theorem dX12_figures_54 : decode cX12_figures 54 = .ok (.if_icmp .gt 35, 3) := zdc_549.2.2.2.2.2.2.2.2.2
theorem zdc_550 : decode cX12_figures 57 = .ok (.bipush 10, 2) ∧ decode cX12_figures 59 = .ok (.iload 4, 2) ∧ decode cX12_figures 61 = .ok (.imul, 1) ∧ decode cX12_figures 62 = .ok (.aload_n 0, 1) ∧ decode cX12_figures 63 = .ok (.aload_n 0, 1) ∧ decode cX12_figures 64 = .ok (.getfield 80, 3) ∧ decode cX12_figures 67 = .ok (.invokevirtual 86, 3) ∧ decode cX12_figures 70 = .ok (.iadd, 1) ∧ decode cX12_figures 71 = .ok (.bipush 48, 2) ∧ decode cX12_figures 73 = .ok (.isub, 1) := by decide +kernel
theorem dX12_figures_57 : decode cX12_figures 57 = .ok (.bipush 10, 2) := zdc_550.1
theorem dX12_figures_59 : decode cX12_figures 59 = .ok (.iload 4, 2) := zdc_550.2.1
theorem dX12_figures_61 : decode cX12_figures 61 = .ok (.imul, 1) := zdc_550.2.2.1
theorem dX12_figures_62 : decode cX12_figures 62 = .ok (.aload_n 0, 1) := zdc_550.2.2.2.1
theorem dX12_figures_63 : decode cX12_figures 63 = .ok (.aload_n 0, 1) := zdc_550.2.2.2.2.1
theorem dX12_figures_64 : decode cX12_figures 64 = .ok (.getfield 80, 3) := zdc_550.2.2.2.2.2.1
theorem dX12_figures_67 : decode cX12_figures 67 = .ok (.invokevirtual 86, 3) := zdc_550.2.2.2.2.2.2.1
theorem dX12_figures_70 : decode cX12_figures 70 = .ok (.iadd, 1) := zdc_550.2.2.2.2.2.2.2.1
theorem dX12_figures_71 : decode cX12_figures 71 = .ok (.bipush 48, 2) := zdc_550.2.2.2.2.2.2.2.2.1
theorem dX12_figures_73 : decode cX12_figures 73 = .ok (.isub, 1) := zdc_550.2.2.2.2.2.2.2.2.2
theorem zdc_551 : decode cX12_figures 74 = .ok (.istore 4, 2) ∧ decode cX12_figures 76 = .ok (.aload_n 0, 1) ∧ decode cX12_figures 77 = .ok (.dup, 1) ∧ decode cX12_figures 78 = .ok (.getfield 80, 3) ∧ decode cX12_figures 81 = .ok (.iconst 1, 1) ∧ decode cX12_figures 82 = .ok (.iadd, 1) ∧ decode cX12_figures 83 = .ok (.putfield 80, 3) ∧ decode cX12_figures 86 = .ok (.goto (-68), 3) ∧ decode cX12_figures 89 = .ok (.aload_n 0, 1) ∧ decode cX12_figures 90 = .ok (.getfield 80, 3) := by decide +kernel
theorem dX12_figures_74 : decode cX12_figures 74 = .ok (.istore 4, 2) := zdc_551.1
theorem dX12_figures_76 : decode cX12_figures 76 = .ok (.aload_n 0, 1) := zdc_551.2.1
theorem dX12_figures_77 : decode cX12_figures 77 = .ok (.dup, 1) := zdc_551.2.2.1
theorem dX12_figures_78 : decode cX12_figures 78 = .ok (.getfield 80, 3) := zdc_551.2.2.2.1
theorem dX12_figures_81 : decode cX12_figures 81 = .ok (.iconst 1, 1) := zdc_551.2.2.2.2.1
theorem dX12_figures_82 : decode cX12_figures 82 = .ok (.iadd, 1) := zdc_551.2.2.2.2.2.1
theorem dX12_figures_83 : decode cX12_figures 83 = .ok (.putfield 80, 3) := zdc_551.2.2.2.2.2.2.1
theorem dX12_figures_86 : decode cX12_figures 86 = .ok (.goto (-68), 3) := zdc_551.2.2.2.2.2.2.2.1
theorem dX12_figures_89 : decode cX12_figures 89 = .ok (.aload_n 0, 1) := zdc_551.2.2.2.2.2.2.2.2.1
theorem dX12_figures_90 : decode cX12_figures 90 = .ok (.getfield 80, 3) := zdc_551.2.2.2.2.2.2.2.2.2
theorem zdc_552 : decode cX12_figures 93 = .ok (.iload_n 3, 1) ∧ decode cX12_figures 94 = .ok (.if_icmp .eq 25, 3) ∧ decode cX12_figures 97 = .ok (.aload_n 0, 1) ∧ decode cX12_figures 98 = .ok (.getfield 80, 3) ∧ decode cX12_figures 101 = .ok (.iload_n 3, 1) ∧ decode cX12_figures 102 = .ok (.isub, 1) ∧ decode cX12_figures 103 = .ok (.iconst 3, 1) ∧ decode cX12_figures 104 = .ok (.if_icmp .gt 15, 3) ∧ decode cX12_figures 107 = .ok (.iload 4, 2) ∧ decode cX12_figures 109 = .ok (.iload_n 1, 1) := by decide +kernel
theorem dX12_figures_93 : decode cX12_figures 93 = .ok (.iload_n 3, 1) := zdc_552.1
theorem dX12_figures_94 : decode cX12_figures 94 = .ok (.if_icmp .eq 25, 3) := zdc_552.2.1
theorem dX12_figures_97 : decode cX12_figures 97 = .ok (.aload_n 0, 1) := zdc_552.2.2.1
theorem dX12_figures_98 : decode cX12_figures 98 = .ok (.getfield 80, 3) := zdc_552.2.2.2.1
theorem dX12_figures_101 : decode cX12_figures 101 = .ok (.iload_n 3, 1) := zdc_552.2.2.2.2.1
theorem dX12_figures_102 : decode cX12_figures 102 = .ok (.isub, 1) := zdc_552.2.2.2.2.2.1
theorem dX12_figures_103 : decode cX12_figures 103 = .ok (.iconst 3, 1) := zdc_552.2.2.2.2.2.2.1
theorem dX12_figures_104 : decode cX12_figures 104 = .ok (.if_icmp .gt 15, 3) := zdc_552.2.2.2.2.2.2.2.1
theorem dX12_figures_107 : decode cX12_figures 107 = .ok (.iload 4, 2) := zdc_552.2.2.2.2.2.2.2.2.1
theorem dX12_figures_109 : decode cX12_figures 109 = .ok (.iload_n 1, 1) := zdc_552.2.2.2.2.2.2.2.2.2
theorem zdc_553 : decode cX12_figures 110 = .ok (.if_icmp .lt 9, 3) ∧ decode cX12_figures 113 = .ok (.iload 4, 2) ∧ decode cX12_figures 115 = .ok (.iload_n 2, 1) ∧ decode cX12_figures 116 = .ok (.if_icmp .le 8, 3) ∧ decode cX12_figures 119 = .ok (.aload_n 0, 1) ∧ decode cX12_figures 120 = .ok (.iload_n 3, 1) ∧ decode cX12_figures 121 = .ok (.invokevirtual 104, 3) ∧ decode cX12_figures 124 = .ok (.iload 4, 2) ∧ decode cX12_figures 126 = .ok (.ireturn, 1) ∧ decode cX12_after 0 = .ok (.aload_n 0, 1) := by decide +kernel
theorem dX12_figures_110 : decode cX12_figures 110 = .ok (.if_icmp .lt 9, 3) := zdc_553.1
theorem dX12_figures_113 : decode cX12_figures 113 = .ok (.iload 4, 2) := zdc_553.2.1
theorem dX12_figures_115 : decode cX12_figures 115 = .ok (.iload_n 2, 1) := zdc_553.2.2.1
theorem dX12_figures_116 : decode cX12_figures 116 = .ok (.if_icmp .le 8, 3) := zdc_553.2.2.2.1
theorem dX12_figures_119 : decode cX12_figures 119 = .ok (.aload_n 0, 1) := zdc_553.2.2.2.2.1
theorem dX12_figures_120 : decode cX12_figures 120 = .ok (.iload_n 3, 1) := zdc_553.2.2.2.2.2.1
theorem dX12_figures_121 : decode cX12_figures 121 = .ok (.invokevirtual 104, 3) := zdc_553.2.2.2.2.2.2.1
theorem dX12_figures_124 : decode cX12_figures 124 = .ok (.iload 4, 2) := zdc_553.2.2.2.2.2.2.2.1
theorem dX12_figures_126 : decode cX12_figures 126 = .ok (.ireturn, 1) := zdc_553.2.2.2.2.2.2.2.2.1
theorem dX12_after_0 : decode cX12_after 0 = .ok (.aload_n 0, 1) := zdc_553.2.2.2.2.2.2.2.2.2
theorem zdc_554 : decode cX12_after 1 = .ok (.getfield 25, 3) ∧ decode cX12_after 4 = .ok (.iconst (-1), 1) ∧ decode cX12_after 5 = .ok (.if_icmp .ne 19, 3) ∧ decode cX12_after 8 = .ok (.aload_n 0, 1) ∧ decode cX12_after 9 = .ok (.aload_n 1, 1) ∧ decode cX12_after 10 = .ok (.invokevirtual 108, 3) ∧ decode cX12_after 13 = .ok (.ifCond .ne 11, 3) ∧ decode cX12_after 16 = .ok (.aload_n 0, 1) ∧ decode cX12_after 17 = .ok (.aload_n 0, 1) ∧ decode cX12_after 18 = .ok (.getfield 80, 3) := by decide +kernel
theorem dX12_after_1 : decode cX12_after 1 = .ok (.getfield 25, 3) := zdc_554.1
theorem dX12_after_4 : decode cX12_after 4 = .ok (.iconst (-1), 1) := zdc_554.2.1
theorem dX12_after_5 : decode cX12_after 5 = .ok (.if_icmp .ne 19, 3) := zdc_554.2.2.1
theorem dX12_after_8 : decode cX12_after 8 = .ok (.aload_n 0, 1) := zdc_554.2.2.2.1
theorem dX12_after_9 : decode cX12_after 9 = .ok (.aload_n 1, 1) := zdc_554.2.2.2.2.1
theorem dX12_after_10 : decode cX12_after 10 = .ok (.invokevirtual 108, 3) := zdc_554.2.2.2.2.2.1
theorem dX12_after_13 : decode cX12_after 13 = .ok (.ifCond .ne 11, 3) := zdc_554.2.2.2.2.2.2.1
theorem dX12_after_16 : decode cX12_after 16 = .ok (.aload_n 0, 1) := zdc_554.2.2.2.2.2.2.2.1
theorem dX12_after_17 : decode cX12_after 17 = .ok (.aload_n 0, 1) := zdc_554.2.2.2.2.2.2.2.2.1
theorem dX12_after_18 : decode cX12_after 18 = .ok (.getfield 80, 3) := zdc_554.2.2.2.2.2.2.2.2.2
theorem zdc_555 : decode cX12_after 21 = .ok (.invokevirtual 104, 3) ∧ decode cX12_after 24 = .ok (.aload_n 0, 1) ∧ decode cX12_after 25 = .ok (.iload_n 2, 1) ∧ decode cX12_after 26 = .ok (.iload_n 3, 1) ∧ decode cX12_after 27 = .ok (.invokevirtual 112, 3) ∧ decode cX12_after 30 = .ok (.ireturn, 1) ∧ decode cX12_personLine 0 = .ok (.aload_n 0, 1) ∧ decode cX12_personLine 1 = .ok (.getfield 7, 3) ∧ decode cX12_personLine 4 = .ok (.iconst 3, 1) ∧ decode cX12_personLine 5 = .ok (.iaload, 1) := by decide +kernel
theorem dX12_after_21 : decode cX12_after 21 = .ok (.invokevirtual 104, 3) := zdc_555.1
theorem dX12_after_24 : decode cX12_after 24 = .ok (.aload_n 0, 1) := zdc_555.2.1
theorem dX12_after_25 : decode cX12_after 25 = .ok (.iload_n 2, 1) := zdc_555.2.2.1
theorem dX12_after_26 : decode cX12_after 26 = .ok (.iload_n 3, 1) := zdc_555.2.2.2.1
theorem dX12_after_27 : decode cX12_after 27 = .ok (.invokevirtual 112, 3) := zdc_555.2.2.2.2.1
theorem dX12_after_30 : decode cX12_after 30 = .ok (.ireturn, 1) := zdc_555.2.2.2.2.2.1
theorem dX12_personLine_0 : decode cX12_personLine 0 = .ok (.aload_n 0, 1) := zdc_555.2.2.2.2.2.2.1
theorem dX12_personLine_1 : decode cX12_personLine 1 = .ok (.getfield 7, 3) := zdc_555.2.2.2.2.2.2.2.1
theorem dX12_personLine_4 : decode cX12_personLine 4 = .ok (.iconst 3, 1) := zdc_555.2.2.2.2.2.2.2.2.1
theorem dX12_personLine_5 : decode cX12_personLine 5 = .ok (.iaload, 1) := zdc_555.2.2.2.2.2.2.2.2.2
theorem zdc_556 : decode cX12_personLine 6 = .ok (.bipush 8, 2) ∧ decode cX12_personLine 8 = .ok (.if_icmp .ne 8, 3) ∧ decode cX12_personLine 11 = .ok (.aload_n 0, 1) ∧ decode cX12_personLine 12 = .ok (.iload_n 1, 1) ∧ decode cX12_personLine 13 = .ok (.invokevirtual 104, 3) ∧ decode cX12_personLine 16 = .ok (.aload_n 0, 1) ∧ decode cX12_personLine 17 = .ok (.iconst 0, 1) ∧ decode cX12_personLine 18 = .ok (.bipush 99, 2) ∧ decode cX12_personLine 20 = .ok (.invokevirtual 112, 3) ∧ decode cX12_personLine 23 = .ok (.istore_n 2, 1) := by decide +kernel
theorem dX12_personLine_6 : decode cX12_personLine 6 = .ok (.bipush 8, 2) := zdc_556.1
theorem dX12_personLine_8 : decode cX12_personLine 8 = .ok (.if_icmp .ne 8, 3) := zdc_556.2.1
theorem dX12_personLine_11 : decode cX12_personLine 11 = .ok (.aload_n 0, 1) := zdc_556.2.2.1
theorem dX12_personLine_12 : decode cX12_personLine 12 = .ok (.iload_n 1, 1) := zdc_556.2.2.2.1
theorem dX12_personLine_13 : decode cX12_personLine 13 = .ok (.invokevirtual 104, 3) := zdc_556.2.2.2.2.1
theorem dX12_personLine_16 : decode cX12_personLine 16 = .ok (.aload_n 0, 1) := zdc_556.2.2.2.2.2.1
theorem dX12_personLine_17 : decode cX12_personLine 17 = .ok (.iconst 0, 1) := zdc_556.2.2.2.2.2.2.1
theorem dX12_personLine_18 : decode cX12_personLine 18 = .ok (.bipush 99, 2) := zdc_556.2.2.2.2.2.2.2.1
theorem dX12_personLine_20 : decode cX12_personLine 20 = .ok (.invokevirtual 112, 3) := zdc_556.2.2.2.2.2.2.2.2.1
theorem dX12_personLine_23 : decode cX12_personLine 23 = .ok (.istore_n 2, 1) := zdc_556.2.2.2.2.2.2.2.2.2
theorem zdc_557 : decode cX12_personLine 24 = .ok (.aload_n 0, 1) ∧ decode cX12_personLine 25 = .ok (.ldc 115, 2) ∧ decode cX12_personLine 27 = .ok (.iconst 0, 1) ∧ decode cX12_personLine 28 = .ok (.sipush 999, 3) ∧ decode cX12_personLine 31 = .ok (.invokevirtual 117, 3) ∧ decode cX12_personLine 34 = .ok (.istore_n 3, 1) ∧ decode cX12_personLine 35 = .ok (.aload_n 0, 1) ∧ decode cX12_personLine 36 = .ok (.getfield 25, 3) ∧ decode cX12_personLine 39 = .ok (.iconst (-1), 1) ∧ decode cX12_personLine 40 = .ok (.if_icmp .ne 16, 3) := by decide +kernel
theorem dX12_personLine_24 : decode cX12_personLine 24 = .ok (.aload_n 0, 1) := zdc_557.1
theorem dX12_personLine_25 : decode cX12_personLine 25 = .ok (.ldc 115, 2) := zdc_557.2.1
theorem dX12_personLine_27 : decode cX12_personLine 27 = .ok (.iconst 0, 1) := zdc_557.2.2.1
theorem dX12_personLine_28 : decode cX12_personLine 28 = .ok (.sipush 999, 3) := zdc_557.2.2.2.1
theorem dX12_personLine_31 : decode cX12_personLine 31 = .ok (.invokevirtual 117, 3) := zdc_557.2.2.2.2.1
theorem dX12_personLine_34 : decode cX12_personLine 34 = .ok (.istore_n 3, 1) := zdc_557.2.2.2.2.2.1
theorem dX12_personLine_35 : decode cX12_personLine 35 = .ok (.aload_n 0, 1) := zdc_557.2.2.2.2.2.2.1
theorem dX12_personLine_36 : decode cX12_personLine 36 = .ok (.getfield 25, 3) := zdc_557.2.2.2.2.2.2.2.1
theorem dX12_personLine_39 : decode cX12_personLine 39 = .ok (.iconst (-1), 1) := zdc_557.2.2.2.2.2.2.2.2.1
theorem dX12_personLine_40 : decode cX12_personLine 40 = .ok (.if_icmp .ne 16, 3) := zdc_557.2.2.2.2.2.2.2.2.2
theorem zdc_558 : decode cX12_personLine 43 = .ok (.aload_n 0, 1) ∧ decode cX12_personLine 44 = .ok (.ldc 121, 2) ∧ decode cX12_personLine 46 = .ok (.invokevirtual 108, 3) ∧ decode cX12_personLine 49 = .ok (.ifCond .eq 7, 3) ∧ decode cX12_personLine 52 = .ok (.iconst 1, 1) ∧ decode cX12_personLine 53 = .ok (.goto 4, 3) ∧ decode cX12_personLine 56 = .ok (.iconst 0, 1) ∧ decode cX12_personLine 57 = .ok (.istore 4, 2) ∧ decode cX12_personLine 59 = .ok (.aload_n 0, 1) ∧ decode cX12_personLine 60 = .ok (.getfield 25, 3) := by decide +kernel
theorem dX12_personLine_43 : decode cX12_personLine 43 = .ok (.aload_n 0, 1) := zdc_558.1
theorem dX12_personLine_44 : decode cX12_personLine 44 = .ok (.ldc 121, 2) := zdc_558.2.1
theorem dX12_personLine_46 : decode cX12_personLine 46 = .ok (.invokevirtual 108, 3) := zdc_558.2.2.1
theorem dX12_personLine_49 : decode cX12_personLine 49 = .ok (.ifCond .eq 7, 3) := zdc_558.2.2.2.1
theorem dX12_personLine_52 : decode cX12_personLine 52 = .ok (.iconst 1, 1) := zdc_558.2.2.2.2.1
theorem dX12_personLine_53 : decode cX12_personLine 53 = .ok (.goto 4, 3) := zdc_558.2.2.2.2.2.1
theorem dX12_personLine_56 : decode cX12_personLine 56 = .ok (.iconst 0, 1) := zdc_558.2.2.2.2.2.2.1
theorem dX12_personLine_57 : decode cX12_personLine 57 = .ok (.istore 4, 2) := zdc_558.2.2.2.2.2.2.2.1
theorem dX12_personLine_59 : decode cX12_personLine 59 = .ok (.aload_n 0, 1) := zdc_558.2.2.2.2.2.2.2.2.1
theorem dX12_personLine_60 : decode cX12_personLine 60 = .ok (.getfield 25, 3) := zdc_558.2.2.2.2.2.2.2.2.2
theorem zdc_559 : decode cX12_personLine 63 = .ok (.iconst (-1), 1) ∧ decode cX12_personLine 64 = .ok (.if_icmp .eq 4, 3) ∧ decode cX12_personLine 67 = .ok (.return_, 1) ∧ decode cX12_personLine 68 = .ok (.aload_n 0, 1) ∧ decode cX12_personLine 69 = .ok (.getfield 7, 3) ∧ decode cX12_personLine 72 = .ok (.iconst 3, 1) ∧ decode cX12_personLine 73 = .ok (.iaload, 1) ∧ decode cX12_personLine 74 = .ok (.istore 5, 2) ∧ decode cX12_personLine 76 = .ok (.aload_n 0, 1) ∧ decode cX12_personLine 77 = .ok (.iload 5, 2) := by decide +kernel
theorem dX12_personLine_63 : decode cX12_personLine 63 = .ok (.iconst (-1), 1) := zdc_559.1
theorem dX12_personLine_64 : decode cX12_personLine 64 = .ok (.if_icmp .eq 4, 3) := zdc_559.2.1
theorem dX12_personLine_67 : decode cX12_personLine 67 = .ok (.return_, 1) := zdc_559.2.2.1
theorem dX12_personLine_68 : decode cX12_personLine 68 = .ok (.aload_n 0, 1) := zdc_559.2.2.2.1
theorem dX12_personLine_69 : decode cX12_personLine 69 = .ok (.getfield 7, 3) := zdc_559.2.2.2.2.1
theorem dX12_personLine_72 : decode cX12_personLine 72 = .ok (.iconst 3, 1) := zdc_559.2.2.2.2.2.1
theorem dX12_personLine_73 : decode cX12_personLine 73 = .ok (.iaload, 1) := zdc_559.2.2.2.2.2.2.1
theorem dX12_personLine_74 : decode cX12_personLine 74 = .ok (.istore 5, 2) := zdc_559.2.2.2.2.2.2.2.1
theorem dX12_personLine_76 : decode cX12_personLine 76 = .ok (.aload_n 0, 1) := zdc_559.2.2.2.2.2.2.2.2.1
theorem dX12_personLine_77 : decode cX12_personLine 77 = .ok (.iload 5, 2) := zdc_559.2.2.2.2.2.2.2.2.2
theorem zdc_560 : decode cX12_personLine 79 = .ok (.iconst 0, 1) ∧ decode cX12_personLine 80 = .ok (.iload_n 2, 1) ∧ decode cX12_personLine 81 = .ok (.invokevirtual 123, 3) ∧ decode cX12_personLine 84 = .ok (.aload_n 0, 1) ∧ decode cX12_personLine 85 = .ok (.iload 5, 2) ∧ decode cX12_personLine 87 = .ok (.iconst 1, 1) ∧ decode cX12_personLine 88 = .ok (.iload_n 3, 1) ∧ decode cX12_personLine 89 = .ok (.invokevirtual 123, 3) ∧ decode cX12_personLine 92 = .ok (.aload_n 0, 1) ∧ decode cX12_personLine 93 = .ok (.iload 5, 2) := by decide +kernel
theorem dX12_personLine_79 : decode cX12_personLine 79 = .ok (.iconst 0, 1) := zdc_560.1
theorem dX12_personLine_80 : decode cX12_personLine 80 = .ok (.iload_n 2, 1) := zdc_560.2.1
theorem dX12_personLine_81 : decode cX12_personLine 81 = .ok (.invokevirtual 123, 3) := zdc_560.2.2.1
theorem dX12_personLine_84 : decode cX12_personLine 84 = .ok (.aload_n 0, 1) := zdc_560.2.2.2.1
theorem dX12_personLine_85 : decode cX12_personLine 85 = .ok (.iload 5, 2) := zdc_560.2.2.2.2.1
theorem dX12_personLine_87 : decode cX12_personLine 87 = .ok (.iconst 1, 1) := zdc_560.2.2.2.2.2.1
theorem dX12_personLine_88 : decode cX12_personLine 88 = .ok (.iload_n 3, 1) := zdc_560.2.2.2.2.2.2.1
theorem dX12_personLine_89 : decode cX12_personLine 89 = .ok (.invokevirtual 123, 3) := zdc_560.2.2.2.2.2.2.2.1
theorem dX12_personLine_92 : decode cX12_personLine 92 = .ok (.aload_n 0, 1) := zdc_560.2.2.2.2.2.2.2.2.1
theorem dX12_personLine_93 : decode cX12_personLine 93 = .ok (.iload 5, 2) := zdc_560.2.2.2.2.2.2.2.2.2
theorem zdc_561 : decode cX12_personLine 95 = .ok (.iconst 2, 1) ∧ decode cX12_personLine 96 = .ok (.iconst 0, 1) ∧ decode cX12_personLine 97 = .ok (.invokevirtual 123, 3) ∧ decode cX12_personLine 100 = .ok (.aload_n 0, 1) ∧ decode cX12_personLine 101 = .ok (.iload 5, 2) ∧ decode cX12_personLine 103 = .ok (.iconst 3, 1) ∧ decode cX12_personLine 104 = .ok (.iload 4, 2) ∧ decode cX12_personLine 106 = .ok (.ifCond .eq 7, 3) ∧ decode cX12_personLine 109 = .ok (.iconst 1, 1) ∧ decode cX12_personLine 110 = .ok (.goto 4, 3) := by decide +kernel
theorem dX12_personLine_95 : decode cX12_personLine 95 = .ok (.iconst 2, 1) := zdc_561.1
theorem dX12_personLine_96 : decode cX12_personLine 96 = .ok (.iconst 0, 1) := zdc_561.2.1
theorem dX12_personLine_97 : decode cX12_personLine 97 = .ok (.invokevirtual 123, 3) := zdc_561.2.2.1
theorem dX12_personLine_100 : decode cX12_personLine 100 = .ok (.aload_n 0, 1) := zdc_561.2.2.2.1
theorem dX12_personLine_101 : decode cX12_personLine 101 = .ok (.iload 5, 2) := zdc_561.2.2.2.2.1
theorem dX12_personLine_103 : decode cX12_personLine 103 = .ok (.iconst 3, 1) := zdc_561.2.2.2.2.2.1
theorem dX12_personLine_104 : decode cX12_personLine 104 = .ok (.iload 4, 2) := zdc_561.2.2.2.2.2.2.1
theorem dX12_personLine_106 : decode cX12_personLine 106 = .ok (.ifCond .eq 7, 3) := zdc_561.2.2.2.2.2.2.2.1
theorem dX12_personLine_109 : decode cX12_personLine 109 = .ok (.iconst 1, 1) := zdc_561.2.2.2.2.2.2.2.2.1
theorem dX12_personLine_110 : decode cX12_personLine 110 = .ok (.goto 4, 3) := zdc_561.2.2.2.2.2.2.2.2.2
theorem zdc_562 : decode cX12_personLine 113 = .ok (.iconst 0, 1) ∧ decode cX12_personLine 114 = .ok (.invokevirtual 123, 3) ∧ decode cX12_personLine 117 = .ok (.aload_n 0, 1) ∧ decode cX12_personLine 118 = .ok (.iload 5, 2) ∧ decode cX12_personLine 120 = .ok (.iconst 4, 1) ∧ decode cX12_personLine 121 = .ok (.iconst (-1), 1) ∧ decode cX12_personLine 122 = .ok (.invokevirtual 123, 3) ∧ decode cX12_personLine 125 = .ok (.aload_n 0, 1) ∧ decode cX12_personLine 126 = .ok (.getfield 7, 3) ∧ decode cX12_personLine 129 = .ok (.iconst 3, 1) := by decide +kernel
theorem dX12_personLine_113 : decode cX12_personLine 113 = .ok (.iconst 0, 1) := zdc_562.1
theorem dX12_personLine_114 : decode cX12_personLine 114 = .ok (.invokevirtual 123, 3) := zdc_562.2.1
theorem dX12_personLine_117 : decode cX12_personLine 117 = .ok (.aload_n 0, 1) := zdc_562.2.2.1
theorem dX12_personLine_118 : decode cX12_personLine 118 = .ok (.iload 5, 2) := zdc_562.2.2.2.1
theorem dX12_personLine_120 : decode cX12_personLine 120 = .ok (.iconst 4, 1) := zdc_562.2.2.2.2.1
theorem dX12_personLine_121 : decode cX12_personLine 121 = .ok (.iconst (-1), 1) := zdc_562.2.2.2.2.2.1
theorem dX12_personLine_122 : decode cX12_personLine 122 = .ok (.invokevirtual 123, 3) := zdc_562.2.2.2.2.2.2.1
theorem dX12_personLine_125 : decode cX12_personLine 125 = .ok (.aload_n 0, 1) := zdc_562.2.2.2.2.2.2.2.1
theorem dX12_personLine_126 : decode cX12_personLine 126 = .ok (.getfield 7, 3) := zdc_562.2.2.2.2.2.2.2.2.1
theorem dX12_personLine_129 : decode cX12_personLine 129 = .ok (.iconst 3, 1) := zdc_562.2.2.2.2.2.2.2.2.2
theorem zdc_563 : decode cX12_personLine 130 = .ok (.dup2, 1) ∧ decode cX12_personLine 131 = .ok (.iaload, 1) ∧ decode cX12_personLine 132 = .ok (.iconst 1, 1) ∧ decode cX12_personLine 133 = .ok (.iadd, 1) ∧ decode cX12_personLine 134 = .ok (.iastore, 1) ∧ decode cX12_personLine 135 = .ok (.return_, 1) ∧ decode cX12_trustsLine 0 = .ok (.aload_n 0, 1) ∧ decode cX12_trustsLine 1 = .ok (.iconst 0, 1) ∧ decode cX12_trustsLine 2 = .ok (.aload_n 0, 1) ∧ decode cX12_trustsLine 3 = .ok (.getfield 7, 3) := by decide +kernel
theorem dX12_personLine_130 : decode cX12_personLine 130 = .ok (.dup2, 1) := zdc_563.1
theorem dX12_personLine_131 : decode cX12_personLine 131 = .ok (.iaload, 1) := zdc_563.2.1
theorem dX12_personLine_132 : decode cX12_personLine 132 = .ok (.iconst 1, 1) := zdc_563.2.2.1
theorem dX12_personLine_133 : decode cX12_personLine 133 = .ok (.iadd, 1) := zdc_563.2.2.2.1
theorem dX12_personLine_134 : decode cX12_personLine 134 = .ok (.iastore, 1) := zdc_563.2.2.2.2.1
theorem dX12_personLine_135 : decode cX12_personLine 135 = .ok (.return_, 1) := zdc_563.2.2.2.2.2.1
theorem dX12_trustsLine_0 : decode cX12_trustsLine 0 = .ok (.aload_n 0, 1) := zdc_563.2.2.2.2.2.2.1
theorem dX12_trustsLine_1 : decode cX12_trustsLine 1 = .ok (.iconst 0, 1) := zdc_563.2.2.2.2.2.2.2.1
theorem dX12_trustsLine_2 : decode cX12_trustsLine 2 = .ok (.aload_n 0, 1) := zdc_563.2.2.2.2.2.2.2.2.1
theorem dX12_trustsLine_3 : decode cX12_trustsLine 3 = .ok (.getfield 7, 3) := zdc_563.2.2.2.2.2.2.2.2.2
theorem zdc_564 : decode cX12_trustsLine 6 = .ok (.iconst 3, 1) ∧ decode cX12_trustsLine 7 = .ok (.iaload, 1) ∧ decode cX12_trustsLine 8 = .ok (.iconst 1, 1) ∧ decode cX12_trustsLine 9 = .ok (.isub, 1) ∧ decode cX12_trustsLine 10 = .ok (.invokevirtual 112, 3) ∧ decode cX12_trustsLine 13 = .ok (.istore_n 1, 1) ∧ decode cX12_trustsLine 14 = .ok (.aload_n 0, 1) ∧ decode cX12_trustsLine 15 = .ok (.invokevirtual 101, 3) ∧ decode cX12_trustsLine 18 = .ok (.istore_n 2, 1) ∧ decode cX12_trustsLine 19 = .ok (.iconst 0, 1) := by decide +kernel
theorem dX12_trustsLine_6 : decode cX12_trustsLine 6 = .ok (.iconst 3, 1) := zdc_564.1
theorem dX12_trustsLine_7 : decode cX12_trustsLine 7 = .ok (.iaload, 1) := zdc_564.2.1
theorem dX12_trustsLine_8 : decode cX12_trustsLine 8 = .ok (.iconst 1, 1) := zdc_564.2.2.1
theorem dX12_trustsLine_9 : decode cX12_trustsLine 9 = .ok (.isub, 1) := zdc_564.2.2.2.1
theorem dX12_trustsLine_10 : decode cX12_trustsLine 10 = .ok (.invokevirtual 112, 3) := zdc_564.2.2.2.2.1
theorem dX12_trustsLine_13 : decode cX12_trustsLine 13 = .ok (.istore_n 1, 1) := zdc_564.2.2.2.2.2.1
theorem dX12_trustsLine_14 : decode cX12_trustsLine 14 = .ok (.aload_n 0, 1) := zdc_564.2.2.2.2.2.2.1
theorem dX12_trustsLine_15 : decode cX12_trustsLine 15 = .ok (.invokevirtual 101, 3) := zdc_564.2.2.2.2.2.2.2.1
theorem dX12_trustsLine_18 : decode cX12_trustsLine 18 = .ok (.istore_n 2, 1) := zdc_564.2.2.2.2.2.2.2.2.1
theorem dX12_trustsLine_19 : decode cX12_trustsLine 19 = .ok (.iconst 0, 1) := zdc_564.2.2.2.2.2.2.2.2.2
theorem zdc_565 : decode cX12_trustsLine 20 = .ok (.istore_n 3, 1) ∧ decode cX12_trustsLine 21 = .ok (.aload_n 0, 1) ∧ decode cX12_trustsLine 22 = .ok (.getfield 25, 3) ∧ decode cX12_trustsLine 25 = .ok (.iconst (-1), 1) ∧ decode cX12_trustsLine 26 = .ok (.if_icmp .ne 36, 3) ∧ decode cX12_trustsLine 29 = .ok (.iload_n 2, 1) ∧ decode cX12_trustsLine 30 = .ok (.iload_n 3, 1) ∧ decode cX12_trustsLine 31 = .ok (.iadd, 1) ∧ decode cX12_trustsLine 32 = .ok (.aload_n 0, 1) ∧ decode cX12_trustsLine 33 = .ok (.getfield 83, 3) := by decide +kernel
theorem dX12_trustsLine_20 : decode cX12_trustsLine 20 = .ok (.istore_n 3, 1) := zdc_565.1
theorem dX12_trustsLine_21 : decode cX12_trustsLine 21 = .ok (.aload_n 0, 1) := zdc_565.2.1
theorem dX12_trustsLine_22 : decode cX12_trustsLine 22 = .ok (.getfield 25, 3) := zdc_565.2.2.1
theorem dX12_trustsLine_25 : decode cX12_trustsLine 25 = .ok (.iconst (-1), 1) := zdc_565.2.2.2.1
theorem dX12_trustsLine_26 : decode cX12_trustsLine 26 = .ok (.if_icmp .ne 36, 3) := zdc_565.2.2.2.2.1
theorem dX12_trustsLine_29 : decode cX12_trustsLine 29 = .ok (.iload_n 2, 1) := zdc_565.2.2.2.2.2.1
theorem dX12_trustsLine_30 : decode cX12_trustsLine 30 = .ok (.iload_n 3, 1) := zdc_565.2.2.2.2.2.2.1
theorem dX12_trustsLine_31 : decode cX12_trustsLine 31 = .ok (.iadd, 1) := zdc_565.2.2.2.2.2.2.2.1
theorem dX12_trustsLine_32 : decode cX12_trustsLine 32 = .ok (.aload_n 0, 1) := zdc_565.2.2.2.2.2.2.2.2.1
theorem dX12_trustsLine_33 : decode cX12_trustsLine 33 = .ok (.getfield 83, 3) := zdc_565.2.2.2.2.2.2.2.2.2
theorem zdc_566 : decode cX12_trustsLine 36 = .ok (.if_icmp .ge 26, 3) ∧ decode cX12_trustsLine 39 = .ok (.aload_n 0, 1) ∧ decode cX12_trustsLine 40 = .ok (.iload_n 2, 1) ∧ decode cX12_trustsLine 41 = .ok (.iload_n 3, 1) ∧ decode cX12_trustsLine 42 = .ok (.iadd, 1) ∧ decode cX12_trustsLine 43 = .ok (.invokevirtual 86, 3) ∧ decode cX12_trustsLine 46 = .ok (.bipush 48, 2) ∧ decode cX12_trustsLine 48 = .ok (.bipush 57, 2) ∧ decode cX12_trustsLine 50 = .ok (.invokestatic 42, 3) ∧ decode cX12_trustsLine 53 = .ok (.ifCond .eq 9, 3) := by decide +kernel
theorem dX12_trustsLine_36 : decode cX12_trustsLine 36 = .ok (.if_icmp .ge 26, 3) := zdc_566.1
theorem dX12_trustsLine_39 : decode cX12_trustsLine 39 = .ok (.aload_n 0, 1) := zdc_566.2.1
theorem dX12_trustsLine_40 : decode cX12_trustsLine 40 = .ok (.iload_n 2, 1) := zdc_566.2.2.1
theorem dX12_trustsLine_41 : decode cX12_trustsLine 41 = .ok (.iload_n 3, 1) := zdc_566.2.2.2.1
theorem dX12_trustsLine_42 : decode cX12_trustsLine 42 = .ok (.iadd, 1) := zdc_566.2.2.2.2.1
theorem dX12_trustsLine_43 : decode cX12_trustsLine 43 = .ok (.invokevirtual 86, 3) := zdc_566.2.2.2.2.2.1
theorem dX12_trustsLine_46 : decode cX12_trustsLine 46 = .ok (.bipush 48, 2) := zdc_566.2.2.2.2.2.2.1
theorem dX12_trustsLine_48 : decode cX12_trustsLine 48 = .ok (.bipush 57, 2) := zdc_566.2.2.2.2.2.2.2.1
theorem dX12_trustsLine_50 : decode cX12_trustsLine 50 = .ok (.invokestatic 42, 3) := zdc_566.2.2.2.2.2.2.2.2.1
theorem dX12_trustsLine_53 : decode cX12_trustsLine 53 = .ok (.ifCond .eq 9, 3) := zdc_566.2.2.2.2.2.2.2.2.2
theorem zdc_567 : decode cX12_trustsLine 56 = .ok (.iinc 3 1, 3) ∧ decode cX12_trustsLine 59 = .ok (.goto (-38), 3) ∧ decode cX12_trustsLine 62 = .ok (.iload_n 3, 1) ∧ decode cX12_trustsLine 63 = .ok (.aload_n 0, 1) ∧ decode cX12_trustsLine 64 = .ok (.getfield 7, 3) ∧ decode cX12_trustsLine 67 = .ok (.iconst 3, 1) ∧ decode cX12_trustsLine 68 = .ok (.iaload, 1) ∧ decode cX12_trustsLine 69 = .ok (.if_icmp .eq 8, 3) ∧ decode cX12_trustsLine 72 = .ok (.aload_n 0, 1) ∧ decode cX12_trustsLine 73 = .ok (.iload_n 2, 1) := by decide +kernel
theorem dX12_trustsLine_56 : decode cX12_trustsLine 56 = .ok (.iinc 3 1, 3) := zdc_567.1
theorem dX12_trustsLine_59 : decode cX12_trustsLine 59 = .ok (.goto (-38), 3) := zdc_567.2.1
theorem dX12_trustsLine_62 : decode cX12_trustsLine 62 = .ok (.iload_n 3, 1) := zdc_567.2.2.1
theorem dX12_trustsLine_63 : decode cX12_trustsLine 63 = .ok (.aload_n 0, 1) := zdc_567.2.2.2.1
theorem dX12_trustsLine_64 : decode cX12_trustsLine 64 = .ok (.getfield 7, 3) := zdc_567.2.2.2.2.1
theorem dX12_trustsLine_67 : decode cX12_trustsLine 67 = .ok (.iconst 3, 1) := zdc_567.2.2.2.2.2.1
theorem dX12_trustsLine_68 : decode cX12_trustsLine 68 = .ok (.iaload, 1) := zdc_567.2.2.2.2.2.2.1
theorem dX12_trustsLine_69 : decode cX12_trustsLine 69 = .ok (.if_icmp .eq 8, 3) := zdc_567.2.2.2.2.2.2.2.1
theorem dX12_trustsLine_72 : decode cX12_trustsLine 72 = .ok (.aload_n 0, 1) := zdc_567.2.2.2.2.2.2.2.2.1
theorem dX12_trustsLine_73 : decode cX12_trustsLine 73 = .ok (.iload_n 2, 1) := zdc_567.2.2.2.2.2.2.2.2.2
theorem zdc_568 : decode cX12_trustsLine 74 = .ok (.invokevirtual 104, 3) ∧ decode cX12_trustsLine 77 = .ok (.aload_n 0, 1) ∧ decode cX12_trustsLine 78 = .ok (.getfield 25, 3) ∧ decode cX12_trustsLine 81 = .ok (.iconst (-1), 1) ∧ decode cX12_trustsLine 82 = .ok (.if_icmp .eq 4, 3) ∧ decode cX12_trustsLine 85 = .ok (.return_, 1) ∧ decode cX12_trustsLine 86 = .ok (.iconst 0, 1) ∧ decode cX12_trustsLine 87 = .ok (.istore 4, 2) ∧ decode cX12_trustsLine 89 = .ok (.iload 4, 2) ∧ decode cX12_trustsLine 91 = .ok (.iload_n 3, 1) := by decide +kernel
theorem dX12_trustsLine_74 : decode cX12_trustsLine 74 = .ok (.invokevirtual 104, 3) := zdc_568.1
theorem dX12_trustsLine_77 : decode cX12_trustsLine 77 = .ok (.aload_n 0, 1) := zdc_568.2.1
theorem dX12_trustsLine_78 : decode cX12_trustsLine 78 = .ok (.getfield 25, 3) := zdc_568.2.2.1
theorem dX12_trustsLine_81 : decode cX12_trustsLine 81 = .ok (.iconst (-1), 1) := zdc_568.2.2.2.1
theorem dX12_trustsLine_82 : decode cX12_trustsLine 82 = .ok (.if_icmp .eq 4, 3) := zdc_568.2.2.2.2.1
theorem dX12_trustsLine_85 : decode cX12_trustsLine 85 = .ok (.return_, 1) := zdc_568.2.2.2.2.2.1
theorem dX12_trustsLine_86 : decode cX12_trustsLine 86 = .ok (.iconst 0, 1) := zdc_568.2.2.2.2.2.2.1
theorem dX12_trustsLine_87 : decode cX12_trustsLine 87 = .ok (.istore 4, 2) := zdc_568.2.2.2.2.2.2.2.1
theorem dX12_trustsLine_89 : decode cX12_trustsLine 89 = .ok (.iload 4, 2) := zdc_568.2.2.2.2.2.2.2.2.1
theorem dX12_trustsLine_91 : decode cX12_trustsLine 91 = .ok (.iload_n 3, 1) := zdc_568.2.2.2.2.2.2.2.2.2
theorem zdc_569 : decode cX12_trustsLine 92 = .ok (.if_icmp .ge 35, 3) ∧ decode cX12_trustsLine 95 = .ok (.aload_n 0, 1) ∧ decode cX12_trustsLine 96 = .ok (.getfield 7, 3) ∧ decode cX12_trustsLine 99 = .ok (.bipush 51, 2) ∧ decode cX12_trustsLine 101 = .ok (.bipush 8, 2) ∧ decode cX12_trustsLine 103 = .ok (.iload_n 1, 1) ∧ decode cX12_trustsLine 104 = .ok (.imul, 1) ∧ decode cX12_trustsLine 105 = .ok (.iadd, 1) ∧ decode cX12_trustsLine 106 = .ok (.iload 4, 2) ∧ decode cX12_trustsLine 108 = .ok (.iadd, 1) := by decide +kernel
theorem dX12_trustsLine_92 : decode cX12_trustsLine 92 = .ok (.if_icmp .ge 35, 3) := zdc_569.1
theorem dX12_trustsLine_95 : decode cX12_trustsLine 95 = .ok (.aload_n 0, 1) := zdc_569.2.1
theorem dX12_trustsLine_96 : decode cX12_trustsLine 96 = .ok (.getfield 7, 3) := zdc_569.2.2.1
theorem dX12_trustsLine_99 : decode cX12_trustsLine 99 = .ok (.bipush 51, 2) := zdc_569.2.2.2.1
theorem dX12_trustsLine_101 : decode cX12_trustsLine 101 = .ok (.bipush 8, 2) := zdc_569.2.2.2.2.1
theorem dX12_trustsLine_103 : decode cX12_trustsLine 103 = .ok (.iload_n 1, 1) := zdc_569.2.2.2.2.2.1
theorem dX12_trustsLine_104 : decode cX12_trustsLine 104 = .ok (.imul, 1) := zdc_569.2.2.2.2.2.2.1
theorem dX12_trustsLine_105 : decode cX12_trustsLine 105 = .ok (.iadd, 1) := zdc_569.2.2.2.2.2.2.2.1
theorem dX12_trustsLine_106 : decode cX12_trustsLine 106 = .ok (.iload 4, 2) := zdc_569.2.2.2.2.2.2.2.2.1
theorem dX12_trustsLine_108 : decode cX12_trustsLine 108 = .ok (.iadd, 1) := zdc_569.2.2.2.2.2.2.2.2.2
theorem zdc_570 : decode cX12_trustsLine 109 = .ok (.aload_n 0, 1) ∧ decode cX12_trustsLine 110 = .ok (.iload_n 2, 1) ∧ decode cX12_trustsLine 111 = .ok (.iload 4, 2) ∧ decode cX12_trustsLine 113 = .ok (.iadd, 1) ∧ decode cX12_trustsLine 114 = .ok (.invokevirtual 86, 3) ∧ decode cX12_trustsLine 117 = .ok (.bipush 48, 2) ∧ decode cX12_trustsLine 119 = .ok (.isub, 1) ∧ decode cX12_trustsLine 120 = .ok (.iastore, 1) ∧ decode cX12_trustsLine 121 = .ok (.iinc 4 1, 3) ∧ decode cX12_trustsLine 124 = .ok (.goto (-35), 3) := by decide +kernel
theorem dX12_trustsLine_109 : decode cX12_trustsLine 109 = .ok (.aload_n 0, 1) := zdc_570.1
theorem dX12_trustsLine_110 : decode cX12_trustsLine 110 = .ok (.iload_n 2, 1) := zdc_570.2.1
theorem dX12_trustsLine_111 : decode cX12_trustsLine 111 = .ok (.iload 4, 2) := zdc_570.2.2.1
theorem dX12_trustsLine_113 : decode cX12_trustsLine 113 = .ok (.iadd, 1) := zdc_570.2.2.2.1
theorem dX12_trustsLine_114 : decode cX12_trustsLine 114 = .ok (.invokevirtual 86, 3) := zdc_570.2.2.2.2.1
theorem dX12_trustsLine_117 : decode cX12_trustsLine 117 = .ok (.bipush 48, 2) := zdc_570.2.2.2.2.2.1
theorem dX12_trustsLine_119 : decode cX12_trustsLine 119 = .ok (.isub, 1) := zdc_570.2.2.2.2.2.2.1
theorem dX12_trustsLine_120 : decode cX12_trustsLine 120 = .ok (.iastore, 1) := zdc_570.2.2.2.2.2.2.2.1
theorem dX12_trustsLine_121 : decode cX12_trustsLine 121 = .ok (.iinc 4 1, 3) := zdc_570.2.2.2.2.2.2.2.2.1
theorem dX12_trustsLine_124 : decode cX12_trustsLine 124 = .ok (.goto (-35), 3) := zdc_570.2.2.2.2.2.2.2.2.2
theorem zdc_571 : decode cX12_trustsLine 127 = .ok (.aload_n 0, 1) ∧ decode cX12_trustsLine 128 = .ok (.iload_n 2, 1) ∧ decode cX12_trustsLine 129 = .ok (.iload_n 3, 1) ∧ decode cX12_trustsLine 130 = .ok (.iadd, 1) ∧ decode cX12_trustsLine 131 = .ok (.putfield 80, 3) ∧ decode cX12_trustsLine 134 = .ok (.return_, 1) ∧ decode cX12_workLine 0 = .ok (.aload_n 0, 1) ∧ decode cX12_workLine 1 = .ok (.getfield 7, 3) ∧ decode cX12_workLine 4 = .ok (.iconst 4, 1) ∧ decode cX12_workLine 5 = .ok (.iaload, 1) := by decide +kernel
theorem dX12_trustsLine_127 : decode cX12_trustsLine 127 = .ok (.aload_n 0, 1) := zdc_571.1
theorem dX12_trustsLine_128 : decode cX12_trustsLine 128 = .ok (.iload_n 2, 1) := zdc_571.2.1
theorem dX12_trustsLine_129 : decode cX12_trustsLine 129 = .ok (.iload_n 3, 1) := zdc_571.2.2.1
theorem dX12_trustsLine_130 : decode cX12_trustsLine 130 = .ok (.iadd, 1) := zdc_571.2.2.2.1
theorem dX12_trustsLine_131 : decode cX12_trustsLine 131 = .ok (.putfield 80, 3) := zdc_571.2.2.2.2.1
theorem dX12_trustsLine_134 : decode cX12_trustsLine 134 = .ok (.return_, 1) := zdc_571.2.2.2.2.2.1
theorem dX12_workLine_0 : decode cX12_workLine 0 = .ok (.aload_n 0, 1) := zdc_571.2.2.2.2.2.2.1
theorem dX12_workLine_1 : decode cX12_workLine 1 = .ok (.getfield 7, 3) := zdc_571.2.2.2.2.2.2.2.1
theorem dX12_workLine_4 : decode cX12_workLine 4 = .ok (.iconst 4, 1) := zdc_571.2.2.2.2.2.2.2.2.1
theorem dX12_workLine_5 : decode cX12_workLine 5 = .ok (.iaload, 1) := zdc_571.2.2.2.2.2.2.2.2.2
theorem zdc_572 : decode cX12_workLine 6 = .ok (.bipush 6, 2) ∧ decode cX12_workLine 8 = .ok (.if_icmp .ne 8, 3) ∧ decode cX12_workLine 11 = .ok (.aload_n 0, 1) ∧ decode cX12_workLine 12 = .ok (.iload_n 1, 1) ∧ decode cX12_workLine 13 = .ok (.invokevirtual 104, 3) ∧ decode cX12_workLine 16 = .ok (.aload_n 0, 1) ∧ decode cX12_workLine 17 = .ok (.iconst 1, 1) ∧ decode cX12_workLine 18 = .ok (.bipush 99, 2) ∧ decode cX12_workLine 20 = .ok (.invokevirtual 112, 3) ∧ decode cX12_workLine 23 = .ok (.istore_n 2, 1) := by decide +kernel
theorem dX12_workLine_6 : decode cX12_workLine 6 = .ok (.bipush 6, 2) := zdc_572.1
theorem dX12_workLine_8 : decode cX12_workLine 8 = .ok (.if_icmp .ne 8, 3) := zdc_572.2.1
theorem dX12_workLine_11 : decode cX12_workLine 11 = .ok (.aload_n 0, 1) := zdc_572.2.2.1
theorem dX12_workLine_12 : decode cX12_workLine 12 = .ok (.iload_n 1, 1) := zdc_572.2.2.2.1
theorem dX12_workLine_13 : decode cX12_workLine 13 = .ok (.invokevirtual 104, 3) := zdc_572.2.2.2.2.1
theorem dX12_workLine_16 : decode cX12_workLine 16 = .ok (.aload_n 0, 1) := zdc_572.2.2.2.2.2.1
theorem dX12_workLine_17 : decode cX12_workLine 17 = .ok (.iconst 1, 1) := zdc_572.2.2.2.2.2.2.1
theorem dX12_workLine_18 : decode cX12_workLine 18 = .ok (.bipush 99, 2) := zdc_572.2.2.2.2.2.2.2.1
theorem dX12_workLine_20 : decode cX12_workLine 20 = .ok (.invokevirtual 112, 3) := zdc_572.2.2.2.2.2.2.2.2.1
theorem dX12_workLine_23 : decode cX12_workLine 23 = .ok (.istore_n 2, 1) := zdc_572.2.2.2.2.2.2.2.2.2
theorem zdc_573 : decode cX12_workLine 24 = .ok (.aload_n 0, 1) ∧ decode cX12_workLine 25 = .ok (.ldc 127, 2) ∧ decode cX12_workLine 27 = .ok (.iconst 0, 1) ∧ decode cX12_workLine 28 = .ok (.sipush 799, 3) ∧ decode cX12_workLine 31 = .ok (.invokevirtual 117, 3) ∧ decode cX12_workLine 34 = .ok (.istore_n 3, 1) ∧ decode cX12_workLine 35 = .ok (.aload_n 0, 1) ∧ decode cX12_workLine 36 = .ok (.ldc 129, 2) ∧ decode cX12_workLine 38 = .ok (.iconst 0, 1) ∧ decode cX12_workLine 39 = .ok (.bipush 20, 2) := by decide +kernel
theorem dX12_workLine_24 : decode cX12_workLine 24 = .ok (.aload_n 0, 1) := zdc_573.1
theorem dX12_workLine_25 : decode cX12_workLine 25 = .ok (.ldc 127, 2) := zdc_573.2.1
theorem dX12_workLine_27 : decode cX12_workLine 27 = .ok (.iconst 0, 1) := zdc_573.2.2.1
theorem dX12_workLine_28 : decode cX12_workLine 28 = .ok (.sipush 799, 3) := zdc_573.2.2.2.1
theorem dX12_workLine_31 : decode cX12_workLine 31 = .ok (.invokevirtual 117, 3) := zdc_573.2.2.2.2.1
theorem dX12_workLine_34 : decode cX12_workLine 34 = .ok (.istore_n 3, 1) := zdc_573.2.2.2.2.2.1
theorem dX12_workLine_35 : decode cX12_workLine 35 = .ok (.aload_n 0, 1) := zdc_573.2.2.2.2.2.2.1
theorem dX12_workLine_36 : decode cX12_workLine 36 = .ok (.ldc 129, 2) := zdc_573.2.2.2.2.2.2.2.1
theorem dX12_workLine_38 : decode cX12_workLine 38 = .ok (.iconst 0, 1) := zdc_573.2.2.2.2.2.2.2.2.1
theorem dX12_workLine_39 : decode cX12_workLine 39 = .ok (.bipush 20, 2) := zdc_573.2.2.2.2.2.2.2.2.2
theorem zdc_574 : decode cX12_workLine 41 = .ok (.invokevirtual 117, 3) ∧ decode cX12_workLine 44 = .ok (.istore 4, 2) ∧ decode cX12_workLine 46 = .ok (.aload_n 0, 1) ∧ decode cX12_workLine 47 = .ok (.getfield 25, 3) ∧ decode cX12_workLine 50 = .ok (.iconst (-1), 1) ∧ decode cX12_workLine 51 = .ok (.if_icmp .eq 4, 3) ∧ decode cX12_workLine 54 = .ok (.return_, 1) ∧ decode cX12_workLine 55 = .ok (.aload_n 0, 1) ∧ decode cX12_workLine 56 = .ok (.getfield 7, 3) ∧ decode cX12_workLine 59 = .ok (.iconst 4, 1) := by decide +kernel
theorem dX12_workLine_41 : decode cX12_workLine 41 = .ok (.invokevirtual 117, 3) := zdc_574.1
theorem dX12_workLine_44 : decode cX12_workLine 44 = .ok (.istore 4, 2) := zdc_574.2.1
theorem dX12_workLine_46 : decode cX12_workLine 46 = .ok (.aload_n 0, 1) := zdc_574.2.2.1
theorem dX12_workLine_47 : decode cX12_workLine 47 = .ok (.getfield 25, 3) := zdc_574.2.2.2.1
theorem dX12_workLine_50 : decode cX12_workLine 50 = .ok (.iconst (-1), 1) := zdc_574.2.2.2.2.1
theorem dX12_workLine_51 : decode cX12_workLine 51 = .ok (.if_icmp .eq 4, 3) := zdc_574.2.2.2.2.2.1
theorem dX12_workLine_54 : decode cX12_workLine 54 = .ok (.return_, 1) := zdc_574.2.2.2.2.2.2.1
theorem dX12_workLine_55 : decode cX12_workLine 55 = .ok (.aload_n 0, 1) := zdc_574.2.2.2.2.2.2.2.1
theorem dX12_workLine_56 : decode cX12_workLine 56 = .ok (.getfield 7, 3) := zdc_574.2.2.2.2.2.2.2.2.1
theorem dX12_workLine_59 : decode cX12_workLine 59 = .ok (.iconst 4, 1) := zdc_574.2.2.2.2.2.2.2.2.2
theorem zdc_575 : decode cX12_workLine 60 = .ok (.iaload, 1) ∧ decode cX12_workLine 61 = .ok (.istore 5, 2) ∧ decode cX12_workLine 63 = .ok (.aload_n 0, 1) ∧ decode cX12_workLine 64 = .ok (.iload 5, 2) ∧ decode cX12_workLine 66 = .ok (.iconst 0, 1) ∧ decode cX12_workLine 67 = .ok (.iload_n 2, 1) ∧ decode cX12_workLine 68 = .ok (.invokevirtual 131, 3) ∧ decode cX12_workLine 71 = .ok (.aload_n 0, 1) ∧ decode cX12_workLine 72 = .ok (.iload 5, 2) ∧ decode cX12_workLine 74 = .ok (.iconst 1, 1) := by decide +kernel
theorem dX12_workLine_60 : decode cX12_workLine 60 = .ok (.iaload, 1) := zdc_575.1
theorem dX12_workLine_61 : decode cX12_workLine 61 = .ok (.istore 5, 2) := zdc_575.2.1
theorem dX12_workLine_63 : decode cX12_workLine 63 = .ok (.aload_n 0, 1) := zdc_575.2.2.1
theorem dX12_workLine_64 : decode cX12_workLine 64 = .ok (.iload 5, 2) := zdc_575.2.2.2.1
theorem dX12_workLine_66 : decode cX12_workLine 66 = .ok (.iconst 0, 1) := zdc_575.2.2.2.2.1
theorem dX12_workLine_67 : decode cX12_workLine 67 = .ok (.iload_n 2, 1) := zdc_575.2.2.2.2.2.1
theorem dX12_workLine_68 : decode cX12_workLine 68 = .ok (.invokevirtual 131, 3) := zdc_575.2.2.2.2.2.2.1
theorem dX12_workLine_71 : decode cX12_workLine 71 = .ok (.aload_n 0, 1) := zdc_575.2.2.2.2.2.2.2.1
theorem dX12_workLine_72 : decode cX12_workLine 72 = .ok (.iload 5, 2) := zdc_575.2.2.2.2.2.2.2.2.1
theorem dX12_workLine_74 : decode cX12_workLine 74 = .ok (.iconst 1, 1) := zdc_575.2.2.2.2.2.2.2.2.2
theorem zdc_576 : decode cX12_workLine 75 = .ok (.iload_n 3, 1) ∧ decode cX12_workLine 76 = .ok (.invokevirtual 131, 3) ∧ decode cX12_workLine 79 = .ok (.aload_n 0, 1) ∧ decode cX12_workLine 80 = .ok (.iload 5, 2) ∧ decode cX12_workLine 82 = .ok (.iconst 2, 1) ∧ decode cX12_workLine 83 = .ok (.iload 4, 2) ∧ decode cX12_workLine 85 = .ok (.invokevirtual 131, 3) ∧ decode cX12_workLine 88 = .ok (.aload_n 0, 1) ∧ decode cX12_workLine 89 = .ok (.iload 5, 2) ∧ decode cX12_workLine 91 = .ok (.iconst 3, 1) := by decide +kernel
theorem dX12_workLine_75 : decode cX12_workLine 75 = .ok (.iload_n 3, 1) := zdc_576.1
theorem dX12_workLine_76 : decode cX12_workLine 76 = .ok (.invokevirtual 131, 3) := zdc_576.2.1
theorem dX12_workLine_79 : decode cX12_workLine 79 = .ok (.aload_n 0, 1) := zdc_576.2.2.1
theorem dX12_workLine_80 : decode cX12_workLine 80 = .ok (.iload 5, 2) := zdc_576.2.2.2.1
theorem dX12_workLine_82 : decode cX12_workLine 82 = .ok (.iconst 2, 1) := zdc_576.2.2.2.2.1
theorem dX12_workLine_83 : decode cX12_workLine 83 = .ok (.iload 4, 2) := zdc_576.2.2.2.2.2.1
theorem dX12_workLine_85 : decode cX12_workLine 85 = .ok (.invokevirtual 131, 3) := zdc_576.2.2.2.2.2.2.1
theorem dX12_workLine_88 : decode cX12_workLine 88 = .ok (.aload_n 0, 1) := zdc_576.2.2.2.2.2.2.2.1
theorem dX12_workLine_89 : decode cX12_workLine 89 = .ok (.iload 5, 2) := zdc_576.2.2.2.2.2.2.2.2.1
theorem dX12_workLine_91 : decode cX12_workLine 91 = .ok (.iconst 3, 1) := zdc_576.2.2.2.2.2.2.2.2.2
theorem zdc_577 : decode cX12_workLine 92 = .ok (.iconst 0, 1) ∧ decode cX12_workLine 93 = .ok (.invokevirtual 131, 3) ∧ decode cX12_workLine 96 = .ok (.aload_n 0, 1) ∧ decode cX12_workLine 97 = .ok (.getfield 7, 3) ∧ decode cX12_workLine 100 = .ok (.iconst 4, 1) ∧ decode cX12_workLine 101 = .ok (.dup2, 1) ∧ decode cX12_workLine 102 = .ok (.iaload, 1) ∧ decode cX12_workLine 103 = .ok (.iconst 1, 1) ∧ decode cX12_workLine 104 = .ok (.iadd, 1) ∧ decode cX12_workLine 105 = .ok (.iastore, 1) := by decide +kernel
theorem dX12_workLine_92 : decode cX12_workLine 92 = .ok (.iconst 0, 1) := zdc_577.1
theorem dX12_workLine_93 : decode cX12_workLine 93 = .ok (.invokevirtual 131, 3) := zdc_577.2.1
theorem dX12_workLine_96 : decode cX12_workLine 96 = .ok (.aload_n 0, 1) := zdc_577.2.2.1
theorem dX12_workLine_97 : decode cX12_workLine 97 = .ok (.getfield 7, 3) := zdc_577.2.2.2.1
theorem dX12_workLine_100 : decode cX12_workLine 100 = .ok (.iconst 4, 1) := zdc_577.2.2.2.2.1
theorem dX12_workLine_101 : decode cX12_workLine 101 = .ok (.dup2, 1) := zdc_577.2.2.2.2.2.1
theorem dX12_workLine_102 : decode cX12_workLine 102 = .ok (.iaload, 1) := zdc_577.2.2.2.2.2.2.1
theorem dX12_workLine_103 : decode cX12_workLine 103 = .ok (.iconst 1, 1) := zdc_577.2.2.2.2.2.2.2.1
theorem dX12_workLine_104 : decode cX12_workLine 104 = .ok (.iadd, 1) := zdc_577.2.2.2.2.2.2.2.2.1
theorem dX12_workLine_105 : decode cX12_workLine 105 = .ok (.iastore, 1) := zdc_577.2.2.2.2.2.2.2.2.2
theorem zdc_578 : decode cX12_workLine 106 = .ok (.return_, 1) ∧ decode cX12_tells 0 = .ok (.aload_n 0, 1) ∧ decode cX12_tells 1 = .ok (.iload_n 2, 1) ∧ decode cX12_tells 2 = .ok (.iload_n 3, 1) ∧ decode cX12_tells 3 = .ok (.invokevirtual 112, 3) ∧ decode cX12_tells 6 = .ok (.istore 4, 2) ∧ decode cX12_tells 8 = .ok (.aload_n 0, 1) ∧ decode cX12_tells 9 = .ok (.getfield 25, 3) ∧ decode cX12_tells 12 = .ok (.iconst (-1), 1) ∧ decode cX12_tells 13 = .ok (.if_icmp .ne 11, 3) := by decide +kernel
theorem dX12_workLine_106 : decode cX12_workLine 106 = .ok (.return_, 1) := zdc_578.1
theorem dX12_tells_0 : decode cX12_tells 0 = .ok (.aload_n 0, 1) := zdc_578.2.1
theorem dX12_tells_1 : decode cX12_tells 1 = .ok (.iload_n 2, 1) := zdc_578.2.2.1
theorem dX12_tells_2 : decode cX12_tells 2 = .ok (.iload_n 3, 1) := zdc_578.2.2.2.1
theorem dX12_tells_3 : decode cX12_tells 3 = .ok (.invokevirtual 112, 3) := zdc_578.2.2.2.2.1
theorem dX12_tells_6 : decode cX12_tells 6 = .ok (.istore 4, 2) := zdc_578.2.2.2.2.2.1
theorem dX12_tells_8 : decode cX12_tells 8 = .ok (.aload_n 0, 1) := zdc_578.2.2.2.2.2.2.1
theorem dX12_tells_9 : decode cX12_tells 9 = .ok (.getfield 25, 3) := zdc_578.2.2.2.2.2.2.2.1
theorem dX12_tells_12 : decode cX12_tells 12 = .ok (.iconst (-1), 1) := zdc_578.2.2.2.2.2.2.2.2.1
theorem dX12_tells_13 : decode cX12_tells 13 = .ok (.if_icmp .ne 11, 3) := zdc_578.2.2.2.2.2.2.2.2.2
theorem zdc_579 : decode cX12_tells 16 = .ok (.aload_n 0, 1) ∧ decode cX12_tells 17 = .ok (.getfield 7, 3) ∧ decode cX12_tells 20 = .ok (.iload_n 1, 1) ∧ decode cX12_tells 21 = .ok (.iload 4, 2) ∧ decode cX12_tells 23 = .ok (.iastore, 1) ∧ decode cX12_tells 24 = .ok (.return_, 1) ∧ decode cX12_townLine 0 = .ok (.aload_n 0, 1) ∧ decode cX12_townLine 1 = .ok (.invokevirtual 101, 3) ∧ decode cX12_townLine 4 = .ok (.istore_n 1, 1) ∧ decode cX12_townLine 5 = .ok (.aload_n 0, 1) := by decide +kernel
theorem dX12_tells_16 : decode cX12_tells 16 = .ok (.aload_n 0, 1) := zdc_579.1
theorem dX12_tells_17 : decode cX12_tells 17 = .ok (.getfield 7, 3) := zdc_579.2.1
theorem dX12_tells_20 : decode cX12_tells 20 = .ok (.iload_n 1, 1) := zdc_579.2.2.1
theorem dX12_tells_21 : decode cX12_tells 21 = .ok (.iload 4, 2) := zdc_579.2.2.2.1
theorem dX12_tells_23 : decode cX12_tells 23 = .ok (.iastore, 1) := zdc_579.2.2.2.2.1
theorem dX12_tells_24 : decode cX12_tells 24 = .ok (.return_, 1) := zdc_579.2.2.2.2.2.1
theorem dX12_townLine_0 : decode cX12_townLine 0 = .ok (.aload_n 0, 1) := zdc_579.2.2.2.2.2.2.1
theorem dX12_townLine_1 : decode cX12_townLine 1 = .ok (.invokevirtual 101, 3) := zdc_579.2.2.2.2.2.2.2.1
theorem dX12_townLine_4 : decode cX12_townLine 4 = .ok (.istore_n 1, 1) := zdc_579.2.2.2.2.2.2.2.2.1
theorem dX12_townLine_5 : decode cX12_townLine 5 = .ok (.aload_n 0, 1) := zdc_579.2.2.2.2.2.2.2.2.2
theorem zdc_580 : decode cX12_townLine 6 = .ok (.ldc 134, 2) ∧ decode cX12_townLine 8 = .ok (.invokevirtual 108, 3) ∧ decode cX12_townLine 11 = .ok (.ifCond .eq 11, 3) ∧ decode cX12_townLine 14 = .ok (.aload_n 0, 1) ∧ decode cX12_townLine 15 = .ok (.iload_n 1, 1) ∧ decode cX12_townLine 16 = .ok (.invokevirtual 136, 3) ∧ decode cX12_townLine 19 = .ok (.goto 178, 3) ∧ decode cX12_townLine 22 = .ok (.aload_n 0, 1) ∧ decode cX12_townLine 23 = .ok (.ldc 139, 2) ∧ decode cX12_townLine 25 = .ok (.invokevirtual 108, 3) := by decide +kernel
theorem dX12_townLine_6 : decode cX12_townLine 6 = .ok (.ldc 134, 2) := zdc_580.1
theorem dX12_townLine_8 : decode cX12_townLine 8 = .ok (.invokevirtual 108, 3) := zdc_580.2.1
theorem dX12_townLine_11 : decode cX12_townLine 11 = .ok (.ifCond .eq 11, 3) := zdc_580.2.2.1
theorem dX12_townLine_14 : decode cX12_townLine 14 = .ok (.aload_n 0, 1) := zdc_580.2.2.2.1
theorem dX12_townLine_15 : decode cX12_townLine 15 = .ok (.iload_n 1, 1) := zdc_580.2.2.2.2.1
theorem dX12_townLine_16 : decode cX12_townLine 16 = .ok (.invokevirtual 136, 3) := zdc_580.2.2.2.2.2.1
theorem dX12_townLine_19 : decode cX12_townLine 19 = .ok (.goto 178, 3) := zdc_580.2.2.2.2.2.2.1
theorem dX12_townLine_22 : decode cX12_townLine 22 = .ok (.aload_n 0, 1) := zdc_580.2.2.2.2.2.2.2.1
theorem dX12_townLine_23 : decode cX12_townLine 23 = .ok (.ldc 139, 2) := zdc_580.2.2.2.2.2.2.2.2.1
theorem dX12_townLine_25 : decode cX12_townLine 25 = .ok (.invokevirtual 108, 3) := zdc_580.2.2.2.2.2.2.2.2.2
theorem zdc_581 : decode cX12_townLine 28 = .ok (.ifCond .eq 10, 3) ∧ decode cX12_townLine 31 = .ok (.aload_n 0, 1) ∧ decode cX12_townLine 32 = .ok (.invokevirtual 141, 3) ∧ decode cX12_townLine 35 = .ok (.goto 162, 3) ∧ decode cX12_townLine 38 = .ok (.aload_n 0, 1) ∧ decode cX12_townLine 39 = .ok (.ldc 144, 2) ∧ decode cX12_townLine 41 = .ok (.invokevirtual 108, 3) ∧ decode cX12_townLine 44 = .ok (.ifCond .eq 11, 3) ∧ decode cX12_townLine 47 = .ok (.aload_n 0, 1) ∧ decode cX12_townLine 48 = .ok (.iload_n 1, 1) := by decide +kernel
theorem dX12_townLine_28 : decode cX12_townLine 28 = .ok (.ifCond .eq 10, 3) := zdc_581.1
theorem dX12_townLine_31 : decode cX12_townLine 31 = .ok (.aload_n 0, 1) := zdc_581.2.1
theorem dX12_townLine_32 : decode cX12_townLine 32 = .ok (.invokevirtual 141, 3) := zdc_581.2.2.1
theorem dX12_townLine_35 : decode cX12_townLine 35 = .ok (.goto 162, 3) := zdc_581.2.2.2.1
theorem dX12_townLine_38 : decode cX12_townLine 38 = .ok (.aload_n 0, 1) := zdc_581.2.2.2.2.1
theorem dX12_townLine_39 : decode cX12_townLine 39 = .ok (.ldc 144, 2) := zdc_581.2.2.2.2.2.1
theorem dX12_townLine_41 : decode cX12_townLine 41 = .ok (.invokevirtual 108, 3) := zdc_581.2.2.2.2.2.2.1
theorem dX12_townLine_44 : decode cX12_townLine 44 = .ok (.ifCond .eq 11, 3) := zdc_581.2.2.2.2.2.2.2.1
theorem dX12_townLine_47 : decode cX12_townLine 47 = .ok (.aload_n 0, 1) := zdc_581.2.2.2.2.2.2.2.2.1
theorem dX12_townLine_48 : decode cX12_townLine 48 = .ok (.iload_n 1, 1) := zdc_581.2.2.2.2.2.2.2.2.2
theorem zdc_582 : decode cX12_townLine 49 = .ok (.invokevirtual 146, 3) ∧ decode cX12_townLine 52 = .ok (.goto 145, 3) ∧ decode cX12_townLine 55 = .ok (.aload_n 0, 1) ∧ decode cX12_townLine 56 = .ok (.ldc 149, 2) ∧ decode cX12_townLine 58 = .ok (.invokevirtual 108, 3) ∧ decode cX12_townLine 61 = .ok (.ifCond .eq 15, 3) ∧ decode cX12_townLine 64 = .ok (.aload_n 0, 1) ∧ decode cX12_townLine 65 = .ok (.iconst 5, 1) ∧ decode cX12_townLine 66 = .ok (.iconst 0, 1) ∧ decode cX12_townLine 67 = .ok (.sipush 999, 3) := by decide +kernel
theorem dX12_townLine_49 : decode cX12_townLine 49 = .ok (.invokevirtual 146, 3) := zdc_582.1
theorem dX12_townLine_52 : decode cX12_townLine 52 = .ok (.goto 145, 3) := zdc_582.2.1
theorem dX12_townLine_55 : decode cX12_townLine 55 = .ok (.aload_n 0, 1) := zdc_582.2.2.1
theorem dX12_townLine_56 : decode cX12_townLine 56 = .ok (.ldc 149, 2) := zdc_582.2.2.2.1
theorem dX12_townLine_58 : decode cX12_townLine 58 = .ok (.invokevirtual 108, 3) := zdc_582.2.2.2.2.1
theorem dX12_townLine_61 : decode cX12_townLine 61 = .ok (.ifCond .eq 15, 3) := zdc_582.2.2.2.2.2.1
theorem dX12_townLine_64 : decode cX12_townLine 64 = .ok (.aload_n 0, 1) := zdc_582.2.2.2.2.2.2.1
theorem dX12_townLine_65 : decode cX12_townLine 65 = .ok (.iconst 5, 1) := zdc_582.2.2.2.2.2.2.2.1
theorem dX12_townLine_66 : decode cX12_townLine 66 = .ok (.iconst 0, 1) := zdc_582.2.2.2.2.2.2.2.2.1
theorem dX12_townLine_67 : decode cX12_townLine 67 = .ok (.sipush 999, 3) := zdc_582.2.2.2.2.2.2.2.2.2
theorem zdc_583 : decode cX12_townLine 70 = .ok (.invokevirtual 151, 3) ∧ decode cX12_townLine 73 = .ok (.goto 124, 3) ∧ decode cX12_townLine 76 = .ok (.aload_n 0, 1) ∧ decode cX12_townLine 77 = .ok (.ldc 154, 2) ∧ decode cX12_townLine 79 = .ok (.invokevirtual 108, 3) ∧ decode cX12_townLine 82 = .ok (.ifCond .eq 15, 3) ∧ decode cX12_townLine 85 = .ok (.aload_n 0, 1) ∧ decode cX12_townLine 86 = .ok (.bipush 6, 2) ∧ decode cX12_townLine 88 = .ok (.iconst 1, 1) ∧ decode cX12_townLine 89 = .ok (.bipush 30, 2) := by decide +kernel
theorem dX12_townLine_70 : decode cX12_townLine 70 = .ok (.invokevirtual 151, 3) := zdc_583.1
theorem dX12_townLine_73 : decode cX12_townLine 73 = .ok (.goto 124, 3) := zdc_583.2.1
theorem dX12_townLine_76 : decode cX12_townLine 76 = .ok (.aload_n 0, 1) := zdc_583.2.2.1
theorem dX12_townLine_77 : decode cX12_townLine 77 = .ok (.ldc 154, 2) := zdc_583.2.2.2.1
theorem dX12_townLine_79 : decode cX12_townLine 79 = .ok (.invokevirtual 108, 3) := zdc_583.2.2.2.2.1
theorem dX12_townLine_82 : decode cX12_townLine 82 = .ok (.ifCond .eq 15, 3) := zdc_583.2.2.2.2.2.1
theorem dX12_townLine_85 : decode cX12_townLine 85 = .ok (.aload_n 0, 1) := zdc_583.2.2.2.2.2.2.1
theorem dX12_townLine_86 : decode cX12_townLine 86 = .ok (.bipush 6, 2) := zdc_583.2.2.2.2.2.2.2.1
theorem dX12_townLine_88 : decode cX12_townLine 88 = .ok (.iconst 1, 1) := zdc_583.2.2.2.2.2.2.2.2.1
theorem dX12_townLine_89 : decode cX12_townLine 89 = .ok (.bipush 30, 2) := zdc_583.2.2.2.2.2.2.2.2.2
theorem zdc_584 : decode cX12_townLine 91 = .ok (.invokevirtual 151, 3) ∧ decode cX12_townLine 94 = .ok (.goto 103, 3) ∧ decode cX12_townLine 97 = .ok (.aload_n 0, 1) ∧ decode cX12_townLine 98 = .ok (.ldc 156, 2) ∧ decode cX12_townLine 100 = .ok (.invokevirtual 108, 3) ∧ decode cX12_townLine 103 = .ok (.ifCond .eq 15, 3) ∧ decode cX12_townLine 106 = .ok (.aload_n 0, 1) ∧ decode cX12_townLine 107 = .ok (.bipush 7, 2) ∧ decode cX12_townLine 109 = .ok (.iconst 0, 1) ∧ decode cX12_townLine 110 = .ok (.bipush 100, 2) := by decide +kernel
theorem dX12_townLine_91 : decode cX12_townLine 91 = .ok (.invokevirtual 151, 3) := zdc_584.1
theorem dX12_townLine_94 : decode cX12_townLine 94 = .ok (.goto 103, 3) := zdc_584.2.1
theorem dX12_townLine_97 : decode cX12_townLine 97 = .ok (.aload_n 0, 1) := zdc_584.2.2.1
theorem dX12_townLine_98 : decode cX12_townLine 98 = .ok (.ldc 156, 2) := zdc_584.2.2.2.1
theorem dX12_townLine_100 : decode cX12_townLine 100 = .ok (.invokevirtual 108, 3) := zdc_584.2.2.2.2.1
theorem dX12_townLine_103 : decode cX12_townLine 103 = .ok (.ifCond .eq 15, 3) := zdc_584.2.2.2.2.2.1
theorem dX12_townLine_106 : decode cX12_townLine 106 = .ok (.aload_n 0, 1) := zdc_584.2.2.2.2.2.2.1
theorem dX12_townLine_107 : decode cX12_townLine 107 = .ok (.bipush 7, 2) := zdc_584.2.2.2.2.2.2.2.1
theorem dX12_townLine_109 : decode cX12_townLine 109 = .ok (.iconst 0, 1) := zdc_584.2.2.2.2.2.2.2.2.1
theorem dX12_townLine_110 : decode cX12_townLine 110 = .ok (.bipush 100, 2) := zdc_584.2.2.2.2.2.2.2.2.2
theorem zdc_585 : decode cX12_townLine 112 = .ok (.invokevirtual 151, 3) ∧ decode cX12_townLine 115 = .ok (.goto 82, 3) ∧ decode cX12_townLine 118 = .ok (.aload_n 0, 1) ∧ decode cX12_townLine 119 = .ok (.ldc 158, 2) ∧ decode cX12_townLine 121 = .ok (.invokevirtual 108, 3) ∧ decode cX12_townLine 124 = .ok (.ifCond .eq 43, 3) ∧ decode cX12_townLine 127 = .ok (.aload_n 0, 1) ∧ decode cX12_townLine 128 = .ok (.iconst 0, 1) ∧ decode cX12_townLine 129 = .ok (.aload_n 0, 1) ∧ decode cX12_townLine 130 = .ok (.getfield 7, 3) := by decide +kernel
theorem dX12_townLine_112 : decode cX12_townLine 112 = .ok (.invokevirtual 151, 3) := zdc_585.1
theorem dX12_townLine_115 : decode cX12_townLine 115 = .ok (.goto 82, 3) := zdc_585.2.1
theorem dX12_townLine_118 : decode cX12_townLine 118 = .ok (.aload_n 0, 1) := zdc_585.2.2.1
theorem dX12_townLine_119 : decode cX12_townLine 119 = .ok (.ldc 158, 2) := zdc_585.2.2.2.1
theorem dX12_townLine_121 : decode cX12_townLine 121 = .ok (.invokevirtual 108, 3) := zdc_585.2.2.2.2.1
theorem dX12_townLine_124 : decode cX12_townLine 124 = .ok (.ifCond .eq 43, 3) := zdc_585.2.2.2.2.2.1
theorem dX12_townLine_127 : decode cX12_townLine 127 = .ok (.aload_n 0, 1) := zdc_585.2.2.2.2.2.2.1
theorem dX12_townLine_128 : decode cX12_townLine 128 = .ok (.iconst 0, 1) := zdc_585.2.2.2.2.2.2.2.1
theorem dX12_townLine_129 : decode cX12_townLine 129 = .ok (.aload_n 0, 1) := zdc_585.2.2.2.2.2.2.2.2.1
theorem dX12_townLine_130 : decode cX12_townLine 130 = .ok (.getfield 7, 3) := zdc_585.2.2.2.2.2.2.2.2.2
theorem zdc_586 : decode cX12_townLine 133 = .ok (.iconst 3, 1) ∧ decode cX12_townLine 134 = .ok (.iaload, 1) ∧ decode cX12_townLine 135 = .ok (.iconst 1, 1) ∧ decode cX12_townLine 136 = .ok (.isub, 1) ∧ decode cX12_townLine 137 = .ok (.invokevirtual 112, 3) ∧ decode cX12_townLine 140 = .ok (.istore_n 2, 1) ∧ decode cX12_townLine 141 = .ok (.aload_n 0, 1) ∧ decode cX12_townLine 142 = .ok (.getfield 25, 3) ∧ decode cX12_townLine 145 = .ok (.iconst (-1), 1) ∧ decode cX12_townLine 146 = .ok (.if_icmp .ne 18, 3) := by decide +kernel
theorem dX12_townLine_133 : decode cX12_townLine 133 = .ok (.iconst 3, 1) := zdc_586.1
theorem dX12_townLine_134 : decode cX12_townLine 134 = .ok (.iaload, 1) := zdc_586.2.1
theorem dX12_townLine_135 : decode cX12_townLine 135 = .ok (.iconst 1, 1) := zdc_586.2.2.1
theorem dX12_townLine_136 : decode cX12_townLine 136 = .ok (.isub, 1) := zdc_586.2.2.2.1
theorem dX12_townLine_137 : decode cX12_townLine 137 = .ok (.invokevirtual 112, 3) := zdc_586.2.2.2.2.1
theorem dX12_townLine_140 : decode cX12_townLine 140 = .ok (.istore_n 2, 1) := zdc_586.2.2.2.2.2.1
theorem dX12_townLine_141 : decode cX12_townLine 141 = .ok (.aload_n 0, 1) := zdc_586.2.2.2.2.2.2.1
theorem dX12_townLine_142 : decode cX12_townLine 142 = .ok (.getfield 25, 3) := zdc_586.2.2.2.2.2.2.2.1
theorem dX12_townLine_145 : decode cX12_townLine 145 = .ok (.iconst (-1), 1) := zdc_586.2.2.2.2.2.2.2.2.1
theorem dX12_townLine_146 : decode cX12_townLine 146 = .ok (.if_icmp .ne 18, 3) := zdc_586.2.2.2.2.2.2.2.2.2
theorem zdc_587 : decode cX12_townLine 149 = .ok (.aload_n 0, 1) ∧ decode cX12_townLine 150 = .ok (.bipush 11, 2) ∧ decode cX12_townLine 152 = .ok (.iconst 5, 1) ∧ decode cX12_townLine 153 = .ok (.iload_n 2, 1) ∧ decode cX12_townLine 154 = .ok (.imul, 1) ∧ decode cX12_townLine 155 = .ok (.iadd, 1) ∧ decode cX12_townLine 156 = .ok (.iconst 2, 1) ∧ decode cX12_townLine 157 = .ok (.iadd, 1) ∧ decode cX12_townLine 158 = .ok (.iconst 0, 1) ∧ decode cX12_townLine 159 = .ok (.bipush 99, 2) := by decide +kernel
theorem dX12_townLine_149 : decode cX12_townLine 149 = .ok (.aload_n 0, 1) := zdc_587.1
theorem dX12_townLine_150 : decode cX12_townLine 150 = .ok (.bipush 11, 2) := zdc_587.2.1
theorem dX12_townLine_152 : decode cX12_townLine 152 = .ok (.iconst 5, 1) := zdc_587.2.2.1
theorem dX12_townLine_153 : decode cX12_townLine 153 = .ok (.iload_n 2, 1) := zdc_587.2.2.2.1
theorem dX12_townLine_154 : decode cX12_townLine 154 = .ok (.imul, 1) := zdc_587.2.2.2.2.1
theorem dX12_townLine_155 : decode cX12_townLine 155 = .ok (.iadd, 1) := zdc_587.2.2.2.2.2.1
theorem dX12_townLine_156 : decode cX12_townLine 156 = .ok (.iconst 2, 1) := zdc_587.2.2.2.2.2.2.1
theorem dX12_townLine_157 : decode cX12_townLine 157 = .ok (.iadd, 1) := zdc_587.2.2.2.2.2.2.2.1
theorem dX12_townLine_158 : decode cX12_townLine 158 = .ok (.iconst 0, 1) := zdc_587.2.2.2.2.2.2.2.2.1
theorem dX12_townLine_159 : decode cX12_townLine 159 = .ok (.bipush 99, 2) := zdc_587.2.2.2.2.2.2.2.2.2
theorem zdc_588 : decode cX12_townLine 161 = .ok (.invokevirtual 151, 3) ∧ decode cX12_townLine 164 = .ok (.goto 33, 3) ∧ decode cX12_townLine 167 = .ok (.aload_n 0, 1) ∧ decode cX12_townLine 168 = .ok (.ldc 160, 2) ∧ decode cX12_townLine 170 = .ok (.invokevirtual 108, 3) ∧ decode cX12_townLine 173 = .ok (.ifCond .eq 16, 3) ∧ decode cX12_townLine 176 = .ok (.aload_n 0, 1) ∧ decode cX12_townLine 177 = .ok (.bipush 8, 2) ∧ decode cX12_townLine 179 = .ok (.iconst 0, 1) ∧ decode cX12_townLine 180 = .ok (.sipush 999, 3) := by decide +kernel
theorem dX12_townLine_161 : decode cX12_townLine 161 = .ok (.invokevirtual 151, 3) := zdc_588.1
theorem dX12_townLine_164 : decode cX12_townLine 164 = .ok (.goto 33, 3) := zdc_588.2.1
theorem dX12_townLine_167 : decode cX12_townLine 167 = .ok (.aload_n 0, 1) := zdc_588.2.2.1
theorem dX12_townLine_168 : decode cX12_townLine 168 = .ok (.ldc 160, 2) := zdc_588.2.2.2.1
theorem dX12_townLine_170 : decode cX12_townLine 170 = .ok (.invokevirtual 108, 3) := zdc_588.2.2.2.2.1
theorem dX12_townLine_173 : decode cX12_townLine 173 = .ok (.ifCond .eq 16, 3) := zdc_588.2.2.2.2.2.1
theorem dX12_townLine_176 : decode cX12_townLine 176 = .ok (.aload_n 0, 1) := zdc_588.2.2.2.2.2.2.1
theorem dX12_townLine_177 : decode cX12_townLine 177 = .ok (.bipush 8, 2) := zdc_588.2.2.2.2.2.2.2.1
theorem dX12_townLine_179 : decode cX12_townLine 179 = .ok (.iconst 0, 1) := zdc_588.2.2.2.2.2.2.2.2.1
theorem dX12_townLine_180 : decode cX12_townLine 180 = .ok (.sipush 999, 3) := zdc_588.2.2.2.2.2.2.2.2.2
theorem zdc_589 : decode cX12_townLine 183 = .ok (.invokevirtual 151, 3) ∧ decode cX12_townLine 186 = .ok (.goto 11, 3) ∧ decode cX12_townLine 189 = .ok (.aload_n 0, 1) ∧ decode cX12_townLine 190 = .ok (.aload_n 0, 1) ∧ decode cX12_townLine 191 = .ok (.getfield 80, 3) ∧ decode cX12_townLine 194 = .ok (.invokevirtual 104, 3) ∧ decode cX12_townLine 197 = .ok (.return_, 1) ∧ decode cX12_begins 0 = .ok (.aload_n 0, 1) ∧ decode cX12_begins 1 = .ok (.iconst (-1), 1) ∧ decode cX12_begins 2 = .ok (.putfield 25, 3) := by decide +kernel
theorem dX12_townLine_183 : decode cX12_townLine 183 = .ok (.invokevirtual 151, 3) := zdc_589.1
theorem dX12_townLine_186 : decode cX12_townLine 186 = .ok (.goto 11, 3) := zdc_589.2.1
theorem dX12_townLine_189 : decode cX12_townLine 189 = .ok (.aload_n 0, 1) := zdc_589.2.2.1
theorem dX12_townLine_190 : decode cX12_townLine 190 = .ok (.aload_n 0, 1) := zdc_589.2.2.2.1
theorem dX12_townLine_191 : decode cX12_townLine 191 = .ok (.getfield 80, 3) := zdc_589.2.2.2.2.1
theorem dX12_townLine_194 : decode cX12_townLine 194 = .ok (.invokevirtual 104, 3) := zdc_589.2.2.2.2.2.1
theorem dX12_townLine_197 : decode cX12_townLine 197 = .ok (.return_, 1) := zdc_589.2.2.2.2.2.2.1
theorem dX12_begins_0 : decode cX12_begins 0 = .ok (.aload_n 0, 1) := zdc_589.2.2.2.2.2.2.2.1
theorem dX12_begins_1 : decode cX12_begins 1 = .ok (.iconst (-1), 1) := zdc_589.2.2.2.2.2.2.2.2.1
theorem dX12_begins_2 : decode cX12_begins 2 = .ok (.putfield 25, 3) := zdc_589.2.2.2.2.2.2.2.2.2
theorem zdc_590 : decode cX12_begins 5 = .ok (.aload_n 0, 1) ∧ decode cX12_begins 6 = .ok (.iconst (-1), 1) ∧ decode cX12_begins 7 = .ok (.putfield 77, 3) ∧ decode cX12_begins 10 = .ok (.aload_n 0, 1) ∧ decode cX12_begins 11 = .ok (.aload_n 0, 1) ∧ decode cX12_begins 12 = .ok (.getfield 74, 3) ∧ decode cX12_begins 15 = .ok (.putfield 83, 3) ∧ decode cX12_begins 18 = .ok (.aload_n 0, 1) ∧ decode cX12_begins 19 = .ok (.iconst 0, 1) ∧ decode cX12_begins 20 = .ok (.putfield 74, 3) := by decide +kernel
theorem dX12_begins_5 : decode cX12_begins 5 = .ok (.aload_n 0, 1) := zdc_590.1
theorem dX12_begins_6 : decode cX12_begins 6 = .ok (.iconst (-1), 1) := zdc_590.2.1
theorem dX12_begins_7 : decode cX12_begins 7 = .ok (.putfield 77, 3) := zdc_590.2.2.1
theorem dX12_begins_10 : decode cX12_begins 10 = .ok (.aload_n 0, 1) := zdc_590.2.2.2.1
theorem dX12_begins_11 : decode cX12_begins 11 = .ok (.aload_n 0, 1) := zdc_590.2.2.2.2.1
theorem dX12_begins_12 : decode cX12_begins 12 = .ok (.getfield 74, 3) := zdc_590.2.2.2.2.2.1
theorem dX12_begins_15 : decode cX12_begins 15 = .ok (.putfield 83, 3) := zdc_590.2.2.2.2.2.2.1
theorem dX12_begins_18 : decode cX12_begins 18 = .ok (.aload_n 0, 1) := zdc_590.2.2.2.2.2.2.2.1
theorem dX12_begins_19 : decode cX12_begins 19 = .ok (.iconst 0, 1) := zdc_590.2.2.2.2.2.2.2.2.1
theorem dX12_begins_20 : decode cX12_begins 20 = .ok (.putfield 74, 3) := zdc_590.2.2.2.2.2.2.2.2.2
theorem zdc_591 : decode cX12_begins 23 = .ok (.aload_n 0, 1) ∧ decode cX12_begins 24 = .ok (.iconst 0, 1) ∧ decode cX12_begins 25 = .ok (.putfield 80, 3) ∧ decode cX12_begins 28 = .ok (.aload_n 0, 1) ∧ decode cX12_begins 29 = .ok (.iconst 0, 1) ∧ decode cX12_begins 30 = .ok (.putfield 162, 3) ∧ decode cX12_begins 33 = .ok (.return_, 1) ∧ decode cX12_read 0 = .ok (.aload_n 0, 1) ∧ decode cX12_read 1 = .ok (.invokevirtual 89, 3) ∧ decode cX12_read 4 = .ok (.aload_n 0, 1) := by decide +kernel
theorem dX12_begins_23 : decode cX12_begins 23 = .ok (.aload_n 0, 1) := zdc_591.1
theorem dX12_begins_24 : decode cX12_begins 24 = .ok (.iconst 0, 1) := zdc_591.2.1
theorem dX12_begins_25 : decode cX12_begins 25 = .ok (.putfield 80, 3) := zdc_591.2.2.1
theorem dX12_begins_28 : decode cX12_begins 28 = .ok (.aload_n 0, 1) := zdc_591.2.2.2.1
theorem dX12_begins_29 : decode cX12_begins 29 = .ok (.iconst 0, 1) := zdc_591.2.2.2.2.1
theorem dX12_begins_30 : decode cX12_begins 30 = .ok (.putfield 162, 3) := zdc_591.2.2.2.2.2.1
theorem dX12_begins_33 : decode cX12_begins 33 = .ok (.return_, 1) := zdc_591.2.2.2.2.2.2.1
theorem dX12_read_0 : decode cX12_read 0 = .ok (.aload_n 0, 1) := zdc_591.2.2.2.2.2.2.2.1
theorem dX12_read_1 : decode cX12_read 1 = .ok (.invokevirtual 89, 3) := zdc_591.2.2.2.2.2.2.2.2.1
theorem dX12_read_4 : decode cX12_read 4 = .ok (.aload_n 0, 1) := zdc_591.2.2.2.2.2.2.2.2.2
theorem zdc_592 : decode cX12_read 5 = .ok (.getfield 80, 3) ∧ decode cX12_read 8 = .ok (.aload_n 0, 1) ∧ decode cX12_read 9 = .ok (.getfield 83, 3) ∧ decode cX12_read 12 = .ok (.if_icmp .ge 7, 3) ∧ decode cX12_read 15 = .ok (.iconst 1, 1) ∧ decode cX12_read 16 = .ok (.goto 4, 3) ∧ decode cX12_read 19 = .ok (.iconst 0, 1) ∧ decode cX12_read 20 = .ok (.istore_n 2, 1) ∧ decode cX12_read 21 = .ok (.iconst 0, 1) ∧ decode cX12_read 22 = .ok (.istore_n 3, 1) := by decide +kernel
theorem dX12_read_5 : decode cX12_read 5 = .ok (.getfield 80, 3) := zdc_592.1
theorem dX12_read_8 : decode cX12_read 8 = .ok (.aload_n 0, 1) := zdc_592.2.1
theorem dX12_read_9 : decode cX12_read 9 = .ok (.getfield 83, 3) := zdc_592.2.2.1
theorem dX12_read_12 : decode cX12_read 12 = .ok (.if_icmp .ge 7, 3) := zdc_592.2.2.2.1
theorem dX12_read_15 : decode cX12_read 15 = .ok (.iconst 1, 1) := zdc_592.2.2.2.2.1
theorem dX12_read_16 : decode cX12_read 16 = .ok (.goto 4, 3) := zdc_592.2.2.2.2.2.1
theorem dX12_read_19 : decode cX12_read 19 = .ok (.iconst 0, 1) := zdc_592.2.2.2.2.2.2.1
theorem dX12_read_20 : decode cX12_read 20 = .ok (.istore_n 2, 1) := zdc_592.2.2.2.2.2.2.2.1
theorem dX12_read_21 : decode cX12_read 21 = .ok (.iconst 0, 1) := zdc_592.2.2.2.2.2.2.2.2.1
theorem dX12_read_22 : decode cX12_read 22 = .ok (.istore_n 3, 1) := zdc_592.2.2.2.2.2.2.2.2.2
theorem zdc_593 : decode cX12_read 23 = .ok (.iload_n 2, 1) ∧ decode cX12_read 24 = .ok (.ifCond .eq 120, 3) ∧ decode cX12_read 27 = .ok (.aload_n 0, 1) ∧ decode cX12_read 28 = .ok (.getfield 25, 3) ∧ decode cX12_read 31 = .ok (.iconst (-1), 1) ∧ decode cX12_read 32 = .ok (.if_icmp .ne 112, 3) ∧ decode cX12_read 35 = .ok (.aload_n 0, 1) ∧ decode cX12_read 36 = .ok (.invokevirtual 89, 3) ∧ decode cX12_read 39 = .ok (.iload_n 3, 1) ∧ decode cX12_read 40 = .ok (.iload_n 1, 1) := by decide +kernel
theorem dX12_read_23 : decode cX12_read 23 = .ok (.iload_n 2, 1) := zdc_593.1
theorem dX12_read_24 : decode cX12_read 24 = .ok (.ifCond .eq 120, 3) := zdc_593.2.1
theorem dX12_read_27 : decode cX12_read 27 = .ok (.aload_n 0, 1) := zdc_593.2.2.1
theorem dX12_read_28 : decode cX12_read 28 = .ok (.getfield 25, 3) := zdc_593.2.2.2.1
theorem dX12_read_31 : decode cX12_read 31 = .ok (.iconst (-1), 1) := zdc_593.2.2.2.2.1
theorem dX12_read_32 : decode cX12_read 32 = .ok (.if_icmp .ne 112, 3) := zdc_593.2.2.2.2.2.1
theorem dX12_read_35 : decode cX12_read 35 = .ok (.aload_n 0, 1) := zdc_593.2.2.2.2.2.2.1
theorem dX12_read_36 : decode cX12_read 36 = .ok (.invokevirtual 89, 3) := zdc_593.2.2.2.2.2.2.2.1
theorem dX12_read_39 : decode cX12_read 39 = .ok (.iload_n 3, 1) := zdc_593.2.2.2.2.2.2.2.2.1
theorem dX12_read_40 : decode cX12_read 40 = .ok (.iload_n 1, 1) := zdc_593.2.2.2.2.2.2.2.2.2
theorem zdc_594 : decode cX12_read 41 = .ok (.ifCond .eq 8, 3) ∧ decode cX12_read 44 = .ok (.bipush 12, 2) ∧ decode cX12_read 46 = .ok (.goto 5, 3) ∧ decode cX12_read 49 = .ok (.bipush 14, 2) ∧ decode cX12_read 51 = .ok (.if_icmp .ne 14, 3) ∧ decode cX12_read 54 = .ok (.aload_n 0, 1) ∧ decode cX12_read 55 = .ok (.aload_n 0, 1) ∧ decode cX12_read 56 = .ok (.getfield 80, 3) ∧ decode cX12_read 59 = .ok (.invokevirtual 104, 3) ∧ decode cX12_read 62 = .ok (.goto 18, 3) := by decide +kernel
theorem dX12_read_41 : decode cX12_read 41 = .ok (.ifCond .eq 8, 3) := zdc_594.1
theorem dX12_read_44 : decode cX12_read 44 = .ok (.bipush 12, 2) := zdc_594.2.1
theorem dX12_read_46 : decode cX12_read 46 = .ok (.goto 5, 3) := zdc_594.2.2.1
theorem dX12_read_49 : decode cX12_read 49 = .ok (.bipush 14, 2) := zdc_594.2.2.2.1
theorem dX12_read_51 : decode cX12_read 51 = .ok (.if_icmp .ne 14, 3) := zdc_594.2.2.2.2.1
theorem dX12_read_54 : decode cX12_read 54 = .ok (.aload_n 0, 1) := zdc_594.2.2.2.2.2.1
theorem dX12_read_55 : decode cX12_read 55 = .ok (.aload_n 0, 1) := zdc_594.2.2.2.2.2.2.1
theorem dX12_read_56 : decode cX12_read 56 = .ok (.getfield 80, 3) := zdc_594.2.2.2.2.2.2.2.1
theorem dX12_read_59 : decode cX12_read 59 = .ok (.invokevirtual 104, 3) := zdc_594.2.2.2.2.2.2.2.2.1
theorem dX12_read_62 : decode cX12_read 62 = .ok (.goto 18, 3) := zdc_594.2.2.2.2.2.2.2.2.2
theorem zdc_595 : decode cX12_read 65 = .ok (.iload_n 1, 1) ∧ decode cX12_read 66 = .ok (.ifCond .eq 10, 3) ∧ decode cX12_read 69 = .ok (.aload_n 0, 1) ∧ decode cX12_read 70 = .ok (.invokevirtual 165, 3) ∧ decode cX12_read 73 = .ok (.goto 7, 3) ∧ decode cX12_read 76 = .ok (.aload_n 0, 1) ∧ decode cX12_read 77 = .ok (.invokevirtual 168, 3) ∧ decode cX12_read 80 = .ok (.iinc 3 1, 3) ∧ decode cX12_read 83 = .ok (.aload_n 0, 1) ∧ decode cX12_read 84 = .ok (.invokevirtual 89, 3) := by decide +kernel
theorem dX12_read_65 : decode cX12_read 65 = .ok (.iload_n 1, 1) := zdc_595.1
theorem dX12_read_66 : decode cX12_read 66 = .ok (.ifCond .eq 10, 3) := zdc_595.2.1
theorem dX12_read_69 : decode cX12_read 69 = .ok (.aload_n 0, 1) := zdc_595.2.2.1
theorem dX12_read_70 : decode cX12_read 70 = .ok (.invokevirtual 165, 3) := zdc_595.2.2.2.1
theorem dX12_read_73 : decode cX12_read 73 = .ok (.goto 7, 3) := zdc_595.2.2.2.2.1
theorem dX12_read_76 : decode cX12_read 76 = .ok (.aload_n 0, 1) := zdc_595.2.2.2.2.2.1
theorem dX12_read_77 : decode cX12_read 77 = .ok (.invokevirtual 168, 3) := zdc_595.2.2.2.2.2.2.1
theorem dX12_read_80 : decode cX12_read 80 = .ok (.iinc 3 1, 3) := zdc_595.2.2.2.2.2.2.2.1
theorem dX12_read_83 : decode cX12_read 83 = .ok (.aload_n 0, 1) := zdc_595.2.2.2.2.2.2.2.2.1
theorem dX12_read_84 : decode cX12_read 84 = .ok (.invokevirtual 89, 3) := zdc_595.2.2.2.2.2.2.2.2.2
theorem zdc_596 : decode cX12_read 87 = .ok (.aload_n 0, 1) ∧ decode cX12_read 88 = .ok (.getfield 25, 3) ∧ decode cX12_read 91 = .ok (.iconst (-1), 1) ∧ decode cX12_read 92 = .ok (.if_icmp .ne 14, 3) ∧ decode cX12_read 95 = .ok (.aload_n 0, 1) ∧ decode cX12_read 96 = .ok (.getfield 80, 3) ∧ decode cX12_read 99 = .ok (.aload_n 0, 1) ∧ decode cX12_read 100 = .ok (.getfield 83, 3) ∧ decode cX12_read 103 = .ok (.if_icmp .ne 8, 3) ∧ decode cX12_read 106 = .ok (.iconst 0, 1) := by decide +kernel
theorem dX12_read_87 : decode cX12_read 87 = .ok (.aload_n 0, 1) := zdc_596.1
theorem dX12_read_88 : decode cX12_read 88 = .ok (.getfield 25, 3) := zdc_596.2.1
theorem dX12_read_91 : decode cX12_read 91 = .ok (.iconst (-1), 1) := zdc_596.2.2.1
theorem dX12_read_92 : decode cX12_read 92 = .ok (.if_icmp .ne 14, 3) := zdc_596.2.2.2.1
theorem dX12_read_95 : decode cX12_read 95 = .ok (.aload_n 0, 1) := zdc_596.2.2.2.2.1
theorem dX12_read_96 : decode cX12_read 96 = .ok (.getfield 80, 3) := zdc_596.2.2.2.2.2.1
theorem dX12_read_99 : decode cX12_read 99 = .ok (.aload_n 0, 1) := zdc_596.2.2.2.2.2.2.1
theorem dX12_read_100 : decode cX12_read 100 = .ok (.getfield 83, 3) := zdc_596.2.2.2.2.2.2.2.1
theorem dX12_read_103 : decode cX12_read 103 = .ok (.if_icmp .ne 8, 3) := zdc_596.2.2.2.2.2.2.2.2.1
theorem dX12_read_106 : decode cX12_read 106 = .ok (.iconst 0, 1) := zdc_596.2.2.2.2.2.2.2.2.2
theorem zdc_597 : decode cX12_read 107 = .ok (.istore_n 2, 1) ∧ decode cX12_read 108 = .ok (.goto (-85), 3) ∧ decode cX12_read 111 = .ok (.aload_n 0, 1) ∧ decode cX12_read 112 = .ok (.bipush 59, 2) ∧ decode cX12_read 114 = .ok (.invokevirtual 171, 3) ∧ decode cX12_read 117 = .ok (.ifCond .eq 16, 3) ∧ decode cX12_read 120 = .ok (.aload_n 0, 1) ∧ decode cX12_read 121 = .ok (.dup, 1) ∧ decode cX12_read 122 = .ok (.getfield 80, 3) ∧ decode cX12_read 125 = .ok (.iconst 1, 1) := by decide +kernel
theorem dX12_read_107 : decode cX12_read 107 = .ok (.istore_n 2, 1) := zdc_597.1
theorem dX12_read_108 : decode cX12_read 108 = .ok (.goto (-85), 3) := zdc_597.2.1
theorem dX12_read_111 : decode cX12_read 111 = .ok (.aload_n 0, 1) := zdc_597.2.2.1
theorem dX12_read_112 : decode cX12_read 112 = .ok (.bipush 59, 2) := zdc_597.2.2.2.1
theorem dX12_read_114 : decode cX12_read 114 = .ok (.invokevirtual 171, 3) := zdc_597.2.2.2.2.1
theorem dX12_read_117 : decode cX12_read 117 = .ok (.ifCond .eq 16, 3) := zdc_597.2.2.2.2.2.1
theorem dX12_read_120 : decode cX12_read 120 = .ok (.aload_n 0, 1) := zdc_597.2.2.2.2.2.2.1
theorem dX12_read_121 : decode cX12_read 121 = .ok (.dup, 1) := zdc_597.2.2.2.2.2.2.2.1
theorem dX12_read_122 : decode cX12_read 122 = .ok (.getfield 80, 3) := zdc_597.2.2.2.2.2.2.2.2.1
theorem dX12_read_125 : decode cX12_read 125 = .ok (.iconst 1, 1) := zdc_597.2.2.2.2.2.2.2.2.2
theorem zdc_598 : decode cX12_read 126 = .ok (.iadd, 1) ∧ decode cX12_read 127 = .ok (.putfield 80, 3) ∧ decode cX12_read 130 = .ok (.goto (-107), 3) ∧ decode cX12_read 133 = .ok (.aload_n 0, 1) ∧ decode cX12_read 134 = .ok (.aload_n 0, 1) ∧ decode cX12_read 135 = .ok (.getfield 80, 3) ∧ decode cX12_read 138 = .ok (.invokevirtual 104, 3) ∧ decode cX12_read 141 = .ok (.goto (-118), 3) ∧ decode cX12_read 144 = .ok (.iload_n 3, 1) ∧ decode cX12_read 145 = .ok (.ireturn, 1) := by decide +kernel
theorem dX12_read_126 : decode cX12_read 126 = .ok (.iadd, 1) := zdc_598.1
theorem dX12_read_127 : decode cX12_read 127 = .ok (.putfield 80, 3) := zdc_598.2.1
theorem dX12_read_130 : decode cX12_read 130 = .ok (.goto (-107), 3) := zdc_598.2.2.1
theorem dX12_read_133 : decode cX12_read 133 = .ok (.aload_n 0, 1) := zdc_598.2.2.2.1
theorem dX12_read_134 : decode cX12_read 134 = .ok (.aload_n 0, 1) := zdc_598.2.2.2.2.1
theorem dX12_read_135 : decode cX12_read 135 = .ok (.getfield 80, 3) := zdc_598.2.2.2.2.2.1
theorem dX12_read_138 : decode cX12_read 138 = .ok (.invokevirtual 104, 3) := zdc_598.2.2.2.2.2.2.1
theorem dX12_read_141 : decode cX12_read 141 = .ok (.goto (-118), 3) := zdc_598.2.2.2.2.2.2.2.1
theorem dX12_read_144 : decode cX12_read 144 = .ok (.iload_n 3, 1) := zdc_598.2.2.2.2.2.2.2.2.1
theorem dX12_read_145 : decode cX12_read 145 = .ok (.ireturn, 1) := zdc_598.2.2.2.2.2.2.2.2.2
theorem zdc_599 : decode cX12_putsAside 0 = .ok (.iconst 0, 1) ∧ decode cX12_putsAside 1 = .ok (.istore_n 1, 1) ∧ decode cX12_putsAside 2 = .ok (.iload_n 1, 1) ∧ decode cX12_putsAside 3 = .ok (.sipush 379, 3) ∧ decode cX12_putsAside 6 = .ok (.if_icmp .ge 21, 3) ∧ decode cX12_putsAside 9 = .ok (.aload_n 0, 1) ∧ decode cX12_putsAside 10 = .ok (.getfield 16, 3) ∧ decode cX12_putsAside 13 = .ok (.iload_n 1, 1) ∧ decode cX12_putsAside 14 = .ok (.aload_n 0, 1) ∧ decode cX12_putsAside 15 = .ok (.getfield 7, 3) := by decide +kernel
theorem dX12_putsAside_0 : decode cX12_putsAside 0 = .ok (.iconst 0, 1) := zdc_599.1
theorem dX12_putsAside_1 : decode cX12_putsAside 1 = .ok (.istore_n 1, 1) := zdc_599.2.1
theorem dX12_putsAside_2 : decode cX12_putsAside 2 = .ok (.iload_n 1, 1) := zdc_599.2.2.1
theorem dX12_putsAside_3 : decode cX12_putsAside 3 = .ok (.sipush 379, 3) := zdc_599.2.2.2.1
theorem dX12_putsAside_6 : decode cX12_putsAside 6 = .ok (.if_icmp .ge 21, 3) := zdc_599.2.2.2.2.1
theorem dX12_putsAside_9 : decode cX12_putsAside 9 = .ok (.aload_n 0, 1) := zdc_599.2.2.2.2.2.1
theorem dX12_putsAside_10 : decode cX12_putsAside 10 = .ok (.getfield 16, 3) := zdc_599.2.2.2.2.2.2.1
theorem dX12_putsAside_13 : decode cX12_putsAside 13 = .ok (.iload_n 1, 1) := zdc_599.2.2.2.2.2.2.2.1
theorem dX12_putsAside_14 : decode cX12_putsAside 14 = .ok (.aload_n 0, 1) := zdc_599.2.2.2.2.2.2.2.2.1
theorem dX12_putsAside_15 : decode cX12_putsAside 15 = .ok (.getfield 7, 3) := zdc_599.2.2.2.2.2.2.2.2.2
theorem zdc_600 : decode cX12_putsAside 18 = .ok (.iload_n 1, 1) ∧ decode cX12_putsAside 19 = .ok (.iaload, 1) ∧ decode cX12_putsAside 20 = .ok (.iastore, 1) ∧ decode cX12_putsAside 21 = .ok (.iinc 1 1, 3) ∧ decode cX12_putsAside 24 = .ok (.goto (-22), 3) ∧ decode cX12_putsAside 27 = .ok (.return_, 1) ∧ decode cX12_comesBack 0 = .ok (.iconst 0, 1) ∧ decode cX12_comesBack 1 = .ok (.istore_n 1, 1) ∧ decode cX12_comesBack 2 = .ok (.iload_n 1, 1) ∧ decode cX12_comesBack 3 = .ok (.sipush 379, 3) := by decide +kernel
theorem dX12_putsAside_18 : decode cX12_putsAside 18 = .ok (.iload_n 1, 1) := zdc_600.1
theorem dX12_putsAside_19 : decode cX12_putsAside 19 = .ok (.iaload, 1) := zdc_600.2.1
theorem dX12_putsAside_20 : decode cX12_putsAside 20 = .ok (.iastore, 1) := zdc_600.2.2.1
theorem dX12_putsAside_21 : decode cX12_putsAside 21 = .ok (.iinc 1 1, 3) := zdc_600.2.2.2.1
theorem dX12_putsAside_24 : decode cX12_putsAside 24 = .ok (.goto (-22), 3) := zdc_600.2.2.2.2.1
theorem dX12_putsAside_27 : decode cX12_putsAside 27 = .ok (.return_, 1) := zdc_600.2.2.2.2.2.1
theorem dX12_comesBack_0 : decode cX12_comesBack 0 = .ok (.iconst 0, 1) := zdc_600.2.2.2.2.2.2.1
theorem dX12_comesBack_1 : decode cX12_comesBack 1 = .ok (.istore_n 1, 1) := zdc_600.2.2.2.2.2.2.2.1
theorem dX12_comesBack_2 : decode cX12_comesBack 2 = .ok (.iload_n 1, 1) := zdc_600.2.2.2.2.2.2.2.2.1
theorem dX12_comesBack_3 : decode cX12_comesBack 3 = .ok (.sipush 379, 3) := zdc_600.2.2.2.2.2.2.2.2.2
theorem zdc_601 : decode cX12_comesBack 6 = .ok (.if_icmp .ge 21, 3) ∧ decode cX12_comesBack 9 = .ok (.aload_n 0, 1) ∧ decode cX12_comesBack 10 = .ok (.getfield 7, 3) ∧ decode cX12_comesBack 13 = .ok (.iload_n 1, 1) ∧ decode cX12_comesBack 14 = .ok (.aload_n 0, 1) ∧ decode cX12_comesBack 15 = .ok (.getfield 16, 3) ∧ decode cX12_comesBack 18 = .ok (.iload_n 1, 1) ∧ decode cX12_comesBack 19 = .ok (.iaload, 1) ∧ decode cX12_comesBack 20 = .ok (.iastore, 1) ∧ decode cX12_comesBack 21 = .ok (.iinc 1 1, 3) := by decide +kernel
theorem dX12_comesBack_6 : decode cX12_comesBack 6 = .ok (.if_icmp .ge 21, 3) := zdc_601.1
theorem dX12_comesBack_9 : decode cX12_comesBack 9 = .ok (.aload_n 0, 1) := zdc_601.2.1
theorem dX12_comesBack_10 : decode cX12_comesBack 10 = .ok (.getfield 7, 3) := zdc_601.2.2.1
theorem dX12_comesBack_13 : decode cX12_comesBack 13 = .ok (.iload_n 1, 1) := zdc_601.2.2.2.1
theorem dX12_comesBack_14 : decode cX12_comesBack 14 = .ok (.aload_n 0, 1) := zdc_601.2.2.2.2.1
theorem dX12_comesBack_15 : decode cX12_comesBack 15 = .ok (.getfield 16, 3) := zdc_601.2.2.2.2.2.1
theorem dX12_comesBack_18 : decode cX12_comesBack 18 = .ok (.iload_n 1, 1) := zdc_601.2.2.2.2.2.2.1
theorem dX12_comesBack_19 : decode cX12_comesBack 19 = .ok (.iaload, 1) := zdc_601.2.2.2.2.2.2.2.1
theorem dX12_comesBack_20 : decode cX12_comesBack 20 = .ok (.iastore, 1) := zdc_601.2.2.2.2.2.2.2.2.1
theorem dX12_comesBack_21 : decode cX12_comesBack 21 = .ok (.iinc 1 1, 3) := zdc_601.2.2.2.2.2.2.2.2.2
theorem zdc_602 : decode cX12_comesBack 24 = .ok (.goto (-22), 3) ∧ decode cX12_comesBack 27 = .ok (.return_, 1) ∧ decode cX12_town 0 = .ok (.aload_n 0, 1) ∧ decode cX12_town 1 = .ok (.invokevirtual 174, 3) ∧ decode cX12_town 4 = .ok (.aload_n 0, 1) ∧ decode cX12_town 5 = .ok (.invokevirtual 177, 3) ∧ decode cX12_town 8 = .ok (.aload_n 0, 1) ∧ decode cX12_town 9 = .ok (.iconst 0, 1) ∧ decode cX12_town 10 = .ok (.invokevirtual 180, 3) ∧ decode cX12_town 13 = .ok (.istore_n 1, 1) := by decide +kernel
theorem dX12_comesBack_24 : decode cX12_comesBack 24 = .ok (.goto (-22), 3) := zdc_602.1
theorem dX12_comesBack_27 : decode cX12_comesBack 27 = .ok (.return_, 1) := zdc_602.2.1
theorem dX12_town_0 : decode cX12_town 0 = .ok (.aload_n 0, 1) := zdc_602.2.2.1
theorem dX12_town_1 : decode cX12_town 1 = .ok (.invokevirtual 174, 3) := zdc_602.2.2.2.1
theorem dX12_town_4 : decode cX12_town 4 = .ok (.aload_n 0, 1) := zdc_602.2.2.2.2.1
theorem dX12_town_5 : decode cX12_town 5 = .ok (.invokevirtual 177, 3) := zdc_602.2.2.2.2.2.1
theorem dX12_town_8 : decode cX12_town 8 = .ok (.aload_n 0, 1) := zdc_602.2.2.2.2.2.2.1
theorem dX12_town_9 : decode cX12_town 9 = .ok (.iconst 0, 1) := zdc_602.2.2.2.2.2.2.2.1
theorem dX12_town_10 : decode cX12_town 10 = .ok (.invokevirtual 180, 3) := zdc_602.2.2.2.2.2.2.2.2.1
theorem dX12_town_13 : decode cX12_town 13 = .ok (.istore_n 1, 1) := zdc_602.2.2.2.2.2.2.2.2.2
theorem zdc_603 : decode cX12_town 14 = .ok (.aload_n 0, 1) ∧ decode cX12_town 15 = .ok (.aload_n 0, 1) ∧ decode cX12_town 16 = .ok (.getfield 25, 3) ∧ decode cX12_town 19 = .ok (.iconst (-1), 1) ∧ decode cX12_town 20 = .ok (.if_icmp .eq 7, 3) ∧ decode cX12_town 23 = .ok (.iconst 1, 1) ∧ decode cX12_town 24 = .ok (.goto 19, 3) ∧ decode cX12_town 27 = .ok (.aload_n 0, 1) ∧ decode cX12_town 28 = .ok (.getfield 7, 3) ∧ decode cX12_town 31 = .ok (.iconst 0, 1) := by decide +kernel
theorem dX12_town_14 : decode cX12_town 14 = .ok (.aload_n 0, 1) := zdc_603.1
theorem dX12_town_15 : decode cX12_town 15 = .ok (.aload_n 0, 1) := zdc_603.2.1
theorem dX12_town_16 : decode cX12_town 16 = .ok (.getfield 25, 3) := zdc_603.2.2.1
theorem dX12_town_19 : decode cX12_town 19 = .ok (.iconst (-1), 1) := zdc_603.2.2.2.1
theorem dX12_town_20 : decode cX12_town 20 = .ok (.if_icmp .eq 7, 3) := zdc_603.2.2.2.2.1
theorem dX12_town_23 : decode cX12_town 23 = .ok (.iconst 1, 1) := zdc_603.2.2.2.2.2.1
theorem dX12_town_24 : decode cX12_town 24 = .ok (.goto 19, 3) := zdc_603.2.2.2.2.2.2.1
theorem dX12_town_27 : decode cX12_town 27 = .ok (.aload_n 0, 1) := zdc_603.2.2.2.2.2.2.2.1
theorem dX12_town_28 : decode cX12_town 28 = .ok (.getfield 7, 3) := zdc_603.2.2.2.2.2.2.2.2.1
theorem dX12_town_31 : decode cX12_town 31 = .ok (.iconst 0, 1) := zdc_603.2.2.2.2.2.2.2.2.2
theorem zdc_604 : decode cX12_town 32 = .ok (.iaload, 1) ∧ decode cX12_town 33 = .ok (.bipush 12, 2) ∧ decode cX12_town 35 = .ok (.if_icmp .ne 7, 3) ∧ decode cX12_town 38 = .ok (.iconst 2, 1) ∧ decode cX12_town 39 = .ok (.goto 4, 3) ∧ decode cX12_town 42 = .ok (.iconst 0, 1) ∧ decode cX12_town 43 = .ok (.putfield 39, 3) ∧ decode cX12_town 46 = .ok (.aload_n 0, 1) ∧ decode cX12_town 47 = .ok (.getfield 39, 3) ∧ decode cX12_town 50 = .ok (.ifCond .le 9, 3) := by decide +kernel
theorem dX12_town_32 : decode cX12_town 32 = .ok (.iaload, 1) := zdc_604.1
theorem dX12_town_33 : decode cX12_town 33 = .ok (.bipush 12, 2) := zdc_604.2.1
theorem dX12_town_35 : decode cX12_town 35 = .ok (.if_icmp .ne 7, 3) := zdc_604.2.2.1
theorem dX12_town_38 : decode cX12_town 38 = .ok (.iconst 2, 1) := zdc_604.2.2.2.1
theorem dX12_town_39 : decode cX12_town 39 = .ok (.goto 4, 3) := zdc_604.2.2.2.2.1
theorem dX12_town_42 : decode cX12_town 42 = .ok (.iconst 0, 1) := zdc_604.2.2.2.2.2.1
theorem dX12_town_43 : decode cX12_town 43 = .ok (.putfield 39, 3) := zdc_604.2.2.2.2.2.2.1
theorem dX12_town_46 : decode cX12_town 46 = .ok (.aload_n 0, 1) := zdc_604.2.2.2.2.2.2.2.1
theorem dX12_town_47 : decode cX12_town 47 = .ok (.getfield 39, 3) := zdc_604.2.2.2.2.2.2.2.2.1
theorem dX12_town_50 : decode cX12_town 50 = .ok (.ifCond .le 9, 3) := zdc_604.2.2.2.2.2.2.2.2.2
theorem zdc_605 : decode cX12_town 53 = .ok (.aload_n 0, 1) ∧ decode cX12_town 54 = .ok (.invokevirtual 184, 3) ∧ decode cX12_town 57 = .ok (.iconst 0, 1) ∧ decode cX12_town 58 = .ok (.ireturn, 1) ∧ decode cX12_town 59 = .ok (.aload_n 0, 1) ∧ decode cX12_town 60 = .ok (.getfield 7, 3) ∧ decode cX12_town 63 = .ok (.iconst 0, 1) ∧ decode cX12_town 64 = .ok (.dup2, 1) ∧ decode cX12_town 65 = .ok (.iaload, 1) ∧ decode cX12_town 66 = .ok (.iconst 1, 1) := by decide +kernel
theorem dX12_town_53 : decode cX12_town 53 = .ok (.aload_n 0, 1) := zdc_605.1
theorem dX12_town_54 : decode cX12_town 54 = .ok (.invokevirtual 184, 3) := zdc_605.2.1
theorem dX12_town_57 : decode cX12_town 57 = .ok (.iconst 0, 1) := zdc_605.2.2.1
theorem dX12_town_58 : decode cX12_town 58 = .ok (.ireturn, 1) := zdc_605.2.2.2.1
theorem dX12_town_59 : decode cX12_town 59 = .ok (.aload_n 0, 1) := zdc_605.2.2.2.2.1
theorem dX12_town_60 : decode cX12_town 60 = .ok (.getfield 7, 3) := zdc_605.2.2.2.2.2.1
theorem dX12_town_63 : decode cX12_town 63 = .ok (.iconst 0, 1) := zdc_605.2.2.2.2.2.2.1
theorem dX12_town_64 : decode cX12_town 64 = .ok (.dup2, 1) := zdc_605.2.2.2.2.2.2.2.1
theorem dX12_town_65 : decode cX12_town 65 = .ok (.iaload, 1) := zdc_605.2.2.2.2.2.2.2.2.1
theorem dX12_town_66 : decode cX12_town 66 = .ok (.iconst 1, 1) := zdc_605.2.2.2.2.2.2.2.2.2
theorem zdc_606 : decode cX12_town 67 = .ok (.iadd, 1) ∧ decode cX12_town 68 = .ok (.iastore, 1) ∧ decode cX12_town 69 = .ok (.aload_n 0, 1) ∧ decode cX12_town 70 = .ok (.iconst 0, 1) ∧ decode cX12_town 71 = .ok (.putfield 187, 3) ∧ decode cX12_town 74 = .ok (.aload_n 0, 1) ∧ decode cX12_town 75 = .ok (.getfield 7, 3) ∧ decode cX12_town 78 = .ok (.iconst 0, 1) ∧ decode cX12_town 79 = .ok (.iaload, 1) ∧ decode cX12_town 80 = .ok (.ireturn, 1) := by decide +kernel
theorem dX12_town_67 : decode cX12_town 67 = .ok (.iadd, 1) := zdc_606.1
theorem dX12_town_68 : decode cX12_town 68 = .ok (.iastore, 1) := zdc_606.2.1
theorem dX12_town_69 : decode cX12_town 69 = .ok (.aload_n 0, 1) := zdc_606.2.2.1
theorem dX12_town_70 : decode cX12_town 70 = .ok (.iconst 0, 1) := zdc_606.2.2.2.1
theorem dX12_town_71 : decode cX12_town 71 = .ok (.putfield 187, 3) := zdc_606.2.2.2.2.1
theorem dX12_town_74 : decode cX12_town 74 = .ok (.aload_n 0, 1) := zdc_606.2.2.2.2.2.1
theorem dX12_town_75 : decode cX12_town 75 = .ok (.getfield 7, 3) := zdc_606.2.2.2.2.2.2.1
theorem dX12_town_78 : decode cX12_town 78 = .ok (.iconst 0, 1) := zdc_606.2.2.2.2.2.2.2.1
theorem dX12_town_79 : decode cX12_town 79 = .ok (.iaload, 1) := zdc_606.2.2.2.2.2.2.2.2.1
theorem dX12_town_80 : decode cX12_town 80 = .ok (.ireturn, 1) := zdc_606.2.2.2.2.2.2.2.2.2
theorem zdc_607 : decode cX12_part 0 = .ok (.aload_n 0, 1) ∧ decode cX12_part 1 = .ok (.getfield 25, 3) ∧ decode cX12_part 4 = .ok (.iconst (-1), 1) ∧ decode cX12_part 5 = .ok (.if_icmp .eq 5, 3) ∧ decode cX12_part 8 = .ok (.iconst 0, 1) ∧ decode cX12_part 9 = .ok (.ireturn, 1) ∧ decode cX12_part 10 = .ok (.aload_n 0, 1) ∧ decode cX12_part 11 = .ok (.invokevirtual 89, 3) ∧ decode cX12_part 14 = .ok (.aload_n 0, 1) ∧ decode cX12_part 15 = .ok (.getfield 80, 3) := by decide +kernel
theorem dX12_part_0 : decode cX12_part 0 = .ok (.aload_n 0, 1) := zdc_607.1
theorem dX12_part_1 : decode cX12_part 1 = .ok (.getfield 25, 3) := zdc_607.2.1
theorem dX12_part_4 : decode cX12_part 4 = .ok (.iconst (-1), 1) := zdc_607.2.2.1
theorem dX12_part_5 : decode cX12_part 5 = .ok (.if_icmp .eq 5, 3) := zdc_607.2.2.2.1
theorem dX12_part_8 : decode cX12_part 8 = .ok (.iconst 0, 1) := zdc_607.2.2.2.2.1
theorem dX12_part_9 : decode cX12_part 9 = .ok (.ireturn, 1) := zdc_607.2.2.2.2.2.1
theorem dX12_part_10 : decode cX12_part 10 = .ok (.aload_n 0, 1) := zdc_607.2.2.2.2.2.2.1
theorem dX12_part_11 : decode cX12_part 11 = .ok (.invokevirtual 89, 3) := zdc_607.2.2.2.2.2.2.2.1
theorem dX12_part_14 : decode cX12_part 14 = .ok (.aload_n 0, 1) := zdc_607.2.2.2.2.2.2.2.2.1
theorem dX12_part_15 : decode cX12_part 15 = .ok (.getfield 80, 3) := zdc_607.2.2.2.2.2.2.2.2.2
theorem zdc_608 : decode cX12_part 18 = .ok (.aload_n 0, 1) ∧ decode cX12_part 19 = .ok (.getfield 83, 3) ∧ decode cX12_part 22 = .ok (.if_icmp .ge 30, 3) ∧ decode cX12_part 25 = .ok (.aload_n 0, 1) ∧ decode cX12_part 26 = .ok (.aload_n 0, 1) ∧ decode cX12_part 27 = .ok (.getfield 80, 3) ∧ decode cX12_part 30 = .ok (.invokevirtual 86, 3) ∧ decode cX12_part 33 = .ok (.bipush 48, 2) ∧ decode cX12_part 35 = .ok (.bipush 57, 2) ∧ decode cX12_part 37 = .ok (.invokestatic 42, 3) := by decide +kernel
theorem dX12_part_18 : decode cX12_part 18 = .ok (.aload_n 0, 1) := zdc_608.1
theorem dX12_part_19 : decode cX12_part 19 = .ok (.getfield 83, 3) := zdc_608.2.1
theorem dX12_part_22 : decode cX12_part 22 = .ok (.if_icmp .ge 30, 3) := zdc_608.2.2.1
theorem dX12_part_25 : decode cX12_part 25 = .ok (.aload_n 0, 1) := zdc_608.2.2.2.1
theorem dX12_part_26 : decode cX12_part 26 = .ok (.aload_n 0, 1) := zdc_608.2.2.2.2.1
theorem dX12_part_27 : decode cX12_part 27 = .ok (.getfield 80, 3) := zdc_608.2.2.2.2.2.1
theorem dX12_part_30 : decode cX12_part 30 = .ok (.invokevirtual 86, 3) := zdc_608.2.2.2.2.2.2.1
theorem dX12_part_33 : decode cX12_part 33 = .ok (.bipush 48, 2) := zdc_608.2.2.2.2.2.2.2.1
theorem dX12_part_35 : decode cX12_part 35 = .ok (.bipush 57, 2) := zdc_608.2.2.2.2.2.2.2.2.1
theorem dX12_part_37 : decode cX12_part 37 = .ok (.invokestatic 42, 3) := zdc_608.2.2.2.2.2.2.2.2.2
theorem zdc_609 : decode cX12_part 40 = .ok (.ifCond .eq 12, 3) ∧ decode cX12_part 43 = .ok (.aload_n 0, 1) ∧ decode cX12_part 44 = .ok (.iconst 0, 1) ∧ decode cX12_part 45 = .ok (.sipush 999, 3) ∧ decode cX12_part 48 = .ok (.invokevirtual 112, 3) ∧ decode cX12_part 51 = .ok (.ireturn, 1) ∧ decode cX12_part 52 = .ok (.aload_n 0, 1) ∧ decode cX12_part 53 = .ok (.ldc 190, 2) ∧ decode cX12_part 55 = .ok (.invokevirtual 108, 3) ∧ decode cX12_part 58 = .ok (.ifCond .eq 7, 3) := by decide +kernel
theorem dX12_part_40 : decode cX12_part 40 = .ok (.ifCond .eq 12, 3) := zdc_609.1
theorem dX12_part_43 : decode cX12_part 43 = .ok (.aload_n 0, 1) := zdc_609.2.1
theorem dX12_part_44 : decode cX12_part 44 = .ok (.iconst 0, 1) := zdc_609.2.2.1
theorem dX12_part_45 : decode cX12_part 45 = .ok (.sipush 999, 3) := zdc_609.2.2.2.1
theorem dX12_part_48 : decode cX12_part 48 = .ok (.invokevirtual 112, 3) := zdc_609.2.2.2.2.1
theorem dX12_part_51 : decode cX12_part 51 = .ok (.ireturn, 1) := zdc_609.2.2.2.2.2.1
theorem dX12_part_52 : decode cX12_part 52 = .ok (.aload_n 0, 1) := zdc_609.2.2.2.2.2.2.1
theorem dX12_part_53 : decode cX12_part 53 = .ok (.ldc 190, 2) := zdc_609.2.2.2.2.2.2.2.1
theorem dX12_part_55 : decode cX12_part 55 = .ok (.invokevirtual 108, 3) := zdc_609.2.2.2.2.2.2.2.2.1
theorem dX12_part_58 : decode cX12_part 58 = .ok (.ifCond .eq 7, 3) := zdc_609.2.2.2.2.2.2.2.2.2
theorem zdc_610 : decode cX12_part 61 = .ok (.iconst 0, 1) ∧ decode cX12_part 62 = .ok (.goto 69, 3) ∧ decode cX12_part 65 = .ok (.aload_n 0, 1) ∧ decode cX12_part 66 = .ok (.ldc 192, 2) ∧ decode cX12_part 68 = .ok (.invokevirtual 108, 3) ∧ decode cX12_part 71 = .ok (.ifCond .eq 7, 3) ∧ decode cX12_part 74 = .ok (.iconst 1, 1) ∧ decode cX12_part 75 = .ok (.goto 56, 3) ∧ decode cX12_part 78 = .ok (.aload_n 0, 1) ∧ decode cX12_part 79 = .ok (.ldc 194, 2) := by decide +kernel
theorem dX12_part_61 : decode cX12_part 61 = .ok (.iconst 0, 1) := zdc_610.1
theorem dX12_part_62 : decode cX12_part 62 = .ok (.goto 69, 3) := zdc_610.2.1
theorem dX12_part_65 : decode cX12_part 65 = .ok (.aload_n 0, 1) := zdc_610.2.2.1
theorem dX12_part_66 : decode cX12_part 66 = .ok (.ldc 192, 2) := zdc_610.2.2.2.1
theorem dX12_part_68 : decode cX12_part 68 = .ok (.invokevirtual 108, 3) := zdc_610.2.2.2.2.1
theorem dX12_part_71 : decode cX12_part 71 = .ok (.ifCond .eq 7, 3) := zdc_610.2.2.2.2.2.1
theorem dX12_part_74 : decode cX12_part 74 = .ok (.iconst 1, 1) := zdc_610.2.2.2.2.2.2.1
theorem dX12_part_75 : decode cX12_part 75 = .ok (.goto 56, 3) := zdc_610.2.2.2.2.2.2.2.1
theorem dX12_part_78 : decode cX12_part 78 = .ok (.aload_n 0, 1) := zdc_610.2.2.2.2.2.2.2.2.1
theorem dX12_part_79 : decode cX12_part 79 = .ok (.ldc 194, 2) := zdc_610.2.2.2.2.2.2.2.2.2
theorem zdc_611 : decode cX12_part 81 = .ok (.invokevirtual 108, 3) ∧ decode cX12_part 84 = .ok (.ifCond .eq 7, 3) ∧ decode cX12_part 87 = .ok (.iconst 2, 1) ∧ decode cX12_part 88 = .ok (.goto 43, 3) ∧ decode cX12_part 91 = .ok (.aload_n 0, 1) ∧ decode cX12_part 92 = .ok (.ldc 195, 2) ∧ decode cX12_part 94 = .ok (.invokevirtual 108, 3) ∧ decode cX12_part 97 = .ok (.ifCond .eq 7, 3) ∧ decode cX12_part 100 = .ok (.iconst 3, 1) ∧ decode cX12_part 101 = .ok (.goto 30, 3) := by decide +kernel
theorem dX12_part_81 : decode cX12_part 81 = .ok (.invokevirtual 108, 3) := zdc_611.1
theorem dX12_part_84 : decode cX12_part 84 = .ok (.ifCond .eq 7, 3) := zdc_611.2.1
theorem dX12_part_87 : decode cX12_part 87 = .ok (.iconst 2, 1) := zdc_611.2.2.1
theorem dX12_part_88 : decode cX12_part 88 = .ok (.goto 43, 3) := zdc_611.2.2.2.1
theorem dX12_part_91 : decode cX12_part 91 = .ok (.aload_n 0, 1) := zdc_611.2.2.2.2.1
theorem dX12_part_92 : decode cX12_part 92 = .ok (.ldc 195, 2) := zdc_611.2.2.2.2.2.1
theorem dX12_part_94 : decode cX12_part 94 = .ok (.invokevirtual 108, 3) := zdc_611.2.2.2.2.2.2.1
theorem dX12_part_97 : decode cX12_part 97 = .ok (.ifCond .eq 7, 3) := zdc_611.2.2.2.2.2.2.2.1
theorem dX12_part_100 : decode cX12_part 100 = .ok (.iconst 3, 1) := zdc_611.2.2.2.2.2.2.2.2.1
theorem dX12_part_101 : decode cX12_part 101 = .ok (.goto 30, 3) := zdc_611.2.2.2.2.2.2.2.2.2
theorem zdc_612 : decode cX12_part 104 = .ok (.aload_n 0, 1) ∧ decode cX12_part 105 = .ok (.ldc 197, 2) ∧ decode cX12_part 107 = .ok (.invokevirtual 108, 3) ∧ decode cX12_part 110 = .ok (.ifCond .eq 7, 3) ∧ decode cX12_part 113 = .ok (.iconst 4, 1) ∧ decode cX12_part 114 = .ok (.goto 17, 3) ∧ decode cX12_part 117 = .ok (.aload_n 0, 1) ∧ decode cX12_part 118 = .ok (.ldc 160, 2) ∧ decode cX12_part 120 = .ok (.invokevirtual 108, 3) ∧ decode cX12_part 123 = .ok (.ifCond .eq 7, 3) := by decide +kernel
theorem dX12_part_104 : decode cX12_part 104 = .ok (.aload_n 0, 1) := zdc_612.1
theorem dX12_part_105 : decode cX12_part 105 = .ok (.ldc 197, 2) := zdc_612.2.1
theorem dX12_part_107 : decode cX12_part 107 = .ok (.invokevirtual 108, 3) := zdc_612.2.2.1
theorem dX12_part_110 : decode cX12_part 110 = .ok (.ifCond .eq 7, 3) := zdc_612.2.2.2.1
theorem dX12_part_113 : decode cX12_part 113 = .ok (.iconst 4, 1) := zdc_612.2.2.2.2.1
theorem dX12_part_114 : decode cX12_part 114 = .ok (.goto 17, 3) := zdc_612.2.2.2.2.2.1
theorem dX12_part_117 : decode cX12_part 117 = .ok (.aload_n 0, 1) := zdc_612.2.2.2.2.2.2.1
theorem dX12_part_118 : decode cX12_part 118 = .ok (.ldc 160, 2) := zdc_612.2.2.2.2.2.2.2.1
theorem dX12_part_120 : decode cX12_part 120 = .ok (.invokevirtual 108, 3) := zdc_612.2.2.2.2.2.2.2.2.1
theorem dX12_part_123 : decode cX12_part 123 = .ok (.ifCond .eq 7, 3) := zdc_612.2.2.2.2.2.2.2.2.2
theorem zdc_613 : decode cX12_part 126 = .ok (.iconst 5, 1) ∧ decode cX12_part 127 = .ok (.goto 4, 3) ∧ decode cX12_part 130 = .ok (.iconst (-1), 1) ∧ decode cX12_part 131 = .ok (.istore_n 1, 1) ∧ decode cX12_part 132 = .ok (.iload_n 1, 1) ∧ decode cX12_part 133 = .ok (.iconst (-1), 1) ∧ decode cX12_part 134 = .ok (.if_icmp .ne 13, 3) ∧ decode cX12_part 137 = .ok (.aload_n 0, 1) ∧ decode cX12_part 138 = .ok (.aload_n 0, 1) ∧ decode cX12_part 139 = .ok (.getfield 80, 3) := by decide +kernel
theorem dX12_part_126 : decode cX12_part 126 = .ok (.iconst 5, 1) := zdc_613.1
theorem dX12_part_127 : decode cX12_part 127 = .ok (.goto 4, 3) := zdc_613.2.1
theorem dX12_part_130 : decode cX12_part 130 = .ok (.iconst (-1), 1) := zdc_613.2.2.1
theorem dX12_part_131 : decode cX12_part 131 = .ok (.istore_n 1, 1) := zdc_613.2.2.2.1
theorem dX12_part_132 : decode cX12_part 132 = .ok (.iload_n 1, 1) := zdc_613.2.2.2.2.1
theorem dX12_part_133 : decode cX12_part 133 = .ok (.iconst (-1), 1) := zdc_613.2.2.2.2.2.1
theorem dX12_part_134 : decode cX12_part 134 = .ok (.if_icmp .ne 13, 3) := zdc_613.2.2.2.2.2.2.1
theorem dX12_part_137 : decode cX12_part 137 = .ok (.aload_n 0, 1) := zdc_613.2.2.2.2.2.2.2.1
theorem dX12_part_138 : decode cX12_part 138 = .ok (.aload_n 0, 1) := zdc_613.2.2.2.2.2.2.2.2.1
theorem dX12_part_139 : decode cX12_part 139 = .ok (.getfield 80, 3) := zdc_613.2.2.2.2.2.2.2.2.2
theorem zdc_614 : decode cX12_part 142 = .ok (.invokevirtual 104, 3) ∧ decode cX12_part 145 = .ok (.iconst 0, 1) ∧ decode cX12_part 146 = .ok (.ireturn, 1) ∧ decode cX12_part 147 = .ok (.aload_n 0, 1) ∧ decode cX12_part 148 = .ok (.getfield 29, 3) ∧ decode cX12_part 151 = .ok (.iload_n 1, 1) ∧ decode cX12_part 152 = .ok (.iaload, 1) ∧ decode cX12_part 153 = .ok (.ireturn, 1) ∧ decode cX12_sum 0 = .ok (.aload_n 0, 1) ∧ decode cX12_sum 1 = .ok (.invokevirtual 199, 3) := by decide +kernel
theorem dX12_part_142 : decode cX12_part 142 = .ok (.invokevirtual 104, 3) := zdc_614.1
theorem dX12_part_145 : decode cX12_part 145 = .ok (.iconst 0, 1) := zdc_614.2.1
theorem dX12_part_146 : decode cX12_part 146 = .ok (.ireturn, 1) := zdc_614.2.2.1
theorem dX12_part_147 : decode cX12_part 147 = .ok (.aload_n 0, 1) := zdc_614.2.2.2.1
theorem dX12_part_148 : decode cX12_part 148 = .ok (.getfield 29, 3) := zdc_614.2.2.2.2.1
theorem dX12_part_151 : decode cX12_part 151 = .ok (.iload_n 1, 1) := zdc_614.2.2.2.2.2.1
theorem dX12_part_152 : decode cX12_part 152 = .ok (.iaload, 1) := zdc_614.2.2.2.2.2.2.1
theorem dX12_part_153 : decode cX12_part 153 = .ok (.ireturn, 1) := zdc_614.2.2.2.2.2.2.2.1
theorem dX12_sum_0 : decode cX12_sum 0 = .ok (.aload_n 0, 1) := zdc_614.2.2.2.2.2.2.2.2.1
theorem dX12_sum_1 : decode cX12_sum 1 = .ok (.invokevirtual 199, 3) := zdc_614.2.2.2.2.2.2.2.2.2
theorem zdc_615 : decode cX12_sum 4 = .ok (.istore_n 1, 1) ∧ decode cX12_sum 5 = .ok (.aload_n 0, 1) ∧ decode cX12_sum 6 = .ok (.getfield 25, 3) ∧ decode cX12_sum 9 = .ok (.iconst (-1), 1) ∧ decode cX12_sum 10 = .ok (.if_icmp .ne 32, 3) ∧ decode cX12_sum 13 = .ok (.aload_n 0, 1) ∧ decode cX12_sum 14 = .ok (.bipush 43, 2) ∧ decode cX12_sum 16 = .ok (.invokevirtual 171, 3) ∧ decode cX12_sum 19 = .ok (.ifCond .eq 23, 3) ∧ decode cX12_sum 22 = .ok (.aload_n 0, 1) := by decide +kernel
theorem dX12_sum_4 : decode cX12_sum 4 = .ok (.istore_n 1, 1) := zdc_615.1
theorem dX12_sum_5 : decode cX12_sum 5 = .ok (.aload_n 0, 1) := zdc_615.2.1
theorem dX12_sum_6 : decode cX12_sum 6 = .ok (.getfield 25, 3) := zdc_615.2.2.1
theorem dX12_sum_9 : decode cX12_sum 9 = .ok (.iconst (-1), 1) := zdc_615.2.2.2.1
theorem dX12_sum_10 : decode cX12_sum 10 = .ok (.if_icmp .ne 32, 3) := zdc_615.2.2.2.2.1
theorem dX12_sum_13 : decode cX12_sum 13 = .ok (.aload_n 0, 1) := zdc_615.2.2.2.2.2.1
theorem dX12_sum_14 : decode cX12_sum 14 = .ok (.bipush 43, 2) := zdc_615.2.2.2.2.2.2.1
theorem dX12_sum_16 : decode cX12_sum 16 = .ok (.invokevirtual 171, 3) := zdc_615.2.2.2.2.2.2.2.1
theorem dX12_sum_19 : decode cX12_sum 19 = .ok (.ifCond .eq 23, 3) := zdc_615.2.2.2.2.2.2.2.2.1
theorem dX12_sum_22 : decode cX12_sum 22 = .ok (.aload_n 0, 1) := zdc_615.2.2.2.2.2.2.2.2.2
theorem zdc_616 : decode cX12_sum 23 = .ok (.dup, 1) ∧ decode cX12_sum 24 = .ok (.getfield 80, 3) ∧ decode cX12_sum 27 = .ok (.iconst 1, 1) ∧ decode cX12_sum 28 = .ok (.iadd, 1) ∧ decode cX12_sum 29 = .ok (.putfield 80, 3) ∧ decode cX12_sum 32 = .ok (.iload_n 1, 1) ∧ decode cX12_sum 33 = .ok (.aload_n 0, 1) ∧ decode cX12_sum 34 = .ok (.invokevirtual 199, 3) ∧ decode cX12_sum 37 = .ok (.iadd, 1) ∧ decode cX12_sum 38 = .ok (.istore_n 1, 1) := by decide +kernel
theorem dX12_sum_23 : decode cX12_sum 23 = .ok (.dup, 1) := zdc_616.1
theorem dX12_sum_24 : decode cX12_sum 24 = .ok (.getfield 80, 3) := zdc_616.2.1
theorem dX12_sum_27 : decode cX12_sum 27 = .ok (.iconst 1, 1) := zdc_616.2.2.1
theorem dX12_sum_28 : decode cX12_sum 28 = .ok (.iadd, 1) := zdc_616.2.2.2.1
theorem dX12_sum_29 : decode cX12_sum 29 = .ok (.putfield 80, 3) := zdc_616.2.2.2.2.1
theorem dX12_sum_32 : decode cX12_sum 32 = .ok (.iload_n 1, 1) := zdc_616.2.2.2.2.2.1
theorem dX12_sum_33 : decode cX12_sum 33 = .ok (.aload_n 0, 1) := zdc_616.2.2.2.2.2.2.1
theorem dX12_sum_34 : decode cX12_sum 34 = .ok (.invokevirtual 199, 3) := zdc_616.2.2.2.2.2.2.2.1
theorem dX12_sum_37 : decode cX12_sum 37 = .ok (.iadd, 1) := zdc_616.2.2.2.2.2.2.2.2.1
theorem dX12_sum_38 : decode cX12_sum 38 = .ok (.istore_n 1, 1) := zdc_616.2.2.2.2.2.2.2.2.2
theorem zdc_617 : decode cX12_sum 39 = .ok (.goto (-34), 3) ∧ decode cX12_sum 42 = .ok (.iload_n 1, 1) ∧ decode cX12_sum 43 = .ok (.ireturn, 1) ∧ decode cX12_plain 0 = .ok (.aload_n 0, 1) ∧ decode cX12_plain 1 = .ok (.ldc 121, 2) ∧ decode cX12_plain 3 = .ok (.invokevirtual 108, 3) ∧ decode cX12_plain 6 = .ok (.ifCond .eq 8, 3) ∧ decode cX12_plain 9 = .ok (.aload_n 0, 1) ∧ decode cX12_plain 10 = .ok (.getfield 202, 3) ∧ decode cX12_plain 13 = .ok (.ireturn, 1) := by decide +kernel
theorem dX12_sum_39 : decode cX12_sum 39 = .ok (.goto (-34), 3) := zdc_617.1
theorem dX12_sum_42 : decode cX12_sum 42 = .ok (.iload_n 1, 1) := zdc_617.2.1
theorem dX12_sum_43 : decode cX12_sum 43 = .ok (.ireturn, 1) := zdc_617.2.2.1
theorem dX12_plain_0 : decode cX12_plain 0 = .ok (.aload_n 0, 1) := zdc_617.2.2.2.1
theorem dX12_plain_1 : decode cX12_plain 1 = .ok (.ldc 121, 2) := zdc_617.2.2.2.2.1
theorem dX12_plain_3 : decode cX12_plain 3 = .ok (.invokevirtual 108, 3) := zdc_617.2.2.2.2.2.1
theorem dX12_plain_6 : decode cX12_plain 6 = .ok (.ifCond .eq 8, 3) := zdc_617.2.2.2.2.2.2.1
theorem dX12_plain_9 : decode cX12_plain 9 = .ok (.aload_n 0, 1) := zdc_617.2.2.2.2.2.2.2.1
theorem dX12_plain_10 : decode cX12_plain 10 = .ok (.getfield 202, 3) := zdc_617.2.2.2.2.2.2.2.2.1
theorem dX12_plain_13 : decode cX12_plain 13 = .ok (.ireturn, 1) := zdc_617.2.2.2.2.2.2.2.2.2
theorem zdc_618 : decode cX12_plain 14 = .ok (.aload_n 0, 1) ∧ decode cX12_plain 15 = .ok (.ldc 206, 2) ∧ decode cX12_plain 17 = .ok (.invokevirtual 108, 3) ∧ decode cX12_plain 20 = .ok (.ifCond .eq 8, 3) ∧ decode cX12_plain 23 = .ok (.aload_n 0, 1) ∧ decode cX12_plain 24 = .ok (.getfield 208, 3) ∧ decode cX12_plain 27 = .ok (.ireturn, 1) ∧ decode cX12_plain 28 = .ok (.aload_n 0, 1) ∧ decode cX12_plain 29 = .ok (.invokevirtual 211, 3) ∧ decode cX12_plain 32 = .ok (.istore_n 1, 1) := by decide +kernel
theorem dX12_plain_14 : decode cX12_plain 14 = .ok (.aload_n 0, 1) := zdc_618.1
theorem dX12_plain_15 : decode cX12_plain 15 = .ok (.ldc 206, 2) := zdc_618.2.1
theorem dX12_plain_17 : decode cX12_plain 17 = .ok (.invokevirtual 108, 3) := zdc_618.2.2.1
theorem dX12_plain_20 : decode cX12_plain 20 = .ok (.ifCond .eq 8, 3) := zdc_618.2.2.2.1
theorem dX12_plain_23 : decode cX12_plain 23 = .ok (.aload_n 0, 1) := zdc_618.2.2.2.2.1
theorem dX12_plain_24 : decode cX12_plain 24 = .ok (.getfield 208, 3) := zdc_618.2.2.2.2.2.1
theorem dX12_plain_27 : decode cX12_plain 27 = .ok (.ireturn, 1) := zdc_618.2.2.2.2.2.2.1
theorem dX12_plain_28 : decode cX12_plain 28 = .ok (.aload_n 0, 1) := zdc_618.2.2.2.2.2.2.2.1
theorem dX12_plain_29 : decode cX12_plain 29 = .ok (.invokevirtual 211, 3) := zdc_618.2.2.2.2.2.2.2.2.1
theorem dX12_plain_32 : decode cX12_plain 32 = .ok (.istore_n 1, 1) := zdc_618.2.2.2.2.2.2.2.2.2
theorem zdc_619 : decode cX12_plain 33 = .ok (.aload_n 0, 1) ∧ decode cX12_plain 34 = .ok (.getfield 25, 3) ∧ decode cX12_plain 37 = .ok (.iconst (-1), 1) ∧ decode cX12_plain 38 = .ok (.if_icmp .eq 5, 3) ∧ decode cX12_plain 41 = .ok (.iconst 0, 1) ∧ decode cX12_plain 42 = .ok (.ireturn, 1) ∧ decode cX12_plain 43 = .ok (.aload_n 0, 1) ∧ decode cX12_plain 44 = .ok (.bipush 60, 2) ∧ decode cX12_plain 46 = .ok (.invokevirtual 171, 3) ∧ decode cX12_plain 49 = .ok (.istore_n 2, 1) := by decide +kernel
theorem dX12_plain_33 : decode cX12_plain 33 = .ok (.aload_n 0, 1) := zdc_619.1
theorem dX12_plain_34 : decode cX12_plain 34 = .ok (.getfield 25, 3) := zdc_619.2.1
theorem dX12_plain_37 : decode cX12_plain 37 = .ok (.iconst (-1), 1) := zdc_619.2.2.1
theorem dX12_plain_38 : decode cX12_plain 38 = .ok (.if_icmp .eq 5, 3) := zdc_619.2.2.2.1
theorem dX12_plain_41 : decode cX12_plain 41 = .ok (.iconst 0, 1) := zdc_619.2.2.2.2.1
theorem dX12_plain_42 : decode cX12_plain 42 = .ok (.ireturn, 1) := zdc_619.2.2.2.2.2.1
theorem dX12_plain_43 : decode cX12_plain 43 = .ok (.aload_n 0, 1) := zdc_619.2.2.2.2.2.2.1
theorem dX12_plain_44 : decode cX12_plain 44 = .ok (.bipush 60, 2) := zdc_619.2.2.2.2.2.2.2.1
theorem dX12_plain_46 : decode cX12_plain 46 = .ok (.invokevirtual 171, 3) := zdc_619.2.2.2.2.2.2.2.2.1
theorem dX12_plain_49 : decode cX12_plain 49 = .ok (.istore_n 2, 1) := zdc_619.2.2.2.2.2.2.2.2.2
theorem zdc_620 : decode cX12_plain 50 = .ok (.iload_n 2, 1) ∧ decode cX12_plain 51 = .ok (.ifCond .ne 22, 3) ∧ decode cX12_plain 54 = .ok (.aload_n 0, 1) ∧ decode cX12_plain 55 = .ok (.bipush 62, 2) ∧ decode cX12_plain 57 = .ok (.invokevirtual 171, 3) ∧ decode cX12_plain 60 = .ok (.ifCond .ne 13, 3) ∧ decode cX12_plain 63 = .ok (.aload_n 0, 1) ∧ decode cX12_plain 64 = .ok (.aload_n 0, 1) ∧ decode cX12_plain 65 = .ok (.getfield 80, 3) ∧ decode cX12_plain 68 = .ok (.invokevirtual 104, 3) := by decide +kernel
theorem dX12_plain_50 : decode cX12_plain 50 = .ok (.iload_n 2, 1) := zdc_620.1
theorem dX12_plain_51 : decode cX12_plain 51 = .ok (.ifCond .ne 22, 3) := zdc_620.2.1
theorem dX12_plain_54 : decode cX12_plain 54 = .ok (.aload_n 0, 1) := zdc_620.2.2.1
theorem dX12_plain_55 : decode cX12_plain 55 = .ok (.bipush 62, 2) := zdc_620.2.2.2.1
theorem dX12_plain_57 : decode cX12_plain 57 = .ok (.invokevirtual 171, 3) := zdc_620.2.2.2.2.1
theorem dX12_plain_60 : decode cX12_plain 60 = .ok (.ifCond .ne 13, 3) := zdc_620.2.2.2.2.2.1
theorem dX12_plain_63 : decode cX12_plain 63 = .ok (.aload_n 0, 1) := zdc_620.2.2.2.2.2.2.1
theorem dX12_plain_64 : decode cX12_plain 64 = .ok (.aload_n 0, 1) := zdc_620.2.2.2.2.2.2.2.1
theorem dX12_plain_65 : decode cX12_plain 65 = .ok (.getfield 80, 3) := zdc_620.2.2.2.2.2.2.2.2.1
theorem dX12_plain_68 : decode cX12_plain 68 = .ok (.invokevirtual 104, 3) := zdc_620.2.2.2.2.2.2.2.2.2
theorem zdc_621 : decode cX12_plain 71 = .ok (.iconst 0, 1) ∧ decode cX12_plain 72 = .ok (.ireturn, 1) ∧ decode cX12_plain 73 = .ok (.aload_n 0, 1) ∧ decode cX12_plain 74 = .ok (.dup, 1) ∧ decode cX12_plain 75 = .ok (.getfield 80, 3) ∧ decode cX12_plain 78 = .ok (.iconst 1, 1) ∧ decode cX12_plain 79 = .ok (.iadd, 1) ∧ decode cX12_plain 80 = .ok (.putfield 80, 3) ∧ decode cX12_plain 83 = .ok (.aload_n 0, 1) ∧ decode cX12_plain 84 = .ok (.invokevirtual 211, 3) := by decide +kernel
theorem dX12_plain_71 : decode cX12_plain 71 = .ok (.iconst 0, 1) := zdc_621.1
theorem dX12_plain_72 : decode cX12_plain 72 = .ok (.ireturn, 1) := zdc_621.2.1
theorem dX12_plain_73 : decode cX12_plain 73 = .ok (.aload_n 0, 1) := zdc_621.2.2.1
theorem dX12_plain_74 : decode cX12_plain 74 = .ok (.dup, 1) := zdc_621.2.2.2.1
theorem dX12_plain_75 : decode cX12_plain 75 = .ok (.getfield 80, 3) := zdc_621.2.2.2.2.1
theorem dX12_plain_78 : decode cX12_plain 78 = .ok (.iconst 1, 1) := zdc_621.2.2.2.2.2.1
theorem dX12_plain_79 : decode cX12_plain 79 = .ok (.iadd, 1) := zdc_621.2.2.2.2.2.2.1
theorem dX12_plain_80 : decode cX12_plain 80 = .ok (.putfield 80, 3) := zdc_621.2.2.2.2.2.2.2.1
theorem dX12_plain_83 : decode cX12_plain 83 = .ok (.aload_n 0, 1) := zdc_621.2.2.2.2.2.2.2.2.1
theorem dX12_plain_84 : decode cX12_plain 84 = .ok (.invokevirtual 211, 3) := zdc_621.2.2.2.2.2.2.2.2.2
theorem zdc_622 : decode cX12_plain 87 = .ok (.istore_n 3, 1) ∧ decode cX12_plain 88 = .ok (.iload_n 2, 1) ∧ decode cX12_plain 89 = .ok (.ifCond .eq 16, 3) ∧ decode cX12_plain 92 = .ok (.iload_n 1, 1) ∧ decode cX12_plain 93 = .ok (.iload_n 3, 1) ∧ decode cX12_plain 94 = .ok (.if_icmp .ge 7, 3) ∧ decode cX12_plain 97 = .ok (.iconst 1, 1) ∧ decode cX12_plain 98 = .ok (.goto 17, 3) ∧ decode cX12_plain 101 = .ok (.iconst 0, 1) ∧ decode cX12_plain 102 = .ok (.goto 13, 3) := by decide +kernel
theorem dX12_plain_87 : decode cX12_plain 87 = .ok (.istore_n 3, 1) := zdc_622.1
theorem dX12_plain_88 : decode cX12_plain 88 = .ok (.iload_n 2, 1) := zdc_622.2.1
theorem dX12_plain_89 : decode cX12_plain 89 = .ok (.ifCond .eq 16, 3) := zdc_622.2.2.1
theorem dX12_plain_92 : decode cX12_plain 92 = .ok (.iload_n 1, 1) := zdc_622.2.2.2.1
theorem dX12_plain_93 : decode cX12_plain 93 = .ok (.iload_n 3, 1) := zdc_622.2.2.2.2.1
theorem dX12_plain_94 : decode cX12_plain 94 = .ok (.if_icmp .ge 7, 3) := zdc_622.2.2.2.2.2.1
theorem dX12_plain_97 : decode cX12_plain 97 = .ok (.iconst 1, 1) := zdc_622.2.2.2.2.2.2.1
theorem dX12_plain_98 : decode cX12_plain 98 = .ok (.goto 17, 3) := zdc_622.2.2.2.2.2.2.2.1
theorem dX12_plain_101 : decode cX12_plain 101 = .ok (.iconst 0, 1) := zdc_622.2.2.2.2.2.2.2.2.1
theorem dX12_plain_102 : decode cX12_plain 102 = .ok (.goto 13, 3) := zdc_622.2.2.2.2.2.2.2.2.2
theorem zdc_623 : decode cX12_plain 105 = .ok (.iload_n 1, 1) ∧ decode cX12_plain 106 = .ok (.iload_n 3, 1) ∧ decode cX12_plain 107 = .ok (.if_icmp .le 7, 3) ∧ decode cX12_plain 110 = .ok (.iconst 1, 1) ∧ decode cX12_plain 111 = .ok (.goto 4, 3) ∧ decode cX12_plain 114 = .ok (.iconst 0, 1) ∧ decode cX12_plain 115 = .ok (.ireturn, 1) ∧ decode cX12_atom 0 = .ok (.aload_n 0, 1) ∧ decode cX12_atom 1 = .ok (.getfield 25, 3) ∧ decode cX12_atom 4 = .ok (.iconst (-1), 1) := by decide +kernel
theorem dX12_plain_105 : decode cX12_plain 105 = .ok (.iload_n 1, 1) := zdc_623.1
theorem dX12_plain_106 : decode cX12_plain 106 = .ok (.iload_n 3, 1) := zdc_623.2.1
theorem dX12_plain_107 : decode cX12_plain 107 = .ok (.if_icmp .le 7, 3) := zdc_623.2.2.1
theorem dX12_plain_110 : decode cX12_plain 110 = .ok (.iconst 1, 1) := zdc_623.2.2.2.1
theorem dX12_plain_111 : decode cX12_plain 111 = .ok (.goto 4, 3) := zdc_623.2.2.2.2.1
theorem dX12_plain_114 : decode cX12_plain 114 = .ok (.iconst 0, 1) := zdc_623.2.2.2.2.2.1
theorem dX12_plain_115 : decode cX12_plain 115 = .ok (.ireturn, 1) := zdc_623.2.2.2.2.2.2.1
theorem dX12_atom_0 : decode cX12_atom 0 = .ok (.aload_n 0, 1) := zdc_623.2.2.2.2.2.2.2.1
theorem dX12_atom_1 : decode cX12_atom 1 = .ok (.getfield 25, 3) := zdc_623.2.2.2.2.2.2.2.2.1
theorem dX12_atom_4 : decode cX12_atom 4 = .ok (.iconst (-1), 1) := zdc_623.2.2.2.2.2.2.2.2.2
theorem zdc_624 : decode cX12_atom 5 = .ok (.if_icmp .eq 5, 3) ∧ decode cX12_atom 8 = .ok (.iconst 0, 1) ∧ decode cX12_atom 9 = .ok (.ireturn, 1) ∧ decode cX12_atom 10 = .ok (.aload_n 0, 1) ∧ decode cX12_atom 11 = .ok (.invokevirtual 101, 3) ∧ decode cX12_atom 14 = .ok (.istore_n 1, 1) ∧ decode cX12_atom 15 = .ok (.aload_n 0, 1) ∧ decode cX12_atom 16 = .ok (.ldc 214, 2) ∧ decode cX12_atom 18 = .ok (.invokevirtual 108, 3) ∧ decode cX12_atom 21 = .ok (.istore_n 2, 1) := by decide +kernel
theorem dX12_atom_5 : decode cX12_atom 5 = .ok (.if_icmp .eq 5, 3) := zdc_624.1
theorem dX12_atom_8 : decode cX12_atom 8 = .ok (.iconst 0, 1) := zdc_624.2.1
theorem dX12_atom_9 : decode cX12_atom 9 = .ok (.ireturn, 1) := zdc_624.2.2.1
theorem dX12_atom_10 : decode cX12_atom 10 = .ok (.aload_n 0, 1) := zdc_624.2.2.2.1
theorem dX12_atom_11 : decode cX12_atom 11 = .ok (.invokevirtual 101, 3) := zdc_624.2.2.2.2.1
theorem dX12_atom_14 : decode cX12_atom 14 = .ok (.istore_n 1, 1) := zdc_624.2.2.2.2.2.1
theorem dX12_atom_15 : decode cX12_atom 15 = .ok (.aload_n 0, 1) := zdc_624.2.2.2.2.2.2.1
theorem dX12_atom_16 : decode cX12_atom 16 = .ok (.ldc 214, 2) := zdc_624.2.2.2.2.2.2.2.1
theorem dX12_atom_18 : decode cX12_atom 18 = .ok (.invokevirtual 108, 3) := zdc_624.2.2.2.2.2.2.2.2.1
theorem dX12_atom_21 : decode cX12_atom 21 = .ok (.istore_n 2, 1) := zdc_624.2.2.2.2.2.2.2.2.2
theorem zdc_625 : decode cX12_atom 22 = .ok (.iload_n 2, 1) ∧ decode cX12_atom 23 = .ok (.ifCond .ne 17, 3) ∧ decode cX12_atom 26 = .ok (.aload_n 0, 1) ∧ decode cX12_atom 27 = .ok (.bipush 40, 2) ∧ decode cX12_atom 29 = .ok (.invokevirtual 171, 3) ∧ decode cX12_atom 32 = .ok (.ifCond .ne 8, 3) ∧ decode cX12_atom 35 = .ok (.aload_n 0, 1) ∧ decode cX12_atom 36 = .ok (.invokevirtual 216, 3) ∧ decode cX12_atom 39 = .ok (.ireturn, 1) ∧ decode cX12_atom 40 = .ok (.aload_n 0, 1) := by decide +kernel
theorem dX12_atom_22 : decode cX12_atom 22 = .ok (.iload_n 2, 1) := zdc_625.1
theorem dX12_atom_23 : decode cX12_atom 23 = .ok (.ifCond .ne 17, 3) := zdc_625.2.1
theorem dX12_atom_26 : decode cX12_atom 26 = .ok (.aload_n 0, 1) := zdc_625.2.2.1
theorem dX12_atom_27 : decode cX12_atom 27 = .ok (.bipush 40, 2) := zdc_625.2.2.2.1
theorem dX12_atom_29 : decode cX12_atom 29 = .ok (.invokevirtual 171, 3) := zdc_625.2.2.2.2.1
theorem dX12_atom_32 : decode cX12_atom 32 = .ok (.ifCond .ne 8, 3) := zdc_625.2.2.2.2.2.1
theorem dX12_atom_35 : decode cX12_atom 35 = .ok (.aload_n 0, 1) := zdc_625.2.2.2.2.2.2.1
theorem dX12_atom_36 : decode cX12_atom 36 = .ok (.invokevirtual 216, 3) := zdc_625.2.2.2.2.2.2.2.1
theorem dX12_atom_39 : decode cX12_atom 39 = .ok (.ireturn, 1) := zdc_625.2.2.2.2.2.2.2.2.1
theorem dX12_atom_40 : decode cX12_atom 40 = .ok (.aload_n 0, 1) := zdc_625.2.2.2.2.2.2.2.2.2
theorem zdc_626 : decode cX12_atom 41 = .ok (.getfield 162, 3) ∧ decode cX12_atom 44 = .ok (.bipush 6, 2) ∧ decode cX12_atom 46 = .ok (.if_icmp .ne 10, 3) ∧ decode cX12_atom 49 = .ok (.aload_n 0, 1) ∧ decode cX12_atom 50 = .ok (.iload_n 1, 1) ∧ decode cX12_atom 51 = .ok (.invokevirtual 104, 3) ∧ decode cX12_atom 54 = .ok (.iconst 0, 1) ∧ decode cX12_atom 55 = .ok (.ireturn, 1) ∧ decode cX12_atom 56 = .ok (.aload_n 0, 1) ∧ decode cX12_atom 57 = .ok (.dup, 1) := by decide +kernel
theorem dX12_atom_41 : decode cX12_atom 41 = .ok (.getfield 162, 3) := zdc_626.1
theorem dX12_atom_44 : decode cX12_atom 44 = .ok (.bipush 6, 2) := zdc_626.2.1
theorem dX12_atom_46 : decode cX12_atom 46 = .ok (.if_icmp .ne 10, 3) := zdc_626.2.2.1
theorem dX12_atom_49 : decode cX12_atom 49 = .ok (.aload_n 0, 1) := zdc_626.2.2.2.1
theorem dX12_atom_50 : decode cX12_atom 50 = .ok (.iload_n 1, 1) := zdc_626.2.2.2.2.1
theorem dX12_atom_51 : decode cX12_atom 51 = .ok (.invokevirtual 104, 3) := zdc_626.2.2.2.2.2.1
theorem dX12_atom_54 : decode cX12_atom 54 = .ok (.iconst 0, 1) := zdc_626.2.2.2.2.2.2.1
theorem dX12_atom_55 : decode cX12_atom 55 = .ok (.ireturn, 1) := zdc_626.2.2.2.2.2.2.2.1
theorem dX12_atom_56 : decode cX12_atom 56 = .ok (.aload_n 0, 1) := zdc_626.2.2.2.2.2.2.2.2.1
theorem dX12_atom_57 : decode cX12_atom 57 = .ok (.dup, 1) := zdc_626.2.2.2.2.2.2.2.2.2
theorem zdc_627 : decode cX12_atom 58 = .ok (.getfield 162, 3) ∧ decode cX12_atom 61 = .ok (.iconst 1, 1) ∧ decode cX12_atom 62 = .ok (.iadd, 1) ∧ decode cX12_atom 63 = .ok (.putfield 162, 3) ∧ decode cX12_atom 66 = .ok (.iconst 0, 1) ∧ decode cX12_atom 67 = .ok (.istore_n 3, 1) ∧ decode cX12_atom 68 = .ok (.iload_n 2, 1) ∧ decode cX12_atom 69 = .ok (.ifCond .eq 19, 3) ∧ decode cX12_atom 72 = .ok (.aload_n 0, 1) ∧ decode cX12_atom 73 = .ok (.invokevirtual 220, 3) := by decide +kernel
theorem dX12_atom_58 : decode cX12_atom 58 = .ok (.getfield 162, 3) := zdc_627.1
theorem dX12_atom_61 : decode cX12_atom 61 = .ok (.iconst 1, 1) := zdc_627.2.1
theorem dX12_atom_62 : decode cX12_atom 62 = .ok (.iadd, 1) := zdc_627.2.2.1
theorem dX12_atom_63 : decode cX12_atom 63 = .ok (.putfield 162, 3) := zdc_627.2.2.2.1
theorem dX12_atom_66 : decode cX12_atom 66 = .ok (.iconst 0, 1) := zdc_627.2.2.2.2.1
theorem dX12_atom_67 : decode cX12_atom 67 = .ok (.istore_n 3, 1) := zdc_627.2.2.2.2.2.1
theorem dX12_atom_68 : decode cX12_atom 68 = .ok (.iload_n 2, 1) := zdc_627.2.2.2.2.2.2.1
theorem dX12_atom_69 : decode cX12_atom 69 = .ok (.ifCond .eq 19, 3) := zdc_627.2.2.2.2.2.2.2.1
theorem dX12_atom_72 : decode cX12_atom 72 = .ok (.aload_n 0, 1) := zdc_627.2.2.2.2.2.2.2.2.1
theorem dX12_atom_73 : decode cX12_atom 73 = .ok (.invokevirtual 220, 3) := zdc_627.2.2.2.2.2.2.2.2.2
theorem zdc_628 : decode cX12_atom 76 = .ok (.ifCond .ne 7, 3) ∧ decode cX12_atom 79 = .ok (.iconst 1, 1) ∧ decode cX12_atom 80 = .ok (.goto 4, 3) ∧ decode cX12_atom 83 = .ok (.iconst 0, 1) ∧ decode cX12_atom 84 = .ok (.istore_n 3, 1) ∧ decode cX12_atom 85 = .ok (.goto 53, 3) ∧ decode cX12_atom 88 = .ok (.aload_n 0, 1) ∧ decode cX12_atom 89 = .ok (.dup, 1) ∧ decode cX12_atom 90 = .ok (.getfield 80, 3) ∧ decode cX12_atom 93 = .ok (.iconst 1, 1) := by decide +kernel
theorem dX12_atom_76 : decode cX12_atom 76 = .ok (.ifCond .ne 7, 3) := zdc_628.1
theorem dX12_atom_79 : decode cX12_atom 79 = .ok (.iconst 1, 1) := zdc_628.2.1
theorem dX12_atom_80 : decode cX12_atom 80 = .ok (.goto 4, 3) := zdc_628.2.2.1
theorem dX12_atom_83 : decode cX12_atom 83 = .ok (.iconst 0, 1) := zdc_628.2.2.2.1
theorem dX12_atom_84 : decode cX12_atom 84 = .ok (.istore_n 3, 1) := zdc_628.2.2.2.2.1
theorem dX12_atom_85 : decode cX12_atom 85 = .ok (.goto 53, 3) := zdc_628.2.2.2.2.2.1
theorem dX12_atom_88 : decode cX12_atom 88 = .ok (.aload_n 0, 1) := zdc_628.2.2.2.2.2.2.1
theorem dX12_atom_89 : decode cX12_atom 89 = .ok (.dup, 1) := zdc_628.2.2.2.2.2.2.2.1
theorem dX12_atom_90 : decode cX12_atom 90 = .ok (.getfield 80, 3) := zdc_628.2.2.2.2.2.2.2.2.1
theorem dX12_atom_93 : decode cX12_atom 93 = .ok (.iconst 1, 1) := zdc_628.2.2.2.2.2.2.2.2.2
theorem zdc_629 : decode cX12_atom 94 = .ok (.iadd, 1) ∧ decode cX12_atom 95 = .ok (.putfield 80, 3) ∧ decode cX12_atom 98 = .ok (.aload_n 0, 1) ∧ decode cX12_atom 99 = .ok (.invokevirtual 223, 3) ∧ decode cX12_atom 102 = .ok (.istore_n 3, 1) ∧ decode cX12_atom 103 = .ok (.aload_n 0, 1) ∧ decode cX12_atom 104 = .ok (.getfield 25, 3) ∧ decode cX12_atom 107 = .ok (.iconst (-1), 1) ∧ decode cX12_atom 108 = .ok (.if_icmp .ne 20, 3) ∧ decode cX12_atom 111 = .ok (.aload_n 0, 1) := by decide +kernel
theorem dX12_atom_94 : decode cX12_atom 94 = .ok (.iadd, 1) := zdc_629.1
theorem dX12_atom_95 : decode cX12_atom 95 = .ok (.putfield 80, 3) := zdc_629.2.1
theorem dX12_atom_98 : decode cX12_atom 98 = .ok (.aload_n 0, 1) := zdc_629.2.2.1
theorem dX12_atom_99 : decode cX12_atom 99 = .ok (.invokevirtual 223, 3) := zdc_629.2.2.2.1
theorem dX12_atom_102 : decode cX12_atom 102 = .ok (.istore_n 3, 1) := zdc_629.2.2.2.2.1
theorem dX12_atom_103 : decode cX12_atom 103 = .ok (.aload_n 0, 1) := zdc_629.2.2.2.2.2.1
theorem dX12_atom_104 : decode cX12_atom 104 = .ok (.getfield 25, 3) := zdc_629.2.2.2.2.2.2.1
theorem dX12_atom_107 : decode cX12_atom 107 = .ok (.iconst (-1), 1) := zdc_629.2.2.2.2.2.2.2.1
theorem dX12_atom_108 : decode cX12_atom 108 = .ok (.if_icmp .ne 20, 3) := zdc_629.2.2.2.2.2.2.2.2.1
theorem dX12_atom_111 : decode cX12_atom 111 = .ok (.aload_n 0, 1) := zdc_629.2.2.2.2.2.2.2.2.2
theorem zdc_630 : decode cX12_atom 112 = .ok (.bipush 41, 2) ∧ decode cX12_atom 114 = .ok (.invokevirtual 171, 3) ∧ decode cX12_atom 117 = .ok (.ifCond .ne 11, 3) ∧ decode cX12_atom 120 = .ok (.aload_n 0, 1) ∧ decode cX12_atom 121 = .ok (.aload_n 0, 1) ∧ decode cX12_atom 122 = .ok (.getfield 80, 3) ∧ decode cX12_atom 125 = .ok (.invokevirtual 104, 3) ∧ decode cX12_atom 128 = .ok (.aload_n 0, 1) ∧ decode cX12_atom 129 = .ok (.dup, 1) ∧ decode cX12_atom 130 = .ok (.getfield 80, 3) := by decide +kernel
theorem dX12_atom_112 : decode cX12_atom 112 = .ok (.bipush 41, 2) := zdc_630.1
theorem dX12_atom_114 : decode cX12_atom 114 = .ok (.invokevirtual 171, 3) := zdc_630.2.1
theorem dX12_atom_117 : decode cX12_atom 117 = .ok (.ifCond .ne 11, 3) := zdc_630.2.2.1
theorem dX12_atom_120 : decode cX12_atom 120 = .ok (.aload_n 0, 1) := zdc_630.2.2.2.1
theorem dX12_atom_121 : decode cX12_atom 121 = .ok (.aload_n 0, 1) := zdc_630.2.2.2.2.1
theorem dX12_atom_122 : decode cX12_atom 122 = .ok (.getfield 80, 3) := zdc_630.2.2.2.2.2.1
theorem dX12_atom_125 : decode cX12_atom 125 = .ok (.invokevirtual 104, 3) := zdc_630.2.2.2.2.2.2.1
theorem dX12_atom_128 : decode cX12_atom 128 = .ok (.aload_n 0, 1) := zdc_630.2.2.2.2.2.2.2.1
theorem dX12_atom_129 : decode cX12_atom 129 = .ok (.dup, 1) := zdc_630.2.2.2.2.2.2.2.2.1
theorem dX12_atom_130 : decode cX12_atom 130 = .ok (.getfield 80, 3) := zdc_630.2.2.2.2.2.2.2.2.2
theorem zdc_631 : decode cX12_atom 133 = .ok (.iconst 1, 1) ∧ decode cX12_atom 134 = .ok (.iadd, 1) ∧ decode cX12_atom 135 = .ok (.putfield 80, 3) ∧ decode cX12_atom 138 = .ok (.aload_n 0, 1) ∧ decode cX12_atom 139 = .ok (.dup, 1) ∧ decode cX12_atom 140 = .ok (.getfield 162, 3) ∧ decode cX12_atom 143 = .ok (.iconst 1, 1) ∧ decode cX12_atom 144 = .ok (.isub, 1) ∧ decode cX12_atom 145 = .ok (.putfield 162, 3) ∧ decode cX12_atom 148 = .ok (.iload_n 3, 1) := by decide +kernel
theorem dX12_atom_133 : decode cX12_atom 133 = .ok (.iconst 1, 1) := zdc_631.1
theorem dX12_atom_134 : decode cX12_atom 134 = .ok (.iadd, 1) := zdc_631.2.1
theorem dX12_atom_135 : decode cX12_atom 135 = .ok (.putfield 80, 3) := zdc_631.2.2.1
theorem dX12_atom_138 : decode cX12_atom 138 = .ok (.aload_n 0, 1) := zdc_631.2.2.2.1
theorem dX12_atom_139 : decode cX12_atom 139 = .ok (.dup, 1) := zdc_631.2.2.2.2.1
theorem dX12_atom_140 : decode cX12_atom 140 = .ok (.getfield 162, 3) := zdc_631.2.2.2.2.2.1
theorem dX12_atom_143 : decode cX12_atom 143 = .ok (.iconst 1, 1) := zdc_631.2.2.2.2.2.2.1
theorem dX12_atom_144 : decode cX12_atom 144 = .ok (.isub, 1) := zdc_631.2.2.2.2.2.2.2.1
theorem dX12_atom_145 : decode cX12_atom 145 = .ok (.putfield 162, 3) := zdc_631.2.2.2.2.2.2.2.2.1
theorem dX12_atom_148 : decode cX12_atom 148 = .ok (.iload_n 3, 1) := zdc_631.2.2.2.2.2.2.2.2.2
theorem zdc_632 : decode cX12_atom 149 = .ok (.ireturn, 1) ∧ decode cX12_every 0 = .ok (.aload_n 0, 1) ∧ decode cX12_every 1 = .ok (.invokevirtual 220, 3) ∧ decode cX12_every 4 = .ok (.istore_n 1, 1) ∧ decode cX12_every 5 = .ok (.aload_n 0, 1) ∧ decode cX12_every 6 = .ok (.getfield 25, 3) ∧ decode cX12_every 9 = .ok (.iconst (-1), 1) ∧ decode cX12_every 10 = .ok (.if_icmp .ne 34, 3) ∧ decode cX12_every 13 = .ok (.aload_n 0, 1) ∧ decode cX12_every 14 = .ok (.ldc 226, 2) := by decide +kernel
theorem dX12_atom_149 : decode cX12_atom 149 = .ok (.ireturn, 1) := zdc_632.1
theorem dX12_every_0 : decode cX12_every 0 = .ok (.aload_n 0, 1) := zdc_632.2.1
theorem dX12_every_1 : decode cX12_every 1 = .ok (.invokevirtual 220, 3) := zdc_632.2.2.1
theorem dX12_every_4 : decode cX12_every 4 = .ok (.istore_n 1, 1) := zdc_632.2.2.2.1
theorem dX12_every_5 : decode cX12_every 5 = .ok (.aload_n 0, 1) := zdc_632.2.2.2.2.1
theorem dX12_every_6 : decode cX12_every 6 = .ok (.getfield 25, 3) := zdc_632.2.2.2.2.2.1
theorem dX12_every_9 : decode cX12_every 9 = .ok (.iconst (-1), 1) := zdc_632.2.2.2.2.2.2.1
theorem dX12_every_10 : decode cX12_every 10 = .ok (.if_icmp .ne 34, 3) := zdc_632.2.2.2.2.2.2.2.1
theorem dX12_every_13 : decode cX12_every 13 = .ok (.aload_n 0, 1) := zdc_632.2.2.2.2.2.2.2.2.1
theorem dX12_every_14 : decode cX12_every 14 = .ok (.ldc 226, 2) := zdc_632.2.2.2.2.2.2.2.2.2
theorem zdc_633 : decode cX12_every 16 = .ok (.invokevirtual 108, 3) ∧ decode cX12_every 19 = .ok (.ifCond .eq 25, 3) ∧ decode cX12_every 22 = .ok (.aload_n 0, 1) ∧ decode cX12_every 23 = .ok (.invokevirtual 220, 3) ∧ decode cX12_every 26 = .ok (.istore_n 2, 1) ∧ decode cX12_every 27 = .ok (.iload_n 1, 1) ∧ decode cX12_every 28 = .ok (.ifCond .eq 11, 3) ∧ decode cX12_every 31 = .ok (.iload_n 2, 1) ∧ decode cX12_every 32 = .ok (.ifCond .eq 7, 3) ∧ decode cX12_every 35 = .ok (.iconst 1, 1) := by decide +kernel
theorem dX12_every_16 : decode cX12_every 16 = .ok (.invokevirtual 108, 3) := zdc_633.1
theorem dX12_every_19 : decode cX12_every 19 = .ok (.ifCond .eq 25, 3) := zdc_633.2.1
theorem dX12_every_22 : decode cX12_every 22 = .ok (.aload_n 0, 1) := zdc_633.2.2.1
theorem dX12_every_23 : decode cX12_every 23 = .ok (.invokevirtual 220, 3) := zdc_633.2.2.2.1
theorem dX12_every_26 : decode cX12_every 26 = .ok (.istore_n 2, 1) := zdc_633.2.2.2.2.1
theorem dX12_every_27 : decode cX12_every 27 = .ok (.iload_n 1, 1) := zdc_633.2.2.2.2.2.1
theorem dX12_every_28 : decode cX12_every 28 = .ok (.ifCond .eq 11, 3) := zdc_633.2.2.2.2.2.2.1
theorem dX12_every_31 : decode cX12_every 31 = .ok (.iload_n 2, 1) := zdc_633.2.2.2.2.2.2.2.1
theorem dX12_every_32 : decode cX12_every 32 = .ok (.ifCond .eq 7, 3) := zdc_633.2.2.2.2.2.2.2.2.1
theorem dX12_every_35 : decode cX12_every 35 = .ok (.iconst 1, 1) := zdc_633.2.2.2.2.2.2.2.2.2
theorem zdc_634 : decode cX12_every 36 = .ok (.goto 4, 3) ∧ decode cX12_every 39 = .ok (.iconst 0, 1) ∧ decode cX12_every 40 = .ok (.istore_n 1, 1) ∧ decode cX12_every 41 = .ok (.goto (-36), 3) ∧ decode cX12_every 44 = .ok (.iload_n 1, 1) ∧ decode cX12_every 45 = .ok (.ireturn, 1) ∧ decode cX12_some 0 = .ok (.aload_n 0, 1) ∧ decode cX12_some 1 = .ok (.invokevirtual 228, 3) ∧ decode cX12_some 4 = .ok (.istore_n 1, 1) ∧ decode cX12_some 5 = .ok (.aload_n 0, 1) := by decide +kernel
theorem dX12_every_36 : decode cX12_every 36 = .ok (.goto 4, 3) := zdc_634.1
theorem dX12_every_39 : decode cX12_every 39 = .ok (.iconst 0, 1) := zdc_634.2.1
theorem dX12_every_40 : decode cX12_every 40 = .ok (.istore_n 1, 1) := zdc_634.2.2.1
theorem dX12_every_41 : decode cX12_every 41 = .ok (.goto (-36), 3) := zdc_634.2.2.2.1
theorem dX12_every_44 : decode cX12_every 44 = .ok (.iload_n 1, 1) := zdc_634.2.2.2.2.1
theorem dX12_every_45 : decode cX12_every 45 = .ok (.ireturn, 1) := zdc_634.2.2.2.2.2.1
theorem dX12_some_0 : decode cX12_some 0 = .ok (.aload_n 0, 1) := zdc_634.2.2.2.2.2.2.1
theorem dX12_some_1 : decode cX12_some 1 = .ok (.invokevirtual 228, 3) := zdc_634.2.2.2.2.2.2.2.1
theorem dX12_some_4 : decode cX12_some 4 = .ok (.istore_n 1, 1) := zdc_634.2.2.2.2.2.2.2.2.1
theorem dX12_some_5 : decode cX12_some 5 = .ok (.aload_n 0, 1) := zdc_634.2.2.2.2.2.2.2.2.2
theorem zdc_635 : decode cX12_some 6 = .ok (.getfield 25, 3) ∧ decode cX12_some 9 = .ok (.iconst (-1), 1) ∧ decode cX12_some 10 = .ok (.if_icmp .ne 34, 3) ∧ decode cX12_some 13 = .ok (.aload_n 0, 1) ∧ decode cX12_some 14 = .ok (.ldc 231, 2) ∧ decode cX12_some 16 = .ok (.invokevirtual 108, 3) ∧ decode cX12_some 19 = .ok (.ifCond .eq 25, 3) ∧ decode cX12_some 22 = .ok (.aload_n 0, 1) ∧ decode cX12_some 23 = .ok (.invokevirtual 228, 3) ∧ decode cX12_some 26 = .ok (.istore_n 2, 1) := by decide +kernel
theorem dX12_some_6 : decode cX12_some 6 = .ok (.getfield 25, 3) := zdc_635.1
theorem dX12_some_9 : decode cX12_some 9 = .ok (.iconst (-1), 1) := zdc_635.2.1
theorem dX12_some_10 : decode cX12_some 10 = .ok (.if_icmp .ne 34, 3) := zdc_635.2.2.1
theorem dX12_some_13 : decode cX12_some 13 = .ok (.aload_n 0, 1) := zdc_635.2.2.2.1
theorem dX12_some_14 : decode cX12_some 14 = .ok (.ldc 231, 2) := zdc_635.2.2.2.2.1
theorem dX12_some_16 : decode cX12_some 16 = .ok (.invokevirtual 108, 3) := zdc_635.2.2.2.2.2.1
theorem dX12_some_19 : decode cX12_some 19 = .ok (.ifCond .eq 25, 3) := zdc_635.2.2.2.2.2.2.1
theorem dX12_some_22 : decode cX12_some 22 = .ok (.aload_n 0, 1) := zdc_635.2.2.2.2.2.2.2.1
theorem dX12_some_23 : decode cX12_some 23 = .ok (.invokevirtual 228, 3) := zdc_635.2.2.2.2.2.2.2.2.1
theorem dX12_some_26 : decode cX12_some 26 = .ok (.istore_n 2, 1) := zdc_635.2.2.2.2.2.2.2.2.2
theorem zdc_636 : decode cX12_some 27 = .ok (.iload_n 1, 1) ∧ decode cX12_some 28 = .ok (.ifCond .ne 7, 3) ∧ decode cX12_some 31 = .ok (.iload_n 2, 1) ∧ decode cX12_some 32 = .ok (.ifCond .eq 7, 3) ∧ decode cX12_some 35 = .ok (.iconst 1, 1) ∧ decode cX12_some 36 = .ok (.goto 4, 3) ∧ decode cX12_some 39 = .ok (.iconst 0, 1) ∧ decode cX12_some 40 = .ok (.istore_n 1, 1) ∧ decode cX12_some 41 = .ok (.goto (-36), 3) ∧ decode cX12_some 44 = .ok (.iload_n 1, 1) := by decide +kernel
theorem dX12_some_27 : decode cX12_some 27 = .ok (.iload_n 1, 1) := zdc_636.1
theorem dX12_some_28 : decode cX12_some 28 = .ok (.ifCond .ne 7, 3) := zdc_636.2.1
theorem dX12_some_31 : decode cX12_some 31 = .ok (.iload_n 2, 1) := zdc_636.2.2.1
theorem dX12_some_32 : decode cX12_some 32 = .ok (.ifCond .eq 7, 3) := zdc_636.2.2.2.1
theorem dX12_some_35 : decode cX12_some 35 = .ok (.iconst 1, 1) := zdc_636.2.2.2.2.1
theorem dX12_some_36 : decode cX12_some 36 = .ok (.goto 4, 3) := zdc_636.2.2.2.2.2.1
theorem dX12_some_39 : decode cX12_some 39 = .ok (.iconst 0, 1) := zdc_636.2.2.2.2.2.2.1
theorem dX12_some_40 : decode cX12_some 40 = .ok (.istore_n 1, 1) := zdc_636.2.2.2.2.2.2.2.1
theorem dX12_some_41 : decode cX12_some 41 = .ok (.goto (-36), 3) := zdc_636.2.2.2.2.2.2.2.2.1
theorem dX12_some_44 : decode cX12_some 44 = .ok (.iload_n 1, 1) := zdc_636.2.2.2.2.2.2.2.2.2
theorem zdc_637 : decode cX12_some 45 = .ok (.ireturn, 1) ∧ decode cX12_lawLine 0 = .ok (.aload_n 0, 1) ∧ decode cX12_lawLine 1 = .ok (.ldc 233, 2) ∧ decode cX12_lawLine 3 = .ok (.invokevirtual 108, 3) ∧ decode cX12_lawLine 6 = .ok (.istore_n 1, 1) ∧ decode cX12_lawLine 7 = .ok (.iload_n 1, 1) ∧ decode cX12_lawLine 8 = .ok (.ifCond .ne 21, 3) ∧ decode cX12_lawLine 11 = .ok (.aload_n 0, 1) ∧ decode cX12_lawLine 12 = .ok (.ldc 235, 2) ∧ decode cX12_lawLine 14 = .ok (.invokevirtual 108, 3) := by decide +kernel
theorem dX12_some_45 : decode cX12_some 45 = .ok (.ireturn, 1) := zdc_637.1
theorem dX12_lawLine_0 : decode cX12_lawLine 0 = .ok (.aload_n 0, 1) := zdc_637.2.1
theorem dX12_lawLine_1 : decode cX12_lawLine 1 = .ok (.ldc 233, 2) := zdc_637.2.2.1
theorem dX12_lawLine_3 : decode cX12_lawLine 3 = .ok (.invokevirtual 108, 3) := zdc_637.2.2.2.1
theorem dX12_lawLine_6 : decode cX12_lawLine 6 = .ok (.istore_n 1, 1) := zdc_637.2.2.2.2.1
theorem dX12_lawLine_7 : decode cX12_lawLine 7 = .ok (.iload_n 1, 1) := zdc_637.2.2.2.2.2.1
theorem dX12_lawLine_8 : decode cX12_lawLine 8 = .ok (.ifCond .ne 21, 3) := zdc_637.2.2.2.2.2.2.1
theorem dX12_lawLine_11 : decode cX12_lawLine 11 = .ok (.aload_n 0, 1) := zdc_637.2.2.2.2.2.2.2.1
theorem dX12_lawLine_12 : decode cX12_lawLine 12 = .ok (.ldc 235, 2) := zdc_637.2.2.2.2.2.2.2.2.1
theorem dX12_lawLine_14 : decode cX12_lawLine 14 = .ok (.invokevirtual 108, 3) := zdc_637.2.2.2.2.2.2.2.2.2
theorem zdc_638 : decode cX12_lawLine 17 = .ok (.ifCond .ne 12, 3) ∧ decode cX12_lawLine 20 = .ok (.aload_n 0, 1) ∧ decode cX12_lawLine 21 = .ok (.aload_n 0, 1) ∧ decode cX12_lawLine 22 = .ok (.getfield 80, 3) ∧ decode cX12_lawLine 25 = .ok (.invokevirtual 104, 3) ∧ decode cX12_lawLine 28 = .ok (.return_, 1) ∧ decode cX12_lawLine 29 = .ok (.aload_n 0, 1) ∧ decode cX12_lawLine 30 = .ok (.iconst 0, 1) ∧ decode cX12_lawLine 31 = .ok (.bipush 30, 2) ∧ decode cX12_lawLine 33 = .ok (.invokevirtual 112, 3) := by decide +kernel
theorem dX12_lawLine_17 : decode cX12_lawLine 17 = .ok (.ifCond .ne 12, 3) := zdc_638.1
theorem dX12_lawLine_20 : decode cX12_lawLine 20 = .ok (.aload_n 0, 1) := zdc_638.2.1
theorem dX12_lawLine_21 : decode cX12_lawLine 21 = .ok (.aload_n 0, 1) := zdc_638.2.2.1
theorem dX12_lawLine_22 : decode cX12_lawLine 22 = .ok (.getfield 80, 3) := zdc_638.2.2.2.1
theorem dX12_lawLine_25 : decode cX12_lawLine 25 = .ok (.invokevirtual 104, 3) := zdc_638.2.2.2.2.1
theorem dX12_lawLine_28 : decode cX12_lawLine 28 = .ok (.return_, 1) := zdc_638.2.2.2.2.2.1
theorem dX12_lawLine_29 : decode cX12_lawLine 29 = .ok (.aload_n 0, 1) := zdc_638.2.2.2.2.2.2.1
theorem dX12_lawLine_30 : decode cX12_lawLine 30 = .ok (.iconst 0, 1) := zdc_638.2.2.2.2.2.2.2.1
theorem dX12_lawLine_31 : decode cX12_lawLine 31 = .ok (.bipush 30, 2) := zdc_638.2.2.2.2.2.2.2.2.1
theorem dX12_lawLine_33 : decode cX12_lawLine 33 = .ok (.invokevirtual 112, 3) := zdc_638.2.2.2.2.2.2.2.2.2
theorem zdc_639 : decode cX12_lawLine 36 = .ok (.istore_n 2, 1) ∧ decode cX12_lawLine 37 = .ok (.aload_n 0, 1) ∧ decode cX12_lawLine 38 = .ok (.getfield 25, 3) ∧ decode cX12_lawLine 41 = .ok (.iconst (-1), 1) ∧ decode cX12_lawLine 42 = .ok (.if_icmp .eq 4, 3) ∧ decode cX12_lawLine 45 = .ok (.return_, 1) ∧ decode cX12_lawLine 46 = .ok (.aload_n 0, 1) ∧ decode cX12_lawLine 47 = .ok (.ldc 237, 2) ∧ decode cX12_lawLine 49 = .ok (.invokevirtual 108, 3) ∧ decode cX12_lawLine 52 = .ok (.ifCond .eq 10, 3) := by decide +kernel
theorem dX12_lawLine_36 : decode cX12_lawLine 36 = .ok (.istore_n 2, 1) := zdc_639.1
theorem dX12_lawLine_37 : decode cX12_lawLine 37 = .ok (.aload_n 0, 1) := zdc_639.2.1
theorem dX12_lawLine_38 : decode cX12_lawLine 38 = .ok (.getfield 25, 3) := zdc_639.2.2.1
theorem dX12_lawLine_41 : decode cX12_lawLine 41 = .ok (.iconst (-1), 1) := zdc_639.2.2.2.1
theorem dX12_lawLine_42 : decode cX12_lawLine 42 = .ok (.if_icmp .eq 4, 3) := zdc_639.2.2.2.2.1
theorem dX12_lawLine_45 : decode cX12_lawLine 45 = .ok (.return_, 1) := zdc_639.2.2.2.2.2.1
theorem dX12_lawLine_46 : decode cX12_lawLine 46 = .ok (.aload_n 0, 1) := zdc_639.2.2.2.2.2.2.1
theorem dX12_lawLine_47 : decode cX12_lawLine 47 = .ok (.ldc 237, 2) := zdc_639.2.2.2.2.2.2.2.1
theorem dX12_lawLine_49 : decode cX12_lawLine 49 = .ok (.invokevirtual 108, 3) := zdc_639.2.2.2.2.2.2.2.2.1
theorem dX12_lawLine_52 : decode cX12_lawLine 52 = .ok (.ifCond .eq 10, 3) := zdc_639.2.2.2.2.2.2.2.2.2
theorem zdc_640 : decode cX12_lawLine 55 = .ok (.aload_n 0, 1) ∧ decode cX12_lawLine 56 = .ok (.invokevirtual 223, 3) ∧ decode cX12_lawLine 59 = .ok (.ifCond .eq 7, 3) ∧ decode cX12_lawLine 62 = .ok (.iconst 1, 1) ∧ decode cX12_lawLine 63 = .ok (.goto 4, 3) ∧ decode cX12_lawLine 66 = .ok (.iconst 0, 1) ∧ decode cX12_lawLine 67 = .ok (.istore_n 3, 1) ∧ decode cX12_lawLine 68 = .ok (.aload_n 0, 1) ∧ decode cX12_lawLine 69 = .ok (.getfield 25, 3) ∧ decode cX12_lawLine 72 = .ok (.iconst (-1), 1) := by decide +kernel
theorem dX12_lawLine_55 : decode cX12_lawLine 55 = .ok (.aload_n 0, 1) := zdc_640.1
theorem dX12_lawLine_56 : decode cX12_lawLine 56 = .ok (.invokevirtual 223, 3) := zdc_640.2.1
theorem dX12_lawLine_59 : decode cX12_lawLine 59 = .ok (.ifCond .eq 7, 3) := zdc_640.2.2.1
theorem dX12_lawLine_62 : decode cX12_lawLine 62 = .ok (.iconst 1, 1) := zdc_640.2.2.2.1
theorem dX12_lawLine_63 : decode cX12_lawLine 63 = .ok (.goto 4, 3) := zdc_640.2.2.2.2.1
theorem dX12_lawLine_66 : decode cX12_lawLine 66 = .ok (.iconst 0, 1) := zdc_640.2.2.2.2.2.1
theorem dX12_lawLine_67 : decode cX12_lawLine 67 = .ok (.istore_n 3, 1) := zdc_640.2.2.2.2.2.2.1
theorem dX12_lawLine_68 : decode cX12_lawLine 68 = .ok (.aload_n 0, 1) := zdc_640.2.2.2.2.2.2.2.1
theorem dX12_lawLine_69 : decode cX12_lawLine 69 = .ok (.getfield 25, 3) := zdc_640.2.2.2.2.2.2.2.2.1
theorem dX12_lawLine_72 : decode cX12_lawLine 72 = .ok (.iconst (-1), 1) := zdc_640.2.2.2.2.2.2.2.2.2
theorem zdc_641 : decode cX12_lawLine 73 = .ok (.if_icmp .ne 26, 3) ∧ decode cX12_lawLine 76 = .ok (.iload_n 3, 1) ∧ decode cX12_lawLine 77 = .ok (.ifCond .eq 22, 3) ∧ decode cX12_lawLine 80 = .ok (.aload_n 0, 1) ∧ decode cX12_lawLine 81 = .ok (.dup, 1) ∧ decode cX12_lawLine 82 = .ok (.getfield 239, 3) ∧ decode cX12_lawLine 85 = .ok (.iload_n 1, 1) ∧ decode cX12_lawLine 86 = .ok (.ifCond .eq 7, 3) ∧ decode cX12_lawLine 89 = .ok (.iload_n 2, 1) ∧ decode cX12_lawLine 90 = .ok (.goto 5, 3) := by decide +kernel
theorem dX12_lawLine_73 : decode cX12_lawLine 73 = .ok (.if_icmp .ne 26, 3) := zdc_641.1
theorem dX12_lawLine_76 : decode cX12_lawLine 76 = .ok (.iload_n 3, 1) := zdc_641.2.1
theorem dX12_lawLine_77 : decode cX12_lawLine 77 = .ok (.ifCond .eq 22, 3) := zdc_641.2.2.1
theorem dX12_lawLine_80 : decode cX12_lawLine 80 = .ok (.aload_n 0, 1) := zdc_641.2.2.2.1
theorem dX12_lawLine_81 : decode cX12_lawLine 81 = .ok (.dup, 1) := zdc_641.2.2.2.2.1
theorem dX12_lawLine_82 : decode cX12_lawLine 82 = .ok (.getfield 239, 3) := zdc_641.2.2.2.2.2.1
theorem dX12_lawLine_85 : decode cX12_lawLine 85 = .ok (.iload_n 1, 1) := zdc_641.2.2.2.2.2.2.1
theorem dX12_lawLine_86 : decode cX12_lawLine 86 = .ok (.ifCond .eq 7, 3) := zdc_641.2.2.2.2.2.2.2.1
theorem dX12_lawLine_89 : decode cX12_lawLine 89 = .ok (.iload_n 2, 1) := zdc_641.2.2.2.2.2.2.2.2.1
theorem dX12_lawLine_90 : decode cX12_lawLine 90 = .ok (.goto 5, 3) := zdc_641.2.2.2.2.2.2.2.2.2
theorem zdc_642 : decode cX12_lawLine 93 = .ok (.iload_n 2, 1) ∧ decode cX12_lawLine 94 = .ok (.ineg, 1) ∧ decode cX12_lawLine 95 = .ok (.iadd, 1) ∧ decode cX12_lawLine 96 = .ok (.putfield 239, 3) ∧ decode cX12_lawLine 99 = .ok (.return_, 1) ∧ decode cX12_law 0 = .ok (.aload_n 0, 1) ∧ decode cX12_law 1 = .ok (.invokevirtual 177, 3) ∧ decode cX12_law 4 = .ok (.aload_n 0, 1) ∧ decode cX12_law 5 = .ok (.iconst 1, 1) ∧ decode cX12_law 6 = .ok (.invokevirtual 180, 3) := by decide +kernel
theorem dX12_lawLine_93 : decode cX12_lawLine 93 = .ok (.iload_n 2, 1) := zdc_642.1
theorem dX12_lawLine_94 : decode cX12_lawLine 94 = .ok (.ineg, 1) := zdc_642.2.1
theorem dX12_lawLine_95 : decode cX12_lawLine 95 = .ok (.iadd, 1) := zdc_642.2.2.1
theorem dX12_lawLine_96 : decode cX12_lawLine 96 = .ok (.putfield 239, 3) := zdc_642.2.2.2.1
theorem dX12_lawLine_99 : decode cX12_lawLine 99 = .ok (.return_, 1) := zdc_642.2.2.2.2.1
theorem dX12_law_0 : decode cX12_law 0 = .ok (.aload_n 0, 1) := zdc_642.2.2.2.2.2.1
theorem dX12_law_1 : decode cX12_law 1 = .ok (.invokevirtual 177, 3) := zdc_642.2.2.2.2.2.2.1
theorem dX12_law_4 : decode cX12_law 4 = .ok (.aload_n 0, 1) := zdc_642.2.2.2.2.2.2.2.1
theorem dX12_law_5 : decode cX12_law 5 = .ok (.iconst 1, 1) := zdc_642.2.2.2.2.2.2.2.2.1
theorem dX12_law_6 : decode cX12_law 6 = .ok (.invokevirtual 180, 3) := zdc_642.2.2.2.2.2.2.2.2.2
theorem zdc_643 : decode cX12_law 9 = .ok (.istore_n 1, 1) ∧ decode cX12_law 10 = .ok (.aload_n 0, 1) ∧ decode cX12_law 11 = .ok (.aload_n 0, 1) ∧ decode cX12_law 12 = .ok (.getfield 25, 3) ∧ decode cX12_law 15 = .ok (.iconst (-1), 1) ∧ decode cX12_law 16 = .ok (.if_icmp .eq 7, 3) ∧ decode cX12_law 19 = .ok (.iconst 1, 1) ∧ decode cX12_law 20 = .ok (.goto 4, 3) ∧ decode cX12_law 23 = .ok (.iconst 0, 1) ∧ decode cX12_law 24 = .ok (.putfield 39, 3) := by decide +kernel
theorem dX12_law_9 : decode cX12_law 9 = .ok (.istore_n 1, 1) := zdc_643.1
theorem dX12_law_10 : decode cX12_law 10 = .ok (.aload_n 0, 1) := zdc_643.2.1
theorem dX12_law_11 : decode cX12_law 11 = .ok (.aload_n 0, 1) := zdc_643.2.2.1
theorem dX12_law_12 : decode cX12_law 12 = .ok (.getfield 25, 3) := zdc_643.2.2.2.1
theorem dX12_law_15 : decode cX12_law 15 = .ok (.iconst (-1), 1) := zdc_643.2.2.2.2.1
theorem dX12_law_16 : decode cX12_law 16 = .ok (.if_icmp .eq 7, 3) := zdc_643.2.2.2.2.2.1
theorem dX12_law_19 : decode cX12_law 19 = .ok (.iconst 1, 1) := zdc_643.2.2.2.2.2.2.1
theorem dX12_law_20 : decode cX12_law 20 = .ok (.goto 4, 3) := zdc_643.2.2.2.2.2.2.2.1
theorem dX12_law_23 : decode cX12_law 23 = .ok (.iconst 0, 1) := zdc_643.2.2.2.2.2.2.2.2.1
theorem dX12_law_24 : decode cX12_law 24 = .ok (.putfield 39, 3) := zdc_643.2.2.2.2.2.2.2.2.2
theorem zdc_644 : decode cX12_law 27 = .ok (.aload_n 0, 1) ∧ decode cX12_law 28 = .ok (.getfield 39, 3) ∧ decode cX12_law 31 = .ok (.ifCond .le 5, 3) ∧ decode cX12_law 34 = .ok (.iconst 0, 1) ∧ decode cX12_law 35 = .ok (.ireturn, 1) ∧ decode cX12_law 36 = .ok (.aload_n 0, 1) ∧ decode cX12_law 37 = .ok (.getfield 7, 3) ∧ decode cX12_law 40 = .ok (.iconst 1, 1) ∧ decode cX12_law 41 = .ok (.iload_n 1, 1) ∧ decode cX12_law 42 = .ok (.iastore, 1) := by decide +kernel
theorem dX12_law_27 : decode cX12_law 27 = .ok (.aload_n 0, 1) := zdc_644.1
theorem dX12_law_28 : decode cX12_law 28 = .ok (.getfield 39, 3) := zdc_644.2.1
theorem dX12_law_31 : decode cX12_law 31 = .ok (.ifCond .le 5, 3) := zdc_644.2.2.1
theorem dX12_law_34 : decode cX12_law 34 = .ok (.iconst 0, 1) := zdc_644.2.2.2.1
theorem dX12_law_35 : decode cX12_law 35 = .ok (.ireturn, 1) := zdc_644.2.2.2.2.1
theorem dX12_law_36 : decode cX12_law 36 = .ok (.aload_n 0, 1) := zdc_644.2.2.2.2.2.1
theorem dX12_law_37 : decode cX12_law 37 = .ok (.getfield 7, 3) := zdc_644.2.2.2.2.2.2.1
theorem dX12_law_40 : decode cX12_law 40 = .ok (.iconst 1, 1) := zdc_644.2.2.2.2.2.2.2.1
theorem dX12_law_41 : decode cX12_law 41 = .ok (.iload_n 1, 1) := zdc_644.2.2.2.2.2.2.2.2.1
theorem dX12_law_42 : decode cX12_law 42 = .ok (.iastore, 1) := zdc_644.2.2.2.2.2.2.2.2.2
theorem zdc_645 : decode cX12_law 43 = .ok (.aload_n 0, 1) ∧ decode cX12_law 44 = .ok (.getfield 7, 3) ∧ decode cX12_law 47 = .ok (.iconst 2, 1) ∧ decode cX12_law 48 = .ok (.aload_n 0, 1) ∧ decode cX12_law 49 = .ok (.getfield 83, 3) ∧ decode cX12_law 52 = .ok (.iastore, 1) ∧ decode cX12_law 53 = .ok (.iconst 0, 1) ∧ decode cX12_law 54 = .ok (.istore_n 2, 1) ∧ decode cX12_law 55 = .ok (.iload_n 2, 1) ∧ decode cX12_law 56 = .ok (.aload_n 0, 1) := by decide +kernel
theorem dX12_law_43 : decode cX12_law 43 = .ok (.aload_n 0, 1) := zdc_645.1
theorem dX12_law_44 : decode cX12_law 44 = .ok (.getfield 7, 3) := zdc_645.2.1
theorem dX12_law_47 : decode cX12_law 47 = .ok (.iconst 2, 1) := zdc_645.2.2.1
theorem dX12_law_48 : decode cX12_law 48 = .ok (.aload_n 0, 1) := zdc_645.2.2.2.1
theorem dX12_law_49 : decode cX12_law 49 = .ok (.getfield 83, 3) := zdc_645.2.2.2.2.1
theorem dX12_law_52 : decode cX12_law 52 = .ok (.iastore, 1) := zdc_645.2.2.2.2.2.1
theorem dX12_law_53 : decode cX12_law 53 = .ok (.iconst 0, 1) := zdc_645.2.2.2.2.2.2.1
theorem dX12_law_54 : decode cX12_law 54 = .ok (.istore_n 2, 1) := zdc_645.2.2.2.2.2.2.2.1
theorem dX12_law_55 : decode cX12_law 55 = .ok (.iload_n 2, 1) := zdc_645.2.2.2.2.2.2.2.2.1
theorem dX12_law_56 : decode cX12_law 56 = .ok (.aload_n 0, 1) := zdc_645.2.2.2.2.2.2.2.2.2
theorem zdc_646 : decode cX12_law 57 = .ok (.getfield 83, 3) ∧ decode cX12_law 60 = .ok (.if_icmp .ge 25, 3) ∧ decode cX12_law 63 = .ok (.aload_n 0, 1) ∧ decode cX12_law 64 = .ok (.getfield 7, 3) ∧ decode cX12_law 67 = .ok (.sipush 379, 3) ∧ decode cX12_law 70 = .ok (.iload_n 2, 1) ∧ decode cX12_law 71 = .ok (.iadd, 1) ∧ decode cX12_law 72 = .ok (.aload_n 0, 1) ∧ decode cX12_law 73 = .ok (.getfield 22, 3) ∧ decode cX12_law 76 = .ok (.iload_n 2, 1) := by decide +kernel
theorem dX12_law_57 : decode cX12_law 57 = .ok (.getfield 83, 3) := zdc_646.1
theorem dX12_law_60 : decode cX12_law 60 = .ok (.if_icmp .ge 25, 3) := zdc_646.2.1
theorem dX12_law_63 : decode cX12_law 63 = .ok (.aload_n 0, 1) := zdc_646.2.2.1
theorem dX12_law_64 : decode cX12_law 64 = .ok (.getfield 7, 3) := zdc_646.2.2.2.1
theorem dX12_law_67 : decode cX12_law 67 = .ok (.sipush 379, 3) := zdc_646.2.2.2.2.1
theorem dX12_law_70 : decode cX12_law 70 = .ok (.iload_n 2, 1) := zdc_646.2.2.2.2.2.1
theorem dX12_law_71 : decode cX12_law 71 = .ok (.iadd, 1) := zdc_646.2.2.2.2.2.2.1
theorem dX12_law_72 : decode cX12_law 72 = .ok (.aload_n 0, 1) := zdc_646.2.2.2.2.2.2.2.1
theorem dX12_law_73 : decode cX12_law 73 = .ok (.getfield 22, 3) := zdc_646.2.2.2.2.2.2.2.2.1
theorem dX12_law_76 : decode cX12_law 76 = .ok (.iload_n 2, 1) := zdc_646.2.2.2.2.2.2.2.2.2
theorem zdc_647 : decode cX12_law 77 = .ok (.iaload, 1) ∧ decode cX12_law 78 = .ok (.iastore, 1) ∧ decode cX12_law 79 = .ok (.iinc 2 1, 3) ∧ decode cX12_law 82 = .ok (.goto (-27), 3) ∧ decode cX12_law 85 = .ok (.aload_n 0, 1) ∧ decode cX12_law 86 = .ok (.iconst 0, 1) ∧ decode cX12_law 87 = .ok (.putfield 187, 3) ∧ decode cX12_law 90 = .ok (.iload_n 1, 1) ∧ decode cX12_law 91 = .ok (.ireturn, 1) ∧ decode cX12_fault 0 = .ok (.aload_n 0, 1) := by decide +kernel
theorem dX12_law_77 : decode cX12_law 77 = .ok (.iaload, 1) := zdc_647.1
theorem dX12_law_78 : decode cX12_law 78 = .ok (.iastore, 1) := zdc_647.2.1
theorem dX12_law_79 : decode cX12_law 79 = .ok (.iinc 2 1, 3) := zdc_647.2.2.1
theorem dX12_law_82 : decode cX12_law 82 = .ok (.goto (-27), 3) := zdc_647.2.2.2.1
theorem dX12_law_85 : decode cX12_law 85 = .ok (.aload_n 0, 1) := zdc_647.2.2.2.2.1
theorem dX12_law_86 : decode cX12_law 86 = .ok (.iconst 0, 1) := zdc_647.2.2.2.2.2.1
theorem dX12_law_87 : decode cX12_law 87 = .ok (.putfield 187, 3) := zdc_647.2.2.2.2.2.2.1
theorem dX12_law_90 : decode cX12_law 90 = .ok (.iload_n 1, 1) := zdc_647.2.2.2.2.2.2.2.1
theorem dX12_law_91 : decode cX12_law 91 = .ok (.ireturn, 1) := zdc_647.2.2.2.2.2.2.2.2.1
theorem dX12_fault_0 : decode cX12_fault 0 = .ok (.aload_n 0, 1) := zdc_647.2.2.2.2.2.2.2.2.2
theorem zdc_648 : decode cX12_fault 1 = .ok (.iconst 0, 1) ∧ decode cX12_fault 2 = .ok (.putfield 39, 3) ∧ decode cX12_fault 5 = .ok (.aload_n 0, 1) ∧ decode cX12_fault 6 = .ok (.getfield 25, 3) ∧ decode cX12_fault 9 = .ok (.ireturn, 1) ∧ decode cX12_turnsBy 0 = .ok (.aload_n 0, 1) ∧ decode cX12_turnsBy 1 = .ok (.getfield 7, 3) ∧ decode cX12_turnsBy 4 = .ok (.iconst 1, 1) ∧ decode cX12_turnsBy 5 = .ok (.iaload, 1) ∧ decode cX12_turnsBy 6 = .ok (.iconst (-1), 1) := by decide +kernel
theorem dX12_fault_1 : decode cX12_fault 1 = .ok (.iconst 0, 1) := zdc_648.1
theorem dX12_fault_2 : decode cX12_fault 2 = .ok (.putfield 39, 3) := zdc_648.2.1
theorem dX12_fault_5 : decode cX12_fault 5 = .ok (.aload_n 0, 1) := zdc_648.2.2.1
theorem dX12_fault_6 : decode cX12_fault 6 = .ok (.getfield 25, 3) := zdc_648.2.2.2.1
theorem dX12_fault_9 : decode cX12_fault 9 = .ok (.ireturn, 1) := zdc_648.2.2.2.2.1
theorem dX12_turnsBy_0 : decode cX12_turnsBy 0 = .ok (.aload_n 0, 1) := zdc_648.2.2.2.2.2.1
theorem dX12_turnsBy_1 : decode cX12_turnsBy 1 = .ok (.getfield 7, 3) := zdc_648.2.2.2.2.2.2.1
theorem dX12_turnsBy_4 : decode cX12_turnsBy 4 = .ok (.iconst 1, 1) := zdc_648.2.2.2.2.2.2.2.1
theorem dX12_turnsBy_5 : decode cX12_turnsBy 5 = .ok (.iaload, 1) := zdc_648.2.2.2.2.2.2.2.2.1
theorem dX12_turnsBy_6 : decode cX12_turnsBy 6 = .ok (.iconst (-1), 1) := zdc_648.2.2.2.2.2.2.2.2.2
theorem zdc_649 : decode cX12_turnsBy 7 = .ok (.if_icmp .ne 19, 3) ∧ decode cX12_turnsBy 10 = .ok (.aload_n 0, 1) ∧ decode cX12_turnsBy 11 = .ok (.iload_n 1, 1) ∧ decode cX12_turnsBy 12 = .ok (.iconst 3, 1) ∧ decode cX12_turnsBy 13 = .ok (.invokevirtual 46, 3) ∧ decode cX12_turnsBy 16 = .ok (.iconst 1, 1) ∧ decode cX12_turnsBy 17 = .ok (.if_icmp .ne 7, 3) ∧ decode cX12_turnsBy 20 = .ok (.iconst (-1), 1) ∧ decode cX12_turnsBy 21 = .ok (.goto 4, 3) ∧ decode cX12_turnsBy 24 = .ok (.iconst 0, 1) := by decide +kernel
theorem dX12_turnsBy_7 : decode cX12_turnsBy 7 = .ok (.if_icmp .ne 19, 3) := zdc_649.1
theorem dX12_turnsBy_10 : decode cX12_turnsBy 10 = .ok (.aload_n 0, 1) := zdc_649.2.1
theorem dX12_turnsBy_11 : decode cX12_turnsBy 11 = .ok (.iload_n 1, 1) := zdc_649.2.2.1
theorem dX12_turnsBy_12 : decode cX12_turnsBy 12 = .ok (.iconst 3, 1) := zdc_649.2.2.2.1
theorem dX12_turnsBy_13 : decode cX12_turnsBy 13 = .ok (.invokevirtual 46, 3) := zdc_649.2.2.2.2.1
theorem dX12_turnsBy_16 : decode cX12_turnsBy 16 = .ok (.iconst 1, 1) := zdc_649.2.2.2.2.2.1
theorem dX12_turnsBy_17 : decode cX12_turnsBy 17 = .ok (.if_icmp .ne 7, 3) := zdc_649.2.2.2.2.2.2.1
theorem dX12_turnsBy_20 : decode cX12_turnsBy 20 = .ok (.iconst (-1), 1) := zdc_649.2.2.2.2.2.2.2.1
theorem dX12_turnsBy_21 : decode cX12_turnsBy 21 = .ok (.goto 4, 3) := zdc_649.2.2.2.2.2.2.2.2.1
theorem dX12_turnsBy_24 : decode cX12_turnsBy 24 = .ok (.iconst 0, 1) := zdc_649.2.2.2.2.2.2.2.2.2
theorem zdc_650 : decode cX12_turnsBy 25 = .ok (.ireturn, 1) ∧ decode cX12_turnsBy 26 = .ok (.aload_n 0, 1) ∧ decode cX12_turnsBy 27 = .ok (.getfield 29, 3) ∧ decode cX12_turnsBy 30 = .ok (.iconst 0, 1) ∧ decode cX12_turnsBy 31 = .ok (.iload_n 1, 1) ∧ decode cX12_turnsBy 32 = .ok (.iastore, 1) ∧ decode cX12_turnsBy 33 = .ok (.aload_n 0, 1) ∧ decode cX12_turnsBy 34 = .ok (.getfield 29, 3) ∧ decode cX12_turnsBy 37 = .ok (.iconst 1, 1) ∧ decode cX12_turnsBy 38 = .ok (.aload_n 0, 1) := by decide +kernel
theorem dX12_turnsBy_25 : decode cX12_turnsBy 25 = .ok (.ireturn, 1) := zdc_650.1
theorem dX12_turnsBy_26 : decode cX12_turnsBy 26 = .ok (.aload_n 0, 1) := zdc_650.2.1
theorem dX12_turnsBy_27 : decode cX12_turnsBy 27 = .ok (.getfield 29, 3) := zdc_650.2.2.1
theorem dX12_turnsBy_30 : decode cX12_turnsBy 30 = .ok (.iconst 0, 1) := zdc_650.2.2.2.1
theorem dX12_turnsBy_31 : decode cX12_turnsBy 31 = .ok (.iload_n 1, 1) := zdc_650.2.2.2.2.1
theorem dX12_turnsBy_32 : decode cX12_turnsBy 32 = .ok (.iastore, 1) := zdc_650.2.2.2.2.2.1
theorem dX12_turnsBy_33 : decode cX12_turnsBy 33 = .ok (.aload_n 0, 1) := zdc_650.2.2.2.2.2.2.1
theorem dX12_turnsBy_34 : decode cX12_turnsBy 34 = .ok (.getfield 29, 3) := zdc_650.2.2.2.2.2.2.2.1
theorem dX12_turnsBy_37 : decode cX12_turnsBy 37 = .ok (.iconst 1, 1) := zdc_650.2.2.2.2.2.2.2.2.1
theorem dX12_turnsBy_38 : decode cX12_turnsBy 38 = .ok (.aload_n 0, 1) := zdc_650.2.2.2.2.2.2.2.2.2
theorem zdc_651 : decode cX12_turnsBy 39 = .ok (.iload_n 1, 1) ∧ decode cX12_turnsBy 40 = .ok (.iconst 0, 1) ∧ decode cX12_turnsBy 41 = .ok (.invokevirtual 46, 3) ∧ decode cX12_turnsBy 44 = .ok (.iastore, 1) ∧ decode cX12_turnsBy 45 = .ok (.aload_n 0, 1) ∧ decode cX12_turnsBy 46 = .ok (.getfield 29, 3) ∧ decode cX12_turnsBy 49 = .ok (.iconst 2, 1) ∧ decode cX12_turnsBy 50 = .ok (.aload_n 0, 1) ∧ decode cX12_turnsBy 51 = .ok (.invokevirtual 65, 3) ∧ decode cX12_turnsBy 54 = .ok (.iastore, 1) := by decide +kernel
theorem dX12_turnsBy_39 : decode cX12_turnsBy 39 = .ok (.iload_n 1, 1) := zdc_651.1
theorem dX12_turnsBy_40 : decode cX12_turnsBy 40 = .ok (.iconst 0, 1) := zdc_651.2.1
theorem dX12_turnsBy_41 : decode cX12_turnsBy 41 = .ok (.invokevirtual 46, 3) := zdc_651.2.2.1
theorem dX12_turnsBy_44 : decode cX12_turnsBy 44 = .ok (.iastore, 1) := zdc_651.2.2.2.1
theorem dX12_turnsBy_45 : decode cX12_turnsBy 45 = .ok (.aload_n 0, 1) := zdc_651.2.2.2.2.1
theorem dX12_turnsBy_46 : decode cX12_turnsBy 46 = .ok (.getfield 29, 3) := zdc_651.2.2.2.2.2.1
theorem dX12_turnsBy_49 : decode cX12_turnsBy 49 = .ok (.iconst 2, 1) := zdc_651.2.2.2.2.2.2.1
theorem dX12_turnsBy_50 : decode cX12_turnsBy 50 = .ok (.aload_n 0, 1) := zdc_651.2.2.2.2.2.2.2.1
theorem dX12_turnsBy_51 : decode cX12_turnsBy 51 = .ok (.invokevirtual 65, 3) := zdc_651.2.2.2.2.2.2.2.2.1
theorem dX12_turnsBy_54 : decode cX12_turnsBy 54 = .ok (.iastore, 1) := zdc_651.2.2.2.2.2.2.2.2.2
theorem zdc_652 : decode cX12_turnsBy 55 = .ok (.aload_n 0, 1) ∧ decode cX12_turnsBy 56 = .ok (.getfield 29, 3) ∧ decode cX12_turnsBy 59 = .ok (.iconst 3, 1) ∧ decode cX12_turnsBy 60 = .ok (.aload_n 0, 1) ∧ decode cX12_turnsBy 61 = .ok (.iconst 1, 1) ∧ decode cX12_turnsBy 62 = .ok (.invokevirtual 242, 3) ∧ decode cX12_turnsBy 65 = .ok (.invokestatic 58, 3) ∧ decode cX12_turnsBy 68 = .ok (.iastore, 1) ∧ decode cX12_turnsBy 69 = .ok (.aload_n 0, 1) ∧ decode cX12_turnsBy 70 = .ok (.getfield 29, 3) := by decide +kernel
theorem dX12_turnsBy_55 : decode cX12_turnsBy 55 = .ok (.aload_n 0, 1) := zdc_652.1
theorem dX12_turnsBy_56 : decode cX12_turnsBy 56 = .ok (.getfield 29, 3) := zdc_652.2.1
theorem dX12_turnsBy_59 : decode cX12_turnsBy 59 = .ok (.iconst 3, 1) := zdc_652.2.2.1
theorem dX12_turnsBy_60 : decode cX12_turnsBy 60 = .ok (.aload_n 0, 1) := zdc_652.2.2.2.1
theorem dX12_turnsBy_61 : decode cX12_turnsBy 61 = .ok (.iconst 1, 1) := zdc_652.2.2.2.2.1
theorem dX12_turnsBy_62 : decode cX12_turnsBy 62 = .ok (.invokevirtual 242, 3) := zdc_652.2.2.2.2.2.1
theorem dX12_turnsBy_65 : decode cX12_turnsBy 65 = .ok (.invokestatic 58, 3) := zdc_652.2.2.2.2.2.2.1
theorem dX12_turnsBy_68 : decode cX12_turnsBy 68 = .ok (.iastore, 1) := zdc_652.2.2.2.2.2.2.2.1
theorem dX12_turnsBy_69 : decode cX12_turnsBy 69 = .ok (.aload_n 0, 1) := zdc_652.2.2.2.2.2.2.2.2.1
theorem dX12_turnsBy_70 : decode cX12_turnsBy 70 = .ok (.getfield 29, 3) := zdc_652.2.2.2.2.2.2.2.2.2
theorem zdc_653 : decode cX12_turnsBy 73 = .ok (.iconst 4, 1) ∧ decode cX12_turnsBy 74 = .ok (.aload_n 0, 1) ∧ decode cX12_turnsBy 75 = .ok (.iload_n 1, 1) ∧ decode cX12_turnsBy 76 = .ok (.invokevirtual 245, 3) ∧ decode cX12_turnsBy 79 = .ok (.iastore, 1) ∧ decode cX12_turnsBy 80 = .ok (.aload_n 0, 1) ∧ decode cX12_turnsBy 81 = .ok (.getfield 29, 3) ∧ decode cX12_turnsBy 84 = .ok (.iconst 5, 1) ∧ decode cX12_turnsBy 85 = .ok (.aload_n 0, 1) ∧ decode cX12_turnsBy 86 = .ok (.getfield 7, 3) := by decide +kernel
theorem dX12_turnsBy_73 : decode cX12_turnsBy 73 = .ok (.iconst 4, 1) := zdc_653.1
theorem dX12_turnsBy_74 : decode cX12_turnsBy 74 = .ok (.aload_n 0, 1) := zdc_653.2.1
theorem dX12_turnsBy_75 : decode cX12_turnsBy 75 = .ok (.iload_n 1, 1) := zdc_653.2.2.1
theorem dX12_turnsBy_76 : decode cX12_turnsBy 76 = .ok (.invokevirtual 245, 3) := zdc_653.2.2.2.1
theorem dX12_turnsBy_79 : decode cX12_turnsBy 79 = .ok (.iastore, 1) := zdc_653.2.2.2.2.1
theorem dX12_turnsBy_80 : decode cX12_turnsBy 80 = .ok (.aload_n 0, 1) := zdc_653.2.2.2.2.2.1
theorem dX12_turnsBy_81 : decode cX12_turnsBy 81 = .ok (.getfield 29, 3) := zdc_653.2.2.2.2.2.2.1
theorem dX12_turnsBy_84 : decode cX12_turnsBy 84 = .ok (.iconst 5, 1) := zdc_653.2.2.2.2.2.2.2.1
theorem dX12_turnsBy_85 : decode cX12_turnsBy 85 = .ok (.aload_n 0, 1) := zdc_653.2.2.2.2.2.2.2.2.1
theorem dX12_turnsBy_86 : decode cX12_turnsBy 86 = .ok (.getfield 7, 3) := zdc_653.2.2.2.2.2.2.2.2.2
theorem zdc_654 : decode cX12_turnsBy 89 = .ok (.bipush 8, 2) ∧ decode cX12_turnsBy 91 = .ok (.iaload, 1) ∧ decode cX12_turnsBy 92 = .ok (.iastore, 1) ∧ decode cX12_turnsBy 93 = .ok (.aload_n 0, 1) ∧ decode cX12_turnsBy 94 = .ok (.aload_n 0, 1) ∧ decode cX12_turnsBy 95 = .ok (.iload_n 1, 1) ∧ decode cX12_turnsBy 96 = .ok (.iconst 3, 1) ∧ decode cX12_turnsBy 97 = .ok (.invokevirtual 46, 3) ∧ decode cX12_turnsBy 100 = .ok (.iconst 1, 1) ∧ decode cX12_turnsBy 101 = .ok (.if_icmp .ne 7, 3) := by decide +kernel
theorem dX12_turnsBy_89 : decode cX12_turnsBy 89 = .ok (.bipush 8, 2) := zdc_654.1
theorem dX12_turnsBy_91 : decode cX12_turnsBy 91 = .ok (.iaload, 1) := zdc_654.2.1
theorem dX12_turnsBy_92 : decode cX12_turnsBy 92 = .ok (.iastore, 1) := zdc_654.2.2.1
theorem dX12_turnsBy_93 : decode cX12_turnsBy 93 = .ok (.aload_n 0, 1) := zdc_654.2.2.2.1
theorem dX12_turnsBy_94 : decode cX12_turnsBy 94 = .ok (.aload_n 0, 1) := zdc_654.2.2.2.2.1
theorem dX12_turnsBy_95 : decode cX12_turnsBy 95 = .ok (.iload_n 1, 1) := zdc_654.2.2.2.2.2.1
theorem dX12_turnsBy_96 : decode cX12_turnsBy 96 = .ok (.iconst 3, 1) := zdc_654.2.2.2.2.2.2.1
theorem dX12_turnsBy_97 : decode cX12_turnsBy 97 = .ok (.invokevirtual 46, 3) := zdc_654.2.2.2.2.2.2.2.1
theorem dX12_turnsBy_100 : decode cX12_turnsBy 100 = .ok (.iconst 1, 1) := zdc_654.2.2.2.2.2.2.2.2.1
theorem dX12_turnsBy_101 : decode cX12_turnsBy 101 = .ok (.if_icmp .ne 7, 3) := zdc_654.2.2.2.2.2.2.2.2.2
theorem zdc_655 : decode cX12_turnsBy 104 = .ok (.iconst 1, 1) ∧ decode cX12_turnsBy 105 = .ok (.goto 4, 3) ∧ decode cX12_turnsBy 108 = .ok (.iconst 0, 1) ∧ decode cX12_turnsBy 109 = .ok (.putfield 202, 3) ∧ decode cX12_turnsBy 112 = .ok (.aload_n 0, 1) ∧ decode cX12_turnsBy 113 = .ok (.aload_n 0, 1) ∧ decode cX12_turnsBy 114 = .ok (.iload_n 1, 1) ∧ decode cX12_turnsBy 115 = .ok (.iconst 2, 1) ∧ decode cX12_turnsBy 116 = .ok (.invokevirtual 46, 3) ∧ decode cX12_turnsBy 119 = .ok (.ifCond .le 7, 3) := by decide +kernel
theorem dX12_turnsBy_104 : decode cX12_turnsBy 104 = .ok (.iconst 1, 1) := zdc_655.1
theorem dX12_turnsBy_105 : decode cX12_turnsBy 105 = .ok (.goto 4, 3) := zdc_655.2.1
theorem dX12_turnsBy_108 : decode cX12_turnsBy 108 = .ok (.iconst 0, 1) := zdc_655.2.2.1
theorem dX12_turnsBy_109 : decode cX12_turnsBy 109 = .ok (.putfield 202, 3) := zdc_655.2.2.2.1
theorem dX12_turnsBy_112 : decode cX12_turnsBy 112 = .ok (.aload_n 0, 1) := zdc_655.2.2.2.2.1
theorem dX12_turnsBy_113 : decode cX12_turnsBy 113 = .ok (.aload_n 0, 1) := zdc_655.2.2.2.2.2.1
theorem dX12_turnsBy_114 : decode cX12_turnsBy 114 = .ok (.iload_n 1, 1) := zdc_655.2.2.2.2.2.2.1
theorem dX12_turnsBy_115 : decode cX12_turnsBy 115 = .ok (.iconst 2, 1) := zdc_655.2.2.2.2.2.2.2.1
theorem dX12_turnsBy_116 : decode cX12_turnsBy 116 = .ok (.invokevirtual 46, 3) := zdc_655.2.2.2.2.2.2.2.2.1
theorem dX12_turnsBy_119 : decode cX12_turnsBy 119 = .ok (.ifCond .le 7, 3) := zdc_655.2.2.2.2.2.2.2.2.2
theorem zdc_656 : decode cX12_turnsBy 122 = .ok (.iconst 1, 1) ∧ decode cX12_turnsBy 123 = .ok (.goto 4, 3) ∧ decode cX12_turnsBy 126 = .ok (.iconst 0, 1) ∧ decode cX12_turnsBy 127 = .ok (.putfield 208, 3) ∧ decode cX12_turnsBy 130 = .ok (.aload_n 0, 1) ∧ decode cX12_turnsBy 131 = .ok (.iconst 0, 1) ∧ decode cX12_turnsBy 132 = .ok (.putfield 239, 3) ∧ decode cX12_turnsBy 135 = .ok (.aload_n 0, 1) ∧ decode cX12_turnsBy 136 = .ok (.getfield 25, 3) ∧ decode cX12_turnsBy 139 = .ok (.istore_n 2, 1) := by decide +kernel
theorem dX12_turnsBy_122 : decode cX12_turnsBy 122 = .ok (.iconst 1, 1) := zdc_656.1
theorem dX12_turnsBy_123 : decode cX12_turnsBy 123 = .ok (.goto 4, 3) := zdc_656.2.1
theorem dX12_turnsBy_126 : decode cX12_turnsBy 126 = .ok (.iconst 0, 1) := zdc_656.2.2.1
theorem dX12_turnsBy_127 : decode cX12_turnsBy 127 = .ok (.putfield 208, 3) := zdc_656.2.2.2.1
theorem dX12_turnsBy_130 : decode cX12_turnsBy 130 = .ok (.aload_n 0, 1) := zdc_656.2.2.2.2.1
theorem dX12_turnsBy_131 : decode cX12_turnsBy 131 = .ok (.iconst 0, 1) := zdc_656.2.2.2.2.2.1
theorem dX12_turnsBy_132 : decode cX12_turnsBy 132 = .ok (.putfield 239, 3) := zdc_656.2.2.2.2.2.2.1
theorem dX12_turnsBy_135 : decode cX12_turnsBy 135 = .ok (.aload_n 0, 1) := zdc_656.2.2.2.2.2.2.2.1
theorem dX12_turnsBy_136 : decode cX12_turnsBy 136 = .ok (.getfield 25, 3) := zdc_656.2.2.2.2.2.2.2.2.1
theorem dX12_turnsBy_139 : decode cX12_turnsBy 139 = .ok (.istore_n 2, 1) := zdc_656.2.2.2.2.2.2.2.2.2
theorem zdc_657 : decode cX12_turnsBy 140 = .ok (.aload_n 0, 1) ∧ decode cX12_turnsBy 141 = .ok (.iconst (-1), 1) ∧ decode cX12_turnsBy 142 = .ok (.putfield 25, 3) ∧ decode cX12_turnsBy 145 = .ok (.aload_n 0, 1) ∧ decode cX12_turnsBy 146 = .ok (.sipush 379, 3) ∧ decode cX12_turnsBy 149 = .ok (.putfield 77, 3) ∧ decode cX12_turnsBy 152 = .ok (.aload_n 0, 1) ∧ decode cX12_turnsBy 153 = .ok (.aload_n 0, 1) ∧ decode cX12_turnsBy 154 = .ok (.getfield 7, 3) ∧ decode cX12_turnsBy 157 = .ok (.iconst 2, 1) := by decide +kernel
theorem dX12_turnsBy_140 : decode cX12_turnsBy 140 = .ok (.aload_n 0, 1) := zdc_657.1
theorem dX12_turnsBy_141 : decode cX12_turnsBy 141 = .ok (.iconst (-1), 1) := zdc_657.2.1
theorem dX12_turnsBy_142 : decode cX12_turnsBy 142 = .ok (.putfield 25, 3) := zdc_657.2.2.1
theorem dX12_turnsBy_145 : decode cX12_turnsBy 145 = .ok (.aload_n 0, 1) := zdc_657.2.2.2.1
theorem dX12_turnsBy_146 : decode cX12_turnsBy 146 = .ok (.sipush 379, 3) := zdc_657.2.2.2.2.1
theorem dX12_turnsBy_149 : decode cX12_turnsBy 149 = .ok (.putfield 77, 3) := zdc_657.2.2.2.2.2.1
theorem dX12_turnsBy_152 : decode cX12_turnsBy 152 = .ok (.aload_n 0, 1) := zdc_657.2.2.2.2.2.2.1
theorem dX12_turnsBy_153 : decode cX12_turnsBy 153 = .ok (.aload_n 0, 1) := zdc_657.2.2.2.2.2.2.2.1
theorem dX12_turnsBy_154 : decode cX12_turnsBy 154 = .ok (.getfield 7, 3) := zdc_657.2.2.2.2.2.2.2.2.1
theorem dX12_turnsBy_157 : decode cX12_turnsBy 157 = .ok (.iconst 2, 1) := zdc_657.2.2.2.2.2.2.2.2.2
theorem zdc_658 : decode cX12_turnsBy 158 = .ok (.iaload, 1) ∧ decode cX12_turnsBy 159 = .ok (.putfield 83, 3) ∧ decode cX12_turnsBy 162 = .ok (.aload_n 0, 1) ∧ decode cX12_turnsBy 163 = .ok (.iconst 0, 1) ∧ decode cX12_turnsBy 164 = .ok (.putfield 80, 3) ∧ decode cX12_turnsBy 167 = .ok (.aload_n 0, 1) ∧ decode cX12_turnsBy 168 = .ok (.iconst 0, 1) ∧ decode cX12_turnsBy 169 = .ok (.putfield 162, 3) ∧ decode cX12_turnsBy 172 = .ok (.aload_n 0, 1) ∧ decode cX12_turnsBy 173 = .ok (.iconst 1, 1) := by decide +kernel
theorem dX12_turnsBy_158 : decode cX12_turnsBy 158 = .ok (.iaload, 1) := zdc_658.1
theorem dX12_turnsBy_159 : decode cX12_turnsBy 159 = .ok (.putfield 83, 3) := zdc_658.2.1
theorem dX12_turnsBy_162 : decode cX12_turnsBy 162 = .ok (.aload_n 0, 1) := zdc_658.2.2.1
theorem dX12_turnsBy_163 : decode cX12_turnsBy 163 = .ok (.iconst 0, 1) := zdc_658.2.2.2.1
theorem dX12_turnsBy_164 : decode cX12_turnsBy 164 = .ok (.putfield 80, 3) := zdc_658.2.2.2.2.1
theorem dX12_turnsBy_167 : decode cX12_turnsBy 167 = .ok (.aload_n 0, 1) := zdc_658.2.2.2.2.2.1
theorem dX12_turnsBy_168 : decode cX12_turnsBy 168 = .ok (.iconst 0, 1) := zdc_658.2.2.2.2.2.2.1
theorem dX12_turnsBy_169 : decode cX12_turnsBy 169 = .ok (.putfield 162, 3) := zdc_658.2.2.2.2.2.2.2.1
theorem dX12_turnsBy_172 : decode cX12_turnsBy 172 = .ok (.aload_n 0, 1) := zdc_658.2.2.2.2.2.2.2.2.1
theorem dX12_turnsBy_173 : decode cX12_turnsBy 173 = .ok (.iconst 1, 1) := zdc_658.2.2.2.2.2.2.2.2.2
theorem zdc_659 : decode cX12_turnsBy 174 = .ok (.invokevirtual 180, 3) ∧ decode cX12_turnsBy 177 = .ok (.istore_n 3, 1) ∧ decode cX12_turnsBy 178 = .ok (.aload_n 0, 1) ∧ decode cX12_turnsBy 179 = .ok (.iload_n 2, 1) ∧ decode cX12_turnsBy 180 = .ok (.putfield 25, 3) ∧ decode cX12_turnsBy 183 = .ok (.aload_n 0, 1) ∧ decode cX12_turnsBy 184 = .ok (.getfield 239, 3) ∧ decode cX12_turnsBy 187 = .ok (.ireturn, 1) ∧ decode cX12_draw 0 = .ok (.aload_n 0, 1) ∧ decode cX12_draw 1 = .ok (.getfield 7, 3) := by decide +kernel
theorem dX12_turnsBy_174 : decode cX12_turnsBy 174 = .ok (.invokevirtual 180, 3) := zdc_659.1
theorem dX12_turnsBy_177 : decode cX12_turnsBy 177 = .ok (.istore_n 3, 1) := zdc_659.2.1
theorem dX12_turnsBy_178 : decode cX12_turnsBy 178 = .ok (.aload_n 0, 1) := zdc_659.2.2.1
theorem dX12_turnsBy_179 : decode cX12_turnsBy 179 = .ok (.iload_n 2, 1) := zdc_659.2.2.2.1
theorem dX12_turnsBy_180 : decode cX12_turnsBy 180 = .ok (.putfield 25, 3) := zdc_659.2.2.2.2.1
theorem dX12_turnsBy_183 : decode cX12_turnsBy 183 = .ok (.aload_n 0, 1) := zdc_659.2.2.2.2.2.1
theorem dX12_turnsBy_184 : decode cX12_turnsBy 184 = .ok (.getfield 239, 3) := zdc_659.2.2.2.2.2.2.1
theorem dX12_turnsBy_187 : decode cX12_turnsBy 187 = .ok (.ireturn, 1) := zdc_659.2.2.2.2.2.2.2.1
theorem dX12_draw_0 : decode cX12_draw 0 = .ok (.aload_n 0, 1) := zdc_659.2.2.2.2.2.2.2.2.1
theorem dX12_draw_1 : decode cX12_draw 1 = .ok (.getfield 7, 3) := zdc_659.2.2.2.2.2.2.2.2.2
theorem zdc_660 : decode cX12_draw 4 = .ok (.bipush 10, 2) ∧ decode cX12_draw 6 = .ok (.ldc 247, 2) ∧ decode cX12_draw 8 = .ok (.aload_n 0, 1) ∧ decode cX12_draw 9 = .ok (.getfield 7, 3) ∧ decode cX12_draw 12 = .ok (.bipush 10, 2) ∧ decode cX12_draw 14 = .ok (.iaload, 1) ∧ decode cX12_draw 15 = .ok (.imul, 1) ∧ decode cX12_draw 16 = .ok (.sipush 12345, 3) ∧ decode cX12_draw 19 = .ok (.iadd, 1) ∧ decode cX12_draw 20 = .ok (.iastore, 1) := by decide +kernel
theorem dX12_draw_4 : decode cX12_draw 4 = .ok (.bipush 10, 2) := zdc_660.1
theorem dX12_draw_6 : decode cX12_draw 6 = .ok (.ldc 247, 2) := zdc_660.2.1
theorem dX12_draw_8 : decode cX12_draw 8 = .ok (.aload_n 0, 1) := zdc_660.2.2.1
theorem dX12_draw_9 : decode cX12_draw 9 = .ok (.getfield 7, 3) := zdc_660.2.2.2.1
theorem dX12_draw_12 : decode cX12_draw 12 = .ok (.bipush 10, 2) := zdc_660.2.2.2.2.1
theorem dX12_draw_14 : decode cX12_draw 14 = .ok (.iaload, 1) := zdc_660.2.2.2.2.2.1
theorem dX12_draw_15 : decode cX12_draw 15 = .ok (.imul, 1) := zdc_660.2.2.2.2.2.2.1
theorem dX12_draw_16 : decode cX12_draw 16 = .ok (.sipush 12345, 3) := zdc_660.2.2.2.2.2.2.2.1
theorem dX12_draw_19 : decode cX12_draw 19 = .ok (.iadd, 1) := zdc_660.2.2.2.2.2.2.2.2.1
theorem dX12_draw_20 : decode cX12_draw 20 = .ok (.iastore, 1) := zdc_660.2.2.2.2.2.2.2.2.2
theorem zdc_661 : decode cX12_draw 21 = .ok (.aload_n 0, 1) ∧ decode cX12_draw 22 = .ok (.getfield 7, 3) ∧ decode cX12_draw 25 = .ok (.bipush 10, 2) ∧ decode cX12_draw 27 = .ok (.iaload, 1) ∧ decode cX12_draw 28 = .ok (.bipush 16, 2) ∧ decode cX12_draw 30 = .ok (.iushr, 1) ∧ decode cX12_draw 31 = .ok (.sipush 32767, 3) ∧ decode cX12_draw 34 = .ok (.iand, 1) ∧ decode cX12_draw 35 = .ok (.iload_n 1, 1) ∧ decode cX12_draw 36 = .ok (.irem, 1) := by decide +kernel
theorem dX12_draw_21 : decode cX12_draw 21 = .ok (.aload_n 0, 1) := zdc_661.1
theorem dX12_draw_22 : decode cX12_draw 22 = .ok (.getfield 7, 3) := zdc_661.2.1
theorem dX12_draw_25 : decode cX12_draw 25 = .ok (.bipush 10, 2) := zdc_661.2.2.1
theorem dX12_draw_27 : decode cX12_draw 27 = .ok (.iaload, 1) := zdc_661.2.2.2.1
theorem dX12_draw_28 : decode cX12_draw 28 = .ok (.bipush 16, 2) := zdc_661.2.2.2.2.1
theorem dX12_draw_30 : decode cX12_draw 30 = .ok (.iushr, 1) := zdc_661.2.2.2.2.2.1
theorem dX12_draw_31 : decode cX12_draw 31 = .ok (.sipush 32767, 3) := zdc_661.2.2.2.2.2.2.1
theorem dX12_draw_34 : decode cX12_draw 34 = .ok (.iand, 1) := zdc_661.2.2.2.2.2.2.2.1
theorem dX12_draw_35 : decode cX12_draw 35 = .ok (.iload_n 1, 1) := zdc_661.2.2.2.2.2.2.2.2.1
theorem dX12_draw_36 : decode cX12_draw 36 = .ok (.irem, 1) := zdc_661.2.2.2.2.2.2.2.2.2
theorem zdc_662 : decode cX12_draw 37 = .ok (.ireturn, 1) ∧ decode cX12_logs 0 = .ok (.sipush 239, 3) ∧ decode cX12_logs 3 = .ok (.istore_n 3, 1) ∧ decode cX12_logs 4 = .ok (.iload_n 3, 1) ∧ decode cX12_logs 5 = .ok (.iconst 4, 1) ∧ decode cX12_logs 6 = .ok (.if_icmp .lt 31, 3) ∧ decode cX12_logs 9 = .ok (.aload_n 0, 1) ∧ decode cX12_logs 10 = .ok (.getfield 7, 3) ∧ decode cX12_logs 13 = .ok (.sipush 139, 3) ∧ decode cX12_logs 16 = .ok (.iload_n 3, 1) := by decide +kernel
theorem dX12_draw_37 : decode cX12_draw 37 = .ok (.ireturn, 1) := zdc_662.1
theorem dX12_logs_0 : decode cX12_logs 0 = .ok (.sipush 239, 3) := zdc_662.2.1
theorem dX12_logs_3 : decode cX12_logs 3 = .ok (.istore_n 3, 1) := zdc_662.2.2.1
theorem dX12_logs_4 : decode cX12_logs 4 = .ok (.iload_n 3, 1) := zdc_662.2.2.2.1
theorem dX12_logs_5 : decode cX12_logs 5 = .ok (.iconst 4, 1) := zdc_662.2.2.2.2.1
theorem dX12_logs_6 : decode cX12_logs 6 = .ok (.if_icmp .lt 31, 3) := zdc_662.2.2.2.2.2.1
theorem dX12_logs_9 : decode cX12_logs 9 = .ok (.aload_n 0, 1) := zdc_662.2.2.2.2.2.2.1
theorem dX12_logs_10 : decode cX12_logs 10 = .ok (.getfield 7, 3) := zdc_662.2.2.2.2.2.2.2.1
theorem dX12_logs_13 : decode cX12_logs 13 = .ok (.sipush 139, 3) := zdc_662.2.2.2.2.2.2.2.2.1
theorem dX12_logs_16 : decode cX12_logs 16 = .ok (.iload_n 3, 1) := zdc_662.2.2.2.2.2.2.2.2.2
theorem zdc_663 : decode cX12_logs 17 = .ok (.iadd, 1) ∧ decode cX12_logs 18 = .ok (.aload_n 0, 1) ∧ decode cX12_logs 19 = .ok (.getfield 7, 3) ∧ decode cX12_logs 22 = .ok (.sipush 139, 3) ∧ decode cX12_logs 25 = .ok (.iload_n 3, 1) ∧ decode cX12_logs 26 = .ok (.iadd, 1) ∧ decode cX12_logs 27 = .ok (.iconst 4, 1) ∧ decode cX12_logs 28 = .ok (.isub, 1) ∧ decode cX12_logs 29 = .ok (.iaload, 1) ∧ decode cX12_logs 30 = .ok (.iastore, 1) := by decide +kernel
theorem dX12_logs_17 : decode cX12_logs 17 = .ok (.iadd, 1) := zdc_663.1
theorem dX12_logs_18 : decode cX12_logs 18 = .ok (.aload_n 0, 1) := zdc_663.2.1
theorem dX12_logs_19 : decode cX12_logs 19 = .ok (.getfield 7, 3) := zdc_663.2.2.1
theorem dX12_logs_22 : decode cX12_logs 22 = .ok (.sipush 139, 3) := zdc_663.2.2.2.1
theorem dX12_logs_25 : decode cX12_logs 25 = .ok (.iload_n 3, 1) := zdc_663.2.2.2.2.1
theorem dX12_logs_26 : decode cX12_logs 26 = .ok (.iadd, 1) := zdc_663.2.2.2.2.2.1
theorem dX12_logs_27 : decode cX12_logs 27 = .ok (.iconst 4, 1) := zdc_663.2.2.2.2.2.2.1
theorem dX12_logs_28 : decode cX12_logs 28 = .ok (.isub, 1) := zdc_663.2.2.2.2.2.2.2.1
theorem dX12_logs_29 : decode cX12_logs 29 = .ok (.iaload, 1) := zdc_663.2.2.2.2.2.2.2.2.1
theorem dX12_logs_30 : decode cX12_logs 30 = .ok (.iastore, 1) := zdc_663.2.2.2.2.2.2.2.2.2
theorem zdc_664 : decode cX12_logs 31 = .ok (.iinc 3 (-1), 3) ∧ decode cX12_logs 34 = .ok (.goto (-30), 3) ∧ decode cX12_logs 37 = .ok (.aload_n 0, 1) ∧ decode cX12_logs 38 = .ok (.getfield 7, 3) ∧ decode cX12_logs 41 = .ok (.sipush 139, 3) ∧ decode cX12_logs 44 = .ok (.aload_n 0, 1) ∧ decode cX12_logs 45 = .ok (.getfield 7, 3) ∧ decode cX12_logs 48 = .ok (.bipush 8, 2) ∧ decode cX12_logs 50 = .ok (.iaload, 1) ∧ decode cX12_logs 51 = .ok (.iastore, 1) := by decide +kernel
theorem dX12_logs_31 : decode cX12_logs 31 = .ok (.iinc 3 (-1), 3) := zdc_664.1
theorem dX12_logs_34 : decode cX12_logs 34 = .ok (.goto (-30), 3) := zdc_664.2.1
theorem dX12_logs_37 : decode cX12_logs 37 = .ok (.aload_n 0, 1) := zdc_664.2.2.1
theorem dX12_logs_38 : decode cX12_logs 38 = .ok (.getfield 7, 3) := zdc_664.2.2.2.1
theorem dX12_logs_41 : decode cX12_logs 41 = .ok (.sipush 139, 3) := zdc_664.2.2.2.2.1
theorem dX12_logs_44 : decode cX12_logs 44 = .ok (.aload_n 0, 1) := zdc_664.2.2.2.2.2.1
theorem dX12_logs_45 : decode cX12_logs 45 = .ok (.getfield 7, 3) := zdc_664.2.2.2.2.2.2.1
theorem dX12_logs_48 : decode cX12_logs 48 = .ok (.bipush 8, 2) := zdc_664.2.2.2.2.2.2.2.1
theorem dX12_logs_50 : decode cX12_logs 50 = .ok (.iaload, 1) := zdc_664.2.2.2.2.2.2.2.2.1
theorem dX12_logs_51 : decode cX12_logs 51 = .ok (.iastore, 1) := zdc_664.2.2.2.2.2.2.2.2.2
theorem zdc_665 : decode cX12_logs 52 = .ok (.aload_n 0, 1) ∧ decode cX12_logs 53 = .ok (.getfield 7, 3) ∧ decode cX12_logs 56 = .ok (.sipush 140, 3) ∧ decode cX12_logs 59 = .ok (.iload_n 1, 1) ∧ decode cX12_logs 60 = .ok (.iastore, 1) ∧ decode cX12_logs 61 = .ok (.aload_n 0, 1) ∧ decode cX12_logs 62 = .ok (.getfield 7, 3) ∧ decode cX12_logs 65 = .ok (.sipush 141, 3) ∧ decode cX12_logs 68 = .ok (.iload_n 2, 1) ∧ decode cX12_logs 69 = .ok (.iastore, 1) := by decide +kernel
theorem dX12_logs_52 : decode cX12_logs 52 = .ok (.aload_n 0, 1) := zdc_665.1
theorem dX12_logs_53 : decode cX12_logs 53 = .ok (.getfield 7, 3) := zdc_665.2.1
theorem dX12_logs_56 : decode cX12_logs 56 = .ok (.sipush 140, 3) := zdc_665.2.2.1
theorem dX12_logs_59 : decode cX12_logs 59 = .ok (.iload_n 1, 1) := zdc_665.2.2.2.1
theorem dX12_logs_60 : decode cX12_logs 60 = .ok (.iastore, 1) := zdc_665.2.2.2.2.1
theorem dX12_logs_61 : decode cX12_logs 61 = .ok (.aload_n 0, 1) := zdc_665.2.2.2.2.2.1
theorem dX12_logs_62 : decode cX12_logs 62 = .ok (.getfield 7, 3) := zdc_665.2.2.2.2.2.2.1
theorem dX12_logs_65 : decode cX12_logs 65 = .ok (.sipush 141, 3) := zdc_665.2.2.2.2.2.2.2.1
theorem dX12_logs_68 : decode cX12_logs 68 = .ok (.iload_n 2, 1) := zdc_665.2.2.2.2.2.2.2.2.1
theorem dX12_logs_69 : decode cX12_logs 69 = .ok (.iastore, 1) := zdc_665.2.2.2.2.2.2.2.2.2
theorem zdc_666 : decode cX12_logs 70 = .ok (.aload_n 0, 1) ∧ decode cX12_logs 71 = .ok (.getfield 7, 3) ∧ decode cX12_logs 74 = .ok (.sipush 142, 3) ∧ decode cX12_logs 77 = .ok (.aload_n 0, 1) ∧ decode cX12_logs 78 = .ok (.invokevirtual 62, 3) ∧ decode cX12_logs 81 = .ok (.iastore, 1) ∧ decode cX12_logs 82 = .ok (.aload_n 0, 1) ∧ decode cX12_logs 83 = .ok (.getfield 7, 3) ∧ decode cX12_logs 86 = .ok (.bipush 9, 2) ∧ decode cX12_logs 88 = .ok (.bipush 60, 2) := by decide +kernel
theorem dX12_logs_70 : decode cX12_logs 70 = .ok (.aload_n 0, 1) := zdc_666.1
theorem dX12_logs_71 : decode cX12_logs 71 = .ok (.getfield 7, 3) := zdc_666.2.1
theorem dX12_logs_74 : decode cX12_logs 74 = .ok (.sipush 142, 3) := zdc_666.2.2.1
theorem dX12_logs_77 : decode cX12_logs 77 = .ok (.aload_n 0, 1) := zdc_666.2.2.2.1
theorem dX12_logs_78 : decode cX12_logs 78 = .ok (.invokevirtual 62, 3) := zdc_666.2.2.2.2.1
theorem dX12_logs_81 : decode cX12_logs 81 = .ok (.iastore, 1) := zdc_666.2.2.2.2.2.1
theorem dX12_logs_82 : decode cX12_logs 82 = .ok (.aload_n 0, 1) := zdc_666.2.2.2.2.2.2.1
theorem dX12_logs_83 : decode cX12_logs 83 = .ok (.getfield 7, 3) := zdc_666.2.2.2.2.2.2.2.1
theorem dX12_logs_86 : decode cX12_logs 86 = .ok (.bipush 9, 2) := zdc_666.2.2.2.2.2.2.2.2.1
theorem dX12_logs_88 : decode cX12_logs 88 = .ok (.bipush 60, 2) := zdc_666.2.2.2.2.2.2.2.2.2
theorem zdc_667 : decode cX12_logs 90 = .ok (.aload_n 0, 1) ∧ decode cX12_logs 91 = .ok (.getfield 7, 3) ∧ decode cX12_logs 94 = .ok (.bipush 9, 2) ∧ decode cX12_logs 96 = .ok (.iaload, 1) ∧ decode cX12_logs 97 = .ok (.iconst 1, 1) ∧ decode cX12_logs 98 = .ok (.iadd, 1) ∧ decode cX12_logs 99 = .ok (.invokestatic 248, 3) ∧ decode cX12_logs 102 = .ok (.iastore, 1) ∧ decode cX12_logs 103 = .ok (.return_, 1) ∧ decode cX12_believes 0 = .ok (.aload_n 0, 1) := by decide +kernel
theorem dX12_logs_90 : decode cX12_logs 90 = .ok (.aload_n 0, 1) := zdc_667.1
theorem dX12_logs_91 : decode cX12_logs 91 = .ok (.getfield 7, 3) := zdc_667.2.1
theorem dX12_logs_94 : decode cX12_logs 94 = .ok (.bipush 9, 2) := zdc_667.2.2.1
theorem dX12_logs_96 : decode cX12_logs 96 = .ok (.iaload, 1) := zdc_667.2.2.2.1
theorem dX12_logs_97 : decode cX12_logs 97 = .ok (.iconst 1, 1) := zdc_667.2.2.2.2.1
theorem dX12_logs_98 : decode cX12_logs 98 = .ok (.iadd, 1) := zdc_667.2.2.2.2.2.1
theorem dX12_logs_99 : decode cX12_logs 99 = .ok (.invokestatic 248, 3) := zdc_667.2.2.2.2.2.2.1
theorem dX12_logs_102 : decode cX12_logs 102 = .ok (.iastore, 1) := zdc_667.2.2.2.2.2.2.2.1
theorem dX12_logs_103 : decode cX12_logs 103 = .ok (.return_, 1) := zdc_667.2.2.2.2.2.2.2.2.1
theorem dX12_believes_0 : decode cX12_believes 0 = .ok (.aload_n 0, 1) := zdc_667.2.2.2.2.2.2.2.2.2
theorem zdc_668 : decode cX12_believes 1 = .ok (.iload_n 1, 1) ∧ decode cX12_believes 2 = .ok (.iconst 0, 1) ∧ decode cX12_believes 3 = .ok (.iconst 0, 1) ∧ decode cX12_believes 4 = .ok (.bipush 99, 2) ∧ decode cX12_believes 6 = .ok (.aload_n 0, 1) ∧ decode cX12_believes 7 = .ok (.iload_n 1, 1) ∧ decode cX12_believes 8 = .ok (.iconst 0, 1) ∧ decode cX12_believes 9 = .ok (.invokevirtual 46, 3) ∧ decode cX12_believes 12 = .ok (.iload_n 2, 1) ∧ decode cX12_believes 13 = .ok (.iadd, 1) := by decide +kernel
theorem dX12_believes_1 : decode cX12_believes 1 = .ok (.iload_n 1, 1) := zdc_668.1
theorem dX12_believes_2 : decode cX12_believes 2 = .ok (.iconst 0, 1) := zdc_668.2.1
theorem dX12_believes_3 : decode cX12_believes 3 = .ok (.iconst 0, 1) := zdc_668.2.2.1
theorem dX12_believes_4 : decode cX12_believes 4 = .ok (.bipush 99, 2) := zdc_668.2.2.2.1
theorem dX12_believes_6 : decode cX12_believes 6 = .ok (.aload_n 0, 1) := zdc_668.2.2.2.2.1
theorem dX12_believes_7 : decode cX12_believes 7 = .ok (.iload_n 1, 1) := zdc_668.2.2.2.2.2.1
theorem dX12_believes_8 : decode cX12_believes 8 = .ok (.iconst 0, 1) := zdc_668.2.2.2.2.2.2.1
theorem dX12_believes_9 : decode cX12_believes 9 = .ok (.invokevirtual 46, 3) := zdc_668.2.2.2.2.2.2.2.1
theorem dX12_believes_12 : decode cX12_believes 12 = .ok (.iload_n 2, 1) := zdc_668.2.2.2.2.2.2.2.2.1
theorem dX12_believes_13 : decode cX12_believes 13 = .ok (.iadd, 1) := zdc_668.2.2.2.2.2.2.2.2.2
theorem zdc_669 : decode cX12_believes 14 = .ok (.invokestatic 248, 3) ∧ decode cX12_believes 17 = .ok (.invokestatic 251, 3) ∧ decode cX12_believes 20 = .ok (.invokevirtual 123, 3) ∧ decode cX12_believes 23 = .ok (.return_, 1) ∧ decode cX12_build 0 = .ok (.iconst 0, 1) ∧ decode cX12_build 1 = .ok (.istore_n 1, 1) ∧ decode cX12_build 2 = .ok (.iconst 0, 1) ∧ decode cX12_build 3 = .ok (.istore_n 2, 1) ∧ decode cX12_build 4 = .ok (.iload_n 2, 1) ∧ decode cX12_build 5 = .ok (.aload_n 0, 1) := by decide +kernel
theorem dX12_believes_14 : decode cX12_believes 14 = .ok (.invokestatic 248, 3) := zdc_669.1
theorem dX12_believes_17 : decode cX12_believes 17 = .ok (.invokestatic 251, 3) := zdc_669.2.1
theorem dX12_believes_20 : decode cX12_believes 20 = .ok (.invokevirtual 123, 3) := zdc_669.2.2.1
theorem dX12_believes_23 : decode cX12_believes 23 = .ok (.return_, 1) := zdc_669.2.2.2.1
theorem dX12_build_0 : decode cX12_build 0 = .ok (.iconst 0, 1) := zdc_669.2.2.2.2.1
theorem dX12_build_1 : decode cX12_build 1 = .ok (.istore_n 1, 1) := zdc_669.2.2.2.2.2.1
theorem dX12_build_2 : decode cX12_build 2 = .ok (.iconst 0, 1) := zdc_669.2.2.2.2.2.2.1
theorem dX12_build_3 : decode cX12_build 3 = .ok (.istore_n 2, 1) := zdc_669.2.2.2.2.2.2.2.1
theorem dX12_build_4 : decode cX12_build 4 = .ok (.iload_n 2, 1) := zdc_669.2.2.2.2.2.2.2.2.1
theorem dX12_build_5 : decode cX12_build 5 = .ok (.aload_n 0, 1) := zdc_669.2.2.2.2.2.2.2.2.2
theorem zdc_670 : decode cX12_build 6 = .ok (.getfield 7, 3) ∧ decode cX12_build 9 = .ok (.iconst 4, 1) ∧ decode cX12_build 10 = .ok (.iaload, 1) ∧ decode cX12_build 11 = .ok (.if_icmp .ge 145, 3) ∧ decode cX12_build 14 = .ok (.aload_n 0, 1) ∧ decode cX12_build 15 = .ok (.invokevirtual 62, 3) ∧ decode cX12_build 18 = .ok (.aload_n 0, 1) ∧ decode cX12_build 19 = .ok (.iload_n 2, 1) ∧ decode cX12_build 20 = .ok (.iconst 1, 1) ∧ decode cX12_build 21 = .ok (.invokevirtual 68, 3) := by decide +kernel
theorem dX12_build_6 : decode cX12_build 6 = .ok (.getfield 7, 3) := zdc_670.1
theorem dX12_build_9 : decode cX12_build 9 = .ok (.iconst 4, 1) := zdc_670.2.1
theorem dX12_build_10 : decode cX12_build 10 = .ok (.iaload, 1) := zdc_670.2.2.1
theorem dX12_build_11 : decode cX12_build 11 = .ok (.if_icmp .ge 145, 3) := zdc_670.2.2.2.1
theorem dX12_build_14 : decode cX12_build 14 = .ok (.aload_n 0, 1) := zdc_670.2.2.2.2.1
theorem dX12_build_15 : decode cX12_build 15 = .ok (.invokevirtual 62, 3) := zdc_670.2.2.2.2.2.1
theorem dX12_build_18 : decode cX12_build 18 = .ok (.aload_n 0, 1) := zdc_670.2.2.2.2.2.2.1
theorem dX12_build_19 : decode cX12_build 19 = .ok (.iload_n 2, 1) := zdc_670.2.2.2.2.2.2.2.1
theorem dX12_build_20 : decode cX12_build 20 = .ok (.iconst 1, 1) := zdc_670.2.2.2.2.2.2.2.2.1
theorem dX12_build_21 : decode cX12_build 21 = .ok (.invokevirtual 68, 3) := zdc_670.2.2.2.2.2.2.2.2.2
theorem zdc_671 : decode cX12_build 24 = .ok (.if_icmp .lt 7, 3) ∧ decode cX12_build 27 = .ok (.iconst 1, 1) ∧ decode cX12_build 28 = .ok (.goto 4, 3) ∧ decode cX12_build 31 = .ok (.iconst 0, 1) ∧ decode cX12_build 32 = .ok (.istore_n 3, 1) ∧ decode cX12_build 33 = .ok (.aload_n 0, 1) ∧ decode cX12_build 34 = .ok (.iload_n 2, 1) ∧ decode cX12_build 35 = .ok (.iconst 3, 1) ∧ decode cX12_build 36 = .ok (.invokevirtual 68, 3) ∧ decode cX12_build 39 = .ok (.iconst 1, 1) := by decide +kernel
theorem dX12_build_24 : decode cX12_build 24 = .ok (.if_icmp .lt 7, 3) := zdc_671.1
theorem dX12_build_27 : decode cX12_build 27 = .ok (.iconst 1, 1) := zdc_671.2.1
theorem dX12_build_28 : decode cX12_build 28 = .ok (.goto 4, 3) := zdc_671.2.2.1
theorem dX12_build_31 : decode cX12_build 31 = .ok (.iconst 0, 1) := zdc_671.2.2.2.1
theorem dX12_build_32 : decode cX12_build 32 = .ok (.istore_n 3, 1) := zdc_671.2.2.2.2.1
theorem dX12_build_33 : decode cX12_build 33 = .ok (.aload_n 0, 1) := zdc_671.2.2.2.2.2.1
theorem dX12_build_34 : decode cX12_build 34 = .ok (.iload_n 2, 1) := zdc_671.2.2.2.2.2.2.1
theorem dX12_build_35 : decode cX12_build 35 = .ok (.iconst 3, 1) := zdc_671.2.2.2.2.2.2.2.1
theorem dX12_build_36 : decode cX12_build 36 = .ok (.invokevirtual 68, 3) := zdc_671.2.2.2.2.2.2.2.2.1
theorem dX12_build_39 : decode cX12_build 39 = .ok (.iconst 1, 1) := zdc_671.2.2.2.2.2.2.2.2.2
theorem zdc_672 : decode cX12_build 40 = .ok (.if_icmp .ne 54, 3) ∧ decode cX12_build 43 = .ok (.iload_n 3, 1) ∧ decode cX12_build 44 = .ok (.ifCond .eq 31, 3) ∧ decode cX12_build 47 = .ok (.aload_n 0, 1) ∧ decode cX12_build 48 = .ok (.getfield 7, 3) ∧ decode cX12_build 51 = .ok (.iconst 5, 1) ∧ decode cX12_build 52 = .ok (.sipush 9999, 3) ∧ decode cX12_build 55 = .ok (.aload_n 0, 1) ∧ decode cX12_build 56 = .ok (.getfield 7, 3) ∧ decode cX12_build 59 = .ok (.iconst 5, 1) := by decide +kernel
theorem dX12_build_40 : decode cX12_build 40 = .ok (.if_icmp .ne 54, 3) := zdc_672.1
theorem dX12_build_43 : decode cX12_build 43 = .ok (.iload_n 3, 1) := zdc_672.2.1
theorem dX12_build_44 : decode cX12_build 44 = .ok (.ifCond .eq 31, 3) := zdc_672.2.2.1
theorem dX12_build_47 : decode cX12_build 47 = .ok (.aload_n 0, 1) := zdc_672.2.2.2.1
theorem dX12_build_48 : decode cX12_build 48 = .ok (.getfield 7, 3) := zdc_672.2.2.2.2.1
theorem dX12_build_51 : decode cX12_build 51 = .ok (.iconst 5, 1) := zdc_672.2.2.2.2.2.1
theorem dX12_build_52 : decode cX12_build 52 = .ok (.sipush 9999, 3) := zdc_672.2.2.2.2.2.2.1
theorem dX12_build_55 : decode cX12_build 55 = .ok (.aload_n 0, 1) := zdc_672.2.2.2.2.2.2.2.1
theorem dX12_build_56 : decode cX12_build 56 = .ok (.getfield 7, 3) := zdc_672.2.2.2.2.2.2.2.2.1
theorem dX12_build_59 : decode cX12_build 59 = .ok (.iconst 5, 1) := zdc_672.2.2.2.2.2.2.2.2.2
theorem zdc_673 : decode cX12_build 60 = .ok (.iaload, 1) ∧ decode cX12_build 61 = .ok (.aload_n 0, 1) ∧ decode cX12_build 62 = .ok (.iload_n 2, 1) ∧ decode cX12_build 63 = .ok (.iconst 2, 1) ∧ decode cX12_build 64 = .ok (.invokevirtual 68, 3) ∧ decode cX12_build 67 = .ok (.iadd, 1) ∧ decode cX12_build 68 = .ok (.invokestatic 248, 3) ∧ decode cX12_build 71 = .ok (.iastore, 1) ∧ decode cX12_build 72 = .ok (.goto 78, 3) ∧ decode cX12_build 75 = .ok (.aload_n 0, 1) := by decide +kernel
theorem dX12_build_60 : decode cX12_build 60 = .ok (.iaload, 1) := zdc_673.1
theorem dX12_build_61 : decode cX12_build 61 = .ok (.aload_n 0, 1) := zdc_673.2.1
theorem dX12_build_62 : decode cX12_build 62 = .ok (.iload_n 2, 1) := zdc_673.2.2.1
theorem dX12_build_63 : decode cX12_build 63 = .ok (.iconst 2, 1) := zdc_673.2.2.2.1
theorem dX12_build_64 : decode cX12_build 64 = .ok (.invokevirtual 68, 3) := zdc_673.2.2.2.2.1
theorem dX12_build_67 : decode cX12_build 67 = .ok (.iadd, 1) := zdc_673.2.2.2.2.2.1
theorem dX12_build_68 : decode cX12_build 68 = .ok (.invokestatic 248, 3) := zdc_673.2.2.2.2.2.2.1
theorem dX12_build_71 : decode cX12_build 71 = .ok (.iastore, 1) := zdc_673.2.2.2.2.2.2.2.1
theorem dX12_build_72 : decode cX12_build 72 = .ok (.goto 78, 3) := zdc_673.2.2.2.2.2.2.2.2.1
theorem dX12_build_75 : decode cX12_build 75 = .ok (.aload_n 0, 1) := zdc_673.2.2.2.2.2.2.2.2.2
theorem zdc_674 : decode cX12_build 76 = .ok (.iload_n 2, 1) ∧ decode cX12_build 77 = .ok (.iconst 3, 1) ∧ decode cX12_build 78 = .ok (.iconst 2, 1) ∧ decode cX12_build 79 = .ok (.invokevirtual 131, 3) ∧ decode cX12_build 82 = .ok (.aload_n 0, 1) ∧ decode cX12_build 83 = .ok (.iload_n 2, 1) ∧ decode cX12_build 84 = .ok (.iconst 1, 1) ∧ decode cX12_build 85 = .ok (.invokevirtual 254, 3) ∧ decode cX12_build 88 = .ok (.iinc 1 1, 3) ∧ decode cX12_build 91 = .ok (.goto 59, 3) := by decide +kernel
theorem dX12_build_76 : decode cX12_build 76 = .ok (.iload_n 2, 1) := zdc_674.1
theorem dX12_build_77 : decode cX12_build 77 = .ok (.iconst 3, 1) := zdc_674.2.1
theorem dX12_build_78 : decode cX12_build 78 = .ok (.iconst 2, 1) := zdc_674.2.2.1
theorem dX12_build_79 : decode cX12_build 79 = .ok (.invokevirtual 131, 3) := zdc_674.2.2.2.1
theorem dX12_build_82 : decode cX12_build 82 = .ok (.aload_n 0, 1) := zdc_674.2.2.2.2.1
theorem dX12_build_83 : decode cX12_build 83 = .ok (.iload_n 2, 1) := zdc_674.2.2.2.2.2.1
theorem dX12_build_84 : decode cX12_build 84 = .ok (.iconst 1, 1) := zdc_674.2.2.2.2.2.2.1
theorem dX12_build_85 : decode cX12_build 85 = .ok (.invokevirtual 254, 3) := zdc_674.2.2.2.2.2.2.2.1
theorem dX12_build_88 : decode cX12_build 88 = .ok (.iinc 1 1, 3) := zdc_674.2.2.2.2.2.2.2.2.1
theorem dX12_build_91 : decode cX12_build 91 = .ok (.goto 59, 3) := zdc_674.2.2.2.2.2.2.2.2.2
theorem zdc_675 : decode cX12_build 94 = .ok (.aload_n 0, 1) ∧ decode cX12_build 95 = .ok (.iload_n 2, 1) ∧ decode cX12_build 96 = .ok (.iconst 3, 1) ∧ decode cX12_build 97 = .ok (.invokevirtual 68, 3) ∧ decode cX12_build 100 = .ok (.ifCond .ne 50, 3) ∧ decode cX12_build 103 = .ok (.iload_n 3, 1) ∧ decode cX12_build 104 = .ok (.ifCond .eq 46, 3) ∧ decode cX12_build 107 = .ok (.aload_n 0, 1) ∧ decode cX12_build 108 = .ok (.getfield 7, 3) ∧ decode cX12_build 111 = .ok (.iconst 5, 1) := by decide +kernel
theorem dX12_build_94 : decode cX12_build 94 = .ok (.aload_n 0, 1) := zdc_675.1
theorem dX12_build_95 : decode cX12_build 95 = .ok (.iload_n 2, 1) := zdc_675.2.1
theorem dX12_build_96 : decode cX12_build 96 = .ok (.iconst 3, 1) := zdc_675.2.2.1
theorem dX12_build_97 : decode cX12_build 97 = .ok (.invokevirtual 68, 3) := zdc_675.2.2.2.1
theorem dX12_build_100 : decode cX12_build 100 = .ok (.ifCond .ne 50, 3) := zdc_675.2.2.2.2.1
theorem dX12_build_103 : decode cX12_build 103 = .ok (.iload_n 3, 1) := zdc_675.2.2.2.2.2.1
theorem dX12_build_104 : decode cX12_build 104 = .ok (.ifCond .eq 46, 3) := zdc_675.2.2.2.2.2.2.1
theorem dX12_build_107 : decode cX12_build 107 = .ok (.aload_n 0, 1) := zdc_675.2.2.2.2.2.2.2.1
theorem dX12_build_108 : decode cX12_build 108 = .ok (.getfield 7, 3) := zdc_675.2.2.2.2.2.2.2.2.1
theorem dX12_build_111 : decode cX12_build 111 = .ok (.iconst 5, 1) := zdc_675.2.2.2.2.2.2.2.2.2
theorem zdc_676 : decode cX12_build 112 = .ok (.iaload, 1) ∧ decode cX12_build 113 = .ok (.aload_n 0, 1) ∧ decode cX12_build 114 = .ok (.iload_n 2, 1) ∧ decode cX12_build 115 = .ok (.iconst 0, 1) ∧ decode cX12_build 116 = .ok (.invokevirtual 68, 3) ∧ decode cX12_build 119 = .ok (.if_icmp .lt 31, 3) ∧ decode cX12_build 122 = .ok (.aload_n 0, 1) ∧ decode cX12_build 123 = .ok (.getfield 7, 3) ∧ decode cX12_build 126 = .ok (.iconst 5, 1) ∧ decode cX12_build 127 = .ok (.dup2, 1) := by decide +kernel
theorem dX12_build_112 : decode cX12_build 112 = .ok (.iaload, 1) := zdc_676.1
theorem dX12_build_113 : decode cX12_build 113 = .ok (.aload_n 0, 1) := zdc_676.2.1
theorem dX12_build_114 : decode cX12_build 114 = .ok (.iload_n 2, 1) := zdc_676.2.2.1
theorem dX12_build_115 : decode cX12_build 115 = .ok (.iconst 0, 1) := zdc_676.2.2.2.1
theorem dX12_build_116 : decode cX12_build 116 = .ok (.invokevirtual 68, 3) := zdc_676.2.2.2.2.1
theorem dX12_build_119 : decode cX12_build 119 = .ok (.if_icmp .lt 31, 3) := zdc_676.2.2.2.2.2.1
theorem dX12_build_122 : decode cX12_build 122 = .ok (.aload_n 0, 1) := zdc_676.2.2.2.2.2.2.1
theorem dX12_build_123 : decode cX12_build 123 = .ok (.getfield 7, 3) := zdc_676.2.2.2.2.2.2.2.1
theorem dX12_build_126 : decode cX12_build 126 = .ok (.iconst 5, 1) := zdc_676.2.2.2.2.2.2.2.2.1
theorem dX12_build_127 : decode cX12_build 127 = .ok (.dup2, 1) := zdc_676.2.2.2.2.2.2.2.2.2
theorem zdc_677 : decode cX12_build 128 = .ok (.iaload, 1) ∧ decode cX12_build 129 = .ok (.aload_n 0, 1) ∧ decode cX12_build 130 = .ok (.iload_n 2, 1) ∧ decode cX12_build 131 = .ok (.iconst 0, 1) ∧ decode cX12_build 132 = .ok (.invokevirtual 68, 3) ∧ decode cX12_build 135 = .ok (.isub, 1) ∧ decode cX12_build 136 = .ok (.iastore, 1) ∧ decode cX12_build 137 = .ok (.aload_n 0, 1) ∧ decode cX12_build 138 = .ok (.iload_n 2, 1) ∧ decode cX12_build 139 = .ok (.iconst 3, 1) := by decide +kernel
theorem dX12_build_128 : decode cX12_build 128 = .ok (.iaload, 1) := zdc_677.1
theorem dX12_build_129 : decode cX12_build 129 = .ok (.aload_n 0, 1) := zdc_677.2.1
theorem dX12_build_130 : decode cX12_build 130 = .ok (.iload_n 2, 1) := zdc_677.2.2.1
theorem dX12_build_131 : decode cX12_build 131 = .ok (.iconst 0, 1) := zdc_677.2.2.2.1
theorem dX12_build_132 : decode cX12_build 132 = .ok (.invokevirtual 68, 3) := zdc_677.2.2.2.2.1
theorem dX12_build_135 : decode cX12_build 135 = .ok (.isub, 1) := zdc_677.2.2.2.2.2.1
theorem dX12_build_136 : decode cX12_build 136 = .ok (.iastore, 1) := zdc_677.2.2.2.2.2.2.1
theorem dX12_build_137 : decode cX12_build 137 = .ok (.aload_n 0, 1) := zdc_677.2.2.2.2.2.2.2.1
theorem dX12_build_138 : decode cX12_build 138 = .ok (.iload_n 2, 1) := zdc_677.2.2.2.2.2.2.2.2.1
theorem dX12_build_139 : decode cX12_build 139 = .ok (.iconst 3, 1) := zdc_677.2.2.2.2.2.2.2.2.2
theorem zdc_678 : decode cX12_build 140 = .ok (.iconst 1, 1) ∧ decode cX12_build 141 = .ok (.invokevirtual 131, 3) ∧ decode cX12_build 144 = .ok (.aload_n 0, 1) ∧ decode cX12_build 145 = .ok (.iload_n 2, 1) ∧ decode cX12_build 146 = .ok (.iconst 0, 1) ∧ decode cX12_build 147 = .ok (.invokevirtual 254, 3) ∧ decode cX12_build 150 = .ok (.iinc 2 1, 3) ∧ decode cX12_build 153 = .ok (.goto (-149), 3) ∧ decode cX12_build 156 = .ok (.iload_n 1, 1) ∧ decode cX12_build 157 = .ok (.ireturn, 1) := by decide +kernel
theorem dX12_build_140 : decode cX12_build 140 = .ok (.iconst 1, 1) := zdc_678.1
theorem dX12_build_141 : decode cX12_build 141 = .ok (.invokevirtual 131, 3) := zdc_678.2.1
theorem dX12_build_144 : decode cX12_build 144 = .ok (.aload_n 0, 1) := zdc_678.2.2.1
theorem dX12_build_145 : decode cX12_build 145 = .ok (.iload_n 2, 1) := zdc_678.2.2.2.1
theorem dX12_build_146 : decode cX12_build 146 = .ok (.iconst 0, 1) := zdc_678.2.2.2.2.1
theorem dX12_build_147 : decode cX12_build 147 = .ok (.invokevirtual 254, 3) := zdc_678.2.2.2.2.2.1
theorem dX12_build_150 : decode cX12_build 150 = .ok (.iinc 2 1, 3) := zdc_678.2.2.2.2.2.2.1
theorem dX12_build_153 : decode cX12_build 153 = .ok (.goto (-149), 3) := zdc_678.2.2.2.2.2.2.2.1
theorem dX12_build_156 : decode cX12_build 156 = .ok (.iload_n 1, 1) := zdc_678.2.2.2.2.2.2.2.2.1
theorem dX12_build_157 : decode cX12_build 157 = .ok (.ireturn, 1) := zdc_678.2.2.2.2.2.2.2.2.2
theorem zdc_679 : decode cX12_returns 0 = .ok (.iload_n 2, 1) ∧ decode cX12_returns 1 = .ok (.ifCond .eq 23, 3) ∧ decode cX12_returns 4 = .ok (.aload_n 0, 1) ∧ decode cX12_returns 5 = .ok (.bipush 100, 2) ∧ decode cX12_returns 7 = .ok (.invokevirtual 258, 3) ∧ decode cX12_returns 10 = .ok (.aload_n 0, 1) ∧ decode cX12_returns 11 = .ok (.getfield 7, 3) ∧ decode cX12_returns 14 = .ok (.bipush 7, 2) ∧ decode cX12_returns 16 = .ok (.iaload, 1) ∧ decode cX12_returns 17 = .ok (.if_icmp .ge 7, 3) := by decide +kernel
theorem dX12_returns_0 : decode cX12_returns 0 = .ok (.iload_n 2, 1) := zdc_679.1
theorem dX12_returns_1 : decode cX12_returns 1 = .ok (.ifCond .eq 23, 3) := zdc_679.2.1
theorem dX12_returns_4 : decode cX12_returns 4 = .ok (.aload_n 0, 1) := zdc_679.2.2.1
theorem dX12_returns_5 : decode cX12_returns 5 = .ok (.bipush 100, 2) := zdc_679.2.2.2.1
theorem dX12_returns_7 : decode cX12_returns 7 = .ok (.invokevirtual 258, 3) := zdc_679.2.2.2.2.1
theorem dX12_returns_10 : decode cX12_returns 10 = .ok (.aload_n 0, 1) := zdc_679.2.2.2.2.2.1
theorem dX12_returns_11 : decode cX12_returns 11 = .ok (.getfield 7, 3) := zdc_679.2.2.2.2.2.2.1
theorem dX12_returns_14 : decode cX12_returns 14 = .ok (.bipush 7, 2) := zdc_679.2.2.2.2.2.2.2.1
theorem dX12_returns_16 : decode cX12_returns 16 = .ok (.iaload, 1) := zdc_679.2.2.2.2.2.2.2.2.1
theorem dX12_returns_17 : decode cX12_returns 17 = .ok (.if_icmp .ge 7, 3) := zdc_679.2.2.2.2.2.2.2.2.2
theorem zdc_680 : decode cX12_returns 20 = .ok (.iconst 1, 1) ∧ decode cX12_returns 21 = .ok (.goto 4, 3) ∧ decode cX12_returns 24 = .ok (.iconst 0, 1) ∧ decode cX12_returns 25 = .ok (.istore_n 3, 1) ∧ decode cX12_returns 26 = .ok (.iconst 0, 1) ∧ decode cX12_returns 27 = .ok (.istore 4, 2) ∧ decode cX12_returns 29 = .ok (.iload 4, 2) ∧ decode cX12_returns 31 = .ok (.aload_n 0, 1) ∧ decode cX12_returns 32 = .ok (.getfield 7, 3) ∧ decode cX12_returns 35 = .ok (.iconst 3, 1) := by decide +kernel
theorem dX12_returns_20 : decode cX12_returns 20 = .ok (.iconst 1, 1) := zdc_680.1
theorem dX12_returns_21 : decode cX12_returns 21 = .ok (.goto 4, 3) := zdc_680.2.1
theorem dX12_returns_24 : decode cX12_returns 24 = .ok (.iconst 0, 1) := zdc_680.2.2.1
theorem dX12_returns_25 : decode cX12_returns 25 = .ok (.istore_n 3, 1) := zdc_680.2.2.2.1
theorem dX12_returns_26 : decode cX12_returns 26 = .ok (.iconst 0, 1) := zdc_680.2.2.2.2.1
theorem dX12_returns_27 : decode cX12_returns 27 = .ok (.istore 4, 2) := zdc_680.2.2.2.2.2.1
theorem dX12_returns_29 : decode cX12_returns 29 = .ok (.iload 4, 2) := zdc_680.2.2.2.2.2.2.1
theorem dX12_returns_31 : decode cX12_returns 31 = .ok (.aload_n 0, 1) := zdc_680.2.2.2.2.2.2.2.1
theorem dX12_returns_32 : decode cX12_returns 32 = .ok (.getfield 7, 3) := zdc_680.2.2.2.2.2.2.2.2.1
theorem dX12_returns_35 : decode cX12_returns 35 = .ok (.iconst 3, 1) := zdc_680.2.2.2.2.2.2.2.2.2
theorem zdc_681 : decode cX12_returns 36 = .ok (.iaload, 1) ∧ decode cX12_returns 37 = .ok (.if_icmp .ge 56, 3) ∧ decode cX12_returns 40 = .ok (.iload_n 2, 1) ∧ decode cX12_returns 41 = .ok (.ifCond .eq 52, 3) ∧ decode cX12_returns 44 = .ok (.iload 4, 2) ∧ decode cX12_returns 46 = .ok (.iload_n 1, 1) ∧ decode cX12_returns 47 = .ok (.if_icmp .eq 40, 3) ∧ decode cX12_returns 50 = .ok (.aload_n 0, 1) ∧ decode cX12_returns 51 = .ok (.iload 4, 2) ∧ decode cX12_returns 53 = .ok (.invokevirtual 50, 3) := by decide +kernel
theorem dX12_returns_36 : decode cX12_returns 36 = .ok (.iaload, 1) := zdc_681.1
theorem dX12_returns_37 : decode cX12_returns 37 = .ok (.if_icmp .ge 56, 3) := zdc_681.2.1
theorem dX12_returns_40 : decode cX12_returns 40 = .ok (.iload_n 2, 1) := zdc_681.2.2.1
theorem dX12_returns_41 : decode cX12_returns 41 = .ok (.ifCond .eq 52, 3) := zdc_681.2.2.2.1
theorem dX12_returns_44 : decode cX12_returns 44 = .ok (.iload 4, 2) := zdc_681.2.2.2.2.1
theorem dX12_returns_46 : decode cX12_returns 46 = .ok (.iload_n 1, 1) := zdc_681.2.2.2.2.2.1
theorem dX12_returns_47 : decode cX12_returns 47 = .ok (.if_icmp .eq 40, 3) := zdc_681.2.2.2.2.2.2.1
theorem dX12_returns_50 : decode cX12_returns 50 = .ok (.aload_n 0, 1) := zdc_681.2.2.2.2.2.2.2.1
theorem dX12_returns_51 : decode cX12_returns 51 = .ok (.iload 4, 2) := zdc_681.2.2.2.2.2.2.2.2.1
theorem dX12_returns_53 : decode cX12_returns 53 = .ok (.invokevirtual 50, 3) := zdc_681.2.2.2.2.2.2.2.2.2
theorem zdc_682 : decode cX12_returns 56 = .ok (.ifCond .eq 31, 3) ∧ decode cX12_returns 59 = .ok (.aload_n 0, 1) ∧ decode cX12_returns 60 = .ok (.iload 4, 2) ∧ decode cX12_returns 62 = .ok (.iload_n 3, 1) ∧ decode cX12_returns 63 = .ok (.ifCond .eq 13, 3) ∧ decode cX12_returns 66 = .ok (.aload_n 0, 1) ∧ decode cX12_returns 67 = .ok (.iload 4, 2) ∧ decode cX12_returns 69 = .ok (.iload_n 1, 1) ∧ decode cX12_returns 70 = .ok (.invokevirtual 71, 3) ∧ decode cX12_returns 73 = .ok (.goto 11, 3) := by decide +kernel
theorem dX12_returns_56 : decode cX12_returns 56 = .ok (.ifCond .eq 31, 3) := zdc_682.1
theorem dX12_returns_59 : decode cX12_returns 59 = .ok (.aload_n 0, 1) := zdc_682.2.1
theorem dX12_returns_60 : decode cX12_returns 60 = .ok (.iload 4, 2) := zdc_682.2.2.1
theorem dX12_returns_62 : decode cX12_returns 62 = .ok (.iload_n 3, 1) := zdc_682.2.2.2.1
theorem dX12_returns_63 : decode cX12_returns 63 = .ok (.ifCond .eq 13, 3) := zdc_682.2.2.2.2.1
theorem dX12_returns_66 : decode cX12_returns 66 = .ok (.aload_n 0, 1) := zdc_682.2.2.2.2.2.1
theorem dX12_returns_67 : decode cX12_returns 67 = .ok (.iload 4, 2) := zdc_682.2.2.2.2.2.2.1
theorem dX12_returns_69 : decode cX12_returns 69 = .ok (.iload_n 1, 1) := zdc_682.2.2.2.2.2.2.2.1
theorem dX12_returns_70 : decode cX12_returns 70 = .ok (.invokevirtual 71, 3) := zdc_682.2.2.2.2.2.2.2.2.1
theorem dX12_returns_73 : decode cX12_returns 73 = .ok (.goto 11, 3) := zdc_682.2.2.2.2.2.2.2.2.2
theorem zdc_683 : decode cX12_returns 76 = .ok (.aload_n 0, 1) ∧ decode cX12_returns 77 = .ok (.iload 4, 2) ∧ decode cX12_returns 79 = .ok (.iload_n 1, 1) ∧ decode cX12_returns 80 = .ok (.invokevirtual 71, 3) ∧ decode cX12_returns 83 = .ok (.ineg, 1) ∧ decode cX12_returns 84 = .ok (.invokevirtual 261, 3) ∧ decode cX12_returns 87 = .ok (.iinc 4 1, 3) ∧ decode cX12_returns 90 = .ok (.goto (-61), 3) ∧ decode cX12_returns 93 = .ok (.aload_n 0, 1) ∧ decode cX12_returns 94 = .ok (.iload_n 1, 1) := by decide +kernel
theorem dX12_returns_76 : decode cX12_returns 76 = .ok (.aload_n 0, 1) := zdc_683.1
theorem dX12_returns_77 : decode cX12_returns 77 = .ok (.iload 4, 2) := zdc_683.2.1
theorem dX12_returns_79 : decode cX12_returns 79 = .ok (.iload_n 1, 1) := zdc_683.2.2.1
theorem dX12_returns_80 : decode cX12_returns 80 = .ok (.invokevirtual 71, 3) := zdc_683.2.2.2.1
theorem dX12_returns_83 : decode cX12_returns 83 = .ok (.ineg, 1) := zdc_683.2.2.2.2.1
theorem dX12_returns_84 : decode cX12_returns 84 = .ok (.invokevirtual 261, 3) := zdc_683.2.2.2.2.2.1
theorem dX12_returns_87 : decode cX12_returns 87 = .ok (.iinc 4 1, 3) := zdc_683.2.2.2.2.2.2.1
theorem dX12_returns_90 : decode cX12_returns 90 = .ok (.goto (-61), 3) := zdc_683.2.2.2.2.2.2.2.1
theorem dX12_returns_93 : decode cX12_returns 93 = .ok (.aload_n 0, 1) := zdc_683.2.2.2.2.2.2.2.2.1
theorem dX12_returns_94 : decode cX12_returns 94 = .ok (.iload_n 1, 1) := zdc_683.2.2.2.2.2.2.2.2.2
theorem zdc_684 : decode cX12_returns 95 = .ok (.iconst 4, 1) ∧ decode cX12_returns 96 = .ok (.iconst (-1), 1) ∧ decode cX12_returns 97 = .ok (.invokevirtual 123, 3) ∧ decode cX12_returns 100 = .ok (.iload_n 2, 1) ∧ decode cX12_returns 101 = .ok (.ifCond .ne 4, 3) ∧ decode cX12_returns 104 = .ok (.return_, 1) ∧ decode cX12_returns 105 = .ok (.aload_n 0, 1) ∧ decode cX12_returns 106 = .ok (.iload_n 1, 1) ∧ decode cX12_returns 107 = .ok (.iconst 0, 1) ∧ decode cX12_returns 108 = .ok (.iload_n 3, 1) := by decide +kernel
theorem dX12_returns_95 : decode cX12_returns 95 = .ok (.iconst 4, 1) := zdc_684.1
theorem dX12_returns_96 : decode cX12_returns 96 = .ok (.iconst (-1), 1) := zdc_684.2.1
theorem dX12_returns_97 : decode cX12_returns 97 = .ok (.invokevirtual 123, 3) := zdc_684.2.2.1
theorem dX12_returns_100 : decode cX12_returns 100 = .ok (.iload_n 2, 1) := zdc_684.2.2.2.1
theorem dX12_returns_101 : decode cX12_returns 101 = .ok (.ifCond .ne 4, 3) := zdc_684.2.2.2.2.1
theorem dX12_returns_104 : decode cX12_returns 104 = .ok (.return_, 1) := zdc_684.2.2.2.2.2.1
theorem dX12_returns_105 : decode cX12_returns 105 = .ok (.aload_n 0, 1) := zdc_684.2.2.2.2.2.2.1
theorem dX12_returns_106 : decode cX12_returns 106 = .ok (.iload_n 1, 1) := zdc_684.2.2.2.2.2.2.2.1
theorem dX12_returns_107 : decode cX12_returns 107 = .ok (.iconst 0, 1) := zdc_684.2.2.2.2.2.2.2.2.1
theorem dX12_returns_108 : decode cX12_returns 108 = .ok (.iload_n 3, 1) := zdc_684.2.2.2.2.2.2.2.2.2
theorem zdc_685 : decode cX12_returns 109 = .ok (.ifCond .eq 8, 3) ∧ decode cX12_returns 112 = .ok (.bipush 99, 2) ∧ decode cX12_returns 114 = .ok (.goto 4, 3) ∧ decode cX12_returns 117 = .ok (.iconst 0, 1) ∧ decode cX12_returns 118 = .ok (.invokevirtual 123, 3) ∧ decode cX12_returns 121 = .ok (.aload_n 0, 1) ∧ decode cX12_returns 122 = .ok (.iload_n 1, 1) ∧ decode cX12_returns 123 = .ok (.iload_n 3, 1) ∧ decode cX12_returns 124 = .ok (.ifCond .eq 7, 3) ∧ decode cX12_returns 127 = .ok (.iconst 2, 1) := by decide +kernel
theorem dX12_returns_109 : decode cX12_returns 109 = .ok (.ifCond .eq 8, 3) := zdc_685.1
theorem dX12_returns_112 : decode cX12_returns 112 = .ok (.bipush 99, 2) := zdc_685.2.1
theorem dX12_returns_114 : decode cX12_returns 114 = .ok (.goto 4, 3) := zdc_685.2.2.1
theorem dX12_returns_117 : decode cX12_returns 117 = .ok (.iconst 0, 1) := zdc_685.2.2.2.1
theorem dX12_returns_118 : decode cX12_returns 118 = .ok (.invokevirtual 123, 3) := zdc_685.2.2.2.2.1
theorem dX12_returns_121 : decode cX12_returns 121 = .ok (.aload_n 0, 1) := zdc_685.2.2.2.2.2.1
theorem dX12_returns_122 : decode cX12_returns 122 = .ok (.iload_n 1, 1) := zdc_685.2.2.2.2.2.2.1
theorem dX12_returns_123 : decode cX12_returns 123 = .ok (.iload_n 3, 1) := zdc_685.2.2.2.2.2.2.2.1
theorem dX12_returns_124 : decode cX12_returns 124 = .ok (.ifCond .eq 7, 3) := zdc_685.2.2.2.2.2.2.2.2.1
theorem dX12_returns_127 : decode cX12_returns 127 = .ok (.iconst 2, 1) := zdc_685.2.2.2.2.2.2.2.2.2
theorem zdc_686 : decode cX12_returns 128 = .ok (.goto 4, 3) ∧ decode cX12_returns 131 = .ok (.iconst 3, 1) ∧ decode cX12_returns 132 = .ok (.invokevirtual 254, 3) ∧ decode cX12_returns 135 = .ok (.return_, 1) ∧ decode cX12_goes 0 = .ok (.iconst 0, 1) ∧ decode cX12_goes 1 = .ok (.istore_n 3, 1) ∧ decode cX12_goes 2 = .ok (.iconst 0, 1) ∧ decode cX12_goes 3 = .ok (.istore 4, 2) ∧ decode cX12_goes 5 = .ok (.iload 4, 2) ∧ decode cX12_goes 7 = .ok (.iload_n 1, 1) := by decide +kernel
theorem dX12_returns_128 : decode cX12_returns 128 = .ok (.goto 4, 3) := zdc_686.1
theorem dX12_returns_131 : decode cX12_returns 131 = .ok (.iconst 3, 1) := zdc_686.2.1
theorem dX12_returns_132 : decode cX12_returns 132 = .ok (.invokevirtual 254, 3) := zdc_686.2.2.1
theorem dX12_returns_135 : decode cX12_returns 135 = .ok (.return_, 1) := zdc_686.2.2.2.1
theorem dX12_goes_0 : decode cX12_goes 0 = .ok (.iconst 0, 1) := zdc_686.2.2.2.2.1
theorem dX12_goes_1 : decode cX12_goes 1 = .ok (.istore_n 3, 1) := zdc_686.2.2.2.2.2.1
theorem dX12_goes_2 : decode cX12_goes 2 = .ok (.iconst 0, 1) := zdc_686.2.2.2.2.2.2.1
theorem dX12_goes_3 : decode cX12_goes 3 = .ok (.istore 4, 2) := zdc_686.2.2.2.2.2.2.2.1
theorem dX12_goes_5 : decode cX12_goes 5 = .ok (.iload 4, 2) := zdc_686.2.2.2.2.2.2.2.2.1
theorem dX12_goes_7 : decode cX12_goes 7 = .ok (.iload_n 1, 1) := zdc_686.2.2.2.2.2.2.2.2.2
theorem zdc_687 : decode cX12_goes 8 = .ok (.if_icmp .ge 186, 3) ∧ decode cX12_goes 11 = .ok (.iconst 0, 1) ∧ decode cX12_goes 12 = .ok (.istore 5, 2) ∧ decode cX12_goes 14 = .ok (.iload 5, 2) ∧ decode cX12_goes 16 = .ok (.aload_n 0, 1) ∧ decode cX12_goes 17 = .ok (.getfield 7, 3) ∧ decode cX12_goes 20 = .ok (.iconst 3, 1) ∧ decode cX12_goes 21 = .ok (.iaload, 1) ∧ decode cX12_goes 22 = .ok (.if_icmp .ge 42, 3) ∧ decode cX12_goes 25 = .ok (.aload_n 0, 1) := by decide +kernel
theorem dX12_goes_8 : decode cX12_goes 8 = .ok (.if_icmp .ge 186, 3) := zdc_687.1
theorem dX12_goes_11 : decode cX12_goes 11 = .ok (.iconst 0, 1) := zdc_687.2.1
theorem dX12_goes_12 : decode cX12_goes 12 = .ok (.istore 5, 2) := zdc_687.2.2.1
theorem dX12_goes_14 : decode cX12_goes 14 = .ok (.iload 5, 2) := zdc_687.2.2.2.1
theorem dX12_goes_16 : decode cX12_goes 16 = .ok (.aload_n 0, 1) := zdc_687.2.2.2.2.1
theorem dX12_goes_17 : decode cX12_goes 17 = .ok (.getfield 7, 3) := zdc_687.2.2.2.2.2.1
theorem dX12_goes_20 : decode cX12_goes 20 = .ok (.iconst 3, 1) := zdc_687.2.2.2.2.2.2.1
theorem dX12_goes_21 : decode cX12_goes 21 = .ok (.iaload, 1) := zdc_687.2.2.2.2.2.2.2.1
theorem dX12_goes_22 : decode cX12_goes 22 = .ok (.if_icmp .ge 42, 3) := zdc_687.2.2.2.2.2.2.2.2.1
theorem dX12_goes_25 : decode cX12_goes 25 = .ok (.aload_n 0, 1) := zdc_687.2.2.2.2.2.2.2.2.2
theorem zdc_688 : decode cX12_goes 26 = .ok (.getfield 32, 3) ∧ decode cX12_goes 29 = .ok (.iload 5, 2) ∧ decode cX12_goes 31 = .ok (.aload_n 0, 1) ∧ decode cX12_goes 32 = .ok (.iload 5, 2) ∧ decode cX12_goes 34 = .ok (.invokevirtual 50, 3) ∧ decode cX12_goes 37 = .ok (.ifCond .eq 19, 3) ∧ decode cX12_goes 40 = .ok (.aload_n 0, 1) ∧ decode cX12_goes 41 = .ok (.iload 5, 2) ∧ decode cX12_goes 43 = .ok (.invokevirtual 264, 3) ∧ decode cX12_goes 46 = .ok (.aload_n 0, 1) := by decide +kernel
theorem dX12_goes_26 : decode cX12_goes 26 = .ok (.getfield 32, 3) := zdc_688.1
theorem dX12_goes_29 : decode cX12_goes 29 = .ok (.iload 5, 2) := zdc_688.2.1
theorem dX12_goes_31 : decode cX12_goes 31 = .ok (.aload_n 0, 1) := zdc_688.2.2.1
theorem dX12_goes_32 : decode cX12_goes 32 = .ok (.iload 5, 2) := zdc_688.2.2.2.1
theorem dX12_goes_34 : decode cX12_goes 34 = .ok (.invokevirtual 50, 3) := zdc_688.2.2.2.2.1
theorem dX12_goes_37 : decode cX12_goes 37 = .ok (.ifCond .eq 19, 3) := zdc_688.2.2.2.2.2.1
theorem dX12_goes_40 : decode cX12_goes 40 = .ok (.aload_n 0, 1) := zdc_688.2.2.2.2.2.2.1
theorem dX12_goes_41 : decode cX12_goes 41 = .ok (.iload 5, 2) := zdc_688.2.2.2.2.2.2.2.1
theorem dX12_goes_43 : decode cX12_goes 43 = .ok (.invokevirtual 264, 3) := zdc_688.2.2.2.2.2.2.2.2.1
theorem dX12_goes_46 : decode cX12_goes 46 = .ok (.aload_n 0, 1) := zdc_688.2.2.2.2.2.2.2.2.2
theorem zdc_689 : decode cX12_goes 47 = .ok (.iload 5, 2) ∧ decode cX12_goes 49 = .ok (.invokevirtual 267, 3) ∧ decode cX12_goes 52 = .ok (.iadd, 1) ∧ decode cX12_goes 53 = .ok (.goto 4, 3) ∧ decode cX12_goes 56 = .ok (.iconst 0, 1) ∧ decode cX12_goes 57 = .ok (.iastore, 1) ∧ decode cX12_goes 58 = .ok (.iinc 5 1, 3) ∧ decode cX12_goes 61 = .ok (.goto (-47), 3) ∧ decode cX12_goes 64 = .ok (.iconst 0, 1) ∧ decode cX12_goes 65 = .ok (.istore 5, 2) := by decide +kernel
theorem dX12_goes_47 : decode cX12_goes 47 = .ok (.iload 5, 2) := zdc_689.1
theorem dX12_goes_49 : decode cX12_goes 49 = .ok (.invokevirtual 267, 3) := zdc_689.2.1
theorem dX12_goes_52 : decode cX12_goes 52 = .ok (.iadd, 1) := zdc_689.2.2.1
theorem dX12_goes_53 : decode cX12_goes 53 = .ok (.goto 4, 3) := zdc_689.2.2.2.1
theorem dX12_goes_56 : decode cX12_goes 56 = .ok (.iconst 0, 1) := zdc_689.2.2.2.2.1
theorem dX12_goes_57 : decode cX12_goes 57 = .ok (.iastore, 1) := zdc_689.2.2.2.2.2.1
theorem dX12_goes_58 : decode cX12_goes 58 = .ok (.iinc 5 1, 3) := zdc_689.2.2.2.2.2.2.1
theorem dX12_goes_61 : decode cX12_goes 61 = .ok (.goto (-47), 3) := zdc_689.2.2.2.2.2.2.2.1
theorem dX12_goes_64 : decode cX12_goes 64 = .ok (.iconst 0, 1) := zdc_689.2.2.2.2.2.2.2.2.1
theorem dX12_goes_65 : decode cX12_goes 65 = .ok (.istore 5, 2) := zdc_689.2.2.2.2.2.2.2.2.2
theorem zdc_690 : decode cX12_goes 67 = .ok (.iload 5, 2) ∧ decode cX12_goes 69 = .ok (.aload_n 0, 1) ∧ decode cX12_goes 70 = .ok (.getfield 7, 3) ∧ decode cX12_goes 73 = .ok (.iconst 3, 1) ∧ decode cX12_goes 74 = .ok (.iaload, 1) ∧ decode cX12_goes 75 = .ok (.if_icmp .ge 31, 3) ∧ decode cX12_goes 78 = .ok (.aload_n 0, 1) ∧ decode cX12_goes 79 = .ok (.iload 5, 2) ∧ decode cX12_goes 81 = .ok (.invokevirtual 50, 3) ∧ decode cX12_goes 84 = .ok (.ifCond .eq 16, 3) := by decide +kernel
theorem dX12_goes_67 : decode cX12_goes 67 = .ok (.iload 5, 2) := zdc_690.1
theorem dX12_goes_69 : decode cX12_goes 69 = .ok (.aload_n 0, 1) := zdc_690.2.1
theorem dX12_goes_70 : decode cX12_goes 70 = .ok (.getfield 7, 3) := zdc_690.2.2.1
theorem dX12_goes_73 : decode cX12_goes 73 = .ok (.iconst 3, 1) := zdc_690.2.2.2.1
theorem dX12_goes_74 : decode cX12_goes 74 = .ok (.iaload, 1) := zdc_690.2.2.2.2.1
theorem dX12_goes_75 : decode cX12_goes 75 = .ok (.if_icmp .ge 31, 3) := zdc_690.2.2.2.2.2.1
theorem dX12_goes_78 : decode cX12_goes 78 = .ok (.aload_n 0, 1) := zdc_690.2.2.2.2.2.2.1
theorem dX12_goes_79 : decode cX12_goes 79 = .ok (.iload 5, 2) := zdc_690.2.2.2.2.2.2.2.1
theorem dX12_goes_81 : decode cX12_goes 81 = .ok (.invokevirtual 50, 3) := zdc_690.2.2.2.2.2.2.2.2.1
theorem dX12_goes_84 : decode cX12_goes 84 = .ok (.ifCond .eq 16, 3) := zdc_690.2.2.2.2.2.2.2.2.2
theorem zdc_691 : decode cX12_goes 87 = .ok (.aload_n 0, 1) ∧ decode cX12_goes 88 = .ok (.iload 5, 2) ∧ decode cX12_goes 90 = .ok (.aload_n 0, 1) ∧ decode cX12_goes 91 = .ok (.getfield 32, 3) ∧ decode cX12_goes 94 = .ok (.iload 5, 2) ∧ decode cX12_goes 96 = .ok (.iaload, 1) ∧ decode cX12_goes 97 = .ok (.invokevirtual 261, 3) ∧ decode cX12_goes 100 = .ok (.iinc 5 1, 3) ∧ decode cX12_goes 103 = .ok (.goto (-36), 3) ∧ decode cX12_goes 106 = .ok (.iload_n 3, 1) := by decide +kernel
theorem dX12_goes_87 : decode cX12_goes 87 = .ok (.aload_n 0, 1) := zdc_691.1
theorem dX12_goes_88 : decode cX12_goes 88 = .ok (.iload 5, 2) := zdc_691.2.1
theorem dX12_goes_90 : decode cX12_goes 90 = .ok (.aload_n 0, 1) := zdc_691.2.2.1
theorem dX12_goes_91 : decode cX12_goes 91 = .ok (.getfield 32, 3) := zdc_691.2.2.2.1
theorem dX12_goes_94 : decode cX12_goes 94 = .ok (.iload 5, 2) := zdc_691.2.2.2.2.1
theorem dX12_goes_96 : decode cX12_goes 96 = .ok (.iaload, 1) := zdc_691.2.2.2.2.2.1
theorem dX12_goes_97 : decode cX12_goes 97 = .ok (.invokevirtual 261, 3) := zdc_691.2.2.2.2.2.2.1
theorem dX12_goes_100 : decode cX12_goes 100 = .ok (.iinc 5 1, 3) := zdc_691.2.2.2.2.2.2.2.1
theorem dX12_goes_103 : decode cX12_goes 103 = .ok (.goto (-36), 3) := zdc_691.2.2.2.2.2.2.2.2.1
theorem dX12_goes_106 : decode cX12_goes 106 = .ok (.iload_n 3, 1) := zdc_691.2.2.2.2.2.2.2.2.2
theorem zdc_692 : decode cX12_goes 107 = .ok (.aload_n 0, 1) ∧ decode cX12_goes 108 = .ok (.invokevirtual 270, 3) ∧ decode cX12_goes 111 = .ok (.iadd, 1) ∧ decode cX12_goes 112 = .ok (.istore_n 3, 1) ∧ decode cX12_goes 113 = .ok (.iconst 0, 1) ∧ decode cX12_goes 114 = .ok (.istore 5, 2) ∧ decode cX12_goes 116 = .ok (.iload 5, 2) ∧ decode cX12_goes 118 = .ok (.aload_n 0, 1) ∧ decode cX12_goes 119 = .ok (.getfield 7, 3) ∧ decode cX12_goes 122 = .ok (.iconst 3, 1) := by decide +kernel
theorem dX12_goes_107 : decode cX12_goes 107 = .ok (.aload_n 0, 1) := zdc_692.1
theorem dX12_goes_108 : decode cX12_goes 108 = .ok (.invokevirtual 270, 3) := zdc_692.2.1
theorem dX12_goes_111 : decode cX12_goes 111 = .ok (.iadd, 1) := zdc_692.2.2.1
theorem dX12_goes_112 : decode cX12_goes 112 = .ok (.istore_n 3, 1) := zdc_692.2.2.2.1
theorem dX12_goes_113 : decode cX12_goes 113 = .ok (.iconst 0, 1) := zdc_692.2.2.2.2.1
theorem dX12_goes_114 : decode cX12_goes 114 = .ok (.istore 5, 2) := zdc_692.2.2.2.2.2.1
theorem dX12_goes_116 : decode cX12_goes 116 = .ok (.iload 5, 2) := zdc_692.2.2.2.2.2.2.1
theorem dX12_goes_118 : decode cX12_goes 118 = .ok (.aload_n 0, 1) := zdc_692.2.2.2.2.2.2.2.1
theorem dX12_goes_119 : decode cX12_goes 119 = .ok (.getfield 7, 3) := zdc_692.2.2.2.2.2.2.2.2.1
theorem dX12_goes_122 : decode cX12_goes 122 = .ok (.iconst 3, 1) := zdc_692.2.2.2.2.2.2.2.2.2
theorem zdc_693 : decode cX12_goes 123 = .ok (.iaload, 1) ∧ decode cX12_goes 124 = .ok (.if_icmp .ge 42, 3) ∧ decode cX12_goes 127 = .ok (.aload_n 0, 1) ∧ decode cX12_goes 128 = .ok (.iload 5, 2) ∧ decode cX12_goes 130 = .ok (.invokevirtual 50, 3) ∧ decode cX12_goes 133 = .ok (.ifCond .ne 27, 3) ∧ decode cX12_goes 136 = .ok (.aload_n 0, 1) ∧ decode cX12_goes 137 = .ok (.iload 5, 2) ∧ decode cX12_goes 139 = .ok (.iconst 4, 1) ∧ decode cX12_goes 140 = .ok (.invokevirtual 46, 3) := by decide +kernel
theorem dX12_goes_123 : decode cX12_goes 123 = .ok (.iaload, 1) := zdc_693.1
theorem dX12_goes_124 : decode cX12_goes 124 = .ok (.if_icmp .ge 42, 3) := zdc_693.2.1
theorem dX12_goes_127 : decode cX12_goes 127 = .ok (.aload_n 0, 1) := zdc_693.2.2.1
theorem dX12_goes_128 : decode cX12_goes 128 = .ok (.iload 5, 2) := zdc_693.2.2.2.1
theorem dX12_goes_130 : decode cX12_goes 130 = .ok (.invokevirtual 50, 3) := zdc_693.2.2.2.2.1
theorem dX12_goes_133 : decode cX12_goes 133 = .ok (.ifCond .ne 27, 3) := zdc_693.2.2.2.2.2.1
theorem dX12_goes_136 : decode cX12_goes 136 = .ok (.aload_n 0, 1) := zdc_693.2.2.2.2.2.2.1
theorem dX12_goes_137 : decode cX12_goes 137 = .ok (.iload 5, 2) := zdc_693.2.2.2.2.2.2.2.1
theorem dX12_goes_139 : decode cX12_goes 139 = .ok (.iconst 4, 1) := zdc_693.2.2.2.2.2.2.2.2.1
theorem dX12_goes_140 : decode cX12_goes 140 = .ok (.invokevirtual 46, 3) := zdc_693.2.2.2.2.2.2.2.2.2
theorem zdc_694 : decode cX12_goes 143 = .ok (.aload_n 0, 1) ∧ decode cX12_goes 144 = .ok (.getfield 7, 3) ∧ decode cX12_goes 147 = .ok (.bipush 8, 2) ∧ decode cX12_goes 149 = .ok (.iaload, 1) ∧ decode cX12_goes 150 = .ok (.if_icmp .gt 10, 3) ∧ decode cX12_goes 153 = .ok (.aload_n 0, 1) ∧ decode cX12_goes 154 = .ok (.iload 5, 2) ∧ decode cX12_goes 156 = .ok (.iload_n 2, 1) ∧ decode cX12_goes 157 = .ok (.invokevirtual 273, 3) ∧ decode cX12_goes 160 = .ok (.iinc 5 1, 3) := by decide +kernel
theorem dX12_goes_143 : decode cX12_goes 143 = .ok (.aload_n 0, 1) := zdc_694.1
theorem dX12_goes_144 : decode cX12_goes 144 = .ok (.getfield 7, 3) := zdc_694.2.1
theorem dX12_goes_147 : decode cX12_goes 147 = .ok (.bipush 8, 2) := zdc_694.2.2.1
theorem dX12_goes_149 : decode cX12_goes 149 = .ok (.iaload, 1) := zdc_694.2.2.2.1
theorem dX12_goes_150 : decode cX12_goes 150 = .ok (.if_icmp .gt 10, 3) := zdc_694.2.2.2.2.1
theorem dX12_goes_153 : decode cX12_goes 153 = .ok (.aload_n 0, 1) := zdc_694.2.2.2.2.2.1
theorem dX12_goes_154 : decode cX12_goes 154 = .ok (.iload 5, 2) := zdc_694.2.2.2.2.2.2.1
theorem dX12_goes_156 : decode cX12_goes 156 = .ok (.iload_n 2, 1) := zdc_694.2.2.2.2.2.2.2.1
theorem dX12_goes_157 : decode cX12_goes 157 = .ok (.invokevirtual 273, 3) := zdc_694.2.2.2.2.2.2.2.2.1
theorem dX12_goes_160 : decode cX12_goes 160 = .ok (.iinc 5 1, 3) := zdc_694.2.2.2.2.2.2.2.2.2
theorem zdc_695 : decode cX12_goes 163 = .ok (.goto (-47), 3) ∧ decode cX12_goes 166 = .ok (.aload_n 0, 1) ∧ decode cX12_goes 167 = .ok (.getfield 7, 3) ∧ decode cX12_goes 170 = .ok (.bipush 8, 2) ∧ decode cX12_goes 172 = .ok (.sipush 9999, 3) ∧ decode cX12_goes 175 = .ok (.aload_n 0, 1) ∧ decode cX12_goes 176 = .ok (.getfield 7, 3) ∧ decode cX12_goes 179 = .ok (.bipush 8, 2) ∧ decode cX12_goes 181 = .ok (.iaload, 1) ∧ decode cX12_goes 182 = .ok (.iconst 1, 1) := by decide +kernel
theorem dX12_goes_163 : decode cX12_goes 163 = .ok (.goto (-47), 3) := zdc_695.1
theorem dX12_goes_166 : decode cX12_goes 166 = .ok (.aload_n 0, 1) := zdc_695.2.1
theorem dX12_goes_167 : decode cX12_goes 167 = .ok (.getfield 7, 3) := zdc_695.2.2.1
theorem dX12_goes_170 : decode cX12_goes 170 = .ok (.bipush 8, 2) := zdc_695.2.2.2.1
theorem dX12_goes_172 : decode cX12_goes 172 = .ok (.sipush 9999, 3) := zdc_695.2.2.2.2.1
theorem dX12_goes_175 : decode cX12_goes 175 = .ok (.aload_n 0, 1) := zdc_695.2.2.2.2.2.1
theorem dX12_goes_176 : decode cX12_goes 176 = .ok (.getfield 7, 3) := zdc_695.2.2.2.2.2.2.1
theorem dX12_goes_179 : decode cX12_goes 179 = .ok (.bipush 8, 2) := zdc_695.2.2.2.2.2.2.2.1
theorem dX12_goes_181 : decode cX12_goes 181 = .ok (.iaload, 1) := zdc_695.2.2.2.2.2.2.2.2.1
theorem dX12_goes_182 : decode cX12_goes 182 = .ok (.iconst 1, 1) := zdc_695.2.2.2.2.2.2.2.2.2
theorem zdc_696 : decode cX12_goes 183 = .ok (.iadd, 1) ∧ decode cX12_goes 184 = .ok (.invokestatic 248, 3) ∧ decode cX12_goes 187 = .ok (.iastore, 1) ∧ decode cX12_goes 188 = .ok (.iinc 4 1, 3) ∧ decode cX12_goes 191 = .ok (.goto (-186), 3) ∧ decode cX12_goes 194 = .ok (.iload_n 3, 1) ∧ decode cX12_goes 195 = .ok (.ireturn, 1) ∧ decode cX12_worth 0 = .ok (.aload_n 0, 1) ∧ decode cX12_worth 1 = .ok (.iload_n 1, 1) ∧ decode cX12_worth 2 = .ok (.iconst 1, 1) := by decide +kernel
theorem dX12_goes_183 : decode cX12_goes 183 = .ok (.iadd, 1) := zdc_696.1
theorem dX12_goes_184 : decode cX12_goes 184 = .ok (.invokestatic 248, 3) := zdc_696.2.1
theorem dX12_goes_187 : decode cX12_goes 187 = .ok (.iastore, 1) := zdc_696.2.2.1
theorem dX12_goes_188 : decode cX12_goes 188 = .ok (.iinc 4 1, 3) := zdc_696.2.2.2.1
theorem dX12_goes_191 : decode cX12_goes 191 = .ok (.goto (-186), 3) := zdc_696.2.2.2.2.1
theorem dX12_goes_194 : decode cX12_goes 194 = .ok (.iload_n 3, 1) := zdc_696.2.2.2.2.2.1
theorem dX12_goes_195 : decode cX12_goes 195 = .ok (.ireturn, 1) := zdc_696.2.2.2.2.2.2.1
theorem dX12_worth_0 : decode cX12_worth 0 = .ok (.aload_n 0, 1) := zdc_696.2.2.2.2.2.2.2.1
theorem dX12_worth_1 : decode cX12_worth 1 = .ok (.iload_n 1, 1) := zdc_696.2.2.2.2.2.2.2.2.1
theorem dX12_worth_2 : decode cX12_worth 2 = .ok (.iconst 1, 1) := zdc_696.2.2.2.2.2.2.2.2.2
theorem zdc_697 : decode cX12_worth 3 = .ok (.invokevirtual 46, 3) ∧ decode cX12_worth 6 = .ok (.aload_n 0, 1) ∧ decode cX12_worth 7 = .ok (.iload_n 1, 1) ∧ decode cX12_worth 8 = .ok (.iconst 2, 1) ∧ decode cX12_worth 9 = .ok (.invokevirtual 46, 3) ∧ decode cX12_worth 12 = .ok (.aload_n 0, 1) ∧ decode cX12_worth 13 = .ok (.invokevirtual 277, 3) ∧ decode cX12_worth 16 = .ok (.imul, 1) ∧ decode cX12_worth 17 = .ok (.iadd, 1) ∧ decode cX12_worth 18 = .ok (.ireturn, 1) := by decide +kernel
theorem dX12_worth_3 : decode cX12_worth 3 = .ok (.invokevirtual 46, 3) := zdc_697.1
theorem dX12_worth_6 : decode cX12_worth 6 = .ok (.aload_n 0, 1) := zdc_697.2.1
theorem dX12_worth_7 : decode cX12_worth 7 = .ok (.iload_n 1, 1) := zdc_697.2.2.1
theorem dX12_worth_8 : decode cX12_worth 8 = .ok (.iconst 2, 1) := zdc_697.2.2.2.1
theorem dX12_worth_9 : decode cX12_worth 9 = .ok (.invokevirtual 46, 3) := zdc_697.2.2.2.2.1
theorem dX12_worth_12 : decode cX12_worth 12 = .ok (.aload_n 0, 1) := zdc_697.2.2.2.2.2.1
theorem dX12_worth_13 : decode cX12_worth 13 = .ok (.invokevirtual 277, 3) := zdc_697.2.2.2.2.2.2.1
theorem dX12_worth_16 : decode cX12_worth 16 = .ok (.imul, 1) := zdc_697.2.2.2.2.2.2.2.1
theorem dX12_worth_17 : decode cX12_worth 17 = .ok (.iadd, 1) := zdc_697.2.2.2.2.2.2.2.2.1
theorem dX12_worth_18 : decode cX12_worth 18 = .ok (.ireturn, 1) := zdc_697.2.2.2.2.2.2.2.2.2
theorem zdc_698 : decode cX12_person 0 = .ok (.aload_n 0, 1) ∧ decode cX12_person 1 = .ok (.aload_n 0, 1) ∧ decode cX12_person 2 = .ok (.iload_n 1, 1) ∧ decode cX12_person 3 = .ok (.invokevirtual 280, 3) ∧ decode cX12_person 6 = .ok (.ifCond .ne 7, 3) ∧ decode cX12_person 9 = .ok (.iconst 1, 1) ∧ decode cX12_person 10 = .ok (.goto 18, 3) ∧ decode cX12_person 13 = .ok (.iload_n 2, 1) ∧ decode cX12_person 14 = .ok (.iconst 0, 1) ∧ decode cX12_person 15 = .ok (.bipush 8, 2) := by decide +kernel
theorem dX12_person_0 : decode cX12_person 0 = .ok (.aload_n 0, 1) := zdc_698.1
theorem dX12_person_1 : decode cX12_person 1 = .ok (.aload_n 0, 1) := zdc_698.2.1
theorem dX12_person_2 : decode cX12_person 2 = .ok (.iload_n 1, 1) := zdc_698.2.2.1
theorem dX12_person_3 : decode cX12_person 3 = .ok (.invokevirtual 280, 3) := zdc_698.2.2.2.1
theorem dX12_person_6 : decode cX12_person 6 = .ok (.ifCond .ne 7, 3) := zdc_698.2.2.2.2.1
theorem dX12_person_9 : decode cX12_person 9 = .ok (.iconst 1, 1) := zdc_698.2.2.2.2.2.1
theorem dX12_person_10 : decode cX12_person 10 = .ok (.goto 18, 3) := zdc_698.2.2.2.2.2.2.1
theorem dX12_person_13 : decode cX12_person 13 = .ok (.iload_n 2, 1) := zdc_698.2.2.2.2.2.2.2.1
theorem dX12_person_14 : decode cX12_person 14 = .ok (.iconst 0, 1) := zdc_698.2.2.2.2.2.2.2.2.1
theorem dX12_person_15 : decode cX12_person 15 = .ok (.bipush 8, 2) := zdc_698.2.2.2.2.2.2.2.2.2
theorem zdc_699 : decode cX12_person 17 = .ok (.invokestatic 42, 3) ∧ decode cX12_person 20 = .ok (.ifCond .ne 7, 3) ∧ decode cX12_person 23 = .ok (.iconst 2, 1) ∧ decode cX12_person 24 = .ok (.goto 4, 3) ∧ decode cX12_person 27 = .ok (.iconst 0, 1) ∧ decode cX12_person 28 = .ok (.putfield 39, 3) ∧ decode cX12_person 31 = .ok (.aload_n 0, 1) ∧ decode cX12_person 32 = .ok (.getfield 39, 3) ∧ decode cX12_person 35 = .ok (.ifCond .le 5, 3) ∧ decode cX12_person 38 = .ok (.iconst 0, 1) := by decide +kernel
theorem dX12_person_17 : decode cX12_person 17 = .ok (.invokestatic 42, 3) := zdc_699.1
theorem dX12_person_20 : decode cX12_person 20 = .ok (.ifCond .ne 7, 3) := zdc_699.2.1
theorem dX12_person_23 : decode cX12_person 23 = .ok (.iconst 2, 1) := zdc_699.2.2.1
theorem dX12_person_24 : decode cX12_person 24 = .ok (.goto 4, 3) := zdc_699.2.2.2.1
theorem dX12_person_27 : decode cX12_person 27 = .ok (.iconst 0, 1) := zdc_699.2.2.2.2.1
theorem dX12_person_28 : decode cX12_person 28 = .ok (.putfield 39, 3) := zdc_699.2.2.2.2.2.1
theorem dX12_person_31 : decode cX12_person 31 = .ok (.aload_n 0, 1) := zdc_699.2.2.2.2.2.2.1
theorem dX12_person_32 : decode cX12_person 32 = .ok (.getfield 39, 3) := zdc_699.2.2.2.2.2.2.2.1
theorem dX12_person_35 : decode cX12_person 35 = .ok (.ifCond .le 5, 3) := zdc_699.2.2.2.2.2.2.2.2.1
theorem dX12_person_38 : decode cX12_person 38 = .ok (.iconst 0, 1) := zdc_699.2.2.2.2.2.2.2.2.2
theorem zdc_700 : decode cX12_person 39 = .ok (.ireturn, 1) ∧ decode cX12_person 40 = .ok (.iload_n 2, 1) ∧ decode cX12_person 41 = .ok (.iconst 5, 1) ∧ decode cX12_person 42 = .ok (.if_icmp .ge 10, 3) ∧ decode cX12_person 45 = .ok (.aload_n 0, 1) ∧ decode cX12_person 46 = .ok (.iload_n 1, 1) ∧ decode cX12_person 47 = .ok (.iload_n 2, 1) ∧ decode cX12_person 48 = .ok (.invokevirtual 46, 3) ∧ decode cX12_person 51 = .ok (.ireturn, 1) ∧ decode cX12_person 52 = .ok (.iload_n 2, 1) := by decide +kernel
theorem dX12_person_39 : decode cX12_person 39 = .ok (.ireturn, 1) := zdc_700.1
theorem dX12_person_40 : decode cX12_person 40 = .ok (.iload_n 2, 1) := zdc_700.2.1
theorem dX12_person_41 : decode cX12_person 41 = .ok (.iconst 5, 1) := zdc_700.2.2.1
theorem dX12_person_42 : decode cX12_person 42 = .ok (.if_icmp .ge 10, 3) := zdc_700.2.2.2.1
theorem dX12_person_45 : decode cX12_person 45 = .ok (.aload_n 0, 1) := zdc_700.2.2.2.2.1
theorem dX12_person_46 : decode cX12_person 46 = .ok (.iload_n 1, 1) := zdc_700.2.2.2.2.2.1
theorem dX12_person_47 : decode cX12_person 47 = .ok (.iload_n 2, 1) := zdc_700.2.2.2.2.2.2.1
theorem dX12_person_48 : decode cX12_person 48 = .ok (.invokevirtual 46, 3) := zdc_700.2.2.2.2.2.2.2.1
theorem dX12_person_51 : decode cX12_person 51 = .ok (.ireturn, 1) := zdc_700.2.2.2.2.2.2.2.2.1
theorem dX12_person_52 : decode cX12_person 52 = .ok (.iload_n 2, 1) := zdc_700.2.2.2.2.2.2.2.2.2
theorem zdc_701 : decode cX12_person 53 = .ok (.iconst 5, 1) ∧ decode cX12_person 54 = .ok (.if_icmp .ne 9, 3) ∧ decode cX12_person 57 = .ok (.aload_n 0, 1) ∧ decode cX12_person 58 = .ok (.iload_n 1, 1) ∧ decode cX12_person 59 = .ok (.invokevirtual 264, 3) ∧ decode cX12_person 62 = .ok (.ireturn, 1) ∧ decode cX12_person 63 = .ok (.iload_n 2, 1) ∧ decode cX12_person 64 = .ok (.bipush 6, 2) ∧ decode cX12_person 66 = .ok (.if_icmp .ne 9, 3) ∧ decode cX12_person 69 = .ok (.aload_n 0, 1) := by decide +kernel
theorem dX12_person_53 : decode cX12_person 53 = .ok (.iconst 5, 1) := zdc_701.1
theorem dX12_person_54 : decode cX12_person 54 = .ok (.if_icmp .ne 9, 3) := zdc_701.2.1
theorem dX12_person_57 : decode cX12_person 57 = .ok (.aload_n 0, 1) := zdc_701.2.2.1
theorem dX12_person_58 : decode cX12_person 58 = .ok (.iload_n 1, 1) := zdc_701.2.2.2.1
theorem dX12_person_59 : decode cX12_person 59 = .ok (.invokevirtual 264, 3) := zdc_701.2.2.2.2.1
theorem dX12_person_62 : decode cX12_person 62 = .ok (.ireturn, 1) := zdc_701.2.2.2.2.2.1
theorem dX12_person_63 : decode cX12_person 63 = .ok (.iload_n 2, 1) := zdc_701.2.2.2.2.2.2.1
theorem dX12_person_64 : decode cX12_person 64 = .ok (.bipush 6, 2) := zdc_701.2.2.2.2.2.2.2.1
theorem dX12_person_66 : decode cX12_person 66 = .ok (.if_icmp .ne 9, 3) := zdc_701.2.2.2.2.2.2.2.2.1
theorem dX12_person_69 : decode cX12_person 69 = .ok (.aload_n 0, 1) := zdc_701.2.2.2.2.2.2.2.2.2
theorem zdc_702 : decode cX12_person 70 = .ok (.iload_n 1, 1) ∧ decode cX12_person 71 = .ok (.invokevirtual 267, 3) ∧ decode cX12_person 74 = .ok (.ireturn, 1) ∧ decode cX12_person 75 = .ok (.iload_n 2, 1) ∧ decode cX12_person 76 = .ok (.bipush 7, 2) ∧ decode cX12_person 78 = .ok (.if_icmp .ne 9, 3) ∧ decode cX12_person 81 = .ok (.aload_n 0, 1) ∧ decode cX12_person 82 = .ok (.iload_n 1, 1) ∧ decode cX12_person 83 = .ok (.invokevirtual 283, 3) ∧ decode cX12_person 86 = .ok (.ireturn, 1) := by decide +kernel
theorem dX12_person_70 : decode cX12_person 70 = .ok (.iload_n 1, 1) := zdc_702.1
theorem dX12_person_71 : decode cX12_person 71 = .ok (.invokevirtual 267, 3) := zdc_702.2.1
theorem dX12_person_74 : decode cX12_person 74 = .ok (.ireturn, 1) := zdc_702.2.2.1
theorem dX12_person_75 : decode cX12_person 75 = .ok (.iload_n 2, 1) := zdc_702.2.2.2.1
theorem dX12_person_76 : decode cX12_person 76 = .ok (.bipush 7, 2) := zdc_702.2.2.2.2.1
theorem dX12_person_78 : decode cX12_person 78 = .ok (.if_icmp .ne 9, 3) := zdc_702.2.2.2.2.2.1
theorem dX12_person_81 : decode cX12_person 81 = .ok (.aload_n 0, 1) := zdc_702.2.2.2.2.2.2.1
theorem dX12_person_82 : decode cX12_person 82 = .ok (.iload_n 1, 1) := zdc_702.2.2.2.2.2.2.2.1
theorem dX12_person_83 : decode cX12_person 83 = .ok (.invokevirtual 283, 3) := zdc_702.2.2.2.2.2.2.2.2.1
theorem dX12_person_86 : decode cX12_person 86 = .ok (.ireturn, 1) := zdc_702.2.2.2.2.2.2.2.2.2
theorem zdc_703 : decode cX12_person 87 = .ok (.aload_n 0, 1) ∧ decode cX12_person 88 = .ok (.iload_n 1, 1) ∧ decode cX12_person 89 = .ok (.invokevirtual 50, 3) ∧ decode cX12_person 92 = .ok (.ifCond .eq 10, 3) ∧ decode cX12_person 95 = .ok (.aload_n 0, 1) ∧ decode cX12_person 96 = .ok (.invokevirtual 62, 3) ∧ decode cX12_person 99 = .ok (.ifCond .ne 7, 3) ∧ decode cX12_person 102 = .ok (.iconst 0, 1) ∧ decode cX12_person 103 = .ok (.goto 17, 3) ∧ decode cX12_person 106 = .ok (.bipush 100, 2) := by decide +kernel
theorem dX12_person_87 : decode cX12_person 87 = .ok (.aload_n 0, 1) := zdc_703.1
theorem dX12_person_88 : decode cX12_person 88 = .ok (.iload_n 1, 1) := zdc_703.2.1
theorem dX12_person_89 : decode cX12_person 89 = .ok (.invokevirtual 50, 3) := zdc_703.2.2.1
theorem dX12_person_92 : decode cX12_person 92 = .ok (.ifCond .eq 10, 3) := zdc_703.2.2.2.1
theorem dX12_person_95 : decode cX12_person 95 = .ok (.aload_n 0, 1) := zdc_703.2.2.2.2.1
theorem dX12_person_96 : decode cX12_person 96 = .ok (.invokevirtual 62, 3) := zdc_703.2.2.2.2.2.1
theorem dX12_person_99 : decode cX12_person 99 = .ok (.ifCond .ne 7, 3) := zdc_703.2.2.2.2.2.2.1
theorem dX12_person_102 : decode cX12_person 102 = .ok (.iconst 0, 1) := zdc_703.2.2.2.2.2.2.2.1
theorem dX12_person_103 : decode cX12_person 103 = .ok (.goto 17, 3) := zdc_703.2.2.2.2.2.2.2.2.1
theorem dX12_person_106 : decode cX12_person 106 = .ok (.bipush 100, 2) := zdc_703.2.2.2.2.2.2.2.2.2
theorem zdc_704 : decode cX12_person 108 = .ok (.aload_n 0, 1) ∧ decode cX12_person 109 = .ok (.iload_n 1, 1) ∧ decode cX12_person 110 = .ok (.iconst 0, 1) ∧ decode cX12_person 111 = .ok (.invokevirtual 46, 3) ∧ decode cX12_person 114 = .ok (.imul, 1) ∧ decode cX12_person 115 = .ok (.aload_n 0, 1) ∧ decode cX12_person 116 = .ok (.invokevirtual 62, 3) ∧ decode cX12_person 119 = .ok (.idiv, 1) ∧ decode cX12_person 120 = .ok (.ireturn, 1) ∧ decode cX12_trust 0 = .ok (.aload_n 0, 1) := by decide +kernel
theorem dX12_person_108 : decode cX12_person 108 = .ok (.aload_n 0, 1) := zdc_704.1
theorem dX12_person_109 : decode cX12_person 109 = .ok (.iload_n 1, 1) := zdc_704.2.1
theorem dX12_person_110 : decode cX12_person 110 = .ok (.iconst 0, 1) := zdc_704.2.2.1
theorem dX12_person_111 : decode cX12_person 111 = .ok (.invokevirtual 46, 3) := zdc_704.2.2.2.1
theorem dX12_person_114 : decode cX12_person 114 = .ok (.imul, 1) := zdc_704.2.2.2.2.1
theorem dX12_person_115 : decode cX12_person 115 = .ok (.aload_n 0, 1) := zdc_704.2.2.2.2.2.1
theorem dX12_person_116 : decode cX12_person 116 = .ok (.invokevirtual 62, 3) := zdc_704.2.2.2.2.2.2.1
theorem dX12_person_119 : decode cX12_person 119 = .ok (.idiv, 1) := zdc_704.2.2.2.2.2.2.2.1
theorem dX12_person_120 : decode cX12_person 120 = .ok (.ireturn, 1) := zdc_704.2.2.2.2.2.2.2.2.1
theorem dX12_trust_0 : decode cX12_trust 0 = .ok (.aload_n 0, 1) := zdc_704.2.2.2.2.2.2.2.2.2
theorem zdc_705 : decode cX12_trust 1 = .ok (.aload_n 0, 1) ∧ decode cX12_trust 2 = .ok (.iload_n 1, 1) ∧ decode cX12_trust 3 = .ok (.invokevirtual 280, 3) ∧ decode cX12_trust 6 = .ok (.ifCond .eq 11, 3) ∧ decode cX12_trust 9 = .ok (.aload_n 0, 1) ∧ decode cX12_trust 10 = .ok (.iload_n 2, 1) ∧ decode cX12_trust 11 = .ok (.invokevirtual 280, 3) ∧ decode cX12_trust 14 = .ok (.ifCond .ne 7, 3) ∧ decode cX12_trust 17 = .ok (.iconst 1, 1) ∧ decode cX12_trust 18 = .ok (.goto 13, 3) := by decide +kernel
theorem dX12_trust_1 : decode cX12_trust 1 = .ok (.aload_n 0, 1) := zdc_705.1
theorem dX12_trust_2 : decode cX12_trust 2 = .ok (.iload_n 1, 1) := zdc_705.2.1
theorem dX12_trust_3 : decode cX12_trust 3 = .ok (.invokevirtual 280, 3) := zdc_705.2.2.1
theorem dX12_trust_6 : decode cX12_trust 6 = .ok (.ifCond .eq 11, 3) := zdc_705.2.2.2.1
theorem dX12_trust_9 : decode cX12_trust 9 = .ok (.aload_n 0, 1) := zdc_705.2.2.2.2.1
theorem dX12_trust_10 : decode cX12_trust 10 = .ok (.iload_n 2, 1) := zdc_705.2.2.2.2.2.1
theorem dX12_trust_11 : decode cX12_trust 11 = .ok (.invokevirtual 280, 3) := zdc_705.2.2.2.2.2.2.1
theorem dX12_trust_14 : decode cX12_trust 14 = .ok (.ifCond .ne 7, 3) := zdc_705.2.2.2.2.2.2.2.1
theorem dX12_trust_17 : decode cX12_trust 17 = .ok (.iconst 1, 1) := zdc_705.2.2.2.2.2.2.2.2.1
theorem dX12_trust_18 : decode cX12_trust 18 = .ok (.goto 13, 3) := zdc_705.2.2.2.2.2.2.2.2.2
theorem zdc_706 : decode cX12_trust 21 = .ok (.iload_n 1, 1) ∧ decode cX12_trust 22 = .ok (.iload_n 2, 1) ∧ decode cX12_trust 23 = .ok (.if_icmp .ne 7, 3) ∧ decode cX12_trust 26 = .ok (.iconst 2, 1) ∧ decode cX12_trust 27 = .ok (.goto 4, 3) ∧ decode cX12_trust 30 = .ok (.iconst 0, 1) ∧ decode cX12_trust 31 = .ok (.putfield 39, 3) ∧ decode cX12_trust 34 = .ok (.aload_n 0, 1) ∧ decode cX12_trust 35 = .ok (.getfield 39, 3) ∧ decode cX12_trust 38 = .ok (.ifCond .le 7, 3) := by decide +kernel
theorem dX12_trust_21 : decode cX12_trust 21 = .ok (.iload_n 1, 1) := zdc_706.1
theorem dX12_trust_22 : decode cX12_trust 22 = .ok (.iload_n 2, 1) := zdc_706.2.1
theorem dX12_trust_23 : decode cX12_trust 23 = .ok (.if_icmp .ne 7, 3) := zdc_706.2.2.1
theorem dX12_trust_26 : decode cX12_trust 26 = .ok (.iconst 2, 1) := zdc_706.2.2.2.1
theorem dX12_trust_27 : decode cX12_trust 27 = .ok (.goto 4, 3) := zdc_706.2.2.2.2.1
theorem dX12_trust_30 : decode cX12_trust 30 = .ok (.iconst 0, 1) := zdc_706.2.2.2.2.2.1
theorem dX12_trust_31 : decode cX12_trust 31 = .ok (.putfield 39, 3) := zdc_706.2.2.2.2.2.2.1
theorem dX12_trust_34 : decode cX12_trust 34 = .ok (.aload_n 0, 1) := zdc_706.2.2.2.2.2.2.2.1
theorem dX12_trust_35 : decode cX12_trust 35 = .ok (.getfield 39, 3) := zdc_706.2.2.2.2.2.2.2.2.1
theorem dX12_trust_38 : decode cX12_trust 38 = .ok (.ifCond .le 7, 3) := zdc_706.2.2.2.2.2.2.2.2.2
theorem zdc_707 : decode cX12_trust 41 = .ok (.iconst 0, 1) ∧ decode cX12_trust 42 = .ok (.goto 9, 3) ∧ decode cX12_trust 45 = .ok (.aload_n 0, 1) ∧ decode cX12_trust 46 = .ok (.iload_n 1, 1) ∧ decode cX12_trust 47 = .ok (.iload_n 2, 1) ∧ decode cX12_trust 48 = .ok (.invokevirtual 71, 3) ∧ decode cX12_trust 51 = .ok (.ireturn, 1) ∧ decode cX12_work 0 = .ok (.aload_n 0, 1) ∧ decode cX12_work 1 = .ok (.aload_n 0, 1) ∧ decode cX12_work 2 = .ok (.iload_n 1, 1) := by decide +kernel
theorem dX12_trust_41 : decode cX12_trust 41 = .ok (.iconst 0, 1) := zdc_707.1
theorem dX12_trust_42 : decode cX12_trust 42 = .ok (.goto 9, 3) := zdc_707.2.1
theorem dX12_trust_45 : decode cX12_trust 45 = .ok (.aload_n 0, 1) := zdc_707.2.2.1
theorem dX12_trust_46 : decode cX12_trust 46 = .ok (.iload_n 1, 1) := zdc_707.2.2.2.1
theorem dX12_trust_47 : decode cX12_trust 47 = .ok (.iload_n 2, 1) := zdc_707.2.2.2.2.1
theorem dX12_trust_48 : decode cX12_trust 48 = .ok (.invokevirtual 71, 3) := zdc_707.2.2.2.2.2.1
theorem dX12_trust_51 : decode cX12_trust 51 = .ok (.ireturn, 1) := zdc_707.2.2.2.2.2.2.1
theorem dX12_work_0 : decode cX12_work 0 = .ok (.aload_n 0, 1) := zdc_707.2.2.2.2.2.2.2.1
theorem dX12_work_1 : decode cX12_work 1 = .ok (.aload_n 0, 1) := zdc_707.2.2.2.2.2.2.2.2.1
theorem dX12_work_2 : decode cX12_work 2 = .ok (.iload_n 1, 1) := zdc_707.2.2.2.2.2.2.2.2.2
theorem zdc_708 : decode cX12_work 3 = .ok (.invokevirtual 286, 3) ∧ decode cX12_work 6 = .ok (.ifCond .ne 7, 3) ∧ decode cX12_work 9 = .ok (.iconst 1, 1) ∧ decode cX12_work 10 = .ok (.goto 17, 3) ∧ decode cX12_work 13 = .ok (.iload_n 2, 1) ∧ decode cX12_work 14 = .ok (.iconst 0, 1) ∧ decode cX12_work 15 = .ok (.iconst 3, 1) ∧ decode cX12_work 16 = .ok (.invokestatic 42, 3) ∧ decode cX12_work 19 = .ok (.ifCond .ne 7, 3) ∧ decode cX12_work 22 = .ok (.iconst 2, 1) := by decide +kernel
theorem dX12_work_3 : decode cX12_work 3 = .ok (.invokevirtual 286, 3) := zdc_708.1
theorem dX12_work_6 : decode cX12_work 6 = .ok (.ifCond .ne 7, 3) := zdc_708.2.1
theorem dX12_work_9 : decode cX12_work 9 = .ok (.iconst 1, 1) := zdc_708.2.2.1
theorem dX12_work_10 : decode cX12_work 10 = .ok (.goto 17, 3) := zdc_708.2.2.2.1
theorem dX12_work_13 : decode cX12_work 13 = .ok (.iload_n 2, 1) := zdc_708.2.2.2.2.1
theorem dX12_work_14 : decode cX12_work 14 = .ok (.iconst 0, 1) := zdc_708.2.2.2.2.2.1
theorem dX12_work_15 : decode cX12_work 15 = .ok (.iconst 3, 1) := zdc_708.2.2.2.2.2.2.1
theorem dX12_work_16 : decode cX12_work 16 = .ok (.invokestatic 42, 3) := zdc_708.2.2.2.2.2.2.2.1
theorem dX12_work_19 : decode cX12_work 19 = .ok (.ifCond .ne 7, 3) := zdc_708.2.2.2.2.2.2.2.2.1
theorem dX12_work_22 : decode cX12_work 22 = .ok (.iconst 2, 1) := zdc_708.2.2.2.2.2.2.2.2.2
theorem zdc_709 : decode cX12_work 23 = .ok (.goto 4, 3) ∧ decode cX12_work 26 = .ok (.iconst 0, 1) ∧ decode cX12_work 27 = .ok (.putfield 39, 3) ∧ decode cX12_work 30 = .ok (.aload_n 0, 1) ∧ decode cX12_work 31 = .ok (.getfield 39, 3) ∧ decode cX12_work 34 = .ok (.ifCond .le 7, 3) ∧ decode cX12_work 37 = .ok (.iconst 0, 1) ∧ decode cX12_work 38 = .ok (.goto 9, 3) ∧ decode cX12_work 41 = .ok (.aload_n 0, 1) ∧ decode cX12_work 42 = .ok (.iload_n 1, 1) := by decide +kernel
theorem dX12_work_23 : decode cX12_work 23 = .ok (.goto 4, 3) := zdc_709.1
theorem dX12_work_26 : decode cX12_work 26 = .ok (.iconst 0, 1) := zdc_709.2.1
theorem dX12_work_27 : decode cX12_work 27 = .ok (.putfield 39, 3) := zdc_709.2.2.1
theorem dX12_work_30 : decode cX12_work 30 = .ok (.aload_n 0, 1) := zdc_709.2.2.2.1
theorem dX12_work_31 : decode cX12_work 31 = .ok (.getfield 39, 3) := zdc_709.2.2.2.2.1
theorem dX12_work_34 : decode cX12_work 34 = .ok (.ifCond .le 7, 3) := zdc_709.2.2.2.2.2.1
theorem dX12_work_37 : decode cX12_work 37 = .ok (.iconst 0, 1) := zdc_709.2.2.2.2.2.2.1
theorem dX12_work_38 : decode cX12_work 38 = .ok (.goto 9, 3) := zdc_709.2.2.2.2.2.2.2.1
theorem dX12_work_41 : decode cX12_work 41 = .ok (.aload_n 0, 1) := zdc_709.2.2.2.2.2.2.2.2.1
theorem dX12_work_42 : decode cX12_work 42 = .ok (.iload_n 1, 1) := zdc_709.2.2.2.2.2.2.2.2.2
theorem zdc_710 : decode cX12_work 43 = .ok (.iload_n 2, 1) ∧ decode cX12_work 44 = .ok (.invokevirtual 68, 3) ∧ decode cX12_work 47 = .ok (.ireturn, 1) ∧ decode cX12_price 0 = .ok (.aload_n 0, 1) ∧ decode cX12_price 1 = .ok (.iconst 0, 1) ∧ decode cX12_price 2 = .ok (.putfield 39, 3) ∧ decode cX12_price 5 = .ok (.aload_n 0, 1) ∧ decode cX12_price 6 = .ok (.invokevirtual 277, 3) ∧ decode cX12_price 9 = .ok (.ireturn, 1) ∧ decode cX12_remembers 0 = .ok (.aload_n 0, 1) := by decide +kernel
theorem dX12_work_43 : decode cX12_work 43 = .ok (.iload_n 2, 1) := zdc_710.1
theorem dX12_work_44 : decode cX12_work 44 = .ok (.invokevirtual 68, 3) := zdc_710.2.1
theorem dX12_work_47 : decode cX12_work 47 = .ok (.ireturn, 1) := zdc_710.2.2.1
theorem dX12_price_0 : decode cX12_price 0 = .ok (.aload_n 0, 1) := zdc_710.2.2.2.1
theorem dX12_price_1 : decode cX12_price 1 = .ok (.iconst 0, 1) := zdc_710.2.2.2.2.1
theorem dX12_price_2 : decode cX12_price 2 = .ok (.putfield 39, 3) := zdc_710.2.2.2.2.2.1
theorem dX12_price_5 : decode cX12_price 5 = .ok (.aload_n 0, 1) := zdc_710.2.2.2.2.2.2.1
theorem dX12_price_6 : decode cX12_price 6 = .ok (.invokevirtual 277, 3) := zdc_710.2.2.2.2.2.2.2.1
theorem dX12_price_9 : decode cX12_price 9 = .ok (.ireturn, 1) := zdc_710.2.2.2.2.2.2.2.2.1
theorem dX12_remembers_0 : decode cX12_remembers 0 = .ok (.aload_n 0, 1) := zdc_710.2.2.2.2.2.2.2.2.2
theorem zdc_711 : decode cX12_remembers 1 = .ok (.getfield 187, 3) ∧ decode cX12_remembers 4 = .ok (.bipush 12, 2) ∧ decode cX12_remembers 6 = .ok (.if_icmp .ne 44, 3) ∧ decode cX12_remembers 9 = .ok (.iconst 0, 1) ∧ decode cX12_remembers 10 = .ok (.istore_n 1, 1) ∧ decode cX12_remembers 11 = .ok (.iload_n 1, 1) ∧ decode cX12_remembers 12 = .ok (.sipush 4169, 3) ∧ decode cX12_remembers 15 = .ok (.if_icmp .ge 25, 3) ∧ decode cX12_remembers 18 = .ok (.aload_n 0, 1) ∧ decode cX12_remembers 19 = .ok (.getfield 19, 3) := by decide +kernel
theorem dX12_remembers_1 : decode cX12_remembers 1 = .ok (.getfield 187, 3) := zdc_711.1
theorem dX12_remembers_4 : decode cX12_remembers 4 = .ok (.bipush 12, 2) := zdc_711.2.1
theorem dX12_remembers_6 : decode cX12_remembers 6 = .ok (.if_icmp .ne 44, 3) := zdc_711.2.2.1
theorem dX12_remembers_9 : decode cX12_remembers 9 = .ok (.iconst 0, 1) := zdc_711.2.2.2.1
theorem dX12_remembers_10 : decode cX12_remembers 10 = .ok (.istore_n 1, 1) := zdc_711.2.2.2.2.1
theorem dX12_remembers_11 : decode cX12_remembers 11 = .ok (.iload_n 1, 1) := zdc_711.2.2.2.2.2.1
theorem dX12_remembers_12 : decode cX12_remembers 12 = .ok (.sipush 4169, 3) := zdc_711.2.2.2.2.2.2.1
theorem dX12_remembers_15 : decode cX12_remembers 15 = .ok (.if_icmp .ge 25, 3) := zdc_711.2.2.2.2.2.2.2.1
theorem dX12_remembers_18 : decode cX12_remembers 18 = .ok (.aload_n 0, 1) := zdc_711.2.2.2.2.2.2.2.2.1
theorem dX12_remembers_19 : decode cX12_remembers 19 = .ok (.getfield 19, 3) := zdc_711.2.2.2.2.2.2.2.2.2
theorem zdc_712 : decode cX12_remembers 22 = .ok (.iload_n 1, 1) ∧ decode cX12_remembers 23 = .ok (.aload_n 0, 1) ∧ decode cX12_remembers 24 = .ok (.getfield 19, 3) ∧ decode cX12_remembers 27 = .ok (.iload_n 1, 1) ∧ decode cX12_remembers 28 = .ok (.sipush 379, 3) ∧ decode cX12_remembers 31 = .ok (.iadd, 1) ∧ decode cX12_remembers 32 = .ok (.iaload, 1) ∧ decode cX12_remembers 33 = .ok (.iastore, 1) ∧ decode cX12_remembers 34 = .ok (.iinc 1 1, 3) ∧ decode cX12_remembers 37 = .ok (.goto (-26), 3) := by decide +kernel
theorem dX12_remembers_22 : decode cX12_remembers 22 = .ok (.iload_n 1, 1) := zdc_712.1
theorem dX12_remembers_23 : decode cX12_remembers 23 = .ok (.aload_n 0, 1) := zdc_712.2.1
theorem dX12_remembers_24 : decode cX12_remembers 24 = .ok (.getfield 19, 3) := zdc_712.2.2.1
theorem dX12_remembers_27 : decode cX12_remembers 27 = .ok (.iload_n 1, 1) := zdc_712.2.2.2.1
theorem dX12_remembers_28 : decode cX12_remembers 28 = .ok (.sipush 379, 3) := zdc_712.2.2.2.2.1
theorem dX12_remembers_31 : decode cX12_remembers 31 = .ok (.iadd, 1) := zdc_712.2.2.2.2.2.1
theorem dX12_remembers_32 : decode cX12_remembers 32 = .ok (.iaload, 1) := zdc_712.2.2.2.2.2.2.1
theorem dX12_remembers_33 : decode cX12_remembers 33 = .ok (.iastore, 1) := zdc_712.2.2.2.2.2.2.2.1
theorem dX12_remembers_34 : decode cX12_remembers 34 = .ok (.iinc 1 1, 3) := zdc_712.2.2.2.2.2.2.2.2.1
theorem dX12_remembers_37 : decode cX12_remembers 37 = .ok (.goto (-26), 3) := zdc_712.2.2.2.2.2.2.2.2.2
theorem zdc_713 : decode cX12_remembers 40 = .ok (.aload_n 0, 1) ∧ decode cX12_remembers 41 = .ok (.dup, 1) ∧ decode cX12_remembers 42 = .ok (.getfield 187, 3) ∧ decode cX12_remembers 45 = .ok (.iconst 1, 1) ∧ decode cX12_remembers 46 = .ok (.isub, 1) ∧ decode cX12_remembers 47 = .ok (.putfield 187, 3) ∧ decode cX12_remembers 50 = .ok (.iconst 0, 1) ∧ decode cX12_remembers 51 = .ok (.istore_n 1, 1) ∧ decode cX12_remembers 52 = .ok (.iload_n 1, 1) ∧ decode cX12_remembers 53 = .ok (.sipush 379, 3) := by decide +kernel
theorem dX12_remembers_40 : decode cX12_remembers 40 = .ok (.aload_n 0, 1) := zdc_713.1
theorem dX12_remembers_41 : decode cX12_remembers 41 = .ok (.dup, 1) := zdc_713.2.1
theorem dX12_remembers_42 : decode cX12_remembers 42 = .ok (.getfield 187, 3) := zdc_713.2.2.1
theorem dX12_remembers_45 : decode cX12_remembers 45 = .ok (.iconst 1, 1) := zdc_713.2.2.2.1
theorem dX12_remembers_46 : decode cX12_remembers 46 = .ok (.isub, 1) := zdc_713.2.2.2.2.1
theorem dX12_remembers_47 : decode cX12_remembers 47 = .ok (.putfield 187, 3) := zdc_713.2.2.2.2.2.1
theorem dX12_remembers_50 : decode cX12_remembers 50 = .ok (.iconst 0, 1) := zdc_713.2.2.2.2.2.2.1
theorem dX12_remembers_51 : decode cX12_remembers 51 = .ok (.istore_n 1, 1) := zdc_713.2.2.2.2.2.2.2.1
theorem dX12_remembers_52 : decode cX12_remembers 52 = .ok (.iload_n 1, 1) := zdc_713.2.2.2.2.2.2.2.2.1
theorem dX12_remembers_53 : decode cX12_remembers 53 = .ok (.sipush 379, 3) := zdc_713.2.2.2.2.2.2.2.2.2
theorem zdc_714 : decode cX12_remembers 56 = .ok (.if_icmp .ge 30, 3) ∧ decode cX12_remembers 59 = .ok (.aload_n 0, 1) ∧ decode cX12_remembers 60 = .ok (.getfield 19, 3) ∧ decode cX12_remembers 63 = .ok (.sipush 379, 3) ∧ decode cX12_remembers 66 = .ok (.aload_n 0, 1) ∧ decode cX12_remembers 67 = .ok (.getfield 187, 3) ∧ decode cX12_remembers 70 = .ok (.imul, 1) ∧ decode cX12_remembers 71 = .ok (.iload_n 1, 1) ∧ decode cX12_remembers 72 = .ok (.iadd, 1) ∧ decode cX12_remembers 73 = .ok (.aload_n 0, 1) := by decide +kernel
theorem dX12_remembers_56 : decode cX12_remembers 56 = .ok (.if_icmp .ge 30, 3) := zdc_714.1
theorem dX12_remembers_59 : decode cX12_remembers 59 = .ok (.aload_n 0, 1) := zdc_714.2.1
theorem dX12_remembers_60 : decode cX12_remembers 60 = .ok (.getfield 19, 3) := zdc_714.2.2.1
theorem dX12_remembers_63 : decode cX12_remembers 63 = .ok (.sipush 379, 3) := zdc_714.2.2.2.1
theorem dX12_remembers_66 : decode cX12_remembers 66 = .ok (.aload_n 0, 1) := zdc_714.2.2.2.2.1
theorem dX12_remembers_67 : decode cX12_remembers 67 = .ok (.getfield 187, 3) := zdc_714.2.2.2.2.2.1
theorem dX12_remembers_70 : decode cX12_remembers 70 = .ok (.imul, 1) := zdc_714.2.2.2.2.2.2.1
theorem dX12_remembers_71 : decode cX12_remembers 71 = .ok (.iload_n 1, 1) := zdc_714.2.2.2.2.2.2.2.1
theorem dX12_remembers_72 : decode cX12_remembers 72 = .ok (.iadd, 1) := zdc_714.2.2.2.2.2.2.2.2.1
theorem dX12_remembers_73 : decode cX12_remembers 73 = .ok (.aload_n 0, 1) := zdc_714.2.2.2.2.2.2.2.2.2
theorem zdc_715 : decode cX12_remembers 74 = .ok (.getfield 7, 3) ∧ decode cX12_remembers 77 = .ok (.iload_n 1, 1) ∧ decode cX12_remembers 78 = .ok (.iaload, 1) ∧ decode cX12_remembers 79 = .ok (.iastore, 1) ∧ decode cX12_remembers 80 = .ok (.iinc 1 1, 3) ∧ decode cX12_remembers 83 = .ok (.goto (-31), 3) ∧ decode cX12_remembers 86 = .ok (.aload_n 0, 1) ∧ decode cX12_remembers 87 = .ok (.dup, 1) ∧ decode cX12_remembers 88 = .ok (.getfield 187, 3) ∧ decode cX12_remembers 91 = .ok (.iconst 1, 1) := by decide +kernel
theorem dX12_remembers_74 : decode cX12_remembers 74 = .ok (.getfield 7, 3) := zdc_715.1
theorem dX12_remembers_77 : decode cX12_remembers 77 = .ok (.iload_n 1, 1) := zdc_715.2.1
theorem dX12_remembers_78 : decode cX12_remembers 78 = .ok (.iaload, 1) := zdc_715.2.2.1
theorem dX12_remembers_79 : decode cX12_remembers 79 = .ok (.iastore, 1) := zdc_715.2.2.2.1
theorem dX12_remembers_80 : decode cX12_remembers 80 = .ok (.iinc 1 1, 3) := zdc_715.2.2.2.2.1
theorem dX12_remembers_83 : decode cX12_remembers 83 = .ok (.goto (-31), 3) := zdc_715.2.2.2.2.2.1
theorem dX12_remembers_86 : decode cX12_remembers 86 = .ok (.aload_n 0, 1) := zdc_715.2.2.2.2.2.2.1
theorem dX12_remembers_87 : decode cX12_remembers 87 = .ok (.dup, 1) := zdc_715.2.2.2.2.2.2.2.1
theorem dX12_remembers_88 : decode cX12_remembers 88 = .ok (.getfield 187, 3) := zdc_715.2.2.2.2.2.2.2.2.1
theorem dX12_remembers_91 : decode cX12_remembers 91 = .ok (.iconst 1, 1) := zdc_715.2.2.2.2.2.2.2.2.2
theorem zdc_716 : decode cX12_remembers 92 = .ok (.iadd, 1) ∧ decode cX12_remembers 93 = .ok (.putfield 187, 3) ∧ decode cX12_remembers 96 = .ok (.return_, 1) ∧ decode cX12_tell 0 = .ok (.aload_n 0, 1) ∧ decode cX12_tell 1 = .ok (.aload_n 0, 1) ∧ decode cX12_tell 2 = .ok (.iload_n 1, 1) ∧ decode cX12_tell 3 = .ok (.invokevirtual 280, 3) ∧ decode cX12_tell 6 = .ok (.ifCond .ne 7, 3) ∧ decode cX12_tell 9 = .ok (.iconst 1, 1) ∧ decode cX12_tell 10 = .ok (.goto 16, 3) := by decide +kernel
theorem dX12_remembers_92 : decode cX12_remembers 92 = .ok (.iadd, 1) := zdc_716.1
theorem dX12_remembers_93 : decode cX12_remembers 93 = .ok (.putfield 187, 3) := zdc_716.2.1
theorem dX12_remembers_96 : decode cX12_remembers 96 = .ok (.return_, 1) := zdc_716.2.2.1
theorem dX12_tell_0 : decode cX12_tell 0 = .ok (.aload_n 0, 1) := zdc_716.2.2.2.1
theorem dX12_tell_1 : decode cX12_tell 1 = .ok (.aload_n 0, 1) := zdc_716.2.2.2.2.1
theorem dX12_tell_2 : decode cX12_tell 2 = .ok (.iload_n 1, 1) := zdc_716.2.2.2.2.2.1
theorem dX12_tell_3 : decode cX12_tell 3 = .ok (.invokevirtual 280, 3) := zdc_716.2.2.2.2.2.2.1
theorem dX12_tell_6 : decode cX12_tell 6 = .ok (.ifCond .ne 7, 3) := zdc_716.2.2.2.2.2.2.2.1
theorem dX12_tell_9 : decode cX12_tell 9 = .ok (.iconst 1, 1) := zdc_716.2.2.2.2.2.2.2.2.1
theorem dX12_tell_10 : decode cX12_tell 10 = .ok (.goto 16, 3) := zdc_716.2.2.2.2.2.2.2.2.2
theorem zdc_717 : decode cX12_tell 13 = .ok (.aload_n 0, 1) ∧ decode cX12_tell 14 = .ok (.iload_n 1, 1) ∧ decode cX12_tell 15 = .ok (.invokevirtual 50, 3) ∧ decode cX12_tell 18 = .ok (.ifCond .ne 7, 3) ∧ decode cX12_tell 21 = .ok (.iconst 2, 1) ∧ decode cX12_tell 22 = .ok (.goto 4, 3) ∧ decode cX12_tell 25 = .ok (.iconst 0, 1) ∧ decode cX12_tell 26 = .ok (.putfield 39, 3) ∧ decode cX12_tell 29 = .ok (.aload_n 0, 1) ∧ decode cX12_tell 30 = .ok (.getfield 39, 3) := by decide +kernel
theorem dX12_tell_13 : decode cX12_tell 13 = .ok (.aload_n 0, 1) := zdc_717.1
theorem dX12_tell_14 : decode cX12_tell 14 = .ok (.iload_n 1, 1) := zdc_717.2.1
theorem dX12_tell_15 : decode cX12_tell 15 = .ok (.invokevirtual 50, 3) := zdc_717.2.2.1
theorem dX12_tell_18 : decode cX12_tell 18 = .ok (.ifCond .ne 7, 3) := zdc_717.2.2.2.1
theorem dX12_tell_21 : decode cX12_tell 21 = .ok (.iconst 2, 1) := zdc_717.2.2.2.2.1
theorem dX12_tell_22 : decode cX12_tell 22 = .ok (.goto 4, 3) := zdc_717.2.2.2.2.2.1
theorem dX12_tell_25 : decode cX12_tell 25 = .ok (.iconst 0, 1) := zdc_717.2.2.2.2.2.2.1
theorem dX12_tell_26 : decode cX12_tell 26 = .ok (.putfield 39, 3) := zdc_717.2.2.2.2.2.2.2.1
theorem dX12_tell_29 : decode cX12_tell 29 = .ok (.aload_n 0, 1) := zdc_717.2.2.2.2.2.2.2.2.1
theorem dX12_tell_30 : decode cX12_tell 30 = .ok (.getfield 39, 3) := zdc_717.2.2.2.2.2.2.2.2.2
theorem zdc_718 : decode cX12_tell 33 = .ok (.ifCond .le 5, 3) ∧ decode cX12_tell 36 = .ok (.iconst 0, 1) ∧ decode cX12_tell 37 = .ok (.ireturn, 1) ∧ decode cX12_tell 38 = .ok (.aload_n 0, 1) ∧ decode cX12_tell 39 = .ok (.invokevirtual 289, 3) ∧ decode cX12_tell 42 = .ok (.aload_n 0, 1) ∧ decode cX12_tell 43 = .ok (.iload_n 1, 1) ∧ decode cX12_tell 44 = .ok (.bipush 20, 2) ∧ decode cX12_tell 46 = .ok (.invokevirtual 261, 3) ∧ decode cX12_tell 49 = .ok (.aload_n 0, 1) := by decide +kernel
theorem dX12_tell_33 : decode cX12_tell 33 = .ok (.ifCond .le 5, 3) := zdc_718.1
theorem dX12_tell_36 : decode cX12_tell 36 = .ok (.iconst 0, 1) := zdc_718.2.1
theorem dX12_tell_37 : decode cX12_tell 37 = .ok (.ireturn, 1) := zdc_718.2.2.1
theorem dX12_tell_38 : decode cX12_tell 38 = .ok (.aload_n 0, 1) := zdc_718.2.2.2.1
theorem dX12_tell_39 : decode cX12_tell 39 = .ok (.invokevirtual 289, 3) := zdc_718.2.2.2.2.1
theorem dX12_tell_42 : decode cX12_tell 42 = .ok (.aload_n 0, 1) := zdc_718.2.2.2.2.2.1
theorem dX12_tell_43 : decode cX12_tell 43 = .ok (.iload_n 1, 1) := zdc_718.2.2.2.2.2.2.1
theorem dX12_tell_44 : decode cX12_tell 44 = .ok (.bipush 20, 2) := zdc_718.2.2.2.2.2.2.2.1
theorem dX12_tell_46 : decode cX12_tell 46 = .ok (.invokevirtual 261, 3) := zdc_718.2.2.2.2.2.2.2.2.1
theorem dX12_tell_49 : decode cX12_tell 49 = .ok (.aload_n 0, 1) := zdc_718.2.2.2.2.2.2.2.2.2
theorem zdc_719 : decode cX12_tell 50 = .ok (.iload_n 1, 1) ∧ decode cX12_tell 51 = .ok (.iconst 0, 1) ∧ decode cX12_tell 52 = .ok (.invokevirtual 46, 3) ∧ decode cX12_tell 55 = .ok (.ireturn, 1) ∧ decode cX12_tie 0 = .ok (.aload_n 0, 1) ∧ decode cX12_tie 1 = .ok (.aload_n 0, 1) ∧ decode cX12_tie 2 = .ok (.iload_n 1, 1) ∧ decode cX12_tie 3 = .ok (.invokevirtual 280, 3) ∧ decode cX12_tie 6 = .ok (.ifCond .eq 11, 3) ∧ decode cX12_tie 9 = .ok (.aload_n 0, 1) := by decide +kernel
theorem dX12_tell_50 : decode cX12_tell 50 = .ok (.iload_n 1, 1) := zdc_719.1
theorem dX12_tell_51 : decode cX12_tell 51 = .ok (.iconst 0, 1) := zdc_719.2.1
theorem dX12_tell_52 : decode cX12_tell 52 = .ok (.invokevirtual 46, 3) := zdc_719.2.2.1
theorem dX12_tell_55 : decode cX12_tell 55 = .ok (.ireturn, 1) := zdc_719.2.2.2.1
theorem dX12_tie_0 : decode cX12_tie 0 = .ok (.aload_n 0, 1) := zdc_719.2.2.2.2.1
theorem dX12_tie_1 : decode cX12_tie 1 = .ok (.aload_n 0, 1) := zdc_719.2.2.2.2.2.1
theorem dX12_tie_2 : decode cX12_tie 2 = .ok (.iload_n 1, 1) := zdc_719.2.2.2.2.2.2.1
theorem dX12_tie_3 : decode cX12_tie 3 = .ok (.invokevirtual 280, 3) := zdc_719.2.2.2.2.2.2.2.1
theorem dX12_tie_6 : decode cX12_tie 6 = .ok (.ifCond .eq 11, 3) := zdc_719.2.2.2.2.2.2.2.2.1
theorem dX12_tie_9 : decode cX12_tie 9 = .ok (.aload_n 0, 1) := zdc_719.2.2.2.2.2.2.2.2.2
theorem zdc_720 : decode cX12_tie 10 = .ok (.iload_n 2, 1) ∧ decode cX12_tie 11 = .ok (.invokevirtual 280, 3) ∧ decode cX12_tie 14 = .ok (.ifCond .ne 7, 3) ∧ decode cX12_tie 17 = .ok (.iconst 1, 1) ∧ decode cX12_tie 18 = .ok (.goto 23, 3) ∧ decode cX12_tie 21 = .ok (.iload_n 1, 1) ∧ decode cX12_tie 22 = .ok (.iload_n 2, 1) ∧ decode cX12_tie 23 = .ok (.if_icmp .eq 13, 3) ∧ decode cX12_tie 26 = .ok (.iload_n 3, 1) ∧ decode cX12_tie 27 = .ok (.iconst 0, 1) := by decide +kernel
theorem dX12_tie_10 : decode cX12_tie 10 = .ok (.iload_n 2, 1) := zdc_720.1
theorem dX12_tie_11 : decode cX12_tie 11 = .ok (.invokevirtual 280, 3) := zdc_720.2.1
theorem dX12_tie_14 : decode cX12_tie 14 = .ok (.ifCond .ne 7, 3) := zdc_720.2.2.1
theorem dX12_tie_17 : decode cX12_tie 17 = .ok (.iconst 1, 1) := zdc_720.2.2.2.1
theorem dX12_tie_18 : decode cX12_tie 18 = .ok (.goto 23, 3) := zdc_720.2.2.2.2.1
theorem dX12_tie_21 : decode cX12_tie 21 = .ok (.iload_n 1, 1) := zdc_720.2.2.2.2.2.1
theorem dX12_tie_22 : decode cX12_tie 22 = .ok (.iload_n 2, 1) := zdc_720.2.2.2.2.2.2.1
theorem dX12_tie_23 : decode cX12_tie 23 = .ok (.if_icmp .eq 13, 3) := zdc_720.2.2.2.2.2.2.2.1
theorem dX12_tie_26 : decode cX12_tie 26 = .ok (.iload_n 3, 1) := zdc_720.2.2.2.2.2.2.2.2.1
theorem dX12_tie_27 : decode cX12_tie 27 = .ok (.iconst 0, 1) := zdc_720.2.2.2.2.2.2.2.2.2
theorem zdc_721 : decode cX12_tie 28 = .ok (.bipush 9, 2) ∧ decode cX12_tie 30 = .ok (.invokestatic 42, 3) ∧ decode cX12_tie 33 = .ok (.ifCond .ne 7, 3) ∧ decode cX12_tie 36 = .ok (.iconst 2, 1) ∧ decode cX12_tie 37 = .ok (.goto 4, 3) ∧ decode cX12_tie 40 = .ok (.iconst 0, 1) ∧ decode cX12_tie 41 = .ok (.putfield 39, 3) ∧ decode cX12_tie 44 = .ok (.aload_n 0, 1) ∧ decode cX12_tie 45 = .ok (.getfield 39, 3) ∧ decode cX12_tie 48 = .ok (.ifCond .le 5, 3) := by decide +kernel
theorem dX12_tie_28 : decode cX12_tie 28 = .ok (.bipush 9, 2) := zdc_721.1
theorem dX12_tie_30 : decode cX12_tie 30 = .ok (.invokestatic 42, 3) := zdc_721.2.1
theorem dX12_tie_33 : decode cX12_tie 33 = .ok (.ifCond .ne 7, 3) := zdc_721.2.2.1
theorem dX12_tie_36 : decode cX12_tie 36 = .ok (.iconst 2, 1) := zdc_721.2.2.2.1
theorem dX12_tie_37 : decode cX12_tie 37 = .ok (.goto 4, 3) := zdc_721.2.2.2.2.1
theorem dX12_tie_40 : decode cX12_tie 40 = .ok (.iconst 0, 1) := zdc_721.2.2.2.2.2.1
theorem dX12_tie_41 : decode cX12_tie 41 = .ok (.putfield 39, 3) := zdc_721.2.2.2.2.2.2.1
theorem dX12_tie_44 : decode cX12_tie 44 = .ok (.aload_n 0, 1) := zdc_721.2.2.2.2.2.2.2.1
theorem dX12_tie_45 : decode cX12_tie 45 = .ok (.getfield 39, 3) := zdc_721.2.2.2.2.2.2.2.2.1
theorem dX12_tie_48 : decode cX12_tie 48 = .ok (.ifCond .le 5, 3) := zdc_721.2.2.2.2.2.2.2.2.2
theorem zdc_722 : decode cX12_tie 51 = .ok (.iconst 0, 1) ∧ decode cX12_tie 52 = .ok (.ireturn, 1) ∧ decode cX12_tie 53 = .ok (.aload_n 0, 1) ∧ decode cX12_tie 54 = .ok (.invokevirtual 289, 3) ∧ decode cX12_tie 57 = .ok (.aload_n 0, 1) ∧ decode cX12_tie 58 = .ok (.iload_n 1, 1) ∧ decode cX12_tie 59 = .ok (.iload_n 2, 1) ∧ decode cX12_tie 60 = .ok (.invokevirtual 71, 3) ∧ decode cX12_tie 63 = .ok (.istore 4, 2) ∧ decode cX12_tie 65 = .ok (.aload_n 0, 1) := by decide +kernel
theorem dX12_tie_51 : decode cX12_tie 51 = .ok (.iconst 0, 1) := zdc_722.1
theorem dX12_tie_52 : decode cX12_tie 52 = .ok (.ireturn, 1) := zdc_722.2.1
theorem dX12_tie_53 : decode cX12_tie 53 = .ok (.aload_n 0, 1) := zdc_722.2.2.1
theorem dX12_tie_54 : decode cX12_tie 54 = .ok (.invokevirtual 289, 3) := zdc_722.2.2.2.1
theorem dX12_tie_57 : decode cX12_tie 57 = .ok (.aload_n 0, 1) := zdc_722.2.2.2.2.1
theorem dX12_tie_58 : decode cX12_tie 58 = .ok (.iload_n 1, 1) := zdc_722.2.2.2.2.2.1
theorem dX12_tie_59 : decode cX12_tie 59 = .ok (.iload_n 2, 1) := zdc_722.2.2.2.2.2.2.1
theorem dX12_tie_60 : decode cX12_tie 60 = .ok (.invokevirtual 71, 3) := zdc_722.2.2.2.2.2.2.2.1
theorem dX12_tie_63 : decode cX12_tie 63 = .ok (.istore 4, 2) := zdc_722.2.2.2.2.2.2.2.2.1
theorem dX12_tie_65 : decode cX12_tie 65 = .ok (.aload_n 0, 1) := zdc_722.2.2.2.2.2.2.2.2.2
theorem zdc_723 : decode cX12_tie 66 = .ok (.getfield 7, 3) ∧ decode cX12_tie 69 = .ok (.bipush 51, 2) ∧ decode cX12_tie 71 = .ok (.bipush 8, 2) ∧ decode cX12_tie 73 = .ok (.iload_n 1, 1) ∧ decode cX12_tie 74 = .ok (.imul, 1) ∧ decode cX12_tie 75 = .ok (.iadd, 1) ∧ decode cX12_tie 76 = .ok (.iload_n 2, 1) ∧ decode cX12_tie 77 = .ok (.iadd, 1) ∧ decode cX12_tie 78 = .ok (.iload_n 3, 1) ∧ decode cX12_tie 79 = .ok (.iastore, 1) := by decide +kernel
theorem dX12_tie_66 : decode cX12_tie 66 = .ok (.getfield 7, 3) := zdc_723.1
theorem dX12_tie_69 : decode cX12_tie 69 = .ok (.bipush 51, 2) := zdc_723.2.1
theorem dX12_tie_71 : decode cX12_tie 71 = .ok (.bipush 8, 2) := zdc_723.2.2.1
theorem dX12_tie_73 : decode cX12_tie 73 = .ok (.iload_n 1, 1) := zdc_723.2.2.2.1
theorem dX12_tie_74 : decode cX12_tie 74 = .ok (.imul, 1) := zdc_723.2.2.2.2.1
theorem dX12_tie_75 : decode cX12_tie 75 = .ok (.iadd, 1) := zdc_723.2.2.2.2.2.1
theorem dX12_tie_76 : decode cX12_tie 76 = .ok (.iload_n 2, 1) := zdc_723.2.2.2.2.2.2.1
theorem dX12_tie_77 : decode cX12_tie 77 = .ok (.iadd, 1) := zdc_723.2.2.2.2.2.2.2.1
theorem dX12_tie_78 : decode cX12_tie 78 = .ok (.iload_n 3, 1) := zdc_723.2.2.2.2.2.2.2.2.1
theorem dX12_tie_79 : decode cX12_tie 79 = .ok (.iastore, 1) := zdc_723.2.2.2.2.2.2.2.2.2
theorem zdc_724 : decode cX12_tie 80 = .ok (.iload 4, 2) ∧ decode cX12_tie 82 = .ok (.ireturn, 1) ∧ decode cX12_plan 0 = .ok (.aload_n 0, 1) ∧ decode cX12_plan 1 = .ok (.aload_n 0, 1) ∧ decode cX12_plan 2 = .ok (.iload_n 1, 1) ∧ decode cX12_plan 3 = .ok (.invokevirtual 286, 3) ∧ decode cX12_plan 6 = .ok (.ifCond .ne 7, 3) ∧ decode cX12_plan 9 = .ok (.iconst 1, 1) ∧ decode cX12_plan 10 = .ok (.goto 18, 3) ∧ decode cX12_plan 13 = .ok (.aload_n 0, 1) := by decide +kernel
theorem dX12_tie_80 : decode cX12_tie 80 = .ok (.iload 4, 2) := zdc_724.1
theorem dX12_tie_82 : decode cX12_tie 82 = .ok (.ireturn, 1) := zdc_724.2.1
theorem dX12_plan_0 : decode cX12_plan 0 = .ok (.aload_n 0, 1) := zdc_724.2.2.1
theorem dX12_plan_1 : decode cX12_plan 1 = .ok (.aload_n 0, 1) := zdc_724.2.2.2.1
theorem dX12_plan_2 : decode cX12_plan 2 = .ok (.iload_n 1, 1) := zdc_724.2.2.2.2.1
theorem dX12_plan_3 : decode cX12_plan 3 = .ok (.invokevirtual 286, 3) := zdc_724.2.2.2.2.2.1
theorem dX12_plan_6 : decode cX12_plan 6 = .ok (.ifCond .ne 7, 3) := zdc_724.2.2.2.2.2.2.1
theorem dX12_plan_9 : decode cX12_plan 9 = .ok (.iconst 1, 1) := zdc_724.2.2.2.2.2.2.2.1
theorem dX12_plan_10 : decode cX12_plan 10 = .ok (.goto 18, 3) := zdc_724.2.2.2.2.2.2.2.2.1
theorem dX12_plan_13 : decode cX12_plan 13 = .ok (.aload_n 0, 1) := zdc_724.2.2.2.2.2.2.2.2.2
theorem zdc_725 : decode cX12_plan 14 = .ok (.iload_n 1, 1) ∧ decode cX12_plan 15 = .ok (.iconst 3, 1) ∧ decode cX12_plan 16 = .ok (.invokevirtual 68, 3) ∧ decode cX12_plan 19 = .ok (.iconst 2, 1) ∧ decode cX12_plan 20 = .ok (.if_icmp .eq 7, 3) ∧ decode cX12_plan 23 = .ok (.iconst 2, 1) ∧ decode cX12_plan 24 = .ok (.goto 4, 3) ∧ decode cX12_plan 27 = .ok (.iconst 0, 1) ∧ decode cX12_plan 28 = .ok (.putfield 39, 3) ∧ decode cX12_plan 31 = .ok (.aload_n 0, 1) := by decide +kernel
theorem dX12_plan_14 : decode cX12_plan 14 = .ok (.iload_n 1, 1) := zdc_725.1
theorem dX12_plan_15 : decode cX12_plan 15 = .ok (.iconst 3, 1) := zdc_725.2.1
theorem dX12_plan_16 : decode cX12_plan 16 = .ok (.invokevirtual 68, 3) := zdc_725.2.2.1
theorem dX12_plan_19 : decode cX12_plan 19 = .ok (.iconst 2, 1) := zdc_725.2.2.2.1
theorem dX12_plan_20 : decode cX12_plan 20 = .ok (.if_icmp .eq 7, 3) := zdc_725.2.2.2.2.1
theorem dX12_plan_23 : decode cX12_plan 23 = .ok (.iconst 2, 1) := zdc_725.2.2.2.2.2.1
theorem dX12_plan_24 : decode cX12_plan 24 = .ok (.goto 4, 3) := zdc_725.2.2.2.2.2.2.1
theorem dX12_plan_27 : decode cX12_plan 27 = .ok (.iconst 0, 1) := zdc_725.2.2.2.2.2.2.2.1
theorem dX12_plan_28 : decode cX12_plan 28 = .ok (.putfield 39, 3) := zdc_725.2.2.2.2.2.2.2.2.1
theorem dX12_plan_31 : decode cX12_plan 31 = .ok (.aload_n 0, 1) := zdc_725.2.2.2.2.2.2.2.2.2
theorem zdc_726 : decode cX12_plan 32 = .ok (.getfield 39, 3) ∧ decode cX12_plan 35 = .ok (.ifCond .le 4, 3) ∧ decode cX12_plan 38 = .ok (.return_, 1) ∧ decode cX12_plan 39 = .ok (.aload_n 0, 1) ∧ decode cX12_plan 40 = .ok (.invokevirtual 289, 3) ∧ decode cX12_plan 43 = .ok (.aload_n 0, 1) ∧ decode cX12_plan 44 = .ok (.iload_n 1, 1) ∧ decode cX12_plan 45 = .ok (.iconst 3, 1) ∧ decode cX12_plan 46 = .ok (.iconst 0, 1) ∧ decode cX12_plan 47 = .ok (.invokevirtual 131, 3) := by decide +kernel
theorem dX12_plan_32 : decode cX12_plan 32 = .ok (.getfield 39, 3) := zdc_726.1
theorem dX12_plan_35 : decode cX12_plan 35 = .ok (.ifCond .le 4, 3) := zdc_726.2.1
theorem dX12_plan_38 : decode cX12_plan 38 = .ok (.return_, 1) := zdc_726.2.2.1
theorem dX12_plan_39 : decode cX12_plan 39 = .ok (.aload_n 0, 1) := zdc_726.2.2.2.1
theorem dX12_plan_40 : decode cX12_plan 40 = .ok (.invokevirtual 289, 3) := zdc_726.2.2.2.2.1
theorem dX12_plan_43 : decode cX12_plan 43 = .ok (.aload_n 0, 1) := zdc_726.2.2.2.2.2.1
theorem dX12_plan_44 : decode cX12_plan 44 = .ok (.iload_n 1, 1) := zdc_726.2.2.2.2.2.2.1
theorem dX12_plan_45 : decode cX12_plan 45 = .ok (.iconst 3, 1) := zdc_726.2.2.2.2.2.2.2.1
theorem dX12_plan_46 : decode cX12_plan 46 = .ok (.iconst 0, 1) := zdc_726.2.2.2.2.2.2.2.2.1
theorem dX12_plan_47 : decode cX12_plan 47 = .ok (.invokevirtual 131, 3) := zdc_726.2.2.2.2.2.2.2.2.2
theorem zdc_727 : decode cX12_plan 50 = .ok (.return_, 1) ∧ decode cX12_send 0 = .ok (.aload_n 0, 1) ∧ decode cX12_send 1 = .ok (.aload_n 0, 1) ∧ decode cX12_send 2 = .ok (.iload_n 1, 1) ∧ decode cX12_send 3 = .ok (.invokevirtual 280, 3) ∧ decode cX12_send 6 = .ok (.ifCond .ne 7, 3) ∧ decode cX12_send 9 = .ok (.iconst 1, 1) ∧ decode cX12_send 10 = .ok (.goto 16, 3) ∧ decode cX12_send 13 = .ok (.aload_n 0, 1) ∧ decode cX12_send 14 = .ok (.iload_n 1, 1) := by decide +kernel
theorem dX12_plan_50 : decode cX12_plan 50 = .ok (.return_, 1) := zdc_727.1
theorem dX12_send_0 : decode cX12_send 0 = .ok (.aload_n 0, 1) := zdc_727.2.1
theorem dX12_send_1 : decode cX12_send 1 = .ok (.aload_n 0, 1) := zdc_727.2.2.1
theorem dX12_send_2 : decode cX12_send 2 = .ok (.iload_n 1, 1) := zdc_727.2.2.2.1
theorem dX12_send_3 : decode cX12_send 3 = .ok (.invokevirtual 280, 3) := zdc_727.2.2.2.2.1
theorem dX12_send_6 : decode cX12_send 6 = .ok (.ifCond .ne 7, 3) := zdc_727.2.2.2.2.2.1
theorem dX12_send_9 : decode cX12_send 9 = .ok (.iconst 1, 1) := zdc_727.2.2.2.2.2.2.1
theorem dX12_send_10 : decode cX12_send 10 = .ok (.goto 16, 3) := zdc_727.2.2.2.2.2.2.2.1
theorem dX12_send_13 : decode cX12_send 13 = .ok (.aload_n 0, 1) := zdc_727.2.2.2.2.2.2.2.2.1
theorem dX12_send_14 : decode cX12_send 14 = .ok (.iload_n 1, 1) := zdc_727.2.2.2.2.2.2.2.2.2
theorem zdc_728 : decode cX12_send 15 = .ok (.invokevirtual 50, 3) ∧ decode cX12_send 18 = .ok (.ifCond .ne 7, 3) ∧ decode cX12_send 21 = .ok (.iconst 2, 1) ∧ decode cX12_send 22 = .ok (.goto 4, 3) ∧ decode cX12_send 25 = .ok (.iconst 0, 1) ∧ decode cX12_send 26 = .ok (.putfield 39, 3) ∧ decode cX12_send 29 = .ok (.aload_n 0, 1) ∧ decode cX12_send 30 = .ok (.getfield 39, 3) ∧ decode cX12_send 33 = .ok (.ifCond .le 5, 3) ∧ decode cX12_send 36 = .ok (.iconst 0, 1) := by decide +kernel
theorem dX12_send_15 : decode cX12_send 15 = .ok (.invokevirtual 50, 3) := zdc_728.1
theorem dX12_send_18 : decode cX12_send 18 = .ok (.ifCond .ne 7, 3) := zdc_728.2.1
theorem dX12_send_21 : decode cX12_send 21 = .ok (.iconst 2, 1) := zdc_728.2.2.1
theorem dX12_send_22 : decode cX12_send 22 = .ok (.goto 4, 3) := zdc_728.2.2.2.1
theorem dX12_send_25 : decode cX12_send 25 = .ok (.iconst 0, 1) := zdc_728.2.2.2.2.1
theorem dX12_send_26 : decode cX12_send 26 = .ok (.putfield 39, 3) := zdc_728.2.2.2.2.2.1
theorem dX12_send_29 : decode cX12_send 29 = .ok (.aload_n 0, 1) := zdc_728.2.2.2.2.2.2.1
theorem dX12_send_30 : decode cX12_send 30 = .ok (.getfield 39, 3) := zdc_728.2.2.2.2.2.2.2.1
theorem dX12_send_33 : decode cX12_send 33 = .ok (.ifCond .le 5, 3) := zdc_728.2.2.2.2.2.2.2.2.1
theorem dX12_send_36 : decode cX12_send 36 = .ok (.iconst 0, 1) := zdc_728.2.2.2.2.2.2.2.2.2
theorem zdc_729 : decode cX12_send 37 = .ok (.ireturn, 1) ∧ decode cX12_send 38 = .ok (.aload_n 0, 1) ∧ decode cX12_send 39 = .ok (.invokevirtual 289, 3) ∧ decode cX12_send 42 = .ok (.aload_n 0, 1) ∧ decode cX12_send 43 = .ok (.iload_n 1, 1) ∧ decode cX12_send 44 = .ok (.iconst 4, 1) ∧ decode cX12_send 45 = .ok (.aload_n 0, 1) ∧ decode cX12_send 46 = .ok (.getfield 7, 3) ∧ decode cX12_send 49 = .ok (.bipush 8, 2) ∧ decode cX12_send 51 = .ok (.iaload, 1) := by decide +kernel
theorem dX12_send_37 : decode cX12_send 37 = .ok (.ireturn, 1) := zdc_729.1
theorem dX12_send_38 : decode cX12_send 38 = .ok (.aload_n 0, 1) := zdc_729.2.1
theorem dX12_send_39 : decode cX12_send 39 = .ok (.invokevirtual 289, 3) := zdc_729.2.2.1
theorem dX12_send_42 : decode cX12_send 42 = .ok (.aload_n 0, 1) := zdc_729.2.2.2.1
theorem dX12_send_43 : decode cX12_send 43 = .ok (.iload_n 1, 1) := zdc_729.2.2.2.2.1
theorem dX12_send_44 : decode cX12_send 44 = .ok (.iconst 4, 1) := zdc_729.2.2.2.2.2.1
theorem dX12_send_45 : decode cX12_send 45 = .ok (.aload_n 0, 1) := zdc_729.2.2.2.2.2.2.1
theorem dX12_send_46 : decode cX12_send 46 = .ok (.getfield 7, 3) := zdc_729.2.2.2.2.2.2.2.1
theorem dX12_send_49 : decode cX12_send 49 = .ok (.bipush 8, 2) := zdc_729.2.2.2.2.2.2.2.2.1
theorem dX12_send_51 : decode cX12_send 51 = .ok (.iaload, 1) := zdc_729.2.2.2.2.2.2.2.2.2
theorem zdc_730 : decode cX12_send 52 = .ok (.aload_n 0, 1) ∧ decode cX12_send 53 = .ok (.getfield 7, 3) ∧ decode cX12_send 56 = .ok (.bipush 6, 2) ∧ decode cX12_send 58 = .ok (.iaload, 1) ∧ decode cX12_send 59 = .ok (.iadd, 1) ∧ decode cX12_send 60 = .ok (.invokevirtual 123, 3) ∧ decode cX12_send 63 = .ok (.aload_n 0, 1) ∧ decode cX12_send 64 = .ok (.iload_n 1, 1) ∧ decode cX12_send 65 = .ok (.iconst 4, 1) ∧ decode cX12_send 66 = .ok (.invokevirtual 46, 3) := by decide +kernel
theorem dX12_send_52 : decode cX12_send 52 = .ok (.aload_n 0, 1) := zdc_730.1
theorem dX12_send_53 : decode cX12_send 53 = .ok (.getfield 7, 3) := zdc_730.2.1
theorem dX12_send_56 : decode cX12_send 56 = .ok (.bipush 6, 2) := zdc_730.2.2.1
theorem dX12_send_58 : decode cX12_send 58 = .ok (.iaload, 1) := zdc_730.2.2.2.1
theorem dX12_send_59 : decode cX12_send 59 = .ok (.iadd, 1) := zdc_730.2.2.2.2.1
theorem dX12_send_60 : decode cX12_send 60 = .ok (.invokevirtual 123, 3) := zdc_730.2.2.2.2.2.1
theorem dX12_send_63 : decode cX12_send 63 = .ok (.aload_n 0, 1) := zdc_730.2.2.2.2.2.2.1
theorem dX12_send_64 : decode cX12_send 64 = .ok (.iload_n 1, 1) := zdc_730.2.2.2.2.2.2.2.1
theorem dX12_send_65 : decode cX12_send 65 = .ok (.iconst 4, 1) := zdc_730.2.2.2.2.2.2.2.2.1
theorem dX12_send_66 : decode cX12_send 66 = .ok (.invokevirtual 46, 3) := zdc_730.2.2.2.2.2.2.2.2.2
theorem zdc_731 : decode cX12_send 69 = .ok (.ireturn, 1) ∧ decode cX12_buy 0 = .ok (.aload_n 0, 1) ∧ decode cX12_buy 1 = .ok (.aload_n 0, 1) ∧ decode cX12_buy 2 = .ok (.iload_n 1, 1) ∧ decode cX12_buy 3 = .ok (.invokevirtual 280, 3) ∧ decode cX12_buy 6 = .ok (.ifCond .ne 7, 3) ∧ decode cX12_buy 9 = .ok (.iconst 1, 1) ∧ decode cX12_buy 10 = .ok (.goto 50, 3) ∧ decode cX12_buy 13 = .ok (.iload_n 2, 1) ∧ decode cX12_buy 14 = .ok (.iconst 1, 1) := by decide +kernel
theorem dX12_send_69 : decode cX12_send 69 = .ok (.ireturn, 1) := zdc_731.1
theorem dX12_buy_0 : decode cX12_buy 0 = .ok (.aload_n 0, 1) := zdc_731.2.1
theorem dX12_buy_1 : decode cX12_buy 1 = .ok (.aload_n 0, 1) := zdc_731.2.2.1
theorem dX12_buy_2 : decode cX12_buy 2 = .ok (.iload_n 1, 1) := zdc_731.2.2.2.1
theorem dX12_buy_3 : decode cX12_buy 3 = .ok (.invokevirtual 280, 3) := zdc_731.2.2.2.2.1
theorem dX12_buy_6 : decode cX12_buy 6 = .ok (.ifCond .ne 7, 3) := zdc_731.2.2.2.2.2.1
theorem dX12_buy_9 : decode cX12_buy 9 = .ok (.iconst 1, 1) := zdc_731.2.2.2.2.2.2.1
theorem dX12_buy_10 : decode cX12_buy 10 = .ok (.goto 50, 3) := zdc_731.2.2.2.2.2.2.2.1
theorem dX12_buy_13 : decode cX12_buy 13 = .ok (.iload_n 2, 1) := zdc_731.2.2.2.2.2.2.2.2.1
theorem dX12_buy_14 : decode cX12_buy 14 = .ok (.iconst 1, 1) := zdc_731.2.2.2.2.2.2.2.2.2
theorem zdc_732 : decode cX12_buy 15 = .ok (.bipush 99, 2) ∧ decode cX12_buy 17 = .ok (.invokestatic 42, 3) ∧ decode cX12_buy 20 = .ok (.ifCond .ne 7, 3) ∧ decode cX12_buy 23 = .ok (.iconst 2, 1) ∧ decode cX12_buy 24 = .ok (.goto 36, 3) ∧ decode cX12_buy 27 = .ok (.aload_n 0, 1) ∧ decode cX12_buy 28 = .ok (.iload_n 1, 1) ∧ decode cX12_buy 29 = .ok (.iconst 2, 1) ∧ decode cX12_buy 30 = .ok (.invokevirtual 46, 3) ∧ decode cX12_buy 33 = .ok (.iload_n 2, 1) := by decide +kernel
theorem dX12_buy_15 : decode cX12_buy 15 = .ok (.bipush 99, 2) := zdc_732.1
theorem dX12_buy_17 : decode cX12_buy 17 = .ok (.invokestatic 42, 3) := zdc_732.2.1
theorem dX12_buy_20 : decode cX12_buy 20 = .ok (.ifCond .ne 7, 3) := zdc_732.2.2.1
theorem dX12_buy_23 : decode cX12_buy 23 = .ok (.iconst 2, 1) := zdc_732.2.2.2.1
theorem dX12_buy_24 : decode cX12_buy 24 = .ok (.goto 36, 3) := zdc_732.2.2.2.2.1
theorem dX12_buy_27 : decode cX12_buy 27 = .ok (.aload_n 0, 1) := zdc_732.2.2.2.2.2.1
theorem dX12_buy_28 : decode cX12_buy 28 = .ok (.iload_n 1, 1) := zdc_732.2.2.2.2.2.2.1
theorem dX12_buy_29 : decode cX12_buy 29 = .ok (.iconst 2, 1) := zdc_732.2.2.2.2.2.2.2.1
theorem dX12_buy_30 : decode cX12_buy 30 = .ok (.invokevirtual 46, 3) := zdc_732.2.2.2.2.2.2.2.2.1
theorem dX12_buy_33 : decode cX12_buy 33 = .ok (.iload_n 2, 1) := zdc_732.2.2.2.2.2.2.2.2.2
theorem zdc_733 : decode cX12_buy 34 = .ok (.iadd, 1) ∧ decode cX12_buy 35 = .ok (.bipush 99, 2) ∧ decode cX12_buy 37 = .ok (.if_icmp .gt 18, 3) ∧ decode cX12_buy 40 = .ok (.aload_n 0, 1) ∧ decode cX12_buy 41 = .ok (.iload_n 1, 1) ∧ decode cX12_buy 42 = .ok (.iconst 1, 1) ∧ decode cX12_buy 43 = .ok (.invokevirtual 46, 3) ∧ decode cX12_buy 46 = .ok (.iload_n 2, 1) ∧ decode cX12_buy 47 = .ok (.aload_n 0, 1) ∧ decode cX12_buy 48 = .ok (.invokevirtual 277, 3) := by decide +kernel
theorem dX12_buy_34 : decode cX12_buy 34 = .ok (.iadd, 1) := zdc_733.1
theorem dX12_buy_35 : decode cX12_buy 35 = .ok (.bipush 99, 2) := zdc_733.2.1
theorem dX12_buy_37 : decode cX12_buy 37 = .ok (.if_icmp .gt 18, 3) := zdc_733.2.2.1
theorem dX12_buy_40 : decode cX12_buy 40 = .ok (.aload_n 0, 1) := zdc_733.2.2.2.1
theorem dX12_buy_41 : decode cX12_buy 41 = .ok (.iload_n 1, 1) := zdc_733.2.2.2.2.1
theorem dX12_buy_42 : decode cX12_buy 42 = .ok (.iconst 1, 1) := zdc_733.2.2.2.2.2.1
theorem dX12_buy_43 : decode cX12_buy 43 = .ok (.invokevirtual 46, 3) := zdc_733.2.2.2.2.2.2.1
theorem dX12_buy_46 : decode cX12_buy 46 = .ok (.iload_n 2, 1) := zdc_733.2.2.2.2.2.2.2.1
theorem dX12_buy_47 : decode cX12_buy 47 = .ok (.aload_n 0, 1) := zdc_733.2.2.2.2.2.2.2.2.1
theorem dX12_buy_48 : decode cX12_buy 48 = .ok (.invokevirtual 277, 3) := zdc_733.2.2.2.2.2.2.2.2.2
theorem zdc_734 : decode cX12_buy 51 = .ok (.imul, 1) ∧ decode cX12_buy 52 = .ok (.if_icmp .ge 7, 3) ∧ decode cX12_buy 55 = .ok (.iconst 3, 1) ∧ decode cX12_buy 56 = .ok (.goto 4, 3) ∧ decode cX12_buy 59 = .ok (.iconst 0, 1) ∧ decode cX12_buy 60 = .ok (.putfield 39, 3) ∧ decode cX12_buy 63 = .ok (.aload_n 0, 1) ∧ decode cX12_buy 64 = .ok (.getfield 39, 3) ∧ decode cX12_buy 67 = .ok (.ifCond .le 5, 3) ∧ decode cX12_buy 70 = .ok (.iconst 0, 1) := by decide +kernel
theorem dX12_buy_51 : decode cX12_buy 51 = .ok (.imul, 1) := zdc_734.1
theorem dX12_buy_52 : decode cX12_buy 52 = .ok (.if_icmp .ge 7, 3) := zdc_734.2.1
theorem dX12_buy_55 : decode cX12_buy 55 = .ok (.iconst 3, 1) := zdc_734.2.2.1
theorem dX12_buy_56 : decode cX12_buy 56 = .ok (.goto 4, 3) := zdc_734.2.2.2.1
theorem dX12_buy_59 : decode cX12_buy 59 = .ok (.iconst 0, 1) := zdc_734.2.2.2.2.1
theorem dX12_buy_60 : decode cX12_buy 60 = .ok (.putfield 39, 3) := zdc_734.2.2.2.2.2.1
theorem dX12_buy_63 : decode cX12_buy 63 = .ok (.aload_n 0, 1) := zdc_734.2.2.2.2.2.2.1
theorem dX12_buy_64 : decode cX12_buy 64 = .ok (.getfield 39, 3) := zdc_734.2.2.2.2.2.2.2.1
theorem dX12_buy_67 : decode cX12_buy 67 = .ok (.ifCond .le 5, 3) := zdc_734.2.2.2.2.2.2.2.2.1
theorem dX12_buy_70 : decode cX12_buy 70 = .ok (.iconst 0, 1) := zdc_734.2.2.2.2.2.2.2.2.2
theorem zdc_735 : decode cX12_buy 71 = .ok (.ireturn, 1) ∧ decode cX12_buy 72 = .ok (.aload_n 0, 1) ∧ decode cX12_buy 73 = .ok (.invokevirtual 289, 3) ∧ decode cX12_buy 76 = .ok (.iload_n 2, 1) ∧ decode cX12_buy 77 = .ok (.aload_n 0, 1) ∧ decode cX12_buy 78 = .ok (.invokevirtual 277, 3) ∧ decode cX12_buy 81 = .ok (.imul, 1) ∧ decode cX12_buy 82 = .ok (.istore_n 3, 1) ∧ decode cX12_buy 83 = .ok (.aload_n 0, 1) ∧ decode cX12_buy 84 = .ok (.iload_n 1, 1) := by decide +kernel
theorem dX12_buy_71 : decode cX12_buy 71 = .ok (.ireturn, 1) := zdc_735.1
theorem dX12_buy_72 : decode cX12_buy 72 = .ok (.aload_n 0, 1) := zdc_735.2.1
theorem dX12_buy_73 : decode cX12_buy 73 = .ok (.invokevirtual 289, 3) := zdc_735.2.2.1
theorem dX12_buy_76 : decode cX12_buy 76 = .ok (.iload_n 2, 1) := zdc_735.2.2.2.1
theorem dX12_buy_77 : decode cX12_buy 77 = .ok (.aload_n 0, 1) := zdc_735.2.2.2.2.1
theorem dX12_buy_78 : decode cX12_buy 78 = .ok (.invokevirtual 277, 3) := zdc_735.2.2.2.2.2.1
theorem dX12_buy_81 : decode cX12_buy 81 = .ok (.imul, 1) := zdc_735.2.2.2.2.2.2.1
theorem dX12_buy_82 : decode cX12_buy 82 = .ok (.istore_n 3, 1) := zdc_735.2.2.2.2.2.2.2.1
theorem dX12_buy_83 : decode cX12_buy 83 = .ok (.aload_n 0, 1) := zdc_735.2.2.2.2.2.2.2.2.1
theorem dX12_buy_84 : decode cX12_buy 84 = .ok (.iload_n 1, 1) := zdc_735.2.2.2.2.2.2.2.2.2
theorem zdc_736 : decode cX12_buy 85 = .ok (.iconst 1, 1) ∧ decode cX12_buy 86 = .ok (.aload_n 0, 1) ∧ decode cX12_buy 87 = .ok (.iload_n 1, 1) ∧ decode cX12_buy 88 = .ok (.iconst 1, 1) ∧ decode cX12_buy 89 = .ok (.invokevirtual 46, 3) ∧ decode cX12_buy 92 = .ok (.iload_n 3, 1) ∧ decode cX12_buy 93 = .ok (.isub, 1) ∧ decode cX12_buy 94 = .ok (.invokevirtual 123, 3) ∧ decode cX12_buy 97 = .ok (.aload_n 0, 1) ∧ decode cX12_buy 98 = .ok (.iload_n 1, 1) := by decide +kernel
theorem dX12_buy_85 : decode cX12_buy 85 = .ok (.iconst 1, 1) := zdc_736.1
theorem dX12_buy_86 : decode cX12_buy 86 = .ok (.aload_n 0, 1) := zdc_736.2.1
theorem dX12_buy_87 : decode cX12_buy 87 = .ok (.iload_n 1, 1) := zdc_736.2.2.1
theorem dX12_buy_88 : decode cX12_buy 88 = .ok (.iconst 1, 1) := zdc_736.2.2.2.1
theorem dX12_buy_89 : decode cX12_buy 89 = .ok (.invokevirtual 46, 3) := zdc_736.2.2.2.2.1
theorem dX12_buy_92 : decode cX12_buy 92 = .ok (.iload_n 3, 1) := zdc_736.2.2.2.2.2.1
theorem dX12_buy_93 : decode cX12_buy 93 = .ok (.isub, 1) := zdc_736.2.2.2.2.2.2.1
theorem dX12_buy_94 : decode cX12_buy 94 = .ok (.invokevirtual 123, 3) := zdc_736.2.2.2.2.2.2.2.1
theorem dX12_buy_97 : decode cX12_buy 97 = .ok (.aload_n 0, 1) := zdc_736.2.2.2.2.2.2.2.2.1
theorem dX12_buy_98 : decode cX12_buy 98 = .ok (.iload_n 1, 1) := zdc_736.2.2.2.2.2.2.2.2.2
theorem zdc_737 : decode cX12_buy 99 = .ok (.iconst 2, 1) ∧ decode cX12_buy 100 = .ok (.aload_n 0, 1) ∧ decode cX12_buy 101 = .ok (.iload_n 1, 1) ∧ decode cX12_buy 102 = .ok (.iconst 2, 1) ∧ decode cX12_buy 103 = .ok (.invokevirtual 46, 3) ∧ decode cX12_buy 106 = .ok (.iload_n 2, 1) ∧ decode cX12_buy 107 = .ok (.iadd, 1) ∧ decode cX12_buy 108 = .ok (.invokevirtual 123, 3) ∧ decode cX12_buy 111 = .ok (.aload_n 0, 1) ∧ decode cX12_buy 112 = .ok (.getfield 7, 3) := by decide +kernel
theorem dX12_buy_99 : decode cX12_buy 99 = .ok (.iconst 2, 1) := zdc_737.1
theorem dX12_buy_100 : decode cX12_buy 100 = .ok (.aload_n 0, 1) := zdc_737.2.1
theorem dX12_buy_101 : decode cX12_buy 101 = .ok (.iload_n 1, 1) := zdc_737.2.2.1
theorem dX12_buy_102 : decode cX12_buy 102 = .ok (.iconst 2, 1) := zdc_737.2.2.2.1
theorem dX12_buy_103 : decode cX12_buy 103 = .ok (.invokevirtual 46, 3) := zdc_737.2.2.2.2.1
theorem dX12_buy_106 : decode cX12_buy 106 = .ok (.iload_n 2, 1) := zdc_737.2.2.2.2.2.1
theorem dX12_buy_107 : decode cX12_buy 107 = .ok (.iadd, 1) := zdc_737.2.2.2.2.2.2.1
theorem dX12_buy_108 : decode cX12_buy 108 = .ok (.invokevirtual 123, 3) := zdc_737.2.2.2.2.2.2.2.1
theorem dX12_buy_111 : decode cX12_buy 111 = .ok (.aload_n 0, 1) := zdc_737.2.2.2.2.2.2.2.2.1
theorem dX12_buy_112 : decode cX12_buy 112 = .ok (.getfield 7, 3) := zdc_737.2.2.2.2.2.2.2.2.2
theorem zdc_738 : decode cX12_buy 115 = .ok (.iconst 5, 1) ∧ decode cX12_buy 116 = .ok (.sipush 9999, 3) ∧ decode cX12_buy 119 = .ok (.aload_n 0, 1) ∧ decode cX12_buy 120 = .ok (.getfield 7, 3) ∧ decode cX12_buy 123 = .ok (.iconst 5, 1) ∧ decode cX12_buy 124 = .ok (.iaload, 1) ∧ decode cX12_buy 125 = .ok (.iload_n 3, 1) ∧ decode cX12_buy 126 = .ok (.iadd, 1) ∧ decode cX12_buy 127 = .ok (.invokestatic 248, 3) ∧ decode cX12_buy 130 = .ok (.iastore, 1) := by decide +kernel
theorem dX12_buy_115 : decode cX12_buy 115 = .ok (.iconst 5, 1) := zdc_738.1
theorem dX12_buy_116 : decode cX12_buy 116 = .ok (.sipush 9999, 3) := zdc_738.2.1
theorem dX12_buy_119 : decode cX12_buy 119 = .ok (.aload_n 0, 1) := zdc_738.2.2.1
theorem dX12_buy_120 : decode cX12_buy 120 = .ok (.getfield 7, 3) := zdc_738.2.2.2.1
theorem dX12_buy_123 : decode cX12_buy 123 = .ok (.iconst 5, 1) := zdc_738.2.2.2.2.1
theorem dX12_buy_124 : decode cX12_buy 124 = .ok (.iaload, 1) := zdc_738.2.2.2.2.2.1
theorem dX12_buy_125 : decode cX12_buy 125 = .ok (.iload_n 3, 1) := zdc_738.2.2.2.2.2.2.1
theorem dX12_buy_126 : decode cX12_buy 126 = .ok (.iadd, 1) := zdc_738.2.2.2.2.2.2.2.1
theorem dX12_buy_127 : decode cX12_buy 127 = .ok (.invokestatic 248, 3) := zdc_738.2.2.2.2.2.2.2.2.1
theorem dX12_buy_130 : decode cX12_buy 130 = .ok (.iastore, 1) := zdc_738.2.2.2.2.2.2.2.2.2
theorem zdc_739 : decode cX12_buy 131 = .ok (.aload_n 0, 1) ∧ decode cX12_buy 132 = .ok (.iload_n 1, 1) ∧ decode cX12_buy 133 = .ok (.iconst 1, 1) ∧ decode cX12_buy 134 = .ok (.invokevirtual 46, 3) ∧ decode cX12_buy 137 = .ok (.ireturn, 1) ∧ decode cX12_sell 0 = .ok (.aload_n 0, 1) ∧ decode cX12_sell 1 = .ok (.aload_n 0, 1) ∧ decode cX12_sell 2 = .ok (.iload_n 1, 1) ∧ decode cX12_sell 3 = .ok (.invokevirtual 280, 3) ∧ decode cX12_sell 6 = .ok (.ifCond .ne 7, 3) := by decide +kernel
theorem dX12_buy_131 : decode cX12_buy 131 = .ok (.aload_n 0, 1) := zdc_739.1
theorem dX12_buy_132 : decode cX12_buy 132 = .ok (.iload_n 1, 1) := zdc_739.2.1
theorem dX12_buy_133 : decode cX12_buy 133 = .ok (.iconst 1, 1) := zdc_739.2.2.1
theorem dX12_buy_134 : decode cX12_buy 134 = .ok (.invokevirtual 46, 3) := zdc_739.2.2.2.1
theorem dX12_buy_137 : decode cX12_buy 137 = .ok (.ireturn, 1) := zdc_739.2.2.2.2.1
theorem dX12_sell_0 : decode cX12_sell 0 = .ok (.aload_n 0, 1) := zdc_739.2.2.2.2.2.1
theorem dX12_sell_1 : decode cX12_sell 1 = .ok (.aload_n 0, 1) := zdc_739.2.2.2.2.2.2.1
theorem dX12_sell_2 : decode cX12_sell 2 = .ok (.iload_n 1, 1) := zdc_739.2.2.2.2.2.2.2.1
theorem dX12_sell_3 : decode cX12_sell 3 = .ok (.invokevirtual 280, 3) := zdc_739.2.2.2.2.2.2.2.2.1
theorem dX12_sell_6 : decode cX12_sell 6 = .ok (.ifCond .ne 7, 3) := zdc_739.2.2.2.2.2.2.2.2.2
theorem zdc_740 : decode cX12_sell 9 = .ok (.iconst 1, 1) ∧ decode cX12_sell 10 = .ok (.goto 47, 3) ∧ decode cX12_sell 13 = .ok (.iload_n 2, 1) ∧ decode cX12_sell 14 = .ok (.iconst 1, 1) ∧ decode cX12_sell 15 = .ok (.bipush 99, 2) ∧ decode cX12_sell 17 = .ok (.invokestatic 42, 3) ∧ decode cX12_sell 20 = .ok (.ifCond .ne 7, 3) ∧ decode cX12_sell 23 = .ok (.iconst 2, 1) ∧ decode cX12_sell 24 = .ok (.goto 33, 3) ∧ decode cX12_sell 27 = .ok (.aload_n 0, 1) := by decide +kernel
theorem dX12_sell_9 : decode cX12_sell 9 = .ok (.iconst 1, 1) := zdc_740.1
theorem dX12_sell_10 : decode cX12_sell 10 = .ok (.goto 47, 3) := zdc_740.2.1
theorem dX12_sell_13 : decode cX12_sell 13 = .ok (.iload_n 2, 1) := zdc_740.2.2.1
theorem dX12_sell_14 : decode cX12_sell 14 = .ok (.iconst 1, 1) := zdc_740.2.2.2.1
theorem dX12_sell_15 : decode cX12_sell 15 = .ok (.bipush 99, 2) := zdc_740.2.2.2.2.1
theorem dX12_sell_17 : decode cX12_sell 17 = .ok (.invokestatic 42, 3) := zdc_740.2.2.2.2.2.1
theorem dX12_sell_20 : decode cX12_sell 20 = .ok (.ifCond .ne 7, 3) := zdc_740.2.2.2.2.2.2.1
theorem dX12_sell_23 : decode cX12_sell 23 = .ok (.iconst 2, 1) := zdc_740.2.2.2.2.2.2.2.1
theorem dX12_sell_24 : decode cX12_sell 24 = .ok (.goto 33, 3) := zdc_740.2.2.2.2.2.2.2.2.1
theorem dX12_sell_27 : decode cX12_sell 27 = .ok (.aload_n 0, 1) := zdc_740.2.2.2.2.2.2.2.2.2
theorem zdc_741 : decode cX12_sell 28 = .ok (.iload_n 1, 1) ∧ decode cX12_sell 29 = .ok (.iconst 2, 1) ∧ decode cX12_sell 30 = .ok (.invokevirtual 46, 3) ∧ decode cX12_sell 33 = .ok (.iload_n 2, 1) ∧ decode cX12_sell 34 = .ok (.if_icmp .lt 18, 3) ∧ decode cX12_sell 37 = .ok (.aload_n 0, 1) ∧ decode cX12_sell 38 = .ok (.getfield 7, 3) ∧ decode cX12_sell 41 = .ok (.iconst 5, 1) ∧ decode cX12_sell 42 = .ok (.iaload, 1) ∧ decode cX12_sell 43 = .ok (.iload_n 2, 1) := by decide +kernel
theorem dX12_sell_28 : decode cX12_sell 28 = .ok (.iload_n 1, 1) := zdc_741.1
theorem dX12_sell_29 : decode cX12_sell 29 = .ok (.iconst 2, 1) := zdc_741.2.1
theorem dX12_sell_30 : decode cX12_sell 30 = .ok (.invokevirtual 46, 3) := zdc_741.2.2.1
theorem dX12_sell_33 : decode cX12_sell 33 = .ok (.iload_n 2, 1) := zdc_741.2.2.2.1
theorem dX12_sell_34 : decode cX12_sell 34 = .ok (.if_icmp .lt 18, 3) := zdc_741.2.2.2.2.1
theorem dX12_sell_37 : decode cX12_sell 37 = .ok (.aload_n 0, 1) := zdc_741.2.2.2.2.2.1
theorem dX12_sell_38 : decode cX12_sell 38 = .ok (.getfield 7, 3) := zdc_741.2.2.2.2.2.2.1
theorem dX12_sell_41 : decode cX12_sell 41 = .ok (.iconst 5, 1) := zdc_741.2.2.2.2.2.2.2.1
theorem dX12_sell_42 : decode cX12_sell 42 = .ok (.iaload, 1) := zdc_741.2.2.2.2.2.2.2.2.1
theorem dX12_sell_43 : decode cX12_sell 43 = .ok (.iload_n 2, 1) := zdc_741.2.2.2.2.2.2.2.2.2
theorem zdc_742 : decode cX12_sell 44 = .ok (.aload_n 0, 1) ∧ decode cX12_sell 45 = .ok (.invokevirtual 277, 3) ∧ decode cX12_sell 48 = .ok (.imul, 1) ∧ decode cX12_sell 49 = .ok (.if_icmp .ge 7, 3) ∧ decode cX12_sell 52 = .ok (.iconst 3, 1) ∧ decode cX12_sell 53 = .ok (.goto 4, 3) ∧ decode cX12_sell 56 = .ok (.iconst 0, 1) ∧ decode cX12_sell 57 = .ok (.putfield 39, 3) ∧ decode cX12_sell 60 = .ok (.aload_n 0, 1) ∧ decode cX12_sell 61 = .ok (.getfield 39, 3) := by decide +kernel
theorem dX12_sell_44 : decode cX12_sell 44 = .ok (.aload_n 0, 1) := zdc_742.1
theorem dX12_sell_45 : decode cX12_sell 45 = .ok (.invokevirtual 277, 3) := zdc_742.2.1
theorem dX12_sell_48 : decode cX12_sell 48 = .ok (.imul, 1) := zdc_742.2.2.1
theorem dX12_sell_49 : decode cX12_sell 49 = .ok (.if_icmp .ge 7, 3) := zdc_742.2.2.2.1
theorem dX12_sell_52 : decode cX12_sell 52 = .ok (.iconst 3, 1) := zdc_742.2.2.2.2.1
theorem dX12_sell_53 : decode cX12_sell 53 = .ok (.goto 4, 3) := zdc_742.2.2.2.2.2.1
theorem dX12_sell_56 : decode cX12_sell 56 = .ok (.iconst 0, 1) := zdc_742.2.2.2.2.2.2.1
theorem dX12_sell_57 : decode cX12_sell 57 = .ok (.putfield 39, 3) := zdc_742.2.2.2.2.2.2.2.1
theorem dX12_sell_60 : decode cX12_sell 60 = .ok (.aload_n 0, 1) := zdc_742.2.2.2.2.2.2.2.2.1
theorem dX12_sell_61 : decode cX12_sell 61 = .ok (.getfield 39, 3) := zdc_742.2.2.2.2.2.2.2.2.2
theorem zdc_743 : decode cX12_sell 64 = .ok (.ifCond .le 5, 3) ∧ decode cX12_sell 67 = .ok (.iconst 0, 1) ∧ decode cX12_sell 68 = .ok (.ireturn, 1) ∧ decode cX12_sell 69 = .ok (.aload_n 0, 1) ∧ decode cX12_sell 70 = .ok (.invokevirtual 289, 3) ∧ decode cX12_sell 73 = .ok (.iload_n 2, 1) ∧ decode cX12_sell 74 = .ok (.aload_n 0, 1) ∧ decode cX12_sell 75 = .ok (.invokevirtual 277, 3) ∧ decode cX12_sell 78 = .ok (.imul, 1) ∧ decode cX12_sell 79 = .ok (.istore_n 3, 1) := by decide +kernel
theorem dX12_sell_64 : decode cX12_sell 64 = .ok (.ifCond .le 5, 3) := zdc_743.1
theorem dX12_sell_67 : decode cX12_sell 67 = .ok (.iconst 0, 1) := zdc_743.2.1
theorem dX12_sell_68 : decode cX12_sell 68 = .ok (.ireturn, 1) := zdc_743.2.2.1
theorem dX12_sell_69 : decode cX12_sell 69 = .ok (.aload_n 0, 1) := zdc_743.2.2.2.1
theorem dX12_sell_70 : decode cX12_sell 70 = .ok (.invokevirtual 289, 3) := zdc_743.2.2.2.2.1
theorem dX12_sell_73 : decode cX12_sell 73 = .ok (.iload_n 2, 1) := zdc_743.2.2.2.2.2.1
theorem dX12_sell_74 : decode cX12_sell 74 = .ok (.aload_n 0, 1) := zdc_743.2.2.2.2.2.2.1
theorem dX12_sell_75 : decode cX12_sell 75 = .ok (.invokevirtual 277, 3) := zdc_743.2.2.2.2.2.2.2.1
theorem dX12_sell_78 : decode cX12_sell 78 = .ok (.imul, 1) := zdc_743.2.2.2.2.2.2.2.2.1
theorem dX12_sell_79 : decode cX12_sell 79 = .ok (.istore_n 3, 1) := zdc_743.2.2.2.2.2.2.2.2.2
theorem zdc_744 : decode cX12_sell 80 = .ok (.aload_n 0, 1) ∧ decode cX12_sell 81 = .ok (.iload_n 1, 1) ∧ decode cX12_sell 82 = .ok (.iconst 1, 1) ∧ decode cX12_sell 83 = .ok (.sipush 9999, 3) ∧ decode cX12_sell 86 = .ok (.aload_n 0, 1) ∧ decode cX12_sell 87 = .ok (.iload_n 1, 1) ∧ decode cX12_sell 88 = .ok (.iconst 1, 1) ∧ decode cX12_sell 89 = .ok (.invokevirtual 46, 3) ∧ decode cX12_sell 92 = .ok (.iload_n 3, 1) ∧ decode cX12_sell 93 = .ok (.iadd, 1) := by decide +kernel
theorem dX12_sell_80 : decode cX12_sell 80 = .ok (.aload_n 0, 1) := zdc_744.1
theorem dX12_sell_81 : decode cX12_sell 81 = .ok (.iload_n 1, 1) := zdc_744.2.1
theorem dX12_sell_82 : decode cX12_sell 82 = .ok (.iconst 1, 1) := zdc_744.2.2.1
theorem dX12_sell_83 : decode cX12_sell 83 = .ok (.sipush 9999, 3) := zdc_744.2.2.2.1
theorem dX12_sell_86 : decode cX12_sell 86 = .ok (.aload_n 0, 1) := zdc_744.2.2.2.2.1
theorem dX12_sell_87 : decode cX12_sell 87 = .ok (.iload_n 1, 1) := zdc_744.2.2.2.2.2.1
theorem dX12_sell_88 : decode cX12_sell 88 = .ok (.iconst 1, 1) := zdc_744.2.2.2.2.2.2.1
theorem dX12_sell_89 : decode cX12_sell 89 = .ok (.invokevirtual 46, 3) := zdc_744.2.2.2.2.2.2.2.1
theorem dX12_sell_92 : decode cX12_sell 92 = .ok (.iload_n 3, 1) := zdc_744.2.2.2.2.2.2.2.2.1
theorem dX12_sell_93 : decode cX12_sell 93 = .ok (.iadd, 1) := zdc_744.2.2.2.2.2.2.2.2.2
theorem zdc_745 : decode cX12_sell 94 = .ok (.invokestatic 248, 3) ∧ decode cX12_sell 97 = .ok (.invokevirtual 123, 3) ∧ decode cX12_sell 100 = .ok (.aload_n 0, 1) ∧ decode cX12_sell 101 = .ok (.iload_n 1, 1) ∧ decode cX12_sell 102 = .ok (.iconst 2, 1) ∧ decode cX12_sell 103 = .ok (.aload_n 0, 1) ∧ decode cX12_sell 104 = .ok (.iload_n 1, 1) ∧ decode cX12_sell 105 = .ok (.iconst 2, 1) ∧ decode cX12_sell 106 = .ok (.invokevirtual 46, 3) ∧ decode cX12_sell 109 = .ok (.iload_n 2, 1) := by decide +kernel
theorem dX12_sell_94 : decode cX12_sell 94 = .ok (.invokestatic 248, 3) := zdc_745.1
theorem dX12_sell_97 : decode cX12_sell 97 = .ok (.invokevirtual 123, 3) := zdc_745.2.1
theorem dX12_sell_100 : decode cX12_sell 100 = .ok (.aload_n 0, 1) := zdc_745.2.2.1
theorem dX12_sell_101 : decode cX12_sell 101 = .ok (.iload_n 1, 1) := zdc_745.2.2.2.1
theorem dX12_sell_102 : decode cX12_sell 102 = .ok (.iconst 2, 1) := zdc_745.2.2.2.2.1
theorem dX12_sell_103 : decode cX12_sell 103 = .ok (.aload_n 0, 1) := zdc_745.2.2.2.2.2.1
theorem dX12_sell_104 : decode cX12_sell 104 = .ok (.iload_n 1, 1) := zdc_745.2.2.2.2.2.2.1
theorem dX12_sell_105 : decode cX12_sell 105 = .ok (.iconst 2, 1) := zdc_745.2.2.2.2.2.2.2.1
theorem dX12_sell_106 : decode cX12_sell 106 = .ok (.invokevirtual 46, 3) := zdc_745.2.2.2.2.2.2.2.2.1
theorem dX12_sell_109 : decode cX12_sell 109 = .ok (.iload_n 2, 1) := zdc_745.2.2.2.2.2.2.2.2.2
theorem zdc_746 : decode cX12_sell 110 = .ok (.isub, 1) ∧ decode cX12_sell 111 = .ok (.invokevirtual 123, 3) ∧ decode cX12_sell 114 = .ok (.aload_n 0, 1) ∧ decode cX12_sell 115 = .ok (.getfield 7, 3) ∧ decode cX12_sell 118 = .ok (.iconst 5, 1) ∧ decode cX12_sell 119 = .ok (.dup2, 1) ∧ decode cX12_sell 120 = .ok (.iaload, 1) ∧ decode cX12_sell 121 = .ok (.iload_n 3, 1) ∧ decode cX12_sell 122 = .ok (.isub, 1) ∧ decode cX12_sell 123 = .ok (.iastore, 1) := by decide +kernel
theorem dX12_sell_110 : decode cX12_sell 110 = .ok (.isub, 1) := zdc_746.1
theorem dX12_sell_111 : decode cX12_sell 111 = .ok (.invokevirtual 123, 3) := zdc_746.2.1
theorem dX12_sell_114 : decode cX12_sell 114 = .ok (.aload_n 0, 1) := zdc_746.2.2.1
theorem dX12_sell_115 : decode cX12_sell 115 = .ok (.getfield 7, 3) := zdc_746.2.2.2.1
theorem dX12_sell_118 : decode cX12_sell 118 = .ok (.iconst 5, 1) := zdc_746.2.2.2.2.1
theorem dX12_sell_119 : decode cX12_sell 119 = .ok (.dup2, 1) := zdc_746.2.2.2.2.2.1
theorem dX12_sell_120 : decode cX12_sell 120 = .ok (.iaload, 1) := zdc_746.2.2.2.2.2.2.1
theorem dX12_sell_121 : decode cX12_sell 121 = .ok (.iload_n 3, 1) := zdc_746.2.2.2.2.2.2.2.1
theorem dX12_sell_122 : decode cX12_sell 122 = .ok (.isub, 1) := zdc_746.2.2.2.2.2.2.2.2.1
theorem dX12_sell_123 : decode cX12_sell 123 = .ok (.iastore, 1) := zdc_746.2.2.2.2.2.2.2.2.2
theorem zdc_747 : decode cX12_sell 124 = .ok (.aload_n 0, 1) ∧ decode cX12_sell 125 = .ok (.iload_n 1, 1) ∧ decode cX12_sell 126 = .ok (.iconst 1, 1) ∧ decode cX12_sell 127 = .ok (.invokevirtual 46, 3) ∧ decode cX12_sell 130 = .ok (.ireturn, 1) ∧ decode cX12_dry 0 = .ok (.aload_n 0, 1) ∧ decode cX12_dry 1 = .ok (.aload_n 0, 1) ∧ decode cX12_dry 2 = .ok (.iload_n 1, 1) ∧ decode cX12_dry 3 = .ok (.invokevirtual 280, 3) ∧ decode cX12_dry 6 = .ok (.ifCond .ne 7, 3) := by decide +kernel
theorem dX12_sell_124 : decode cX12_sell 124 = .ok (.aload_n 0, 1) := zdc_747.1
theorem dX12_sell_125 : decode cX12_sell 125 = .ok (.iload_n 1, 1) := zdc_747.2.1
theorem dX12_sell_126 : decode cX12_sell 126 = .ok (.iconst 1, 1) := zdc_747.2.2.1
theorem dX12_sell_127 : decode cX12_sell 127 = .ok (.invokevirtual 46, 3) := zdc_747.2.2.2.1
theorem dX12_sell_130 : decode cX12_sell 130 = .ok (.ireturn, 1) := zdc_747.2.2.2.2.1
theorem dX12_dry_0 : decode cX12_dry 0 = .ok (.aload_n 0, 1) := zdc_747.2.2.2.2.2.1
theorem dX12_dry_1 : decode cX12_dry 1 = .ok (.aload_n 0, 1) := zdc_747.2.2.2.2.2.2.1
theorem dX12_dry_2 : decode cX12_dry 2 = .ok (.iload_n 1, 1) := zdc_747.2.2.2.2.2.2.2.1
theorem dX12_dry_3 : decode cX12_dry 3 = .ok (.invokevirtual 280, 3) := zdc_747.2.2.2.2.2.2.2.2.1
theorem dX12_dry_6 : decode cX12_dry 6 = .ok (.ifCond .ne 7, 3) := zdc_747.2.2.2.2.2.2.2.2.2
theorem zdc_748 : decode cX12_dry 9 = .ok (.iconst 1, 1) ∧ decode cX12_dry 10 = .ok (.goto 4, 3) ∧ decode cX12_dry 13 = .ok (.iconst 0, 1) ∧ decode cX12_dry 14 = .ok (.putfield 39, 3) ∧ decode cX12_dry 17 = .ok (.aload_n 0, 1) ∧ decode cX12_dry 18 = .ok (.getfield 39, 3) ∧ decode cX12_dry 21 = .ok (.ifCond .le 5, 3) ∧ decode cX12_dry 24 = .ok (.iconst 0, 1) ∧ decode cX12_dry 25 = .ok (.ireturn, 1) ∧ decode cX12_dry 26 = .ok (.aload_n 0, 1) := by decide +kernel
theorem dX12_dry_9 : decode cX12_dry 9 = .ok (.iconst 1, 1) := zdc_748.1
theorem dX12_dry_10 : decode cX12_dry 10 = .ok (.goto 4, 3) := zdc_748.2.1
theorem dX12_dry_13 : decode cX12_dry 13 = .ok (.iconst 0, 1) := zdc_748.2.2.1
theorem dX12_dry_14 : decode cX12_dry 14 = .ok (.putfield 39, 3) := zdc_748.2.2.2.1
theorem dX12_dry_17 : decode cX12_dry 17 = .ok (.aload_n 0, 1) := zdc_748.2.2.2.2.1
theorem dX12_dry_18 : decode cX12_dry 18 = .ok (.getfield 39, 3) := zdc_748.2.2.2.2.2.1
theorem dX12_dry_21 : decode cX12_dry 21 = .ok (.ifCond .le 5, 3) := zdc_748.2.2.2.2.2.2.1
theorem dX12_dry_24 : decode cX12_dry 24 = .ok (.iconst 0, 1) := zdc_748.2.2.2.2.2.2.2.1
theorem dX12_dry_25 : decode cX12_dry 25 = .ok (.ireturn, 1) := zdc_748.2.2.2.2.2.2.2.2.1
theorem dX12_dry_26 : decode cX12_dry 26 = .ok (.aload_n 0, 1) := zdc_748.2.2.2.2.2.2.2.2.2
theorem zdc_749 : decode cX12_dry 27 = .ok (.invokevirtual 289, 3) ∧ decode cX12_dry 30 = .ok (.aload_n 0, 1) ∧ decode cX12_dry 31 = .ok (.iload_n 1, 1) ∧ decode cX12_dry 32 = .ok (.iconst 3, 1) ∧ decode cX12_dry 33 = .ok (.invokevirtual 46, 3) ∧ decode cX12_dry 36 = .ok (.iconst 1, 1) ∧ decode cX12_dry 37 = .ok (.if_icmp .ne 7, 3) ∧ decode cX12_dry 40 = .ok (.iconst 1, 1) ∧ decode cX12_dry 41 = .ok (.goto 4, 3) ∧ decode cX12_dry 44 = .ok (.iconst 0, 1) := by decide +kernel
theorem dX12_dry_27 : decode cX12_dry 27 = .ok (.invokevirtual 289, 3) := zdc_749.1
theorem dX12_dry_30 : decode cX12_dry 30 = .ok (.aload_n 0, 1) := zdc_749.2.1
theorem dX12_dry_31 : decode cX12_dry 31 = .ok (.iload_n 1, 1) := zdc_749.2.2.1
theorem dX12_dry_32 : decode cX12_dry 32 = .ok (.iconst 3, 1) := zdc_749.2.2.2.1
theorem dX12_dry_33 : decode cX12_dry 33 = .ok (.invokevirtual 46, 3) := zdc_749.2.2.2.2.1
theorem dX12_dry_36 : decode cX12_dry 36 = .ok (.iconst 1, 1) := zdc_749.2.2.2.2.2.1
theorem dX12_dry_37 : decode cX12_dry 37 = .ok (.if_icmp .ne 7, 3) := zdc_749.2.2.2.2.2.2.1
theorem dX12_dry_40 : decode cX12_dry 40 = .ok (.iconst 1, 1) := zdc_749.2.2.2.2.2.2.2.1
theorem dX12_dry_41 : decode cX12_dry 41 = .ok (.goto 4, 3) := zdc_749.2.2.2.2.2.2.2.2.1
theorem dX12_dry_44 : decode cX12_dry 44 = .ok (.iconst 0, 1) := zdc_749.2.2.2.2.2.2.2.2.2
theorem zdc_750 : decode cX12_dry 45 = .ok (.istore_n 3, 1) ∧ decode cX12_dry 46 = .ok (.aload_n 0, 1) ∧ decode cX12_dry 47 = .ok (.iload_n 1, 1) ∧ decode cX12_dry 48 = .ok (.iconst 3, 1) ∧ decode cX12_dry 49 = .ok (.iload_n 2, 1) ∧ decode cX12_dry 50 = .ok (.ifCond .eq 7, 3) ∧ decode cX12_dry 53 = .ok (.iconst 1, 1) ∧ decode cX12_dry 54 = .ok (.goto 4, 3) ∧ decode cX12_dry 57 = .ok (.iconst 0, 1) ∧ decode cX12_dry 58 = .ok (.invokevirtual 123, 3) := by decide +kernel
theorem dX12_dry_45 : decode cX12_dry 45 = .ok (.istore_n 3, 1) := zdc_750.1
theorem dX12_dry_46 : decode cX12_dry 46 = .ok (.aload_n 0, 1) := zdc_750.2.1
theorem dX12_dry_47 : decode cX12_dry 47 = .ok (.iload_n 1, 1) := zdc_750.2.2.1
theorem dX12_dry_48 : decode cX12_dry 48 = .ok (.iconst 3, 1) := zdc_750.2.2.2.1
theorem dX12_dry_49 : decode cX12_dry 49 = .ok (.iload_n 2, 1) := zdc_750.2.2.2.2.1
theorem dX12_dry_50 : decode cX12_dry 50 = .ok (.ifCond .eq 7, 3) := zdc_750.2.2.2.2.2.1
theorem dX12_dry_53 : decode cX12_dry 53 = .ok (.iconst 1, 1) := zdc_750.2.2.2.2.2.2.1
theorem dX12_dry_54 : decode cX12_dry 54 = .ok (.goto 4, 3) := zdc_750.2.2.2.2.2.2.2.1
theorem dX12_dry_57 : decode cX12_dry 57 = .ok (.iconst 0, 1) := zdc_750.2.2.2.2.2.2.2.2.1
theorem dX12_dry_58 : decode cX12_dry 58 = .ok (.invokevirtual 123, 3) := zdc_750.2.2.2.2.2.2.2.2.2
theorem zdc_751 : decode cX12_dry 61 = .ok (.iload_n 3, 1) ∧ decode cX12_dry 62 = .ok (.iload_n 2, 1) ∧ decode cX12_dry 63 = .ok (.if_icmp .eq 7, 3) ∧ decode cX12_dry 66 = .ok (.iconst 1, 1) ∧ decode cX12_dry 67 = .ok (.goto 4, 3) ∧ decode cX12_dry 70 = .ok (.iconst 0, 1) ∧ decode cX12_dry 71 = .ok (.ireturn, 1) ∧ decode cX12_days 0 = .ok (.aload_n 0, 1) ∧ decode cX12_days 1 = .ok (.iload_n 1, 1) ∧ decode cX12_days 2 = .ok (.iconst 1, 1) := by decide +kernel
theorem dX12_dry_61 : decode cX12_dry 61 = .ok (.iload_n 3, 1) := zdc_751.1
theorem dX12_dry_62 : decode cX12_dry 62 = .ok (.iload_n 2, 1) := zdc_751.2.1
theorem dX12_dry_63 : decode cX12_dry 63 = .ok (.if_icmp .eq 7, 3) := zdc_751.2.2.1
theorem dX12_dry_66 : decode cX12_dry 66 = .ok (.iconst 1, 1) := zdc_751.2.2.2.1
theorem dX12_dry_67 : decode cX12_dry 67 = .ok (.goto 4, 3) := zdc_751.2.2.2.2.1
theorem dX12_dry_70 : decode cX12_dry 70 = .ok (.iconst 0, 1) := zdc_751.2.2.2.2.2.1
theorem dX12_dry_71 : decode cX12_dry 71 = .ok (.ireturn, 1) := zdc_751.2.2.2.2.2.2.1
theorem dX12_days_0 : decode cX12_days 0 = .ok (.aload_n 0, 1) := zdc_751.2.2.2.2.2.2.2.1
theorem dX12_days_1 : decode cX12_days 1 = .ok (.iload_n 1, 1) := zdc_751.2.2.2.2.2.2.2.2.1
theorem dX12_days_2 : decode cX12_days 2 = .ok (.iconst 1, 1) := zdc_751.2.2.2.2.2.2.2.2.2
theorem zdc_752 : decode cX12_days 3 = .ok (.bipush 60, 2) ∧ decode cX12_days 5 = .ok (.invokestatic 42, 3) ∧ decode cX12_days 8 = .ok (.ifCond .ne 7, 3) ∧ decode cX12_days 11 = .ok (.iconst 1, 1) ∧ decode cX12_days 12 = .ok (.goto 4, 3) ∧ decode cX12_days 15 = .ok (.iconst 0, 1) ∧ decode cX12_days 16 = .ok (.putfield 39, 3) ∧ decode cX12_days 19 = .ok (.aload_n 0, 1) ∧ decode cX12_days 20 = .ok (.getfield 39, 3) ∧ decode cX12_days 23 = .ok (.ifCond .le 5, 3) := by decide +kernel
theorem dX12_days_3 : decode cX12_days 3 = .ok (.bipush 60, 2) := zdc_752.1
theorem dX12_days_5 : decode cX12_days 5 = .ok (.invokestatic 42, 3) := zdc_752.2.1
theorem dX12_days_8 : decode cX12_days 8 = .ok (.ifCond .ne 7, 3) := zdc_752.2.2.1
theorem dX12_days_11 : decode cX12_days 11 = .ok (.iconst 1, 1) := zdc_752.2.2.2.1
theorem dX12_days_12 : decode cX12_days 12 = .ok (.goto 4, 3) := zdc_752.2.2.2.2.1
theorem dX12_days_15 : decode cX12_days 15 = .ok (.iconst 0, 1) := zdc_752.2.2.2.2.2.1
theorem dX12_days_16 : decode cX12_days 16 = .ok (.putfield 39, 3) := zdc_752.2.2.2.2.2.2.1
theorem dX12_days_19 : decode cX12_days 19 = .ok (.aload_n 0, 1) := zdc_752.2.2.2.2.2.2.2.1
theorem dX12_days_20 : decode cX12_days 20 = .ok (.getfield 39, 3) := zdc_752.2.2.2.2.2.2.2.2.1
theorem dX12_days_23 : decode cX12_days 23 = .ok (.ifCond .le 5, 3) := zdc_752.2.2.2.2.2.2.2.2.2
theorem zdc_753 : decode cX12_days 26 = .ok (.iconst 0, 1) ∧ decode cX12_days 27 = .ok (.ireturn, 1) ∧ decode cX12_days 28 = .ok (.aload_n 0, 1) ∧ decode cX12_days 29 = .ok (.invokevirtual 289, 3) ∧ decode cX12_days 32 = .ok (.aload_n 0, 1) ∧ decode cX12_days 33 = .ok (.iload_n 1, 1) ∧ decode cX12_days 34 = .ok (.iconst 1, 1) ∧ decode cX12_days 35 = .ok (.invokevirtual 292, 3) ∧ decode cX12_days 38 = .ok (.ireturn, 1) ∧ decode cX12_ahead 0 = .ok (.aload_n 0, 1) := by decide +kernel
theorem dX12_days_26 : decode cX12_days 26 = .ok (.iconst 0, 1) := zdc_753.1
theorem dX12_days_27 : decode cX12_days 27 = .ok (.ireturn, 1) := zdc_753.2.1
theorem dX12_days_28 : decode cX12_days 28 = .ok (.aload_n 0, 1) := zdc_753.2.2.1
theorem dX12_days_29 : decode cX12_days 29 = .ok (.invokevirtual 289, 3) := zdc_753.2.2.2.1
theorem dX12_days_32 : decode cX12_days 32 = .ok (.aload_n 0, 1) := zdc_753.2.2.2.2.1
theorem dX12_days_33 : decode cX12_days 33 = .ok (.iload_n 1, 1) := zdc_753.2.2.2.2.2.1
theorem dX12_days_34 : decode cX12_days 34 = .ok (.iconst 1, 1) := zdc_753.2.2.2.2.2.2.1
theorem dX12_days_35 : decode cX12_days 35 = .ok (.invokevirtual 292, 3) := zdc_753.2.2.2.2.2.2.2.1
theorem dX12_days_38 : decode cX12_days 38 = .ok (.ireturn, 1) := zdc_753.2.2.2.2.2.2.2.2.1
theorem dX12_ahead_0 : decode cX12_ahead 0 = .ok (.aload_n 0, 1) := zdc_753.2.2.2.2.2.2.2.2.2
theorem zdc_754 : decode cX12_ahead 1 = .ok (.aload_n 0, 1) ∧ decode cX12_ahead 2 = .ok (.iload_n 1, 1) ∧ decode cX12_ahead 3 = .ok (.invokevirtual 280, 3) ∧ decode cX12_ahead 6 = .ok (.ifCond .ne 7, 3) ∧ decode cX12_ahead 9 = .ok (.iconst 1, 1) ∧ decode cX12_ahead 10 = .ok (.goto 18, 3) ∧ decode cX12_ahead 13 = .ok (.iload_n 2, 1) ∧ decode cX12_ahead 14 = .ok (.iconst 0, 1) ∧ decode cX12_ahead 15 = .ok (.bipush 100, 2) ∧ decode cX12_ahead 17 = .ok (.invokestatic 42, 3) := by decide +kernel
theorem dX12_ahead_1 : decode cX12_ahead 1 = .ok (.aload_n 0, 1) := zdc_754.1
theorem dX12_ahead_2 : decode cX12_ahead 2 = .ok (.iload_n 1, 1) := zdc_754.2.1
theorem dX12_ahead_3 : decode cX12_ahead 3 = .ok (.invokevirtual 280, 3) := zdc_754.2.2.1
theorem dX12_ahead_6 : decode cX12_ahead 6 = .ok (.ifCond .ne 7, 3) := zdc_754.2.2.2.1
theorem dX12_ahead_9 : decode cX12_ahead 9 = .ok (.iconst 1, 1) := zdc_754.2.2.2.2.1
theorem dX12_ahead_10 : decode cX12_ahead 10 = .ok (.goto 18, 3) := zdc_754.2.2.2.2.2.1
theorem dX12_ahead_13 : decode cX12_ahead 13 = .ok (.iload_n 2, 1) := zdc_754.2.2.2.2.2.2.1
theorem dX12_ahead_14 : decode cX12_ahead 14 = .ok (.iconst 0, 1) := zdc_754.2.2.2.2.2.2.2.1
theorem dX12_ahead_15 : decode cX12_ahead 15 = .ok (.bipush 100, 2) := zdc_754.2.2.2.2.2.2.2.2.1
theorem dX12_ahead_17 : decode cX12_ahead 17 = .ok (.invokestatic 42, 3) := zdc_754.2.2.2.2.2.2.2.2.2
theorem zdc_755 : decode cX12_ahead 20 = .ok (.ifCond .ne 7, 3) ∧ decode cX12_ahead 23 = .ok (.iconst 2, 1) ∧ decode cX12_ahead 24 = .ok (.goto 4, 3) ∧ decode cX12_ahead 27 = .ok (.iconst 0, 1) ∧ decode cX12_ahead 28 = .ok (.putfield 39, 3) ∧ decode cX12_ahead 31 = .ok (.aload_n 0, 1) ∧ decode cX12_ahead 32 = .ok (.getfield 39, 3) ∧ decode cX12_ahead 35 = .ok (.ifCond .le 5, 3) ∧ decode cX12_ahead 38 = .ok (.iconst 0, 1) ∧ decode cX12_ahead 39 = .ok (.ireturn, 1) := by decide +kernel
theorem dX12_ahead_20 : decode cX12_ahead 20 = .ok (.ifCond .ne 7, 3) := zdc_755.1
theorem dX12_ahead_23 : decode cX12_ahead 23 = .ok (.iconst 2, 1) := zdc_755.2.1
theorem dX12_ahead_24 : decode cX12_ahead 24 = .ok (.goto 4, 3) := zdc_755.2.2.1
theorem dX12_ahead_27 : decode cX12_ahead 27 = .ok (.iconst 0, 1) := zdc_755.2.2.2.1
theorem dX12_ahead_28 : decode cX12_ahead 28 = .ok (.putfield 39, 3) := zdc_755.2.2.2.2.1
theorem dX12_ahead_31 : decode cX12_ahead 31 = .ok (.aload_n 0, 1) := zdc_755.2.2.2.2.2.1
theorem dX12_ahead_32 : decode cX12_ahead 32 = .ok (.getfield 39, 3) := zdc_755.2.2.2.2.2.2.1
theorem dX12_ahead_35 : decode cX12_ahead 35 = .ok (.ifCond .le 5, 3) := zdc_755.2.2.2.2.2.2.2.1
theorem dX12_ahead_38 : decode cX12_ahead 38 = .ok (.iconst 0, 1) := zdc_755.2.2.2.2.2.2.2.2.1
theorem dX12_ahead_39 : decode cX12_ahead 39 = .ok (.ireturn, 1) := zdc_755.2.2.2.2.2.2.2.2.2
theorem zdc_756 : decode cX12_ahead 40 = .ok (.aload_n 0, 1) ∧ decode cX12_ahead 41 = .ok (.invokevirtual 174, 3) ∧ decode cX12_ahead 44 = .ok (.aload_n 0, 1) ∧ decode cX12_ahead 45 = .ok (.iload_n 2, 1) ∧ decode cX12_ahead 46 = .ok (.iconst 0, 1) ∧ decode cX12_ahead 47 = .ok (.invokevirtual 292, 3) ∧ decode cX12_ahead 50 = .ok (.istore_n 3, 1) ∧ decode cX12_ahead 51 = .ok (.aload_n 0, 1) ∧ decode cX12_ahead 52 = .ok (.iload_n 1, 1) ∧ decode cX12_ahead 53 = .ok (.iconst 0, 1) := by decide +kernel
theorem dX12_ahead_40 : decode cX12_ahead 40 = .ok (.aload_n 0, 1) := zdc_756.1
theorem dX12_ahead_41 : decode cX12_ahead 41 = .ok (.invokevirtual 174, 3) := zdc_756.2.1
theorem dX12_ahead_44 : decode cX12_ahead 44 = .ok (.aload_n 0, 1) := zdc_756.2.2.1
theorem dX12_ahead_45 : decode cX12_ahead 45 = .ok (.iload_n 2, 1) := zdc_756.2.2.2.1
theorem dX12_ahead_46 : decode cX12_ahead 46 = .ok (.iconst 0, 1) := zdc_756.2.2.2.2.1
theorem dX12_ahead_47 : decode cX12_ahead 47 = .ok (.invokevirtual 292, 3) := zdc_756.2.2.2.2.2.1
theorem dX12_ahead_50 : decode cX12_ahead 50 = .ok (.istore_n 3, 1) := zdc_756.2.2.2.2.2.2.1
theorem dX12_ahead_51 : decode cX12_ahead 51 = .ok (.aload_n 0, 1) := zdc_756.2.2.2.2.2.2.2.1
theorem dX12_ahead_52 : decode cX12_ahead 52 = .ok (.iload_n 1, 1) := zdc_756.2.2.2.2.2.2.2.2.1
theorem dX12_ahead_53 : decode cX12_ahead 53 = .ok (.iconst 0, 1) := zdc_756.2.2.2.2.2.2.2.2.2
theorem zdc_757 : decode cX12_ahead 54 = .ok (.invokevirtual 46, 3) ∧ decode cX12_ahead 57 = .ok (.istore 4, 2) ∧ decode cX12_ahead 59 = .ok (.aload_n 0, 1) ∧ decode cX12_ahead 60 = .ok (.invokevirtual 184, 3) ∧ decode cX12_ahead 63 = .ok (.iload 4, 2) ∧ decode cX12_ahead 65 = .ok (.ireturn, 1) ∧ decode cX12_believedBy 0 = .ok (.aload_n 0, 1) ∧ decode cX12_believedBy 1 = .ok (.invokevirtual 174, 3) ∧ decode cX12_believedBy 4 = .ok (.iconst 0, 1) ∧ decode cX12_believedBy 5 = .ok (.istore 4, 2) := by decide +kernel
theorem dX12_ahead_54 : decode cX12_ahead 54 = .ok (.invokevirtual 46, 3) := zdc_757.1
theorem dX12_ahead_57 : decode cX12_ahead 57 = .ok (.istore 4, 2) := zdc_757.2.1
theorem dX12_ahead_59 : decode cX12_ahead 59 = .ok (.aload_n 0, 1) := zdc_757.2.2.1
theorem dX12_ahead_60 : decode cX12_ahead 60 = .ok (.invokevirtual 184, 3) := zdc_757.2.2.2.1
theorem dX12_ahead_63 : decode cX12_ahead 63 = .ok (.iload 4, 2) := zdc_757.2.2.2.2.1
theorem dX12_ahead_65 : decode cX12_ahead 65 = .ok (.ireturn, 1) := zdc_757.2.2.2.2.2.1
theorem dX12_believedBy_0 : decode cX12_believedBy 0 = .ok (.aload_n 0, 1) := zdc_757.2.2.2.2.2.2.1
theorem dX12_believedBy_1 : decode cX12_believedBy 1 = .ok (.invokevirtual 174, 3) := zdc_757.2.2.2.2.2.2.2.1
theorem dX12_believedBy_4 : decode cX12_believedBy 4 = .ok (.iconst 0, 1) := zdc_757.2.2.2.2.2.2.2.2.1
theorem dX12_believedBy_5 : decode cX12_believedBy 5 = .ok (.istore 4, 2) := zdc_757.2.2.2.2.2.2.2.2.2
theorem zdc_758 : decode cX12_believedBy 7 = .ok (.iload 4, 2) ∧ decode cX12_believedBy 9 = .ok (.aload_n 0, 1) ∧ decode cX12_believedBy 10 = .ok (.getfield 7, 3) ∧ decode cX12_believedBy 13 = .ok (.iconst 3, 1) ∧ decode cX12_believedBy 14 = .ok (.iaload, 1) ∧ decode cX12_believedBy 15 = .ok (.if_icmp .ge 25, 3) ∧ decode cX12_believedBy 18 = .ok (.iload_n 2, 1) ∧ decode cX12_believedBy 19 = .ok (.iload 4, 2) ∧ decode cX12_believedBy 21 = .ok (.invokestatic 296, 3) ∧ decode cX12_believedBy 24 = .ok (.ifCond .eq 10, 3) := by decide +kernel
theorem dX12_believedBy_7 : decode cX12_believedBy 7 = .ok (.iload 4, 2) := zdc_758.1
theorem dX12_believedBy_9 : decode cX12_believedBy 9 = .ok (.aload_n 0, 1) := zdc_758.2.1
theorem dX12_believedBy_10 : decode cX12_believedBy 10 = .ok (.getfield 7, 3) := zdc_758.2.2.1
theorem dX12_believedBy_13 : decode cX12_believedBy 13 = .ok (.iconst 3, 1) := zdc_758.2.2.2.1
theorem dX12_believedBy_14 : decode cX12_believedBy 14 = .ok (.iaload, 1) := zdc_758.2.2.2.2.1
theorem dX12_believedBy_15 : decode cX12_believedBy 15 = .ok (.if_icmp .ge 25, 3) := zdc_758.2.2.2.2.2.1
theorem dX12_believedBy_18 : decode cX12_believedBy 18 = .ok (.iload_n 2, 1) := zdc_758.2.2.2.2.2.2.1
theorem dX12_believedBy_19 : decode cX12_believedBy 19 = .ok (.iload 4, 2) := zdc_758.2.2.2.2.2.2.2.1
theorem dX12_believedBy_21 : decode cX12_believedBy 21 = .ok (.invokestatic 296, 3) := zdc_758.2.2.2.2.2.2.2.2.1
theorem dX12_believedBy_24 : decode cX12_believedBy 24 = .ok (.ifCond .eq 10, 3) := zdc_758.2.2.2.2.2.2.2.2.2
theorem zdc_759 : decode cX12_believedBy 27 = .ok (.aload_n 0, 1) ∧ decode cX12_believedBy 28 = .ok (.iload 4, 2) ∧ decode cX12_believedBy 30 = .ok (.iload_n 3, 1) ∧ decode cX12_believedBy 31 = .ok (.invokevirtual 261, 3) ∧ decode cX12_believedBy 34 = .ok (.iinc 4 1, 3) ∧ decode cX12_believedBy 37 = .ok (.goto (-30), 3) ∧ decode cX12_believedBy 40 = .ok (.aload_n 0, 1) ∧ decode cX12_believedBy 41 = .ok (.iload_n 1, 1) ∧ decode cX12_believedBy 42 = .ok (.iconst 0, 1) ∧ decode cX12_believedBy 43 = .ok (.invokevirtual 292, 3) := by decide +kernel
theorem dX12_believedBy_27 : decode cX12_believedBy 27 = .ok (.aload_n 0, 1) := zdc_759.1
theorem dX12_believedBy_28 : decode cX12_believedBy 28 = .ok (.iload 4, 2) := zdc_759.2.1
theorem dX12_believedBy_30 : decode cX12_believedBy 30 = .ok (.iload_n 3, 1) := zdc_759.2.2.1
theorem dX12_believedBy_31 : decode cX12_believedBy 31 = .ok (.invokevirtual 261, 3) := zdc_759.2.2.2.1
theorem dX12_believedBy_34 : decode cX12_believedBy 34 = .ok (.iinc 4 1, 3) := zdc_759.2.2.2.2.1
theorem dX12_believedBy_37 : decode cX12_believedBy 37 = .ok (.goto (-30), 3) := zdc_759.2.2.2.2.2.1
theorem dX12_believedBy_40 : decode cX12_believedBy 40 = .ok (.aload_n 0, 1) := zdc_759.2.2.2.2.2.2.1
theorem dX12_believedBy_41 : decode cX12_believedBy 41 = .ok (.iload_n 1, 1) := zdc_759.2.2.2.2.2.2.2.1
theorem dX12_believedBy_42 : decode cX12_believedBy 42 = .ok (.iconst 0, 1) := zdc_759.2.2.2.2.2.2.2.2.1
theorem dX12_believedBy_43 : decode cX12_believedBy 43 = .ok (.invokevirtual 292, 3) := zdc_759.2.2.2.2.2.2.2.2.2
theorem zdc_760 : decode cX12_believedBy 46 = .ok (.istore 4, 2) ∧ decode cX12_believedBy 48 = .ok (.aload_n 0, 1) ∧ decode cX12_believedBy 49 = .ok (.invokevirtual 62, 3) ∧ decode cX12_believedBy 52 = .ok (.istore 5, 2) ∧ decode cX12_believedBy 54 = .ok (.aload_n 0, 1) ∧ decode cX12_believedBy 55 = .ok (.invokevirtual 184, 3) ∧ decode cX12_believedBy 58 = .ok (.iload 5, 2) ∧ decode cX12_believedBy 60 = .ok (.ireturn, 1) ∧ decode cX12_then 0 = .ok (.aload_n 0, 1) ∧ decode cX12_then 1 = .ok (.iload_n 1, 1) := by decide +kernel
theorem dX12_believedBy_46 : decode cX12_believedBy 46 = .ok (.istore 4, 2) := zdc_760.1
theorem dX12_believedBy_48 : decode cX12_believedBy 48 = .ok (.aload_n 0, 1) := zdc_760.2.1
theorem dX12_believedBy_49 : decode cX12_believedBy 49 = .ok (.invokevirtual 62, 3) := zdc_760.2.2.1
theorem dX12_believedBy_52 : decode cX12_believedBy 52 = .ok (.istore 5, 2) := zdc_760.2.2.2.1
theorem dX12_believedBy_54 : decode cX12_believedBy 54 = .ok (.aload_n 0, 1) := zdc_760.2.2.2.2.1
theorem dX12_believedBy_55 : decode cX12_believedBy 55 = .ok (.invokevirtual 184, 3) := zdc_760.2.2.2.2.2.1
theorem dX12_believedBy_58 : decode cX12_believedBy 58 = .ok (.iload 5, 2) := zdc_760.2.2.2.2.2.2.1
theorem dX12_believedBy_60 : decode cX12_believedBy 60 = .ok (.ireturn, 1) := zdc_760.2.2.2.2.2.2.2.1
theorem dX12_then_0 : decode cX12_then 0 = .ok (.aload_n 0, 1) := zdc_760.2.2.2.2.2.2.2.2.1
theorem dX12_then_1 : decode cX12_then 1 = .ok (.iload_n 1, 1) := zdc_760.2.2.2.2.2.2.2.2.2
theorem zdc_761 : decode cX12_then 2 = .ok (.iconst 0, 1) ∧ decode cX12_then 3 = .ok (.bipush 100, 2) ∧ decode cX12_then 5 = .ok (.invokestatic 42, 3) ∧ decode cX12_then 8 = .ok (.ifCond .ne 7, 3) ∧ decode cX12_then 11 = .ok (.iconst 1, 1) ∧ decode cX12_then 12 = .ok (.goto 4, 3) ∧ decode cX12_then 15 = .ok (.iconst 0, 1) ∧ decode cX12_then 16 = .ok (.putfield 39, 3) ∧ decode cX12_then 19 = .ok (.aload_n 0, 1) ∧ decode cX12_then 20 = .ok (.getfield 39, 3) := by decide +kernel
theorem dX12_then_2 : decode cX12_then 2 = .ok (.iconst 0, 1) := zdc_761.1
theorem dX12_then_3 : decode cX12_then 3 = .ok (.bipush 100, 2) := zdc_761.2.1
theorem dX12_then_5 : decode cX12_then 5 = .ok (.invokestatic 42, 3) := zdc_761.2.2.1
theorem dX12_then_8 : decode cX12_then 8 = .ok (.ifCond .ne 7, 3) := zdc_761.2.2.2.1
theorem dX12_then_11 : decode cX12_then 11 = .ok (.iconst 1, 1) := zdc_761.2.2.2.2.1
theorem dX12_then_12 : decode cX12_then 12 = .ok (.goto 4, 3) := zdc_761.2.2.2.2.2.1
theorem dX12_then_15 : decode cX12_then 15 = .ok (.iconst 0, 1) := zdc_761.2.2.2.2.2.2.1
theorem dX12_then_16 : decode cX12_then 16 = .ok (.putfield 39, 3) := zdc_761.2.2.2.2.2.2.2.1
theorem dX12_then_19 : decode cX12_then 19 = .ok (.aload_n 0, 1) := zdc_761.2.2.2.2.2.2.2.2.1
theorem dX12_then_20 : decode cX12_then 20 = .ok (.getfield 39, 3) := zdc_761.2.2.2.2.2.2.2.2.2
theorem zdc_762 : decode cX12_then 23 = .ok (.ifCond .le 5, 3) ∧ decode cX12_then 26 = .ok (.iconst 0, 1) ∧ decode cX12_then 27 = .ok (.ireturn, 1) ∧ decode cX12_then 28 = .ok (.aload_n 0, 1) ∧ decode cX12_then 29 = .ok (.invokevirtual 174, 3) ∧ decode cX12_then 32 = .ok (.aload_n 0, 1) ∧ decode cX12_then 33 = .ok (.iload_n 1, 1) ∧ decode cX12_then 34 = .ok (.iconst 0, 1) ∧ decode cX12_then 35 = .ok (.invokevirtual 292, 3) ∧ decode cX12_then 38 = .ok (.istore_n 3, 1) := by decide +kernel
theorem dX12_then_23 : decode cX12_then 23 = .ok (.ifCond .le 5, 3) := zdc_762.1
theorem dX12_then_26 : decode cX12_then 26 = .ok (.iconst 0, 1) := zdc_762.2.1
theorem dX12_then_27 : decode cX12_then 27 = .ok (.ireturn, 1) := zdc_762.2.2.1
theorem dX12_then_28 : decode cX12_then 28 = .ok (.aload_n 0, 1) := zdc_762.2.2.2.1
theorem dX12_then_29 : decode cX12_then 29 = .ok (.invokevirtual 174, 3) := zdc_762.2.2.2.2.1
theorem dX12_then_32 : decode cX12_then 32 = .ok (.aload_n 0, 1) := zdc_762.2.2.2.2.2.1
theorem dX12_then_33 : decode cX12_then 33 = .ok (.iload_n 1, 1) := zdc_762.2.2.2.2.2.2.1
theorem dX12_then_34 : decode cX12_then 34 = .ok (.iconst 0, 1) := zdc_762.2.2.2.2.2.2.2.1
theorem dX12_then_35 : decode cX12_then 35 = .ok (.invokevirtual 292, 3) := zdc_762.2.2.2.2.2.2.2.2.1
theorem dX12_then_38 : decode cX12_then 38 = .ok (.istore_n 3, 1) := zdc_762.2.2.2.2.2.2.2.2.2
theorem zdc_763 : decode cX12_then 39 = .ok (.iload_n 2, 1) ∧ decode cX12_then 40 = .ok (.ifCond .eq 12, 3) ∧ decode cX12_then 43 = .ok (.aload_n 0, 1) ∧ decode cX12_then 44 = .ok (.getfield 7, 3) ∧ decode cX12_then 47 = .ok (.iconst 5, 1) ∧ decode cX12_then 48 = .ok (.iaload, 1) ∧ decode cX12_then 49 = .ok (.goto 7, 3) ∧ decode cX12_then 52 = .ok (.aload_n 0, 1) ∧ decode cX12_then 53 = .ok (.invokevirtual 62, 3) ∧ decode cX12_then 56 = .ok (.istore 4, 2) := by decide +kernel
theorem dX12_then_39 : decode cX12_then 39 = .ok (.iload_n 2, 1) := zdc_763.1
theorem dX12_then_40 : decode cX12_then 40 = .ok (.ifCond .eq 12, 3) := zdc_763.2.1
theorem dX12_then_43 : decode cX12_then 43 = .ok (.aload_n 0, 1) := zdc_763.2.2.1
theorem dX12_then_44 : decode cX12_then 44 = .ok (.getfield 7, 3) := zdc_763.2.2.2.1
theorem dX12_then_47 : decode cX12_then 47 = .ok (.iconst 5, 1) := zdc_763.2.2.2.2.1
theorem dX12_then_48 : decode cX12_then 48 = .ok (.iaload, 1) := zdc_763.2.2.2.2.2.1
theorem dX12_then_49 : decode cX12_then 49 = .ok (.goto 7, 3) := zdc_763.2.2.2.2.2.2.1
theorem dX12_then_52 : decode cX12_then 52 = .ok (.aload_n 0, 1) := zdc_763.2.2.2.2.2.2.2.1
theorem dX12_then_53 : decode cX12_then 53 = .ok (.invokevirtual 62, 3) := zdc_763.2.2.2.2.2.2.2.2.1
theorem dX12_then_56 : decode cX12_then 56 = .ok (.istore 4, 2) := zdc_763.2.2.2.2.2.2.2.2.2
theorem zdc_764 : decode cX12_then 58 = .ok (.aload_n 0, 1) ∧ decode cX12_then 59 = .ok (.invokevirtual 184, 3) ∧ decode cX12_then 62 = .ok (.iload 4, 2) ∧ decode cX12_then 64 = .ok (.ireturn, 1) ∧ decode cX12_sways 0 = .ok (.aload_n 0, 1) ∧ decode cX12_sways 1 = .ok (.aload_n 0, 1) ∧ decode cX12_sways 2 = .ok (.iload_n 1, 1) ∧ decode cX12_sways 3 = .ok (.invokevirtual 280, 3) ∧ decode cX12_sways 6 = .ok (.ifCond .ne 7, 3) ∧ decode cX12_sways 9 = .ok (.iconst 1, 1) := by decide +kernel
theorem dX12_then_58 : decode cX12_then 58 = .ok (.aload_n 0, 1) := zdc_764.1
theorem dX12_then_59 : decode cX12_then 59 = .ok (.invokevirtual 184, 3) := zdc_764.2.1
theorem dX12_then_62 : decode cX12_then 62 = .ok (.iload 4, 2) := zdc_764.2.2.1
theorem dX12_then_64 : decode cX12_then 64 = .ok (.ireturn, 1) := zdc_764.2.2.2.1
theorem dX12_sways_0 : decode cX12_sways 0 = .ok (.aload_n 0, 1) := zdc_764.2.2.2.2.1
theorem dX12_sways_1 : decode cX12_sways 1 = .ok (.aload_n 0, 1) := zdc_764.2.2.2.2.2.1
theorem dX12_sways_2 : decode cX12_sways 2 = .ok (.iload_n 1, 1) := zdc_764.2.2.2.2.2.2.1
theorem dX12_sways_3 : decode cX12_sways 3 = .ok (.invokevirtual 280, 3) := zdc_764.2.2.2.2.2.2.2.1
theorem dX12_sways_6 : decode cX12_sways 6 = .ok (.ifCond .ne 7, 3) := zdc_764.2.2.2.2.2.2.2.2.1
theorem dX12_sways_9 : decode cX12_sways 9 = .ok (.iconst 1, 1) := zdc_764.2.2.2.2.2.2.2.2.2
theorem zdc_765 : decode cX12_sways 10 = .ok (.goto 18, 3) ∧ decode cX12_sways 13 = .ok (.iload_n 2, 1) ∧ decode cX12_sways 14 = .ok (.iconst 0, 1) ∧ decode cX12_sways 15 = .ok (.bipush 30, 2) ∧ decode cX12_sways 17 = .ok (.invokestatic 42, 3) ∧ decode cX12_sways 20 = .ok (.ifCond .ne 7, 3) ∧ decode cX12_sways 23 = .ok (.iconst 2, 1) ∧ decode cX12_sways 24 = .ok (.goto 4, 3) ∧ decode cX12_sways 27 = .ok (.iconst 0, 1) ∧ decode cX12_sways 28 = .ok (.putfield 39, 3) := by decide +kernel
theorem dX12_sways_10 : decode cX12_sways 10 = .ok (.goto 18, 3) := zdc_765.1
theorem dX12_sways_13 : decode cX12_sways 13 = .ok (.iload_n 2, 1) := zdc_765.2.1
theorem dX12_sways_14 : decode cX12_sways 14 = .ok (.iconst 0, 1) := zdc_765.2.2.1
theorem dX12_sways_15 : decode cX12_sways 15 = .ok (.bipush 30, 2) := zdc_765.2.2.2.1
theorem dX12_sways_17 : decode cX12_sways 17 = .ok (.invokestatic 42, 3) := zdc_765.2.2.2.2.1
theorem dX12_sways_20 : decode cX12_sways 20 = .ok (.ifCond .ne 7, 3) := zdc_765.2.2.2.2.2.1
theorem dX12_sways_23 : decode cX12_sways 23 = .ok (.iconst 2, 1) := zdc_765.2.2.2.2.2.2.1
theorem dX12_sways_24 : decode cX12_sways 24 = .ok (.goto 4, 3) := zdc_765.2.2.2.2.2.2.2.1
theorem dX12_sways_27 : decode cX12_sways 27 = .ok (.iconst 0, 1) := zdc_765.2.2.2.2.2.2.2.2.1
theorem dX12_sways_28 : decode cX12_sways 28 = .ok (.putfield 39, 3) := zdc_765.2.2.2.2.2.2.2.2.2
theorem zdc_766 : decode cX12_sways 31 = .ok (.aload_n 0, 1) ∧ decode cX12_sways 32 = .ok (.getfield 39, 3) ∧ decode cX12_sways 35 = .ok (.ifCond .le 7, 3) ∧ decode cX12_sways 38 = .ok (.iconst 0, 1) ∧ decode cX12_sways 39 = .ok (.goto 21, 3) ∧ decode cX12_sways 42 = .ok (.aload_n 0, 1) ∧ decode cX12_sways 43 = .ok (.iload_n 2, 1) ∧ decode cX12_sways 44 = .ok (.iconst 1, 1) ∧ decode cX12_sways 45 = .ok (.iload_n 1, 1) ∧ decode cX12_sways 46 = .ok (.ishl, 1) := by decide +kernel
theorem dX12_sways_31 : decode cX12_sways 31 = .ok (.aload_n 0, 1) := zdc_766.1
theorem dX12_sways_32 : decode cX12_sways 32 = .ok (.getfield 39, 3) := zdc_766.2.1
theorem dX12_sways_35 : decode cX12_sways 35 = .ok (.ifCond .le 7, 3) := zdc_766.2.2.1
theorem dX12_sways_38 : decode cX12_sways 38 = .ok (.iconst 0, 1) := zdc_766.2.2.2.1
theorem dX12_sways_39 : decode cX12_sways 39 = .ok (.goto 21, 3) := zdc_766.2.2.2.2.1
theorem dX12_sways_42 : decode cX12_sways 42 = .ok (.aload_n 0, 1) := zdc_766.2.2.2.2.2.1
theorem dX12_sways_43 : decode cX12_sways 43 = .ok (.iload_n 2, 1) := zdc_766.2.2.2.2.2.2.1
theorem dX12_sways_44 : decode cX12_sways 44 = .ok (.iconst 1, 1) := zdc_766.2.2.2.2.2.2.2.1
theorem dX12_sways_45 : decode cX12_sways 45 = .ok (.iload_n 1, 1) := zdc_766.2.2.2.2.2.2.2.2.1
theorem dX12_sways_46 : decode cX12_sways 46 = .ok (.ishl, 1) := zdc_766.2.2.2.2.2.2.2.2.2
theorem zdc_767 : decode cX12_sways 47 = .ok (.bipush 10, 2) ∧ decode cX12_sways 49 = .ok (.invokevirtual 300, 3) ∧ decode cX12_sways 52 = .ok (.aload_n 0, 1) ∧ decode cX12_sways 53 = .ok (.iload_n 2, 1) ∧ decode cX12_sways 54 = .ok (.iconst 0, 1) ∧ decode cX12_sways 55 = .ok (.iconst 0, 1) ∧ decode cX12_sways 56 = .ok (.invokevirtual 300, 3) ∧ decode cX12_sways 59 = .ok (.isub, 1) ∧ decode cX12_sways 60 = .ok (.ireturn, 1) := by decide +kernel
theorem dX12_sways_47 : decode cX12_sways 47 = .ok (.bipush 10, 2) := zdc_767.1
theorem dX12_sways_49 : decode cX12_sways 49 = .ok (.invokevirtual 300, 3) := zdc_767.2.1
theorem dX12_sways_52 : decode cX12_sways 52 = .ok (.aload_n 0, 1) := zdc_767.2.2.1
theorem dX12_sways_53 : decode cX12_sways 53 = .ok (.iload_n 2, 1) := zdc_767.2.2.2.1
theorem dX12_sways_54 : decode cX12_sways 54 = .ok (.iconst 0, 1) := zdc_767.2.2.2.2.1
theorem dX12_sways_55 : decode cX12_sways 55 = .ok (.iconst 0, 1) := zdc_767.2.2.2.2.2.1
theorem dX12_sways_56 : decode cX12_sways 56 = .ok (.invokevirtual 300, 3) := zdc_767.2.2.2.2.2.2.1
theorem dX12_sways_59 : decode cX12_sways 59 = .ok (.isub, 1) := zdc_767.2.2.2.2.2.2.2.1
theorem dX12_sways_60 : decode cX12_sways 60 = .ok (.ireturn, 1) := zdc_767.2.2.2.2.2.2.2.2
