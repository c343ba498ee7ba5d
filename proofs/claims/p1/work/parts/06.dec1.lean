theorem dX0_init_0 : decode cX0_init 0 = .ok (.aload_n 0, 1) := by decide +kernel
theorem dX0_init_1 : decode cX0_init 1 = .ok (.invokespecial 3, 3) := by decide +kernel
theorem dX0_init_4 : decode cX0_init 4 = .ok (.aload_n 0, 1) := by decide +kernel
theorem dX0_init_5 : decode cX0_init 5 = .ok (.new 9, 3) := by decide +kernel
theorem dX0_init_8 : decode cX0_init 8 = .ok (.dup, 1) := by decide +kernel
theorem dX0_init_9 : decode cX0_init 9 = .ok (.invokespecial 11, 3) := by decide +kernel
theorem dX0_init_12 : decode cX0_init 12 = .ok (.putfield 12, 3) := by decide +kernel
theorem dX0_init_15 : decode cX0_init 15 = .ok (.aload_n 0, 1) := by decide +kernel
theorem dX0_init_16 : decode cX0_init 16 = .ok (.aload_n 1, 1) := by decide +kernel
theorem dX0_init_17 : decode cX0_init 17 = .ok (.putfield 18, 3) := by decide +kernel
theorem dX0_init_20 : decode cX0_init 20 = .ok (.aload_n 0, 1) := by decide +kernel
theorem dX0_init_21 : decode cX0_init 21 = .ok (.aload_n 2, 1) := by decide +kernel
theorem dX0_init_22 : decode cX0_init 22 = .ok (.putfield 21, 3) := by decide +kernel
theorem dX0_init_25 : decode cX0_init 25 = .ok (.return_, 1) := by decide +kernel
theorem dX0_lookAhead_0 : decode cX0_lookAhead 0 = .ok (.aload_n 0, 1) := by decide +kernel
theorem dX0_lookAhead_1 : decode cX0_lookAhead 1 = .ok (.getfield 12, 3) := by decide +kernel
theorem dX0_lookAhead_4 : decode cX0_lookAhead 4 = .ok (.aload_n 0, 1) := by decide +kernel
theorem dX0_lookAhead_5 : decode cX0_lookAhead 5 = .ok (.getfield 18, 3) := by decide +kernel
theorem dX0_lookAhead_8 : decode cX0_lookAhead 8 = .ok (.invokevirtual 25, 3) := by decide +kernel
theorem dX0_lookAhead_11 : decode cX0_lookAhead 11 = .ok (.iconst 0, 1) := by decide +kernel
theorem dX0_lookAhead_12 : decode cX0_lookAhead 12 = .ok (.istore 4, 2) := by decide +kernel
theorem dX0_lookAhead_14 : decode cX0_lookAhead 14 = .ok (.iload 4, 2) := by decide +kernel
theorem dX0_lookAhead_16 : decode cX0_lookAhead 16 = .ok (.aload_n 0, 1) := by decide +kernel
theorem dX0_lookAhead_17 : decode cX0_lookAhead 17 = .ok (.getfield 18, 3) := by decide +kernel
theorem dX0_lookAhead_20 : decode cX0_lookAhead 20 = .ok (.getfield 29, 3) := by decide +kernel
theorem dX0_lookAhead_23 : decode cX0_lookAhead 23 = .ok (.if_icmp .ge 28, 3) := by decide +kernel
theorem dX0_lookAhead_26 : decode cX0_lookAhead 26 = .ok (.iload_n 1, 1) := by decide +kernel
theorem dX0_lookAhead_27 : decode cX0_lookAhead 27 = .ok (.iload 4, 2) := by decide +kernel
theorem dX0_lookAhead_29 : decode cX0_lookAhead 29 = .ok (.ishr, 1) := by decide +kernel
theorem dX0_lookAhead_30 : decode cX0_lookAhead 30 = .ok (.iconst 1, 1) := by decide +kernel
theorem dX0_lookAhead_31 : decode cX0_lookAhead 31 = .ok (.iand, 1) := by decide +kernel
theorem dX0_lookAhead_32 : decode cX0_lookAhead 32 = .ok (.ifCond .eq 13, 3) := by decide +kernel
theorem dX0_lookAhead_35 : decode cX0_lookAhead 35 = .ok (.aload_n 0, 1) := by decide +kernel
theorem dX0_lookAhead_36 : decode cX0_lookAhead 36 = .ok (.getfield 12, 3) := by decide +kernel
theorem dX0_lookAhead_39 : decode cX0_lookAhead 39 = .ok (.iload 4, 2) := by decide +kernel
theorem dX0_lookAhead_41 : decode cX0_lookAhead 41 = .ok (.iload_n 2, 1) := by decide +kernel
theorem dX0_lookAhead_42 : decode cX0_lookAhead 42 = .ok (.invokevirtual 33, 3) := by decide +kernel
theorem dX0_lookAhead_45 : decode cX0_lookAhead 45 = .ok (.iinc 4 1, 3) := by decide +kernel
theorem dX0_lookAhead_48 : decode cX0_lookAhead 48 = .ok (.goto (-34), 3) := by decide +kernel
theorem dX0_lookAhead_51 : decode cX0_lookAhead 51 = .ok (.iconst 0, 1) := by decide +kernel
theorem dX0_lookAhead_52 : decode cX0_lookAhead 52 = .ok (.istore 4, 2) := by decide +kernel
theorem dX0_lookAhead_54 : decode cX0_lookAhead 54 = .ok (.iload 4, 2) := by decide +kernel
theorem dX0_lookAhead_56 : decode cX0_lookAhead 56 = .ok (.iload_n 3, 1) := by decide +kernel
theorem dX0_lookAhead_57 : decode cX0_lookAhead 57 = .ok (.if_icmp .ge 23, 3) := by decide +kernel
theorem dX0_lookAhead_60 : decode cX0_lookAhead 60 = .ok (.aload_n 0, 1) := by decide +kernel
theorem dX0_lookAhead_61 : decode cX0_lookAhead 61 = .ok (.getfield 12, 3) := by decide +kernel
theorem dX0_lookAhead_64 : decode cX0_lookAhead 64 = .ok (.aload_n 0, 1) := by decide +kernel
theorem dX0_lookAhead_65 : decode cX0_lookAhead 65 = .ok (.getfield 21, 3) := by decide +kernel
theorem dX0_lookAhead_68 : decode cX0_lookAhead 68 = .ok (.iconst 0, 1) := by decide +kernel
theorem dX0_lookAhead_69 : decode cX0_lookAhead 69 = .ok (.aconst_null, 1) := by decide +kernel
theorem dX0_lookAhead_70 : decode cX0_lookAhead 70 = .ok (.invokevirtual 37, 3) := by decide +kernel
theorem dX0_lookAhead_73 : decode cX0_lookAhead 73 = .ok (.pop, 1) := by decide +kernel
theorem dX0_lookAhead_74 : decode cX0_lookAhead 74 = .ok (.iinc 4 1, 3) := by decide +kernel
theorem dX0_lookAhead_77 : decode cX0_lookAhead 77 = .ok (.goto (-23), 3) := by decide +kernel
theorem dX0_lookAhead_80 : decode cX0_lookAhead 80 = .ok (.aload_n 0, 1) := by decide +kernel
theorem dX0_lookAhead_81 : decode cX0_lookAhead 81 = .ok (.getfield 12, 3) := by decide +kernel
theorem dX0_lookAhead_84 : decode cX0_lookAhead 84 = .ok (.invokevirtual 41, 3) := by decide +kernel
theorem dX0_lookAhead_87 : decode cX0_lookAhead 87 = .ok (.ireturn, 1) := by decide +kernel
theorem dX0_strongest_0 : decode cX0_strongest 0 = .ok (.iconst (-1), 1) := by decide +kernel
theorem dX0_strongest_1 : decode cX0_strongest 1 = .ok (.istore_n 2, 1) := by decide +kernel
theorem dX0_strongest_2 : decode cX0_strongest 2 = .ok (.iconst 0, 1) := by decide +kernel
theorem dX0_strongest_3 : decode cX0_strongest 3 = .ok (.istore_n 3, 1) := by decide +kernel
theorem dX0_strongest_4 : decode cX0_strongest 4 = .ok (.iconst 0, 1) := by decide +kernel
theorem dX0_strongest_5 : decode cX0_strongest 5 = .ok (.istore 4, 2) := by decide +kernel
theorem dX0_strongest_7 : decode cX0_strongest 7 = .ok (.iload 4, 2) := by decide +kernel
theorem dX0_strongest_9 : decode cX0_strongest 9 = .ok (.aload_n 0, 1) := by decide +kernel
theorem dX0_strongest_10 : decode cX0_strongest 10 = .ok (.getfield 18, 3) := by decide +kernel
theorem dX0_strongest_13 : decode cX0_strongest 13 = .ok (.getfield 29, 3) := by decide +kernel
theorem dX0_strongest_16 : decode cX0_strongest 16 = .ok (.if_icmp .ge 51, 3) := by decide +kernel
theorem dX0_strongest_19 : decode cX0_strongest 19 = .ok (.aload_n 0, 1) := by decide +kernel
theorem dX0_strongest_20 : decode cX0_strongest 20 = .ok (.getfield 18, 3) := by decide +kernel
theorem dX0_strongest_23 : decode cX0_strongest 23 = .ok (.iload 4, 2) := by decide +kernel
theorem dX0_strongest_25 : decode cX0_strongest 25 = .ok (.invokevirtual 45, 3) := by decide +kernel
theorem dX0_strongest_28 : decode cX0_strongest 28 = .ok (.ifCond .eq 33, 3) := by decide +kernel
theorem dX0_strongest_31 : decode cX0_strongest 31 = .ok (.aload_n 0, 1) := by decide +kernel
theorem dX0_strongest_32 : decode cX0_strongest 32 = .ok (.iconst 1, 1) := by decide +kernel
theorem dX0_strongest_33 : decode cX0_strongest 33 = .ok (.iload 4, 2) := by decide +kernel
theorem dX0_strongest_35 : decode cX0_strongest 35 = .ok (.ishl, 1) := by decide +kernel
theorem dX0_strongest_36 : decode cX0_strongest 36 = .ok (.bipush 10, 2) := by decide +kernel
theorem dX0_strongest_38 : decode cX0_strongest 38 = .ok (.iload_n 1, 1) := by decide +kernel
theorem dX0_strongest_39 : decode cX0_strongest 39 = .ok (.invokevirtual 49, 3) := by decide +kernel
theorem dX0_strongest_42 : decode cX0_strongest 42 = .ok (.istore 5, 2) := by decide +kernel
theorem dX0_strongest_44 : decode cX0_strongest 44 = .ok (.iload_n 2, 1) := by decide +kernel
theorem dX0_strongest_45 : decode cX0_strongest 45 = .ok (.iconst (-1), 1) := by decide +kernel
theorem dX0_strongest_46 : decode cX0_strongest 46 = .ok (.if_icmp .eq 9, 3) := by decide +kernel
theorem dX0_strongest_49 : decode cX0_strongest 49 = .ok (.iload 5, 2) := by decide +kernel
theorem dX0_strongest_51 : decode cX0_strongest 51 = .ok (.iload_n 3, 1) := by decide +kernel
theorem dX0_strongest_52 : decode cX0_strongest 52 = .ok (.if_icmp .le 9, 3) := by decide +kernel
theorem dX0_strongest_55 : decode cX0_strongest 55 = .ok (.iload 4, 2) := by decide +kernel
theorem dX0_strongest_57 : decode cX0_strongest 57 = .ok (.istore_n 2, 1) := by decide +kernel
theorem dX0_strongest_58 : decode cX0_strongest 58 = .ok (.iload 5, 2) := by decide +kernel
theorem dX0_strongest_60 : decode cX0_strongest 60 = .ok (.istore_n 3, 1) := by decide +kernel
theorem dX0_strongest_61 : decode cX0_strongest 61 = .ok (.iinc 4 1, 3) := by decide +kernel
theorem dX0_strongest_64 : decode cX0_strongest 64 = .ok (.goto (-57), 3) := by decide +kernel
theorem dX0_strongest_67 : decode cX0_strongest 67 = .ok (.iload_n 2, 1) := by decide +kernel
theorem dX0_strongest_68 : decode cX0_strongest 68 = .ok (.ireturn, 1) := by decide +kernel
theorem dX0_fewestTold_0 : decode cX0_fewestTold 0 = .ok (.aload_n 0, 1) := by decide +kernel
theorem dX0_fewestTold_1 : decode cX0_fewestTold 1 = .ok (.getfield 18, 3) := by decide +kernel
theorem dX0_fewestTold_4 : decode cX0_fewestTold 4 = .ok (.invokevirtual 53, 3) := by decide +kernel
theorem dX0_fewestTold_7 : decode cX0_fewestTold 7 = .ok (.istore_n 3, 1) := by decide +kernel
theorem dX0_fewestTold_8 : decode cX0_fewestTold 8 = .ok (.iconst 0, 1) := by decide +kernel
theorem dX0_fewestTold_9 : decode cX0_fewestTold 9 = .ok (.istore 4, 2) := by decide +kernel
theorem dX0_fewestTold_11 : decode cX0_fewestTold 11 = .ok (.iload 4, 2) := by decide +kernel
theorem dX0_fewestTold_13 : decode cX0_fewestTold 13 = .ok (.aload_n 0, 1) := by decide +kernel
theorem dX0_fewestTold_14 : decode cX0_fewestTold 14 = .ok (.getfield 18, 3) := by decide +kernel
theorem dX0_fewestTold_17 : decode cX0_fewestTold 17 = .ok (.getfield 29, 3) := by decide +kernel
theorem dX0_fewestTold_20 : decode cX0_fewestTold 20 = .ok (.if_icmp .gt 67, 3) := by decide +kernel
theorem dX0_fewestTold_23 : decode cX0_fewestTold 23 = .ok (.iconst 0, 1) := by decide +kernel
theorem dX0_fewestTold_24 : decode cX0_fewestTold 24 = .ok (.istore 5, 2) := by decide +kernel
theorem dX0_fewestTold_26 : decode cX0_fewestTold 26 = .ok (.iload 5, 2) := by decide +kernel
theorem dX0_fewestTold_28 : decode cX0_fewestTold 28 = .ok (.iconst 1, 1) := by decide +kernel
theorem dX0_fewestTold_29 : decode cX0_fewestTold 29 = .ok (.aload_n 0, 1) := by decide +kernel
theorem dX0_fewestTold_30 : decode cX0_fewestTold 30 = .ok (.getfield 18, 3) := by decide +kernel
theorem dX0_fewestTold_33 : decode cX0_fewestTold 33 = .ok (.getfield 29, 3) := by decide +kernel
theorem dX0_fewestTold_36 : decode cX0_fewestTold 36 = .ok (.ishl, 1) := by decide +kernel
theorem dX0_fewestTold_37 : decode cX0_fewestTold 37 = .ok (.if_icmp .ge 44, 3) := by decide +kernel
theorem dX0_fewestTold_40 : decode cX0_fewestTold 40 = .ok (.iload 5, 2) := by decide +kernel
theorem dX0_fewestTold_42 : decode cX0_fewestTold 42 = .ok (.invokestatic 56, 3) := by decide +kernel
theorem dX0_fewestTold_45 : decode cX0_fewestTold 45 = .ok (.iload 4, 2) := by decide +kernel
theorem dX0_fewestTold_47 : decode cX0_fewestTold 47 = .ok (.if_icmp .ne 28, 3) := by decide +kernel
theorem dX0_fewestTold_50 : decode cX0_fewestTold 50 = .ok (.iload 5, 2) := by decide +kernel
theorem dX0_fewestTold_52 : decode cX0_fewestTold 52 = .ok (.iload_n 3, 1) := by decide +kernel
theorem dX0_fewestTold_53 : decode cX0_fewestTold 53 = .ok (.iconst (-1), 1) := by decide +kernel
theorem dX0_fewestTold_54 : decode cX0_fewestTold 54 = .ok (.ixor, 1) := by decide +kernel
theorem dX0_fewestTold_55 : decode cX0_fewestTold 55 = .ok (.iand, 1) := by decide +kernel
theorem dX0_fewestTold_56 : decode cX0_fewestTold 56 = .ok (.ifCond .ne 19, 3) := by decide +kernel
theorem dX0_fewestTold_59 : decode cX0_fewestTold 59 = .ok (.aload_n 0, 1) := by decide +kernel
theorem dX0_fewestTold_60 : decode cX0_fewestTold 60 = .ok (.iload 5, 2) := by decide +kernel
theorem dX0_fewestTold_62 : decode cX0_fewestTold 62 = .ok (.bipush 20, 2) := by decide +kernel
theorem dX0_fewestTold_64 : decode cX0_fewestTold 64 = .ok (.iload_n 2, 1) := by decide +kernel
theorem dX0_fewestTold_65 : decode cX0_fewestTold 65 = .ok (.invokevirtual 49, 3) := by decide +kernel
theorem dX0_fewestTold_68 : decode cX0_fewestTold 68 = .ok (.iload_n 1, 1) := by decide +kernel
theorem dX0_fewestTold_69 : decode cX0_fewestTold 69 = .ok (.if_icmp .lt 6, 3) := by decide +kernel
theorem dX0_fewestTold_72 : decode cX0_fewestTold 72 = .ok (.iload 5, 2) := by decide +kernel
theorem dX0_fewestTold_74 : decode cX0_fewestTold 74 = .ok (.ireturn, 1) := by decide +kernel
theorem dX0_fewestTold_75 : decode cX0_fewestTold 75 = .ok (.iinc 5 1, 3) := by decide +kernel
theorem dX0_fewestTold_78 : decode cX0_fewestTold 78 = .ok (.goto (-52), 3) := by decide +kernel
theorem dX0_fewestTold_81 : decode cX0_fewestTold 81 = .ok (.iinc 4 1, 3) := by decide +kernel
theorem dX0_fewestTold_84 : decode cX0_fewestTold 84 = .ok (.goto (-73), 3) := by decide +kernel
theorem dX0_fewestTold_87 : decode cX0_fewestTold 87 = .ok (.iconst (-1), 1) := by decide +kernel
theorem dX0_fewestTold_88 : decode cX0_fewestTold 88 = .ok (.ireturn, 1) := by decide +kernel
theorem dX0_firstBelieved_0 : decode cX0_firstBelieved 0 = .ok (.aload_n 0, 1) := by decide +kernel
theorem dX0_firstBelieved_1 : decode cX0_firstBelieved 1 = .ok (.getfield 12, 3) := by decide +kernel
theorem dX0_firstBelieved_4 : decode cX0_firstBelieved 4 = .ok (.aload_n 0, 1) := by decide +kernel
theorem dX0_firstBelieved_5 : decode cX0_firstBelieved 5 = .ok (.getfield 18, 3) := by decide +kernel
theorem dX0_firstBelieved_8 : decode cX0_firstBelieved 8 = .ok (.invokevirtual 25, 3) := by decide +kernel
theorem dX0_firstBelieved_11 : decode cX0_firstBelieved 11 = .ok (.iconst 0, 1) := by decide +kernel
theorem dX0_firstBelieved_12 : decode cX0_firstBelieved 12 = .ok (.istore_n 2, 1) := by decide +kernel
theorem dX0_firstBelieved_13 : decode cX0_firstBelieved 13 = .ok (.iload_n 2, 1) := by decide +kernel
theorem dX0_firstBelieved_14 : decode cX0_firstBelieved 14 = .ok (.bipush 100, 2) := by decide +kernel
theorem dX0_firstBelieved_16 : decode cX0_firstBelieved 16 = .ok (.if_icmp .gt 36, 3) := by decide +kernel
theorem dX0_firstBelieved_19 : decode cX0_firstBelieved 19 = .ok (.aload_n 0, 1) := by decide +kernel
theorem dX0_firstBelieved_20 : decode cX0_firstBelieved 20 = .ok (.getfield 12, 3) := by decide +kernel
theorem dX0_firstBelieved_23 : decode cX0_firstBelieved 23 = .ok (.invokevirtual 41, 3) := by decide +kernel
theorem dX0_firstBelieved_26 : decode cX0_firstBelieved 26 = .ok (.iload_n 1, 1) := by decide +kernel
theorem dX0_firstBelieved_27 : decode cX0_firstBelieved 27 = .ok (.if_icmp .lt 5, 3) := by decide +kernel
theorem dX0_firstBelieved_30 : decode cX0_firstBelieved 30 = .ok (.iload_n 2, 1) := by decide +kernel
theorem dX0_firstBelieved_31 : decode cX0_firstBelieved 31 = .ok (.ireturn, 1) := by decide +kernel
theorem dX0_firstBelieved_32 : decode cX0_firstBelieved 32 = .ok (.aload_n 0, 1) := by decide +kernel
theorem dX0_firstBelieved_33 : decode cX0_firstBelieved 33 = .ok (.getfield 12, 3) := by decide +kernel
theorem dX0_firstBelieved_36 : decode cX0_firstBelieved 36 = .ok (.aload_n 0, 1) := by decide +kernel
theorem dX0_firstBelieved_37 : decode cX0_firstBelieved 37 = .ok (.getfield 21, 3) := by decide +kernel
theorem dX0_firstBelieved_40 : decode cX0_firstBelieved 40 = .ok (.iconst 0, 1) := by decide +kernel
theorem dX0_firstBelieved_41 : decode cX0_firstBelieved 41 = .ok (.aconst_null, 1) := by decide +kernel
theorem dX0_firstBelieved_42 : decode cX0_firstBelieved 42 = .ok (.invokevirtual 37, 3) := by decide +kernel
theorem dX0_firstBelieved_45 : decode cX0_firstBelieved 45 = .ok (.pop, 1) := by decide +kernel
theorem dX0_firstBelieved_46 : decode cX0_firstBelieved 46 = .ok (.iinc 2 1, 3) := by decide +kernel
theorem dX0_firstBelieved_49 : decode cX0_firstBelieved 49 = .ok (.goto (-36), 3) := by decide +kernel
theorem dX0_firstBelieved_52 : decode cX0_firstBelieved 52 = .ok (.iconst (-1), 1) := by decide +kernel
theorem dX0_firstBelieved_53 : decode cX0_firstBelieved 53 = .ok (.ireturn, 1) := by decide +kernel
theorem dX0_firstRuin_0 : decode cX0_firstRuin 0 = .ok (.aload_n 0, 1) := by decide +kernel
theorem dX0_firstRuin_1 : decode cX0_firstRuin 1 = .ok (.getfield 12, 3) := by decide +kernel
theorem dX0_firstRuin_4 : decode cX0_firstRuin 4 = .ok (.aload_n 0, 1) := by decide +kernel
theorem dX0_firstRuin_5 : decode cX0_firstRuin 5 = .ok (.getfield 18, 3) := by decide +kernel
theorem dX0_firstRuin_8 : decode cX0_firstRuin 8 = .ok (.invokevirtual 25, 3) := by decide +kernel
theorem dX0_firstRuin_11 : decode cX0_firstRuin 11 = .ok (.iconst 0, 1) := by decide +kernel
theorem dX0_firstRuin_12 : decode cX0_firstRuin 12 = .ok (.istore_n 1, 1) := by decide +kernel
theorem dX0_firstRuin_13 : decode cX0_firstRuin 13 = .ok (.iload_n 1, 1) := by decide +kernel
theorem dX0_firstRuin_14 : decode cX0_firstRuin 14 = .ok (.bipush 100, 2) := by decide +kernel
theorem dX0_firstRuin_16 : decode cX0_firstRuin 16 = .ok (.if_icmp .gt 35, 3) := by decide +kernel
theorem dX0_firstRuin_19 : decode cX0_firstRuin 19 = .ok (.aload_n 0, 1) := by decide +kernel
theorem dX0_firstRuin_20 : decode cX0_firstRuin 20 = .ok (.getfield 12, 3) := by decide +kernel
theorem dX0_firstRuin_23 : decode cX0_firstRuin 23 = .ok (.invokevirtual 62, 3) := by decide +kernel
theorem dX0_firstRuin_26 : decode cX0_firstRuin 26 = .ok (.ifCond .eq 5, 3) := by decide +kernel
theorem dX0_firstRuin_29 : decode cX0_firstRuin 29 = .ok (.iload_n 1, 1) := by decide +kernel
theorem dX0_firstRuin_30 : decode cX0_firstRuin 30 = .ok (.ireturn, 1) := by decide +kernel
theorem dX0_firstRuin_31 : decode cX0_firstRuin 31 = .ok (.aload_n 0, 1) := by decide +kernel
theorem dX0_firstRuin_32 : decode cX0_firstRuin 32 = .ok (.getfield 12, 3) := by decide +kernel
theorem dX0_firstRuin_35 : decode cX0_firstRuin 35 = .ok (.aload_n 0, 1) := by decide +kernel
theorem dX0_firstRuin_36 : decode cX0_firstRuin 36 = .ok (.getfield 21, 3) := by decide +kernel
theorem dX0_firstRuin_39 : decode cX0_firstRuin 39 = .ok (.iconst 0, 1) := by decide +kernel
theorem dX0_firstRuin_40 : decode cX0_firstRuin 40 = .ok (.aconst_null, 1) := by decide +kernel
theorem dX0_firstRuin_41 : decode cX0_firstRuin 41 = .ok (.invokevirtual 37, 3) := by decide +kernel
theorem dX0_firstRuin_44 : decode cX0_firstRuin 44 = .ok (.pop, 1) := by decide +kernel
theorem dX0_firstRuin_45 : decode cX0_firstRuin 45 = .ok (.iinc 1 1, 3) := by decide +kernel
theorem dX0_firstRuin_48 : decode cX0_firstRuin 48 = .ok (.goto (-35), 3) := by decide +kernel
theorem dX0_firstRuin_51 : decode cX0_firstRuin 51 = .ok (.iconst (-1), 1) := by decide +kernel
theorem dX0_firstRuin_52 : decode cX0_firstRuin 52 = .ok (.ireturn, 1) := by decide +kernel
theorem dX0_greatestPrice_0 : decode cX0_greatestPrice 0 = .ok (.aload_n 0, 1) := by decide +kernel
theorem dX0_greatestPrice_1 : decode cX0_greatestPrice 1 = .ok (.getfield 12, 3) := by decide +kernel
theorem dX0_greatestPrice_4 : decode cX0_greatestPrice 4 = .ok (.aload_n 0, 1) := by decide +kernel
theorem dX0_greatestPrice_5 : decode cX0_greatestPrice 5 = .ok (.getfield 18, 3) := by decide +kernel
theorem dX0_greatestPrice_8 : decode cX0_greatestPrice 8 = .ok (.invokevirtual 25, 3) := by decide +kernel
theorem dX0_greatestPrice_11 : decode cX0_greatestPrice 11 = .ok (.iconst 0, 1) := by decide +kernel
theorem dX0_greatestPrice_12 : decode cX0_greatestPrice 12 = .ok (.istore_n 3, 1) := by decide +kernel
theorem dX0_greatestPrice_13 : decode cX0_greatestPrice 13 = .ok (.aload_n 0, 1) := by decide +kernel
theorem dX0_greatestPrice_14 : decode cX0_greatestPrice 14 = .ok (.getfield 12, 3) := by decide +kernel
theorem dX0_greatestPrice_17 : decode cX0_greatestPrice 17 = .ok (.invokevirtual 70, 3) := by decide +kernel
theorem dX0_greatestPrice_20 : decode cX0_greatestPrice 20 = .ok (.istore 4, 2) := by decide +kernel
theorem dX0_greatestPrice_22 : decode cX0_greatestPrice 22 = .ok (.iconst 1, 1) := by decide +kernel
theorem dX0_greatestPrice_23 : decode cX0_greatestPrice 23 = .ok (.istore 5, 2) := by decide +kernel
theorem dX0_greatestPrice_25 : decode cX0_greatestPrice 25 = .ok (.iload 5, 2) := by decide +kernel
theorem dX0_greatestPrice_27 : decode cX0_greatestPrice 27 = .ok (.iload_n 1, 1) := by decide +kernel
theorem dX0_greatestPrice_28 : decode cX0_greatestPrice 28 = .ok (.if_icmp .gt 47, 3) := by decide +kernel
theorem dX0_greatestPrice_31 : decode cX0_greatestPrice 31 = .ok (.aload_n 0, 1) := by decide +kernel
theorem dX0_greatestPrice_32 : decode cX0_greatestPrice 32 = .ok (.getfield 12, 3) := by decide +kernel
theorem dX0_greatestPrice_35 : decode cX0_greatestPrice 35 = .ok (.aload_n 0, 1) := by decide +kernel
theorem dX0_greatestPrice_36 : decode cX0_greatestPrice 36 = .ok (.getfield 21, 3) := by decide +kernel
theorem dX0_greatestPrice_39 : decode cX0_greatestPrice 39 = .ok (.iconst 0, 1) := by decide +kernel
theorem dX0_greatestPrice_40 : decode cX0_greatestPrice 40 = .ok (.aconst_null, 1) := by decide +kernel
theorem dX0_greatestPrice_41 : decode cX0_greatestPrice 41 = .ok (.invokevirtual 37, 3) := by decide +kernel
theorem dX0_greatestPrice_44 : decode cX0_greatestPrice 44 = .ok (.pop, 1) := by decide +kernel
theorem dX0_greatestPrice_45 : decode cX0_greatestPrice 45 = .ok (.aload_n 0, 1) := by decide +kernel
theorem dX0_greatestPrice_46 : decode cX0_greatestPrice 46 = .ok (.getfield 12, 3) := by decide +kernel
theorem dX0_greatestPrice_49 : decode cX0_greatestPrice 49 = .ok (.invokevirtual 70, 3) := by decide +kernel
theorem dX0_greatestPrice_52 : decode cX0_greatestPrice 52 = .ok (.iload 4, 2) := by decide +kernel
theorem dX0_greatestPrice_54 : decode cX0_greatestPrice 54 = .ok (.if_icmp .le 15, 3) := by decide +kernel
theorem dX0_greatestPrice_57 : decode cX0_greatestPrice 57 = .ok (.aload_n 0, 1) := by decide +kernel
theorem dX0_greatestPrice_58 : decode cX0_greatestPrice 58 = .ok (.getfield 12, 3) := by decide +kernel
theorem dX0_greatestPrice_61 : decode cX0_greatestPrice 61 = .ok (.invokevirtual 70, 3) := by decide +kernel
theorem dX0_greatestPrice_64 : decode cX0_greatestPrice 64 = .ok (.istore 4, 2) := by decide +kernel
theorem dX0_greatestPrice_66 : decode cX0_greatestPrice 66 = .ok (.iload 5, 2) := by decide +kernel
theorem dX0_greatestPrice_68 : decode cX0_greatestPrice 68 = .ok (.istore_n 3, 1) := by decide +kernel
theorem dX0_greatestPrice_69 : decode cX0_greatestPrice 69 = .ok (.iinc 5 1, 3) := by decide +kernel
theorem dX0_greatestPrice_72 : decode cX0_greatestPrice 72 = .ok (.goto (-47), 3) := by decide +kernel
theorem dX0_greatestPrice_75 : decode cX0_greatestPrice 75 = .ok (.iload_n 2, 1) := by decide +kernel
theorem dX0_greatestPrice_76 : decode cX0_greatestPrice 76 = .ok (.ifCond .eq 8, 3) := by decide +kernel
theorem dX0_greatestPrice_79 : decode cX0_greatestPrice 79 = .ok (.iload 4, 2) := by decide +kernel
theorem dX0_greatestPrice_81 : decode cX0_greatestPrice 81 = .ok (.goto 4, 3) := by decide +kernel
theorem dX0_greatestPrice_84 : decode cX0_greatestPrice 84 = .ok (.iload_n 3, 1) := by decide +kernel
theorem dX0_greatestPrice_85 : decode cX0_greatestPrice 85 = .ok (.ireturn, 1) := by decide +kernel
theorem dX0_tryOut_0 : decode cX0_tryOut 0 = .ok (.aload_n 0, 1) := by decide +kernel
theorem dX0_tryOut_1 : decode cX0_tryOut 1 = .ok (.getfield 12, 3) := by decide +kernel
theorem dX0_tryOut_4 : decode cX0_tryOut 4 = .ok (.aload_n 0, 1) := by decide +kernel
theorem dX0_tryOut_5 : decode cX0_tryOut 5 = .ok (.getfield 18, 3) := by decide +kernel
theorem dX0_tryOut_8 : decode cX0_tryOut 8 = .ok (.invokevirtual 25, 3) := by decide +kernel
theorem dX0_tryOut_11 : decode cX0_tryOut 11 = .ok (.aload_n 0, 1) := by decide +kernel
theorem dX0_tryOut_12 : decode cX0_tryOut 12 = .ok (.getfield 12, 3) := by decide +kernel
theorem dX0_tryOut_15 : decode cX0_tryOut 15 = .ok (.iload_n 1, 1) := by decide +kernel
theorem dX0_tryOut_16 : decode cX0_tryOut 16 = .ok (.putfield 73, 3) := by decide +kernel
theorem dX0_tryOut_19 : decode cX0_tryOut 19 = .ok (.iconst 0, 1) := by decide +kernel
theorem dX0_tryOut_20 : decode cX0_tryOut 20 = .ok (.istore_n 3, 1) := by decide +kernel
theorem dX0_tryOut_21 : decode cX0_tryOut 21 = .ok (.iload_n 3, 1) := by decide +kernel
theorem dX0_tryOut_22 : decode cX0_tryOut 22 = .ok (.iload_n 2, 1) := by decide +kernel
theorem dX0_tryOut_23 : decode cX0_tryOut 23 = .ok (.if_icmp .ge 23, 3) := by decide +kernel
theorem dX0_tryOut_26 : decode cX0_tryOut 26 = .ok (.aload_n 0, 1) := by decide +kernel
theorem dX0_tryOut_27 : decode cX0_tryOut 27 = .ok (.getfield 12, 3) := by decide +kernel
theorem dX0_tryOut_30 : decode cX0_tryOut 30 = .ok (.aload_n 0, 1) := by decide +kernel
theorem dX0_tryOut_31 : decode cX0_tryOut 31 = .ok (.getfield 21, 3) := by decide +kernel
theorem dX0_tryOut_34 : decode cX0_tryOut 34 = .ok (.iconst 1, 1) := by decide +kernel
theorem dX0_tryOut_35 : decode cX0_tryOut 35 = .ok (.aconst_null, 1) := by decide +kernel
theorem dX0_tryOut_36 : decode cX0_tryOut 36 = .ok (.invokevirtual 37, 3) := by decide +kernel
theorem dX0_tryOut_39 : decode cX0_tryOut 39 = .ok (.pop, 1) := by decide +kernel
theorem dX0_tryOut_40 : decode cX0_tryOut 40 = .ok (.iinc 3 1, 3) := by decide +kernel
theorem dX0_tryOut_43 : decode cX0_tryOut 43 = .ok (.goto (-22), 3) := by decide +kernel
theorem dX0_tryOut_46 : decode cX0_tryOut 46 = .ok (.aload_n 0, 1) := by decide +kernel
theorem dX0_tryOut_47 : decode cX0_tryOut 47 = .ok (.getfield 12, 3) := by decide +kernel
theorem dX0_tryOut_50 : decode cX0_tryOut 50 = .ok (.invokevirtual 41, 3) := by decide +kernel
theorem dX0_tryOut_53 : decode cX0_tryOut 53 = .ok (.ireturn, 1) := by decide +kernel
theorem dX0_utmostOfSeeds_0 : decode cX0_utmostOfSeeds 0 = .ok (.iconst (-1), 1) := by decide +kernel
theorem dX0_utmostOfSeeds_1 : decode cX0_utmostOfSeeds 1 = .ok (.istore_n 3, 1) := by decide +kernel
theorem dX0_utmostOfSeeds_2 : decode cX0_utmostOfSeeds 2 = .ok (.iconst 1, 1) := by decide +kernel
theorem dX0_utmostOfSeeds_3 : decode cX0_utmostOfSeeds 3 = .ok (.istore 4, 2) := by decide +kernel
theorem dX0_utmostOfSeeds_5 : decode cX0_utmostOfSeeds 5 = .ok (.iload 4, 2) := by decide +kernel
theorem dX0_utmostOfSeeds_7 : decode cX0_utmostOfSeeds 7 = .ok (.bipush 6, 2) := by decide +kernel
theorem dX0_utmostOfSeeds_9 : decode cX0_utmostOfSeeds 9 = .ok (.if_icmp .gt 45, 3) := by decide +kernel
theorem dX0_utmostOfSeeds_12 : decode cX0_utmostOfSeeds 12 = .ok (.aload_n 0, 1) := by decide +kernel
theorem dX0_utmostOfSeeds_13 : decode cX0_utmostOfSeeds 13 = .ok (.iload 4, 2) := by decide +kernel
theorem dX0_utmostOfSeeds_15 : decode cX0_utmostOfSeeds 15 = .ok (.iload_n 1, 1) := by decide +kernel
theorem dX0_utmostOfSeeds_16 : decode cX0_utmostOfSeeds 16 = .ok (.invokevirtual 76, 3) := by decide +kernel
theorem dX0_utmostOfSeeds_19 : decode cX0_utmostOfSeeds 19 = .ok (.istore 5, 2) := by decide +kernel
theorem dX0_utmostOfSeeds_21 : decode cX0_utmostOfSeeds 21 = .ok (.iload_n 3, 1) := by decide +kernel
theorem dX0_utmostOfSeeds_22 : decode cX0_utmostOfSeeds 22 = .ok (.iconst (-1), 1) := by decide +kernel
theorem dX0_utmostOfSeeds_23 : decode cX0_utmostOfSeeds 23 = .ok (.if_icmp .eq 22, 3) := by decide +kernel
theorem dX0_utmostOfSeeds_26 : decode cX0_utmostOfSeeds 26 = .ok (.iload_n 2, 1) := by decide +kernel
theorem dX0_utmostOfSeeds_27 : decode cX0_utmostOfSeeds 27 = .ok (.ifCond .eq 12, 3) := by decide +kernel
theorem dX0_utmostOfSeeds_30 : decode cX0_utmostOfSeeds 30 = .ok (.iload 5, 2) := by decide +kernel
theorem dX0_utmostOfSeeds_32 : decode cX0_utmostOfSeeds 32 = .ok (.iload_n 3, 1) := by decide +kernel
theorem dX0_utmostOfSeeds_33 : decode cX0_utmostOfSeeds 33 = .ok (.if_icmp .le 15, 3) := by decide +kernel
theorem dX0_utmostOfSeeds_36 : decode cX0_utmostOfSeeds 36 = .ok (.goto 9, 3) := by decide +kernel
theorem dX0_utmostOfSeeds_39 : decode cX0_utmostOfSeeds 39 = .ok (.iload 5, 2) := by decide +kernel
theorem dX0_utmostOfSeeds_41 : decode cX0_utmostOfSeeds 41 = .ok (.iload_n 3, 1) := by decide +kernel
theorem dX0_utmostOfSeeds_42 : decode cX0_utmostOfSeeds 42 = .ok (.if_icmp .ge 6, 3) := by decide +kernel
theorem dX0_utmostOfSeeds_45 : decode cX0_utmostOfSeeds 45 = .ok (.iload 5, 2) := by decide +kernel
theorem dX0_utmostOfSeeds_47 : decode cX0_utmostOfSeeds 47 = .ok (.istore_n 3, 1) := by decide +kernel
theorem dX0_utmostOfSeeds_48 : decode cX0_utmostOfSeeds 48 = .ok (.iinc 4 1, 3) := by decide +kernel
theorem dX0_utmostOfSeeds_51 : decode cX0_utmostOfSeeds 51 = .ok (.goto (-46), 3) := by decide +kernel
theorem dX0_utmostOfSeeds_54 : decode cX0_utmostOfSeeds 54 = .ok (.iload_n 3, 1) := by decide +kernel
theorem dX0_utmostOfSeeds_55 : decode cX0_utmostOfSeeds 55 = .ok (.ireturn, 1) := by decide +kernel
theorem dX1_init_0 : decode cX1_init 0 = .ok (.aload_n 0, 1) := by decide +kernel
theorem dX1_init_1 : decode cX1_init 1 = .ok (.invokespecial 3, 3) := by decide +kernel
theorem dX1_init_4 : decode cX1_init 4 = .ok (.aload_n 0, 1) := by decide +kernel
theorem dX1_init_5 : decode cX1_init 5 = .ok (.sipush 400, 3) := by decide +kernel
theorem dX1_init_8 : decode cX1_init 8 = .ok (.newarray .int, 2) := by decide +kernel
theorem dX1_init_10 : decode cX1_init 10 = .ok (.putfield 9, 3) := by decide +kernel
theorem dX1_init_13 : decode cX1_init 13 = .ok (.aload_n 0, 1) := by decide +kernel
theorem dX1_init_14 : decode cX1_init 14 = .ok (.iconst (-1), 1) := by decide +kernel
theorem dX1_init_15 : decode cX1_init 15 = .ok (.putfield 15, 3) := by decide +kernel
theorem dX1_init_18 : decode cX1_init 18 = .ok (.return_, 1) := by decide +kernel
theorem dX1_clear_0 : decode cX1_clear 0 = .ok (.aload_n 0, 1) := by decide +kernel
theorem dX1_clear_1 : decode cX1_clear 1 = .ok (.iconst 0, 1) := by decide +kernel
theorem dX1_clear_2 : decode cX1_clear 2 = .ok (.putfield 19, 3) := by decide +kernel
theorem dX1_clear_5 : decode cX1_clear 5 = .ok (.aload_n 0, 1) := by decide +kernel
theorem dX1_clear_6 : decode cX1_clear 6 = .ok (.iconst (-1), 1) := by decide +kernel
theorem dX1_clear_7 : decode cX1_clear 7 = .ok (.putfield 15, 3) := by decide +kernel
theorem dX1_clear_10 : decode cX1_clear 10 = .ok (.return_, 1) := by decide +kernel
theorem dX1_copyFrom_0 : decode cX1_copyFrom 0 = .ok (.aload_n 1, 1) := by decide +kernel
theorem dX1_copyFrom_1 : decode cX1_copyFrom 1 = .ok (.getfield 9, 3) := by decide +kernel
theorem dX1_copyFrom_4 : decode cX1_copyFrom 4 = .ok (.iconst 0, 1) := by decide +kernel
theorem dX1_copyFrom_5 : decode cX1_copyFrom 5 = .ok (.aload_n 0, 1) := by decide +kernel
theorem dX1_copyFrom_6 : decode cX1_copyFrom 6 = .ok (.getfield 9, 3) := by decide +kernel
theorem dX1_copyFrom_9 : decode cX1_copyFrom 9 = .ok (.iconst 0, 1) := by decide +kernel
theorem dX1_copyFrom_10 : decode cX1_copyFrom 10 = .ok (.sipush 400, 3) := by decide +kernel
theorem dX1_copyFrom_13 : decode cX1_copyFrom 13 = .ok (.invokestatic 22, 3) := by decide +kernel
theorem dX1_copyFrom_16 : decode cX1_copyFrom 16 = .ok (.aload_n 0, 1) := by decide +kernel
theorem dX1_copyFrom_17 : decode cX1_copyFrom 17 = .ok (.aload_n 1, 1) := by decide +kernel
theorem dX1_copyFrom_18 : decode cX1_copyFrom 18 = .ok (.getfield 19, 3) := by decide +kernel
theorem dX1_copyFrom_21 : decode cX1_copyFrom 21 = .ok (.putfield 19, 3) := by decide +kernel
theorem dX1_copyFrom_24 : decode cX1_copyFrom 24 = .ok (.aload_n 0, 1) := by decide +kernel
theorem dX1_copyFrom_25 : decode cX1_copyFrom 25 = .ok (.aload_n 1, 1) := by decide +kernel
theorem dX1_copyFrom_26 : decode cX1_copyFrom 26 = .ok (.getfield 15, 3) := by decide +kernel
theorem dX1_copyFrom_29 : decode cX1_copyFrom 29 = .ok (.putfield 15, 3) := by decide +kernel
theorem dX1_copyFrom_32 : decode cX1_copyFrom 32 = .ok (.return_, 1) := by decide +kernel
theorem dX1_look_0 : decode cX1_look 0 = .ok (.aload_n 0, 1) := by decide +kernel
theorem dX1_look_1 : decode cX1_look 1 = .ok (.iload_n 1, 1) := by decide +kernel
theorem dX1_look_2 : decode cX1_look 2 = .ok (.putfield 28, 3) := by decide +kernel
theorem dX1_look_5 : decode cX1_look 5 = .ok (.aload_n 0, 1) := by decide +kernel
theorem dX1_look_6 : decode cX1_look 6 = .ok (.iload_n 2, 1) := by decide +kernel
theorem dX1_look_7 : decode cX1_look 7 = .ok (.putfield 31, 3) := by decide +kernel
theorem dX1_look_10 : decode cX1_look 10 = .ok (.aload_n 0, 1) := by decide +kernel
theorem dX1_look_11 : decode cX1_look 11 = .ok (.iload_n 3, 1) := by decide +kernel
theorem dX1_look_12 : decode cX1_look 12 = .ok (.putfield 34, 3) := by decide +kernel
theorem dX1_look_15 : decode cX1_look 15 = .ok (.return_, 1) := by decide +kernel
theorem dX2_init_0 : decode cX2_init 0 = .ok (.aload_n 0, 1) := by decide +kernel
theorem dX2_init_1 : decode cX2_init 1 = .ok (.aload_n 1, 1) := by decide +kernel
theorem dX2_init_2 : decode cX2_init 2 = .ok (.invokespecial 3, 3) := by decide +kernel
theorem dX2_init_5 : decode cX2_init 5 = .ok (.aload_n 0, 1) := by decide +kernel
theorem dX2_init_6 : decode cX2_init 6 = .ok (.new 9, 3) := by decide +kernel
theorem dX2_init_9 : decode cX2_init 9 = .ok (.dup, 1) := by decide +kernel
theorem dX2_init_10 : decode cX2_init 10 = .ok (.invokespecial 11, 3) := by decide +kernel
theorem dX2_init_13 : decode cX2_init 13 = .ok (.putfield 14, 3) := by decide +kernel
theorem dX2_init_16 : decode cX2_init 16 = .ok (.return_, 1) := by decide +kernel
theorem dX3_init_0 : decode cX3_init 0 = .ok (.aload_n 0, 1) := by decide +kernel
theorem dX3_init_1 : decode cX3_init 1 = .ok (.invokespecial 3, 3) := by decide +kernel
theorem dX3_init_4 : decode cX3_init 4 = .ok (.aload_n 0, 1) := by decide +kernel
theorem dX3_init_5 : decode cX3_init 5 = .ok (.sipush 240, 3) := by decide +kernel
theorem dX3_init_8 : decode cX3_init 8 = .ok (.newarray .int, 2) := by decide +kernel
theorem dX3_init_10 : decode cX3_init 10 = .ok (.putfield 9, 3) := by decide +kernel
theorem dX3_init_13 : decode cX3_init 13 = .ok (.return_, 1) := by decide +kernel
theorem dX3_copyFrom_0 : decode cX3_copyFrom 0 = .ok (.aload_n 1, 1) := by decide +kernel
theorem dX3_copyFrom_1 : decode cX3_copyFrom 1 = .ok (.getfield 9, 3) := by decide +kernel
theorem dX3_copyFrom_4 : decode cX3_copyFrom 4 = .ok (.iconst 0, 1) := by decide +kernel
theorem dX3_copyFrom_5 : decode cX3_copyFrom 5 = .ok (.aload_n 0, 1) := by decide +kernel
theorem dX3_copyFrom_6 : decode cX3_copyFrom 6 = .ok (.getfield 9, 3) := by decide +kernel
theorem dX3_copyFrom_9 : decode cX3_copyFrom 9 = .ok (.iconst 0, 1) := by decide +kernel
theorem dX3_copyFrom_10 : decode cX3_copyFrom 10 = .ok (.sipush 240, 3) := by decide +kernel
theorem dX3_copyFrom_13 : decode cX3_copyFrom 13 = .ok (.invokestatic 15, 3) := by decide +kernel
theorem dX3_copyFrom_16 : decode cX3_copyFrom 16 = .ok (.aload_n 0, 1) := by decide +kernel
theorem dX3_copyFrom_17 : decode cX3_copyFrom 17 = .ok (.aload_n 1, 1) := by decide +kernel
theorem dX3_copyFrom_18 : decode cX3_copyFrom 18 = .ok (.getfield 21, 3) := by decide +kernel
theorem dX3_copyFrom_21 : decode cX3_copyFrom 21 = .ok (.putfield 21, 3) := by decide +kernel
theorem dX3_copyFrom_24 : decode cX3_copyFrom 24 = .ok (.aload_n 0, 1) := by decide +kernel
theorem dX3_copyFrom_25 : decode cX3_copyFrom 25 = .ok (.aload_n 1, 1) := by decide +kernel
theorem dX3_copyFrom_26 : decode cX3_copyFrom 26 = .ok (.getfield 25, 3) := by decide +kernel
theorem dX3_copyFrom_29 : decode cX3_copyFrom 29 = .ok (.putfield 25, 3) := by decide +kernel
theorem dX3_copyFrom_32 : decode cX3_copyFrom 32 = .ok (.return_, 1) := by decide +kernel
theorem dX3_at_0 : decode cX3_at 0 = .ok (.iload_n 1, 1) := by decide +kernel
theorem dX3_at_1 : decode cX3_at 1 = .ok (.ifCond .lt 11, 3) := by decide +kernel
theorem dX3_at_4 : decode cX3_at 4 = .ok (.iload_n 1, 1) := by decide +kernel
theorem dX3_at_5 : decode cX3_at 5 = .ok (.aload_n 0, 1) := by decide +kernel
theorem dX3_at_6 : decode cX3_at 6 = .ok (.getfield 21, 3) := by decide +kernel
theorem dX3_at_9 : decode cX3_at 9 = .ok (.if_icmp .lt 5, 3) := by decide +kernel
theorem dX3_at_12 : decode cX3_at 12 = .ok (.iconst (-1), 1) := by decide +kernel
theorem dX3_at_13 : decode cX3_at 13 = .ok (.ireturn, 1) := by decide +kernel
theorem dX3_at_14 : decode cX3_at 14 = .ok (.aload_n 0, 1) := by decide +kernel
theorem dX3_at_15 : decode cX3_at 15 = .ok (.getfield 9, 3) := by decide +kernel
theorem dX3_at_18 : decode cX3_at 18 = .ok (.aload_n 0, 1) := by decide +kernel
theorem dX3_at_19 : decode cX3_at 19 = .ok (.getfield 25, 3) := by decide +kernel
theorem dX3_at_22 : decode cX3_at 22 = .ok (.iconst 1, 1) := by decide +kernel
theorem dX3_at_23 : decode cX3_at 23 = .ok (.isub, 1) := by decide +kernel
theorem dX3_at_24 : decode cX3_at 24 = .ok (.iload_n 1, 1) := by decide +kernel
theorem dX3_at_25 : decode cX3_at 25 = .ok (.isub, 1) := by decide +kernel
theorem dX3_at_26 : decode cX3_at 26 = .ok (.bipush 60, 2) := by decide +kernel
theorem dX3_at_28 : decode cX3_at 28 = .ok (.invokestatic 34, 3) := by decide +kernel
theorem dX3_at_31 : decode cX3_at 31 = .ok (.iconst 4, 1) := by decide +kernel
theorem dX3_at_32 : decode cX3_at 32 = .ok (.imul, 1) := by decide +kernel
theorem dX3_at_33 : decode cX3_at 33 = .ok (.iload_n 2, 1) := by decide +kernel
theorem dX3_at_34 : decode cX3_at 34 = .ok (.iadd, 1) := by decide +kernel
theorem dX3_at_35 : decode cX3_at 35 = .ok (.iaload, 1) := by decide +kernel
theorem dX3_at_36 : decode cX3_at 36 = .ok (.ireturn, 1) := by decide +kernel
theorem dX4_init_0 : decode cX4_init 0 = .ok (.aload_n 0, 1) := by decide +kernel
theorem dX4_init_1 : decode cX4_init 1 = .ok (.invokespecial 3, 3) := by decide +kernel
theorem dX4_init_4 : decode cX4_init 4 = .ok (.aload_n 0, 1) := by decide +kernel
theorem dX4_init_5 : decode cX4_init 5 = .ok (.bipush 12, 2) := by decide +kernel
theorem dX4_init_7 : decode cX4_init 7 = .ok (.anewarray 9, 3) := by decide +kernel
theorem dX4_init_10 : decode cX4_init 10 = .ok (.putfield 11, 3) := by decide +kernel
theorem dX4_init_13 : decode cX4_init 13 = .ok (.aload_n 0, 1) := by decide +kernel
theorem dX4_init_14 : decode cX4_init 14 = .ok (.bipush 12, 2) := by decide +kernel
theorem dX4_init_16 : decode cX4_init 16 = .ok (.anewarray 17, 3) := by decide +kernel
theorem dX4_init_19 : decode cX4_init 19 = .ok (.putfield 19, 3) := by decide +kernel
theorem dX4_init_22 : decode cX4_init 22 = .ok (.aload_n 0, 1) := by decide +kernel
theorem dX4_init_23 : decode cX4_init 23 = .ok (.new 9, 3) := by decide +kernel
theorem dX4_init_26 : decode cX4_init 26 = .ok (.dup, 1) := by decide +kernel
theorem dX4_init_27 : decode cX4_init 27 = .ok (.invokespecial 23, 3) := by decide +kernel
theorem dX4_init_30 : decode cX4_init 30 = .ok (.putfield 24, 3) := by decide +kernel
theorem dX4_init_33 : decode cX4_init 33 = .ok (.aload_n 0, 1) := by decide +kernel
theorem dX4_init_34 : decode cX4_init 34 = .ok (.new 28, 3) := by decide +kernel
theorem dX4_init_37 : decode cX4_init 37 = .ok (.dup, 1) := by decide +kernel
theorem dX4_init_38 : decode cX4_init 38 = .ok (.invokespecial 30, 3) := by decide +kernel
theorem dX4_init_41 : decode cX4_init 41 = .ok (.putfield 31, 3) := by decide +kernel
theorem dX4_init_44 : decode cX4_init 44 = .ok (.aload_n 0, 1) := by decide +kernel
theorem dX4_init_45 : decode cX4_init 45 = .ok (.new 17, 3) := by decide +kernel
theorem dX4_init_48 : decode cX4_init 48 = .ok (.dup, 1) := by decide +kernel
theorem dX4_init_49 : decode cX4_init 49 = .ok (.invokespecial 35, 3) := by decide +kernel
theorem dX4_init_52 : decode cX4_init 52 = .ok (.putfield 36, 3) := by decide +kernel
theorem dX4_init_55 : decode cX4_init 55 = .ok (.iconst 0, 1) := by decide +kernel
theorem dX4_init_56 : decode cX4_init 56 = .ok (.istore_n 1, 1) := by decide +kernel
theorem dX4_init_57 : decode cX4_init 57 = .ok (.iload_n 1, 1) := by decide +kernel
theorem dX4_init_58 : decode cX4_init 58 = .ok (.bipush 12, 2) := by decide +kernel
theorem dX4_init_60 : decode cX4_init 60 = .ok (.if_icmp .ge 35, 3) := by decide +kernel
theorem dX4_init_63 : decode cX4_init 63 = .ok (.aload_n 0, 1) := by decide +kernel
theorem dX4_init_64 : decode cX4_init 64 = .ok (.getfield 11, 3) := by decide +kernel
theorem dX4_init_67 : decode cX4_init 67 = .ok (.iload_n 1, 1) := by decide +kernel
theorem dX4_init_68 : decode cX4_init 68 = .ok (.new 9, 3) := by decide +kernel
theorem dX4_init_71 : decode cX4_init 71 = .ok (.dup, 1) := by decide +kernel
theorem dX4_init_72 : decode cX4_init 72 = .ok (.invokespecial 23, 3) := by decide +kernel
theorem dX4_init_75 : decode cX4_init 75 = .ok (.aastore, 1) := by decide +kernel
theorem dX4_init_76 : decode cX4_init 76 = .ok (.aload_n 0, 1) := by decide +kernel
theorem dX4_init_77 : decode cX4_init 77 = .ok (.getfield 19, 3) := by decide +kernel
theorem dX4_init_80 : decode cX4_init 80 = .ok (.iload_n 1, 1) := by decide +kernel
theorem dX4_init_81 : decode cX4_init 81 = .ok (.new 17, 3) := by decide +kernel
theorem dX4_init_84 : decode cX4_init 84 = .ok (.dup, 1) := by decide +kernel
theorem dX4_init_85 : decode cX4_init 85 = .ok (.invokespecial 35, 3) := by decide +kernel
theorem dX4_init_88 : decode cX4_init 88 = .ok (.aastore, 1) := by decide +kernel
theorem dX4_init_89 : decode cX4_init 89 = .ok (.iinc 1 1, 3) := by decide +kernel
theorem dX4_init_92 : decode cX4_init 92 = .ok (.goto (-35), 3) := by decide +kernel
theorem dX4_init_95 : decode cX4_init 95 = .ok (.return_, 1) := by decide +kernel
theorem dX4_forget_0 : decode cX4_forget 0 = .ok (.aload_n 0, 1) := by decide +kernel
theorem dX4_forget_1 : decode cX4_forget 1 = .ok (.iconst 0, 1) := by decide +kernel
theorem dX4_forget_2 : decode cX4_forget 2 = .ok (.putfield 40, 3) := by decide +kernel
theorem dX4_forget_5 : decode cX4_forget 5 = .ok (.return_, 1) := by decide +kernel
theorem dX4_remember_0 : decode cX4_remember 0 = .ok (.aload_n 0, 1) := by decide +kernel
theorem dX4_remember_1 : decode cX4_remember 1 = .ok (.getfield 11, 3) := by decide +kernel
theorem dX4_remember_4 : decode cX4_remember 4 = .ok (.aload_n 0, 1) := by decide +kernel
theorem dX4_remember_5 : decode cX4_remember 5 = .ok (.getfield 44, 3) := by decide +kernel
theorem dX4_remember_8 : decode cX4_remember 8 = .ok (.aaload, 1) := by decide +kernel
theorem dX4_remember_9 : decode cX4_remember 9 = .ok (.aload_n 1, 1) := by decide +kernel
theorem dX4_remember_10 : decode cX4_remember 10 = .ok (.invokevirtual 47, 3) := by decide +kernel
theorem dX4_remember_13 : decode cX4_remember 13 = .ok (.aload_n 0, 1) := by decide +kernel
theorem dX4_remember_14 : decode cX4_remember 14 = .ok (.getfield 19, 3) := by decide +kernel
theorem dX4_remember_17 : decode cX4_remember 17 = .ok (.aload_n 0, 1) := by decide +kernel
theorem dX4_remember_18 : decode cX4_remember 18 = .ok (.getfield 44, 3) := by decide +kernel
theorem dX4_remember_21 : decode cX4_remember 21 = .ok (.aaload, 1) := by decide +kernel
theorem dX4_remember_22 : decode cX4_remember 22 = .ok (.aload_n 2, 1) := by decide +kernel
theorem dX4_remember_23 : decode cX4_remember 23 = .ok (.invokevirtual 51, 3) := by decide +kernel
theorem dX4_remember_26 : decode cX4_remember 26 = .ok (.aload_n 0, 1) := by decide +kernel
theorem dX4_remember_27 : decode cX4_remember 27 = .ok (.aload_n 0, 1) := by decide +kernel
theorem dX4_remember_28 : decode cX4_remember 28 = .ok (.getfield 44, 3) := by decide +kernel
theorem dX4_remember_31 : decode cX4_remember 31 = .ok (.iconst 1, 1) := by decide +kernel
theorem dX4_remember_32 : decode cX4_remember 32 = .ok (.iadd, 1) := by decide +kernel
theorem dX4_remember_33 : decode cX4_remember 33 = .ok (.bipush 12, 2) := by decide +kernel
theorem dX4_remember_35 : decode cX4_remember 35 = .ok (.irem, 1) := by decide +kernel
theorem dX4_remember_36 : decode cX4_remember 36 = .ok (.putfield 44, 3) := by decide +kernel
theorem dX4_remember_39 : decode cX4_remember 39 = .ok (.aload_n 0, 1) := by decide +kernel
theorem dX4_remember_40 : decode cX4_remember 40 = .ok (.bipush 12, 2) := by decide +kernel
theorem dX4_remember_42 : decode cX4_remember 42 = .ok (.aload_n 0, 1) := by decide +kernel
theorem dX4_remember_43 : decode cX4_remember 43 = .ok (.getfield 40, 3) := by decide +kernel
theorem dX4_remember_46 : decode cX4_remember 46 = .ok (.iconst 1, 1) := by decide +kernel
theorem dX4_remember_47 : decode cX4_remember 47 = .ok (.iadd, 1) := by decide +kernel
theorem dX4_remember_48 : decode cX4_remember 48 = .ok (.invokestatic 54, 3) := by decide +kernel
theorem dX4_remember_51 : decode cX4_remember 51 = .ok (.putfield 40, 3) := by decide +kernel
theorem dX4_remember_54 : decode cX4_remember 54 = .ok (.return_, 1) := by decide +kernel
theorem dX4_recall_0 : decode cX4_recall 0 = .ok (.aload_n 0, 1) := by decide +kernel
theorem dX4_recall_1 : decode cX4_recall 1 = .ok (.getfield 40, 3) := by decide +kernel
theorem dX4_recall_4 : decode cX4_recall 4 = .ok (.ifCond .ne 5, 3) := by decide +kernel
theorem dX4_recall_7 : decode cX4_recall 7 = .ok (.iconst 0, 1) := by decide +kernel
theorem dX4_recall_8 : decode cX4_recall 8 = .ok (.ireturn, 1) := by decide +kernel
theorem dX4_recall_9 : decode cX4_recall 9 = .ok (.aload_n 0, 1) := by decide +kernel
theorem dX4_recall_10 : decode cX4_recall 10 = .ok (.dup, 1) := by decide +kernel
theorem dX4_recall_11 : decode cX4_recall 11 = .ok (.getfield 40, 3) := by decide +kernel
theorem dX4_recall_14 : decode cX4_recall 14 = .ok (.iconst 1, 1) := by decide +kernel
theorem dX4_recall_15 : decode cX4_recall 15 = .ok (.isub, 1) := by decide +kernel
theorem dX4_recall_16 : decode cX4_recall 16 = .ok (.putfield 40, 3) := by decide +kernel
theorem dX4_recall_19 : decode cX4_recall 19 = .ok (.aload_n 0, 1) := by decide +kernel
theorem dX4_recall_20 : decode cX4_recall 20 = .ok (.aload_n 0, 1) := by decide +kernel
theorem dX4_recall_21 : decode cX4_recall 21 = .ok (.getfield 44, 3) := by decide +kernel
theorem dX4_recall_24 : decode cX4_recall 24 = .ok (.iconst 1, 1) := by decide +kernel
theorem dX4_recall_25 : decode cX4_recall 25 = .ok (.isub, 1) := by decide +kernel
theorem dX4_recall_26 : decode cX4_recall 26 = .ok (.bipush 12, 2) := by decide +kernel
theorem dX4_recall_28 : decode cX4_recall 28 = .ok (.invokestatic 60, 3) := by decide +kernel
theorem dX4_recall_31 : decode cX4_recall 31 = .ok (.putfield 44, 3) := by decide +kernel
theorem dX4_recall_34 : decode cX4_recall 34 = .ok (.aload_n 1, 1) := by decide +kernel
theorem dX4_recall_35 : decode cX4_recall 35 = .ok (.aload_n 0, 1) := by decide +kernel
theorem dX4_recall_36 : decode cX4_recall 36 = .ok (.getfield 11, 3) := by decide +kernel
theorem dX4_recall_39 : decode cX4_recall 39 = .ok (.aload_n 0, 1) := by decide +kernel
theorem dX4_recall_40 : decode cX4_recall 40 = .ok (.getfield 44, 3) := by decide +kernel
theorem dX4_recall_43 : decode cX4_recall 43 = .ok (.aaload, 1) := by decide +kernel
theorem dX4_recall_44 : decode cX4_recall 44 = .ok (.invokevirtual 47, 3) := by decide +kernel
theorem dX4_recall_47 : decode cX4_recall 47 = .ok (.aload_n 2, 1) := by decide +kernel
theorem dX4_recall_48 : decode cX4_recall 48 = .ok (.aload_n 0, 1) := by decide +kernel
theorem dX4_recall_49 : decode cX4_recall 49 = .ok (.getfield 19, 3) := by decide +kernel
theorem dX4_recall_52 : decode cX4_recall 52 = .ok (.aload_n 0, 1) := by decide +kernel
theorem dX4_recall_53 : decode cX4_recall 53 = .ok (.getfield 44, 3) := by decide +kernel
theorem dX4_recall_56 : decode cX4_recall 56 = .ok (.aaload, 1) := by decide +kernel
theorem dX4_recall_57 : decode cX4_recall 57 = .ok (.invokevirtual 51, 3) := by decide +kernel
theorem dX4_recall_60 : decode cX4_recall 60 = .ok (.iconst 1, 1) := by decide +kernel
theorem dX4_recall_61 : decode cX4_recall 61 = .ok (.ireturn, 1) := by decide +kernel
theorem dX4_keepImage_0 : decode cX4_keepImage 0 = .ok (.aload_n 0, 1) := by decide +kernel
theorem dX4_keepImage_1 : decode cX4_keepImage 1 = .ok (.getfield 24, 3) := by decide +kernel
theorem dX4_keepImage_4 : decode cX4_keepImage 4 = .ok (.aload_n 1, 1) := by decide +kernel
theorem dX4_keepImage_5 : decode cX4_keepImage 5 = .ok (.invokevirtual 47, 3) := by decide +kernel
theorem dX4_keepImage_8 : decode cX4_keepImage 8 = .ok (.aload_n 0, 1) := by decide +kernel
theorem dX4_keepImage_9 : decode cX4_keepImage 9 = .ok (.getfield 31, 3) := by decide +kernel
theorem dX4_keepImage_12 : decode cX4_keepImage 12 = .ok (.aload_n 2, 1) := by decide +kernel
theorem dX4_keepImage_13 : decode cX4_keepImage 13 = .ok (.invokevirtual 63, 3) := by decide +kernel
theorem dX4_keepImage_16 : decode cX4_keepImage 16 = .ok (.aload_n 0, 1) := by decide +kernel
theorem dX4_keepImage_17 : decode cX4_keepImage 17 = .ok (.getfield 36, 3) := by decide +kernel
theorem dX4_keepImage_20 : decode cX4_keepImage 20 = .ok (.aload_n 3, 1) := by decide +kernel
theorem dX4_keepImage_21 : decode cX4_keepImage 21 = .ok (.invokevirtual 51, 3) := by decide +kernel
theorem dX4_keepImage_24 : decode cX4_keepImage 24 = .ok (.aload_n 0, 1) := by decide +kernel
theorem dX4_keepImage_25 : decode cX4_keepImage 25 = .ok (.iconst 1, 1) := by decide +kernel
theorem dX4_keepImage_26 : decode cX4_keepImage 26 = .ok (.putfield 66, 3) := by decide +kernel
theorem dX4_keepImage_29 : decode cX4_keepImage 29 = .ok (.return_, 1) := by decide +kernel
theorem dX4_giveBackImage_0 : decode cX4_giveBackImage 0 = .ok (.aload_n 0, 1) := by decide +kernel
theorem dX4_giveBackImage_1 : decode cX4_giveBackImage 1 = .ok (.getfield 66, 3) := by decide +kernel
theorem dX4_giveBackImage_4 : decode cX4_giveBackImage 4 = .ok (.ifCond .ne 5, 3) := by decide +kernel
theorem dX4_giveBackImage_7 : decode cX4_giveBackImage 7 = .ok (.iconst 0, 1) := by decide +kernel
theorem dX4_giveBackImage_8 : decode cX4_giveBackImage 8 = .ok (.ireturn, 1) := by decide +kernel
theorem dX4_giveBackImage_9 : decode cX4_giveBackImage 9 = .ok (.aload_n 1, 1) := by decide +kernel
theorem dX4_giveBackImage_10 : decode cX4_giveBackImage 10 = .ok (.aload_n 0, 1) := by decide +kernel
theorem dX4_giveBackImage_11 : decode cX4_giveBackImage 11 = .ok (.getfield 24, 3) := by decide +kernel
theorem dX4_giveBackImage_14 : decode cX4_giveBackImage 14 = .ok (.invokevirtual 47, 3) := by decide +kernel
theorem dX4_giveBackImage_17 : decode cX4_giveBackImage 17 = .ok (.aload_n 2, 1) := by decide +kernel
theorem dX4_giveBackImage_18 : decode cX4_giveBackImage 18 = .ok (.aload_n 0, 1) := by decide +kernel
theorem dX4_giveBackImage_19 : decode cX4_giveBackImage 19 = .ok (.getfield 31, 3) := by decide +kernel
theorem dX4_giveBackImage_22 : decode cX4_giveBackImage 22 = .ok (.invokevirtual 63, 3) := by decide +kernel
theorem dX4_giveBackImage_25 : decode cX4_giveBackImage 25 = .ok (.aload_n 3, 1) := by decide +kernel
theorem dX4_giveBackImage_26 : decode cX4_giveBackImage 26 = .ok (.aload_n 0, 1) := by decide +kernel
theorem dX4_giveBackImage_27 : decode cX4_giveBackImage 27 = .ok (.getfield 36, 3) := by decide +kernel
theorem dX4_giveBackImage_30 : decode cX4_giveBackImage 30 = .ok (.invokevirtual 51, 3) := by decide +kernel
theorem dX4_giveBackImage_33 : decode cX4_giveBackImage 33 = .ok (.aload_n 0, 1) := by decide +kernel
theorem dX4_giveBackImage_34 : decode cX4_giveBackImage 34 = .ok (.invokevirtual 70, 3) := by decide +kernel
theorem dX4_giveBackImage_37 : decode cX4_giveBackImage 37 = .ok (.iconst 1, 1) := by decide +kernel
theorem dX4_giveBackImage_38 : decode cX4_giveBackImage 38 = .ok (.ireturn, 1) := by decide +kernel
theorem dX5_init_0 : decode cX5_init 0 = .ok (.aload_n 0, 1) := by decide +kernel
theorem dX5_init_1 : decode cX5_init 1 = .ok (.invokespecial 3, 3) := by decide +kernel
theorem dX5_init_4 : decode cX5_init 4 = .ok (.aload_n 0, 1) := by decide +kernel
theorem dX5_init_5 : decode cX5_init 5 = .ok (.sipush 256, 3) := by decide +kernel
theorem dX5_init_8 : decode cX5_init 8 = .ok (.newarray .boolean, 2) := by decide +kernel
theorem dX5_init_10 : decode cX5_init 10 = .ok (.putfield 9, 3) := by decide +kernel
theorem dX5_init_13 : decode cX5_init 13 = .ok (.return_, 1) := by decide +kernel
theorem dX5_hear_0 : decode cX5_hear 0 = .ok (.aload_n 0, 1) := by decide +kernel
theorem dX5_hear_1 : decode cX5_hear 1 = .ok (.iload_n 3, 1) := by decide +kernel
theorem dX5_hear_2 : decode cX5_hear 2 = .ok (.bipush 8, 2) := by decide +kernel
theorem dX5_hear_4 : decode cX5_hear 4 = .ok (.invokestatic 15, 3) := by decide +kernel
theorem dX5_hear_7 : decode cX5_hear 7 = .ok (.putfield 21, 3) := by decide +kernel
theorem dX5_hear_10 : decode cX5_hear 10 = .ok (.aload_n 0, 1) := by decide +kernel
theorem dX5_hear_11 : decode cX5_hear 11 = .ok (.iconst 0, 1) := by decide +kernel
theorem dX5_hear_12 : decode cX5_hear 12 = .ok (.putfield 25, 3) := by decide +kernel
theorem dX5_hear_15 : decode cX5_hear 15 = .ok (.iconst 0, 1) := by decide +kernel
theorem dX5_hear_16 : decode cX5_hear 16 = .ok (.istore 4, 2) := by decide +kernel
theorem dX5_hear_18 : decode cX5_hear 18 = .ok (.iload 4, 2) := by decide +kernel
theorem dX5_hear_20 : decode cX5_hear 20 = .ok (.iconst 1, 1) := by decide +kernel
theorem dX5_hear_21 : decode cX5_hear 21 = .ok (.aload_n 0, 1) := by decide +kernel
theorem dX5_hear_22 : decode cX5_hear 22 = .ok (.getfield 21, 3) := by decide +kernel
theorem dX5_hear_25 : decode cX5_hear 25 = .ok (.ishl, 1) := by decide +kernel
theorem dX5_hear_26 : decode cX5_hear 26 = .ok (.if_icmp .ge 44, 3) := by decide +kernel
theorem dX5_hear_29 : decode cX5_hear 29 = .ok (.aload_n 0, 1) := by decide +kernel
theorem dX5_hear_30 : decode cX5_hear 30 = .ok (.getfield 9, 3) := by decide +kernel
theorem dX5_hear_33 : decode cX5_hear 33 = .ok (.iload 4, 2) := by decide +kernel
theorem dX5_hear_35 : decode cX5_hear 35 = .ok (.aload_n 0, 1) := by decide +kernel
theorem dX5_hear_36 : decode cX5_hear 36 = .ok (.aload_n 1, 1) := by decide +kernel
theorem dX5_hear_37 : decode cX5_hear 37 = .ok (.iload_n 2, 1) := by decide +kernel
theorem dX5_hear_38 : decode cX5_hear 38 = .ok (.iload 4, 2) := by decide +kernel
theorem dX5_hear_40 : decode cX5_hear 40 = .ok (.invokevirtual 28, 3) := by decide +kernel
theorem dX5_hear_43 : decode cX5_hear 43 = .ok (.bastore, 1) := by decide +kernel
theorem dX5_hear_44 : decode cX5_hear 44 = .ok (.aload_n 0, 1) := by decide +kernel
theorem dX5_hear_45 : decode cX5_hear 45 = .ok (.getfield 9, 3) := by decide +kernel
theorem dX5_hear_48 : decode cX5_hear 48 = .ok (.iload 4, 2) := by decide +kernel
theorem dX5_hear_50 : decode cX5_hear 50 = .ok (.baload, 1) := by decide +kernel
theorem dX5_hear_51 : decode cX5_hear 51 = .ok (.ifCond .eq 13, 3) := by decide +kernel
theorem dX5_hear_54 : decode cX5_hear 54 = .ok (.aload_n 0, 1) := by decide +kernel
theorem dX5_hear_55 : decode cX5_hear 55 = .ok (.dup, 1) := by decide +kernel
theorem dX5_hear_56 : decode cX5_hear 56 = .ok (.getfield 25, 3) := by decide +kernel
theorem dX5_hear_59 : decode cX5_hear 59 = .ok (.iconst 1, 1) := by decide +kernel
theorem dX5_hear_60 : decode cX5_hear 60 = .ok (.iadd, 1) := by decide +kernel
theorem dX5_hear_61 : decode cX5_hear 61 = .ok (.putfield 25, 3) := by decide +kernel
theorem dX5_hear_64 : decode cX5_hear 64 = .ok (.iinc 4 1, 3) := by decide +kernel
theorem dX5_hear_67 : decode cX5_hear 67 = .ok (.goto (-49), 3) := by decide +kernel
theorem dX5_hear_70 : decode cX5_hear 70 = .ok (.return_, 1) := by decide +kernel
theorem dX5_fitsAll_0 : decode cX5_fitsAll 0 = .ok (.iconst 0, 1) := by decide +kernel
theorem dX5_fitsAll_1 : decode cX5_fitsAll 1 = .ok (.istore 4, 2) := by decide +kernel
theorem dX5_fitsAll_3 : decode cX5_fitsAll 3 = .ok (.iload 4, 2) := by decide +kernel
theorem dX5_fitsAll_5 : decode cX5_fitsAll 5 = .ok (.iconst 2, 1) := by decide +kernel
theorem dX5_fitsAll_6 : decode cX5_fitsAll 6 = .ok (.iadd, 1) := by decide +kernel
theorem dX5_fitsAll_7 : decode cX5_fitsAll 7 = .ok (.iload_n 2, 1) := by decide +kernel
theorem dX5_fitsAll_8 : decode cX5_fitsAll 8 = .ok (.if_icmp .ge 63, 3) := by decide +kernel
theorem dX5_fitsAll_11 : decode cX5_fitsAll 11 = .ok (.iload 4, 2) := by decide +kernel
theorem dX5_fitsAll_13 : decode cX5_fitsAll 13 = .ok (.iconst 2, 1) := by decide +kernel
theorem dX5_fitsAll_14 : decode cX5_fitsAll 14 = .ok (.iadd, 1) := by decide +kernel
theorem dX5_fitsAll_15 : decode cX5_fitsAll 15 = .ok (.sipush 400, 3) := by decide +kernel
theorem dX5_fitsAll_18 : decode cX5_fitsAll 18 = .ok (.if_icmp .ge 53, 3) := by decide +kernel
theorem dX5_fitsAll_21 : decode cX5_fitsAll 21 = .ok (.aload_n 0, 1) := by decide +kernel
theorem dX5_fitsAll_22 : decode cX5_fitsAll 22 = .ok (.iload_n 3, 1) := by decide +kernel
theorem dX5_fitsAll_23 : decode cX5_fitsAll 23 = .ok (.aload_n 1, 1) := by decide +kernel
theorem dX5_fitsAll_24 : decode cX5_fitsAll 24 = .ok (.getfield 32, 3) := by decide +kernel
theorem dX5_fitsAll_27 : decode cX5_fitsAll 27 = .ok (.iload 4, 2) := by decide +kernel
theorem dX5_fitsAll_29 : decode cX5_fitsAll 29 = .ok (.iaload, 1) := by decide +kernel
theorem dX5_fitsAll_30 : decode cX5_fitsAll 30 = .ok (.aload_n 1, 1) := by decide +kernel
theorem dX5_fitsAll_31 : decode cX5_fitsAll 31 = .ok (.getfield 32, 3) := by decide +kernel
theorem dX5_fitsAll_34 : decode cX5_fitsAll 34 = .ok (.iload 4, 2) := by decide +kernel
theorem dX5_fitsAll_36 : decode cX5_fitsAll 36 = .ok (.iconst 1, 1) := by decide +kernel
theorem dX5_fitsAll_37 : decode cX5_fitsAll 37 = .ok (.iadd, 1) := by decide +kernel
theorem dX5_fitsAll_38 : decode cX5_fitsAll 38 = .ok (.iaload, 1) := by decide +kernel
theorem dX5_fitsAll_39 : decode cX5_fitsAll 39 = .ok (.invokevirtual 38, 3) := by decide +kernel
theorem dX5_fitsAll_42 : decode cX5_fitsAll 42 = .ok (.aload_n 1, 1) := by decide +kernel
theorem dX5_fitsAll_43 : decode cX5_fitsAll 43 = .ok (.getfield 32, 3) := by decide +kernel
theorem dX5_fitsAll_46 : decode cX5_fitsAll 46 = .ok (.iload 4, 2) := by decide +kernel
theorem dX5_fitsAll_48 : decode cX5_fitsAll 48 = .ok (.iconst 2, 1) := by decide +kernel
theorem dX5_fitsAll_49 : decode cX5_fitsAll 49 = .ok (.iadd, 1) := by decide +kernel
theorem dX5_fitsAll_50 : decode cX5_fitsAll 50 = .ok (.iaload, 1) := by decide +kernel
theorem dX5_fitsAll_51 : decode cX5_fitsAll 51 = .ok (.iconst 1, 1) := by decide +kernel
theorem dX5_fitsAll_52 : decode cX5_fitsAll 52 = .ok (.if_icmp .ne 7, 3) := by decide +kernel
theorem dX5_fitsAll_55 : decode cX5_fitsAll 55 = .ok (.iconst 1, 1) := by decide +kernel
theorem dX5_fitsAll_56 : decode cX5_fitsAll 56 = .ok (.goto 4, 3) := by decide +kernel
theorem dX5_fitsAll_59 : decode cX5_fitsAll 59 = .ok (.iconst 0, 1) := by decide +kernel
theorem dX5_fitsAll_60 : decode cX5_fitsAll 60 = .ok (.if_icmp .eq 5, 3) := by decide +kernel
theorem dX5_fitsAll_63 : decode cX5_fitsAll 63 = .ok (.iconst 0, 1) := by decide +kernel
theorem dX5_fitsAll_64 : decode cX5_fitsAll 64 = .ok (.ireturn, 1) := by decide +kernel
theorem dX5_fitsAll_65 : decode cX5_fitsAll 65 = .ok (.iinc 4 3, 3) := by decide +kernel
theorem dX5_fitsAll_68 : decode cX5_fitsAll 68 = .ok (.goto (-65), 3) := by decide +kernel
theorem dX5_fitsAll_71 : decode cX5_fitsAll 71 = .ok (.iconst 1, 1) := by decide +kernel
theorem dX5_fitsAll_72 : decode cX5_fitsAll 72 = .ok (.ireturn, 1) := by decide +kernel
theorem dX5_honestInAll_0 : decode cX5_honestInAll 0 = .ok (.aload_n 0, 1) := by decide +kernel
theorem dX5_honestInAll_1 : decode cX5_honestInAll 1 = .ok (.getfield 25, 3) := by decide +kernel
theorem dX5_honestInAll_4 : decode cX5_honestInAll 4 = .ok (.ifCond .ne 7, 3) := by decide +kernel
theorem dX5_honestInAll_7 : decode cX5_honestInAll 7 = .ok (.iconst 0, 1) := by decide +kernel
theorem dX5_honestInAll_8 : decode cX5_honestInAll 8 = .ok (.goto 11, 3) := by decide +kernel
theorem dX5_honestInAll_11 : decode cX5_honestInAll 11 = .ok (.iconst 1, 1) := by decide +kernel
theorem dX5_honestInAll_12 : decode cX5_honestInAll 12 = .ok (.aload_n 0, 1) := by decide +kernel
theorem dX5_honestInAll_13 : decode cX5_honestInAll 13 = .ok (.getfield 21, 3) := by decide +kernel
theorem dX5_honestInAll_16 : decode cX5_honestInAll 16 = .ok (.ishl, 1) := by decide +kernel
theorem dX5_honestInAll_17 : decode cX5_honestInAll 17 = .ok (.iconst 1, 1) := by decide +kernel
theorem dX5_honestInAll_18 : decode cX5_honestInAll 18 = .ok (.isub, 1) := by decide +kernel
theorem dX5_honestInAll_19 : decode cX5_honestInAll 19 = .ok (.istore_n 1, 1) := by decide +kernel
theorem dX5_honestInAll_20 : decode cX5_honestInAll 20 = .ok (.iconst 0, 1) := by decide +kernel
theorem dX5_honestInAll_21 : decode cX5_honestInAll 21 = .ok (.istore_n 2, 1) := by decide +kernel
theorem dX5_honestInAll_22 : decode cX5_honestInAll 22 = .ok (.iload_n 2, 1) := by decide +kernel
theorem dX5_honestInAll_23 : decode cX5_honestInAll 23 = .ok (.iconst 1, 1) := by decide +kernel
theorem dX5_honestInAll_24 : decode cX5_honestInAll 24 = .ok (.aload_n 0, 1) := by decide +kernel
theorem dX5_honestInAll_25 : decode cX5_honestInAll 25 = .ok (.getfield 21, 3) := by decide +kernel
theorem dX5_honestInAll_28 : decode cX5_honestInAll 28 = .ok (.ishl, 1) := by decide +kernel
theorem dX5_honestInAll_29 : decode cX5_honestInAll 29 = .ok (.if_icmp .ge 22, 3) := by decide +kernel
theorem dX5_honestInAll_32 : decode cX5_honestInAll 32 = .ok (.aload_n 0, 1) := by decide +kernel
theorem dX5_honestInAll_33 : decode cX5_honestInAll 33 = .ok (.getfield 9, 3) := by decide +kernel
theorem dX5_honestInAll_36 : decode cX5_honestInAll 36 = .ok (.iload_n 2, 1) := by decide +kernel
theorem dX5_honestInAll_37 : decode cX5_honestInAll 37 = .ok (.baload, 1) := by decide +kernel
theorem dX5_honestInAll_38 : decode cX5_honestInAll 38 = .ok (.ifCond .eq 7, 3) := by decide +kernel
theorem dX5_honestInAll_41 : decode cX5_honestInAll 41 = .ok (.iload_n 1, 1) := by decide +kernel
theorem dX5_honestInAll_42 : decode cX5_honestInAll 42 = .ok (.iload_n 2, 1) := by decide +kernel
theorem dX5_honestInAll_43 : decode cX5_honestInAll 43 = .ok (.iand, 1) := by decide +kernel
theorem dX5_honestInAll_44 : decode cX5_honestInAll 44 = .ok (.istore_n 1, 1) := by decide +kernel
theorem dX5_honestInAll_45 : decode cX5_honestInAll 45 = .ok (.iinc 2 1, 3) := by decide +kernel
theorem dX5_honestInAll_48 : decode cX5_honestInAll 48 = .ok (.goto (-26), 3) := by decide +kernel
theorem dX5_honestInAll_51 : decode cX5_honestInAll 51 = .ok (.iload_n 1, 1) := by decide +kernel
theorem dX5_honestInAll_52 : decode cX5_honestInAll 52 = .ok (.ireturn, 1) := by decide +kernel
theorem dX5_bestQuestion_0 : decode cX5_bestQuestion 0 = .ok (.iconst (-1), 1) := by decide +kernel
theorem dX5_bestQuestion_1 : decode cX5_bestQuestion 1 = .ok (.istore_n 1, 1) := by decide +kernel
theorem dX5_bestQuestion_2 : decode cX5_bestQuestion 2 = .ok (.iconst 0, 1) := by decide +kernel
theorem dX5_bestQuestion_3 : decode cX5_bestQuestion 3 = .ok (.istore_n 2, 1) := by decide +kernel
theorem dX5_bestQuestion_4 : decode cX5_bestQuestion 4 = .ok (.iconst 0, 1) := by decide +kernel
theorem dX5_bestQuestion_5 : decode cX5_bestQuestion 5 = .ok (.istore_n 3, 1) := by decide +kernel
theorem dX5_bestQuestion_6 : decode cX5_bestQuestion 6 = .ok (.iload_n 3, 1) := by decide +kernel
theorem dX5_bestQuestion_7 : decode cX5_bestQuestion 7 = .ok (.aload_n 0, 1) := by decide +kernel
theorem dX5_bestQuestion_8 : decode cX5_bestQuestion 8 = .ok (.getfield 21, 3) := by decide +kernel
theorem dX5_bestQuestion_11 : decode cX5_bestQuestion 11 = .ok (.if_icmp .ge 72, 3) := by decide +kernel
theorem dX5_bestQuestion_14 : decode cX5_bestQuestion 14 = .ok (.aload_n 0, 1) := by decide +kernel
theorem dX5_bestQuestion_15 : decode cX5_bestQuestion 15 = .ok (.getfield 25, 3) := by decide +kernel
theorem dX5_bestQuestion_18 : decode cX5_bestQuestion 18 = .ok (.iconst 2, 1) := by decide +kernel
theorem dX5_bestQuestion_19 : decode cX5_bestQuestion 19 = .ok (.if_icmp .lt 64, 3) := by decide +kernel
theorem dX5_bestQuestion_22 : decode cX5_bestQuestion 22 = .ok (.iconst 0, 1) := by decide +kernel
theorem dX5_bestQuestion_23 : decode cX5_bestQuestion 23 = .ok (.istore 4, 2) := by decide +kernel
theorem dX5_bestQuestion_25 : decode cX5_bestQuestion 25 = .ok (.iload 4, 2) := by decide +kernel
theorem dX5_bestQuestion_27 : decode cX5_bestQuestion 27 = .ok (.aload_n 0, 1) := by decide +kernel
theorem dX5_bestQuestion_28 : decode cX5_bestQuestion 28 = .ok (.getfield 21, 3) := by decide +kernel
theorem dX5_bestQuestion_31 : decode cX5_bestQuestion 31 = .ok (.if_icmp .ge 46, 3) := by decide +kernel
theorem dX5_bestQuestion_34 : decode cX5_bestQuestion 34 = .ok (.aload_n 0, 1) := by decide +kernel
theorem dX5_bestQuestion_35 : decode cX5_bestQuestion 35 = .ok (.iload_n 3, 1) := by decide +kernel
theorem dX5_bestQuestion_36 : decode cX5_bestQuestion 36 = .ok (.iload 4, 2) := by decide +kernel
theorem dX5_bestQuestion_38 : decode cX5_bestQuestion 38 = .ok (.invokevirtual 42, 3) := by decide +kernel
theorem dX5_bestQuestion_41 : decode cX5_bestQuestion 41 = .ok (.istore 5, 2) := by decide +kernel
theorem dX5_bestQuestion_43 : decode cX5_bestQuestion 43 = .ok (.iload_n 3, 1) := by decide +kernel
theorem dX5_bestQuestion_44 : decode cX5_bestQuestion 44 = .ok (.iload 4, 2) := by decide +kernel
theorem dX5_bestQuestion_46 : decode cX5_bestQuestion 46 = .ok (.if_icmp .eq 25, 3) := by decide +kernel
theorem dX5_bestQuestion_49 : decode cX5_bestQuestion 49 = .ok (.iload_n 1, 1) := by decide +kernel
theorem dX5_bestQuestion_50 : decode cX5_bestQuestion 50 = .ok (.iconst (-1), 1) := by decide +kernel
theorem dX5_bestQuestion_51 : decode cX5_bestQuestion 51 = .ok (.if_icmp .eq 9, 3) := by decide +kernel
theorem dX5_bestQuestion_54 : decode cX5_bestQuestion 54 = .ok (.iload 5, 2) := by decide +kernel
theorem dX5_bestQuestion_56 : decode cX5_bestQuestion 56 = .ok (.iload_n 2, 1) := by decide +kernel
theorem dX5_bestQuestion_57 : decode cX5_bestQuestion 57 = .ok (.if_icmp .ge 14, 3) := by decide +kernel
theorem dX5_bestQuestion_60 : decode cX5_bestQuestion 60 = .ok (.bipush 10, 2) := by decide +kernel
theorem dX5_bestQuestion_62 : decode cX5_bestQuestion 62 = .ok (.iload_n 3, 1) := by decide +kernel
theorem dX5_bestQuestion_63 : decode cX5_bestQuestion 63 = .ok (.imul, 1) := by decide +kernel
theorem dX5_bestQuestion_64 : decode cX5_bestQuestion 64 = .ok (.iload 4, 2) := by decide +kernel
theorem dX5_bestQuestion_66 : decode cX5_bestQuestion 66 = .ok (.iadd, 1) := by decide +kernel
theorem dX5_bestQuestion_67 : decode cX5_bestQuestion 67 = .ok (.istore_n 1, 1) := by decide +kernel
theorem dX5_bestQuestion_68 : decode cX5_bestQuestion 68 = .ok (.iload 5, 2) := by decide +kernel
theorem dX5_bestQuestion_70 : decode cX5_bestQuestion 70 = .ok (.istore_n 2, 1) := by decide +kernel
theorem dX5_bestQuestion_71 : decode cX5_bestQuestion 71 = .ok (.iinc 4 1, 3) := by decide +kernel
theorem dX5_bestQuestion_74 : decode cX5_bestQuestion 74 = .ok (.goto (-49), 3) := by decide +kernel
theorem dX5_bestQuestion_77 : decode cX5_bestQuestion 77 = .ok (.iinc 3 1, 3) := by decide +kernel
theorem dX5_bestQuestion_80 : decode cX5_bestQuestion 80 = .ok (.goto (-74), 3) := by decide +kernel
theorem dX5_bestQuestion_83 : decode cX5_bestQuestion 83 = .ok (.iload_n 1, 1) := by decide +kernel
theorem dX5_bestQuestion_84 : decode cX5_bestQuestion 84 = .ok (.ireturn, 1) := by decide +kernel
theorem dX5_odds_0 : decode cX5_odds 0 = .ok (.iload_n 0, 1) := by decide +kernel
theorem dX5_odds_1 : decode cX5_odds 1 = .ok (.i2l, 1) := by decide +kernel
theorem dX5_odds_2 : decode cX5_odds 2 = .ok (.lstore_n 2, 1) := by decide +kernel
theorem dX5_odds_3 : decode cX5_odds 3 = .ok (.bipush 100, 2) := by decide +kernel
theorem dX5_odds_5 : decode cX5_odds 5 = .ok (.iload_n 0, 1) := by decide +kernel
theorem dX5_odds_6 : decode cX5_odds 6 = .ok (.isub, 1) := by decide +kernel
theorem dX5_odds_7 : decode cX5_odds 7 = .ok (.i2l, 1) := by decide +kernel
theorem dX5_odds_8 : decode cX5_odds 8 = .ok (.lstore 4, 2) := by decide +kernel
theorem dX5_odds_10 : decode cX5_odds 10 = .ok (.iconst 0, 1) := by decide +kernel
theorem dX5_odds_11 : decode cX5_odds 11 = .ok (.istore 6, 2) := by decide +kernel
theorem dX5_odds_13 : decode cX5_odds 13 = .ok (.iload 6, 2) := by decide +kernel
theorem dX5_odds_15 : decode cX5_odds 15 = .ok (.iload_n 1, 1) := by decide +kernel
theorem dX5_odds_16 : decode cX5_odds 16 = .ok (.if_icmp .ge 15, 3) := by decide +kernel
theorem dX5_odds_19 : decode cX5_odds 19 = .ok (.lload_n 2, 1) := by decide +kernel
theorem dX5_odds_20 : decode cX5_odds 20 = .ok (.ldc2_w 48, 3) := by decide +kernel
theorem dX5_odds_23 : decode cX5_odds 23 = .ok (.lmul, 1) := by decide +kernel
theorem dX5_odds_24 : decode cX5_odds 24 = .ok (.lstore_n 2, 1) := by decide +kernel
theorem dX5_odds_25 : decode cX5_odds 25 = .ok (.iinc 6 1, 3) := by decide +kernel
theorem dX5_odds_28 : decode cX5_odds 28 = .ok (.goto (-15), 3) := by decide +kernel
theorem dX5_odds_31 : decode cX5_odds 31 = .ok (.iconst 0, 1) := by decide +kernel
theorem dX5_odds_32 : decode cX5_odds 32 = .ok (.istore 6, 2) := by decide +kernel
theorem dX5_odds_34 : decode cX5_odds 34 = .ok (.iload 6, 2) := by decide +kernel
theorem dX5_odds_36 : decode cX5_odds 36 = .ok (.iload_n 1, 1) := by decide +kernel
theorem dX5_odds_37 : decode cX5_odds 37 = .ok (.ineg, 1) := by decide +kernel
theorem dX5_odds_38 : decode cX5_odds 38 = .ok (.if_icmp .ge 17, 3) := by decide +kernel
theorem dX5_odds_41 : decode cX5_odds 41 = .ok (.lload 4, 2) := by decide +kernel
theorem dX5_odds_43 : decode cX5_odds 43 = .ok (.ldc2_w 48, 3) := by decide +kernel
theorem dX5_odds_46 : decode cX5_odds 46 = .ok (.lmul, 1) := by decide +kernel
theorem dX5_odds_47 : decode cX5_odds 47 = .ok (.lstore 4, 2) := by decide +kernel
theorem dX5_odds_49 : decode cX5_odds 49 = .ok (.iinc 6 1, 3) := by decide +kernel
theorem dX5_odds_52 : decode cX5_odds 52 = .ok (.goto (-18), 3) := by decide +kernel
theorem dX5_odds_55 : decode cX5_odds 55 = .ok (.lload_n 2, 1) := by decide +kernel
theorem dX5_odds_56 : decode cX5_odds 56 = .ok (.lload 4, 2) := by decide +kernel
theorem dX5_odds_58 : decode cX5_odds 58 = .ok (.ladd, 1) := by decide +kernel
theorem dX5_odds_59 : decode cX5_odds 59 = .ok (.lconst 0, 1) := by decide +kernel
theorem dX5_odds_60 : decode cX5_odds 60 = .ok (.lcmp, 1) := by decide +kernel
theorem dX5_odds_61 : decode cX5_odds 61 = .ok (.ifCond .gt 7, 3) := by decide +kernel
theorem dX5_odds_64 : decode cX5_odds 64 = .ok (.iconst 0, 1) := by decide +kernel
theorem dX5_odds_65 : decode cX5_odds 65 = .ok (.goto 14, 3) := by decide +kernel
theorem dX5_odds_68 : decode cX5_odds 68 = .ok (.ldc2_w 50, 3) := by decide +kernel
theorem dX5_odds_71 : decode cX5_odds 71 = .ok (.lload_n 2, 1) := by decide +kernel
theorem dX5_odds_72 : decode cX5_odds 72 = .ok (.lmul, 1) := by decide +kernel
theorem dX5_odds_73 : decode cX5_odds 73 = .ok (.lload_n 2, 1) := by decide +kernel
theorem dX5_odds_74 : decode cX5_odds 74 = .ok (.lload 4, 2) := by decide +kernel
theorem dX5_odds_76 : decode cX5_odds 76 = .ok (.ladd, 1) := by decide +kernel
theorem dX5_odds_77 : decode cX5_odds 77 = .ok (.ldiv, 1) := by decide +kernel
theorem dX5_odds_78 : decode cX5_odds 78 = .ok (.l2i, 1) := by decide +kernel
theorem dX5_odds_79 : decode cX5_odds 79 = .ok (.ireturn, 1) := by decide +kernel
theorem dX5_fewestNeeded_0 : decode cX5_fewestNeeded 0 = .ok (.iconst 0, 1) := by decide +kernel
theorem dX5_fewestNeeded_1 : decode cX5_fewestNeeded 1 = .ok (.istore_n 2, 1) := by decide +kernel
theorem dX5_fewestNeeded_2 : decode cX5_fewestNeeded 2 = .ok (.iload_n 2, 1) := by decide +kernel
theorem dX5_fewestNeeded_3 : decode cX5_fewestNeeded 3 = .ok (.bipush 20, 2) := by decide +kernel
theorem dX5_fewestNeeded_5 : decode cX5_fewestNeeded 5 = .ok (.if_icmp .gt 32, 3) := by decide +kernel
theorem dX5_fewestNeeded_8 : decode cX5_fewestNeeded 8 = .ok (.iload_n 1, 1) := by decide +kernel
theorem dX5_fewestNeeded_9 : decode cX5_fewestNeeded 9 = .ok (.iload_n 2, 1) := by decide +kernel
theorem dX5_fewestNeeded_10 : decode cX5_fewestNeeded 10 = .ok (.iadd, 1) := by decide +kernel
theorem dX5_fewestNeeded_11 : decode cX5_fewestNeeded 11 = .ok (.bipush 12, 2) := by decide +kernel
theorem dX5_fewestNeeded_13 : decode cX5_fewestNeeded 13 = .ok (.if_icmp .gt 24, 3) := by decide +kernel
theorem dX5_fewestNeeded_16 : decode cX5_fewestNeeded 16 = .ok (.iload_n 0, 1) := by decide +kernel
theorem dX5_fewestNeeded_17 : decode cX5_fewestNeeded 17 = .ok (.iload_n 1, 1) := by decide +kernel
theorem dX5_fewestNeeded_18 : decode cX5_fewestNeeded 18 = .ok (.iload_n 2, 1) := by decide +kernel
theorem dX5_fewestNeeded_19 : decode cX5_fewestNeeded 19 = .ok (.iadd, 1) := by decide +kernel
theorem dX5_fewestNeeded_20 : decode cX5_fewestNeeded 20 = .ok (.invokestatic 52, 3) := by decide +kernel
theorem dX5_fewestNeeded_23 : decode cX5_fewestNeeded 23 = .ok (.sipush 9900, 3) := by decide +kernel
theorem dX5_fewestNeeded_26 : decode cX5_fewestNeeded 26 = .ok (.if_icmp .lt 5, 3) := by decide +kernel
theorem dX5_fewestNeeded_29 : decode cX5_fewestNeeded 29 = .ok (.iload_n 2, 1) := by decide +kernel
theorem dX5_fewestNeeded_30 : decode cX5_fewestNeeded 30 = .ok (.ireturn, 1) := by decide +kernel
theorem dX5_fewestNeeded_31 : decode cX5_fewestNeeded 31 = .ok (.iinc 2 1, 3) := by decide +kernel
theorem dX5_fewestNeeded_34 : decode cX5_fewestNeeded 34 = .ok (.goto (-32), 3) := by decide +kernel
theorem dX5_fewestNeeded_37 : decode cX5_fewestNeeded 37 = .ok (.iconst (-1), 1) := by decide +kernel
theorem dX5_fewestNeeded_38 : decode cX5_fewestNeeded 38 = .ok (.ireturn, 1) := by decide +kernel
theorem dX6_init_0 : decode cX6_init 0 = .ok (.aload_n 0, 1) := by decide +kernel
theorem dX6_init_1 : decode cX6_init 1 = .ok (.invokespecial 3, 3) := by decide +kernel
theorem dX6_init_4 : decode cX6_init 4 = .ok (.aload_n 0, 1) := by decide +kernel
theorem dX6_init_5 : decode cX6_init 5 = .ok (.sipush 400, 3) := by decide +kernel
theorem dX6_init_8 : decode cX6_init 8 = .ok (.newarray .int, 2) := by decide +kernel
theorem dX6_init_10 : decode cX6_init 10 = .ok (.putfield 9, 3) := by decide +kernel
theorem dX6_init_13 : decode cX6_init 13 = .ok (.aload_n 0, 1) := by decide +kernel
theorem dX6_init_14 : decode cX6_init 14 = .ok (.iconst (-1), 1) := by decide +kernel
theorem dX6_init_15 : decode cX6_init 15 = .ok (.putfield 15, 3) := by decide +kernel
theorem dX6_init_18 : decode cX6_init 18 = .ok (.return_, 1) := by decide +kernel
theorem dX6_add_0 : decode cX6_add 0 = .ok (.bipush 24, 2) := by decide +kernel
theorem dX6_add_2 : decode cX6_add 2 = .ok (.istore_n 2, 1) := by decide +kernel
theorem dX6_add_3 : decode cX6_add 3 = .ok (.iload_n 2, 1) := by decide +kernel
theorem dX6_add_4 : decode cX6_add 4 = .ok (.ifCond .lt 45, 3) := by decide +kernel
theorem dX6_add_7 : decode cX6_add 7 = .ok (.aload_n 0, 1) := by decide +kernel
theorem dX6_add_8 : decode cX6_add 8 = .ok (.getfield 19, 3) := by decide +kernel
theorem dX6_add_11 : decode cX6_add 11 = .ok (.sipush 400, 3) := by decide +kernel
theorem dX6_add_14 : decode cX6_add 14 = .ok (.if_icmp .ge 35, 3) := by decide +kernel
theorem dX6_add_17 : decode cX6_add 17 = .ok (.aload_n 0, 1) := by decide +kernel
theorem dX6_add_18 : decode cX6_add 18 = .ok (.getfield 9, 3) := by decide +kernel
theorem dX6_add_21 : decode cX6_add 21 = .ok (.aload_n 0, 1) := by decide +kernel
theorem dX6_add_22 : decode cX6_add 22 = .ok (.getfield 19, 3) := by decide +kernel
theorem dX6_add_25 : decode cX6_add 25 = .ok (.iload_n 1, 1) := by decide +kernel
theorem dX6_add_26 : decode cX6_add 26 = .ok (.iload_n 2, 1) := by decide +kernel
theorem dX6_add_27 : decode cX6_add 27 = .ok (.iushr, 1) := by decide +kernel
theorem dX6_add_28 : decode cX6_add 28 = .ok (.sipush 255, 3) := by decide +kernel
theorem dX6_add_31 : decode cX6_add 31 = .ok (.iand, 1) := by decide +kernel
theorem dX6_add_32 : decode cX6_add 32 = .ok (.iastore, 1) := by decide +kernel
theorem dX6_add_33 : decode cX6_add 33 = .ok (.aload_n 0, 1) := by decide +kernel
theorem dX6_add_34 : decode cX6_add 34 = .ok (.dup, 1) := by decide +kernel
theorem dX6_add_35 : decode cX6_add 35 = .ok (.getfield 19, 3) := by decide +kernel
theorem dX6_add_38 : decode cX6_add 38 = .ok (.iconst 1, 1) := by decide +kernel
theorem dX6_add_39 : decode cX6_add 39 = .ok (.iadd, 1) := by decide +kernel
theorem dX6_add_40 : decode cX6_add 40 = .ok (.putfield 19, 3) := by decide +kernel
theorem dX6_add_43 : decode cX6_add 43 = .ok (.iinc 2 (-8), 3) := by decide +kernel
theorem dX6_add_46 : decode cX6_add 46 = .ok (.goto (-43), 3) := by decide +kernel
theorem dX6_add_49 : decode cX6_add 49 = .ok (.return_, 1) := by decide +kernel
theorem dX6_useUp_0 : decode cX6_useUp 0 = .ok (.aload_n 0, 1) := by decide +kernel
theorem dX6_useUp_1 : decode cX6_useUp 1 = .ok (.getfield 19, 3) := by decide +kernel
theorem dX6_useUp_4 : decode cX6_useUp 4 = .ok (.istore_n 1, 1) := by decide +kernel
theorem dX6_useUp_5 : decode cX6_useUp 5 = .ok (.aload_n 0, 1) := by decide +kernel
theorem dX6_useUp_6 : decode cX6_useUp 6 = .ok (.iconst 0, 1) := by decide +kernel
theorem dX6_useUp_7 : decode cX6_useUp 7 = .ok (.putfield 19, 3) := by decide +kernel
theorem dX6_useUp_10 : decode cX6_useUp 10 = .ok (.iload_n 1, 1) := by decide +kernel
theorem dX6_useUp_11 : decode cX6_useUp 11 = .ok (.ireturn, 1) := by decide +kernel
theorem dX6_holdsTales_0 : decode cX6_holdsTales 0 = .ok (.iconst 0, 1) := by decide +kernel
theorem dX6_holdsTales_1 : decode cX6_holdsTales 1 = .ok (.istore_n 2, 1) := by decide +kernel
theorem dX6_holdsTales_2 : decode cX6_holdsTales 2 = .ok (.iload_n 2, 1) := by decide +kernel
theorem dX6_holdsTales_3 : decode cX6_holdsTales 3 = .ok (.iload_n 1, 1) := by decide +kernel
theorem dX6_holdsTales_4 : decode cX6_holdsTales 4 = .ok (.if_icmp .ge 21, 3) := by decide +kernel
theorem dX6_holdsTales_7 : decode cX6_holdsTales 7 = .ok (.aload_n 0, 1) := by decide +kernel
theorem dX6_holdsTales_8 : decode cX6_holdsTales 8 = .ok (.getfield 9, 3) := by decide +kernel
theorem dX6_holdsTales_11 : decode cX6_holdsTales 11 = .ok (.iload_n 2, 1) := by decide +kernel
theorem dX6_holdsTales_12 : decode cX6_holdsTales 12 = .ok (.iaload, 1) := by decide +kernel
theorem dX6_holdsTales_13 : decode cX6_holdsTales 13 = .ok (.iconst 1, 1) := by decide +kernel
theorem dX6_holdsTales_14 : decode cX6_holdsTales 14 = .ok (.if_icmp .le 5, 3) := by decide +kernel
theorem dX6_holdsTales_17 : decode cX6_holdsTales 17 = .ok (.iconst 0, 1) := by decide +kernel
theorem dX6_holdsTales_18 : decode cX6_holdsTales 18 = .ok (.ireturn, 1) := by decide +kernel
theorem dX6_holdsTales_19 : decode cX6_holdsTales 19 = .ok (.iinc 2 1, 3) := by decide +kernel
theorem dX6_holdsTales_22 : decode cX6_holdsTales 22 = .ok (.goto (-20), 3) := by decide +kernel
theorem dX6_holdsTales_25 : decode cX6_holdsTales 25 = .ok (.iconst 1, 1) := by decide +kernel
theorem dX6_holdsTales_26 : decode cX6_holdsTales 26 = .ok (.ireturn, 1) := by decide +kernel
theorem dX6_lead_0 : decode cX6_lead 0 = .ok (.iconst 0, 1) := by decide +kernel
theorem dX6_lead_1 : decode cX6_lead 1 = .ok (.istore_n 2, 1) := by decide +kernel
theorem dX6_lead_2 : decode cX6_lead 2 = .ok (.iconst 0, 1) := by decide +kernel
theorem dX6_lead_3 : decode cX6_lead 3 = .ok (.istore_n 3, 1) := by decide +kernel
theorem dX6_lead_4 : decode cX6_lead 4 = .ok (.iload_n 3, 1) := by decide +kernel
theorem dX6_lead_5 : decode cX6_lead 5 = .ok (.iload_n 1, 1) := by decide +kernel
theorem dX6_lead_6 : decode cX6_lead 6 = .ok (.if_icmp .ge 27, 3) := by decide +kernel
theorem dX6_lead_9 : decode cX6_lead 9 = .ok (.iload_n 2, 1) := by decide +kernel
theorem dX6_lead_10 : decode cX6_lead 10 = .ok (.aload_n 0, 1) := by decide +kernel
theorem dX6_lead_11 : decode cX6_lead 11 = .ok (.getfield 9, 3) := by decide +kernel
theorem dX6_lead_14 : decode cX6_lead 14 = .ok (.iload_n 3, 1) := by decide +kernel
theorem dX6_lead_15 : decode cX6_lead 15 = .ok (.iaload, 1) := by decide +kernel
theorem dX6_lead_16 : decode cX6_lead 16 = .ok (.iconst 1, 1) := by decide +kernel
theorem dX6_lead_17 : decode cX6_lead 17 = .ok (.if_icmp .ne 7, 3) := by decide +kernel
theorem dX6_lead_20 : decode cX6_lead 20 = .ok (.iconst 1, 1) := by decide +kernel
theorem dX6_lead_21 : decode cX6_lead 21 = .ok (.goto 4, 3) := by decide +kernel
theorem dX6_lead_24 : decode cX6_lead 24 = .ok (.iconst (-1), 1) := by decide +kernel
theorem dX6_lead_25 : decode cX6_lead 25 = .ok (.iadd, 1) := by decide +kernel
theorem dX6_lead_26 : decode cX6_lead 26 = .ok (.istore_n 2, 1) := by decide +kernel
theorem dX6_lead_27 : decode cX6_lead 27 = .ok (.iinc 3 1, 3) := by decide +kernel
theorem dX6_lead_30 : decode cX6_lead 30 = .ok (.goto (-26), 3) := by decide +kernel
theorem dX6_lead_33 : decode cX6_lead 33 = .ok (.iload_n 2, 1) := by decide +kernel
theorem dX6_lead_34 : decode cX6_lead 34 = .ok (.ireturn, 1) := by decide +kernel
theorem dX6_holdsSaid_0 : decode cX6_holdsSaid 0 = .ok (.iload_n 1, 1) := by decide +kernel
theorem dX6_holdsSaid_1 : decode cX6_holdsSaid 1 = .ok (.iconst 3, 1) := by decide +kernel
theorem dX6_holdsSaid_2 : decode cX6_holdsSaid 2 = .ok (.irem, 1) := by decide +kernel
theorem dX6_holdsSaid_3 : decode cX6_holdsSaid 3 = .ok (.ifCond .eq 5, 3) := by decide +kernel
theorem dX6_holdsSaid_6 : decode cX6_holdsSaid 6 = .ok (.iconst 0, 1) := by decide +kernel
theorem dX6_holdsSaid_7 : decode cX6_holdsSaid 7 = .ok (.ireturn, 1) := by decide +kernel
theorem dX6_holdsSaid_8 : decode cX6_holdsSaid 8 = .ok (.iconst 0, 1) := by decide +kernel
theorem dX6_holdsSaid_9 : decode cX6_holdsSaid 9 = .ok (.istore_n 3, 1) := by decide +kernel
theorem dX6_holdsSaid_10 : decode cX6_holdsSaid 10 = .ok (.iload_n 3, 1) := by decide +kernel
theorem dX6_holdsSaid_11 : decode cX6_holdsSaid 11 = .ok (.iconst 2, 1) := by decide +kernel
theorem dX6_holdsSaid_12 : decode cX6_holdsSaid 12 = .ok (.iadd, 1) := by decide +kernel
theorem dX6_holdsSaid_13 : decode cX6_holdsSaid 13 = .ok (.iload_n 1, 1) := by decide +kernel
theorem dX6_holdsSaid_14 : decode cX6_holdsSaid 14 = .ok (.if_icmp .ge 60, 3) := by decide +kernel
theorem dX6_holdsSaid_17 : decode cX6_holdsSaid 17 = .ok (.aload_n 0, 1) := by decide +kernel
theorem dX6_holdsSaid_18 : decode cX6_holdsSaid 18 = .ok (.getfield 9, 3) := by decide +kernel
theorem dX6_holdsSaid_21 : decode cX6_holdsSaid 21 = .ok (.iload_n 3, 1) := by decide +kernel
theorem dX6_holdsSaid_22 : decode cX6_holdsSaid 22 = .ok (.iaload, 1) := by decide +kernel
theorem dX6_holdsSaid_23 : decode cX6_holdsSaid 23 = .ok (.istore 4, 2) := by decide +kernel
theorem dX6_holdsSaid_25 : decode cX6_holdsSaid 25 = .ok (.aload_n 0, 1) := by decide +kernel
theorem dX6_holdsSaid_26 : decode cX6_holdsSaid 26 = .ok (.getfield 9, 3) := by decide +kernel
theorem dX6_holdsSaid_29 : decode cX6_holdsSaid 29 = .ok (.iload_n 3, 1) := by decide +kernel
theorem dX6_holdsSaid_30 : decode cX6_holdsSaid 30 = .ok (.iconst 1, 1) := by decide +kernel
theorem dX6_holdsSaid_31 : decode cX6_holdsSaid 31 = .ok (.iadd, 1) := by decide +kernel
theorem dX6_holdsSaid_32 : decode cX6_holdsSaid 32 = .ok (.iaload, 1) := by decide +kernel
theorem dX6_holdsSaid_33 : decode cX6_holdsSaid 33 = .ok (.istore 5, 2) := by decide +kernel
theorem dX6_holdsSaid_35 : decode cX6_holdsSaid 35 = .ok (.iload 4, 2) := by decide +kernel
theorem dX6_holdsSaid_37 : decode cX6_holdsSaid 37 = .ok (.iload_n 2, 1) := by decide +kernel
theorem dX6_holdsSaid_38 : decode cX6_holdsSaid 38 = .ok (.if_icmp .ge 28, 3) := by decide +kernel
theorem dX6_holdsSaid_41 : decode cX6_holdsSaid 41 = .ok (.iload 5, 2) := by decide +kernel
theorem dX6_holdsSaid_43 : decode cX6_holdsSaid 43 = .ok (.iload_n 2, 1) := by decide +kernel
theorem dX6_holdsSaid_44 : decode cX6_holdsSaid 44 = .ok (.if_icmp .ge 22, 3) := by decide +kernel
theorem dX6_holdsSaid_47 : decode cX6_holdsSaid 47 = .ok (.iload 4, 2) := by decide +kernel
theorem dX6_holdsSaid_49 : decode cX6_holdsSaid 49 = .ok (.iload 5, 2) := by decide +kernel
theorem dX6_holdsSaid_51 : decode cX6_holdsSaid 51 = .ok (.if_icmp .eq 15, 3) := by decide +kernel
theorem dX6_holdsSaid_54 : decode cX6_holdsSaid 54 = .ok (.aload_n 0, 1) := by decide +kernel
theorem dX6_holdsSaid_55 : decode cX6_holdsSaid 55 = .ok (.getfield 9, 3) := by decide +kernel
theorem dX6_holdsSaid_58 : decode cX6_holdsSaid 58 = .ok (.iload_n 3, 1) := by decide +kernel
theorem dX6_holdsSaid_59 : decode cX6_holdsSaid 59 = .ok (.iconst 2, 1) := by decide +kernel
theorem dX6_holdsSaid_60 : decode cX6_holdsSaid 60 = .ok (.iadd, 1) := by decide +kernel
theorem dX6_holdsSaid_61 : decode cX6_holdsSaid 61 = .ok (.iaload, 1) := by decide +kernel
theorem dX6_holdsSaid_62 : decode cX6_holdsSaid 62 = .ok (.iconst 1, 1) := by decide +kernel
theorem dX6_holdsSaid_63 : decode cX6_holdsSaid 63 = .ok (.if_icmp .le 5, 3) := by decide +kernel
theorem dX6_holdsSaid_66 : decode cX6_holdsSaid 66 = .ok (.iconst 0, 1) := by decide +kernel
theorem dX6_holdsSaid_67 : decode cX6_holdsSaid 67 = .ok (.ireturn, 1) := by decide +kernel
theorem dX6_holdsSaid_68 : decode cX6_holdsSaid 68 = .ok (.iinc 3 3, 3) := by decide +kernel
theorem dX6_holdsSaid_71 : decode cX6_holdsSaid 71 = .ok (.goto (-61), 3) := by decide +kernel
theorem dX6_holdsSaid_74 : decode cX6_holdsSaid 74 = .ok (.iconst 1, 1) := by decide +kernel
theorem dX6_holdsSaid_75 : decode cX6_holdsSaid 75 = .ok (.ireturn, 1) := by decide +kernel
theorem dX6_open_0 : decode cX6_open 0 = .ok (.aload_n 0, 1) := by decide +kernel
theorem dX6_open_1 : decode cX6_open 1 = .ok (.iload_n 1, 1) := by decide +kernel
theorem dX6_open_2 : decode cX6_open 2 = .ok (.sipush 400, 3) := by decide +kernel
theorem dX6_open_5 : decode cX6_open 5 = .ok (.invokestatic 22, 3) := by decide +kernel
theorem dX6_open_8 : decode cX6_open 8 = .ok (.putfield 28, 3) := by decide +kernel
theorem dX6_open_11 : decode cX6_open 11 = .ok (.aload_n 0, 1) := by decide +kernel
theorem dX6_open_12 : decode cX6_open 12 = .ok (.iconst 0, 1) := by decide +kernel
theorem dX6_open_13 : decode cX6_open 13 = .ok (.putfield 31, 3) := by decide +kernel
theorem dX6_open_16 : decode cX6_open 16 = .ok (.aload_n 0, 1) := by decide +kernel
theorem dX6_open_17 : decode cX6_open 17 = .ok (.iconst (-1), 1) := by decide +kernel
theorem dX6_open_18 : decode cX6_open 18 = .ok (.putfield 15, 3) := by decide +kernel
theorem dX6_open_21 : decode cX6_open 21 = .ok (.aload_n 0, 1) := by decide +kernel
theorem dX6_open_22 : decode cX6_open 22 = .ok (.invokevirtual 34, 3) := by decide +kernel
theorem dX6_open_25 : decode cX6_open 25 = .ok (.return_, 1) := by decide +kernel
theorem dX6_step_0 : decode cX6_step 0 = .ok (.aload_n 0, 1) := by decide +kernel
theorem dX6_step_1 : decode cX6_step 1 = .ok (.getfield 31, 3) := by decide +kernel
theorem dX6_step_4 : decode cX6_step 4 = .ok (.aload_n 0, 1) := by decide +kernel
theorem dX6_step_5 : decode cX6_step 5 = .ok (.getfield 28, 3) := by decide +kernel
theorem dX6_step_8 : decode cX6_step 8 = .ok (.if_icmp .ge 30, 3) := by decide +kernel
theorem dX6_step_11 : decode cX6_step 11 = .ok (.aload_n 0, 1) := by decide +kernel
theorem dX6_step_12 : decode cX6_step 12 = .ok (.getfield 9, 3) := by decide +kernel
theorem dX6_step_15 : decode cX6_step 15 = .ok (.aload_n 0, 1) := by decide +kernel
theorem dX6_step_16 : decode cX6_step 16 = .ok (.getfield 31, 3) := by decide +kernel
theorem dX6_step_19 : decode cX6_step 19 = .ok (.iaload, 1) := by decide +kernel
theorem dX6_step_20 : decode cX6_step 20 = .ok (.bipush 32, 2) := by decide +kernel
theorem dX6_step_22 : decode cX6_step 22 = .ok (.if_icmp .ne 16, 3) := by decide +kernel
theorem dX6_step_25 : decode cX6_step 25 = .ok (.aload_n 0, 1) := by decide +kernel
theorem dX6_step_26 : decode cX6_step 26 = .ok (.dup, 1) := by decide +kernel
theorem dX6_step_27 : decode cX6_step 27 = .ok (.getfield 31, 3) := by decide +kernel
theorem dX6_step_30 : decode cX6_step 30 = .ok (.iconst 1, 1) := by decide +kernel
theorem dX6_step_31 : decode cX6_step 31 = .ok (.iadd, 1) := by decide +kernel
theorem dX6_step_32 : decode cX6_step 32 = .ok (.putfield 31, 3) := by decide +kernel
theorem dX6_step_35 : decode cX6_step 35 = .ok (.goto (-35), 3) := by decide +kernel
theorem dX6_step_38 : decode cX6_step 38 = .ok (.aload_n 0, 1) := by decide +kernel
theorem dX6_step_39 : decode cX6_step 39 = .ok (.aload_n 0, 1) := by decide +kernel
theorem dX6_step_40 : decode cX6_step 40 = .ok (.getfield 31, 3) := by decide +kernel
theorem dX6_step_43 : decode cX6_step 43 = .ok (.putfield 37, 3) := by decide +kernel
theorem dX6_step_46 : decode cX6_step 46 = .ok (.aload_n 0, 1) := by decide +kernel
theorem dX6_step_47 : decode cX6_step 47 = .ok (.getfield 31, 3) := by decide +kernel
theorem dX6_step_50 : decode cX6_step 50 = .ok (.aload_n 0, 1) := by decide +kernel
theorem dX6_step_51 : decode cX6_step 51 = .ok (.getfield 28, 3) := by decide +kernel
theorem dX6_step_54 : decode cX6_step 54 = .ok (.if_icmp .lt 9, 3) := by decide +kernel
theorem dX6_step_57 : decode cX6_step 57 = .ok (.aload_n 0, 1) := by decide +kernel
theorem dX6_step_58 : decode cX6_step 58 = .ok (.iconst 0, 1) := by decide +kernel
theorem dX6_step_59 : decode cX6_step 59 = .ok (.putfield 40, 3) := by decide +kernel
theorem dX6_step_62 : decode cX6_step 62 = .ok (.return_, 1) := by decide +kernel
theorem dX6_step_63 : decode cX6_step 63 = .ok (.aload_n 0, 1) := by decide +kernel
theorem dX6_step_64 : decode cX6_step 64 = .ok (.getfield 9, 3) := by decide +kernel
theorem dX6_step_67 : decode cX6_step 67 = .ok (.aload_n 0, 1) := by decide +kernel
theorem dX6_step_68 : decode cX6_step 68 = .ok (.getfield 31, 3) := by decide +kernel
theorem dX6_step_71 : decode cX6_step 71 = .ok (.iaload, 1) := by decide +kernel
theorem dX6_step_72 : decode cX6_step 72 = .ok (.istore_n 1, 1) := by decide +kernel
theorem dX6_step_73 : decode cX6_step 73 = .ok (.aload_n 0, 1) := by decide +kernel
theorem dX6_step_74 : decode cX6_step 74 = .ok (.dup, 1) := by decide +kernel
theorem dX6_step_75 : decode cX6_step 75 = .ok (.getfield 31, 3) := by decide +kernel
theorem dX6_step_78 : decode cX6_step 78 = .ok (.iconst 1, 1) := by decide +kernel
theorem dX6_step_79 : decode cX6_step 79 = .ok (.iadd, 1) := by decide +kernel
theorem dX6_step_80 : decode cX6_step 80 = .ok (.putfield 31, 3) := by decide +kernel
theorem dX6_step_83 : decode cX6_step 83 = .ok (.iload_n 1, 1) := by decide +kernel
theorem dX6_step_84 : decode cX6_step 84 = .ok (.bipush 97, 2) := by decide +kernel
theorem dX6_step_86 : decode cX6_step 86 = .ok (.if_icmp .lt 66, 3) := by decide +kernel
theorem dX6_step_89 : decode cX6_step 89 = .ok (.iload_n 1, 1) := by decide +kernel
theorem dX6_step_90 : decode cX6_step 90 = .ok (.bipush 122, 2) := by decide +kernel
theorem dX6_step_92 : decode cX6_step 92 = .ok (.if_icmp .gt 60, 3) := by decide +kernel
theorem dX6_step_95 : decode cX6_step 95 = .ok (.aload_n 0, 1) := by decide +kernel
theorem dX6_step_96 : decode cX6_step 96 = .ok (.iconst 1, 1) := by decide +kernel
theorem dX6_step_97 : decode cX6_step 97 = .ok (.putfield 40, 3) := by decide +kernel
theorem dX6_step_100 : decode cX6_step 100 = .ok (.aload_n 0, 1) := by decide +kernel
theorem dX6_step_101 : decode cX6_step 101 = .ok (.getfield 31, 3) := by decide +kernel
theorem dX6_step_104 : decode cX6_step 104 = .ok (.aload_n 0, 1) := by decide +kernel
theorem dX6_step_105 : decode cX6_step 105 = .ok (.getfield 28, 3) := by decide +kernel
theorem dX6_step_108 : decode cX6_step 108 = .ok (.if_icmp .ge 118, 3) := by decide +kernel
theorem dX6_step_111 : decode cX6_step 111 = .ok (.aload_n 0, 1) := by decide +kernel
theorem dX6_step_112 : decode cX6_step 112 = .ok (.getfield 9, 3) := by decide +kernel
theorem dX6_step_115 : decode cX6_step 115 = .ok (.aload_n 0, 1) := by decide +kernel
theorem dX6_step_116 : decode cX6_step 116 = .ok (.getfield 31, 3) := by decide +kernel
theorem dX6_step_119 : decode cX6_step 119 = .ok (.iaload, 1) := by decide +kernel
theorem dX6_step_120 : decode cX6_step 120 = .ok (.bipush 97, 2) := by decide +kernel
theorem dX6_step_122 : decode cX6_step 122 = .ok (.if_icmp .lt 104, 3) := by decide +kernel
theorem dX6_step_125 : decode cX6_step 125 = .ok (.aload_n 0, 1) := by decide +kernel
theorem dX6_step_126 : decode cX6_step 126 = .ok (.getfield 9, 3) := by decide +kernel
theorem dX6_step_129 : decode cX6_step 129 = .ok (.aload_n 0, 1) := by decide +kernel
theorem dX6_step_130 : decode cX6_step 130 = .ok (.getfield 31, 3) := by decide +kernel
theorem dX6_step_133 : decode cX6_step 133 = .ok (.iaload, 1) := by decide +kernel
theorem dX6_step_134 : decode cX6_step 134 = .ok (.bipush 122, 2) := by decide +kernel
theorem dX6_step_136 : decode cX6_step 136 = .ok (.if_icmp .gt 90, 3) := by decide +kernel
theorem dX6_step_139 : decode cX6_step 139 = .ok (.aload_n 0, 1) := by decide +kernel
theorem dX6_step_140 : decode cX6_step 140 = .ok (.dup, 1) := by decide +kernel
theorem dX6_step_141 : decode cX6_step 141 = .ok (.getfield 31, 3) := by decide +kernel
theorem dX6_step_144 : decode cX6_step 144 = .ok (.iconst 1, 1) := by decide +kernel
theorem dX6_step_145 : decode cX6_step 145 = .ok (.iadd, 1) := by decide +kernel
theorem dX6_step_146 : decode cX6_step 146 = .ok (.putfield 31, 3) := by decide +kernel
theorem dX6_step_149 : decode cX6_step 149 = .ok (.goto (-49), 3) := by decide +kernel
theorem dX6_step_152 : decode cX6_step 152 = .ok (.iload_n 1, 1) := by decide +kernel
theorem dX6_step_153 : decode cX6_step 153 = .ok (.bipush 48, 2) := by decide +kernel
theorem dX6_step_155 : decode cX6_step 155 = .ok (.if_icmp .lt 66, 3) := by decide +kernel
theorem dX6_step_158 : decode cX6_step 158 = .ok (.iload_n 1, 1) := by decide +kernel
theorem dX6_step_159 : decode cX6_step 159 = .ok (.bipush 57, 2) := by decide +kernel
theorem dX6_step_161 : decode cX6_step 161 = .ok (.if_icmp .gt 60, 3) := by decide +kernel
theorem dX6_step_164 : decode cX6_step 164 = .ok (.aload_n 0, 1) := by decide +kernel
theorem dX6_step_165 : decode cX6_step 165 = .ok (.iconst 2, 1) := by decide +kernel
theorem dX6_step_166 : decode cX6_step 166 = .ok (.putfield 40, 3) := by decide +kernel
theorem dX6_step_169 : decode cX6_step 169 = .ok (.aload_n 0, 1) := by decide +kernel
theorem dX6_step_170 : decode cX6_step 170 = .ok (.getfield 31, 3) := by decide +kernel
theorem dX6_step_173 : decode cX6_step 173 = .ok (.aload_n 0, 1) := by decide +kernel
theorem dX6_step_174 : decode cX6_step 174 = .ok (.getfield 28, 3) := by decide +kernel
theorem dX6_step_177 : decode cX6_step 177 = .ok (.if_icmp .ge 49, 3) := by decide +kernel
theorem dX6_step_180 : decode cX6_step 180 = .ok (.aload_n 0, 1) := by decide +kernel
theorem dX6_step_181 : decode cX6_step 181 = .ok (.getfield 9, 3) := by decide +kernel
theorem dX6_step_184 : decode cX6_step 184 = .ok (.aload_n 0, 1) := by decide +kernel
theorem dX6_step_185 : decode cX6_step 185 = .ok (.getfield 31, 3) := by decide +kernel
theorem dX6_step_188 : decode cX6_step 188 = .ok (.iaload, 1) := by decide +kernel
theorem dX6_step_189 : decode cX6_step 189 = .ok (.bipush 48, 2) := by decide +kernel
theorem dX6_step_191 : decode cX6_step 191 = .ok (.if_icmp .lt 35, 3) := by decide +kernel
theorem dX6_step_194 : decode cX6_step 194 = .ok (.aload_n 0, 1) := by decide +kernel
theorem dX6_step_195 : decode cX6_step 195 = .ok (.getfield 9, 3) := by decide +kernel
theorem dX6_step_198 : decode cX6_step 198 = .ok (.aload_n 0, 1) := by decide +kernel
theorem dX6_step_199 : decode cX6_step 199 = .ok (.getfield 31, 3) := by decide +kernel
theorem dX6_step_202 : decode cX6_step 202 = .ok (.iaload, 1) := by decide +kernel
theorem dX6_step_203 : decode cX6_step 203 = .ok (.bipush 57, 2) := by decide +kernel
theorem dX6_step_205 : decode cX6_step 205 = .ok (.if_icmp .gt 21, 3) := by decide +kernel
theorem dX6_step_208 : decode cX6_step 208 = .ok (.aload_n 0, 1) := by decide +kernel
theorem dX6_step_209 : decode cX6_step 209 = .ok (.dup, 1) := by decide +kernel
theorem dX6_step_210 : decode cX6_step 210 = .ok (.getfield 31, 3) := by decide +kernel
theorem dX6_step_213 : decode cX6_step 213 = .ok (.iconst 1, 1) := by decide +kernel
theorem dX6_step_214 : decode cX6_step 214 = .ok (.iadd, 1) := by decide +kernel
theorem dX6_step_215 : decode cX6_step 215 = .ok (.putfield 31, 3) := by decide +kernel
theorem dX6_step_218 : decode cX6_step 218 = .ok (.goto (-49), 3) := by decide +kernel
theorem dX6_step_221 : decode cX6_step 221 = .ok (.aload_n 0, 1) := by decide +kernel
theorem dX6_step_222 : decode cX6_step 222 = .ok (.iconst 3, 1) := by decide +kernel
theorem dX6_step_223 : decode cX6_step 223 = .ok (.putfield 40, 3) := by decide +kernel
theorem dX6_step_226 : decode cX6_step 226 = .ok (.return_, 1) := by decide +kernel
theorem dX7_init_0 : decode cX7_init 0 = .ok (.aload_n 0, 1) := by decide +kernel
theorem dX7_init_1 : decode cX7_init 1 = .ok (.invokespecial 3, 3) := by decide +kernel
theorem dX7_init_4 : decode cX7_init 4 = .ok (.aload_n 0, 1) := by decide +kernel
theorem dX7_init_5 : decode cX7_init 5 = .ok (.aload_n 1, 1) := by decide +kernel
theorem dX7_init_6 : decode cX7_init 6 = .ok (.putfield 9, 3) := by decide +kernel
theorem dX7_init_9 : decode cX7_init 9 = .ok (.return_, 1) := by decide +kernel
theorem dX7_readLines_0 : decode cX7_readLines 0 = .ok (.aload_n 0, 1) := by decide +kernel
theorem dX7_readLines_1 : decode cX7_readLines 1 = .ok (.getfield 9, 3) := by decide +kernel
theorem dX7_readLines_4 : decode cX7_readLines 4 = .ok (.getfield 15, 3) := by decide +kernel
theorem dX7_readLines_7 : decode cX7_readLines 7 = .ok (.ifCond .ne 5, 3) := by decide +kernel
theorem dX7_readLines_10 : decode cX7_readLines 10 = .ok (.iconst 0, 1) := by decide +kernel
theorem dX7_readLines_11 : decode cX7_readLines 11 = .ok (.ireturn, 1) := by decide +kernel
theorem dX7_readLines_12 : decode cX7_readLines 12 = .ok (.iconst 1, 1) := by decide +kernel
theorem dX7_readLines_13 : decode cX7_readLines 13 = .ok (.istore_n 2, 1) := by decide +kernel
theorem dX7_readLines_14 : decode cX7_readLines 14 = .ok (.iload_n 2, 1) := by decide +kernel
theorem dX7_readLines_15 : decode cX7_readLines 15 = .ok (.iload_n 1, 1) := by decide +kernel
theorem dX7_readLines_16 : decode cX7_readLines 16 = .ok (.if_icmp .gt 44, 3) := by decide +kernel
theorem dX7_readLines_19 : decode cX7_readLines 19 = .ok (.aload_n 0, 1) := by decide +kernel
theorem dX7_readLines_20 : decode cX7_readLines 20 = .ok (.invokevirtual 21, 3) := by decide +kernel
theorem dX7_readLines_23 : decode cX7_readLines 23 = .ok (.ifCond .ne 5, 3) := by decide +kernel
theorem dX7_readLines_26 : decode cX7_readLines 26 = .ok (.iconst (-1), 1) := by decide +kernel
theorem dX7_readLines_27 : decode cX7_readLines 27 = .ok (.ireturn, 1) := by decide +kernel
theorem dX7_readLines_28 : decode cX7_readLines 28 = .ok (.aload_n 0, 1) := by decide +kernel
theorem dX7_readLines_29 : decode cX7_readLines 29 = .ok (.getfield 9, 3) := by decide +kernel
theorem dX7_readLines_32 : decode cX7_readLines 32 = .ok (.getfield 15, 3) := by decide +kernel
theorem dX7_readLines_35 : decode cX7_readLines 35 = .ok (.ifCond .ne 5, 3) := by decide +kernel
theorem dX7_readLines_38 : decode cX7_readLines 38 = .ok (.iload_n 2, 1) := by decide +kernel
theorem dX7_readLines_39 : decode cX7_readLines 39 = .ok (.ireturn, 1) := by decide +kernel
theorem dX7_readLines_40 : decode cX7_readLines 40 = .ok (.aload_n 0, 1) := by decide +kernel
theorem dX7_readLines_41 : decode cX7_readLines 41 = .ok (.getfield 9, 3) := by decide +kernel
theorem dX7_readLines_44 : decode cX7_readLines 44 = .ok (.bipush 59, 2) := by decide +kernel
theorem dX7_readLines_46 : decode cX7_readLines 46 = .ok (.invokevirtual 25, 3) := by decide +kernel
theorem dX7_readLines_49 : decode cX7_readLines 49 = .ok (.ifCond .ne 5, 3) := by decide +kernel
theorem dX7_readLines_52 : decode cX7_readLines 52 = .ok (.iconst (-1), 1) := by decide +kernel
theorem dX7_readLines_53 : decode cX7_readLines 53 = .ok (.ireturn, 1) := by decide +kernel
theorem dX7_readLines_54 : decode cX7_readLines 54 = .ok (.iinc 2 1, 3) := by decide +kernel
theorem dX7_readLines_57 : decode cX7_readLines 57 = .ok (.goto (-43), 3) := by decide +kernel
theorem dX7_readLines_60 : decode cX7_readLines 60 = .ok (.aload_n 0, 1) := by decide +kernel
theorem dX7_readLines_61 : decode cX7_readLines 61 = .ok (.getfield 9, 3) := by decide +kernel
theorem dX7_readLines_64 : decode cX7_readLines 64 = .ok (.invokevirtual 29, 3) := by decide +kernel
theorem dX7_readLines_67 : decode cX7_readLines 67 = .ok (.pop, 1) := by decide +kernel
theorem dX7_readLines_68 : decode cX7_readLines 68 = .ok (.iconst (-1), 1) := by decide +kernel
theorem dX7_readLines_69 : decode cX7_readLines 69 = .ok (.ireturn, 1) := by decide +kernel
theorem dX8_countCircles_0 : decode cX8_countCircles 0 = .ok (.iconst 0, 1) := by decide +kernel
theorem dX8_countCircles_1 : decode cX8_countCircles 1 = .ok (.istore_n 1, 1) := by decide +kernel
theorem dX8_countCircles_2 : decode cX8_countCircles 2 = .ok (.iconst 0, 1) := by decide +kernel
theorem dX8_countCircles_3 : decode cX8_countCircles 3 = .ok (.istore_n 2, 1) := by decide +kernel
theorem dX8_countCircles_4 : decode cX8_countCircles 4 = .ok (.iconst 0, 1) := by decide +kernel
theorem dX8_countCircles_5 : decode cX8_countCircles 5 = .ok (.istore_n 3, 1) := by decide +kernel
theorem dX8_countCircles_6 : decode cX8_countCircles 6 = .ok (.iload_n 3, 1) := by decide +kernel
theorem dX8_countCircles_7 : decode cX8_countCircles 7 = .ok (.aload_n 0, 1) := by decide +kernel
theorem dX8_countCircles_8 : decode cX8_countCircles 8 = .ok (.getfield 9, 3) := by decide +kernel
theorem dX8_countCircles_11 : decode cX8_countCircles 11 = .ok (.if_icmp .ge 37, 3) := by decide +kernel
theorem dX8_countCircles_14 : decode cX8_countCircles 14 = .ok (.aload_n 0, 1) := by decide +kernel
theorem dX8_countCircles_15 : decode cX8_countCircles 15 = .ok (.iload_n 3, 1) := by decide +kernel
theorem dX8_countCircles_16 : decode cX8_countCircles 16 = .ok (.invokestatic 25, 3) := by decide +kernel
theorem dX8_countCircles_19 : decode cX8_countCircles 19 = .ok (.istore 4, 2) := by decide +kernel
theorem dX8_countCircles_21 : decode cX8_countCircles 21 = .ok (.iload 4, 2) := by decide +kernel
theorem dX8_countCircles_23 : decode cX8_countCircles 23 = .ok (.ifCond .eq 14, 3) := by decide +kernel
theorem dX8_countCircles_26 : decode cX8_countCircles 26 = .ok (.iload_n 2, 1) := by decide +kernel
theorem dX8_countCircles_27 : decode cX8_countCircles 27 = .ok (.iload_n 3, 1) := by decide +kernel
theorem dX8_countCircles_28 : decode cX8_countCircles 28 = .ok (.ishr, 1) := by decide +kernel
theorem dX8_countCircles_29 : decode cX8_countCircles 29 = .ok (.iconst 1, 1) := by decide +kernel
theorem dX8_countCircles_30 : decode cX8_countCircles 30 = .ok (.iand, 1) := by decide +kernel
theorem dX8_countCircles_31 : decode cX8_countCircles 31 = .ok (.ifCond .ne 6, 3) := by decide +kernel
theorem dX8_countCircles_34 : decode cX8_countCircles 34 = .ok (.iinc 1 1, 3) := by decide +kernel
theorem dX8_countCircles_37 : decode cX8_countCircles 37 = .ok (.iload_n 2, 1) := by decide +kernel
theorem dX8_countCircles_38 : decode cX8_countCircles 38 = .ok (.iload 4, 2) := by decide +kernel
theorem dX8_countCircles_40 : decode cX8_countCircles 40 = .ok (.ior, 1) := by decide +kernel
theorem dX8_countCircles_41 : decode cX8_countCircles 41 = .ok (.istore_n 2, 1) := by decide +kernel
theorem dX8_countCircles_42 : decode cX8_countCircles 42 = .ok (.iinc 3 1, 3) := by decide +kernel
theorem dX8_countCircles_45 : decode cX8_countCircles 45 = .ok (.goto (-39), 3) := by decide +kernel
theorem dX8_countCircles_48 : decode cX8_countCircles 48 = .ok (.iload_n 1, 1) := by decide +kernel
theorem dX8_countCircles_49 : decode cX8_countCircles 49 = .ok (.ireturn, 1) := by decide +kernel
theorem dX8_untied_0 : decode cX8_untied 0 = .ok (.iconst 0, 1) := by decide +kernel
theorem dX8_untied_1 : decode cX8_untied 1 = .ok (.istore_n 1, 1) := by decide +kernel
theorem dX8_untied_2 : decode cX8_untied 2 = .ok (.iconst 0, 1) := by decide +kernel
theorem dX8_untied_3 : decode cX8_untied 3 = .ok (.istore_n 2, 1) := by decide +kernel
theorem dX8_untied_4 : decode cX8_untied 4 = .ok (.iload_n 2, 1) := by decide +kernel
theorem dX8_untied_5 : decode cX8_untied 5 = .ok (.aload_n 0, 1) := by decide +kernel
theorem dX8_untied_6 : decode cX8_untied 6 = .ok (.getfield 9, 3) := by decide +kernel
theorem dX8_untied_9 : decode cX8_untied 9 = .ok (.if_icmp .ge 33, 3) := by decide +kernel
theorem dX8_untied_12 : decode cX8_untied 12 = .ok (.aload_n 0, 1) := by decide +kernel
theorem dX8_untied_13 : decode cX8_untied 13 = .ok (.iload_n 2, 1) := by decide +kernel
theorem dX8_untied_14 : decode cX8_untied 14 = .ok (.invokevirtual 31, 3) := by decide +kernel
theorem dX8_untied_17 : decode cX8_untied 17 = .ok (.ifCond .ne 19, 3) := by decide +kernel
theorem dX8_untied_20 : decode cX8_untied 20 = .ok (.aload_n 0, 1) := by decide +kernel
theorem dX8_untied_21 : decode cX8_untied 21 = .ok (.iconst 1, 1) := by decide +kernel
theorem dX8_untied_22 : decode cX8_untied 22 = .ok (.iload_n 2, 1) := by decide +kernel
theorem dX8_untied_23 : decode cX8_untied 23 = .ok (.ishl, 1) := by decide +kernel
theorem dX8_untied_24 : decode cX8_untied 24 = .ok (.invokestatic 19, 3) := by decide +kernel
theorem dX8_untied_27 : decode cX8_untied 27 = .ok (.ifCond .ne 9, 3) := by decide +kernel
theorem dX8_untied_30 : decode cX8_untied 30 = .ok (.iload_n 1, 1) := by decide +kernel
theorem dX8_untied_31 : decode cX8_untied 31 = .ok (.iconst 1, 1) := by decide +kernel
theorem dX8_untied_32 : decode cX8_untied 32 = .ok (.iload_n 2, 1) := by decide +kernel
theorem dX8_untied_33 : decode cX8_untied 33 = .ok (.ishl, 1) := by decide +kernel
theorem dX8_untied_34 : decode cX8_untied 34 = .ok (.ior, 1) := by decide +kernel
theorem dX8_untied_35 : decode cX8_untied 35 = .ok (.istore_n 1, 1) := by decide +kernel
theorem dX8_untied_36 : decode cX8_untied 36 = .ok (.iinc 2 1, 3) := by decide +kernel
theorem dX8_untied_39 : decode cX8_untied 39 = .ok (.goto (-35), 3) := by decide +kernel
theorem dX8_untied_42 : decode cX8_untied 42 = .ok (.iload_n 1, 1) := by decide +kernel
theorem dX8_untied_43 : decode cX8_untied 43 = .ok (.ireturn, 1) := by decide +kernel
theorem dX9_init_0 : decode cX9_init 0 = .ok (.aload_n 0, 1) := by decide +kernel
theorem dX9_init_1 : decode cX9_init 1 = .ok (.invokespecial 3, 3) := by decide +kernel
theorem dX9_init_4 : decode cX9_init 4 = .ok (.aload_n 0, 1) := by decide +kernel
theorem dX9_init_5 : decode cX9_init 5 = .ok (.bipush 20, 2) := by decide +kernel
theorem dX9_init_7 : decode cX9_init 7 = .ok (.putfield 9, 3) := by decide +kernel
theorem dX9_init_10 : decode cX9_init 10 = .ok (.aload_n 0, 1) := by decide +kernel
theorem dX9_init_11 : decode cX9_init 11 = .ok (.bipush 6, 2) := by decide +kernel
theorem dX9_init_13 : decode cX9_init 13 = .ok (.putfield 15, 3) := by decide +kernel
theorem dX9_init_16 : decode cX9_init 16 = .ok (.aload_n 0, 1) := by decide +kernel
theorem dX9_init_17 : decode cX9_init 17 = .ok (.bipush 50, 2) := by decide +kernel
theorem dX9_init_19 : decode cX9_init 19 = .ok (.putfield 18, 3) := by decide +kernel
theorem dX9_init_22 : decode cX9_init 22 = .ok (.aload_n 0, 1) := by decide +kernel
theorem dX9_init_23 : decode cX9_init 23 = .ok (.iconst 1, 1) := by decide +kernel
theorem dX9_init_24 : decode cX9_init 24 = .ok (.putfield 21, 3) := by decide +kernel
theorem dX9_init_27 : decode cX9_init 27 = .ok (.aload_n 0, 1) := by decide +kernel
theorem dX9_init_28 : decode cX9_init 28 = .ok (.bipush 8, 2) := by decide +kernel
theorem dX9_init_30 : decode cX9_init 30 = .ok (.newarray .int, 2) := by decide +kernel
theorem dX9_init_32 : decode cX9_init 32 = .ok (.putfield 24, 3) := by decide +kernel
theorem dX9_init_35 : decode cX9_init 35 = .ok (.aload_n 0, 1) := by decide +kernel
theorem dX9_init_36 : decode cX9_init 36 = .ok (.bipush 8, 2) := by decide +kernel
theorem dX9_init_38 : decode cX9_init 38 = .ok (.newarray .int, 2) := by decide +kernel
theorem dX9_init_40 : decode cX9_init 40 = .ok (.putfield 28, 3) := by decide +kernel
theorem dX9_init_43 : decode cX9_init 43 = .ok (.aload_n 0, 1) := by decide +kernel
theorem dX9_init_44 : decode cX9_init 44 = .ok (.bipush 8, 2) := by decide +kernel
theorem dX9_init_46 : decode cX9_init 46 = .ok (.newarray .int, 2) := by decide +kernel
theorem dX9_init_48 : decode cX9_init 48 = .ok (.putfield 31, 3) := by decide +kernel
theorem dX9_init_51 : decode cX9_init 51 = .ok (.aload_n 0, 1) := by decide +kernel
theorem dX9_init_52 : decode cX9_init 52 = .ok (.bipush 8, 2) := by decide +kernel
theorem dX9_init_54 : decode cX9_init 54 = .ok (.newarray .int, 2) := by decide +kernel
theorem dX9_init_56 : decode cX9_init 56 = .ok (.putfield 34, 3) := by decide +kernel
theorem dX9_init_59 : decode cX9_init 59 = .ok (.aload_n 0, 1) := by decide +kernel
theorem dX9_init_60 : decode cX9_init 60 = .ok (.bipush 8, 2) := by decide +kernel
theorem dX9_init_62 : decode cX9_init 62 = .ok (.newarray .boolean, 2) := by decide +kernel
theorem dX9_init_64 : decode cX9_init 64 = .ok (.putfield 37, 3) := by decide +kernel
theorem dX9_init_67 : decode cX9_init 67 = .ok (.aload_n 0, 1) := by decide +kernel
theorem dX9_init_68 : decode cX9_init 68 = .ok (.bipush 64, 2) := by decide +kernel
theorem dX9_init_70 : decode cX9_init 70 = .ok (.newarray .int, 2) := by decide +kernel
theorem dX9_init_72 : decode cX9_init 72 = .ok (.putfield 41, 3) := by decide +kernel
theorem dX9_init_75 : decode cX9_init 75 = .ok (.aload_n 0, 1) := by decide +kernel
theorem dX9_init_76 : decode cX9_init 76 = .ok (.bipush 6, 2) := by decide +kernel
theorem dX9_init_78 : decode cX9_init 78 = .ok (.newarray .int, 2) := by decide +kernel
theorem dX9_init_80 : decode cX9_init 80 = .ok (.putfield 44, 3) := by decide +kernel
theorem dX9_init_83 : decode cX9_init 83 = .ok (.aload_n 0, 1) := by decide +kernel
theorem dX9_init_84 : decode cX9_init 84 = .ok (.bipush 6, 2) := by decide +kernel
theorem dX9_init_86 : decode cX9_init 86 = .ok (.newarray .int, 2) := by decide +kernel
theorem dX9_init_88 : decode cX9_init 88 = .ok (.putfield 47, 3) := by decide +kernel
theorem dX9_init_91 : decode cX9_init 91 = .ok (.aload_n 0, 1) := by decide +kernel
theorem dX9_init_92 : decode cX9_init 92 = .ok (.bipush 6, 2) := by decide +kernel
theorem dX9_init_94 : decode cX9_init 94 = .ok (.newarray .int, 2) := by decide +kernel
theorem dX9_init_96 : decode cX9_init 96 = .ok (.putfield 50, 3) := by decide +kernel
theorem dX9_init_99 : decode cX9_init 99 = .ok (.aload_n 0, 1) := by decide +kernel
theorem dX9_init_100 : decode cX9_init 100 = .ok (.bipush 6, 2) := by decide +kernel
theorem dX9_init_102 : decode cX9_init 102 = .ok (.newarray .int, 2) := by decide +kernel
theorem dX9_init_104 : decode cX9_init 104 = .ok (.putfield 53, 3) := by decide +kernel
theorem dX9_init_107 : decode cX9_init 107 = .ok (.aload_n 0, 1) := by decide +kernel
theorem dX9_init_108 : decode cX9_init 108 = .ok (.bipush 8, 2) := by decide +kernel
theorem dX9_init_110 : decode cX9_init 110 = .ok (.newarray .int, 2) := by decide +kernel
theorem dX9_init_112 : decode cX9_init 112 = .ok (.putfield 56, 3) := by decide +kernel
theorem dX9_init_115 : decode cX9_init 115 = .ok (.return_, 1) := by decide +kernel
theorem dX9_copyFrom_0 : decode cX9_copyFrom 0 = .ok (.aload_n 0, 1) := by decide +kernel
theorem dX9_copyFrom_1 : decode cX9_copyFrom 1 = .ok (.aload_n 1, 1) := by decide +kernel
theorem dX9_copyFrom_2 : decode cX9_copyFrom 2 = .ok (.getfield 59, 3) := by decide +kernel
theorem dX9_copyFrom_5 : decode cX9_copyFrom 5 = .ok (.putfield 59, 3) := by decide +kernel
theorem dX9_copyFrom_8 : decode cX9_copyFrom 8 = .ok (.aload_n 0, 1) := by decide +kernel
theorem dX9_copyFrom_9 : decode cX9_copyFrom 9 = .ok (.aload_n 1, 1) := by decide +kernel
theorem dX9_copyFrom_10 : decode cX9_copyFrom 10 = .ok (.getfield 62, 3) := by decide +kernel
theorem dX9_copyFrom_13 : decode cX9_copyFrom 13 = .ok (.putfield 62, 3) := by decide +kernel
theorem dX9_copyFrom_16 : decode cX9_copyFrom 16 = .ok (.aload_n 0, 1) := by decide +kernel
theorem dX9_copyFrom_17 : decode cX9_copyFrom 17 = .ok (.aload_n 1, 1) := by decide +kernel
theorem dX9_copyFrom_18 : decode cX9_copyFrom 18 = .ok (.getfield 65, 3) := by decide +kernel
theorem dX9_copyFrom_21 : decode cX9_copyFrom 21 = .ok (.putfield 65, 3) := by decide +kernel
theorem dX9_copyFrom_24 : decode cX9_copyFrom 24 = .ok (.aload_n 0, 1) := by decide +kernel
theorem dX9_copyFrom_25 : decode cX9_copyFrom 25 = .ok (.aload_n 1, 1) := by decide +kernel
theorem dX9_copyFrom_26 : decode cX9_copyFrom 26 = .ok (.getfield 9, 3) := by decide +kernel
theorem dX9_copyFrom_29 : decode cX9_copyFrom 29 = .ok (.putfield 9, 3) := by decide +kernel
theorem dX9_copyFrom_32 : decode cX9_copyFrom 32 = .ok (.aload_n 0, 1) := by decide +kernel
theorem dX9_copyFrom_33 : decode cX9_copyFrom 33 = .ok (.aload_n 1, 1) := by decide +kernel
theorem dX9_copyFrom_34 : decode cX9_copyFrom 34 = .ok (.getfield 15, 3) := by decide +kernel
theorem dX9_copyFrom_37 : decode cX9_copyFrom 37 = .ok (.putfield 15, 3) := by decide +kernel
theorem dX9_copyFrom_40 : decode cX9_copyFrom 40 = .ok (.aload_n 0, 1) := by decide +kernel
theorem dX9_copyFrom_41 : decode cX9_copyFrom 41 = .ok (.aload_n 1, 1) := by decide +kernel
theorem dX9_copyFrom_42 : decode cX9_copyFrom 42 = .ok (.getfield 18, 3) := by decide +kernel
theorem dX9_copyFrom_45 : decode cX9_copyFrom 45 = .ok (.putfield 18, 3) := by decide +kernel
theorem dX9_copyFrom_48 : decode cX9_copyFrom 48 = .ok (.aload_n 0, 1) := by decide +kernel
theorem dX9_copyFrom_49 : decode cX9_copyFrom 49 = .ok (.aload_n 1, 1) := by decide +kernel
theorem dX9_copyFrom_50 : decode cX9_copyFrom 50 = .ok (.getfield 68, 3) := by decide +kernel
theorem dX9_copyFrom_53 : decode cX9_copyFrom 53 = .ok (.putfield 68, 3) := by decide +kernel
theorem dX9_copyFrom_56 : decode cX9_copyFrom 56 = .ok (.aload_n 0, 1) := by decide +kernel
theorem dX9_copyFrom_57 : decode cX9_copyFrom 57 = .ok (.aload_n 1, 1) := by decide +kernel
theorem dX9_copyFrom_58 : decode cX9_copyFrom 58 = .ok (.getfield 21, 3) := by decide +kernel
theorem dX9_copyFrom_61 : decode cX9_copyFrom 61 = .ok (.putfield 21, 3) := by decide +kernel
theorem dX9_copyFrom_64 : decode cX9_copyFrom 64 = .ok (.aload_n 1, 1) := by decide +kernel
theorem dX9_copyFrom_65 : decode cX9_copyFrom 65 = .ok (.getfield 24, 3) := by decide +kernel
theorem dX9_copyFrom_68 : decode cX9_copyFrom 68 = .ok (.iconst 0, 1) := by decide +kernel
theorem dX9_copyFrom_69 : decode cX9_copyFrom 69 = .ok (.aload_n 0, 1) := by decide +kernel
theorem dX9_copyFrom_70 : decode cX9_copyFrom 70 = .ok (.getfield 24, 3) := by decide +kernel
theorem dX9_copyFrom_73 : decode cX9_copyFrom 73 = .ok (.iconst 0, 1) := by decide +kernel
theorem dX9_copyFrom_74 : decode cX9_copyFrom 74 = .ok (.bipush 8, 2) := by decide +kernel
theorem dX9_copyFrom_76 : decode cX9_copyFrom 76 = .ok (.invokestatic 71, 3) := by decide +kernel
theorem dX9_copyFrom_79 : decode cX9_copyFrom 79 = .ok (.aload_n 1, 1) := by decide +kernel
theorem dX9_copyFrom_80 : decode cX9_copyFrom 80 = .ok (.getfield 28, 3) := by decide +kernel
theorem dX9_copyFrom_83 : decode cX9_copyFrom 83 = .ok (.iconst 0, 1) := by decide +kernel
theorem dX9_copyFrom_84 : decode cX9_copyFrom 84 = .ok (.aload_n 0, 1) := by decide +kernel
theorem dX9_copyFrom_85 : decode cX9_copyFrom 85 = .ok (.getfield 28, 3) := by decide +kernel
theorem dX9_copyFrom_88 : decode cX9_copyFrom 88 = .ok (.iconst 0, 1) := by decide +kernel
theorem dX9_copyFrom_89 : decode cX9_copyFrom 89 = .ok (.bipush 8, 2) := by decide +kernel
theorem dX9_copyFrom_91 : decode cX9_copyFrom 91 = .ok (.invokestatic 71, 3) := by decide +kernel
theorem dX9_copyFrom_94 : decode cX9_copyFrom 94 = .ok (.aload_n 1, 1) := by decide +kernel
theorem dX9_copyFrom_95 : decode cX9_copyFrom 95 = .ok (.getfield 31, 3) := by decide +kernel
theorem dX9_copyFrom_98 : decode cX9_copyFrom 98 = .ok (.iconst 0, 1) := by decide +kernel
theorem dX9_copyFrom_99 : decode cX9_copyFrom 99 = .ok (.aload_n 0, 1) := by decide +kernel
theorem dX9_copyFrom_100 : decode cX9_copyFrom 100 = .ok (.getfield 31, 3) := by decide +kernel
theorem dX9_copyFrom_103 : decode cX9_copyFrom 103 = .ok (.iconst 0, 1) := by decide +kernel
theorem dX9_copyFrom_104 : decode cX9_copyFrom 104 = .ok (.bipush 8, 2) := by decide +kernel
theorem dX9_copyFrom_106 : decode cX9_copyFrom 106 = .ok (.invokestatic 71, 3) := by decide +kernel
theorem dX9_copyFrom_109 : decode cX9_copyFrom 109 = .ok (.aload_n 1, 1) := by decide +kernel
theorem dX9_copyFrom_110 : decode cX9_copyFrom 110 = .ok (.getfield 34, 3) := by decide +kernel
theorem dX9_copyFrom_113 : decode cX9_copyFrom 113 = .ok (.iconst 0, 1) := by decide +kernel
theorem dX9_copyFrom_114 : decode cX9_copyFrom 114 = .ok (.aload_n 0, 1) := by decide +kernel
theorem dX9_copyFrom_115 : decode cX9_copyFrom 115 = .ok (.getfield 34, 3) := by decide +kernel
theorem dX9_copyFrom_118 : decode cX9_copyFrom 118 = .ok (.iconst 0, 1) := by decide +kernel
theorem dX9_copyFrom_119 : decode cX9_copyFrom 119 = .ok (.bipush 8, 2) := by decide +kernel
theorem dX9_copyFrom_121 : decode cX9_copyFrom 121 = .ok (.invokestatic 71, 3) := by decide +kernel
theorem dX9_copyFrom_124 : decode cX9_copyFrom 124 = .ok (.aload_n 1, 1) := by decide +kernel
theorem dX9_copyFrom_125 : decode cX9_copyFrom 125 = .ok (.getfield 37, 3) := by decide +kernel
theorem dX9_copyFrom_128 : decode cX9_copyFrom 128 = .ok (.iconst 0, 1) := by decide +kernel
theorem dX9_copyFrom_129 : decode cX9_copyFrom 129 = .ok (.aload_n 0, 1) := by decide +kernel
theorem dX9_copyFrom_130 : decode cX9_copyFrom 130 = .ok (.getfield 37, 3) := by decide +kernel
theorem dX9_copyFrom_133 : decode cX9_copyFrom 133 = .ok (.iconst 0, 1) := by decide +kernel
theorem dX9_copyFrom_134 : decode cX9_copyFrom 134 = .ok (.bipush 8, 2) := by decide +kernel
theorem dX9_copyFrom_136 : decode cX9_copyFrom 136 = .ok (.invokestatic 71, 3) := by decide +kernel
theorem dX9_copyFrom_139 : decode cX9_copyFrom 139 = .ok (.aload_n 1, 1) := by decide +kernel
theorem dX9_copyFrom_140 : decode cX9_copyFrom 140 = .ok (.getfield 41, 3) := by decide +kernel
theorem dX9_copyFrom_143 : decode cX9_copyFrom 143 = .ok (.iconst 0, 1) := by decide +kernel
theorem dX9_copyFrom_144 : decode cX9_copyFrom 144 = .ok (.aload_n 0, 1) := by decide +kernel
theorem dX9_copyFrom_145 : decode cX9_copyFrom 145 = .ok (.getfield 41, 3) := by decide +kernel
theorem dX9_copyFrom_148 : decode cX9_copyFrom 148 = .ok (.iconst 0, 1) := by decide +kernel
theorem dX9_copyFrom_149 : decode cX9_copyFrom 149 = .ok (.bipush 64, 2) := by decide +kernel
theorem dX9_copyFrom_151 : decode cX9_copyFrom 151 = .ok (.invokestatic 71, 3) := by decide +kernel
theorem dX9_copyFrom_154 : decode cX9_copyFrom 154 = .ok (.aload_n 1, 1) := by decide +kernel
theorem dX9_copyFrom_155 : decode cX9_copyFrom 155 = .ok (.getfield 44, 3) := by decide +kernel
theorem dX9_copyFrom_158 : decode cX9_copyFrom 158 = .ok (.iconst 0, 1) := by decide +kernel
theorem dX9_copyFrom_159 : decode cX9_copyFrom 159 = .ok (.aload_n 0, 1) := by decide +kernel
theorem dX9_copyFrom_160 : decode cX9_copyFrom 160 = .ok (.getfield 44, 3) := by decide +kernel
theorem dX9_copyFrom_163 : decode cX9_copyFrom 163 = .ok (.iconst 0, 1) := by decide +kernel
theorem dX9_copyFrom_164 : decode cX9_copyFrom 164 = .ok (.bipush 6, 2) := by decide +kernel
theorem dX9_copyFrom_166 : decode cX9_copyFrom 166 = .ok (.invokestatic 71, 3) := by decide +kernel
theorem dX9_copyFrom_169 : decode cX9_copyFrom 169 = .ok (.aload_n 1, 1) := by decide +kernel
theorem dX9_copyFrom_170 : decode cX9_copyFrom 170 = .ok (.getfield 47, 3) := by decide +kernel
theorem dX9_copyFrom_173 : decode cX9_copyFrom 173 = .ok (.iconst 0, 1) := by decide +kernel
theorem dX9_copyFrom_174 : decode cX9_copyFrom 174 = .ok (.aload_n 0, 1) := by decide +kernel
theorem dX9_copyFrom_175 : decode cX9_copyFrom 175 = .ok (.getfield 47, 3) := by decide +kernel
theorem dX9_copyFrom_178 : decode cX9_copyFrom 178 = .ok (.iconst 0, 1) := by decide +kernel
theorem dX9_copyFrom_179 : decode cX9_copyFrom 179 = .ok (.bipush 6, 2) := by decide +kernel
theorem dX9_copyFrom_181 : decode cX9_copyFrom 181 = .ok (.invokestatic 71, 3) := by decide +kernel
theorem dX9_copyFrom_184 : decode cX9_copyFrom 184 = .ok (.aload_n 1, 1) := by decide +kernel
theorem dX9_copyFrom_185 : decode cX9_copyFrom 185 = .ok (.getfield 50, 3) := by decide +kernel
theorem dX9_copyFrom_188 : decode cX9_copyFrom 188 = .ok (.iconst 0, 1) := by decide +kernel
theorem dX9_copyFrom_189 : decode cX9_copyFrom 189 = .ok (.aload_n 0, 1) := by decide +kernel
theorem dX9_copyFrom_190 : decode cX9_copyFrom 190 = .ok (.getfield 50, 3) := by decide +kernel
theorem dX9_copyFrom_193 : decode cX9_copyFrom 193 = .ok (.iconst 0, 1) := by decide +kernel
theorem dX9_copyFrom_194 : decode cX9_copyFrom 194 = .ok (.bipush 6, 2) := by decide +kernel
theorem dX9_copyFrom_196 : decode cX9_copyFrom 196 = .ok (.invokestatic 71, 3) := by decide +kernel
theorem dX9_copyFrom_199 : decode cX9_copyFrom 199 = .ok (.aload_n 1, 1) := by decide +kernel
theorem dX9_copyFrom_200 : decode cX9_copyFrom 200 = .ok (.getfield 53, 3) := by decide +kernel
theorem dX9_copyFrom_203 : decode cX9_copyFrom 203 = .ok (.iconst 0, 1) := by decide +kernel
theorem dX9_copyFrom_204 : decode cX9_copyFrom 204 = .ok (.aload_n 0, 1) := by decide +kernel
theorem dX9_copyFrom_205 : decode cX9_copyFrom 205 = .ok (.getfield 53, 3) := by decide +kernel
theorem dX9_copyFrom_208 : decode cX9_copyFrom 208 = .ok (.iconst 0, 1) := by decide +kernel
theorem dX9_copyFrom_209 : decode cX9_copyFrom 209 = .ok (.bipush 6, 2) := by decide +kernel
theorem dX9_copyFrom_211 : decode cX9_copyFrom 211 = .ok (.invokestatic 71, 3) := by decide +kernel
theorem dX9_copyFrom_214 : decode cX9_copyFrom 214 = .ok (.return_, 1) := by decide +kernel
theorem dX9_peopleHere_0 : decode cX9_peopleHere 0 = .ok (.iconst 0, 1) := by decide +kernel
theorem dX9_peopleHere_1 : decode cX9_peopleHere 1 = .ok (.istore_n 1, 1) := by decide +kernel
theorem dX9_peopleHere_2 : decode cX9_peopleHere 2 = .ok (.iconst 0, 1) := by decide +kernel
theorem dX9_peopleHere_3 : decode cX9_peopleHere 3 = .ok (.istore_n 2, 1) := by decide +kernel
theorem dX9_peopleHere_4 : decode cX9_peopleHere 4 = .ok (.iload_n 2, 1) := by decide +kernel
theorem dX9_peopleHere_5 : decode cX9_peopleHere 5 = .ok (.aload_n 0, 1) := by decide +kernel
theorem dX9_peopleHere_6 : decode cX9_peopleHere 6 = .ok (.getfield 59, 3) := by decide +kernel
theorem dX9_peopleHere_9 : decode cX9_peopleHere 9 = .ok (.if_icmp .ge 23, 3) := by decide +kernel
theorem dX9_peopleHere_12 : decode cX9_peopleHere 12 = .ok (.aload_n 0, 1) := by decide +kernel
theorem dX9_peopleHere_13 : decode cX9_peopleHere 13 = .ok (.iload_n 2, 1) := by decide +kernel
theorem dX9_peopleHere_14 : decode cX9_peopleHere 14 = .ok (.invokevirtual 81, 3) := by decide +kernel
theorem dX9_peopleHere_17 : decode cX9_peopleHere 17 = .ok (.ifCond .eq 9, 3) := by decide +kernel
theorem dX9_peopleHere_20 : decode cX9_peopleHere 20 = .ok (.iload_n 1, 1) := by decide +kernel
theorem dX9_peopleHere_21 : decode cX9_peopleHere 21 = .ok (.iconst 1, 1) := by decide +kernel
theorem dX9_peopleHere_22 : decode cX9_peopleHere 22 = .ok (.iload_n 2, 1) := by decide +kernel
theorem dX9_peopleHere_23 : decode cX9_peopleHere 23 = .ok (.ishl, 1) := by decide +kernel
theorem dX9_peopleHere_24 : decode cX9_peopleHere 24 = .ok (.ior, 1) := by decide +kernel
theorem dX9_peopleHere_25 : decode cX9_peopleHere 25 = .ok (.istore_n 1, 1) := by decide +kernel
theorem dX9_peopleHere_26 : decode cX9_peopleHere 26 = .ok (.iinc 2 1, 3) := by decide +kernel
theorem dX9_peopleHere_29 : decode cX9_peopleHere 29 = .ok (.goto (-25), 3) := by decide +kernel
theorem dX9_peopleHere_32 : decode cX9_peopleHere 32 = .ok (.iload_n 1, 1) := by decide +kernel
theorem dX9_peopleHere_33 : decode cX9_peopleHere 33 = .ok (.ireturn, 1) := by decide +kernel
theorem dX9_believed_0 : decode cX9_believed 0 = .ok (.iconst 0, 1) := by decide +kernel
theorem dX9_believed_1 : decode cX9_believed 1 = .ok (.istore_n 1, 1) := by decide +kernel
theorem dX9_believed_2 : decode cX9_believed 2 = .ok (.iconst 0, 1) := by decide +kernel
theorem dX9_believed_3 : decode cX9_believed 3 = .ok (.istore_n 2, 1) := by decide +kernel
theorem dX9_believed_4 : decode cX9_believed 4 = .ok (.iload_n 2, 1) := by decide +kernel
theorem dX9_believed_5 : decode cX9_believed 5 = .ok (.aload_n 0, 1) := by decide +kernel
theorem dX9_believed_6 : decode cX9_believed 6 = .ok (.getfield 59, 3) := by decide +kernel
theorem dX9_believed_9 : decode cX9_believed 9 = .ok (.if_icmp .ge 26, 3) := by decide +kernel
theorem dX9_believed_12 : decode cX9_believed 12 = .ok (.aload_n 0, 1) := by decide +kernel
theorem dX9_believed_13 : decode cX9_believed 13 = .ok (.iload_n 2, 1) := by decide +kernel
theorem dX9_believed_14 : decode cX9_believed 14 = .ok (.invokevirtual 81, 3) := by decide +kernel
theorem dX9_believed_17 : decode cX9_believed 17 = .ok (.ifCond .eq 12, 3) := by decide +kernel
theorem dX9_believed_20 : decode cX9_believed 20 = .ok (.iload_n 1, 1) := by decide +kernel
theorem dX9_believed_21 : decode cX9_believed 21 = .ok (.aload_n 0, 1) := by decide +kernel
theorem dX9_believed_22 : decode cX9_believed 22 = .ok (.getfield 24, 3) := by decide +kernel
theorem dX9_believed_25 : decode cX9_believed 25 = .ok (.iload_n 2, 1) := by decide +kernel
theorem dX9_believed_26 : decode cX9_believed 26 = .ok (.iaload, 1) := by decide +kernel
theorem dX9_believed_27 : decode cX9_believed 27 = .ok (.iadd, 1) := by decide +kernel
theorem dX9_believed_28 : decode cX9_believed 28 = .ok (.istore_n 1, 1) := by decide +kernel
theorem dX9_believed_29 : decode cX9_believed 29 = .ok (.iinc 2 1, 3) := by decide +kernel
theorem dX9_believed_32 : decode cX9_believed 32 = .ok (.goto (-28), 3) := by decide +kernel
theorem dX9_believed_35 : decode cX9_believed 35 = .ok (.iload_n 1, 1) := by decide +kernel
theorem dX9_believed_36 : decode cX9_believed 36 = .ok (.ireturn, 1) := by decide +kernel
theorem dX9_meanBelief_0 : decode cX9_meanBelief 0 = .ok (.aload_n 0, 1) := by decide +kernel
theorem dX9_meanBelief_1 : decode cX9_meanBelief 1 = .ok (.invokevirtual 85, 3) := by decide +kernel
theorem dX9_meanBelief_4 : decode cX9_meanBelief 4 = .ok (.invokestatic 89, 3) := by decide +kernel
theorem dX9_meanBelief_7 : decode cX9_meanBelief 7 = .ok (.istore_n 1, 1) := by decide +kernel
theorem dX9_meanBelief_8 : decode cX9_meanBelief 8 = .ok (.iload_n 1, 1) := by decide +kernel
theorem dX9_meanBelief_9 : decode cX9_meanBelief 9 = .ok (.ifCond .ne 7, 3) := by decide +kernel
theorem dX9_meanBelief_12 : decode cX9_meanBelief 12 = .ok (.iconst 0, 1) := by decide +kernel
theorem dX9_meanBelief_13 : decode cX9_meanBelief 13 = .ok (.goto 9, 3) := by decide +kernel
theorem dX9_meanBelief_16 : decode cX9_meanBelief 16 = .ok (.aload_n 0, 1) := by decide +kernel
theorem dX9_meanBelief_17 : decode cX9_meanBelief 17 = .ok (.invokevirtual 95, 3) := by decide +kernel
theorem dX9_meanBelief_20 : decode cX9_meanBelief 20 = .ok (.iload_n 1, 1) := by decide +kernel
theorem dX9_meanBelief_21 : decode cX9_meanBelief 21 = .ok (.idiv, 1) := by decide +kernel
theorem dX9_meanBelief_22 : decode cX9_meanBelief 22 = .ok (.ireturn, 1) := by decide +kernel
theorem dX9_sharePrice_0 : decode cX9_sharePrice 0 = .ok (.aload_n 0, 1) := by decide +kernel
theorem dX9_sharePrice_1 : decode cX9_sharePrice 1 = .ok (.invokevirtual 98, 3) := by decide +kernel
theorem dX9_sharePrice_4 : decode cX9_sharePrice 4 = .ok (.istore_n 1, 1) := by decide +kernel
theorem dX9_sharePrice_5 : decode cX9_sharePrice 5 = .ok (.iload_n 1, 1) := by decide +kernel
theorem dX9_sharePrice_6 : decode cX9_sharePrice 6 = .ok (.iload_n 1, 1) := by decide +kernel
theorem dX9_sharePrice_7 : decode cX9_sharePrice 7 = .ok (.imul, 1) := by decide +kernel
theorem dX9_sharePrice_8 : decode cX9_sharePrice 8 = .ok (.bipush 50, 2) := by decide +kernel
theorem dX9_sharePrice_10 : decode cX9_sharePrice 10 = .ok (.idiv, 1) := by decide +kernel
theorem dX9_sharePrice_11 : decode cX9_sharePrice 11 = .ok (.iconst 1, 1) := by decide +kernel
theorem dX9_sharePrice_12 : decode cX9_sharePrice 12 = .ok (.iadd, 1) := by decide +kernel
theorem dX9_sharePrice_13 : decode cX9_sharePrice 13 = .ok (.ireturn, 1) := by decide +kernel
theorem dX9_sharesOfAll_0 : decode cX9_sharesOfAll 0 = .ok (.iconst 0, 1) := by decide +kernel
theorem dX9_sharesOfAll_1 : decode cX9_sharesOfAll 1 = .ok (.istore_n 1, 1) := by decide +kernel
theorem dX9_sharesOfAll_2 : decode cX9_sharesOfAll 2 = .ok (.iconst 0, 1) := by decide +kernel
theorem dX9_sharesOfAll_3 : decode cX9_sharesOfAll 3 = .ok (.istore_n 2, 1) := by decide +kernel
theorem dX9_sharesOfAll_4 : decode cX9_sharesOfAll 4 = .ok (.iload_n 2, 1) := by decide +kernel
theorem dX9_sharesOfAll_5 : decode cX9_sharesOfAll 5 = .ok (.aload_n 0, 1) := by decide +kernel
theorem dX9_sharesOfAll_6 : decode cX9_sharesOfAll 6 = .ok (.getfield 59, 3) := by decide +kernel
theorem dX9_sharesOfAll_9 : decode cX9_sharesOfAll 9 = .ok (.if_icmp .ge 18, 3) := by decide +kernel
theorem dX9_sharesOfAll_12 : decode cX9_sharesOfAll 12 = .ok (.iload_n 1, 1) := by decide +kernel
theorem dX9_sharesOfAll_13 : decode cX9_sharesOfAll 13 = .ok (.aload_n 0, 1) := by decide +kernel
theorem dX9_sharesOfAll_14 : decode cX9_sharesOfAll 14 = .ok (.getfield 31, 3) := by decide +kernel
theorem dX9_sharesOfAll_17 : decode cX9_sharesOfAll 17 = .ok (.iload_n 2, 1) := by decide +kernel
theorem dX9_sharesOfAll_18 : decode cX9_sharesOfAll 18 = .ok (.iaload, 1) := by decide +kernel
theorem dX9_sharesOfAll_19 : decode cX9_sharesOfAll 19 = .ok (.iadd, 1) := by decide +kernel
theorem dX9_sharesOfAll_20 : decode cX9_sharesOfAll 20 = .ok (.istore_n 1, 1) := by decide +kernel
theorem dX9_sharesOfAll_21 : decode cX9_sharesOfAll 21 = .ok (.iinc 2 1, 3) := by decide +kernel
theorem dX9_sharesOfAll_24 : decode cX9_sharesOfAll 24 = .ok (.goto (-20), 3) := by decide +kernel
theorem dX9_sharesOfAll_27 : decode cX9_sharesOfAll 27 = .ok (.iload_n 1, 1) := by decide +kernel
theorem dX9_sharesOfAll_28 : decode cX9_sharesOfAll 28 = .ok (.ireturn, 1) := by decide +kernel
theorem dX9_doubters_0 : decode cX9_doubters 0 = .ok (.iconst 0, 1) := by decide +kernel
theorem dX9_doubters_1 : decode cX9_doubters 1 = .ok (.istore_n 1, 1) := by decide +kernel
theorem dX9_doubters_2 : decode cX9_doubters 2 = .ok (.iconst 0, 1) := by decide +kernel
theorem dX9_doubters_3 : decode cX9_doubters 3 = .ok (.istore_n 2, 1) := by decide +kernel
theorem dX9_doubters_4 : decode cX9_doubters 4 = .ok (.iload_n 2, 1) := by decide +kernel
theorem dX9_doubters_5 : decode cX9_doubters 5 = .ok (.aload_n 0, 1) := by decide +kernel
theorem dX9_doubters_6 : decode cX9_doubters 6 = .ok (.getfield 59, 3) := by decide +kernel
theorem dX9_doubters_9 : decode cX9_doubters 9 = .ok (.if_icmp .ge 34, 3) := by decide +kernel
theorem dX9_doubters_12 : decode cX9_doubters 12 = .ok (.aload_n 0, 1) := by decide +kernel
theorem dX9_doubters_13 : decode cX9_doubters 13 = .ok (.iload_n 2, 1) := by decide +kernel
theorem dX9_doubters_14 : decode cX9_doubters 14 = .ok (.invokevirtual 81, 3) := by decide +kernel
theorem dX9_doubters_17 : decode cX9_doubters 17 = .ok (.ifCond .eq 20, 3) := by decide +kernel
theorem dX9_doubters_20 : decode cX9_doubters 20 = .ok (.aload_n 0, 1) := by decide +kernel
theorem dX9_doubters_21 : decode cX9_doubters 21 = .ok (.getfield 24, 3) := by decide +kernel
theorem dX9_doubters_24 : decode cX9_doubters 24 = .ok (.iload_n 2, 1) := by decide +kernel
theorem dX9_doubters_25 : decode cX9_doubters 25 = .ok (.iaload, 1) := by decide +kernel
theorem dX9_doubters_26 : decode cX9_doubters 26 = .ok (.bipush 33, 2) := by decide +kernel
theorem dX9_doubters_28 : decode cX9_doubters 28 = .ok (.if_icmp .ge 9, 3) := by decide +kernel
theorem dX9_doubters_31 : decode cX9_doubters 31 = .ok (.iload_n 1, 1) := by decide +kernel
theorem dX9_doubters_32 : decode cX9_doubters 32 = .ok (.iconst 1, 1) := by decide +kernel
theorem dX9_doubters_33 : decode cX9_doubters 33 = .ok (.iload_n 2, 1) := by decide +kernel
theorem dX9_doubters_34 : decode cX9_doubters 34 = .ok (.ishl, 1) := by decide +kernel
theorem dX9_doubters_35 : decode cX9_doubters 35 = .ok (.ior, 1) := by decide +kernel
theorem dX9_doubters_36 : decode cX9_doubters 36 = .ok (.istore_n 1, 1) := by decide +kernel
theorem dX9_doubters_37 : decode cX9_doubters 37 = .ok (.iinc 2 1, 3) := by decide +kernel
theorem dX9_doubters_40 : decode cX9_doubters 40 = .ok (.goto (-36), 3) := by decide +kernel
theorem dX9_doubters_43 : decode cX9_doubters 43 = .ok (.iload_n 1, 1) := by decide +kernel
theorem dX9_doubters_44 : decode cX9_doubters 44 = .ok (.ireturn, 1) := by decide +kernel
theorem dX9_isRuined_0 : decode cX9_isRuined 0 = .ok (.aload_n 0, 1) := by decide +kernel
theorem dX9_isRuined_1 : decode cX9_isRuined 1 = .ok (.invokevirtual 85, 3) := by decide +kernel
theorem dX9_isRuined_4 : decode cX9_isRuined 4 = .ok (.invokestatic 89, 3) := by decide +kernel
theorem dX9_isRuined_7 : decode cX9_isRuined 7 = .ok (.istore_n 1, 1) := by decide +kernel
theorem dX9_isRuined_8 : decode cX9_isRuined 8 = .ok (.iload_n 1, 1) := by decide +kernel
theorem dX9_isRuined_9 : decode cX9_isRuined 9 = .ok (.ifCond .le 22, 3) := by decide +kernel
theorem dX9_isRuined_12 : decode cX9_isRuined 12 = .ok (.iconst 3, 1) := by decide +kernel
theorem dX9_isRuined_13 : decode cX9_isRuined 13 = .ok (.aload_n 0, 1) := by decide +kernel
theorem dX9_isRuined_14 : decode cX9_isRuined 14 = .ok (.invokevirtual 108, 3) := by decide +kernel
theorem dX9_isRuined_17 : decode cX9_isRuined 17 = .ok (.invokestatic 89, 3) := by decide +kernel
theorem dX9_isRuined_20 : decode cX9_isRuined 20 = .ok (.imul, 1) := by decide +kernel
theorem dX9_isRuined_21 : decode cX9_isRuined 21 = .ok (.iconst 2, 1) := by decide +kernel
theorem dX9_isRuined_22 : decode cX9_isRuined 22 = .ok (.iload_n 1, 1) := by decide +kernel
theorem dX9_isRuined_23 : decode cX9_isRuined 23 = .ok (.imul, 1) := by decide +kernel
theorem dX9_isRuined_24 : decode cX9_isRuined 24 = .ok (.if_icmp .lt 7, 3) := by decide +kernel
theorem dX9_isRuined_27 : decode cX9_isRuined 27 = .ok (.iconst 1, 1) := by decide +kernel
theorem dX9_isRuined_28 : decode cX9_isRuined 28 = .ok (.goto 4, 3) := by decide +kernel
theorem dX9_isRuined_31 : decode cX9_isRuined 31 = .ok (.iconst 0, 1) := by decide +kernel
theorem dX9_isRuined_32 : decode cX9_isRuined 32 = .ok (.ireturn, 1) := by decide +kernel
theorem dX9_worksIn_0 : decode cX9_worksIn 0 = .ok (.iconst 0, 1) := by decide +kernel
theorem dX9_worksIn_1 : decode cX9_worksIn 1 = .ok (.istore_n 2, 1) := by decide +kernel
theorem dX9_worksIn_2 : decode cX9_worksIn 2 = .ok (.iconst 0, 1) := by decide +kernel
theorem dX9_worksIn_3 : decode cX9_worksIn 3 = .ok (.istore_n 3, 1) := by decide +kernel
theorem dX9_worksIn_4 : decode cX9_worksIn 4 = .ok (.iload_n 3, 1) := by decide +kernel
theorem dX9_worksIn_5 : decode cX9_worksIn 5 = .ok (.aload_n 0, 1) := by decide +kernel
theorem dX9_worksIn_6 : decode cX9_worksIn 6 = .ok (.getfield 62, 3) := by decide +kernel
theorem dX9_worksIn_9 : decode cX9_worksIn 9 = .ok (.if_icmp .ge 25, 3) := by decide +kernel
theorem dX9_worksIn_12 : decode cX9_worksIn 12 = .ok (.aload_n 0, 1) := by decide +kernel
theorem dX9_worksIn_13 : decode cX9_worksIn 13 = .ok (.getfield 53, 3) := by decide +kernel
theorem dX9_worksIn_16 : decode cX9_worksIn 16 = .ok (.iload_n 3, 1) := by decide +kernel
theorem dX9_worksIn_17 : decode cX9_worksIn 17 = .ok (.iaload, 1) := by decide +kernel
theorem dX9_worksIn_18 : decode cX9_worksIn 18 = .ok (.iload_n 1, 1) := by decide +kernel
theorem dX9_worksIn_19 : decode cX9_worksIn 19 = .ok (.if_icmp .ne 9, 3) := by decide +kernel
theorem dX9_worksIn_22 : decode cX9_worksIn 22 = .ok (.iload_n 2, 1) := by decide +kernel
theorem dX9_worksIn_23 : decode cX9_worksIn 23 = .ok (.iconst 1, 1) := by decide +kernel
theorem dX9_worksIn_24 : decode cX9_worksIn 24 = .ok (.iload_n 3, 1) := by decide +kernel
theorem dX9_worksIn_25 : decode cX9_worksIn 25 = .ok (.ishl, 1) := by decide +kernel
theorem dX9_worksIn_26 : decode cX9_worksIn 26 = .ok (.ior, 1) := by decide +kernel
theorem dX9_worksIn_27 : decode cX9_worksIn 27 = .ok (.istore_n 2, 1) := by decide +kernel
theorem dX9_worksIn_28 : decode cX9_worksIn 28 = .ok (.iinc 3 1, 3) := by decide +kernel
theorem dX9_worksIn_31 : decode cX9_worksIn 31 = .ok (.goto (-27), 3) := by decide +kernel
theorem dX9_worksIn_34 : decode cX9_worksIn 34 = .ok (.iload_n 2, 1) := by decide +kernel
theorem dX9_worksIn_35 : decode cX9_worksIn 35 = .ok (.ireturn, 1) := by decide +kernel
theorem dX9_firstComing_0 : decode cX9_firstComing 0 = .ok (.iconst (-1), 1) := by decide +kernel
theorem dX9_firstComing_1 : decode cX9_firstComing 1 = .ok (.istore_n 1, 1) := by decide +kernel
theorem dX9_firstComing_2 : decode cX9_firstComing 2 = .ok (.iconst 0, 1) := by decide +kernel
theorem dX9_firstComing_3 : decode cX9_firstComing 3 = .ok (.istore_n 2, 1) := by decide +kernel
theorem dX9_firstComing_4 : decode cX9_firstComing 4 = .ok (.iload_n 2, 1) := by decide +kernel
theorem dX9_firstComing_5 : decode cX9_firstComing 5 = .ok (.aload_n 0, 1) := by decide +kernel
theorem dX9_firstComing_6 : decode cX9_firstComing 6 = .ok (.getfield 59, 3) := by decide +kernel
theorem dX9_firstComing_9 : decode cX9_firstComing 9 = .ok (.if_icmp .ge 39, 3) := by decide +kernel
theorem dX9_firstComing_12 : decode cX9_firstComing 12 = .ok (.aload_n 0, 1) := by decide +kernel
theorem dX9_firstComing_13 : decode cX9_firstComing 13 = .ok (.iload_n 2, 1) := by decide +kernel
theorem dX9_firstComing_14 : decode cX9_firstComing 14 = .ok (.invokevirtual 81, 3) := by decide +kernel
theorem dX9_firstComing_17 : decode cX9_firstComing 17 = .ok (.ifCond .ne 25, 3) := by decide +kernel
theorem dX9_firstComing_20 : decode cX9_firstComing 20 = .ok (.iload_n 1, 1) := by decide +kernel
theorem dX9_firstComing_21 : decode cX9_firstComing 21 = .ok (.iconst (-1), 1) := by decide +kernel
theorem dX9_firstComing_22 : decode cX9_firstComing 22 = .ok (.if_icmp .eq 13, 3) := by decide +kernel
theorem dX9_firstComing_25 : decode cX9_firstComing 25 = .ok (.aload_n 0, 1) := by decide +kernel
theorem dX9_firstComing_26 : decode cX9_firstComing 26 = .ok (.getfield 34, 3) := by decide +kernel
theorem dX9_firstComing_29 : decode cX9_firstComing 29 = .ok (.iload_n 2, 1) := by decide +kernel
theorem dX9_firstComing_30 : decode cX9_firstComing 30 = .ok (.iaload, 1) := by decide +kernel
theorem dX9_firstComing_31 : decode cX9_firstComing 31 = .ok (.iload_n 1, 1) := by decide +kernel
theorem dX9_firstComing_32 : decode cX9_firstComing 32 = .ok (.if_icmp .ge 10, 3) := by decide +kernel
theorem dX9_firstComing_35 : decode cX9_firstComing 35 = .ok (.aload_n 0, 1) := by decide +kernel
theorem dX9_firstComing_36 : decode cX9_firstComing 36 = .ok (.getfield 34, 3) := by decide +kernel
theorem dX9_firstComing_39 : decode cX9_firstComing 39 = .ok (.iload_n 2, 1) := by decide +kernel
theorem dX9_firstComing_40 : decode cX9_firstComing 40 = .ok (.iaload, 1) := by decide +kernel
theorem dX9_firstComing_41 : decode cX9_firstComing 41 = .ok (.istore_n 1, 1) := by decide +kernel
theorem dX9_firstComing_42 : decode cX9_firstComing 42 = .ok (.iinc 2 1, 3) := by decide +kernel
theorem dX9_firstComing_45 : decode cX9_firstComing 45 = .ok (.goto (-41), 3) := by decide +kernel
theorem dX9_firstComing_48 : decode cX9_firstComing 48 = .ok (.iload_n 1, 1) := by decide +kernel
theorem dX9_firstComing_49 : decode cX9_firstComing 49 = .ok (.iconst (-1), 1) := by decide +kernel
theorem dX9_firstComing_50 : decode cX9_firstComing 50 = .ok (.if_icmp .eq 10, 3) := by decide +kernel
theorem dX9_firstComing_53 : decode cX9_firstComing 53 = .ok (.iload_n 1, 1) := by decide +kernel
theorem dX9_firstComing_54 : decode cX9_firstComing 54 = .ok (.sipush 9999, 3) := by decide +kernel
theorem dX9_firstComing_57 : decode cX9_firstComing 57 = .ok (.if_icmp .le 7, 3) := by decide +kernel
theorem dX9_firstComing_60 : decode cX9_firstComing 60 = .ok (.iconst (-1), 1) := by decide +kernel
theorem dX9_firstComing_61 : decode cX9_firstComing 61 = .ok (.goto 11, 3) := by decide +kernel
theorem dX9_firstComing_64 : decode cX9_firstComing 64 = .ok (.iload_n 1, 1) := by decide +kernel
theorem dX9_firstComing_65 : decode cX9_firstComing 65 = .ok (.aload_n 0, 1) := by decide +kernel
theorem dX9_firstComing_66 : decode cX9_firstComing 66 = .ok (.getfield 68, 3) := by decide +kernel
theorem dX9_firstComing_69 : decode cX9_firstComing 69 = .ok (.invokestatic 111, 3) := by decide +kernel
theorem dX9_firstComing_72 : decode cX9_firstComing 72 = .ok (.ireturn, 1) := by decide +kernel
theorem dX9_bestWorks_0 : decode cX9_bestWorks 0 = .ok (.iconst 0, 1) := by decide +kernel
theorem dX9_bestWorks_1 : decode cX9_bestWorks 1 = .ok (.istore_n 1, 1) := by decide +kernel
theorem dX9_bestWorks_2 : decode cX9_bestWorks 2 = .ok (.iconst 1, 1) := by decide +kernel
theorem dX9_bestWorks_3 : decode cX9_bestWorks 3 = .ok (.istore_n 2, 1) := by decide +kernel
theorem dX9_bestWorks_4 : decode cX9_bestWorks 4 = .ok (.iload_n 2, 1) := by decide +kernel
theorem dX9_bestWorks_5 : decode cX9_bestWorks 5 = .ok (.iconst 1, 1) := by decide +kernel
theorem dX9_bestWorks_6 : decode cX9_bestWorks 6 = .ok (.aload_n 0, 1) := by decide +kernel
theorem dX9_bestWorks_7 : decode cX9_bestWorks 7 = .ok (.getfield 62, 3) := by decide +kernel
theorem dX9_bestWorks_10 : decode cX9_bestWorks 10 = .ok (.ishl, 1) := by decide +kernel
theorem dX9_bestWorks_11 : decode cX9_bestWorks 11 = .ok (.if_icmp .ge 32, 3) := by decide +kernel
theorem dX9_bestWorks_14 : decode cX9_bestWorks 14 = .ok (.aload_n 0, 1) := by decide +kernel
theorem dX9_bestWorks_15 : decode cX9_bestWorks 15 = .ok (.iload_n 2, 1) := by decide +kernel
theorem dX9_bestWorks_16 : decode cX9_bestWorks 16 = .ok (.invokevirtual 116, 3) := by decide +kernel
theorem dX9_bestWorks_19 : decode cX9_bestWorks 19 = .ok (.ifCond .eq 18, 3) := by decide +kernel
theorem dX9_bestWorks_22 : decode cX9_bestWorks 22 = .ok (.aload_n 0, 1) := by decide +kernel
theorem dX9_bestWorks_23 : decode cX9_bestWorks 23 = .ok (.iload_n 2, 1) := by decide +kernel
theorem dX9_bestWorks_24 : decode cX9_bestWorks 24 = .ok (.invokevirtual 119, 3) := by decide +kernel
theorem dX9_bestWorks_27 : decode cX9_bestWorks 27 = .ok (.aload_n 0, 1) := by decide +kernel
theorem dX9_bestWorks_28 : decode cX9_bestWorks 28 = .ok (.iload_n 1, 1) := by decide +kernel
theorem dX9_bestWorks_29 : decode cX9_bestWorks 29 = .ok (.invokevirtual 119, 3) := by decide +kernel
theorem dX9_bestWorks_32 : decode cX9_bestWorks 32 = .ok (.if_icmp .le 5, 3) := by decide +kernel
theorem dX9_bestWorks_35 : decode cX9_bestWorks 35 = .ok (.iload_n 2, 1) := by decide +kernel
theorem dX9_bestWorks_36 : decode cX9_bestWorks 36 = .ok (.istore_n 1, 1) := by decide +kernel
theorem dX9_bestWorks_37 : decode cX9_bestWorks 37 = .ok (.iinc 2 1, 3) := by decide +kernel
theorem dX9_bestWorks_40 : decode cX9_bestWorks 40 = .ok (.goto (-36), 3) := by decide +kernel
theorem dX9_bestWorks_43 : decode cX9_bestWorks 43 = .ok (.iload_n 1, 1) := by decide +kernel
theorem dX9_bestWorks_44 : decode cX9_bestWorks 44 = .ok (.ireturn, 1) := by decide +kernel
theorem dX9_gainOf_0 : decode cX9_gainOf 0 = .ok (.iconst 0, 1) := by decide +kernel
theorem dX9_gainOf_1 : decode cX9_gainOf 1 = .ok (.istore_n 2, 1) := by decide +kernel
theorem dX9_gainOf_2 : decode cX9_gainOf 2 = .ok (.iconst 0, 1) := by decide +kernel
theorem dX9_gainOf_3 : decode cX9_gainOf 3 = .ok (.istore_n 3, 1) := by decide +kernel
theorem dX9_gainOf_4 : decode cX9_gainOf 4 = .ok (.iload_n 3, 1) := by decide +kernel
theorem dX9_gainOf_5 : decode cX9_gainOf 5 = .ok (.aload_n 0, 1) := by decide +kernel
theorem dX9_gainOf_6 : decode cX9_gainOf 6 = .ok (.getfield 62, 3) := by decide +kernel
theorem dX9_gainOf_9 : decode cX9_gainOf 9 = .ok (.if_icmp .ge 26, 3) := by decide +kernel
theorem dX9_gainOf_12 : decode cX9_gainOf 12 = .ok (.iload_n 1, 1) := by decide +kernel
theorem dX9_gainOf_13 : decode cX9_gainOf 13 = .ok (.iload_n 3, 1) := by decide +kernel
theorem dX9_gainOf_14 : decode cX9_gainOf 14 = .ok (.ishr, 1) := by decide +kernel
theorem dX9_gainOf_15 : decode cX9_gainOf 15 = .ok (.iconst 1, 1) := by decide +kernel
theorem dX9_gainOf_16 : decode cX9_gainOf 16 = .ok (.iand, 1) := by decide +kernel
theorem dX9_gainOf_17 : decode cX9_gainOf 17 = .ok (.ifCond .eq 12, 3) := by decide +kernel
theorem dX9_gainOf_20 : decode cX9_gainOf 20 = .ok (.iload_n 2, 1) := by decide +kernel
theorem dX9_gainOf_21 : decode cX9_gainOf 21 = .ok (.aload_n 0, 1) := by decide +kernel
theorem dX9_gainOf_22 : decode cX9_gainOf 22 = .ok (.getfield 50, 3) := by decide +kernel
theorem dX9_gainOf_25 : decode cX9_gainOf 25 = .ok (.iload_n 3, 1) := by decide +kernel
theorem dX9_gainOf_26 : decode cX9_gainOf 26 = .ok (.iaload, 1) := by decide +kernel
theorem dX9_gainOf_27 : decode cX9_gainOf 27 = .ok (.iadd, 1) := by decide +kernel
theorem dX9_gainOf_28 : decode cX9_gainOf 28 = .ok (.istore_n 2, 1) := by decide +kernel
theorem dX9_gainOf_29 : decode cX9_gainOf 29 = .ok (.iinc 3 1, 3) := by decide +kernel
theorem dX9_gainOf_32 : decode cX9_gainOf 32 = .ok (.goto (-28), 3) := by decide +kernel
theorem dX9_gainOf_35 : decode cX9_gainOf 35 = .ok (.iload_n 2, 1) := by decide +kernel
theorem dX9_gainOf_36 : decode cX9_gainOf 36 = .ok (.ireturn, 1) := by decide +kernel
theorem dX9_passDay_0 : decode cX9_passDay 0 = .ok (.aload_n 0, 1) := by decide +kernel
theorem dX9_passDay_1 : decode cX9_passDay 1 = .ok (.aload_n 1, 1) := by decide +kernel
theorem dX9_passDay_2 : decode cX9_passDay 2 = .ok (.invokevirtual 128, 3) := by decide +kernel
theorem dX9_passDay_5 : decode cX9_passDay 5 = .ok (.aload_n 0, 1) := by decide +kernel
theorem dX9_passDay_6 : decode cX9_passDay 6 = .ok (.aload_n 1, 1) := by decide +kernel
theorem dX9_passDay_7 : decode cX9_passDay 7 = .ok (.invokevirtual 132, 3) := by decide +kernel
theorem dX9_passDay_10 : decode cX9_passDay 10 = .ok (.aload_n 0, 1) := by decide +kernel
theorem dX9_passDay_11 : decode cX9_passDay 11 = .ok (.aload_n 3, 1) := by decide +kernel
theorem dX9_passDay_12 : decode cX9_passDay 12 = .ok (.invokevirtual 135, 3) := by decide +kernel
theorem dX9_passDay_15 : decode cX9_passDay 15 = .ok (.istore 4, 2) := by decide +kernel
theorem dX9_passDay_17 : decode cX9_passDay 17 = .ok (.aload_n 0, 1) := by decide +kernel
theorem dX9_passDay_18 : decode cX9_passDay 18 = .ok (.iload_n 2, 1) := by decide +kernel
theorem dX9_passDay_19 : decode cX9_passDay 19 = .ok (.aload_n 3, 1) := by decide +kernel
theorem dX9_passDay_20 : decode cX9_passDay 20 = .ok (.invokevirtual 139, 3) := by decide +kernel
theorem dX9_passDay_23 : decode cX9_passDay 23 = .ok (.aload_n 0, 1) := by decide +kernel
theorem dX9_passDay_24 : decode cX9_passDay 24 = .ok (.sipush 9999, 3) := by decide +kernel
theorem dX9_passDay_27 : decode cX9_passDay 27 = .ok (.aload_n 0, 1) := by decide +kernel
theorem dX9_passDay_28 : decode cX9_passDay 28 = .ok (.getfield 68, 3) := by decide +kernel
theorem dX9_passDay_31 : decode cX9_passDay 31 = .ok (.iconst 1, 1) := by decide +kernel
theorem dX9_passDay_32 : decode cX9_passDay 32 = .ok (.iadd, 1) := by decide +kernel
theorem dX9_passDay_33 : decode cX9_passDay 33 = .ok (.invokestatic 125, 3) := by decide +kernel
theorem dX9_passDay_36 : decode cX9_passDay 36 = .ok (.putfield 68, 3) := by decide +kernel
theorem dX9_passDay_39 : decode cX9_passDay 39 = .ok (.iload 4, 2) := by decide +kernel
theorem dX9_passDay_41 : decode cX9_passDay 41 = .ok (.ireturn, 1) := by decide +kernel
theorem dX9_showTo_0 : decode cX9_showTo 0 = .ok (.aload_n 1, 1) := by decide +kernel
theorem dX9_showTo_1 : decode cX9_showTo 1 = .ok (.aload_n 0, 1) := by decide +kernel
theorem dX9_showTo_2 : decode cX9_showTo 2 = .ok (.invokevirtual 98, 3) := by decide +kernel
theorem dX9_showTo_5 : decode cX9_showTo 5 = .ok (.aload_n 0, 1) := by decide +kernel
theorem dX9_showTo_6 : decode cX9_showTo 6 = .ok (.iconst 1, 1) := by decide +kernel
theorem dX9_showTo_7 : decode cX9_showTo 7 = .ok (.invokevirtual 143, 3) := by decide +kernel
theorem dX9_showTo_10 : decode cX9_showTo 10 = .ok (.invokestatic 89, 3) := by decide +kernel
theorem dX9_showTo_13 : decode cX9_showTo 13 = .ok (.aload_n 0, 1) := by decide +kernel
theorem dX9_showTo_14 : decode cX9_showTo 14 = .ok (.getfield 68, 3) := by decide +kernel
theorem dX9_showTo_17 : decode cX9_showTo 17 = .ok (.invokevirtual 146, 3) := by decide +kernel
theorem dX9_showTo_20 : decode cX9_showTo 20 = .ok (.return_, 1) := by decide +kernel
theorem dX9_turnBeliefs_0 : decode cX9_turnBeliefs 0 = .ok (.iconst 0, 1) := by decide +kernel
theorem dX9_turnBeliefs_1 : decode cX9_turnBeliefs 1 = .ok (.istore_n 2, 1) := by decide +kernel
theorem dX9_turnBeliefs_2 : decode cX9_turnBeliefs 2 = .ok (.iload_n 2, 1) := by decide +kernel
theorem dX9_turnBeliefs_3 : decode cX9_turnBeliefs 3 = .ok (.aload_n 0, 1) := by decide +kernel
theorem dX9_turnBeliefs_4 : decode cX9_turnBeliefs 4 = .ok (.getfield 59, 3) := by decide +kernel
theorem dX9_turnBeliefs_7 : decode cX9_turnBeliefs 7 = .ok (.if_icmp .ge 61, 3) := by decide +kernel
theorem dX9_turnBeliefs_10 : decode cX9_turnBeliefs 10 = .ok (.aload_n 0, 1) := by decide +kernel
theorem dX9_turnBeliefs_11 : decode cX9_turnBeliefs 11 = .ok (.iload_n 2, 1) := by decide +kernel
theorem dX9_turnBeliefs_12 : decode cX9_turnBeliefs 12 = .ok (.invokevirtual 81, 3) := by decide +kernel
theorem dX9_turnBeliefs_15 : decode cX9_turnBeliefs 15 = .ok (.ifCond .eq 35, 3) := by decide +kernel
theorem dX9_turnBeliefs_18 : decode cX9_turnBeliefs 18 = .ok (.aload_n 0, 1) := by decide +kernel
theorem dX9_turnBeliefs_19 : decode cX9_turnBeliefs 19 = .ok (.getfield 56, 3) := by decide +kernel
theorem dX9_turnBeliefs_22 : decode cX9_turnBeliefs 22 = .ok (.iload_n 2, 1) := by decide +kernel
theorem dX9_turnBeliefs_23 : decode cX9_turnBeliefs 23 = .ok (.aload_n 0, 1) := by decide +kernel
theorem dX9_turnBeliefs_24 : decode cX9_turnBeliefs 24 = .ok (.aload_n 0, 1) := by decide +kernel
theorem dX9_turnBeliefs_25 : decode cX9_turnBeliefs 25 = .ok (.getfield 24, 3) := by decide +kernel
theorem dX9_turnBeliefs_28 : decode cX9_turnBeliefs 28 = .ok (.iload_n 2, 1) := by decide +kernel
theorem dX9_turnBeliefs_29 : decode cX9_turnBeliefs 29 = .ok (.iaload, 1) := by decide +kernel
theorem dX9_turnBeliefs_30 : decode cX9_turnBeliefs 30 = .ok (.aload_n 0, 1) := by decide +kernel
theorem dX9_turnBeliefs_31 : decode cX9_turnBeliefs 31 = .ok (.iload_n 2, 1) := by decide +kernel
theorem dX9_turnBeliefs_32 : decode cX9_turnBeliefs 32 = .ok (.invokevirtual 155, 3) := by decide +kernel
theorem dX9_turnBeliefs_35 : decode cX9_turnBeliefs 35 = .ok (.iadd, 1) := by decide +kernel
theorem dX9_turnBeliefs_36 : decode cX9_turnBeliefs 36 = .ok (.aload_n 1, 1) := by decide +kernel
theorem dX9_turnBeliefs_37 : decode cX9_turnBeliefs 37 = .ok (.aload_n 0, 1) := by decide +kernel
theorem dX9_turnBeliefs_38 : decode cX9_turnBeliefs 38 = .ok (.iload_n 2, 1) := by decide +kernel
theorem dX9_turnBeliefs_39 : decode cX9_turnBeliefs 39 = .ok (.invokevirtual 151, 3) := by decide +kernel
theorem dX9_turnBeliefs_42 : decode cX9_turnBeliefs 42 = .ok (.iadd, 1) := by decide +kernel
theorem dX9_turnBeliefs_43 : decode cX9_turnBeliefs 43 = .ok (.invokevirtual 122, 3) := by decide +kernel
theorem dX9_turnBeliefs_46 : decode cX9_turnBeliefs 46 = .ok (.iastore, 1) := by decide +kernel
theorem dX9_turnBeliefs_47 : decode cX9_turnBeliefs 47 = .ok (.goto 15, 3) := by decide +kernel
theorem dX9_turnBeliefs_50 : decode cX9_turnBeliefs 50 = .ok (.aload_n 0, 1) := by decide +kernel
theorem dX9_turnBeliefs_51 : decode cX9_turnBeliefs 51 = .ok (.getfield 56, 3) := by decide +kernel
theorem dX9_turnBeliefs_54 : decode cX9_turnBeliefs 54 = .ok (.iload_n 2, 1) := by decide +kernel
theorem dX9_turnBeliefs_55 : decode cX9_turnBeliefs 55 = .ok (.aload_n 0, 1) := by decide +kernel
theorem dX9_turnBeliefs_56 : decode cX9_turnBeliefs 56 = .ok (.getfield 24, 3) := by decide +kernel
theorem dX9_turnBeliefs_59 : decode cX9_turnBeliefs 59 = .ok (.iload_n 2, 1) := by decide +kernel
theorem dX9_turnBeliefs_60 : decode cX9_turnBeliefs 60 = .ok (.iaload, 1) := by decide +kernel
theorem dX9_turnBeliefs_61 : decode cX9_turnBeliefs 61 = .ok (.iastore, 1) := by decide +kernel
theorem dX9_turnBeliefs_62 : decode cX9_turnBeliefs 62 = .ok (.iinc 2 1, 3) := by decide +kernel
theorem dX9_turnBeliefs_65 : decode cX9_turnBeliefs 65 = .ok (.goto (-63), 3) := by decide +kernel
theorem dX9_turnBeliefs_68 : decode cX9_turnBeliefs 68 = .ok (.aload_n 0, 1) := by decide +kernel
theorem dX9_turnBeliefs_69 : decode cX9_turnBeliefs 69 = .ok (.getfield 56, 3) := by decide +kernel
theorem dX9_turnBeliefs_72 : decode cX9_turnBeliefs 72 = .ok (.iconst 0, 1) := by decide +kernel
theorem dX9_turnBeliefs_73 : decode cX9_turnBeliefs 73 = .ok (.aload_n 0, 1) := by decide +kernel
theorem dX9_turnBeliefs_74 : decode cX9_turnBeliefs 74 = .ok (.getfield 24, 3) := by decide +kernel
theorem dX9_turnBeliefs_77 : decode cX9_turnBeliefs 77 = .ok (.iconst 0, 1) := by decide +kernel
theorem dX9_turnBeliefs_78 : decode cX9_turnBeliefs 78 = .ok (.aload_n 0, 1) := by decide +kernel
theorem dX9_turnBeliefs_79 : decode cX9_turnBeliefs 79 = .ok (.getfield 59, 3) := by decide +kernel
theorem dX9_turnBeliefs_82 : decode cX9_turnBeliefs 82 = .ok (.invokestatic 71, 3) := by decide +kernel
theorem dX9_turnBeliefs_85 : decode cX9_turnBeliefs 85 = .ok (.return_, 1) := by decide +kernel
theorem dX9_keepWorks_0 : decode cX9_keepWorks 0 = .ok (.aload_n 0, 1) := by decide +kernel
theorem dX9_keepWorks_1 : decode cX9_keepWorks 1 = .ok (.invokevirtual 95, 3) := by decide +kernel
theorem dX9_keepWorks_4 : decode cX9_keepWorks 4 = .ok (.istore_n 2, 1) := by decide +kernel
theorem dX9_keepWorks_5 : decode cX9_keepWorks 5 = .ok (.iconst 0, 1) := by decide +kernel
theorem dX9_keepWorks_6 : decode cX9_keepWorks 6 = .ok (.istore_n 3, 1) := by decide +kernel
theorem dX9_keepWorks_7 : decode cX9_keepWorks 7 = .ok (.iconst 0, 1) := by decide +kernel
theorem dX9_keepWorks_8 : decode cX9_keepWorks 8 = .ok (.istore 4, 2) := by decide +kernel
theorem dX9_keepWorks_10 : decode cX9_keepWorks 10 = .ok (.iload 4, 2) := by decide +kernel
theorem dX9_keepWorks_12 : decode cX9_keepWorks 12 = .ok (.aload_n 0, 1) := by decide +kernel
theorem dX9_keepWorks_13 : decode cX9_keepWorks 13 = .ok (.getfield 62, 3) := by decide +kernel
theorem dX9_keepWorks_16 : decode cX9_keepWorks 16 = .ok (.if_icmp .ge 156, 3) := by decide +kernel
theorem dX9_keepWorks_19 : decode cX9_keepWorks 19 = .ok (.aload_n 0, 1) := by decide +kernel
theorem dX9_keepWorks_20 : decode cX9_keepWorks 20 = .ok (.getfield 53, 3) := by decide +kernel
theorem dX9_keepWorks_23 : decode cX9_keepWorks 23 = .ok (.iload 4, 2) := by decide +kernel
theorem dX9_keepWorks_25 : decode cX9_keepWorks 25 = .ok (.iaload, 1) := by decide +kernel
theorem dX9_keepWorks_26 : decode cX9_keepWorks 26 = .ok (.ifCond .ne 63, 3) := by decide +kernel
theorem dX9_keepWorks_29 : decode cX9_keepWorks 29 = .ok (.iload_n 2, 1) := by decide +kernel
theorem dX9_keepWorks_30 : decode cX9_keepWorks 30 = .ok (.aload_n 0, 1) := by decide +kernel
theorem dX9_keepWorks_31 : decode cX9_keepWorks 31 = .ok (.getfield 47, 3) := by decide +kernel
theorem dX9_keepWorks_34 : decode cX9_keepWorks 34 = .ok (.iload 4, 2) := by decide +kernel
theorem dX9_keepWorks_36 : decode cX9_keepWorks 36 = .ok (.iaload, 1) := by decide +kernel
theorem dX9_keepWorks_37 : decode cX9_keepWorks 37 = .ok (.if_icmp .lt 52, 3) := by decide +kernel
theorem dX9_keepWorks_40 : decode cX9_keepWorks 40 = .ok (.aload_n 0, 1) := by decide +kernel
theorem dX9_keepWorks_41 : decode cX9_keepWorks 41 = .ok (.getfield 9, 3) := by decide +kernel
theorem dX9_keepWorks_44 : decode cX9_keepWorks 44 = .ok (.aload_n 0, 1) := by decide +kernel
theorem dX9_keepWorks_45 : decode cX9_keepWorks 45 = .ok (.getfield 44, 3) := by decide +kernel
theorem dX9_keepWorks_48 : decode cX9_keepWorks 48 = .ok (.iload 4, 2) := by decide +kernel
theorem dX9_keepWorks_50 : decode cX9_keepWorks 50 = .ok (.iaload, 1) := by decide +kernel
theorem dX9_keepWorks_51 : decode cX9_keepWorks 51 = .ok (.if_icmp .lt 38, 3) := by decide +kernel
theorem dX9_keepWorks_54 : decode cX9_keepWorks 54 = .ok (.aload_n 0, 1) := by decide +kernel
theorem dX9_keepWorks_55 : decode cX9_keepWorks 55 = .ok (.getfield 53, 3) := by decide +kernel
theorem dX9_keepWorks_58 : decode cX9_keepWorks 58 = .ok (.iload 4, 2) := by decide +kernel
theorem dX9_keepWorks_60 : decode cX9_keepWorks 60 = .ok (.iconst 1, 1) := by decide +kernel
theorem dX9_keepWorks_61 : decode cX9_keepWorks 61 = .ok (.iastore, 1) := by decide +kernel
theorem dX9_keepWorks_62 : decode cX9_keepWorks 62 = .ok (.aload_n 0, 1) := by decide +kernel
theorem dX9_keepWorks_63 : decode cX9_keepWorks 63 = .ok (.dup, 1) := by decide +kernel
theorem dX9_keepWorks_64 : decode cX9_keepWorks 64 = .ok (.getfield 9, 3) := by decide +kernel
theorem dX9_keepWorks_67 : decode cX9_keepWorks 67 = .ok (.aload_n 0, 1) := by decide +kernel
theorem dX9_keepWorks_68 : decode cX9_keepWorks 68 = .ok (.getfield 44, 3) := by decide +kernel
theorem dX9_keepWorks_71 : decode cX9_keepWorks 71 = .ok (.iload 4, 2) := by decide +kernel
theorem dX9_keepWorks_73 : decode cX9_keepWorks 73 = .ok (.iaload, 1) := by decide +kernel
theorem dX9_keepWorks_74 : decode cX9_keepWorks 74 = .ok (.isub, 1) := by decide +kernel
theorem dX9_keepWorks_75 : decode cX9_keepWorks 75 = .ok (.putfield 9, 3) := by decide +kernel
theorem dX9_keepWorks_78 : decode cX9_keepWorks 78 = .ok (.aload_n 0, 1) := by decide +kernel
theorem dX9_keepWorks_79 : decode cX9_keepWorks 79 = .ok (.aload_n 1, 1) := by decide +kernel
theorem dX9_keepWorks_80 : decode cX9_keepWorks 80 = .ok (.iload 4, 2) := by decide +kernel
theorem dX9_keepWorks_82 : decode cX9_keepWorks 82 = .ok (.iconst 0, 1) := by decide +kernel
theorem dX9_keepWorks_83 : decode cX9_keepWorks 83 = .ok (.invokevirtual 158, 3) := by decide +kernel
theorem dX9_keepWorks_86 : decode cX9_keepWorks 86 = .ok (.goto 80, 3) := by decide +kernel
theorem dX9_keepWorks_89 : decode cX9_keepWorks 89 = .ok (.aload_n 0, 1) := by decide +kernel
theorem dX9_keepWorks_90 : decode cX9_keepWorks 90 = .ok (.getfield 53, 3) := by decide +kernel
theorem dX9_keepWorks_93 : decode cX9_keepWorks 93 = .ok (.iload 4, 2) := by decide +kernel
theorem dX9_keepWorks_95 : decode cX9_keepWorks 95 = .ok (.iaload, 1) := by decide +kernel
theorem dX9_keepWorks_96 : decode cX9_keepWorks 96 = .ok (.iconst 1, 1) := by decide +kernel
theorem dX9_keepWorks_97 : decode cX9_keepWorks 97 = .ok (.if_icmp .ne 36, 3) := by decide +kernel
theorem dX9_keepWorks_100 : decode cX9_keepWorks 100 = .ok (.iload_n 2, 1) := by decide +kernel
theorem dX9_keepWorks_101 : decode cX9_keepWorks 101 = .ok (.aload_n 0, 1) := by decide +kernel
theorem dX9_keepWorks_102 : decode cX9_keepWorks 102 = .ok (.getfield 47, 3) := by decide +kernel
theorem dX9_keepWorks_105 : decode cX9_keepWorks 105 = .ok (.iload 4, 2) := by decide +kernel
theorem dX9_keepWorks_107 : decode cX9_keepWorks 107 = .ok (.iaload, 1) := by decide +kernel
theorem dX9_keepWorks_108 : decode cX9_keepWorks 108 = .ok (.if_icmp .ge 25, 3) := by decide +kernel
theorem dX9_keepWorks_111 : decode cX9_keepWorks 111 = .ok (.aload_n 0, 1) := by decide +kernel
theorem dX9_keepWorks_112 : decode cX9_keepWorks 112 = .ok (.getfield 53, 3) := by decide +kernel
theorem dX9_keepWorks_115 : decode cX9_keepWorks 115 = .ok (.iload 4, 2) := by decide +kernel
theorem dX9_keepWorks_117 : decode cX9_keepWorks 117 = .ok (.iconst 2, 1) := by decide +kernel
theorem dX9_keepWorks_118 : decode cX9_keepWorks 118 = .ok (.iastore, 1) := by decide +kernel
theorem dX9_keepWorks_119 : decode cX9_keepWorks 119 = .ok (.iinc 3 1, 3) := by decide +kernel
theorem dX9_keepWorks_122 : decode cX9_keepWorks 122 = .ok (.aload_n 0, 1) := by decide +kernel
theorem dX9_keepWorks_123 : decode cX9_keepWorks 123 = .ok (.aload_n 1, 1) := by decide +kernel
theorem dX9_keepWorks_124 : decode cX9_keepWorks 124 = .ok (.iload 4, 2) := by decide +kernel
theorem dX9_keepWorks_126 : decode cX9_keepWorks 126 = .ok (.iconst 1, 1) := by decide +kernel
theorem dX9_keepWorks_127 : decode cX9_keepWorks 127 = .ok (.invokevirtual 158, 3) := by decide +kernel
theorem dX9_keepWorks_130 : decode cX9_keepWorks 130 = .ok (.goto 36, 3) := by decide +kernel
theorem dX9_keepWorks_133 : decode cX9_keepWorks 133 = .ok (.aload_n 0, 1) := by decide +kernel
theorem dX9_keepWorks_134 : decode cX9_keepWorks 134 = .ok (.getfield 53, 3) := by decide +kernel
theorem dX9_keepWorks_137 : decode cX9_keepWorks 137 = .ok (.iload 4, 2) := by decide +kernel
theorem dX9_keepWorks_139 : decode cX9_keepWorks 139 = .ok (.iaload, 1) := by decide +kernel
theorem dX9_keepWorks_140 : decode cX9_keepWorks 140 = .ok (.iconst 1, 1) := by decide +kernel
theorem dX9_keepWorks_141 : decode cX9_keepWorks 141 = .ok (.if_icmp .ne 25, 3) := by decide +kernel
theorem dX9_keepWorks_144 : decode cX9_keepWorks 144 = .ok (.aload_n 0, 1) := by decide +kernel
theorem dX9_keepWorks_145 : decode cX9_keepWorks 145 = .ok (.sipush 9999, 3) := by decide +kernel
theorem dX9_keepWorks_148 : decode cX9_keepWorks 148 = .ok (.aload_n 0, 1) := by decide +kernel
theorem dX9_keepWorks_149 : decode cX9_keepWorks 149 = .ok (.getfield 9, 3) := by decide +kernel
theorem dX9_keepWorks_152 : decode cX9_keepWorks 152 = .ok (.aload_n 0, 1) := by decide +kernel
theorem dX9_keepWorks_153 : decode cX9_keepWorks 153 = .ok (.getfield 50, 3) := by decide +kernel
theorem dX9_keepWorks_156 : decode cX9_keepWorks 156 = .ok (.iload 4, 2) := by decide +kernel
theorem dX9_keepWorks_158 : decode cX9_keepWorks 158 = .ok (.iaload, 1) := by decide +kernel
theorem dX9_keepWorks_159 : decode cX9_keepWorks 159 = .ok (.iadd, 1) := by decide +kernel
theorem dX9_keepWorks_160 : decode cX9_keepWorks 160 = .ok (.invokestatic 125, 3) := by decide +kernel
theorem dX9_keepWorks_163 : decode cX9_keepWorks 163 = .ok (.putfield 9, 3) := by decide +kernel
theorem dX9_keepWorks_166 : decode cX9_keepWorks 166 = .ok (.iinc 4 1, 3) := by decide +kernel
theorem dX9_keepWorks_169 : decode cX9_keepWorks 169 = .ok (.goto (-159), 3) := by decide +kernel
theorem dX9_keepWorks_172 : decode cX9_keepWorks 172 = .ok (.iload_n 3, 1) := by decide +kernel
theorem dX9_keepWorks_173 : decode cX9_keepWorks 173 = .ok (.ireturn, 1) := by decide +kernel
theorem dX9_comeBack_0 : decode cX9_comeBack 0 = .ok (.iconst 0, 1) := by decide +kernel
theorem dX9_comeBack_1 : decode cX9_comeBack 1 = .ok (.istore_n 3, 1) := by decide +kernel
theorem dX9_comeBack_2 : decode cX9_comeBack 2 = .ok (.iload_n 3, 1) := by decide +kernel
theorem dX9_comeBack_3 : decode cX9_comeBack 3 = .ok (.aload_n 0, 1) := by decide +kernel
theorem dX9_comeBack_4 : decode cX9_comeBack 4 = .ok (.getfield 59, 3) := by decide +kernel
theorem dX9_comeBack_7 : decode cX9_comeBack 7 = .ok (.if_icmp .ge 85, 3) := by decide +kernel
theorem dX9_comeBack_10 : decode cX9_comeBack 10 = .ok (.aload_n 0, 1) := by decide +kernel
theorem dX9_comeBack_11 : decode cX9_comeBack 11 = .ok (.iload_n 3, 1) := by decide +kernel
theorem dX9_comeBack_12 : decode cX9_comeBack 12 = .ok (.invokevirtual 81, 3) := by decide +kernel
theorem dX9_comeBack_15 : decode cX9_comeBack 15 = .ok (.ifCond .ne 71, 3) := by decide +kernel
theorem dX9_comeBack_18 : decode cX9_comeBack 18 = .ok (.aload_n 0, 1) := by decide +kernel
theorem dX9_comeBack_19 : decode cX9_comeBack 19 = .ok (.getfield 34, 3) := by decide +kernel
theorem dX9_comeBack_22 : decode cX9_comeBack 22 = .ok (.iload_n 3, 1) := by decide +kernel
theorem dX9_comeBack_23 : decode cX9_comeBack 23 = .ok (.iaload, 1) := by decide +kernel
theorem dX9_comeBack_24 : decode cX9_comeBack 24 = .ok (.aload_n 0, 1) := by decide +kernel
theorem dX9_comeBack_25 : decode cX9_comeBack 25 = .ok (.getfield 68, 3) := by decide +kernel
theorem dX9_comeBack_28 : decode cX9_comeBack 28 = .ok (.if_icmp .gt 58, 3) := by decide +kernel
theorem dX9_comeBack_31 : decode cX9_comeBack 31 = .ok (.aload_n 0, 1) := by decide +kernel
theorem dX9_comeBack_32 : decode cX9_comeBack 32 = .ok (.getfield 34, 3) := by decide +kernel
theorem dX9_comeBack_35 : decode cX9_comeBack 35 = .ok (.iload_n 3, 1) := by decide +kernel
theorem dX9_comeBack_36 : decode cX9_comeBack 36 = .ok (.iconst (-1), 1) := by decide +kernel
theorem dX9_comeBack_37 : decode cX9_comeBack 37 = .ok (.iastore, 1) := by decide +kernel
theorem dX9_comeBack_38 : decode cX9_comeBack 38 = .ok (.iload_n 1, 1) := by decide +kernel
theorem dX9_comeBack_39 : decode cX9_comeBack 39 = .ok (.ifCond .eq 47, 3) := by decide +kernel
theorem dX9_comeBack_42 : decode cX9_comeBack 42 = .ok (.aload_n 0, 1) := by decide +kernel
theorem dX9_comeBack_43 : decode cX9_comeBack 43 = .ok (.invokevirtual 162, 3) := by decide +kernel
theorem dX9_comeBack_46 : decode cX9_comeBack 46 = .ok (.bipush 100, 2) := by decide +kernel
theorem dX9_comeBack_48 : decode cX9_comeBack 48 = .ok (.irem, 1) := by decide +kernel
theorem dX9_comeBack_49 : decode cX9_comeBack 49 = .ok (.aload_n 0, 1) := by decide +kernel
theorem dX9_comeBack_50 : decode cX9_comeBack 50 = .ok (.getfield 18, 3) := by decide +kernel
theorem dX9_comeBack_53 : decode cX9_comeBack 53 = .ok (.if_icmp .ge 7, 3) := by decide +kernel
theorem dX9_comeBack_56 : decode cX9_comeBack 56 = .ok (.iconst 1, 1) := by decide +kernel
theorem dX9_comeBack_57 : decode cX9_comeBack 57 = .ok (.goto 4, 3) := by decide +kernel
theorem dX9_comeBack_60 : decode cX9_comeBack 60 = .ok (.iconst 0, 1) := by decide +kernel
theorem dX9_comeBack_61 : decode cX9_comeBack 61 = .ok (.istore 4, 2) := by decide +kernel
theorem dX9_comeBack_63 : decode cX9_comeBack 63 = .ok (.aload_n 0, 1) := by decide +kernel
theorem dX9_comeBack_64 : decode cX9_comeBack 64 = .ok (.iload_n 3, 1) := by decide +kernel
theorem dX9_comeBack_65 : decode cX9_comeBack 65 = .ok (.iload 4, 2) := by decide +kernel
theorem dX9_comeBack_67 : decode cX9_comeBack 67 = .ok (.invokevirtual 165, 3) := by decide +kernel
theorem dX9_comeBack_70 : decode cX9_comeBack 70 = .ok (.aload_n 0, 1) := by decide +kernel
theorem dX9_comeBack_71 : decode cX9_comeBack 71 = .ok (.aload_n 2, 1) := by decide +kernel
theorem dX9_comeBack_72 : decode cX9_comeBack 72 = .ok (.iload_n 3, 1) := by decide +kernel
theorem dX9_comeBack_73 : decode cX9_comeBack 73 = .ok (.iload 4, 2) := by decide +kernel
theorem dX9_comeBack_75 : decode cX9_comeBack 75 = .ok (.ifCond .eq 7, 3) := by decide +kernel
theorem dX9_comeBack_78 : decode cX9_comeBack 78 = .ok (.iconst 2, 1) := by decide +kernel
theorem dX9_comeBack_79 : decode cX9_comeBack 79 = .ok (.goto 4, 3) := by decide +kernel
theorem dX9_comeBack_82 : decode cX9_comeBack 82 = .ok (.iconst 3, 1) := by decide +kernel
theorem dX9_comeBack_83 : decode cX9_comeBack 83 = .ok (.invokevirtual 158, 3) := by decide +kernel
theorem dX9_comeBack_86 : decode cX9_comeBack 86 = .ok (.iinc 3 1, 3) := by decide +kernel
theorem dX9_comeBack_89 : decode cX9_comeBack 89 = .ok (.goto (-87), 3) := by decide +kernel
theorem dX9_comeBack_92 : decode cX9_comeBack 92 = .ok (.return_, 1) := by decide +kernel
theorem dX10_init_0 : decode cX10_init 0 = .ok (.aload_n 0, 1) := by decide +kernel
theorem dX10_init_1 : decode cX10_init 1 = .ok (.aload_n 1, 1) := by decide +kernel
theorem dX10_init_2 : decode cX10_init 2 = .ok (.invokespecial 3, 3) := by decide +kernel
theorem dX10_init_5 : decode cX10_init 5 = .ok (.aload_n 0, 1) := by decide +kernel
theorem dX10_init_6 : decode cX10_init 6 = .ok (.new 9, 3) := by decide +kernel
theorem dX10_init_9 : decode cX10_init 9 = .ok (.dup, 1) := by decide +kernel
theorem dX10_init_10 : decode cX10_init 10 = .ok (.invokespecial 11, 3) := by decide +kernel
theorem dX10_init_13 : decode cX10_init 13 = .ok (.putfield 14, 3) := by decide +kernel
theorem dX10_init_16 : decode cX10_init 16 = .ok (.return_, 1) := by decide +kernel
theorem dX11_init_0 : decode cX11_init 0 = .ok (.aload_n 0, 1) := by decide +kernel
theorem dX11_init_1 : decode cX11_init 1 = .ok (.invokespecial 1, 3) := by decide +kernel
theorem dX11_init_4 : decode cX11_init 4 = .ok (.aload_n 0, 1) := by decide +kernel
theorem dX11_init_5 : decode cX11_init 5 = .ok (.new 7, 3) := by decide +kernel
theorem dX11_init_8 : decode cX11_init 8 = .ok (.dup, 1) := by decide +kernel
theorem dX11_init_9 : decode cX11_init 9 = .ok (.invokespecial 9, 3) := by decide +kernel
theorem dX11_init_12 : decode cX11_init 12 = .ok (.putfield 10, 3) := by decide +kernel
theorem dX11_init_15 : decode cX11_init 15 = .ok (.aload_n 0, 1) := by decide +kernel
theorem dX11_init_16 : decode cX11_init 16 = .ok (.new 16, 3) := by decide +kernel
theorem dX11_init_19 : decode cX11_init 19 = .ok (.dup, 1) := by decide +kernel
theorem dX11_init_20 : decode cX11_init 20 = .ok (.invokespecial 18, 3) := by decide +kernel
theorem dX11_init_23 : decode cX11_init 23 = .ok (.putfield 19, 3) := by decide +kernel
theorem dX11_init_26 : decode cX11_init 26 = .ok (.aload_n 0, 1) := by decide +kernel
theorem dX11_init_27 : decode cX11_init 27 = .ok (.new 23, 3) := by decide +kernel
theorem dX11_init_30 : decode cX11_init 30 = .ok (.dup, 1) := by decide +kernel
theorem dX11_init_31 : decode cX11_init 31 = .ok (.invokespecial 25, 3) := by decide +kernel
theorem dX11_init_34 : decode cX11_init 34 = .ok (.putfield 26, 3) := by decide +kernel
theorem dX11_init_37 : decode cX11_init 37 = .ok (.aload_n 0, 1) := by decide +kernel
theorem dX11_init_38 : decode cX11_init 38 = .ok (.new 30, 3) := by decide +kernel
theorem dX11_init_41 : decode cX11_init 41 = .ok (.dup, 1) := by decide +kernel
theorem dX11_init_42 : decode cX11_init 42 = .ok (.invokespecial 32, 3) := by decide +kernel
theorem dX11_init_45 : decode cX11_init 45 = .ok (.putfield 33, 3) := by decide +kernel
theorem dX11_init_48 : decode cX11_init 48 = .ok (.aload_n 0, 1) := by decide +kernel
theorem dX11_init_49 : decode cX11_init 49 = .ok (.new 37, 3) := by decide +kernel
theorem dX11_init_52 : decode cX11_init 52 = .ok (.dup, 1) := by decide +kernel
theorem dX11_init_53 : decode cX11_init 53 = .ok (.aload_n 0, 1) := by decide +kernel
theorem dX11_init_54 : decode cX11_init 54 = .ok (.getfield 10, 3) := by decide +kernel
theorem dX11_init_57 : decode cX11_init 57 = .ok (.invokespecial 39, 3) := by decide +kernel
theorem dX11_init_60 : decode cX11_init 60 = .ok (.putfield 42, 3) := by decide +kernel
theorem dX11_init_63 : decode cX11_init 63 = .ok (.aload_n 0, 1) := by decide +kernel
theorem dX11_init_64 : decode cX11_init 64 = .ok (.new 46, 3) := by decide +kernel
theorem dX11_init_67 : decode cX11_init 67 = .ok (.dup, 1) := by decide +kernel
theorem dX11_init_68 : decode cX11_init 68 = .ok (.aload_n 0, 1) := by decide +kernel
theorem dX11_init_69 : decode cX11_init 69 = .ok (.getfield 10, 3) := by decide +kernel
theorem dX11_init_72 : decode cX11_init 72 = .ok (.invokespecial 48, 3) := by decide +kernel
theorem dX11_init_75 : decode cX11_init 75 = .ok (.putfield 49, 3) := by decide +kernel
theorem dX11_init_78 : decode cX11_init 78 = .ok (.aload_n 0, 1) := by decide +kernel
theorem dX11_init_79 : decode cX11_init 79 = .ok (.new 53, 3) := by decide +kernel
theorem dX11_init_82 : decode cX11_init 82 = .ok (.dup, 1) := by decide +kernel
theorem dX11_init_83 : decode cX11_init 83 = .ok (.invokespecial 55, 3) := by decide +kernel
theorem dX11_init_86 : decode cX11_init 86 = .ok (.putfield 56, 3) := by decide +kernel
theorem dX11_init_89 : decode cX11_init 89 = .ok (.aload_n 0, 1) := by decide +kernel
theorem dX11_init_90 : decode cX11_init 90 = .ok (.new 60, 3) := by decide +kernel
theorem dX11_init_93 : decode cX11_init 93 = .ok (.dup, 1) := by decide +kernel
theorem dX11_init_94 : decode cX11_init 94 = .ok (.aload_n 0, 1) := by decide +kernel
theorem dX11_init_95 : decode cX11_init 95 = .ok (.getfield 19, 3) := by decide +kernel
theorem dX11_init_98 : decode cX11_init 98 = .ok (.aload_n 0, 1) := by decide +kernel
theorem dX11_init_99 : decode cX11_init 99 = .ok (.getfield 26, 3) := by decide +kernel
theorem dX11_init_102 : decode cX11_init 102 = .ok (.invokespecial 62, 3) := by decide +kernel
theorem dX11_init_105 : decode cX11_init 105 = .ok (.putfield 65, 3) := by decide +kernel
theorem dX11_init_108 : decode cX11_init 108 = .ok (.aload_n 0, 1) := by decide +kernel
theorem dX11_init_109 : decode cX11_init 109 = .ok (.new 69, 3) := by decide +kernel
theorem dX11_init_112 : decode cX11_init 112 = .ok (.dup, 1) := by decide +kernel
theorem dX11_init_113 : decode cX11_init 113 = .ok (.invokespecial 71, 3) := by decide +kernel
theorem dX11_init_116 : decode cX11_init 116 = .ok (.putfield 72, 3) := by decide +kernel
theorem dX11_init_119 : decode cX11_init 119 = .ok (.aload_n 0, 1) := by decide +kernel
theorem dX11_init_120 : decode cX11_init 120 = .ok (.iconst (-1), 1) := by decide +kernel
theorem dX11_init_121 : decode cX11_init 121 = .ok (.putfield 76, 3) := by decide +kernel
theorem dX11_init_124 : decode cX11_init 124 = .ok (.return_, 1) := by decide +kernel
theorem dX11_feed_0 : decode cX11_feed 0 = .ok (.aload_n 0, 1) := by decide +kernel
theorem dX11_feed_1 : decode cX11_feed 1 = .ok (.getfield 10, 3) := by decide +kernel
theorem dX11_feed_4 : decode cX11_feed 4 = .ok (.getfield 80, 3) := by decide +kernel
theorem dX11_feed_7 : decode cX11_feed 7 = .ok (.sipush 380, 3) := by decide +kernel
theorem dX11_feed_10 : decode cX11_feed 10 = .ok (.if_icmp .le 5, 3) := by decide +kernel
theorem dX11_feed_13 : decode cX11_feed 13 = .ok (.iconst (-1), 1) := by decide +kernel
theorem dX11_feed_14 : decode cX11_feed 14 = .ok (.ireturn, 1) := by decide +kernel
theorem dX11_feed_15 : decode cX11_feed 15 = .ok (.aload_n 0, 1) := by decide +kernel
theorem dX11_feed_16 : decode cX11_feed 16 = .ok (.getfield 10, 3) := by decide +kernel
theorem dX11_feed_19 : decode cX11_feed 19 = .ok (.iload_n 1, 1) := by decide +kernel
theorem dX11_feed_20 : decode cX11_feed 20 = .ok (.invokevirtual 83, 3) := by decide +kernel
theorem dX11_feed_23 : decode cX11_feed 23 = .ok (.aload_n 0, 1) := by decide +kernel
theorem dX11_feed_24 : decode cX11_feed 24 = .ok (.getfield 10, 3) := by decide +kernel
theorem dX11_feed_27 : decode cX11_feed 27 = .ok (.iload_n 2, 1) := by decide +kernel
theorem dX11_feed_28 : decode cX11_feed 28 = .ok (.invokevirtual 83, 3) := by decide +kernel
theorem dX11_feed_31 : decode cX11_feed 31 = .ok (.aload_n 0, 1) := by decide +kernel
theorem dX11_feed_32 : decode cX11_feed 32 = .ok (.getfield 10, 3) := by decide +kernel
theorem dX11_feed_35 : decode cX11_feed 35 = .ok (.iload_n 3, 1) := by decide +kernel
theorem dX11_feed_36 : decode cX11_feed 36 = .ok (.invokevirtual 83, 3) := by decide +kernel
theorem dX11_feed_39 : decode cX11_feed 39 = .ok (.aload_n 0, 1) := by decide +kernel
theorem dX11_feed_40 : decode cX11_feed 40 = .ok (.getfield 10, 3) := by decide +kernel
theorem dX11_feed_43 : decode cX11_feed 43 = .ok (.iload 4, 2) := by decide +kernel
theorem dX11_feed_45 : decode cX11_feed 45 = .ok (.invokevirtual 83, 3) := by decide +kernel
theorem dX11_feed_48 : decode cX11_feed 48 = .ok (.aload_n 0, 1) := by decide +kernel
theorem dX11_feed_49 : decode cX11_feed 49 = .ok (.getfield 10, 3) := by decide +kernel
theorem dX11_feed_52 : decode cX11_feed 52 = .ok (.iload 5, 2) := by decide +kernel
theorem dX11_feed_54 : decode cX11_feed 54 = .ok (.invokevirtual 83, 3) := by decide +kernel
theorem dX11_feed_57 : decode cX11_feed 57 = .ok (.aload_n 0, 1) := by decide +kernel
theorem dX11_feed_58 : decode cX11_feed 58 = .ok (.getfield 10, 3) := by decide +kernel
theorem dX11_feed_61 : decode cX11_feed 61 = .ok (.getfield 80, 3) := by decide +kernel
theorem dX11_feed_64 : decode cX11_feed 64 = .ok (.ireturn, 1) := by decide +kernel
theorem dX11_end_0 : decode cX11_end 0 = .ok (.iload_n 1, 1) := by decide +kernel
theorem dX11_end_1 : decode cX11_end 1 = .ok (.ifCond .lt 14, 3) := by decide +kernel
theorem dX11_end_4 : decode cX11_end 4 = .ok (.iload_n 1, 1) := by decide +kernel
theorem dX11_end_5 : decode cX11_end 5 = .ok (.aload_n 0, 1) := by decide +kernel
theorem dX11_end_6 : decode cX11_end 6 = .ok (.getfield 10, 3) := by decide +kernel
theorem dX11_end_9 : decode cX11_end 9 = .ok (.getfield 80, 3) := by decide +kernel
theorem dX11_end_12 : decode cX11_end 12 = .ok (.if_icmp .le 5, 3) := by decide +kernel
theorem dX11_end_15 : decode cX11_end 15 = .ok (.iconst 0, 1) := by decide +kernel
theorem dX11_end_16 : decode cX11_end 16 = .ok (.ireturn, 1) := by decide +kernel
theorem dX11_end_17 : decode cX11_end 17 = .ok (.aload_n 0, 1) := by decide +kernel
theorem dX11_end_18 : decode cX11_end 18 = .ok (.getfield 10, 3) := by decide +kernel
theorem dX11_end_21 : decode cX11_end 21 = .ok (.iload_n 1, 1) := by decide +kernel
theorem dX11_end_22 : decode cX11_end 22 = .ok (.putfield 80, 3) := by decide +kernel
theorem dX11_end_25 : decode cX11_end 25 = .ok (.iconst 1, 1) := by decide +kernel
theorem dX11_end_26 : decode cX11_end 26 = .ok (.ireturn, 1) := by decide +kernel
theorem dX11_town_0 : decode cX11_town 0 = .ok (.aload_n 0, 1) := by decide +kernel
theorem dX11_town_1 : decode cX11_town 1 = .ok (.getfield 10, 3) := by decide +kernel
theorem dX11_town_4 : decode cX11_town 4 = .ok (.aload_n 0, 1) := by decide +kernel
theorem dX11_town_5 : decode cX11_town 5 = .ok (.getfield 10, 3) := by decide +kernel
theorem dX11_town_8 : decode cX11_town 8 = .ok (.invokevirtual 87, 3) := by decide +kernel
theorem dX11_town_11 : decode cX11_town 11 = .ok (.invokevirtual 91, 3) := by decide +kernel
theorem dX11_town_14 : decode cX11_town 14 = .ok (.aload_n 0, 1) := by decide +kernel
theorem dX11_town_15 : decode cX11_town 15 = .ok (.getfield 42, 3) := by decide +kernel
theorem dX11_town_18 : decode cX11_town 18 = .ok (.getfield 94, 3) := by decide +kernel
theorem dX11_town_21 : decode cX11_town 21 = .ok (.aload_n 0, 1) := by decide +kernel
theorem dX11_town_22 : decode cX11_town 22 = .ok (.getfield 19, 3) := by decide +kernel
theorem dX11_town_25 : decode cX11_town 25 = .ok (.invokevirtual 97, 3) := by decide +kernel
theorem dX11_town_28 : decode cX11_town 28 = .ok (.aload_n 0, 1) := by decide +kernel
theorem dX11_town_29 : decode cX11_town 29 = .ok (.getfield 42, 3) := by decide +kernel
theorem dX11_town_32 : decode cX11_town 32 = .ok (.bipush 14, 2) := by decide +kernel
theorem dX11_town_34 : decode cX11_town 34 = .ok (.invokevirtual 101, 3) := by decide +kernel
theorem dX11_town_37 : decode cX11_town 37 = .ok (.istore_n 1, 1) := by decide +kernel
theorem dX11_town_38 : decode cX11_town 38 = .ok (.aload_n 0, 1) := by decide +kernel
theorem dX11_town_39 : decode cX11_town 39 = .ok (.aload_n 0, 1) := by decide +kernel
theorem dX11_town_40 : decode cX11_town 40 = .ok (.getfield 10, 3) := by decide +kernel
theorem dX11_town_43 : decode cX11_town 43 = .ok (.getfield 105, 3) := by decide +kernel
theorem dX11_town_46 : decode cX11_town 46 = .ok (.putfield 76, 3) := by decide +kernel
theorem dX11_town_49 : decode cX11_town 49 = .ok (.iload_n 1, 1) := by decide +kernel
theorem dX11_town_50 : decode cX11_town 50 = .ok (.iconst (-1), 1) := by decide +kernel
theorem dX11_town_51 : decode cX11_town 51 = .ok (.if_icmp .ne 13, 3) := by decide +kernel
theorem dX11_town_54 : decode cX11_town 54 = .ok (.new 106, 3) := by decide +kernel
theorem dX11_town_57 : decode cX11_town 57 = .ok (.dup, 1) := by decide +kernel
theorem dX11_town_58 : decode cX11_town 58 = .ok (.ldc 108, 2) := by decide +kernel
theorem dX11_town_60 : decode cX11_town 60 = .ok (.invokespecial 110, 3) := by decide +kernel
theorem dX11_town_63 : decode cX11_town 63 = .ok (.athrow, 1) := by decide +kernel
theorem dX11_town_64 : decode cX11_town 64 = .ok (.aload_n 0, 1) := by decide +kernel
theorem dX11_town_65 : decode cX11_town 65 = .ok (.getfield 19, 3) := by decide +kernel
theorem dX11_town_68 : decode cX11_town 68 = .ok (.getfield 113, 3) := by decide +kernel
theorem dX11_town_71 : decode cX11_town 71 = .ok (.bipush 12, 2) := by decide +kernel
theorem dX11_town_73 : decode cX11_town 73 = .ok (.if_icmp .lt 13, 3) := by decide +kernel
theorem dX11_town_76 : decode cX11_town 76 = .ok (.new 116, 3) := by decide +kernel
theorem dX11_town_79 : decode cX11_town 79 = .ok (.dup, 1) := by decide +kernel
theorem dX11_town_80 : decode cX11_town 80 = .ok (.ldc 118, 2) := by decide +kernel
theorem dX11_town_82 : decode cX11_town 82 = .ok (.invokespecial 120, 3) := by decide +kernel
theorem dX11_town_85 : decode cX11_town 85 = .ok (.athrow, 1) := by decide +kernel
theorem dX11_town_86 : decode cX11_town 86 = .ok (.aload_n 0, 1) := by decide +kernel
theorem dX11_town_87 : decode cX11_town 87 = .ok (.getfield 19, 3) := by decide +kernel
theorem dX11_town_90 : decode cX11_town 90 = .ok (.aload_n 0, 1) := by decide +kernel
theorem dX11_town_91 : decode cX11_town 91 = .ok (.getfield 42, 3) := by decide +kernel
theorem dX11_town_94 : decode cX11_town 94 = .ok (.getfield 94, 3) := by decide +kernel
theorem dX11_town_97 : decode cX11_town 97 = .ok (.invokevirtual 97, 3) := by decide +kernel
theorem dX11_town_100 : decode cX11_town 100 = .ok (.aload_n 0, 1) := by decide +kernel
theorem dX11_town_101 : decode cX11_town 101 = .ok (.getfield 19, 3) := by decide +kernel
theorem dX11_town_104 : decode cX11_town 104 = .ok (.dup, 1) := by decide +kernel
theorem dX11_town_105 : decode cX11_town 105 = .ok (.getfield 113, 3) := by decide +kernel
theorem dX11_town_108 : decode cX11_town 108 = .ok (.iconst 1, 1) := by decide +kernel
theorem dX11_town_109 : decode cX11_town 109 = .ok (.iadd, 1) := by decide +kernel
theorem dX11_town_110 : decode cX11_town 110 = .ok (.putfield 113, 3) := by decide +kernel
theorem dX11_town_113 : decode cX11_town 113 = .ok (.aload_n 0, 1) := by decide +kernel
theorem dX11_town_114 : decode cX11_town 114 = .ok (.getfield 56, 3) := by decide +kernel
theorem dX11_town_117 : decode cX11_town 117 = .ok (.invokevirtual 121, 3) := by decide +kernel
theorem dX11_town_120 : decode cX11_town 120 = .ok (.aload_n 0, 1) := by decide +kernel
theorem dX11_town_121 : decode cX11_town 121 = .ok (.getfield 19, 3) := by decide +kernel
theorem dX11_town_124 : decode cX11_town 124 = .ok (.getfield 113, 3) := by decide +kernel
theorem dX11_town_127 : decode cX11_town 127 = .ok (.ireturn, 1) := by decide +kernel
theorem dX11_law_0 : decode cX11_law 0 = .ok (.aload_n 0, 1) := by decide +kernel
theorem dX11_law_1 : decode cX11_law 1 = .ok (.getfield 10, 3) := by decide +kernel
theorem dX11_law_4 : decode cX11_law 4 = .ok (.aload_n 0, 1) := by decide +kernel
theorem dX11_law_5 : decode cX11_law 5 = .ok (.getfield 10, 3) := by decide +kernel
theorem dX11_law_8 : decode cX11_law 8 = .ok (.invokevirtual 87, 3) := by decide +kernel
theorem dX11_law_11 : decode cX11_law 11 = .ok (.invokevirtual 91, 3) := by decide +kernel
theorem dX11_law_14 : decode cX11_law 14 = .ok (.aload_n 0, 1) := by decide +kernel
theorem dX11_law_15 : decode cX11_law 15 = .ok (.getfield 49, 3) := by decide +kernel
theorem dX11_law_18 : decode cX11_law 18 = .ok (.getfield 124, 3) := by decide +kernel
theorem dX11_law_21 : decode cX11_law 21 = .ok (.invokevirtual 126, 3) := by decide +kernel
theorem dX11_law_24 : decode cX11_law 24 = .ok (.aload_n 0, 1) := by decide +kernel
theorem dX11_law_25 : decode cX11_law 25 = .ok (.getfield 49, 3) := by decide +kernel
theorem dX11_law_28 : decode cX11_law 28 = .ok (.bipush 12, 2) := by decide +kernel
theorem dX11_law_30 : decode cX11_law 30 = .ok (.invokevirtual 129, 3) := by decide +kernel
theorem dX11_law_33 : decode cX11_law 33 = .ok (.istore_n 1, 1) := by decide +kernel
theorem dX11_law_34 : decode cX11_law 34 = .ok (.aload_n 0, 1) := by decide +kernel
theorem dX11_law_35 : decode cX11_law 35 = .ok (.aload_n 0, 1) := by decide +kernel
theorem dX11_law_36 : decode cX11_law 36 = .ok (.getfield 10, 3) := by decide +kernel
theorem dX11_law_39 : decode cX11_law 39 = .ok (.getfield 105, 3) := by decide +kernel
theorem dX11_law_42 : decode cX11_law 42 = .ok (.putfield 76, 3) := by decide +kernel
theorem dX11_law_45 : decode cX11_law 45 = .ok (.iload_n 1, 1) := by decide +kernel
theorem dX11_law_46 : decode cX11_law 46 = .ok (.iconst (-1), 1) := by decide +kernel
theorem dX11_law_47 : decode cX11_law 47 = .ok (.if_icmp .ne 13, 3) := by decide +kernel
theorem dX11_law_50 : decode cX11_law 50 = .ok (.new 106, 3) := by decide +kernel
theorem dX11_law_53 : decode cX11_law 53 = .ok (.dup, 1) := by decide +kernel
theorem dX11_law_54 : decode cX11_law 54 = .ok (.ldc 130, 2) := by decide +kernel
theorem dX11_law_56 : decode cX11_law 56 = .ok (.invokespecial 110, 3) := by decide +kernel
theorem dX11_law_59 : decode cX11_law 59 = .ok (.athrow, 1) := by decide +kernel
theorem dX11_law_60 : decode cX11_law 60 = .ok (.aload_n 0, 1) := by decide +kernel
theorem dX11_law_61 : decode cX11_law 61 = .ok (.getfield 49, 3) := by decide +kernel
theorem dX11_law_64 : decode cX11_law 64 = .ok (.getfield 124, 3) := by decide +kernel
theorem dX11_law_67 : decode cX11_law 67 = .ok (.iload_n 1, 1) := by decide +kernel
theorem dX11_law_68 : decode cX11_law 68 = .ok (.putfield 132, 3) := by decide +kernel
theorem dX11_law_71 : decode cX11_law 71 = .ok (.aload_n 0, 1) := by decide +kernel
theorem dX11_law_72 : decode cX11_law 72 = .ok (.getfield 26, 3) := by decide +kernel
theorem dX11_law_75 : decode cX11_law 75 = .ok (.aload_n 0, 1) := by decide +kernel
theorem dX11_law_76 : decode cX11_law 76 = .ok (.getfield 49, 3) := by decide +kernel
theorem dX11_law_79 : decode cX11_law 79 = .ok (.getfield 124, 3) := by decide +kernel
theorem dX11_law_82 : decode cX11_law 82 = .ok (.invokevirtual 135, 3) := by decide +kernel
theorem dX11_law_85 : decode cX11_law 85 = .ok (.aload_n 0, 1) := by decide +kernel
theorem dX11_law_86 : decode cX11_law 86 = .ok (.getfield 56, 3) := by decide +kernel
theorem dX11_law_89 : decode cX11_law 89 = .ok (.invokevirtual 121, 3) := by decide +kernel
theorem dX11_law_92 : decode cX11_law 92 = .ok (.iload_n 1, 1) := by decide +kernel
theorem dX11_law_93 : decode cX11_law 93 = .ok (.ireturn, 1) := by decide +kernel
theorem dX11_fault_0 : decode cX11_fault 0 = .ok (.aload_n 0, 1) := by decide +kernel
theorem dX11_fault_1 : decode cX11_fault 1 = .ok (.getfield 76, 3) := by decide +kernel
theorem dX11_fault_4 : decode cX11_fault 4 = .ok (.ireturn, 1) := by decide +kernel
theorem dX11_person_0 : decode cX11_person 0 = .ok (.aload_n 0, 1) := by decide +kernel
theorem dX11_person_1 : decode cX11_person 1 = .ok (.iload_n 1, 1) := by decide +kernel
theorem dX11_person_2 : decode cX11_person 2 = .ok (.invokevirtual 138, 3) := by decide +kernel
theorem dX11_person_5 : decode cX11_person 5 = .ok (.iload_n 2, 1) := by decide +kernel
theorem dX11_person_6 : decode cX11_person 6 = .ok (.tableswitch 148 0 8 #[50, 60, 70, 80, 98, 108, 117, 130, 139], 50) := by decide +kernel
theorem dX11_person_56 : decode cX11_person 56 = .ok (.aload_n 0, 1) := by decide +kernel
theorem dX11_person_57 : decode cX11_person 57 = .ok (.getfield 19, 3) := by decide +kernel
theorem dX11_person_60 : decode cX11_person 60 = .ok (.getfield 141, 3) := by decide +kernel
theorem dX11_person_63 : decode cX11_person 63 = .ok (.iload_n 1, 1) := by decide +kernel
theorem dX11_person_64 : decode cX11_person 64 = .ok (.iaload, 1) := by decide +kernel
theorem dX11_person_65 : decode cX11_person 65 = .ok (.ireturn, 1) := by decide +kernel
theorem dX11_person_66 : decode cX11_person 66 = .ok (.aload_n 0, 1) := by decide +kernel
theorem dX11_person_67 : decode cX11_person 67 = .ok (.getfield 19, 3) := by decide +kernel
theorem dX11_person_70 : decode cX11_person 70 = .ok (.getfield 145, 3) := by decide +kernel
theorem dX11_person_73 : decode cX11_person 73 = .ok (.iload_n 1, 1) := by decide +kernel
theorem dX11_person_74 : decode cX11_person 74 = .ok (.iaload, 1) := by decide +kernel
theorem dX11_person_75 : decode cX11_person 75 = .ok (.ireturn, 1) := by decide +kernel
theorem dX11_person_76 : decode cX11_person 76 = .ok (.aload_n 0, 1) := by decide +kernel
theorem dX11_person_77 : decode cX11_person 77 = .ok (.getfield 19, 3) := by decide +kernel
theorem dX11_person_80 : decode cX11_person 80 = .ok (.getfield 148, 3) := by decide +kernel
theorem dX11_person_83 : decode cX11_person 83 = .ok (.iload_n 1, 1) := by decide +kernel
theorem dX11_person_84 : decode cX11_person 84 = .ok (.iaload, 1) := by decide +kernel
theorem dX11_person_85 : decode cX11_person 85 = .ok (.ireturn, 1) := by decide +kernel
theorem dX11_person_86 : decode cX11_person 86 = .ok (.aload_n 0, 1) := by decide +kernel
theorem dX11_person_87 : decode cX11_person 87 = .ok (.getfield 19, 3) := by decide +kernel
theorem dX11_person_90 : decode cX11_person 90 = .ok (.getfield 151, 3) := by decide +kernel
theorem dX11_person_93 : decode cX11_person 93 = .ok (.iload_n 1, 1) := by decide +kernel
theorem dX11_person_94 : decode cX11_person 94 = .ok (.baload, 1) := by decide +kernel
theorem dX11_person_95 : decode cX11_person 95 = .ok (.ifCond .eq 7, 3) := by decide +kernel
theorem dX11_person_98 : decode cX11_person 98 = .ok (.iconst 1, 1) := by decide +kernel
theorem dX11_person_99 : decode cX11_person 99 = .ok (.goto 4, 3) := by decide +kernel
theorem dX11_person_102 : decode cX11_person 102 = .ok (.iconst 0, 1) := by decide +kernel
theorem dX11_person_103 : decode cX11_person 103 = .ok (.ireturn, 1) := by decide +kernel
theorem dX11_person_104 : decode cX11_person 104 = .ok (.aload_n 0, 1) := by decide +kernel
theorem dX11_person_105 : decode cX11_person 105 = .ok (.getfield 19, 3) := by decide +kernel
theorem dX11_person_108 : decode cX11_person 108 = .ok (.getfield 155, 3) := by decide +kernel
theorem dX11_person_111 : decode cX11_person 111 = .ok (.iload_n 1, 1) := by decide +kernel
theorem dX11_person_112 : decode cX11_person 112 = .ok (.iaload, 1) := by decide +kernel
theorem dX11_person_113 : decode cX11_person 113 = .ok (.ireturn, 1) := by decide +kernel
theorem dX11_person_114 : decode cX11_person 114 = .ok (.aload_n 0, 1) := by decide +kernel
theorem dX11_person_115 : decode cX11_person 115 = .ok (.getfield 19, 3) := by decide +kernel
theorem dX11_person_118 : decode cX11_person 118 = .ok (.iload_n 1, 1) := by decide +kernel
theorem dX11_person_119 : decode cX11_person 119 = .ok (.invokevirtual 158, 3) := by decide +kernel
theorem dX11_person_122 : decode cX11_person 122 = .ok (.ireturn, 1) := by decide +kernel
theorem dX11_person_123 : decode cX11_person 123 = .ok (.aload_n 0, 1) := by decide +kernel
theorem dX11_person_124 : decode cX11_person 124 = .ok (.getfield 19, 3) := by decide +kernel
theorem dX11_person_127 : decode cX11_person 127 = .ok (.iload_n 1, 1) := by decide +kernel
theorem dX11_person_128 : decode cX11_person 128 = .ok (.aload_n 0, 1) := by decide +kernel
theorem dX11_person_129 : decode cX11_person 129 = .ok (.getfield 26, 3) := by decide +kernel
theorem dX11_person_132 : decode cX11_person 132 = .ok (.invokevirtual 161, 3) := by decide +kernel
theorem dX11_person_135 : decode cX11_person 135 = .ok (.ireturn, 1) := by decide +kernel
theorem dX11_person_136 : decode cX11_person 136 = .ok (.aload_n 0, 1) := by decide +kernel
theorem dX11_person_137 : decode cX11_person 137 = .ok (.getfield 19, 3) := by decide +kernel
theorem dX11_person_140 : decode cX11_person 140 = .ok (.iload_n 1, 1) := by decide +kernel
theorem dX11_person_141 : decode cX11_person 141 = .ok (.invokevirtual 165, 3) := by decide +kernel
theorem dX11_person_144 : decode cX11_person 144 = .ok (.ireturn, 1) := by decide +kernel
theorem dX11_person_145 : decode cX11_person 145 = .ok (.aload_n 0, 1) := by decide +kernel
theorem dX11_person_146 : decode cX11_person 146 = .ok (.getfield 19, 3) := by decide +kernel
theorem dX11_person_149 : decode cX11_person 149 = .ok (.iload_n 1, 1) := by decide +kernel
theorem dX11_person_150 : decode cX11_person 150 = .ok (.invokevirtual 168, 3) := by decide +kernel
theorem dX11_person_153 : decode cX11_person 153 = .ok (.ireturn, 1) := by decide +kernel
theorem dX11_person_154 : decode cX11_person 154 = .ok (.new 171, 3) := by decide +kernel
theorem dX11_person_157 : decode cX11_person 157 = .ok (.dup, 1) := by decide +kernel
theorem dX11_person_158 : decode cX11_person 158 = .ok (.ldc 173, 2) := by decide +kernel
