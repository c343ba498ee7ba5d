theorem dX11_person_160 : decode cX11_person 160 = .ok (.invokespecial 175, 3) := by decide +kernel
theorem dX11_person_163 : decode cX11_person 163 = .ok (.athrow, 1) := by decide +kernel
theorem dX11_trust_0 : decode cX11_trust 0 = .ok (.aload_n 0, 1) := by decide +kernel
theorem dX11_trust_1 : decode cX11_trust 1 = .ok (.iload_n 1, 1) := by decide +kernel
theorem dX11_trust_2 : decode cX11_trust 2 = .ok (.iload_n 2, 1) := by decide +kernel
theorem dX11_trust_3 : decode cX11_trust 3 = .ok (.invokevirtual 176, 3) := by decide +kernel
theorem dX11_trust_6 : decode cX11_trust 6 = .ok (.aload_n 0, 1) := by decide +kernel
theorem dX11_trust_7 : decode cX11_trust 7 = .ok (.getfield 19, 3) := by decide +kernel
theorem dX11_trust_10 : decode cX11_trust 10 = .ok (.iload_n 1, 1) := by decide +kernel
theorem dX11_trust_11 : decode cX11_trust 11 = .ok (.iload_n 2, 1) := by decide +kernel
theorem dX11_trust_12 : decode cX11_trust 12 = .ok (.invokevirtual 180, 3) := by decide +kernel
theorem dX11_trust_15 : decode cX11_trust 15 = .ok (.ireturn, 1) := by decide +kernel
theorem dX11_work_0 : decode cX11_work 0 = .ok (.aload_n 0, 1) := by decide +kernel
theorem dX11_work_1 : decode cX11_work 1 = .ok (.iload_n 1, 1) := by decide +kernel
theorem dX11_work_2 : decode cX11_work 2 = .ok (.invokevirtual 184, 3) := by decide +kernel
theorem dX11_work_5 : decode cX11_work 5 = .ok (.iload_n 2, 1) := by decide +kernel
theorem dX11_work_6 : decode cX11_work 6 = .ok (.tableswitch 70 0 3 #[30, 40, 50, 60], 30) := by decide +kernel
theorem dX11_work_36 : decode cX11_work 36 = .ok (.aload_n 0, 1) := by decide +kernel
theorem dX11_work_37 : decode cX11_work 37 = .ok (.getfield 19, 3) := by decide +kernel
theorem dX11_work_40 : decode cX11_work 40 = .ok (.getfield 187, 3) := by decide +kernel
theorem dX11_work_43 : decode cX11_work 43 = .ok (.iload_n 1, 1) := by decide +kernel
theorem dX11_work_44 : decode cX11_work 44 = .ok (.iaload, 1) := by decide +kernel
theorem dX11_work_45 : decode cX11_work 45 = .ok (.ireturn, 1) := by decide +kernel
theorem dX11_work_46 : decode cX11_work 46 = .ok (.aload_n 0, 1) := by decide +kernel
theorem dX11_work_47 : decode cX11_work 47 = .ok (.getfield 19, 3) := by decide +kernel
theorem dX11_work_50 : decode cX11_work 50 = .ok (.getfield 190, 3) := by decide +kernel
theorem dX11_work_53 : decode cX11_work 53 = .ok (.iload_n 1, 1) := by decide +kernel
theorem dX11_work_54 : decode cX11_work 54 = .ok (.iaload, 1) := by decide +kernel
theorem dX11_work_55 : decode cX11_work 55 = .ok (.ireturn, 1) := by decide +kernel
theorem dX11_work_56 : decode cX11_work 56 = .ok (.aload_n 0, 1) := by decide +kernel
theorem dX11_work_57 : decode cX11_work 57 = .ok (.getfield 19, 3) := by decide +kernel
theorem dX11_work_60 : decode cX11_work 60 = .ok (.getfield 193, 3) := by decide +kernel
theorem dX11_work_63 : decode cX11_work 63 = .ok (.iload_n 1, 1) := by decide +kernel
theorem dX11_work_64 : decode cX11_work 64 = .ok (.iaload, 1) := by decide +kernel
theorem dX11_work_65 : decode cX11_work 65 = .ok (.ireturn, 1) := by decide +kernel
theorem dX11_work_66 : decode cX11_work 66 = .ok (.aload_n 0, 1) := by decide +kernel
theorem dX11_work_67 : decode cX11_work 67 = .ok (.getfield 19, 3) := by decide +kernel
theorem dX11_work_70 : decode cX11_work 70 = .ok (.getfield 196, 3) := by decide +kernel
theorem dX11_work_73 : decode cX11_work 73 = .ok (.iload_n 1, 1) := by decide +kernel
theorem dX11_work_74 : decode cX11_work 74 = .ok (.iaload, 1) := by decide +kernel
theorem dX11_work_75 : decode cX11_work 75 = .ok (.ireturn, 1) := by decide +kernel
theorem dX11_work_76 : decode cX11_work 76 = .ok (.new 171, 3) := by decide +kernel
theorem dX11_work_79 : decode cX11_work 79 = .ok (.dup, 1) := by decide +kernel
theorem dX11_work_80 : decode cX11_work 80 = .ok (.ldc 199, 2) := by decide +kernel
theorem dX11_work_82 : decode cX11_work 82 = .ok (.invokespecial 175, 3) := by decide +kernel
theorem dX11_work_85 : decode cX11_work 85 = .ok (.athrow, 1) := by decide +kernel
theorem dX11_price_0 : decode cX11_price 0 = .ok (.aload_n 0, 1) := by decide +kernel
theorem dX11_price_1 : decode cX11_price 1 = .ok (.getfield 19, 3) := by decide +kernel
theorem dX11_price_4 : decode cX11_price 4 = .ok (.invokevirtual 201, 3) := by decide +kernel
theorem dX11_price_7 : decode cX11_price 7 = .ok (.ireturn, 1) := by decide +kernel
theorem dX11_tell_0 : decode cX11_tell 0 = .ok (.aload_n 0, 1) := by decide +kernel
theorem dX11_tell_1 : decode cX11_tell 1 = .ok (.iload_n 1, 1) := by decide +kernel
theorem dX11_tell_2 : decode cX11_tell 2 = .ok (.invokevirtual 138, 3) := by decide +kernel
theorem dX11_tell_5 : decode cX11_tell 5 = .ok (.aload_n 0, 1) := by decide +kernel
theorem dX11_tell_6 : decode cX11_tell 6 = .ok (.iload_n 1, 1) := by decide +kernel
theorem dX11_tell_7 : decode cX11_tell 7 = .ok (.invokevirtual 204, 3) := by decide +kernel
theorem dX11_tell_10 : decode cX11_tell 10 = .ok (.aload_n 0, 1) := by decide +kernel
theorem dX11_tell_11 : decode cX11_tell 11 = .ok (.getfield 56, 3) := by decide +kernel
theorem dX11_tell_14 : decode cX11_tell 14 = .ok (.aload_n 0, 1) := by decide +kernel
theorem dX11_tell_15 : decode cX11_tell 15 = .ok (.getfield 19, 3) := by decide +kernel
theorem dX11_tell_18 : decode cX11_tell 18 = .ok (.aload_n 0, 1) := by decide +kernel
theorem dX11_tell_19 : decode cX11_tell 19 = .ok (.getfield 33, 3) := by decide +kernel
theorem dX11_tell_22 : decode cX11_tell 22 = .ok (.invokevirtual 207, 3) := by decide +kernel
theorem dX11_tell_25 : decode cX11_tell 25 = .ok (.aload_n 0, 1) := by decide +kernel
theorem dX11_tell_26 : decode cX11_tell 26 = .ok (.getfield 19, 3) := by decide +kernel
theorem dX11_tell_29 : decode cX11_tell 29 = .ok (.iload_n 1, 1) := by decide +kernel
theorem dX11_tell_30 : decode cX11_tell 30 = .ok (.bipush 20, 2) := by decide +kernel
theorem dX11_tell_32 : decode cX11_tell 32 = .ok (.invokevirtual 211, 3) := by decide +kernel
theorem dX11_tell_35 : decode cX11_tell 35 = .ok (.aload_n 0, 1) := by decide +kernel
theorem dX11_tell_36 : decode cX11_tell 36 = .ok (.getfield 19, 3) := by decide +kernel
theorem dX11_tell_39 : decode cX11_tell 39 = .ok (.getfield 141, 3) := by decide +kernel
theorem dX11_tell_42 : decode cX11_tell 42 = .ok (.iload_n 1, 1) := by decide +kernel
theorem dX11_tell_43 : decode cX11_tell 43 = .ok (.iaload, 1) := by decide +kernel
theorem dX11_tell_44 : decode cX11_tell 44 = .ok (.ireturn, 1) := by decide +kernel
theorem dX11_tie_0 : decode cX11_tie 0 = .ok (.aload_n 0, 1) := by decide +kernel
theorem dX11_tie_1 : decode cX11_tie 1 = .ok (.iload_n 1, 1) := by decide +kernel
theorem dX11_tie_2 : decode cX11_tie 2 = .ok (.iload_n 2, 1) := by decide +kernel
theorem dX11_tie_3 : decode cX11_tie 3 = .ok (.invokevirtual 176, 3) := by decide +kernel
theorem dX11_tie_6 : decode cX11_tie 6 = .ok (.aload_n 0, 1) := by decide +kernel
theorem dX11_tie_7 : decode cX11_tie 7 = .ok (.iload_n 3, 1) := by decide +kernel
theorem dX11_tie_8 : decode cX11_tie 8 = .ok (.iconst 0, 1) := by decide +kernel
theorem dX11_tie_9 : decode cX11_tie 9 = .ok (.bipush 9, 2) := by decide +kernel
theorem dX11_tie_11 : decode cX11_tie 11 = .ok (.invokevirtual 214, 3) := by decide +kernel
theorem dX11_tie_14 : decode cX11_tie 14 = .ok (.aload_n 0, 1) := by decide +kernel
theorem dX11_tie_15 : decode cX11_tie 15 = .ok (.getfield 56, 3) := by decide +kernel
theorem dX11_tie_18 : decode cX11_tie 18 = .ok (.aload_n 0, 1) := by decide +kernel
theorem dX11_tie_19 : decode cX11_tie 19 = .ok (.getfield 19, 3) := by decide +kernel
theorem dX11_tie_22 : decode cX11_tie 22 = .ok (.aload_n 0, 1) := by decide +kernel
theorem dX11_tie_23 : decode cX11_tie 23 = .ok (.getfield 33, 3) := by decide +kernel
theorem dX11_tie_26 : decode cX11_tie 26 = .ok (.invokevirtual 207, 3) := by decide +kernel
theorem dX11_tie_29 : decode cX11_tie 29 = .ok (.aload_n 0, 1) := by decide +kernel
theorem dX11_tie_30 : decode cX11_tie 30 = .ok (.getfield 19, 3) := by decide +kernel
theorem dX11_tie_33 : decode cX11_tie 33 = .ok (.iload_n 1, 1) := by decide +kernel
theorem dX11_tie_34 : decode cX11_tie 34 = .ok (.iload_n 2, 1) := by decide +kernel
theorem dX11_tie_35 : decode cX11_tie 35 = .ok (.invokevirtual 180, 3) := by decide +kernel
theorem dX11_tie_38 : decode cX11_tie 38 = .ok (.istore 4, 2) := by decide +kernel
theorem dX11_tie_40 : decode cX11_tie 40 = .ok (.aload_n 0, 1) := by decide +kernel
theorem dX11_tie_41 : decode cX11_tie 41 = .ok (.getfield 19, 3) := by decide +kernel
theorem dX11_tie_44 : decode cX11_tie 44 = .ok (.iload_n 1, 1) := by decide +kernel
theorem dX11_tie_45 : decode cX11_tie 45 = .ok (.iload_n 2, 1) := by decide +kernel
theorem dX11_tie_46 : decode cX11_tie 46 = .ok (.iload_n 3, 1) := by decide +kernel
theorem dX11_tie_47 : decode cX11_tie 47 = .ok (.invokevirtual 218, 3) := by decide +kernel
theorem dX11_tie_50 : decode cX11_tie 50 = .ok (.iload 4, 2) := by decide +kernel
theorem dX11_tie_52 : decode cX11_tie 52 = .ok (.ireturn, 1) := by decide +kernel
theorem dX11_plan_0 : decode cX11_plan 0 = .ok (.aload_n 0, 1) := by decide +kernel
theorem dX11_plan_1 : decode cX11_plan 1 = .ok (.iload_n 1, 1) := by decide +kernel
theorem dX11_plan_2 : decode cX11_plan 2 = .ok (.invokevirtual 184, 3) := by decide +kernel
theorem dX11_plan_5 : decode cX11_plan 5 = .ok (.aload_n 0, 1) := by decide +kernel
theorem dX11_plan_6 : decode cX11_plan 6 = .ok (.aload_n 0, 1) := by decide +kernel
theorem dX11_plan_7 : decode cX11_plan 7 = .ok (.getfield 19, 3) := by decide +kernel
theorem dX11_plan_10 : decode cX11_plan 10 = .ok (.getfield 196, 3) := by decide +kernel
theorem dX11_plan_13 : decode cX11_plan 13 = .ok (.iload_n 1, 1) := by decide +kernel
theorem dX11_plan_14 : decode cX11_plan 14 = .ok (.iaload, 1) := by decide +kernel
theorem dX11_plan_15 : decode cX11_plan 15 = .ok (.iconst 2, 1) := by decide +kernel
theorem dX11_plan_16 : decode cX11_plan 16 = .ok (.if_icmp .ne 7, 3) := by decide +kernel
theorem dX11_plan_19 : decode cX11_plan 19 = .ok (.iconst 1, 1) := by decide +kernel
theorem dX11_plan_20 : decode cX11_plan 20 = .ok (.goto 4, 3) := by decide +kernel
theorem dX11_plan_23 : decode cX11_plan 23 = .ok (.iconst 0, 1) := by decide +kernel
theorem dX11_plan_24 : decode cX11_plan 24 = .ok (.invokevirtual 221, 3) := by decide +kernel
theorem dX11_plan_27 : decode cX11_plan 27 = .ok (.aload_n 0, 1) := by decide +kernel
theorem dX11_plan_28 : decode cX11_plan 28 = .ok (.getfield 56, 3) := by decide +kernel
theorem dX11_plan_31 : decode cX11_plan 31 = .ok (.aload_n 0, 1) := by decide +kernel
theorem dX11_plan_32 : decode cX11_plan 32 = .ok (.getfield 19, 3) := by decide +kernel
theorem dX11_plan_35 : decode cX11_plan 35 = .ok (.aload_n 0, 1) := by decide +kernel
theorem dX11_plan_36 : decode cX11_plan 36 = .ok (.getfield 33, 3) := by decide +kernel
theorem dX11_plan_39 : decode cX11_plan 39 = .ok (.invokevirtual 207, 3) := by decide +kernel
theorem dX11_plan_42 : decode cX11_plan 42 = .ok (.aload_n 0, 1) := by decide +kernel
theorem dX11_plan_43 : decode cX11_plan 43 = .ok (.getfield 19, 3) := by decide +kernel
theorem dX11_plan_46 : decode cX11_plan 46 = .ok (.getfield 196, 3) := by decide +kernel
theorem dX11_plan_49 : decode cX11_plan 49 = .ok (.iload_n 1, 1) := by decide +kernel
theorem dX11_plan_50 : decode cX11_plan 50 = .ok (.iconst 0, 1) := by decide +kernel
theorem dX11_plan_51 : decode cX11_plan 51 = .ok (.iastore, 1) := by decide +kernel
theorem dX11_plan_52 : decode cX11_plan 52 = .ok (.return_, 1) := by decide +kernel
theorem dX11_send_0 : decode cX11_send 0 = .ok (.aload_n 0, 1) := by decide +kernel
theorem dX11_send_1 : decode cX11_send 1 = .ok (.iload_n 1, 1) := by decide +kernel
theorem dX11_send_2 : decode cX11_send 2 = .ok (.invokevirtual 138, 3) := by decide +kernel
theorem dX11_send_5 : decode cX11_send 5 = .ok (.aload_n 0, 1) := by decide +kernel
theorem dX11_send_6 : decode cX11_send 6 = .ok (.iload_n 1, 1) := by decide +kernel
theorem dX11_send_7 : decode cX11_send 7 = .ok (.invokevirtual 204, 3) := by decide +kernel
theorem dX11_send_10 : decode cX11_send 10 = .ok (.aload_n 0, 1) := by decide +kernel
theorem dX11_send_11 : decode cX11_send 11 = .ok (.getfield 56, 3) := by decide +kernel
theorem dX11_send_14 : decode cX11_send 14 = .ok (.aload_n 0, 1) := by decide +kernel
theorem dX11_send_15 : decode cX11_send 15 = .ok (.getfield 19, 3) := by decide +kernel
theorem dX11_send_18 : decode cX11_send 18 = .ok (.aload_n 0, 1) := by decide +kernel
theorem dX11_send_19 : decode cX11_send 19 = .ok (.getfield 33, 3) := by decide +kernel
theorem dX11_send_22 : decode cX11_send 22 = .ok (.invokevirtual 207, 3) := by decide +kernel
theorem dX11_send_25 : decode cX11_send 25 = .ok (.aload_n 0, 1) := by decide +kernel
theorem dX11_send_26 : decode cX11_send 26 = .ok (.getfield 19, 3) := by decide +kernel
theorem dX11_send_29 : decode cX11_send 29 = .ok (.getfield 155, 3) := by decide +kernel
theorem dX11_send_32 : decode cX11_send 32 = .ok (.iload_n 1, 1) := by decide +kernel
theorem dX11_send_33 : decode cX11_send 33 = .ok (.aload_n 0, 1) := by decide +kernel
theorem dX11_send_34 : decode cX11_send 34 = .ok (.getfield 19, 3) := by decide +kernel
theorem dX11_send_37 : decode cX11_send 37 = .ok (.getfield 225, 3) := by decide +kernel
theorem dX11_send_40 : decode cX11_send 40 = .ok (.aload_n 0, 1) := by decide +kernel
theorem dX11_send_41 : decode cX11_send 41 = .ok (.getfield 19, 3) := by decide +kernel
theorem dX11_send_44 : decode cX11_send 44 = .ok (.getfield 228, 3) := by decide +kernel
theorem dX11_send_47 : decode cX11_send 47 = .ok (.iadd, 1) := by decide +kernel
theorem dX11_send_48 : decode cX11_send 48 = .ok (.iastore, 1) := by decide +kernel
theorem dX11_send_49 : decode cX11_send 49 = .ok (.aload_n 0, 1) := by decide +kernel
theorem dX11_send_50 : decode cX11_send 50 = .ok (.getfield 19, 3) := by decide +kernel
theorem dX11_send_53 : decode cX11_send 53 = .ok (.getfield 155, 3) := by decide +kernel
theorem dX11_send_56 : decode cX11_send 56 = .ok (.iload_n 1, 1) := by decide +kernel
theorem dX11_send_57 : decode cX11_send 57 = .ok (.iaload, 1) := by decide +kernel
theorem dX11_send_58 : decode cX11_send 58 = .ok (.ireturn, 1) := by decide +kernel
theorem dX11_buy_0 : decode cX11_buy 0 = .ok (.aload_n 0, 1) := by decide +kernel
theorem dX11_buy_1 : decode cX11_buy 1 = .ok (.iload_n 1, 1) := by decide +kernel
theorem dX11_buy_2 : decode cX11_buy 2 = .ok (.invokevirtual 138, 3) := by decide +kernel
theorem dX11_buy_5 : decode cX11_buy 5 = .ok (.aload_n 0, 1) := by decide +kernel
theorem dX11_buy_6 : decode cX11_buy 6 = .ok (.iload_n 2, 1) := by decide +kernel
theorem dX11_buy_7 : decode cX11_buy 7 = .ok (.iconst 1, 1) := by decide +kernel
theorem dX11_buy_8 : decode cX11_buy 8 = .ok (.bipush 99, 2) := by decide +kernel
theorem dX11_buy_10 : decode cX11_buy 10 = .ok (.invokevirtual 214, 3) := by decide +kernel
theorem dX11_buy_13 : decode cX11_buy 13 = .ok (.iload_n 2, 1) := by decide +kernel
theorem dX11_buy_14 : decode cX11_buy 14 = .ok (.aload_n 0, 1) := by decide +kernel
theorem dX11_buy_15 : decode cX11_buy 15 = .ok (.getfield 19, 3) := by decide +kernel
theorem dX11_buy_18 : decode cX11_buy 18 = .ok (.invokevirtual 201, 3) := by decide +kernel
theorem dX11_buy_21 : decode cX11_buy 21 = .ok (.imul, 1) := by decide +kernel
theorem dX11_buy_22 : decode cX11_buy 22 = .ok (.istore_n 3, 1) := by decide +kernel
theorem dX11_buy_23 : decode cX11_buy 23 = .ok (.aload_n 0, 1) := by decide +kernel
theorem dX11_buy_24 : decode cX11_buy 24 = .ok (.aload_n 0, 1) := by decide +kernel
theorem dX11_buy_25 : decode cX11_buy 25 = .ok (.getfield 19, 3) := by decide +kernel
theorem dX11_buy_28 : decode cX11_buy 28 = .ok (.getfield 148, 3) := by decide +kernel
theorem dX11_buy_31 : decode cX11_buy 31 = .ok (.iload_n 1, 1) := by decide +kernel
theorem dX11_buy_32 : decode cX11_buy 32 = .ok (.iaload, 1) := by decide +kernel
theorem dX11_buy_33 : decode cX11_buy 33 = .ok (.iload_n 2, 1) := by decide +kernel
theorem dX11_buy_34 : decode cX11_buy 34 = .ok (.iadd, 1) := by decide +kernel
theorem dX11_buy_35 : decode cX11_buy 35 = .ok (.bipush 99, 2) := by decide +kernel
theorem dX11_buy_37 : decode cX11_buy 37 = .ok (.if_icmp .gt 20, 3) := by decide +kernel
theorem dX11_buy_40 : decode cX11_buy 40 = .ok (.aload_n 0, 1) := by decide +kernel
theorem dX11_buy_41 : decode cX11_buy 41 = .ok (.getfield 19, 3) := by decide +kernel
theorem dX11_buy_44 : decode cX11_buy 44 = .ok (.getfield 145, 3) := by decide +kernel
theorem dX11_buy_47 : decode cX11_buy 47 = .ok (.iload_n 1, 1) := by decide +kernel
theorem dX11_buy_48 : decode cX11_buy 48 = .ok (.iaload, 1) := by decide +kernel
theorem dX11_buy_49 : decode cX11_buy 49 = .ok (.iload_n 3, 1) := by decide +kernel
theorem dX11_buy_50 : decode cX11_buy 50 = .ok (.if_icmp .lt 7, 3) := by decide +kernel
theorem dX11_buy_53 : decode cX11_buy 53 = .ok (.iconst 1, 1) := by decide +kernel
theorem dX11_buy_54 : decode cX11_buy 54 = .ok (.goto 4, 3) := by decide +kernel
theorem dX11_buy_57 : decode cX11_buy 57 = .ok (.iconst 0, 1) := by decide +kernel
theorem dX11_buy_58 : decode cX11_buy 58 = .ok (.invokevirtual 221, 3) := by decide +kernel
theorem dX11_buy_61 : decode cX11_buy 61 = .ok (.aload_n 0, 1) := by decide +kernel
theorem dX11_buy_62 : decode cX11_buy 62 = .ok (.getfield 56, 3) := by decide +kernel
theorem dX11_buy_65 : decode cX11_buy 65 = .ok (.aload_n 0, 1) := by decide +kernel
theorem dX11_buy_66 : decode cX11_buy 66 = .ok (.getfield 19, 3) := by decide +kernel
theorem dX11_buy_69 : decode cX11_buy 69 = .ok (.aload_n 0, 1) := by decide +kernel
theorem dX11_buy_70 : decode cX11_buy 70 = .ok (.getfield 33, 3) := by decide +kernel
theorem dX11_buy_73 : decode cX11_buy 73 = .ok (.invokevirtual 207, 3) := by decide +kernel
theorem dX11_buy_76 : decode cX11_buy 76 = .ok (.aload_n 0, 1) := by decide +kernel
theorem dX11_buy_77 : decode cX11_buy 77 = .ok (.getfield 19, 3) := by decide +kernel
theorem dX11_buy_80 : decode cX11_buy 80 = .ok (.getfield 148, 3) := by decide +kernel
theorem dX11_buy_83 : decode cX11_buy 83 = .ok (.iload_n 1, 1) := by decide +kernel
theorem dX11_buy_84 : decode cX11_buy 84 = .ok (.dup2, 1) := by decide +kernel
theorem dX11_buy_85 : decode cX11_buy 85 = .ok (.iaload, 1) := by decide +kernel
theorem dX11_buy_86 : decode cX11_buy 86 = .ok (.iload_n 2, 1) := by decide +kernel
theorem dX11_buy_87 : decode cX11_buy 87 = .ok (.iadd, 1) := by decide +kernel
theorem dX11_buy_88 : decode cX11_buy 88 = .ok (.iastore, 1) := by decide +kernel
theorem dX11_buy_89 : decode cX11_buy 89 = .ok (.aload_n 0, 1) := by decide +kernel
theorem dX11_buy_90 : decode cX11_buy 90 = .ok (.getfield 19, 3) := by decide +kernel
theorem dX11_buy_93 : decode cX11_buy 93 = .ok (.getfield 145, 3) := by decide +kernel
theorem dX11_buy_96 : decode cX11_buy 96 = .ok (.iload_n 1, 1) := by decide +kernel
theorem dX11_buy_97 : decode cX11_buy 97 = .ok (.dup2, 1) := by decide +kernel
theorem dX11_buy_98 : decode cX11_buy 98 = .ok (.iaload, 1) := by decide +kernel
theorem dX11_buy_99 : decode cX11_buy 99 = .ok (.iload_n 3, 1) := by decide +kernel
theorem dX11_buy_100 : decode cX11_buy 100 = .ok (.isub, 1) := by decide +kernel
theorem dX11_buy_101 : decode cX11_buy 101 = .ok (.iastore, 1) := by decide +kernel
theorem dX11_buy_102 : decode cX11_buy 102 = .ok (.aload_n 0, 1) := by decide +kernel
theorem dX11_buy_103 : decode cX11_buy 103 = .ok (.getfield 19, 3) := by decide +kernel
theorem dX11_buy_106 : decode cX11_buy 106 = .ok (.sipush 9999, 3) := by decide +kernel
theorem dX11_buy_109 : decode cX11_buy 109 = .ok (.aload_n 0, 1) := by decide +kernel
theorem dX11_buy_110 : decode cX11_buy 110 = .ok (.getfield 19, 3) := by decide +kernel
theorem dX11_buy_113 : decode cX11_buy 113 = .ok (.getfield 231, 3) := by decide +kernel
theorem dX11_buy_116 : decode cX11_buy 116 = .ok (.iload_n 3, 1) := by decide +kernel
theorem dX11_buy_117 : decode cX11_buy 117 = .ok (.iadd, 1) := by decide +kernel
theorem dX11_buy_118 : decode cX11_buy 118 = .ok (.invokestatic 234, 3) := by decide +kernel
theorem dX11_buy_121 : decode cX11_buy 121 = .ok (.putfield 231, 3) := by decide +kernel
theorem dX11_buy_124 : decode cX11_buy 124 = .ok (.aload_n 0, 1) := by decide +kernel
theorem dX11_buy_125 : decode cX11_buy 125 = .ok (.getfield 19, 3) := by decide +kernel
theorem dX11_buy_128 : decode cX11_buy 128 = .ok (.getfield 145, 3) := by decide +kernel
theorem dX11_buy_131 : decode cX11_buy 131 = .ok (.iload_n 1, 1) := by decide +kernel
theorem dX11_buy_132 : decode cX11_buy 132 = .ok (.iaload, 1) := by decide +kernel
theorem dX11_buy_133 : decode cX11_buy 133 = .ok (.ireturn, 1) := by decide +kernel
theorem dX11_sell_0 : decode cX11_sell 0 = .ok (.aload_n 0, 1) := by decide +kernel
theorem dX11_sell_1 : decode cX11_sell 1 = .ok (.iload_n 1, 1) := by decide +kernel
theorem dX11_sell_2 : decode cX11_sell 2 = .ok (.invokevirtual 138, 3) := by decide +kernel
theorem dX11_sell_5 : decode cX11_sell 5 = .ok (.aload_n 0, 1) := by decide +kernel
theorem dX11_sell_6 : decode cX11_sell 6 = .ok (.iload_n 2, 1) := by decide +kernel
theorem dX11_sell_7 : decode cX11_sell 7 = .ok (.iconst 1, 1) := by decide +kernel
theorem dX11_sell_8 : decode cX11_sell 8 = .ok (.bipush 99, 2) := by decide +kernel
theorem dX11_sell_10 : decode cX11_sell 10 = .ok (.invokevirtual 214, 3) := by decide +kernel
theorem dX11_sell_13 : decode cX11_sell 13 = .ok (.iload_n 2, 1) := by decide +kernel
theorem dX11_sell_14 : decode cX11_sell 14 = .ok (.aload_n 0, 1) := by decide +kernel
theorem dX11_sell_15 : decode cX11_sell 15 = .ok (.getfield 19, 3) := by decide +kernel
theorem dX11_sell_18 : decode cX11_sell 18 = .ok (.invokevirtual 201, 3) := by decide +kernel
theorem dX11_sell_21 : decode cX11_sell 21 = .ok (.imul, 1) := by decide +kernel
theorem dX11_sell_22 : decode cX11_sell 22 = .ok (.istore_n 3, 1) := by decide +kernel
theorem dX11_sell_23 : decode cX11_sell 23 = .ok (.aload_n 0, 1) := by decide +kernel
theorem dX11_sell_24 : decode cX11_sell 24 = .ok (.aload_n 0, 1) := by decide +kernel
theorem dX11_sell_25 : decode cX11_sell 25 = .ok (.getfield 19, 3) := by decide +kernel
theorem dX11_sell_28 : decode cX11_sell 28 = .ok (.getfield 148, 3) := by decide +kernel
theorem dX11_sell_31 : decode cX11_sell 31 = .ok (.iload_n 1, 1) := by decide +kernel
theorem dX11_sell_32 : decode cX11_sell 32 = .ok (.iaload, 1) := by decide +kernel
theorem dX11_sell_33 : decode cX11_sell 33 = .ok (.iload_n 2, 1) := by decide +kernel
theorem dX11_sell_34 : decode cX11_sell 34 = .ok (.if_icmp .lt 18, 3) := by decide +kernel
theorem dX11_sell_37 : decode cX11_sell 37 = .ok (.aload_n 0, 1) := by decide +kernel
theorem dX11_sell_38 : decode cX11_sell 38 = .ok (.getfield 19, 3) := by decide +kernel
theorem dX11_sell_41 : decode cX11_sell 41 = .ok (.getfield 231, 3) := by decide +kernel
theorem dX11_sell_44 : decode cX11_sell 44 = .ok (.iload_n 3, 1) := by decide +kernel
theorem dX11_sell_45 : decode cX11_sell 45 = .ok (.if_icmp .lt 7, 3) := by decide +kernel
theorem dX11_sell_48 : decode cX11_sell 48 = .ok (.iconst 1, 1) := by decide +kernel
theorem dX11_sell_49 : decode cX11_sell 49 = .ok (.goto 4, 3) := by decide +kernel
theorem dX11_sell_52 : decode cX11_sell 52 = .ok (.iconst 0, 1) := by decide +kernel
theorem dX11_sell_53 : decode cX11_sell 53 = .ok (.invokevirtual 221, 3) := by decide +kernel
theorem dX11_sell_56 : decode cX11_sell 56 = .ok (.aload_n 0, 1) := by decide +kernel
theorem dX11_sell_57 : decode cX11_sell 57 = .ok (.getfield 56, 3) := by decide +kernel
theorem dX11_sell_60 : decode cX11_sell 60 = .ok (.aload_n 0, 1) := by decide +kernel
theorem dX11_sell_61 : decode cX11_sell 61 = .ok (.getfield 19, 3) := by decide +kernel
theorem dX11_sell_64 : decode cX11_sell 64 = .ok (.aload_n 0, 1) := by decide +kernel
theorem dX11_sell_65 : decode cX11_sell 65 = .ok (.getfield 33, 3) := by decide +kernel
theorem dX11_sell_68 : decode cX11_sell 68 = .ok (.invokevirtual 207, 3) := by decide +kernel
theorem dX11_sell_71 : decode cX11_sell 71 = .ok (.aload_n 0, 1) := by decide +kernel
theorem dX11_sell_72 : decode cX11_sell 72 = .ok (.getfield 19, 3) := by decide +kernel
theorem dX11_sell_75 : decode cX11_sell 75 = .ok (.getfield 148, 3) := by decide +kernel
theorem dX11_sell_78 : decode cX11_sell 78 = .ok (.iload_n 1, 1) := by decide +kernel
theorem dX11_sell_79 : decode cX11_sell 79 = .ok (.dup2, 1) := by decide +kernel
theorem dX11_sell_80 : decode cX11_sell 80 = .ok (.iaload, 1) := by decide +kernel
theorem dX11_sell_81 : decode cX11_sell 81 = .ok (.iload_n 2, 1) := by decide +kernel
theorem dX11_sell_82 : decode cX11_sell 82 = .ok (.isub, 1) := by decide +kernel
theorem dX11_sell_83 : decode cX11_sell 83 = .ok (.iastore, 1) := by decide +kernel
theorem dX11_sell_84 : decode cX11_sell 84 = .ok (.aload_n 0, 1) := by decide +kernel
theorem dX11_sell_85 : decode cX11_sell 85 = .ok (.getfield 19, 3) := by decide +kernel
theorem dX11_sell_88 : decode cX11_sell 88 = .ok (.dup, 1) := by decide +kernel
theorem dX11_sell_89 : decode cX11_sell 89 = .ok (.getfield 231, 3) := by decide +kernel
theorem dX11_sell_92 : decode cX11_sell 92 = .ok (.iload_n 3, 1) := by decide +kernel
theorem dX11_sell_93 : decode cX11_sell 93 = .ok (.isub, 1) := by decide +kernel
theorem dX11_sell_94 : decode cX11_sell 94 = .ok (.putfield 231, 3) := by decide +kernel
theorem dX11_sell_97 : decode cX11_sell 97 = .ok (.aload_n 0, 1) := by decide +kernel
theorem dX11_sell_98 : decode cX11_sell 98 = .ok (.getfield 19, 3) := by decide +kernel
theorem dX11_sell_101 : decode cX11_sell 101 = .ok (.getfield 145, 3) := by decide +kernel
theorem dX11_sell_104 : decode cX11_sell 104 = .ok (.iload_n 1, 1) := by decide +kernel
theorem dX11_sell_105 : decode cX11_sell 105 = .ok (.sipush 9999, 3) := by decide +kernel
theorem dX11_sell_108 : decode cX11_sell 108 = .ok (.aload_n 0, 1) := by decide +kernel
theorem dX11_sell_109 : decode cX11_sell 109 = .ok (.getfield 19, 3) := by decide +kernel
theorem dX11_sell_112 : decode cX11_sell 112 = .ok (.getfield 145, 3) := by decide +kernel
theorem dX11_sell_115 : decode cX11_sell 115 = .ok (.iload_n 1, 1) := by decide +kernel
theorem dX11_sell_116 : decode cX11_sell 116 = .ok (.iaload, 1) := by decide +kernel
theorem dX11_sell_117 : decode cX11_sell 117 = .ok (.iload_n 3, 1) := by decide +kernel
theorem dX11_sell_118 : decode cX11_sell 118 = .ok (.iadd, 1) := by decide +kernel
theorem dX11_sell_119 : decode cX11_sell 119 = .ok (.invokestatic 234, 3) := by decide +kernel
theorem dX11_sell_122 : decode cX11_sell 122 = .ok (.iastore, 1) := by decide +kernel
theorem dX11_sell_123 : decode cX11_sell 123 = .ok (.aload_n 0, 1) := by decide +kernel
theorem dX11_sell_124 : decode cX11_sell 124 = .ok (.getfield 19, 3) := by decide +kernel
theorem dX11_sell_127 : decode cX11_sell 127 = .ok (.getfield 145, 3) := by decide +kernel
theorem dX11_sell_130 : decode cX11_sell 130 = .ok (.iload_n 1, 1) := by decide +kernel
theorem dX11_sell_131 : decode cX11_sell 131 = .ok (.iaload, 1) := by decide +kernel
theorem dX11_sell_132 : decode cX11_sell 132 = .ok (.ireturn, 1) := by decide +kernel
theorem dX11_dry_0 : decode cX11_dry 0 = .ok (.aload_n 0, 1) := by decide +kernel
theorem dX11_dry_1 : decode cX11_dry 1 = .ok (.iload_n 1, 1) := by decide +kernel
theorem dX11_dry_2 : decode cX11_dry 2 = .ok (.invokevirtual 138, 3) := by decide +kernel
theorem dX11_dry_5 : decode cX11_dry 5 = .ok (.aload_n 0, 1) := by decide +kernel
theorem dX11_dry_6 : decode cX11_dry 6 = .ok (.getfield 56, 3) := by decide +kernel
theorem dX11_dry_9 : decode cX11_dry 9 = .ok (.aload_n 0, 1) := by decide +kernel
theorem dX11_dry_10 : decode cX11_dry 10 = .ok (.getfield 19, 3) := by decide +kernel
theorem dX11_dry_13 : decode cX11_dry 13 = .ok (.aload_n 0, 1) := by decide +kernel
theorem dX11_dry_14 : decode cX11_dry 14 = .ok (.getfield 33, 3) := by decide +kernel
theorem dX11_dry_17 : decode cX11_dry 17 = .ok (.invokevirtual 207, 3) := by decide +kernel
theorem dX11_dry_20 : decode cX11_dry 20 = .ok (.aload_n 0, 1) := by decide +kernel
theorem dX11_dry_21 : decode cX11_dry 21 = .ok (.getfield 19, 3) := by decide +kernel
theorem dX11_dry_24 : decode cX11_dry 24 = .ok (.getfield 151, 3) := by decide +kernel
theorem dX11_dry_27 : decode cX11_dry 27 = .ok (.iload_n 1, 1) := by decide +kernel
theorem dX11_dry_28 : decode cX11_dry 28 = .ok (.baload, 1) := by decide +kernel
theorem dX11_dry_29 : decode cX11_dry 29 = .ok (.iload_n 2, 1) := by decide +kernel
theorem dX11_dry_30 : decode cX11_dry 30 = .ok (.if_icmp .eq 7, 3) := by decide +kernel
theorem dX11_dry_33 : decode cX11_dry 33 = .ok (.iconst 1, 1) := by decide +kernel
theorem dX11_dry_34 : decode cX11_dry 34 = .ok (.goto 4, 3) := by decide +kernel
theorem dX11_dry_37 : decode cX11_dry 37 = .ok (.iconst 0, 1) := by decide +kernel
theorem dX11_dry_38 : decode cX11_dry 38 = .ok (.istore_n 3, 1) := by decide +kernel
theorem dX11_dry_39 : decode cX11_dry 39 = .ok (.aload_n 0, 1) := by decide +kernel
theorem dX11_dry_40 : decode cX11_dry 40 = .ok (.getfield 19, 3) := by decide +kernel
theorem dX11_dry_43 : decode cX11_dry 43 = .ok (.getfield 151, 3) := by decide +kernel
theorem dX11_dry_46 : decode cX11_dry 46 = .ok (.iload_n 1, 1) := by decide +kernel
theorem dX11_dry_47 : decode cX11_dry 47 = .ok (.iload_n 2, 1) := by decide +kernel
theorem dX11_dry_48 : decode cX11_dry 48 = .ok (.bastore, 1) := by decide +kernel
theorem dX11_dry_49 : decode cX11_dry 49 = .ok (.iload_n 3, 1) := by decide +kernel
theorem dX11_dry_50 : decode cX11_dry 50 = .ok (.ireturn, 1) := by decide +kernel
theorem dX11_days_0 : decode cX11_days 0 = .ok (.aload_n 0, 1) := by decide +kernel
theorem dX11_days_1 : decode cX11_days 1 = .ok (.iload_n 1, 1) := by decide +kernel
theorem dX11_days_2 : decode cX11_days 2 = .ok (.iconst 1, 1) := by decide +kernel
theorem dX11_days_3 : decode cX11_days 3 = .ok (.bipush 60, 2) := by decide +kernel
theorem dX11_days_5 : decode cX11_days 5 = .ok (.invokevirtual 214, 3) := by decide +kernel
theorem dX11_days_8 : decode cX11_days 8 = .ok (.aload_n 0, 1) := by decide +kernel
theorem dX11_days_9 : decode cX11_days 9 = .ok (.getfield 56, 3) := by decide +kernel
theorem dX11_days_12 : decode cX11_days 12 = .ok (.aload_n 0, 1) := by decide +kernel
theorem dX11_days_13 : decode cX11_days 13 = .ok (.getfield 19, 3) := by decide +kernel
theorem dX11_days_16 : decode cX11_days 16 = .ok (.aload_n 0, 1) := by decide +kernel
theorem dX11_days_17 : decode cX11_days 17 = .ok (.getfield 33, 3) := by decide +kernel
theorem dX11_days_20 : decode cX11_days 20 = .ok (.invokevirtual 207, 3) := by decide +kernel
theorem dX11_days_23 : decode cX11_days 23 = .ok (.iconst 0, 1) := by decide +kernel
theorem dX11_days_24 : decode cX11_days 24 = .ok (.istore_n 2, 1) := by decide +kernel
theorem dX11_days_25 : decode cX11_days 25 = .ok (.iconst 0, 1) := by decide +kernel
theorem dX11_days_26 : decode cX11_days 26 = .ok (.istore_n 3, 1) := by decide +kernel
theorem dX11_days_27 : decode cX11_days 27 = .ok (.iload_n 3, 1) := by decide +kernel
theorem dX11_days_28 : decode cX11_days 28 = .ok (.iload_n 1, 1) := by decide +kernel
theorem dX11_days_29 : decode cX11_days 29 = .ok (.if_icmp .ge 28, 3) := by decide +kernel
theorem dX11_days_32 : decode cX11_days 32 = .ok (.iload_n 2, 1) := by decide +kernel
theorem dX11_days_33 : decode cX11_days 33 = .ok (.aload_n 0, 1) := by decide +kernel
theorem dX11_days_34 : decode cX11_days 34 = .ok (.getfield 19, 3) := by decide +kernel
theorem dX11_days_37 : decode cX11_days 37 = .ok (.aload_n 0, 1) := by decide +kernel
theorem dX11_days_38 : decode cX11_days 38 = .ok (.getfield 26, 3) := by decide +kernel
theorem dX11_days_41 : decode cX11_days 41 = .ok (.iconst 1, 1) := by decide +kernel
theorem dX11_days_42 : decode cX11_days 42 = .ok (.aload_n 0, 1) := by decide +kernel
theorem dX11_days_43 : decode cX11_days 43 = .ok (.getfield 33, 3) := by decide +kernel
theorem dX11_days_46 : decode cX11_days 46 = .ok (.invokevirtual 239, 3) := by decide +kernel
theorem dX11_days_49 : decode cX11_days 49 = .ok (.iadd, 1) := by decide +kernel
theorem dX11_days_50 : decode cX11_days 50 = .ok (.istore_n 2, 1) := by decide +kernel
theorem dX11_days_51 : decode cX11_days 51 = .ok (.iinc 3 1, 3) := by decide +kernel
theorem dX11_days_54 : decode cX11_days 54 = .ok (.goto (-27), 3) := by decide +kernel
theorem dX11_days_57 : decode cX11_days 57 = .ok (.iload_n 2, 1) := by decide +kernel
theorem dX11_days_58 : decode cX11_days 58 = .ok (.ireturn, 1) := by decide +kernel
theorem dX11_ahead_0 : decode cX11_ahead 0 = .ok (.aload_n 0, 1) := by decide +kernel
theorem dX11_ahead_1 : decode cX11_ahead 1 = .ok (.iload_n 1, 1) := by decide +kernel
theorem dX11_ahead_2 : decode cX11_ahead 2 = .ok (.invokevirtual 138, 3) := by decide +kernel
theorem dX11_ahead_5 : decode cX11_ahead 5 = .ok (.aload_n 0, 1) := by decide +kernel
theorem dX11_ahead_6 : decode cX11_ahead 6 = .ok (.iload_n 2, 1) := by decide +kernel
theorem dX11_ahead_7 : decode cX11_ahead 7 = .ok (.iconst 0, 1) := by decide +kernel
theorem dX11_ahead_8 : decode cX11_ahead 8 = .ok (.bipush 100, 2) := by decide +kernel
theorem dX11_ahead_10 : decode cX11_ahead 10 = .ok (.invokevirtual 214, 3) := by decide +kernel
theorem dX11_ahead_13 : decode cX11_ahead 13 = .ok (.aload_n 0, 1) := by decide +kernel
theorem dX11_ahead_14 : decode cX11_ahead 14 = .ok (.getfield 65, 3) := by decide +kernel
theorem dX11_ahead_17 : decode cX11_ahead 17 = .ok (.iconst 0, 1) := by decide +kernel
theorem dX11_ahead_18 : decode cX11_ahead 18 = .ok (.iconst 0, 1) := by decide +kernel
theorem dX11_ahead_19 : decode cX11_ahead 19 = .ok (.iload_n 2, 1) := by decide +kernel
theorem dX11_ahead_20 : decode cX11_ahead 20 = .ok (.invokevirtual 243, 3) := by decide +kernel
theorem dX11_ahead_23 : decode cX11_ahead 23 = .ok (.pop, 1) := by decide +kernel
theorem dX11_ahead_24 : decode cX11_ahead 24 = .ok (.aload_n 0, 1) := by decide +kernel
theorem dX11_ahead_25 : decode cX11_ahead 25 = .ok (.getfield 65, 3) := by decide +kernel
theorem dX11_ahead_28 : decode cX11_ahead 28 = .ok (.getfield 247, 3) := by decide +kernel
theorem dX11_ahead_31 : decode cX11_ahead 31 = .ok (.getfield 141, 3) := by decide +kernel
theorem dX11_ahead_34 : decode cX11_ahead 34 = .ok (.iload_n 1, 1) := by decide +kernel
theorem dX11_ahead_35 : decode cX11_ahead 35 = .ok (.iaload, 1) := by decide +kernel
theorem dX11_ahead_36 : decode cX11_ahead 36 = .ok (.ireturn, 1) := by decide +kernel
theorem dX11_then_0 : decode cX11_then 0 = .ok (.aload_n 0, 1) := by decide +kernel
theorem dX11_then_1 : decode cX11_then 1 = .ok (.iload_n 1, 1) := by decide +kernel
theorem dX11_then_2 : decode cX11_then 2 = .ok (.iconst 0, 1) := by decide +kernel
theorem dX11_then_3 : decode cX11_then 3 = .ok (.bipush 100, 2) := by decide +kernel
theorem dX11_then_5 : decode cX11_then 5 = .ok (.invokevirtual 214, 3) := by decide +kernel
theorem dX11_then_8 : decode cX11_then 8 = .ok (.aload_n 0, 1) := by decide +kernel
theorem dX11_then_9 : decode cX11_then 9 = .ok (.getfield 65, 3) := by decide +kernel
theorem dX11_then_12 : decode cX11_then 12 = .ok (.iconst 0, 1) := by decide +kernel
theorem dX11_then_13 : decode cX11_then 13 = .ok (.iconst 0, 1) := by decide +kernel
theorem dX11_then_14 : decode cX11_then 14 = .ok (.iload_n 1, 1) := by decide +kernel
theorem dX11_then_15 : decode cX11_then 15 = .ok (.invokevirtual 243, 3) := by decide +kernel
theorem dX11_then_18 : decode cX11_then 18 = .ok (.istore_n 3, 1) := by decide +kernel
theorem dX11_then_19 : decode cX11_then 19 = .ok (.iload_n 2, 1) := by decide +kernel
theorem dX11_then_20 : decode cX11_then 20 = .ok (.ifCond .eq 16, 3) := by decide +kernel
theorem dX11_then_23 : decode cX11_then 23 = .ok (.aload_n 0, 1) := by decide +kernel
theorem dX11_then_24 : decode cX11_then 24 = .ok (.getfield 65, 3) := by decide +kernel
theorem dX11_then_27 : decode cX11_then 27 = .ok (.getfield 247, 3) := by decide +kernel
theorem dX11_then_30 : decode cX11_then 30 = .ok (.getfield 231, 3) := by decide +kernel
theorem dX11_then_33 : decode cX11_then 33 = .ok (.goto 4, 3) := by decide +kernel
theorem dX11_then_36 : decode cX11_then 36 = .ok (.iload_n 3, 1) := by decide +kernel
theorem dX11_then_37 : decode cX11_then 37 = .ok (.ireturn, 1) := by decide +kernel
theorem dX11_sways_0 : decode cX11_sways 0 = .ok (.aload_n 0, 1) := by decide +kernel
theorem dX11_sways_1 : decode cX11_sways 1 = .ok (.iload_n 1, 1) := by decide +kernel
theorem dX11_sways_2 : decode cX11_sways 2 = .ok (.invokevirtual 138, 3) := by decide +kernel
theorem dX11_sways_5 : decode cX11_sways 5 = .ok (.aload_n 0, 1) := by decide +kernel
theorem dX11_sways_6 : decode cX11_sways 6 = .ok (.iload_n 2, 1) := by decide +kernel
theorem dX11_sways_7 : decode cX11_sways 7 = .ok (.iconst 0, 1) := by decide +kernel
theorem dX11_sways_8 : decode cX11_sways 8 = .ok (.bipush 30, 2) := by decide +kernel
theorem dX11_sways_10 : decode cX11_sways 10 = .ok (.invokevirtual 214, 3) := by decide +kernel
theorem dX11_sways_13 : decode cX11_sways 13 = .ok (.aload_n 0, 1) := by decide +kernel
theorem dX11_sways_14 : decode cX11_sways 14 = .ok (.getfield 65, 3) := by decide +kernel
theorem dX11_sways_17 : decode cX11_sways 17 = .ok (.iconst 1, 1) := by decide +kernel
theorem dX11_sways_18 : decode cX11_sways 18 = .ok (.iload_n 1, 1) := by decide +kernel
theorem dX11_sways_19 : decode cX11_sways 19 = .ok (.ishl, 1) := by decide +kernel
theorem dX11_sways_20 : decode cX11_sways 20 = .ok (.bipush 10, 2) := by decide +kernel
theorem dX11_sways_22 : decode cX11_sways 22 = .ok (.iload_n 2, 1) := by decide +kernel
theorem dX11_sways_23 : decode cX11_sways 23 = .ok (.invokevirtual 243, 3) := by decide +kernel
theorem dX11_sways_26 : decode cX11_sways 26 = .ok (.aload_n 0, 1) := by decide +kernel
theorem dX11_sways_27 : decode cX11_sways 27 = .ok (.getfield 65, 3) := by decide +kernel
theorem dX11_sways_30 : decode cX11_sways 30 = .ok (.iconst 0, 1) := by decide +kernel
theorem dX11_sways_31 : decode cX11_sways 31 = .ok (.iconst 0, 1) := by decide +kernel
theorem dX11_sways_32 : decode cX11_sways 32 = .ok (.iload_n 2, 1) := by decide +kernel
theorem dX11_sways_33 : decode cX11_sways 33 = .ok (.invokevirtual 243, 3) := by decide +kernel
theorem dX11_sways_36 : decode cX11_sways 36 = .ok (.isub, 1) := by decide +kernel
theorem dX11_sways_37 : decode cX11_sways 37 = .ok (.ireturn, 1) := by decide +kernel
theorem dX11_guru_0 : decode cX11_guru 0 = .ok (.aload_n 0, 1) := by decide +kernel
theorem dX11_guru_1 : decode cX11_guru 1 = .ok (.iload_n 1, 1) := by decide +kernel
theorem dX11_guru_2 : decode cX11_guru 2 = .ok (.iconst 0, 1) := by decide +kernel
theorem dX11_guru_3 : decode cX11_guru 3 = .ok (.bipush 30, 2) := by decide +kernel
theorem dX11_guru_5 : decode cX11_guru 5 = .ok (.invokevirtual 214, 3) := by decide +kernel
theorem dX11_guru_8 : decode cX11_guru 8 = .ok (.aload_n 0, 1) := by decide +kernel
theorem dX11_guru_9 : decode cX11_guru 9 = .ok (.getfield 65, 3) := by decide +kernel
theorem dX11_guru_12 : decode cX11_guru 12 = .ok (.iload_n 1, 1) := by decide +kernel
theorem dX11_guru_13 : decode cX11_guru 13 = .ok (.invokevirtual 250, 3) := by decide +kernel
theorem dX11_guru_16 : decode cX11_guru 16 = .ok (.ireturn, 1) := by decide +kernel
theorem dX11_must_0 : decode cX11_must 0 = .ok (.aload_n 0, 1) := by decide +kernel
theorem dX11_must_1 : decode cX11_must 1 = .ok (.iload_n 1, 1) := by decide +kernel
theorem dX11_must_2 : decode cX11_must 2 = .ok (.iconst 1, 1) := by decide +kernel
theorem dX11_must_3 : decode cX11_must 3 = .ok (.sipush 792, 3) := by decide +kernel
theorem dX11_must_6 : decode cX11_must 6 = .ok (.invokevirtual 214, 3) := by decide +kernel
theorem dX11_must_9 : decode cX11_must 9 = .ok (.aload_n 0, 1) := by decide +kernel
theorem dX11_must_10 : decode cX11_must 10 = .ok (.iload_n 2, 1) := by decide +kernel
theorem dX11_must_11 : decode cX11_must 11 = .ok (.iconst 0, 1) := by decide +kernel
theorem dX11_must_12 : decode cX11_must 12 = .ok (.bipush 30, 2) := by decide +kernel
theorem dX11_must_14 : decode cX11_must 14 = .ok (.invokevirtual 214, 3) := by decide +kernel
theorem dX11_must_17 : decode cX11_must 17 = .ok (.aload_n 0, 1) := by decide +kernel
theorem dX11_must_18 : decode cX11_must 18 = .ok (.getfield 65, 3) := by decide +kernel
theorem dX11_must_21 : decode cX11_must 21 = .ok (.iload_n 1, 1) := by decide +kernel
theorem dX11_must_22 : decode cX11_must 22 = .ok (.iload_n 2, 1) := by decide +kernel
theorem dX11_must_23 : decode cX11_must 23 = .ok (.invokevirtual 253, 3) := by decide +kernel
theorem dX11_must_26 : decode cX11_must 26 = .ok (.ireturn, 1) := by decide +kernel
theorem dX11_reaches_0 : decode cX11_reaches 0 = .ok (.aload_n 0, 1) := by decide +kernel
theorem dX11_reaches_1 : decode cX11_reaches 1 = .ok (.iload_n 1, 1) := by decide +kernel
theorem dX11_reaches_2 : decode cX11_reaches 2 = .ok (.iconst 1, 1) := by decide +kernel
theorem dX11_reaches_3 : decode cX11_reaches 3 = .ok (.sipush 792, 3) := by decide +kernel
theorem dX11_reaches_6 : decode cX11_reaches 6 = .ok (.invokevirtual 214, 3) := by decide +kernel
theorem dX11_reaches_9 : decode cX11_reaches 9 = .ok (.aload_n 0, 1) := by decide +kernel
theorem dX11_reaches_10 : decode cX11_reaches 10 = .ok (.getfield 65, 3) := by decide +kernel
theorem dX11_reaches_13 : decode cX11_reaches 13 = .ok (.iload_n 1, 1) := by decide +kernel
theorem dX11_reaches_14 : decode cX11_reaches 14 = .ok (.invokevirtual 256, 3) := by decide +kernel
theorem dX11_reaches_17 : decode cX11_reaches 17 = .ok (.ireturn, 1) := by decide +kernel
theorem dX11_doubts_0 : decode cX11_doubts 0 = .ok (.aload_n 0, 1) := by decide +kernel
theorem dX11_doubts_1 : decode cX11_doubts 1 = .ok (.getfield 19, 3) := by decide +kernel
theorem dX11_doubts_4 : decode cX11_doubts 4 = .ok (.invokevirtual 259, 3) := by decide +kernel
theorem dX11_doubts_7 : decode cX11_doubts 7 = .ok (.ireturn, 1) := by decide +kernel
theorem dX11_ruin_0 : decode cX11_ruin 0 = .ok (.aload_n 0, 1) := by decide +kernel
theorem dX11_ruin_1 : decode cX11_ruin 1 = .ok (.getfield 65, 3) := by decide +kernel
theorem dX11_ruin_4 : decode cX11_ruin 4 = .ok (.invokevirtual 262, 3) := by decide +kernel
theorem dX11_ruin_7 : decode cX11_ruin 7 = .ok (.ireturn, 1) := by decide +kernel
theorem dX11_dearest_0 : decode cX11_dearest 0 = .ok (.aload_n 0, 1) := by decide +kernel
theorem dX11_dearest_1 : decode cX11_dearest 1 = .ok (.iload_n 1, 1) := by decide +kernel
theorem dX11_dearest_2 : decode cX11_dearest 2 = .ok (.iconst 0, 1) := by decide +kernel
theorem dX11_dearest_3 : decode cX11_dearest 3 = .ok (.bipush 100, 2) := by decide +kernel
theorem dX11_dearest_5 : decode cX11_dearest 5 = .ok (.invokevirtual 214, 3) := by decide +kernel
theorem dX11_dearest_8 : decode cX11_dearest 8 = .ok (.aload_n 0, 1) := by decide +kernel
theorem dX11_dearest_9 : decode cX11_dearest 9 = .ok (.getfield 65, 3) := by decide +kernel
theorem dX11_dearest_12 : decode cX11_dearest 12 = .ok (.iload_n 1, 1) := by decide +kernel
theorem dX11_dearest_13 : decode cX11_dearest 13 = .ok (.iload_n 2, 1) := by decide +kernel
theorem dX11_dearest_14 : decode cX11_dearest 14 = .ok (.invokevirtual 265, 3) := by decide +kernel
theorem dX11_dearest_17 : decode cX11_dearest 17 = .ok (.ireturn, 1) := by decide +kernel
theorem dX11_falls_0 : decode cX11_falls 0 = .ok (.aload_n 0, 1) := by decide +kernel
theorem dX11_falls_1 : decode cX11_falls 1 = .ok (.iload_n 1, 1) := by decide +kernel
theorem dX11_falls_2 : decode cX11_falls 2 = .ok (.iconst 0, 1) := by decide +kernel
theorem dX11_falls_3 : decode cX11_falls 3 = .ok (.bipush 100, 2) := by decide +kernel
theorem dX11_falls_5 : decode cX11_falls 5 = .ok (.invokevirtual 214, 3) := by decide +kernel
theorem dX11_falls_8 : decode cX11_falls 8 = .ok (.aload_n 0, 1) := by decide +kernel
theorem dX11_falls_9 : decode cX11_falls 9 = .ok (.getfield 65, 3) := by decide +kernel
theorem dX11_falls_12 : decode cX11_falls 12 = .ok (.iconst 0, 1) := by decide +kernel
theorem dX11_falls_13 : decode cX11_falls 13 = .ok (.iconst 0, 1) := by decide +kernel
theorem dX11_falls_14 : decode cX11_falls 14 = .ok (.iload_n 1, 1) := by decide +kernel
theorem dX11_falls_15 : decode cX11_falls 15 = .ok (.invokevirtual 243, 3) := by decide +kernel
theorem dX11_falls_18 : decode cX11_falls 18 = .ok (.pop, 1) := by decide +kernel
theorem dX11_falls_19 : decode cX11_falls 19 = .ok (.aload_n 0, 1) := by decide +kernel
theorem dX11_falls_20 : decode cX11_falls 20 = .ok (.getfield 65, 3) := by decide +kernel
theorem dX11_falls_23 : decode cX11_falls 23 = .ok (.getfield 247, 3) := by decide +kernel
theorem dX11_falls_26 : decode cX11_falls 26 = .ok (.iconst 2, 1) := by decide +kernel
theorem dX11_falls_27 : decode cX11_falls 27 = .ok (.invokevirtual 269, 3) := by decide +kernel
theorem dX11_falls_30 : decode cX11_falls 30 = .ok (.aload_n 0, 1) := by decide +kernel
theorem dX11_falls_31 : decode cX11_falls 31 = .ok (.getfield 19, 3) := by decide +kernel
theorem dX11_falls_34 : decode cX11_falls 34 = .ok (.iconst 2, 1) := by decide +kernel
theorem dX11_falls_35 : decode cX11_falls 35 = .ok (.invokevirtual 269, 3) := by decide +kernel
theorem dX11_falls_38 : decode cX11_falls 38 = .ok (.iconst (-1), 1) := by decide +kernel
theorem dX11_falls_39 : decode cX11_falls 39 = .ok (.ixor, 1) := by decide +kernel
theorem dX11_falls_40 : decode cX11_falls 40 = .ok (.iand, 1) := by decide +kernel
theorem dX11_falls_41 : decode cX11_falls 41 = .ok (.ireturn, 1) := by decide +kernel
theorem dX11_chosen_0 : decode cX11_chosen 0 = .ok (.aload_n 0, 1) := by decide +kernel
theorem dX11_chosen_1 : decode cX11_chosen 1 = .ok (.getfield 19, 3) := by decide +kernel
theorem dX11_chosen_4 : decode cX11_chosen 4 = .ok (.invokevirtual 272, 3) := by decide +kernel
theorem dX11_chosen_7 : decode cX11_chosen 7 = .ok (.istore_n 2, 1) := by decide +kernel
theorem dX11_chosen_8 : decode cX11_chosen 8 = .ok (.iload_n 1, 1) := by decide +kernel
theorem dX11_chosen_9 : decode cX11_chosen 9 = .ok (.ifCond .eq 14, 3) := by decide +kernel
theorem dX11_chosen_12 : decode cX11_chosen 12 = .ok (.aload_n 0, 1) := by decide +kernel
theorem dX11_chosen_13 : decode cX11_chosen 13 = .ok (.getfield 19, 3) := by decide +kernel
theorem dX11_chosen_16 : decode cX11_chosen 16 = .ok (.iload_n 2, 1) := by decide +kernel
theorem dX11_chosen_17 : decode cX11_chosen 17 = .ok (.invokevirtual 275, 3) := by decide +kernel
theorem dX11_chosen_20 : decode cX11_chosen 20 = .ok (.goto 4, 3) := by decide +kernel
theorem dX11_chosen_23 : decode cX11_chosen 23 = .ok (.iload_n 2, 1) := by decide +kernel
theorem dX11_chosen_24 : decode cX11_chosen 24 = .ok (.ireturn, 1) := by decide +kernel
theorem dX11_river_0 : decode cX11_river 0 = .ok (.aload_n 0, 1) := by decide +kernel
theorem dX11_river_1 : decode cX11_river 1 = .ok (.getfield 10, 3) := by decide +kernel
theorem dX11_river_4 : decode cX11_river 4 = .ok (.invokevirtual 87, 3) := by decide +kernel
theorem dX11_river_7 : decode cX11_river 7 = .ok (.istore_n 2, 1) := by decide +kernel
theorem dX11_river_8 : decode cX11_river 8 = .ok (.aload_n 0, 1) := by decide +kernel
theorem dX11_river_9 : decode cX11_river 9 = .ok (.iload_n 2, 1) := by decide +kernel
theorem dX11_river_10 : decode cX11_river 10 = .ok (.iload_n 1, 1) := by decide +kernel
theorem dX11_river_11 : decode cX11_river 11 = .ok (.invokevirtual 278, 3) := by decide +kernel
theorem dX11_river_14 : decode cX11_river 14 = .ok (.iload_n 1, 1) := by decide +kernel
theorem dX11_river_15 : decode cX11_river 15 = .ok (.aload_n 0, 1) := by decide +kernel
theorem dX11_river_16 : decode cX11_river 16 = .ok (.getfield 10, 3) := by decide +kernel
theorem dX11_river_19 : decode cX11_river 19 = .ok (.iload_n 2, 1) := by decide +kernel
theorem dX11_river_20 : decode cX11_river 20 = .ok (.invokevirtual 281, 3) := by decide +kernel
theorem dX11_river_23 : decode cX11_river 23 = .ok (.invokestatic 284, 3) := by decide +kernel
theorem dX11_river_26 : decode cX11_river 26 = .ok (.ireturn, 1) := by decide +kernel
theorem dX11_more_0 : decode cX11_more 0 = .ok (.aload_n 0, 1) := by decide +kernel
theorem dX11_more_1 : decode cX11_more 1 = .ok (.getfield 10, 3) := by decide +kernel
theorem dX11_more_4 : decode cX11_more 4 = .ok (.invokevirtual 87, 3) := by decide +kernel
theorem dX11_more_7 : decode cX11_more 7 = .ok (.istore_n 2, 1) := by decide +kernel
theorem dX11_more_8 : decode cX11_more 8 = .ok (.aload_n 0, 1) := by decide +kernel
theorem dX11_more_9 : decode cX11_more 9 = .ok (.iload_n 2, 1) := by decide +kernel
theorem dX11_more_10 : decode cX11_more 10 = .ok (.iload_n 1, 1) := by decide +kernel
theorem dX11_more_11 : decode cX11_more 11 = .ok (.invokevirtual 278, 3) := by decide +kernel
theorem dX11_more_14 : decode cX11_more 14 = .ok (.iload_n 1, 1) := by decide +kernel
theorem dX11_more_15 : decode cX11_more 15 = .ok (.aload_n 0, 1) := by decide +kernel
theorem dX11_more_16 : decode cX11_more 16 = .ok (.getfield 10, 3) := by decide +kernel
theorem dX11_more_19 : decode cX11_more 19 = .ok (.iload_n 2, 1) := by decide +kernel
theorem dX11_more_20 : decode cX11_more 20 = .ok (.invokevirtual 281, 3) := by decide +kernel
theorem dX11_more_23 : decode cX11_more 23 = .ok (.invokestatic 287, 3) := by decide +kernel
theorem dX11_more_26 : decode cX11_more 26 = .ok (.ireturn, 1) := by decide +kernel
theorem dX11_liars_0 : decode cX11_liars 0 = .ok (.aload_n 0, 1) := by decide +kernel
theorem dX11_liars_1 : decode cX11_liars 1 = .ok (.getfield 10, 3) := by decide +kernel
theorem dX11_liars_4 : decode cX11_liars 4 = .ok (.invokevirtual 87, 3) := by decide +kernel
theorem dX11_liars_7 : decode cX11_liars 7 = .ok (.istore_n 2, 1) := by decide +kernel
theorem dX11_liars_8 : decode cX11_liars 8 = .ok (.aload_n 0, 1) := by decide +kernel
theorem dX11_liars_9 : decode cX11_liars 9 = .ok (.iload_n 2, 1) := by decide +kernel
theorem dX11_liars_10 : decode cX11_liars 10 = .ok (.invokevirtual 290, 3) := by decide +kernel
theorem dX11_liars_13 : decode cX11_liars 13 = .ok (.aload_n 0, 1) := by decide +kernel
theorem dX11_liars_14 : decode cX11_liars 14 = .ok (.getfield 72, 3) := by decide +kernel
theorem dX11_liars_17 : decode cX11_liars 17 = .ok (.aload_n 0, 1) := by decide +kernel
theorem dX11_liars_18 : decode cX11_liars 18 = .ok (.getfield 10, 3) := by decide +kernel
theorem dX11_liars_21 : decode cX11_liars 21 = .ok (.iload_n 2, 1) := by decide +kernel
theorem dX11_liars_22 : decode cX11_liars 22 = .ok (.aload_n 0, 1) := by decide +kernel
theorem dX11_liars_23 : decode cX11_liars 23 = .ok (.getfield 19, 3) := by decide +kernel
theorem dX11_liars_26 : decode cX11_liars 26 = .ok (.getfield 293, 3) := by decide +kernel
theorem dX11_liars_29 : decode cX11_liars 29 = .ok (.invokevirtual 296, 3) := by decide +kernel
theorem dX11_liars_32 : decode cX11_liars 32 = .ok (.iload_n 1, 1) := by decide +kernel
theorem dX11_liars_33 : decode cX11_liars 33 = .ok (.ifCond .eq 13, 3) := by decide +kernel
theorem dX11_liars_36 : decode cX11_liars 36 = .ok (.aload_n 0, 1) := by decide +kernel
theorem dX11_liars_37 : decode cX11_liars 37 = .ok (.getfield 72, 3) := by decide +kernel
theorem dX11_liars_40 : decode cX11_liars 40 = .ok (.invokevirtual 300, 3) := by decide +kernel
theorem dX11_liars_43 : decode cX11_liars 43 = .ok (.goto 10, 3) := by decide +kernel
theorem dX11_liars_46 : decode cX11_liars 46 = .ok (.aload_n 0, 1) := by decide +kernel
theorem dX11_liars_47 : decode cX11_liars 47 = .ok (.getfield 72, 3) := by decide +kernel
theorem dX11_liars_50 : decode cX11_liars 50 = .ok (.getfield 303, 3) := by decide +kernel
theorem dX11_liars_53 : decode cX11_liars 53 = .ok (.ireturn, 1) := by decide +kernel
theorem dX11_ask_0 : decode cX11_ask 0 = .ok (.aload_n 0, 1) := by decide +kernel
theorem dX11_ask_1 : decode cX11_ask 1 = .ok (.getfield 10, 3) := by decide +kernel
theorem dX11_ask_4 : decode cX11_ask 4 = .ok (.invokevirtual 87, 3) := by decide +kernel
theorem dX11_ask_7 : decode cX11_ask 7 = .ok (.istore_n 1, 1) := by decide +kernel
theorem dX11_ask_8 : decode cX11_ask 8 = .ok (.aload_n 0, 1) := by decide +kernel
theorem dX11_ask_9 : decode cX11_ask 9 = .ok (.iload_n 1, 1) := by decide +kernel
theorem dX11_ask_10 : decode cX11_ask 10 = .ok (.invokevirtual 290, 3) := by decide +kernel
theorem dX11_ask_13 : decode cX11_ask 13 = .ok (.aload_n 0, 1) := by decide +kernel
theorem dX11_ask_14 : decode cX11_ask 14 = .ok (.getfield 72, 3) := by decide +kernel
theorem dX11_ask_17 : decode cX11_ask 17 = .ok (.aload_n 0, 1) := by decide +kernel
theorem dX11_ask_18 : decode cX11_ask 18 = .ok (.getfield 10, 3) := by decide +kernel
theorem dX11_ask_21 : decode cX11_ask 21 = .ok (.iload_n 1, 1) := by decide +kernel
theorem dX11_ask_22 : decode cX11_ask 22 = .ok (.aload_n 0, 1) := by decide +kernel
theorem dX11_ask_23 : decode cX11_ask 23 = .ok (.getfield 19, 3) := by decide +kernel
theorem dX11_ask_26 : decode cX11_ask 26 = .ok (.getfield 293, 3) := by decide +kernel
theorem dX11_ask_29 : decode cX11_ask 29 = .ok (.invokevirtual 296, 3) := by decide +kernel
theorem dX11_ask_32 : decode cX11_ask 32 = .ok (.aload_n 0, 1) := by decide +kernel
theorem dX11_ask_33 : decode cX11_ask 33 = .ok (.getfield 72, 3) := by decide +kernel
theorem dX11_ask_36 : decode cX11_ask 36 = .ok (.invokevirtual 306, 3) := by decide +kernel
theorem dX11_ask_39 : decode cX11_ask 39 = .ok (.ireturn, 1) := by decide +kernel
theorem dX11_word_0 : decode cX11_word 0 = .ok (.aload_n 0, 1) := by decide +kernel
theorem dX11_word_1 : decode cX11_word 1 = .ok (.iload_n 1, 1) := by decide +kernel
theorem dX11_word_2 : decode cX11_word 2 = .ok (.invokevirtual 138, 3) := by decide +kernel
theorem dX11_word_5 : decode cX11_word 5 = .ok (.aload_n 0, 1) := by decide +kernel
theorem dX11_word_6 : decode cX11_word 6 = .ok (.getfield 19, 3) := by decide +kernel
theorem dX11_word_9 : decode cX11_word 9 = .ok (.iload_n 1, 1) := by decide +kernel
theorem dX11_word_10 : decode cX11_word 10 = .ok (.invokestatic 309, 3) := by decide +kernel
theorem dX11_word_13 : decode cX11_word 13 = .ok (.ireturn, 1) := by decide +kernel
theorem dX11_steps_0 : decode cX11_steps 0 = .ok (.aload_n 0, 1) := by decide +kernel
theorem dX11_steps_1 : decode cX11_steps 1 = .ok (.iload_n 1, 1) := by decide +kernel
theorem dX11_steps_2 : decode cX11_steps 2 = .ok (.iload_n 2, 1) := by decide +kernel
theorem dX11_steps_3 : decode cX11_steps 3 = .ok (.invokevirtual 176, 3) := by decide +kernel
theorem dX11_steps_6 : decode cX11_steps 6 = .ok (.aload_n 0, 1) := by decide +kernel
theorem dX11_steps_7 : decode cX11_steps 7 = .ok (.getfield 19, 3) := by decide +kernel
theorem dX11_steps_10 : decode cX11_steps 10 = .ok (.iload_n 1, 1) := by decide +kernel
theorem dX11_steps_11 : decode cX11_steps 11 = .ok (.iload_n 2, 1) := by decide +kernel
theorem dX11_steps_12 : decode cX11_steps 12 = .ok (.invokestatic 315, 3) := by decide +kernel
theorem dX11_steps_15 : decode cX11_steps 15 = .ok (.ireturn, 1) := by decide +kernel
theorem dX11_circles_0 : decode cX11_circles 0 = .ok (.aload_n 0, 1) := by decide +kernel
theorem dX11_circles_1 : decode cX11_circles 1 = .ok (.getfield 19, 3) := by decide +kernel
theorem dX11_circles_4 : decode cX11_circles 4 = .ok (.invokestatic 319, 3) := by decide +kernel
theorem dX11_circles_7 : decode cX11_circles 7 = .ok (.ireturn, 1) := by decide +kernel
theorem dX11_hermits_0 : decode cX11_hermits 0 = .ok (.aload_n 0, 1) := by decide +kernel
theorem dX11_hermits_1 : decode cX11_hermits 1 = .ok (.getfield 19, 3) := by decide +kernel
theorem dX11_hermits_4 : decode cX11_hermits 4 = .ok (.invokestatic 323, 3) := by decide +kernel
theorem dX11_hermits_7 : decode cX11_hermits 7 = .ok (.ireturn, 1) := by decide +kernel
theorem dX11_rests_0 : decode cX11_rests 0 = .ok (.aload_n 0, 1) := by decide +kernel
theorem dX11_rests_1 : decode cX11_rests 1 = .ok (.iload_n 1, 1) := by decide +kernel
theorem dX11_rests_2 : decode cX11_rests 2 = .ok (.iload_n 2, 1) := by decide +kernel
theorem dX11_rests_3 : decode cX11_rests 3 = .ok (.invokevirtual 176, 3) := by decide +kernel
theorem dX11_rests_6 : decode cX11_rests 6 = .ok (.aload_n 0, 1) := by decide +kernel
theorem dX11_rests_7 : decode cX11_rests 7 = .ok (.getfield 19, 3) := by decide +kernel
theorem dX11_rests_10 : decode cX11_rests 10 = .ok (.iload_n 1, 1) := by decide +kernel
theorem dX11_rests_11 : decode cX11_rests 11 = .ok (.iload_n 2, 1) := by decide +kernel
theorem dX11_rests_12 : decode cX11_rests 12 = .ok (.invokevirtual 180, 3) := by decide +kernel
theorem dX11_rests_15 : decode cX11_rests 15 = .ok (.invokestatic 326, 3) := by decide +kernel
theorem dX11_rests_18 : decode cX11_rests 18 = .ok (.ireturn, 1) := by decide +kernel
theorem dX11_richest_0 : decode cX11_richest 0 = .ok (.iconst (-1), 1) := by decide +kernel
theorem dX11_richest_1 : decode cX11_richest 1 = .ok (.istore_n 1, 1) := by decide +kernel
theorem dX11_richest_2 : decode cX11_richest 2 = .ok (.iconst 0, 1) := by decide +kernel
theorem dX11_richest_3 : decode cX11_richest 3 = .ok (.istore_n 2, 1) := by decide +kernel
theorem dX11_richest_4 : decode cX11_richest 4 = .ok (.iload_n 2, 1) := by decide +kernel
theorem dX11_richest_5 : decode cX11_richest 5 = .ok (.aload_n 0, 1) := by decide +kernel
theorem dX11_richest_6 : decode cX11_richest 6 = .ok (.getfield 19, 3) := by decide +kernel
theorem dX11_richest_9 : decode cX11_richest 9 = .ok (.getfield 293, 3) := by decide +kernel
theorem dX11_richest_12 : decode cX11_richest 12 = .ok (.if_icmp .ge 35, 3) := by decide +kernel
theorem dX11_richest_15 : decode cX11_richest 15 = .ok (.iload_n 1, 1) := by decide +kernel
theorem dX11_richest_16 : decode cX11_richest 16 = .ok (.iconst (-1), 1) := by decide +kernel
theorem dX11_richest_17 : decode cX11_richest 17 = .ok (.if_icmp .eq 22, 3) := by decide +kernel
theorem dX11_richest_20 : decode cX11_richest 20 = .ok (.aload_n 0, 1) := by decide +kernel
theorem dX11_richest_21 : decode cX11_richest 21 = .ok (.getfield 19, 3) := by decide +kernel
theorem dX11_richest_24 : decode cX11_richest 24 = .ok (.iload_n 2, 1) := by decide +kernel
theorem dX11_richest_25 : decode cX11_richest 25 = .ok (.invokevirtual 165, 3) := by decide +kernel
theorem dX11_richest_28 : decode cX11_richest 28 = .ok (.aload_n 0, 1) := by decide +kernel
theorem dX11_richest_29 : decode cX11_richest 29 = .ok (.getfield 19, 3) := by decide +kernel
theorem dX11_richest_32 : decode cX11_richest 32 = .ok (.iload_n 1, 1) := by decide +kernel
theorem dX11_richest_33 : decode cX11_richest 33 = .ok (.invokevirtual 165, 3) := by decide +kernel
theorem dX11_richest_36 : decode cX11_richest 36 = .ok (.if_icmp .le 5, 3) := by decide +kernel
theorem dX11_richest_39 : decode cX11_richest 39 = .ok (.iload_n 2, 1) := by decide +kernel
theorem dX11_richest_40 : decode cX11_richest 40 = .ok (.istore_n 1, 1) := by decide +kernel
theorem dX11_richest_41 : decode cX11_richest 41 = .ok (.iinc 2 1, 3) := by decide +kernel
theorem dX11_richest_44 : decode cX11_richest 44 = .ok (.goto (-40), 3) := by decide +kernel
theorem dX11_richest_47 : decode cX11_richest 47 = .ok (.iload_n 1, 1) := by decide +kernel
theorem dX11_richest_48 : decode cX11_richest 48 = .ok (.ireturn, 1) := by decide +kernel
theorem dX11_firmest_0 : decode cX11_firmest 0 = .ok (.iconst (-1), 1) := by decide +kernel
theorem dX11_firmest_1 : decode cX11_firmest 1 = .ok (.istore_n 1, 1) := by decide +kernel
theorem dX11_firmest_2 : decode cX11_firmest 2 = .ok (.iconst 0, 1) := by decide +kernel
theorem dX11_firmest_3 : decode cX11_firmest 3 = .ok (.istore_n 2, 1) := by decide +kernel
theorem dX11_firmest_4 : decode cX11_firmest 4 = .ok (.iload_n 2, 1) := by decide +kernel
theorem dX11_firmest_5 : decode cX11_firmest 5 = .ok (.aload_n 0, 1) := by decide +kernel
theorem dX11_firmest_6 : decode cX11_firmest 6 = .ok (.getfield 19, 3) := by decide +kernel
theorem dX11_firmest_9 : decode cX11_firmest 9 = .ok (.getfield 293, 3) := by decide +kernel
theorem dX11_firmest_12 : decode cX11_firmest 12 = .ok (.if_icmp .ge 48, 3) := by decide +kernel
theorem dX11_firmest_15 : decode cX11_firmest 15 = .ok (.aload_n 0, 1) := by decide +kernel
theorem dX11_firmest_16 : decode cX11_firmest 16 = .ok (.getfield 19, 3) := by decide +kernel
theorem dX11_firmest_19 : decode cX11_firmest 19 = .ok (.iload_n 2, 1) := by decide +kernel
theorem dX11_firmest_20 : decode cX11_firmest 20 = .ok (.invokevirtual 329, 3) := by decide +kernel
theorem dX11_firmest_23 : decode cX11_firmest 23 = .ok (.ifCond .eq 31, 3) := by decide +kernel
theorem dX11_firmest_26 : decode cX11_firmest 26 = .ok (.iload_n 1, 1) := by decide +kernel
theorem dX11_firmest_27 : decode cX11_firmest 27 = .ok (.iconst (-1), 1) := by decide +kernel
theorem dX11_firmest_28 : decode cX11_firmest 28 = .ok (.if_icmp .eq 24, 3) := by decide +kernel
theorem dX11_firmest_31 : decode cX11_firmest 31 = .ok (.aload_n 0, 1) := by decide +kernel
theorem dX11_firmest_32 : decode cX11_firmest 32 = .ok (.getfield 19, 3) := by decide +kernel
theorem dX11_firmest_35 : decode cX11_firmest 35 = .ok (.getfield 141, 3) := by decide +kernel
theorem dX11_firmest_38 : decode cX11_firmest 38 = .ok (.iload_n 2, 1) := by decide +kernel
theorem dX11_firmest_39 : decode cX11_firmest 39 = .ok (.iaload, 1) := by decide +kernel
theorem dX11_firmest_40 : decode cX11_firmest 40 = .ok (.aload_n 0, 1) := by decide +kernel
theorem dX11_firmest_41 : decode cX11_firmest 41 = .ok (.getfield 19, 3) := by decide +kernel
theorem dX11_firmest_44 : decode cX11_firmest 44 = .ok (.getfield 141, 3) := by decide +kernel
theorem dX11_firmest_47 : decode cX11_firmest 47 = .ok (.iload_n 1, 1) := by decide +kernel
theorem dX11_firmest_48 : decode cX11_firmest 48 = .ok (.iaload, 1) := by decide +kernel
theorem dX11_firmest_49 : decode cX11_firmest 49 = .ok (.if_icmp .le 5, 3) := by decide +kernel
theorem dX11_firmest_52 : decode cX11_firmest 52 = .ok (.iload_n 2, 1) := by decide +kernel
theorem dX11_firmest_53 : decode cX11_firmest 53 = .ok (.istore_n 1, 1) := by decide +kernel
theorem dX11_firmest_54 : decode cX11_firmest 54 = .ok (.iinc 2 1, 3) := by decide +kernel
theorem dX11_firmest_57 : decode cX11_firmest 57 = .ok (.goto (-53), 3) := by decide +kernel
theorem dX11_firmest_60 : decode cX11_firmest 60 = .ok (.iload_n 1, 1) := by decide +kernel
theorem dX11_firmest_61 : decode cX11_firmest 61 = .ok (.ireturn, 1) := by decide +kernel
theorem dX11_last_0 : decode cX11_last 0 = .ok (.aload_n 0, 1) := by decide +kernel
theorem dX11_last_1 : decode cX11_last 1 = .ok (.iload_n 1, 1) := by decide +kernel
theorem dX11_last_2 : decode cX11_last 2 = .ok (.invokevirtual 184, 3) := by decide +kernel
theorem dX11_last_5 : decode cX11_last 5 = .ok (.aload_n 0, 1) := by decide +kernel
theorem dX11_last_6 : decode cX11_last 6 = .ok (.getfield 65, 3) := by decide +kernel
theorem dX11_last_9 : decode cX11_last 9 = .ok (.iload_n 1, 1) := by decide +kernel
theorem dX11_last_10 : decode cX11_last 10 = .ok (.invokevirtual 333, 3) := by decide +kernel
theorem dX11_last_13 : decode cX11_last 13 = .ok (.ireturn, 1) := by decide +kernel
theorem dX11_home_0 : decode cX11_home 0 = .ok (.aload_n 0, 1) := by decide +kernel
theorem dX11_home_1 : decode cX11_home 1 = .ok (.getfield 19, 3) := by decide +kernel
theorem dX11_home_4 : decode cX11_home 4 = .ok (.invokevirtual 336, 3) := by decide +kernel
theorem dX11_home_7 : decode cX11_home 7 = .ok (.ireturn, 1) := by decide +kernel
theorem dX11_trial_0 : decode cX11_trial 0 = .ok (.aload_n 0, 1) := by decide +kernel
theorem dX11_trial_1 : decode cX11_trial 1 = .ok (.iload_n 1, 1) := by decide +kernel
theorem dX11_trial_2 : decode cX11_trial 2 = .ok (.iconst 0, 1) := by decide +kernel
theorem dX11_trial_3 : decode cX11_trial 3 = .ok (.bipush 60, 2) := by decide +kernel
theorem dX11_trial_5 : decode cX11_trial 5 = .ok (.invokevirtual 214, 3) := by decide +kernel
theorem dX11_trial_8 : decode cX11_trial 8 = .ok (.aload_n 0, 1) := by decide +kernel
theorem dX11_trial_9 : decode cX11_trial 9 = .ok (.getfield 65, 3) := by decide +kernel
theorem dX11_trial_12 : decode cX11_trial 12 = .ok (.aload_n 0, 1) := by decide +kernel
theorem dX11_trial_13 : decode cX11_trial 13 = .ok (.getfield 19, 3) := by decide +kernel
theorem dX11_trial_16 : decode cX11_trial 16 = .ok (.getfield 339, 3) := by decide +kernel
theorem dX11_trial_19 : decode cX11_trial 19 = .ok (.iload_n 1, 1) := by decide +kernel
theorem dX11_trial_20 : decode cX11_trial 20 = .ok (.invokevirtual 342, 3) := by decide +kernel
theorem dX11_trial_23 : decode cX11_trial 23 = .ok (.istore_n 3, 1) := by decide +kernel
theorem dX11_trial_24 : decode cX11_trial 24 = .ok (.iload_n 2, 1) := by decide +kernel
theorem dX11_trial_25 : decode cX11_trial 25 = .ok (.ifCond .eq 16, 3) := by decide +kernel
theorem dX11_trial_28 : decode cX11_trial 28 = .ok (.aload_n 0, 1) := by decide +kernel
theorem dX11_trial_29 : decode cX11_trial 29 = .ok (.getfield 65, 3) := by decide +kernel
theorem dX11_trial_32 : decode cX11_trial 32 = .ok (.getfield 247, 3) := by decide +kernel
theorem dX11_trial_35 : decode cX11_trial 35 = .ok (.getfield 231, 3) := by decide +kernel
theorem dX11_trial_38 : decode cX11_trial 38 = .ok (.goto 4, 3) := by decide +kernel
theorem dX11_trial_41 : decode cX11_trial 41 = .ok (.iload_n 3, 1) := by decide +kernel
theorem dX11_trial_42 : decode cX11_trial 42 = .ok (.ireturn, 1) := by decide +kernel
theorem dX11_span_0 : decode cX11_span 0 = .ok (.aload_n 0, 1) := by decide +kernel
theorem dX11_span_1 : decode cX11_span 1 = .ok (.iload_n 1, 1) := by decide +kernel
theorem dX11_span_2 : decode cX11_span 2 = .ok (.iconst 0, 1) := by decide +kernel
theorem dX11_span_3 : decode cX11_span 3 = .ok (.bipush 60, 2) := by decide +kernel
theorem dX11_span_5 : decode cX11_span 5 = .ok (.invokevirtual 214, 3) := by decide +kernel
theorem dX11_span_8 : decode cX11_span 8 = .ok (.aload_n 0, 1) := by decide +kernel
theorem dX11_span_9 : decode cX11_span 9 = .ok (.getfield 65, 3) := by decide +kernel
theorem dX11_span_12 : decode cX11_span 12 = .ok (.iload_n 1, 1) := by decide +kernel
theorem dX11_span_13 : decode cX11_span 13 = .ok (.iload_n 2, 1) := by decide +kernel
theorem dX11_span_14 : decode cX11_span 14 = .ok (.invokevirtual 345, 3) := by decide +kernel
theorem dX11_span_17 : decode cX11_span 17 = .ok (.ireturn, 1) := by decide +kernel
theorem dX11_led_0 : decode cX11_led 0 = .ok (.aload_n 0, 1) := by decide +kernel
theorem dX11_led_1 : decode cX11_led 1 = .ok (.iload_n 1, 1) := by decide +kernel
theorem dX11_led_2 : decode cX11_led 2 = .ok (.invokevirtual 184, 3) := by decide +kernel
theorem dX11_led_5 : decode cX11_led 5 = .ok (.iload_n 2, 1) := by decide +kernel
theorem dX11_led_6 : decode cX11_led 6 = .ok (.ifCond .eq 14, 3) := by decide +kernel
theorem dX11_led_9 : decode cX11_led 9 = .ok (.aload_n 0, 1) := by decide +kernel
theorem dX11_led_10 : decode cX11_led 10 = .ok (.getfield 33, 3) := by decide +kernel
theorem dX11_led_13 : decode cX11_led 13 = .ok (.iload_n 1, 1) := by decide +kernel
theorem dX11_led_14 : decode cX11_led 14 = .ok (.invokevirtual 348, 3) := by decide +kernel
theorem dX11_led_17 : decode cX11_led 17 = .ok (.goto 11, 3) := by decide +kernel
theorem dX11_led_20 : decode cX11_led 20 = .ok (.aload_n 0, 1) := by decide +kernel
theorem dX11_led_21 : decode cX11_led 21 = .ok (.getfield 33, 3) := by decide +kernel
theorem dX11_led_24 : decode cX11_led 24 = .ok (.iload_n 1, 1) := by decide +kernel
theorem dX11_led_25 : decode cX11_led 25 = .ok (.invokevirtual 351, 3) := by decide +kernel
theorem dX11_led_28 : decode cX11_led 28 = .ok (.ireturn, 1) := by decide +kernel
theorem dX11_log_0 : decode cX11_log 0 = .ok (.iload_n 2, 1) := by decide +kernel
theorem dX11_log_1 : decode cX11_log 1 = .ok (.ifCond .lt 8, 3) := by decide +kernel
theorem dX11_log_4 : decode cX11_log 4 = .ok (.iload_n 2, 1) := by decide +kernel
theorem dX11_log_5 : decode cX11_log 5 = .ok (.iconst 4, 1) := by decide +kernel
theorem dX11_log_6 : decode cX11_log 6 = .ok (.if_icmp .lt 14, 3) := by decide +kernel
theorem dX11_log_9 : decode cX11_log 9 = .ok (.new 171, 3) := by decide +kernel
theorem dX11_log_12 : decode cX11_log 12 = .ok (.dup, 1) := by decide +kernel
theorem dX11_log_13 : decode cX11_log 13 = .ok (.ldc_w 354, 3) := by decide +kernel
theorem dX11_log_16 : decode cX11_log 16 = .ok (.invokespecial 175, 3) := by decide +kernel
theorem dX11_log_19 : decode cX11_log 19 = .ok (.athrow, 1) := by decide +kernel
theorem dX11_log_20 : decode cX11_log 20 = .ok (.aload_n 0, 1) := by decide +kernel
theorem dX11_log_21 : decode cX11_log 21 = .ok (.getfield 33, 3) := by decide +kernel
theorem dX11_log_24 : decode cX11_log 24 = .ok (.iload_n 1, 1) := by decide +kernel
theorem dX11_log_25 : decode cX11_log 25 = .ok (.iload_n 2, 1) := by decide +kernel
theorem dX11_log_26 : decode cX11_log 26 = .ok (.invokevirtual 356, 3) := by decide +kernel
theorem dX11_log_29 : decode cX11_log 29 = .ok (.ireturn, 1) := by decide +kernel
theorem dX11_seed_0 : decode cX11_seed 0 = .ok (.aload_n 0, 1) := by decide +kernel
theorem dX11_seed_1 : decode cX11_seed 1 = .ok (.getfield 19, 3) := by decide +kernel
theorem dX11_seed_4 : decode cX11_seed 4 = .ok (.getfield 339, 3) := by decide +kernel
theorem dX11_seed_7 : decode cX11_seed 7 = .ok (.istore_n 2, 1) := by decide +kernel
theorem dX11_seed_8 : decode cX11_seed 8 = .ok (.aload_n 0, 1) := by decide +kernel
theorem dX11_seed_9 : decode cX11_seed 9 = .ok (.getfield 19, 3) := by decide +kernel
theorem dX11_seed_12 : decode cX11_seed 12 = .ok (.iload_n 1, 1) := by decide +kernel
theorem dX11_seed_13 : decode cX11_seed 13 = .ok (.putfield 339, 3) := by decide +kernel
theorem dX11_seed_16 : decode cX11_seed 16 = .ok (.iload_n 2, 1) := by decide +kernel
theorem dX11_seed_17 : decode cX11_seed 17 = .ok (.ireturn, 1) := by decide +kernel
theorem dX11_undo_0 : decode cX11_undo 0 = .ok (.aload_n 0, 1) := by decide +kernel
theorem dX11_undo_1 : decode cX11_undo 1 = .ok (.getfield 56, 3) := by decide +kernel
theorem dX11_undo_4 : decode cX11_undo 4 = .ok (.aload_n 0, 1) := by decide +kernel
theorem dX11_undo_5 : decode cX11_undo 5 = .ok (.getfield 19, 3) := by decide +kernel
theorem dX11_undo_8 : decode cX11_undo 8 = .ok (.aload_n 0, 1) := by decide +kernel
theorem dX11_undo_9 : decode cX11_undo 9 = .ok (.getfield 33, 3) := by decide +kernel
theorem dX11_undo_12 : decode cX11_undo 12 = .ok (.invokevirtual 359, 3) := by decide +kernel
theorem dX11_undo_15 : decode cX11_undo 15 = .ok (.ireturn, 1) := by decide +kernel
theorem dX11_image_0 : decode cX11_image 0 = .ok (.aload_n 0, 1) := by decide +kernel
theorem dX11_image_1 : decode cX11_image 1 = .ok (.getfield 56, 3) := by decide +kernel
theorem dX11_image_4 : decode cX11_image 4 = .ok (.aload_n 0, 1) := by decide +kernel
theorem dX11_image_5 : decode cX11_image 5 = .ok (.getfield 19, 3) := by decide +kernel
theorem dX11_image_8 : decode cX11_image 8 = .ok (.aload_n 0, 1) := by decide +kernel
theorem dX11_image_9 : decode cX11_image 9 = .ok (.getfield 26, 3) := by decide +kernel
theorem dX11_image_12 : decode cX11_image 12 = .ok (.aload_n 0, 1) := by decide +kernel
theorem dX11_image_13 : decode cX11_image 13 = .ok (.getfield 33, 3) := by decide +kernel
theorem dX11_image_16 : decode cX11_image 16 = .ok (.invokevirtual 363, 3) := by decide +kernel
theorem dX11_image_19 : decode cX11_image 19 = .ok (.return_, 1) := by decide +kernel
theorem dX11_back_0 : decode cX11_back 0 = .ok (.aload_n 0, 1) := by decide +kernel
theorem dX11_back_1 : decode cX11_back 1 = .ok (.getfield 56, 3) := by decide +kernel
theorem dX11_back_4 : decode cX11_back 4 = .ok (.aload_n 0, 1) := by decide +kernel
theorem dX11_back_5 : decode cX11_back 5 = .ok (.getfield 19, 3) := by decide +kernel
theorem dX11_back_8 : decode cX11_back 8 = .ok (.aload_n 0, 1) := by decide +kernel
theorem dX11_back_9 : decode cX11_back 9 = .ok (.getfield 26, 3) := by decide +kernel
theorem dX11_back_12 : decode cX11_back 12 = .ok (.aload_n 0, 1) := by decide +kernel
theorem dX11_back_13 : decode cX11_back 13 = .ok (.getfield 33, 3) := by decide +kernel
theorem dX11_back_16 : decode cX11_back 16 = .ok (.invokevirtual 367, 3) := by decide +kernel
theorem dX11_back_19 : decode cX11_back 19 = .ok (.ireturn, 1) := by decide +kernel
theorem dX11_count_0 : decode cX11_count 0 = .ok (.iload_n 1, 1) := by decide +kernel
theorem dX11_count_1 : decode cX11_count 1 = .ok (.tableswitch 173 0 12 #[67, 75, 83, 91, 99, 107, 115, 123, 131, 140, 149, 157, 165], 67) := by decide +kernel
theorem dX11_count_68 : decode cX11_count 68 = .ok (.aload_n 0, 1) := by decide +kernel
theorem dX11_count_69 : decode cX11_count 69 = .ok (.getfield 19, 3) := by decide +kernel
theorem dX11_count_72 : decode cX11_count 72 = .ok (.getfield 293, 3) := by decide +kernel
theorem dX11_count_75 : decode cX11_count 75 = .ok (.ireturn, 1) := by decide +kernel
theorem dX11_count_76 : decode cX11_count 76 = .ok (.aload_n 0, 1) := by decide +kernel
theorem dX11_count_77 : decode cX11_count 77 = .ok (.getfield 19, 3) := by decide +kernel
theorem dX11_count_80 : decode cX11_count 80 = .ok (.getfield 371, 3) := by decide +kernel
theorem dX11_count_83 : decode cX11_count 83 = .ok (.ireturn, 1) := by decide +kernel
theorem dX11_count_84 : decode cX11_count 84 = .ok (.aload_n 0, 1) := by decide +kernel
theorem dX11_count_85 : decode cX11_count 85 = .ok (.getfield 19, 3) := by decide +kernel
theorem dX11_count_88 : decode cX11_count 88 = .ok (.getfield 113, 3) := by decide +kernel
theorem dX11_count_91 : decode cX11_count 91 = .ok (.ireturn, 1) := by decide +kernel
theorem dX11_count_92 : decode cX11_count 92 = .ok (.aload_n 0, 1) := by decide +kernel
theorem dX11_count_93 : decode cX11_count 93 = .ok (.getfield 26, 3) := by decide +kernel
theorem dX11_count_96 : decode cX11_count 96 = .ok (.getfield 132, 3) := by decide +kernel
theorem dX11_count_99 : decode cX11_count 99 = .ok (.ireturn, 1) := by decide +kernel
theorem dX11_count_100 : decode cX11_count 100 = .ok (.aload_n 0, 1) := by decide +kernel
theorem dX11_count_101 : decode cX11_count 101 = .ok (.getfield 19, 3) := by decide +kernel
theorem dX11_count_104 : decode cX11_count 104 = .ok (.getfield 225, 3) := by decide +kernel
theorem dX11_count_107 : decode cX11_count 107 = .ok (.ireturn, 1) := by decide +kernel
theorem dX11_count_108 : decode cX11_count 108 = .ok (.aload_n 0, 1) := by decide +kernel
theorem dX11_count_109 : decode cX11_count 109 = .ok (.getfield 19, 3) := by decide +kernel
theorem dX11_count_112 : decode cX11_count 112 = .ok (.getfield 231, 3) := by decide +kernel
theorem dX11_count_115 : decode cX11_count 115 = .ok (.ireturn, 1) := by decide +kernel
theorem dX11_count_116 : decode cX11_count 116 = .ok (.aload_n 0, 1) := by decide +kernel
theorem dX11_count_117 : decode cX11_count 117 = .ok (.getfield 19, 3) := by decide +kernel
theorem dX11_count_120 : decode cX11_count 120 = .ok (.invokevirtual 374, 3) := by decide +kernel
theorem dX11_count_123 : decode cX11_count 123 = .ok (.ireturn, 1) := by decide +kernel
theorem dX11_count_124 : decode cX11_count 124 = .ok (.aload_n 0, 1) := by decide +kernel
theorem dX11_count_125 : decode cX11_count 125 = .ok (.getfield 19, 3) := by decide +kernel
theorem dX11_count_128 : decode cX11_count 128 = .ok (.invokevirtual 377, 3) := by decide +kernel
theorem dX11_count_131 : decode cX11_count 131 = .ok (.ireturn, 1) := by decide +kernel
theorem dX11_count_132 : decode cX11_count 132 = .ok (.aload_n 0, 1) := by decide +kernel
theorem dX11_count_133 : decode cX11_count 133 = .ok (.getfield 19, 3) := by decide +kernel
theorem dX11_count_136 : decode cX11_count 136 = .ok (.iconst 1, 1) := by decide +kernel
theorem dX11_count_137 : decode cX11_count 137 = .ok (.invokevirtual 269, 3) := by decide +kernel
theorem dX11_count_140 : decode cX11_count 140 = .ok (.ireturn, 1) := by decide +kernel
theorem dX11_count_141 : decode cX11_count 141 = .ok (.aload_n 0, 1) := by decide +kernel
theorem dX11_count_142 : decode cX11_count 142 = .ok (.getfield 19, 3) := by decide +kernel
theorem dX11_count_145 : decode cX11_count 145 = .ok (.iconst 2, 1) := by decide +kernel
theorem dX11_count_146 : decode cX11_count 146 = .ok (.invokevirtual 269, 3) := by decide +kernel
theorem dX11_count_149 : decode cX11_count 149 = .ok (.ireturn, 1) := by decide +kernel
theorem dX11_count_150 : decode cX11_count 150 = .ok (.aload_n 0, 1) := by decide +kernel
theorem dX11_count_151 : decode cX11_count 151 = .ok (.getfield 19, 3) := by decide +kernel
theorem dX11_count_154 : decode cX11_count 154 = .ok (.invokevirtual 380, 3) := by decide +kernel
theorem dX11_count_157 : decode cX11_count 157 = .ok (.ireturn, 1) := by decide +kernel
theorem dX11_count_158 : decode cX11_count 158 = .ok (.aload_n 0, 1) := by decide +kernel
theorem dX11_count_159 : decode cX11_count 159 = .ok (.getfield 33, 3) := by decide +kernel
theorem dX11_count_162 : decode cX11_count 162 = .ok (.getfield 383, 3) := by decide +kernel
theorem dX11_count_165 : decode cX11_count 165 = .ok (.ireturn, 1) := by decide +kernel
theorem dX11_count_166 : decode cX11_count 166 = .ok (.aload_n 0, 1) := by decide +kernel
theorem dX11_count_167 : decode cX11_count 167 = .ok (.getfield 56, 3) := by decide +kernel
theorem dX11_count_170 : decode cX11_count 170 = .ok (.getfield 384, 3) := by decide +kernel
theorem dX11_count_173 : decode cX11_count 173 = .ok (.ireturn, 1) := by decide +kernel
theorem dX11_count_174 : decode cX11_count 174 = .ok (.iconst (-1), 1) := by decide +kernel
theorem dX11_count_175 : decode cX11_count 175 = .ok (.ireturn, 1) := by decide +kernel
theorem dX11_needPerson_0 : decode cX11_needPerson 0 = .ok (.iload_n 1, 1) := by decide +kernel
theorem dX11_needPerson_1 : decode cX11_needPerson 1 = .ok (.ifCond .lt 14, 3) := by decide +kernel
theorem dX11_needPerson_4 : decode cX11_needPerson 4 = .ok (.iload_n 1, 1) := by decide +kernel
theorem dX11_needPerson_5 : decode cX11_needPerson 5 = .ok (.aload_n 0, 1) := by decide +kernel
theorem dX11_needPerson_6 : decode cX11_needPerson 6 = .ok (.getfield 19, 3) := by decide +kernel
theorem dX11_needPerson_9 : decode cX11_needPerson 9 = .ok (.getfield 293, 3) := by decide +kernel
theorem dX11_needPerson_12 : decode cX11_needPerson 12 = .ok (.if_icmp .lt 14, 3) := by decide +kernel
theorem dX11_needPerson_15 : decode cX11_needPerson 15 = .ok (.new 387, 3) := by decide +kernel
theorem dX11_needPerson_18 : decode cX11_needPerson 18 = .ok (.dup, 1) := by decide +kernel
theorem dX11_needPerson_19 : decode cX11_needPerson 19 = .ok (.ldc_w 389, 3) := by decide +kernel
theorem dX11_needPerson_22 : decode cX11_needPerson 22 = .ok (.invokespecial 391, 3) := by decide +kernel
theorem dX11_needPerson_25 : decode cX11_needPerson 25 = .ok (.athrow, 1) := by decide +kernel
theorem dX11_needPerson_26 : decode cX11_needPerson 26 = .ok (.return_, 1) := by decide +kernel
theorem dX11_needTwo_0 : decode cX11_needTwo 0 = .ok (.aload_n 0, 1) := by decide +kernel
theorem dX11_needTwo_1 : decode cX11_needTwo 1 = .ok (.iload_n 1, 1) := by decide +kernel
theorem dX11_needTwo_2 : decode cX11_needTwo 2 = .ok (.invokevirtual 138, 3) := by decide +kernel
theorem dX11_needTwo_5 : decode cX11_needTwo 5 = .ok (.aload_n 0, 1) := by decide +kernel
theorem dX11_needTwo_6 : decode cX11_needTwo 6 = .ok (.iload_n 2, 1) := by decide +kernel
theorem dX11_needTwo_7 : decode cX11_needTwo 7 = .ok (.invokevirtual 138, 3) := by decide +kernel
theorem dX11_needTwo_10 : decode cX11_needTwo 10 = .ok (.iload_n 1, 1) := by decide +kernel
theorem dX11_needTwo_11 : decode cX11_needTwo 11 = .ok (.iload_n 2, 1) := by decide +kernel
theorem dX11_needTwo_12 : decode cX11_needTwo 12 = .ok (.if_icmp .ne 14, 3) := by decide +kernel
theorem dX11_needTwo_15 : decode cX11_needTwo 15 = .ok (.new 106, 3) := by decide +kernel
theorem dX11_needTwo_18 : decode cX11_needTwo 18 = .ok (.dup, 1) := by decide +kernel
theorem dX11_needTwo_19 : decode cX11_needTwo 19 = .ok (.ldc_w 392, 3) := by decide +kernel
theorem dX11_needTwo_22 : decode cX11_needTwo 22 = .ok (.invokespecial 110, 3) := by decide +kernel
theorem dX11_needTwo_25 : decode cX11_needTwo 25 = .ok (.athrow, 1) := by decide +kernel
theorem dX11_needTwo_26 : decode cX11_needTwo 26 = .ok (.return_, 1) := by decide +kernel
theorem dX11_needWork_0 : decode cX11_needWork 0 = .ok (.iload_n 1, 1) := by decide +kernel
theorem dX11_needWork_1 : decode cX11_needWork 1 = .ok (.ifCond .lt 14, 3) := by decide +kernel
theorem dX11_needWork_4 : decode cX11_needWork 4 = .ok (.iload_n 1, 1) := by decide +kernel
theorem dX11_needWork_5 : decode cX11_needWork 5 = .ok (.aload_n 0, 1) := by decide +kernel
theorem dX11_needWork_6 : decode cX11_needWork 6 = .ok (.getfield 19, 3) := by decide +kernel
theorem dX11_needWork_9 : decode cX11_needWork 9 = .ok (.getfield 371, 3) := by decide +kernel
theorem dX11_needWork_12 : decode cX11_needWork 12 = .ok (.if_icmp .lt 14, 3) := by decide +kernel
theorem dX11_needWork_15 : decode cX11_needWork 15 = .ok (.new 387, 3) := by decide +kernel
theorem dX11_needWork_18 : decode cX11_needWork 18 = .ok (.dup, 1) := by decide +kernel
theorem dX11_needWork_19 : decode cX11_needWork 19 = .ok (.ldc_w 394, 3) := by decide +kernel
theorem dX11_needWork_22 : decode cX11_needWork 22 = .ok (.invokespecial 391, 3) := by decide +kernel
theorem dX11_needWork_25 : decode cX11_needWork 25 = .ok (.athrow, 1) := by decide +kernel
theorem dX11_needWork_26 : decode cX11_needWork 26 = .ok (.return_, 1) := by decide +kernel
theorem dX11_needWithin_0 : decode cX11_needWithin 0 = .ok (.iload_n 1, 1) := by decide +kernel
theorem dX11_needWithin_1 : decode cX11_needWithin 1 = .ok (.iload_n 2, 1) := by decide +kernel
theorem dX11_needWithin_2 : decode cX11_needWithin 2 = .ok (.if_icmp .lt 8, 3) := by decide +kernel
theorem dX11_needWithin_5 : decode cX11_needWithin 5 = .ok (.iload_n 1, 1) := by decide +kernel
theorem dX11_needWithin_6 : decode cX11_needWithin 6 = .ok (.iload_n 3, 1) := by decide +kernel
theorem dX11_needWithin_7 : decode cX11_needWithin 7 = .ok (.if_icmp .le 14, 3) := by decide +kernel
theorem dX11_needWithin_10 : decode cX11_needWithin 10 = .ok (.new 106, 3) := by decide +kernel
theorem dX11_needWithin_13 : decode cX11_needWithin 13 = .ok (.dup, 1) := by decide +kernel
theorem dX11_needWithin_14 : decode cX11_needWithin 14 = .ok (.ldc_w 401, 3) := by decide +kernel
theorem dX11_needWithin_17 : decode cX11_needWithin 17 = .ok (.invokespecial 110, 3) := by decide +kernel
theorem dX11_needWithin_20 : decode cX11_needWithin 20 = .ok (.athrow, 1) := by decide +kernel
theorem dX11_needWithin_21 : decode cX11_needWithin 21 = .ok (.return_, 1) := by decide +kernel
theorem dX11_needTales_0 : decode cX11_needTales 0 = .ok (.aload_n 0, 1) := by decide +kernel
theorem dX11_needTales_1 : decode cX11_needTales 1 = .ok (.iload_n 2, 1) := by decide +kernel
theorem dX11_needTales_2 : decode cX11_needTales 2 = .ok (.iconst 0, 1) := by decide +kernel
theorem dX11_needTales_3 : decode cX11_needTales 3 = .ok (.bipush 100, 2) := by decide +kernel
theorem dX11_needTales_5 : decode cX11_needTales 5 = .ok (.invokevirtual 214, 3) := by decide +kernel
theorem dX11_needTales_8 : decode cX11_needTales 8 = .ok (.aload_n 0, 1) := by decide +kernel
theorem dX11_needTales_9 : decode cX11_needTales 9 = .ok (.iload_n 1, 1) := by decide +kernel
theorem dX11_needTales_10 : decode cX11_needTales 10 = .ok (.iconst 0, 1) := by decide +kernel
theorem dX11_needTales_11 : decode cX11_needTales 11 = .ok (.bipush 12, 2) := by decide +kernel
theorem dX11_needTales_13 : decode cX11_needTales 13 = .ok (.invokevirtual 214, 3) := by decide +kernel
theorem dX11_needTales_16 : decode cX11_needTales 16 = .ok (.aload_n 0, 1) := by decide +kernel
theorem dX11_needTales_17 : decode cX11_needTales 17 = .ok (.getfield 10, 3) := by decide +kernel
theorem dX11_needTales_20 : decode cX11_needTales 20 = .ok (.iload_n 1, 1) := by decide +kernel
theorem dX11_needTales_21 : decode cX11_needTales 21 = .ok (.invokevirtual 403, 3) := by decide +kernel
theorem dX11_needTales_24 : decode cX11_needTales 24 = .ok (.ifCond .ne 14, 3) := by decide +kernel
theorem dX11_needTales_27 : decode cX11_needTales 27 = .ok (.new 106, 3) := by decide +kernel
theorem dX11_needTales_30 : decode cX11_needTales 30 = .ok (.dup, 1) := by decide +kernel
theorem dX11_needTales_31 : decode cX11_needTales 31 = .ok (.ldc_w 406, 3) := by decide +kernel
theorem dX11_needTales_34 : decode cX11_needTales 34 = .ok (.invokespecial 110, 3) := by decide +kernel
theorem dX11_needTales_37 : decode cX11_needTales 37 = .ok (.athrow, 1) := by decide +kernel
theorem dX11_needTales_38 : decode cX11_needTales 38 = .ok (.return_, 1) := by decide +kernel
theorem dX11_needSaid_0 : decode cX11_needSaid 0 = .ok (.aload_n 0, 1) := by decide +kernel
theorem dX11_needSaid_1 : decode cX11_needSaid 1 = .ok (.iload_n 1, 1) := by decide +kernel
theorem dX11_needSaid_2 : decode cX11_needSaid 2 = .ok (.iconst 0, 1) := by decide +kernel
theorem dX11_needSaid_3 : decode cX11_needSaid 3 = .ok (.bipush 36, 2) := by decide +kernel
theorem dX11_needSaid_5 : decode cX11_needSaid 5 = .ok (.invokevirtual 214, 3) := by decide +kernel
theorem dX11_needSaid_8 : decode cX11_needSaid 8 = .ok (.aload_n 0, 1) := by decide +kernel
theorem dX11_needSaid_9 : decode cX11_needSaid 9 = .ok (.getfield 10, 3) := by decide +kernel
theorem dX11_needSaid_12 : decode cX11_needSaid 12 = .ok (.iload_n 1, 1) := by decide +kernel
theorem dX11_needSaid_13 : decode cX11_needSaid 13 = .ok (.aload_n 0, 1) := by decide +kernel
theorem dX11_needSaid_14 : decode cX11_needSaid 14 = .ok (.getfield 19, 3) := by decide +kernel
theorem dX11_needSaid_17 : decode cX11_needSaid 17 = .ok (.getfield 293, 3) := by decide +kernel
theorem dX11_needSaid_20 : decode cX11_needSaid 20 = .ok (.invokevirtual 408, 3) := by decide +kernel
theorem dX11_needSaid_23 : decode cX11_needSaid 23 = .ok (.ifCond .ne 14, 3) := by decide +kernel
theorem dX11_needSaid_26 : decode cX11_needSaid 26 = .ok (.new 106, 3) := by decide +kernel
theorem dX11_needSaid_29 : decode cX11_needSaid 29 = .ok (.dup, 1) := by decide +kernel
theorem dX11_needSaid_30 : decode cX11_needSaid 30 = .ok (.ldc_w 412, 3) := by decide +kernel
theorem dX11_needSaid_33 : decode cX11_needSaid 33 = .ok (.invokespecial 110, 3) := by decide +kernel
theorem dX11_needSaid_36 : decode cX11_needSaid 36 = .ok (.athrow, 1) := by decide +kernel
theorem dX11_needSaid_37 : decode cX11_needSaid 37 = .ok (.return_, 1) := by decide +kernel
theorem dX12_init_0 : decode cX12_init 0 = .ok (.aload_n 0, 1) := by decide +kernel
theorem dX12_init_1 : decode cX12_init 1 = .ok (.invokespecial 1, 3) := by decide +kernel
theorem dX12_init_4 : decode cX12_init 4 = .ok (.aload_n 0, 1) := by decide +kernel
theorem dX12_init_5 : decode cX12_init 5 = .ok (.sipush 779, 3) := by decide +kernel
theorem dX12_init_8 : decode cX12_init 8 = .ok (.newarray .int, 2) := by decide +kernel
theorem dX12_init_10 : decode cX12_init 10 = .ok (.putfield 7, 3) := by decide +kernel
theorem dX12_init_13 : decode cX12_init 13 = .ok (.aload_n 0, 1) := by decide +kernel
theorem dX12_init_14 : decode cX12_init 14 = .ok (.sipush 779, 3) := by decide +kernel
theorem dX12_init_17 : decode cX12_init 17 = .ok (.newarray .int, 2) := by decide +kernel
theorem dX12_init_19 : decode cX12_init 19 = .ok (.putfield 13, 3) := by decide +kernel
theorem dX12_init_22 : decode cX12_init 22 = .ok (.aload_n 0, 1) := by decide +kernel
theorem dX12_init_23 : decode cX12_init 23 = .ok (.sipush 379, 3) := by decide +kernel
theorem dX12_init_26 : decode cX12_init 26 = .ok (.newarray .int, 2) := by decide +kernel
theorem dX12_init_28 : decode cX12_init 28 = .ok (.putfield 16, 3) := by decide +kernel
theorem dX12_init_31 : decode cX12_init 31 = .ok (.aload_n 0, 1) := by decide +kernel
theorem dX12_init_32 : decode cX12_init 32 = .ok (.sipush 4548, 3) := by decide +kernel
theorem dX12_init_35 : decode cX12_init 35 = .ok (.newarray .int, 2) := by decide +kernel
theorem dX12_init_37 : decode cX12_init 37 = .ok (.putfield 19, 3) := by decide +kernel
theorem dX12_init_40 : decode cX12_init 40 = .ok (.aload_n 0, 1) := by decide +kernel
theorem dX12_init_41 : decode cX12_init 41 = .ok (.sipush 400, 3) := by decide +kernel
theorem dX12_init_44 : decode cX12_init 44 = .ok (.newarray .int, 2) := by decide +kernel
theorem dX12_init_46 : decode cX12_init 46 = .ok (.putfield 22, 3) := by decide +kernel
theorem dX12_init_49 : decode cX12_init 49 = .ok (.aload_n 0, 1) := by decide +kernel
theorem dX12_init_50 : decode cX12_init 50 = .ok (.iconst (-1), 1) := by decide +kernel
theorem dX12_init_51 : decode cX12_init 51 = .ok (.putfield 25, 3) := by decide +kernel
theorem dX12_init_54 : decode cX12_init 54 = .ok (.aload_n 0, 1) := by decide +kernel
theorem dX12_init_55 : decode cX12_init 55 = .ok (.bipush 6, 2) := by decide +kernel
theorem dX12_init_57 : decode cX12_init 57 = .ok (.newarray .int, 2) := by decide +kernel
theorem dX12_init_59 : decode cX12_init 59 = .ok (.putfield 29, 3) := by decide +kernel
theorem dX12_init_62 : decode cX12_init 62 = .ok (.aload_n 0, 1) := by decide +kernel
theorem dX12_init_63 : decode cX12_init 63 = .ok (.bipush 8, 2) := by decide +kernel
theorem dX12_init_65 : decode cX12_init 65 = .ok (.newarray .int, 2) := by decide +kernel
theorem dX12_init_67 : decode cX12_init 67 = .ok (.putfield 32, 3) := by decide +kernel
theorem dX12_init_70 : decode cX12_init 70 = .ok (.aload_n 0, 1) := by decide +kernel
theorem dX12_init_71 : decode cX12_init 71 = .ok (.sipush 256, 3) := by decide +kernel
theorem dX12_init_74 : decode cX12_init 74 = .ok (.newarray .boolean, 2) := by decide +kernel
theorem dX12_init_76 : decode cX12_init 76 = .ok (.putfield 35, 3) := by decide +kernel
theorem dX12_init_79 : decode cX12_init 79 = .ok (.aload_n 0, 1) := by decide +kernel
theorem dX12_init_80 : decode cX12_init 80 = .ok (.getfield 7, 3) := by decide +kernel
theorem dX12_init_83 : decode cX12_init 83 = .ok (.iconst 1, 1) := by decide +kernel
theorem dX12_init_84 : decode cX12_init 84 = .ok (.iconst (-1), 1) := by decide +kernel
theorem dX12_init_85 : decode cX12_init 85 = .ok (.iastore, 1) := by decide +kernel
theorem dX12_init_86 : decode cX12_init 86 = .ok (.aload_n 0, 1) := by decide +kernel
theorem dX12_init_87 : decode cX12_init 87 = .ok (.getfield 7, 3) := by decide +kernel
theorem dX12_init_90 : decode cX12_init 90 = .ok (.iconst 5, 1) := by decide +kernel
theorem dX12_init_91 : decode cX12_init 91 = .ok (.bipush 20, 2) := by decide +kernel
theorem dX12_init_93 : decode cX12_init 93 = .ok (.iastore, 1) := by decide +kernel
theorem dX12_init_94 : decode cX12_init 94 = .ok (.aload_n 0, 1) := by decide +kernel
theorem dX12_init_95 : decode cX12_init 95 = .ok (.getfield 7, 3) := by decide +kernel
theorem dX12_init_98 : decode cX12_init 98 = .ok (.bipush 6, 2) := by decide +kernel
theorem dX12_init_100 : decode cX12_init 100 = .ok (.bipush 6, 2) := by decide +kernel
theorem dX12_init_102 : decode cX12_init 102 = .ok (.iastore, 1) := by decide +kernel
theorem dX12_init_103 : decode cX12_init 103 = .ok (.aload_n 0, 1) := by decide +kernel
theorem dX12_init_104 : decode cX12_init 104 = .ok (.getfield 7, 3) := by decide +kernel
theorem dX12_init_107 : decode cX12_init 107 = .ok (.bipush 7, 2) := by decide +kernel
theorem dX12_init_109 : decode cX12_init 109 = .ok (.bipush 50, 2) := by decide +kernel
theorem dX12_init_111 : decode cX12_init 111 = .ok (.iastore, 1) := by decide +kernel
theorem dX12_init_112 : decode cX12_init 112 = .ok (.aload_n 0, 1) := by decide +kernel
theorem dX12_init_113 : decode cX12_init 113 = .ok (.getfield 7, 3) := by decide +kernel
theorem dX12_init_116 : decode cX12_init 116 = .ok (.bipush 10, 2) := by decide +kernel
theorem dX12_init_118 : decode cX12_init 118 = .ok (.iconst 1, 1) := by decide +kernel
theorem dX12_init_119 : decode cX12_init 119 = .ok (.iastore, 1) := by decide +kernel
theorem dX12_init_120 : decode cX12_init 120 = .ok (.return_, 1) := by decide +kernel
theorem dX12_thrown_0 : decode cX12_thrown 0 = .ok (.aload_n 0, 1) := by decide +kernel
theorem dX12_thrown_1 : decode cX12_thrown 1 = .ok (.getfield 39, 3) := by decide +kernel
theorem dX12_thrown_4 : decode cX12_thrown 4 = .ok (.ireturn, 1) := by decide +kernel
theorem dX12_isIn_0 : decode cX12_isIn 0 = .ok (.iload_n 0, 1) := by decide +kernel
theorem dX12_isIn_1 : decode cX12_isIn 1 = .ok (.iload_n 1, 1) := by decide +kernel
theorem dX12_isIn_2 : decode cX12_isIn 2 = .ok (.if_icmp .lt 12, 3) := by decide +kernel
theorem dX12_isIn_5 : decode cX12_isIn 5 = .ok (.iload_n 0, 1) := by decide +kernel
theorem dX12_isIn_6 : decode cX12_isIn 6 = .ok (.iload_n 2, 1) := by decide +kernel
theorem dX12_isIn_7 : decode cX12_isIn 7 = .ok (.if_icmp .gt 7, 3) := by decide +kernel
theorem dX12_isIn_10 : decode cX12_isIn 10 = .ok (.iconst 1, 1) := by decide +kernel
theorem dX12_isIn_11 : decode cX12_isIn 11 = .ok (.goto 4, 3) := by decide +kernel
theorem dX12_isIn_14 : decode cX12_isIn 14 = .ok (.iconst 0, 1) := by decide +kernel
theorem dX12_isIn_15 : decode cX12_isIn 15 = .ok (.ireturn, 1) := by decide +kernel
theorem dX12_lesser_0 : decode cX12_lesser 0 = .ok (.iload_n 0, 1) := by decide +kernel
theorem dX12_lesser_1 : decode cX12_lesser 1 = .ok (.iload_n 1, 1) := by decide +kernel
theorem dX12_lesser_2 : decode cX12_lesser 2 = .ok (.if_icmp .ge 7, 3) := by decide +kernel
theorem dX12_lesser_5 : decode cX12_lesser 5 = .ok (.iload_n 0, 1) := by decide +kernel
theorem dX12_lesser_6 : decode cX12_lesser 6 = .ok (.goto 4, 3) := by decide +kernel
theorem dX12_lesser_9 : decode cX12_lesser 9 = .ok (.iload_n 1, 1) := by decide +kernel
theorem dX12_lesser_10 : decode cX12_lesser 10 = .ok (.ireturn, 1) := by decide +kernel
theorem dX12_greater_0 : decode cX12_greater 0 = .ok (.iload_n 0, 1) := by decide +kernel
theorem dX12_greater_1 : decode cX12_greater 1 = .ok (.iload_n 1, 1) := by decide +kernel
theorem dX12_greater_2 : decode cX12_greater 2 = .ok (.if_icmp .le 7, 3) := by decide +kernel
theorem dX12_greater_5 : decode cX12_greater 5 = .ok (.iload_n 0, 1) := by decide +kernel
theorem dX12_greater_6 : decode cX12_greater 6 = .ok (.goto 4, 3) := by decide +kernel
theorem dX12_greater_9 : decode cX12_greater 9 = .ok (.iload_n 1, 1) := by decide +kernel
theorem dX12_greater_10 : decode cX12_greater 10 = .ok (.ireturn, 1) := by decide +kernel
theorem dX12_bits_0 : decode cX12_bits 0 = .ok (.iconst 0, 1) := by decide +kernel
theorem dX12_bits_1 : decode cX12_bits 1 = .ok (.istore_n 1, 1) := by decide +kernel
theorem dX12_bits_2 : decode cX12_bits 2 = .ok (.iconst 0, 1) := by decide +kernel
theorem dX12_bits_3 : decode cX12_bits 3 = .ok (.istore_n 2, 1) := by decide +kernel
theorem dX12_bits_4 : decode cX12_bits 4 = .ok (.iload_n 2, 1) := by decide +kernel
theorem dX12_bits_5 : decode cX12_bits 5 = .ok (.bipush 31, 2) := by decide +kernel
theorem dX12_bits_7 : decode cX12_bits 7 = .ok (.if_icmp .ge 17, 3) := by decide +kernel
theorem dX12_bits_10 : decode cX12_bits 10 = .ok (.iload_n 1, 1) := by decide +kernel
theorem dX12_bits_11 : decode cX12_bits 11 = .ok (.iload_n 0, 1) := by decide +kernel
theorem dX12_bits_12 : decode cX12_bits 12 = .ok (.iload_n 2, 1) := by decide +kernel
theorem dX12_bits_13 : decode cX12_bits 13 = .ok (.ishr, 1) := by decide +kernel
theorem dX12_bits_14 : decode cX12_bits 14 = .ok (.iconst 1, 1) := by decide +kernel
theorem dX12_bits_15 : decode cX12_bits 15 = .ok (.iand, 1) := by decide +kernel
theorem dX12_bits_16 : decode cX12_bits 16 = .ok (.iadd, 1) := by decide +kernel
theorem dX12_bits_17 : decode cX12_bits 17 = .ok (.istore_n 1, 1) := by decide +kernel
theorem dX12_bits_18 : decode cX12_bits 18 = .ok (.iinc 2 1, 3) := by decide +kernel
theorem dX12_bits_21 : decode cX12_bits 21 = .ok (.goto (-17), 3) := by decide +kernel
theorem dX12_bits_24 : decode cX12_bits 24 = .ok (.iload_n 1, 1) := by decide +kernel
theorem dX12_bits_25 : decode cX12_bits 25 = .ok (.ireturn, 1) := by decide +kernel
theorem dX12_isPerson_0 : decode cX12_isPerson 0 = .ok (.iload_n 1, 1) := by decide +kernel
theorem dX12_isPerson_1 : decode cX12_isPerson 1 = .ok (.iconst 0, 1) := by decide +kernel
theorem dX12_isPerson_2 : decode cX12_isPerson 2 = .ok (.aload_n 0, 1) := by decide +kernel
theorem dX12_isPerson_3 : decode cX12_isPerson 3 = .ok (.getfield 7, 3) := by decide +kernel
theorem dX12_isPerson_6 : decode cX12_isPerson 6 = .ok (.iconst 3, 1) := by decide +kernel
theorem dX12_isPerson_7 : decode cX12_isPerson 7 = .ok (.iaload, 1) := by decide +kernel
theorem dX12_isPerson_8 : decode cX12_isPerson 8 = .ok (.iconst 1, 1) := by decide +kernel
theorem dX12_isPerson_9 : decode cX12_isPerson 9 = .ok (.isub, 1) := by decide +kernel
theorem dX12_isPerson_10 : decode cX12_isPerson 10 = .ok (.invokestatic 42, 3) := by decide +kernel
theorem dX12_isPerson_13 : decode cX12_isPerson 13 = .ok (.ireturn, 1) := by decide +kernel
theorem dX12_isWork_0 : decode cX12_isWork 0 = .ok (.iload_n 1, 1) := by decide +kernel
theorem dX12_isWork_1 : decode cX12_isWork 1 = .ok (.iconst 0, 1) := by decide +kernel
theorem dX12_isWork_2 : decode cX12_isWork 2 = .ok (.aload_n 0, 1) := by decide +kernel
theorem dX12_isWork_3 : decode cX12_isWork 3 = .ok (.getfield 7, 3) := by decide +kernel
theorem dX12_isWork_6 : decode cX12_isWork 6 = .ok (.iconst 4, 1) := by decide +kernel
theorem dX12_isWork_7 : decode cX12_isWork 7 = .ok (.iaload, 1) := by decide +kernel
theorem dX12_isWork_8 : decode cX12_isWork 8 = .ok (.iconst 1, 1) := by decide +kernel
theorem dX12_isWork_9 : decode cX12_isWork 9 = .ok (.isub, 1) := by decide +kernel
theorem dX12_isWork_10 : decode cX12_isWork 10 = .ok (.invokestatic 42, 3) := by decide +kernel
theorem dX12_isWork_13 : decode cX12_isWork 13 = .ok (.ireturn, 1) := by decide +kernel
theorem dX12_hereOnes_0 : decode cX12_hereOnes 0 = .ok (.iconst 0, 1) := by decide +kernel
theorem dX12_hereOnes_1 : decode cX12_hereOnes 1 = .ok (.istore_n 1, 1) := by decide +kernel
theorem dX12_hereOnes_2 : decode cX12_hereOnes 2 = .ok (.iconst 0, 1) := by decide +kernel
theorem dX12_hereOnes_3 : decode cX12_hereOnes 3 = .ok (.istore_n 2, 1) := by decide +kernel
theorem dX12_hereOnes_4 : decode cX12_hereOnes 4 = .ok (.iload_n 2, 1) := by decide +kernel
theorem dX12_hereOnes_5 : decode cX12_hereOnes 5 = .ok (.aload_n 0, 1) := by decide +kernel
theorem dX12_hereOnes_6 : decode cX12_hereOnes 6 = .ok (.getfield 7, 3) := by decide +kernel
theorem dX12_hereOnes_9 : decode cX12_hereOnes 9 = .ok (.iconst 3, 1) := by decide +kernel
theorem dX12_hereOnes_10 : decode cX12_hereOnes 10 = .ok (.iaload, 1) := by decide +kernel
theorem dX12_hereOnes_11 : decode cX12_hereOnes 11 = .ok (.if_icmp .ge 27, 3) := by decide +kernel
theorem dX12_hereOnes_14 : decode cX12_hereOnes 14 = .ok (.iload_n 1, 1) := by decide +kernel
theorem dX12_hereOnes_15 : decode cX12_hereOnes 15 = .ok (.aload_n 0, 1) := by decide +kernel
theorem dX12_hereOnes_16 : decode cX12_hereOnes 16 = .ok (.iload_n 2, 1) := by decide +kernel
theorem dX12_hereOnes_17 : decode cX12_hereOnes 17 = .ok (.invokevirtual 50, 3) := by decide +kernel
theorem dX12_hereOnes_20 : decode cX12_hereOnes 20 = .ok (.ifCond .eq 9, 3) := by decide +kernel
theorem dX12_hereOnes_23 : decode cX12_hereOnes 23 = .ok (.iconst 1, 1) := by decide +kernel
theorem dX12_hereOnes_24 : decode cX12_hereOnes 24 = .ok (.iload_n 2, 1) := by decide +kernel
theorem dX12_hereOnes_25 : decode cX12_hereOnes 25 = .ok (.ishl, 1) := by decide +kernel
theorem dX12_hereOnes_26 : decode cX12_hereOnes 26 = .ok (.goto 4, 3) := by decide +kernel
theorem dX12_hereOnes_29 : decode cX12_hereOnes 29 = .ok (.iconst 0, 1) := by decide +kernel
theorem dX12_hereOnes_30 : decode cX12_hereOnes 30 = .ok (.ior, 1) := by decide +kernel
theorem dX12_hereOnes_31 : decode cX12_hereOnes 31 = .ok (.istore_n 1, 1) := by decide +kernel
theorem dX12_hereOnes_32 : decode cX12_hereOnes 32 = .ok (.iinc 2 1, 3) := by decide +kernel
theorem dX12_hereOnes_35 : decode cX12_hereOnes 35 = .ok (.goto (-31), 3) := by decide +kernel
theorem dX12_hereOnes_38 : decode cX12_hereOnes 38 = .ok (.iload_n 1, 1) := by decide +kernel
theorem dX12_hereOnes_39 : decode cX12_hereOnes 39 = .ok (.ireturn, 1) := by decide +kernel
theorem dX12_believed_0 : decode cX12_believed 0 = .ok (.iconst 0, 1) := by decide +kernel
theorem dX12_believed_1 : decode cX12_believed 1 = .ok (.istore_n 1, 1) := by decide +kernel
theorem dX12_believed_2 : decode cX12_believed 2 = .ok (.iconst 0, 1) := by decide +kernel
theorem dX12_believed_3 : decode cX12_believed 3 = .ok (.istore_n 2, 1) := by decide +kernel
theorem dX12_believed_4 : decode cX12_believed 4 = .ok (.iload_n 2, 1) := by decide +kernel
theorem dX12_believed_5 : decode cX12_believed 5 = .ok (.aload_n 0, 1) := by decide +kernel
theorem dX12_believed_6 : decode cX12_believed 6 = .ok (.getfield 7, 3) := by decide +kernel
theorem dX12_believed_9 : decode cX12_believed 9 = .ok (.iconst 3, 1) := by decide +kernel
theorem dX12_believed_10 : decode cX12_believed 10 = .ok (.iaload, 1) := by decide +kernel
theorem dX12_believed_11 : decode cX12_believed 11 = .ok (.if_icmp .ge 30, 3) := by decide +kernel
theorem dX12_believed_14 : decode cX12_believed 14 = .ok (.iload_n 1, 1) := by decide +kernel
theorem dX12_believed_15 : decode cX12_believed 15 = .ok (.aload_n 0, 1) := by decide +kernel
theorem dX12_believed_16 : decode cX12_believed 16 = .ok (.iload_n 2, 1) := by decide +kernel
theorem dX12_believed_17 : decode cX12_believed 17 = .ok (.invokevirtual 50, 3) := by decide +kernel
theorem dX12_believed_20 : decode cX12_believed 20 = .ok (.ifCond .eq 12, 3) := by decide +kernel
theorem dX12_believed_23 : decode cX12_believed 23 = .ok (.aload_n 0, 1) := by decide +kernel
theorem dX12_believed_24 : decode cX12_believed 24 = .ok (.iload_n 2, 1) := by decide +kernel
theorem dX12_believed_25 : decode cX12_believed 25 = .ok (.iconst 0, 1) := by decide +kernel
theorem dX12_believed_26 : decode cX12_believed 26 = .ok (.invokevirtual 46, 3) := by decide +kernel
theorem dX12_believed_29 : decode cX12_believed 29 = .ok (.goto 4, 3) := by decide +kernel
theorem dX12_believed_32 : decode cX12_believed 32 = .ok (.iconst 0, 1) := by decide +kernel
theorem dX12_believed_33 : decode cX12_believed 33 = .ok (.iadd, 1) := by decide +kernel
theorem dX12_believed_34 : decode cX12_believed 34 = .ok (.istore_n 1, 1) := by decide +kernel
theorem dX12_believed_35 : decode cX12_believed 35 = .ok (.iinc 2 1, 3) := by decide +kernel
theorem dX12_believed_38 : decode cX12_believed 38 = .ok (.goto (-34), 3) := by decide +kernel
theorem dX12_believed_41 : decode cX12_believed 41 = .ok (.iload_n 1, 1) := by decide +kernel
theorem dX12_believed_42 : decode cX12_believed 42 = .ok (.ireturn, 1) := by decide +kernel
theorem dX12_mean_0 : decode cX12_mean 0 = .ok (.aload_n 0, 1) := by decide +kernel
theorem dX12_mean_1 : decode cX12_mean 1 = .ok (.invokevirtual 54, 3) := by decide +kernel
theorem dX12_mean_4 : decode cX12_mean 4 = .ok (.invokestatic 58, 3) := by decide +kernel
theorem dX12_mean_7 : decode cX12_mean 7 = .ok (.istore_n 1, 1) := by decide +kernel
theorem dX12_mean_8 : decode cX12_mean 8 = .ok (.iload_n 1, 1) := by decide +kernel
theorem dX12_mean_9 : decode cX12_mean 9 = .ok (.ifCond .ne 7, 3) := by decide +kernel
theorem dX12_mean_12 : decode cX12_mean 12 = .ok (.iconst 0, 1) := by decide +kernel
theorem dX12_mean_13 : decode cX12_mean 13 = .ok (.goto 9, 3) := by decide +kernel
theorem dX12_mean_16 : decode cX12_mean 16 = .ok (.aload_n 0, 1) := by decide +kernel
theorem dX12_mean_17 : decode cX12_mean 17 = .ok (.invokevirtual 62, 3) := by decide +kernel
theorem dX12_mean_20 : decode cX12_mean 20 = .ok (.iload_n 1, 1) := by decide +kernel
theorem dX12_mean_21 : decode cX12_mean 21 = .ok (.idiv, 1) := by decide +kernel
theorem dX12_mean_22 : decode cX12_mean 22 = .ok (.ireturn, 1) := by decide +kernel
theorem dX12_priceNow_0 : decode cX12_priceNow 0 = .ok (.aload_n 0, 1) := by decide +kernel
theorem dX12_priceNow_1 : decode cX12_priceNow 1 = .ok (.invokevirtual 65, 3) := by decide +kernel
theorem dX12_priceNow_4 : decode cX12_priceNow 4 = .ok (.aload_n 0, 1) := by decide +kernel
theorem dX12_priceNow_5 : decode cX12_priceNow 5 = .ok (.invokevirtual 65, 3) := by decide +kernel
theorem dX12_priceNow_8 : decode cX12_priceNow 8 = .ok (.imul, 1) := by decide +kernel
theorem dX12_priceNow_9 : decode cX12_priceNow 9 = .ok (.bipush 50, 2) := by decide +kernel
theorem dX12_priceNow_11 : decode cX12_priceNow 11 = .ok (.idiv, 1) := by decide +kernel
theorem dX12_priceNow_12 : decode cX12_priceNow 12 = .ok (.iconst 1, 1) := by decide +kernel
theorem dX12_priceNow_13 : decode cX12_priceNow 13 = .ok (.iadd, 1) := by decide +kernel
theorem dX12_priceNow_14 : decode cX12_priceNow 14 = .ok (.ireturn, 1) := by decide +kernel
theorem dX12_worksOf_0 : decode cX12_worksOf 0 = .ok (.iconst 0, 1) := by decide +kernel
theorem dX12_worksOf_1 : decode cX12_worksOf 1 = .ok (.istore_n 2, 1) := by decide +kernel
theorem dX12_worksOf_2 : decode cX12_worksOf 2 = .ok (.iconst 0, 1) := by decide +kernel
theorem dX12_worksOf_3 : decode cX12_worksOf 3 = .ok (.istore_n 3, 1) := by decide +kernel
theorem dX12_worksOf_4 : decode cX12_worksOf 4 = .ok (.iload_n 3, 1) := by decide +kernel
theorem dX12_worksOf_5 : decode cX12_worksOf 5 = .ok (.aload_n 0, 1) := by decide +kernel
theorem dX12_worksOf_6 : decode cX12_worksOf 6 = .ok (.getfield 7, 3) := by decide +kernel
theorem dX12_worksOf_9 : decode cX12_worksOf 9 = .ok (.iconst 4, 1) := by decide +kernel
theorem dX12_worksOf_10 : decode cX12_worksOf 10 = .ok (.iaload, 1) := by decide +kernel
theorem dX12_worksOf_11 : decode cX12_worksOf 11 = .ok (.if_icmp .ge 29, 3) := by decide +kernel
theorem dX12_worksOf_14 : decode cX12_worksOf 14 = .ok (.iload_n 2, 1) := by decide +kernel
theorem dX12_worksOf_15 : decode cX12_worksOf 15 = .ok (.aload_n 0, 1) := by decide +kernel
theorem dX12_worksOf_16 : decode cX12_worksOf 16 = .ok (.iload_n 3, 1) := by decide +kernel
theorem dX12_worksOf_17 : decode cX12_worksOf 17 = .ok (.iconst 3, 1) := by decide +kernel
theorem dX12_worksOf_18 : decode cX12_worksOf 18 = .ok (.invokevirtual 68, 3) := by decide +kernel
theorem dX12_worksOf_21 : decode cX12_worksOf 21 = .ok (.iload_n 1, 1) := by decide +kernel
theorem dX12_worksOf_22 : decode cX12_worksOf 22 = .ok (.if_icmp .ne 9, 3) := by decide +kernel
theorem dX12_worksOf_25 : decode cX12_worksOf 25 = .ok (.iconst 1, 1) := by decide +kernel
theorem dX12_worksOf_26 : decode cX12_worksOf 26 = .ok (.iload_n 3, 1) := by decide +kernel
theorem dX12_worksOf_27 : decode cX12_worksOf 27 = .ok (.ishl, 1) := by decide +kernel
theorem dX12_worksOf_28 : decode cX12_worksOf 28 = .ok (.goto 4, 3) := by decide +kernel
theorem dX12_worksOf_31 : decode cX12_worksOf 31 = .ok (.iconst 0, 1) := by decide +kernel
theorem dX12_worksOf_32 : decode cX12_worksOf 32 = .ok (.ior, 1) := by decide +kernel
theorem dX12_worksOf_33 : decode cX12_worksOf 33 = .ok (.istore_n 2, 1) := by decide +kernel
theorem dX12_worksOf_34 : decode cX12_worksOf 34 = .ok (.iinc 3 1, 3) := by decide +kernel
theorem dX12_worksOf_37 : decode cX12_worksOf 37 = .ok (.goto (-33), 3) := by decide +kernel
theorem dX12_worksOf_40 : decode cX12_worksOf 40 = .ok (.iload_n 2, 1) := by decide +kernel
theorem dX12_worksOf_41 : decode cX12_worksOf 41 = .ok (.ireturn, 1) := by decide +kernel
theorem dX12_feed_0 : decode cX12_feed 0 = .ok (.aload_n 0, 1) := by decide +kernel
theorem dX12_feed_1 : decode cX12_feed 1 = .ok (.iconst 0, 1) := by decide +kernel
theorem dX12_feed_2 : decode cX12_feed 2 = .ok (.putfield 39, 3) := by decide +kernel
theorem dX12_feed_5 : decode cX12_feed 5 = .ok (.aload_n 0, 1) := by decide +kernel
theorem dX12_feed_6 : decode cX12_feed 6 = .ok (.getfield 74, 3) := by decide +kernel
theorem dX12_feed_9 : decode cX12_feed 9 = .ok (.bipush 20, 2) := by decide +kernel
theorem dX12_feed_11 : decode cX12_feed 11 = .ok (.iadd, 1) := by decide +kernel
theorem dX12_feed_12 : decode cX12_feed 12 = .ok (.sipush 400, 3) := by decide +kernel
theorem dX12_feed_15 : decode cX12_feed 15 = .ok (.if_icmp .le 5, 3) := by decide +kernel
theorem dX12_feed_18 : decode cX12_feed 18 = .ok (.iconst (-1), 1) := by decide +kernel
theorem dX12_feed_19 : decode cX12_feed 19 = .ok (.ireturn, 1) := by decide +kernel
theorem dX12_feed_20 : decode cX12_feed 20 = .ok (.iconst 0, 1) := by decide +kernel
theorem dX12_feed_21 : decode cX12_feed 21 = .ok (.istore 6, 2) := by decide +kernel
theorem dX12_feed_23 : decode cX12_feed 23 = .ok (.iload 6, 2) := by decide +kernel
theorem dX12_feed_25 : decode cX12_feed 25 = .ok (.bipush 20, 2) := by decide +kernel
theorem dX12_feed_27 : decode cX12_feed 27 = .ok (.if_icmp .ge 93, 3) := by decide +kernel
theorem dX12_feed_30 : decode cX12_feed 30 = .ok (.iload 6, 2) := by decide +kernel
theorem dX12_feed_32 : decode cX12_feed 32 = .ok (.iconst 4, 1) := by decide +kernel
theorem dX12_feed_33 : decode cX12_feed 33 = .ok (.if_icmp .ge 7, 3) := by decide +kernel
theorem dX12_feed_36 : decode cX12_feed 36 = .ok (.iload_n 1, 1) := by decide +kernel
theorem dX12_feed_37 : decode cX12_feed 37 = .ok (.goto 39, 3) := by decide +kernel
theorem dX12_feed_40 : decode cX12_feed 40 = .ok (.iload 6, 2) := by decide +kernel
theorem dX12_feed_42 : decode cX12_feed 42 = .ok (.bipush 8, 2) := by decide +kernel
theorem dX12_feed_44 : decode cX12_feed 44 = .ok (.if_icmp .ge 7, 3) := by decide +kernel
theorem dX12_feed_47 : decode cX12_feed 47 = .ok (.iload_n 2, 1) := by decide +kernel
theorem dX12_feed_48 : decode cX12_feed 48 = .ok (.goto 28, 3) := by decide +kernel
theorem dX12_feed_51 : decode cX12_feed 51 = .ok (.iload 6, 2) := by decide +kernel
theorem dX12_feed_53 : decode cX12_feed 53 = .ok (.bipush 12, 2) := by decide +kernel
theorem dX12_feed_55 : decode cX12_feed 55 = .ok (.if_icmp .ge 7, 3) := by decide +kernel
theorem dX12_feed_58 : decode cX12_feed 58 = .ok (.iload_n 3, 1) := by decide +kernel
theorem dX12_feed_59 : decode cX12_feed 59 = .ok (.goto 17, 3) := by decide +kernel
theorem dX12_feed_62 : decode cX12_feed 62 = .ok (.iload 6, 2) := by decide +kernel
theorem dX12_feed_64 : decode cX12_feed 64 = .ok (.bipush 16, 2) := by decide +kernel
theorem dX12_feed_66 : decode cX12_feed 66 = .ok (.if_icmp .ge 8, 3) := by decide +kernel
theorem dX12_feed_69 : decode cX12_feed 69 = .ok (.iload 4, 2) := by decide +kernel
theorem dX12_feed_71 : decode cX12_feed 71 = .ok (.goto 5, 3) := by decide +kernel
theorem dX12_feed_74 : decode cX12_feed 74 = .ok (.iload 5, 2) := by decide +kernel
theorem dX12_feed_76 : decode cX12_feed 76 = .ok (.istore 7, 2) := by decide +kernel
theorem dX12_feed_78 : decode cX12_feed 78 = .ok (.aload_n 0, 1) := by decide +kernel
theorem dX12_feed_79 : decode cX12_feed 79 = .ok (.getfield 22, 3) := by decide +kernel
theorem dX12_feed_82 : decode cX12_feed 82 = .ok (.aload_n 0, 1) := by decide +kernel
theorem dX12_feed_83 : decode cX12_feed 83 = .ok (.getfield 74, 3) := by decide +kernel
theorem dX12_feed_86 : decode cX12_feed 86 = .ok (.iload 7, 2) := by decide +kernel
theorem dX12_feed_88 : decode cX12_feed 88 = .ok (.bipush 24, 2) := by decide +kernel
theorem dX12_feed_90 : decode cX12_feed 90 = .ok (.bipush 8, 2) := by decide +kernel
theorem dX12_feed_92 : decode cX12_feed 92 = .ok (.iload 6, 2) := by decide +kernel
theorem dX12_feed_94 : decode cX12_feed 94 = .ok (.iconst 4, 1) := by decide +kernel
theorem dX12_feed_95 : decode cX12_feed 95 = .ok (.irem, 1) := by decide +kernel
theorem dX12_feed_96 : decode cX12_feed 96 = .ok (.imul, 1) := by decide +kernel
theorem dX12_feed_97 : decode cX12_feed 97 = .ok (.isub, 1) := by decide +kernel
theorem dX12_feed_98 : decode cX12_feed 98 = .ok (.iushr, 1) := by decide +kernel
theorem dX12_feed_99 : decode cX12_feed 99 = .ok (.sipush 255, 3) := by decide +kernel
theorem dX12_feed_102 : decode cX12_feed 102 = .ok (.iand, 1) := by decide +kernel
theorem dX12_feed_103 : decode cX12_feed 103 = .ok (.iastore, 1) := by decide +kernel
theorem dX12_feed_104 : decode cX12_feed 104 = .ok (.aload_n 0, 1) := by decide +kernel
theorem dX12_feed_105 : decode cX12_feed 105 = .ok (.dup, 1) := by decide +kernel
theorem dX12_feed_106 : decode cX12_feed 106 = .ok (.getfield 74, 3) := by decide +kernel
theorem dX12_feed_109 : decode cX12_feed 109 = .ok (.iconst 1, 1) := by decide +kernel
theorem dX12_feed_110 : decode cX12_feed 110 = .ok (.iadd, 1) := by decide +kernel
theorem dX12_feed_111 : decode cX12_feed 111 = .ok (.putfield 74, 3) := by decide +kernel
theorem dX12_feed_114 : decode cX12_feed 114 = .ok (.iinc 6 1, 3) := by decide +kernel
theorem dX12_feed_117 : decode cX12_feed 117 = .ok (.goto (-94), 3) := by decide +kernel
theorem dX12_feed_120 : decode cX12_feed 120 = .ok (.aload_n 0, 1) := by decide +kernel
theorem dX12_feed_121 : decode cX12_feed 121 = .ok (.getfield 74, 3) := by decide +kernel
theorem dX12_feed_124 : decode cX12_feed 124 = .ok (.ireturn, 1) := by decide +kernel
theorem dX12_end_0 : decode cX12_end 0 = .ok (.aload_n 0, 1) := by decide +kernel
theorem dX12_end_1 : decode cX12_end 1 = .ok (.iconst 0, 1) := by decide +kernel
theorem dX12_end_2 : decode cX12_end 2 = .ok (.putfield 39, 3) := by decide +kernel
theorem dX12_end_5 : decode cX12_end 5 = .ok (.iload_n 1, 1) := by decide +kernel
theorem dX12_end_6 : decode cX12_end 6 = .ok (.iconst 0, 1) := by decide +kernel
theorem dX12_end_7 : decode cX12_end 7 = .ok (.aload_n 0, 1) := by decide +kernel
theorem dX12_end_8 : decode cX12_end 8 = .ok (.getfield 74, 3) := by decide +kernel
theorem dX12_end_11 : decode cX12_end 11 = .ok (.invokestatic 42, 3) := by decide +kernel
theorem dX12_end_14 : decode cX12_end 14 = .ok (.ifCond .ne 5, 3) := by decide +kernel
theorem dX12_end_17 : decode cX12_end 17 = .ok (.iconst 0, 1) := by decide +kernel
theorem dX12_end_18 : decode cX12_end 18 = .ok (.ireturn, 1) := by decide +kernel
theorem dX12_end_19 : decode cX12_end 19 = .ok (.aload_n 0, 1) := by decide +kernel
theorem dX12_end_20 : decode cX12_end 20 = .ok (.iload_n 1, 1) := by decide +kernel
theorem dX12_end_21 : decode cX12_end 21 = .ok (.putfield 74, 3) := by decide +kernel
theorem dX12_end_24 : decode cX12_end 24 = .ok (.iconst 1, 1) := by decide +kernel
theorem dX12_end_25 : decode cX12_end 25 = .ok (.ireturn, 1) := by decide +kernel
theorem dX12_skip_0 : decode cX12_skip 0 = .ok (.aload_n 0, 1) := by decide +kernel
theorem dX12_skip_1 : decode cX12_skip 1 = .ok (.getfield 80, 3) := by decide +kernel
theorem dX12_skip_4 : decode cX12_skip 4 = .ok (.aload_n 0, 1) := by decide +kernel
theorem dX12_skip_5 : decode cX12_skip 5 = .ok (.getfield 83, 3) := by decide +kernel
theorem dX12_skip_8 : decode cX12_skip 8 = .ok (.if_icmp .ge 29, 3) := by decide +kernel
theorem dX12_skip_11 : decode cX12_skip 11 = .ok (.aload_n 0, 1) := by decide +kernel
theorem dX12_skip_12 : decode cX12_skip 12 = .ok (.aload_n 0, 1) := by decide +kernel
theorem dX12_skip_13 : decode cX12_skip 13 = .ok (.getfield 80, 3) := by decide +kernel
theorem dX12_skip_16 : decode cX12_skip 16 = .ok (.invokevirtual 86, 3) := by decide +kernel
theorem dX12_skip_19 : decode cX12_skip 19 = .ok (.bipush 32, 2) := by decide +kernel
theorem dX12_skip_21 : decode cX12_skip 21 = .ok (.if_icmp .ne 16, 3) := by decide +kernel
theorem dX12_skip_24 : decode cX12_skip 24 = .ok (.aload_n 0, 1) := by decide +kernel
theorem dX12_skip_25 : decode cX12_skip 25 = .ok (.dup, 1) := by decide +kernel
theorem dX12_skip_26 : decode cX12_skip 26 = .ok (.getfield 80, 3) := by decide +kernel
theorem dX12_skip_29 : decode cX12_skip 29 = .ok (.iconst 1, 1) := by decide +kernel
theorem dX12_skip_30 : decode cX12_skip 30 = .ok (.iadd, 1) := by decide +kernel
theorem dX12_skip_31 : decode cX12_skip 31 = .ok (.putfield 80, 3) := by decide +kernel
theorem dX12_skip_34 : decode cX12_skip 34 = .ok (.goto (-34), 3) := by decide +kernel
theorem dX12_skip_37 : decode cX12_skip 37 = .ok (.return_, 1) := by decide +kernel
theorem dX12_begins_0 : decode cX12_begins 0 = .ok (.aload_n 0, 1) := by decide +kernel
theorem dX12_begins_1 : decode cX12_begins 1 = .ok (.iconst (-1), 1) := by decide +kernel
theorem dX12_begins_2 : decode cX12_begins 2 = .ok (.putfield 25, 3) := by decide +kernel
theorem dX12_begins_5 : decode cX12_begins 5 = .ok (.aload_n 0, 1) := by decide +kernel
theorem dX12_begins_6 : decode cX12_begins 6 = .ok (.iconst (-1), 1) := by decide +kernel
theorem dX12_begins_7 : decode cX12_begins 7 = .ok (.putfield 77, 3) := by decide +kernel
theorem dX12_begins_10 : decode cX12_begins 10 = .ok (.aload_n 0, 1) := by decide +kernel
theorem dX12_begins_11 : decode cX12_begins 11 = .ok (.aload_n 0, 1) := by decide +kernel
theorem dX12_begins_12 : decode cX12_begins 12 = .ok (.getfield 74, 3) := by decide +kernel
theorem dX12_begins_15 : decode cX12_begins 15 = .ok (.putfield 83, 3) := by decide +kernel
theorem dX12_begins_18 : decode cX12_begins 18 = .ok (.aload_n 0, 1) := by decide +kernel
theorem dX12_begins_19 : decode cX12_begins 19 = .ok (.iconst 0, 1) := by decide +kernel
theorem dX12_begins_20 : decode cX12_begins 20 = .ok (.putfield 74, 3) := by decide +kernel
theorem dX12_begins_23 : decode cX12_begins 23 = .ok (.aload_n 0, 1) := by decide +kernel
theorem dX12_begins_24 : decode cX12_begins 24 = .ok (.iconst 0, 1) := by decide +kernel
theorem dX12_begins_25 : decode cX12_begins 25 = .ok (.putfield 80, 3) := by decide +kernel
theorem dX12_begins_28 : decode cX12_begins 28 = .ok (.aload_n 0, 1) := by decide +kernel
theorem dX12_begins_29 : decode cX12_begins 29 = .ok (.iconst 0, 1) := by decide +kernel
theorem dX12_begins_30 : decode cX12_begins 30 = .ok (.putfield 162, 3) := by decide +kernel
theorem dX12_begins_33 : decode cX12_begins 33 = .ok (.return_, 1) := by decide +kernel
theorem dX12_read_0 : decode cX12_read 0 = .ok (.aload_n 0, 1) := by decide +kernel
theorem dX12_read_1 : decode cX12_read 1 = .ok (.invokevirtual 89, 3) := by decide +kernel
theorem dX12_read_4 : decode cX12_read 4 = .ok (.aload_n 0, 1) := by decide +kernel
theorem dX12_read_5 : decode cX12_read 5 = .ok (.getfield 80, 3) := by decide +kernel
theorem dX12_read_8 : decode cX12_read 8 = .ok (.aload_n 0, 1) := by decide +kernel
theorem dX12_read_9 : decode cX12_read 9 = .ok (.getfield 83, 3) := by decide +kernel
theorem dX12_read_12 : decode cX12_read 12 = .ok (.if_icmp .ge 7, 3) := by decide +kernel
theorem dX12_read_15 : decode cX12_read 15 = .ok (.iconst 1, 1) := by decide +kernel
theorem dX12_read_16 : decode cX12_read 16 = .ok (.goto 4, 3) := by decide +kernel
theorem dX12_read_19 : decode cX12_read 19 = .ok (.iconst 0, 1) := by decide +kernel
theorem dX12_read_20 : decode cX12_read 20 = .ok (.istore_n 2, 1) := by decide +kernel
theorem dX12_read_21 : decode cX12_read 21 = .ok (.iconst 0, 1) := by decide +kernel
theorem dX12_read_22 : decode cX12_read 22 = .ok (.istore_n 3, 1) := by decide +kernel
theorem dX12_read_23 : decode cX12_read 23 = .ok (.iload_n 2, 1) := by decide +kernel
theorem dX12_read_24 : decode cX12_read 24 = .ok (.ifCond .eq 120, 3) := by decide +kernel
theorem dX12_read_27 : decode cX12_read 27 = .ok (.aload_n 0, 1) := by decide +kernel
theorem dX12_read_28 : decode cX12_read 28 = .ok (.getfield 25, 3) := by decide +kernel
theorem dX12_read_31 : decode cX12_read 31 = .ok (.iconst (-1), 1) := by decide +kernel
theorem dX12_read_32 : decode cX12_read 32 = .ok (.if_icmp .ne 112, 3) := by decide +kernel
theorem dX12_read_35 : decode cX12_read 35 = .ok (.aload_n 0, 1) := by decide +kernel
theorem dX12_read_36 : decode cX12_read 36 = .ok (.invokevirtual 89, 3) := by decide +kernel
theorem dX12_read_39 : decode cX12_read 39 = .ok (.iload_n 3, 1) := by decide +kernel
theorem dX12_read_40 : decode cX12_read 40 = .ok (.iload_n 1, 1) := by decide +kernel
theorem dX12_read_41 : decode cX12_read 41 = .ok (.ifCond .eq 8, 3) := by decide +kernel
theorem dX12_read_44 : decode cX12_read 44 = .ok (.bipush 12, 2) := by decide +kernel
theorem dX12_read_46 : decode cX12_read 46 = .ok (.goto 5, 3) := by decide +kernel
theorem dX12_read_49 : decode cX12_read 49 = .ok (.bipush 14, 2) := by decide +kernel
theorem dX12_read_51 : decode cX12_read 51 = .ok (.if_icmp .ne 14, 3) := by decide +kernel
theorem dX12_read_54 : decode cX12_read 54 = .ok (.aload_n 0, 1) := by decide +kernel
theorem dX12_read_55 : decode cX12_read 55 = .ok (.aload_n 0, 1) := by decide +kernel
theorem dX12_read_56 : decode cX12_read 56 = .ok (.getfield 80, 3) := by decide +kernel
theorem dX12_read_59 : decode cX12_read 59 = .ok (.invokevirtual 104, 3) := by decide +kernel
theorem dX12_read_62 : decode cX12_read 62 = .ok (.goto 18, 3) := by decide +kernel
theorem dX12_read_65 : decode cX12_read 65 = .ok (.iload_n 1, 1) := by decide +kernel
theorem dX12_read_66 : decode cX12_read 66 = .ok (.ifCond .eq 10, 3) := by decide +kernel
theorem dX12_read_69 : decode cX12_read 69 = .ok (.aload_n 0, 1) := by decide +kernel
theorem dX12_read_70 : decode cX12_read 70 = .ok (.invokevirtual 165, 3) := by decide +kernel
theorem dX12_read_73 : decode cX12_read 73 = .ok (.goto 7, 3) := by decide +kernel
theorem dX12_read_76 : decode cX12_read 76 = .ok (.aload_n 0, 1) := by decide +kernel
theorem dX12_read_77 : decode cX12_read 77 = .ok (.invokevirtual 168, 3) := by decide +kernel
theorem dX12_read_80 : decode cX12_read 80 = .ok (.iinc 3 1, 3) := by decide +kernel
theorem dX12_read_83 : decode cX12_read 83 = .ok (.aload_n 0, 1) := by decide +kernel
theorem dX12_read_84 : decode cX12_read 84 = .ok (.invokevirtual 89, 3) := by decide +kernel
theorem dX12_read_87 : decode cX12_read 87 = .ok (.aload_n 0, 1) := by decide +kernel
theorem dX12_read_88 : decode cX12_read 88 = .ok (.getfield 25, 3) := by decide +kernel
theorem dX12_read_91 : decode cX12_read 91 = .ok (.iconst (-1), 1) := by decide +kernel
theorem dX12_read_92 : decode cX12_read 92 = .ok (.if_icmp .ne 14, 3) := by decide +kernel
theorem dX12_read_95 : decode cX12_read 95 = .ok (.aload_n 0, 1) := by decide +kernel
theorem dX12_read_96 : decode cX12_read 96 = .ok (.getfield 80, 3) := by decide +kernel
theorem dX12_read_99 : decode cX12_read 99 = .ok (.aload_n 0, 1) := by decide +kernel
theorem dX12_read_100 : decode cX12_read 100 = .ok (.getfield 83, 3) := by decide +kernel
theorem dX12_read_103 : decode cX12_read 103 = .ok (.if_icmp .ne 8, 3) := by decide +kernel
theorem dX12_read_106 : decode cX12_read 106 = .ok (.iconst 0, 1) := by decide +kernel
theorem dX12_read_107 : decode cX12_read 107 = .ok (.istore_n 2, 1) := by decide +kernel
theorem dX12_read_108 : decode cX12_read 108 = .ok (.goto (-85), 3) := by decide +kernel
theorem dX12_read_111 : decode cX12_read 111 = .ok (.aload_n 0, 1) := by decide +kernel
theorem dX12_read_112 : decode cX12_read 112 = .ok (.bipush 59, 2) := by decide +kernel
theorem dX12_read_114 : decode cX12_read 114 = .ok (.invokevirtual 171, 3) := by decide +kernel
theorem dX12_read_117 : decode cX12_read 117 = .ok (.ifCond .eq 16, 3) := by decide +kernel
theorem dX12_read_120 : decode cX12_read 120 = .ok (.aload_n 0, 1) := by decide +kernel
theorem dX12_read_121 : decode cX12_read 121 = .ok (.dup, 1) := by decide +kernel
theorem dX12_read_122 : decode cX12_read 122 = .ok (.getfield 80, 3) := by decide +kernel
theorem dX12_read_125 : decode cX12_read 125 = .ok (.iconst 1, 1) := by decide +kernel
theorem dX12_read_126 : decode cX12_read 126 = .ok (.iadd, 1) := by decide +kernel
theorem dX12_read_127 : decode cX12_read 127 = .ok (.putfield 80, 3) := by decide +kernel
theorem dX12_read_130 : decode cX12_read 130 = .ok (.goto (-107), 3) := by decide +kernel
theorem dX12_read_133 : decode cX12_read 133 = .ok (.aload_n 0, 1) := by decide +kernel
theorem dX12_read_134 : decode cX12_read 134 = .ok (.aload_n 0, 1) := by decide +kernel
theorem dX12_read_135 : decode cX12_read 135 = .ok (.getfield 80, 3) := by decide +kernel
theorem dX12_read_138 : decode cX12_read 138 = .ok (.invokevirtual 104, 3) := by decide +kernel
theorem dX12_read_141 : decode cX12_read 141 = .ok (.goto (-118), 3) := by decide +kernel
theorem dX12_read_144 : decode cX12_read 144 = .ok (.iload_n 3, 1) := by decide +kernel
theorem dX12_read_145 : decode cX12_read 145 = .ok (.ireturn, 1) := by decide +kernel
theorem dX12_putsAside_0 : decode cX12_putsAside 0 = .ok (.iconst 0, 1) := by decide +kernel
theorem dX12_putsAside_1 : decode cX12_putsAside 1 = .ok (.istore_n 1, 1) := by decide +kernel
theorem dX12_putsAside_2 : decode cX12_putsAside 2 = .ok (.iload_n 1, 1) := by decide +kernel
theorem dX12_putsAside_3 : decode cX12_putsAside 3 = .ok (.sipush 379, 3) := by decide +kernel
theorem dX12_putsAside_6 : decode cX12_putsAside 6 = .ok (.if_icmp .ge 21, 3) := by decide +kernel
theorem dX12_putsAside_9 : decode cX12_putsAside 9 = .ok (.aload_n 0, 1) := by decide +kernel
theorem dX12_putsAside_10 : decode cX12_putsAside 10 = .ok (.getfield 16, 3) := by decide +kernel
theorem dX12_putsAside_13 : decode cX12_putsAside 13 = .ok (.iload_n 1, 1) := by decide +kernel
theorem dX12_putsAside_14 : decode cX12_putsAside 14 = .ok (.aload_n 0, 1) := by decide +kernel
theorem dX12_putsAside_15 : decode cX12_putsAside 15 = .ok (.getfield 7, 3) := by decide +kernel
theorem dX12_putsAside_18 : decode cX12_putsAside 18 = .ok (.iload_n 1, 1) := by decide +kernel
theorem dX12_putsAside_19 : decode cX12_putsAside 19 = .ok (.iaload, 1) := by decide +kernel
theorem dX12_putsAside_20 : decode cX12_putsAside 20 = .ok (.iastore, 1) := by decide +kernel
theorem dX12_putsAside_21 : decode cX12_putsAside 21 = .ok (.iinc 1 1, 3) := by decide +kernel
theorem dX12_putsAside_24 : decode cX12_putsAside 24 = .ok (.goto (-22), 3) := by decide +kernel
theorem dX12_putsAside_27 : decode cX12_putsAside 27 = .ok (.return_, 1) := by decide +kernel
theorem dX12_comesBack_0 : decode cX12_comesBack 0 = .ok (.iconst 0, 1) := by decide +kernel
theorem dX12_comesBack_1 : decode cX12_comesBack 1 = .ok (.istore_n 1, 1) := by decide +kernel
theorem dX12_comesBack_2 : decode cX12_comesBack 2 = .ok (.iload_n 1, 1) := by decide +kernel
theorem dX12_comesBack_3 : decode cX12_comesBack 3 = .ok (.sipush 379, 3) := by decide +kernel
theorem dX12_comesBack_6 : decode cX12_comesBack 6 = .ok (.if_icmp .ge 21, 3) := by decide +kernel
theorem dX12_comesBack_9 : decode cX12_comesBack 9 = .ok (.aload_n 0, 1) := by decide +kernel
theorem dX12_comesBack_10 : decode cX12_comesBack 10 = .ok (.getfield 7, 3) := by decide +kernel
theorem dX12_comesBack_13 : decode cX12_comesBack 13 = .ok (.iload_n 1, 1) := by decide +kernel
theorem dX12_comesBack_14 : decode cX12_comesBack 14 = .ok (.aload_n 0, 1) := by decide +kernel
theorem dX12_comesBack_15 : decode cX12_comesBack 15 = .ok (.getfield 16, 3) := by decide +kernel
theorem dX12_comesBack_18 : decode cX12_comesBack 18 = .ok (.iload_n 1, 1) := by decide +kernel
theorem dX12_comesBack_19 : decode cX12_comesBack 19 = .ok (.iaload, 1) := by decide +kernel
theorem dX12_comesBack_20 : decode cX12_comesBack 20 = .ok (.iastore, 1) := by decide +kernel
theorem dX12_comesBack_21 : decode cX12_comesBack 21 = .ok (.iinc 1 1, 3) := by decide +kernel
theorem dX12_comesBack_24 : decode cX12_comesBack 24 = .ok (.goto (-22), 3) := by decide +kernel
theorem dX12_comesBack_27 : decode cX12_comesBack 27 = .ok (.return_, 1) := by decide +kernel
theorem dX12_town_0 : decode cX12_town 0 = .ok (.aload_n 0, 1) := by decide +kernel
theorem dX12_town_1 : decode cX12_town 1 = .ok (.invokevirtual 174, 3) := by decide +kernel
theorem dX12_town_4 : decode cX12_town 4 = .ok (.aload_n 0, 1) := by decide +kernel
theorem dX12_town_5 : decode cX12_town 5 = .ok (.invokevirtual 177, 3) := by decide +kernel
theorem dX12_town_8 : decode cX12_town 8 = .ok (.aload_n 0, 1) := by decide +kernel
theorem dX12_town_9 : decode cX12_town 9 = .ok (.iconst 0, 1) := by decide +kernel
theorem dX12_town_10 : decode cX12_town 10 = .ok (.invokevirtual 180, 3) := by decide +kernel
theorem dX12_town_13 : decode cX12_town 13 = .ok (.istore_n 1, 1) := by decide +kernel
theorem dX12_town_14 : decode cX12_town 14 = .ok (.aload_n 0, 1) := by decide +kernel
theorem dX12_town_15 : decode cX12_town 15 = .ok (.aload_n 0, 1) := by decide +kernel
theorem dX12_town_16 : decode cX12_town 16 = .ok (.getfield 25, 3) := by decide +kernel
theorem dX12_town_19 : decode cX12_town 19 = .ok (.iconst (-1), 1) := by decide +kernel
theorem dX12_town_20 : decode cX12_town 20 = .ok (.if_icmp .eq 7, 3) := by decide +kernel
theorem dX12_town_23 : decode cX12_town 23 = .ok (.iconst 1, 1) := by decide +kernel
theorem dX12_town_24 : decode cX12_town 24 = .ok (.goto 19, 3) := by decide +kernel
theorem dX12_town_27 : decode cX12_town 27 = .ok (.aload_n 0, 1) := by decide +kernel
theorem dX12_town_28 : decode cX12_town 28 = .ok (.getfield 7, 3) := by decide +kernel
theorem dX12_town_31 : decode cX12_town 31 = .ok (.iconst 0, 1) := by decide +kernel
theorem dX12_town_32 : decode cX12_town 32 = .ok (.iaload, 1) := by decide +kernel
theorem dX12_town_33 : decode cX12_town 33 = .ok (.bipush 12, 2) := by decide +kernel
theorem dX12_town_35 : decode cX12_town 35 = .ok (.if_icmp .ne 7, 3) := by decide +kernel
theorem dX12_town_38 : decode cX12_town 38 = .ok (.iconst 2, 1) := by decide +kernel
theorem dX12_town_39 : decode cX12_town 39 = .ok (.goto 4, 3) := by decide +kernel
theorem dX12_town_42 : decode cX12_town 42 = .ok (.iconst 0, 1) := by decide +kernel
theorem dX12_town_43 : decode cX12_town 43 = .ok (.putfield 39, 3) := by decide +kernel
theorem dX12_town_46 : decode cX12_town 46 = .ok (.aload_n 0, 1) := by decide +kernel
theorem dX12_town_47 : decode cX12_town 47 = .ok (.getfield 39, 3) := by decide +kernel
theorem dX12_town_50 : decode cX12_town 50 = .ok (.ifCond .le 9, 3) := by decide +kernel
theorem dX12_town_53 : decode cX12_town 53 = .ok (.aload_n 0, 1) := by decide +kernel
theorem dX12_town_54 : decode cX12_town 54 = .ok (.invokevirtual 184, 3) := by decide +kernel
theorem dX12_town_57 : decode cX12_town 57 = .ok (.iconst 0, 1) := by decide +kernel
theorem dX12_town_58 : decode cX12_town 58 = .ok (.ireturn, 1) := by decide +kernel
theorem dX12_town_59 : decode cX12_town 59 = .ok (.aload_n 0, 1) := by decide +kernel
theorem dX12_town_60 : decode cX12_town 60 = .ok (.getfield 7, 3) := by decide +kernel
theorem dX12_town_63 : decode cX12_town 63 = .ok (.iconst 0, 1) := by decide +kernel
theorem dX12_town_64 : decode cX12_town 64 = .ok (.dup2, 1) := by decide +kernel
theorem dX12_town_65 : decode cX12_town 65 = .ok (.iaload, 1) := by decide +kernel
theorem dX12_town_66 : decode cX12_town 66 = .ok (.iconst 1, 1) := by decide +kernel
theorem dX12_town_67 : decode cX12_town 67 = .ok (.iadd, 1) := by decide +kernel
theorem dX12_town_68 : decode cX12_town 68 = .ok (.iastore, 1) := by decide +kernel
theorem dX12_town_69 : decode cX12_town 69 = .ok (.aload_n 0, 1) := by decide +kernel
theorem dX12_town_70 : decode cX12_town 70 = .ok (.iconst 0, 1) := by decide +kernel
theorem dX12_town_71 : decode cX12_town 71 = .ok (.putfield 187, 3) := by decide +kernel
theorem dX12_town_74 : decode cX12_town 74 = .ok (.aload_n 0, 1) := by decide +kernel
theorem dX12_town_75 : decode cX12_town 75 = .ok (.getfield 7, 3) := by decide +kernel
theorem dX12_town_78 : decode cX12_town 78 = .ok (.iconst 0, 1) := by decide +kernel
theorem dX12_town_79 : decode cX12_town 79 = .ok (.iaload, 1) := by decide +kernel
theorem dX12_town_80 : decode cX12_town 80 = .ok (.ireturn, 1) := by decide +kernel
theorem dX12_law_0 : decode cX12_law 0 = .ok (.aload_n 0, 1) := by decide +kernel
theorem dX12_law_1 : decode cX12_law 1 = .ok (.invokevirtual 177, 3) := by decide +kernel
theorem dX12_law_4 : decode cX12_law 4 = .ok (.aload_n 0, 1) := by decide +kernel
theorem dX12_law_5 : decode cX12_law 5 = .ok (.iconst 1, 1) := by decide +kernel
theorem dX12_law_6 : decode cX12_law 6 = .ok (.invokevirtual 180, 3) := by decide +kernel
theorem dX12_law_9 : decode cX12_law 9 = .ok (.istore_n 1, 1) := by decide +kernel
theorem dX12_law_10 : decode cX12_law 10 = .ok (.aload_n 0, 1) := by decide +kernel
theorem dX12_law_11 : decode cX12_law 11 = .ok (.aload_n 0, 1) := by decide +kernel
theorem dX12_law_12 : decode cX12_law 12 = .ok (.getfield 25, 3) := by decide +kernel
theorem dX12_law_15 : decode cX12_law 15 = .ok (.iconst (-1), 1) := by decide +kernel
theorem dX12_law_16 : decode cX12_law 16 = .ok (.if_icmp .eq 7, 3) := by decide +kernel
theorem dX12_law_19 : decode cX12_law 19 = .ok (.iconst 1, 1) := by decide +kernel
theorem dX12_law_20 : decode cX12_law 20 = .ok (.goto 4, 3) := by decide +kernel
theorem dX12_law_23 : decode cX12_law 23 = .ok (.iconst 0, 1) := by decide +kernel
theorem dX12_law_24 : decode cX12_law 24 = .ok (.putfield 39, 3) := by decide +kernel
theorem dX12_law_27 : decode cX12_law 27 = .ok (.aload_n 0, 1) := by decide +kernel
theorem dX12_law_28 : decode cX12_law 28 = .ok (.getfield 39, 3) := by decide +kernel
theorem dX12_law_31 : decode cX12_law 31 = .ok (.ifCond .le 5, 3) := by decide +kernel
theorem dX12_law_34 : decode cX12_law 34 = .ok (.iconst 0, 1) := by decide +kernel
theorem dX12_law_35 : decode cX12_law 35 = .ok (.ireturn, 1) := by decide +kernel
theorem dX12_law_36 : decode cX12_law 36 = .ok (.aload_n 0, 1) := by decide +kernel
theorem dX12_law_37 : decode cX12_law 37 = .ok (.getfield 7, 3) := by decide +kernel
theorem dX12_law_40 : decode cX12_law 40 = .ok (.iconst 1, 1) := by decide +kernel
theorem dX12_law_41 : decode cX12_law 41 = .ok (.iload_n 1, 1) := by decide +kernel
theorem dX12_law_42 : decode cX12_law 42 = .ok (.iastore, 1) := by decide +kernel
theorem dX12_law_43 : decode cX12_law 43 = .ok (.aload_n 0, 1) := by decide +kernel
theorem dX12_law_44 : decode cX12_law 44 = .ok (.getfield 7, 3) := by decide +kernel
theorem dX12_law_47 : decode cX12_law 47 = .ok (.iconst 2, 1) := by decide +kernel
theorem dX12_law_48 : decode cX12_law 48 = .ok (.aload_n 0, 1) := by decide +kernel
theorem dX12_law_49 : decode cX12_law 49 = .ok (.getfield 83, 3) := by decide +kernel
theorem dX12_law_52 : decode cX12_law 52 = .ok (.iastore, 1) := by decide +kernel
theorem dX12_law_53 : decode cX12_law 53 = .ok (.iconst 0, 1) := by decide +kernel
theorem dX12_law_54 : decode cX12_law 54 = .ok (.istore_n 2, 1) := by decide +kernel
theorem dX12_law_55 : decode cX12_law 55 = .ok (.iload_n 2, 1) := by decide +kernel
theorem dX12_law_56 : decode cX12_law 56 = .ok (.aload_n 0, 1) := by decide +kernel
theorem dX12_law_57 : decode cX12_law 57 = .ok (.getfield 83, 3) := by decide +kernel
theorem dX12_law_60 : decode cX12_law 60 = .ok (.if_icmp .ge 25, 3) := by decide +kernel
theorem dX12_law_63 : decode cX12_law 63 = .ok (.aload_n 0, 1) := by decide +kernel
theorem dX12_law_64 : decode cX12_law 64 = .ok (.getfield 7, 3) := by decide +kernel
theorem dX12_law_67 : decode cX12_law 67 = .ok (.sipush 379, 3) := by decide +kernel
theorem dX12_law_70 : decode cX12_law 70 = .ok (.iload_n 2, 1) := by decide +kernel
theorem dX12_law_71 : decode cX12_law 71 = .ok (.iadd, 1) := by decide +kernel
theorem dX12_law_72 : decode cX12_law 72 = .ok (.aload_n 0, 1) := by decide +kernel
theorem dX12_law_73 : decode cX12_law 73 = .ok (.getfield 22, 3) := by decide +kernel
theorem dX12_law_76 : decode cX12_law 76 = .ok (.iload_n 2, 1) := by decide +kernel
theorem dX12_law_77 : decode cX12_law 77 = .ok (.iaload, 1) := by decide +kernel
theorem dX12_law_78 : decode cX12_law 78 = .ok (.iastore, 1) := by decide +kernel
theorem dX12_law_79 : decode cX12_law 79 = .ok (.iinc 2 1, 3) := by decide +kernel
theorem dX12_law_82 : decode cX12_law 82 = .ok (.goto (-27), 3) := by decide +kernel
theorem dX12_law_85 : decode cX12_law 85 = .ok (.aload_n 0, 1) := by decide +kernel
theorem dX12_law_86 : decode cX12_law 86 = .ok (.iconst 0, 1) := by decide +kernel
theorem dX12_law_87 : decode cX12_law 87 = .ok (.putfield 187, 3) := by decide +kernel
theorem dX12_law_90 : decode cX12_law 90 = .ok (.iload_n 1, 1) := by decide +kernel
theorem dX12_law_91 : decode cX12_law 91 = .ok (.ireturn, 1) := by decide +kernel
theorem dX12_fault_0 : decode cX12_fault 0 = .ok (.aload_n 0, 1) := by decide +kernel
theorem dX12_fault_1 : decode cX12_fault 1 = .ok (.iconst 0, 1) := by decide +kernel
theorem dX12_fault_2 : decode cX12_fault 2 = .ok (.putfield 39, 3) := by decide +kernel
theorem dX12_fault_5 : decode cX12_fault 5 = .ok (.aload_n 0, 1) := by decide +kernel
theorem dX12_fault_6 : decode cX12_fault 6 = .ok (.getfield 25, 3) := by decide +kernel
theorem dX12_fault_9 : decode cX12_fault 9 = .ok (.ireturn, 1) := by decide +kernel
theorem dX12_build_0 : decode cX12_build 0 = .ok (.iconst 0, 1) := by decide +kernel
theorem dX12_build_1 : decode cX12_build 1 = .ok (.istore_n 1, 1) := by decide +kernel
theorem dX12_build_2 : decode cX12_build 2 = .ok (.iconst 0, 1) := by decide +kernel
theorem dX12_build_3 : decode cX12_build 3 = .ok (.istore_n 2, 1) := by decide +kernel
theorem dX12_build_4 : decode cX12_build 4 = .ok (.iload_n 2, 1) := by decide +kernel
theorem dX12_build_5 : decode cX12_build 5 = .ok (.aload_n 0, 1) := by decide +kernel
theorem dX12_build_6 : decode cX12_build 6 = .ok (.getfield 7, 3) := by decide +kernel
theorem dX12_build_9 : decode cX12_build 9 = .ok (.iconst 4, 1) := by decide +kernel
theorem dX12_build_10 : decode cX12_build 10 = .ok (.iaload, 1) := by decide +kernel
theorem dX12_build_11 : decode cX12_build 11 = .ok (.if_icmp .ge 145, 3) := by decide +kernel
theorem dX12_build_14 : decode cX12_build 14 = .ok (.aload_n 0, 1) := by decide +kernel
theorem dX12_build_15 : decode cX12_build 15 = .ok (.invokevirtual 62, 3) := by decide +kernel
theorem dX12_build_18 : decode cX12_build 18 = .ok (.aload_n 0, 1) := by decide +kernel
theorem dX12_build_19 : decode cX12_build 19 = .ok (.iload_n 2, 1) := by decide +kernel
theorem dX12_build_20 : decode cX12_build 20 = .ok (.iconst 1, 1) := by decide +kernel
theorem dX12_build_21 : decode cX12_build 21 = .ok (.invokevirtual 68, 3) := by decide +kernel
theorem dX12_build_24 : decode cX12_build 24 = .ok (.if_icmp .lt 7, 3) := by decide +kernel
theorem dX12_build_27 : decode cX12_build 27 = .ok (.iconst 1, 1) := by decide +kernel
theorem dX12_build_28 : decode cX12_build 28 = .ok (.goto 4, 3) := by decide +kernel
theorem dX12_build_31 : decode cX12_build 31 = .ok (.iconst 0, 1) := by decide +kernel
theorem dX12_build_32 : decode cX12_build 32 = .ok (.istore_n 3, 1) := by decide +kernel
theorem dX12_build_33 : decode cX12_build 33 = .ok (.aload_n 0, 1) := by decide +kernel
theorem dX12_build_34 : decode cX12_build 34 = .ok (.iload_n 2, 1) := by decide +kernel
theorem dX12_build_35 : decode cX12_build 35 = .ok (.iconst 3, 1) := by decide +kernel
theorem dX12_build_36 : decode cX12_build 36 = .ok (.invokevirtual 68, 3) := by decide +kernel
theorem dX12_build_39 : decode cX12_build 39 = .ok (.iconst 1, 1) := by decide +kernel
theorem dX12_build_40 : decode cX12_build 40 = .ok (.if_icmp .ne 54, 3) := by decide +kernel
theorem dX12_build_43 : decode cX12_build 43 = .ok (.iload_n 3, 1) := by decide +kernel
theorem dX12_build_44 : decode cX12_build 44 = .ok (.ifCond .eq 31, 3) := by decide +kernel
theorem dX12_build_47 : decode cX12_build 47 = .ok (.aload_n 0, 1) := by decide +kernel
theorem dX12_build_48 : decode cX12_build 48 = .ok (.getfield 7, 3) := by decide +kernel
theorem dX12_build_51 : decode cX12_build 51 = .ok (.iconst 5, 1) := by decide +kernel
theorem dX12_build_52 : decode cX12_build 52 = .ok (.sipush 9999, 3) := by decide +kernel
theorem dX12_build_55 : decode cX12_build 55 = .ok (.aload_n 0, 1) := by decide +kernel
theorem dX12_build_56 : decode cX12_build 56 = .ok (.getfield 7, 3) := by decide +kernel
theorem dX12_build_59 : decode cX12_build 59 = .ok (.iconst 5, 1) := by decide +kernel
theorem dX12_build_60 : decode cX12_build 60 = .ok (.iaload, 1) := by decide +kernel
theorem dX12_build_61 : decode cX12_build 61 = .ok (.aload_n 0, 1) := by decide +kernel
theorem dX12_build_62 : decode cX12_build 62 = .ok (.iload_n 2, 1) := by decide +kernel
theorem dX12_build_63 : decode cX12_build 63 = .ok (.iconst 2, 1) := by decide +kernel
theorem dX12_build_64 : decode cX12_build 64 = .ok (.invokevirtual 68, 3) := by decide +kernel
theorem dX12_build_67 : decode cX12_build 67 = .ok (.iadd, 1) := by decide +kernel
theorem dX12_build_68 : decode cX12_build 68 = .ok (.invokestatic 248, 3) := by decide +kernel
theorem dX12_build_71 : decode cX12_build 71 = .ok (.iastore, 1) := by decide +kernel
theorem dX12_build_72 : decode cX12_build 72 = .ok (.goto 78, 3) := by decide +kernel
theorem dX12_build_75 : decode cX12_build 75 = .ok (.aload_n 0, 1) := by decide +kernel
theorem dX12_build_76 : decode cX12_build 76 = .ok (.iload_n 2, 1) := by decide +kernel
theorem dX12_build_77 : decode cX12_build 77 = .ok (.iconst 3, 1) := by decide +kernel
theorem dX12_build_78 : decode cX12_build 78 = .ok (.iconst 2, 1) := by decide +kernel
theorem dX12_build_79 : decode cX12_build 79 = .ok (.invokevirtual 131, 3) := by decide +kernel
theorem dX12_build_82 : decode cX12_build 82 = .ok (.aload_n 0, 1) := by decide +kernel
theorem dX12_build_83 : decode cX12_build 83 = .ok (.iload_n 2, 1) := by decide +kernel
theorem dX12_build_84 : decode cX12_build 84 = .ok (.iconst 1, 1) := by decide +kernel
theorem dX12_build_85 : decode cX12_build 85 = .ok (.invokevirtual 254, 3) := by decide +kernel
theorem dX12_build_88 : decode cX12_build 88 = .ok (.iinc 1 1, 3) := by decide +kernel
theorem dX12_build_91 : decode cX12_build 91 = .ok (.goto 59, 3) := by decide +kernel
theorem dX12_build_94 : decode cX12_build 94 = .ok (.aload_n 0, 1) := by decide +kernel
theorem dX12_build_95 : decode cX12_build 95 = .ok (.iload_n 2, 1) := by decide +kernel
theorem dX12_build_96 : decode cX12_build 96 = .ok (.iconst 3, 1) := by decide +kernel
theorem dX12_build_97 : decode cX12_build 97 = .ok (.invokevirtual 68, 3) := by decide +kernel
theorem dX12_build_100 : decode cX12_build 100 = .ok (.ifCond .ne 50, 3) := by decide +kernel
theorem dX12_build_103 : decode cX12_build 103 = .ok (.iload_n 3, 1) := by decide +kernel
theorem dX12_build_104 : decode cX12_build 104 = .ok (.ifCond .eq 46, 3) := by decide +kernel
theorem dX12_build_107 : decode cX12_build 107 = .ok (.aload_n 0, 1) := by decide +kernel
theorem dX12_build_108 : decode cX12_build 108 = .ok (.getfield 7, 3) := by decide +kernel
theorem dX12_build_111 : decode cX12_build 111 = .ok (.iconst 5, 1) := by decide +kernel
theorem dX12_build_112 : decode cX12_build 112 = .ok (.iaload, 1) := by decide +kernel
theorem dX12_build_113 : decode cX12_build 113 = .ok (.aload_n 0, 1) := by decide +kernel
theorem dX12_build_114 : decode cX12_build 114 = .ok (.iload_n 2, 1) := by decide +kernel
theorem dX12_build_115 : decode cX12_build 115 = .ok (.iconst 0, 1) := by decide +kernel
theorem dX12_build_116 : decode cX12_build 116 = .ok (.invokevirtual 68, 3) := by decide +kernel
theorem dX12_build_119 : decode cX12_build 119 = .ok (.if_icmp .lt 31, 3) := by decide +kernel
theorem dX12_build_122 : decode cX12_build 122 = .ok (.aload_n 0, 1) := by decide +kernel
theorem dX12_build_123 : decode cX12_build 123 = .ok (.getfield 7, 3) := by decide +kernel
theorem dX12_build_126 : decode cX12_build 126 = .ok (.iconst 5, 1) := by decide +kernel
theorem dX12_build_127 : decode cX12_build 127 = .ok (.dup2, 1) := by decide +kernel
theorem dX12_build_128 : decode cX12_build 128 = .ok (.iaload, 1) := by decide +kernel
theorem dX12_build_129 : decode cX12_build 129 = .ok (.aload_n 0, 1) := by decide +kernel
theorem dX12_build_130 : decode cX12_build 130 = .ok (.iload_n 2, 1) := by decide +kernel
theorem dX12_build_131 : decode cX12_build 131 = .ok (.iconst 0, 1) := by decide +kernel
theorem dX12_build_132 : decode cX12_build 132 = .ok (.invokevirtual 68, 3) := by decide +kernel
theorem dX12_build_135 : decode cX12_build 135 = .ok (.isub, 1) := by decide +kernel
theorem dX12_build_136 : decode cX12_build 136 = .ok (.iastore, 1) := by decide +kernel
theorem dX12_build_137 : decode cX12_build 137 = .ok (.aload_n 0, 1) := by decide +kernel
theorem dX12_build_138 : decode cX12_build 138 = .ok (.iload_n 2, 1) := by decide +kernel
theorem dX12_build_139 : decode cX12_build 139 = .ok (.iconst 3, 1) := by decide +kernel
theorem dX12_build_140 : decode cX12_build 140 = .ok (.iconst 1, 1) := by decide +kernel
theorem dX12_build_141 : decode cX12_build 141 = .ok (.invokevirtual 131, 3) := by decide +kernel
theorem dX12_build_144 : decode cX12_build 144 = .ok (.aload_n 0, 1) := by decide +kernel
theorem dX12_build_145 : decode cX12_build 145 = .ok (.iload_n 2, 1) := by decide +kernel
theorem dX12_build_146 : decode cX12_build 146 = .ok (.iconst 0, 1) := by decide +kernel
theorem dX12_build_147 : decode cX12_build 147 = .ok (.invokevirtual 254, 3) := by decide +kernel
theorem dX12_build_150 : decode cX12_build 150 = .ok (.iinc 2 1, 3) := by decide +kernel
theorem dX12_build_153 : decode cX12_build 153 = .ok (.goto (-149), 3) := by decide +kernel
theorem dX12_build_156 : decode cX12_build 156 = .ok (.iload_n 1, 1) := by decide +kernel
theorem dX12_build_157 : decode cX12_build 157 = .ok (.ireturn, 1) := by decide +kernel
theorem dX12_goes_0 : decode cX12_goes 0 = .ok (.iconst 0, 1) := by decide +kernel
theorem dX12_goes_1 : decode cX12_goes 1 = .ok (.istore_n 3, 1) := by decide +kernel
theorem dX12_goes_2 : decode cX12_goes 2 = .ok (.iconst 0, 1) := by decide +kernel
theorem dX12_goes_3 : decode cX12_goes 3 = .ok (.istore 4, 2) := by decide +kernel
theorem dX12_goes_5 : decode cX12_goes 5 = .ok (.iload 4, 2) := by decide +kernel
theorem dX12_goes_7 : decode cX12_goes 7 = .ok (.iload_n 1, 1) := by decide +kernel
theorem dX12_goes_8 : decode cX12_goes 8 = .ok (.if_icmp .ge 186, 3) := by decide +kernel
theorem dX12_goes_11 : decode cX12_goes 11 = .ok (.iconst 0, 1) := by decide +kernel
theorem dX12_goes_12 : decode cX12_goes 12 = .ok (.istore 5, 2) := by decide +kernel
theorem dX12_goes_14 : decode cX12_goes 14 = .ok (.iload 5, 2) := by decide +kernel
theorem dX12_goes_16 : decode cX12_goes 16 = .ok (.aload_n 0, 1) := by decide +kernel
theorem dX12_goes_17 : decode cX12_goes 17 = .ok (.getfield 7, 3) := by decide +kernel
theorem dX12_goes_20 : decode cX12_goes 20 = .ok (.iconst 3, 1) := by decide +kernel
theorem dX12_goes_21 : decode cX12_goes 21 = .ok (.iaload, 1) := by decide +kernel
theorem dX12_goes_22 : decode cX12_goes 22 = .ok (.if_icmp .ge 42, 3) := by decide +kernel
theorem dX12_goes_25 : decode cX12_goes 25 = .ok (.aload_n 0, 1) := by decide +kernel
theorem dX12_goes_26 : decode cX12_goes 26 = .ok (.getfield 32, 3) := by decide +kernel
theorem dX12_goes_29 : decode cX12_goes 29 = .ok (.iload 5, 2) := by decide +kernel
theorem dX12_goes_31 : decode cX12_goes 31 = .ok (.aload_n 0, 1) := by decide +kernel
theorem dX12_goes_32 : decode cX12_goes 32 = .ok (.iload 5, 2) := by decide +kernel
theorem dX12_goes_34 : decode cX12_goes 34 = .ok (.invokevirtual 50, 3) := by decide +kernel
theorem dX12_goes_37 : decode cX12_goes 37 = .ok (.ifCond .eq 19, 3) := by decide +kernel
theorem dX12_goes_40 : decode cX12_goes 40 = .ok (.aload_n 0, 1) := by decide +kernel
theorem dX12_goes_41 : decode cX12_goes 41 = .ok (.iload 5, 2) := by decide +kernel
theorem dX12_goes_43 : decode cX12_goes 43 = .ok (.invokevirtual 264, 3) := by decide +kernel
theorem dX12_goes_46 : decode cX12_goes 46 = .ok (.aload_n 0, 1) := by decide +kernel
theorem dX12_goes_47 : decode cX12_goes 47 = .ok (.iload 5, 2) := by decide +kernel
theorem dX12_goes_49 : decode cX12_goes 49 = .ok (.invokevirtual 267, 3) := by decide +kernel
theorem dX12_goes_52 : decode cX12_goes 52 = .ok (.iadd, 1) := by decide +kernel
theorem dX12_goes_53 : decode cX12_goes 53 = .ok (.goto 4, 3) := by decide +kernel
theorem dX12_goes_56 : decode cX12_goes 56 = .ok (.iconst 0, 1) := by decide +kernel
theorem dX12_goes_57 : decode cX12_goes 57 = .ok (.iastore, 1) := by decide +kernel
theorem dX12_goes_58 : decode cX12_goes 58 = .ok (.iinc 5 1, 3) := by decide +kernel
theorem dX12_goes_61 : decode cX12_goes 61 = .ok (.goto (-47), 3) := by decide +kernel
theorem dX12_goes_64 : decode cX12_goes 64 = .ok (.iconst 0, 1) := by decide +kernel
theorem dX12_goes_65 : decode cX12_goes 65 = .ok (.istore 5, 2) := by decide +kernel
theorem dX12_goes_67 : decode cX12_goes 67 = .ok (.iload 5, 2) := by decide +kernel
theorem dX12_goes_69 : decode cX12_goes 69 = .ok (.aload_n 0, 1) := by decide +kernel
theorem dX12_goes_70 : decode cX12_goes 70 = .ok (.getfield 7, 3) := by decide +kernel
theorem dX12_goes_73 : decode cX12_goes 73 = .ok (.iconst 3, 1) := by decide +kernel
theorem dX12_goes_74 : decode cX12_goes 74 = .ok (.iaload, 1) := by decide +kernel
theorem dX12_goes_75 : decode cX12_goes 75 = .ok (.if_icmp .ge 31, 3) := by decide +kernel
theorem dX12_goes_78 : decode cX12_goes 78 = .ok (.aload_n 0, 1) := by decide +kernel
theorem dX12_goes_79 : decode cX12_goes 79 = .ok (.iload 5, 2) := by decide +kernel
theorem dX12_goes_81 : decode cX12_goes 81 = .ok (.invokevirtual 50, 3) := by decide +kernel
theorem dX12_goes_84 : decode cX12_goes 84 = .ok (.ifCond .eq 16, 3) := by decide +kernel
theorem dX12_goes_87 : decode cX12_goes 87 = .ok (.aload_n 0, 1) := by decide +kernel
theorem dX12_goes_88 : decode cX12_goes 88 = .ok (.iload 5, 2) := by decide +kernel
theorem dX12_goes_90 : decode cX12_goes 90 = .ok (.aload_n 0, 1) := by decide +kernel
theorem dX12_goes_91 : decode cX12_goes 91 = .ok (.getfield 32, 3) := by decide +kernel
theorem dX12_goes_94 : decode cX12_goes 94 = .ok (.iload 5, 2) := by decide +kernel
theorem dX12_goes_96 : decode cX12_goes 96 = .ok (.iaload, 1) := by decide +kernel
theorem dX12_goes_97 : decode cX12_goes 97 = .ok (.invokevirtual 261, 3) := by decide +kernel
theorem dX12_goes_100 : decode cX12_goes 100 = .ok (.iinc 5 1, 3) := by decide +kernel
theorem dX12_goes_103 : decode cX12_goes 103 = .ok (.goto (-36), 3) := by decide +kernel
theorem dX12_goes_106 : decode cX12_goes 106 = .ok (.iload_n 3, 1) := by decide +kernel
theorem dX12_goes_107 : decode cX12_goes 107 = .ok (.aload_n 0, 1) := by decide +kernel
theorem dX12_goes_108 : decode cX12_goes 108 = .ok (.invokevirtual 270, 3) := by decide +kernel
theorem dX12_goes_111 : decode cX12_goes 111 = .ok (.iadd, 1) := by decide +kernel
theorem dX12_goes_112 : decode cX12_goes 112 = .ok (.istore_n 3, 1) := by decide +kernel
theorem dX12_goes_113 : decode cX12_goes 113 = .ok (.iconst 0, 1) := by decide +kernel
theorem dX12_goes_114 : decode cX12_goes 114 = .ok (.istore 5, 2) := by decide +kernel
theorem dX12_goes_116 : decode cX12_goes 116 = .ok (.iload 5, 2) := by decide +kernel
theorem dX12_goes_118 : decode cX12_goes 118 = .ok (.aload_n 0, 1) := by decide +kernel
theorem dX12_goes_119 : decode cX12_goes 119 = .ok (.getfield 7, 3) := by decide +kernel
theorem dX12_goes_122 : decode cX12_goes 122 = .ok (.iconst 3, 1) := by decide +kernel
theorem dX12_goes_123 : decode cX12_goes 123 = .ok (.iaload, 1) := by decide +kernel
theorem dX12_goes_124 : decode cX12_goes 124 = .ok (.if_icmp .ge 42, 3) := by decide +kernel
theorem dX12_goes_127 : decode cX12_goes 127 = .ok (.aload_n 0, 1) := by decide +kernel
theorem dX12_goes_128 : decode cX12_goes 128 = .ok (.iload 5, 2) := by decide +kernel
theorem dX12_goes_130 : decode cX12_goes 130 = .ok (.invokevirtual 50, 3) := by decide +kernel
theorem dX12_goes_133 : decode cX12_goes 133 = .ok (.ifCond .ne 27, 3) := by decide +kernel
theorem dX12_goes_136 : decode cX12_goes 136 = .ok (.aload_n 0, 1) := by decide +kernel
theorem dX12_goes_137 : decode cX12_goes 137 = .ok (.iload 5, 2) := by decide +kernel
theorem dX12_goes_139 : decode cX12_goes 139 = .ok (.iconst 4, 1) := by decide +kernel
theorem dX12_goes_140 : decode cX12_goes 140 = .ok (.invokevirtual 46, 3) := by decide +kernel
theorem dX12_goes_143 : decode cX12_goes 143 = .ok (.aload_n 0, 1) := by decide +kernel
theorem dX12_goes_144 : decode cX12_goes 144 = .ok (.getfield 7, 3) := by decide +kernel
theorem dX12_goes_147 : decode cX12_goes 147 = .ok (.bipush 8, 2) := by decide +kernel
theorem dX12_goes_149 : decode cX12_goes 149 = .ok (.iaload, 1) := by decide +kernel
theorem dX12_goes_150 : decode cX12_goes 150 = .ok (.if_icmp .gt 10, 3) := by decide +kernel
theorem dX12_goes_153 : decode cX12_goes 153 = .ok (.aload_n 0, 1) := by decide +kernel
theorem dX12_goes_154 : decode cX12_goes 154 = .ok (.iload 5, 2) := by decide +kernel
theorem dX12_goes_156 : decode cX12_goes 156 = .ok (.iload_n 2, 1) := by decide +kernel
theorem dX12_goes_157 : decode cX12_goes 157 = .ok (.invokevirtual 273, 3) := by decide +kernel
theorem dX12_goes_160 : decode cX12_goes 160 = .ok (.iinc 5 1, 3) := by decide +kernel
theorem dX12_goes_163 : decode cX12_goes 163 = .ok (.goto (-47), 3) := by decide +kernel
theorem dX12_goes_166 : decode cX12_goes 166 = .ok (.aload_n 0, 1) := by decide +kernel
theorem dX12_goes_167 : decode cX12_goes 167 = .ok (.getfield 7, 3) := by decide +kernel
theorem dX12_goes_170 : decode cX12_goes 170 = .ok (.bipush 8, 2) := by decide +kernel
theorem dX12_goes_172 : decode cX12_goes 172 = .ok (.sipush 9999, 3) := by decide +kernel
theorem dX12_goes_175 : decode cX12_goes 175 = .ok (.aload_n 0, 1) := by decide +kernel
theorem dX12_goes_176 : decode cX12_goes 176 = .ok (.getfield 7, 3) := by decide +kernel
theorem dX12_goes_179 : decode cX12_goes 179 = .ok (.bipush 8, 2) := by decide +kernel
theorem dX12_goes_181 : decode cX12_goes 181 = .ok (.iaload, 1) := by decide +kernel
theorem dX12_goes_182 : decode cX12_goes 182 = .ok (.iconst 1, 1) := by decide +kernel
theorem dX12_goes_183 : decode cX12_goes 183 = .ok (.iadd, 1) := by decide +kernel
theorem dX12_goes_184 : decode cX12_goes 184 = .ok (.invokestatic 248, 3) := by decide +kernel
theorem dX12_goes_187 : decode cX12_goes 187 = .ok (.iastore, 1) := by decide +kernel
theorem dX12_goes_188 : decode cX12_goes 188 = .ok (.iinc 4 1, 3) := by decide +kernel
theorem dX12_goes_191 : decode cX12_goes 191 = .ok (.goto (-186), 3) := by decide +kernel
theorem dX12_goes_194 : decode cX12_goes 194 = .ok (.iload_n 3, 1) := by decide +kernel
theorem dX12_goes_195 : decode cX12_goes 195 = .ok (.ireturn, 1) := by decide +kernel
theorem dX12_person_0 : decode cX12_person 0 = .ok (.aload_n 0, 1) := by decide +kernel
theorem dX12_person_1 : decode cX12_person 1 = .ok (.aload_n 0, 1) := by decide +kernel
theorem dX12_person_2 : decode cX12_person 2 = .ok (.iload_n 1, 1) := by decide +kernel
theorem dX12_person_3 : decode cX12_person 3 = .ok (.invokevirtual 280, 3) := by decide +kernel
theorem dX12_person_6 : decode cX12_person 6 = .ok (.ifCond .ne 7, 3) := by decide +kernel
theorem dX12_person_9 : decode cX12_person 9 = .ok (.iconst 1, 1) := by decide +kernel
theorem dX12_person_10 : decode cX12_person 10 = .ok (.goto 18, 3) := by decide +kernel
theorem dX12_person_13 : decode cX12_person 13 = .ok (.iload_n 2, 1) := by decide +kernel
theorem dX12_person_14 : decode cX12_person 14 = .ok (.iconst 0, 1) := by decide +kernel
theorem dX12_person_15 : decode cX12_person 15 = .ok (.bipush 8, 2) := by decide +kernel
theorem dX12_person_17 : decode cX12_person 17 = .ok (.invokestatic 42, 3) := by decide +kernel
theorem dX12_person_20 : decode cX12_person 20 = .ok (.ifCond .ne 7, 3) := by decide +kernel
theorem dX12_person_23 : decode cX12_person 23 = .ok (.iconst 2, 1) := by decide +kernel
theorem dX12_person_24 : decode cX12_person 24 = .ok (.goto 4, 3) := by decide +kernel
theorem dX12_person_27 : decode cX12_person 27 = .ok (.iconst 0, 1) := by decide +kernel
theorem dX12_person_28 : decode cX12_person 28 = .ok (.putfield 39, 3) := by decide +kernel
theorem dX12_person_31 : decode cX12_person 31 = .ok (.aload_n 0, 1) := by decide +kernel
theorem dX12_person_32 : decode cX12_person 32 = .ok (.getfield 39, 3) := by decide +kernel
theorem dX12_person_35 : decode cX12_person 35 = .ok (.ifCond .le 5, 3) := by decide +kernel
theorem dX12_person_38 : decode cX12_person 38 = .ok (.iconst 0, 1) := by decide +kernel
theorem dX12_person_39 : decode cX12_person 39 = .ok (.ireturn, 1) := by decide +kernel
theorem dX12_person_40 : decode cX12_person 40 = .ok (.iload_n 2, 1) := by decide +kernel
theorem dX12_person_41 : decode cX12_person 41 = .ok (.iconst 5, 1) := by decide +kernel
theorem dX12_person_42 : decode cX12_person 42 = .ok (.if_icmp .ge 10, 3) := by decide +kernel
theorem dX12_person_45 : decode cX12_person 45 = .ok (.aload_n 0, 1) := by decide +kernel
theorem dX12_person_46 : decode cX12_person 46 = .ok (.iload_n 1, 1) := by decide +kernel
theorem dX12_person_47 : decode cX12_person 47 = .ok (.iload_n 2, 1) := by decide +kernel
theorem dX12_person_48 : decode cX12_person 48 = .ok (.invokevirtual 46, 3) := by decide +kernel
theorem dX12_person_51 : decode cX12_person 51 = .ok (.ireturn, 1) := by decide +kernel
theorem dX12_person_52 : decode cX12_person 52 = .ok (.iload_n 2, 1) := by decide +kernel
theorem dX12_person_53 : decode cX12_person 53 = .ok (.iconst 5, 1) := by decide +kernel
theorem dX12_person_54 : decode cX12_person 54 = .ok (.if_icmp .ne 9, 3) := by decide +kernel
theorem dX12_person_57 : decode cX12_person 57 = .ok (.aload_n 0, 1) := by decide +kernel
theorem dX12_person_58 : decode cX12_person 58 = .ok (.iload_n 1, 1) := by decide +kernel
theorem dX12_person_59 : decode cX12_person 59 = .ok (.invokevirtual 264, 3) := by decide +kernel
theorem dX12_person_62 : decode cX12_person 62 = .ok (.ireturn, 1) := by decide +kernel
theorem dX12_person_63 : decode cX12_person 63 = .ok (.iload_n 2, 1) := by decide +kernel
theorem dX12_person_64 : decode cX12_person 64 = .ok (.bipush 6, 2) := by decide +kernel
theorem dX12_person_66 : decode cX12_person 66 = .ok (.if_icmp .ne 9, 3) := by decide +kernel
theorem dX12_person_69 : decode cX12_person 69 = .ok (.aload_n 0, 1) := by decide +kernel
theorem dX12_person_70 : decode cX12_person 70 = .ok (.iload_n 1, 1) := by decide +kernel
theorem dX12_person_71 : decode cX12_person 71 = .ok (.invokevirtual 267, 3) := by decide +kernel
theorem dX12_person_74 : decode cX12_person 74 = .ok (.ireturn, 1) := by decide +kernel
theorem dX12_person_75 : decode cX12_person 75 = .ok (.iload_n 2, 1) := by decide +kernel
theorem dX12_person_76 : decode cX12_person 76 = .ok (.bipush 7, 2) := by decide +kernel
theorem dX12_person_78 : decode cX12_person 78 = .ok (.if_icmp .ne 9, 3) := by decide +kernel
theorem dX12_person_81 : decode cX12_person 81 = .ok (.aload_n 0, 1) := by decide +kernel
theorem dX12_person_82 : decode cX12_person 82 = .ok (.iload_n 1, 1) := by decide +kernel
theorem dX12_person_83 : decode cX12_person 83 = .ok (.invokevirtual 283, 3) := by decide +kernel
theorem dX12_person_86 : decode cX12_person 86 = .ok (.ireturn, 1) := by decide +kernel
theorem dX12_person_87 : decode cX12_person 87 = .ok (.aload_n 0, 1) := by decide +kernel
theorem dX12_person_88 : decode cX12_person 88 = .ok (.iload_n 1, 1) := by decide +kernel
theorem dX12_person_89 : decode cX12_person 89 = .ok (.invokevirtual 50, 3) := by decide +kernel
theorem dX12_person_92 : decode cX12_person 92 = .ok (.ifCond .eq 10, 3) := by decide +kernel
theorem dX12_person_95 : decode cX12_person 95 = .ok (.aload_n 0, 1) := by decide +kernel
theorem dX12_person_96 : decode cX12_person 96 = .ok (.invokevirtual 62, 3) := by decide +kernel
theorem dX12_person_99 : decode cX12_person 99 = .ok (.ifCond .ne 7, 3) := by decide +kernel
theorem dX12_person_102 : decode cX12_person 102 = .ok (.iconst 0, 1) := by decide +kernel
theorem dX12_person_103 : decode cX12_person 103 = .ok (.goto 17, 3) := by decide +kernel
theorem dX12_person_106 : decode cX12_person 106 = .ok (.bipush 100, 2) := by decide +kernel
theorem dX12_person_108 : decode cX12_person 108 = .ok (.aload_n 0, 1) := by decide +kernel
theorem dX12_person_109 : decode cX12_person 109 = .ok (.iload_n 1, 1) := by decide +kernel
theorem dX12_person_110 : decode cX12_person 110 = .ok (.iconst 0, 1) := by decide +kernel
theorem dX12_person_111 : decode cX12_person 111 = .ok (.invokevirtual 46, 3) := by decide +kernel
theorem dX12_person_114 : decode cX12_person 114 = .ok (.imul, 1) := by decide +kernel
theorem dX12_person_115 : decode cX12_person 115 = .ok (.aload_n 0, 1) := by decide +kernel
theorem dX12_person_116 : decode cX12_person 116 = .ok (.invokevirtual 62, 3) := by decide +kernel
theorem dX12_person_119 : decode cX12_person 119 = .ok (.idiv, 1) := by decide +kernel
theorem dX12_person_120 : decode cX12_person 120 = .ok (.ireturn, 1) := by decide +kernel
theorem dX12_trust_0 : decode cX12_trust 0 = .ok (.aload_n 0, 1) := by decide +kernel
theorem dX12_trust_1 : decode cX12_trust 1 = .ok (.aload_n 0, 1) := by decide +kernel
theorem dX12_trust_2 : decode cX12_trust 2 = .ok (.iload_n 1, 1) := by decide +kernel
theorem dX12_trust_3 : decode cX12_trust 3 = .ok (.invokevirtual 280, 3) := by decide +kernel
theorem dX12_trust_6 : decode cX12_trust 6 = .ok (.ifCond .eq 11, 3) := by decide +kernel
theorem dX12_trust_9 : decode cX12_trust 9 = .ok (.aload_n 0, 1) := by decide +kernel
theorem dX12_trust_10 : decode cX12_trust 10 = .ok (.iload_n 2, 1) := by decide +kernel
theorem dX12_trust_11 : decode cX12_trust 11 = .ok (.invokevirtual 280, 3) := by decide +kernel
theorem dX12_trust_14 : decode cX12_trust 14 = .ok (.ifCond .ne 7, 3) := by decide +kernel
theorem dX12_trust_17 : decode cX12_trust 17 = .ok (.iconst 1, 1) := by decide +kernel
theorem dX12_trust_18 : decode cX12_trust 18 = .ok (.goto 13, 3) := by decide +kernel
theorem dX12_trust_21 : decode cX12_trust 21 = .ok (.iload_n 1, 1) := by decide +kernel
theorem dX12_trust_22 : decode cX12_trust 22 = .ok (.iload_n 2, 1) := by decide +kernel
theorem dX12_trust_23 : decode cX12_trust 23 = .ok (.if_icmp .ne 7, 3) := by decide +kernel
theorem dX12_trust_26 : decode cX12_trust 26 = .ok (.iconst 2, 1) := by decide +kernel
theorem dX12_trust_27 : decode cX12_trust 27 = .ok (.goto 4, 3) := by decide +kernel
theorem dX12_trust_30 : decode cX12_trust 30 = .ok (.iconst 0, 1) := by decide +kernel
theorem dX12_trust_31 : decode cX12_trust 31 = .ok (.putfield 39, 3) := by decide +kernel
theorem dX12_trust_34 : decode cX12_trust 34 = .ok (.aload_n 0, 1) := by decide +kernel
theorem dX12_trust_35 : decode cX12_trust 35 = .ok (.getfield 39, 3) := by decide +kernel
theorem dX12_trust_38 : decode cX12_trust 38 = .ok (.ifCond .le 7, 3) := by decide +kernel
theorem dX12_trust_41 : decode cX12_trust 41 = .ok (.iconst 0, 1) := by decide +kernel
theorem dX12_trust_42 : decode cX12_trust 42 = .ok (.goto 9, 3) := by decide +kernel
theorem dX12_trust_45 : decode cX12_trust 45 = .ok (.aload_n 0, 1) := by decide +kernel
theorem dX12_trust_46 : decode cX12_trust 46 = .ok (.iload_n 1, 1) := by decide +kernel
theorem dX12_trust_47 : decode cX12_trust 47 = .ok (.iload_n 2, 1) := by decide +kernel
theorem dX12_trust_48 : decode cX12_trust 48 = .ok (.invokevirtual 71, 3) := by decide +kernel
theorem dX12_trust_51 : decode cX12_trust 51 = .ok (.ireturn, 1) := by decide +kernel
theorem dX12_work_0 : decode cX12_work 0 = .ok (.aload_n 0, 1) := by decide +kernel
theorem dX12_work_1 : decode cX12_work 1 = .ok (.aload_n 0, 1) := by decide +kernel
theorem dX12_work_2 : decode cX12_work 2 = .ok (.iload_n 1, 1) := by decide +kernel
theorem dX12_work_3 : decode cX12_work 3 = .ok (.invokevirtual 286, 3) := by decide +kernel
theorem dX12_work_6 : decode cX12_work 6 = .ok (.ifCond .ne 7, 3) := by decide +kernel
theorem dX12_work_9 : decode cX12_work 9 = .ok (.iconst 1, 1) := by decide +kernel
theorem dX12_work_10 : decode cX12_work 10 = .ok (.goto 17, 3) := by decide +kernel
theorem dX12_work_13 : decode cX12_work 13 = .ok (.iload_n 2, 1) := by decide +kernel
theorem dX12_work_14 : decode cX12_work 14 = .ok (.iconst 0, 1) := by decide +kernel
theorem dX12_work_15 : decode cX12_work 15 = .ok (.iconst 3, 1) := by decide +kernel
theorem dX12_work_16 : decode cX12_work 16 = .ok (.invokestatic 42, 3) := by decide +kernel
theorem dX12_work_19 : decode cX12_work 19 = .ok (.ifCond .ne 7, 3) := by decide +kernel
theorem dX12_work_22 : decode cX12_work 22 = .ok (.iconst 2, 1) := by decide +kernel
theorem dX12_work_23 : decode cX12_work 23 = .ok (.goto 4, 3) := by decide +kernel
theorem dX12_work_26 : decode cX12_work 26 = .ok (.iconst 0, 1) := by decide +kernel
theorem dX12_work_27 : decode cX12_work 27 = .ok (.putfield 39, 3) := by decide +kernel
theorem dX12_work_30 : decode cX12_work 30 = .ok (.aload_n 0, 1) := by decide +kernel
theorem dX12_work_31 : decode cX12_work 31 = .ok (.getfield 39, 3) := by decide +kernel
theorem dX12_work_34 : decode cX12_work 34 = .ok (.ifCond .le 7, 3) := by decide +kernel
theorem dX12_work_37 : decode cX12_work 37 = .ok (.iconst 0, 1) := by decide +kernel
theorem dX12_work_38 : decode cX12_work 38 = .ok (.goto 9, 3) := by decide +kernel
theorem dX12_work_41 : decode cX12_work 41 = .ok (.aload_n 0, 1) := by decide +kernel
theorem dX12_work_42 : decode cX12_work 42 = .ok (.iload_n 1, 1) := by decide +kernel
theorem dX12_work_43 : decode cX12_work 43 = .ok (.iload_n 2, 1) := by decide +kernel
theorem dX12_work_44 : decode cX12_work 44 = .ok (.invokevirtual 68, 3) := by decide +kernel
theorem dX12_work_47 : decode cX12_work 47 = .ok (.ireturn, 1) := by decide +kernel
theorem dX12_price_0 : decode cX12_price 0 = .ok (.aload_n 0, 1) := by decide +kernel
theorem dX12_price_1 : decode cX12_price 1 = .ok (.iconst 0, 1) := by decide +kernel
theorem dX12_price_2 : decode cX12_price 2 = .ok (.putfield 39, 3) := by decide +kernel
theorem dX12_price_5 : decode cX12_price 5 = .ok (.aload_n 0, 1) := by decide +kernel
theorem dX12_price_6 : decode cX12_price 6 = .ok (.invokevirtual 277, 3) := by decide +kernel
theorem dX12_price_9 : decode cX12_price 9 = .ok (.ireturn, 1) := by decide +kernel
theorem dX12_remembers_0 : decode cX12_remembers 0 = .ok (.aload_n 0, 1) := by decide +kernel
theorem dX12_remembers_1 : decode cX12_remembers 1 = .ok (.getfield 187, 3) := by decide +kernel
theorem dX12_remembers_4 : decode cX12_remembers 4 = .ok (.bipush 12, 2) := by decide +kernel
theorem dX12_remembers_6 : decode cX12_remembers 6 = .ok (.if_icmp .ne 44, 3) := by decide +kernel
theorem dX12_remembers_9 : decode cX12_remembers 9 = .ok (.iconst 0, 1) := by decide +kernel
theorem dX12_remembers_10 : decode cX12_remembers 10 = .ok (.istore_n 1, 1) := by decide +kernel
theorem dX12_remembers_11 : decode cX12_remembers 11 = .ok (.iload_n 1, 1) := by decide +kernel
theorem dX12_remembers_12 : decode cX12_remembers 12 = .ok (.sipush 4169, 3) := by decide +kernel
theorem dX12_remembers_15 : decode cX12_remembers 15 = .ok (.if_icmp .ge 25, 3) := by decide +kernel
theorem dX12_remembers_18 : decode cX12_remembers 18 = .ok (.aload_n 0, 1) := by decide +kernel
theorem dX12_remembers_19 : decode cX12_remembers 19 = .ok (.getfield 19, 3) := by decide +kernel
theorem dX12_remembers_22 : decode cX12_remembers 22 = .ok (.iload_n 1, 1) := by decide +kernel
theorem dX12_remembers_23 : decode cX12_remembers 23 = .ok (.aload_n 0, 1) := by decide +kernel
theorem dX12_remembers_24 : decode cX12_remembers 24 = .ok (.getfield 19, 3) := by decide +kernel
theorem dX12_remembers_27 : decode cX12_remembers 27 = .ok (.iload_n 1, 1) := by decide +kernel
theorem dX12_remembers_28 : decode cX12_remembers 28 = .ok (.sipush 379, 3) := by decide +kernel
theorem dX12_remembers_31 : decode cX12_remembers 31 = .ok (.iadd, 1) := by decide +kernel
theorem dX12_remembers_32 : decode cX12_remembers 32 = .ok (.iaload, 1) := by decide +kernel
theorem dX12_remembers_33 : decode cX12_remembers 33 = .ok (.iastore, 1) := by decide +kernel
theorem dX12_remembers_34 : decode cX12_remembers 34 = .ok (.iinc 1 1, 3) := by decide +kernel
theorem dX12_remembers_37 : decode cX12_remembers 37 = .ok (.goto (-26), 3) := by decide +kernel
theorem dX12_remembers_40 : decode cX12_remembers 40 = .ok (.aload_n 0, 1) := by decide +kernel
theorem dX12_remembers_41 : decode cX12_remembers 41 = .ok (.dup, 1) := by decide +kernel
theorem dX12_remembers_42 : decode cX12_remembers 42 = .ok (.getfield 187, 3) := by decide +kernel
theorem dX12_remembers_45 : decode cX12_remembers 45 = .ok (.iconst 1, 1) := by decide +kernel
theorem dX12_remembers_46 : decode cX12_remembers 46 = .ok (.isub, 1) := by decide +kernel
theorem dX12_remembers_47 : decode cX12_remembers 47 = .ok (.putfield 187, 3) := by decide +kernel
theorem dX12_remembers_50 : decode cX12_remembers 50 = .ok (.iconst 0, 1) := by decide +kernel
theorem dX12_remembers_51 : decode cX12_remembers 51 = .ok (.istore_n 1, 1) := by decide +kernel
theorem dX12_remembers_52 : decode cX12_remembers 52 = .ok (.iload_n 1, 1) := by decide +kernel
theorem dX12_remembers_53 : decode cX12_remembers 53 = .ok (.sipush 379, 3) := by decide +kernel
theorem dX12_remembers_56 : decode cX12_remembers 56 = .ok (.if_icmp .ge 30, 3) := by decide +kernel
theorem dX12_remembers_59 : decode cX12_remembers 59 = .ok (.aload_n 0, 1) := by decide +kernel
theorem dX12_remembers_60 : decode cX12_remembers 60 = .ok (.getfield 19, 3) := by decide +kernel
theorem dX12_remembers_63 : decode cX12_remembers 63 = .ok (.sipush 379, 3) := by decide +kernel
theorem dX12_remembers_66 : decode cX12_remembers 66 = .ok (.aload_n 0, 1) := by decide +kernel
theorem dX12_remembers_67 : decode cX12_remembers 67 = .ok (.getfield 187, 3) := by decide +kernel
theorem dX12_remembers_70 : decode cX12_remembers 70 = .ok (.imul, 1) := by decide +kernel
theorem dX12_remembers_71 : decode cX12_remembers 71 = .ok (.iload_n 1, 1) := by decide +kernel
theorem dX12_remembers_72 : decode cX12_remembers 72 = .ok (.iadd, 1) := by decide +kernel
theorem dX12_remembers_73 : decode cX12_remembers 73 = .ok (.aload_n 0, 1) := by decide +kernel
theorem dX12_remembers_74 : decode cX12_remembers 74 = .ok (.getfield 7, 3) := by decide +kernel
theorem dX12_remembers_77 : decode cX12_remembers 77 = .ok (.iload_n 1, 1) := by decide +kernel
theorem dX12_remembers_78 : decode cX12_remembers 78 = .ok (.iaload, 1) := by decide +kernel
theorem dX12_remembers_79 : decode cX12_remembers 79 = .ok (.iastore, 1) := by decide +kernel
theorem dX12_remembers_80 : decode cX12_remembers 80 = .ok (.iinc 1 1, 3) := by decide +kernel
theorem dX12_remembers_83 : decode cX12_remembers 83 = .ok (.goto (-31), 3) := by decide +kernel
theorem dX12_remembers_86 : decode cX12_remembers 86 = .ok (.aload_n 0, 1) := by decide +kernel
theorem dX12_remembers_87 : decode cX12_remembers 87 = .ok (.dup, 1) := by decide +kernel
theorem dX12_remembers_88 : decode cX12_remembers 88 = .ok (.getfield 187, 3) := by decide +kernel
theorem dX12_remembers_91 : decode cX12_remembers 91 = .ok (.iconst 1, 1) := by decide +kernel
theorem dX12_remembers_92 : decode cX12_remembers 92 = .ok (.iadd, 1) := by decide +kernel
theorem dX12_remembers_93 : decode cX12_remembers 93 = .ok (.putfield 187, 3) := by decide +kernel
theorem dX12_remembers_96 : decode cX12_remembers 96 = .ok (.return_, 1) := by decide +kernel
theorem dX12_tell_0 : decode cX12_tell 0 = .ok (.aload_n 0, 1) := by decide +kernel
theorem dX12_tell_1 : decode cX12_tell 1 = .ok (.aload_n 0, 1) := by decide +kernel
theorem dX12_tell_2 : decode cX12_tell 2 = .ok (.iload_n 1, 1) := by decide +kernel
theorem dX12_tell_3 : decode cX12_tell 3 = .ok (.invokevirtual 280, 3) := by decide +kernel
theorem dX12_tell_6 : decode cX12_tell 6 = .ok (.ifCond .ne 7, 3) := by decide +kernel
theorem dX12_tell_9 : decode cX12_tell 9 = .ok (.iconst 1, 1) := by decide +kernel
theorem dX12_tell_10 : decode cX12_tell 10 = .ok (.goto 16, 3) := by decide +kernel
theorem dX12_tell_13 : decode cX12_tell 13 = .ok (.aload_n 0, 1) := by decide +kernel
theorem dX12_tell_14 : decode cX12_tell 14 = .ok (.iload_n 1, 1) := by decide +kernel
theorem dX12_tell_15 : decode cX12_tell 15 = .ok (.invokevirtual 50, 3) := by decide +kernel
theorem dX12_tell_18 : decode cX12_tell 18 = .ok (.ifCond .ne 7, 3) := by decide +kernel
theorem dX12_tell_21 : decode cX12_tell 21 = .ok (.iconst 2, 1) := by decide +kernel
theorem dX12_tell_22 : decode cX12_tell 22 = .ok (.goto 4, 3) := by decide +kernel
theorem dX12_tell_25 : decode cX12_tell 25 = .ok (.iconst 0, 1) := by decide +kernel
theorem dX12_tell_26 : decode cX12_tell 26 = .ok (.putfield 39, 3) := by decide +kernel
theorem dX12_tell_29 : decode cX12_tell 29 = .ok (.aload_n 0, 1) := by decide +kernel
theorem dX12_tell_30 : decode cX12_tell 30 = .ok (.getfield 39, 3) := by decide +kernel
theorem dX12_tell_33 : decode cX12_tell 33 = .ok (.ifCond .le 5, 3) := by decide +kernel
theorem dX12_tell_36 : decode cX12_tell 36 = .ok (.iconst 0, 1) := by decide +kernel
theorem dX12_tell_37 : decode cX12_tell 37 = .ok (.ireturn, 1) := by decide +kernel
theorem dX12_tell_38 : decode cX12_tell 38 = .ok (.aload_n 0, 1) := by decide +kernel
theorem dX12_tell_39 : decode cX12_tell 39 = .ok (.invokevirtual 289, 3) := by decide +kernel
theorem dX12_tell_42 : decode cX12_tell 42 = .ok (.aload_n 0, 1) := by decide +kernel
theorem dX12_tell_43 : decode cX12_tell 43 = .ok (.iload_n 1, 1) := by decide +kernel
theorem dX12_tell_44 : decode cX12_tell 44 = .ok (.bipush 20, 2) := by decide +kernel
theorem dX12_tell_46 : decode cX12_tell 46 = .ok (.invokevirtual 261, 3) := by decide +kernel
theorem dX12_tell_49 : decode cX12_tell 49 = .ok (.aload_n 0, 1) := by decide +kernel
theorem dX12_tell_50 : decode cX12_tell 50 = .ok (.iload_n 1, 1) := by decide +kernel
theorem dX12_tell_51 : decode cX12_tell 51 = .ok (.iconst 0, 1) := by decide +kernel
theorem dX12_tell_52 : decode cX12_tell 52 = .ok (.invokevirtual 46, 3) := by decide +kernel
theorem dX12_tell_55 : decode cX12_tell 55 = .ok (.ireturn, 1) := by decide +kernel
theorem dX12_tie_0 : decode cX12_tie 0 = .ok (.aload_n 0, 1) := by decide +kernel
theorem dX12_tie_1 : decode cX12_tie 1 = .ok (.aload_n 0, 1) := by decide +kernel
theorem dX12_tie_2 : decode cX12_tie 2 = .ok (.iload_n 1, 1) := by decide +kernel
theorem dX12_tie_3 : decode cX12_tie 3 = .ok (.invokevirtual 280, 3) := by decide +kernel
theorem dX12_tie_6 : decode cX12_tie 6 = .ok (.ifCond .eq 11, 3) := by decide +kernel
theorem dX12_tie_9 : decode cX12_tie 9 = .ok (.aload_n 0, 1) := by decide +kernel
theorem dX12_tie_10 : decode cX12_tie 10 = .ok (.iload_n 2, 1) := by decide +kernel
theorem dX12_tie_11 : decode cX12_tie 11 = .ok (.invokevirtual 280, 3) := by decide +kernel
theorem dX12_tie_14 : decode cX12_tie 14 = .ok (.ifCond .ne 7, 3) := by decide +kernel
theorem dX12_tie_17 : decode cX12_tie 17 = .ok (.iconst 1, 1) := by decide +kernel
theorem dX12_tie_18 : decode cX12_tie 18 = .ok (.goto 23, 3) := by decide +kernel
theorem dX12_tie_21 : decode cX12_tie 21 = .ok (.iload_n 1, 1) := by decide +kernel
theorem dX12_tie_22 : decode cX12_tie 22 = .ok (.iload_n 2, 1) := by decide +kernel
theorem dX12_tie_23 : decode cX12_tie 23 = .ok (.if_icmp .eq 13, 3) := by decide +kernel
theorem dX12_tie_26 : decode cX12_tie 26 = .ok (.iload_n 3, 1) := by decide +kernel
theorem dX12_tie_27 : decode cX12_tie 27 = .ok (.iconst 0, 1) := by decide +kernel
theorem dX12_tie_28 : decode cX12_tie 28 = .ok (.bipush 9, 2) := by decide +kernel
theorem dX12_tie_30 : decode cX12_tie 30 = .ok (.invokestatic 42, 3) := by decide +kernel
theorem dX12_tie_33 : decode cX12_tie 33 = .ok (.ifCond .ne 7, 3) := by decide +kernel
theorem dX12_tie_36 : decode cX12_tie 36 = .ok (.iconst 2, 1) := by decide +kernel
theorem dX12_tie_37 : decode cX12_tie 37 = .ok (.goto 4, 3) := by decide +kernel
theorem dX12_tie_40 : decode cX12_tie 40 = .ok (.iconst 0, 1) := by decide +kernel
theorem dX12_tie_41 : decode cX12_tie 41 = .ok (.putfield 39, 3) := by decide +kernel
theorem dX12_tie_44 : decode cX12_tie 44 = .ok (.aload_n 0, 1) := by decide +kernel
theorem dX12_tie_45 : decode cX12_tie 45 = .ok (.getfield 39, 3) := by decide +kernel
theorem dX12_tie_48 : decode cX12_tie 48 = .ok (.ifCond .le 5, 3) := by decide +kernel
theorem dX12_tie_51 : decode cX12_tie 51 = .ok (.iconst 0, 1) := by decide +kernel
theorem dX12_tie_52 : decode cX12_tie 52 = .ok (.ireturn, 1) := by decide +kernel
theorem dX12_tie_53 : decode cX12_tie 53 = .ok (.aload_n 0, 1) := by decide +kernel
theorem dX12_tie_54 : decode cX12_tie 54 = .ok (.invokevirtual 289, 3) := by decide +kernel
theorem dX12_tie_57 : decode cX12_tie 57 = .ok (.aload_n 0, 1) := by decide +kernel
theorem dX12_tie_58 : decode cX12_tie 58 = .ok (.iload_n 1, 1) := by decide +kernel
theorem dX12_tie_59 : decode cX12_tie 59 = .ok (.iload_n 2, 1) := by decide +kernel
theorem dX12_tie_60 : decode cX12_tie 60 = .ok (.invokevirtual 71, 3) := by decide +kernel
theorem dX12_tie_63 : decode cX12_tie 63 = .ok (.istore 4, 2) := by decide +kernel
theorem dX12_tie_65 : decode cX12_tie 65 = .ok (.aload_n 0, 1) := by decide +kernel
theorem dX12_tie_66 : decode cX12_tie 66 = .ok (.getfield 7, 3) := by decide +kernel
theorem dX12_tie_69 : decode cX12_tie 69 = .ok (.bipush 51, 2) := by decide +kernel
theorem dX12_tie_71 : decode cX12_tie 71 = .ok (.bipush 8, 2) := by decide +kernel
theorem dX12_tie_73 : decode cX12_tie 73 = .ok (.iload_n 1, 1) := by decide +kernel
theorem dX12_tie_74 : decode cX12_tie 74 = .ok (.imul, 1) := by decide +kernel
theorem dX12_tie_75 : decode cX12_tie 75 = .ok (.iadd, 1) := by decide +kernel
theorem dX12_tie_76 : decode cX12_tie 76 = .ok (.iload_n 2, 1) := by decide +kernel
theorem dX12_tie_77 : decode cX12_tie 77 = .ok (.iadd, 1) := by decide +kernel
theorem dX12_tie_78 : decode cX12_tie 78 = .ok (.iload_n 3, 1) := by decide +kernel
theorem dX12_tie_79 : decode cX12_tie 79 = .ok (.iastore, 1) := by decide +kernel
theorem dX12_tie_80 : decode cX12_tie 80 = .ok (.iload 4, 2) := by decide +kernel
theorem dX12_tie_82 : decode cX12_tie 82 = .ok (.ireturn, 1) := by decide +kernel
theorem dX12_plan_0 : decode cX12_plan 0 = .ok (.aload_n 0, 1) := by decide +kernel
theorem dX12_plan_1 : decode cX12_plan 1 = .ok (.aload_n 0, 1) := by decide +kernel
theorem dX12_plan_2 : decode cX12_plan 2 = .ok (.iload_n 1, 1) := by decide +kernel
theorem dX12_plan_3 : decode cX12_plan 3 = .ok (.invokevirtual 286, 3) := by decide +kernel
theorem dX12_plan_6 : decode cX12_plan 6 = .ok (.ifCond .ne 7, 3) := by decide +kernel
theorem dX12_plan_9 : decode cX12_plan 9 = .ok (.iconst 1, 1) := by decide +kernel
theorem dX12_plan_10 : decode cX12_plan 10 = .ok (.goto 18, 3) := by decide +kernel
theorem dX12_plan_13 : decode cX12_plan 13 = .ok (.aload_n 0, 1) := by decide +kernel
theorem dX12_plan_14 : decode cX12_plan 14 = .ok (.iload_n 1, 1) := by decide +kernel
theorem dX12_plan_15 : decode cX12_plan 15 = .ok (.iconst 3, 1) := by decide +kernel
theorem dX12_plan_16 : decode cX12_plan 16 = .ok (.invokevirtual 68, 3) := by decide +kernel
theorem dX12_plan_19 : decode cX12_plan 19 = .ok (.iconst 2, 1) := by decide +kernel
theorem dX12_plan_20 : decode cX12_plan 20 = .ok (.if_icmp .eq 7, 3) := by decide +kernel
theorem dX12_plan_23 : decode cX12_plan 23 = .ok (.iconst 2, 1) := by decide +kernel
theorem dX12_plan_24 : decode cX12_plan 24 = .ok (.goto 4, 3) := by decide +kernel
theorem dX12_plan_27 : decode cX12_plan 27 = .ok (.iconst 0, 1) := by decide +kernel
theorem dX12_plan_28 : decode cX12_plan 28 = .ok (.putfield 39, 3) := by decide +kernel
theorem dX12_plan_31 : decode cX12_plan 31 = .ok (.aload_n 0, 1) := by decide +kernel
theorem dX12_plan_32 : decode cX12_plan 32 = .ok (.getfield 39, 3) := by decide +kernel
theorem dX12_plan_35 : decode cX12_plan 35 = .ok (.ifCond .le 4, 3) := by decide +kernel
theorem dX12_plan_38 : decode cX12_plan 38 = .ok (.return_, 1) := by decide +kernel
theorem dX12_plan_39 : decode cX12_plan 39 = .ok (.aload_n 0, 1) := by decide +kernel
theorem dX12_plan_40 : decode cX12_plan 40 = .ok (.invokevirtual 289, 3) := by decide +kernel
theorem dX12_plan_43 : decode cX12_plan 43 = .ok (.aload_n 0, 1) := by decide +kernel
theorem dX12_plan_44 : decode cX12_plan 44 = .ok (.iload_n 1, 1) := by decide +kernel
theorem dX12_plan_45 : decode cX12_plan 45 = .ok (.iconst 3, 1) := by decide +kernel
theorem dX12_plan_46 : decode cX12_plan 46 = .ok (.iconst 0, 1) := by decide +kernel
theorem dX12_plan_47 : decode cX12_plan 47 = .ok (.invokevirtual 131, 3) := by decide +kernel
theorem dX12_plan_50 : decode cX12_plan 50 = .ok (.return_, 1) := by decide +kernel
theorem dX12_send_0 : decode cX12_send 0 = .ok (.aload_n 0, 1) := by decide +kernel
theorem dX12_send_1 : decode cX12_send 1 = .ok (.aload_n 0, 1) := by decide +kernel
theorem dX12_send_2 : decode cX12_send 2 = .ok (.iload_n 1, 1) := by decide +kernel
theorem dX12_send_3 : decode cX12_send 3 = .ok (.invokevirtual 280, 3) := by decide +kernel
theorem dX12_send_6 : decode cX12_send 6 = .ok (.ifCond .ne 7, 3) := by decide +kernel
theorem dX12_send_9 : decode cX12_send 9 = .ok (.iconst 1, 1) := by decide +kernel
theorem dX12_send_10 : decode cX12_send 10 = .ok (.goto 16, 3) := by decide +kernel
theorem dX12_send_13 : decode cX12_send 13 = .ok (.aload_n 0, 1) := by decide +kernel
theorem dX12_send_14 : decode cX12_send 14 = .ok (.iload_n 1, 1) := by decide +kernel
theorem dX12_send_15 : decode cX12_send 15 = .ok (.invokevirtual 50, 3) := by decide +kernel
theorem dX12_send_18 : decode cX12_send 18 = .ok (.ifCond .ne 7, 3) := by decide +kernel
theorem dX12_send_21 : decode cX12_send 21 = .ok (.iconst 2, 1) := by decide +kernel
theorem dX12_send_22 : decode cX12_send 22 = .ok (.goto 4, 3) := by decide +kernel
theorem dX12_send_25 : decode cX12_send 25 = .ok (.iconst 0, 1) := by decide +kernel
theorem dX12_send_26 : decode cX12_send 26 = .ok (.putfield 39, 3) := by decide +kernel
theorem dX12_send_29 : decode cX12_send 29 = .ok (.aload_n 0, 1) := by decide +kernel
theorem dX12_send_30 : decode cX12_send 30 = .ok (.getfield 39, 3) := by decide +kernel
theorem dX12_send_33 : decode cX12_send 33 = .ok (.ifCond .le 5, 3) := by decide +kernel
theorem dX12_send_36 : decode cX12_send 36 = .ok (.iconst 0, 1) := by decide +kernel
theorem dX12_send_37 : decode cX12_send 37 = .ok (.ireturn, 1) := by decide +kernel
theorem dX12_send_38 : decode cX12_send 38 = .ok (.aload_n 0, 1) := by decide +kernel
theorem dX12_send_39 : decode cX12_send 39 = .ok (.invokevirtual 289, 3) := by decide +kernel
theorem dX12_send_42 : decode cX12_send 42 = .ok (.aload_n 0, 1) := by decide +kernel
theorem dX12_send_43 : decode cX12_send 43 = .ok (.iload_n 1, 1) := by decide +kernel
theorem dX12_send_44 : decode cX12_send 44 = .ok (.iconst 4, 1) := by decide +kernel
theorem dX12_send_45 : decode cX12_send 45 = .ok (.aload_n 0, 1) := by decide +kernel
theorem dX12_send_46 : decode cX12_send 46 = .ok (.getfield 7, 3) := by decide +kernel
theorem dX12_send_49 : decode cX12_send 49 = .ok (.bipush 8, 2) := by decide +kernel
theorem dX12_send_51 : decode cX12_send 51 = .ok (.iaload, 1) := by decide +kernel
theorem dX12_send_52 : decode cX12_send 52 = .ok (.aload_n 0, 1) := by decide +kernel
theorem dX12_send_53 : decode cX12_send 53 = .ok (.getfield 7, 3) := by decide +kernel
theorem dX12_send_56 : decode cX12_send 56 = .ok (.bipush 6, 2) := by decide +kernel
theorem dX12_send_58 : decode cX12_send 58 = .ok (.iaload, 1) := by decide +kernel
theorem dX12_send_59 : decode cX12_send 59 = .ok (.iadd, 1) := by decide +kernel
theorem dX12_send_60 : decode cX12_send 60 = .ok (.invokevirtual 123, 3) := by decide +kernel
theorem dX12_send_63 : decode cX12_send 63 = .ok (.aload_n 0, 1) := by decide +kernel
theorem dX12_send_64 : decode cX12_send 64 = .ok (.iload_n 1, 1) := by decide +kernel
theorem dX12_send_65 : decode cX12_send 65 = .ok (.iconst 4, 1) := by decide +kernel
theorem dX12_send_66 : decode cX12_send 66 = .ok (.invokevirtual 46, 3) := by decide +kernel
theorem dX12_send_69 : decode cX12_send 69 = .ok (.ireturn, 1) := by decide +kernel
theorem dX12_buy_0 : decode cX12_buy 0 = .ok (.aload_n 0, 1) := by decide +kernel
theorem dX12_buy_1 : decode cX12_buy 1 = .ok (.aload_n 0, 1) := by decide +kernel
theorem dX12_buy_2 : decode cX12_buy 2 = .ok (.iload_n 1, 1) := by decide +kernel
theorem dX12_buy_3 : decode cX12_buy 3 = .ok (.invokevirtual 280, 3) := by decide +kernel
theorem dX12_buy_6 : decode cX12_buy 6 = .ok (.ifCond .ne 7, 3) := by decide +kernel
theorem dX12_buy_9 : decode cX12_buy 9 = .ok (.iconst 1, 1) := by decide +kernel
theorem dX12_buy_10 : decode cX12_buy 10 = .ok (.goto 50, 3) := by decide +kernel
theorem dX12_buy_13 : decode cX12_buy 13 = .ok (.iload_n 2, 1) := by decide +kernel
theorem dX12_buy_14 : decode cX12_buy 14 = .ok (.iconst 1, 1) := by decide +kernel
theorem dX12_buy_15 : decode cX12_buy 15 = .ok (.bipush 99, 2) := by decide +kernel
theorem dX12_buy_17 : decode cX12_buy 17 = .ok (.invokestatic 42, 3) := by decide +kernel
theorem dX12_buy_20 : decode cX12_buy 20 = .ok (.ifCond .ne 7, 3) := by decide +kernel
theorem dX12_buy_23 : decode cX12_buy 23 = .ok (.iconst 2, 1) := by decide +kernel
theorem dX12_buy_24 : decode cX12_buy 24 = .ok (.goto 36, 3) := by decide +kernel
theorem dX12_buy_27 : decode cX12_buy 27 = .ok (.aload_n 0, 1) := by decide +kernel
theorem dX12_buy_28 : decode cX12_buy 28 = .ok (.iload_n 1, 1) := by decide +kernel
theorem dX12_buy_29 : decode cX12_buy 29 = .ok (.iconst 2, 1) := by decide +kernel
theorem dX12_buy_30 : decode cX12_buy 30 = .ok (.invokevirtual 46, 3) := by decide +kernel
theorem dX12_buy_33 : decode cX12_buy 33 = .ok (.iload_n 2, 1) := by decide +kernel
theorem dX12_buy_34 : decode cX12_buy 34 = .ok (.iadd, 1) := by decide +kernel
theorem dX12_buy_35 : decode cX12_buy 35 = .ok (.bipush 99, 2) := by decide +kernel
theorem dX12_buy_37 : decode cX12_buy 37 = .ok (.if_icmp .gt 18, 3) := by decide +kernel
theorem dX12_buy_40 : decode cX12_buy 40 = .ok (.aload_n 0, 1) := by decide +kernel
theorem dX12_buy_41 : decode cX12_buy 41 = .ok (.iload_n 1, 1) := by decide +kernel
theorem dX12_buy_42 : decode cX12_buy 42 = .ok (.iconst 1, 1) := by decide +kernel
theorem dX12_buy_43 : decode cX12_buy 43 = .ok (.invokevirtual 46, 3) := by decide +kernel
theorem dX12_buy_46 : decode cX12_buy 46 = .ok (.iload_n 2, 1) := by decide +kernel
theorem dX12_buy_47 : decode cX12_buy 47 = .ok (.aload_n 0, 1) := by decide +kernel
theorem dX12_buy_48 : decode cX12_buy 48 = .ok (.invokevirtual 277, 3) := by decide +kernel
