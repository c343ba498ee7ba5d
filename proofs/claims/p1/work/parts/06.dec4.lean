theorem dJ6_bitCount_0f7a4_47 : decode cJ6_bitCount_0f7a4 47 = .ok (.istore_n 0, 1) := by decide +kernel
theorem dJ6_bitCount_0f7a4_48 : decode cJ6_bitCount_0f7a4 48 = .ok (.iload_n 0, 1) := by decide +kernel
theorem dJ6_bitCount_0f7a4_49 : decode cJ6_bitCount_0f7a4 49 = .ok (.bipush 63, 2) := by decide +kernel
theorem dJ6_bitCount_0f7a4_51 : decode cJ6_bitCount_0f7a4 51 = .ok (.iand, 1) := by decide +kernel
theorem dJ6_bitCount_0f7a4_52 : decode cJ6_bitCount_0f7a4 52 = .ok (.ireturn, 1) := by decide +kernel
theorem dL_town_0 : decode cL_town 0 = .ok (.aload_n 1, 1) := by decide +kernel
theorem dL_town_1 : decode cL_town 1 = .ok (.iconst 0, 1) := by decide +kernel
theorem dL_town_2 : decode cL_town 2 = .ok (.aload_n 0, 1) := by decide +kernel
theorem dL_town_3 : decode cL_town 3 = .ok (.invokevirtual 7, 3) := by decide +kernel
theorem dL_town_6 : decode cL_town 6 = .ok (.i2l, 1) := by decide +kernel
theorem dL_town_7 : decode cL_town 7 = .ok (.lastore, 1) := by decide +kernel
theorem dL_town_8 : decode cL_town 8 = .ok (.goto 9, 3) := by decide +kernel
theorem dL_town_11 : decode cL_town 11 = .ok (.astore_n 2, 1) := by decide +kernel
theorem dL_town_12 : decode cL_town 12 = .ok (.iconst 1, 1) := by decide +kernel
theorem dL_town_13 : decode cL_town 13 = .ok (.ireturn, 1) := by decide +kernel
theorem dL_town_14 : decode cL_town 14 = .ok (.astore_n 2, 1) := by decide +kernel
theorem dL_town_15 : decode cL_town 15 = .ok (.iconst 2, 1) := by decide +kernel
theorem dL_town_16 : decode cL_town 16 = .ok (.ireturn, 1) := by decide +kernel
theorem dL_town_17 : decode cL_town 17 = .ok (.iconst 0, 1) := by decide +kernel
theorem dL_town_18 : decode cL_town 18 = .ok (.ireturn, 1) := by decide +kernel
theorem dL_law_0 : decode cL_law 0 = .ok (.aload_n 1, 1) := by decide +kernel
theorem dL_law_1 : decode cL_law 1 = .ok (.iconst 0, 1) := by decide +kernel
theorem dL_law_2 : decode cL_law 2 = .ok (.aload_n 0, 1) := by decide +kernel
theorem dL_law_3 : decode cL_law 3 = .ok (.invokevirtual 17, 3) := by decide +kernel
theorem dL_law_6 : decode cL_law 6 = .ok (.i2l, 1) := by decide +kernel
theorem dL_law_7 : decode cL_law 7 = .ok (.lastore, 1) := by decide +kernel
theorem dL_law_8 : decode cL_law 8 = .ok (.goto 6, 3) := by decide +kernel
theorem dL_law_11 : decode cL_law 11 = .ok (.astore_n 2, 1) := by decide +kernel
theorem dL_law_12 : decode cL_law 12 = .ok (.iconst 1, 1) := by decide +kernel
theorem dL_law_13 : decode cL_law 13 = .ok (.ireturn, 1) := by decide +kernel
theorem dL_law_14 : decode cL_law 14 = .ok (.iconst 0, 1) := by decide +kernel
theorem dL_law_15 : decode cL_law 15 = .ok (.ireturn, 1) := by decide +kernel
theorem dL_person_0 : decode cL_person 0 = .ok (.aload_n 3, 1) := by decide +kernel
theorem dL_person_1 : decode cL_person 1 = .ok (.iconst 0, 1) := by decide +kernel
theorem dL_person_2 : decode cL_person 2 = .ok (.aload_n 0, 1) := by decide +kernel
theorem dL_person_3 : decode cL_person 3 = .ok (.iload_n 1, 1) := by decide +kernel
theorem dL_person_4 : decode cL_person 4 = .ok (.iload_n 2, 1) := by decide +kernel
theorem dL_person_5 : decode cL_person 5 = .ok (.invokevirtual 20, 3) := by decide +kernel
theorem dL_person_8 : decode cL_person 8 = .ok (.i2l, 1) := by decide +kernel
theorem dL_person_9 : decode cL_person 9 = .ok (.lastore, 1) := by decide +kernel
theorem dL_person_10 : decode cL_person 10 = .ok (.goto 11, 3) := by decide +kernel
theorem dL_person_13 : decode cL_person 13 = .ok (.astore 4, 2) := by decide +kernel
theorem dL_person_15 : decode cL_person 15 = .ok (.iconst 1, 1) := by decide +kernel
theorem dL_person_16 : decode cL_person 16 = .ok (.ireturn, 1) := by decide +kernel
theorem dL_person_17 : decode cL_person 17 = .ok (.astore 4, 2) := by decide +kernel
theorem dL_person_19 : decode cL_person 19 = .ok (.iconst 2, 1) := by decide +kernel
theorem dL_person_20 : decode cL_person 20 = .ok (.ireturn, 1) := by decide +kernel
theorem dL_person_21 : decode cL_person 21 = .ok (.iconst 0, 1) := by decide +kernel
theorem dL_person_22 : decode cL_person 22 = .ok (.ireturn, 1) := by decide +kernel
theorem dL_trust_0 : decode cL_trust 0 = .ok (.aload_n 3, 1) := by decide +kernel
theorem dL_trust_1 : decode cL_trust 1 = .ok (.iconst 0, 1) := by decide +kernel
theorem dL_trust_2 : decode cL_trust 2 = .ok (.aload_n 0, 1) := by decide +kernel
theorem dL_trust_3 : decode cL_trust 3 = .ok (.iload_n 1, 1) := by decide +kernel
theorem dL_trust_4 : decode cL_trust 4 = .ok (.iload_n 2, 1) := by decide +kernel
theorem dL_trust_5 : decode cL_trust 5 = .ok (.invokevirtual 28, 3) := by decide +kernel
theorem dL_trust_8 : decode cL_trust 8 = .ok (.i2l, 1) := by decide +kernel
theorem dL_trust_9 : decode cL_trust 9 = .ok (.lastore, 1) := by decide +kernel
theorem dL_trust_10 : decode cL_trust 10 = .ok (.goto 11, 3) := by decide +kernel
theorem dL_trust_13 : decode cL_trust 13 = .ok (.astore 4, 2) := by decide +kernel
theorem dL_trust_15 : decode cL_trust 15 = .ok (.iconst 1, 1) := by decide +kernel
theorem dL_trust_16 : decode cL_trust 16 = .ok (.ireturn, 1) := by decide +kernel
theorem dL_trust_17 : decode cL_trust 17 = .ok (.astore 4, 2) := by decide +kernel
theorem dL_trust_19 : decode cL_trust 19 = .ok (.iconst 2, 1) := by decide +kernel
theorem dL_trust_20 : decode cL_trust 20 = .ok (.ireturn, 1) := by decide +kernel
theorem dL_trust_21 : decode cL_trust 21 = .ok (.iconst 0, 1) := by decide +kernel
theorem dL_trust_22 : decode cL_trust 22 = .ok (.ireturn, 1) := by decide +kernel
theorem dL_work_0 : decode cL_work 0 = .ok (.aload_n 3, 1) := by decide +kernel
theorem dL_work_1 : decode cL_work 1 = .ok (.iconst 0, 1) := by decide +kernel
theorem dL_work_2 : decode cL_work 2 = .ok (.aload_n 0, 1) := by decide +kernel
theorem dL_work_3 : decode cL_work 3 = .ok (.iload_n 1, 1) := by decide +kernel
theorem dL_work_4 : decode cL_work 4 = .ok (.iload_n 2, 1) := by decide +kernel
theorem dL_work_5 : decode cL_work 5 = .ok (.invokevirtual 31, 3) := by decide +kernel
theorem dL_work_8 : decode cL_work 8 = .ok (.i2l, 1) := by decide +kernel
theorem dL_work_9 : decode cL_work 9 = .ok (.lastore, 1) := by decide +kernel
theorem dL_work_10 : decode cL_work 10 = .ok (.goto 11, 3) := by decide +kernel
theorem dL_work_13 : decode cL_work 13 = .ok (.astore 4, 2) := by decide +kernel
theorem dL_work_15 : decode cL_work 15 = .ok (.iconst 1, 1) := by decide +kernel
theorem dL_work_16 : decode cL_work 16 = .ok (.ireturn, 1) := by decide +kernel
theorem dL_work_17 : decode cL_work 17 = .ok (.astore 4, 2) := by decide +kernel
theorem dL_work_19 : decode cL_work 19 = .ok (.iconst 2, 1) := by decide +kernel
theorem dL_work_20 : decode cL_work 20 = .ok (.ireturn, 1) := by decide +kernel
theorem dL_work_21 : decode cL_work 21 = .ok (.iconst 0, 1) := by decide +kernel
theorem dL_work_22 : decode cL_work 22 = .ok (.ireturn, 1) := by decide +kernel
theorem dL_tell_0 : decode cL_tell 0 = .ok (.aload_n 2, 1) := by decide +kernel
theorem dL_tell_1 : decode cL_tell 1 = .ok (.iconst 0, 1) := by decide +kernel
theorem dL_tell_2 : decode cL_tell 2 = .ok (.aload_n 0, 1) := by decide +kernel
theorem dL_tell_3 : decode cL_tell 3 = .ok (.iload_n 1, 1) := by decide +kernel
theorem dL_tell_4 : decode cL_tell 4 = .ok (.invokevirtual 34, 3) := by decide +kernel
theorem dL_tell_7 : decode cL_tell 7 = .ok (.i2l, 1) := by decide +kernel
theorem dL_tell_8 : decode cL_tell 8 = .ok (.lastore, 1) := by decide +kernel
theorem dL_tell_9 : decode cL_tell 9 = .ok (.goto 9, 3) := by decide +kernel
theorem dL_tell_12 : decode cL_tell 12 = .ok (.astore_n 3, 1) := by decide +kernel
theorem dL_tell_13 : decode cL_tell 13 = .ok (.iconst 1, 1) := by decide +kernel
theorem dL_tell_14 : decode cL_tell 14 = .ok (.ireturn, 1) := by decide +kernel
theorem dL_tell_15 : decode cL_tell 15 = .ok (.astore_n 3, 1) := by decide +kernel
theorem dL_tell_16 : decode cL_tell 16 = .ok (.iconst 2, 1) := by decide +kernel
theorem dL_tell_17 : decode cL_tell 17 = .ok (.ireturn, 1) := by decide +kernel
theorem dL_tell_18 : decode cL_tell 18 = .ok (.iconst 0, 1) := by decide +kernel
theorem dL_tell_19 : decode cL_tell 19 = .ok (.ireturn, 1) := by decide +kernel
theorem dL_tie_0 : decode cL_tie 0 = .ok (.aload 4, 2) := by decide +kernel
theorem dL_tie_2 : decode cL_tie 2 = .ok (.iconst 0, 1) := by decide +kernel
theorem dL_tie_3 : decode cL_tie 3 = .ok (.aload_n 0, 1) := by decide +kernel
theorem dL_tie_4 : decode cL_tie 4 = .ok (.iload_n 1, 1) := by decide +kernel
theorem dL_tie_5 : decode cL_tie 5 = .ok (.iload_n 2, 1) := by decide +kernel
theorem dL_tie_6 : decode cL_tie 6 = .ok (.iload_n 3, 1) := by decide +kernel
theorem dL_tie_7 : decode cL_tie 7 = .ok (.invokevirtual 40, 3) := by decide +kernel
theorem dL_tie_10 : decode cL_tie 10 = .ok (.i2l, 1) := by decide +kernel
theorem dL_tie_11 : decode cL_tie 11 = .ok (.lastore, 1) := by decide +kernel
theorem dL_tie_12 : decode cL_tie 12 = .ok (.goto 11, 3) := by decide +kernel
theorem dL_tie_15 : decode cL_tie 15 = .ok (.astore 5, 2) := by decide +kernel
theorem dL_tie_17 : decode cL_tie 17 = .ok (.iconst 1, 1) := by decide +kernel
theorem dL_tie_18 : decode cL_tie 18 = .ok (.ireturn, 1) := by decide +kernel
theorem dL_tie_19 : decode cL_tie 19 = .ok (.astore 5, 2) := by decide +kernel
theorem dL_tie_21 : decode cL_tie 21 = .ok (.iconst 2, 1) := by decide +kernel
theorem dL_tie_22 : decode cL_tie 22 = .ok (.ireturn, 1) := by decide +kernel
theorem dL_tie_23 : decode cL_tie 23 = .ok (.iconst 0, 1) := by decide +kernel
theorem dL_tie_24 : decode cL_tie 24 = .ok (.ireturn, 1) := by decide +kernel
theorem dL_plan_0 : decode cL_plan 0 = .ok (.aload_n 0, 1) := by decide +kernel
theorem dL_plan_1 : decode cL_plan 1 = .ok (.iload_n 1, 1) := by decide +kernel
theorem dL_plan_2 : decode cL_plan 2 = .ok (.invokevirtual 44, 3) := by decide +kernel
theorem dL_plan_5 : decode cL_plan 5 = .ok (.goto 9, 3) := by decide +kernel
theorem dL_plan_8 : decode cL_plan 8 = .ok (.astore_n 2, 1) := by decide +kernel
theorem dL_plan_9 : decode cL_plan 9 = .ok (.iconst 1, 1) := by decide +kernel
theorem dL_plan_10 : decode cL_plan 10 = .ok (.ireturn, 1) := by decide +kernel
theorem dL_plan_11 : decode cL_plan 11 = .ok (.astore_n 2, 1) := by decide +kernel
theorem dL_plan_12 : decode cL_plan 12 = .ok (.iconst 2, 1) := by decide +kernel
theorem dL_plan_13 : decode cL_plan 13 = .ok (.ireturn, 1) := by decide +kernel
theorem dL_plan_14 : decode cL_plan 14 = .ok (.iconst 0, 1) := by decide +kernel
theorem dL_plan_15 : decode cL_plan 15 = .ok (.ireturn, 1) := by decide +kernel
theorem dL_send_0 : decode cL_send 0 = .ok (.aload_n 2, 1) := by decide +kernel
theorem dL_send_1 : decode cL_send 1 = .ok (.iconst 0, 1) := by decide +kernel
theorem dL_send_2 : decode cL_send 2 = .ok (.aload_n 0, 1) := by decide +kernel
theorem dL_send_3 : decode cL_send 3 = .ok (.iload_n 1, 1) := by decide +kernel
theorem dL_send_4 : decode cL_send 4 = .ok (.invokevirtual 48, 3) := by decide +kernel
theorem dL_send_7 : decode cL_send 7 = .ok (.i2l, 1) := by decide +kernel
theorem dL_send_8 : decode cL_send 8 = .ok (.lastore, 1) := by decide +kernel
theorem dL_send_9 : decode cL_send 9 = .ok (.goto 9, 3) := by decide +kernel
theorem dL_send_12 : decode cL_send 12 = .ok (.astore_n 3, 1) := by decide +kernel
theorem dL_send_13 : decode cL_send 13 = .ok (.iconst 1, 1) := by decide +kernel
theorem dL_send_14 : decode cL_send 14 = .ok (.ireturn, 1) := by decide +kernel
theorem dL_send_15 : decode cL_send 15 = .ok (.astore_n 3, 1) := by decide +kernel
theorem dL_send_16 : decode cL_send 16 = .ok (.iconst 2, 1) := by decide +kernel
theorem dL_send_17 : decode cL_send 17 = .ok (.ireturn, 1) := by decide +kernel
theorem dL_send_18 : decode cL_send 18 = .ok (.iconst 0, 1) := by decide +kernel
theorem dL_send_19 : decode cL_send 19 = .ok (.ireturn, 1) := by decide +kernel
theorem dL_buy_0 : decode cL_buy 0 = .ok (.aload_n 3, 1) := by decide +kernel
theorem dL_buy_1 : decode cL_buy 1 = .ok (.iconst 0, 1) := by decide +kernel
theorem dL_buy_2 : decode cL_buy 2 = .ok (.aload_n 0, 1) := by decide +kernel
theorem dL_buy_3 : decode cL_buy 3 = .ok (.iload_n 1, 1) := by decide +kernel
theorem dL_buy_4 : decode cL_buy 4 = .ok (.iload_n 2, 1) := by decide +kernel
theorem dL_buy_5 : decode cL_buy 5 = .ok (.invokevirtual 51, 3) := by decide +kernel
theorem dL_buy_8 : decode cL_buy 8 = .ok (.i2l, 1) := by decide +kernel
theorem dL_buy_9 : decode cL_buy 9 = .ok (.lastore, 1) := by decide +kernel
theorem dL_buy_10 : decode cL_buy 10 = .ok (.goto 15, 3) := by decide +kernel
theorem dL_buy_13 : decode cL_buy 13 = .ok (.astore 4, 2) := by decide +kernel
theorem dL_buy_15 : decode cL_buy 15 = .ok (.iconst 1, 1) := by decide +kernel
theorem dL_buy_16 : decode cL_buy 16 = .ok (.ireturn, 1) := by decide +kernel
theorem dL_buy_17 : decode cL_buy 17 = .ok (.astore 4, 2) := by decide +kernel
theorem dL_buy_19 : decode cL_buy 19 = .ok (.iconst 2, 1) := by decide +kernel
theorem dL_buy_20 : decode cL_buy 20 = .ok (.ireturn, 1) := by decide +kernel
theorem dL_buy_21 : decode cL_buy 21 = .ok (.astore 4, 2) := by decide +kernel
theorem dL_buy_23 : decode cL_buy 23 = .ok (.iconst 3, 1) := by decide +kernel
theorem dL_buy_24 : decode cL_buy 24 = .ok (.ireturn, 1) := by decide +kernel
theorem dL_buy_25 : decode cL_buy 25 = .ok (.iconst 0, 1) := by decide +kernel
theorem dL_buy_26 : decode cL_buy 26 = .ok (.ireturn, 1) := by decide +kernel
theorem dL_sell_0 : decode cL_sell 0 = .ok (.aload_n 3, 1) := by decide +kernel
theorem dL_sell_1 : decode cL_sell 1 = .ok (.iconst 0, 1) := by decide +kernel
theorem dL_sell_2 : decode cL_sell 2 = .ok (.aload_n 0, 1) := by decide +kernel
theorem dL_sell_3 : decode cL_sell 3 = .ok (.iload_n 1, 1) := by decide +kernel
theorem dL_sell_4 : decode cL_sell 4 = .ok (.iload_n 2, 1) := by decide +kernel
theorem dL_sell_5 : decode cL_sell 5 = .ok (.invokevirtual 54, 3) := by decide +kernel
theorem dL_sell_8 : decode cL_sell 8 = .ok (.i2l, 1) := by decide +kernel
theorem dL_sell_9 : decode cL_sell 9 = .ok (.lastore, 1) := by decide +kernel
theorem dL_sell_10 : decode cL_sell 10 = .ok (.goto 15, 3) := by decide +kernel
theorem dL_sell_13 : decode cL_sell 13 = .ok (.astore 4, 2) := by decide +kernel
theorem dL_sell_15 : decode cL_sell 15 = .ok (.iconst 1, 1) := by decide +kernel
theorem dL_sell_16 : decode cL_sell 16 = .ok (.ireturn, 1) := by decide +kernel
theorem dL_sell_17 : decode cL_sell 17 = .ok (.astore 4, 2) := by decide +kernel
theorem dL_sell_19 : decode cL_sell 19 = .ok (.iconst 2, 1) := by decide +kernel
theorem dL_sell_20 : decode cL_sell 20 = .ok (.ireturn, 1) := by decide +kernel
theorem dL_sell_21 : decode cL_sell 21 = .ok (.astore 4, 2) := by decide +kernel
theorem dL_sell_23 : decode cL_sell 23 = .ok (.iconst 3, 1) := by decide +kernel
theorem dL_sell_24 : decode cL_sell 24 = .ok (.ireturn, 1) := by decide +kernel
theorem dL_sell_25 : decode cL_sell 25 = .ok (.iconst 0, 1) := by decide +kernel
theorem dL_sell_26 : decode cL_sell 26 = .ok (.ireturn, 1) := by decide +kernel
theorem dL_dry_0 : decode cL_dry 0 = .ok (.aload_n 3, 1) := by decide +kernel
theorem dL_dry_1 : decode cL_dry 1 = .ok (.iconst 0, 1) := by decide +kernel
theorem dL_dry_2 : decode cL_dry 2 = .ok (.aload_n 0, 1) := by decide +kernel
theorem dL_dry_3 : decode cL_dry 3 = .ok (.iload_n 1, 1) := by decide +kernel
theorem dL_dry_4 : decode cL_dry 4 = .ok (.iload_n 2, 1) := by decide +kernel
theorem dL_dry_5 : decode cL_dry 5 = .ok (.invokevirtual 57, 3) := by decide +kernel
theorem dL_dry_8 : decode cL_dry 8 = .ok (.ifCond .eq 7, 3) := by decide +kernel
theorem dL_dry_11 : decode cL_dry 11 = .ok (.lconst 1, 1) := by decide +kernel
theorem dL_dry_12 : decode cL_dry 12 = .ok (.goto 4, 3) := by decide +kernel
theorem dL_dry_15 : decode cL_dry 15 = .ok (.lconst 0, 1) := by decide +kernel
theorem dL_dry_16 : decode cL_dry 16 = .ok (.lastore, 1) := by decide +kernel
theorem dL_dry_17 : decode cL_dry 17 = .ok (.goto 7, 3) := by decide +kernel
theorem dL_dry_20 : decode cL_dry 20 = .ok (.astore 4, 2) := by decide +kernel
theorem dL_dry_22 : decode cL_dry 22 = .ok (.iconst 1, 1) := by decide +kernel
theorem dL_dry_23 : decode cL_dry 23 = .ok (.ireturn, 1) := by decide +kernel
theorem dL_dry_24 : decode cL_dry 24 = .ok (.iconst 0, 1) := by decide +kernel
theorem dL_dry_25 : decode cL_dry 25 = .ok (.ireturn, 1) := by decide +kernel
theorem dL_days_0 : decode cL_days 0 = .ok (.aload_n 2, 1) := by decide +kernel
theorem dL_days_1 : decode cL_days 1 = .ok (.iconst 0, 1) := by decide +kernel
theorem dL_days_2 : decode cL_days 2 = .ok (.aload_n 0, 1) := by decide +kernel
theorem dL_days_3 : decode cL_days 3 = .ok (.iload_n 1, 1) := by decide +kernel
theorem dL_days_4 : decode cL_days 4 = .ok (.invokevirtual 61, 3) := by decide +kernel
theorem dL_days_7 : decode cL_days 7 = .ok (.i2l, 1) := by decide +kernel
theorem dL_days_8 : decode cL_days 8 = .ok (.lastore, 1) := by decide +kernel
theorem dL_days_9 : decode cL_days 9 = .ok (.goto 6, 3) := by decide +kernel
theorem dL_days_12 : decode cL_days 12 = .ok (.astore_n 3, 1) := by decide +kernel
theorem dL_days_13 : decode cL_days 13 = .ok (.iconst 1, 1) := by decide +kernel
theorem dL_days_14 : decode cL_days 14 = .ok (.ireturn, 1) := by decide +kernel
theorem dL_days_15 : decode cL_days 15 = .ok (.iconst 0, 1) := by decide +kernel
theorem dL_days_16 : decode cL_days 16 = .ok (.ireturn, 1) := by decide +kernel
theorem dL_ahead_0 : decode cL_ahead 0 = .ok (.aload_n 3, 1) := by decide +kernel
theorem dL_ahead_1 : decode cL_ahead 1 = .ok (.iconst 0, 1) := by decide +kernel
theorem dL_ahead_2 : decode cL_ahead 2 = .ok (.aload_n 0, 1) := by decide +kernel
theorem dL_ahead_3 : decode cL_ahead 3 = .ok (.iload_n 1, 1) := by decide +kernel
theorem dL_ahead_4 : decode cL_ahead 4 = .ok (.iload_n 2, 1) := by decide +kernel
theorem dL_ahead_5 : decode cL_ahead 5 = .ok (.invokevirtual 64, 3) := by decide +kernel
theorem dL_ahead_8 : decode cL_ahead 8 = .ok (.i2l, 1) := by decide +kernel
theorem dL_ahead_9 : decode cL_ahead 9 = .ok (.lastore, 1) := by decide +kernel
theorem dL_ahead_10 : decode cL_ahead 10 = .ok (.goto 11, 3) := by decide +kernel
theorem dL_ahead_13 : decode cL_ahead 13 = .ok (.astore 4, 2) := by decide +kernel
theorem dL_ahead_15 : decode cL_ahead 15 = .ok (.iconst 1, 1) := by decide +kernel
theorem dL_ahead_16 : decode cL_ahead 16 = .ok (.ireturn, 1) := by decide +kernel
theorem dL_ahead_17 : decode cL_ahead 17 = .ok (.astore 4, 2) := by decide +kernel
theorem dL_ahead_19 : decode cL_ahead 19 = .ok (.iconst 2, 1) := by decide +kernel
theorem dL_ahead_20 : decode cL_ahead 20 = .ok (.ireturn, 1) := by decide +kernel
theorem dL_ahead_21 : decode cL_ahead 21 = .ok (.iconst 0, 1) := by decide +kernel
theorem dL_ahead_22 : decode cL_ahead 22 = .ok (.ireturn, 1) := by decide +kernel
theorem dL_then_0 : decode cL_then 0 = .ok (.aload_n 3, 1) := by decide +kernel
theorem dL_then_1 : decode cL_then 1 = .ok (.iconst 0, 1) := by decide +kernel
theorem dL_then_2 : decode cL_then 2 = .ok (.aload_n 0, 1) := by decide +kernel
theorem dL_then_3 : decode cL_then 3 = .ok (.iload_n 1, 1) := by decide +kernel
theorem dL_then_4 : decode cL_then 4 = .ok (.iload_n 2, 1) := by decide +kernel
theorem dL_then_5 : decode cL_then 5 = .ok (.invokevirtual 67, 3) := by decide +kernel
theorem dL_then_8 : decode cL_then 8 = .ok (.i2l, 1) := by decide +kernel
theorem dL_then_9 : decode cL_then 9 = .ok (.lastore, 1) := by decide +kernel
theorem dL_then_10 : decode cL_then 10 = .ok (.goto 7, 3) := by decide +kernel
theorem dL_then_13 : decode cL_then 13 = .ok (.astore 4, 2) := by decide +kernel
theorem dL_then_15 : decode cL_then 15 = .ok (.iconst 1, 1) := by decide +kernel
theorem dL_then_16 : decode cL_then 16 = .ok (.ireturn, 1) := by decide +kernel
theorem dL_then_17 : decode cL_then 17 = .ok (.iconst 0, 1) := by decide +kernel
theorem dL_then_18 : decode cL_then 18 = .ok (.ireturn, 1) := by decide +kernel
theorem dL_sways_0 : decode cL_sways 0 = .ok (.aload_n 3, 1) := by decide +kernel
theorem dL_sways_1 : decode cL_sways 1 = .ok (.iconst 0, 1) := by decide +kernel
theorem dL_sways_2 : decode cL_sways 2 = .ok (.aload_n 0, 1) := by decide +kernel
theorem dL_sways_3 : decode cL_sways 3 = .ok (.iload_n 1, 1) := by decide +kernel
theorem dL_sways_4 : decode cL_sways 4 = .ok (.iload_n 2, 1) := by decide +kernel
theorem dL_sways_5 : decode cL_sways 5 = .ok (.invokevirtual 71, 3) := by decide +kernel
theorem dL_sways_8 : decode cL_sways 8 = .ok (.i2l, 1) := by decide +kernel
theorem dL_sways_9 : decode cL_sways 9 = .ok (.lastore, 1) := by decide +kernel
theorem dL_sways_10 : decode cL_sways 10 = .ok (.goto 11, 3) := by decide +kernel
theorem dL_sways_13 : decode cL_sways 13 = .ok (.astore 4, 2) := by decide +kernel
theorem dL_sways_15 : decode cL_sways 15 = .ok (.iconst 1, 1) := by decide +kernel
theorem dL_sways_16 : decode cL_sways 16 = .ok (.ireturn, 1) := by decide +kernel
theorem dL_sways_17 : decode cL_sways 17 = .ok (.astore 4, 2) := by decide +kernel
theorem dL_sways_19 : decode cL_sways 19 = .ok (.iconst 2, 1) := by decide +kernel
theorem dL_sways_20 : decode cL_sways 20 = .ok (.ireturn, 1) := by decide +kernel
theorem dL_sways_21 : decode cL_sways 21 = .ok (.iconst 0, 1) := by decide +kernel
theorem dL_sways_22 : decode cL_sways 22 = .ok (.ireturn, 1) := by decide +kernel
theorem dL_guru_0 : decode cL_guru 0 = .ok (.aload_n 2, 1) := by decide +kernel
theorem dL_guru_1 : decode cL_guru 1 = .ok (.iconst 0, 1) := by decide +kernel
theorem dL_guru_2 : decode cL_guru 2 = .ok (.aload_n 0, 1) := by decide +kernel
theorem dL_guru_3 : decode cL_guru 3 = .ok (.iload_n 1, 1) := by decide +kernel
theorem dL_guru_4 : decode cL_guru 4 = .ok (.invokevirtual 74, 3) := by decide +kernel
theorem dL_guru_7 : decode cL_guru 7 = .ok (.i2l, 1) := by decide +kernel
theorem dL_guru_8 : decode cL_guru 8 = .ok (.lastore, 1) := by decide +kernel
theorem dL_guru_9 : decode cL_guru 9 = .ok (.goto 6, 3) := by decide +kernel
theorem dL_guru_12 : decode cL_guru 12 = .ok (.astore_n 3, 1) := by decide +kernel
theorem dL_guru_13 : decode cL_guru 13 = .ok (.iconst 1, 1) := by decide +kernel
theorem dL_guru_14 : decode cL_guru 14 = .ok (.ireturn, 1) := by decide +kernel
theorem dL_guru_15 : decode cL_guru 15 = .ok (.iconst 0, 1) := by decide +kernel
theorem dL_guru_16 : decode cL_guru 16 = .ok (.ireturn, 1) := by decide +kernel
theorem dL_must_0 : decode cL_must 0 = .ok (.aload_n 3, 1) := by decide +kernel
theorem dL_must_1 : decode cL_must 1 = .ok (.iconst 0, 1) := by decide +kernel
theorem dL_must_2 : decode cL_must 2 = .ok (.aload_n 0, 1) := by decide +kernel
theorem dL_must_3 : decode cL_must 3 = .ok (.iload_n 1, 1) := by decide +kernel
theorem dL_must_4 : decode cL_must 4 = .ok (.iload_n 2, 1) := by decide +kernel
theorem dL_must_5 : decode cL_must 5 = .ok (.invokevirtual 77, 3) := by decide +kernel
theorem dL_must_8 : decode cL_must 8 = .ok (.i2l, 1) := by decide +kernel
theorem dL_must_9 : decode cL_must 9 = .ok (.lastore, 1) := by decide +kernel
theorem dL_must_10 : decode cL_must 10 = .ok (.goto 7, 3) := by decide +kernel
theorem dL_must_13 : decode cL_must 13 = .ok (.astore 4, 2) := by decide +kernel
theorem dL_must_15 : decode cL_must 15 = .ok (.iconst 1, 1) := by decide +kernel
theorem dL_must_16 : decode cL_must 16 = .ok (.ireturn, 1) := by decide +kernel
theorem dL_must_17 : decode cL_must 17 = .ok (.iconst 0, 1) := by decide +kernel
theorem dL_must_18 : decode cL_must 18 = .ok (.ireturn, 1) := by decide +kernel
theorem dL_reaches_0 : decode cL_reaches 0 = .ok (.aload_n 2, 1) := by decide +kernel
theorem dL_reaches_1 : decode cL_reaches 1 = .ok (.iconst 0, 1) := by decide +kernel
theorem dL_reaches_2 : decode cL_reaches 2 = .ok (.aload_n 0, 1) := by decide +kernel
theorem dL_reaches_3 : decode cL_reaches 3 = .ok (.iload_n 1, 1) := by decide +kernel
theorem dL_reaches_4 : decode cL_reaches 4 = .ok (.invokevirtual 80, 3) := by decide +kernel
theorem dL_reaches_7 : decode cL_reaches 7 = .ok (.i2l, 1) := by decide +kernel
theorem dL_reaches_8 : decode cL_reaches 8 = .ok (.lastore, 1) := by decide +kernel
theorem dL_reaches_9 : decode cL_reaches 9 = .ok (.goto 6, 3) := by decide +kernel
theorem dL_reaches_12 : decode cL_reaches 12 = .ok (.astore_n 3, 1) := by decide +kernel
theorem dL_reaches_13 : decode cL_reaches 13 = .ok (.iconst 1, 1) := by decide +kernel
theorem dL_reaches_14 : decode cL_reaches 14 = .ok (.ireturn, 1) := by decide +kernel
theorem dL_reaches_15 : decode cL_reaches 15 = .ok (.iconst 0, 1) := by decide +kernel
theorem dL_reaches_16 : decode cL_reaches 16 = .ok (.ireturn, 1) := by decide +kernel
theorem dL_dearest_0 : decode cL_dearest 0 = .ok (.aload_n 3, 1) := by decide +kernel
theorem dL_dearest_1 : decode cL_dearest 1 = .ok (.iconst 0, 1) := by decide +kernel
theorem dL_dearest_2 : decode cL_dearest 2 = .ok (.aload_n 0, 1) := by decide +kernel
theorem dL_dearest_3 : decode cL_dearest 3 = .ok (.iload_n 1, 1) := by decide +kernel
theorem dL_dearest_4 : decode cL_dearest 4 = .ok (.iload_n 2, 1) := by decide +kernel
theorem dL_dearest_5 : decode cL_dearest 5 = .ok (.invokevirtual 83, 3) := by decide +kernel
theorem dL_dearest_8 : decode cL_dearest 8 = .ok (.i2l, 1) := by decide +kernel
theorem dL_dearest_9 : decode cL_dearest 9 = .ok (.lastore, 1) := by decide +kernel
theorem dL_dearest_10 : decode cL_dearest 10 = .ok (.goto 7, 3) := by decide +kernel
theorem dL_dearest_13 : decode cL_dearest 13 = .ok (.astore 4, 2) := by decide +kernel
theorem dL_dearest_15 : decode cL_dearest 15 = .ok (.iconst 1, 1) := by decide +kernel
theorem dL_dearest_16 : decode cL_dearest 16 = .ok (.ireturn, 1) := by decide +kernel
theorem dL_dearest_17 : decode cL_dearest 17 = .ok (.iconst 0, 1) := by decide +kernel
theorem dL_dearest_18 : decode cL_dearest 18 = .ok (.ireturn, 1) := by decide +kernel
theorem dL_falls_0 : decode cL_falls 0 = .ok (.aload_n 2, 1) := by decide +kernel
theorem dL_falls_1 : decode cL_falls 1 = .ok (.iconst 0, 1) := by decide +kernel
theorem dL_falls_2 : decode cL_falls 2 = .ok (.aload_n 0, 1) := by decide +kernel
theorem dL_falls_3 : decode cL_falls 3 = .ok (.iload_n 1, 1) := by decide +kernel
theorem dL_falls_4 : decode cL_falls 4 = .ok (.invokevirtual 86, 3) := by decide +kernel
theorem dL_falls_7 : decode cL_falls 7 = .ok (.i2l, 1) := by decide +kernel
theorem dL_falls_8 : decode cL_falls 8 = .ok (.lastore, 1) := by decide +kernel
theorem dL_falls_9 : decode cL_falls 9 = .ok (.goto 6, 3) := by decide +kernel
theorem dL_falls_12 : decode cL_falls 12 = .ok (.astore_n 3, 1) := by decide +kernel
theorem dL_falls_13 : decode cL_falls 13 = .ok (.iconst 1, 1) := by decide +kernel
theorem dL_falls_14 : decode cL_falls 14 = .ok (.ireturn, 1) := by decide +kernel
theorem dL_falls_15 : decode cL_falls 15 = .ok (.iconst 0, 1) := by decide +kernel
theorem dL_falls_16 : decode cL_falls 16 = .ok (.ireturn, 1) := by decide +kernel
theorem dL_river_0 : decode cL_river 0 = .ok (.aload_n 2, 1) := by decide +kernel
theorem dL_river_1 : decode cL_river 1 = .ok (.iconst 0, 1) := by decide +kernel
theorem dL_river_2 : decode cL_river 2 = .ok (.aload_n 0, 1) := by decide +kernel
theorem dL_river_3 : decode cL_river 3 = .ok (.iload_n 1, 1) := by decide +kernel
theorem dL_river_4 : decode cL_river 4 = .ok (.invokevirtual 89, 3) := by decide +kernel
theorem dL_river_7 : decode cL_river 7 = .ok (.i2l, 1) := by decide +kernel
theorem dL_river_8 : decode cL_river 8 = .ok (.lastore, 1) := by decide +kernel
theorem dL_river_9 : decode cL_river 9 = .ok (.goto 6, 3) := by decide +kernel
theorem dL_river_12 : decode cL_river 12 = .ok (.astore_n 3, 1) := by decide +kernel
theorem dL_river_13 : decode cL_river 13 = .ok (.iconst 1, 1) := by decide +kernel
theorem dL_river_14 : decode cL_river 14 = .ok (.ireturn, 1) := by decide +kernel
theorem dL_river_15 : decode cL_river 15 = .ok (.iconst 0, 1) := by decide +kernel
theorem dL_river_16 : decode cL_river 16 = .ok (.ireturn, 1) := by decide +kernel
theorem dL_more_0 : decode cL_more 0 = .ok (.aload_n 2, 1) := by decide +kernel
theorem dL_more_1 : decode cL_more 1 = .ok (.iconst 0, 1) := by decide +kernel
theorem dL_more_2 : decode cL_more 2 = .ok (.aload_n 0, 1) := by decide +kernel
theorem dL_more_3 : decode cL_more 3 = .ok (.iload_n 1, 1) := by decide +kernel
theorem dL_more_4 : decode cL_more 4 = .ok (.invokevirtual 92, 3) := by decide +kernel
theorem dL_more_7 : decode cL_more 7 = .ok (.i2l, 1) := by decide +kernel
theorem dL_more_8 : decode cL_more 8 = .ok (.lastore, 1) := by decide +kernel
theorem dL_more_9 : decode cL_more 9 = .ok (.goto 6, 3) := by decide +kernel
theorem dL_more_12 : decode cL_more 12 = .ok (.astore_n 3, 1) := by decide +kernel
theorem dL_more_13 : decode cL_more 13 = .ok (.iconst 1, 1) := by decide +kernel
theorem dL_more_14 : decode cL_more 14 = .ok (.ireturn, 1) := by decide +kernel
theorem dL_more_15 : decode cL_more 15 = .ok (.iconst 0, 1) := by decide +kernel
theorem dL_more_16 : decode cL_more 16 = .ok (.ireturn, 1) := by decide +kernel
theorem dL_liars_0 : decode cL_liars 0 = .ok (.aload_n 2, 1) := by decide +kernel
theorem dL_liars_1 : decode cL_liars 1 = .ok (.iconst 0, 1) := by decide +kernel
theorem dL_liars_2 : decode cL_liars 2 = .ok (.aload_n 0, 1) := by decide +kernel
theorem dL_liars_3 : decode cL_liars 3 = .ok (.iload_n 1, 1) := by decide +kernel
theorem dL_liars_4 : decode cL_liars 4 = .ok (.invokevirtual 95, 3) := by decide +kernel
theorem dL_liars_7 : decode cL_liars 7 = .ok (.i2l, 1) := by decide +kernel
theorem dL_liars_8 : decode cL_liars 8 = .ok (.lastore, 1) := by decide +kernel
theorem dL_liars_9 : decode cL_liars 9 = .ok (.goto 6, 3) := by decide +kernel
theorem dL_liars_12 : decode cL_liars 12 = .ok (.astore_n 3, 1) := by decide +kernel
theorem dL_liars_13 : decode cL_liars 13 = .ok (.iconst 1, 1) := by decide +kernel
theorem dL_liars_14 : decode cL_liars 14 = .ok (.ireturn, 1) := by decide +kernel
theorem dL_liars_15 : decode cL_liars 15 = .ok (.iconst 0, 1) := by decide +kernel
theorem dL_liars_16 : decode cL_liars 16 = .ok (.ireturn, 1) := by decide +kernel
theorem dL_ask_0 : decode cL_ask 0 = .ok (.aload_n 1, 1) := by decide +kernel
theorem dL_ask_1 : decode cL_ask 1 = .ok (.iconst 0, 1) := by decide +kernel
theorem dL_ask_2 : decode cL_ask 2 = .ok (.aload_n 0, 1) := by decide +kernel
theorem dL_ask_3 : decode cL_ask 3 = .ok (.invokevirtual 99, 3) := by decide +kernel
theorem dL_ask_6 : decode cL_ask 6 = .ok (.i2l, 1) := by decide +kernel
theorem dL_ask_7 : decode cL_ask 7 = .ok (.lastore, 1) := by decide +kernel
theorem dL_ask_8 : decode cL_ask 8 = .ok (.goto 6, 3) := by decide +kernel
theorem dL_ask_11 : decode cL_ask 11 = .ok (.astore_n 2, 1) := by decide +kernel
theorem dL_ask_12 : decode cL_ask 12 = .ok (.iconst 1, 1) := by decide +kernel
theorem dL_ask_13 : decode cL_ask 13 = .ok (.ireturn, 1) := by decide +kernel
theorem dL_ask_14 : decode cL_ask 14 = .ok (.iconst 0, 1) := by decide +kernel
theorem dL_ask_15 : decode cL_ask 15 = .ok (.ireturn, 1) := by decide +kernel
theorem dL_word_0 : decode cL_word 0 = .ok (.aload_n 2, 1) := by decide +kernel
theorem dL_word_1 : decode cL_word 1 = .ok (.iconst 0, 1) := by decide +kernel
theorem dL_word_2 : decode cL_word 2 = .ok (.aload_n 0, 1) := by decide +kernel
theorem dL_word_3 : decode cL_word 3 = .ok (.iload_n 1, 1) := by decide +kernel
theorem dL_word_4 : decode cL_word 4 = .ok (.invokevirtual 102, 3) := by decide +kernel
theorem dL_word_7 : decode cL_word 7 = .ok (.i2l, 1) := by decide +kernel
theorem dL_word_8 : decode cL_word 8 = .ok (.lastore, 1) := by decide +kernel
theorem dL_word_9 : decode cL_word 9 = .ok (.goto 6, 3) := by decide +kernel
theorem dL_word_12 : decode cL_word 12 = .ok (.astore_n 3, 1) := by decide +kernel
theorem dL_word_13 : decode cL_word 13 = .ok (.iconst 1, 1) := by decide +kernel
theorem dL_word_14 : decode cL_word 14 = .ok (.ireturn, 1) := by decide +kernel
theorem dL_word_15 : decode cL_word 15 = .ok (.iconst 0, 1) := by decide +kernel
theorem dL_word_16 : decode cL_word 16 = .ok (.ireturn, 1) := by decide +kernel
theorem dL_steps_0 : decode cL_steps 0 = .ok (.aload_n 3, 1) := by decide +kernel
theorem dL_steps_1 : decode cL_steps 1 = .ok (.iconst 0, 1) := by decide +kernel
theorem dL_steps_2 : decode cL_steps 2 = .ok (.aload_n 0, 1) := by decide +kernel
theorem dL_steps_3 : decode cL_steps 3 = .ok (.iload_n 1, 1) := by decide +kernel
theorem dL_steps_4 : decode cL_steps 4 = .ok (.iload_n 2, 1) := by decide +kernel
theorem dL_steps_5 : decode cL_steps 5 = .ok (.invokevirtual 105, 3) := by decide +kernel
theorem dL_steps_8 : decode cL_steps 8 = .ok (.i2l, 1) := by decide +kernel
theorem dL_steps_9 : decode cL_steps 9 = .ok (.lastore, 1) := by decide +kernel
theorem dL_steps_10 : decode cL_steps 10 = .ok (.goto 11, 3) := by decide +kernel
theorem dL_steps_13 : decode cL_steps 13 = .ok (.astore 4, 2) := by decide +kernel
theorem dL_steps_15 : decode cL_steps 15 = .ok (.iconst 1, 1) := by decide +kernel
theorem dL_steps_16 : decode cL_steps 16 = .ok (.ireturn, 1) := by decide +kernel
theorem dL_steps_17 : decode cL_steps 17 = .ok (.astore 4, 2) := by decide +kernel
theorem dL_steps_19 : decode cL_steps 19 = .ok (.iconst 2, 1) := by decide +kernel
theorem dL_steps_20 : decode cL_steps 20 = .ok (.ireturn, 1) := by decide +kernel
theorem dL_steps_21 : decode cL_steps 21 = .ok (.iconst 0, 1) := by decide +kernel
theorem dL_steps_22 : decode cL_steps 22 = .ok (.ireturn, 1) := by decide +kernel
theorem dL_rests_0 : decode cL_rests 0 = .ok (.aload_n 3, 1) := by decide +kernel
theorem dL_rests_1 : decode cL_rests 1 = .ok (.iconst 0, 1) := by decide +kernel
theorem dL_rests_2 : decode cL_rests 2 = .ok (.aload_n 0, 1) := by decide +kernel
theorem dL_rests_3 : decode cL_rests 3 = .ok (.iload_n 1, 1) := by decide +kernel
theorem dL_rests_4 : decode cL_rests 4 = .ok (.iload_n 2, 1) := by decide +kernel
theorem dL_rests_5 : decode cL_rests 5 = .ok (.invokevirtual 108, 3) := by decide +kernel
theorem dL_rests_8 : decode cL_rests 8 = .ok (.i2l, 1) := by decide +kernel
theorem dL_rests_9 : decode cL_rests 9 = .ok (.lastore, 1) := by decide +kernel
theorem dL_rests_10 : decode cL_rests 10 = .ok (.goto 11, 3) := by decide +kernel
theorem dL_rests_13 : decode cL_rests 13 = .ok (.astore 4, 2) := by decide +kernel
theorem dL_rests_15 : decode cL_rests 15 = .ok (.iconst 1, 1) := by decide +kernel
theorem dL_rests_16 : decode cL_rests 16 = .ok (.ireturn, 1) := by decide +kernel
theorem dL_rests_17 : decode cL_rests 17 = .ok (.astore 4, 2) := by decide +kernel
theorem dL_rests_19 : decode cL_rests 19 = .ok (.iconst 2, 1) := by decide +kernel
theorem dL_rests_20 : decode cL_rests 20 = .ok (.ireturn, 1) := by decide +kernel
theorem dL_rests_21 : decode cL_rests 21 = .ok (.iconst 0, 1) := by decide +kernel
theorem dL_rests_22 : decode cL_rests 22 = .ok (.ireturn, 1) := by decide +kernel
theorem dL_last_0 : decode cL_last 0 = .ok (.aload_n 2, 1) := by decide +kernel
theorem dL_last_1 : decode cL_last 1 = .ok (.iconst 0, 1) := by decide +kernel
theorem dL_last_2 : decode cL_last 2 = .ok (.aload_n 0, 1) := by decide +kernel
theorem dL_last_3 : decode cL_last 3 = .ok (.iload_n 1, 1) := by decide +kernel
theorem dL_last_4 : decode cL_last 4 = .ok (.invokevirtual 111, 3) := by decide +kernel
theorem dL_last_7 : decode cL_last 7 = .ok (.i2l, 1) := by decide +kernel
theorem dL_last_8 : decode cL_last 8 = .ok (.lastore, 1) := by decide +kernel
theorem dL_last_9 : decode cL_last 9 = .ok (.goto 6, 3) := by decide +kernel
theorem dL_last_12 : decode cL_last 12 = .ok (.astore_n 3, 1) := by decide +kernel
theorem dL_last_13 : decode cL_last 13 = .ok (.iconst 1, 1) := by decide +kernel
theorem dL_last_14 : decode cL_last 14 = .ok (.ireturn, 1) := by decide +kernel
theorem dL_last_15 : decode cL_last 15 = .ok (.iconst 0, 1) := by decide +kernel
theorem dL_last_16 : decode cL_last 16 = .ok (.ireturn, 1) := by decide +kernel
theorem dL_trial_0 : decode cL_trial 0 = .ok (.aload_n 3, 1) := by decide +kernel
theorem dL_trial_1 : decode cL_trial 1 = .ok (.iconst 0, 1) := by decide +kernel
theorem dL_trial_2 : decode cL_trial 2 = .ok (.aload_n 0, 1) := by decide +kernel
theorem dL_trial_3 : decode cL_trial 3 = .ok (.iload_n 1, 1) := by decide +kernel
theorem dL_trial_4 : decode cL_trial 4 = .ok (.iload_n 2, 1) := by decide +kernel
theorem dL_trial_5 : decode cL_trial 5 = .ok (.invokevirtual 114, 3) := by decide +kernel
theorem dL_trial_8 : decode cL_trial 8 = .ok (.i2l, 1) := by decide +kernel
theorem dL_trial_9 : decode cL_trial 9 = .ok (.lastore, 1) := by decide +kernel
theorem dL_trial_10 : decode cL_trial 10 = .ok (.goto 7, 3) := by decide +kernel
theorem dL_trial_13 : decode cL_trial 13 = .ok (.astore 4, 2) := by decide +kernel
theorem dL_trial_15 : decode cL_trial 15 = .ok (.iconst 1, 1) := by decide +kernel
theorem dL_trial_16 : decode cL_trial 16 = .ok (.ireturn, 1) := by decide +kernel
theorem dL_trial_17 : decode cL_trial 17 = .ok (.iconst 0, 1) := by decide +kernel
theorem dL_trial_18 : decode cL_trial 18 = .ok (.ireturn, 1) := by decide +kernel
theorem dL_span_0 : decode cL_span 0 = .ok (.aload_n 3, 1) := by decide +kernel
theorem dL_span_1 : decode cL_span 1 = .ok (.iconst 0, 1) := by decide +kernel
theorem dL_span_2 : decode cL_span 2 = .ok (.aload_n 0, 1) := by decide +kernel
theorem dL_span_3 : decode cL_span 3 = .ok (.iload_n 1, 1) := by decide +kernel
theorem dL_span_4 : decode cL_span 4 = .ok (.iload_n 2, 1) := by decide +kernel
theorem dL_span_5 : decode cL_span 5 = .ok (.invokevirtual 117, 3) := by decide +kernel
theorem dL_span_8 : decode cL_span 8 = .ok (.i2l, 1) := by decide +kernel
theorem dL_span_9 : decode cL_span 9 = .ok (.lastore, 1) := by decide +kernel
theorem dL_span_10 : decode cL_span 10 = .ok (.goto 7, 3) := by decide +kernel
theorem dL_span_13 : decode cL_span 13 = .ok (.astore 4, 2) := by decide +kernel
theorem dL_span_15 : decode cL_span 15 = .ok (.iconst 1, 1) := by decide +kernel
theorem dL_span_16 : decode cL_span 16 = .ok (.ireturn, 1) := by decide +kernel
theorem dL_span_17 : decode cL_span 17 = .ok (.iconst 0, 1) := by decide +kernel
theorem dL_span_18 : decode cL_span 18 = .ok (.ireturn, 1) := by decide +kernel
theorem dL_led_0 : decode cL_led 0 = .ok (.aload_n 3, 1) := by decide +kernel
theorem dL_led_1 : decode cL_led 1 = .ok (.iconst 0, 1) := by decide +kernel
theorem dL_led_2 : decode cL_led 2 = .ok (.aload_n 0, 1) := by decide +kernel
theorem dL_led_3 : decode cL_led 3 = .ok (.iload_n 1, 1) := by decide +kernel
theorem dL_led_4 : decode cL_led 4 = .ok (.iload_n 2, 1) := by decide +kernel
theorem dL_led_5 : decode cL_led 5 = .ok (.invokevirtual 120, 3) := by decide +kernel
theorem dL_led_8 : decode cL_led 8 = .ok (.i2l, 1) := by decide +kernel
theorem dL_led_9 : decode cL_led 9 = .ok (.lastore, 1) := by decide +kernel
theorem dL_led_10 : decode cL_led 10 = .ok (.goto 7, 3) := by decide +kernel
theorem dL_led_13 : decode cL_led 13 = .ok (.astore 4, 2) := by decide +kernel
theorem dL_led_15 : decode cL_led 15 = .ok (.iconst 1, 1) := by decide +kernel
theorem dL_led_16 : decode cL_led 16 = .ok (.ireturn, 1) := by decide +kernel
theorem dL_led_17 : decode cL_led 17 = .ok (.iconst 0, 1) := by decide +kernel
theorem dL_led_18 : decode cL_led 18 = .ok (.ireturn, 1) := by decide +kernel
theorem dL_log_0 : decode cL_log 0 = .ok (.aload_n 3, 1) := by decide +kernel
theorem dL_log_1 : decode cL_log 1 = .ok (.iconst 0, 1) := by decide +kernel
theorem dL_log_2 : decode cL_log 2 = .ok (.aload_n 0, 1) := by decide +kernel
theorem dL_log_3 : decode cL_log 3 = .ok (.iload_n 1, 1) := by decide +kernel
theorem dL_log_4 : decode cL_log 4 = .ok (.iload_n 2, 1) := by decide +kernel
theorem dL_log_5 : decode cL_log 5 = .ok (.invokevirtual 123, 3) := by decide +kernel
theorem dL_log_8 : decode cL_log 8 = .ok (.i2l, 1) := by decide +kernel
theorem dL_log_9 : decode cL_log 9 = .ok (.lastore, 1) := by decide +kernel
theorem dL_log_10 : decode cL_log 10 = .ok (.goto 7, 3) := by decide +kernel
theorem dL_log_13 : decode cL_log 13 = .ok (.astore 4, 2) := by decide +kernel
theorem dL_log_15 : decode cL_log 15 = .ok (.iconst 1, 1) := by decide +kernel
theorem dL_log_16 : decode cL_log 16 = .ok (.ireturn, 1) := by decide +kernel
theorem dL_log_17 : decode cL_log 17 = .ok (.iconst 0, 1) := by decide +kernel
theorem dL_log_18 : decode cL_log 18 = .ok (.ireturn, 1) := by decide +kernel
theorem dL_law__0 : decode cL_law_ 0 = .ok (.new 8, 3) := by decide +kernel
theorem dL_law__3 : decode cL_law_ 3 = .ok (.dup, 1) := by decide +kernel
theorem dL_law__4 : decode cL_law_ 4 = .ok (.invokespecial 126, 3) := by decide +kernel
theorem dL_law__7 : decode cL_law_ 7 = .ok (.astore_n 1, 1) := by decide +kernel
theorem dL_law__8 : decode cL_law_ 8 = .ok (.new 127, 3) := by decide +kernel
theorem dL_law__11 : decode cL_law_ 11 = .ok (.dup, 1) := by decide +kernel
theorem dL_law__12 : decode cL_law_ 12 = .ok (.invokespecial 129, 3) := by decide +kernel
theorem dL_law__15 : decode cL_law_ 15 = .ok (.astore_n 2, 1) := by decide +kernel
theorem dL_law__16 : decode cL_law_ 16 = .ok (.iconst 1, 1) := by decide +kernel
theorem dL_law__17 : decode cL_law_ 17 = .ok (.newarray .long, 2) := by decide +kernel
theorem dL_law__19 : decode cL_law_ 19 = .ok (.astore_n 3, 1) := by decide +kernel
theorem dL_law__20 : decode cL_law_ 20 = .ok (.iconst 0, 1) := by decide +kernel
theorem dL_law__21 : decode cL_law_ 21 = .ok (.istore 4, 2) := by decide +kernel
theorem dL_law__23 : decode cL_law_ 23 = .ok (.iload 4, 2) := by decide +kernel
theorem dL_law__25 : decode cL_law_ 25 = .ok (.aload_n 0, 1) := by decide +kernel
theorem dL_law__26 : decode cL_law_ 26 = .ok (.arraylength, 1) := by decide +kernel
theorem dL_law__27 : decode cL_law_ 27 = .ok (.bipush 6, 2) := by decide +kernel
theorem dL_law__29 : decode cL_law_ 29 = .ok (.isub, 1) := by decide +kernel
theorem dL_law__30 : decode cL_law_ 30 = .ok (.if_icmp .gt 2714, 3) := by decide +kernel
theorem dL_law__33 : decode cL_law_ 33 = .ok (.aload_n 0, 1) := by decide +kernel
theorem dL_law__34 : decode cL_law_ 34 = .ok (.iload 4, 2) := by decide +kernel
theorem dL_law__36 : decode cL_law_ 36 = .ok (.iaload, 1) := by decide +kernel
theorem dL_law__37 : decode cL_law_ 37 = .ok (.bipush 63, 2) := by decide +kernel
theorem dL_law__39 : decode cL_law_ 39 = .ok (.iand, 1) := by decide +kernel
theorem dL_law__40 : decode cL_law_ 40 = .ok (.tableswitch 2698 0 49 #[216, 289, 314, 358, 402, 415, 483, 551, 619, 632, 688, 768, 804, 860, 928, 996, 1087, 1143, 1211, 1295, 1363, 1419, 1487, 1543, 1556, 1569, 1653, 1709, 1750, 1806, 1862, 1934, 1978, 2034, 2102, 2115, 2128, 2196, 2209, 2222, 2278, 2291, 2375, 2459, 2543, 2611, 2636, 2649, 2660, 2673], 216) := by decide +kernel
theorem dL_law__256 : decode cL_law_ 256 = .ok (.aload_n 1, 1) := by decide +kernel
theorem dL_law__257 : decode cL_law_ 257 = .ok (.aload_n 0, 1) := by decide +kernel
theorem dL_law__258 : decode cL_law_ 258 = .ok (.iload 4, 2) := by decide +kernel
theorem dL_law__260 : decode cL_law_ 260 = .ok (.iconst 1, 1) := by decide +kernel
theorem dL_law__261 : decode cL_law_ 261 = .ok (.iadd, 1) := by decide +kernel
theorem dL_law__262 : decode cL_law_ 262 = .ok (.iaload, 1) := by decide +kernel
theorem dL_law__263 : decode cL_law_ 263 = .ok (.aload_n 0, 1) := by decide +kernel
theorem dL_law__264 : decode cL_law_ 264 = .ok (.iload 4, 2) := by decide +kernel
theorem dL_law__266 : decode cL_law_ 266 = .ok (.iconst 2, 1) := by decide +kernel
theorem dL_law__267 : decode cL_law_ 267 = .ok (.iadd, 1) := by decide +kernel
theorem dL_law__268 : decode cL_law_ 268 = .ok (.iaload, 1) := by decide +kernel
theorem dL_law__269 : decode cL_law_ 269 = .ok (.aload_n 0, 1) := by decide +kernel
theorem dL_law__270 : decode cL_law_ 270 = .ok (.iload 4, 2) := by decide +kernel
theorem dL_law__272 : decode cL_law_ 272 = .ok (.iconst 3, 1) := by decide +kernel
theorem dL_law__273 : decode cL_law_ 273 = .ok (.iadd, 1) := by decide +kernel
theorem dL_law__274 : decode cL_law_ 274 = .ok (.iaload, 1) := by decide +kernel
theorem dL_law__275 : decode cL_law_ 275 = .ok (.aload_n 0, 1) := by decide +kernel
theorem dL_law__276 : decode cL_law_ 276 = .ok (.iload 4, 2) := by decide +kernel
theorem dL_law__278 : decode cL_law_ 278 = .ok (.iconst 4, 1) := by decide +kernel
theorem dL_law__279 : decode cL_law_ 279 = .ok (.iadd, 1) := by decide +kernel
theorem dL_law__280 : decode cL_law_ 280 = .ok (.iaload, 1) := by decide +kernel
theorem dL_law__281 : decode cL_law_ 281 = .ok (.aload_n 0, 1) := by decide +kernel
theorem dL_law__282 : decode cL_law_ 282 = .ok (.iload 4, 2) := by decide +kernel
theorem dL_law__284 : decode cL_law_ 284 = .ok (.iconst 5, 1) := by decide +kernel
theorem dL_law__285 : decode cL_law_ 285 = .ok (.iadd, 1) := by decide +kernel
theorem dL_law__286 : decode cL_law_ 286 = .ok (.iaload, 1) := by decide +kernel
theorem dL_law__287 : decode cL_law_ 287 = .ok (.invokevirtual 130, 3) := by decide +kernel
theorem dL_law__290 : decode cL_law_ 290 = .ok (.aload_n 2, 1) := by decide +kernel
theorem dL_law__291 : decode cL_law_ 291 = .ok (.aload_n 0, 1) := by decide +kernel
theorem dL_law__292 : decode cL_law_ 292 = .ok (.iload 4, 2) := by decide +kernel
theorem dL_law__294 : decode cL_law_ 294 = .ok (.iconst 1, 1) := by decide +kernel
theorem dL_law__295 : decode cL_law_ 295 = .ok (.iadd, 1) := by decide +kernel
theorem dL_law__296 : decode cL_law_ 296 = .ok (.iaload, 1) := by decide +kernel
theorem dL_law__297 : decode cL_law_ 297 = .ok (.aload_n 0, 1) := by decide +kernel
theorem dL_law__298 : decode cL_law_ 298 = .ok (.iload 4, 2) := by decide +kernel
theorem dL_law__300 : decode cL_law_ 300 = .ok (.iconst 2, 1) := by decide +kernel
theorem dL_law__301 : decode cL_law_ 301 = .ok (.iadd, 1) := by decide +kernel
theorem dL_law__302 : decode cL_law_ 302 = .ok (.iaload, 1) := by decide +kernel
theorem dL_law__303 : decode cL_law_ 303 = .ok (.aload_n 0, 1) := by decide +kernel
theorem dL_law__304 : decode cL_law_ 304 = .ok (.iload 4, 2) := by decide +kernel
theorem dL_law__306 : decode cL_law_ 306 = .ok (.iconst 3, 1) := by decide +kernel
theorem dL_law__307 : decode cL_law_ 307 = .ok (.iadd, 1) := by decide +kernel
theorem dL_law__308 : decode cL_law_ 308 = .ok (.iaload, 1) := by decide +kernel
theorem dL_law__309 : decode cL_law_ 309 = .ok (.aload_n 0, 1) := by decide +kernel
theorem dL_law__310 : decode cL_law_ 310 = .ok (.iload 4, 2) := by decide +kernel
theorem dL_law__312 : decode cL_law_ 312 = .ok (.iconst 4, 1) := by decide +kernel
theorem dL_law__313 : decode cL_law_ 313 = .ok (.iadd, 1) := by decide +kernel
theorem dL_law__314 : decode cL_law_ 314 = .ok (.iaload, 1) := by decide +kernel
theorem dL_law__315 : decode cL_law_ 315 = .ok (.aload_n 0, 1) := by decide +kernel
theorem dL_law__316 : decode cL_law_ 316 = .ok (.iload 4, 2) := by decide +kernel
theorem dL_law__318 : decode cL_law_ 318 = .ok (.iconst 5, 1) := by decide +kernel
theorem dL_law__319 : decode cL_law_ 319 = .ok (.iadd, 1) := by decide +kernel
theorem dL_law__320 : decode cL_law_ 320 = .ok (.iaload, 1) := by decide +kernel
theorem dL_law__321 : decode cL_law_ 321 = .ok (.invokevirtual 134, 3) := by decide +kernel
theorem dL_law__324 : decode cL_law_ 324 = .ok (.if_icmp .eq 2414, 3) := by decide +kernel
theorem dL_law__327 : decode cL_law_ 327 = .ok (.iconst 0, 1) := by decide +kernel
theorem dL_law__328 : decode cL_law_ 328 = .ok (.ireturn, 1) := by decide +kernel
theorem dL_law__329 : decode cL_law_ 329 = .ok (.aload_n 1, 1) := by decide +kernel
theorem dL_law__330 : decode cL_law_ 330 = .ok (.aload_n 0, 1) := by decide +kernel
theorem dL_law__331 : decode cL_law_ 331 = .ok (.iload 4, 2) := by decide +kernel
theorem dL_law__333 : decode cL_law_ 333 = .ok (.iconst 1, 1) := by decide +kernel
theorem dL_law__334 : decode cL_law_ 334 = .ok (.iadd, 1) := by decide +kernel
theorem dL_law__335 : decode cL_law_ 335 = .ok (.iaload, 1) := by decide +kernel
theorem dL_law__336 : decode cL_law_ 336 = .ok (.invokevirtual 135, 3) := by decide +kernel
theorem dL_law__339 : decode cL_law_ 339 = .ok (.aload_n 2, 1) := by decide +kernel
theorem dL_law__340 : decode cL_law_ 340 = .ok (.aload_n 0, 1) := by decide +kernel
theorem dL_law__341 : decode cL_law_ 341 = .ok (.iload 4, 2) := by decide +kernel
theorem dL_law__343 : decode cL_law_ 343 = .ok (.iconst 1, 1) := by decide +kernel
theorem dL_law__344 : decode cL_law_ 344 = .ok (.iadd, 1) := by decide +kernel
theorem dL_law__345 : decode cL_law_ 345 = .ok (.iaload, 1) := by decide +kernel
theorem dL_law__346 : decode cL_law_ 346 = .ok (.invokevirtual 139, 3) := by decide +kernel
theorem dL_law__349 : decode cL_law_ 349 = .ok (.if_icmp .eq 2389, 3) := by decide +kernel
theorem dL_law__352 : decode cL_law_ 352 = .ok (.iconst 0, 1) := by decide +kernel
theorem dL_law__353 : decode cL_law_ 353 = .ok (.ireturn, 1) := by decide +kernel
theorem dL_law__354 : decode cL_law_ 354 = .ok (.aload_n 1, 1) := by decide +kernel
theorem dL_law__355 : decode cL_law_ 355 = .ok (.aload_n 3, 1) := by decide +kernel
theorem dL_law__356 : decode cL_law_ 356 = .ok (.invokestatic 140, 3) := by decide +kernel
theorem dL_law__359 : decode cL_law_ 359 = .ok (.istore 5, 2) := by decide +kernel
theorem dL_law__361 : decode cL_law_ 361 = .ok (.aload_n 2, 1) := by decide +kernel
theorem dL_law__362 : decode cL_law_ 362 = .ok (.invokevirtual 145, 3) := by decide +kernel
theorem dL_law__365 : decode cL_law_ 365 = .ok (.istore 6, 2) := by decide +kernel
theorem dL_law__367 : decode cL_law_ 367 = .ok (.aload_n 2, 1) := by decide +kernel
theorem dL_law__368 : decode cL_law_ 368 = .ok (.invokevirtual 146, 3) := by decide +kernel
theorem dL_law__371 : decode cL_law_ 371 = .ok (.iload 5, 2) := by decide +kernel
theorem dL_law__373 : decode cL_law_ 373 = .ok (.if_icmp .eq 5, 3) := by decide +kernel
theorem dL_law__376 : decode cL_law_ 376 = .ok (.iconst 0, 1) := by decide +kernel
theorem dL_law__377 : decode cL_law_ 377 = .ok (.ireturn, 1) := by decide +kernel
theorem dL_law__378 : decode cL_law_ 378 = .ok (.iload 5, 2) := by decide +kernel
theorem dL_law__380 : decode cL_law_ 380 = .ok (.ifCond .ne 15, 3) := by decide +kernel
theorem dL_law__383 : decode cL_law_ 383 = .ok (.aload_n 3, 1) := by decide +kernel
theorem dL_law__384 : decode cL_law_ 384 = .ok (.iconst 0, 1) := by decide +kernel
theorem dL_law__385 : decode cL_law_ 385 = .ok (.laload, 1) := by decide +kernel
theorem dL_law__386 : decode cL_law_ 386 = .ok (.iload 6, 2) := by decide +kernel
theorem dL_law__388 : decode cL_law_ 388 = .ok (.i2l, 1) := by decide +kernel
theorem dL_law__389 : decode cL_law_ 389 = .ok (.lcmp, 1) := by decide +kernel
theorem dL_law__390 : decode cL_law_ 390 = .ok (.ifCond .eq 5, 3) := by decide +kernel
theorem dL_law__393 : decode cL_law_ 393 = .ok (.iconst 0, 1) := by decide +kernel
theorem dL_law__394 : decode cL_law_ 394 = .ok (.ireturn, 1) := by decide +kernel
theorem dL_law__395 : decode cL_law_ 395 = .ok (.goto 2343, 3) := by decide +kernel
theorem dL_law__398 : decode cL_law_ 398 = .ok (.aload_n 1, 1) := by decide +kernel
theorem dL_law__399 : decode cL_law_ 399 = .ok (.aload_n 3, 1) := by decide +kernel
theorem dL_law__400 : decode cL_law_ 400 = .ok (.invokestatic 149, 3) := by decide +kernel
theorem dL_law__403 : decode cL_law_ 403 = .ok (.istore 5, 2) := by decide +kernel
theorem dL_law__405 : decode cL_law_ 405 = .ok (.aload_n 2, 1) := by decide +kernel
theorem dL_law__406 : decode cL_law_ 406 = .ok (.invokevirtual 151, 3) := by decide +kernel
theorem dL_law__409 : decode cL_law_ 409 = .ok (.istore 6, 2) := by decide +kernel
theorem dL_law__411 : decode cL_law_ 411 = .ok (.aload_n 2, 1) := by decide +kernel
theorem dL_law__412 : decode cL_law_ 412 = .ok (.invokevirtual 146, 3) := by decide +kernel
theorem dL_law__415 : decode cL_law_ 415 = .ok (.iload 5, 2) := by decide +kernel
theorem dL_law__417 : decode cL_law_ 417 = .ok (.if_icmp .eq 5, 3) := by decide +kernel
theorem dL_law__420 : decode cL_law_ 420 = .ok (.iconst 0, 1) := by decide +kernel
theorem dL_law__421 : decode cL_law_ 421 = .ok (.ireturn, 1) := by decide +kernel
theorem dL_law__422 : decode cL_law_ 422 = .ok (.iload 5, 2) := by decide +kernel
theorem dL_law__424 : decode cL_law_ 424 = .ok (.ifCond .ne 15, 3) := by decide +kernel
theorem dL_law__427 : decode cL_law_ 427 = .ok (.aload_n 3, 1) := by decide +kernel
theorem dL_law__428 : decode cL_law_ 428 = .ok (.iconst 0, 1) := by decide +kernel
theorem dL_law__429 : decode cL_law_ 429 = .ok (.laload, 1) := by decide +kernel
theorem dL_law__430 : decode cL_law_ 430 = .ok (.iload 6, 2) := by decide +kernel
theorem dL_law__432 : decode cL_law_ 432 = .ok (.i2l, 1) := by decide +kernel
theorem dL_law__433 : decode cL_law_ 433 = .ok (.lcmp, 1) := by decide +kernel
theorem dL_law__434 : decode cL_law_ 434 = .ok (.ifCond .eq 5, 3) := by decide +kernel
theorem dL_law__437 : decode cL_law_ 437 = .ok (.iconst 0, 1) := by decide +kernel
theorem dL_law__438 : decode cL_law_ 438 = .ok (.ireturn, 1) := by decide +kernel
theorem dL_law__439 : decode cL_law_ 439 = .ok (.goto 2299, 3) := by decide +kernel
theorem dL_law__442 : decode cL_law_ 442 = .ok (.aload_n 1, 1) := by decide +kernel
theorem dL_law__443 : decode cL_law_ 443 = .ok (.invokevirtual 152, 3) := by decide +kernel
theorem dL_law__446 : decode cL_law_ 446 = .ok (.aload_n 2, 1) := by decide +kernel
theorem dL_law__447 : decode cL_law_ 447 = .ok (.invokevirtual 155, 3) := by decide +kernel
theorem dL_law__450 : decode cL_law_ 450 = .ok (.if_icmp .eq 2288, 3) := by decide +kernel
theorem dL_law__453 : decode cL_law_ 453 = .ok (.iconst 0, 1) := by decide +kernel
theorem dL_law__454 : decode cL_law_ 454 = .ok (.ireturn, 1) := by decide +kernel
theorem dL_law__455 : decode cL_law_ 455 = .ok (.aload_n 1, 1) := by decide +kernel
theorem dL_law__456 : decode cL_law_ 456 = .ok (.aload_n 0, 1) := by decide +kernel
theorem dL_law__457 : decode cL_law_ 457 = .ok (.iload 4, 2) := by decide +kernel
theorem dL_law__459 : decode cL_law_ 459 = .ok (.iconst 1, 1) := by decide +kernel
theorem dL_law__460 : decode cL_law_ 460 = .ok (.iadd, 1) := by decide +kernel
theorem dL_law__461 : decode cL_law_ 461 = .ok (.iaload, 1) := by decide +kernel
theorem dL_law__462 : decode cL_law_ 462 = .ok (.aload_n 0, 1) := by decide +kernel
theorem dL_law__463 : decode cL_law_ 463 = .ok (.iload 4, 2) := by decide +kernel
theorem dL_law__465 : decode cL_law_ 465 = .ok (.iconst 2, 1) := by decide +kernel
theorem dL_law__466 : decode cL_law_ 466 = .ok (.iadd, 1) := by decide +kernel
theorem dL_law__467 : decode cL_law_ 467 = .ok (.iaload, 1) := by decide +kernel
theorem dL_law__468 : decode cL_law_ 468 = .ok (.aload_n 3, 1) := by decide +kernel
theorem dL_law__469 : decode cL_law_ 469 = .ok (.invokestatic 156, 3) := by decide +kernel
theorem dL_law__472 : decode cL_law_ 472 = .ok (.istore 5, 2) := by decide +kernel
theorem dL_law__474 : decode cL_law_ 474 = .ok (.aload_n 2, 1) := by decide +kernel
theorem dL_law__475 : decode cL_law_ 475 = .ok (.aload_n 0, 1) := by decide +kernel
theorem dL_law__476 : decode cL_law_ 476 = .ok (.iload 4, 2) := by decide +kernel
theorem dL_law__478 : decode cL_law_ 478 = .ok (.iconst 1, 1) := by decide +kernel
theorem dL_law__479 : decode cL_law_ 479 = .ok (.iadd, 1) := by decide +kernel
theorem dL_law__480 : decode cL_law_ 480 = .ok (.iaload, 1) := by decide +kernel
theorem dL_law__481 : decode cL_law_ 481 = .ok (.aload_n 0, 1) := by decide +kernel
theorem dL_law__482 : decode cL_law_ 482 = .ok (.iload 4, 2) := by decide +kernel
theorem dL_law__484 : decode cL_law_ 484 = .ok (.iconst 2, 1) := by decide +kernel
theorem dL_law__485 : decode cL_law_ 485 = .ok (.iadd, 1) := by decide +kernel
theorem dL_law__486 : decode cL_law_ 486 = .ok (.iaload, 1) := by decide +kernel
theorem dL_law__487 : decode cL_law_ 487 = .ok (.invokevirtual 159, 3) := by decide +kernel
theorem dL_law__490 : decode cL_law_ 490 = .ok (.istore 6, 2) := by decide +kernel
theorem dL_law__492 : decode cL_law_ 492 = .ok (.aload_n 2, 1) := by decide +kernel
theorem dL_law__493 : decode cL_law_ 493 = .ok (.invokevirtual 146, 3) := by decide +kernel
theorem dL_law__496 : decode cL_law_ 496 = .ok (.iload 5, 2) := by decide +kernel
theorem dL_law__498 : decode cL_law_ 498 = .ok (.if_icmp .eq 5, 3) := by decide +kernel
theorem dL_law__501 : decode cL_law_ 501 = .ok (.iconst 0, 1) := by decide +kernel
theorem dL_law__502 : decode cL_law_ 502 = .ok (.ireturn, 1) := by decide +kernel
theorem dL_law__503 : decode cL_law_ 503 = .ok (.iload 5, 2) := by decide +kernel
theorem dL_law__505 : decode cL_law_ 505 = .ok (.ifCond .ne 15, 3) := by decide +kernel
theorem dL_law__508 : decode cL_law_ 508 = .ok (.aload_n 3, 1) := by decide +kernel
theorem dL_law__509 : decode cL_law_ 509 = .ok (.iconst 0, 1) := by decide +kernel
theorem dL_law__510 : decode cL_law_ 510 = .ok (.laload, 1) := by decide +kernel
theorem dL_law__511 : decode cL_law_ 511 = .ok (.iload 6, 2) := by decide +kernel
theorem dL_law__513 : decode cL_law_ 513 = .ok (.i2l, 1) := by decide +kernel
theorem dL_law__514 : decode cL_law_ 514 = .ok (.lcmp, 1) := by decide +kernel
theorem dL_law__515 : decode cL_law_ 515 = .ok (.ifCond .eq 5, 3) := by decide +kernel
theorem dL_law__518 : decode cL_law_ 518 = .ok (.iconst 0, 1) := by decide +kernel
theorem dL_law__519 : decode cL_law_ 519 = .ok (.ireturn, 1) := by decide +kernel
theorem dL_law__520 : decode cL_law_ 520 = .ok (.goto 2218, 3) := by decide +kernel
theorem dL_law__523 : decode cL_law_ 523 = .ok (.aload_n 1, 1) := by decide +kernel
theorem dL_law__524 : decode cL_law_ 524 = .ok (.aload_n 0, 1) := by decide +kernel
theorem dL_law__525 : decode cL_law_ 525 = .ok (.iload 4, 2) := by decide +kernel
theorem dL_law__527 : decode cL_law_ 527 = .ok (.iconst 1, 1) := by decide +kernel
theorem dL_law__528 : decode cL_law_ 528 = .ok (.iadd, 1) := by decide +kernel
theorem dL_law__529 : decode cL_law_ 529 = .ok (.iaload, 1) := by decide +kernel
theorem dL_law__530 : decode cL_law_ 530 = .ok (.aload_n 0, 1) := by decide +kernel
theorem dL_law__531 : decode cL_law_ 531 = .ok (.iload 4, 2) := by decide +kernel
theorem dL_law__533 : decode cL_law_ 533 = .ok (.iconst 2, 1) := by decide +kernel
theorem dL_law__534 : decode cL_law_ 534 = .ok (.iadd, 1) := by decide +kernel
theorem dL_law__535 : decode cL_law_ 535 = .ok (.iaload, 1) := by decide +kernel
theorem dL_law__536 : decode cL_law_ 536 = .ok (.aload_n 3, 1) := by decide +kernel
theorem dL_law__537 : decode cL_law_ 537 = .ok (.invokestatic 160, 3) := by decide +kernel
theorem dL_law__540 : decode cL_law_ 540 = .ok (.istore 5, 2) := by decide +kernel
theorem dL_law__542 : decode cL_law_ 542 = .ok (.aload_n 2, 1) := by decide +kernel
theorem dL_law__543 : decode cL_law_ 543 = .ok (.aload_n 0, 1) := by decide +kernel
theorem dL_law__544 : decode cL_law_ 544 = .ok (.iload 4, 2) := by decide +kernel
theorem dL_law__546 : decode cL_law_ 546 = .ok (.iconst 1, 1) := by decide +kernel
theorem dL_law__547 : decode cL_law_ 547 = .ok (.iadd, 1) := by decide +kernel
theorem dL_law__548 : decode cL_law_ 548 = .ok (.iaload, 1) := by decide +kernel
theorem dL_law__549 : decode cL_law_ 549 = .ok (.aload_n 0, 1) := by decide +kernel
theorem dL_law__550 : decode cL_law_ 550 = .ok (.iload 4, 2) := by decide +kernel
theorem dL_law__552 : decode cL_law_ 552 = .ok (.iconst 2, 1) := by decide +kernel
theorem dL_law__553 : decode cL_law_ 553 = .ok (.iadd, 1) := by decide +kernel
theorem dL_law__554 : decode cL_law_ 554 = .ok (.iaload, 1) := by decide +kernel
theorem dL_law__555 : decode cL_law_ 555 = .ok (.invokevirtual 162, 3) := by decide +kernel
theorem dL_law__558 : decode cL_law_ 558 = .ok (.istore 6, 2) := by decide +kernel
theorem dL_law__560 : decode cL_law_ 560 = .ok (.aload_n 2, 1) := by decide +kernel
theorem dL_law__561 : decode cL_law_ 561 = .ok (.invokevirtual 146, 3) := by decide +kernel
theorem dL_law__564 : decode cL_law_ 564 = .ok (.iload 5, 2) := by decide +kernel
theorem dL_law__566 : decode cL_law_ 566 = .ok (.if_icmp .eq 5, 3) := by decide +kernel
theorem dL_law__569 : decode cL_law_ 569 = .ok (.iconst 0, 1) := by decide +kernel
theorem dL_law__570 : decode cL_law_ 570 = .ok (.ireturn, 1) := by decide +kernel
theorem dL_law__571 : decode cL_law_ 571 = .ok (.iload 5, 2) := by decide +kernel
theorem dL_law__573 : decode cL_law_ 573 = .ok (.ifCond .ne 15, 3) := by decide +kernel
theorem dL_law__576 : decode cL_law_ 576 = .ok (.aload_n 3, 1) := by decide +kernel
theorem dL_law__577 : decode cL_law_ 577 = .ok (.iconst 0, 1) := by decide +kernel
theorem dL_law__578 : decode cL_law_ 578 = .ok (.laload, 1) := by decide +kernel
theorem dL_law__579 : decode cL_law_ 579 = .ok (.iload 6, 2) := by decide +kernel
theorem dL_law__581 : decode cL_law_ 581 = .ok (.i2l, 1) := by decide +kernel
theorem dL_law__582 : decode cL_law_ 582 = .ok (.lcmp, 1) := by decide +kernel
theorem dL_law__583 : decode cL_law_ 583 = .ok (.ifCond .eq 5, 3) := by decide +kernel
theorem dL_law__586 : decode cL_law_ 586 = .ok (.iconst 0, 1) := by decide +kernel
theorem dL_law__587 : decode cL_law_ 587 = .ok (.ireturn, 1) := by decide +kernel
theorem dL_law__588 : decode cL_law_ 588 = .ok (.goto 2150, 3) := by decide +kernel
theorem dL_law__591 : decode cL_law_ 591 = .ok (.aload_n 1, 1) := by decide +kernel
theorem dL_law__592 : decode cL_law_ 592 = .ok (.aload_n 0, 1) := by decide +kernel
theorem dL_law__593 : decode cL_law_ 593 = .ok (.iload 4, 2) := by decide +kernel
theorem dL_law__595 : decode cL_law_ 595 = .ok (.iconst 1, 1) := by decide +kernel
theorem dL_law__596 : decode cL_law_ 596 = .ok (.iadd, 1) := by decide +kernel
theorem dL_law__597 : decode cL_law_ 597 = .ok (.iaload, 1) := by decide +kernel
theorem dL_law__598 : decode cL_law_ 598 = .ok (.aload_n 0, 1) := by decide +kernel
theorem dL_law__599 : decode cL_law_ 599 = .ok (.iload 4, 2) := by decide +kernel
theorem dL_law__601 : decode cL_law_ 601 = .ok (.iconst 2, 1) := by decide +kernel
theorem dL_law__602 : decode cL_law_ 602 = .ok (.iadd, 1) := by decide +kernel
theorem dL_law__603 : decode cL_law_ 603 = .ok (.iaload, 1) := by decide +kernel
theorem dL_law__604 : decode cL_law_ 604 = .ok (.aload_n 3, 1) := by decide +kernel
theorem dL_law__605 : decode cL_law_ 605 = .ok (.invokestatic 163, 3) := by decide +kernel
theorem dL_law__608 : decode cL_law_ 608 = .ok (.istore 5, 2) := by decide +kernel
theorem dL_law__610 : decode cL_law_ 610 = .ok (.aload_n 2, 1) := by decide +kernel
theorem dL_law__611 : decode cL_law_ 611 = .ok (.aload_n 0, 1) := by decide +kernel
theorem dL_law__612 : decode cL_law_ 612 = .ok (.iload 4, 2) := by decide +kernel
theorem dL_law__614 : decode cL_law_ 614 = .ok (.iconst 1, 1) := by decide +kernel
theorem dL_law__615 : decode cL_law_ 615 = .ok (.iadd, 1) := by decide +kernel
theorem dL_law__616 : decode cL_law_ 616 = .ok (.iaload, 1) := by decide +kernel
theorem dL_law__617 : decode cL_law_ 617 = .ok (.aload_n 0, 1) := by decide +kernel
theorem dL_law__618 : decode cL_law_ 618 = .ok (.iload 4, 2) := by decide +kernel
theorem dL_law__620 : decode cL_law_ 620 = .ok (.iconst 2, 1) := by decide +kernel
theorem dL_law__621 : decode cL_law_ 621 = .ok (.iadd, 1) := by decide +kernel
theorem dL_law__622 : decode cL_law_ 622 = .ok (.iaload, 1) := by decide +kernel
theorem dL_law__623 : decode cL_law_ 623 = .ok (.invokevirtual 165, 3) := by decide +kernel
theorem dL_law__626 : decode cL_law_ 626 = .ok (.istore 6, 2) := by decide +kernel
theorem dL_law__628 : decode cL_law_ 628 = .ok (.aload_n 2, 1) := by decide +kernel
theorem dL_law__629 : decode cL_law_ 629 = .ok (.invokevirtual 146, 3) := by decide +kernel
theorem dL_law__632 : decode cL_law_ 632 = .ok (.iload 5, 2) := by decide +kernel
theorem dL_law__634 : decode cL_law_ 634 = .ok (.if_icmp .eq 5, 3) := by decide +kernel
theorem dL_law__637 : decode cL_law_ 637 = .ok (.iconst 0, 1) := by decide +kernel
theorem dL_law__638 : decode cL_law_ 638 = .ok (.ireturn, 1) := by decide +kernel
theorem dL_law__639 : decode cL_law_ 639 = .ok (.iload 5, 2) := by decide +kernel
theorem dL_law__641 : decode cL_law_ 641 = .ok (.ifCond .ne 15, 3) := by decide +kernel
theorem dL_law__644 : decode cL_law_ 644 = .ok (.aload_n 3, 1) := by decide +kernel
theorem dL_law__645 : decode cL_law_ 645 = .ok (.iconst 0, 1) := by decide +kernel
theorem dL_law__646 : decode cL_law_ 646 = .ok (.laload, 1) := by decide +kernel
theorem dL_law__647 : decode cL_law_ 647 = .ok (.iload 6, 2) := by decide +kernel
theorem dL_law__649 : decode cL_law_ 649 = .ok (.i2l, 1) := by decide +kernel
theorem dL_law__650 : decode cL_law_ 650 = .ok (.lcmp, 1) := by decide +kernel
theorem dL_law__651 : decode cL_law_ 651 = .ok (.ifCond .eq 5, 3) := by decide +kernel
theorem dL_law__654 : decode cL_law_ 654 = .ok (.iconst 0, 1) := by decide +kernel
theorem dL_law__655 : decode cL_law_ 655 = .ok (.ireturn, 1) := by decide +kernel
theorem dL_law__656 : decode cL_law_ 656 = .ok (.goto 2082, 3) := by decide +kernel
theorem dL_law__659 : decode cL_law_ 659 = .ok (.aload_n 1, 1) := by decide +kernel
theorem dL_law__660 : decode cL_law_ 660 = .ok (.invokevirtual 166, 3) := by decide +kernel
theorem dL_law__663 : decode cL_law_ 663 = .ok (.aload_n 2, 1) := by decide +kernel
theorem dL_law__664 : decode cL_law_ 664 = .ok (.invokevirtual 169, 3) := by decide +kernel
theorem dL_law__667 : decode cL_law_ 667 = .ok (.if_icmp .eq 2071, 3) := by decide +kernel
theorem dL_law__670 : decode cL_law_ 670 = .ok (.iconst 0, 1) := by decide +kernel
theorem dL_law__671 : decode cL_law_ 671 = .ok (.ireturn, 1) := by decide +kernel
theorem dL_law__672 : decode cL_law_ 672 = .ok (.aload_n 1, 1) := by decide +kernel
theorem dL_law__673 : decode cL_law_ 673 = .ok (.aload_n 0, 1) := by decide +kernel
theorem dL_law__674 : decode cL_law_ 674 = .ok (.iload 4, 2) := by decide +kernel
theorem dL_law__676 : decode cL_law_ 676 = .ok (.iconst 1, 1) := by decide +kernel
theorem dL_law__677 : decode cL_law_ 677 = .ok (.iadd, 1) := by decide +kernel
theorem dL_law__678 : decode cL_law_ 678 = .ok (.iaload, 1) := by decide +kernel
theorem dL_law__679 : decode cL_law_ 679 = .ok (.aload_n 3, 1) := by decide +kernel
theorem dL_law__680 : decode cL_law_ 680 = .ok (.invokestatic 170, 3) := by decide +kernel
theorem dL_law__683 : decode cL_law_ 683 = .ok (.istore 5, 2) := by decide +kernel
theorem dL_law__685 : decode cL_law_ 685 = .ok (.aload_n 2, 1) := by decide +kernel
theorem dL_law__686 : decode cL_law_ 686 = .ok (.aload_n 0, 1) := by decide +kernel
theorem dL_law__687 : decode cL_law_ 687 = .ok (.iload 4, 2) := by decide +kernel
theorem dL_law__689 : decode cL_law_ 689 = .ok (.iconst 1, 1) := by decide +kernel
theorem dL_law__690 : decode cL_law_ 690 = .ok (.iadd, 1) := by decide +kernel
theorem dL_law__691 : decode cL_law_ 691 = .ok (.iaload, 1) := by decide +kernel
theorem dL_law__692 : decode cL_law_ 692 = .ok (.invokevirtual 173, 3) := by decide +kernel
theorem dL_law__695 : decode cL_law_ 695 = .ok (.istore 6, 2) := by decide +kernel
theorem dL_law__697 : decode cL_law_ 697 = .ok (.aload_n 2, 1) := by decide +kernel
theorem dL_law__698 : decode cL_law_ 698 = .ok (.invokevirtual 146, 3) := by decide +kernel
theorem dL_law__701 : decode cL_law_ 701 = .ok (.iload 5, 2) := by decide +kernel
theorem dL_law__703 : decode cL_law_ 703 = .ok (.if_icmp .eq 5, 3) := by decide +kernel
theorem dL_law__706 : decode cL_law_ 706 = .ok (.iconst 0, 1) := by decide +kernel
theorem dL_law__707 : decode cL_law_ 707 = .ok (.ireturn, 1) := by decide +kernel
theorem dL_law__708 : decode cL_law_ 708 = .ok (.iload 5, 2) := by decide +kernel
theorem dL_law__710 : decode cL_law_ 710 = .ok (.ifCond .ne 15, 3) := by decide +kernel
theorem dL_law__713 : decode cL_law_ 713 = .ok (.aload_n 3, 1) := by decide +kernel
theorem dL_law__714 : decode cL_law_ 714 = .ok (.iconst 0, 1) := by decide +kernel
theorem dL_law__715 : decode cL_law_ 715 = .ok (.laload, 1) := by decide +kernel
theorem dL_law__716 : decode cL_law_ 716 = .ok (.iload 6, 2) := by decide +kernel
theorem dL_law__718 : decode cL_law_ 718 = .ok (.i2l, 1) := by decide +kernel
theorem dL_law__719 : decode cL_law_ 719 = .ok (.lcmp, 1) := by decide +kernel
theorem dL_law__720 : decode cL_law_ 720 = .ok (.ifCond .eq 5, 3) := by decide +kernel
theorem dL_law__723 : decode cL_law_ 723 = .ok (.iconst 0, 1) := by decide +kernel
theorem dL_law__724 : decode cL_law_ 724 = .ok (.ireturn, 1) := by decide +kernel
theorem dL_law__725 : decode cL_law_ 725 = .ok (.goto 2013, 3) := by decide +kernel
theorem dL_law__728 : decode cL_law_ 728 = .ok (.aload_n 1, 1) := by decide +kernel
theorem dL_law__729 : decode cL_law_ 729 = .ok (.aload_n 0, 1) := by decide +kernel
theorem dL_law__730 : decode cL_law_ 730 = .ok (.iload 4, 2) := by decide +kernel
theorem dL_law__732 : decode cL_law_ 732 = .ok (.iconst 1, 1) := by decide +kernel
theorem dL_law__733 : decode cL_law_ 733 = .ok (.iadd, 1) := by decide +kernel
theorem dL_law__734 : decode cL_law_ 734 = .ok (.iaload, 1) := by decide +kernel
theorem dL_law__735 : decode cL_law_ 735 = .ok (.aload_n 0, 1) := by decide +kernel
theorem dL_law__736 : decode cL_law_ 736 = .ok (.iload 4, 2) := by decide +kernel
theorem dL_law__738 : decode cL_law_ 738 = .ok (.iconst 2, 1) := by decide +kernel
theorem dL_law__739 : decode cL_law_ 739 = .ok (.iadd, 1) := by decide +kernel
theorem dL_law__740 : decode cL_law_ 740 = .ok (.iaload, 1) := by decide +kernel
theorem dL_law__741 : decode cL_law_ 741 = .ok (.aload_n 0, 1) := by decide +kernel
theorem dL_law__742 : decode cL_law_ 742 = .ok (.iload 4, 2) := by decide +kernel
theorem dL_law__744 : decode cL_law_ 744 = .ok (.iconst 3, 1) := by decide +kernel
theorem dL_law__745 : decode cL_law_ 745 = .ok (.iadd, 1) := by decide +kernel
theorem dL_law__746 : decode cL_law_ 746 = .ok (.iaload, 1) := by decide +kernel
theorem dL_law__747 : decode cL_law_ 747 = .ok (.aload_n 3, 1) := by decide +kernel
theorem dL_law__748 : decode cL_law_ 748 = .ok (.invokestatic 174, 3) := by decide +kernel
theorem dL_law__751 : decode cL_law_ 751 = .ok (.istore 5, 2) := by decide +kernel
theorem dL_law__753 : decode cL_law_ 753 = .ok (.aload_n 2, 1) := by decide +kernel
theorem dL_law__754 : decode cL_law_ 754 = .ok (.aload_n 0, 1) := by decide +kernel
theorem dL_law__755 : decode cL_law_ 755 = .ok (.iload 4, 2) := by decide +kernel
theorem dL_law__757 : decode cL_law_ 757 = .ok (.iconst 1, 1) := by decide +kernel
theorem dL_law__758 : decode cL_law_ 758 = .ok (.iadd, 1) := by decide +kernel
theorem dL_law__759 : decode cL_law_ 759 = .ok (.iaload, 1) := by decide +kernel
theorem dL_law__760 : decode cL_law_ 760 = .ok (.aload_n 0, 1) := by decide +kernel
theorem dL_law__761 : decode cL_law_ 761 = .ok (.iload 4, 2) := by decide +kernel
theorem dL_law__763 : decode cL_law_ 763 = .ok (.iconst 2, 1) := by decide +kernel
theorem dL_law__764 : decode cL_law_ 764 = .ok (.iadd, 1) := by decide +kernel
theorem dL_law__765 : decode cL_law_ 765 = .ok (.iaload, 1) := by decide +kernel
theorem dL_law__766 : decode cL_law_ 766 = .ok (.aload_n 0, 1) := by decide +kernel
theorem dL_law__767 : decode cL_law_ 767 = .ok (.iload 4, 2) := by decide +kernel
theorem dL_law__769 : decode cL_law_ 769 = .ok (.iconst 3, 1) := by decide +kernel
theorem dL_law__770 : decode cL_law_ 770 = .ok (.iadd, 1) := by decide +kernel
theorem dL_law__771 : decode cL_law_ 771 = .ok (.iaload, 1) := by decide +kernel
theorem dL_law__772 : decode cL_law_ 772 = .ok (.invokevirtual 177, 3) := by decide +kernel
theorem dL_law__775 : decode cL_law_ 775 = .ok (.istore 6, 2) := by decide +kernel
theorem dL_law__777 : decode cL_law_ 777 = .ok (.aload_n 2, 1) := by decide +kernel
theorem dL_law__778 : decode cL_law_ 778 = .ok (.invokevirtual 146, 3) := by decide +kernel
theorem dL_law__781 : decode cL_law_ 781 = .ok (.iload 5, 2) := by decide +kernel
theorem dL_law__783 : decode cL_law_ 783 = .ok (.if_icmp .eq 5, 3) := by decide +kernel
theorem dL_law__786 : decode cL_law_ 786 = .ok (.iconst 0, 1) := by decide +kernel
theorem dL_law__787 : decode cL_law_ 787 = .ok (.ireturn, 1) := by decide +kernel
theorem dL_law__788 : decode cL_law_ 788 = .ok (.iload 5, 2) := by decide +kernel
theorem dL_law__790 : decode cL_law_ 790 = .ok (.ifCond .ne 15, 3) := by decide +kernel
theorem dL_law__793 : decode cL_law_ 793 = .ok (.aload_n 3, 1) := by decide +kernel
theorem dL_law__794 : decode cL_law_ 794 = .ok (.iconst 0, 1) := by decide +kernel
theorem dL_law__795 : decode cL_law_ 795 = .ok (.laload, 1) := by decide +kernel
theorem dL_law__796 : decode cL_law_ 796 = .ok (.iload 6, 2) := by decide +kernel
theorem dL_law__798 : decode cL_law_ 798 = .ok (.i2l, 1) := by decide +kernel
theorem dL_law__799 : decode cL_law_ 799 = .ok (.lcmp, 1) := by decide +kernel
theorem dL_law__800 : decode cL_law_ 800 = .ok (.ifCond .eq 5, 3) := by decide +kernel
theorem dL_law__803 : decode cL_law_ 803 = .ok (.iconst 0, 1) := by decide +kernel
theorem dL_law__804 : decode cL_law_ 804 = .ok (.ireturn, 1) := by decide +kernel
theorem dL_law__805 : decode cL_law_ 805 = .ok (.goto 1933, 3) := by decide +kernel
theorem dL_law__808 : decode cL_law_ 808 = .ok (.aload_n 1, 1) := by decide +kernel
theorem dL_law__809 : decode cL_law_ 809 = .ok (.aload_n 0, 1) := by decide +kernel
theorem dL_law__810 : decode cL_law_ 810 = .ok (.iload 4, 2) := by decide +kernel
theorem dL_law__812 : decode cL_law_ 812 = .ok (.iconst 1, 1) := by decide +kernel
theorem dL_law__813 : decode cL_law_ 813 = .ok (.iadd, 1) := by decide +kernel
theorem dL_law__814 : decode cL_law_ 814 = .ok (.iaload, 1) := by decide +kernel
theorem dL_law__815 : decode cL_law_ 815 = .ok (.invokestatic 178, 3) := by decide +kernel
theorem dL_law__818 : decode cL_law_ 818 = .ok (.istore 5, 2) := by decide +kernel
theorem dL_law__820 : decode cL_law_ 820 = .ok (.aload_n 2, 1) := by decide +kernel
theorem dL_law__821 : decode cL_law_ 821 = .ok (.aload_n 0, 1) := by decide +kernel
theorem dL_law__822 : decode cL_law_ 822 = .ok (.iload 4, 2) := by decide +kernel
theorem dL_law__824 : decode cL_law_ 824 = .ok (.iconst 1, 1) := by decide +kernel
theorem dL_law__825 : decode cL_law_ 825 = .ok (.iadd, 1) := by decide +kernel
theorem dL_law__826 : decode cL_law_ 826 = .ok (.iaload, 1) := by decide +kernel
theorem dL_law__827 : decode cL_law_ 827 = .ok (.invokevirtual 181, 3) := by decide +kernel
theorem dL_law__830 : decode cL_law_ 830 = .ok (.aload_n 2, 1) := by decide +kernel
theorem dL_law__831 : decode cL_law_ 831 = .ok (.invokevirtual 146, 3) := by decide +kernel
theorem dL_law__834 : decode cL_law_ 834 = .ok (.iload 5, 2) := by decide +kernel
theorem dL_law__836 : decode cL_law_ 836 = .ok (.if_icmp .eq 5, 3) := by decide +kernel
theorem dL_law__839 : decode cL_law_ 839 = .ok (.iconst 0, 1) := by decide +kernel
theorem dL_law__840 : decode cL_law_ 840 = .ok (.ireturn, 1) := by decide +kernel
theorem dL_law__841 : decode cL_law_ 841 = .ok (.goto 1897, 3) := by decide +kernel
theorem dL_law__844 : decode cL_law_ 844 = .ok (.aload_n 1, 1) := by decide +kernel
theorem dL_law__845 : decode cL_law_ 845 = .ok (.aload_n 0, 1) := by decide +kernel
theorem dL_law__846 : decode cL_law_ 846 = .ok (.iload 4, 2) := by decide +kernel
theorem dL_law__848 : decode cL_law_ 848 = .ok (.iconst 1, 1) := by decide +kernel
theorem dL_law__849 : decode cL_law_ 849 = .ok (.iadd, 1) := by decide +kernel
theorem dL_law__850 : decode cL_law_ 850 = .ok (.iaload, 1) := by decide +kernel
theorem dL_law__851 : decode cL_law_ 851 = .ok (.aload_n 3, 1) := by decide +kernel
theorem dL_law__852 : decode cL_law_ 852 = .ok (.invokestatic 182, 3) := by decide +kernel
theorem dL_law__855 : decode cL_law_ 855 = .ok (.istore 5, 2) := by decide +kernel
theorem dL_law__857 : decode cL_law_ 857 = .ok (.aload_n 2, 1) := by decide +kernel
theorem dL_law__858 : decode cL_law_ 858 = .ok (.aload_n 0, 1) := by decide +kernel
theorem dL_law__859 : decode cL_law_ 859 = .ok (.iload 4, 2) := by decide +kernel
theorem dL_law__861 : decode cL_law_ 861 = .ok (.iconst 1, 1) := by decide +kernel
theorem dL_law__862 : decode cL_law_ 862 = .ok (.iadd, 1) := by decide +kernel
theorem dL_law__863 : decode cL_law_ 863 = .ok (.iaload, 1) := by decide +kernel
theorem dL_law__864 : decode cL_law_ 864 = .ok (.invokevirtual 184, 3) := by decide +kernel
theorem dL_law__867 : decode cL_law_ 867 = .ok (.istore 6, 2) := by decide +kernel
theorem dL_law__869 : decode cL_law_ 869 = .ok (.aload_n 2, 1) := by decide +kernel
theorem dL_law__870 : decode cL_law_ 870 = .ok (.invokevirtual 146, 3) := by decide +kernel
theorem dL_law__873 : decode cL_law_ 873 = .ok (.iload 5, 2) := by decide +kernel
theorem dL_law__875 : decode cL_law_ 875 = .ok (.if_icmp .eq 5, 3) := by decide +kernel
theorem dL_law__878 : decode cL_law_ 878 = .ok (.iconst 0, 1) := by decide +kernel
theorem dL_law__879 : decode cL_law_ 879 = .ok (.ireturn, 1) := by decide +kernel
theorem dL_law__880 : decode cL_law_ 880 = .ok (.iload 5, 2) := by decide +kernel
theorem dL_law__882 : decode cL_law_ 882 = .ok (.ifCond .ne 15, 3) := by decide +kernel
theorem dL_law__885 : decode cL_law_ 885 = .ok (.aload_n 3, 1) := by decide +kernel
theorem dL_law__886 : decode cL_law_ 886 = .ok (.iconst 0, 1) := by decide +kernel
theorem dL_law__887 : decode cL_law_ 887 = .ok (.laload, 1) := by decide +kernel
theorem dL_law__888 : decode cL_law_ 888 = .ok (.iload 6, 2) := by decide +kernel
theorem dL_law__890 : decode cL_law_ 890 = .ok (.i2l, 1) := by decide +kernel
theorem dL_law__891 : decode cL_law_ 891 = .ok (.lcmp, 1) := by decide +kernel
theorem dL_law__892 : decode cL_law_ 892 = .ok (.ifCond .eq 5, 3) := by decide +kernel
theorem dL_law__895 : decode cL_law_ 895 = .ok (.iconst 0, 1) := by decide +kernel
theorem dL_law__896 : decode cL_law_ 896 = .ok (.ireturn, 1) := by decide +kernel
theorem dL_law__897 : decode cL_law_ 897 = .ok (.goto 1841, 3) := by decide +kernel
theorem dL_law__900 : decode cL_law_ 900 = .ok (.aload_n 1, 1) := by decide +kernel
theorem dL_law__901 : decode cL_law_ 901 = .ok (.aload_n 0, 1) := by decide +kernel
theorem dL_law__902 : decode cL_law_ 902 = .ok (.iload 4, 2) := by decide +kernel
theorem dL_law__904 : decode cL_law_ 904 = .ok (.iconst 1, 1) := by decide +kernel
theorem dL_law__905 : decode cL_law_ 905 = .ok (.iadd, 1) := by decide +kernel
theorem dL_law__906 : decode cL_law_ 906 = .ok (.iaload, 1) := by decide +kernel
theorem dL_law__907 : decode cL_law_ 907 = .ok (.aload_n 0, 1) := by decide +kernel
theorem dL_law__908 : decode cL_law_ 908 = .ok (.iload 4, 2) := by decide +kernel
theorem dL_law__910 : decode cL_law_ 910 = .ok (.iconst 2, 1) := by decide +kernel
theorem dL_law__911 : decode cL_law_ 911 = .ok (.iadd, 1) := by decide +kernel
theorem dL_law__912 : decode cL_law_ 912 = .ok (.iaload, 1) := by decide +kernel
theorem dL_law__913 : decode cL_law_ 913 = .ok (.aload_n 3, 1) := by decide +kernel
theorem dL_law__914 : decode cL_law_ 914 = .ok (.invokestatic 185, 3) := by decide +kernel
theorem dL_law__917 : decode cL_law_ 917 = .ok (.istore 5, 2) := by decide +kernel
theorem dL_law__919 : decode cL_law_ 919 = .ok (.aload_n 2, 1) := by decide +kernel
theorem dL_law__920 : decode cL_law_ 920 = .ok (.aload_n 0, 1) := by decide +kernel
theorem dL_law__921 : decode cL_law_ 921 = .ok (.iload 4, 2) := by decide +kernel
theorem dL_law__923 : decode cL_law_ 923 = .ok (.iconst 1, 1) := by decide +kernel
theorem dL_law__924 : decode cL_law_ 924 = .ok (.iadd, 1) := by decide +kernel
theorem dL_law__925 : decode cL_law_ 925 = .ok (.iaload, 1) := by decide +kernel
theorem dL_law__926 : decode cL_law_ 926 = .ok (.aload_n 0, 1) := by decide +kernel
theorem dL_law__927 : decode cL_law_ 927 = .ok (.iload 4, 2) := by decide +kernel
theorem dL_law__929 : decode cL_law_ 929 = .ok (.iconst 2, 1) := by decide +kernel
theorem dL_law__930 : decode cL_law_ 930 = .ok (.iadd, 1) := by decide +kernel
theorem dL_law__931 : decode cL_law_ 931 = .ok (.iaload, 1) := by decide +kernel
theorem dL_law__932 : decode cL_law_ 932 = .ok (.invokevirtual 187, 3) := by decide +kernel
theorem dL_law__935 : decode cL_law_ 935 = .ok (.istore 6, 2) := by decide +kernel
theorem dL_law__937 : decode cL_law_ 937 = .ok (.aload_n 2, 1) := by decide +kernel
theorem dL_law__938 : decode cL_law_ 938 = .ok (.invokevirtual 146, 3) := by decide +kernel
theorem dL_law__941 : decode cL_law_ 941 = .ok (.iload 5, 2) := by decide +kernel
theorem dL_law__943 : decode cL_law_ 943 = .ok (.if_icmp .eq 5, 3) := by decide +kernel
theorem dL_law__946 : decode cL_law_ 946 = .ok (.iconst 0, 1) := by decide +kernel
theorem dL_law__947 : decode cL_law_ 947 = .ok (.ireturn, 1) := by decide +kernel
theorem dL_law__948 : decode cL_law_ 948 = .ok (.iload 5, 2) := by decide +kernel
theorem dL_law__950 : decode cL_law_ 950 = .ok (.ifCond .ne 15, 3) := by decide +kernel
theorem dL_law__953 : decode cL_law_ 953 = .ok (.aload_n 3, 1) := by decide +kernel
theorem dL_law__954 : decode cL_law_ 954 = .ok (.iconst 0, 1) := by decide +kernel
theorem dL_law__955 : decode cL_law_ 955 = .ok (.laload, 1) := by decide +kernel
theorem dL_law__956 : decode cL_law_ 956 = .ok (.iload 6, 2) := by decide +kernel
theorem dL_law__958 : decode cL_law_ 958 = .ok (.i2l, 1) := by decide +kernel
theorem dL_law__959 : decode cL_law_ 959 = .ok (.lcmp, 1) := by decide +kernel
theorem dL_law__960 : decode cL_law_ 960 = .ok (.ifCond .eq 5, 3) := by decide +kernel
theorem dL_law__963 : decode cL_law_ 963 = .ok (.iconst 0, 1) := by decide +kernel
theorem dL_law__964 : decode cL_law_ 964 = .ok (.ireturn, 1) := by decide +kernel
theorem dL_law__965 : decode cL_law_ 965 = .ok (.goto 1773, 3) := by decide +kernel
theorem dL_law__968 : decode cL_law_ 968 = .ok (.aload_n 1, 1) := by decide +kernel
theorem dL_law__969 : decode cL_law_ 969 = .ok (.aload_n 0, 1) := by decide +kernel
theorem dL_law__970 : decode cL_law_ 970 = .ok (.iload 4, 2) := by decide +kernel
theorem dL_law__972 : decode cL_law_ 972 = .ok (.iconst 1, 1) := by decide +kernel
theorem dL_law__973 : decode cL_law_ 973 = .ok (.iadd, 1) := by decide +kernel
theorem dL_law__974 : decode cL_law_ 974 = .ok (.iaload, 1) := by decide +kernel
theorem dL_law__975 : decode cL_law_ 975 = .ok (.aload_n 0, 1) := by decide +kernel
theorem dL_law__976 : decode cL_law_ 976 = .ok (.iload 4, 2) := by decide +kernel
theorem dL_law__978 : decode cL_law_ 978 = .ok (.iconst 2, 1) := by decide +kernel
theorem dL_law__979 : decode cL_law_ 979 = .ok (.iadd, 1) := by decide +kernel
theorem dL_law__980 : decode cL_law_ 980 = .ok (.iaload, 1) := by decide +kernel
theorem dL_law__981 : decode cL_law_ 981 = .ok (.aload_n 3, 1) := by decide +kernel
theorem dL_law__982 : decode cL_law_ 982 = .ok (.invokestatic 188, 3) := by decide +kernel
theorem dL_law__985 : decode cL_law_ 985 = .ok (.istore 5, 2) := by decide +kernel
theorem dL_law__987 : decode cL_law_ 987 = .ok (.aload_n 2, 1) := by decide +kernel
theorem dL_law__988 : decode cL_law_ 988 = .ok (.aload_n 0, 1) := by decide +kernel
theorem dL_law__989 : decode cL_law_ 989 = .ok (.iload 4, 2) := by decide +kernel
theorem dL_law__991 : decode cL_law_ 991 = .ok (.iconst 1, 1) := by decide +kernel
theorem dL_law__992 : decode cL_law_ 992 = .ok (.iadd, 1) := by decide +kernel
theorem dL_law__993 : decode cL_law_ 993 = .ok (.iaload, 1) := by decide +kernel
theorem dL_law__994 : decode cL_law_ 994 = .ok (.aload_n 0, 1) := by decide +kernel
theorem dL_law__995 : decode cL_law_ 995 = .ok (.iload 4, 2) := by decide +kernel
theorem dL_law__997 : decode cL_law_ 997 = .ok (.iconst 2, 1) := by decide +kernel
theorem dL_law__998 : decode cL_law_ 998 = .ok (.iadd, 1) := by decide +kernel
theorem dL_law__999 : decode cL_law_ 999 = .ok (.iaload, 1) := by decide +kernel
theorem dL_law__1000 : decode cL_law_ 1000 = .ok (.invokevirtual 190, 3) := by decide +kernel
theorem dL_law__1003 : decode cL_law_ 1003 = .ok (.istore 6, 2) := by decide +kernel
theorem dL_law__1005 : decode cL_law_ 1005 = .ok (.aload_n 2, 1) := by decide +kernel
theorem dL_law__1006 : decode cL_law_ 1006 = .ok (.invokevirtual 146, 3) := by decide +kernel
theorem dL_law__1009 : decode cL_law_ 1009 = .ok (.iload 5, 2) := by decide +kernel
theorem dL_law__1011 : decode cL_law_ 1011 = .ok (.if_icmp .eq 5, 3) := by decide +kernel
theorem dL_law__1014 : decode cL_law_ 1014 = .ok (.iconst 0, 1) := by decide +kernel
theorem dL_law__1015 : decode cL_law_ 1015 = .ok (.ireturn, 1) := by decide +kernel
theorem dL_law__1016 : decode cL_law_ 1016 = .ok (.iload 5, 2) := by decide +kernel
theorem dL_law__1018 : decode cL_law_ 1018 = .ok (.ifCond .ne 15, 3) := by decide +kernel
theorem dL_law__1021 : decode cL_law_ 1021 = .ok (.aload_n 3, 1) := by decide +kernel
theorem dL_law__1022 : decode cL_law_ 1022 = .ok (.iconst 0, 1) := by decide +kernel
theorem dL_law__1023 : decode cL_law_ 1023 = .ok (.laload, 1) := by decide +kernel
theorem dL_law__1024 : decode cL_law_ 1024 = .ok (.iload 6, 2) := by decide +kernel
theorem dL_law__1026 : decode cL_law_ 1026 = .ok (.i2l, 1) := by decide +kernel
theorem dL_law__1027 : decode cL_law_ 1027 = .ok (.lcmp, 1) := by decide +kernel
theorem dL_law__1028 : decode cL_law_ 1028 = .ok (.ifCond .eq 5, 3) := by decide +kernel
theorem dL_law__1031 : decode cL_law_ 1031 = .ok (.iconst 0, 1) := by decide +kernel
theorem dL_law__1032 : decode cL_law_ 1032 = .ok (.ireturn, 1) := by decide +kernel
theorem dL_law__1033 : decode cL_law_ 1033 = .ok (.goto 1705, 3) := by decide +kernel
theorem dL_law__1036 : decode cL_law_ 1036 = .ok (.aload_n 1, 1) := by decide +kernel
theorem dL_law__1037 : decode cL_law_ 1037 = .ok (.aload_n 0, 1) := by decide +kernel
theorem dL_law__1038 : decode cL_law_ 1038 = .ok (.iload 4, 2) := by decide +kernel
theorem dL_law__1040 : decode cL_law_ 1040 = .ok (.iconst 1, 1) := by decide +kernel
theorem dL_law__1041 : decode cL_law_ 1041 = .ok (.iadd, 1) := by decide +kernel
theorem dL_law__1042 : decode cL_law_ 1042 = .ok (.iaload, 1) := by decide +kernel
theorem dL_law__1043 : decode cL_law_ 1043 = .ok (.aload_n 0, 1) := by decide +kernel
theorem dL_law__1044 : decode cL_law_ 1044 = .ok (.iload 4, 2) := by decide +kernel
theorem dL_law__1046 : decode cL_law_ 1046 = .ok (.iconst 2, 1) := by decide +kernel
theorem dL_law__1047 : decode cL_law_ 1047 = .ok (.iadd, 1) := by decide +kernel
theorem dL_law__1048 : decode cL_law_ 1048 = .ok (.iaload, 1) := by decide +kernel
theorem dL_law__1049 : decode cL_law_ 1049 = .ok (.ifCond .eq 7, 3) := by decide +kernel
theorem dL_law__1052 : decode cL_law_ 1052 = .ok (.iconst 1, 1) := by decide +kernel
theorem dL_law__1053 : decode cL_law_ 1053 = .ok (.goto 4, 3) := by decide +kernel
theorem dL_law__1056 : decode cL_law_ 1056 = .ok (.iconst 0, 1) := by decide +kernel
theorem dL_law__1057 : decode cL_law_ 1057 = .ok (.aload_n 3, 1) := by decide +kernel
theorem dL_law__1058 : decode cL_law_ 1058 = .ok (.invokestatic 191, 3) := by decide +kernel
theorem dL_law__1061 : decode cL_law_ 1061 = .ok (.istore 5, 2) := by decide +kernel
theorem dL_law__1063 : decode cL_law_ 1063 = .ok (.aload_n 2, 1) := by decide +kernel
theorem dL_law__1064 : decode cL_law_ 1064 = .ok (.aload_n 0, 1) := by decide +kernel
theorem dL_law__1065 : decode cL_law_ 1065 = .ok (.iload 4, 2) := by decide +kernel
theorem dL_law__1067 : decode cL_law_ 1067 = .ok (.iconst 1, 1) := by decide +kernel
theorem dL_law__1068 : decode cL_law_ 1068 = .ok (.iadd, 1) := by decide +kernel
theorem dL_law__1069 : decode cL_law_ 1069 = .ok (.iaload, 1) := by decide +kernel
theorem dL_law__1070 : decode cL_law_ 1070 = .ok (.aload_n 0, 1) := by decide +kernel
theorem dL_law__1071 : decode cL_law_ 1071 = .ok (.iload 4, 2) := by decide +kernel
theorem dL_law__1073 : decode cL_law_ 1073 = .ok (.iconst 2, 1) := by decide +kernel
theorem dL_law__1074 : decode cL_law_ 1074 = .ok (.iadd, 1) := by decide +kernel
theorem dL_law__1075 : decode cL_law_ 1075 = .ok (.iaload, 1) := by decide +kernel
theorem dL_law__1076 : decode cL_law_ 1076 = .ok (.ifCond .eq 7, 3) := by decide +kernel
theorem dL_law__1079 : decode cL_law_ 1079 = .ok (.iconst 1, 1) := by decide +kernel
theorem dL_law__1080 : decode cL_law_ 1080 = .ok (.goto 4, 3) := by decide +kernel
theorem dL_law__1083 : decode cL_law_ 1083 = .ok (.iconst 0, 1) := by decide +kernel
theorem dL_law__1084 : decode cL_law_ 1084 = .ok (.invokevirtual 194, 3) := by decide +kernel
theorem dL_law__1087 : decode cL_law_ 1087 = .ok (.istore 6, 2) := by decide +kernel
theorem dL_law__1089 : decode cL_law_ 1089 = .ok (.aload_n 2, 1) := by decide +kernel
theorem dL_law__1090 : decode cL_law_ 1090 = .ok (.invokevirtual 146, 3) := by decide +kernel
theorem dL_law__1093 : decode cL_law_ 1093 = .ok (.iload 5, 2) := by decide +kernel
theorem dL_law__1095 : decode cL_law_ 1095 = .ok (.if_icmp .eq 5, 3) := by decide +kernel
theorem dL_law__1098 : decode cL_law_ 1098 = .ok (.iconst 0, 1) := by decide +kernel
theorem dL_law__1099 : decode cL_law_ 1099 = .ok (.ireturn, 1) := by decide +kernel
theorem dL_law__1100 : decode cL_law_ 1100 = .ok (.iload 5, 2) := by decide +kernel
theorem dL_law__1102 : decode cL_law_ 1102 = .ok (.ifCond .ne 22, 3) := by decide +kernel
theorem dL_law__1105 : decode cL_law_ 1105 = .ok (.aload_n 3, 1) := by decide +kernel
theorem dL_law__1106 : decode cL_law_ 1106 = .ok (.iconst 0, 1) := by decide +kernel
theorem dL_law__1107 : decode cL_law_ 1107 = .ok (.laload, 1) := by decide +kernel
theorem dL_law__1108 : decode cL_law_ 1108 = .ok (.iload 6, 2) := by decide +kernel
theorem dL_law__1110 : decode cL_law_ 1110 = .ok (.ifCond .eq 7, 3) := by decide +kernel
theorem dL_law__1113 : decode cL_law_ 1113 = .ok (.lconst 1, 1) := by decide +kernel
theorem dL_law__1114 : decode cL_law_ 1114 = .ok (.goto 4, 3) := by decide +kernel
theorem dL_law__1117 : decode cL_law_ 1117 = .ok (.lconst 0, 1) := by decide +kernel
theorem dL_law__1118 : decode cL_law_ 1118 = .ok (.lcmp, 1) := by decide +kernel
theorem dL_law__1119 : decode cL_law_ 1119 = .ok (.ifCond .eq 5, 3) := by decide +kernel
theorem dL_law__1122 : decode cL_law_ 1122 = .ok (.iconst 0, 1) := by decide +kernel
theorem dL_law__1123 : decode cL_law_ 1123 = .ok (.ireturn, 1) := by decide +kernel
theorem dL_law__1124 : decode cL_law_ 1124 = .ok (.goto 1614, 3) := by decide +kernel
theorem dL_law__1127 : decode cL_law_ 1127 = .ok (.aload_n 1, 1) := by decide +kernel
theorem dL_law__1128 : decode cL_law_ 1128 = .ok (.aload_n 0, 1) := by decide +kernel
theorem dL_law__1129 : decode cL_law_ 1129 = .ok (.iload 4, 2) := by decide +kernel
theorem dL_law__1131 : decode cL_law_ 1131 = .ok (.iconst 1, 1) := by decide +kernel
theorem dL_law__1132 : decode cL_law_ 1132 = .ok (.iadd, 1) := by decide +kernel
theorem dL_law__1133 : decode cL_law_ 1133 = .ok (.iaload, 1) := by decide +kernel
theorem dL_law__1134 : decode cL_law_ 1134 = .ok (.aload_n 3, 1) := by decide +kernel
theorem dL_law__1135 : decode cL_law_ 1135 = .ok (.invokestatic 195, 3) := by decide +kernel
theorem dL_law__1138 : decode cL_law_ 1138 = .ok (.istore 5, 2) := by decide +kernel
theorem dL_law__1140 : decode cL_law_ 1140 = .ok (.aload_n 2, 1) := by decide +kernel
theorem dL_law__1141 : decode cL_law_ 1141 = .ok (.aload_n 0, 1) := by decide +kernel
theorem dL_law__1142 : decode cL_law_ 1142 = .ok (.iload 4, 2) := by decide +kernel
theorem dL_law__1144 : decode cL_law_ 1144 = .ok (.iconst 1, 1) := by decide +kernel
theorem dL_law__1145 : decode cL_law_ 1145 = .ok (.iadd, 1) := by decide +kernel
theorem dL_law__1146 : decode cL_law_ 1146 = .ok (.iaload, 1) := by decide +kernel
theorem dL_law__1147 : decode cL_law_ 1147 = .ok (.invokevirtual 197, 3) := by decide +kernel
theorem dL_law__1150 : decode cL_law_ 1150 = .ok (.istore 6, 2) := by decide +kernel
theorem dL_law__1152 : decode cL_law_ 1152 = .ok (.aload_n 2, 1) := by decide +kernel
theorem dL_law__1153 : decode cL_law_ 1153 = .ok (.invokevirtual 146, 3) := by decide +kernel
theorem dL_law__1156 : decode cL_law_ 1156 = .ok (.iload 5, 2) := by decide +kernel
theorem dL_law__1158 : decode cL_law_ 1158 = .ok (.if_icmp .eq 5, 3) := by decide +kernel
theorem dL_law__1161 : decode cL_law_ 1161 = .ok (.iconst 0, 1) := by decide +kernel
theorem dL_law__1162 : decode cL_law_ 1162 = .ok (.ireturn, 1) := by decide +kernel
theorem dL_law__1163 : decode cL_law_ 1163 = .ok (.iload 5, 2) := by decide +kernel
theorem dL_law__1165 : decode cL_law_ 1165 = .ok (.ifCond .ne 15, 3) := by decide +kernel
theorem dL_law__1168 : decode cL_law_ 1168 = .ok (.aload_n 3, 1) := by decide +kernel
theorem dL_law__1169 : decode cL_law_ 1169 = .ok (.iconst 0, 1) := by decide +kernel
theorem dL_law__1170 : decode cL_law_ 1170 = .ok (.laload, 1) := by decide +kernel
theorem dL_law__1171 : decode cL_law_ 1171 = .ok (.iload 6, 2) := by decide +kernel
theorem dL_law__1173 : decode cL_law_ 1173 = .ok (.i2l, 1) := by decide +kernel
theorem dL_law__1174 : decode cL_law_ 1174 = .ok (.lcmp, 1) := by decide +kernel
theorem dL_law__1175 : decode cL_law_ 1175 = .ok (.ifCond .eq 5, 3) := by decide +kernel
theorem dL_law__1178 : decode cL_law_ 1178 = .ok (.iconst 0, 1) := by decide +kernel
theorem dL_law__1179 : decode cL_law_ 1179 = .ok (.ireturn, 1) := by decide +kernel
theorem dL_law__1180 : decode cL_law_ 1180 = .ok (.goto 1558, 3) := by decide +kernel
theorem dL_law__1183 : decode cL_law_ 1183 = .ok (.aload_n 1, 1) := by decide +kernel
theorem dL_law__1184 : decode cL_law_ 1184 = .ok (.aload_n 0, 1) := by decide +kernel
theorem dL_law__1185 : decode cL_law_ 1185 = .ok (.iload 4, 2) := by decide +kernel
theorem dL_law__1187 : decode cL_law_ 1187 = .ok (.iconst 1, 1) := by decide +kernel
theorem dL_law__1188 : decode cL_law_ 1188 = .ok (.iadd, 1) := by decide +kernel
theorem dL_law__1189 : decode cL_law_ 1189 = .ok (.iaload, 1) := by decide +kernel
theorem dL_law__1190 : decode cL_law_ 1190 = .ok (.aload_n 0, 1) := by decide +kernel
theorem dL_law__1191 : decode cL_law_ 1191 = .ok (.iload 4, 2) := by decide +kernel
theorem dL_law__1193 : decode cL_law_ 1193 = .ok (.iconst 2, 1) := by decide +kernel
theorem dL_law__1194 : decode cL_law_ 1194 = .ok (.iadd, 1) := by decide +kernel
theorem dL_law__1195 : decode cL_law_ 1195 = .ok (.iaload, 1) := by decide +kernel
theorem dL_law__1196 : decode cL_law_ 1196 = .ok (.aload_n 3, 1) := by decide +kernel
theorem dL_law__1197 : decode cL_law_ 1197 = .ok (.invokestatic 198, 3) := by decide +kernel
theorem dL_law__1200 : decode cL_law_ 1200 = .ok (.istore 5, 2) := by decide +kernel
theorem dL_law__1202 : decode cL_law_ 1202 = .ok (.aload_n 2, 1) := by decide +kernel
theorem dL_law__1203 : decode cL_law_ 1203 = .ok (.aload_n 0, 1) := by decide +kernel
theorem dL_law__1204 : decode cL_law_ 1204 = .ok (.iload 4, 2) := by decide +kernel
theorem dL_law__1206 : decode cL_law_ 1206 = .ok (.iconst 1, 1) := by decide +kernel
theorem dL_law__1207 : decode cL_law_ 1207 = .ok (.iadd, 1) := by decide +kernel
theorem dL_law__1208 : decode cL_law_ 1208 = .ok (.iaload, 1) := by decide +kernel
theorem dL_law__1209 : decode cL_law_ 1209 = .ok (.aload_n 0, 1) := by decide +kernel
theorem dL_law__1210 : decode cL_law_ 1210 = .ok (.iload 4, 2) := by decide +kernel
theorem dL_law__1212 : decode cL_law_ 1212 = .ok (.iconst 2, 1) := by decide +kernel
theorem dL_law__1213 : decode cL_law_ 1213 = .ok (.iadd, 1) := by decide +kernel
theorem dL_law__1214 : decode cL_law_ 1214 = .ok (.iaload, 1) := by decide +kernel
theorem dL_law__1215 : decode cL_law_ 1215 = .ok (.invokevirtual 200, 3) := by decide +kernel
theorem dL_law__1218 : decode cL_law_ 1218 = .ok (.istore 6, 2) := by decide +kernel
theorem dL_law__1220 : decode cL_law_ 1220 = .ok (.aload_n 2, 1) := by decide +kernel
theorem dL_law__1221 : decode cL_law_ 1221 = .ok (.invokevirtual 146, 3) := by decide +kernel
theorem dL_law__1224 : decode cL_law_ 1224 = .ok (.iload 5, 2) := by decide +kernel
theorem dL_law__1226 : decode cL_law_ 1226 = .ok (.if_icmp .eq 5, 3) := by decide +kernel
theorem dL_law__1229 : decode cL_law_ 1229 = .ok (.iconst 0, 1) := by decide +kernel
theorem dL_law__1230 : decode cL_law_ 1230 = .ok (.ireturn, 1) := by decide +kernel
theorem dL_law__1231 : decode cL_law_ 1231 = .ok (.iload 5, 2) := by decide +kernel
theorem dL_law__1233 : decode cL_law_ 1233 = .ok (.ifCond .ne 15, 3) := by decide +kernel
theorem dL_law__1236 : decode cL_law_ 1236 = .ok (.aload_n 3, 1) := by decide +kernel
theorem dL_law__1237 : decode cL_law_ 1237 = .ok (.iconst 0, 1) := by decide +kernel
theorem dL_law__1238 : decode cL_law_ 1238 = .ok (.laload, 1) := by decide +kernel
theorem dL_law__1239 : decode cL_law_ 1239 = .ok (.iload 6, 2) := by decide +kernel
theorem dL_law__1241 : decode cL_law_ 1241 = .ok (.i2l, 1) := by decide +kernel
theorem dL_law__1242 : decode cL_law_ 1242 = .ok (.lcmp, 1) := by decide +kernel
theorem dL_law__1243 : decode cL_law_ 1243 = .ok (.ifCond .eq 5, 3) := by decide +kernel
theorem dL_law__1246 : decode cL_law_ 1246 = .ok (.iconst 0, 1) := by decide +kernel
theorem dL_law__1247 : decode cL_law_ 1247 = .ok (.ireturn, 1) := by decide +kernel
theorem dL_law__1248 : decode cL_law_ 1248 = .ok (.goto 1490, 3) := by decide +kernel
theorem dL_law__1251 : decode cL_law_ 1251 = .ok (.aload_n 1, 1) := by decide +kernel
theorem dL_law__1252 : decode cL_law_ 1252 = .ok (.aload_n 0, 1) := by decide +kernel
theorem dL_law__1253 : decode cL_law_ 1253 = .ok (.iload 4, 2) := by decide +kernel
theorem dL_law__1255 : decode cL_law_ 1255 = .ok (.iconst 1, 1) := by decide +kernel
theorem dL_law__1256 : decode cL_law_ 1256 = .ok (.iadd, 1) := by decide +kernel
theorem dL_law__1257 : decode cL_law_ 1257 = .ok (.iaload, 1) := by decide +kernel
theorem dL_law__1258 : decode cL_law_ 1258 = .ok (.aload_n 0, 1) := by decide +kernel
theorem dL_law__1259 : decode cL_law_ 1259 = .ok (.iload 4, 2) := by decide +kernel
theorem dL_law__1261 : decode cL_law_ 1261 = .ok (.iconst 2, 1) := by decide +kernel
theorem dL_law__1262 : decode cL_law_ 1262 = .ok (.iadd, 1) := by decide +kernel
theorem dL_law__1263 : decode cL_law_ 1263 = .ok (.iaload, 1) := by decide +kernel
theorem dL_law__1264 : decode cL_law_ 1264 = .ok (.ifCond .eq 7, 3) := by decide +kernel
theorem dL_law__1267 : decode cL_law_ 1267 = .ok (.iconst 1, 1) := by decide +kernel
theorem dL_law__1268 : decode cL_law_ 1268 = .ok (.goto 4, 3) := by decide +kernel
theorem dL_law__1271 : decode cL_law_ 1271 = .ok (.iconst 0, 1) := by decide +kernel
theorem dL_law__1272 : decode cL_law_ 1272 = .ok (.aload_n 3, 1) := by decide +kernel
theorem dL_law__1273 : decode cL_law_ 1273 = .ok (.invokestatic 201, 3) := by decide +kernel
theorem dL_law__1276 : decode cL_law_ 1276 = .ok (.istore 5, 2) := by decide +kernel
theorem dL_law__1278 : decode cL_law_ 1278 = .ok (.aload_n 2, 1) := by decide +kernel
theorem dL_law__1279 : decode cL_law_ 1279 = .ok (.aload_n 0, 1) := by decide +kernel
theorem dL_law__1280 : decode cL_law_ 1280 = .ok (.iload 4, 2) := by decide +kernel
theorem dL_law__1282 : decode cL_law_ 1282 = .ok (.iconst 1, 1) := by decide +kernel
theorem dL_law__1283 : decode cL_law_ 1283 = .ok (.iadd, 1) := by decide +kernel
theorem dL_law__1284 : decode cL_law_ 1284 = .ok (.iaload, 1) := by decide +kernel
theorem dL_law__1285 : decode cL_law_ 1285 = .ok (.aload_n 0, 1) := by decide +kernel
theorem dL_law__1286 : decode cL_law_ 1286 = .ok (.iload 4, 2) := by decide +kernel
theorem dL_law__1288 : decode cL_law_ 1288 = .ok (.iconst 2, 1) := by decide +kernel
theorem dL_law__1289 : decode cL_law_ 1289 = .ok (.iadd, 1) := by decide +kernel
theorem dL_law__1290 : decode cL_law_ 1290 = .ok (.iaload, 1) := by decide +kernel
theorem dL_law__1291 : decode cL_law_ 1291 = .ok (.ifCond .eq 7, 3) := by decide +kernel
theorem dL_law__1294 : decode cL_law_ 1294 = .ok (.iconst 1, 1) := by decide +kernel
theorem dL_law__1295 : decode cL_law_ 1295 = .ok (.goto 4, 3) := by decide +kernel
theorem dL_law__1298 : decode cL_law_ 1298 = .ok (.iconst 0, 1) := by decide +kernel
theorem dL_law__1299 : decode cL_law_ 1299 = .ok (.invokevirtual 203, 3) := by decide +kernel
theorem dL_law__1302 : decode cL_law_ 1302 = .ok (.istore 6, 2) := by decide +kernel
theorem dL_law__1304 : decode cL_law_ 1304 = .ok (.aload_n 2, 1) := by decide +kernel
theorem dL_law__1305 : decode cL_law_ 1305 = .ok (.invokevirtual 146, 3) := by decide +kernel
theorem dL_law__1308 : decode cL_law_ 1308 = .ok (.iload 5, 2) := by decide +kernel
theorem dL_law__1310 : decode cL_law_ 1310 = .ok (.if_icmp .eq 5, 3) := by decide +kernel
theorem dL_law__1313 : decode cL_law_ 1313 = .ok (.iconst 0, 1) := by decide +kernel
theorem dL_law__1314 : decode cL_law_ 1314 = .ok (.ireturn, 1) := by decide +kernel
theorem dL_law__1315 : decode cL_law_ 1315 = .ok (.iload 5, 2) := by decide +kernel
theorem dL_law__1317 : decode cL_law_ 1317 = .ok (.ifCond .ne 15, 3) := by decide +kernel
theorem dL_law__1320 : decode cL_law_ 1320 = .ok (.aload_n 3, 1) := by decide +kernel
theorem dL_law__1321 : decode cL_law_ 1321 = .ok (.iconst 0, 1) := by decide +kernel
theorem dL_law__1322 : decode cL_law_ 1322 = .ok (.laload, 1) := by decide +kernel
theorem dL_law__1323 : decode cL_law_ 1323 = .ok (.iload 6, 2) := by decide +kernel
theorem dL_law__1325 : decode cL_law_ 1325 = .ok (.i2l, 1) := by decide +kernel
theorem dL_law__1326 : decode cL_law_ 1326 = .ok (.lcmp, 1) := by decide +kernel
theorem dL_law__1327 : decode cL_law_ 1327 = .ok (.ifCond .eq 5, 3) := by decide +kernel
theorem dL_law__1330 : decode cL_law_ 1330 = .ok (.iconst 0, 1) := by decide +kernel
theorem dL_law__1331 : decode cL_law_ 1331 = .ok (.ireturn, 1) := by decide +kernel
theorem dL_law__1332 : decode cL_law_ 1332 = .ok (.goto 1406, 3) := by decide +kernel
theorem dL_law__1335 : decode cL_law_ 1335 = .ok (.aload_n 1, 1) := by decide +kernel
theorem dL_law__1336 : decode cL_law_ 1336 = .ok (.aload_n 0, 1) := by decide +kernel
theorem dL_law__1337 : decode cL_law_ 1337 = .ok (.iload 4, 2) := by decide +kernel
theorem dL_law__1339 : decode cL_law_ 1339 = .ok (.iconst 1, 1) := by decide +kernel
theorem dL_law__1340 : decode cL_law_ 1340 = .ok (.iadd, 1) := by decide +kernel
theorem dL_law__1341 : decode cL_law_ 1341 = .ok (.iaload, 1) := by decide +kernel
theorem dL_law__1342 : decode cL_law_ 1342 = .ok (.aload_n 0, 1) := by decide +kernel
theorem dL_law__1343 : decode cL_law_ 1343 = .ok (.iload 4, 2) := by decide +kernel
theorem dL_law__1345 : decode cL_law_ 1345 = .ok (.iconst 2, 1) := by decide +kernel
theorem dL_law__1346 : decode cL_law_ 1346 = .ok (.iadd, 1) := by decide +kernel
theorem dL_law__1347 : decode cL_law_ 1347 = .ok (.iaload, 1) := by decide +kernel
theorem dL_law__1348 : decode cL_law_ 1348 = .ok (.aload_n 3, 1) := by decide +kernel
theorem dL_law__1349 : decode cL_law_ 1349 = .ok (.invokestatic 204, 3) := by decide +kernel
theorem dL_law__1352 : decode cL_law_ 1352 = .ok (.istore 5, 2) := by decide +kernel
theorem dL_law__1354 : decode cL_law_ 1354 = .ok (.aload_n 2, 1) := by decide +kernel
theorem dL_law__1355 : decode cL_law_ 1355 = .ok (.aload_n 0, 1) := by decide +kernel
theorem dL_law__1356 : decode cL_law_ 1356 = .ok (.iload 4, 2) := by decide +kernel
theorem dL_law__1358 : decode cL_law_ 1358 = .ok (.iconst 1, 1) := by decide +kernel
theorem dL_law__1359 : decode cL_law_ 1359 = .ok (.iadd, 1) := by decide +kernel
theorem dL_law__1360 : decode cL_law_ 1360 = .ok (.iaload, 1) := by decide +kernel
theorem dL_law__1361 : decode cL_law_ 1361 = .ok (.aload_n 0, 1) := by decide +kernel
theorem dL_law__1362 : decode cL_law_ 1362 = .ok (.iload 4, 2) := by decide +kernel
theorem dL_law__1364 : decode cL_law_ 1364 = .ok (.iconst 2, 1) := by decide +kernel
theorem dL_law__1365 : decode cL_law_ 1365 = .ok (.iadd, 1) := by decide +kernel
theorem dL_law__1366 : decode cL_law_ 1366 = .ok (.iaload, 1) := by decide +kernel
theorem dL_law__1367 : decode cL_law_ 1367 = .ok (.invokevirtual 206, 3) := by decide +kernel
theorem dL_law__1370 : decode cL_law_ 1370 = .ok (.istore 6, 2) := by decide +kernel
theorem dL_law__1372 : decode cL_law_ 1372 = .ok (.aload_n 2, 1) := by decide +kernel
theorem dL_law__1373 : decode cL_law_ 1373 = .ok (.invokevirtual 146, 3) := by decide +kernel
theorem dL_law__1376 : decode cL_law_ 1376 = .ok (.iload 5, 2) := by decide +kernel
theorem dL_law__1378 : decode cL_law_ 1378 = .ok (.if_icmp .eq 5, 3) := by decide +kernel
theorem dL_law__1381 : decode cL_law_ 1381 = .ok (.iconst 0, 1) := by decide +kernel
theorem dL_law__1382 : decode cL_law_ 1382 = .ok (.ireturn, 1) := by decide +kernel
theorem dL_law__1383 : decode cL_law_ 1383 = .ok (.iload 5, 2) := by decide +kernel
theorem dL_law__1385 : decode cL_law_ 1385 = .ok (.ifCond .ne 15, 3) := by decide +kernel
theorem dL_law__1388 : decode cL_law_ 1388 = .ok (.aload_n 3, 1) := by decide +kernel
theorem dL_law__1389 : decode cL_law_ 1389 = .ok (.iconst 0, 1) := by decide +kernel
theorem dL_law__1390 : decode cL_law_ 1390 = .ok (.laload, 1) := by decide +kernel
theorem dL_law__1391 : decode cL_law_ 1391 = .ok (.iload 6, 2) := by decide +kernel
theorem dL_law__1393 : decode cL_law_ 1393 = .ok (.i2l, 1) := by decide +kernel
theorem dL_law__1394 : decode cL_law_ 1394 = .ok (.lcmp, 1) := by decide +kernel
theorem dL_law__1395 : decode cL_law_ 1395 = .ok (.ifCond .eq 5, 3) := by decide +kernel
theorem dL_law__1398 : decode cL_law_ 1398 = .ok (.iconst 0, 1) := by decide +kernel
theorem dL_law__1399 : decode cL_law_ 1399 = .ok (.ireturn, 1) := by decide +kernel
theorem dL_law__1400 : decode cL_law_ 1400 = .ok (.goto 1338, 3) := by decide +kernel
theorem dL_law__1403 : decode cL_law_ 1403 = .ok (.aload_n 1, 1) := by decide +kernel
theorem dL_law__1404 : decode cL_law_ 1404 = .ok (.aload_n 0, 1) := by decide +kernel
theorem dL_law__1405 : decode cL_law_ 1405 = .ok (.iload 4, 2) := by decide +kernel
theorem dL_law__1407 : decode cL_law_ 1407 = .ok (.iconst 1, 1) := by decide +kernel
theorem dL_law__1408 : decode cL_law_ 1408 = .ok (.iadd, 1) := by decide +kernel
theorem dL_law__1409 : decode cL_law_ 1409 = .ok (.iaload, 1) := by decide +kernel
theorem dL_law__1410 : decode cL_law_ 1410 = .ok (.aload_n 3, 1) := by decide +kernel
theorem dL_law__1411 : decode cL_law_ 1411 = .ok (.invokestatic 207, 3) := by decide +kernel
theorem dL_law__1414 : decode cL_law_ 1414 = .ok (.istore 5, 2) := by decide +kernel
theorem dL_law__1416 : decode cL_law_ 1416 = .ok (.aload_n 2, 1) := by decide +kernel
theorem dL_law__1417 : decode cL_law_ 1417 = .ok (.aload_n 0, 1) := by decide +kernel
theorem dL_law__1418 : decode cL_law_ 1418 = .ok (.iload 4, 2) := by decide +kernel
theorem dL_law__1420 : decode cL_law_ 1420 = .ok (.iconst 1, 1) := by decide +kernel
theorem dL_law__1421 : decode cL_law_ 1421 = .ok (.iadd, 1) := by decide +kernel
theorem dL_law__1422 : decode cL_law_ 1422 = .ok (.iaload, 1) := by decide +kernel
theorem dL_law__1423 : decode cL_law_ 1423 = .ok (.invokevirtual 209, 3) := by decide +kernel
theorem dL_law__1426 : decode cL_law_ 1426 = .ok (.istore 6, 2) := by decide +kernel
theorem dL_law__1428 : decode cL_law_ 1428 = .ok (.aload_n 2, 1) := by decide +kernel
theorem dL_law__1429 : decode cL_law_ 1429 = .ok (.invokevirtual 146, 3) := by decide +kernel
theorem dL_law__1432 : decode cL_law_ 1432 = .ok (.iload 5, 2) := by decide +kernel
theorem dL_law__1434 : decode cL_law_ 1434 = .ok (.if_icmp .eq 5, 3) := by decide +kernel
theorem dL_law__1437 : decode cL_law_ 1437 = .ok (.iconst 0, 1) := by decide +kernel
theorem dL_law__1438 : decode cL_law_ 1438 = .ok (.ireturn, 1) := by decide +kernel
theorem dL_law__1439 : decode cL_law_ 1439 = .ok (.iload 5, 2) := by decide +kernel
theorem dL_law__1441 : decode cL_law_ 1441 = .ok (.ifCond .ne 15, 3) := by decide +kernel
theorem dL_law__1444 : decode cL_law_ 1444 = .ok (.aload_n 3, 1) := by decide +kernel
theorem dL_law__1445 : decode cL_law_ 1445 = .ok (.iconst 0, 1) := by decide +kernel
theorem dL_law__1446 : decode cL_law_ 1446 = .ok (.laload, 1) := by decide +kernel
theorem dL_law__1447 : decode cL_law_ 1447 = .ok (.iload 6, 2) := by decide +kernel
theorem dL_law__1449 : decode cL_law_ 1449 = .ok (.i2l, 1) := by decide +kernel
theorem dL_law__1450 : decode cL_law_ 1450 = .ok (.lcmp, 1) := by decide +kernel
theorem dL_law__1451 : decode cL_law_ 1451 = .ok (.ifCond .eq 5, 3) := by decide +kernel
theorem dL_law__1454 : decode cL_law_ 1454 = .ok (.iconst 0, 1) := by decide +kernel
theorem dL_law__1455 : decode cL_law_ 1455 = .ok (.ireturn, 1) := by decide +kernel
theorem dL_law__1456 : decode cL_law_ 1456 = .ok (.goto 1282, 3) := by decide +kernel
theorem dL_law__1459 : decode cL_law_ 1459 = .ok (.aload_n 1, 1) := by decide +kernel
theorem dL_law__1460 : decode cL_law_ 1460 = .ok (.aload_n 0, 1) := by decide +kernel
theorem dL_law__1461 : decode cL_law_ 1461 = .ok (.iload 4, 2) := by decide +kernel
theorem dL_law__1463 : decode cL_law_ 1463 = .ok (.iconst 1, 1) := by decide +kernel
theorem dL_law__1464 : decode cL_law_ 1464 = .ok (.iadd, 1) := by decide +kernel
theorem dL_law__1465 : decode cL_law_ 1465 = .ok (.iaload, 1) := by decide +kernel
theorem dL_law__1466 : decode cL_law_ 1466 = .ok (.aload_n 0, 1) := by decide +kernel
theorem dL_law__1467 : decode cL_law_ 1467 = .ok (.iload 4, 2) := by decide +kernel
theorem dL_law__1469 : decode cL_law_ 1469 = .ok (.iconst 2, 1) := by decide +kernel
theorem dL_law__1470 : decode cL_law_ 1470 = .ok (.iadd, 1) := by decide +kernel
theorem dL_law__1471 : decode cL_law_ 1471 = .ok (.iaload, 1) := by decide +kernel
theorem dL_law__1472 : decode cL_law_ 1472 = .ok (.aload_n 3, 1) := by decide +kernel
theorem dL_law__1473 : decode cL_law_ 1473 = .ok (.invokestatic 210, 3) := by decide +kernel
theorem dL_law__1476 : decode cL_law_ 1476 = .ok (.istore 5, 2) := by decide +kernel
theorem dL_law__1478 : decode cL_law_ 1478 = .ok (.aload_n 2, 1) := by decide +kernel
theorem dL_law__1479 : decode cL_law_ 1479 = .ok (.aload_n 0, 1) := by decide +kernel
theorem dL_law__1480 : decode cL_law_ 1480 = .ok (.iload 4, 2) := by decide +kernel
theorem dL_law__1482 : decode cL_law_ 1482 = .ok (.iconst 1, 1) := by decide +kernel
theorem dL_law__1483 : decode cL_law_ 1483 = .ok (.iadd, 1) := by decide +kernel
theorem dL_law__1484 : decode cL_law_ 1484 = .ok (.iaload, 1) := by decide +kernel
theorem dL_law__1485 : decode cL_law_ 1485 = .ok (.aload_n 0, 1) := by decide +kernel
theorem dL_law__1486 : decode cL_law_ 1486 = .ok (.iload 4, 2) := by decide +kernel
theorem dL_law__1488 : decode cL_law_ 1488 = .ok (.iconst 2, 1) := by decide +kernel
theorem dL_law__1489 : decode cL_law_ 1489 = .ok (.iadd, 1) := by decide +kernel
theorem dL_law__1490 : decode cL_law_ 1490 = .ok (.iaload, 1) := by decide +kernel
theorem dL_law__1491 : decode cL_law_ 1491 = .ok (.invokevirtual 212, 3) := by decide +kernel
theorem dL_law__1494 : decode cL_law_ 1494 = .ok (.istore 6, 2) := by decide +kernel
theorem dL_law__1496 : decode cL_law_ 1496 = .ok (.aload_n 2, 1) := by decide +kernel
theorem dL_law__1497 : decode cL_law_ 1497 = .ok (.invokevirtual 146, 3) := by decide +kernel
theorem dL_law__1500 : decode cL_law_ 1500 = .ok (.iload 5, 2) := by decide +kernel
theorem dL_law__1502 : decode cL_law_ 1502 = .ok (.if_icmp .eq 5, 3) := by decide +kernel
theorem dL_law__1505 : decode cL_law_ 1505 = .ok (.iconst 0, 1) := by decide +kernel
theorem dL_law__1506 : decode cL_law_ 1506 = .ok (.ireturn, 1) := by decide +kernel
theorem dL_law__1507 : decode cL_law_ 1507 = .ok (.iload 5, 2) := by decide +kernel
theorem dL_law__1509 : decode cL_law_ 1509 = .ok (.ifCond .ne 15, 3) := by decide +kernel
theorem dL_law__1512 : decode cL_law_ 1512 = .ok (.aload_n 3, 1) := by decide +kernel
theorem dL_law__1513 : decode cL_law_ 1513 = .ok (.iconst 0, 1) := by decide +kernel
theorem dL_law__1514 : decode cL_law_ 1514 = .ok (.laload, 1) := by decide +kernel
theorem dL_law__1515 : decode cL_law_ 1515 = .ok (.iload 6, 2) := by decide +kernel
theorem dL_law__1517 : decode cL_law_ 1517 = .ok (.i2l, 1) := by decide +kernel
theorem dL_law__1518 : decode cL_law_ 1518 = .ok (.lcmp, 1) := by decide +kernel
theorem dL_law__1519 : decode cL_law_ 1519 = .ok (.ifCond .eq 5, 3) := by decide +kernel
theorem dL_law__1522 : decode cL_law_ 1522 = .ok (.iconst 0, 1) := by decide +kernel
theorem dL_law__1523 : decode cL_law_ 1523 = .ok (.ireturn, 1) := by decide +kernel
theorem dL_law__1524 : decode cL_law_ 1524 = .ok (.goto 1214, 3) := by decide +kernel
theorem dL_law__1527 : decode cL_law_ 1527 = .ok (.aload_n 1, 1) := by decide +kernel
theorem dL_law__1528 : decode cL_law_ 1528 = .ok (.aload_n 0, 1) := by decide +kernel
theorem dL_law__1529 : decode cL_law_ 1529 = .ok (.iload 4, 2) := by decide +kernel
theorem dL_law__1531 : decode cL_law_ 1531 = .ok (.iconst 1, 1) := by decide +kernel
theorem dL_law__1532 : decode cL_law_ 1532 = .ok (.iadd, 1) := by decide +kernel
theorem dL_law__1533 : decode cL_law_ 1533 = .ok (.iaload, 1) := by decide +kernel
theorem dL_law__1534 : decode cL_law_ 1534 = .ok (.aload_n 3, 1) := by decide +kernel
theorem dL_law__1535 : decode cL_law_ 1535 = .ok (.invokestatic 213, 3) := by decide +kernel
theorem dL_law__1538 : decode cL_law_ 1538 = .ok (.istore 5, 2) := by decide +kernel
theorem dL_law__1540 : decode cL_law_ 1540 = .ok (.aload_n 2, 1) := by decide +kernel
theorem dL_law__1541 : decode cL_law_ 1541 = .ok (.aload_n 0, 1) := by decide +kernel
theorem dL_law__1542 : decode cL_law_ 1542 = .ok (.iload 4, 2) := by decide +kernel
theorem dL_law__1544 : decode cL_law_ 1544 = .ok (.iconst 1, 1) := by decide +kernel
theorem dL_law__1545 : decode cL_law_ 1545 = .ok (.iadd, 1) := by decide +kernel
theorem dL_law__1546 : decode cL_law_ 1546 = .ok (.iaload, 1) := by decide +kernel
theorem dL_law__1547 : decode cL_law_ 1547 = .ok (.invokevirtual 215, 3) := by decide +kernel
theorem dL_law__1550 : decode cL_law_ 1550 = .ok (.istore 6, 2) := by decide +kernel
theorem dL_law__1552 : decode cL_law_ 1552 = .ok (.aload_n 2, 1) := by decide +kernel
theorem dL_law__1553 : decode cL_law_ 1553 = .ok (.invokevirtual 146, 3) := by decide +kernel
theorem dL_law__1556 : decode cL_law_ 1556 = .ok (.iload 5, 2) := by decide +kernel
theorem dL_law__1558 : decode cL_law_ 1558 = .ok (.if_icmp .eq 5, 3) := by decide +kernel
theorem dL_law__1561 : decode cL_law_ 1561 = .ok (.iconst 0, 1) := by decide +kernel
theorem dL_law__1562 : decode cL_law_ 1562 = .ok (.ireturn, 1) := by decide +kernel
theorem dL_law__1563 : decode cL_law_ 1563 = .ok (.iload 5, 2) := by decide +kernel
theorem dL_law__1565 : decode cL_law_ 1565 = .ok (.ifCond .ne 15, 3) := by decide +kernel
theorem dL_law__1568 : decode cL_law_ 1568 = .ok (.aload_n 3, 1) := by decide +kernel
theorem dL_law__1569 : decode cL_law_ 1569 = .ok (.iconst 0, 1) := by decide +kernel
theorem dL_law__1570 : decode cL_law_ 1570 = .ok (.laload, 1) := by decide +kernel
theorem dL_law__1571 : decode cL_law_ 1571 = .ok (.iload 6, 2) := by decide +kernel
theorem dL_law__1573 : decode cL_law_ 1573 = .ok (.i2l, 1) := by decide +kernel
theorem dL_law__1574 : decode cL_law_ 1574 = .ok (.lcmp, 1) := by decide +kernel
theorem dL_law__1575 : decode cL_law_ 1575 = .ok (.ifCond .eq 5, 3) := by decide +kernel
theorem dL_law__1578 : decode cL_law_ 1578 = .ok (.iconst 0, 1) := by decide +kernel
theorem dL_law__1579 : decode cL_law_ 1579 = .ok (.ireturn, 1) := by decide +kernel
theorem dL_law__1580 : decode cL_law_ 1580 = .ok (.goto 1158, 3) := by decide +kernel
theorem dL_law__1583 : decode cL_law_ 1583 = .ok (.aload_n 1, 1) := by decide +kernel
theorem dL_law__1584 : decode cL_law_ 1584 = .ok (.invokevirtual 216, 3) := by decide +kernel
theorem dL_law__1587 : decode cL_law_ 1587 = .ok (.aload_n 2, 1) := by decide +kernel
theorem dL_law__1588 : decode cL_law_ 1588 = .ok (.invokevirtual 219, 3) := by decide +kernel
theorem dL_law__1591 : decode cL_law_ 1591 = .ok (.if_icmp .eq 1147, 3) := by decide +kernel
theorem dL_law__1594 : decode cL_law_ 1594 = .ok (.iconst 0, 1) := by decide +kernel
theorem dL_law__1595 : decode cL_law_ 1595 = .ok (.ireturn, 1) := by decide +kernel
theorem dL_law__1596 : decode cL_law_ 1596 = .ok (.aload_n 1, 1) := by decide +kernel
theorem dL_law__1597 : decode cL_law_ 1597 = .ok (.invokevirtual 220, 3) := by decide +kernel
theorem dL_law__1600 : decode cL_law_ 1600 = .ok (.aload_n 2, 1) := by decide +kernel
theorem dL_law__1601 : decode cL_law_ 1601 = .ok (.invokevirtual 223, 3) := by decide +kernel
theorem dL_law__1604 : decode cL_law_ 1604 = .ok (.if_icmp .eq 1134, 3) := by decide +kernel
theorem dL_law__1607 : decode cL_law_ 1607 = .ok (.iconst 0, 1) := by decide +kernel
theorem dL_law__1608 : decode cL_law_ 1608 = .ok (.ireturn, 1) := by decide +kernel
theorem dL_law__1609 : decode cL_law_ 1609 = .ok (.aload_n 1, 1) := by decide +kernel
theorem dL_law__1610 : decode cL_law_ 1610 = .ok (.aload_n 0, 1) := by decide +kernel
theorem dL_law__1611 : decode cL_law_ 1611 = .ok (.iload 4, 2) := by decide +kernel
theorem dL_law__1613 : decode cL_law_ 1613 = .ok (.iconst 1, 1) := by decide +kernel
theorem dL_law__1614 : decode cL_law_ 1614 = .ok (.iadd, 1) := by decide +kernel
theorem dL_law__1615 : decode cL_law_ 1615 = .ok (.iaload, 1) := by decide +kernel
theorem dL_law__1616 : decode cL_law_ 1616 = .ok (.aload_n 0, 1) := by decide +kernel
theorem dL_law__1617 : decode cL_law_ 1617 = .ok (.iload 4, 2) := by decide +kernel
theorem dL_law__1619 : decode cL_law_ 1619 = .ok (.iconst 2, 1) := by decide +kernel
theorem dL_law__1620 : decode cL_law_ 1620 = .ok (.iadd, 1) := by decide +kernel
theorem dL_law__1621 : decode cL_law_ 1621 = .ok (.iaload, 1) := by decide +kernel
theorem dL_law__1622 : decode cL_law_ 1622 = .ok (.ifCond .eq 7, 3) := by decide +kernel
theorem dL_law__1625 : decode cL_law_ 1625 = .ok (.iconst 1, 1) := by decide +kernel
theorem dL_law__1626 : decode cL_law_ 1626 = .ok (.goto 4, 3) := by decide +kernel
theorem dL_law__1629 : decode cL_law_ 1629 = .ok (.iconst 0, 1) := by decide +kernel
theorem dL_law__1630 : decode cL_law_ 1630 = .ok (.aload_n 3, 1) := by decide +kernel
theorem dL_law__1631 : decode cL_law_ 1631 = .ok (.invokestatic 224, 3) := by decide +kernel
theorem dL_law__1634 : decode cL_law_ 1634 = .ok (.istore 5, 2) := by decide +kernel
theorem dL_law__1636 : decode cL_law_ 1636 = .ok (.aload_n 2, 1) := by decide +kernel
theorem dL_law__1637 : decode cL_law_ 1637 = .ok (.aload_n 0, 1) := by decide +kernel
theorem dL_law__1638 : decode cL_law_ 1638 = .ok (.iload 4, 2) := by decide +kernel
theorem dL_law__1640 : decode cL_law_ 1640 = .ok (.iconst 1, 1) := by decide +kernel
theorem dL_law__1641 : decode cL_law_ 1641 = .ok (.iadd, 1) := by decide +kernel
theorem dL_law__1642 : decode cL_law_ 1642 = .ok (.iaload, 1) := by decide +kernel
theorem dL_law__1643 : decode cL_law_ 1643 = .ok (.aload_n 0, 1) := by decide +kernel
theorem dL_law__1644 : decode cL_law_ 1644 = .ok (.iload 4, 2) := by decide +kernel
theorem dL_law__1646 : decode cL_law_ 1646 = .ok (.iconst 2, 1) := by decide +kernel
theorem dL_law__1647 : decode cL_law_ 1647 = .ok (.iadd, 1) := by decide +kernel
theorem dL_law__1648 : decode cL_law_ 1648 = .ok (.iaload, 1) := by decide +kernel
theorem dL_law__1649 : decode cL_law_ 1649 = .ok (.ifCond .eq 7, 3) := by decide +kernel
theorem dL_law__1652 : decode cL_law_ 1652 = .ok (.iconst 1, 1) := by decide +kernel
theorem dL_law__1653 : decode cL_law_ 1653 = .ok (.goto 4, 3) := by decide +kernel
theorem dL_law__1656 : decode cL_law_ 1656 = .ok (.iconst 0, 1) := by decide +kernel
theorem dL_law__1657 : decode cL_law_ 1657 = .ok (.invokevirtual 226, 3) := by decide +kernel
theorem dL_law__1660 : decode cL_law_ 1660 = .ok (.istore 6, 2) := by decide +kernel
theorem dL_law__1662 : decode cL_law_ 1662 = .ok (.aload_n 2, 1) := by decide +kernel
theorem dL_law__1663 : decode cL_law_ 1663 = .ok (.invokevirtual 146, 3) := by decide +kernel
theorem dL_law__1666 : decode cL_law_ 1666 = .ok (.iload 5, 2) := by decide +kernel
theorem dL_law__1668 : decode cL_law_ 1668 = .ok (.if_icmp .eq 5, 3) := by decide +kernel
theorem dL_law__1671 : decode cL_law_ 1671 = .ok (.iconst 0, 1) := by decide +kernel
theorem dL_law__1672 : decode cL_law_ 1672 = .ok (.ireturn, 1) := by decide +kernel
theorem dL_law__1673 : decode cL_law_ 1673 = .ok (.iload 5, 2) := by decide +kernel
theorem dL_law__1675 : decode cL_law_ 1675 = .ok (.ifCond .ne 15, 3) := by decide +kernel
theorem dL_law__1678 : decode cL_law_ 1678 = .ok (.aload_n 3, 1) := by decide +kernel
theorem dL_law__1679 : decode cL_law_ 1679 = .ok (.iconst 0, 1) := by decide +kernel
theorem dL_law__1680 : decode cL_law_ 1680 = .ok (.laload, 1) := by decide +kernel
theorem dL_law__1681 : decode cL_law_ 1681 = .ok (.iload 6, 2) := by decide +kernel
theorem dL_law__1683 : decode cL_law_ 1683 = .ok (.i2l, 1) := by decide +kernel
theorem dL_law__1684 : decode cL_law_ 1684 = .ok (.lcmp, 1) := by decide +kernel
theorem dL_law__1685 : decode cL_law_ 1685 = .ok (.ifCond .eq 5, 3) := by decide +kernel
theorem dL_law__1688 : decode cL_law_ 1688 = .ok (.iconst 0, 1) := by decide +kernel
theorem dL_law__1689 : decode cL_law_ 1689 = .ok (.ireturn, 1) := by decide +kernel
theorem dL_law__1690 : decode cL_law_ 1690 = .ok (.goto 1048, 3) := by decide +kernel
theorem dL_law__1693 : decode cL_law_ 1693 = .ok (.aload_n 1, 1) := by decide +kernel
theorem dL_law__1694 : decode cL_law_ 1694 = .ok (.aload_n 0, 1) := by decide +kernel
theorem dL_law__1695 : decode cL_law_ 1695 = .ok (.iload 4, 2) := by decide +kernel
theorem dL_law__1697 : decode cL_law_ 1697 = .ok (.iconst 1, 1) := by decide +kernel
theorem dL_law__1698 : decode cL_law_ 1698 = .ok (.iadd, 1) := by decide +kernel
theorem dL_law__1699 : decode cL_law_ 1699 = .ok (.iaload, 1) := by decide +kernel
theorem dL_law__1700 : decode cL_law_ 1700 = .ok (.aload_n 3, 1) := by decide +kernel
theorem dL_law__1701 : decode cL_law_ 1701 = .ok (.invokestatic 227, 3) := by decide +kernel
theorem dL_law__1704 : decode cL_law_ 1704 = .ok (.istore 5, 2) := by decide +kernel
theorem dL_law__1706 : decode cL_law_ 1706 = .ok (.aload_n 2, 1) := by decide +kernel
theorem dL_law__1707 : decode cL_law_ 1707 = .ok (.aload_n 0, 1) := by decide +kernel
theorem dL_law__1708 : decode cL_law_ 1708 = .ok (.iload 4, 2) := by decide +kernel
theorem dL_law__1710 : decode cL_law_ 1710 = .ok (.iconst 1, 1) := by decide +kernel
theorem dL_law__1711 : decode cL_law_ 1711 = .ok (.iadd, 1) := by decide +kernel
theorem dL_law__1712 : decode cL_law_ 1712 = .ok (.iaload, 1) := by decide +kernel
theorem dL_law__1713 : decode cL_law_ 1713 = .ok (.invokevirtual 229, 3) := by decide +kernel
theorem dL_law__1716 : decode cL_law_ 1716 = .ok (.istore 6, 2) := by decide +kernel
theorem dL_law__1718 : decode cL_law_ 1718 = .ok (.aload_n 2, 1) := by decide +kernel
theorem dL_law__1719 : decode cL_law_ 1719 = .ok (.invokevirtual 146, 3) := by decide +kernel
theorem dL_law__1722 : decode cL_law_ 1722 = .ok (.iload 5, 2) := by decide +kernel
theorem dL_law__1724 : decode cL_law_ 1724 = .ok (.if_icmp .eq 5, 3) := by decide +kernel
theorem dL_law__1727 : decode cL_law_ 1727 = .ok (.iconst 0, 1) := by decide +kernel
theorem dL_law__1728 : decode cL_law_ 1728 = .ok (.ireturn, 1) := by decide +kernel
theorem dL_law__1729 : decode cL_law_ 1729 = .ok (.iload 5, 2) := by decide +kernel
theorem dL_law__1731 : decode cL_law_ 1731 = .ok (.ifCond .ne 15, 3) := by decide +kernel
theorem dL_law__1734 : decode cL_law_ 1734 = .ok (.aload_n 3, 1) := by decide +kernel
theorem dL_law__1735 : decode cL_law_ 1735 = .ok (.iconst 0, 1) := by decide +kernel
theorem dL_law__1736 : decode cL_law_ 1736 = .ok (.laload, 1) := by decide +kernel
theorem dL_law__1737 : decode cL_law_ 1737 = .ok (.iload 6, 2) := by decide +kernel
theorem dL_law__1739 : decode cL_law_ 1739 = .ok (.i2l, 1) := by decide +kernel
theorem dL_law__1740 : decode cL_law_ 1740 = .ok (.lcmp, 1) := by decide +kernel
theorem dL_law__1741 : decode cL_law_ 1741 = .ok (.ifCond .eq 5, 3) := by decide +kernel
theorem dL_law__1744 : decode cL_law_ 1744 = .ok (.iconst 0, 1) := by decide +kernel
theorem dL_law__1745 : decode cL_law_ 1745 = .ok (.ireturn, 1) := by decide +kernel
theorem dL_law__1746 : decode cL_law_ 1746 = .ok (.goto 992, 3) := by decide +kernel
theorem dL_law__1749 : decode cL_law_ 1749 = .ok (.aload_n 1, 1) := by decide +kernel
theorem dL_law__1750 : decode cL_law_ 1750 = .ok (.aload_n 0, 1) := by decide +kernel
theorem dL_law__1751 : decode cL_law_ 1751 = .ok (.iload 4, 2) := by decide +kernel
theorem dL_law__1753 : decode cL_law_ 1753 = .ok (.iconst 1, 1) := by decide +kernel
theorem dL_law__1754 : decode cL_law_ 1754 = .ok (.iadd, 1) := by decide +kernel
theorem dL_law__1755 : decode cL_law_ 1755 = .ok (.iaload, 1) := by decide +kernel
theorem dL_law__1756 : decode cL_law_ 1756 = .ok (.ifCond .eq 7, 3) := by decide +kernel
theorem dL_law__1759 : decode cL_law_ 1759 = .ok (.iconst 1, 1) := by decide +kernel
theorem dL_law__1760 : decode cL_law_ 1760 = .ok (.goto 4, 3) := by decide +kernel
theorem dL_law__1763 : decode cL_law_ 1763 = .ok (.iconst 0, 1) := by decide +kernel
theorem dL_law__1764 : decode cL_law_ 1764 = .ok (.invokevirtual 230, 3) := by decide +kernel
theorem dL_law__1767 : decode cL_law_ 1767 = .ok (.aload_n 2, 1) := by decide +kernel
theorem dL_law__1768 : decode cL_law_ 1768 = .ok (.aload_n 0, 1) := by decide +kernel
theorem dL_law__1769 : decode cL_law_ 1769 = .ok (.iload 4, 2) := by decide +kernel
theorem dL_law__1771 : decode cL_law_ 1771 = .ok (.iconst 1, 1) := by decide +kernel
theorem dL_law__1772 : decode cL_law_ 1772 = .ok (.iadd, 1) := by decide +kernel
theorem dL_law__1773 : decode cL_law_ 1773 = .ok (.iaload, 1) := by decide +kernel
theorem dL_law__1774 : decode cL_law_ 1774 = .ok (.ifCond .eq 7, 3) := by decide +kernel
theorem dL_law__1777 : decode cL_law_ 1777 = .ok (.iconst 1, 1) := by decide +kernel
theorem dL_law__1778 : decode cL_law_ 1778 = .ok (.goto 4, 3) := by decide +kernel
theorem dL_law__1781 : decode cL_law_ 1781 = .ok (.iconst 0, 1) := by decide +kernel
theorem dL_law__1782 : decode cL_law_ 1782 = .ok (.invokevirtual 233, 3) := by decide +kernel
theorem dL_law__1785 : decode cL_law_ 1785 = .ok (.if_icmp .eq 953, 3) := by decide +kernel
theorem dL_law__1788 : decode cL_law_ 1788 = .ok (.iconst 0, 1) := by decide +kernel
theorem dL_law__1789 : decode cL_law_ 1789 = .ok (.ireturn, 1) := by decide +kernel
theorem dL_law__1790 : decode cL_law_ 1790 = .ok (.aload_n 1, 1) := by decide +kernel
theorem dL_law__1791 : decode cL_law_ 1791 = .ok (.aload_n 0, 1) := by decide +kernel
theorem dL_law__1792 : decode cL_law_ 1792 = .ok (.iload 4, 2) := by decide +kernel
theorem dL_law__1794 : decode cL_law_ 1794 = .ok (.iconst 1, 1) := by decide +kernel
theorem dL_law__1795 : decode cL_law_ 1795 = .ok (.iadd, 1) := by decide +kernel
theorem dL_law__1796 : decode cL_law_ 1796 = .ok (.iaload, 1) := by decide +kernel
theorem dL_law__1797 : decode cL_law_ 1797 = .ok (.aload_n 3, 1) := by decide +kernel
theorem dL_law__1798 : decode cL_law_ 1798 = .ok (.invokestatic 234, 3) := by decide +kernel
theorem dL_law__1801 : decode cL_law_ 1801 = .ok (.istore 5, 2) := by decide +kernel
theorem dL_law__1803 : decode cL_law_ 1803 = .ok (.aload_n 2, 1) := by decide +kernel
theorem dL_law__1804 : decode cL_law_ 1804 = .ok (.aload_n 0, 1) := by decide +kernel
theorem dL_law__1805 : decode cL_law_ 1805 = .ok (.iload 4, 2) := by decide +kernel
theorem dL_law__1807 : decode cL_law_ 1807 = .ok (.iconst 1, 1) := by decide +kernel
theorem dL_law__1808 : decode cL_law_ 1808 = .ok (.iadd, 1) := by decide +kernel
theorem dL_law__1809 : decode cL_law_ 1809 = .ok (.iaload, 1) := by decide +kernel
theorem dL_law__1810 : decode cL_law_ 1810 = .ok (.invokevirtual 236, 3) := by decide +kernel
theorem dL_law__1813 : decode cL_law_ 1813 = .ok (.istore 6, 2) := by decide +kernel
theorem dL_law__1815 : decode cL_law_ 1815 = .ok (.aload_n 2, 1) := by decide +kernel
theorem dL_law__1816 : decode cL_law_ 1816 = .ok (.invokevirtual 146, 3) := by decide +kernel
theorem dL_law__1819 : decode cL_law_ 1819 = .ok (.iload 5, 2) := by decide +kernel
theorem dL_law__1821 : decode cL_law_ 1821 = .ok (.if_icmp .eq 5, 3) := by decide +kernel
theorem dL_law__1824 : decode cL_law_ 1824 = .ok (.iconst 0, 1) := by decide +kernel
theorem dL_law__1825 : decode cL_law_ 1825 = .ok (.ireturn, 1) := by decide +kernel
theorem dL_law__1826 : decode cL_law_ 1826 = .ok (.iload 5, 2) := by decide +kernel
theorem dL_law__1828 : decode cL_law_ 1828 = .ok (.ifCond .ne 15, 3) := by decide +kernel
theorem dL_law__1831 : decode cL_law_ 1831 = .ok (.aload_n 3, 1) := by decide +kernel
theorem dL_law__1832 : decode cL_law_ 1832 = .ok (.iconst 0, 1) := by decide +kernel
theorem dL_law__1833 : decode cL_law_ 1833 = .ok (.laload, 1) := by decide +kernel
theorem dL_law__1834 : decode cL_law_ 1834 = .ok (.iload 6, 2) := by decide +kernel
theorem dL_law__1836 : decode cL_law_ 1836 = .ok (.i2l, 1) := by decide +kernel
theorem dL_law__1837 : decode cL_law_ 1837 = .ok (.lcmp, 1) := by decide +kernel
theorem dL_law__1838 : decode cL_law_ 1838 = .ok (.ifCond .eq 5, 3) := by decide +kernel
theorem dL_law__1841 : decode cL_law_ 1841 = .ok (.iconst 0, 1) := by decide +kernel
theorem dL_law__1842 : decode cL_law_ 1842 = .ok (.ireturn, 1) := by decide +kernel
theorem dL_law__1843 : decode cL_law_ 1843 = .ok (.goto 895, 3) := by decide +kernel
theorem dL_law__1846 : decode cL_law_ 1846 = .ok (.aload_n 1, 1) := by decide +kernel
theorem dL_law__1847 : decode cL_law_ 1847 = .ok (.aload_n 0, 1) := by decide +kernel
theorem dL_law__1848 : decode cL_law_ 1848 = .ok (.iload 4, 2) := by decide +kernel
theorem dL_law__1850 : decode cL_law_ 1850 = .ok (.iconst 1, 1) := by decide +kernel
theorem dL_law__1851 : decode cL_law_ 1851 = .ok (.iadd, 1) := by decide +kernel
theorem dL_law__1852 : decode cL_law_ 1852 = .ok (.iaload, 1) := by decide +kernel
theorem dL_law__1853 : decode cL_law_ 1853 = .ok (.aload_n 3, 1) := by decide +kernel
theorem dL_law__1854 : decode cL_law_ 1854 = .ok (.invokestatic 237, 3) := by decide +kernel
theorem dL_law__1857 : decode cL_law_ 1857 = .ok (.istore 5, 2) := by decide +kernel
theorem dL_law__1859 : decode cL_law_ 1859 = .ok (.aload_n 2, 1) := by decide +kernel
theorem dL_law__1860 : decode cL_law_ 1860 = .ok (.aload_n 0, 1) := by decide +kernel
theorem dL_law__1861 : decode cL_law_ 1861 = .ok (.iload 4, 2) := by decide +kernel
theorem dL_law__1863 : decode cL_law_ 1863 = .ok (.iconst 1, 1) := by decide +kernel
theorem dL_law__1864 : decode cL_law_ 1864 = .ok (.iadd, 1) := by decide +kernel
theorem dL_law__1865 : decode cL_law_ 1865 = .ok (.iaload, 1) := by decide +kernel
theorem dL_law__1866 : decode cL_law_ 1866 = .ok (.invokevirtual 239, 3) := by decide +kernel
theorem dL_law__1869 : decode cL_law_ 1869 = .ok (.istore 6, 2) := by decide +kernel
theorem dL_law__1871 : decode cL_law_ 1871 = .ok (.aload_n 2, 1) := by decide +kernel
theorem dL_law__1872 : decode cL_law_ 1872 = .ok (.invokevirtual 146, 3) := by decide +kernel
theorem dL_law__1875 : decode cL_law_ 1875 = .ok (.iload 5, 2) := by decide +kernel
theorem dL_law__1877 : decode cL_law_ 1877 = .ok (.if_icmp .eq 5, 3) := by decide +kernel
theorem dL_law__1880 : decode cL_law_ 1880 = .ok (.iconst 0, 1) := by decide +kernel
theorem dL_law__1881 : decode cL_law_ 1881 = .ok (.ireturn, 1) := by decide +kernel
theorem dL_law__1882 : decode cL_law_ 1882 = .ok (.iload 5, 2) := by decide +kernel
theorem dL_law__1884 : decode cL_law_ 1884 = .ok (.ifCond .ne 15, 3) := by decide +kernel
theorem dL_law__1887 : decode cL_law_ 1887 = .ok (.aload_n 3, 1) := by decide +kernel
theorem dL_law__1888 : decode cL_law_ 1888 = .ok (.iconst 0, 1) := by decide +kernel
theorem dL_law__1889 : decode cL_law_ 1889 = .ok (.laload, 1) := by decide +kernel
theorem dL_law__1890 : decode cL_law_ 1890 = .ok (.iload 6, 2) := by decide +kernel
theorem dL_law__1892 : decode cL_law_ 1892 = .ok (.i2l, 1) := by decide +kernel
theorem dL_law__1893 : decode cL_law_ 1893 = .ok (.lcmp, 1) := by decide +kernel
theorem dL_law__1894 : decode cL_law_ 1894 = .ok (.ifCond .eq 5, 3) := by decide +kernel
theorem dL_law__1897 : decode cL_law_ 1897 = .ok (.iconst 0, 1) := by decide +kernel
theorem dL_law__1898 : decode cL_law_ 1898 = .ok (.ireturn, 1) := by decide +kernel
theorem dL_law__1899 : decode cL_law_ 1899 = .ok (.goto 839, 3) := by decide +kernel
theorem dL_law__1902 : decode cL_law_ 1902 = .ok (.aload_n 1, 1) := by decide +kernel
theorem dL_law__1903 : decode cL_law_ 1903 = .ok (.aload_n 0, 1) := by decide +kernel
theorem dL_law__1904 : decode cL_law_ 1904 = .ok (.iload 4, 2) := by decide +kernel
theorem dL_law__1906 : decode cL_law_ 1906 = .ok (.iconst 1, 1) := by decide +kernel
theorem dL_law__1907 : decode cL_law_ 1907 = .ok (.iadd, 1) := by decide +kernel
theorem dL_law__1908 : decode cL_law_ 1908 = .ok (.iaload, 1) := by decide +kernel
theorem dL_law__1909 : decode cL_law_ 1909 = .ok (.ifCond .eq 7, 3) := by decide +kernel
theorem dL_law__1912 : decode cL_law_ 1912 = .ok (.iconst 1, 1) := by decide +kernel
theorem dL_law__1913 : decode cL_law_ 1913 = .ok (.goto 4, 3) := by decide +kernel
theorem dL_law__1916 : decode cL_law_ 1916 = .ok (.iconst 0, 1) := by decide +kernel
theorem dL_law__1917 : decode cL_law_ 1917 = .ok (.aload_n 3, 1) := by decide +kernel
theorem dL_law__1918 : decode cL_law_ 1918 = .ok (.invokestatic 240, 3) := by decide +kernel
theorem dL_law__1921 : decode cL_law_ 1921 = .ok (.istore 5, 2) := by decide +kernel
theorem dL_law__1923 : decode cL_law_ 1923 = .ok (.aload_n 2, 1) := by decide +kernel
theorem dL_law__1924 : decode cL_law_ 1924 = .ok (.aload_n 0, 1) := by decide +kernel
theorem dL_law__1925 : decode cL_law_ 1925 = .ok (.iload 4, 2) := by decide +kernel
theorem dL_law__1927 : decode cL_law_ 1927 = .ok (.iconst 1, 1) := by decide +kernel
theorem dL_law__1928 : decode cL_law_ 1928 = .ok (.iadd, 1) := by decide +kernel
theorem dL_law__1929 : decode cL_law_ 1929 = .ok (.iaload, 1) := by decide +kernel
theorem dL_law__1930 : decode cL_law_ 1930 = .ok (.ifCond .eq 7, 3) := by decide +kernel
theorem dL_law__1933 : decode cL_law_ 1933 = .ok (.iconst 1, 1) := by decide +kernel
theorem dL_law__1934 : decode cL_law_ 1934 = .ok (.goto 4, 3) := by decide +kernel
theorem dL_law__1937 : decode cL_law_ 1937 = .ok (.iconst 0, 1) := by decide +kernel
theorem dL_law__1938 : decode cL_law_ 1938 = .ok (.invokevirtual 243, 3) := by decide +kernel
theorem dL_law__1941 : decode cL_law_ 1941 = .ok (.istore 6, 2) := by decide +kernel
theorem dL_law__1943 : decode cL_law_ 1943 = .ok (.aload_n 2, 1) := by decide +kernel
theorem dL_law__1944 : decode cL_law_ 1944 = .ok (.invokevirtual 146, 3) := by decide +kernel
theorem dL_law__1947 : decode cL_law_ 1947 = .ok (.iload 5, 2) := by decide +kernel
theorem dL_law__1949 : decode cL_law_ 1949 = .ok (.if_icmp .eq 5, 3) := by decide +kernel
theorem dL_law__1952 : decode cL_law_ 1952 = .ok (.iconst 0, 1) := by decide +kernel
theorem dL_law__1953 : decode cL_law_ 1953 = .ok (.ireturn, 1) := by decide +kernel
theorem dL_law__1954 : decode cL_law_ 1954 = .ok (.iload 5, 2) := by decide +kernel
theorem dL_law__1956 : decode cL_law_ 1956 = .ok (.ifCond .ne 15, 3) := by decide +kernel
theorem dL_law__1959 : decode cL_law_ 1959 = .ok (.aload_n 3, 1) := by decide +kernel
theorem dL_law__1960 : decode cL_law_ 1960 = .ok (.iconst 0, 1) := by decide +kernel
theorem dL_law__1961 : decode cL_law_ 1961 = .ok (.laload, 1) := by decide +kernel
theorem dL_law__1962 : decode cL_law_ 1962 = .ok (.iload 6, 2) := by decide +kernel
theorem dL_law__1964 : decode cL_law_ 1964 = .ok (.i2l, 1) := by decide +kernel
theorem dL_law__1965 : decode cL_law_ 1965 = .ok (.lcmp, 1) := by decide +kernel
theorem dL_law__1966 : decode cL_law_ 1966 = .ok (.ifCond .eq 5, 3) := by decide +kernel
theorem dL_law__1969 : decode cL_law_ 1969 = .ok (.iconst 0, 1) := by decide +kernel
theorem dL_law__1970 : decode cL_law_ 1970 = .ok (.ireturn, 1) := by decide +kernel
theorem dL_law__1971 : decode cL_law_ 1971 = .ok (.goto 767, 3) := by decide +kernel
theorem dL_law__1974 : decode cL_law_ 1974 = .ok (.aload_n 1, 1) := by decide +kernel
theorem dL_law__1975 : decode cL_law_ 1975 = .ok (.aload_n 3, 1) := by decide +kernel
theorem dL_law__1976 : decode cL_law_ 1976 = .ok (.invokestatic 244, 3) := by decide +kernel
theorem dL_law__1979 : decode cL_law_ 1979 = .ok (.istore 5, 2) := by decide +kernel
theorem dL_law__1981 : decode cL_law_ 1981 = .ok (.aload_n 2, 1) := by decide +kernel
theorem dL_law__1982 : decode cL_law_ 1982 = .ok (.invokevirtual 246, 3) := by decide +kernel
theorem dL_law__1985 : decode cL_law_ 1985 = .ok (.istore 6, 2) := by decide +kernel
theorem dL_law__1987 : decode cL_law_ 1987 = .ok (.aload_n 2, 1) := by decide +kernel
theorem dL_law__1988 : decode cL_law_ 1988 = .ok (.invokevirtual 146, 3) := by decide +kernel
theorem dL_law__1991 : decode cL_law_ 1991 = .ok (.iload 5, 2) := by decide +kernel
theorem dL_law__1993 : decode cL_law_ 1993 = .ok (.if_icmp .eq 5, 3) := by decide +kernel
theorem dL_law__1996 : decode cL_law_ 1996 = .ok (.iconst 0, 1) := by decide +kernel
theorem dL_law__1997 : decode cL_law_ 1997 = .ok (.ireturn, 1) := by decide +kernel
theorem dL_law__1998 : decode cL_law_ 1998 = .ok (.iload 5, 2) := by decide +kernel
theorem dL_law__2000 : decode cL_law_ 2000 = .ok (.ifCond .ne 15, 3) := by decide +kernel
theorem dL_law__2003 : decode cL_law_ 2003 = .ok (.aload_n 3, 1) := by decide +kernel
theorem dL_law__2004 : decode cL_law_ 2004 = .ok (.iconst 0, 1) := by decide +kernel
theorem dL_law__2005 : decode cL_law_ 2005 = .ok (.laload, 1) := by decide +kernel
theorem dL_law__2006 : decode cL_law_ 2006 = .ok (.iload 6, 2) := by decide +kernel
theorem dL_law__2008 : decode cL_law_ 2008 = .ok (.i2l, 1) := by decide +kernel
theorem dL_law__2009 : decode cL_law_ 2009 = .ok (.lcmp, 1) := by decide +kernel
theorem dL_law__2010 : decode cL_law_ 2010 = .ok (.ifCond .eq 5, 3) := by decide +kernel
theorem dL_law__2013 : decode cL_law_ 2013 = .ok (.iconst 0, 1) := by decide +kernel
theorem dL_law__2014 : decode cL_law_ 2014 = .ok (.ireturn, 1) := by decide +kernel
theorem dL_law__2015 : decode cL_law_ 2015 = .ok (.goto 723, 3) := by decide +kernel
theorem dL_law__2018 : decode cL_law_ 2018 = .ok (.aload_n 1, 1) := by decide +kernel
theorem dL_law__2019 : decode cL_law_ 2019 = .ok (.aload_n 0, 1) := by decide +kernel
theorem dL_law__2020 : decode cL_law_ 2020 = .ok (.iload 4, 2) := by decide +kernel
theorem dL_law__2022 : decode cL_law_ 2022 = .ok (.iconst 1, 1) := by decide +kernel
theorem dL_law__2023 : decode cL_law_ 2023 = .ok (.iadd, 1) := by decide +kernel
theorem dL_law__2024 : decode cL_law_ 2024 = .ok (.iaload, 1) := by decide +kernel
theorem dL_law__2025 : decode cL_law_ 2025 = .ok (.aload_n 3, 1) := by decide +kernel
theorem dL_law__2026 : decode cL_law_ 2026 = .ok (.invokestatic 247, 3) := by decide +kernel
theorem dL_law__2029 : decode cL_law_ 2029 = .ok (.istore 5, 2) := by decide +kernel
theorem dL_law__2031 : decode cL_law_ 2031 = .ok (.aload_n 2, 1) := by decide +kernel
theorem dL_law__2032 : decode cL_law_ 2032 = .ok (.aload_n 0, 1) := by decide +kernel
theorem dL_law__2033 : decode cL_law_ 2033 = .ok (.iload 4, 2) := by decide +kernel
theorem dL_law__2035 : decode cL_law_ 2035 = .ok (.iconst 1, 1) := by decide +kernel
theorem dL_law__2036 : decode cL_law_ 2036 = .ok (.iadd, 1) := by decide +kernel
theorem dL_law__2037 : decode cL_law_ 2037 = .ok (.iaload, 1) := by decide +kernel
theorem dL_law__2038 : decode cL_law_ 2038 = .ok (.invokevirtual 249, 3) := by decide +kernel
theorem dL_law__2041 : decode cL_law_ 2041 = .ok (.istore 6, 2) := by decide +kernel
theorem dL_law__2043 : decode cL_law_ 2043 = .ok (.aload_n 2, 1) := by decide +kernel
theorem dL_law__2044 : decode cL_law_ 2044 = .ok (.invokevirtual 146, 3) := by decide +kernel
theorem dL_law__2047 : decode cL_law_ 2047 = .ok (.iload 5, 2) := by decide +kernel
theorem dL_law__2049 : decode cL_law_ 2049 = .ok (.if_icmp .eq 5, 3) := by decide +kernel
theorem dL_law__2052 : decode cL_law_ 2052 = .ok (.iconst 0, 1) := by decide +kernel
theorem dL_law__2053 : decode cL_law_ 2053 = .ok (.ireturn, 1) := by decide +kernel
theorem dL_law__2054 : decode cL_law_ 2054 = .ok (.iload 5, 2) := by decide +kernel
theorem dL_law__2056 : decode cL_law_ 2056 = .ok (.ifCond .ne 15, 3) := by decide +kernel
theorem dL_law__2059 : decode cL_law_ 2059 = .ok (.aload_n 3, 1) := by decide +kernel
theorem dL_law__2060 : decode cL_law_ 2060 = .ok (.iconst 0, 1) := by decide +kernel
theorem dL_law__2061 : decode cL_law_ 2061 = .ok (.laload, 1) := by decide +kernel
theorem dL_law__2062 : decode cL_law_ 2062 = .ok (.iload 6, 2) := by decide +kernel
theorem dL_law__2064 : decode cL_law_ 2064 = .ok (.i2l, 1) := by decide +kernel
theorem dL_law__2065 : decode cL_law_ 2065 = .ok (.lcmp, 1) := by decide +kernel
theorem dL_law__2066 : decode cL_law_ 2066 = .ok (.ifCond .eq 5, 3) := by decide +kernel
theorem dL_law__2069 : decode cL_law_ 2069 = .ok (.iconst 0, 1) := by decide +kernel
theorem dL_law__2070 : decode cL_law_ 2070 = .ok (.ireturn, 1) := by decide +kernel
theorem dL_law__2071 : decode cL_law_ 2071 = .ok (.goto 667, 3) := by decide +kernel
theorem dL_law__2074 : decode cL_law_ 2074 = .ok (.aload_n 1, 1) := by decide +kernel
theorem dL_law__2075 : decode cL_law_ 2075 = .ok (.aload_n 0, 1) := by decide +kernel
theorem dL_law__2076 : decode cL_law_ 2076 = .ok (.iload 4, 2) := by decide +kernel
theorem dL_law__2078 : decode cL_law_ 2078 = .ok (.iconst 1, 1) := by decide +kernel
theorem dL_law__2079 : decode cL_law_ 2079 = .ok (.iadd, 1) := by decide +kernel
theorem dL_law__2080 : decode cL_law_ 2080 = .ok (.iaload, 1) := by decide +kernel
theorem dL_law__2081 : decode cL_law_ 2081 = .ok (.aload_n 0, 1) := by decide +kernel
theorem dL_law__2082 : decode cL_law_ 2082 = .ok (.iload 4, 2) := by decide +kernel
theorem dL_law__2084 : decode cL_law_ 2084 = .ok (.iconst 2, 1) := by decide +kernel
theorem dL_law__2085 : decode cL_law_ 2085 = .ok (.iadd, 1) := by decide +kernel
theorem dL_law__2086 : decode cL_law_ 2086 = .ok (.iaload, 1) := by decide +kernel
theorem dL_law__2087 : decode cL_law_ 2087 = .ok (.aload_n 3, 1) := by decide +kernel
theorem dL_law__2088 : decode cL_law_ 2088 = .ok (.invokestatic 250, 3) := by decide +kernel
theorem dL_law__2091 : decode cL_law_ 2091 = .ok (.istore 5, 2) := by decide +kernel
theorem dL_law__2093 : decode cL_law_ 2093 = .ok (.aload_n 2, 1) := by decide +kernel
theorem dL_law__2094 : decode cL_law_ 2094 = .ok (.aload_n 0, 1) := by decide +kernel
theorem dL_law__2095 : decode cL_law_ 2095 = .ok (.iload 4, 2) := by decide +kernel
theorem dL_law__2097 : decode cL_law_ 2097 = .ok (.iconst 1, 1) := by decide +kernel
theorem dL_law__2098 : decode cL_law_ 2098 = .ok (.iadd, 1) := by decide +kernel
theorem dL_law__2099 : decode cL_law_ 2099 = .ok (.iaload, 1) := by decide +kernel
theorem dL_law__2100 : decode cL_law_ 2100 = .ok (.aload_n 0, 1) := by decide +kernel
theorem dL_law__2101 : decode cL_law_ 2101 = .ok (.iload 4, 2) := by decide +kernel
theorem dL_law__2103 : decode cL_law_ 2103 = .ok (.iconst 2, 1) := by decide +kernel
theorem dL_law__2104 : decode cL_law_ 2104 = .ok (.iadd, 1) := by decide +kernel
theorem dL_law__2105 : decode cL_law_ 2105 = .ok (.iaload, 1) := by decide +kernel
theorem dL_law__2106 : decode cL_law_ 2106 = .ok (.invokevirtual 252, 3) := by decide +kernel
theorem dL_law__2109 : decode cL_law_ 2109 = .ok (.istore 6, 2) := by decide +kernel
theorem dL_law__2111 : decode cL_law_ 2111 = .ok (.aload_n 2, 1) := by decide +kernel
theorem dL_law__2112 : decode cL_law_ 2112 = .ok (.invokevirtual 146, 3) := by decide +kernel
theorem dL_law__2115 : decode cL_law_ 2115 = .ok (.iload 5, 2) := by decide +kernel
theorem dL_law__2117 : decode cL_law_ 2117 = .ok (.if_icmp .eq 5, 3) := by decide +kernel
theorem dL_law__2120 : decode cL_law_ 2120 = .ok (.iconst 0, 1) := by decide +kernel
theorem dL_law__2121 : decode cL_law_ 2121 = .ok (.ireturn, 1) := by decide +kernel
theorem dL_law__2122 : decode cL_law_ 2122 = .ok (.iload 5, 2) := by decide +kernel
theorem dL_law__2124 : decode cL_law_ 2124 = .ok (.ifCond .ne 15, 3) := by decide +kernel
theorem dL_law__2127 : decode cL_law_ 2127 = .ok (.aload_n 3, 1) := by decide +kernel
theorem dL_law__2128 : decode cL_law_ 2128 = .ok (.iconst 0, 1) := by decide +kernel
theorem dL_law__2129 : decode cL_law_ 2129 = .ok (.laload, 1) := by decide +kernel
theorem dL_law__2130 : decode cL_law_ 2130 = .ok (.iload 6, 2) := by decide +kernel
theorem dL_law__2132 : decode cL_law_ 2132 = .ok (.i2l, 1) := by decide +kernel
theorem dL_law__2133 : decode cL_law_ 2133 = .ok (.lcmp, 1) := by decide +kernel
theorem dL_law__2134 : decode cL_law_ 2134 = .ok (.ifCond .eq 5, 3) := by decide +kernel
theorem dL_law__2137 : decode cL_law_ 2137 = .ok (.iconst 0, 1) := by decide +kernel
theorem dL_law__2138 : decode cL_law_ 2138 = .ok (.ireturn, 1) := by decide +kernel
theorem dL_law__2139 : decode cL_law_ 2139 = .ok (.goto 599, 3) := by decide +kernel
theorem dL_law__2142 : decode cL_law_ 2142 = .ok (.aload_n 1, 1) := by decide +kernel
theorem dL_law__2143 : decode cL_law_ 2143 = .ok (.invokevirtual 253, 3) := by decide +kernel
theorem dL_law__2146 : decode cL_law_ 2146 = .ok (.aload_n 2, 1) := by decide +kernel
theorem dL_law__2147 : decode cL_law_ 2147 = .ok (.invokevirtual 256, 3) := by decide +kernel
theorem dL_law__2150 : decode cL_law_ 2150 = .ok (.if_icmp .eq 588, 3) := by decide +kernel
theorem dL_law__2153 : decode cL_law_ 2153 = .ok (.iconst 0, 1) := by decide +kernel
theorem dL_law__2154 : decode cL_law_ 2154 = .ok (.ireturn, 1) := by decide +kernel
theorem dL_law__2155 : decode cL_law_ 2155 = .ok (.aload_n 1, 1) := by decide +kernel
theorem dL_law__2156 : decode cL_law_ 2156 = .ok (.invokevirtual 257, 3) := by decide +kernel
theorem dL_law__2159 : decode cL_law_ 2159 = .ok (.aload_n 2, 1) := by decide +kernel
theorem dL_law__2160 : decode cL_law_ 2160 = .ok (.invokevirtual 260, 3) := by decide +kernel
theorem dL_law__2163 : decode cL_law_ 2163 = .ok (.if_icmp .eq 575, 3) := by decide +kernel
theorem dL_law__2166 : decode cL_law_ 2166 = .ok (.iconst 0, 1) := by decide +kernel
theorem dL_law__2167 : decode cL_law_ 2167 = .ok (.ireturn, 1) := by decide +kernel
theorem dL_law__2168 : decode cL_law_ 2168 = .ok (.aload_n 1, 1) := by decide +kernel
theorem dL_law__2169 : decode cL_law_ 2169 = .ok (.aload_n 0, 1) := by decide +kernel
theorem dL_law__2170 : decode cL_law_ 2170 = .ok (.iload 4, 2) := by decide +kernel
theorem dL_law__2172 : decode cL_law_ 2172 = .ok (.iconst 1, 1) := by decide +kernel
theorem dL_law__2173 : decode cL_law_ 2173 = .ok (.iadd, 1) := by decide +kernel
theorem dL_law__2174 : decode cL_law_ 2174 = .ok (.iaload, 1) := by decide +kernel
theorem dL_law__2175 : decode cL_law_ 2175 = .ok (.aload_n 0, 1) := by decide +kernel
theorem dL_law__2176 : decode cL_law_ 2176 = .ok (.iload 4, 2) := by decide +kernel
theorem dL_law__2178 : decode cL_law_ 2178 = .ok (.iconst 2, 1) := by decide +kernel
theorem dL_law__2179 : decode cL_law_ 2179 = .ok (.iadd, 1) := by decide +kernel
theorem dL_law__2180 : decode cL_law_ 2180 = .ok (.iaload, 1) := by decide +kernel
theorem dL_law__2181 : decode cL_law_ 2181 = .ok (.aload_n 3, 1) := by decide +kernel
theorem dL_law__2182 : decode cL_law_ 2182 = .ok (.invokestatic 261, 3) := by decide +kernel
theorem dL_law__2185 : decode cL_law_ 2185 = .ok (.istore 5, 2) := by decide +kernel
theorem dL_law__2187 : decode cL_law_ 2187 = .ok (.aload_n 2, 1) := by decide +kernel
theorem dL_law__2188 : decode cL_law_ 2188 = .ok (.aload_n 0, 1) := by decide +kernel
theorem dL_law__2189 : decode cL_law_ 2189 = .ok (.iload 4, 2) := by decide +kernel
theorem dL_law__2191 : decode cL_law_ 2191 = .ok (.iconst 1, 1) := by decide +kernel
theorem dL_law__2192 : decode cL_law_ 2192 = .ok (.iadd, 1) := by decide +kernel
theorem dL_law__2193 : decode cL_law_ 2193 = .ok (.iaload, 1) := by decide +kernel
theorem dL_law__2194 : decode cL_law_ 2194 = .ok (.aload_n 0, 1) := by decide +kernel
theorem dL_law__2195 : decode cL_law_ 2195 = .ok (.iload 4, 2) := by decide +kernel
theorem dL_law__2197 : decode cL_law_ 2197 = .ok (.iconst 2, 1) := by decide +kernel
theorem dL_law__2198 : decode cL_law_ 2198 = .ok (.iadd, 1) := by decide +kernel
theorem dL_law__2199 : decode cL_law_ 2199 = .ok (.iaload, 1) := by decide +kernel
theorem dL_law__2200 : decode cL_law_ 2200 = .ok (.invokevirtual 263, 3) := by decide +kernel
theorem dL_law__2203 : decode cL_law_ 2203 = .ok (.istore 6, 2) := by decide +kernel
theorem dL_law__2205 : decode cL_law_ 2205 = .ok (.aload_n 2, 1) := by decide +kernel
theorem dL_law__2206 : decode cL_law_ 2206 = .ok (.invokevirtual 146, 3) := by decide +kernel
theorem dL_law__2209 : decode cL_law_ 2209 = .ok (.iload 5, 2) := by decide +kernel
theorem dL_law__2211 : decode cL_law_ 2211 = .ok (.if_icmp .eq 5, 3) := by decide +kernel
theorem dL_law__2214 : decode cL_law_ 2214 = .ok (.iconst 0, 1) := by decide +kernel
theorem dL_law__2215 : decode cL_law_ 2215 = .ok (.ireturn, 1) := by decide +kernel
theorem dL_law__2216 : decode cL_law_ 2216 = .ok (.iload 5, 2) := by decide +kernel
theorem dL_law__2218 : decode cL_law_ 2218 = .ok (.ifCond .ne 15, 3) := by decide +kernel
theorem dL_law__2221 : decode cL_law_ 2221 = .ok (.aload_n 3, 1) := by decide +kernel
theorem dL_law__2222 : decode cL_law_ 2222 = .ok (.iconst 0, 1) := by decide +kernel
theorem dL_law__2223 : decode cL_law_ 2223 = .ok (.laload, 1) := by decide +kernel
theorem dL_law__2224 : decode cL_law_ 2224 = .ok (.iload 6, 2) := by decide +kernel
theorem dL_law__2226 : decode cL_law_ 2226 = .ok (.i2l, 1) := by decide +kernel
theorem dL_law__2227 : decode cL_law_ 2227 = .ok (.lcmp, 1) := by decide +kernel
theorem dL_law__2228 : decode cL_law_ 2228 = .ok (.ifCond .eq 5, 3) := by decide +kernel
theorem dL_law__2231 : decode cL_law_ 2231 = .ok (.iconst 0, 1) := by decide +kernel
theorem dL_law__2232 : decode cL_law_ 2232 = .ok (.ireturn, 1) := by decide +kernel
theorem dL_law__2233 : decode cL_law_ 2233 = .ok (.goto 505, 3) := by decide +kernel
theorem dL_law__2236 : decode cL_law_ 2236 = .ok (.aload_n 1, 1) := by decide +kernel
theorem dL_law__2237 : decode cL_law_ 2237 = .ok (.invokevirtual 264, 3) := by decide +kernel
theorem dL_law__2240 : decode cL_law_ 2240 = .ok (.aload_n 2, 1) := by decide +kernel
theorem dL_law__2241 : decode cL_law_ 2241 = .ok (.invokevirtual 267, 3) := by decide +kernel
theorem dL_law__2244 : decode cL_law_ 2244 = .ok (.if_icmp .eq 494, 3) := by decide +kernel
theorem dL_law__2247 : decode cL_law_ 2247 = .ok (.iconst 0, 1) := by decide +kernel
theorem dL_law__2248 : decode cL_law_ 2248 = .ok (.ireturn, 1) := by decide +kernel
theorem dL_law__2249 : decode cL_law_ 2249 = .ok (.aload_n 1, 1) := by decide +kernel
theorem dL_law__2250 : decode cL_law_ 2250 = .ok (.invokevirtual 268, 3) := by decide +kernel
theorem dL_law__2253 : decode cL_law_ 2253 = .ok (.aload_n 2, 1) := by decide +kernel
theorem dL_law__2254 : decode cL_law_ 2254 = .ok (.invokevirtual 271, 3) := by decide +kernel
theorem dL_law__2257 : decode cL_law_ 2257 = .ok (.if_icmp .eq 481, 3) := by decide +kernel
theorem dL_law__2260 : decode cL_law_ 2260 = .ok (.iconst 0, 1) := by decide +kernel
theorem dL_law__2261 : decode cL_law_ 2261 = .ok (.ireturn, 1) := by decide +kernel
theorem dL_law__2262 : decode cL_law_ 2262 = .ok (.aload_n 1, 1) := by decide +kernel
theorem dL_law__2263 : decode cL_law_ 2263 = .ok (.aload_n 0, 1) := by decide +kernel
theorem dL_law__2264 : decode cL_law_ 2264 = .ok (.iload 4, 2) := by decide +kernel
theorem dL_law__2266 : decode cL_law_ 2266 = .ok (.iconst 1, 1) := by decide +kernel
theorem dL_law__2267 : decode cL_law_ 2267 = .ok (.iadd, 1) := by decide +kernel
theorem dL_law__2268 : decode cL_law_ 2268 = .ok (.iaload, 1) := by decide +kernel
theorem dL_law__2269 : decode cL_law_ 2269 = .ok (.aload_n 3, 1) := by decide +kernel
theorem dL_law__2270 : decode cL_law_ 2270 = .ok (.invokestatic 272, 3) := by decide +kernel
theorem dL_law__2273 : decode cL_law_ 2273 = .ok (.istore 5, 2) := by decide +kernel
theorem dL_law__2275 : decode cL_law_ 2275 = .ok (.aload_n 2, 1) := by decide +kernel
theorem dL_law__2276 : decode cL_law_ 2276 = .ok (.aload_n 0, 1) := by decide +kernel
theorem dL_law__2277 : decode cL_law_ 2277 = .ok (.iload 4, 2) := by decide +kernel
theorem dL_law__2279 : decode cL_law_ 2279 = .ok (.iconst 1, 1) := by decide +kernel
theorem dL_law__2280 : decode cL_law_ 2280 = .ok (.iadd, 1) := by decide +kernel
theorem dL_law__2281 : decode cL_law_ 2281 = .ok (.iaload, 1) := by decide +kernel
theorem dL_law__2282 : decode cL_law_ 2282 = .ok (.invokevirtual 274, 3) := by decide +kernel
theorem dL_law__2285 : decode cL_law_ 2285 = .ok (.istore 6, 2) := by decide +kernel
theorem dL_law__2287 : decode cL_law_ 2287 = .ok (.aload_n 2, 1) := by decide +kernel
theorem dL_law__2288 : decode cL_law_ 2288 = .ok (.invokevirtual 146, 3) := by decide +kernel
theorem dL_law__2291 : decode cL_law_ 2291 = .ok (.iload 5, 2) := by decide +kernel
theorem dL_law__2293 : decode cL_law_ 2293 = .ok (.if_icmp .eq 5, 3) := by decide +kernel
theorem dL_law__2296 : decode cL_law_ 2296 = .ok (.iconst 0, 1) := by decide +kernel
theorem dL_law__2297 : decode cL_law_ 2297 = .ok (.ireturn, 1) := by decide +kernel
theorem dL_law__2298 : decode cL_law_ 2298 = .ok (.iload 5, 2) := by decide +kernel
theorem dL_law__2300 : decode cL_law_ 2300 = .ok (.ifCond .ne 15, 3) := by decide +kernel
theorem dL_law__2303 : decode cL_law_ 2303 = .ok (.aload_n 3, 1) := by decide +kernel
theorem dL_law__2304 : decode cL_law_ 2304 = .ok (.iconst 0, 1) := by decide +kernel
theorem dL_law__2305 : decode cL_law_ 2305 = .ok (.laload, 1) := by decide +kernel
theorem dL_law__2306 : decode cL_law_ 2306 = .ok (.iload 6, 2) := by decide +kernel
theorem dL_law__2308 : decode cL_law_ 2308 = .ok (.i2l, 1) := by decide +kernel
theorem dL_law__2309 : decode cL_law_ 2309 = .ok (.lcmp, 1) := by decide +kernel
theorem dL_law__2310 : decode cL_law_ 2310 = .ok (.ifCond .eq 5, 3) := by decide +kernel
theorem dL_law__2313 : decode cL_law_ 2313 = .ok (.iconst 0, 1) := by decide +kernel
theorem dL_law__2314 : decode cL_law_ 2314 = .ok (.ireturn, 1) := by decide +kernel
theorem dL_law__2315 : decode cL_law_ 2315 = .ok (.goto 423, 3) := by decide +kernel
theorem dL_law__2318 : decode cL_law_ 2318 = .ok (.aload_n 1, 1) := by decide +kernel
theorem dL_law__2319 : decode cL_law_ 2319 = .ok (.invokevirtual 275, 3) := by decide +kernel
theorem dL_law__2322 : decode cL_law_ 2322 = .ok (.aload_n 2, 1) := by decide +kernel
theorem dL_law__2323 : decode cL_law_ 2323 = .ok (.invokevirtual 278, 3) := by decide +kernel
theorem dL_law__2326 : decode cL_law_ 2326 = .ok (.if_icmp .eq 412, 3) := by decide +kernel
theorem dL_law__2329 : decode cL_law_ 2329 = .ok (.iconst 0, 1) := by decide +kernel
theorem dL_law__2330 : decode cL_law_ 2330 = .ok (.ireturn, 1) := by decide +kernel
theorem dL_law__2331 : decode cL_law_ 2331 = .ok (.aload_n 1, 1) := by decide +kernel
theorem dL_law__2332 : decode cL_law_ 2332 = .ok (.aload_n 0, 1) := by decide +kernel
theorem dL_law__2333 : decode cL_law_ 2333 = .ok (.iload 4, 2) := by decide +kernel
theorem dL_law__2335 : decode cL_law_ 2335 = .ok (.iconst 1, 1) := by decide +kernel
theorem dL_law__2336 : decode cL_law_ 2336 = .ok (.iadd, 1) := by decide +kernel
theorem dL_law__2337 : decode cL_law_ 2337 = .ok (.iaload, 1) := by decide +kernel
theorem dL_law__2338 : decode cL_law_ 2338 = .ok (.aload_n 0, 1) := by decide +kernel
theorem dL_law__2339 : decode cL_law_ 2339 = .ok (.iload 4, 2) := by decide +kernel
theorem dL_law__2341 : decode cL_law_ 2341 = .ok (.iconst 2, 1) := by decide +kernel
theorem dL_law__2342 : decode cL_law_ 2342 = .ok (.iadd, 1) := by decide +kernel
theorem dL_law__2343 : decode cL_law_ 2343 = .ok (.iaload, 1) := by decide +kernel
theorem dL_law__2344 : decode cL_law_ 2344 = .ok (.ifCond .eq 7, 3) := by decide +kernel
theorem dL_law__2347 : decode cL_law_ 2347 = .ok (.iconst 1, 1) := by decide +kernel
theorem dL_law__2348 : decode cL_law_ 2348 = .ok (.goto 4, 3) := by decide +kernel
theorem dL_law__2351 : decode cL_law_ 2351 = .ok (.iconst 0, 1) := by decide +kernel
theorem dL_law__2352 : decode cL_law_ 2352 = .ok (.aload_n 3, 1) := by decide +kernel
theorem dL_law__2353 : decode cL_law_ 2353 = .ok (.invokestatic 279, 3) := by decide +kernel
theorem dL_law__2356 : decode cL_law_ 2356 = .ok (.istore 5, 2) := by decide +kernel
theorem dL_law__2358 : decode cL_law_ 2358 = .ok (.aload_n 2, 1) := by decide +kernel
theorem dL_law__2359 : decode cL_law_ 2359 = .ok (.aload_n 0, 1) := by decide +kernel
theorem dL_law__2360 : decode cL_law_ 2360 = .ok (.iload 4, 2) := by decide +kernel
theorem dL_law__2362 : decode cL_law_ 2362 = .ok (.iconst 1, 1) := by decide +kernel
theorem dL_law__2363 : decode cL_law_ 2363 = .ok (.iadd, 1) := by decide +kernel
theorem dL_law__2364 : decode cL_law_ 2364 = .ok (.iaload, 1) := by decide +kernel
theorem dL_law__2365 : decode cL_law_ 2365 = .ok (.aload_n 0, 1) := by decide +kernel
theorem dL_law__2366 : decode cL_law_ 2366 = .ok (.iload 4, 2) := by decide +kernel
theorem dL_law__2368 : decode cL_law_ 2368 = .ok (.iconst 2, 1) := by decide +kernel
theorem dL_law__2369 : decode cL_law_ 2369 = .ok (.iadd, 1) := by decide +kernel
theorem dL_law__2370 : decode cL_law_ 2370 = .ok (.iaload, 1) := by decide +kernel
theorem dL_law__2371 : decode cL_law_ 2371 = .ok (.ifCond .eq 7, 3) := by decide +kernel
theorem dL_law__2374 : decode cL_law_ 2374 = .ok (.iconst 1, 1) := by decide +kernel
theorem dL_law__2375 : decode cL_law_ 2375 = .ok (.goto 4, 3) := by decide +kernel
theorem dL_law__2378 : decode cL_law_ 2378 = .ok (.iconst 0, 1) := by decide +kernel
theorem dL_law__2379 : decode cL_law_ 2379 = .ok (.invokevirtual 281, 3) := by decide +kernel
theorem dL_law__2382 : decode cL_law_ 2382 = .ok (.istore 6, 2) := by decide +kernel
theorem dL_law__2384 : decode cL_law_ 2384 = .ok (.aload_n 2, 1) := by decide +kernel
theorem dL_law__2385 : decode cL_law_ 2385 = .ok (.invokevirtual 146, 3) := by decide +kernel
theorem dL_law__2388 : decode cL_law_ 2388 = .ok (.iload 5, 2) := by decide +kernel
theorem dL_law__2390 : decode cL_law_ 2390 = .ok (.if_icmp .eq 5, 3) := by decide +kernel
theorem dL_law__2393 : decode cL_law_ 2393 = .ok (.iconst 0, 1) := by decide +kernel
theorem dL_law__2394 : decode cL_law_ 2394 = .ok (.ireturn, 1) := by decide +kernel
theorem dL_law__2395 : decode cL_law_ 2395 = .ok (.iload 5, 2) := by decide +kernel
theorem dL_law__2397 : decode cL_law_ 2397 = .ok (.ifCond .ne 15, 3) := by decide +kernel
theorem dL_law__2400 : decode cL_law_ 2400 = .ok (.aload_n 3, 1) := by decide +kernel
theorem dL_law__2401 : decode cL_law_ 2401 = .ok (.iconst 0, 1) := by decide +kernel
theorem dL_law__2402 : decode cL_law_ 2402 = .ok (.laload, 1) := by decide +kernel
theorem dL_law__2403 : decode cL_law_ 2403 = .ok (.iload 6, 2) := by decide +kernel
theorem dL_law__2405 : decode cL_law_ 2405 = .ok (.i2l, 1) := by decide +kernel
theorem dL_law__2406 : decode cL_law_ 2406 = .ok (.lcmp, 1) := by decide +kernel
theorem dL_law__2407 : decode cL_law_ 2407 = .ok (.ifCond .eq 5, 3) := by decide +kernel
theorem dL_law__2410 : decode cL_law_ 2410 = .ok (.iconst 0, 1) := by decide +kernel
theorem dL_law__2411 : decode cL_law_ 2411 = .ok (.ireturn, 1) := by decide +kernel
theorem dL_law__2412 : decode cL_law_ 2412 = .ok (.goto 326, 3) := by decide +kernel
theorem dL_law__2415 : decode cL_law_ 2415 = .ok (.aload_n 1, 1) := by decide +kernel
theorem dL_law__2416 : decode cL_law_ 2416 = .ok (.aload_n 0, 1) := by decide +kernel
theorem dL_law__2417 : decode cL_law_ 2417 = .ok (.iload 4, 2) := by decide +kernel
theorem dL_law__2419 : decode cL_law_ 2419 = .ok (.iconst 1, 1) := by decide +kernel
theorem dL_law__2420 : decode cL_law_ 2420 = .ok (.iadd, 1) := by decide +kernel
theorem dL_law__2421 : decode cL_law_ 2421 = .ok (.iaload, 1) := by decide +kernel
theorem dL_law__2422 : decode cL_law_ 2422 = .ok (.aload_n 0, 1) := by decide +kernel
theorem dL_law__2423 : decode cL_law_ 2423 = .ok (.iload 4, 2) := by decide +kernel
theorem dL_law__2425 : decode cL_law_ 2425 = .ok (.iconst 2, 1) := by decide +kernel
theorem dL_law__2426 : decode cL_law_ 2426 = .ok (.iadd, 1) := by decide +kernel
theorem dL_law__2427 : decode cL_law_ 2427 = .ok (.iaload, 1) := by decide +kernel
theorem dL_law__2428 : decode cL_law_ 2428 = .ok (.ifCond .eq 7, 3) := by decide +kernel
theorem dL_law__2431 : decode cL_law_ 2431 = .ok (.iconst 1, 1) := by decide +kernel
theorem dL_law__2432 : decode cL_law_ 2432 = .ok (.goto 4, 3) := by decide +kernel
theorem dL_law__2435 : decode cL_law_ 2435 = .ok (.iconst 0, 1) := by decide +kernel
theorem dL_law__2436 : decode cL_law_ 2436 = .ok (.aload_n 3, 1) := by decide +kernel
theorem dL_law__2437 : decode cL_law_ 2437 = .ok (.invokestatic 282, 3) := by decide +kernel
theorem dL_law__2440 : decode cL_law_ 2440 = .ok (.istore 5, 2) := by decide +kernel
theorem dL_law__2442 : decode cL_law_ 2442 = .ok (.aload_n 2, 1) := by decide +kernel
theorem dL_law__2443 : decode cL_law_ 2443 = .ok (.aload_n 0, 1) := by decide +kernel
theorem dL_law__2444 : decode cL_law_ 2444 = .ok (.iload 4, 2) := by decide +kernel
theorem dL_law__2446 : decode cL_law_ 2446 = .ok (.iconst 1, 1) := by decide +kernel
theorem dL_law__2447 : decode cL_law_ 2447 = .ok (.iadd, 1) := by decide +kernel
theorem dL_law__2448 : decode cL_law_ 2448 = .ok (.iaload, 1) := by decide +kernel
theorem dL_law__2449 : decode cL_law_ 2449 = .ok (.aload_n 0, 1) := by decide +kernel
theorem dL_law__2450 : decode cL_law_ 2450 = .ok (.iload 4, 2) := by decide +kernel
theorem dL_law__2452 : decode cL_law_ 2452 = .ok (.iconst 2, 1) := by decide +kernel
theorem dL_law__2453 : decode cL_law_ 2453 = .ok (.iadd, 1) := by decide +kernel
theorem dL_law__2454 : decode cL_law_ 2454 = .ok (.iaload, 1) := by decide +kernel
theorem dL_law__2455 : decode cL_law_ 2455 = .ok (.ifCond .eq 7, 3) := by decide +kernel
theorem dL_law__2458 : decode cL_law_ 2458 = .ok (.iconst 1, 1) := by decide +kernel
theorem dL_law__2459 : decode cL_law_ 2459 = .ok (.goto 4, 3) := by decide +kernel
theorem dL_law__2462 : decode cL_law_ 2462 = .ok (.iconst 0, 1) := by decide +kernel
theorem dL_law__2463 : decode cL_law_ 2463 = .ok (.invokevirtual 284, 3) := by decide +kernel
theorem dL_law__2466 : decode cL_law_ 2466 = .ok (.istore 6, 2) := by decide +kernel
theorem dL_law__2468 : decode cL_law_ 2468 = .ok (.aload_n 2, 1) := by decide +kernel
theorem dL_law__2469 : decode cL_law_ 2469 = .ok (.invokevirtual 146, 3) := by decide +kernel
theorem dL_law__2472 : decode cL_law_ 2472 = .ok (.iload 5, 2) := by decide +kernel
theorem dL_law__2474 : decode cL_law_ 2474 = .ok (.if_icmp .eq 5, 3) := by decide +kernel
theorem dL_law__2477 : decode cL_law_ 2477 = .ok (.iconst 0, 1) := by decide +kernel
theorem dL_law__2478 : decode cL_law_ 2478 = .ok (.ireturn, 1) := by decide +kernel
theorem dL_law__2479 : decode cL_law_ 2479 = .ok (.iload 5, 2) := by decide +kernel
theorem dL_law__2481 : decode cL_law_ 2481 = .ok (.ifCond .ne 15, 3) := by decide +kernel
theorem dL_law__2484 : decode cL_law_ 2484 = .ok (.aload_n 3, 1) := by decide +kernel
theorem dL_law__2485 : decode cL_law_ 2485 = .ok (.iconst 0, 1) := by decide +kernel
theorem dL_law__2486 : decode cL_law_ 2486 = .ok (.laload, 1) := by decide +kernel
theorem dL_law__2487 : decode cL_law_ 2487 = .ok (.iload 6, 2) := by decide +kernel
theorem dL_law__2489 : decode cL_law_ 2489 = .ok (.i2l, 1) := by decide +kernel
theorem dL_law__2490 : decode cL_law_ 2490 = .ok (.lcmp, 1) := by decide +kernel
theorem dL_law__2491 : decode cL_law_ 2491 = .ok (.ifCond .eq 5, 3) := by decide +kernel
theorem dL_law__2494 : decode cL_law_ 2494 = .ok (.iconst 0, 1) := by decide +kernel
theorem dL_law__2495 : decode cL_law_ 2495 = .ok (.ireturn, 1) := by decide +kernel
theorem dL_law__2496 : decode cL_law_ 2496 = .ok (.goto 242, 3) := by decide +kernel
theorem dL_law__2499 : decode cL_law_ 2499 = .ok (.aload_n 1, 1) := by decide +kernel
theorem dL_law__2500 : decode cL_law_ 2500 = .ok (.aload_n 0, 1) := by decide +kernel
theorem dL_law__2501 : decode cL_law_ 2501 = .ok (.iload 4, 2) := by decide +kernel
theorem dL_law__2503 : decode cL_law_ 2503 = .ok (.iconst 1, 1) := by decide +kernel
theorem dL_law__2504 : decode cL_law_ 2504 = .ok (.iadd, 1) := by decide +kernel
theorem dL_law__2505 : decode cL_law_ 2505 = .ok (.iaload, 1) := by decide +kernel
theorem dL_law__2506 : decode cL_law_ 2506 = .ok (.aload_n 0, 1) := by decide +kernel
theorem dL_law__2507 : decode cL_law_ 2507 = .ok (.iload 4, 2) := by decide +kernel
theorem dL_law__2509 : decode cL_law_ 2509 = .ok (.iconst 2, 1) := by decide +kernel
theorem dL_law__2510 : decode cL_law_ 2510 = .ok (.iadd, 1) := by decide +kernel
theorem dL_law__2511 : decode cL_law_ 2511 = .ok (.iaload, 1) := by decide +kernel
theorem dL_law__2512 : decode cL_law_ 2512 = .ok (.ifCond .eq 7, 3) := by decide +kernel
theorem dL_law__2515 : decode cL_law_ 2515 = .ok (.iconst 1, 1) := by decide +kernel
theorem dL_law__2516 : decode cL_law_ 2516 = .ok (.goto 4, 3) := by decide +kernel
theorem dL_law__2519 : decode cL_law_ 2519 = .ok (.iconst 0, 1) := by decide +kernel
theorem dL_law__2520 : decode cL_law_ 2520 = .ok (.aload_n 3, 1) := by decide +kernel
theorem dL_law__2521 : decode cL_law_ 2521 = .ok (.invokestatic 285, 3) := by decide +kernel
theorem dL_law__2524 : decode cL_law_ 2524 = .ok (.istore 5, 2) := by decide +kernel
theorem dL_law__2526 : decode cL_law_ 2526 = .ok (.aload_n 2, 1) := by decide +kernel
theorem dL_law__2527 : decode cL_law_ 2527 = .ok (.aload_n 0, 1) := by decide +kernel
theorem dL_law__2528 : decode cL_law_ 2528 = .ok (.iload 4, 2) := by decide +kernel
theorem dL_law__2530 : decode cL_law_ 2530 = .ok (.iconst 1, 1) := by decide +kernel
theorem dL_law__2531 : decode cL_law_ 2531 = .ok (.iadd, 1) := by decide +kernel
theorem dL_law__2532 : decode cL_law_ 2532 = .ok (.iaload, 1) := by decide +kernel
theorem dL_law__2533 : decode cL_law_ 2533 = .ok (.aload_n 0, 1) := by decide +kernel
theorem dL_law__2534 : decode cL_law_ 2534 = .ok (.iload 4, 2) := by decide +kernel
theorem dL_law__2536 : decode cL_law_ 2536 = .ok (.iconst 2, 1) := by decide +kernel
theorem dL_law__2537 : decode cL_law_ 2537 = .ok (.iadd, 1) := by decide +kernel
theorem dL_law__2538 : decode cL_law_ 2538 = .ok (.iaload, 1) := by decide +kernel
theorem dL_law__2539 : decode cL_law_ 2539 = .ok (.ifCond .eq 7, 3) := by decide +kernel
theorem dL_law__2542 : decode cL_law_ 2542 = .ok (.iconst 1, 1) := by decide +kernel
theorem dL_law__2543 : decode cL_law_ 2543 = .ok (.goto 4, 3) := by decide +kernel
theorem dL_law__2546 : decode cL_law_ 2546 = .ok (.iconst 0, 1) := by decide +kernel
theorem dL_law__2547 : decode cL_law_ 2547 = .ok (.invokevirtual 287, 3) := by decide +kernel
theorem dL_law__2550 : decode cL_law_ 2550 = .ok (.istore 6, 2) := by decide +kernel
theorem dL_law__2552 : decode cL_law_ 2552 = .ok (.aload_n 2, 1) := by decide +kernel
theorem dL_law__2553 : decode cL_law_ 2553 = .ok (.invokevirtual 146, 3) := by decide +kernel
theorem dL_law__2556 : decode cL_law_ 2556 = .ok (.iload 5, 2) := by decide +kernel
theorem dL_law__2558 : decode cL_law_ 2558 = .ok (.if_icmp .eq 5, 3) := by decide +kernel
theorem dL_law__2561 : decode cL_law_ 2561 = .ok (.iconst 0, 1) := by decide +kernel
theorem dL_law__2562 : decode cL_law_ 2562 = .ok (.ireturn, 1) := by decide +kernel
theorem dL_law__2563 : decode cL_law_ 2563 = .ok (.iload 5, 2) := by decide +kernel
theorem dL_law__2565 : decode cL_law_ 2565 = .ok (.ifCond .ne 15, 3) := by decide +kernel
theorem dL_law__2568 : decode cL_law_ 2568 = .ok (.aload_n 3, 1) := by decide +kernel
theorem dL_law__2569 : decode cL_law_ 2569 = .ok (.iconst 0, 1) := by decide +kernel
theorem dL_law__2570 : decode cL_law_ 2570 = .ok (.laload, 1) := by decide +kernel
theorem dL_law__2571 : decode cL_law_ 2571 = .ok (.iload 6, 2) := by decide +kernel
theorem dL_law__2573 : decode cL_law_ 2573 = .ok (.i2l, 1) := by decide +kernel
theorem dL_law__2574 : decode cL_law_ 2574 = .ok (.lcmp, 1) := by decide +kernel
theorem dL_law__2575 : decode cL_law_ 2575 = .ok (.ifCond .eq 5, 3) := by decide +kernel
theorem dL_law__2578 : decode cL_law_ 2578 = .ok (.iconst 0, 1) := by decide +kernel
theorem dL_law__2579 : decode cL_law_ 2579 = .ok (.ireturn, 1) := by decide +kernel
theorem dL_law__2580 : decode cL_law_ 2580 = .ok (.goto 158, 3) := by decide +kernel
theorem dL_law__2583 : decode cL_law_ 2583 = .ok (.aload_n 1, 1) := by decide +kernel
theorem dL_law__2584 : decode cL_law_ 2584 = .ok (.aload_n 0, 1) := by decide +kernel
theorem dL_law__2585 : decode cL_law_ 2585 = .ok (.iload 4, 2) := by decide +kernel
theorem dL_law__2587 : decode cL_law_ 2587 = .ok (.iconst 1, 1) := by decide +kernel
theorem dL_law__2588 : decode cL_law_ 2588 = .ok (.iadd, 1) := by decide +kernel
theorem dL_law__2589 : decode cL_law_ 2589 = .ok (.iaload, 1) := by decide +kernel
theorem dL_law__2590 : decode cL_law_ 2590 = .ok (.aload_n 0, 1) := by decide +kernel
theorem dL_law__2591 : decode cL_law_ 2591 = .ok (.iload 4, 2) := by decide +kernel
theorem dL_law__2593 : decode cL_law_ 2593 = .ok (.iconst 2, 1) := by decide +kernel
theorem dL_law__2594 : decode cL_law_ 2594 = .ok (.iadd, 1) := by decide +kernel
theorem dL_law__2595 : decode cL_law_ 2595 = .ok (.iaload, 1) := by decide +kernel
theorem dL_law__2596 : decode cL_law_ 2596 = .ok (.aload_n 3, 1) := by decide +kernel
theorem dL_law__2597 : decode cL_law_ 2597 = .ok (.invokestatic 288, 3) := by decide +kernel
theorem dL_law__2600 : decode cL_law_ 2600 = .ok (.istore 5, 2) := by decide +kernel
theorem dL_law__2602 : decode cL_law_ 2602 = .ok (.aload_n 2, 1) := by decide +kernel
theorem dL_law__2603 : decode cL_law_ 2603 = .ok (.aload_n 0, 1) := by decide +kernel
theorem dL_law__2604 : decode cL_law_ 2604 = .ok (.iload 4, 2) := by decide +kernel
theorem dL_law__2606 : decode cL_law_ 2606 = .ok (.iconst 1, 1) := by decide +kernel
theorem dL_law__2607 : decode cL_law_ 2607 = .ok (.iadd, 1) := by decide +kernel
theorem dL_law__2608 : decode cL_law_ 2608 = .ok (.iaload, 1) := by decide +kernel
theorem dL_law__2609 : decode cL_law_ 2609 = .ok (.aload_n 0, 1) := by decide +kernel
theorem dL_law__2610 : decode cL_law_ 2610 = .ok (.iload 4, 2) := by decide +kernel
theorem dL_law__2612 : decode cL_law_ 2612 = .ok (.iconst 2, 1) := by decide +kernel
theorem dL_law__2613 : decode cL_law_ 2613 = .ok (.iadd, 1) := by decide +kernel
theorem dL_law__2614 : decode cL_law_ 2614 = .ok (.iaload, 1) := by decide +kernel
theorem dL_law__2615 : decode cL_law_ 2615 = .ok (.invokevirtual 290, 3) := by decide +kernel
theorem dL_law__2618 : decode cL_law_ 2618 = .ok (.istore 6, 2) := by decide +kernel
theorem dL_law__2620 : decode cL_law_ 2620 = .ok (.aload_n 2, 1) := by decide +kernel
theorem dL_law__2621 : decode cL_law_ 2621 = .ok (.invokevirtual 146, 3) := by decide +kernel
theorem dL_law__2624 : decode cL_law_ 2624 = .ok (.iload 5, 2) := by decide +kernel
theorem dL_law__2626 : decode cL_law_ 2626 = .ok (.if_icmp .eq 5, 3) := by decide +kernel
theorem dL_law__2629 : decode cL_law_ 2629 = .ok (.iconst 0, 1) := by decide +kernel
theorem dL_law__2630 : decode cL_law_ 2630 = .ok (.ireturn, 1) := by decide +kernel
theorem dL_law__2631 : decode cL_law_ 2631 = .ok (.iload 5, 2) := by decide +kernel
theorem dL_law__2633 : decode cL_law_ 2633 = .ok (.ifCond .ne 15, 3) := by decide +kernel
theorem dL_law__2636 : decode cL_law_ 2636 = .ok (.aload_n 3, 1) := by decide +kernel
theorem dL_law__2637 : decode cL_law_ 2637 = .ok (.iconst 0, 1) := by decide +kernel
theorem dL_law__2638 : decode cL_law_ 2638 = .ok (.laload, 1) := by decide +kernel
theorem dL_law__2639 : decode cL_law_ 2639 = .ok (.iload 6, 2) := by decide +kernel
theorem dL_law__2641 : decode cL_law_ 2641 = .ok (.i2l, 1) := by decide +kernel
theorem dL_law__2642 : decode cL_law_ 2642 = .ok (.lcmp, 1) := by decide +kernel
theorem dL_law__2643 : decode cL_law_ 2643 = .ok (.ifCond .eq 5, 3) := by decide +kernel
theorem dL_law__2646 : decode cL_law_ 2646 = .ok (.iconst 0, 1) := by decide +kernel
theorem dL_law__2647 : decode cL_law_ 2647 = .ok (.ireturn, 1) := by decide +kernel
theorem dL_law__2648 : decode cL_law_ 2648 = .ok (.goto 90, 3) := by decide +kernel
theorem dL_law__2651 : decode cL_law_ 2651 = .ok (.aload_n 1, 1) := by decide +kernel
theorem dL_law__2652 : decode cL_law_ 2652 = .ok (.aload_n 0, 1) := by decide +kernel
theorem dL_law__2653 : decode cL_law_ 2653 = .ok (.iload 4, 2) := by decide +kernel
theorem dL_law__2655 : decode cL_law_ 2655 = .ok (.iconst 1, 1) := by decide +kernel
theorem dL_law__2656 : decode cL_law_ 2656 = .ok (.iadd, 1) := by decide +kernel
theorem dL_law__2657 : decode cL_law_ 2657 = .ok (.iaload, 1) := by decide +kernel
theorem dL_law__2658 : decode cL_law_ 2658 = .ok (.invokevirtual 291, 3) := by decide +kernel
theorem dL_law__2661 : decode cL_law_ 2661 = .ok (.aload_n 2, 1) := by decide +kernel
theorem dL_law__2662 : decode cL_law_ 2662 = .ok (.aload_n 0, 1) := by decide +kernel
theorem dL_law__2663 : decode cL_law_ 2663 = .ok (.iload 4, 2) := by decide +kernel
theorem dL_law__2665 : decode cL_law_ 2665 = .ok (.iconst 1, 1) := by decide +kernel
theorem dL_law__2666 : decode cL_law_ 2666 = .ok (.iadd, 1) := by decide +kernel
theorem dL_law__2667 : decode cL_law_ 2667 = .ok (.iaload, 1) := by decide +kernel
theorem dL_law__2668 : decode cL_law_ 2668 = .ok (.invokevirtual 294, 3) := by decide +kernel
theorem dL_law__2671 : decode cL_law_ 2671 = .ok (.if_icmp .eq 67, 3) := by decide +kernel
theorem dL_law__2674 : decode cL_law_ 2674 = .ok (.iconst 0, 1) := by decide +kernel
theorem dL_law__2675 : decode cL_law_ 2675 = .ok (.ireturn, 1) := by decide +kernel
theorem dL_law__2676 : decode cL_law_ 2676 = .ok (.aload_n 1, 1) := by decide +kernel
theorem dL_law__2677 : decode cL_law_ 2677 = .ok (.invokevirtual 295, 3) := by decide +kernel
theorem dL_law__2680 : decode cL_law_ 2680 = .ok (.aload_n 2, 1) := by decide +kernel
theorem dL_law__2681 : decode cL_law_ 2681 = .ok (.invokevirtual 299, 3) := by decide +kernel
theorem dL_law__2684 : decode cL_law_ 2684 = .ok (.if_icmp .eq 54, 3) := by decide +kernel
theorem dL_law__2687 : decode cL_law_ 2687 = .ok (.iconst 0, 1) := by decide +kernel
theorem dL_law__2688 : decode cL_law_ 2688 = .ok (.ireturn, 1) := by decide +kernel
theorem dL_law__2689 : decode cL_law_ 2689 = .ok (.aload_n 1, 1) := by decide +kernel
theorem dL_law__2690 : decode cL_law_ 2690 = .ok (.invokevirtual 300, 3) := by decide +kernel
theorem dL_law__2693 : decode cL_law_ 2693 = .ok (.aload_n 2, 1) := by decide +kernel
theorem dL_law__2694 : decode cL_law_ 2694 = .ok (.invokevirtual 303, 3) := by decide +kernel
theorem dL_law__2697 : decode cL_law_ 2697 = .ok (.goto 41, 3) := by decide +kernel
theorem dL_law__2700 : decode cL_law_ 2700 = .ok (.aload_n 1, 1) := by decide +kernel
theorem dL_law__2701 : decode cL_law_ 2701 = .ok (.invokevirtual 304, 3) := by decide +kernel
theorem dL_law__2704 : decode cL_law_ 2704 = .ok (.aload_n 2, 1) := by decide +kernel
theorem dL_law__2705 : decode cL_law_ 2705 = .ok (.invokevirtual 307, 3) := by decide +kernel
theorem dL_law__2708 : decode cL_law_ 2708 = .ok (.if_icmp .eq 30, 3) := by decide +kernel
theorem dL_law__2711 : decode cL_law_ 2711 = .ok (.iconst 0, 1) := by decide +kernel
theorem dL_law__2712 : decode cL_law_ 2712 = .ok (.ireturn, 1) := by decide +kernel
theorem dL_law__2713 : decode cL_law_ 2713 = .ok (.aload_n 1, 1) := by decide +kernel
theorem dL_law__2714 : decode cL_law_ 2714 = .ok (.aload_n 0, 1) := by decide +kernel
theorem dL_law__2715 : decode cL_law_ 2715 = .ok (.iload 4, 2) := by decide +kernel
theorem dL_law__2717 : decode cL_law_ 2717 = .ok (.iconst 1, 1) := by decide +kernel
theorem dL_law__2718 : decode cL_law_ 2718 = .ok (.iadd, 1) := by decide +kernel
theorem dL_law__2719 : decode cL_law_ 2719 = .ok (.iaload, 1) := by decide +kernel
theorem dL_law__2720 : decode cL_law_ 2720 = .ok (.invokevirtual 308, 3) := by decide +kernel
theorem dL_law__2723 : decode cL_law_ 2723 = .ok (.aload_n 2, 1) := by decide +kernel
theorem dL_law__2724 : decode cL_law_ 2724 = .ok (.aload_n 0, 1) := by decide +kernel
theorem dL_law__2725 : decode cL_law_ 2725 = .ok (.iload 4, 2) := by decide +kernel
theorem dL_law__2727 : decode cL_law_ 2727 = .ok (.iconst 1, 1) := by decide +kernel
theorem dL_law__2728 : decode cL_law_ 2728 = .ok (.iadd, 1) := by decide +kernel
theorem dL_law__2729 : decode cL_law_ 2729 = .ok (.iaload, 1) := by decide +kernel
theorem dL_law__2730 : decode cL_law_ 2730 = .ok (.invokevirtual 311, 3) := by decide +kernel
theorem dL_law__2733 : decode cL_law_ 2733 = .ok (.if_icmp .eq 5, 3) := by decide +kernel
theorem dL_law__2736 : decode cL_law_ 2736 = .ok (.iconst 0, 1) := by decide +kernel
theorem dL_law__2737 : decode cL_law_ 2737 = .ok (.ireturn, 1) := by decide +kernel
theorem dL_law__2738 : decode cL_law_ 2738 = .ok (.iinc 4 6, 3) := by decide +kernel
theorem dL_law__2741 : decode cL_law_ 2741 = .ok (.goto (-2718), 3) := by decide +kernel
theorem dL_law__2744 : decode cL_law_ 2744 = .ok (.iconst 1, 1) := by decide +kernel
theorem dL_law__2745 : decode cL_law_ 2745 = .ok (.ireturn, 1) := by decide +kernel
