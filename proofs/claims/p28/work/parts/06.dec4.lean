theorem zdc_768 : decode cX12_guru 0 = .ok (.aload_n 0, 1) ∧ decode cX12_guru 1 = .ok (.iload_n 1, 1) ∧ decode cX12_guru 2 = .ok (.iconst 0, 1) ∧ decode cX12_guru 3 = .ok (.bipush 30, 2) ∧ decode cX12_guru 5 = .ok (.invokestatic 42, 3) ∧ decode cX12_guru 8 = .ok (.ifCond .ne 7, 3) ∧ decode cX12_guru 11 = .ok (.iconst 1, 1) ∧ decode cX12_guru 12 = .ok (.goto 4, 3) ∧ decode cX12_guru 15 = .ok (.iconst 0, 1) ∧ decode cX12_guru 16 = .ok (.putfield 39, 3) := by decide +kernel
theorem dX12_guru_0 : decode cX12_guru 0 = .ok (.aload_n 0, 1) := zdc_768.1
theorem dX12_guru_1 : decode cX12_guru 1 = .ok (.iload_n 1, 1) := zdc_768.2.1
theorem dX12_guru_2 : decode cX12_guru 2 = .ok (.iconst 0, 1) := zdc_768.2.2.1
theorem dX12_guru_3 : decode cX12_guru 3 = .ok (.bipush 30, 2) := zdc_768.2.2.2.1
theorem dX12_guru_5 : decode cX12_guru 5 = .ok (.invokestatic 42, 3) := zdc_768.2.2.2.2.1
theorem dX12_guru_8 : decode cX12_guru 8 = .ok (.ifCond .ne 7, 3) := zdc_768.2.2.2.2.2.1
theorem dX12_guru_11 : decode cX12_guru 11 = .ok (.iconst 1, 1) := zdc_768.2.2.2.2.2.2.1
theorem dX12_guru_12 : decode cX12_guru 12 = .ok (.goto 4, 3) := zdc_768.2.2.2.2.2.2.2.1
theorem dX12_guru_15 : decode cX12_guru 15 = .ok (.iconst 0, 1) := zdc_768.2.2.2.2.2.2.2.2.1
theorem dX12_guru_16 : decode cX12_guru 16 = .ok (.putfield 39, 3) := zdc_768.2.2.2.2.2.2.2.2.2
theorem zdc_769 : decode cX12_guru 19 = .ok (.aload_n 0, 1) ∧ decode cX12_guru 20 = .ok (.getfield 39, 3) ∧ decode cX12_guru 23 = .ok (.ifCond .le 5, 3) ∧ decode cX12_guru 26 = .ok (.iconst 0, 1) ∧ decode cX12_guru 27 = .ok (.ireturn, 1) ∧ decode cX12_guru 28 = .ok (.iconst (-1), 1) ∧ decode cX12_guru 29 = .ok (.istore_n 2, 1) ∧ decode cX12_guru 30 = .ok (.iconst 0, 1) ∧ decode cX12_guru 31 = .ok (.istore_n 3, 1) ∧ decode cX12_guru 32 = .ok (.iconst 0, 1) := by decide +kernel
theorem dX12_guru_19 : decode cX12_guru 19 = .ok (.aload_n 0, 1) := zdc_769.1
theorem dX12_guru_20 : decode cX12_guru 20 = .ok (.getfield 39, 3) := zdc_769.2.1
theorem dX12_guru_23 : decode cX12_guru 23 = .ok (.ifCond .le 5, 3) := zdc_769.2.2.1
theorem dX12_guru_26 : decode cX12_guru 26 = .ok (.iconst 0, 1) := zdc_769.2.2.2.1
theorem dX12_guru_27 : decode cX12_guru 27 = .ok (.ireturn, 1) := zdc_769.2.2.2.2.1
theorem dX12_guru_28 : decode cX12_guru 28 = .ok (.iconst (-1), 1) := zdc_769.2.2.2.2.2.1
theorem dX12_guru_29 : decode cX12_guru 29 = .ok (.istore_n 2, 1) := zdc_769.2.2.2.2.2.2.1
theorem dX12_guru_30 : decode cX12_guru 30 = .ok (.iconst 0, 1) := zdc_769.2.2.2.2.2.2.2.1
theorem dX12_guru_31 : decode cX12_guru 31 = .ok (.istore_n 3, 1) := zdc_769.2.2.2.2.2.2.2.2.1
theorem dX12_guru_32 : decode cX12_guru 32 = .ok (.iconst 0, 1) := zdc_769.2.2.2.2.2.2.2.2.2
theorem zdc_770 : decode cX12_guru 33 = .ok (.istore 4, 2) ∧ decode cX12_guru 35 = .ok (.iload 4, 2) ∧ decode cX12_guru 37 = .ok (.aload_n 0, 1) ∧ decode cX12_guru 38 = .ok (.getfield 7, 3) ∧ decode cX12_guru 41 = .ok (.iconst 3, 1) ∧ decode cX12_guru 42 = .ok (.iaload, 1) ∧ decode cX12_guru 43 = .ok (.if_icmp .ge 64, 3) ∧ decode cX12_guru 46 = .ok (.aload_n 0, 1) ∧ decode cX12_guru 47 = .ok (.iload 4, 2) ∧ decode cX12_guru 49 = .ok (.invokevirtual 50, 3) := by decide +kernel
theorem dX12_guru_33 : decode cX12_guru 33 = .ok (.istore 4, 2) := zdc_770.1
theorem dX12_guru_35 : decode cX12_guru 35 = .ok (.iload 4, 2) := zdc_770.2.1
theorem dX12_guru_37 : decode cX12_guru 37 = .ok (.aload_n 0, 1) := zdc_770.2.2.1
theorem dX12_guru_38 : decode cX12_guru 38 = .ok (.getfield 7, 3) := zdc_770.2.2.2.1
theorem dX12_guru_41 : decode cX12_guru 41 = .ok (.iconst 3, 1) := zdc_770.2.2.2.2.1
theorem dX12_guru_42 : decode cX12_guru 42 = .ok (.iaload, 1) := zdc_770.2.2.2.2.2.1
theorem dX12_guru_43 : decode cX12_guru 43 = .ok (.if_icmp .ge 64, 3) := zdc_770.2.2.2.2.2.2.1
theorem dX12_guru_46 : decode cX12_guru 46 = .ok (.aload_n 0, 1) := zdc_770.2.2.2.2.2.2.2.1
theorem dX12_guru_47 : decode cX12_guru 47 = .ok (.iload 4, 2) := zdc_770.2.2.2.2.2.2.2.2.1
theorem dX12_guru_49 : decode cX12_guru 49 = .ok (.invokevirtual 50, 3) := zdc_770.2.2.2.2.2.2.2.2.2
theorem zdc_771 : decode cX12_guru 52 = .ok (.ifCond .eq 17, 3) ∧ decode cX12_guru 55 = .ok (.aload_n 0, 1) ∧ decode cX12_guru 56 = .ok (.iload_n 1, 1) ∧ decode cX12_guru 57 = .ok (.iconst 1, 1) ∧ decode cX12_guru 58 = .ok (.iload 4, 2) ∧ decode cX12_guru 60 = .ok (.ishl, 1) ∧ decode cX12_guru 61 = .ok (.bipush 10, 2) ∧ decode cX12_guru 63 = .ok (.invokevirtual 300, 3) ∧ decode cX12_guru 66 = .ok (.goto 4, 3) ∧ decode cX12_guru 69 = .ok (.iconst 0, 1) := by decide +kernel
theorem dX12_guru_52 : decode cX12_guru 52 = .ok (.ifCond .eq 17, 3) := zdc_771.1
theorem dX12_guru_55 : decode cX12_guru 55 = .ok (.aload_n 0, 1) := zdc_771.2.1
theorem dX12_guru_56 : decode cX12_guru 56 = .ok (.iload_n 1, 1) := zdc_771.2.2.1
theorem dX12_guru_57 : decode cX12_guru 57 = .ok (.iconst 1, 1) := zdc_771.2.2.2.1
theorem dX12_guru_58 : decode cX12_guru 58 = .ok (.iload 4, 2) := zdc_771.2.2.2.2.1
theorem dX12_guru_60 : decode cX12_guru 60 = .ok (.ishl, 1) := zdc_771.2.2.2.2.2.1
theorem dX12_guru_61 : decode cX12_guru 61 = .ok (.bipush 10, 2) := zdc_771.2.2.2.2.2.2.1
theorem dX12_guru_63 : decode cX12_guru 63 = .ok (.invokevirtual 300, 3) := zdc_771.2.2.2.2.2.2.2.1
theorem dX12_guru_66 : decode cX12_guru 66 = .ok (.goto 4, 3) := zdc_771.2.2.2.2.2.2.2.2.1
theorem dX12_guru_69 : decode cX12_guru 69 = .ok (.iconst 0, 1) := zdc_771.2.2.2.2.2.2.2.2.2
theorem zdc_772 : decode cX12_guru 70 = .ok (.istore 5, 2) ∧ decode cX12_guru 72 = .ok (.aload_n 0, 1) ∧ decode cX12_guru 73 = .ok (.iload 4, 2) ∧ decode cX12_guru 75 = .ok (.invokevirtual 50, 3) ∧ decode cX12_guru 78 = .ok (.ifCond .eq 23, 3) ∧ decode cX12_guru 81 = .ok (.iload_n 2, 1) ∧ decode cX12_guru 82 = .ok (.iconst (-1), 1) ∧ decode cX12_guru 83 = .ok (.if_icmp .eq 12, 3) ∧ decode cX12_guru 86 = .ok (.iload 5, 2) ∧ decode cX12_guru 88 = .ok (.iload_n 3, 1) := by decide +kernel
theorem dX12_guru_70 : decode cX12_guru 70 = .ok (.istore 5, 2) := zdc_772.1
theorem dX12_guru_72 : decode cX12_guru 72 = .ok (.aload_n 0, 1) := zdc_772.2.1
theorem dX12_guru_73 : decode cX12_guru 73 = .ok (.iload 4, 2) := zdc_772.2.2.1
theorem dX12_guru_75 : decode cX12_guru 75 = .ok (.invokevirtual 50, 3) := zdc_772.2.2.2.1
theorem dX12_guru_78 : decode cX12_guru 78 = .ok (.ifCond .eq 23, 3) := zdc_772.2.2.2.2.1
theorem dX12_guru_81 : decode cX12_guru 81 = .ok (.iload_n 2, 1) := zdc_772.2.2.2.2.2.1
theorem dX12_guru_82 : decode cX12_guru 82 = .ok (.iconst (-1), 1) := zdc_772.2.2.2.2.2.2.1
theorem dX12_guru_83 : decode cX12_guru 83 = .ok (.if_icmp .eq 12, 3) := zdc_772.2.2.2.2.2.2.2.1
theorem dX12_guru_86 : decode cX12_guru 86 = .ok (.iload 5, 2) := zdc_772.2.2.2.2.2.2.2.2.1
theorem dX12_guru_88 : decode cX12_guru 88 = .ok (.iload_n 3, 1) := zdc_772.2.2.2.2.2.2.2.2.2
theorem zdc_773 : decode cX12_guru 89 = .ok (.if_icmp .gt 6, 3) ∧ decode cX12_guru 92 = .ok (.goto 9, 3) ∧ decode cX12_guru 95 = .ok (.iload 5, 2) ∧ decode cX12_guru 97 = .ok (.istore_n 3, 1) ∧ decode cX12_guru 98 = .ok (.iload 4, 2) ∧ decode cX12_guru 100 = .ok (.istore_n 2, 1) ∧ decode cX12_guru 101 = .ok (.iinc 4 1, 3) ∧ decode cX12_guru 104 = .ok (.goto (-69), 3) ∧ decode cX12_guru 107 = .ok (.iload_n 2, 1) ∧ decode cX12_guru 108 = .ok (.ireturn, 1) := by decide +kernel
theorem dX12_guru_89 : decode cX12_guru 89 = .ok (.if_icmp .gt 6, 3) := zdc_773.1
theorem dX12_guru_92 : decode cX12_guru 92 = .ok (.goto 9, 3) := zdc_773.2.1
theorem dX12_guru_95 : decode cX12_guru 95 = .ok (.iload 5, 2) := zdc_773.2.2.1
theorem dX12_guru_97 : decode cX12_guru 97 = .ok (.istore_n 3, 1) := zdc_773.2.2.2.1
theorem dX12_guru_98 : decode cX12_guru 98 = .ok (.iload 4, 2) := zdc_773.2.2.2.2.1
theorem dX12_guru_100 : decode cX12_guru 100 = .ok (.istore_n 2, 1) := zdc_773.2.2.2.2.2.1
theorem dX12_guru_101 : decode cX12_guru 101 = .ok (.iinc 4 1, 3) := zdc_773.2.2.2.2.2.2.1
theorem dX12_guru_104 : decode cX12_guru 104 = .ok (.goto (-69), 3) := zdc_773.2.2.2.2.2.2.2.1
theorem dX12_guru_107 : decode cX12_guru 107 = .ok (.iload_n 2, 1) := zdc_773.2.2.2.2.2.2.2.2.1
theorem dX12_guru_108 : decode cX12_guru 108 = .ok (.ireturn, 1) := zdc_773.2.2.2.2.2.2.2.2.2
theorem zdc_774 : decode cX12_must 0 = .ok (.aload_n 0, 1) ∧ decode cX12_must 1 = .ok (.iload_n 1, 1) ∧ decode cX12_must 2 = .ok (.iconst 1, 1) ∧ decode cX12_must 3 = .ok (.sipush 792, 3) ∧ decode cX12_must 6 = .ok (.invokestatic 42, 3) ∧ decode cX12_must 9 = .ok (.ifCond .eq 13, 3) ∧ decode cX12_must 12 = .ok (.iload_n 2, 1) ∧ decode cX12_must 13 = .ok (.iconst 0, 1) ∧ decode cX12_must 14 = .ok (.bipush 30, 2) ∧ decode cX12_must 16 = .ok (.invokestatic 42, 3) := by decide +kernel
theorem dX12_must_0 : decode cX12_must 0 = .ok (.aload_n 0, 1) := zdc_774.1
theorem dX12_must_1 : decode cX12_must 1 = .ok (.iload_n 1, 1) := zdc_774.2.1
theorem dX12_must_2 : decode cX12_must 2 = .ok (.iconst 1, 1) := zdc_774.2.2.1
theorem dX12_must_3 : decode cX12_must 3 = .ok (.sipush 792, 3) := zdc_774.2.2.2.1
theorem dX12_must_6 : decode cX12_must 6 = .ok (.invokestatic 42, 3) := zdc_774.2.2.2.2.1
theorem dX12_must_9 : decode cX12_must 9 = .ok (.ifCond .eq 13, 3) := zdc_774.2.2.2.2.2.1
theorem dX12_must_12 : decode cX12_must 12 = .ok (.iload_n 2, 1) := zdc_774.2.2.2.2.2.2.1
theorem dX12_must_13 : decode cX12_must 13 = .ok (.iconst 0, 1) := zdc_774.2.2.2.2.2.2.2.1
theorem dX12_must_14 : decode cX12_must 14 = .ok (.bipush 30, 2) := zdc_774.2.2.2.2.2.2.2.2.1
theorem dX12_must_16 : decode cX12_must 16 = .ok (.invokestatic 42, 3) := zdc_774.2.2.2.2.2.2.2.2.2
theorem zdc_775 : decode cX12_must 19 = .ok (.ifCond .ne 7, 3) ∧ decode cX12_must 22 = .ok (.iconst 1, 1) ∧ decode cX12_must 23 = .ok (.goto 4, 3) ∧ decode cX12_must 26 = .ok (.iconst 0, 1) ∧ decode cX12_must 27 = .ok (.putfield 39, 3) ∧ decode cX12_must 30 = .ok (.aload_n 0, 1) ∧ decode cX12_must 31 = .ok (.getfield 39, 3) ∧ decode cX12_must 34 = .ok (.ifCond .le 5, 3) ∧ decode cX12_must 37 = .ok (.iconst 0, 1) ∧ decode cX12_must 38 = .ok (.ireturn, 1) := by decide +kernel
theorem dX12_must_19 : decode cX12_must 19 = .ok (.ifCond .ne 7, 3) := zdc_775.1
theorem dX12_must_22 : decode cX12_must 22 = .ok (.iconst 1, 1) := zdc_775.2.1
theorem dX12_must_23 : decode cX12_must 23 = .ok (.goto 4, 3) := zdc_775.2.2.1
theorem dX12_must_26 : decode cX12_must 26 = .ok (.iconst 0, 1) := zdc_775.2.2.2.1
theorem dX12_must_27 : decode cX12_must 27 = .ok (.putfield 39, 3) := zdc_775.2.2.2.2.1
theorem dX12_must_30 : decode cX12_must 30 = .ok (.aload_n 0, 1) := zdc_775.2.2.2.2.2.1
theorem dX12_must_31 : decode cX12_must 31 = .ok (.getfield 39, 3) := zdc_775.2.2.2.2.2.2.1
theorem dX12_must_34 : decode cX12_must 34 = .ok (.ifCond .le 5, 3) := zdc_775.2.2.2.2.2.2.2.1
theorem dX12_must_37 : decode cX12_must 37 = .ok (.iconst 0, 1) := zdc_775.2.2.2.2.2.2.2.2.1
theorem dX12_must_38 : decode cX12_must 38 = .ok (.ireturn, 1) := zdc_775.2.2.2.2.2.2.2.2.2
theorem zdc_776 : decode cX12_must 39 = .ok (.aload_n 0, 1) ∧ decode cX12_must 40 = .ok (.invokevirtual 54, 3) ∧ decode cX12_must 43 = .ok (.istore_n 3, 1) ∧ decode cX12_must 44 = .ok (.iconst (-1), 1) ∧ decode cX12_must 45 = .ok (.istore 4, 2) ∧ decode cX12_must 47 = .ok (.iconst 0, 1) ∧ decode cX12_must 48 = .ok (.istore 5, 2) ∧ decode cX12_must 50 = .ok (.iload 5, 2) ∧ decode cX12_must 52 = .ok (.iconst 1, 1) ∧ decode cX12_must 53 = .ok (.aload_n 0, 1) := by decide +kernel
theorem dX12_must_39 : decode cX12_must 39 = .ok (.aload_n 0, 1) := zdc_776.1
theorem dX12_must_40 : decode cX12_must 40 = .ok (.invokevirtual 54, 3) := zdc_776.2.1
theorem dX12_must_43 : decode cX12_must 43 = .ok (.istore_n 3, 1) := zdc_776.2.2.1
theorem dX12_must_44 : decode cX12_must 44 = .ok (.iconst (-1), 1) := zdc_776.2.2.2.1
theorem dX12_must_45 : decode cX12_must 45 = .ok (.istore 4, 2) := zdc_776.2.2.2.2.1
theorem dX12_must_47 : decode cX12_must 47 = .ok (.iconst 0, 1) := zdc_776.2.2.2.2.2.1
theorem dX12_must_48 : decode cX12_must 48 = .ok (.istore 5, 2) := zdc_776.2.2.2.2.2.2.1
theorem dX12_must_50 : decode cX12_must 50 = .ok (.iload 5, 2) := zdc_776.2.2.2.2.2.2.2.1
theorem dX12_must_52 : decode cX12_must 52 = .ok (.iconst 1, 1) := zdc_776.2.2.2.2.2.2.2.2.1
theorem dX12_must_53 : decode cX12_must 53 = .ok (.aload_n 0, 1) := zdc_776.2.2.2.2.2.2.2.2.2
theorem zdc_777 : decode cX12_must 54 = .ok (.getfield 7, 3) ∧ decode cX12_must 57 = .ok (.iconst 3, 1) ∧ decode cX12_must 58 = .ok (.iaload, 1) ∧ decode cX12_must 59 = .ok (.ishl, 1) ∧ decode cX12_must 60 = .ok (.if_icmp .ge 54, 3) ∧ decode cX12_must 63 = .ok (.iload 5, 2) ∧ decode cX12_must 65 = .ok (.iload_n 3, 1) ∧ decode cX12_must 66 = .ok (.iconst (-1), 1) ∧ decode cX12_must 67 = .ok (.ixor, 1) ∧ decode cX12_must 68 = .ok (.iand, 1) := by decide +kernel
theorem dX12_must_54 : decode cX12_must 54 = .ok (.getfield 7, 3) := zdc_777.1
theorem dX12_must_57 : decode cX12_must 57 = .ok (.iconst 3, 1) := zdc_777.2.1
theorem dX12_must_58 : decode cX12_must 58 = .ok (.iaload, 1) := zdc_777.2.2.1
theorem dX12_must_59 : decode cX12_must 59 = .ok (.ishl, 1) := zdc_777.2.2.2.1
theorem dX12_must_60 : decode cX12_must 60 = .ok (.if_icmp .ge 54, 3) := zdc_777.2.2.2.2.1
theorem dX12_must_63 : decode cX12_must 63 = .ok (.iload 5, 2) := zdc_777.2.2.2.2.2.1
theorem dX12_must_65 : decode cX12_must 65 = .ok (.iload_n 3, 1) := zdc_777.2.2.2.2.2.2.1
theorem dX12_must_66 : decode cX12_must 66 = .ok (.iconst (-1), 1) := zdc_777.2.2.2.2.2.2.2.1
theorem dX12_must_67 : decode cX12_must 67 = .ok (.ixor, 1) := zdc_777.2.2.2.2.2.2.2.2.1
theorem dX12_must_68 : decode cX12_must 68 = .ok (.iand, 1) := zdc_777.2.2.2.2.2.2.2.2.2
theorem zdc_778 : decode cX12_must 69 = .ok (.ifCond .ne 39, 3) ∧ decode cX12_must 72 = .ok (.iload 4, 2) ∧ decode cX12_must 74 = .ok (.iconst (-1), 1) ∧ decode cX12_must 75 = .ok (.if_icmp .eq 16, 3) ∧ decode cX12_must 78 = .ok (.iload 5, 2) ∧ decode cX12_must 80 = .ok (.invokestatic 58, 3) ∧ decode cX12_must 83 = .ok (.iload 4, 2) ∧ decode cX12_must 85 = .ok (.invokestatic 58, 3) ∧ decode cX12_must 88 = .ok (.if_icmp .ge 20, 3) ∧ decode cX12_must 91 = .ok (.aload_n 0, 1) := by decide +kernel
theorem dX12_must_69 : decode cX12_must 69 = .ok (.ifCond .ne 39, 3) := zdc_778.1
theorem dX12_must_72 : decode cX12_must 72 = .ok (.iload 4, 2) := zdc_778.2.1
theorem dX12_must_74 : decode cX12_must 74 = .ok (.iconst (-1), 1) := zdc_778.2.2.1
theorem dX12_must_75 : decode cX12_must 75 = .ok (.if_icmp .eq 16, 3) := zdc_778.2.2.2.1
theorem dX12_must_78 : decode cX12_must 78 = .ok (.iload 5, 2) := zdc_778.2.2.2.2.1
theorem dX12_must_80 : decode cX12_must 80 = .ok (.invokestatic 58, 3) := zdc_778.2.2.2.2.2.1
theorem dX12_must_83 : decode cX12_must 83 = .ok (.iload 4, 2) := zdc_778.2.2.2.2.2.2.1
theorem dX12_must_85 : decode cX12_must 85 = .ok (.invokestatic 58, 3) := zdc_778.2.2.2.2.2.2.2.1
theorem dX12_must_88 : decode cX12_must 88 = .ok (.if_icmp .ge 20, 3) := zdc_778.2.2.2.2.2.2.2.2.1
theorem dX12_must_91 : decode cX12_must 91 = .ok (.aload_n 0, 1) := zdc_778.2.2.2.2.2.2.2.2.2
theorem zdc_779 : decode cX12_must 92 = .ok (.iload_n 2, 1) ∧ decode cX12_must 93 = .ok (.iload 5, 2) ∧ decode cX12_must 95 = .ok (.bipush 20, 2) ∧ decode cX12_must 97 = .ok (.invokevirtual 300, 3) ∧ decode cX12_must 100 = .ok (.iload_n 1, 1) ∧ decode cX12_must 101 = .ok (.if_icmp .lt 7, 3) ∧ decode cX12_must 104 = .ok (.iload 5, 2) ∧ decode cX12_must 106 = .ok (.istore 4, 2) ∧ decode cX12_must 108 = .ok (.iinc 5 1, 3) ∧ decode cX12_must 111 = .ok (.goto (-61), 3) := by decide +kernel
theorem dX12_must_92 : decode cX12_must 92 = .ok (.iload_n 2, 1) := zdc_779.1
theorem dX12_must_93 : decode cX12_must 93 = .ok (.iload 5, 2) := zdc_779.2.1
theorem dX12_must_95 : decode cX12_must 95 = .ok (.bipush 20, 2) := zdc_779.2.2.1
theorem dX12_must_97 : decode cX12_must 97 = .ok (.invokevirtual 300, 3) := zdc_779.2.2.2.1
theorem dX12_must_100 : decode cX12_must 100 = .ok (.iload_n 1, 1) := zdc_779.2.2.2.2.1
theorem dX12_must_101 : decode cX12_must 101 = .ok (.if_icmp .lt 7, 3) := zdc_779.2.2.2.2.2.1
theorem dX12_must_104 : decode cX12_must 104 = .ok (.iload 5, 2) := zdc_779.2.2.2.2.2.2.1
theorem dX12_must_106 : decode cX12_must 106 = .ok (.istore 4, 2) := zdc_779.2.2.2.2.2.2.2.1
theorem dX12_must_108 : decode cX12_must 108 = .ok (.iinc 5 1, 3) := zdc_779.2.2.2.2.2.2.2.2.1
theorem dX12_must_111 : decode cX12_must 111 = .ok (.goto (-61), 3) := zdc_779.2.2.2.2.2.2.2.2.2
theorem zdc_780 : decode cX12_must 114 = .ok (.iload 4, 2) ∧ decode cX12_must 116 = .ok (.ireturn, 1) ∧ decode cX12_reaches 0 = .ok (.aload_n 0, 1) ∧ decode cX12_reaches 1 = .ok (.iload_n 1, 1) ∧ decode cX12_reaches 2 = .ok (.iconst 1, 1) ∧ decode cX12_reaches 3 = .ok (.sipush 792, 3) ∧ decode cX12_reaches 6 = .ok (.invokestatic 42, 3) ∧ decode cX12_reaches 9 = .ok (.ifCond .ne 7, 3) ∧ decode cX12_reaches 12 = .ok (.iconst 1, 1) ∧ decode cX12_reaches 13 = .ok (.goto 4, 3) := by decide +kernel
theorem dX12_must_114 : decode cX12_must 114 = .ok (.iload 4, 2) := zdc_780.1
theorem dX12_must_116 : decode cX12_must 116 = .ok (.ireturn, 1) := zdc_780.2.1
theorem dX12_reaches_0 : decode cX12_reaches 0 = .ok (.aload_n 0, 1) := zdc_780.2.2.1
theorem dX12_reaches_1 : decode cX12_reaches 1 = .ok (.iload_n 1, 1) := zdc_780.2.2.2.1
theorem dX12_reaches_2 : decode cX12_reaches 2 = .ok (.iconst 1, 1) := zdc_780.2.2.2.2.1
theorem dX12_reaches_3 : decode cX12_reaches 3 = .ok (.sipush 792, 3) := zdc_780.2.2.2.2.2.1
theorem dX12_reaches_6 : decode cX12_reaches 6 = .ok (.invokestatic 42, 3) := zdc_780.2.2.2.2.2.2.1
theorem dX12_reaches_9 : decode cX12_reaches 9 = .ok (.ifCond .ne 7, 3) := zdc_780.2.2.2.2.2.2.2.1
theorem dX12_reaches_12 : decode cX12_reaches 12 = .ok (.iconst 1, 1) := zdc_780.2.2.2.2.2.2.2.2.1
theorem dX12_reaches_13 : decode cX12_reaches 13 = .ok (.goto 4, 3) := zdc_780.2.2.2.2.2.2.2.2.2
theorem zdc_781 : decode cX12_reaches 16 = .ok (.iconst 0, 1) ∧ decode cX12_reaches 17 = .ok (.putfield 39, 3) ∧ decode cX12_reaches 20 = .ok (.aload_n 0, 1) ∧ decode cX12_reaches 21 = .ok (.getfield 39, 3) ∧ decode cX12_reaches 24 = .ok (.ifCond .le 5, 3) ∧ decode cX12_reaches 27 = .ok (.iconst 0, 1) ∧ decode cX12_reaches 28 = .ok (.ireturn, 1) ∧ decode cX12_reaches 29 = .ok (.aload_n 0, 1) ∧ decode cX12_reaches 30 = .ok (.invokevirtual 174, 3) ∧ decode cX12_reaches 33 = .ok (.iconst (-1), 1) := by decide +kernel
theorem dX12_reaches_16 : decode cX12_reaches 16 = .ok (.iconst 0, 1) := zdc_781.1
theorem dX12_reaches_17 : decode cX12_reaches 17 = .ok (.putfield 39, 3) := zdc_781.2.1
theorem dX12_reaches_20 : decode cX12_reaches 20 = .ok (.aload_n 0, 1) := zdc_781.2.2.1
theorem dX12_reaches_21 : decode cX12_reaches 21 = .ok (.getfield 39, 3) := zdc_781.2.2.2.1
theorem dX12_reaches_24 : decode cX12_reaches 24 = .ok (.ifCond .le 5, 3) := zdc_781.2.2.2.2.1
theorem dX12_reaches_27 : decode cX12_reaches 27 = .ok (.iconst 0, 1) := zdc_781.2.2.2.2.2.1
theorem dX12_reaches_28 : decode cX12_reaches 28 = .ok (.ireturn, 1) := zdc_781.2.2.2.2.2.2.1
theorem dX12_reaches_29 : decode cX12_reaches 29 = .ok (.aload_n 0, 1) := zdc_781.2.2.2.2.2.2.2.1
theorem dX12_reaches_30 : decode cX12_reaches 30 = .ok (.invokevirtual 174, 3) := zdc_781.2.2.2.2.2.2.2.2.1
theorem dX12_reaches_33 : decode cX12_reaches 33 = .ok (.iconst (-1), 1) := zdc_781.2.2.2.2.2.2.2.2.2
theorem zdc_782 : decode cX12_reaches 34 = .ok (.istore_n 2, 1) ∧ decode cX12_reaches 35 = .ok (.iconst 0, 1) ∧ decode cX12_reaches 36 = .ok (.istore_n 3, 1) ∧ decode cX12_reaches 37 = .ok (.iload_n 3, 1) ∧ decode cX12_reaches 38 = .ok (.bipush 100, 2) ∧ decode cX12_reaches 40 = .ok (.if_icmp .gt 32, 3) ∧ decode cX12_reaches 43 = .ok (.iload_n 2, 1) ∧ decode cX12_reaches 44 = .ok (.iconst (-1), 1) ∧ decode cX12_reaches 45 = .ok (.if_icmp .ne 27, 3) ∧ decode cX12_reaches 48 = .ok (.aload_n 0, 1) := by decide +kernel
theorem dX12_reaches_34 : decode cX12_reaches 34 = .ok (.istore_n 2, 1) := zdc_782.1
theorem dX12_reaches_35 : decode cX12_reaches 35 = .ok (.iconst 0, 1) := zdc_782.2.1
theorem dX12_reaches_36 : decode cX12_reaches 36 = .ok (.istore_n 3, 1) := zdc_782.2.2.1
theorem dX12_reaches_37 : decode cX12_reaches 37 = .ok (.iload_n 3, 1) := zdc_782.2.2.2.1
theorem dX12_reaches_38 : decode cX12_reaches 38 = .ok (.bipush 100, 2) := zdc_782.2.2.2.2.1
theorem dX12_reaches_40 : decode cX12_reaches 40 = .ok (.if_icmp .gt 32, 3) := zdc_782.2.2.2.2.2.1
theorem dX12_reaches_43 : decode cX12_reaches 43 = .ok (.iload_n 2, 1) := zdc_782.2.2.2.2.2.2.1
theorem dX12_reaches_44 : decode cX12_reaches 44 = .ok (.iconst (-1), 1) := zdc_782.2.2.2.2.2.2.2.1
theorem dX12_reaches_45 : decode cX12_reaches 45 = .ok (.if_icmp .ne 27, 3) := zdc_782.2.2.2.2.2.2.2.2.1
theorem dX12_reaches_48 : decode cX12_reaches 48 = .ok (.aload_n 0, 1) := zdc_782.2.2.2.2.2.2.2.2.2
theorem zdc_783 : decode cX12_reaches 49 = .ok (.invokevirtual 62, 3) ∧ decode cX12_reaches 52 = .ok (.iload_n 1, 1) ∧ decode cX12_reaches 53 = .ok (.if_icmp .lt 5, 3) ∧ decode cX12_reaches 56 = .ok (.iload_n 3, 1) ∧ decode cX12_reaches 57 = .ok (.istore_n 2, 1) ∧ decode cX12_reaches 58 = .ok (.aload_n 0, 1) ∧ decode cX12_reaches 59 = .ok (.iconst 1, 1) ∧ decode cX12_reaches 60 = .ok (.iconst 0, 1) ∧ decode cX12_reaches 61 = .ok (.invokevirtual 292, 3) ∧ decode cX12_reaches 64 = .ok (.istore 4, 2) := by decide +kernel
theorem dX12_reaches_49 : decode cX12_reaches 49 = .ok (.invokevirtual 62, 3) := zdc_783.1
theorem dX12_reaches_52 : decode cX12_reaches 52 = .ok (.iload_n 1, 1) := zdc_783.2.1
theorem dX12_reaches_53 : decode cX12_reaches 53 = .ok (.if_icmp .lt 5, 3) := zdc_783.2.2.1
theorem dX12_reaches_56 : decode cX12_reaches 56 = .ok (.iload_n 3, 1) := zdc_783.2.2.2.1
theorem dX12_reaches_57 : decode cX12_reaches 57 = .ok (.istore_n 2, 1) := zdc_783.2.2.2.2.1
theorem dX12_reaches_58 : decode cX12_reaches 58 = .ok (.aload_n 0, 1) := zdc_783.2.2.2.2.2.1
theorem dX12_reaches_59 : decode cX12_reaches 59 = .ok (.iconst 1, 1) := zdc_783.2.2.2.2.2.2.1
theorem dX12_reaches_60 : decode cX12_reaches 60 = .ok (.iconst 0, 1) := zdc_783.2.2.2.2.2.2.2.1
theorem dX12_reaches_61 : decode cX12_reaches 61 = .ok (.invokevirtual 292, 3) := zdc_783.2.2.2.2.2.2.2.2.1
theorem dX12_reaches_64 : decode cX12_reaches 64 = .ok (.istore 4, 2) := zdc_783.2.2.2.2.2.2.2.2.2
theorem zdc_784 : decode cX12_reaches 66 = .ok (.iinc 3 1, 3) ∧ decode cX12_reaches 69 = .ok (.goto (-32), 3) ∧ decode cX12_reaches 72 = .ok (.aload_n 0, 1) ∧ decode cX12_reaches 73 = .ok (.invokevirtual 184, 3) ∧ decode cX12_reaches 76 = .ok (.iload_n 2, 1) ∧ decode cX12_reaches 77 = .ok (.ireturn, 1) ∧ decode cX12_doubtsNow 0 = .ok (.iconst 0, 1) ∧ decode cX12_doubtsNow 1 = .ok (.istore_n 1, 1) ∧ decode cX12_doubtsNow 2 = .ok (.iconst 0, 1) ∧ decode cX12_doubtsNow 3 = .ok (.istore_n 2, 1) := by decide +kernel
theorem dX12_reaches_66 : decode cX12_reaches 66 = .ok (.iinc 3 1, 3) := zdc_784.1
theorem dX12_reaches_69 : decode cX12_reaches 69 = .ok (.goto (-32), 3) := zdc_784.2.1
theorem dX12_reaches_72 : decode cX12_reaches 72 = .ok (.aload_n 0, 1) := zdc_784.2.2.1
theorem dX12_reaches_73 : decode cX12_reaches 73 = .ok (.invokevirtual 184, 3) := zdc_784.2.2.2.1
theorem dX12_reaches_76 : decode cX12_reaches 76 = .ok (.iload_n 2, 1) := zdc_784.2.2.2.2.1
theorem dX12_reaches_77 : decode cX12_reaches 77 = .ok (.ireturn, 1) := zdc_784.2.2.2.2.2.1
theorem dX12_doubtsNow_0 : decode cX12_doubtsNow 0 = .ok (.iconst 0, 1) := zdc_784.2.2.2.2.2.2.1
theorem dX12_doubtsNow_1 : decode cX12_doubtsNow 1 = .ok (.istore_n 1, 1) := zdc_784.2.2.2.2.2.2.2.1
theorem dX12_doubtsNow_2 : decode cX12_doubtsNow 2 = .ok (.iconst 0, 1) := zdc_784.2.2.2.2.2.2.2.2.1
theorem dX12_doubtsNow_3 : decode cX12_doubtsNow 3 = .ok (.istore_n 2, 1) := zdc_784.2.2.2.2.2.2.2.2.2
theorem zdc_785 : decode cX12_doubtsNow 4 = .ok (.iload_n 2, 1) ∧ decode cX12_doubtsNow 5 = .ok (.aload_n 0, 1) ∧ decode cX12_doubtsNow 6 = .ok (.getfield 7, 3) ∧ decode cX12_doubtsNow 9 = .ok (.iconst 3, 1) ∧ decode cX12_doubtsNow 10 = .ok (.iaload, 1) ∧ decode cX12_doubtsNow 11 = .ok (.if_icmp .ge 38, 3) ∧ decode cX12_doubtsNow 14 = .ok (.iload_n 1, 1) ∧ decode cX12_doubtsNow 15 = .ok (.aload_n 0, 1) ∧ decode cX12_doubtsNow 16 = .ok (.iload_n 2, 1) ∧ decode cX12_doubtsNow 17 = .ok (.invokevirtual 50, 3) := by decide +kernel
theorem dX12_doubtsNow_4 : decode cX12_doubtsNow 4 = .ok (.iload_n 2, 1) := zdc_785.1
theorem dX12_doubtsNow_5 : decode cX12_doubtsNow 5 = .ok (.aload_n 0, 1) := zdc_785.2.1
theorem dX12_doubtsNow_6 : decode cX12_doubtsNow 6 = .ok (.getfield 7, 3) := zdc_785.2.2.1
theorem dX12_doubtsNow_9 : decode cX12_doubtsNow 9 = .ok (.iconst 3, 1) := zdc_785.2.2.2.1
theorem dX12_doubtsNow_10 : decode cX12_doubtsNow 10 = .ok (.iaload, 1) := zdc_785.2.2.2.2.1
theorem dX12_doubtsNow_11 : decode cX12_doubtsNow 11 = .ok (.if_icmp .ge 38, 3) := zdc_785.2.2.2.2.2.1
theorem dX12_doubtsNow_14 : decode cX12_doubtsNow 14 = .ok (.iload_n 1, 1) := zdc_785.2.2.2.2.2.2.1
theorem dX12_doubtsNow_15 : decode cX12_doubtsNow 15 = .ok (.aload_n 0, 1) := zdc_785.2.2.2.2.2.2.2.1
theorem dX12_doubtsNow_16 : decode cX12_doubtsNow 16 = .ok (.iload_n 2, 1) := zdc_785.2.2.2.2.2.2.2.2.1
theorem dX12_doubtsNow_17 : decode cX12_doubtsNow 17 = .ok (.invokevirtual 50, 3) := zdc_785.2.2.2.2.2.2.2.2.2
theorem zdc_786 : decode cX12_doubtsNow 20 = .ok (.ifCond .eq 20, 3) ∧ decode cX12_doubtsNow 23 = .ok (.aload_n 0, 1) ∧ decode cX12_doubtsNow 24 = .ok (.iload_n 2, 1) ∧ decode cX12_doubtsNow 25 = .ok (.iconst 0, 1) ∧ decode cX12_doubtsNow 26 = .ok (.invokevirtual 46, 3) ∧ decode cX12_doubtsNow 29 = .ok (.bipush 33, 2) ∧ decode cX12_doubtsNow 31 = .ok (.if_icmp .ge 9, 3) ∧ decode cX12_doubtsNow 34 = .ok (.iconst 1, 1) ∧ decode cX12_doubtsNow 35 = .ok (.iload_n 2, 1) ∧ decode cX12_doubtsNow 36 = .ok (.ishl, 1) := by decide +kernel
theorem dX12_doubtsNow_20 : decode cX12_doubtsNow 20 = .ok (.ifCond .eq 20, 3) := zdc_786.1
theorem dX12_doubtsNow_23 : decode cX12_doubtsNow 23 = .ok (.aload_n 0, 1) := zdc_786.2.1
theorem dX12_doubtsNow_24 : decode cX12_doubtsNow 24 = .ok (.iload_n 2, 1) := zdc_786.2.2.1
theorem dX12_doubtsNow_25 : decode cX12_doubtsNow 25 = .ok (.iconst 0, 1) := zdc_786.2.2.2.1
theorem dX12_doubtsNow_26 : decode cX12_doubtsNow 26 = .ok (.invokevirtual 46, 3) := zdc_786.2.2.2.2.1
theorem dX12_doubtsNow_29 : decode cX12_doubtsNow 29 = .ok (.bipush 33, 2) := zdc_786.2.2.2.2.2.1
theorem dX12_doubtsNow_31 : decode cX12_doubtsNow 31 = .ok (.if_icmp .ge 9, 3) := zdc_786.2.2.2.2.2.2.1
theorem dX12_doubtsNow_34 : decode cX12_doubtsNow 34 = .ok (.iconst 1, 1) := zdc_786.2.2.2.2.2.2.2.1
theorem dX12_doubtsNow_35 : decode cX12_doubtsNow 35 = .ok (.iload_n 2, 1) := zdc_786.2.2.2.2.2.2.2.2.1
theorem dX12_doubtsNow_36 : decode cX12_doubtsNow 36 = .ok (.ishl, 1) := zdc_786.2.2.2.2.2.2.2.2.2
theorem zdc_787 : decode cX12_doubtsNow 37 = .ok (.goto 4, 3) ∧ decode cX12_doubtsNow 40 = .ok (.iconst 0, 1) ∧ decode cX12_doubtsNow 41 = .ok (.ior, 1) ∧ decode cX12_doubtsNow 42 = .ok (.istore_n 1, 1) ∧ decode cX12_doubtsNow 43 = .ok (.iinc 2 1, 3) ∧ decode cX12_doubtsNow 46 = .ok (.goto (-42), 3) ∧ decode cX12_doubtsNow 49 = .ok (.iload_n 1, 1) ∧ decode cX12_doubtsNow 50 = .ok (.ireturn, 1) ∧ decode cX12_doubts 0 = .ok (.aload_n 0, 1) ∧ decode cX12_doubts 1 = .ok (.iconst 0, 1) := by decide +kernel
theorem dX12_doubtsNow_37 : decode cX12_doubtsNow 37 = .ok (.goto 4, 3) := zdc_787.1
theorem dX12_doubtsNow_40 : decode cX12_doubtsNow 40 = .ok (.iconst 0, 1) := zdc_787.2.1
theorem dX12_doubtsNow_41 : decode cX12_doubtsNow 41 = .ok (.ior, 1) := zdc_787.2.2.1
theorem dX12_doubtsNow_42 : decode cX12_doubtsNow 42 = .ok (.istore_n 1, 1) := zdc_787.2.2.2.1
theorem dX12_doubtsNow_43 : decode cX12_doubtsNow 43 = .ok (.iinc 2 1, 3) := zdc_787.2.2.2.2.1
theorem dX12_doubtsNow_46 : decode cX12_doubtsNow 46 = .ok (.goto (-42), 3) := zdc_787.2.2.2.2.2.1
theorem dX12_doubtsNow_49 : decode cX12_doubtsNow 49 = .ok (.iload_n 1, 1) := zdc_787.2.2.2.2.2.2.1
theorem dX12_doubtsNow_50 : decode cX12_doubtsNow 50 = .ok (.ireturn, 1) := zdc_787.2.2.2.2.2.2.2.1
theorem dX12_doubts_0 : decode cX12_doubts 0 = .ok (.aload_n 0, 1) := zdc_787.2.2.2.2.2.2.2.2.1
theorem dX12_doubts_1 : decode cX12_doubts 1 = .ok (.iconst 0, 1) := zdc_787.2.2.2.2.2.2.2.2.2
theorem zdc_788 : decode cX12_doubts 2 = .ok (.putfield 39, 3) ∧ decode cX12_doubts 5 = .ok (.aload_n 0, 1) ∧ decode cX12_doubts 6 = .ok (.invokevirtual 304, 3) ∧ decode cX12_doubts 9 = .ok (.ireturn, 1) ∧ decode cX12_ruin 0 = .ok (.aload_n 0, 1) ∧ decode cX12_ruin 1 = .ok (.iconst 0, 1) ∧ decode cX12_ruin 2 = .ok (.putfield 39, 3) ∧ decode cX12_ruin 5 = .ok (.aload_n 0, 1) ∧ decode cX12_ruin 6 = .ok (.invokevirtual 174, 3) ∧ decode cX12_ruin 9 = .ok (.iconst (-1), 1) := by decide +kernel
theorem dX12_doubts_2 : decode cX12_doubts 2 = .ok (.putfield 39, 3) := zdc_788.1
theorem dX12_doubts_5 : decode cX12_doubts 5 = .ok (.aload_n 0, 1) := zdc_788.2.1
theorem dX12_doubts_6 : decode cX12_doubts 6 = .ok (.invokevirtual 304, 3) := zdc_788.2.2.1
theorem dX12_doubts_9 : decode cX12_doubts 9 = .ok (.ireturn, 1) := zdc_788.2.2.2.1
theorem dX12_ruin_0 : decode cX12_ruin 0 = .ok (.aload_n 0, 1) := zdc_788.2.2.2.2.1
theorem dX12_ruin_1 : decode cX12_ruin 1 = .ok (.iconst 0, 1) := zdc_788.2.2.2.2.2.1
theorem dX12_ruin_2 : decode cX12_ruin 2 = .ok (.putfield 39, 3) := zdc_788.2.2.2.2.2.2.1
theorem dX12_ruin_5 : decode cX12_ruin 5 = .ok (.aload_n 0, 1) := zdc_788.2.2.2.2.2.2.2.1
theorem dX12_ruin_6 : decode cX12_ruin 6 = .ok (.invokevirtual 174, 3) := zdc_788.2.2.2.2.2.2.2.2.1
theorem dX12_ruin_9 : decode cX12_ruin 9 = .ok (.iconst (-1), 1) := zdc_788.2.2.2.2.2.2.2.2.2
theorem zdc_789 : decode cX12_ruin 10 = .ok (.istore_n 1, 1) ∧ decode cX12_ruin 11 = .ok (.iconst 0, 1) ∧ decode cX12_ruin 12 = .ok (.istore_n 2, 1) ∧ decode cX12_ruin 13 = .ok (.iload_n 2, 1) ∧ decode cX12_ruin 14 = .ok (.bipush 100, 2) ∧ decode cX12_ruin 16 = .ok (.if_icmp .gt 51, 3) ∧ decode cX12_ruin 19 = .ok (.iload_n 1, 1) ∧ decode cX12_ruin 20 = .ok (.iconst (-1), 1) ∧ decode cX12_ruin 21 = .ok (.if_icmp .ne 46, 3) ∧ decode cX12_ruin 24 = .ok (.aload_n 0, 1) := by decide +kernel
theorem dX12_ruin_10 : decode cX12_ruin 10 = .ok (.istore_n 1, 1) := zdc_789.1
theorem dX12_ruin_11 : decode cX12_ruin 11 = .ok (.iconst 0, 1) := zdc_789.2.1
theorem dX12_ruin_12 : decode cX12_ruin 12 = .ok (.istore_n 2, 1) := zdc_789.2.2.1
theorem dX12_ruin_13 : decode cX12_ruin 13 = .ok (.iload_n 2, 1) := zdc_789.2.2.2.1
theorem dX12_ruin_14 : decode cX12_ruin 14 = .ok (.bipush 100, 2) := zdc_789.2.2.2.2.1
theorem dX12_ruin_16 : decode cX12_ruin 16 = .ok (.if_icmp .gt 51, 3) := zdc_789.2.2.2.2.2.1
theorem dX12_ruin_19 : decode cX12_ruin 19 = .ok (.iload_n 1, 1) := zdc_789.2.2.2.2.2.2.1
theorem dX12_ruin_20 : decode cX12_ruin 20 = .ok (.iconst (-1), 1) := zdc_789.2.2.2.2.2.2.2.1
theorem dX12_ruin_21 : decode cX12_ruin 21 = .ok (.if_icmp .ne 46, 3) := zdc_789.2.2.2.2.2.2.2.2.1
theorem dX12_ruin_24 : decode cX12_ruin 24 = .ok (.aload_n 0, 1) := zdc_789.2.2.2.2.2.2.2.2.2
theorem zdc_790 : decode cX12_ruin 25 = .ok (.invokevirtual 54, 3) ∧ decode cX12_ruin 28 = .ok (.ifCond .eq 26, 3) ∧ decode cX12_ruin 31 = .ok (.iconst 3, 1) ∧ decode cX12_ruin 32 = .ok (.aload_n 0, 1) ∧ decode cX12_ruin 33 = .ok (.invokevirtual 304, 3) ∧ decode cX12_ruin 36 = .ok (.invokestatic 58, 3) ∧ decode cX12_ruin 39 = .ok (.imul, 1) ∧ decode cX12_ruin 40 = .ok (.iconst 2, 1) ∧ decode cX12_ruin 41 = .ok (.aload_n 0, 1) ∧ decode cX12_ruin 42 = .ok (.invokevirtual 54, 3) := by decide +kernel
theorem dX12_ruin_25 : decode cX12_ruin 25 = .ok (.invokevirtual 54, 3) := zdc_790.1
theorem dX12_ruin_28 : decode cX12_ruin 28 = .ok (.ifCond .eq 26, 3) := zdc_790.2.1
theorem dX12_ruin_31 : decode cX12_ruin 31 = .ok (.iconst 3, 1) := zdc_790.2.2.1
theorem dX12_ruin_32 : decode cX12_ruin 32 = .ok (.aload_n 0, 1) := zdc_790.2.2.2.1
theorem dX12_ruin_33 : decode cX12_ruin 33 = .ok (.invokevirtual 304, 3) := zdc_790.2.2.2.2.1
theorem dX12_ruin_36 : decode cX12_ruin 36 = .ok (.invokestatic 58, 3) := zdc_790.2.2.2.2.2.1
theorem dX12_ruin_39 : decode cX12_ruin 39 = .ok (.imul, 1) := zdc_790.2.2.2.2.2.2.1
theorem dX12_ruin_40 : decode cX12_ruin 40 = .ok (.iconst 2, 1) := zdc_790.2.2.2.2.2.2.2.1
theorem dX12_ruin_41 : decode cX12_ruin 41 = .ok (.aload_n 0, 1) := zdc_790.2.2.2.2.2.2.2.2.1
theorem dX12_ruin_42 : decode cX12_ruin 42 = .ok (.invokevirtual 54, 3) := zdc_790.2.2.2.2.2.2.2.2.2
theorem zdc_791 : decode cX12_ruin 45 = .ok (.invokestatic 58, 3) ∧ decode cX12_ruin 48 = .ok (.imul, 1) ∧ decode cX12_ruin 49 = .ok (.if_icmp .lt 5, 3) ∧ decode cX12_ruin 52 = .ok (.iload_n 2, 1) ∧ decode cX12_ruin 53 = .ok (.istore_n 1, 1) ∧ decode cX12_ruin 54 = .ok (.aload_n 0, 1) ∧ decode cX12_ruin 55 = .ok (.iconst 1, 1) ∧ decode cX12_ruin 56 = .ok (.iconst 0, 1) ∧ decode cX12_ruin 57 = .ok (.invokevirtual 292, 3) ∧ decode cX12_ruin 60 = .ok (.istore_n 3, 1) := by decide +kernel
theorem dX12_ruin_45 : decode cX12_ruin 45 = .ok (.invokestatic 58, 3) := zdc_791.1
theorem dX12_ruin_48 : decode cX12_ruin 48 = .ok (.imul, 1) := zdc_791.2.1
theorem dX12_ruin_49 : decode cX12_ruin 49 = .ok (.if_icmp .lt 5, 3) := zdc_791.2.2.1
theorem dX12_ruin_52 : decode cX12_ruin 52 = .ok (.iload_n 2, 1) := zdc_791.2.2.2.1
theorem dX12_ruin_53 : decode cX12_ruin 53 = .ok (.istore_n 1, 1) := zdc_791.2.2.2.2.1
theorem dX12_ruin_54 : decode cX12_ruin 54 = .ok (.aload_n 0, 1) := zdc_791.2.2.2.2.2.1
theorem dX12_ruin_55 : decode cX12_ruin 55 = .ok (.iconst 1, 1) := zdc_791.2.2.2.2.2.2.1
theorem dX12_ruin_56 : decode cX12_ruin 56 = .ok (.iconst 0, 1) := zdc_791.2.2.2.2.2.2.2.1
theorem dX12_ruin_57 : decode cX12_ruin 57 = .ok (.invokevirtual 292, 3) := zdc_791.2.2.2.2.2.2.2.2.1
theorem dX12_ruin_60 : decode cX12_ruin 60 = .ok (.istore_n 3, 1) := zdc_791.2.2.2.2.2.2.2.2.2
theorem zdc_792 : decode cX12_ruin 61 = .ok (.iinc 2 1, 3) ∧ decode cX12_ruin 64 = .ok (.goto (-51), 3) ∧ decode cX12_ruin 67 = .ok (.aload_n 0, 1) ∧ decode cX12_ruin 68 = .ok (.invokevirtual 184, 3) ∧ decode cX12_ruin 71 = .ok (.iload_n 1, 1) ∧ decode cX12_ruin 72 = .ok (.ireturn, 1) ∧ decode cX12_dearest 0 = .ok (.aload_n 0, 1) ∧ decode cX12_dearest 1 = .ok (.iload_n 1, 1) ∧ decode cX12_dearest 2 = .ok (.iconst 0, 1) ∧ decode cX12_dearest 3 = .ok (.bipush 100, 2) := by decide +kernel
theorem dX12_ruin_61 : decode cX12_ruin 61 = .ok (.iinc 2 1, 3) := zdc_792.1
theorem dX12_ruin_64 : decode cX12_ruin 64 = .ok (.goto (-51), 3) := zdc_792.2.1
theorem dX12_ruin_67 : decode cX12_ruin 67 = .ok (.aload_n 0, 1) := zdc_792.2.2.1
theorem dX12_ruin_68 : decode cX12_ruin 68 = .ok (.invokevirtual 184, 3) := zdc_792.2.2.2.1
theorem dX12_ruin_71 : decode cX12_ruin 71 = .ok (.iload_n 1, 1) := zdc_792.2.2.2.2.1
theorem dX12_ruin_72 : decode cX12_ruin 72 = .ok (.ireturn, 1) := zdc_792.2.2.2.2.2.1
theorem dX12_dearest_0 : decode cX12_dearest 0 = .ok (.aload_n 0, 1) := zdc_792.2.2.2.2.2.2.1
theorem dX12_dearest_1 : decode cX12_dearest 1 = .ok (.iload_n 1, 1) := zdc_792.2.2.2.2.2.2.2.1
theorem dX12_dearest_2 : decode cX12_dearest 2 = .ok (.iconst 0, 1) := zdc_792.2.2.2.2.2.2.2.2.1
theorem dX12_dearest_3 : decode cX12_dearest 3 = .ok (.bipush 100, 2) := zdc_792.2.2.2.2.2.2.2.2.2
theorem zdc_793 : decode cX12_dearest 5 = .ok (.invokestatic 42, 3) ∧ decode cX12_dearest 8 = .ok (.ifCond .ne 7, 3) ∧ decode cX12_dearest 11 = .ok (.iconst 1, 1) ∧ decode cX12_dearest 12 = .ok (.goto 4, 3) ∧ decode cX12_dearest 15 = .ok (.iconst 0, 1) ∧ decode cX12_dearest 16 = .ok (.putfield 39, 3) ∧ decode cX12_dearest 19 = .ok (.aload_n 0, 1) ∧ decode cX12_dearest 20 = .ok (.getfield 39, 3) ∧ decode cX12_dearest 23 = .ok (.ifCond .le 5, 3) ∧ decode cX12_dearest 26 = .ok (.iconst 0, 1) := by decide +kernel
theorem dX12_dearest_5 : decode cX12_dearest 5 = .ok (.invokestatic 42, 3) := zdc_793.1
theorem dX12_dearest_8 : decode cX12_dearest 8 = .ok (.ifCond .ne 7, 3) := zdc_793.2.1
theorem dX12_dearest_11 : decode cX12_dearest 11 = .ok (.iconst 1, 1) := zdc_793.2.2.1
theorem dX12_dearest_12 : decode cX12_dearest 12 = .ok (.goto 4, 3) := zdc_793.2.2.2.1
theorem dX12_dearest_15 : decode cX12_dearest 15 = .ok (.iconst 0, 1) := zdc_793.2.2.2.2.1
theorem dX12_dearest_16 : decode cX12_dearest 16 = .ok (.putfield 39, 3) := zdc_793.2.2.2.2.2.1
theorem dX12_dearest_19 : decode cX12_dearest 19 = .ok (.aload_n 0, 1) := zdc_793.2.2.2.2.2.2.1
theorem dX12_dearest_20 : decode cX12_dearest 20 = .ok (.getfield 39, 3) := zdc_793.2.2.2.2.2.2.2.1
theorem dX12_dearest_23 : decode cX12_dearest 23 = .ok (.ifCond .le 5, 3) := zdc_793.2.2.2.2.2.2.2.2.1
theorem dX12_dearest_26 : decode cX12_dearest 26 = .ok (.iconst 0, 1) := zdc_793.2.2.2.2.2.2.2.2.2
theorem zdc_794 : decode cX12_dearest 27 = .ok (.ireturn, 1) ∧ decode cX12_dearest 28 = .ok (.aload_n 0, 1) ∧ decode cX12_dearest 29 = .ok (.invokevirtual 174, 3) ∧ decode cX12_dearest 32 = .ok (.iconst 0, 1) ∧ decode cX12_dearest 33 = .ok (.istore_n 3, 1) ∧ decode cX12_dearest 34 = .ok (.iconst 0, 1) ∧ decode cX12_dearest 35 = .ok (.istore 4, 2) ∧ decode cX12_dearest 37 = .ok (.iconst 0, 1) ∧ decode cX12_dearest 38 = .ok (.istore 5, 2) ∧ decode cX12_dearest 40 = .ok (.iload 5, 2) := by decide +kernel
theorem dX12_dearest_27 : decode cX12_dearest 27 = .ok (.ireturn, 1) := zdc_794.1
theorem dX12_dearest_28 : decode cX12_dearest 28 = .ok (.aload_n 0, 1) := zdc_794.2.1
theorem dX12_dearest_29 : decode cX12_dearest 29 = .ok (.invokevirtual 174, 3) := zdc_794.2.2.1
theorem dX12_dearest_32 : decode cX12_dearest 32 = .ok (.iconst 0, 1) := zdc_794.2.2.2.1
theorem dX12_dearest_33 : decode cX12_dearest 33 = .ok (.istore_n 3, 1) := zdc_794.2.2.2.2.1
theorem dX12_dearest_34 : decode cX12_dearest 34 = .ok (.iconst 0, 1) := zdc_794.2.2.2.2.2.1
theorem dX12_dearest_35 : decode cX12_dearest 35 = .ok (.istore 4, 2) := zdc_794.2.2.2.2.2.2.1
theorem dX12_dearest_37 : decode cX12_dearest 37 = .ok (.iconst 0, 1) := zdc_794.2.2.2.2.2.2.2.1
theorem dX12_dearest_38 : decode cX12_dearest 38 = .ok (.istore 5, 2) := zdc_794.2.2.2.2.2.2.2.2.1
theorem dX12_dearest_40 : decode cX12_dearest 40 = .ok (.iload 5, 2) := zdc_794.2.2.2.2.2.2.2.2.2
theorem zdc_795 : decode cX12_dearest 42 = .ok (.iload_n 1, 1) ∧ decode cX12_dearest 43 = .ok (.if_icmp .gt 46, 3) ∧ decode cX12_dearest 46 = .ok (.aload_n 0, 1) ∧ decode cX12_dearest 47 = .ok (.invokevirtual 277, 3) ∧ decode cX12_dearest 50 = .ok (.istore 6, 2) ∧ decode cX12_dearest 52 = .ok (.iload 6, 2) ∧ decode cX12_dearest 54 = .ok (.iload 4, 2) ∧ decode cX12_dearest 56 = .ok (.if_icmp .le 8, 3) ∧ decode cX12_dearest 59 = .ok (.iload 5, 2) ∧ decode cX12_dearest 61 = .ok (.goto 4, 3) := by decide +kernel
theorem dX12_dearest_42 : decode cX12_dearest 42 = .ok (.iload_n 1, 1) := zdc_795.1
theorem dX12_dearest_43 : decode cX12_dearest 43 = .ok (.if_icmp .gt 46, 3) := zdc_795.2.1
theorem dX12_dearest_46 : decode cX12_dearest 46 = .ok (.aload_n 0, 1) := zdc_795.2.2.1
theorem dX12_dearest_47 : decode cX12_dearest 47 = .ok (.invokevirtual 277, 3) := zdc_795.2.2.2.1
theorem dX12_dearest_50 : decode cX12_dearest 50 = .ok (.istore 6, 2) := zdc_795.2.2.2.2.1
theorem dX12_dearest_52 : decode cX12_dearest 52 = .ok (.iload 6, 2) := zdc_795.2.2.2.2.2.1
theorem dX12_dearest_54 : decode cX12_dearest 54 = .ok (.iload 4, 2) := zdc_795.2.2.2.2.2.2.1
theorem dX12_dearest_56 : decode cX12_dearest 56 = .ok (.if_icmp .le 8, 3) := zdc_795.2.2.2.2.2.2.2.1
theorem dX12_dearest_59 : decode cX12_dearest 59 = .ok (.iload 5, 2) := zdc_795.2.2.2.2.2.2.2.2.1
theorem dX12_dearest_61 : decode cX12_dearest 61 = .ok (.goto 4, 3) := zdc_795.2.2.2.2.2.2.2.2.2
theorem zdc_796 : decode cX12_dearest 64 = .ok (.iload_n 3, 1) ∧ decode cX12_dearest 65 = .ok (.istore_n 3, 1) ∧ decode cX12_dearest 66 = .ok (.iload 4, 2) ∧ decode cX12_dearest 68 = .ok (.iload 6, 2) ∧ decode cX12_dearest 70 = .ok (.invokestatic 251, 3) ∧ decode cX12_dearest 73 = .ok (.istore 4, 2) ∧ decode cX12_dearest 75 = .ok (.aload_n 0, 1) ∧ decode cX12_dearest 76 = .ok (.iconst 1, 1) ∧ decode cX12_dearest 77 = .ok (.iconst 0, 1) ∧ decode cX12_dearest 78 = .ok (.invokevirtual 292, 3) := by decide +kernel
theorem dX12_dearest_64 : decode cX12_dearest 64 = .ok (.iload_n 3, 1) := zdc_796.1
theorem dX12_dearest_65 : decode cX12_dearest 65 = .ok (.istore_n 3, 1) := zdc_796.2.1
theorem dX12_dearest_66 : decode cX12_dearest 66 = .ok (.iload 4, 2) := zdc_796.2.2.1
theorem dX12_dearest_68 : decode cX12_dearest 68 = .ok (.iload 6, 2) := zdc_796.2.2.2.1
theorem dX12_dearest_70 : decode cX12_dearest 70 = .ok (.invokestatic 251, 3) := zdc_796.2.2.2.2.1
theorem dX12_dearest_73 : decode cX12_dearest 73 = .ok (.istore 4, 2) := zdc_796.2.2.2.2.2.1
theorem dX12_dearest_75 : decode cX12_dearest 75 = .ok (.aload_n 0, 1) := zdc_796.2.2.2.2.2.2.1
theorem dX12_dearest_76 : decode cX12_dearest 76 = .ok (.iconst 1, 1) := zdc_796.2.2.2.2.2.2.2.1
theorem dX12_dearest_77 : decode cX12_dearest 77 = .ok (.iconst 0, 1) := zdc_796.2.2.2.2.2.2.2.2.1
theorem dX12_dearest_78 : decode cX12_dearest 78 = .ok (.invokevirtual 292, 3) := zdc_796.2.2.2.2.2.2.2.2.2
theorem zdc_797 : decode cX12_dearest 81 = .ok (.istore 7, 2) ∧ decode cX12_dearest 83 = .ok (.iinc 5 1, 3) ∧ decode cX12_dearest 86 = .ok (.goto (-46), 3) ∧ decode cX12_dearest 89 = .ok (.aload_n 0, 1) ∧ decode cX12_dearest 90 = .ok (.invokevirtual 184, 3) ∧ decode cX12_dearest 93 = .ok (.iload_n 2, 1) ∧ decode cX12_dearest 94 = .ok (.ifCond .eq 8, 3) ∧ decode cX12_dearest 97 = .ok (.iload 4, 2) ∧ decode cX12_dearest 99 = .ok (.goto 4, 3) ∧ decode cX12_dearest 102 = .ok (.iload_n 3, 1) := by decide +kernel
theorem dX12_dearest_81 : decode cX12_dearest 81 = .ok (.istore 7, 2) := zdc_797.1
theorem dX12_dearest_83 : decode cX12_dearest 83 = .ok (.iinc 5 1, 3) := zdc_797.2.1
theorem dX12_dearest_86 : decode cX12_dearest 86 = .ok (.goto (-46), 3) := zdc_797.2.2.1
theorem dX12_dearest_89 : decode cX12_dearest 89 = .ok (.aload_n 0, 1) := zdc_797.2.2.2.1
theorem dX12_dearest_90 : decode cX12_dearest 90 = .ok (.invokevirtual 184, 3) := zdc_797.2.2.2.2.1
theorem dX12_dearest_93 : decode cX12_dearest 93 = .ok (.iload_n 2, 1) := zdc_797.2.2.2.2.2.1
theorem dX12_dearest_94 : decode cX12_dearest 94 = .ok (.ifCond .eq 8, 3) := zdc_797.2.2.2.2.2.2.1
theorem dX12_dearest_97 : decode cX12_dearest 97 = .ok (.iload 4, 2) := zdc_797.2.2.2.2.2.2.2.1
theorem dX12_dearest_99 : decode cX12_dearest 99 = .ok (.goto 4, 3) := zdc_797.2.2.2.2.2.2.2.2.1
theorem dX12_dearest_102 : decode cX12_dearest 102 = .ok (.iload_n 3, 1) := zdc_797.2.2.2.2.2.2.2.2.2
theorem zdc_798 : decode cX12_dearest 103 = .ok (.ireturn, 1) ∧ decode cX12_falls 0 = .ok (.aload_n 0, 1) ∧ decode cX12_falls 1 = .ok (.iload_n 1, 1) ∧ decode cX12_falls 2 = .ok (.iconst 0, 1) ∧ decode cX12_falls 3 = .ok (.bipush 100, 2) ∧ decode cX12_falls 5 = .ok (.invokestatic 42, 3) ∧ decode cX12_falls 8 = .ok (.ifCond .ne 7, 3) ∧ decode cX12_falls 11 = .ok (.iconst 1, 1) ∧ decode cX12_falls 12 = .ok (.goto 4, 3) ∧ decode cX12_falls 15 = .ok (.iconst 0, 1) := by decide +kernel
theorem dX12_dearest_103 : decode cX12_dearest 103 = .ok (.ireturn, 1) := zdc_798.1
theorem dX12_falls_0 : decode cX12_falls 0 = .ok (.aload_n 0, 1) := zdc_798.2.1
theorem dX12_falls_1 : decode cX12_falls 1 = .ok (.iload_n 1, 1) := zdc_798.2.2.1
theorem dX12_falls_2 : decode cX12_falls 2 = .ok (.iconst 0, 1) := zdc_798.2.2.2.1
theorem dX12_falls_3 : decode cX12_falls 3 = .ok (.bipush 100, 2) := zdc_798.2.2.2.2.1
theorem dX12_falls_5 : decode cX12_falls 5 = .ok (.invokestatic 42, 3) := zdc_798.2.2.2.2.2.1
theorem dX12_falls_8 : decode cX12_falls 8 = .ok (.ifCond .ne 7, 3) := zdc_798.2.2.2.2.2.2.1
theorem dX12_falls_11 : decode cX12_falls 11 = .ok (.iconst 1, 1) := zdc_798.2.2.2.2.2.2.2.1
theorem dX12_falls_12 : decode cX12_falls 12 = .ok (.goto 4, 3) := zdc_798.2.2.2.2.2.2.2.2.1
theorem dX12_falls_15 : decode cX12_falls 15 = .ok (.iconst 0, 1) := zdc_798.2.2.2.2.2.2.2.2.2
theorem zdc_799 : decode cX12_falls 16 = .ok (.putfield 39, 3) ∧ decode cX12_falls 19 = .ok (.aload_n 0, 1) ∧ decode cX12_falls 20 = .ok (.getfield 39, 3) ∧ decode cX12_falls 23 = .ok (.ifCond .le 5, 3) ∧ decode cX12_falls 26 = .ok (.iconst 0, 1) ∧ decode cX12_falls 27 = .ok (.ireturn, 1) ∧ decode cX12_falls 28 = .ok (.aload_n 0, 1) ∧ decode cX12_falls 29 = .ok (.iconst 2, 1) ∧ decode cX12_falls 30 = .ok (.invokevirtual 242, 3) ∧ decode cX12_falls 33 = .ok (.istore_n 2, 1) := by decide +kernel
theorem dX12_falls_16 : decode cX12_falls 16 = .ok (.putfield 39, 3) := zdc_799.1
theorem dX12_falls_19 : decode cX12_falls 19 = .ok (.aload_n 0, 1) := zdc_799.2.1
theorem dX12_falls_20 : decode cX12_falls 20 = .ok (.getfield 39, 3) := zdc_799.2.2.1
theorem dX12_falls_23 : decode cX12_falls 23 = .ok (.ifCond .le 5, 3) := zdc_799.2.2.2.1
theorem dX12_falls_26 : decode cX12_falls 26 = .ok (.iconst 0, 1) := zdc_799.2.2.2.2.1
theorem dX12_falls_27 : decode cX12_falls 27 = .ok (.ireturn, 1) := zdc_799.2.2.2.2.2.1
theorem dX12_falls_28 : decode cX12_falls 28 = .ok (.aload_n 0, 1) := zdc_799.2.2.2.2.2.2.1
theorem dX12_falls_29 : decode cX12_falls 29 = .ok (.iconst 2, 1) := zdc_799.2.2.2.2.2.2.2.1
theorem dX12_falls_30 : decode cX12_falls 30 = .ok (.invokevirtual 242, 3) := zdc_799.2.2.2.2.2.2.2.2.1
theorem dX12_falls_33 : decode cX12_falls 33 = .ok (.istore_n 2, 1) := zdc_799.2.2.2.2.2.2.2.2.2
theorem zdc_800 : decode cX12_falls 34 = .ok (.aload_n 0, 1) ∧ decode cX12_falls 35 = .ok (.invokevirtual 174, 3) ∧ decode cX12_falls 38 = .ok (.aload_n 0, 1) ∧ decode cX12_falls 39 = .ok (.iload_n 1, 1) ∧ decode cX12_falls 40 = .ok (.iconst 0, 1) ∧ decode cX12_falls 41 = .ok (.invokevirtual 292, 3) ∧ decode cX12_falls 44 = .ok (.istore_n 3, 1) ∧ decode cX12_falls 45 = .ok (.aload_n 0, 1) ∧ decode cX12_falls 46 = .ok (.iconst 2, 1) ∧ decode cX12_falls 47 = .ok (.invokevirtual 242, 3) := by decide +kernel
theorem dX12_falls_34 : decode cX12_falls 34 = .ok (.aload_n 0, 1) := zdc_800.1
theorem dX12_falls_35 : decode cX12_falls 35 = .ok (.invokevirtual 174, 3) := zdc_800.2.1
theorem dX12_falls_38 : decode cX12_falls 38 = .ok (.aload_n 0, 1) := zdc_800.2.2.1
theorem dX12_falls_39 : decode cX12_falls 39 = .ok (.iload_n 1, 1) := zdc_800.2.2.2.1
theorem dX12_falls_40 : decode cX12_falls 40 = .ok (.iconst 0, 1) := zdc_800.2.2.2.2.1
theorem dX12_falls_41 : decode cX12_falls 41 = .ok (.invokevirtual 292, 3) := zdc_800.2.2.2.2.2.1
theorem dX12_falls_44 : decode cX12_falls 44 = .ok (.istore_n 3, 1) := zdc_800.2.2.2.2.2.2.1
theorem dX12_falls_45 : decode cX12_falls 45 = .ok (.aload_n 0, 1) := zdc_800.2.2.2.2.2.2.2.1
theorem dX12_falls_46 : decode cX12_falls 46 = .ok (.iconst 2, 1) := zdc_800.2.2.2.2.2.2.2.2.1
theorem dX12_falls_47 : decode cX12_falls 47 = .ok (.invokevirtual 242, 3) := zdc_800.2.2.2.2.2.2.2.2.2
theorem zdc_801 : decode cX12_falls 50 = .ok (.iload_n 2, 1) ∧ decode cX12_falls 51 = .ok (.iconst (-1), 1) ∧ decode cX12_falls 52 = .ok (.ixor, 1) ∧ decode cX12_falls 53 = .ok (.iand, 1) ∧ decode cX12_falls 54 = .ok (.istore 4, 2) ∧ decode cX12_falls 56 = .ok (.aload_n 0, 1) ∧ decode cX12_falls 57 = .ok (.invokevirtual 184, 3) ∧ decode cX12_falls 60 = .ok (.iload 4, 2) ∧ decode cX12_falls 62 = .ok (.ireturn, 1) ∧ decode cX12_last 0 = .ok (.aload_n 0, 1) := by decide +kernel
theorem dX12_falls_50 : decode cX12_falls 50 = .ok (.iload_n 2, 1) := zdc_801.1
theorem dX12_falls_51 : decode cX12_falls 51 = .ok (.iconst (-1), 1) := zdc_801.2.1
theorem dX12_falls_52 : decode cX12_falls 52 = .ok (.ixor, 1) := zdc_801.2.2.1
theorem dX12_falls_53 : decode cX12_falls 53 = .ok (.iand, 1) := zdc_801.2.2.2.1
theorem dX12_falls_54 : decode cX12_falls 54 = .ok (.istore 4, 2) := zdc_801.2.2.2.2.1
theorem dX12_falls_56 : decode cX12_falls 56 = .ok (.aload_n 0, 1) := zdc_801.2.2.2.2.2.1
theorem dX12_falls_57 : decode cX12_falls 57 = .ok (.invokevirtual 184, 3) := zdc_801.2.2.2.2.2.2.1
theorem dX12_falls_60 : decode cX12_falls 60 = .ok (.iload 4, 2) := zdc_801.2.2.2.2.2.2.2.1
theorem dX12_falls_62 : decode cX12_falls 62 = .ok (.ireturn, 1) := zdc_801.2.2.2.2.2.2.2.2.1
theorem dX12_last_0 : decode cX12_last 0 = .ok (.aload_n 0, 1) := zdc_801.2.2.2.2.2.2.2.2.2
theorem zdc_802 : decode cX12_last 1 = .ok (.aload_n 0, 1) ∧ decode cX12_last 2 = .ok (.iload_n 1, 1) ∧ decode cX12_last 3 = .ok (.invokevirtual 286, 3) ∧ decode cX12_last 6 = .ok (.ifCond .ne 7, 3) ∧ decode cX12_last 9 = .ok (.iconst 1, 1) ∧ decode cX12_last 10 = .ok (.goto 4, 3) ∧ decode cX12_last 13 = .ok (.iconst 0, 1) ∧ decode cX12_last 14 = .ok (.putfield 39, 3) ∧ decode cX12_last 17 = .ok (.aload_n 0, 1) ∧ decode cX12_last 18 = .ok (.getfield 39, 3) := by decide +kernel
theorem dX12_last_1 : decode cX12_last 1 = .ok (.aload_n 0, 1) := zdc_802.1
theorem dX12_last_2 : decode cX12_last 2 = .ok (.iload_n 1, 1) := zdc_802.2.1
theorem dX12_last_3 : decode cX12_last 3 = .ok (.invokevirtual 286, 3) := zdc_802.2.2.1
theorem dX12_last_6 : decode cX12_last 6 = .ok (.ifCond .ne 7, 3) := zdc_802.2.2.2.1
theorem dX12_last_9 : decode cX12_last 9 = .ok (.iconst 1, 1) := zdc_802.2.2.2.2.1
theorem dX12_last_10 : decode cX12_last 10 = .ok (.goto 4, 3) := zdc_802.2.2.2.2.2.1
theorem dX12_last_13 : decode cX12_last 13 = .ok (.iconst 0, 1) := zdc_802.2.2.2.2.2.2.1
theorem dX12_last_14 : decode cX12_last 14 = .ok (.putfield 39, 3) := zdc_802.2.2.2.2.2.2.2.1
theorem dX12_last_17 : decode cX12_last 17 = .ok (.aload_n 0, 1) := zdc_802.2.2.2.2.2.2.2.2.1
theorem dX12_last_18 : decode cX12_last 18 = .ok (.getfield 39, 3) := zdc_802.2.2.2.2.2.2.2.2.2
theorem zdc_803 : decode cX12_last 21 = .ok (.ifCond .le 5, 3) ∧ decode cX12_last 24 = .ok (.iconst 0, 1) ∧ decode cX12_last 25 = .ok (.ireturn, 1) ∧ decode cX12_last 26 = .ok (.aload_n 0, 1) ∧ decode cX12_last 27 = .ok (.invokevirtual 174, 3) ∧ decode cX12_last 30 = .ok (.iconst (-1), 1) ∧ decode cX12_last 31 = .ok (.istore_n 2, 1) ∧ decode cX12_last 32 = .ok (.iconst 0, 1) ∧ decode cX12_last 33 = .ok (.istore_n 3, 1) ∧ decode cX12_last 34 = .ok (.iload_n 3, 1) := by decide +kernel
theorem dX12_last_21 : decode cX12_last 21 = .ok (.ifCond .le 5, 3) := zdc_803.1
theorem dX12_last_24 : decode cX12_last 24 = .ok (.iconst 0, 1) := zdc_803.2.1
theorem dX12_last_25 : decode cX12_last 25 = .ok (.ireturn, 1) := zdc_803.2.2.1
theorem dX12_last_26 : decode cX12_last 26 = .ok (.aload_n 0, 1) := zdc_803.2.2.2.1
theorem dX12_last_27 : decode cX12_last 27 = .ok (.invokevirtual 174, 3) := zdc_803.2.2.2.2.1
theorem dX12_last_30 : decode cX12_last 30 = .ok (.iconst (-1), 1) := zdc_803.2.2.2.2.2.1
theorem dX12_last_31 : decode cX12_last 31 = .ok (.istore_n 2, 1) := zdc_803.2.2.2.2.2.2.1
theorem dX12_last_32 : decode cX12_last 32 = .ok (.iconst 0, 1) := zdc_803.2.2.2.2.2.2.2.1
theorem dX12_last_33 : decode cX12_last 33 = .ok (.istore_n 3, 1) := zdc_803.2.2.2.2.2.2.2.2.1
theorem dX12_last_34 : decode cX12_last 34 = .ok (.iload_n 3, 1) := zdc_803.2.2.2.2.2.2.2.2.2
theorem zdc_804 : decode cX12_last 35 = .ok (.bipush 100, 2) ∧ decode cX12_last 37 = .ok (.if_icmp .gt 34, 3) ∧ decode cX12_last 40 = .ok (.iload_n 2, 1) ∧ decode cX12_last 41 = .ok (.iconst (-1), 1) ∧ decode cX12_last 42 = .ok (.if_icmp .ne 29, 3) ∧ decode cX12_last 45 = .ok (.aload_n 0, 1) ∧ decode cX12_last 46 = .ok (.iload_n 1, 1) ∧ decode cX12_last 47 = .ok (.iconst 3, 1) ∧ decode cX12_last 48 = .ok (.invokevirtual 68, 3) ∧ decode cX12_last 51 = .ok (.iconst 2, 1) := by decide +kernel
theorem dX12_last_35 : decode cX12_last 35 = .ok (.bipush 100, 2) := zdc_804.1
theorem dX12_last_37 : decode cX12_last 37 = .ok (.if_icmp .gt 34, 3) := zdc_804.2.1
theorem dX12_last_40 : decode cX12_last 40 = .ok (.iload_n 2, 1) := zdc_804.2.2.1
theorem dX12_last_41 : decode cX12_last 41 = .ok (.iconst (-1), 1) := zdc_804.2.2.2.1
theorem dX12_last_42 : decode cX12_last 42 = .ok (.if_icmp .ne 29, 3) := zdc_804.2.2.2.2.1
theorem dX12_last_45 : decode cX12_last 45 = .ok (.aload_n 0, 1) := zdc_804.2.2.2.2.2.1
theorem dX12_last_46 : decode cX12_last 46 = .ok (.iload_n 1, 1) := zdc_804.2.2.2.2.2.2.1
theorem dX12_last_47 : decode cX12_last 47 = .ok (.iconst 3, 1) := zdc_804.2.2.2.2.2.2.2.1
theorem dX12_last_48 : decode cX12_last 48 = .ok (.invokevirtual 68, 3) := zdc_804.2.2.2.2.2.2.2.2.1
theorem dX12_last_51 : decode cX12_last 51 = .ok (.iconst 2, 1) := zdc_804.2.2.2.2.2.2.2.2.2
theorem zdc_805 : decode cX12_last 52 = .ok (.if_icmp .ne 5, 3) ∧ decode cX12_last 55 = .ok (.iload_n 3, 1) ∧ decode cX12_last 56 = .ok (.istore_n 2, 1) ∧ decode cX12_last 57 = .ok (.aload_n 0, 1) ∧ decode cX12_last 58 = .ok (.iconst 1, 1) ∧ decode cX12_last 59 = .ok (.iconst 0, 1) ∧ decode cX12_last 60 = .ok (.invokevirtual 292, 3) ∧ decode cX12_last 63 = .ok (.istore 4, 2) ∧ decode cX12_last 65 = .ok (.iinc 3 1, 3) ∧ decode cX12_last 68 = .ok (.goto (-34), 3) := by decide +kernel
theorem dX12_last_52 : decode cX12_last 52 = .ok (.if_icmp .ne 5, 3) := zdc_805.1
theorem dX12_last_55 : decode cX12_last 55 = .ok (.iload_n 3, 1) := zdc_805.2.1
theorem dX12_last_56 : decode cX12_last 56 = .ok (.istore_n 2, 1) := zdc_805.2.2.1
theorem dX12_last_57 : decode cX12_last 57 = .ok (.aload_n 0, 1) := zdc_805.2.2.2.1
theorem dX12_last_58 : decode cX12_last 58 = .ok (.iconst 1, 1) := zdc_805.2.2.2.2.1
theorem dX12_last_59 : decode cX12_last 59 = .ok (.iconst 0, 1) := zdc_805.2.2.2.2.2.1
theorem dX12_last_60 : decode cX12_last 60 = .ok (.invokevirtual 292, 3) := zdc_805.2.2.2.2.2.2.1
theorem dX12_last_63 : decode cX12_last 63 = .ok (.istore 4, 2) := zdc_805.2.2.2.2.2.2.2.1
theorem dX12_last_65 : decode cX12_last 65 = .ok (.iinc 3 1, 3) := zdc_805.2.2.2.2.2.2.2.2.1
theorem dX12_last_68 : decode cX12_last 68 = .ok (.goto (-34), 3) := zdc_805.2.2.2.2.2.2.2.2.2
theorem zdc_806 : decode cX12_last 71 = .ok (.aload_n 0, 1) ∧ decode cX12_last 72 = .ok (.invokevirtual 184, 3) ∧ decode cX12_last 75 = .ok (.iload_n 2, 1) ∧ decode cX12_last 76 = .ok (.ireturn, 1) ∧ decode cX12_sumOf 0 = .ok (.iconst 0, 1) ∧ decode cX12_sumOf 1 = .ok (.istore_n 3, 1) ∧ decode cX12_sumOf 2 = .ok (.iconst 0, 1) ∧ decode cX12_sumOf 3 = .ok (.istore 4, 2) ∧ decode cX12_sumOf 5 = .ok (.iload 4, 2) ∧ decode cX12_sumOf 7 = .ok (.aload_n 0, 1) := by decide +kernel
theorem dX12_last_71 : decode cX12_last 71 = .ok (.aload_n 0, 1) := zdc_806.1
theorem dX12_last_72 : decode cX12_last 72 = .ok (.invokevirtual 184, 3) := zdc_806.2.1
theorem dX12_last_75 : decode cX12_last 75 = .ok (.iload_n 2, 1) := zdc_806.2.2.1
theorem dX12_last_76 : decode cX12_last 76 = .ok (.ireturn, 1) := zdc_806.2.2.2.1
theorem dX12_sumOf_0 : decode cX12_sumOf 0 = .ok (.iconst 0, 1) := zdc_806.2.2.2.2.1
theorem dX12_sumOf_1 : decode cX12_sumOf 1 = .ok (.istore_n 3, 1) := zdc_806.2.2.2.2.2.1
theorem dX12_sumOf_2 : decode cX12_sumOf 2 = .ok (.iconst 0, 1) := zdc_806.2.2.2.2.2.2.1
theorem dX12_sumOf_3 : decode cX12_sumOf 3 = .ok (.istore 4, 2) := zdc_806.2.2.2.2.2.2.2.1
theorem dX12_sumOf_5 : decode cX12_sumOf 5 = .ok (.iload 4, 2) := zdc_806.2.2.2.2.2.2.2.2.1
theorem dX12_sumOf_7 : decode cX12_sumOf 7 = .ok (.aload_n 0, 1) := zdc_806.2.2.2.2.2.2.2.2.2
theorem zdc_807 : decode cX12_sumOf 8 = .ok (.getfield 7, 3) ∧ decode cX12_sumOf 11 = .ok (.iconst 4, 1) ∧ decode cX12_sumOf 12 = .ok (.iaload, 1) ∧ decode cX12_sumOf 13 = .ok (.if_icmp .ge 32, 3) ∧ decode cX12_sumOf 16 = .ok (.iload_n 3, 1) ∧ decode cX12_sumOf 17 = .ok (.iload_n 1, 1) ∧ decode cX12_sumOf 18 = .ok (.iload 4, 2) ∧ decode cX12_sumOf 20 = .ok (.invokestatic 296, 3) ∧ decode cX12_sumOf 23 = .ok (.ifCond .eq 13, 3) ∧ decode cX12_sumOf 26 = .ok (.aload_n 0, 1) := by decide +kernel
theorem dX12_sumOf_8 : decode cX12_sumOf 8 = .ok (.getfield 7, 3) := zdc_807.1
theorem dX12_sumOf_11 : decode cX12_sumOf 11 = .ok (.iconst 4, 1) := zdc_807.2.1
theorem dX12_sumOf_12 : decode cX12_sumOf 12 = .ok (.iaload, 1) := zdc_807.2.2.1
theorem dX12_sumOf_13 : decode cX12_sumOf 13 = .ok (.if_icmp .ge 32, 3) := zdc_807.2.2.2.1
theorem dX12_sumOf_16 : decode cX12_sumOf 16 = .ok (.iload_n 3, 1) := zdc_807.2.2.2.2.1
theorem dX12_sumOf_17 : decode cX12_sumOf 17 = .ok (.iload_n 1, 1) := zdc_807.2.2.2.2.2.1
theorem dX12_sumOf_18 : decode cX12_sumOf 18 = .ok (.iload 4, 2) := zdc_807.2.2.2.2.2.2.1
theorem dX12_sumOf_20 : decode cX12_sumOf 20 = .ok (.invokestatic 296, 3) := zdc_807.2.2.2.2.2.2.2.1
theorem dX12_sumOf_23 : decode cX12_sumOf 23 = .ok (.ifCond .eq 13, 3) := zdc_807.2.2.2.2.2.2.2.2.1
theorem dX12_sumOf_26 : decode cX12_sumOf 26 = .ok (.aload_n 0, 1) := zdc_807.2.2.2.2.2.2.2.2.2
theorem zdc_808 : decode cX12_sumOf 27 = .ok (.iload 4, 2) ∧ decode cX12_sumOf 29 = .ok (.iload_n 2, 1) ∧ decode cX12_sumOf 30 = .ok (.invokevirtual 68, 3) ∧ decode cX12_sumOf 33 = .ok (.goto 4, 3) ∧ decode cX12_sumOf 36 = .ok (.iconst 0, 1) ∧ decode cX12_sumOf 37 = .ok (.iadd, 1) ∧ decode cX12_sumOf 38 = .ok (.istore_n 3, 1) ∧ decode cX12_sumOf 39 = .ok (.iinc 4 1, 3) ∧ decode cX12_sumOf 42 = .ok (.goto (-37), 3) ∧ decode cX12_sumOf 45 = .ok (.iload_n 3, 1) := by decide +kernel
theorem dX12_sumOf_27 : decode cX12_sumOf 27 = .ok (.iload 4, 2) := zdc_808.1
theorem dX12_sumOf_29 : decode cX12_sumOf 29 = .ok (.iload_n 2, 1) := zdc_808.2.1
theorem dX12_sumOf_30 : decode cX12_sumOf 30 = .ok (.invokevirtual 68, 3) := zdc_808.2.2.1
theorem dX12_sumOf_33 : decode cX12_sumOf 33 = .ok (.goto 4, 3) := zdc_808.2.2.2.1
theorem dX12_sumOf_36 : decode cX12_sumOf 36 = .ok (.iconst 0, 1) := zdc_808.2.2.2.2.1
theorem dX12_sumOf_37 : decode cX12_sumOf 37 = .ok (.iadd, 1) := zdc_808.2.2.2.2.2.1
theorem dX12_sumOf_38 : decode cX12_sumOf 38 = .ok (.istore_n 3, 1) := zdc_808.2.2.2.2.2.2.1
theorem dX12_sumOf_39 : decode cX12_sumOf 39 = .ok (.iinc 4 1, 3) := zdc_808.2.2.2.2.2.2.2.1
theorem dX12_sumOf_42 : decode cX12_sumOf 42 = .ok (.goto (-37), 3) := zdc_808.2.2.2.2.2.2.2.2.1
theorem dX12_sumOf_45 : decode cX12_sumOf 45 = .ok (.iload_n 3, 1) := zdc_808.2.2.2.2.2.2.2.2.2
theorem zdc_809 : decode cX12_sumOf 46 = .ok (.ireturn, 1) ∧ decode cX12_chosen 0 = .ok (.aload_n 0, 1) ∧ decode cX12_chosen 1 = .ok (.iconst 0, 1) ∧ decode cX12_chosen 2 = .ok (.putfield 39, 3) ∧ decode cX12_chosen 5 = .ok (.iconst 0, 1) ∧ decode cX12_chosen 6 = .ok (.istore_n 2, 1) ∧ decode cX12_chosen 7 = .ok (.iconst 0, 1) ∧ decode cX12_chosen 8 = .ok (.istore_n 3, 1) ∧ decode cX12_chosen 9 = .ok (.iload_n 3, 1) ∧ decode cX12_chosen 10 = .ok (.aload_n 0, 1) := by decide +kernel
theorem dX12_sumOf_46 : decode cX12_sumOf 46 = .ok (.ireturn, 1) := zdc_809.1
theorem dX12_chosen_0 : decode cX12_chosen 0 = .ok (.aload_n 0, 1) := zdc_809.2.1
theorem dX12_chosen_1 : decode cX12_chosen 1 = .ok (.iconst 0, 1) := zdc_809.2.2.1
theorem dX12_chosen_2 : decode cX12_chosen 2 = .ok (.putfield 39, 3) := zdc_809.2.2.2.1
theorem dX12_chosen_5 : decode cX12_chosen 5 = .ok (.iconst 0, 1) := zdc_809.2.2.2.2.1
theorem dX12_chosen_6 : decode cX12_chosen 6 = .ok (.istore_n 2, 1) := zdc_809.2.2.2.2.2.1
theorem dX12_chosen_7 : decode cX12_chosen 7 = .ok (.iconst 0, 1) := zdc_809.2.2.2.2.2.2.1
theorem dX12_chosen_8 : decode cX12_chosen 8 = .ok (.istore_n 3, 1) := zdc_809.2.2.2.2.2.2.2.1
theorem dX12_chosen_9 : decode cX12_chosen 9 = .ok (.iload_n 3, 1) := zdc_809.2.2.2.2.2.2.2.2.1
theorem dX12_chosen_10 : decode cX12_chosen 10 = .ok (.aload_n 0, 1) := zdc_809.2.2.2.2.2.2.2.2.2
theorem zdc_810 : decode cX12_chosen 11 = .ok (.getfield 7, 3) ∧ decode cX12_chosen 14 = .ok (.iconst 4, 1) ∧ decode cX12_chosen 15 = .ok (.iaload, 1) ∧ decode cX12_chosen 16 = .ok (.if_icmp .ge 41, 3) ∧ decode cX12_chosen 19 = .ok (.iload_n 2, 1) ∧ decode cX12_chosen 20 = .ok (.aload_n 0, 1) ∧ decode cX12_chosen 21 = .ok (.iload_n 3, 1) ∧ decode cX12_chosen 22 = .ok (.iconst 3, 1) ∧ decode cX12_chosen 23 = .ok (.invokevirtual 68, 3) ∧ decode cX12_chosen 26 = .ok (.ifCond .ne 22, 3) := by decide +kernel
theorem dX12_chosen_11 : decode cX12_chosen 11 = .ok (.getfield 7, 3) := zdc_810.1
theorem dX12_chosen_14 : decode cX12_chosen 14 = .ok (.iconst 4, 1) := zdc_810.2.1
theorem dX12_chosen_15 : decode cX12_chosen 15 = .ok (.iaload, 1) := zdc_810.2.2.1
theorem dX12_chosen_16 : decode cX12_chosen 16 = .ok (.if_icmp .ge 41, 3) := zdc_810.2.2.2.1
theorem dX12_chosen_19 : decode cX12_chosen 19 = .ok (.iload_n 2, 1) := zdc_810.2.2.2.2.1
theorem dX12_chosen_20 : decode cX12_chosen 20 = .ok (.aload_n 0, 1) := zdc_810.2.2.2.2.2.1
theorem dX12_chosen_21 : decode cX12_chosen 21 = .ok (.iload_n 3, 1) := zdc_810.2.2.2.2.2.2.1
theorem dX12_chosen_22 : decode cX12_chosen 22 = .ok (.iconst 3, 1) := zdc_810.2.2.2.2.2.2.2.1
theorem dX12_chosen_23 : decode cX12_chosen 23 = .ok (.invokevirtual 68, 3) := zdc_810.2.2.2.2.2.2.2.2.1
theorem dX12_chosen_26 : decode cX12_chosen 26 = .ok (.ifCond .ne 22, 3) := zdc_810.2.2.2.2.2.2.2.2.2
theorem zdc_811 : decode cX12_chosen 29 = .ok (.aload_n 0, 1) ∧ decode cX12_chosen 30 = .ok (.iload_n 3, 1) ∧ decode cX12_chosen 31 = .ok (.iconst 1, 1) ∧ decode cX12_chosen 32 = .ok (.invokevirtual 68, 3) ∧ decode cX12_chosen 35 = .ok (.aload_n 0, 1) ∧ decode cX12_chosen 36 = .ok (.invokevirtual 62, 3) ∧ decode cX12_chosen 39 = .ok (.if_icmp .gt 9, 3) ∧ decode cX12_chosen 42 = .ok (.iconst 1, 1) ∧ decode cX12_chosen 43 = .ok (.iload_n 3, 1) ∧ decode cX12_chosen 44 = .ok (.ishl, 1) := by decide +kernel
theorem dX12_chosen_29 : decode cX12_chosen 29 = .ok (.aload_n 0, 1) := zdc_811.1
theorem dX12_chosen_30 : decode cX12_chosen 30 = .ok (.iload_n 3, 1) := zdc_811.2.1
theorem dX12_chosen_31 : decode cX12_chosen 31 = .ok (.iconst 1, 1) := zdc_811.2.2.1
theorem dX12_chosen_32 : decode cX12_chosen 32 = .ok (.invokevirtual 68, 3) := zdc_811.2.2.2.1
theorem dX12_chosen_35 : decode cX12_chosen 35 = .ok (.aload_n 0, 1) := zdc_811.2.2.2.2.1
theorem dX12_chosen_36 : decode cX12_chosen 36 = .ok (.invokevirtual 62, 3) := zdc_811.2.2.2.2.2.1
theorem dX12_chosen_39 : decode cX12_chosen 39 = .ok (.if_icmp .gt 9, 3) := zdc_811.2.2.2.2.2.2.1
theorem dX12_chosen_42 : decode cX12_chosen 42 = .ok (.iconst 1, 1) := zdc_811.2.2.2.2.2.2.2.1
theorem dX12_chosen_43 : decode cX12_chosen 43 = .ok (.iload_n 3, 1) := zdc_811.2.2.2.2.2.2.2.2.1
theorem dX12_chosen_44 : decode cX12_chosen 44 = .ok (.ishl, 1) := zdc_811.2.2.2.2.2.2.2.2.2
theorem zdc_812 : decode cX12_chosen 45 = .ok (.goto 4, 3) ∧ decode cX12_chosen 48 = .ok (.iconst 0, 1) ∧ decode cX12_chosen 49 = .ok (.ior, 1) ∧ decode cX12_chosen 50 = .ok (.istore_n 2, 1) ∧ decode cX12_chosen 51 = .ok (.iinc 3 1, 3) ∧ decode cX12_chosen 54 = .ok (.goto (-45), 3) ∧ decode cX12_chosen 57 = .ok (.iconst 0, 1) ∧ decode cX12_chosen 58 = .ok (.istore_n 3, 1) ∧ decode cX12_chosen 59 = .ok (.iconst 0, 1) ∧ decode cX12_chosen 60 = .ok (.istore 4, 2) := by decide +kernel
theorem dX12_chosen_45 : decode cX12_chosen 45 = .ok (.goto 4, 3) := zdc_812.1
theorem dX12_chosen_48 : decode cX12_chosen 48 = .ok (.iconst 0, 1) := zdc_812.2.1
theorem dX12_chosen_49 : decode cX12_chosen 49 = .ok (.ior, 1) := zdc_812.2.2.1
theorem dX12_chosen_50 : decode cX12_chosen 50 = .ok (.istore_n 2, 1) := zdc_812.2.2.2.1
theorem dX12_chosen_51 : decode cX12_chosen 51 = .ok (.iinc 3 1, 3) := zdc_812.2.2.2.2.1
theorem dX12_chosen_54 : decode cX12_chosen 54 = .ok (.goto (-45), 3) := zdc_812.2.2.2.2.2.1
theorem dX12_chosen_57 : decode cX12_chosen 57 = .ok (.iconst 0, 1) := zdc_812.2.2.2.2.2.2.1
theorem dX12_chosen_58 : decode cX12_chosen 58 = .ok (.istore_n 3, 1) := zdc_812.2.2.2.2.2.2.2.1
theorem dX12_chosen_59 : decode cX12_chosen 59 = .ok (.iconst 0, 1) := zdc_812.2.2.2.2.2.2.2.2.1
theorem dX12_chosen_60 : decode cX12_chosen 60 = .ok (.istore 4, 2) := zdc_812.2.2.2.2.2.2.2.2.2
theorem zdc_813 : decode cX12_chosen 62 = .ok (.iload 4, 2) ∧ decode cX12_chosen 64 = .ok (.iconst 1, 1) ∧ decode cX12_chosen 65 = .ok (.aload_n 0, 1) ∧ decode cX12_chosen 66 = .ok (.getfield 7, 3) ∧ decode cX12_chosen 69 = .ok (.iconst 4, 1) ∧ decode cX12_chosen 70 = .ok (.iaload, 1) ∧ decode cX12_chosen 71 = .ok (.ishl, 1) ∧ decode cX12_chosen 72 = .ok (.if_icmp .ge 53, 3) ∧ decode cX12_chosen 75 = .ok (.iload 4, 2) ∧ decode cX12_chosen 77 = .ok (.iload_n 2, 1) := by decide +kernel
theorem dX12_chosen_62 : decode cX12_chosen 62 = .ok (.iload 4, 2) := zdc_813.1
theorem dX12_chosen_64 : decode cX12_chosen 64 = .ok (.iconst 1, 1) := zdc_813.2.1
theorem dX12_chosen_65 : decode cX12_chosen 65 = .ok (.aload_n 0, 1) := zdc_813.2.2.1
theorem dX12_chosen_66 : decode cX12_chosen 66 = .ok (.getfield 7, 3) := zdc_813.2.2.2.1
theorem dX12_chosen_69 : decode cX12_chosen 69 = .ok (.iconst 4, 1) := zdc_813.2.2.2.2.1
theorem dX12_chosen_70 : decode cX12_chosen 70 = .ok (.iaload, 1) := zdc_813.2.2.2.2.2.1
theorem dX12_chosen_71 : decode cX12_chosen 71 = .ok (.ishl, 1) := zdc_813.2.2.2.2.2.2.1
theorem dX12_chosen_72 : decode cX12_chosen 72 = .ok (.if_icmp .ge 53, 3) := zdc_813.2.2.2.2.2.2.2.1
theorem dX12_chosen_75 : decode cX12_chosen 75 = .ok (.iload 4, 2) := zdc_813.2.2.2.2.2.2.2.2.1
theorem dX12_chosen_77 : decode cX12_chosen 77 = .ok (.iload_n 2, 1) := zdc_813.2.2.2.2.2.2.2.2.2
theorem zdc_814 : decode cX12_chosen 78 = .ok (.iconst (-1), 1) ∧ decode cX12_chosen 79 = .ok (.ixor, 1) ∧ decode cX12_chosen 80 = .ok (.iand, 1) ∧ decode cX12_chosen 81 = .ok (.ifCond .ne 38, 3) ∧ decode cX12_chosen 84 = .ok (.aload_n 0, 1) ∧ decode cX12_chosen 85 = .ok (.iload 4, 2) ∧ decode cX12_chosen 87 = .ok (.iconst 0, 1) ∧ decode cX12_chosen 88 = .ok (.invokevirtual 307, 3) ∧ decode cX12_chosen 91 = .ok (.aload_n 0, 1) ∧ decode cX12_chosen 92 = .ok (.getfield 7, 3) := by decide +kernel
theorem dX12_chosen_78 : decode cX12_chosen 78 = .ok (.iconst (-1), 1) := zdc_814.1
theorem dX12_chosen_79 : decode cX12_chosen 79 = .ok (.ixor, 1) := zdc_814.2.1
theorem dX12_chosen_80 : decode cX12_chosen 80 = .ok (.iand, 1) := zdc_814.2.2.1
theorem dX12_chosen_81 : decode cX12_chosen 81 = .ok (.ifCond .ne 38, 3) := zdc_814.2.2.2.1
theorem dX12_chosen_84 : decode cX12_chosen 84 = .ok (.aload_n 0, 1) := zdc_814.2.2.2.2.1
theorem dX12_chosen_85 : decode cX12_chosen 85 = .ok (.iload 4, 2) := zdc_814.2.2.2.2.2.1
theorem dX12_chosen_87 : decode cX12_chosen 87 = .ok (.iconst 0, 1) := zdc_814.2.2.2.2.2.2.1
theorem dX12_chosen_88 : decode cX12_chosen 88 = .ok (.invokevirtual 307, 3) := zdc_814.2.2.2.2.2.2.2.1
theorem dX12_chosen_91 : decode cX12_chosen 91 = .ok (.aload_n 0, 1) := zdc_814.2.2.2.2.2.2.2.2.1
theorem dX12_chosen_92 : decode cX12_chosen 92 = .ok (.getfield 7, 3) := zdc_814.2.2.2.2.2.2.2.2.2
theorem zdc_815 : decode cX12_chosen 95 = .ok (.iconst 5, 1) ∧ decode cX12_chosen 96 = .ok (.iaload, 1) ∧ decode cX12_chosen 97 = .ok (.if_icmp .gt 22, 3) ∧ decode cX12_chosen 100 = .ok (.aload_n 0, 1) ∧ decode cX12_chosen 101 = .ok (.iload 4, 2) ∧ decode cX12_chosen 103 = .ok (.iconst 2, 1) ∧ decode cX12_chosen 104 = .ok (.invokevirtual 307, 3) ∧ decode cX12_chosen 107 = .ok (.aload_n 0, 1) ∧ decode cX12_chosen 108 = .ok (.iload_n 3, 1) ∧ decode cX12_chosen 109 = .ok (.iconst 2, 1) := by decide +kernel
theorem dX12_chosen_95 : decode cX12_chosen 95 = .ok (.iconst 5, 1) := zdc_815.1
theorem dX12_chosen_96 : decode cX12_chosen 96 = .ok (.iaload, 1) := zdc_815.2.1
theorem dX12_chosen_97 : decode cX12_chosen 97 = .ok (.if_icmp .gt 22, 3) := zdc_815.2.2.1
theorem dX12_chosen_100 : decode cX12_chosen 100 = .ok (.aload_n 0, 1) := zdc_815.2.2.2.1
theorem dX12_chosen_101 : decode cX12_chosen 101 = .ok (.iload 4, 2) := zdc_815.2.2.2.2.1
theorem dX12_chosen_103 : decode cX12_chosen 103 = .ok (.iconst 2, 1) := zdc_815.2.2.2.2.2.1
theorem dX12_chosen_104 : decode cX12_chosen 104 = .ok (.invokevirtual 307, 3) := zdc_815.2.2.2.2.2.2.1
theorem dX12_chosen_107 : decode cX12_chosen 107 = .ok (.aload_n 0, 1) := zdc_815.2.2.2.2.2.2.2.1
theorem dX12_chosen_108 : decode cX12_chosen 108 = .ok (.iload_n 3, 1) := zdc_815.2.2.2.2.2.2.2.2.1
theorem dX12_chosen_109 : decode cX12_chosen 109 = .ok (.iconst 2, 1) := zdc_815.2.2.2.2.2.2.2.2.2
theorem zdc_816 : decode cX12_chosen 110 = .ok (.invokevirtual 307, 3) ∧ decode cX12_chosen 113 = .ok (.if_icmp .le 6, 3) ∧ decode cX12_chosen 116 = .ok (.iload 4, 2) ∧ decode cX12_chosen 118 = .ok (.istore_n 3, 1) ∧ decode cX12_chosen 119 = .ok (.iinc 4 1, 3) ∧ decode cX12_chosen 122 = .ok (.goto (-60), 3) ∧ decode cX12_chosen 125 = .ok (.iload_n 1, 1) ∧ decode cX12_chosen 126 = .ok (.ifCond .eq 12, 3) ∧ decode cX12_chosen 129 = .ok (.aload_n 0, 1) ∧ decode cX12_chosen 130 = .ok (.iload_n 3, 1) := by decide +kernel
theorem dX12_chosen_110 : decode cX12_chosen 110 = .ok (.invokevirtual 307, 3) := zdc_816.1
theorem dX12_chosen_113 : decode cX12_chosen 113 = .ok (.if_icmp .le 6, 3) := zdc_816.2.1
theorem dX12_chosen_116 : decode cX12_chosen 116 = .ok (.iload 4, 2) := zdc_816.2.2.1
theorem dX12_chosen_118 : decode cX12_chosen 118 = .ok (.istore_n 3, 1) := zdc_816.2.2.2.1
theorem dX12_chosen_119 : decode cX12_chosen 119 = .ok (.iinc 4 1, 3) := zdc_816.2.2.2.2.1
theorem dX12_chosen_122 : decode cX12_chosen 122 = .ok (.goto (-60), 3) := zdc_816.2.2.2.2.2.1
theorem dX12_chosen_125 : decode cX12_chosen 125 = .ok (.iload_n 1, 1) := zdc_816.2.2.2.2.2.2.1
theorem dX12_chosen_126 : decode cX12_chosen 126 = .ok (.ifCond .eq 12, 3) := zdc_816.2.2.2.2.2.2.2.1
theorem dX12_chosen_129 : decode cX12_chosen 129 = .ok (.aload_n 0, 1) := zdc_816.2.2.2.2.2.2.2.2.1
theorem dX12_chosen_130 : decode cX12_chosen 130 = .ok (.iload_n 3, 1) := zdc_816.2.2.2.2.2.2.2.2.2
theorem zdc_817 : decode cX12_chosen 131 = .ok (.iconst 2, 1) ∧ decode cX12_chosen 132 = .ok (.invokevirtual 307, 3) ∧ decode cX12_chosen 135 = .ok (.goto 4, 3) ∧ decode cX12_chosen 138 = .ok (.iload_n 3, 1) ∧ decode cX12_chosen 139 = .ok (.ireturn, 1) ∧ decode cX12_heard 0 = .ok (.aload_n 0, 1) ∧ decode cX12_heard 1 = .ok (.getfield 74, 3) ∧ decode cX12_heard 4 = .ok (.istore_n 1, 1) ∧ decode cX12_heard 5 = .ok (.aload_n 0, 1) ∧ decode cX12_heard 6 = .ok (.iconst 0, 1) := by decide +kernel
theorem dX12_chosen_131 : decode cX12_chosen 131 = .ok (.iconst 2, 1) := zdc_817.1
theorem dX12_chosen_132 : decode cX12_chosen 132 = .ok (.invokevirtual 307, 3) := zdc_817.2.1
theorem dX12_chosen_135 : decode cX12_chosen 135 = .ok (.goto 4, 3) := zdc_817.2.2.1
theorem dX12_chosen_138 : decode cX12_chosen 138 = .ok (.iload_n 3, 1) := zdc_817.2.2.2.1
theorem dX12_chosen_139 : decode cX12_chosen 139 = .ok (.ireturn, 1) := zdc_817.2.2.2.2.1
theorem dX12_heard_0 : decode cX12_heard 0 = .ok (.aload_n 0, 1) := zdc_817.2.2.2.2.2.1
theorem dX12_heard_1 : decode cX12_heard 1 = .ok (.getfield 74, 3) := zdc_817.2.2.2.2.2.2.1
theorem dX12_heard_4 : decode cX12_heard 4 = .ok (.istore_n 1, 1) := zdc_817.2.2.2.2.2.2.2.1
theorem dX12_heard_5 : decode cX12_heard 5 = .ok (.aload_n 0, 1) := zdc_817.2.2.2.2.2.2.2.2.1
theorem dX12_heard_6 : decode cX12_heard 6 = .ok (.iconst 0, 1) := zdc_817.2.2.2.2.2.2.2.2.2
theorem zdc_818 : decode cX12_heard 7 = .ok (.putfield 74, 3) ∧ decode cX12_heard 10 = .ok (.iconst 0, 1) ∧ decode cX12_heard 11 = .ok (.istore_n 2, 1) ∧ decode cX12_heard 12 = .ok (.iload_n 1, 1) ∧ decode cX12_heard 13 = .ok (.bipush 12, 2) ∧ decode cX12_heard 15 = .ok (.if_icmp .gt 7, 3) ∧ decode cX12_heard 18 = .ok (.iconst 1, 1) ∧ decode cX12_heard 19 = .ok (.goto 4, 3) ∧ decode cX12_heard 22 = .ok (.iconst 0, 1) ∧ decode cX12_heard 23 = .ok (.istore_n 3, 1) := by decide +kernel
theorem dX12_heard_7 : decode cX12_heard 7 = .ok (.putfield 74, 3) := zdc_818.1
theorem dX12_heard_10 : decode cX12_heard 10 = .ok (.iconst 0, 1) := zdc_818.2.1
theorem dX12_heard_11 : decode cX12_heard 11 = .ok (.istore_n 2, 1) := zdc_818.2.2.1
theorem dX12_heard_12 : decode cX12_heard 12 = .ok (.iload_n 1, 1) := zdc_818.2.2.2.1
theorem dX12_heard_13 : decode cX12_heard 13 = .ok (.bipush 12, 2) := zdc_818.2.2.2.2.1
theorem dX12_heard_15 : decode cX12_heard 15 = .ok (.if_icmp .gt 7, 3) := zdc_818.2.2.2.2.2.1
theorem dX12_heard_18 : decode cX12_heard 18 = .ok (.iconst 1, 1) := zdc_818.2.2.2.2.2.2.1
theorem dX12_heard_19 : decode cX12_heard 19 = .ok (.goto 4, 3) := zdc_818.2.2.2.2.2.2.2.1
theorem dX12_heard_22 : decode cX12_heard 22 = .ok (.iconst 0, 1) := zdc_818.2.2.2.2.2.2.2.2.1
theorem dX12_heard_23 : decode cX12_heard 23 = .ok (.istore_n 3, 1) := zdc_818.2.2.2.2.2.2.2.2.2
theorem zdc_819 : decode cX12_heard 24 = .ok (.iconst 0, 1) ∧ decode cX12_heard 25 = .ok (.istore 4, 2) ∧ decode cX12_heard 27 = .ok (.iload 4, 2) ∧ decode cX12_heard 29 = .ok (.iload_n 1, 1) ∧ decode cX12_heard 30 = .ok (.if_icmp .ge 49, 3) ∧ decode cX12_heard 33 = .ok (.iload_n 3, 1) ∧ decode cX12_heard 34 = .ok (.ifCond .eq 45, 3) ∧ decode cX12_heard 37 = .ok (.aload_n 0, 1) ∧ decode cX12_heard 38 = .ok (.getfield 22, 3) ∧ decode cX12_heard 41 = .ok (.iload 4, 2) := by decide +kernel
theorem dX12_heard_24 : decode cX12_heard 24 = .ok (.iconst 0, 1) := zdc_819.1
theorem dX12_heard_25 : decode cX12_heard 25 = .ok (.istore 4, 2) := zdc_819.2.1
theorem dX12_heard_27 : decode cX12_heard 27 = .ok (.iload 4, 2) := zdc_819.2.2.1
theorem dX12_heard_29 : decode cX12_heard 29 = .ok (.iload_n 1, 1) := zdc_819.2.2.2.1
theorem dX12_heard_30 : decode cX12_heard 30 = .ok (.if_icmp .ge 49, 3) := zdc_819.2.2.2.2.1
theorem dX12_heard_33 : decode cX12_heard 33 = .ok (.iload_n 3, 1) := zdc_819.2.2.2.2.2.1
theorem dX12_heard_34 : decode cX12_heard 34 = .ok (.ifCond .eq 45, 3) := zdc_819.2.2.2.2.2.2.1
theorem dX12_heard_37 : decode cX12_heard 37 = .ok (.aload_n 0, 1) := zdc_819.2.2.2.2.2.2.2.1
theorem dX12_heard_38 : decode cX12_heard 38 = .ok (.getfield 22, 3) := zdc_819.2.2.2.2.2.2.2.2.1
theorem dX12_heard_41 : decode cX12_heard 41 = .ok (.iload 4, 2) := zdc_819.2.2.2.2.2.2.2.2.2
theorem zdc_820 : decode cX12_heard 43 = .ok (.iaload, 1) ∧ decode cX12_heard 44 = .ok (.iconst 2, 1) ∧ decode cX12_heard 45 = .ok (.if_icmp .ge 7, 3) ∧ decode cX12_heard 48 = .ok (.iconst 1, 1) ∧ decode cX12_heard 49 = .ok (.goto 4, 3) ∧ decode cX12_heard 52 = .ok (.iconst 0, 1) ∧ decode cX12_heard 53 = .ok (.istore_n 3, 1) ∧ decode cX12_heard 54 = .ok (.iload_n 2, 1) ∧ decode cX12_heard 55 = .ok (.aload_n 0, 1) ∧ decode cX12_heard 56 = .ok (.getfield 22, 3) := by decide +kernel
theorem dX12_heard_43 : decode cX12_heard 43 = .ok (.iaload, 1) := zdc_820.1
theorem dX12_heard_44 : decode cX12_heard 44 = .ok (.iconst 2, 1) := zdc_820.2.1
theorem dX12_heard_45 : decode cX12_heard 45 = .ok (.if_icmp .ge 7, 3) := zdc_820.2.2.1
theorem dX12_heard_48 : decode cX12_heard 48 = .ok (.iconst 1, 1) := zdc_820.2.2.2.1
theorem dX12_heard_49 : decode cX12_heard 49 = .ok (.goto 4, 3) := zdc_820.2.2.2.2.1
theorem dX12_heard_52 : decode cX12_heard 52 = .ok (.iconst 0, 1) := zdc_820.2.2.2.2.2.1
theorem dX12_heard_53 : decode cX12_heard 53 = .ok (.istore_n 3, 1) := zdc_820.2.2.2.2.2.2.1
theorem dX12_heard_54 : decode cX12_heard 54 = .ok (.iload_n 2, 1) := zdc_820.2.2.2.2.2.2.2.1
theorem dX12_heard_55 : decode cX12_heard 55 = .ok (.aload_n 0, 1) := zdc_820.2.2.2.2.2.2.2.2.1
theorem dX12_heard_56 : decode cX12_heard 56 = .ok (.getfield 22, 3) := zdc_820.2.2.2.2.2.2.2.2.2
theorem zdc_821 : decode cX12_heard 59 = .ok (.iload 4, 2) ∧ decode cX12_heard 61 = .ok (.iaload, 1) ∧ decode cX12_heard 62 = .ok (.iconst 1, 1) ∧ decode cX12_heard 63 = .ok (.if_icmp .ne 7, 3) ∧ decode cX12_heard 66 = .ok (.iconst 1, 1) ∧ decode cX12_heard 67 = .ok (.goto 4, 3) ∧ decode cX12_heard 70 = .ok (.iconst (-1), 1) ∧ decode cX12_heard 71 = .ok (.iadd, 1) ∧ decode cX12_heard 72 = .ok (.istore_n 2, 1) ∧ decode cX12_heard 73 = .ok (.iinc 4 1, 3) := by decide +kernel
theorem dX12_heard_59 : decode cX12_heard 59 = .ok (.iload 4, 2) := zdc_821.1
theorem dX12_heard_61 : decode cX12_heard 61 = .ok (.iaload, 1) := zdc_821.2.1
theorem dX12_heard_62 : decode cX12_heard 62 = .ok (.iconst 1, 1) := zdc_821.2.2.1
theorem dX12_heard_63 : decode cX12_heard 63 = .ok (.if_icmp .ne 7, 3) := zdc_821.2.2.2.1
theorem dX12_heard_66 : decode cX12_heard 66 = .ok (.iconst 1, 1) := zdc_821.2.2.2.2.1
theorem dX12_heard_67 : decode cX12_heard 67 = .ok (.goto 4, 3) := zdc_821.2.2.2.2.2.1
theorem dX12_heard_70 : decode cX12_heard 70 = .ok (.iconst (-1), 1) := zdc_821.2.2.2.2.2.2.1
theorem dX12_heard_71 : decode cX12_heard 71 = .ok (.iadd, 1) := zdc_821.2.2.2.2.2.2.2.1
theorem dX12_heard_72 : decode cX12_heard 72 = .ok (.istore_n 2, 1) := zdc_821.2.2.2.2.2.2.2.2.1
theorem dX12_heard_73 : decode cX12_heard 73 = .ok (.iinc 4 1, 3) := zdc_821.2.2.2.2.2.2.2.2.2
theorem zdc_822 : decode cX12_heard 76 = .ok (.goto (-49), 3) ∧ decode cX12_heard 79 = .ok (.iload_n 3, 1) ∧ decode cX12_heard 80 = .ok (.ifCond .eq 7, 3) ∧ decode cX12_heard 83 = .ok (.iload_n 2, 1) ∧ decode cX12_heard 84 = .ok (.goto 5, 3) ∧ decode cX12_heard 87 = .ok (.bipush 100, 2) ∧ decode cX12_heard 89 = .ok (.ireturn, 1) ∧ decode cX12_nines 0 = .ok (.lconst 1, 1) ∧ decode cX12_nines 1 = .ok (.lstore_n 1, 1) ∧ decode cX12_nines 2 = .ok (.iconst 0, 1) := by decide +kernel
theorem dX12_heard_76 : decode cX12_heard 76 = .ok (.goto (-49), 3) := zdc_822.1
theorem dX12_heard_79 : decode cX12_heard 79 = .ok (.iload_n 3, 1) := zdc_822.2.1
theorem dX12_heard_80 : decode cX12_heard 80 = .ok (.ifCond .eq 7, 3) := zdc_822.2.2.1
theorem dX12_heard_83 : decode cX12_heard 83 = .ok (.iload_n 2, 1) := zdc_822.2.2.2.1
theorem dX12_heard_84 : decode cX12_heard 84 = .ok (.goto 5, 3) := zdc_822.2.2.2.2.1
theorem dX12_heard_87 : decode cX12_heard 87 = .ok (.bipush 100, 2) := zdc_822.2.2.2.2.2.1
theorem dX12_heard_89 : decode cX12_heard 89 = .ok (.ireturn, 1) := zdc_822.2.2.2.2.2.2.1
theorem dX12_nines_0 : decode cX12_nines 0 = .ok (.lconst 1, 1) := zdc_822.2.2.2.2.2.2.2.1
theorem dX12_nines_1 : decode cX12_nines 1 = .ok (.lstore_n 1, 1) := zdc_822.2.2.2.2.2.2.2.2.1
theorem dX12_nines_2 : decode cX12_nines 2 = .ok (.iconst 0, 1) := zdc_822.2.2.2.2.2.2.2.2.2
theorem zdc_823 : decode cX12_nines 3 = .ok (.istore_n 3, 1) ∧ decode cX12_nines 4 = .ok (.iload_n 3, 1) ∧ decode cX12_nines 5 = .ok (.iload_n 0, 1) ∧ decode cX12_nines 6 = .ok (.if_icmp .ge 15, 3) ∧ decode cX12_nines 9 = .ok (.lload_n 1, 1) ∧ decode cX12_nines 10 = .ok (.ldc2_w 310, 3) ∧ decode cX12_nines 13 = .ok (.lmul, 1) ∧ decode cX12_nines 14 = .ok (.lstore_n 1, 1) ∧ decode cX12_nines 15 = .ok (.iinc 3 1, 3) ∧ decode cX12_nines 18 = .ok (.goto (-14), 3) := by decide +kernel
theorem dX12_nines_3 : decode cX12_nines 3 = .ok (.istore_n 3, 1) := zdc_823.1
theorem dX12_nines_4 : decode cX12_nines 4 = .ok (.iload_n 3, 1) := zdc_823.2.1
theorem dX12_nines_5 : decode cX12_nines 5 = .ok (.iload_n 0, 1) := zdc_823.2.2.1
theorem dX12_nines_6 : decode cX12_nines 6 = .ok (.if_icmp .ge 15, 3) := zdc_823.2.2.2.1
theorem dX12_nines_9 : decode cX12_nines 9 = .ok (.lload_n 1, 1) := zdc_823.2.2.2.2.1
theorem dX12_nines_10 : decode cX12_nines 10 = .ok (.ldc2_w 310, 3) := zdc_823.2.2.2.2.2.1
theorem dX12_nines_13 : decode cX12_nines 13 = .ok (.lmul, 1) := zdc_823.2.2.2.2.2.2.1
theorem dX12_nines_14 : decode cX12_nines 14 = .ok (.lstore_n 1, 1) := zdc_823.2.2.2.2.2.2.2.1
theorem dX12_nines_15 : decode cX12_nines 15 = .ok (.iinc 3 1, 3) := zdc_823.2.2.2.2.2.2.2.2.1
theorem dX12_nines_18 : decode cX12_nines 18 = .ok (.goto (-14), 3) := zdc_823.2.2.2.2.2.2.2.2.2
theorem zdc_824 : decode cX12_nines 21 = .ok (.lload_n 1, 1) ∧ decode cX12_nines 22 = .ok (.lreturn, 1) ∧ decode cX12_river 0 = .ok (.aload_n 0, 1) ∧ decode cX12_river 1 = .ok (.invokevirtual 312, 3) ∧ decode cX12_river 4 = .ok (.istore_n 2, 1) ∧ decode cX12_river 5 = .ok (.aload_n 0, 1) ∧ decode cX12_river 6 = .ok (.iload_n 2, 1) ∧ decode cX12_river 7 = .ok (.bipush 100, 2) ∧ decode cX12_river 9 = .ok (.if_icmp .eq 13, 3) ∧ decode cX12_river 12 = .ok (.iload_n 1, 1) := by decide +kernel
theorem dX12_nines_21 : decode cX12_nines 21 = .ok (.lload_n 1, 1) := zdc_824.1
theorem dX12_nines_22 : decode cX12_nines 22 = .ok (.lreturn, 1) := zdc_824.2.1
theorem dX12_river_0 : decode cX12_river 0 = .ok (.aload_n 0, 1) := zdc_824.2.2.1
theorem dX12_river_1 : decode cX12_river 1 = .ok (.invokevirtual 312, 3) := zdc_824.2.2.2.1
theorem dX12_river_4 : decode cX12_river 4 = .ok (.istore_n 2, 1) := zdc_824.2.2.2.2.1
theorem dX12_river_5 : decode cX12_river 5 = .ok (.aload_n 0, 1) := zdc_824.2.2.2.2.2.1
theorem dX12_river_6 : decode cX12_river 6 = .ok (.iload_n 2, 1) := zdc_824.2.2.2.2.2.2.1
theorem dX12_river_7 : decode cX12_river 7 = .ok (.bipush 100, 2) := zdc_824.2.2.2.2.2.2.2.1
theorem dX12_river_9 : decode cX12_river 9 = .ok (.if_icmp .eq 13, 3) := zdc_824.2.2.2.2.2.2.2.2.1
theorem dX12_river_12 : decode cX12_river 12 = .ok (.iload_n 1, 1) := zdc_824.2.2.2.2.2.2.2.2.2
theorem zdc_825 : decode cX12_river 13 = .ok (.iconst 0, 1) ∧ decode cX12_river 14 = .ok (.bipush 100, 2) ∧ decode cX12_river 16 = .ok (.invokestatic 42, 3) ∧ decode cX12_river 19 = .ok (.ifCond .ne 7, 3) ∧ decode cX12_river 22 = .ok (.iconst 1, 1) ∧ decode cX12_river 23 = .ok (.goto 4, 3) ∧ decode cX12_river 26 = .ok (.iconst 0, 1) ∧ decode cX12_river 27 = .ok (.putfield 39, 3) ∧ decode cX12_river 30 = .ok (.aload_n 0, 1) ∧ decode cX12_river 31 = .ok (.getfield 39, 3) := by decide +kernel
theorem dX12_river_13 : decode cX12_river 13 = .ok (.iconst 0, 1) := zdc_825.1
theorem dX12_river_14 : decode cX12_river 14 = .ok (.bipush 100, 2) := zdc_825.2.1
theorem dX12_river_16 : decode cX12_river 16 = .ok (.invokestatic 42, 3) := zdc_825.2.2.1
theorem dX12_river_19 : decode cX12_river 19 = .ok (.ifCond .ne 7, 3) := zdc_825.2.2.2.1
theorem dX12_river_22 : decode cX12_river 22 = .ok (.iconst 1, 1) := zdc_825.2.2.2.2.1
theorem dX12_river_23 : decode cX12_river 23 = .ok (.goto 4, 3) := zdc_825.2.2.2.2.2.1
theorem dX12_river_26 : decode cX12_river 26 = .ok (.iconst 0, 1) := zdc_825.2.2.2.2.2.2.1
theorem dX12_river_27 : decode cX12_river 27 = .ok (.putfield 39, 3) := zdc_825.2.2.2.2.2.2.2.1
theorem dX12_river_30 : decode cX12_river 30 = .ok (.aload_n 0, 1) := zdc_825.2.2.2.2.2.2.2.2.1
theorem dX12_river_31 : decode cX12_river 31 = .ok (.getfield 39, 3) := zdc_825.2.2.2.2.2.2.2.2.2
theorem zdc_826 : decode cX12_river 34 = .ok (.ifCond .le 5, 3) ∧ decode cX12_river 37 = .ok (.iconst 0, 1) ∧ decode cX12_river 38 = .ok (.ireturn, 1) ∧ decode cX12_river 39 = .ok (.iload_n 1, 1) ∧ decode cX12_river 40 = .ok (.i2l, 1) ∧ decode cX12_river 41 = .ok (.iconst 0, 1) ∧ decode cX12_river 42 = .ok (.iload_n 2, 1) ∧ decode cX12_river 43 = .ok (.invokestatic 251, 3) ∧ decode cX12_river 46 = .ok (.invokestatic 315, 3) ∧ decode cX12_river 49 = .ok (.lmul, 1) := by decide +kernel
theorem dX12_river_34 : decode cX12_river 34 = .ok (.ifCond .le 5, 3) := zdc_826.1
theorem dX12_river_37 : decode cX12_river 37 = .ok (.iconst 0, 1) := zdc_826.2.1
theorem dX12_river_38 : decode cX12_river 38 = .ok (.ireturn, 1) := zdc_826.2.2.1
theorem dX12_river_39 : decode cX12_river 39 = .ok (.iload_n 1, 1) := zdc_826.2.2.2.1
theorem dX12_river_40 : decode cX12_river 40 = .ok (.i2l, 1) := zdc_826.2.2.2.2.1
theorem dX12_river_41 : decode cX12_river 41 = .ok (.iconst 0, 1) := zdc_826.2.2.2.2.2.1
theorem dX12_river_42 : decode cX12_river 42 = .ok (.iload_n 2, 1) := zdc_826.2.2.2.2.2.2.1
theorem dX12_river_43 : decode cX12_river 43 = .ok (.invokestatic 251, 3) := zdc_826.2.2.2.2.2.2.2.1
theorem dX12_river_46 : decode cX12_river 46 = .ok (.invokestatic 315, 3) := zdc_826.2.2.2.2.2.2.2.2.1
theorem dX12_river_49 : decode cX12_river 49 = .ok (.lmul, 1) := zdc_826.2.2.2.2.2.2.2.2.2
theorem zdc_827 : decode cX12_river 50 = .ok (.lstore_n 3, 1) ∧ decode cX12_river 51 = .ok (.bipush 100, 2) ∧ decode cX12_river 53 = .ok (.iload_n 1, 1) ∧ decode cX12_river 54 = .ok (.isub, 1) ∧ decode cX12_river 55 = .ok (.i2l, 1) ∧ decode cX12_river 56 = .ok (.iconst 0, 1) ∧ decode cX12_river 57 = .ok (.iload_n 2, 1) ∧ decode cX12_river 58 = .ok (.ineg, 1) ∧ decode cX12_river 59 = .ok (.invokestatic 251, 3) ∧ decode cX12_river 62 = .ok (.invokestatic 315, 3) := by decide +kernel
theorem dX12_river_50 : decode cX12_river 50 = .ok (.lstore_n 3, 1) := zdc_827.1
theorem dX12_river_51 : decode cX12_river 51 = .ok (.bipush 100, 2) := zdc_827.2.1
theorem dX12_river_53 : decode cX12_river 53 = .ok (.iload_n 1, 1) := zdc_827.2.2.1
theorem dX12_river_54 : decode cX12_river 54 = .ok (.isub, 1) := zdc_827.2.2.2.1
theorem dX12_river_55 : decode cX12_river 55 = .ok (.i2l, 1) := zdc_827.2.2.2.2.1
theorem dX12_river_56 : decode cX12_river 56 = .ok (.iconst 0, 1) := zdc_827.2.2.2.2.2.1
theorem dX12_river_57 : decode cX12_river 57 = .ok (.iload_n 2, 1) := zdc_827.2.2.2.2.2.2.1
theorem dX12_river_58 : decode cX12_river 58 = .ok (.ineg, 1) := zdc_827.2.2.2.2.2.2.2.1
theorem dX12_river_59 : decode cX12_river 59 = .ok (.invokestatic 251, 3) := zdc_827.2.2.2.2.2.2.2.2.1
theorem dX12_river_62 : decode cX12_river 62 = .ok (.invokestatic 315, 3) := zdc_827.2.2.2.2.2.2.2.2.2
theorem zdc_828 : decode cX12_river 65 = .ok (.lmul, 1) ∧ decode cX12_river 66 = .ok (.lstore 5, 2) ∧ decode cX12_river 68 = .ok (.ldc2_w 319, 3) ∧ decode cX12_river 71 = .ok (.lload_n 3, 1) ∧ decode cX12_river 72 = .ok (.lmul, 1) ∧ decode cX12_river 73 = .ok (.lload_n 3, 1) ∧ decode cX12_river 74 = .ok (.lload 5, 2) ∧ decode cX12_river 76 = .ok (.ladd, 1) ∧ decode cX12_river 77 = .ok (.ldiv, 1) ∧ decode cX12_river 78 = .ok (.l2i, 1) := by decide +kernel
theorem dX12_river_65 : decode cX12_river 65 = .ok (.lmul, 1) := zdc_828.1
theorem dX12_river_66 : decode cX12_river 66 = .ok (.lstore 5, 2) := zdc_828.2.1
theorem dX12_river_68 : decode cX12_river 68 = .ok (.ldc2_w 319, 3) := zdc_828.2.2.1
theorem dX12_river_71 : decode cX12_river 71 = .ok (.lload_n 3, 1) := zdc_828.2.2.2.1
theorem dX12_river_72 : decode cX12_river 72 = .ok (.lmul, 1) := zdc_828.2.2.2.2.1
theorem dX12_river_73 : decode cX12_river 73 = .ok (.lload_n 3, 1) := zdc_828.2.2.2.2.2.1
theorem dX12_river_74 : decode cX12_river 74 = .ok (.lload 5, 2) := zdc_828.2.2.2.2.2.2.1
theorem dX12_river_76 : decode cX12_river 76 = .ok (.ladd, 1) := zdc_828.2.2.2.2.2.2.2.1
theorem dX12_river_77 : decode cX12_river 77 = .ok (.ldiv, 1) := zdc_828.2.2.2.2.2.2.2.2.1
theorem dX12_river_78 : decode cX12_river 78 = .ok (.l2i, 1) := zdc_828.2.2.2.2.2.2.2.2.2
theorem zdc_829 : decode cX12_river 79 = .ok (.ireturn, 1) ∧ decode cX12_more 0 = .ok (.aload_n 0, 1) ∧ decode cX12_more 1 = .ok (.invokevirtual 312, 3) ∧ decode cX12_more 4 = .ok (.istore_n 2, 1) ∧ decode cX12_more 5 = .ok (.aload_n 0, 1) ∧ decode cX12_more 6 = .ok (.iload_n 2, 1) ∧ decode cX12_more 7 = .ok (.bipush 100, 2) ∧ decode cX12_more 9 = .ok (.if_icmp .eq 13, 3) ∧ decode cX12_more 12 = .ok (.iload_n 1, 1) ∧ decode cX12_more 13 = .ok (.iconst 0, 1) := by decide +kernel
theorem dX12_river_79 : decode cX12_river 79 = .ok (.ireturn, 1) := zdc_829.1
theorem dX12_more_0 : decode cX12_more 0 = .ok (.aload_n 0, 1) := zdc_829.2.1
theorem dX12_more_1 : decode cX12_more 1 = .ok (.invokevirtual 312, 3) := zdc_829.2.2.1
theorem dX12_more_4 : decode cX12_more 4 = .ok (.istore_n 2, 1) := zdc_829.2.2.2.1
theorem dX12_more_5 : decode cX12_more 5 = .ok (.aload_n 0, 1) := zdc_829.2.2.2.2.1
theorem dX12_more_6 : decode cX12_more 6 = .ok (.iload_n 2, 1) := zdc_829.2.2.2.2.2.1
theorem dX12_more_7 : decode cX12_more 7 = .ok (.bipush 100, 2) := zdc_829.2.2.2.2.2.2.1
theorem dX12_more_9 : decode cX12_more 9 = .ok (.if_icmp .eq 13, 3) := zdc_829.2.2.2.2.2.2.2.1
theorem dX12_more_12 : decode cX12_more 12 = .ok (.iload_n 1, 1) := zdc_829.2.2.2.2.2.2.2.2.1
theorem dX12_more_13 : decode cX12_more 13 = .ok (.iconst 0, 1) := zdc_829.2.2.2.2.2.2.2.2.2
theorem zdc_830 : decode cX12_more 14 = .ok (.bipush 100, 2) ∧ decode cX12_more 16 = .ok (.invokestatic 42, 3) ∧ decode cX12_more 19 = .ok (.ifCond .ne 7, 3) ∧ decode cX12_more 22 = .ok (.iconst 1, 1) ∧ decode cX12_more 23 = .ok (.goto 4, 3) ∧ decode cX12_more 26 = .ok (.iconst 0, 1) ∧ decode cX12_more 27 = .ok (.putfield 39, 3) ∧ decode cX12_more 30 = .ok (.aload_n 0, 1) ∧ decode cX12_more 31 = .ok (.getfield 39, 3) ∧ decode cX12_more 34 = .ok (.ifCond .le 5, 3) := by decide +kernel
theorem dX12_more_14 : decode cX12_more 14 = .ok (.bipush 100, 2) := zdc_830.1
theorem dX12_more_16 : decode cX12_more 16 = .ok (.invokestatic 42, 3) := zdc_830.2.1
theorem dX12_more_19 : decode cX12_more 19 = .ok (.ifCond .ne 7, 3) := zdc_830.2.2.1
theorem dX12_more_22 : decode cX12_more 22 = .ok (.iconst 1, 1) := zdc_830.2.2.2.1
theorem dX12_more_23 : decode cX12_more 23 = .ok (.goto 4, 3) := zdc_830.2.2.2.2.1
theorem dX12_more_26 : decode cX12_more 26 = .ok (.iconst 0, 1) := zdc_830.2.2.2.2.2.1
theorem dX12_more_27 : decode cX12_more 27 = .ok (.putfield 39, 3) := zdc_830.2.2.2.2.2.2.1
theorem dX12_more_30 : decode cX12_more 30 = .ok (.aload_n 0, 1) := zdc_830.2.2.2.2.2.2.2.1
theorem dX12_more_31 : decode cX12_more 31 = .ok (.getfield 39, 3) := zdc_830.2.2.2.2.2.2.2.2.1
theorem dX12_more_34 : decode cX12_more 34 = .ok (.ifCond .le 5, 3) := zdc_830.2.2.2.2.2.2.2.2.2
theorem zdc_831 : decode cX12_more 37 = .ok (.iconst 0, 1) ∧ decode cX12_more 38 = .ok (.ireturn, 1) ∧ decode cX12_more 39 = .ok (.iconst 0, 1) ∧ decode cX12_more 40 = .ok (.istore_n 3, 1) ∧ decode cX12_more 41 = .ok (.iload_n 3, 1) ∧ decode cX12_more 42 = .ok (.bipush 20, 2) ∧ decode cX12_more 44 = .ok (.if_icmp .gt 62, 3) ∧ decode cX12_more 47 = .ok (.iload_n 1, 1) ∧ decode cX12_more 48 = .ok (.i2l, 1) ∧ decode cX12_more 49 = .ok (.bipush 14, 2) := by decide +kernel
theorem dX12_more_37 : decode cX12_more 37 = .ok (.iconst 0, 1) := zdc_831.1
theorem dX12_more_38 : decode cX12_more 38 = .ok (.ireturn, 1) := zdc_831.2.1
theorem dX12_more_39 : decode cX12_more 39 = .ok (.iconst 0, 1) := zdc_831.2.2.1
theorem dX12_more_40 : decode cX12_more 40 = .ok (.istore_n 3, 1) := zdc_831.2.2.2.1
theorem dX12_more_41 : decode cX12_more 41 = .ok (.iload_n 3, 1) := zdc_831.2.2.2.2.1
theorem dX12_more_42 : decode cX12_more 42 = .ok (.bipush 20, 2) := zdc_831.2.2.2.2.2.1
theorem dX12_more_44 : decode cX12_more 44 = .ok (.if_icmp .gt 62, 3) := zdc_831.2.2.2.2.2.2.1
theorem dX12_more_47 : decode cX12_more 47 = .ok (.iload_n 1, 1) := zdc_831.2.2.2.2.2.2.2.1
theorem dX12_more_48 : decode cX12_more 48 = .ok (.i2l, 1) := zdc_831.2.2.2.2.2.2.2.2.1
theorem dX12_more_49 : decode cX12_more 49 = .ok (.bipush 14, 2) := zdc_831.2.2.2.2.2.2.2.2.2
theorem zdc_832 : decode cX12_more 51 = .ok (.iconst 0, 1) ∧ decode cX12_more 52 = .ok (.iload_n 2, 1) ∧ decode cX12_more 53 = .ok (.iload_n 3, 1) ∧ decode cX12_more 54 = .ok (.iadd, 1) ∧ decode cX12_more 55 = .ok (.invokestatic 251, 3) ∧ decode cX12_more 58 = .ok (.invokestatic 248, 3) ∧ decode cX12_more 61 = .ok (.invokestatic 315, 3) ∧ decode cX12_more 64 = .ok (.lmul, 1) ∧ decode cX12_more 65 = .ok (.lstore 4, 2) ∧ decode cX12_more 67 = .ok (.bipush 100, 2) := by decide +kernel
theorem dX12_more_51 : decode cX12_more 51 = .ok (.iconst 0, 1) := zdc_832.1
theorem dX12_more_52 : decode cX12_more 52 = .ok (.iload_n 2, 1) := zdc_832.2.1
theorem dX12_more_53 : decode cX12_more 53 = .ok (.iload_n 3, 1) := zdc_832.2.2.1
theorem dX12_more_54 : decode cX12_more 54 = .ok (.iadd, 1) := zdc_832.2.2.2.1
theorem dX12_more_55 : decode cX12_more 55 = .ok (.invokestatic 251, 3) := zdc_832.2.2.2.2.1
theorem dX12_more_58 : decode cX12_more 58 = .ok (.invokestatic 248, 3) := zdc_832.2.2.2.2.2.1
theorem dX12_more_61 : decode cX12_more 61 = .ok (.invokestatic 315, 3) := zdc_832.2.2.2.2.2.2.1
theorem dX12_more_64 : decode cX12_more 64 = .ok (.lmul, 1) := zdc_832.2.2.2.2.2.2.2.1
theorem dX12_more_65 : decode cX12_more 65 = .ok (.lstore 4, 2) := zdc_832.2.2.2.2.2.2.2.2.1
theorem dX12_more_67 : decode cX12_more 67 = .ok (.bipush 100, 2) := zdc_832.2.2.2.2.2.2.2.2.2
theorem zdc_833 : decode cX12_more 69 = .ok (.iload_n 1, 1) ∧ decode cX12_more 70 = .ok (.isub, 1) ∧ decode cX12_more 71 = .ok (.i2l, 1) ∧ decode cX12_more 72 = .ok (.iconst 0, 1) ∧ decode cX12_more 73 = .ok (.iload_n 2, 1) ∧ decode cX12_more 74 = .ok (.ineg, 1) ∧ decode cX12_more 75 = .ok (.iload_n 3, 1) ∧ decode cX12_more 76 = .ok (.isub, 1) ∧ decode cX12_more 77 = .ok (.invokestatic 251, 3) ∧ decode cX12_more 80 = .ok (.invokestatic 315, 3) := by decide +kernel
theorem dX12_more_69 : decode cX12_more 69 = .ok (.iload_n 1, 1) := zdc_833.1
theorem dX12_more_70 : decode cX12_more 70 = .ok (.isub, 1) := zdc_833.2.1
theorem dX12_more_71 : decode cX12_more 71 = .ok (.i2l, 1) := zdc_833.2.2.1
theorem dX12_more_72 : decode cX12_more 72 = .ok (.iconst 0, 1) := zdc_833.2.2.2.1
theorem dX12_more_73 : decode cX12_more 73 = .ok (.iload_n 2, 1) := zdc_833.2.2.2.2.1
theorem dX12_more_74 : decode cX12_more 74 = .ok (.ineg, 1) := zdc_833.2.2.2.2.2.1
theorem dX12_more_75 : decode cX12_more 75 = .ok (.iload_n 3, 1) := zdc_833.2.2.2.2.2.2.1
theorem dX12_more_76 : decode cX12_more 76 = .ok (.isub, 1) := zdc_833.2.2.2.2.2.2.2.1
theorem dX12_more_77 : decode cX12_more 77 = .ok (.invokestatic 251, 3) := zdc_833.2.2.2.2.2.2.2.2.1
theorem dX12_more_80 : decode cX12_more 80 = .ok (.invokestatic 315, 3) := zdc_833.2.2.2.2.2.2.2.2.2
theorem zdc_834 : decode cX12_more 83 = .ok (.lmul, 1) ∧ decode cX12_more 84 = .ok (.lstore 6, 2) ∧ decode cX12_more 86 = .ok (.lload 4, 2) ∧ decode cX12_more 88 = .ok (.ldc2_w 321, 3) ∧ decode cX12_more 91 = .ok (.lload 6, 2) ∧ decode cX12_more 93 = .ok (.lmul, 1) ∧ decode cX12_more 94 = .ok (.lcmp, 1) ∧ decode cX12_more 95 = .ok (.ifCond .lt 5, 3) ∧ decode cX12_more 98 = .ok (.iload_n 3, 1) ∧ decode cX12_more 99 = .ok (.ireturn, 1) := by decide +kernel
theorem dX12_more_83 : decode cX12_more 83 = .ok (.lmul, 1) := zdc_834.1
theorem dX12_more_84 : decode cX12_more 84 = .ok (.lstore 6, 2) := zdc_834.2.1
theorem dX12_more_86 : decode cX12_more 86 = .ok (.lload 4, 2) := zdc_834.2.2.1
theorem dX12_more_88 : decode cX12_more 88 = .ok (.ldc2_w 321, 3) := zdc_834.2.2.2.1
theorem dX12_more_91 : decode cX12_more 91 = .ok (.lload 6, 2) := zdc_834.2.2.2.2.1
theorem dX12_more_93 : decode cX12_more 93 = .ok (.lmul, 1) := zdc_834.2.2.2.2.2.1
theorem dX12_more_94 : decode cX12_more 94 = .ok (.lcmp, 1) := zdc_834.2.2.2.2.2.2.1
theorem dX12_more_95 : decode cX12_more 95 = .ok (.ifCond .lt 5, 3) := zdc_834.2.2.2.2.2.2.2.1
theorem dX12_more_98 : decode cX12_more 98 = .ok (.iload_n 3, 1) := zdc_834.2.2.2.2.2.2.2.2.1
theorem dX12_more_99 : decode cX12_more 99 = .ok (.ireturn, 1) := zdc_834.2.2.2.2.2.2.2.2.2
theorem zdc_835 : decode cX12_more 100 = .ok (.iinc 3 1, 3) ∧ decode cX12_more 103 = .ok (.goto (-62), 3) ∧ decode cX12_more 106 = .ok (.iconst (-1), 1) ∧ decode cX12_more 107 = .ok (.ireturn, 1) ∧ decode cX12_says 0 = .ok (.iload_n 0, 1) ∧ decode cX12_says 1 = .ok (.iload_n 1, 1) ∧ decode cX12_says 2 = .ok (.invokestatic 296, 3) ∧ decode cX12_says 5 = .ok (.iload_n 0, 1) ∧ decode cX12_says 6 = .ok (.iload_n 2, 1) ∧ decode cX12_says 7 = .ok (.invokestatic 296, 3) := by decide +kernel
theorem dX12_more_100 : decode cX12_more 100 = .ok (.iinc 3 1, 3) := zdc_835.1
theorem dX12_more_103 : decode cX12_more 103 = .ok (.goto (-62), 3) := zdc_835.2.1
theorem dX12_more_106 : decode cX12_more 106 = .ok (.iconst (-1), 1) := zdc_835.2.2.1
theorem dX12_more_107 : decode cX12_more 107 = .ok (.ireturn, 1) := zdc_835.2.2.2.1
theorem dX12_says_0 : decode cX12_says 0 = .ok (.iload_n 0, 1) := zdc_835.2.2.2.2.1
theorem dX12_says_1 : decode cX12_says 1 = .ok (.iload_n 1, 1) := zdc_835.2.2.2.2.2.1
theorem dX12_says_2 : decode cX12_says 2 = .ok (.invokestatic 296, 3) := zdc_835.2.2.2.2.2.2.1
theorem dX12_says_5 : decode cX12_says 5 = .ok (.iload_n 0, 1) := zdc_835.2.2.2.2.2.2.2.1
theorem dX12_says_6 : decode cX12_says 6 = .ok (.iload_n 2, 1) := zdc_835.2.2.2.2.2.2.2.2.1
theorem dX12_says_7 : decode cX12_says 7 = .ok (.invokestatic 296, 3) := zdc_835.2.2.2.2.2.2.2.2.2
theorem zdc_836 : decode cX12_says 10 = .ok (.if_icmp .ne 7, 3) ∧ decode cX12_says 13 = .ok (.iconst 1, 1) ∧ decode cX12_says 14 = .ok (.goto 4, 3) ∧ decode cX12_says 17 = .ok (.iconst 0, 1) ∧ decode cX12_says 18 = .ok (.ireturn, 1) ∧ decode cX12_told 0 = .ok (.aload_n 0, 1) ∧ decode cX12_told 1 = .ok (.getfield 74, 3) ∧ decode cX12_told 4 = .ok (.istore_n 1, 1) ∧ decode cX12_told 5 = .ok (.aload_n 0, 1) ∧ decode cX12_told 6 = .ok (.iconst 0, 1) := by decide +kernel
theorem dX12_says_10 : decode cX12_says 10 = .ok (.if_icmp .ne 7, 3) := zdc_836.1
theorem dX12_says_13 : decode cX12_says 13 = .ok (.iconst 1, 1) := zdc_836.2.1
theorem dX12_says_14 : decode cX12_says 14 = .ok (.goto 4, 3) := zdc_836.2.2.1
theorem dX12_says_17 : decode cX12_says 17 = .ok (.iconst 0, 1) := zdc_836.2.2.2.1
theorem dX12_says_18 : decode cX12_says 18 = .ok (.ireturn, 1) := zdc_836.2.2.2.2.1
theorem dX12_told_0 : decode cX12_told 0 = .ok (.aload_n 0, 1) := zdc_836.2.2.2.2.2.1
theorem dX12_told_1 : decode cX12_told 1 = .ok (.getfield 74, 3) := zdc_836.2.2.2.2.2.2.1
theorem dX12_told_4 : decode cX12_told 4 = .ok (.istore_n 1, 1) := zdc_836.2.2.2.2.2.2.2.1
theorem dX12_told_5 : decode cX12_told 5 = .ok (.aload_n 0, 1) := zdc_836.2.2.2.2.2.2.2.2.1
theorem dX12_told_6 : decode cX12_told 6 = .ok (.iconst 0, 1) := zdc_836.2.2.2.2.2.2.2.2.2
theorem zdc_837 : decode cX12_told 7 = .ok (.putfield 74, 3) ∧ decode cX12_told 10 = .ok (.iload_n 1, 1) ∧ decode cX12_told 11 = .ok (.iconst 3, 1) ∧ decode cX12_told 12 = .ok (.irem, 1) ∧ decode cX12_told 13 = .ok (.ifCond .ne 13, 3) ∧ decode cX12_told 16 = .ok (.iload_n 1, 1) ∧ decode cX12_told 17 = .ok (.bipush 36, 2) ∧ decode cX12_told 19 = .ok (.if_icmp .gt 7, 3) ∧ decode cX12_told 22 = .ok (.iconst 1, 1) ∧ decode cX12_told 23 = .ok (.goto 4, 3) := by decide +kernel
theorem dX12_told_7 : decode cX12_told 7 = .ok (.putfield 74, 3) := zdc_837.1
theorem dX12_told_10 : decode cX12_told 10 = .ok (.iload_n 1, 1) := zdc_837.2.1
theorem dX12_told_11 : decode cX12_told 11 = .ok (.iconst 3, 1) := zdc_837.2.2.1
theorem dX12_told_12 : decode cX12_told 12 = .ok (.irem, 1) := zdc_837.2.2.2.1
theorem dX12_told_13 : decode cX12_told 13 = .ok (.ifCond .ne 13, 3) := zdc_837.2.2.2.2.1
theorem dX12_told_16 : decode cX12_told 16 = .ok (.iload_n 1, 1) := zdc_837.2.2.2.2.2.1
theorem dX12_told_17 : decode cX12_told 17 = .ok (.bipush 36, 2) := zdc_837.2.2.2.2.2.2.1
theorem dX12_told_19 : decode cX12_told 19 = .ok (.if_icmp .gt 7, 3) := zdc_837.2.2.2.2.2.2.2.1
theorem dX12_told_22 : decode cX12_told 22 = .ok (.iconst 1, 1) := zdc_837.2.2.2.2.2.2.2.2.1
theorem dX12_told_23 : decode cX12_told 23 = .ok (.goto 4, 3) := zdc_837.2.2.2.2.2.2.2.2.2
theorem zdc_838 : decode cX12_told 26 = .ok (.iconst 0, 1) ∧ decode cX12_told 27 = .ok (.istore_n 2, 1) ∧ decode cX12_told 28 = .ok (.iconst 0, 1) ∧ decode cX12_told 29 = .ok (.istore_n 3, 1) ∧ decode cX12_told 30 = .ok (.iload_n 3, 1) ∧ decode cX12_told 31 = .ok (.iload_n 1, 1) ∧ decode cX12_told 32 = .ok (.if_icmp .ge 80, 3) ∧ decode cX12_told 35 = .ok (.iload_n 2, 1) ∧ decode cX12_told 36 = .ok (.ifCond .eq 76, 3) ∧ decode cX12_told 39 = .ok (.aload_n 0, 1) := by decide +kernel
theorem dX12_told_26 : decode cX12_told 26 = .ok (.iconst 0, 1) := zdc_838.1
theorem dX12_told_27 : decode cX12_told 27 = .ok (.istore_n 2, 1) := zdc_838.2.1
theorem dX12_told_28 : decode cX12_told 28 = .ok (.iconst 0, 1) := zdc_838.2.2.1
theorem dX12_told_29 : decode cX12_told 29 = .ok (.istore_n 3, 1) := zdc_838.2.2.2.1
theorem dX12_told_30 : decode cX12_told 30 = .ok (.iload_n 3, 1) := zdc_838.2.2.2.2.1
theorem dX12_told_31 : decode cX12_told 31 = .ok (.iload_n 1, 1) := zdc_838.2.2.2.2.2.1
theorem dX12_told_32 : decode cX12_told 32 = .ok (.if_icmp .ge 80, 3) := zdc_838.2.2.2.2.2.2.1
theorem dX12_told_35 : decode cX12_told 35 = .ok (.iload_n 2, 1) := zdc_838.2.2.2.2.2.2.2.1
theorem dX12_told_36 : decode cX12_told 36 = .ok (.ifCond .eq 76, 3) := zdc_838.2.2.2.2.2.2.2.2.1
theorem dX12_told_39 : decode cX12_told 39 = .ok (.aload_n 0, 1) := zdc_838.2.2.2.2.2.2.2.2.2
theorem zdc_839 : decode cX12_told 40 = .ok (.getfield 22, 3) ∧ decode cX12_told 43 = .ok (.iload_n 3, 1) ∧ decode cX12_told 44 = .ok (.iaload, 1) ∧ decode cX12_told 45 = .ok (.aload_n 0, 1) ∧ decode cX12_told 46 = .ok (.getfield 7, 3) ∧ decode cX12_told 49 = .ok (.iconst 3, 1) ∧ decode cX12_told 50 = .ok (.iaload, 1) ∧ decode cX12_told 51 = .ok (.if_icmp .ge 53, 3) ∧ decode cX12_told 54 = .ok (.aload_n 0, 1) ∧ decode cX12_told 55 = .ok (.getfield 22, 3) := by decide +kernel
theorem dX12_told_40 : decode cX12_told 40 = .ok (.getfield 22, 3) := zdc_839.1
theorem dX12_told_43 : decode cX12_told 43 = .ok (.iload_n 3, 1) := zdc_839.2.1
theorem dX12_told_44 : decode cX12_told 44 = .ok (.iaload, 1) := zdc_839.2.2.1
theorem dX12_told_45 : decode cX12_told 45 = .ok (.aload_n 0, 1) := zdc_839.2.2.2.1
theorem dX12_told_46 : decode cX12_told 46 = .ok (.getfield 7, 3) := zdc_839.2.2.2.2.1
theorem dX12_told_49 : decode cX12_told 49 = .ok (.iconst 3, 1) := zdc_839.2.2.2.2.2.1
theorem dX12_told_50 : decode cX12_told 50 = .ok (.iaload, 1) := zdc_839.2.2.2.2.2.2.1
theorem dX12_told_51 : decode cX12_told 51 = .ok (.if_icmp .ge 53, 3) := zdc_839.2.2.2.2.2.2.2.1
theorem dX12_told_54 : decode cX12_told 54 = .ok (.aload_n 0, 1) := zdc_839.2.2.2.2.2.2.2.2.1
theorem dX12_told_55 : decode cX12_told 55 = .ok (.getfield 22, 3) := zdc_839.2.2.2.2.2.2.2.2.2
theorem zdc_840 : decode cX12_told 58 = .ok (.iload_n 3, 1) ∧ decode cX12_told 59 = .ok (.iconst 1, 1) ∧ decode cX12_told 60 = .ok (.iadd, 1) ∧ decode cX12_told 61 = .ok (.iaload, 1) ∧ decode cX12_told 62 = .ok (.aload_n 0, 1) ∧ decode cX12_told 63 = .ok (.getfield 7, 3) ∧ decode cX12_told 66 = .ok (.iconst 3, 1) ∧ decode cX12_told 67 = .ok (.iaload, 1) ∧ decode cX12_told 68 = .ok (.if_icmp .ge 36, 3) ∧ decode cX12_told 71 = .ok (.aload_n 0, 1) := by decide +kernel
theorem dX12_told_58 : decode cX12_told 58 = .ok (.iload_n 3, 1) := zdc_840.1
theorem dX12_told_59 : decode cX12_told 59 = .ok (.iconst 1, 1) := zdc_840.2.1
theorem dX12_told_60 : decode cX12_told 60 = .ok (.iadd, 1) := zdc_840.2.2.1
theorem dX12_told_61 : decode cX12_told 61 = .ok (.iaload, 1) := zdc_840.2.2.2.1
theorem dX12_told_62 : decode cX12_told 62 = .ok (.aload_n 0, 1) := zdc_840.2.2.2.2.1
theorem dX12_told_63 : decode cX12_told 63 = .ok (.getfield 7, 3) := zdc_840.2.2.2.2.2.1
theorem dX12_told_66 : decode cX12_told 66 = .ok (.iconst 3, 1) := zdc_840.2.2.2.2.2.2.1
theorem dX12_told_67 : decode cX12_told 67 = .ok (.iaload, 1) := zdc_840.2.2.2.2.2.2.2.1
theorem dX12_told_68 : decode cX12_told 68 = .ok (.if_icmp .ge 36, 3) := zdc_840.2.2.2.2.2.2.2.2.1
theorem dX12_told_71 : decode cX12_told 71 = .ok (.aload_n 0, 1) := zdc_840.2.2.2.2.2.2.2.2.2
theorem zdc_841 : decode cX12_told 72 = .ok (.getfield 22, 3) ∧ decode cX12_told 75 = .ok (.iload_n 3, 1) ∧ decode cX12_told 76 = .ok (.iaload, 1) ∧ decode cX12_told 77 = .ok (.aload_n 0, 1) ∧ decode cX12_told 78 = .ok (.getfield 22, 3) ∧ decode cX12_told 81 = .ok (.iload_n 3, 1) ∧ decode cX12_told 82 = .ok (.iconst 1, 1) ∧ decode cX12_told 83 = .ok (.iadd, 1) ∧ decode cX12_told 84 = .ok (.iaload, 1) ∧ decode cX12_told 85 = .ok (.if_icmp .eq 19, 3) := by decide +kernel
theorem dX12_told_72 : decode cX12_told 72 = .ok (.getfield 22, 3) := zdc_841.1
theorem dX12_told_75 : decode cX12_told 75 = .ok (.iload_n 3, 1) := zdc_841.2.1
theorem dX12_told_76 : decode cX12_told 76 = .ok (.iaload, 1) := zdc_841.2.2.1
theorem dX12_told_77 : decode cX12_told 77 = .ok (.aload_n 0, 1) := zdc_841.2.2.2.1
theorem dX12_told_78 : decode cX12_told 78 = .ok (.getfield 22, 3) := zdc_841.2.2.2.2.1
theorem dX12_told_81 : decode cX12_told 81 = .ok (.iload_n 3, 1) := zdc_841.2.2.2.2.2.1
theorem dX12_told_82 : decode cX12_told 82 = .ok (.iconst 1, 1) := zdc_841.2.2.2.2.2.2.1
theorem dX12_told_83 : decode cX12_told 83 = .ok (.iadd, 1) := zdc_841.2.2.2.2.2.2.2.1
theorem dX12_told_84 : decode cX12_told 84 = .ok (.iaload, 1) := zdc_841.2.2.2.2.2.2.2.2.1
theorem dX12_told_85 : decode cX12_told 85 = .ok (.if_icmp .eq 19, 3) := zdc_841.2.2.2.2.2.2.2.2.2
theorem zdc_842 : decode cX12_told 88 = .ok (.aload_n 0, 1) ∧ decode cX12_told 89 = .ok (.getfield 22, 3) ∧ decode cX12_told 92 = .ok (.iload_n 3, 1) ∧ decode cX12_told 93 = .ok (.iconst 2, 1) ∧ decode cX12_told 94 = .ok (.iadd, 1) ∧ decode cX12_told 95 = .ok (.iaload, 1) ∧ decode cX12_told 96 = .ok (.iconst 2, 1) ∧ decode cX12_told 97 = .ok (.if_icmp .ge 7, 3) ∧ decode cX12_told 100 = .ok (.iconst 1, 1) ∧ decode cX12_told 101 = .ok (.goto 4, 3) := by decide +kernel
theorem dX12_told_88 : decode cX12_told 88 = .ok (.aload_n 0, 1) := zdc_842.1
theorem dX12_told_89 : decode cX12_told 89 = .ok (.getfield 22, 3) := zdc_842.2.1
theorem dX12_told_92 : decode cX12_told 92 = .ok (.iload_n 3, 1) := zdc_842.2.2.1
theorem dX12_told_93 : decode cX12_told 93 = .ok (.iconst 2, 1) := zdc_842.2.2.2.1
theorem dX12_told_94 : decode cX12_told 94 = .ok (.iadd, 1) := zdc_842.2.2.2.2.1
theorem dX12_told_95 : decode cX12_told 95 = .ok (.iaload, 1) := zdc_842.2.2.2.2.2.1
theorem dX12_told_96 : decode cX12_told 96 = .ok (.iconst 2, 1) := zdc_842.2.2.2.2.2.2.1
theorem dX12_told_97 : decode cX12_told 97 = .ok (.if_icmp .ge 7, 3) := zdc_842.2.2.2.2.2.2.2.1
theorem dX12_told_100 : decode cX12_told 100 = .ok (.iconst 1, 1) := zdc_842.2.2.2.2.2.2.2.2.1
theorem dX12_told_101 : decode cX12_told 101 = .ok (.goto 4, 3) := zdc_842.2.2.2.2.2.2.2.2.2
theorem zdc_843 : decode cX12_told 104 = .ok (.iconst 0, 1) ∧ decode cX12_told 105 = .ok (.istore_n 2, 1) ∧ decode cX12_told 106 = .ok (.iinc 3 3, 3) ∧ decode cX12_told 109 = .ok (.goto (-79), 3) ∧ decode cX12_told 112 = .ok (.iload_n 2, 1) ∧ decode cX12_told 113 = .ok (.ifCond .ne 5, 3) ∧ decode cX12_told 116 = .ok (.iconst (-1), 1) ∧ decode cX12_told 117 = .ok (.ireturn, 1) ∧ decode cX12_told 118 = .ok (.iconst 0, 1) ∧ decode cX12_told 119 = .ok (.istore_n 3, 1) := by decide +kernel
theorem dX12_told_104 : decode cX12_told 104 = .ok (.iconst 0, 1) := zdc_843.1
theorem dX12_told_105 : decode cX12_told 105 = .ok (.istore_n 2, 1) := zdc_843.2.1
theorem dX12_told_106 : decode cX12_told 106 = .ok (.iinc 3 3, 3) := zdc_843.2.2.1
theorem dX12_told_109 : decode cX12_told 109 = .ok (.goto (-79), 3) := zdc_843.2.2.2.1
theorem dX12_told_112 : decode cX12_told 112 = .ok (.iload_n 2, 1) := zdc_843.2.2.2.2.1
theorem dX12_told_113 : decode cX12_told 113 = .ok (.ifCond .ne 5, 3) := zdc_843.2.2.2.2.2.1
theorem dX12_told_116 : decode cX12_told 116 = .ok (.iconst (-1), 1) := zdc_843.2.2.2.2.2.2.1
theorem dX12_told_117 : decode cX12_told 117 = .ok (.ireturn, 1) := zdc_843.2.2.2.2.2.2.2.1
theorem dX12_told_118 : decode cX12_told 118 = .ok (.iconst 0, 1) := zdc_843.2.2.2.2.2.2.2.2.1
theorem dX12_told_119 : decode cX12_told 119 = .ok (.istore_n 3, 1) := zdc_843.2.2.2.2.2.2.2.2.2
theorem zdc_844 : decode cX12_told 120 = .ok (.iconst 0, 1) ∧ decode cX12_told 121 = .ok (.istore 4, 2) ∧ decode cX12_told 123 = .ok (.iload 4, 2) ∧ decode cX12_told 125 = .ok (.iconst 1, 1) ∧ decode cX12_told 126 = .ok (.aload_n 0, 1) ∧ decode cX12_told 127 = .ok (.getfield 7, 3) ∧ decode cX12_told 130 = .ok (.iconst 3, 1) ∧ decode cX12_told 131 = .ok (.iaload, 1) ∧ decode cX12_told 132 = .ok (.ishl, 1) ∧ decode cX12_told 133 = .ok (.if_icmp .ge 114, 3) := by decide +kernel
theorem dX12_told_120 : decode cX12_told 120 = .ok (.iconst 0, 1) := zdc_844.1
theorem dX12_told_121 : decode cX12_told 121 = .ok (.istore 4, 2) := zdc_844.2.1
theorem dX12_told_123 : decode cX12_told 123 = .ok (.iload 4, 2) := zdc_844.2.2.1
theorem dX12_told_125 : decode cX12_told 125 = .ok (.iconst 1, 1) := zdc_844.2.2.2.1
theorem dX12_told_126 : decode cX12_told 126 = .ok (.aload_n 0, 1) := zdc_844.2.2.2.2.1
theorem dX12_told_127 : decode cX12_told 127 = .ok (.getfield 7, 3) := zdc_844.2.2.2.2.2.1
theorem dX12_told_130 : decode cX12_told 130 = .ok (.iconst 3, 1) := zdc_844.2.2.2.2.2.2.1
theorem dX12_told_131 : decode cX12_told 131 = .ok (.iaload, 1) := zdc_844.2.2.2.2.2.2.2.1
theorem dX12_told_132 : decode cX12_told 132 = .ok (.ishl, 1) := zdc_844.2.2.2.2.2.2.2.2.1
theorem dX12_told_133 : decode cX12_told 133 = .ok (.if_icmp .ge 114, 3) := zdc_844.2.2.2.2.2.2.2.2.2
theorem zdc_845 : decode cX12_told 136 = .ok (.aload_n 0, 1) ∧ decode cX12_told 137 = .ok (.getfield 35, 3) ∧ decode cX12_told 140 = .ok (.iload 4, 2) ∧ decode cX12_told 142 = .ok (.iconst 1, 1) ∧ decode cX12_told 143 = .ok (.bastore, 1) ∧ decode cX12_told 144 = .ok (.iconst 0, 1) ∧ decode cX12_told 145 = .ok (.istore 5, 2) ∧ decode cX12_told 147 = .ok (.iload 5, 2) ∧ decode cX12_told 149 = .ok (.iload_n 1, 1) ∧ decode cX12_told 150 = .ok (.if_icmp .ge 73, 3) := by decide +kernel
theorem dX12_told_136 : decode cX12_told 136 = .ok (.aload_n 0, 1) := zdc_845.1
theorem dX12_told_137 : decode cX12_told 137 = .ok (.getfield 35, 3) := zdc_845.2.1
theorem dX12_told_140 : decode cX12_told 140 = .ok (.iload 4, 2) := zdc_845.2.2.1
theorem dX12_told_142 : decode cX12_told 142 = .ok (.iconst 1, 1) := zdc_845.2.2.2.1
theorem dX12_told_143 : decode cX12_told 143 = .ok (.bastore, 1) := zdc_845.2.2.2.2.1
theorem dX12_told_144 : decode cX12_told 144 = .ok (.iconst 0, 1) := zdc_845.2.2.2.2.2.1
theorem dX12_told_145 : decode cX12_told 145 = .ok (.istore 5, 2) := zdc_845.2.2.2.2.2.2.1
theorem dX12_told_147 : decode cX12_told 147 = .ok (.iload 5, 2) := zdc_845.2.2.2.2.2.2.2.1
theorem dX12_told_149 : decode cX12_told 149 = .ok (.iload_n 1, 1) := zdc_845.2.2.2.2.2.2.2.2.1
theorem dX12_told_150 : decode cX12_told 150 = .ok (.if_icmp .ge 73, 3) := zdc_845.2.2.2.2.2.2.2.2.2
theorem zdc_846 : decode cX12_told 153 = .ok (.aload_n 0, 1) ∧ decode cX12_told 154 = .ok (.getfield 35, 3) ∧ decode cX12_told 157 = .ok (.iload 4, 2) ∧ decode cX12_told 159 = .ok (.baload, 1) ∧ decode cX12_told 160 = .ok (.ifCond .eq 63, 3) ∧ decode cX12_told 163 = .ok (.aload_n 0, 1) ∧ decode cX12_told 164 = .ok (.getfield 35, 3) ∧ decode cX12_told 167 = .ok (.iload 4, 2) ∧ decode cX12_told 169 = .ok (.iload 4, 2) ∧ decode cX12_told 171 = .ok (.aload_n 0, 1) := by decide +kernel
theorem dX12_told_153 : decode cX12_told 153 = .ok (.aload_n 0, 1) := zdc_846.1
theorem dX12_told_154 : decode cX12_told 154 = .ok (.getfield 35, 3) := zdc_846.2.1
theorem dX12_told_157 : decode cX12_told 157 = .ok (.iload 4, 2) := zdc_846.2.2.1
theorem dX12_told_159 : decode cX12_told 159 = .ok (.baload, 1) := zdc_846.2.2.2.1
theorem dX12_told_160 : decode cX12_told 160 = .ok (.ifCond .eq 63, 3) := zdc_846.2.2.2.2.1
theorem dX12_told_163 : decode cX12_told 163 = .ok (.aload_n 0, 1) := zdc_846.2.2.2.2.2.1
theorem dX12_told_164 : decode cX12_told 164 = .ok (.getfield 35, 3) := zdc_846.2.2.2.2.2.2.1
theorem dX12_told_167 : decode cX12_told 167 = .ok (.iload 4, 2) := zdc_846.2.2.2.2.2.2.2.1
theorem dX12_told_169 : decode cX12_told 169 = .ok (.iload 4, 2) := zdc_846.2.2.2.2.2.2.2.2.1
theorem dX12_told_171 : decode cX12_told 171 = .ok (.aload_n 0, 1) := zdc_846.2.2.2.2.2.2.2.2.2
theorem zdc_847 : decode cX12_told 172 = .ok (.getfield 22, 3) ∧ decode cX12_told 175 = .ok (.iload 5, 2) ∧ decode cX12_told 177 = .ok (.iaload, 1) ∧ decode cX12_told 178 = .ok (.aload_n 0, 1) ∧ decode cX12_told 179 = .ok (.getfield 22, 3) ∧ decode cX12_told 182 = .ok (.iload 5, 2) ∧ decode cX12_told 184 = .ok (.iconst 1, 1) ∧ decode cX12_told 185 = .ok (.iadd, 1) ∧ decode cX12_told 186 = .ok (.iaload, 1) ∧ decode cX12_told 187 = .ok (.invokestatic 323, 3) := by decide +kernel
theorem dX12_told_172 : decode cX12_told 172 = .ok (.getfield 22, 3) := zdc_847.1
theorem dX12_told_175 : decode cX12_told 175 = .ok (.iload 5, 2) := zdc_847.2.1
theorem dX12_told_177 : decode cX12_told 177 = .ok (.iaload, 1) := zdc_847.2.2.1
theorem dX12_told_178 : decode cX12_told 178 = .ok (.aload_n 0, 1) := zdc_847.2.2.2.1
theorem dX12_told_179 : decode cX12_told 179 = .ok (.getfield 22, 3) := zdc_847.2.2.2.2.1
theorem dX12_told_182 : decode cX12_told 182 = .ok (.iload 5, 2) := zdc_847.2.2.2.2.2.1
theorem dX12_told_184 : decode cX12_told 184 = .ok (.iconst 1, 1) := zdc_847.2.2.2.2.2.2.1
theorem dX12_told_185 : decode cX12_told 185 = .ok (.iadd, 1) := zdc_847.2.2.2.2.2.2.2.1
theorem dX12_told_186 : decode cX12_told 186 = .ok (.iaload, 1) := zdc_847.2.2.2.2.2.2.2.2.1
theorem dX12_told_187 : decode cX12_told 187 = .ok (.invokestatic 323, 3) := zdc_847.2.2.2.2.2.2.2.2.2
theorem zdc_848 : decode cX12_told 190 = .ok (.aload_n 0, 1) ∧ decode cX12_told 191 = .ok (.getfield 22, 3) ∧ decode cX12_told 194 = .ok (.iload 5, 2) ∧ decode cX12_told 196 = .ok (.iconst 2, 1) ∧ decode cX12_told 197 = .ok (.iadd, 1) ∧ decode cX12_told 198 = .ok (.iaload, 1) ∧ decode cX12_told 199 = .ok (.iconst 1, 1) ∧ decode cX12_told 200 = .ok (.if_icmp .ne 7, 3) ∧ decode cX12_told 203 = .ok (.iconst 1, 1) ∧ decode cX12_told 204 = .ok (.goto 4, 3) := by decide +kernel
theorem dX12_told_190 : decode cX12_told 190 = .ok (.aload_n 0, 1) := zdc_848.1
theorem dX12_told_191 : decode cX12_told 191 = .ok (.getfield 22, 3) := zdc_848.2.1
theorem dX12_told_194 : decode cX12_told 194 = .ok (.iload 5, 2) := zdc_848.2.2.1
theorem dX12_told_196 : decode cX12_told 196 = .ok (.iconst 2, 1) := zdc_848.2.2.2.1
theorem dX12_told_197 : decode cX12_told 197 = .ok (.iadd, 1) := zdc_848.2.2.2.2.1
theorem dX12_told_198 : decode cX12_told 198 = .ok (.iaload, 1) := zdc_848.2.2.2.2.2.1
theorem dX12_told_199 : decode cX12_told 199 = .ok (.iconst 1, 1) := zdc_848.2.2.2.2.2.2.1
theorem dX12_told_200 : decode cX12_told 200 = .ok (.if_icmp .ne 7, 3) := zdc_848.2.2.2.2.2.2.2.1
theorem dX12_told_203 : decode cX12_told 203 = .ok (.iconst 1, 1) := zdc_848.2.2.2.2.2.2.2.2.1
theorem dX12_told_204 : decode cX12_told 204 = .ok (.goto 4, 3) := zdc_848.2.2.2.2.2.2.2.2.2
theorem zdc_849 : decode cX12_told 207 = .ok (.iconst 0, 1) ∧ decode cX12_told 208 = .ok (.if_icmp .ne 7, 3) ∧ decode cX12_told 211 = .ok (.iconst 1, 1) ∧ decode cX12_told 212 = .ok (.goto 4, 3) ∧ decode cX12_told 215 = .ok (.iconst 0, 1) ∧ decode cX12_told 216 = .ok (.bastore, 1) ∧ decode cX12_told 217 = .ok (.iinc 5 3, 3) ∧ decode cX12_told 220 = .ok (.goto (-73), 3) ∧ decode cX12_told 223 = .ok (.iload_n 3, 1) ∧ decode cX12_told 224 = .ok (.aload_n 0, 1) := by decide +kernel
theorem dX12_told_207 : decode cX12_told 207 = .ok (.iconst 0, 1) := zdc_849.1
theorem dX12_told_208 : decode cX12_told 208 = .ok (.if_icmp .ne 7, 3) := zdc_849.2.1
theorem dX12_told_211 : decode cX12_told 211 = .ok (.iconst 1, 1) := zdc_849.2.2.1
theorem dX12_told_212 : decode cX12_told 212 = .ok (.goto 4, 3) := zdc_849.2.2.2.1
theorem dX12_told_215 : decode cX12_told 215 = .ok (.iconst 0, 1) := zdc_849.2.2.2.2.1
theorem dX12_told_216 : decode cX12_told 216 = .ok (.bastore, 1) := zdc_849.2.2.2.2.2.1
theorem dX12_told_217 : decode cX12_told 217 = .ok (.iinc 5 3, 3) := zdc_849.2.2.2.2.2.2.1
theorem dX12_told_220 : decode cX12_told 220 = .ok (.goto (-73), 3) := zdc_849.2.2.2.2.2.2.2.1
theorem dX12_told_223 : decode cX12_told 223 = .ok (.iload_n 3, 1) := zdc_849.2.2.2.2.2.2.2.2.1
theorem dX12_told_224 : decode cX12_told 224 = .ok (.aload_n 0, 1) := zdc_849.2.2.2.2.2.2.2.2.2
theorem zdc_850 : decode cX12_told 225 = .ok (.getfield 35, 3) ∧ decode cX12_told 228 = .ok (.iload 4, 2) ∧ decode cX12_told 230 = .ok (.baload, 1) ∧ decode cX12_told 231 = .ok (.ifCond .eq 7, 3) ∧ decode cX12_told 234 = .ok (.iconst 1, 1) ∧ decode cX12_told 235 = .ok (.goto 4, 3) ∧ decode cX12_told 238 = .ok (.iconst 0, 1) ∧ decode cX12_told 239 = .ok (.iadd, 1) ∧ decode cX12_told 240 = .ok (.istore_n 3, 1) ∧ decode cX12_told 241 = .ok (.iinc 4 1, 3) := by decide +kernel
theorem dX12_told_225 : decode cX12_told 225 = .ok (.getfield 35, 3) := zdc_850.1
theorem dX12_told_228 : decode cX12_told 228 = .ok (.iload 4, 2) := zdc_850.2.1
theorem dX12_told_230 : decode cX12_told 230 = .ok (.baload, 1) := zdc_850.2.2.1
theorem dX12_told_231 : decode cX12_told 231 = .ok (.ifCond .eq 7, 3) := zdc_850.2.2.2.1
theorem dX12_told_234 : decode cX12_told 234 = .ok (.iconst 1, 1) := zdc_850.2.2.2.2.1
theorem dX12_told_235 : decode cX12_told 235 = .ok (.goto 4, 3) := zdc_850.2.2.2.2.2.1
theorem dX12_told_238 : decode cX12_told 238 = .ok (.iconst 0, 1) := zdc_850.2.2.2.2.2.2.1
theorem dX12_told_239 : decode cX12_told 239 = .ok (.iadd, 1) := zdc_850.2.2.2.2.2.2.2.1
theorem dX12_told_240 : decode cX12_told 240 = .ok (.istore_n 3, 1) := zdc_850.2.2.2.2.2.2.2.2.1
theorem dX12_told_241 : decode cX12_told 241 = .ok (.iinc 4 1, 3) := zdc_850.2.2.2.2.2.2.2.2.2
theorem zdc_851 : decode cX12_told 244 = .ok (.goto (-121), 3) ∧ decode cX12_told 247 = .ok (.iload_n 3, 1) ∧ decode cX12_told 248 = .ok (.ireturn, 1) ∧ decode cX12_liars 0 = .ok (.aload_n 0, 1) ∧ decode cX12_liars 1 = .ok (.invokevirtual 326, 3) ∧ decode cX12_liars 4 = .ok (.istore_n 2, 1) ∧ decode cX12_liars 5 = .ok (.aload_n 0, 1) ∧ decode cX12_liars 6 = .ok (.iload_n 2, 1) ∧ decode cX12_liars 7 = .ok (.iconst (-1), 1) ∧ decode cX12_liars 8 = .ok (.if_icmp .ne 7, 3) := by decide +kernel
theorem dX12_told_244 : decode cX12_told 244 = .ok (.goto (-121), 3) := zdc_851.1
theorem dX12_told_247 : decode cX12_told 247 = .ok (.iload_n 3, 1) := zdc_851.2.1
theorem dX12_told_248 : decode cX12_told 248 = .ok (.ireturn, 1) := zdc_851.2.2.1
theorem dX12_liars_0 : decode cX12_liars 0 = .ok (.aload_n 0, 1) := zdc_851.2.2.2.1
theorem dX12_liars_1 : decode cX12_liars 1 = .ok (.invokevirtual 326, 3) := zdc_851.2.2.2.2.1
theorem dX12_liars_4 : decode cX12_liars 4 = .ok (.istore_n 2, 1) := zdc_851.2.2.2.2.2.1
theorem dX12_liars_5 : decode cX12_liars 5 = .ok (.aload_n 0, 1) := zdc_851.2.2.2.2.2.2.1
theorem dX12_liars_6 : decode cX12_liars 6 = .ok (.iload_n 2, 1) := zdc_851.2.2.2.2.2.2.2.1
theorem dX12_liars_7 : decode cX12_liars 7 = .ok (.iconst (-1), 1) := zdc_851.2.2.2.2.2.2.2.2.1
theorem dX12_liars_8 : decode cX12_liars 8 = .ok (.if_icmp .ne 7, 3) := zdc_851.2.2.2.2.2.2.2.2.2
theorem zdc_852 : decode cX12_liars 11 = .ok (.iconst 1, 1) ∧ decode cX12_liars 12 = .ok (.goto 4, 3) ∧ decode cX12_liars 15 = .ok (.iconst 0, 1) ∧ decode cX12_liars 16 = .ok (.putfield 39, 3) ∧ decode cX12_liars 19 = .ok (.aload_n 0, 1) ∧ decode cX12_liars 20 = .ok (.getfield 39, 3) ∧ decode cX12_liars 23 = .ok (.ifCond .gt 7, 3) ∧ decode cX12_liars 26 = .ok (.iload_n 1, 1) ∧ decode cX12_liars 27 = .ok (.ifCond .ne 16, 3) ∧ decode cX12_liars 30 = .ok (.aload_n 0, 1) := by decide +kernel
theorem dX12_liars_11 : decode cX12_liars 11 = .ok (.iconst 1, 1) := zdc_852.1
theorem dX12_liars_12 : decode cX12_liars 12 = .ok (.goto 4, 3) := zdc_852.2.1
theorem dX12_liars_15 : decode cX12_liars 15 = .ok (.iconst 0, 1) := zdc_852.2.2.1
theorem dX12_liars_16 : decode cX12_liars 16 = .ok (.putfield 39, 3) := zdc_852.2.2.2.1
theorem dX12_liars_19 : decode cX12_liars 19 = .ok (.aload_n 0, 1) := zdc_852.2.2.2.2.1
theorem dX12_liars_20 : decode cX12_liars 20 = .ok (.getfield 39, 3) := zdc_852.2.2.2.2.2.1
theorem dX12_liars_23 : decode cX12_liars 23 = .ok (.ifCond .gt 7, 3) := zdc_852.2.2.2.2.2.2.1
theorem dX12_liars_26 : decode cX12_liars 26 = .ok (.iload_n 1, 1) := zdc_852.2.2.2.2.2.2.2.1
theorem dX12_liars_27 : decode cX12_liars 27 = .ok (.ifCond .ne 16, 3) := zdc_852.2.2.2.2.2.2.2.2.1
theorem dX12_liars_30 : decode cX12_liars 30 = .ok (.aload_n 0, 1) := zdc_852.2.2.2.2.2.2.2.2.2
theorem zdc_853 : decode cX12_liars 31 = .ok (.getfield 39, 3) ∧ decode cX12_liars 34 = .ok (.ifCond .le 7, 3) ∧ decode cX12_liars 37 = .ok (.iconst 0, 1) ∧ decode cX12_liars 38 = .ok (.goto 4, 3) ∧ decode cX12_liars 41 = .ok (.iload_n 2, 1) ∧ decode cX12_liars 42 = .ok (.ireturn, 1) ∧ decode cX12_liars 43 = .ok (.iload_n 2, 1) ∧ decode cX12_liars 44 = .ok (.ifCond .ne 7, 3) ∧ decode cX12_liars 47 = .ok (.iconst 0, 1) ∧ decode cX12_liars 48 = .ok (.goto 13, 3) := by decide +kernel
theorem dX12_liars_31 : decode cX12_liars 31 = .ok (.getfield 39, 3) := zdc_853.1
theorem dX12_liars_34 : decode cX12_liars 34 = .ok (.ifCond .le 7, 3) := zdc_853.2.1
theorem dX12_liars_37 : decode cX12_liars 37 = .ok (.iconst 0, 1) := zdc_853.2.2.1
theorem dX12_liars_38 : decode cX12_liars 38 = .ok (.goto 4, 3) := zdc_853.2.2.2.1
theorem dX12_liars_41 : decode cX12_liars 41 = .ok (.iload_n 2, 1) := zdc_853.2.2.2.2.1
theorem dX12_liars_42 : decode cX12_liars 42 = .ok (.ireturn, 1) := zdc_853.2.2.2.2.2.1
theorem dX12_liars_43 : decode cX12_liars 43 = .ok (.iload_n 2, 1) := zdc_853.2.2.2.2.2.2.1
theorem dX12_liars_44 : decode cX12_liars 44 = .ok (.ifCond .ne 7, 3) := zdc_853.2.2.2.2.2.2.2.1
theorem dX12_liars_47 : decode cX12_liars 47 = .ok (.iconst 0, 1) := zdc_853.2.2.2.2.2.2.2.2.1
theorem dX12_liars_48 : decode cX12_liars 48 = .ok (.goto 13, 3) := zdc_853.2.2.2.2.2.2.2.2.2
theorem zdc_854 : decode cX12_liars 51 = .ok (.iconst 1, 1) ∧ decode cX12_liars 52 = .ok (.aload_n 0, 1) ∧ decode cX12_liars 53 = .ok (.getfield 7, 3) ∧ decode cX12_liars 56 = .ok (.iconst 3, 1) ∧ decode cX12_liars 57 = .ok (.iaload, 1) ∧ decode cX12_liars 58 = .ok (.ishl, 1) ∧ decode cX12_liars 59 = .ok (.iconst 1, 1) ∧ decode cX12_liars 60 = .ok (.isub, 1) ∧ decode cX12_liars 61 = .ok (.istore_n 3, 1) ∧ decode cX12_liars 62 = .ok (.iconst 0, 1) := by decide +kernel
theorem dX12_liars_51 : decode cX12_liars 51 = .ok (.iconst 1, 1) := zdc_854.1
theorem dX12_liars_52 : decode cX12_liars 52 = .ok (.aload_n 0, 1) := zdc_854.2.1
theorem dX12_liars_53 : decode cX12_liars 53 = .ok (.getfield 7, 3) := zdc_854.2.2.1
theorem dX12_liars_56 : decode cX12_liars 56 = .ok (.iconst 3, 1) := zdc_854.2.2.2.1
theorem dX12_liars_57 : decode cX12_liars 57 = .ok (.iaload, 1) := zdc_854.2.2.2.2.1
theorem dX12_liars_58 : decode cX12_liars 58 = .ok (.ishl, 1) := zdc_854.2.2.2.2.2.1
theorem dX12_liars_59 : decode cX12_liars 59 = .ok (.iconst 1, 1) := zdc_854.2.2.2.2.2.2.1
theorem dX12_liars_60 : decode cX12_liars 60 = .ok (.isub, 1) := zdc_854.2.2.2.2.2.2.2.1
theorem dX12_liars_61 : decode cX12_liars 61 = .ok (.istore_n 3, 1) := zdc_854.2.2.2.2.2.2.2.2.1
theorem dX12_liars_62 : decode cX12_liars 62 = .ok (.iconst 0, 1) := zdc_854.2.2.2.2.2.2.2.2.2
theorem zdc_855 : decode cX12_liars 63 = .ok (.istore 4, 2) ∧ decode cX12_liars 65 = .ok (.iload 4, 2) ∧ decode cX12_liars 67 = .ok (.iconst 1, 1) ∧ decode cX12_liars 68 = .ok (.aload_n 0, 1) ∧ decode cX12_liars 69 = .ok (.getfield 7, 3) ∧ decode cX12_liars 72 = .ok (.iconst 3, 1) ∧ decode cX12_liars 73 = .ok (.iaload, 1) ∧ decode cX12_liars 74 = .ok (.ishl, 1) ∧ decode cX12_liars 75 = .ok (.if_icmp .ge 24, 3) ∧ decode cX12_liars 78 = .ok (.aload_n 0, 1) := by decide +kernel
theorem dX12_liars_63 : decode cX12_liars 63 = .ok (.istore 4, 2) := zdc_855.1
theorem dX12_liars_65 : decode cX12_liars 65 = .ok (.iload 4, 2) := zdc_855.2.1
theorem dX12_liars_67 : decode cX12_liars 67 = .ok (.iconst 1, 1) := zdc_855.2.2.1
theorem dX12_liars_68 : decode cX12_liars 68 = .ok (.aload_n 0, 1) := zdc_855.2.2.2.1
theorem dX12_liars_69 : decode cX12_liars 69 = .ok (.getfield 7, 3) := zdc_855.2.2.2.2.1
theorem dX12_liars_72 : decode cX12_liars 72 = .ok (.iconst 3, 1) := zdc_855.2.2.2.2.2.1
theorem dX12_liars_73 : decode cX12_liars 73 = .ok (.iaload, 1) := zdc_855.2.2.2.2.2.2.1
theorem dX12_liars_74 : decode cX12_liars 74 = .ok (.ishl, 1) := zdc_855.2.2.2.2.2.2.2.1
theorem dX12_liars_75 : decode cX12_liars 75 = .ok (.if_icmp .ge 24, 3) := zdc_855.2.2.2.2.2.2.2.2.1
theorem dX12_liars_78 : decode cX12_liars 78 = .ok (.aload_n 0, 1) := zdc_855.2.2.2.2.2.2.2.2.2
theorem zdc_856 : decode cX12_liars 79 = .ok (.getfield 35, 3) ∧ decode cX12_liars 82 = .ok (.iload 4, 2) ∧ decode cX12_liars 84 = .ok (.baload, 1) ∧ decode cX12_liars 85 = .ok (.ifCond .eq 8, 3) ∧ decode cX12_liars 88 = .ok (.iload_n 3, 1) ∧ decode cX12_liars 89 = .ok (.iload 4, 2) ∧ decode cX12_liars 91 = .ok (.iand, 1) ∧ decode cX12_liars 92 = .ok (.istore_n 3, 1) ∧ decode cX12_liars 93 = .ok (.iinc 4 1, 3) ∧ decode cX12_liars 96 = .ok (.goto (-31), 3) := by decide +kernel
theorem dX12_liars_79 : decode cX12_liars 79 = .ok (.getfield 35, 3) := zdc_856.1
theorem dX12_liars_82 : decode cX12_liars 82 = .ok (.iload 4, 2) := zdc_856.2.1
theorem dX12_liars_84 : decode cX12_liars 84 = .ok (.baload, 1) := zdc_856.2.2.1
theorem dX12_liars_85 : decode cX12_liars 85 = .ok (.ifCond .eq 8, 3) := zdc_856.2.2.2.1
theorem dX12_liars_88 : decode cX12_liars 88 = .ok (.iload_n 3, 1) := zdc_856.2.2.2.2.1
theorem dX12_liars_89 : decode cX12_liars 89 = .ok (.iload 4, 2) := zdc_856.2.2.2.2.2.1
theorem dX12_liars_91 : decode cX12_liars 91 = .ok (.iand, 1) := zdc_856.2.2.2.2.2.2.1
theorem dX12_liars_92 : decode cX12_liars 92 = .ok (.istore_n 3, 1) := zdc_856.2.2.2.2.2.2.2.1
theorem dX12_liars_93 : decode cX12_liars 93 = .ok (.iinc 4 1, 3) := zdc_856.2.2.2.2.2.2.2.2.1
theorem dX12_liars_96 : decode cX12_liars 96 = .ok (.goto (-31), 3) := zdc_856.2.2.2.2.2.2.2.2.2
theorem zdc_857 : decode cX12_liars 99 = .ok (.iload_n 3, 1) ∧ decode cX12_liars 100 = .ok (.ireturn, 1) ∧ decode cX12_ask 0 = .ok (.aload_n 0, 1) ∧ decode cX12_ask 1 = .ok (.invokevirtual 326, 3) ∧ decode cX12_ask 4 = .ok (.istore_n 1, 1) ∧ decode cX12_ask 5 = .ok (.aload_n 0, 1) ∧ decode cX12_ask 6 = .ok (.iload_n 1, 1) ∧ decode cX12_ask 7 = .ok (.iconst (-1), 1) ∧ decode cX12_ask 8 = .ok (.if_icmp .ne 7, 3) ∧ decode cX12_ask 11 = .ok (.iconst 1, 1) := by decide +kernel
theorem dX12_liars_99 : decode cX12_liars 99 = .ok (.iload_n 3, 1) := zdc_857.1
theorem dX12_liars_100 : decode cX12_liars 100 = .ok (.ireturn, 1) := zdc_857.2.1
theorem dX12_ask_0 : decode cX12_ask 0 = .ok (.aload_n 0, 1) := zdc_857.2.2.1
theorem dX12_ask_1 : decode cX12_ask 1 = .ok (.invokevirtual 326, 3) := zdc_857.2.2.2.1
theorem dX12_ask_4 : decode cX12_ask 4 = .ok (.istore_n 1, 1) := zdc_857.2.2.2.2.1
theorem dX12_ask_5 : decode cX12_ask 5 = .ok (.aload_n 0, 1) := zdc_857.2.2.2.2.2.1
theorem dX12_ask_6 : decode cX12_ask 6 = .ok (.iload_n 1, 1) := zdc_857.2.2.2.2.2.2.1
theorem dX12_ask_7 : decode cX12_ask 7 = .ok (.iconst (-1), 1) := zdc_857.2.2.2.2.2.2.2.1
theorem dX12_ask_8 : decode cX12_ask 8 = .ok (.if_icmp .ne 7, 3) := zdc_857.2.2.2.2.2.2.2.2.1
theorem dX12_ask_11 : decode cX12_ask 11 = .ok (.iconst 1, 1) := zdc_857.2.2.2.2.2.2.2.2.2
theorem zdc_858 : decode cX12_ask 12 = .ok (.goto 4, 3) ∧ decode cX12_ask 15 = .ok (.iconst 0, 1) ∧ decode cX12_ask 16 = .ok (.putfield 39, 3) ∧ decode cX12_ask 19 = .ok (.aload_n 0, 1) ∧ decode cX12_ask 20 = .ok (.getfield 39, 3) ∧ decode cX12_ask 23 = .ok (.ifCond .le 5, 3) ∧ decode cX12_ask 26 = .ok (.iconst 0, 1) ∧ decode cX12_ask 27 = .ok (.ireturn, 1) ∧ decode cX12_ask 28 = .ok (.iconst (-1), 1) ∧ decode cX12_ask 29 = .ok (.istore_n 2, 1) := by decide +kernel
theorem dX12_ask_12 : decode cX12_ask 12 = .ok (.goto 4, 3) := zdc_858.1
theorem dX12_ask_15 : decode cX12_ask 15 = .ok (.iconst 0, 1) := zdc_858.2.1
theorem dX12_ask_16 : decode cX12_ask 16 = .ok (.putfield 39, 3) := zdc_858.2.2.1
theorem dX12_ask_19 : decode cX12_ask 19 = .ok (.aload_n 0, 1) := zdc_858.2.2.2.1
theorem dX12_ask_20 : decode cX12_ask 20 = .ok (.getfield 39, 3) := zdc_858.2.2.2.2.1
theorem dX12_ask_23 : decode cX12_ask 23 = .ok (.ifCond .le 5, 3) := zdc_858.2.2.2.2.2.1
theorem dX12_ask_26 : decode cX12_ask 26 = .ok (.iconst 0, 1) := zdc_858.2.2.2.2.2.2.1
theorem dX12_ask_27 : decode cX12_ask 27 = .ok (.ireturn, 1) := zdc_858.2.2.2.2.2.2.2.1
theorem dX12_ask_28 : decode cX12_ask 28 = .ok (.iconst (-1), 1) := zdc_858.2.2.2.2.2.2.2.2.1
theorem dX12_ask_29 : decode cX12_ask 29 = .ok (.istore_n 2, 1) := zdc_858.2.2.2.2.2.2.2.2.2
theorem zdc_859 : decode cX12_ask 30 = .ok (.ldc_w 329, 3) ∧ decode cX12_ask 33 = .ok (.istore_n 3, 1) ∧ decode cX12_ask 34 = .ok (.iconst 0, 1) ∧ decode cX12_ask 35 = .ok (.istore 4, 2) ∧ decode cX12_ask 37 = .ok (.iload 4, 2) ∧ decode cX12_ask 39 = .ok (.aload_n 0, 1) ∧ decode cX12_ask 40 = .ok (.getfield 7, 3) ∧ decode cX12_ask 43 = .ok (.iconst 3, 1) ∧ decode cX12_ask 44 = .ok (.iaload, 1) ∧ decode cX12_ask 45 = .ok (.if_icmp .ge 136, 3) := by decide +kernel
theorem dX12_ask_30 : decode cX12_ask 30 = .ok (.ldc_w 329, 3) := zdc_859.1
theorem dX12_ask_33 : decode cX12_ask 33 = .ok (.istore_n 3, 1) := zdc_859.2.1
theorem dX12_ask_34 : decode cX12_ask 34 = .ok (.iconst 0, 1) := zdc_859.2.2.1
theorem dX12_ask_35 : decode cX12_ask 35 = .ok (.istore 4, 2) := zdc_859.2.2.2.1
theorem dX12_ask_37 : decode cX12_ask 37 = .ok (.iload 4, 2) := zdc_859.2.2.2.2.1
theorem dX12_ask_39 : decode cX12_ask 39 = .ok (.aload_n 0, 1) := zdc_859.2.2.2.2.2.1
theorem dX12_ask_40 : decode cX12_ask 40 = .ok (.getfield 7, 3) := zdc_859.2.2.2.2.2.2.1
theorem dX12_ask_43 : decode cX12_ask 43 = .ok (.iconst 3, 1) := zdc_859.2.2.2.2.2.2.2.1
theorem dX12_ask_44 : decode cX12_ask 44 = .ok (.iaload, 1) := zdc_859.2.2.2.2.2.2.2.2.1
theorem dX12_ask_45 : decode cX12_ask 45 = .ok (.if_icmp .ge 136, 3) := zdc_859.2.2.2.2.2.2.2.2.2
theorem zdc_860 : decode cX12_ask 48 = .ok (.iload_n 1, 1) ∧ decode cX12_ask 49 = .ok (.iconst 1, 1) ∧ decode cX12_ask 50 = .ok (.if_icmp .le 131, 3) ∧ decode cX12_ask 53 = .ok (.iconst 0, 1) ∧ decode cX12_ask 54 = .ok (.istore 5, 2) ∧ decode cX12_ask 56 = .ok (.iload 5, 2) ∧ decode cX12_ask 58 = .ok (.aload_n 0, 1) ∧ decode cX12_ask 59 = .ok (.getfield 7, 3) ∧ decode cX12_ask 62 = .ok (.iconst 3, 1) ∧ decode cX12_ask 63 = .ok (.iaload, 1) := by decide +kernel
theorem dX12_ask_48 : decode cX12_ask 48 = .ok (.iload_n 1, 1) := zdc_860.1
theorem dX12_ask_49 : decode cX12_ask 49 = .ok (.iconst 1, 1) := zdc_860.2.1
theorem dX12_ask_50 : decode cX12_ask 50 = .ok (.if_icmp .le 131, 3) := zdc_860.2.2.1
theorem dX12_ask_53 : decode cX12_ask 53 = .ok (.iconst 0, 1) := zdc_860.2.2.2.1
theorem dX12_ask_54 : decode cX12_ask 54 = .ok (.istore 5, 2) := zdc_860.2.2.2.2.1
theorem dX12_ask_56 : decode cX12_ask 56 = .ok (.iload 5, 2) := zdc_860.2.2.2.2.2.1
theorem dX12_ask_58 : decode cX12_ask 58 = .ok (.aload_n 0, 1) := zdc_860.2.2.2.2.2.2.1
theorem dX12_ask_59 : decode cX12_ask 59 = .ok (.getfield 7, 3) := zdc_860.2.2.2.2.2.2.2.1
theorem dX12_ask_62 : decode cX12_ask 62 = .ok (.iconst 3, 1) := zdc_860.2.2.2.2.2.2.2.2.1
theorem dX12_ask_63 : decode cX12_ask 63 = .ok (.iaload, 1) := zdc_860.2.2.2.2.2.2.2.2.2
theorem zdc_861 : decode cX12_ask 64 = .ok (.if_icmp .ge 111, 3) ∧ decode cX12_ask 67 = .ok (.iload 4, 2) ∧ decode cX12_ask 69 = .ok (.iload 5, 2) ∧ decode cX12_ask 71 = .ok (.if_icmp .ne 6, 3) ∧ decode cX12_ask 74 = .ok (.goto 95, 3) ∧ decode cX12_ask 77 = .ok (.iconst 0, 1) ∧ decode cX12_ask 78 = .ok (.istore 6, 2) ∧ decode cX12_ask 80 = .ok (.iconst 0, 1) ∧ decode cX12_ask 81 = .ok (.istore 7, 2) ∧ decode cX12_ask 83 = .ok (.iload 7, 2) := by decide +kernel
theorem dX12_ask_64 : decode cX12_ask 64 = .ok (.if_icmp .ge 111, 3) := zdc_861.1
theorem dX12_ask_67 : decode cX12_ask 67 = .ok (.iload 4, 2) := zdc_861.2.1
theorem dX12_ask_69 : decode cX12_ask 69 = .ok (.iload 5, 2) := zdc_861.2.2.1
theorem dX12_ask_71 : decode cX12_ask 71 = .ok (.if_icmp .ne 6, 3) := zdc_861.2.2.2.1
theorem dX12_ask_74 : decode cX12_ask 74 = .ok (.goto 95, 3) := zdc_861.2.2.2.2.1
theorem dX12_ask_77 : decode cX12_ask 77 = .ok (.iconst 0, 1) := zdc_861.2.2.2.2.2.1
theorem dX12_ask_78 : decode cX12_ask 78 = .ok (.istore 6, 2) := zdc_861.2.2.2.2.2.2.1
theorem dX12_ask_80 : decode cX12_ask 80 = .ok (.iconst 0, 1) := zdc_861.2.2.2.2.2.2.2.1
theorem dX12_ask_81 : decode cX12_ask 81 = .ok (.istore 7, 2) := zdc_861.2.2.2.2.2.2.2.2.1
theorem dX12_ask_83 : decode cX12_ask 83 = .ok (.iload 7, 2) := zdc_861.2.2.2.2.2.2.2.2.2
theorem zdc_862 : decode cX12_ask 85 = .ok (.iconst 1, 1) ∧ decode cX12_ask 86 = .ok (.aload_n 0, 1) ∧ decode cX12_ask 87 = .ok (.getfield 7, 3) ∧ decode cX12_ask 90 = .ok (.iconst 3, 1) ∧ decode cX12_ask 91 = .ok (.iaload, 1) ∧ decode cX12_ask 92 = .ok (.ishl, 1) ∧ decode cX12_ask 93 = .ok (.if_icmp .ge 41, 3) ∧ decode cX12_ask 96 = .ok (.iload 6, 2) ∧ decode cX12_ask 98 = .ok (.aload_n 0, 1) ∧ decode cX12_ask 99 = .ok (.getfield 35, 3) := by decide +kernel
theorem dX12_ask_85 : decode cX12_ask 85 = .ok (.iconst 1, 1) := zdc_862.1
theorem dX12_ask_86 : decode cX12_ask 86 = .ok (.aload_n 0, 1) := zdc_862.2.1
theorem dX12_ask_87 : decode cX12_ask 87 = .ok (.getfield 7, 3) := zdc_862.2.2.1
theorem dX12_ask_90 : decode cX12_ask 90 = .ok (.iconst 3, 1) := zdc_862.2.2.2.1
theorem dX12_ask_91 : decode cX12_ask 91 = .ok (.iaload, 1) := zdc_862.2.2.2.2.1
theorem dX12_ask_92 : decode cX12_ask 92 = .ok (.ishl, 1) := zdc_862.2.2.2.2.2.1
theorem dX12_ask_93 : decode cX12_ask 93 = .ok (.if_icmp .ge 41, 3) := zdc_862.2.2.2.2.2.2.1
theorem dX12_ask_96 : decode cX12_ask 96 = .ok (.iload 6, 2) := zdc_862.2.2.2.2.2.2.2.1
theorem dX12_ask_98 : decode cX12_ask 98 = .ok (.aload_n 0, 1) := zdc_862.2.2.2.2.2.2.2.2.1
theorem dX12_ask_99 : decode cX12_ask 99 = .ok (.getfield 35, 3) := zdc_862.2.2.2.2.2.2.2.2.2
theorem zdc_863 : decode cX12_ask 102 = .ok (.iload 7, 2) ∧ decode cX12_ask 104 = .ok (.baload, 1) ∧ decode cX12_ask 105 = .ok (.ifCond .eq 19, 3) ∧ decode cX12_ask 108 = .ok (.iload 7, 2) ∧ decode cX12_ask 110 = .ok (.iload 4, 2) ∧ decode cX12_ask 112 = .ok (.iload 5, 2) ∧ decode cX12_ask 114 = .ok (.invokestatic 323, 3) ∧ decode cX12_ask 117 = .ok (.ifCond .eq 7, 3) ∧ decode cX12_ask 120 = .ok (.iconst 1, 1) ∧ decode cX12_ask 121 = .ok (.goto 4, 3) := by decide +kernel
theorem dX12_ask_102 : decode cX12_ask 102 = .ok (.iload 7, 2) := zdc_863.1
theorem dX12_ask_104 : decode cX12_ask 104 = .ok (.baload, 1) := zdc_863.2.1
theorem dX12_ask_105 : decode cX12_ask 105 = .ok (.ifCond .eq 19, 3) := zdc_863.2.2.1
theorem dX12_ask_108 : decode cX12_ask 108 = .ok (.iload 7, 2) := zdc_863.2.2.2.1
theorem dX12_ask_110 : decode cX12_ask 110 = .ok (.iload 4, 2) := zdc_863.2.2.2.2.1
theorem dX12_ask_112 : decode cX12_ask 112 = .ok (.iload 5, 2) := zdc_863.2.2.2.2.2.1
theorem dX12_ask_114 : decode cX12_ask 114 = .ok (.invokestatic 323, 3) := zdc_863.2.2.2.2.2.2.1
theorem dX12_ask_117 : decode cX12_ask 117 = .ok (.ifCond .eq 7, 3) := zdc_863.2.2.2.2.2.2.2.1
theorem dX12_ask_120 : decode cX12_ask 120 = .ok (.iconst 1, 1) := zdc_863.2.2.2.2.2.2.2.2.1
theorem dX12_ask_121 : decode cX12_ask 121 = .ok (.goto 4, 3) := zdc_863.2.2.2.2.2.2.2.2.2
theorem zdc_864 : decode cX12_ask 124 = .ok (.iconst 0, 1) ∧ decode cX12_ask 125 = .ok (.iadd, 1) ∧ decode cX12_ask 126 = .ok (.istore 6, 2) ∧ decode cX12_ask 128 = .ok (.iinc 7 1, 3) ∧ decode cX12_ask 131 = .ok (.goto (-48), 3) ∧ decode cX12_ask 134 = .ok (.iload 6, 2) ∧ decode cX12_ask 136 = .ok (.iload_n 1, 1) ∧ decode cX12_ask 137 = .ok (.iload 6, 2) ∧ decode cX12_ask 139 = .ok (.isub, 1) ∧ decode cX12_ask 140 = .ok (.invokestatic 251, 3) := by decide +kernel
theorem dX12_ask_124 : decode cX12_ask 124 = .ok (.iconst 0, 1) := zdc_864.1
theorem dX12_ask_125 : decode cX12_ask 125 = .ok (.iadd, 1) := zdc_864.2.1
theorem dX12_ask_126 : decode cX12_ask 126 = .ok (.istore 6, 2) := zdc_864.2.2.1
theorem dX12_ask_128 : decode cX12_ask 128 = .ok (.iinc 7 1, 3) := zdc_864.2.2.2.1
theorem dX12_ask_131 : decode cX12_ask 131 = .ok (.goto (-48), 3) := zdc_864.2.2.2.2.1
theorem dX12_ask_134 : decode cX12_ask 134 = .ok (.iload 6, 2) := zdc_864.2.2.2.2.2.1
theorem dX12_ask_136 : decode cX12_ask 136 = .ok (.iload_n 1, 1) := zdc_864.2.2.2.2.2.2.1
theorem dX12_ask_137 : decode cX12_ask 137 = .ok (.iload 6, 2) := zdc_864.2.2.2.2.2.2.2.1
theorem dX12_ask_139 : decode cX12_ask 139 = .ok (.isub, 1) := zdc_864.2.2.2.2.2.2.2.2.1
theorem dX12_ask_140 : decode cX12_ask 140 = .ok (.invokestatic 251, 3) := zdc_864.2.2.2.2.2.2.2.2.2
theorem zdc_865 : decode cX12_ask 143 = .ok (.iload_n 3, 1) ∧ decode cX12_ask 144 = .ok (.if_icmp .lt 6, 3) ∧ decode cX12_ask 147 = .ok (.goto 22, 3) ∧ decode cX12_ask 150 = .ok (.iload 6, 2) ∧ decode cX12_ask 152 = .ok (.iload_n 1, 1) ∧ decode cX12_ask 153 = .ok (.iload 6, 2) ∧ decode cX12_ask 155 = .ok (.isub, 1) ∧ decode cX12_ask 156 = .ok (.invokestatic 251, 3) ∧ decode cX12_ask 159 = .ok (.istore_n 3, 1) ∧ decode cX12_ask 160 = .ok (.bipush 10, 2) := by decide +kernel
theorem dX12_ask_143 : decode cX12_ask 143 = .ok (.iload_n 3, 1) := zdc_865.1
theorem dX12_ask_144 : decode cX12_ask 144 = .ok (.if_icmp .lt 6, 3) := zdc_865.2.1
theorem dX12_ask_147 : decode cX12_ask 147 = .ok (.goto 22, 3) := zdc_865.2.2.1
theorem dX12_ask_150 : decode cX12_ask 150 = .ok (.iload 6, 2) := zdc_865.2.2.2.1
theorem dX12_ask_152 : decode cX12_ask 152 = .ok (.iload_n 1, 1) := zdc_865.2.2.2.2.1
theorem dX12_ask_153 : decode cX12_ask 153 = .ok (.iload 6, 2) := zdc_865.2.2.2.2.2.1
theorem dX12_ask_155 : decode cX12_ask 155 = .ok (.isub, 1) := zdc_865.2.2.2.2.2.2.1
theorem dX12_ask_156 : decode cX12_ask 156 = .ok (.invokestatic 251, 3) := zdc_865.2.2.2.2.2.2.2.1
theorem dX12_ask_159 : decode cX12_ask 159 = .ok (.istore_n 3, 1) := zdc_865.2.2.2.2.2.2.2.2.1
theorem dX12_ask_160 : decode cX12_ask 160 = .ok (.bipush 10, 2) := zdc_865.2.2.2.2.2.2.2.2.2
theorem zdc_866 : decode cX12_ask 162 = .ok (.iload 4, 2) ∧ decode cX12_ask 164 = .ok (.imul, 1) ∧ decode cX12_ask 165 = .ok (.iload 5, 2) ∧ decode cX12_ask 167 = .ok (.iadd, 1) ∧ decode cX12_ask 168 = .ok (.istore_n 2, 1) ∧ decode cX12_ask 169 = .ok (.iinc 5 1, 3) ∧ decode cX12_ask 172 = .ok (.goto (-116), 3) ∧ decode cX12_ask 175 = .ok (.iinc 4 1, 3) ∧ decode cX12_ask 178 = .ok (.goto (-141), 3) ∧ decode cX12_ask 181 = .ok (.iload_n 2, 1) := by decide +kernel
theorem dX12_ask_162 : decode cX12_ask 162 = .ok (.iload 4, 2) := zdc_866.1
theorem dX12_ask_164 : decode cX12_ask 164 = .ok (.imul, 1) := zdc_866.2.1
theorem dX12_ask_165 : decode cX12_ask 165 = .ok (.iload 5, 2) := zdc_866.2.2.1
theorem dX12_ask_167 : decode cX12_ask 167 = .ok (.iadd, 1) := zdc_866.2.2.2.1
theorem dX12_ask_168 : decode cX12_ask 168 = .ok (.istore_n 2, 1) := zdc_866.2.2.2.2.1
theorem dX12_ask_169 : decode cX12_ask 169 = .ok (.iinc 5 1, 3) := zdc_866.2.2.2.2.2.1
theorem dX12_ask_172 : decode cX12_ask 172 = .ok (.goto (-116), 3) := zdc_866.2.2.2.2.2.2.1
theorem dX12_ask_175 : decode cX12_ask 175 = .ok (.iinc 4 1, 3) := zdc_866.2.2.2.2.2.2.2.1
theorem dX12_ask_178 : decode cX12_ask 178 = .ok (.goto (-141), 3) := zdc_866.2.2.2.2.2.2.2.2.1
theorem dX12_ask_181 : decode cX12_ask 181 = .ok (.iload_n 2, 1) := zdc_866.2.2.2.2.2.2.2.2.2
theorem zdc_867 : decode cX12_ask 182 = .ok (.ireturn, 1) ∧ decode cX12_passes 0 = .ok (.iload_n 1, 1) ∧ decode cX12_passes 1 = .ok (.istore_n 3, 1) ∧ decode cX12_passes 2 = .ok (.iconst 0, 1) ∧ decode cX12_passes 3 = .ok (.istore 4, 2) ∧ decode cX12_passes 5 = .ok (.iload 4, 2) ∧ decode cX12_passes 7 = .ok (.iload_n 2, 1) ∧ decode cX12_passes 8 = .ok (.if_icmp .ge 87, 3) ∧ decode cX12_passes 11 = .ok (.iload_n 3, 1) ∧ decode cX12_passes 12 = .ok (.istore 5, 2) := by decide +kernel
theorem dX12_ask_182 : decode cX12_ask 182 = .ok (.ireturn, 1) := zdc_867.1
theorem dX12_passes_0 : decode cX12_passes 0 = .ok (.iload_n 1, 1) := zdc_867.2.1
theorem dX12_passes_1 : decode cX12_passes 1 = .ok (.istore_n 3, 1) := zdc_867.2.2.1
theorem dX12_passes_2 : decode cX12_passes 2 = .ok (.iconst 0, 1) := zdc_867.2.2.2.1
theorem dX12_passes_3 : decode cX12_passes 3 = .ok (.istore 4, 2) := zdc_867.2.2.2.2.1
theorem dX12_passes_5 : decode cX12_passes 5 = .ok (.iload 4, 2) := zdc_867.2.2.2.2.2.1
theorem dX12_passes_7 : decode cX12_passes 7 = .ok (.iload_n 2, 1) := zdc_867.2.2.2.2.2.2.1
theorem dX12_passes_8 : decode cX12_passes 8 = .ok (.if_icmp .ge 87, 3) := zdc_867.2.2.2.2.2.2.2.1
theorem dX12_passes_11 : decode cX12_passes 11 = .ok (.iload_n 3, 1) := zdc_867.2.2.2.2.2.2.2.2.1
theorem dX12_passes_12 : decode cX12_passes 12 = .ok (.istore 5, 2) := zdc_867.2.2.2.2.2.2.2.2.2
theorem zdc_868 : decode cX12_passes 14 = .ok (.iconst 0, 1) ∧ decode cX12_passes 15 = .ok (.istore 6, 2) ∧ decode cX12_passes 17 = .ok (.iload 6, 2) ∧ decode cX12_passes 19 = .ok (.aload_n 0, 1) ∧ decode cX12_passes 20 = .ok (.getfield 7, 3) ∧ decode cX12_passes 23 = .ok (.iconst 3, 1) ∧ decode cX12_passes 24 = .ok (.iaload, 1) ∧ decode cX12_passes 25 = .ok (.if_icmp .ge 64, 3) ∧ decode cX12_passes 28 = .ok (.iconst 0, 1) ∧ decode cX12_passes 29 = .ok (.istore 7, 2) := by decide +kernel
theorem dX12_passes_14 : decode cX12_passes 14 = .ok (.iconst 0, 1) := zdc_868.1
theorem dX12_passes_15 : decode cX12_passes 15 = .ok (.istore 6, 2) := zdc_868.2.1
theorem dX12_passes_17 : decode cX12_passes 17 = .ok (.iload 6, 2) := zdc_868.2.2.1
theorem dX12_passes_19 : decode cX12_passes 19 = .ok (.aload_n 0, 1) := zdc_868.2.2.2.1
theorem dX12_passes_20 : decode cX12_passes 20 = .ok (.getfield 7, 3) := zdc_868.2.2.2.2.1
theorem dX12_passes_23 : decode cX12_passes 23 = .ok (.iconst 3, 1) := zdc_868.2.2.2.2.2.1
theorem dX12_passes_24 : decode cX12_passes 24 = .ok (.iaload, 1) := zdc_868.2.2.2.2.2.2.1
theorem dX12_passes_25 : decode cX12_passes 25 = .ok (.if_icmp .ge 64, 3) := zdc_868.2.2.2.2.2.2.2.1
theorem dX12_passes_28 : decode cX12_passes 28 = .ok (.iconst 0, 1) := zdc_868.2.2.2.2.2.2.2.2.1
theorem dX12_passes_29 : decode cX12_passes 29 = .ok (.istore 7, 2) := zdc_868.2.2.2.2.2.2.2.2.2
theorem zdc_869 : decode cX12_passes 31 = .ok (.iload 7, 2) ∧ decode cX12_passes 33 = .ok (.aload_n 0, 1) ∧ decode cX12_passes 34 = .ok (.getfield 7, 3) ∧ decode cX12_passes 37 = .ok (.iconst 3, 1) ∧ decode cX12_passes 38 = .ok (.iaload, 1) ∧ decode cX12_passes 39 = .ok (.if_icmp .ge 44, 3) ∧ decode cX12_passes 42 = .ok (.iload 6, 2) ∧ decode cX12_passes 44 = .ok (.iload 7, 2) ∧ decode cX12_passes 46 = .ok (.if_icmp .eq 31, 3) ∧ decode cX12_passes 49 = .ok (.iload 5, 2) := by decide +kernel
theorem dX12_passes_31 : decode cX12_passes 31 = .ok (.iload 7, 2) := zdc_869.1
theorem dX12_passes_33 : decode cX12_passes 33 = .ok (.aload_n 0, 1) := zdc_869.2.1
theorem dX12_passes_34 : decode cX12_passes 34 = .ok (.getfield 7, 3) := zdc_869.2.2.1
theorem dX12_passes_37 : decode cX12_passes 37 = .ok (.iconst 3, 1) := zdc_869.2.2.2.1
theorem dX12_passes_38 : decode cX12_passes 38 = .ok (.iaload, 1) := zdc_869.2.2.2.2.1
theorem dX12_passes_39 : decode cX12_passes 39 = .ok (.if_icmp .ge 44, 3) := zdc_869.2.2.2.2.2.1
theorem dX12_passes_42 : decode cX12_passes 42 = .ok (.iload 6, 2) := zdc_869.2.2.2.2.2.2.1
theorem dX12_passes_44 : decode cX12_passes 44 = .ok (.iload 7, 2) := zdc_869.2.2.2.2.2.2.2.1
theorem dX12_passes_46 : decode cX12_passes 46 = .ok (.if_icmp .eq 31, 3) := zdc_869.2.2.2.2.2.2.2.2.1
theorem dX12_passes_49 : decode cX12_passes 49 = .ok (.iload 5, 2) := zdc_869.2.2.2.2.2.2.2.2.2
theorem zdc_870 : decode cX12_passes 51 = .ok (.iload 7, 2) ∧ decode cX12_passes 53 = .ok (.invokestatic 296, 3) ∧ decode cX12_passes 56 = .ok (.ifCond .eq 21, 3) ∧ decode cX12_passes 59 = .ok (.aload_n 0, 1) ∧ decode cX12_passes 60 = .ok (.iload 6, 2) ∧ decode cX12_passes 62 = .ok (.iload 7, 2) ∧ decode cX12_passes 64 = .ok (.invokevirtual 71, 3) ∧ decode cX12_passes 67 = .ok (.ifCond .le 10, 3) ∧ decode cX12_passes 70 = .ok (.iload_n 3, 1) ∧ decode cX12_passes 71 = .ok (.iconst 1, 1) := by decide +kernel
theorem dX12_passes_51 : decode cX12_passes 51 = .ok (.iload 7, 2) := zdc_870.1
theorem dX12_passes_53 : decode cX12_passes 53 = .ok (.invokestatic 296, 3) := zdc_870.2.1
theorem dX12_passes_56 : decode cX12_passes 56 = .ok (.ifCond .eq 21, 3) := zdc_870.2.2.1
theorem dX12_passes_59 : decode cX12_passes 59 = .ok (.aload_n 0, 1) := zdc_870.2.2.2.1
theorem dX12_passes_60 : decode cX12_passes 60 = .ok (.iload 6, 2) := zdc_870.2.2.2.2.1
theorem dX12_passes_62 : decode cX12_passes 62 = .ok (.iload 7, 2) := zdc_870.2.2.2.2.2.1
theorem dX12_passes_64 : decode cX12_passes 64 = .ok (.invokevirtual 71, 3) := zdc_870.2.2.2.2.2.2.1
theorem dX12_passes_67 : decode cX12_passes 67 = .ok (.ifCond .le 10, 3) := zdc_870.2.2.2.2.2.2.2.1
theorem dX12_passes_70 : decode cX12_passes 70 = .ok (.iload_n 3, 1) := zdc_870.2.2.2.2.2.2.2.2.1
theorem dX12_passes_71 : decode cX12_passes 71 = .ok (.iconst 1, 1) := zdc_870.2.2.2.2.2.2.2.2.2
theorem zdc_871 : decode cX12_passes 72 = .ok (.iload 6, 2) ∧ decode cX12_passes 74 = .ok (.ishl, 1) ∧ decode cX12_passes 75 = .ok (.ior, 1) ∧ decode cX12_passes 76 = .ok (.istore_n 3, 1) ∧ decode cX12_passes 77 = .ok (.iinc 7 1, 3) ∧ decode cX12_passes 80 = .ok (.goto (-49), 3) ∧ decode cX12_passes 83 = .ok (.iinc 6 1, 3) ∧ decode cX12_passes 86 = .ok (.goto (-69), 3) ∧ decode cX12_passes 89 = .ok (.iinc 4 1, 3) ∧ decode cX12_passes 92 = .ok (.goto (-87), 3) := by decide +kernel
theorem dX12_passes_72 : decode cX12_passes 72 = .ok (.iload 6, 2) := zdc_871.1
theorem dX12_passes_74 : decode cX12_passes 74 = .ok (.ishl, 1) := zdc_871.2.1
theorem dX12_passes_75 : decode cX12_passes 75 = .ok (.ior, 1) := zdc_871.2.2.1
theorem dX12_passes_76 : decode cX12_passes 76 = .ok (.istore_n 3, 1) := zdc_871.2.2.2.1
theorem dX12_passes_77 : decode cX12_passes 77 = .ok (.iinc 7 1, 3) := zdc_871.2.2.2.2.1
theorem dX12_passes_80 : decode cX12_passes 80 = .ok (.goto (-49), 3) := zdc_871.2.2.2.2.2.1
theorem dX12_passes_83 : decode cX12_passes 83 = .ok (.iinc 6 1, 3) := zdc_871.2.2.2.2.2.2.1
theorem dX12_passes_86 : decode cX12_passes 86 = .ok (.goto (-69), 3) := zdc_871.2.2.2.2.2.2.2.1
theorem dX12_passes_89 : decode cX12_passes 89 = .ok (.iinc 4 1, 3) := zdc_871.2.2.2.2.2.2.2.2.1
theorem dX12_passes_92 : decode cX12_passes 92 = .ok (.goto (-87), 3) := zdc_871.2.2.2.2.2.2.2.2.2
theorem zdc_872 : decode cX12_passes 95 = .ok (.iload_n 3, 1) ∧ decode cX12_passes 96 = .ok (.ireturn, 1) ∧ decode cX12_word 0 = .ok (.aload_n 0, 1) ∧ decode cX12_word 1 = .ok (.aload_n 0, 1) ∧ decode cX12_word 2 = .ok (.iload_n 1, 1) ∧ decode cX12_word 3 = .ok (.invokevirtual 280, 3) ∧ decode cX12_word 6 = .ok (.ifCond .ne 7, 3) ∧ decode cX12_word 9 = .ok (.iconst 1, 1) ∧ decode cX12_word 10 = .ok (.goto 4, 3) ∧ decode cX12_word 13 = .ok (.iconst 0, 1) := by decide +kernel
theorem dX12_passes_95 : decode cX12_passes 95 = .ok (.iload_n 3, 1) := zdc_872.1
theorem dX12_passes_96 : decode cX12_passes 96 = .ok (.ireturn, 1) := zdc_872.2.1
theorem dX12_word_0 : decode cX12_word 0 = .ok (.aload_n 0, 1) := zdc_872.2.2.1
theorem dX12_word_1 : decode cX12_word 1 = .ok (.aload_n 0, 1) := zdc_872.2.2.2.1
theorem dX12_word_2 : decode cX12_word 2 = .ok (.iload_n 1, 1) := zdc_872.2.2.2.2.1
theorem dX12_word_3 : decode cX12_word 3 = .ok (.invokevirtual 280, 3) := zdc_872.2.2.2.2.2.1
theorem dX12_word_6 : decode cX12_word 6 = .ok (.ifCond .ne 7, 3) := zdc_872.2.2.2.2.2.2.1
theorem dX12_word_9 : decode cX12_word 9 = .ok (.iconst 1, 1) := zdc_872.2.2.2.2.2.2.2.1
theorem dX12_word_10 : decode cX12_word 10 = .ok (.goto 4, 3) := zdc_872.2.2.2.2.2.2.2.2.1
theorem dX12_word_13 : decode cX12_word 13 = .ok (.iconst 0, 1) := zdc_872.2.2.2.2.2.2.2.2.2
theorem zdc_873 : decode cX12_word 14 = .ok (.putfield 39, 3) ∧ decode cX12_word 17 = .ok (.aload_n 0, 1) ∧ decode cX12_word 18 = .ok (.getfield 39, 3) ∧ decode cX12_word 21 = .ok (.ifCond .le 7, 3) ∧ decode cX12_word 24 = .ok (.iconst 0, 1) ∧ decode cX12_word 25 = .ok (.goto 18, 3) ∧ decode cX12_word 28 = .ok (.aload_n 0, 1) ∧ decode cX12_word 29 = .ok (.iconst 1, 1) ∧ decode cX12_word 30 = .ok (.iload_n 1, 1) ∧ decode cX12_word 31 = .ok (.ishl, 1) := by decide +kernel
theorem dX12_word_14 : decode cX12_word 14 = .ok (.putfield 39, 3) := zdc_873.1
theorem dX12_word_17 : decode cX12_word 17 = .ok (.aload_n 0, 1) := zdc_873.2.1
theorem dX12_word_18 : decode cX12_word 18 = .ok (.getfield 39, 3) := zdc_873.2.2.1
theorem dX12_word_21 : decode cX12_word 21 = .ok (.ifCond .le 7, 3) := zdc_873.2.2.2.1
theorem dX12_word_24 : decode cX12_word 24 = .ok (.iconst 0, 1) := zdc_873.2.2.2.2.1
theorem dX12_word_25 : decode cX12_word 25 = .ok (.goto 18, 3) := zdc_873.2.2.2.2.2.1
theorem dX12_word_28 : decode cX12_word 28 = .ok (.aload_n 0, 1) := zdc_873.2.2.2.2.2.2.1
theorem dX12_word_29 : decode cX12_word 29 = .ok (.iconst 1, 1) := zdc_873.2.2.2.2.2.2.2.1
theorem dX12_word_30 : decode cX12_word 30 = .ok (.iload_n 1, 1) := zdc_873.2.2.2.2.2.2.2.2.1
theorem dX12_word_31 : decode cX12_word 31 = .ok (.ishl, 1) := zdc_873.2.2.2.2.2.2.2.2.2
theorem zdc_874 : decode cX12_word 32 = .ok (.bipush 8, 2) ∧ decode cX12_word 34 = .ok (.invokevirtual 330, 3) ∧ decode cX12_word 37 = .ok (.iconst 1, 1) ∧ decode cX12_word 38 = .ok (.iload_n 1, 1) ∧ decode cX12_word 39 = .ok (.ishl, 1) ∧ decode cX12_word 40 = .ok (.iconst (-1), 1) ∧ decode cX12_word 41 = .ok (.ixor, 1) ∧ decode cX12_word 42 = .ok (.iand, 1) ∧ decode cX12_word 43 = .ok (.ireturn, 1) ∧ decode cX12_steps 0 = .ok (.aload_n 0, 1) := by decide +kernel
theorem dX12_word_32 : decode cX12_word 32 = .ok (.bipush 8, 2) := zdc_874.1
theorem dX12_word_34 : decode cX12_word 34 = .ok (.invokevirtual 330, 3) := zdc_874.2.1
theorem dX12_word_37 : decode cX12_word 37 = .ok (.iconst 1, 1) := zdc_874.2.2.1
theorem dX12_word_38 : decode cX12_word 38 = .ok (.iload_n 1, 1) := zdc_874.2.2.2.1
theorem dX12_word_39 : decode cX12_word 39 = .ok (.ishl, 1) := zdc_874.2.2.2.2.1
theorem dX12_word_40 : decode cX12_word 40 = .ok (.iconst (-1), 1) := zdc_874.2.2.2.2.2.1
theorem dX12_word_41 : decode cX12_word 41 = .ok (.ixor, 1) := zdc_874.2.2.2.2.2.2.1
theorem dX12_word_42 : decode cX12_word 42 = .ok (.iand, 1) := zdc_874.2.2.2.2.2.2.2.1
theorem dX12_word_43 : decode cX12_word 43 = .ok (.ireturn, 1) := zdc_874.2.2.2.2.2.2.2.2.1
theorem dX12_steps_0 : decode cX12_steps 0 = .ok (.aload_n 0, 1) := zdc_874.2.2.2.2.2.2.2.2.2
theorem zdc_875 : decode cX12_steps 1 = .ok (.aload_n 0, 1) ∧ decode cX12_steps 2 = .ok (.iload_n 1, 1) ∧ decode cX12_steps 3 = .ok (.invokevirtual 280, 3) ∧ decode cX12_steps 6 = .ok (.ifCond .eq 11, 3) ∧ decode cX12_steps 9 = .ok (.aload_n 0, 1) ∧ decode cX12_steps 10 = .ok (.iload_n 2, 1) ∧ decode cX12_steps 11 = .ok (.invokevirtual 280, 3) ∧ decode cX12_steps 14 = .ok (.ifCond .ne 7, 3) ∧ decode cX12_steps 17 = .ok (.iconst 1, 1) ∧ decode cX12_steps 18 = .ok (.goto 13, 3) := by decide +kernel
theorem dX12_steps_1 : decode cX12_steps 1 = .ok (.aload_n 0, 1) := zdc_875.1
theorem dX12_steps_2 : decode cX12_steps 2 = .ok (.iload_n 1, 1) := zdc_875.2.1
theorem dX12_steps_3 : decode cX12_steps 3 = .ok (.invokevirtual 280, 3) := zdc_875.2.2.1
theorem dX12_steps_6 : decode cX12_steps 6 = .ok (.ifCond .eq 11, 3) := zdc_875.2.2.2.1
theorem dX12_steps_9 : decode cX12_steps 9 = .ok (.aload_n 0, 1) := zdc_875.2.2.2.2.1
theorem dX12_steps_10 : decode cX12_steps 10 = .ok (.iload_n 2, 1) := zdc_875.2.2.2.2.2.1
theorem dX12_steps_11 : decode cX12_steps 11 = .ok (.invokevirtual 280, 3) := zdc_875.2.2.2.2.2.2.1
theorem dX12_steps_14 : decode cX12_steps 14 = .ok (.ifCond .ne 7, 3) := zdc_875.2.2.2.2.2.2.2.1
theorem dX12_steps_17 : decode cX12_steps 17 = .ok (.iconst 1, 1) := zdc_875.2.2.2.2.2.2.2.2.1
theorem dX12_steps_18 : decode cX12_steps 18 = .ok (.goto 13, 3) := zdc_875.2.2.2.2.2.2.2.2.2
theorem zdc_876 : decode cX12_steps 21 = .ok (.iload_n 1, 1) ∧ decode cX12_steps 22 = .ok (.iload_n 2, 1) ∧ decode cX12_steps 23 = .ok (.if_icmp .ne 7, 3) ∧ decode cX12_steps 26 = .ok (.iconst 2, 1) ∧ decode cX12_steps 27 = .ok (.goto 4, 3) ∧ decode cX12_steps 30 = .ok (.iconst 0, 1) ∧ decode cX12_steps 31 = .ok (.putfield 39, 3) ∧ decode cX12_steps 34 = .ok (.aload_n 0, 1) ∧ decode cX12_steps 35 = .ok (.getfield 39, 3) ∧ decode cX12_steps 38 = .ok (.ifCond .le 5, 3) := by decide +kernel
theorem dX12_steps_21 : decode cX12_steps 21 = .ok (.iload_n 1, 1) := zdc_876.1
theorem dX12_steps_22 : decode cX12_steps 22 = .ok (.iload_n 2, 1) := zdc_876.2.1
theorem dX12_steps_23 : decode cX12_steps 23 = .ok (.if_icmp .ne 7, 3) := zdc_876.2.2.1
theorem dX12_steps_26 : decode cX12_steps 26 = .ok (.iconst 2, 1) := zdc_876.2.2.2.1
theorem dX12_steps_27 : decode cX12_steps 27 = .ok (.goto 4, 3) := zdc_876.2.2.2.2.1
theorem dX12_steps_30 : decode cX12_steps 30 = .ok (.iconst 0, 1) := zdc_876.2.2.2.2.2.1
theorem dX12_steps_31 : decode cX12_steps 31 = .ok (.putfield 39, 3) := zdc_876.2.2.2.2.2.2.1
theorem dX12_steps_34 : decode cX12_steps 34 = .ok (.aload_n 0, 1) := zdc_876.2.2.2.2.2.2.2.1
theorem dX12_steps_35 : decode cX12_steps 35 = .ok (.getfield 39, 3) := zdc_876.2.2.2.2.2.2.2.2.1
theorem dX12_steps_38 : decode cX12_steps 38 = .ok (.ifCond .le 5, 3) := zdc_876.2.2.2.2.2.2.2.2.2
theorem zdc_877 : decode cX12_steps 41 = .ok (.iconst 0, 1) ∧ decode cX12_steps 42 = .ok (.ireturn, 1) ∧ decode cX12_steps 43 = .ok (.iconst 1, 1) ∧ decode cX12_steps 44 = .ok (.istore_n 3, 1) ∧ decode cX12_steps 45 = .ok (.iload_n 3, 1) ∧ decode cX12_steps 46 = .ok (.bipush 8, 2) ∧ decode cX12_steps 48 = .ok (.if_icmp .ge 26, 3) ∧ decode cX12_steps 51 = .ok (.aload_n 0, 1) ∧ decode cX12_steps 52 = .ok (.iconst 1, 1) ∧ decode cX12_steps 53 = .ok (.iload_n 1, 1) := by decide +kernel
theorem dX12_steps_41 : decode cX12_steps 41 = .ok (.iconst 0, 1) := zdc_877.1
theorem dX12_steps_42 : decode cX12_steps 42 = .ok (.ireturn, 1) := zdc_877.2.1
theorem dX12_steps_43 : decode cX12_steps 43 = .ok (.iconst 1, 1) := zdc_877.2.2.1
theorem dX12_steps_44 : decode cX12_steps 44 = .ok (.istore_n 3, 1) := zdc_877.2.2.2.1
theorem dX12_steps_45 : decode cX12_steps 45 = .ok (.iload_n 3, 1) := zdc_877.2.2.2.2.1
theorem dX12_steps_46 : decode cX12_steps 46 = .ok (.bipush 8, 2) := zdc_877.2.2.2.2.2.1
theorem dX12_steps_48 : decode cX12_steps 48 = .ok (.if_icmp .ge 26, 3) := zdc_877.2.2.2.2.2.2.1
theorem dX12_steps_51 : decode cX12_steps 51 = .ok (.aload_n 0, 1) := zdc_877.2.2.2.2.2.2.2.1
theorem dX12_steps_52 : decode cX12_steps 52 = .ok (.iconst 1, 1) := zdc_877.2.2.2.2.2.2.2.2.1
theorem dX12_steps_53 : decode cX12_steps 53 = .ok (.iload_n 1, 1) := zdc_877.2.2.2.2.2.2.2.2.2
theorem zdc_878 : decode cX12_steps 54 = .ok (.ishl, 1) ∧ decode cX12_steps 55 = .ok (.iload_n 3, 1) ∧ decode cX12_steps 56 = .ok (.invokevirtual 330, 3) ∧ decode cX12_steps 59 = .ok (.iload_n 2, 1) ∧ decode cX12_steps 60 = .ok (.invokestatic 296, 3) ∧ decode cX12_steps 63 = .ok (.ifCond .eq 5, 3) ∧ decode cX12_steps 66 = .ok (.iload_n 3, 1) ∧ decode cX12_steps 67 = .ok (.ireturn, 1) ∧ decode cX12_steps 68 = .ok (.iinc 3 1, 3) ∧ decode cX12_steps 71 = .ok (.goto (-26), 3) := by decide +kernel
theorem dX12_steps_54 : decode cX12_steps 54 = .ok (.ishl, 1) := zdc_878.1
theorem dX12_steps_55 : decode cX12_steps 55 = .ok (.iload_n 3, 1) := zdc_878.2.1
theorem dX12_steps_56 : decode cX12_steps 56 = .ok (.invokevirtual 330, 3) := zdc_878.2.2.1
theorem dX12_steps_59 : decode cX12_steps 59 = .ok (.iload_n 2, 1) := zdc_878.2.2.2.1
theorem dX12_steps_60 : decode cX12_steps 60 = .ok (.invokestatic 296, 3) := zdc_878.2.2.2.2.1
theorem dX12_steps_63 : decode cX12_steps 63 = .ok (.ifCond .eq 5, 3) := zdc_878.2.2.2.2.2.1
theorem dX12_steps_66 : decode cX12_steps 66 = .ok (.iload_n 3, 1) := zdc_878.2.2.2.2.2.2.1
theorem dX12_steps_67 : decode cX12_steps 67 = .ok (.ireturn, 1) := zdc_878.2.2.2.2.2.2.2.1
theorem dX12_steps_68 : decode cX12_steps 68 = .ok (.iinc 3 1, 3) := zdc_878.2.2.2.2.2.2.2.2.1
theorem dX12_steps_71 : decode cX12_steps 71 = .ok (.goto (-26), 3) := zdc_878.2.2.2.2.2.2.2.2.2
theorem zdc_879 : decode cX12_steps 74 = .ok (.iconst (-1), 1) ∧ decode cX12_steps 75 = .ok (.ireturn, 1) ∧ decode cX12_circleOf 0 = .ok (.iconst 1, 1) ∧ decode cX12_circleOf 1 = .ok (.iload_n 1, 1) ∧ decode cX12_circleOf 2 = .ok (.ishl, 1) ∧ decode cX12_circleOf 3 = .ok (.istore_n 2, 1) ∧ decode cX12_circleOf 4 = .ok (.aload_n 0, 1) ∧ decode cX12_circleOf 5 = .ok (.iconst 1, 1) ∧ decode cX12_circleOf 6 = .ok (.iload_n 1, 1) ∧ decode cX12_circleOf 7 = .ok (.ishl, 1) := by decide +kernel
theorem dX12_steps_74 : decode cX12_steps 74 = .ok (.iconst (-1), 1) := zdc_879.1
theorem dX12_steps_75 : decode cX12_steps 75 = .ok (.ireturn, 1) := zdc_879.2.1
theorem dX12_circleOf_0 : decode cX12_circleOf 0 = .ok (.iconst 1, 1) := zdc_879.2.2.1
theorem dX12_circleOf_1 : decode cX12_circleOf 1 = .ok (.iload_n 1, 1) := zdc_879.2.2.2.1
theorem dX12_circleOf_2 : decode cX12_circleOf 2 = .ok (.ishl, 1) := zdc_879.2.2.2.2.1
theorem dX12_circleOf_3 : decode cX12_circleOf 3 = .ok (.istore_n 2, 1) := zdc_879.2.2.2.2.2.1
theorem dX12_circleOf_4 : decode cX12_circleOf 4 = .ok (.aload_n 0, 1) := zdc_879.2.2.2.2.2.2.1
theorem dX12_circleOf_5 : decode cX12_circleOf 5 = .ok (.iconst 1, 1) := zdc_879.2.2.2.2.2.2.2.1
theorem dX12_circleOf_6 : decode cX12_circleOf 6 = .ok (.iload_n 1, 1) := zdc_879.2.2.2.2.2.2.2.2.1
theorem dX12_circleOf_7 : decode cX12_circleOf 7 = .ok (.ishl, 1) := zdc_879.2.2.2.2.2.2.2.2.2
theorem zdc_880 : decode cX12_circleOf 8 = .ok (.bipush 8, 2) ∧ decode cX12_circleOf 10 = .ok (.invokevirtual 330, 3) ∧ decode cX12_circleOf 13 = .ok (.istore_n 3, 1) ∧ decode cX12_circleOf 14 = .ok (.iconst 0, 1) ∧ decode cX12_circleOf 15 = .ok (.istore 4, 2) ∧ decode cX12_circleOf 17 = .ok (.iload 4, 2) ∧ decode cX12_circleOf 19 = .ok (.aload_n 0, 1) ∧ decode cX12_circleOf 20 = .ok (.getfield 7, 3) ∧ decode cX12_circleOf 23 = .ok (.iconst 3, 1) ∧ decode cX12_circleOf 24 = .ok (.iaload, 1) := by decide +kernel
theorem dX12_circleOf_8 : decode cX12_circleOf 8 = .ok (.bipush 8, 2) := zdc_880.1
theorem dX12_circleOf_10 : decode cX12_circleOf 10 = .ok (.invokevirtual 330, 3) := zdc_880.2.1
theorem dX12_circleOf_13 : decode cX12_circleOf 13 = .ok (.istore_n 3, 1) := zdc_880.2.2.1
theorem dX12_circleOf_14 : decode cX12_circleOf 14 = .ok (.iconst 0, 1) := zdc_880.2.2.2.1
theorem dX12_circleOf_15 : decode cX12_circleOf 15 = .ok (.istore 4, 2) := zdc_880.2.2.2.2.1
theorem dX12_circleOf_17 : decode cX12_circleOf 17 = .ok (.iload 4, 2) := zdc_880.2.2.2.2.2.1
theorem dX12_circleOf_19 : decode cX12_circleOf 19 = .ok (.aload_n 0, 1) := zdc_880.2.2.2.2.2.2.1
theorem dX12_circleOf_20 : decode cX12_circleOf 20 = .ok (.getfield 7, 3) := zdc_880.2.2.2.2.2.2.2.1
theorem dX12_circleOf_23 : decode cX12_circleOf 23 = .ok (.iconst 3, 1) := zdc_880.2.2.2.2.2.2.2.2.1
theorem dX12_circleOf_24 : decode cX12_circleOf 24 = .ok (.iaload, 1) := zdc_880.2.2.2.2.2.2.2.2.2
theorem zdc_881 : decode cX12_circleOf 25 = .ok (.if_icmp .ge 42, 3) ∧ decode cX12_circleOf 28 = .ok (.iload_n 3, 1) ∧ decode cX12_circleOf 29 = .ok (.iload 4, 2) ∧ decode cX12_circleOf 31 = .ok (.invokestatic 296, 3) ∧ decode cX12_circleOf 34 = .ok (.ifCond .eq 27, 3) ∧ decode cX12_circleOf 37 = .ok (.aload_n 0, 1) ∧ decode cX12_circleOf 38 = .ok (.iconst 1, 1) ∧ decode cX12_circleOf 39 = .ok (.iload 4, 2) ∧ decode cX12_circleOf 41 = .ok (.ishl, 1) ∧ decode cX12_circleOf 42 = .ok (.bipush 8, 2) := by decide +kernel
theorem dX12_circleOf_25 : decode cX12_circleOf 25 = .ok (.if_icmp .ge 42, 3) := zdc_881.1
theorem dX12_circleOf_28 : decode cX12_circleOf 28 = .ok (.iload_n 3, 1) := zdc_881.2.1
theorem dX12_circleOf_29 : decode cX12_circleOf 29 = .ok (.iload 4, 2) := zdc_881.2.2.1
theorem dX12_circleOf_31 : decode cX12_circleOf 31 = .ok (.invokestatic 296, 3) := zdc_881.2.2.2.1
theorem dX12_circleOf_34 : decode cX12_circleOf 34 = .ok (.ifCond .eq 27, 3) := zdc_881.2.2.2.2.1
theorem dX12_circleOf_37 : decode cX12_circleOf 37 = .ok (.aload_n 0, 1) := zdc_881.2.2.2.2.2.1
theorem dX12_circleOf_38 : decode cX12_circleOf 38 = .ok (.iconst 1, 1) := zdc_881.2.2.2.2.2.2.1
theorem dX12_circleOf_39 : decode cX12_circleOf 39 = .ok (.iload 4, 2) := zdc_881.2.2.2.2.2.2.2.1
theorem dX12_circleOf_41 : decode cX12_circleOf 41 = .ok (.ishl, 1) := zdc_881.2.2.2.2.2.2.2.2.1
theorem dX12_circleOf_42 : decode cX12_circleOf 42 = .ok (.bipush 8, 2) := zdc_881.2.2.2.2.2.2.2.2.2
theorem zdc_882 : decode cX12_circleOf 44 = .ok (.invokevirtual 330, 3) ∧ decode cX12_circleOf 47 = .ok (.iload_n 1, 1) ∧ decode cX12_circleOf 48 = .ok (.invokestatic 296, 3) ∧ decode cX12_circleOf 51 = .ok (.ifCond .eq 10, 3) ∧ decode cX12_circleOf 54 = .ok (.iload_n 2, 1) ∧ decode cX12_circleOf 55 = .ok (.iconst 1, 1) ∧ decode cX12_circleOf 56 = .ok (.iload 4, 2) ∧ decode cX12_circleOf 58 = .ok (.ishl, 1) ∧ decode cX12_circleOf 59 = .ok (.ior, 1) ∧ decode cX12_circleOf 60 = .ok (.istore_n 2, 1) := by decide +kernel
theorem dX12_circleOf_44 : decode cX12_circleOf 44 = .ok (.invokevirtual 330, 3) := zdc_882.1
theorem dX12_circleOf_47 : decode cX12_circleOf 47 = .ok (.iload_n 1, 1) := zdc_882.2.1
theorem dX12_circleOf_48 : decode cX12_circleOf 48 = .ok (.invokestatic 296, 3) := zdc_882.2.2.1
theorem dX12_circleOf_51 : decode cX12_circleOf 51 = .ok (.ifCond .eq 10, 3) := zdc_882.2.2.2.1
theorem dX12_circleOf_54 : decode cX12_circleOf 54 = .ok (.iload_n 2, 1) := zdc_882.2.2.2.2.1
theorem dX12_circleOf_55 : decode cX12_circleOf 55 = .ok (.iconst 1, 1) := zdc_882.2.2.2.2.2.1
theorem dX12_circleOf_56 : decode cX12_circleOf 56 = .ok (.iload 4, 2) := zdc_882.2.2.2.2.2.2.1
theorem dX12_circleOf_58 : decode cX12_circleOf 58 = .ok (.ishl, 1) := zdc_882.2.2.2.2.2.2.2.1
theorem dX12_circleOf_59 : decode cX12_circleOf 59 = .ok (.ior, 1) := zdc_882.2.2.2.2.2.2.2.2.1
theorem dX12_circleOf_60 : decode cX12_circleOf 60 = .ok (.istore_n 2, 1) := zdc_882.2.2.2.2.2.2.2.2.2
theorem zdc_883 : decode cX12_circleOf 61 = .ok (.iinc 4 1, 3) ∧ decode cX12_circleOf 64 = .ok (.goto (-47), 3) ∧ decode cX12_circleOf 67 = .ok (.iload_n 2, 1) ∧ decode cX12_circleOf 68 = .ok (.ireturn, 1) ∧ decode cX12_circles 0 = .ok (.aload_n 0, 1) ∧ decode cX12_circles 1 = .ok (.iconst 0, 1) ∧ decode cX12_circles 2 = .ok (.putfield 39, 3) ∧ decode cX12_circles 5 = .ok (.iconst 0, 1) ∧ decode cX12_circles 6 = .ok (.istore_n 1, 1) ∧ decode cX12_circles 7 = .ok (.iconst 0, 1) := by decide +kernel
theorem dX12_circleOf_61 : decode cX12_circleOf 61 = .ok (.iinc 4 1, 3) := zdc_883.1
theorem dX12_circleOf_64 : decode cX12_circleOf 64 = .ok (.goto (-47), 3) := zdc_883.2.1
theorem dX12_circleOf_67 : decode cX12_circleOf 67 = .ok (.iload_n 2, 1) := zdc_883.2.2.1
theorem dX12_circleOf_68 : decode cX12_circleOf 68 = .ok (.ireturn, 1) := zdc_883.2.2.2.1
theorem dX12_circles_0 : decode cX12_circles 0 = .ok (.aload_n 0, 1) := zdc_883.2.2.2.2.1
theorem dX12_circles_1 : decode cX12_circles 1 = .ok (.iconst 0, 1) := zdc_883.2.2.2.2.2.1
theorem dX12_circles_2 : decode cX12_circles 2 = .ok (.putfield 39, 3) := zdc_883.2.2.2.2.2.2.1
theorem dX12_circles_5 : decode cX12_circles 5 = .ok (.iconst 0, 1) := zdc_883.2.2.2.2.2.2.2.1
theorem dX12_circles_6 : decode cX12_circles 6 = .ok (.istore_n 1, 1) := zdc_883.2.2.2.2.2.2.2.2.1
theorem dX12_circles_7 : decode cX12_circles 7 = .ok (.iconst 0, 1) := zdc_883.2.2.2.2.2.2.2.2.2
theorem zdc_884 : decode cX12_circles 8 = .ok (.istore_n 2, 1) ∧ decode cX12_circles 9 = .ok (.iload_n 2, 1) ∧ decode cX12_circles 10 = .ok (.aload_n 0, 1) ∧ decode cX12_circles 11 = .ok (.getfield 7, 3) ∧ decode cX12_circles 14 = .ok (.iconst 3, 1) ∧ decode cX12_circles 15 = .ok (.iaload, 1) ∧ decode cX12_circles 16 = .ok (.if_icmp .ge 41, 3) ∧ decode cX12_circles 19 = .ok (.aload_n 0, 1) ∧ decode cX12_circles 20 = .ok (.iload_n 2, 1) ∧ decode cX12_circles 21 = .ok (.invokevirtual 333, 3) := by decide +kernel
theorem dX12_circles_8 : decode cX12_circles 8 = .ok (.istore_n 2, 1) := zdc_884.1
theorem dX12_circles_9 : decode cX12_circles 9 = .ok (.iload_n 2, 1) := zdc_884.2.1
theorem dX12_circles_10 : decode cX12_circles 10 = .ok (.aload_n 0, 1) := zdc_884.2.2.1
theorem dX12_circles_11 : decode cX12_circles 11 = .ok (.getfield 7, 3) := zdc_884.2.2.2.1
theorem dX12_circles_14 : decode cX12_circles 14 = .ok (.iconst 3, 1) := zdc_884.2.2.2.2.1
theorem dX12_circles_15 : decode cX12_circles 15 = .ok (.iaload, 1) := zdc_884.2.2.2.2.2.1
theorem dX12_circles_16 : decode cX12_circles 16 = .ok (.if_icmp .ge 41, 3) := zdc_884.2.2.2.2.2.2.1
theorem dX12_circles_19 : decode cX12_circles 19 = .ok (.aload_n 0, 1) := zdc_884.2.2.2.2.2.2.2.1
theorem dX12_circles_20 : decode cX12_circles 20 = .ok (.iload_n 2, 1) := zdc_884.2.2.2.2.2.2.2.2.1
theorem dX12_circles_21 : decode cX12_circles 21 = .ok (.invokevirtual 333, 3) := zdc_884.2.2.2.2.2.2.2.2.2
theorem zdc_885 : decode cX12_circles 24 = .ok (.istore_n 3, 1) ∧ decode cX12_circles 25 = .ok (.iload_n 1, 1) ∧ decode cX12_circles 26 = .ok (.iload_n 3, 1) ∧ decode cX12_circles 27 = .ok (.invokestatic 58, 3) ∧ decode cX12_circles 30 = .ok (.iconst 1, 1) ∧ decode cX12_circles 31 = .ok (.if_icmp .le 17, 3) ∧ decode cX12_circles 34 = .ok (.iload_n 3, 1) ∧ decode cX12_circles 35 = .ok (.iconst 1, 1) ∧ decode cX12_circles 36 = .ok (.iload_n 2, 1) ∧ decode cX12_circles 37 = .ok (.ishl, 1) := by decide +kernel
theorem dX12_circles_24 : decode cX12_circles 24 = .ok (.istore_n 3, 1) := zdc_885.1
theorem dX12_circles_25 : decode cX12_circles 25 = .ok (.iload_n 1, 1) := zdc_885.2.1
theorem dX12_circles_26 : decode cX12_circles 26 = .ok (.iload_n 3, 1) := zdc_885.2.2.1
theorem dX12_circles_27 : decode cX12_circles 27 = .ok (.invokestatic 58, 3) := zdc_885.2.2.2.1
theorem dX12_circles_30 : decode cX12_circles 30 = .ok (.iconst 1, 1) := zdc_885.2.2.2.2.1
theorem dX12_circles_31 : decode cX12_circles 31 = .ok (.if_icmp .le 17, 3) := zdc_885.2.2.2.2.2.1
theorem dX12_circles_34 : decode cX12_circles 34 = .ok (.iload_n 3, 1) := zdc_885.2.2.2.2.2.2.1
theorem dX12_circles_35 : decode cX12_circles 35 = .ok (.iconst 1, 1) := zdc_885.2.2.2.2.2.2.2.1
theorem dX12_circles_36 : decode cX12_circles 36 = .ok (.iload_n 2, 1) := zdc_885.2.2.2.2.2.2.2.2.1
theorem dX12_circles_37 : decode cX12_circles 37 = .ok (.ishl, 1) := zdc_885.2.2.2.2.2.2.2.2.2
theorem zdc_886 : decode cX12_circles 38 = .ok (.iconst 1, 1) ∧ decode cX12_circles 39 = .ok (.isub, 1) ∧ decode cX12_circles 40 = .ok (.iand, 1) ∧ decode cX12_circles 41 = .ok (.ifCond .ne 7, 3) ∧ decode cX12_circles 44 = .ok (.iconst 1, 1) ∧ decode cX12_circles 45 = .ok (.goto 4, 3) ∧ decode cX12_circles 48 = .ok (.iconst 0, 1) ∧ decode cX12_circles 49 = .ok (.iadd, 1) ∧ decode cX12_circles 50 = .ok (.istore_n 1, 1) ∧ decode cX12_circles 51 = .ok (.iinc 2 1, 3) := by decide +kernel
theorem dX12_circles_38 : decode cX12_circles 38 = .ok (.iconst 1, 1) := zdc_886.1
theorem dX12_circles_39 : decode cX12_circles 39 = .ok (.isub, 1) := zdc_886.2.1
theorem dX12_circles_40 : decode cX12_circles 40 = .ok (.iand, 1) := zdc_886.2.2.1
theorem dX12_circles_41 : decode cX12_circles 41 = .ok (.ifCond .ne 7, 3) := zdc_886.2.2.2.1
theorem dX12_circles_44 : decode cX12_circles 44 = .ok (.iconst 1, 1) := zdc_886.2.2.2.2.1
theorem dX12_circles_45 : decode cX12_circles 45 = .ok (.goto 4, 3) := zdc_886.2.2.2.2.2.1
theorem dX12_circles_48 : decode cX12_circles 48 = .ok (.iconst 0, 1) := zdc_886.2.2.2.2.2.2.1
theorem dX12_circles_49 : decode cX12_circles 49 = .ok (.iadd, 1) := zdc_886.2.2.2.2.2.2.2.1
theorem dX12_circles_50 : decode cX12_circles 50 = .ok (.istore_n 1, 1) := zdc_886.2.2.2.2.2.2.2.2.1
theorem dX12_circles_51 : decode cX12_circles 51 = .ok (.iinc 2 1, 3) := zdc_886.2.2.2.2.2.2.2.2.2
theorem zdc_887 : decode cX12_circles 54 = .ok (.goto (-45), 3) ∧ decode cX12_circles 57 = .ok (.iload_n 1, 1) ∧ decode cX12_circles 58 = .ok (.ireturn, 1) ∧ decode cX12_hermits 0 = .ok (.aload_n 0, 1) ∧ decode cX12_hermits 1 = .ok (.iconst 0, 1) ∧ decode cX12_hermits 2 = .ok (.putfield 39, 3) ∧ decode cX12_hermits 5 = .ok (.iconst 0, 1) ∧ decode cX12_hermits 6 = .ok (.istore_n 1, 1) ∧ decode cX12_hermits 7 = .ok (.iconst 0, 1) ∧ decode cX12_hermits 8 = .ok (.istore_n 2, 1) := by decide +kernel
theorem dX12_circles_54 : decode cX12_circles 54 = .ok (.goto (-45), 3) := zdc_887.1
theorem dX12_circles_57 : decode cX12_circles 57 = .ok (.iload_n 1, 1) := zdc_887.2.1
theorem dX12_circles_58 : decode cX12_circles 58 = .ok (.ireturn, 1) := zdc_887.2.2.1
theorem dX12_hermits_0 : decode cX12_hermits 0 = .ok (.aload_n 0, 1) := zdc_887.2.2.2.1
theorem dX12_hermits_1 : decode cX12_hermits 1 = .ok (.iconst 0, 1) := zdc_887.2.2.2.2.1
theorem dX12_hermits_2 : decode cX12_hermits 2 = .ok (.putfield 39, 3) := zdc_887.2.2.2.2.2.1
theorem dX12_hermits_5 : decode cX12_hermits 5 = .ok (.iconst 0, 1) := zdc_887.2.2.2.2.2.2.1
theorem dX12_hermits_6 : decode cX12_hermits 6 = .ok (.istore_n 1, 1) := zdc_887.2.2.2.2.2.2.2.1
theorem dX12_hermits_7 : decode cX12_hermits 7 = .ok (.iconst 0, 1) := zdc_887.2.2.2.2.2.2.2.2.1
theorem dX12_hermits_8 : decode cX12_hermits 8 = .ok (.istore_n 2, 1) := zdc_887.2.2.2.2.2.2.2.2.2
theorem zdc_888 : decode cX12_hermits 9 = .ok (.iload_n 2, 1) ∧ decode cX12_hermits 10 = .ok (.aload_n 0, 1) ∧ decode cX12_hermits 11 = .ok (.getfield 7, 3) ∧ decode cX12_hermits 14 = .ok (.iconst 3, 1) ∧ decode cX12_hermits 15 = .ok (.iaload, 1) ∧ decode cX12_hermits 16 = .ok (.if_icmp .ge 83, 3) ∧ decode cX12_hermits 19 = .ok (.aload_n 0, 1) ∧ decode cX12_hermits 20 = .ok (.iload_n 2, 1) ∧ decode cX12_hermits 21 = .ok (.invokevirtual 245, 3) ∧ decode cX12_hermits 24 = .ok (.ifCond .ne 7, 3) := by decide +kernel
theorem dX12_hermits_9 : decode cX12_hermits 9 = .ok (.iload_n 2, 1) := zdc_888.1
theorem dX12_hermits_10 : decode cX12_hermits 10 = .ok (.aload_n 0, 1) := zdc_888.2.1
theorem dX12_hermits_11 : decode cX12_hermits 11 = .ok (.getfield 7, 3) := zdc_888.2.2.1
theorem dX12_hermits_14 : decode cX12_hermits 14 = .ok (.iconst 3, 1) := zdc_888.2.2.2.1
theorem dX12_hermits_15 : decode cX12_hermits 15 = .ok (.iaload, 1) := zdc_888.2.2.2.2.1
theorem dX12_hermits_16 : decode cX12_hermits 16 = .ok (.if_icmp .ge 83, 3) := zdc_888.2.2.2.2.2.1
theorem dX12_hermits_19 : decode cX12_hermits 19 = .ok (.aload_n 0, 1) := zdc_888.2.2.2.2.2.2.1
theorem dX12_hermits_20 : decode cX12_hermits 20 = .ok (.iload_n 2, 1) := zdc_888.2.2.2.2.2.2.2.1
theorem dX12_hermits_21 : decode cX12_hermits 21 = .ok (.invokevirtual 245, 3) := zdc_888.2.2.2.2.2.2.2.2.1
theorem dX12_hermits_24 : decode cX12_hermits 24 = .ok (.ifCond .ne 7, 3) := zdc_888.2.2.2.2.2.2.2.2.2
theorem zdc_889 : decode cX12_hermits 27 = .ok (.iconst 1, 1) ∧ decode cX12_hermits 28 = .ok (.goto 4, 3) ∧ decode cX12_hermits 31 = .ok (.iconst 0, 1) ∧ decode cX12_hermits 32 = .ok (.istore_n 3, 1) ∧ decode cX12_hermits 33 = .ok (.iconst 0, 1) ∧ decode cX12_hermits 34 = .ok (.istore 4, 2) ∧ decode cX12_hermits 36 = .ok (.iload 4, 2) ∧ decode cX12_hermits 38 = .ok (.aload_n 0, 1) ∧ decode cX12_hermits 39 = .ok (.getfield 7, 3) ∧ decode cX12_hermits 42 = .ok (.iconst 3, 1) := by decide +kernel
theorem dX12_hermits_27 : decode cX12_hermits 27 = .ok (.iconst 1, 1) := zdc_889.1
theorem dX12_hermits_28 : decode cX12_hermits 28 = .ok (.goto 4, 3) := zdc_889.2.1
theorem dX12_hermits_31 : decode cX12_hermits 31 = .ok (.iconst 0, 1) := zdc_889.2.2.1
theorem dX12_hermits_32 : decode cX12_hermits 32 = .ok (.istore_n 3, 1) := zdc_889.2.2.2.1
theorem dX12_hermits_33 : decode cX12_hermits 33 = .ok (.iconst 0, 1) := zdc_889.2.2.2.2.1
theorem dX12_hermits_34 : decode cX12_hermits 34 = .ok (.istore 4, 2) := zdc_889.2.2.2.2.2.1
theorem dX12_hermits_36 : decode cX12_hermits 36 = .ok (.iload 4, 2) := zdc_889.2.2.2.2.2.2.1
theorem dX12_hermits_38 : decode cX12_hermits 38 = .ok (.aload_n 0, 1) := zdc_889.2.2.2.2.2.2.2.1
theorem dX12_hermits_39 : decode cX12_hermits 39 = .ok (.getfield 7, 3) := zdc_889.2.2.2.2.2.2.2.2.1
theorem dX12_hermits_42 : decode cX12_hermits 42 = .ok (.iconst 3, 1) := zdc_889.2.2.2.2.2.2.2.2.2
theorem zdc_890 : decode cX12_hermits 43 = .ok (.iaload, 1) ∧ decode cX12_hermits 44 = .ok (.if_icmp .ge 35, 3) ∧ decode cX12_hermits 47 = .ok (.iload_n 3, 1) ∧ decode cX12_hermits 48 = .ok (.ifCond .eq 31, 3) ∧ decode cX12_hermits 51 = .ok (.iload 4, 2) ∧ decode cX12_hermits 53 = .ok (.iload_n 2, 1) ∧ decode cX12_hermits 54 = .ok (.if_icmp .eq 13, 3) ∧ decode cX12_hermits 57 = .ok (.aload_n 0, 1) ∧ decode cX12_hermits 58 = .ok (.iload 4, 2) ∧ decode cX12_hermits 60 = .ok (.iload_n 2, 1) := by decide +kernel
theorem dX12_hermits_43 : decode cX12_hermits 43 = .ok (.iaload, 1) := zdc_890.1
theorem dX12_hermits_44 : decode cX12_hermits 44 = .ok (.if_icmp .ge 35, 3) := zdc_890.2.1
theorem dX12_hermits_47 : decode cX12_hermits 47 = .ok (.iload_n 3, 1) := zdc_890.2.2.1
theorem dX12_hermits_48 : decode cX12_hermits 48 = .ok (.ifCond .eq 31, 3) := zdc_890.2.2.2.1
theorem dX12_hermits_51 : decode cX12_hermits 51 = .ok (.iload 4, 2) := zdc_890.2.2.2.2.1
theorem dX12_hermits_53 : decode cX12_hermits 53 = .ok (.iload_n 2, 1) := zdc_890.2.2.2.2.2.1
theorem dX12_hermits_54 : decode cX12_hermits 54 = .ok (.if_icmp .eq 13, 3) := zdc_890.2.2.2.2.2.2.1
theorem dX12_hermits_57 : decode cX12_hermits 57 = .ok (.aload_n 0, 1) := zdc_890.2.2.2.2.2.2.2.1
theorem dX12_hermits_58 : decode cX12_hermits 58 = .ok (.iload 4, 2) := zdc_890.2.2.2.2.2.2.2.2.1
theorem dX12_hermits_60 : decode cX12_hermits 60 = .ok (.iload_n 2, 1) := zdc_890.2.2.2.2.2.2.2.2.2
theorem zdc_891 : decode cX12_hermits 61 = .ok (.invokevirtual 71, 3) ∧ decode cX12_hermits 64 = .ok (.ifCond .ne 7, 3) ∧ decode cX12_hermits 67 = .ok (.iconst 1, 1) ∧ decode cX12_hermits 68 = .ok (.goto 4, 3) ∧ decode cX12_hermits 71 = .ok (.iconst 0, 1) ∧ decode cX12_hermits 72 = .ok (.istore_n 3, 1) ∧ decode cX12_hermits 73 = .ok (.iinc 4 1, 3) ∧ decode cX12_hermits 76 = .ok (.goto (-40), 3) ∧ decode cX12_hermits 79 = .ok (.iload_n 1, 1) ∧ decode cX12_hermits 80 = .ok (.iload_n 3, 1) := by decide +kernel
theorem dX12_hermits_61 : decode cX12_hermits 61 = .ok (.invokevirtual 71, 3) := zdc_891.1
theorem dX12_hermits_64 : decode cX12_hermits 64 = .ok (.ifCond .ne 7, 3) := zdc_891.2.1
theorem dX12_hermits_67 : decode cX12_hermits 67 = .ok (.iconst 1, 1) := zdc_891.2.2.1
theorem dX12_hermits_68 : decode cX12_hermits 68 = .ok (.goto 4, 3) := zdc_891.2.2.2.1
theorem dX12_hermits_71 : decode cX12_hermits 71 = .ok (.iconst 0, 1) := zdc_891.2.2.2.2.1
theorem dX12_hermits_72 : decode cX12_hermits 72 = .ok (.istore_n 3, 1) := zdc_891.2.2.2.2.2.1
theorem dX12_hermits_73 : decode cX12_hermits 73 = .ok (.iinc 4 1, 3) := zdc_891.2.2.2.2.2.2.1
theorem dX12_hermits_76 : decode cX12_hermits 76 = .ok (.goto (-40), 3) := zdc_891.2.2.2.2.2.2.2.1
theorem dX12_hermits_79 : decode cX12_hermits 79 = .ok (.iload_n 1, 1) := zdc_891.2.2.2.2.2.2.2.2.1
theorem dX12_hermits_80 : decode cX12_hermits 80 = .ok (.iload_n 3, 1) := zdc_891.2.2.2.2.2.2.2.2.2
theorem zdc_892 : decode cX12_hermits 81 = .ok (.ifCond .eq 9, 3) ∧ decode cX12_hermits 84 = .ok (.iconst 1, 1) ∧ decode cX12_hermits 85 = .ok (.iload_n 2, 1) ∧ decode cX12_hermits 86 = .ok (.ishl, 1) ∧ decode cX12_hermits 87 = .ok (.goto 4, 3) ∧ decode cX12_hermits 90 = .ok (.iconst 0, 1) ∧ decode cX12_hermits 91 = .ok (.ior, 1) ∧ decode cX12_hermits 92 = .ok (.istore_n 1, 1) ∧ decode cX12_hermits 93 = .ok (.iinc 2 1, 3) ∧ decode cX12_hermits 96 = .ok (.goto (-87), 3) := by decide +kernel
theorem dX12_hermits_81 : decode cX12_hermits 81 = .ok (.ifCond .eq 9, 3) := zdc_892.1
theorem dX12_hermits_84 : decode cX12_hermits 84 = .ok (.iconst 1, 1) := zdc_892.2.1
theorem dX12_hermits_85 : decode cX12_hermits 85 = .ok (.iload_n 2, 1) := zdc_892.2.2.1
theorem dX12_hermits_86 : decode cX12_hermits 86 = .ok (.ishl, 1) := zdc_892.2.2.2.1
theorem dX12_hermits_87 : decode cX12_hermits 87 = .ok (.goto 4, 3) := zdc_892.2.2.2.2.1
theorem dX12_hermits_90 : decode cX12_hermits 90 = .ok (.iconst 0, 1) := zdc_892.2.2.2.2.2.1
theorem dX12_hermits_91 : decode cX12_hermits 91 = .ok (.ior, 1) := zdc_892.2.2.2.2.2.2.1
theorem dX12_hermits_92 : decode cX12_hermits 92 = .ok (.istore_n 1, 1) := zdc_892.2.2.2.2.2.2.2.1
theorem dX12_hermits_93 : decode cX12_hermits 93 = .ok (.iinc 2 1, 3) := zdc_892.2.2.2.2.2.2.2.2.1
theorem dX12_hermits_96 : decode cX12_hermits 96 = .ok (.goto (-87), 3) := zdc_892.2.2.2.2.2.2.2.2.2
theorem zdc_893 : decode cX12_hermits 99 = .ok (.iload_n 1, 1) ∧ decode cX12_hermits 100 = .ok (.ireturn, 1) ∧ decode cX12_moreBy 0 = .ok (.iload_n 0, 1) ∧ decode cX12_moreBy 1 = .ok (.ifCond .ne 16, 3) ∧ decode cX12_moreBy 4 = .ok (.iload_n 1, 1) ∧ decode cX12_moreBy 5 = .ok (.ifCond .ne 7, 3) ∧ decode cX12_moreBy 8 = .ok (.iconst 5, 1) ∧ decode cX12_moreBy 9 = .ok (.goto 18, 3) ∧ decode cX12_moreBy 12 = .ok (.bipush 20, 2) ∧ decode cX12_moreBy 14 = .ok (.goto 13, 3) := by decide +kernel
theorem dX12_hermits_99 : decode cX12_hermits 99 = .ok (.iload_n 1, 1) := zdc_893.1
theorem dX12_hermits_100 : decode cX12_hermits 100 = .ok (.ireturn, 1) := zdc_893.2.1
theorem dX12_moreBy_0 : decode cX12_moreBy 0 = .ok (.iload_n 0, 1) := zdc_893.2.2.1
theorem dX12_moreBy_1 : decode cX12_moreBy 1 = .ok (.ifCond .ne 16, 3) := zdc_893.2.2.2.1
theorem dX12_moreBy_4 : decode cX12_moreBy 4 = .ok (.iload_n 1, 1) := zdc_893.2.2.2.2.1
theorem dX12_moreBy_5 : decode cX12_moreBy 5 = .ok (.ifCond .ne 7, 3) := zdc_893.2.2.2.2.2.1
theorem dX12_moreBy_8 : decode cX12_moreBy 8 = .ok (.iconst 5, 1) := zdc_893.2.2.2.2.2.2.1
theorem dX12_moreBy_9 : decode cX12_moreBy 9 = .ok (.goto 18, 3) := zdc_893.2.2.2.2.2.2.2.1
theorem dX12_moreBy_12 : decode cX12_moreBy 12 = .ok (.bipush 20, 2) := zdc_893.2.2.2.2.2.2.2.2.1
theorem dX12_moreBy_14 : decode cX12_moreBy 14 = .ok (.goto 13, 3) := zdc_893.2.2.2.2.2.2.2.2.2
theorem zdc_894 : decode cX12_moreBy 17 = .ok (.iload_n 1, 1) ∧ decode cX12_moreBy 18 = .ok (.ifCond .ne 8, 3) ∧ decode cX12_moreBy 21 = .ok (.bipush (-10), 2) ∧ decode cX12_moreBy 23 = .ok (.goto 4, 3) ∧ decode cX12_moreBy 26 = .ok (.iconst 0, 1) ∧ decode cX12_moreBy 27 = .ok (.ireturn, 1) ∧ decode cX12_tellerHas 0 = .ok (.iload_n 0, 1) ∧ decode cX12_tellerHas 1 = .ok (.iload_n 1, 1) ∧ decode cX12_tellerHas 2 = .ok (.invokestatic 336, 3) ∧ decode cX12_tellerHas 5 = .ok (.iload_n 0, 1) := by decide +kernel
theorem dX12_moreBy_17 : decode cX12_moreBy 17 = .ok (.iload_n 1, 1) := zdc_894.1
theorem dX12_moreBy_18 : decode cX12_moreBy 18 = .ok (.ifCond .ne 8, 3) := zdc_894.2.1
theorem dX12_moreBy_21 : decode cX12_moreBy 21 = .ok (.bipush (-10), 2) := zdc_894.2.2.1
theorem dX12_moreBy_23 : decode cX12_moreBy 23 = .ok (.goto 4, 3) := zdc_894.2.2.2.1
theorem dX12_moreBy_26 : decode cX12_moreBy 26 = .ok (.iconst 0, 1) := zdc_894.2.2.2.2.1
theorem dX12_moreBy_27 : decode cX12_moreBy 27 = .ok (.ireturn, 1) := zdc_894.2.2.2.2.2.1
theorem dX12_tellerHas_0 : decode cX12_tellerHas 0 = .ok (.iload_n 0, 1) := zdc_894.2.2.2.2.2.2.1
theorem dX12_tellerHas_1 : decode cX12_tellerHas 1 = .ok (.iload_n 1, 1) := zdc_894.2.2.2.2.2.2.2.1
theorem dX12_tellerHas_2 : decode cX12_tellerHas 2 = .ok (.invokestatic 336, 3) := zdc_894.2.2.2.2.2.2.2.2.1
theorem dX12_tellerHas_5 : decode cX12_tellerHas 5 = .ok (.iload_n 0, 1) := zdc_894.2.2.2.2.2.2.2.2.2
theorem zdc_895 : decode cX12_tellerHas 6 = .ok (.ifCond .ne 7, 3) ∧ decode cX12_tellerHas 9 = .ok (.iconst 4, 1) ∧ decode cX12_tellerHas 10 = .ok (.goto 4, 3) ∧ decode cX12_tellerHas 13 = .ok (.iconst 0, 1) ∧ decode cX12_tellerHas 14 = .ok (.isub, 1) ∧ decode cX12_tellerHas 15 = .ok (.ireturn, 1) ∧ decode cX12_dryHas 0 = .ok (.iload_n 3, 1) ∧ decode cX12_dryHas 1 = .ok (.iload 4, 2) ∧ decode cX12_dryHas 3 = .ok (.invokestatic 336, 3) ∧ decode cX12_dryHas 6 = .ok (.ineg, 1) := by decide +kernel
theorem dX12_tellerHas_6 : decode cX12_tellerHas 6 = .ok (.ifCond .ne 7, 3) := zdc_895.1
theorem dX12_tellerHas_9 : decode cX12_tellerHas 9 = .ok (.iconst 4, 1) := zdc_895.2.1
theorem dX12_tellerHas_10 : decode cX12_tellerHas 10 = .ok (.goto 4, 3) := zdc_895.2.2.1
theorem dX12_tellerHas_13 : decode cX12_tellerHas 13 = .ok (.iconst 0, 1) := zdc_895.2.2.2.1
theorem dX12_tellerHas_14 : decode cX12_tellerHas 14 = .ok (.isub, 1) := zdc_895.2.2.2.2.1
theorem dX12_tellerHas_15 : decode cX12_tellerHas 15 = .ok (.ireturn, 1) := zdc_895.2.2.2.2.2.1
theorem dX12_dryHas_0 : decode cX12_dryHas 0 = .ok (.iload_n 3, 1) := zdc_895.2.2.2.2.2.2.1
theorem dX12_dryHas_1 : decode cX12_dryHas 1 = .ok (.iload 4, 2) := zdc_895.2.2.2.2.2.2.2.1
theorem dX12_dryHas_3 : decode cX12_dryHas 3 = .ok (.invokestatic 336, 3) := zdc_895.2.2.2.2.2.2.2.2.1
theorem dX12_dryHas_6 : decode cX12_dryHas 6 = .ok (.ineg, 1) := zdc_895.2.2.2.2.2.2.2.2.2
theorem zdc_896 : decode cX12_dryHas 7 = .ok (.iload 4, 2) ∧ decode cX12_dryHas 9 = .ok (.ifCond .ne 12, 3) ∧ decode cX12_dryHas 12 = .ok (.aload_n 0, 1) ∧ decode cX12_dryHas 13 = .ok (.iload_n 1, 1) ∧ decode cX12_dryHas 14 = .ok (.iload_n 2, 1) ∧ decode cX12_dryHas 15 = .ok (.invokevirtual 71, 3) ∧ decode cX12_dryHas 18 = .ok (.goto 4, 3) ∧ decode cX12_dryHas 21 = .ok (.iconst 0, 1) ∧ decode cX12_dryHas 22 = .ok (.isub, 1) ∧ decode cX12_dryHas 23 = .ok (.ireturn, 1) := by decide +kernel
theorem dX12_dryHas_7 : decode cX12_dryHas 7 = .ok (.iload 4, 2) := zdc_896.1
theorem dX12_dryHas_9 : decode cX12_dryHas 9 = .ok (.ifCond .ne 12, 3) := zdc_896.2.1
theorem dX12_dryHas_12 : decode cX12_dryHas 12 = .ok (.aload_n 0, 1) := zdc_896.2.2.1
theorem dX12_dryHas_13 : decode cX12_dryHas 13 = .ok (.iload_n 1, 1) := zdc_896.2.2.2.1
theorem dX12_dryHas_14 : decode cX12_dryHas 14 = .ok (.iload_n 2, 1) := zdc_896.2.2.2.2.1
theorem dX12_dryHas_15 : decode cX12_dryHas 15 = .ok (.invokevirtual 71, 3) := zdc_896.2.2.2.2.2.1
theorem dX12_dryHas_18 : decode cX12_dryHas 18 = .ok (.goto 4, 3) := zdc_896.2.2.2.2.2.2.1
theorem dX12_dryHas_21 : decode cX12_dryHas 21 = .ok (.iconst 0, 1) := zdc_896.2.2.2.2.2.2.2.1
theorem dX12_dryHas_22 : decode cX12_dryHas 22 = .ok (.isub, 1) := zdc_896.2.2.2.2.2.2.2.2.1
theorem dX12_dryHas_23 : decode cX12_dryHas 23 = .ok (.ireturn, 1) := zdc_896.2.2.2.2.2.2.2.2.2
theorem zdc_897 : decode cX12_rests 0 = .ok (.aload_n 0, 1) ∧ decode cX12_rests 1 = .ok (.aload_n 0, 1) ∧ decode cX12_rests 2 = .ok (.iload_n 1, 1) ∧ decode cX12_rests 3 = .ok (.invokevirtual 280, 3) ∧ decode cX12_rests 6 = .ok (.ifCond .eq 11, 3) ∧ decode cX12_rests 9 = .ok (.aload_n 0, 1) ∧ decode cX12_rests 10 = .ok (.iload_n 2, 1) ∧ decode cX12_rests 11 = .ok (.invokevirtual 280, 3) ∧ decode cX12_rests 14 = .ok (.ifCond .ne 7, 3) ∧ decode cX12_rests 17 = .ok (.iconst 1, 1) := by decide +kernel
theorem dX12_rests_0 : decode cX12_rests 0 = .ok (.aload_n 0, 1) := zdc_897.1
theorem dX12_rests_1 : decode cX12_rests 1 = .ok (.aload_n 0, 1) := zdc_897.2.1
theorem dX12_rests_2 : decode cX12_rests 2 = .ok (.iload_n 1, 1) := zdc_897.2.2.1
theorem dX12_rests_3 : decode cX12_rests 3 = .ok (.invokevirtual 280, 3) := zdc_897.2.2.2.1
theorem dX12_rests_6 : decode cX12_rests 6 = .ok (.ifCond .eq 11, 3) := zdc_897.2.2.2.2.1
theorem dX12_rests_9 : decode cX12_rests 9 = .ok (.aload_n 0, 1) := zdc_897.2.2.2.2.2.1
theorem dX12_rests_10 : decode cX12_rests 10 = .ok (.iload_n 2, 1) := zdc_897.2.2.2.2.2.2.1
theorem dX12_rests_11 : decode cX12_rests 11 = .ok (.invokevirtual 280, 3) := zdc_897.2.2.2.2.2.2.2.1
theorem dX12_rests_14 : decode cX12_rests 14 = .ok (.ifCond .ne 7, 3) := zdc_897.2.2.2.2.2.2.2.2.1
theorem dX12_rests_17 : decode cX12_rests 17 = .ok (.iconst 1, 1) := zdc_897.2.2.2.2.2.2.2.2.2
theorem zdc_898 : decode cX12_rests 18 = .ok (.goto 13, 3) ∧ decode cX12_rests 21 = .ok (.iload_n 1, 1) ∧ decode cX12_rests 22 = .ok (.iload_n 2, 1) ∧ decode cX12_rests 23 = .ok (.if_icmp .ne 7, 3) ∧ decode cX12_rests 26 = .ok (.iconst 2, 1) ∧ decode cX12_rests 27 = .ok (.goto 4, 3) ∧ decode cX12_rests 30 = .ok (.iconst 0, 1) ∧ decode cX12_rests 31 = .ok (.putfield 39, 3) ∧ decode cX12_rests 34 = .ok (.aload_n 0, 1) ∧ decode cX12_rests 35 = .ok (.getfield 39, 3) := by decide +kernel
theorem dX12_rests_18 : decode cX12_rests 18 = .ok (.goto 13, 3) := zdc_898.1
theorem dX12_rests_21 : decode cX12_rests 21 = .ok (.iload_n 1, 1) := zdc_898.2.1
theorem dX12_rests_22 : decode cX12_rests 22 = .ok (.iload_n 2, 1) := zdc_898.2.2.1
theorem dX12_rests_23 : decode cX12_rests 23 = .ok (.if_icmp .ne 7, 3) := zdc_898.2.2.2.1
theorem dX12_rests_26 : decode cX12_rests 26 = .ok (.iconst 2, 1) := zdc_898.2.2.2.2.1
theorem dX12_rests_27 : decode cX12_rests 27 = .ok (.goto 4, 3) := zdc_898.2.2.2.2.2.1
theorem dX12_rests_30 : decode cX12_rests 30 = .ok (.iconst 0, 1) := zdc_898.2.2.2.2.2.2.1
theorem dX12_rests_31 : decode cX12_rests 31 = .ok (.putfield 39, 3) := zdc_898.2.2.2.2.2.2.2.1
theorem dX12_rests_34 : decode cX12_rests 34 = .ok (.aload_n 0, 1) := zdc_898.2.2.2.2.2.2.2.2.1
theorem dX12_rests_35 : decode cX12_rests 35 = .ok (.getfield 39, 3) := zdc_898.2.2.2.2.2.2.2.2.2
theorem zdc_899 : decode cX12_rests 38 = .ok (.ifCond .le 5, 3) ∧ decode cX12_rests 41 = .ok (.iconst 0, 1) ∧ decode cX12_rests 42 = .ok (.ireturn, 1) ∧ decode cX12_rests 43 = .ok (.iconst 0, 1) ∧ decode cX12_rests 44 = .ok (.istore_n 3, 1) ∧ decode cX12_rests 45 = .ok (.iconst 0, 1) ∧ decode cX12_rests 46 = .ok (.istore 4, 2) ∧ decode cX12_rests 48 = .ok (.iload 4, 2) ∧ decode cX12_rests 50 = .ok (.iconst 4, 1) ∧ decode cX12_rests 51 = .ok (.if_icmp .ge 72, 3) := by decide +kernel
theorem dX12_rests_38 : decode cX12_rests 38 = .ok (.ifCond .le 5, 3) := zdc_899.1
theorem dX12_rests_41 : decode cX12_rests 41 = .ok (.iconst 0, 1) := zdc_899.2.1
theorem dX12_rests_42 : decode cX12_rests 42 = .ok (.ireturn, 1) := zdc_899.2.2.1
theorem dX12_rests_43 : decode cX12_rests 43 = .ok (.iconst 0, 1) := zdc_899.2.2.2.1
theorem dX12_rests_44 : decode cX12_rests 44 = .ok (.istore_n 3, 1) := zdc_899.2.2.2.2.1
theorem dX12_rests_45 : decode cX12_rests 45 = .ok (.iconst 0, 1) := zdc_899.2.2.2.2.2.1
theorem dX12_rests_46 : decode cX12_rests 46 = .ok (.istore 4, 2) := zdc_899.2.2.2.2.2.2.1
theorem dX12_rests_48 : decode cX12_rests 48 = .ok (.iload 4, 2) := zdc_899.2.2.2.2.2.2.2.1
theorem dX12_rests_50 : decode cX12_rests 50 = .ok (.iconst 4, 1) := zdc_899.2.2.2.2.2.2.2.2.1
theorem dX12_rests_51 : decode cX12_rests 51 = .ok (.if_icmp .ge 72, 3) := zdc_899.2.2.2.2.2.2.2.2.2
theorem zdc_900 : decode cX12_rests 54 = .ok (.iload 4, 2) ∧ decode cX12_rests 56 = .ok (.iconst 2, 1) ∧ decode cX12_rests 57 = .ok (.idiv, 1) ∧ decode cX12_rests 58 = .ok (.istore 5, 2) ∧ decode cX12_rests 60 = .ok (.iload 4, 2) ∧ decode cX12_rests 62 = .ok (.iconst 2, 1) ∧ decode cX12_rests 63 = .ok (.irem, 1) ∧ decode cX12_rests 64 = .ok (.istore 6, 2) ∧ decode cX12_rests 66 = .ok (.iconst 1, 1) ∧ decode cX12_rests 67 = .ok (.iload 5, 2) := by decide +kernel
theorem dX12_rests_54 : decode cX12_rests 54 = .ok (.iload 4, 2) := zdc_900.1
theorem dX12_rests_56 : decode cX12_rests 56 = .ok (.iconst 2, 1) := zdc_900.2.1
theorem dX12_rests_57 : decode cX12_rests 57 = .ok (.idiv, 1) := zdc_900.2.2.1
theorem dX12_rests_58 : decode cX12_rests 58 = .ok (.istore 5, 2) := zdc_900.2.2.2.1
theorem dX12_rests_60 : decode cX12_rests 60 = .ok (.iload 4, 2) := zdc_900.2.2.2.2.1
theorem dX12_rests_62 : decode cX12_rests 62 = .ok (.iconst 2, 1) := zdc_900.2.2.2.2.2.1
theorem dX12_rests_63 : decode cX12_rests 63 = .ok (.irem, 1) := zdc_900.2.2.2.2.2.2.1
theorem dX12_rests_64 : decode cX12_rests 64 = .ok (.istore 6, 2) := zdc_900.2.2.2.2.2.2.2.1
theorem dX12_rests_66 : decode cX12_rests 66 = .ok (.iconst 1, 1) := zdc_900.2.2.2.2.2.2.2.2.1
theorem dX12_rests_67 : decode cX12_rests 67 = .ok (.iload 5, 2) := zdc_900.2.2.2.2.2.2.2.2.2
theorem zdc_901 : decode cX12_rests 69 = .ok (.isub, 1) ∧ decode cX12_rests 70 = .ok (.iload 6, 2) ∧ decode cX12_rests 72 = .ok (.invokestatic 339, 3) ∧ decode cX12_rests 75 = .ok (.iload 5, 2) ∧ decode cX12_rests 77 = .ok (.iload 6, 2) ∧ decode cX12_rests 79 = .ok (.invokestatic 339, 3) ∧ decode cX12_rests 82 = .ok (.if_icmp .gt 35, 3) ∧ decode cX12_rests 85 = .ok (.aload_n 0, 1) ∧ decode cX12_rests 86 = .ok (.iload_n 1, 1) ∧ decode cX12_rests 87 = .ok (.iload_n 2, 1) := by decide +kernel
theorem dX12_rests_69 : decode cX12_rests 69 = .ok (.isub, 1) := zdc_901.1
theorem dX12_rests_70 : decode cX12_rests 70 = .ok (.iload 6, 2) := zdc_901.2.1
theorem dX12_rests_72 : decode cX12_rests 72 = .ok (.invokestatic 339, 3) := zdc_901.2.2.1
theorem dX12_rests_75 : decode cX12_rests 75 = .ok (.iload 5, 2) := zdc_901.2.2.2.1
theorem dX12_rests_77 : decode cX12_rests 77 = .ok (.iload 6, 2) := zdc_901.2.2.2.2.1
theorem dX12_rests_79 : decode cX12_rests 79 = .ok (.invokestatic 339, 3) := zdc_901.2.2.2.2.2.1
theorem dX12_rests_82 : decode cX12_rests 82 = .ok (.if_icmp .gt 35, 3) := zdc_901.2.2.2.2.2.2.1
theorem dX12_rests_85 : decode cX12_rests 85 = .ok (.aload_n 0, 1) := zdc_901.2.2.2.2.2.2.2.1
theorem dX12_rests_86 : decode cX12_rests 86 = .ok (.iload_n 1, 1) := zdc_901.2.2.2.2.2.2.2.2.1
theorem dX12_rests_87 : decode cX12_rests 87 = .ok (.iload_n 2, 1) := zdc_901.2.2.2.2.2.2.2.2.2
theorem zdc_902 : decode cX12_rests 88 = .ok (.iload 5, 2) ∧ decode cX12_rests 90 = .ok (.iconst 1, 1) ∧ decode cX12_rests 91 = .ok (.iload 6, 2) ∧ decode cX12_rests 93 = .ok (.isub, 1) ∧ decode cX12_rests 94 = .ok (.invokevirtual 342, 3) ∧ decode cX12_rests 97 = .ok (.aload_n 0, 1) ∧ decode cX12_rests 98 = .ok (.iload_n 1, 1) ∧ decode cX12_rests 99 = .ok (.iload_n 2, 1) ∧ decode cX12_rests 100 = .ok (.iload 5, 2) ∧ decode cX12_rests 102 = .ok (.iload 6, 2) := by decide +kernel
theorem dX12_rests_88 : decode cX12_rests 88 = .ok (.iload 5, 2) := zdc_902.1
theorem dX12_rests_90 : decode cX12_rests 90 = .ok (.iconst 1, 1) := zdc_902.2.1
theorem dX12_rests_91 : decode cX12_rests 91 = .ok (.iload 6, 2) := zdc_902.2.2.1
theorem dX12_rests_93 : decode cX12_rests 93 = .ok (.isub, 1) := zdc_902.2.2.2.1
theorem dX12_rests_94 : decode cX12_rests 94 = .ok (.invokevirtual 342, 3) := zdc_902.2.2.2.2.1
theorem dX12_rests_97 : decode cX12_rests 97 = .ok (.aload_n 0, 1) := zdc_902.2.2.2.2.2.1
theorem dX12_rests_98 : decode cX12_rests 98 = .ok (.iload_n 1, 1) := zdc_902.2.2.2.2.2.2.1
theorem dX12_rests_99 : decode cX12_rests 99 = .ok (.iload_n 2, 1) := zdc_902.2.2.2.2.2.2.2.1
theorem dX12_rests_100 : decode cX12_rests 100 = .ok (.iload 5, 2) := zdc_902.2.2.2.2.2.2.2.2.1
theorem dX12_rests_102 : decode cX12_rests 102 = .ok (.iload 6, 2) := zdc_902.2.2.2.2.2.2.2.2.2
theorem zdc_903 : decode cX12_rests 104 = .ok (.invokevirtual 342, 3) ∧ decode cX12_rests 107 = .ok (.if_icmp .gt 10, 3) ∧ decode cX12_rests 110 = .ok (.iload_n 3, 1) ∧ decode cX12_rests 111 = .ok (.iconst 1, 1) ∧ decode cX12_rests 112 = .ok (.iload 4, 2) ∧ decode cX12_rests 114 = .ok (.ishl, 1) ∧ decode cX12_rests 115 = .ok (.ior, 1) ∧ decode cX12_rests 116 = .ok (.istore_n 3, 1) ∧ decode cX12_rests 117 = .ok (.iinc 4 1, 3) ∧ decode cX12_rests 120 = .ok (.goto (-72), 3) := by decide +kernel
theorem dX12_rests_104 : decode cX12_rests 104 = .ok (.invokevirtual 342, 3) := zdc_903.1
theorem dX12_rests_107 : decode cX12_rests 107 = .ok (.if_icmp .gt 10, 3) := zdc_903.2.1
theorem dX12_rests_110 : decode cX12_rests 110 = .ok (.iload_n 3, 1) := zdc_903.2.2.1
theorem dX12_rests_111 : decode cX12_rests 111 = .ok (.iconst 1, 1) := zdc_903.2.2.2.1
theorem dX12_rests_112 : decode cX12_rests 112 = .ok (.iload 4, 2) := zdc_903.2.2.2.2.1
theorem dX12_rests_114 : decode cX12_rests 114 = .ok (.ishl, 1) := zdc_903.2.2.2.2.2.1
theorem dX12_rests_115 : decode cX12_rests 115 = .ok (.ior, 1) := zdc_903.2.2.2.2.2.2.1
theorem dX12_rests_116 : decode cX12_rests 116 = .ok (.istore_n 3, 1) := zdc_903.2.2.2.2.2.2.2.1
theorem dX12_rests_117 : decode cX12_rests 117 = .ok (.iinc 4 1, 3) := zdc_903.2.2.2.2.2.2.2.2.1
theorem dX12_rests_120 : decode cX12_rests 120 = .ok (.goto (-72), 3) := zdc_903.2.2.2.2.2.2.2.2.2
theorem zdc_904 : decode cX12_rests 123 = .ok (.iload_n 3, 1) ∧ decode cX12_rests 124 = .ok (.ireturn, 1) ∧ decode cX12_richest 0 = .ok (.aload_n 0, 1) ∧ decode cX12_richest 1 = .ok (.iconst 0, 1) ∧ decode cX12_richest 2 = .ok (.putfield 39, 3) ∧ decode cX12_richest 5 = .ok (.iconst (-1), 1) ∧ decode cX12_richest 6 = .ok (.istore_n 1, 1) ∧ decode cX12_richest 7 = .ok (.iconst 0, 1) ∧ decode cX12_richest 8 = .ok (.istore_n 2, 1) ∧ decode cX12_richest 9 = .ok (.iload_n 2, 1) := by decide +kernel
theorem dX12_rests_123 : decode cX12_rests 123 = .ok (.iload_n 3, 1) := zdc_904.1
theorem dX12_rests_124 : decode cX12_rests 124 = .ok (.ireturn, 1) := zdc_904.2.1
theorem dX12_richest_0 : decode cX12_richest 0 = .ok (.aload_n 0, 1) := zdc_904.2.2.1
theorem dX12_richest_1 : decode cX12_richest 1 = .ok (.iconst 0, 1) := zdc_904.2.2.2.1
theorem dX12_richest_2 : decode cX12_richest 2 = .ok (.putfield 39, 3) := zdc_904.2.2.2.2.1
theorem dX12_richest_5 : decode cX12_richest 5 = .ok (.iconst (-1), 1) := zdc_904.2.2.2.2.2.1
theorem dX12_richest_6 : decode cX12_richest 6 = .ok (.istore_n 1, 1) := zdc_904.2.2.2.2.2.2.1
theorem dX12_richest_7 : decode cX12_richest 7 = .ok (.iconst 0, 1) := zdc_904.2.2.2.2.2.2.2.1
theorem dX12_richest_8 : decode cX12_richest 8 = .ok (.istore_n 2, 1) := zdc_904.2.2.2.2.2.2.2.2.1
theorem dX12_richest_9 : decode cX12_richest 9 = .ok (.iload_n 2, 1) := zdc_904.2.2.2.2.2.2.2.2.2
theorem zdc_905 : decode cX12_richest 10 = .ok (.aload_n 0, 1) ∧ decode cX12_richest 11 = .ok (.getfield 7, 3) ∧ decode cX12_richest 14 = .ok (.iconst 3, 1) ∧ decode cX12_richest 15 = .ok (.iaload, 1) ∧ decode cX12_richest 16 = .ok (.if_icmp .ge 29, 3) ∧ decode cX12_richest 19 = .ok (.iload_n 1, 1) ∧ decode cX12_richest 20 = .ok (.iconst (-1), 1) ∧ decode cX12_richest 21 = .ok (.if_icmp .eq 16, 3) ∧ decode cX12_richest 24 = .ok (.aload_n 0, 1) ∧ decode cX12_richest 25 = .ok (.iload_n 2, 1) := by decide +kernel
theorem dX12_richest_10 : decode cX12_richest 10 = .ok (.aload_n 0, 1) := zdc_905.1
theorem dX12_richest_11 : decode cX12_richest 11 = .ok (.getfield 7, 3) := zdc_905.2.1
theorem dX12_richest_14 : decode cX12_richest 14 = .ok (.iconst 3, 1) := zdc_905.2.2.1
theorem dX12_richest_15 : decode cX12_richest 15 = .ok (.iaload, 1) := zdc_905.2.2.2.1
theorem dX12_richest_16 : decode cX12_richest 16 = .ok (.if_icmp .ge 29, 3) := zdc_905.2.2.2.2.1
theorem dX12_richest_19 : decode cX12_richest 19 = .ok (.iload_n 1, 1) := zdc_905.2.2.2.2.2.1
theorem dX12_richest_20 : decode cX12_richest 20 = .ok (.iconst (-1), 1) := zdc_905.2.2.2.2.2.2.1
theorem dX12_richest_21 : decode cX12_richest 21 = .ok (.if_icmp .eq 16, 3) := zdc_905.2.2.2.2.2.2.2.1
theorem dX12_richest_24 : decode cX12_richest 24 = .ok (.aload_n 0, 1) := zdc_905.2.2.2.2.2.2.2.2.1
theorem dX12_richest_25 : decode cX12_richest 25 = .ok (.iload_n 2, 1) := zdc_905.2.2.2.2.2.2.2.2.2
theorem zdc_906 : decode cX12_richest 26 = .ok (.invokevirtual 283, 3) ∧ decode cX12_richest 29 = .ok (.aload_n 0, 1) ∧ decode cX12_richest 30 = .ok (.iload_n 1, 1) ∧ decode cX12_richest 31 = .ok (.invokevirtual 283, 3) ∧ decode cX12_richest 34 = .ok (.if_icmp .le 5, 3) ∧ decode cX12_richest 37 = .ok (.iload_n 2, 1) ∧ decode cX12_richest 38 = .ok (.istore_n 1, 1) ∧ decode cX12_richest 39 = .ok (.iinc 2 1, 3) ∧ decode cX12_richest 42 = .ok (.goto (-33), 3) ∧ decode cX12_richest 45 = .ok (.iload_n 1, 1) := by decide +kernel
theorem dX12_richest_26 : decode cX12_richest 26 = .ok (.invokevirtual 283, 3) := zdc_906.1
theorem dX12_richest_29 : decode cX12_richest 29 = .ok (.aload_n 0, 1) := zdc_906.2.1
theorem dX12_richest_30 : decode cX12_richest 30 = .ok (.iload_n 1, 1) := zdc_906.2.2.1
theorem dX12_richest_31 : decode cX12_richest 31 = .ok (.invokevirtual 283, 3) := zdc_906.2.2.2.1
theorem dX12_richest_34 : decode cX12_richest 34 = .ok (.if_icmp .le 5, 3) := zdc_906.2.2.2.2.1
theorem dX12_richest_37 : decode cX12_richest 37 = .ok (.iload_n 2, 1) := zdc_906.2.2.2.2.2.1
theorem dX12_richest_38 : decode cX12_richest 38 = .ok (.istore_n 1, 1) := zdc_906.2.2.2.2.2.2.1
theorem dX12_richest_39 : decode cX12_richest 39 = .ok (.iinc 2 1, 3) := zdc_906.2.2.2.2.2.2.2.1
theorem dX12_richest_42 : decode cX12_richest 42 = .ok (.goto (-33), 3) := zdc_906.2.2.2.2.2.2.2.2.1
theorem dX12_richest_45 : decode cX12_richest 45 = .ok (.iload_n 1, 1) := zdc_906.2.2.2.2.2.2.2.2.2
theorem zdc_907 : decode cX12_richest 46 = .ok (.ireturn, 1) ∧ decode cX12_firmest 0 = .ok (.aload_n 0, 1) ∧ decode cX12_firmest 1 = .ok (.iconst 0, 1) ∧ decode cX12_firmest 2 = .ok (.putfield 39, 3) ∧ decode cX12_firmest 5 = .ok (.iconst (-1), 1) ∧ decode cX12_firmest 6 = .ok (.istore_n 1, 1) ∧ decode cX12_firmest 7 = .ok (.iconst 0, 1) ∧ decode cX12_firmest 8 = .ok (.istore_n 2, 1) ∧ decode cX12_firmest 9 = .ok (.iload_n 2, 1) ∧ decode cX12_firmest 10 = .ok (.aload_n 0, 1) := by decide +kernel
theorem dX12_richest_46 : decode cX12_richest 46 = .ok (.ireturn, 1) := zdc_907.1
theorem dX12_firmest_0 : decode cX12_firmest 0 = .ok (.aload_n 0, 1) := zdc_907.2.1
theorem dX12_firmest_1 : decode cX12_firmest 1 = .ok (.iconst 0, 1) := zdc_907.2.2.1
theorem dX12_firmest_2 : decode cX12_firmest 2 = .ok (.putfield 39, 3) := zdc_907.2.2.2.1
theorem dX12_firmest_5 : decode cX12_firmest 5 = .ok (.iconst (-1), 1) := zdc_907.2.2.2.2.1
theorem dX12_firmest_6 : decode cX12_firmest 6 = .ok (.istore_n 1, 1) := zdc_907.2.2.2.2.2.1
theorem dX12_firmest_7 : decode cX12_firmest 7 = .ok (.iconst 0, 1) := zdc_907.2.2.2.2.2.2.1
theorem dX12_firmest_8 : decode cX12_firmest 8 = .ok (.istore_n 2, 1) := zdc_907.2.2.2.2.2.2.2.1
theorem dX12_firmest_9 : decode cX12_firmest 9 = .ok (.iload_n 2, 1) := zdc_907.2.2.2.2.2.2.2.2.1
theorem dX12_firmest_10 : decode cX12_firmest 10 = .ok (.aload_n 0, 1) := zdc_907.2.2.2.2.2.2.2.2.2
theorem zdc_908 : decode cX12_firmest 11 = .ok (.getfield 7, 3) ∧ decode cX12_firmest 14 = .ok (.iconst 3, 1) ∧ decode cX12_firmest 15 = .ok (.iaload, 1) ∧ decode cX12_firmest 16 = .ok (.if_icmp .ge 39, 3) ∧ decode cX12_firmest 19 = .ok (.aload_n 0, 1) ∧ decode cX12_firmest 20 = .ok (.iload_n 2, 1) ∧ decode cX12_firmest 21 = .ok (.invokevirtual 50, 3) ∧ decode cX12_firmest 24 = .ok (.ifCond .eq 25, 3) ∧ decode cX12_firmest 27 = .ok (.iload_n 1, 1) ∧ decode cX12_firmest 28 = .ok (.iconst (-1), 1) := by decide +kernel
theorem dX12_firmest_11 : decode cX12_firmest 11 = .ok (.getfield 7, 3) := zdc_908.1
theorem dX12_firmest_14 : decode cX12_firmest 14 = .ok (.iconst 3, 1) := zdc_908.2.1
theorem dX12_firmest_15 : decode cX12_firmest 15 = .ok (.iaload, 1) := zdc_908.2.2.1
theorem dX12_firmest_16 : decode cX12_firmest 16 = .ok (.if_icmp .ge 39, 3) := zdc_908.2.2.2.1
theorem dX12_firmest_19 : decode cX12_firmest 19 = .ok (.aload_n 0, 1) := zdc_908.2.2.2.2.1
theorem dX12_firmest_20 : decode cX12_firmest 20 = .ok (.iload_n 2, 1) := zdc_908.2.2.2.2.2.1
theorem dX12_firmest_21 : decode cX12_firmest 21 = .ok (.invokevirtual 50, 3) := zdc_908.2.2.2.2.2.2.1
theorem dX12_firmest_24 : decode cX12_firmest 24 = .ok (.ifCond .eq 25, 3) := zdc_908.2.2.2.2.2.2.2.1
theorem dX12_firmest_27 : decode cX12_firmest 27 = .ok (.iload_n 1, 1) := zdc_908.2.2.2.2.2.2.2.2.1
theorem dX12_firmest_28 : decode cX12_firmest 28 = .ok (.iconst (-1), 1) := zdc_908.2.2.2.2.2.2.2.2.2
theorem zdc_909 : decode cX12_firmest 29 = .ok (.if_icmp .eq 18, 3) ∧ decode cX12_firmest 32 = .ok (.aload_n 0, 1) ∧ decode cX12_firmest 33 = .ok (.iload_n 2, 1) ∧ decode cX12_firmest 34 = .ok (.iconst 0, 1) ∧ decode cX12_firmest 35 = .ok (.invokevirtual 46, 3) ∧ decode cX12_firmest 38 = .ok (.aload_n 0, 1) ∧ decode cX12_firmest 39 = .ok (.iload_n 1, 1) ∧ decode cX12_firmest 40 = .ok (.iconst 0, 1) ∧ decode cX12_firmest 41 = .ok (.invokevirtual 46, 3) ∧ decode cX12_firmest 44 = .ok (.if_icmp .le 5, 3) := by decide +kernel
theorem dX12_firmest_29 : decode cX12_firmest 29 = .ok (.if_icmp .eq 18, 3) := zdc_909.1
theorem dX12_firmest_32 : decode cX12_firmest 32 = .ok (.aload_n 0, 1) := zdc_909.2.1
theorem dX12_firmest_33 : decode cX12_firmest 33 = .ok (.iload_n 2, 1) := zdc_909.2.2.1
theorem dX12_firmest_34 : decode cX12_firmest 34 = .ok (.iconst 0, 1) := zdc_909.2.2.2.1
theorem dX12_firmest_35 : decode cX12_firmest 35 = .ok (.invokevirtual 46, 3) := zdc_909.2.2.2.2.1
theorem dX12_firmest_38 : decode cX12_firmest 38 = .ok (.aload_n 0, 1) := zdc_909.2.2.2.2.2.1
theorem dX12_firmest_39 : decode cX12_firmest 39 = .ok (.iload_n 1, 1) := zdc_909.2.2.2.2.2.2.1
theorem dX12_firmest_40 : decode cX12_firmest 40 = .ok (.iconst 0, 1) := zdc_909.2.2.2.2.2.2.2.1
theorem dX12_firmest_41 : decode cX12_firmest 41 = .ok (.invokevirtual 46, 3) := zdc_909.2.2.2.2.2.2.2.2.1
theorem dX12_firmest_44 : decode cX12_firmest 44 = .ok (.if_icmp .le 5, 3) := zdc_909.2.2.2.2.2.2.2.2.2
theorem zdc_910 : decode cX12_firmest 47 = .ok (.iload_n 2, 1) ∧ decode cX12_firmest 48 = .ok (.istore_n 1, 1) ∧ decode cX12_firmest 49 = .ok (.iinc 2 1, 3) ∧ decode cX12_firmest 52 = .ok (.goto (-43), 3) ∧ decode cX12_firmest 55 = .ok (.iload_n 1, 1) ∧ decode cX12_firmest 56 = .ok (.ireturn, 1) ∧ decode cX12_home 0 = .ok (.aload_n 0, 1) ∧ decode cX12_home 1 = .ok (.iconst 0, 1) ∧ decode cX12_home 2 = .ok (.putfield 39, 3) ∧ decode cX12_home 5 = .ok (.iconst (-1), 1) := by decide +kernel
theorem dX12_firmest_47 : decode cX12_firmest 47 = .ok (.iload_n 2, 1) := zdc_910.1
theorem dX12_firmest_48 : decode cX12_firmest 48 = .ok (.istore_n 1, 1) := zdc_910.2.1
theorem dX12_firmest_49 : decode cX12_firmest 49 = .ok (.iinc 2 1, 3) := zdc_910.2.2.1
theorem dX12_firmest_52 : decode cX12_firmest 52 = .ok (.goto (-43), 3) := zdc_910.2.2.2.1
theorem dX12_firmest_55 : decode cX12_firmest 55 = .ok (.iload_n 1, 1) := zdc_910.2.2.2.2.1
theorem dX12_firmest_56 : decode cX12_firmest 56 = .ok (.ireturn, 1) := zdc_910.2.2.2.2.2.1
theorem dX12_home_0 : decode cX12_home 0 = .ok (.aload_n 0, 1) := zdc_910.2.2.2.2.2.2.1
theorem dX12_home_1 : decode cX12_home 1 = .ok (.iconst 0, 1) := zdc_910.2.2.2.2.2.2.2.1
theorem dX12_home_2 : decode cX12_home 2 = .ok (.putfield 39, 3) := zdc_910.2.2.2.2.2.2.2.2.1
theorem dX12_home_5 : decode cX12_home 5 = .ok (.iconst (-1), 1) := zdc_910.2.2.2.2.2.2.2.2.2
theorem zdc_911 : decode cX12_home 6 = .ok (.istore_n 1, 1) ∧ decode cX12_home 7 = .ok (.iconst 0, 1) ∧ decode cX12_home 8 = .ok (.istore_n 2, 1) ∧ decode cX12_home 9 = .ok (.iload_n 2, 1) ∧ decode cX12_home 10 = .ok (.aload_n 0, 1) ∧ decode cX12_home 11 = .ok (.getfield 7, 3) ∧ decode cX12_home 14 = .ok (.iconst 3, 1) ∧ decode cX12_home 15 = .ok (.iaload, 1) ∧ decode cX12_home 16 = .ok (.if_icmp .ge 59, 3) ∧ decode cX12_home 19 = .ok (.aload_n 0, 1) := by decide +kernel
theorem dX12_home_6 : decode cX12_home 6 = .ok (.istore_n 1, 1) := zdc_911.1
theorem dX12_home_7 : decode cX12_home 7 = .ok (.iconst 0, 1) := zdc_911.2.1
theorem dX12_home_8 : decode cX12_home 8 = .ok (.istore_n 2, 1) := zdc_911.2.2.1
theorem dX12_home_9 : decode cX12_home 9 = .ok (.iload_n 2, 1) := zdc_911.2.2.2.1
theorem dX12_home_10 : decode cX12_home 10 = .ok (.aload_n 0, 1) := zdc_911.2.2.2.2.1
theorem dX12_home_11 : decode cX12_home 11 = .ok (.getfield 7, 3) := zdc_911.2.2.2.2.2.1
theorem dX12_home_14 : decode cX12_home 14 = .ok (.iconst 3, 1) := zdc_911.2.2.2.2.2.2.1
theorem dX12_home_15 : decode cX12_home 15 = .ok (.iaload, 1) := zdc_911.2.2.2.2.2.2.2.1
theorem dX12_home_16 : decode cX12_home 16 = .ok (.if_icmp .ge 59, 3) := zdc_911.2.2.2.2.2.2.2.2.1
theorem dX12_home_19 : decode cX12_home 19 = .ok (.aload_n 0, 1) := zdc_911.2.2.2.2.2.2.2.2.2
theorem zdc_912 : decode cX12_home 20 = .ok (.iload_n 2, 1) ∧ decode cX12_home 21 = .ok (.invokevirtual 50, 3) ∧ decode cX12_home 24 = .ok (.ifCond .eq 9, 3) ∧ decode cX12_home 27 = .ok (.ldc_w 329, 3) ∧ decode cX12_home 30 = .ok (.goto 19, 3) ∧ decode cX12_home 33 = .ok (.aload_n 0, 1) ∧ decode cX12_home 34 = .ok (.getfield 7, 3) ∧ decode cX12_home 37 = .ok (.bipush 8, 2) ∧ decode cX12_home 39 = .ok (.iaload, 1) ∧ decode cX12_home 40 = .ok (.aload_n 0, 1) := by decide +kernel
theorem dX12_home_20 : decode cX12_home 20 = .ok (.iload_n 2, 1) := zdc_912.1
theorem dX12_home_21 : decode cX12_home 21 = .ok (.invokevirtual 50, 3) := zdc_912.2.1
theorem dX12_home_24 : decode cX12_home 24 = .ok (.ifCond .eq 9, 3) := zdc_912.2.2.1
theorem dX12_home_27 : decode cX12_home 27 = .ok (.ldc_w 329, 3) := zdc_912.2.2.2.1
theorem dX12_home_30 : decode cX12_home 30 = .ok (.goto 19, 3) := zdc_912.2.2.2.2.1
theorem dX12_home_33 : decode cX12_home 33 = .ok (.aload_n 0, 1) := zdc_912.2.2.2.2.2.1
theorem dX12_home_34 : decode cX12_home 34 = .ok (.getfield 7, 3) := zdc_912.2.2.2.2.2.2.1
theorem dX12_home_37 : decode cX12_home 37 = .ok (.bipush 8, 2) := zdc_912.2.2.2.2.2.2.2.1
theorem dX12_home_39 : decode cX12_home 39 = .ok (.iaload, 1) := zdc_912.2.2.2.2.2.2.2.2.1
theorem dX12_home_40 : decode cX12_home 40 = .ok (.aload_n 0, 1) := zdc_912.2.2.2.2.2.2.2.2.2
theorem zdc_913 : decode cX12_home 41 = .ok (.iload_n 2, 1) ∧ decode cX12_home 42 = .ok (.iconst 4, 1) ∧ decode cX12_home 43 = .ok (.invokevirtual 46, 3) ∧ decode cX12_home 46 = .ok (.invokestatic 251, 3) ∧ decode cX12_home 49 = .ok (.istore_n 3, 1) ∧ decode cX12_home 50 = .ok (.iload_n 3, 1) ∧ decode cX12_home 51 = .ok (.ldc_w 329, 3) ∧ decode cX12_home 54 = .ok (.if_icmp .eq 15, 3) ∧ decode cX12_home 57 = .ok (.iload_n 1, 1) ∧ decode cX12_home 58 = .ok (.iconst (-1), 1) := by decide +kernel
theorem dX12_home_41 : decode cX12_home 41 = .ok (.iload_n 2, 1) := zdc_913.1
theorem dX12_home_42 : decode cX12_home 42 = .ok (.iconst 4, 1) := zdc_913.2.1
theorem dX12_home_43 : decode cX12_home 43 = .ok (.invokevirtual 46, 3) := zdc_913.2.2.1
theorem dX12_home_46 : decode cX12_home 46 = .ok (.invokestatic 251, 3) := zdc_913.2.2.2.1
theorem dX12_home_49 : decode cX12_home 49 = .ok (.istore_n 3, 1) := zdc_913.2.2.2.2.1
theorem dX12_home_50 : decode cX12_home 50 = .ok (.iload_n 3, 1) := zdc_913.2.2.2.2.2.1
theorem dX12_home_51 : decode cX12_home 51 = .ok (.ldc_w 329, 3) := zdc_913.2.2.2.2.2.2.1
theorem dX12_home_54 : decode cX12_home 54 = .ok (.if_icmp .eq 15, 3) := zdc_913.2.2.2.2.2.2.2.1
theorem dX12_home_57 : decode cX12_home 57 = .ok (.iload_n 1, 1) := zdc_913.2.2.2.2.2.2.2.2.1
theorem dX12_home_58 : decode cX12_home 58 = .ok (.iconst (-1), 1) := zdc_913.2.2.2.2.2.2.2.2.2
theorem zdc_914 : decode cX12_home 59 = .ok (.if_icmp .eq 8, 3) ∧ decode cX12_home 62 = .ok (.iload_n 3, 1) ∧ decode cX12_home 63 = .ok (.iload_n 1, 1) ∧ decode cX12_home 64 = .ok (.if_icmp .ge 5, 3) ∧ decode cX12_home 67 = .ok (.iload_n 3, 1) ∧ decode cX12_home 68 = .ok (.istore_n 1, 1) ∧ decode cX12_home 69 = .ok (.iinc 2 1, 3) ∧ decode cX12_home 72 = .ok (.goto (-63), 3) ∧ decode cX12_home 75 = .ok (.iload_n 1, 1) ∧ decode cX12_home 76 = .ok (.ireturn, 1) := by decide +kernel
theorem dX12_home_59 : decode cX12_home 59 = .ok (.if_icmp .eq 8, 3) := zdc_914.1
theorem dX12_home_62 : decode cX12_home 62 = .ok (.iload_n 3, 1) := zdc_914.2.1
theorem dX12_home_63 : decode cX12_home 63 = .ok (.iload_n 1, 1) := zdc_914.2.2.1
theorem dX12_home_64 : decode cX12_home 64 = .ok (.if_icmp .ge 5, 3) := zdc_914.2.2.2.1
theorem dX12_home_67 : decode cX12_home 67 = .ok (.iload_n 3, 1) := zdc_914.2.2.2.2.1
theorem dX12_home_68 : decode cX12_home 68 = .ok (.istore_n 1, 1) := zdc_914.2.2.2.2.2.1
theorem dX12_home_69 : decode cX12_home 69 = .ok (.iinc 2 1, 3) := zdc_914.2.2.2.2.2.2.1
theorem dX12_home_72 : decode cX12_home 72 = .ok (.goto (-63), 3) := zdc_914.2.2.2.2.2.2.2.1
theorem dX12_home_75 : decode cX12_home 75 = .ok (.iload_n 1, 1) := zdc_914.2.2.2.2.2.2.2.2.1
theorem dX12_home_76 : decode cX12_home 76 = .ok (.ireturn, 1) := zdc_914.2.2.2.2.2.2.2.2.2
theorem zdc_915 : decode cX12_trial 0 = .ok (.aload_n 0, 1) ∧ decode cX12_trial 1 = .ok (.iload_n 1, 1) ∧ decode cX12_trial 2 = .ok (.iconst 0, 1) ∧ decode cX12_trial 3 = .ok (.bipush 60, 2) ∧ decode cX12_trial 5 = .ok (.invokestatic 42, 3) ∧ decode cX12_trial 8 = .ok (.ifCond .ne 7, 3) ∧ decode cX12_trial 11 = .ok (.iconst 1, 1) ∧ decode cX12_trial 12 = .ok (.goto 4, 3) ∧ decode cX12_trial 15 = .ok (.iconst 0, 1) ∧ decode cX12_trial 16 = .ok (.putfield 39, 3) := by decide +kernel
theorem dX12_trial_0 : decode cX12_trial 0 = .ok (.aload_n 0, 1) := zdc_915.1
theorem dX12_trial_1 : decode cX12_trial 1 = .ok (.iload_n 1, 1) := zdc_915.2.1
theorem dX12_trial_2 : decode cX12_trial 2 = .ok (.iconst 0, 1) := zdc_915.2.2.1
theorem dX12_trial_3 : decode cX12_trial 3 = .ok (.bipush 60, 2) := zdc_915.2.2.2.1
theorem dX12_trial_5 : decode cX12_trial 5 = .ok (.invokestatic 42, 3) := zdc_915.2.2.2.2.1
theorem dX12_trial_8 : decode cX12_trial 8 = .ok (.ifCond .ne 7, 3) := zdc_915.2.2.2.2.2.1
theorem dX12_trial_11 : decode cX12_trial 11 = .ok (.iconst 1, 1) := zdc_915.2.2.2.2.2.2.1
theorem dX12_trial_12 : decode cX12_trial 12 = .ok (.goto 4, 3) := zdc_915.2.2.2.2.2.2.2.1
theorem dX12_trial_15 : decode cX12_trial 15 = .ok (.iconst 0, 1) := zdc_915.2.2.2.2.2.2.2.2.1
theorem dX12_trial_16 : decode cX12_trial 16 = .ok (.putfield 39, 3) := zdc_915.2.2.2.2.2.2.2.2.2
theorem zdc_916 : decode cX12_trial 19 = .ok (.aload_n 0, 1) ∧ decode cX12_trial 20 = .ok (.getfield 39, 3) ∧ decode cX12_trial 23 = .ok (.ifCond .le 5, 3) ∧ decode cX12_trial 26 = .ok (.iconst 0, 1) ∧ decode cX12_trial 27 = .ok (.ireturn, 1) ∧ decode cX12_trial 28 = .ok (.aload_n 0, 1) ∧ decode cX12_trial 29 = .ok (.invokevirtual 174, 3) ∧ decode cX12_trial 32 = .ok (.aload_n 0, 1) ∧ decode cX12_trial 33 = .ok (.iload_n 1, 1) ∧ decode cX12_trial 34 = .ok (.iconst 1, 1) := by decide +kernel
theorem dX12_trial_19 : decode cX12_trial 19 = .ok (.aload_n 0, 1) := zdc_916.1
theorem dX12_trial_20 : decode cX12_trial 20 = .ok (.getfield 39, 3) := zdc_916.2.1
theorem dX12_trial_23 : decode cX12_trial 23 = .ok (.ifCond .le 5, 3) := zdc_916.2.2.1
theorem dX12_trial_26 : decode cX12_trial 26 = .ok (.iconst 0, 1) := zdc_916.2.2.2.1
theorem dX12_trial_27 : decode cX12_trial 27 = .ok (.ireturn, 1) := zdc_916.2.2.2.2.1
theorem dX12_trial_28 : decode cX12_trial 28 = .ok (.aload_n 0, 1) := zdc_916.2.2.2.2.2.1
theorem dX12_trial_29 : decode cX12_trial 29 = .ok (.invokevirtual 174, 3) := zdc_916.2.2.2.2.2.2.1
theorem dX12_trial_32 : decode cX12_trial 32 = .ok (.aload_n 0, 1) := zdc_916.2.2.2.2.2.2.2.1
theorem dX12_trial_33 : decode cX12_trial 33 = .ok (.iload_n 1, 1) := zdc_916.2.2.2.2.2.2.2.2.1
theorem dX12_trial_34 : decode cX12_trial 34 = .ok (.iconst 1, 1) := zdc_916.2.2.2.2.2.2.2.2.2
theorem zdc_917 : decode cX12_trial 35 = .ok (.invokevirtual 292, 3) ∧ decode cX12_trial 38 = .ok (.istore_n 3, 1) ∧ decode cX12_trial 39 = .ok (.iload_n 2, 1) ∧ decode cX12_trial 40 = .ok (.ifCond .eq 12, 3) ∧ decode cX12_trial 43 = .ok (.aload_n 0, 1) ∧ decode cX12_trial 44 = .ok (.getfield 7, 3) ∧ decode cX12_trial 47 = .ok (.iconst 5, 1) ∧ decode cX12_trial 48 = .ok (.iaload, 1) ∧ decode cX12_trial 49 = .ok (.goto 7, 3) ∧ decode cX12_trial 52 = .ok (.aload_n 0, 1) := by decide +kernel
theorem dX12_trial_35 : decode cX12_trial 35 = .ok (.invokevirtual 292, 3) := zdc_917.1
theorem dX12_trial_38 : decode cX12_trial 38 = .ok (.istore_n 3, 1) := zdc_917.2.1
theorem dX12_trial_39 : decode cX12_trial 39 = .ok (.iload_n 2, 1) := zdc_917.2.2.1
theorem dX12_trial_40 : decode cX12_trial 40 = .ok (.ifCond .eq 12, 3) := zdc_917.2.2.2.1
theorem dX12_trial_43 : decode cX12_trial 43 = .ok (.aload_n 0, 1) := zdc_917.2.2.2.2.1
theorem dX12_trial_44 : decode cX12_trial 44 = .ok (.getfield 7, 3) := zdc_917.2.2.2.2.2.1
theorem dX12_trial_47 : decode cX12_trial 47 = .ok (.iconst 5, 1) := zdc_917.2.2.2.2.2.2.1
theorem dX12_trial_48 : decode cX12_trial 48 = .ok (.iaload, 1) := zdc_917.2.2.2.2.2.2.2.1
theorem dX12_trial_49 : decode cX12_trial 49 = .ok (.goto 7, 3) := zdc_917.2.2.2.2.2.2.2.2.1
theorem dX12_trial_52 : decode cX12_trial 52 = .ok (.aload_n 0, 1) := zdc_917.2.2.2.2.2.2.2.2.2
theorem zdc_918 : decode cX12_trial 53 = .ok (.invokevirtual 62, 3) ∧ decode cX12_trial 56 = .ok (.istore 4, 2) ∧ decode cX12_trial 58 = .ok (.aload_n 0, 1) ∧ decode cX12_trial 59 = .ok (.invokevirtual 184, 3) ∧ decode cX12_trial 62 = .ok (.iload 4, 2) ∧ decode cX12_trial 64 = .ok (.ireturn, 1) ∧ decode cX12_span 0 = .ok (.aload_n 0, 1) ∧ decode cX12_span 1 = .ok (.iload_n 1, 1) ∧ decode cX12_span 2 = .ok (.iconst 0, 1) ∧ decode cX12_span 3 = .ok (.bipush 60, 2) := by decide +kernel
theorem dX12_trial_53 : decode cX12_trial 53 = .ok (.invokevirtual 62, 3) := zdc_918.1
theorem dX12_trial_56 : decode cX12_trial 56 = .ok (.istore 4, 2) := zdc_918.2.1
theorem dX12_trial_58 : decode cX12_trial 58 = .ok (.aload_n 0, 1) := zdc_918.2.2.1
theorem dX12_trial_59 : decode cX12_trial 59 = .ok (.invokevirtual 184, 3) := zdc_918.2.2.2.1
theorem dX12_trial_62 : decode cX12_trial 62 = .ok (.iload 4, 2) := zdc_918.2.2.2.2.1
theorem dX12_trial_64 : decode cX12_trial 64 = .ok (.ireturn, 1) := zdc_918.2.2.2.2.2.1
theorem dX12_span_0 : decode cX12_span 0 = .ok (.aload_n 0, 1) := zdc_918.2.2.2.2.2.2.1
theorem dX12_span_1 : decode cX12_span 1 = .ok (.iload_n 1, 1) := zdc_918.2.2.2.2.2.2.2.1
theorem dX12_span_2 : decode cX12_span 2 = .ok (.iconst 0, 1) := zdc_918.2.2.2.2.2.2.2.2.1
theorem dX12_span_3 : decode cX12_span 3 = .ok (.bipush 60, 2) := zdc_918.2.2.2.2.2.2.2.2.2
theorem zdc_919 : decode cX12_span 5 = .ok (.invokestatic 42, 3) ∧ decode cX12_span 8 = .ok (.ifCond .ne 7, 3) ∧ decode cX12_span 11 = .ok (.iconst 1, 1) ∧ decode cX12_span 12 = .ok (.goto 4, 3) ∧ decode cX12_span 15 = .ok (.iconst 0, 1) ∧ decode cX12_span 16 = .ok (.putfield 39, 3) ∧ decode cX12_span 19 = .ok (.aload_n 0, 1) ∧ decode cX12_span 20 = .ok (.getfield 39, 3) ∧ decode cX12_span 23 = .ok (.ifCond .le 5, 3) ∧ decode cX12_span 26 = .ok (.iconst 0, 1) := by decide +kernel
theorem dX12_span_5 : decode cX12_span 5 = .ok (.invokestatic 42, 3) := zdc_919.1
theorem dX12_span_8 : decode cX12_span 8 = .ok (.ifCond .ne 7, 3) := zdc_919.2.1
theorem dX12_span_11 : decode cX12_span 11 = .ok (.iconst 1, 1) := zdc_919.2.2.1
theorem dX12_span_12 : decode cX12_span 12 = .ok (.goto 4, 3) := zdc_919.2.2.2.1
theorem dX12_span_15 : decode cX12_span 15 = .ok (.iconst 0, 1) := zdc_919.2.2.2.2.1
theorem dX12_span_16 : decode cX12_span 16 = .ok (.putfield 39, 3) := zdc_919.2.2.2.2.2.1
theorem dX12_span_19 : decode cX12_span 19 = .ok (.aload_n 0, 1) := zdc_919.2.2.2.2.2.2.1
theorem dX12_span_20 : decode cX12_span 20 = .ok (.getfield 39, 3) := zdc_919.2.2.2.2.2.2.2.1
theorem dX12_span_23 : decode cX12_span 23 = .ok (.ifCond .le 5, 3) := zdc_919.2.2.2.2.2.2.2.2.1
theorem dX12_span_26 : decode cX12_span 26 = .ok (.iconst 0, 1) := zdc_919.2.2.2.2.2.2.2.2.2
theorem zdc_920 : decode cX12_span 27 = .ok (.ireturn, 1) ∧ decode cX12_span 28 = .ok (.aload_n 0, 1) ∧ decode cX12_span 29 = .ok (.invokevirtual 174, 3) ∧ decode cX12_span 32 = .ok (.iconst (-1), 1) ∧ decode cX12_span 33 = .ok (.istore_n 3, 1) ∧ decode cX12_span 34 = .ok (.iconst 1, 1) ∧ decode cX12_span 35 = .ok (.istore 4, 2) ∧ decode cX12_span 37 = .ok (.iload 4, 2) ∧ decode cX12_span 39 = .ok (.bipush 6, 2) ∧ decode cX12_span 41 = .ok (.if_icmp .gt 66, 3) := by decide +kernel
theorem dX12_span_27 : decode cX12_span 27 = .ok (.ireturn, 1) := zdc_920.1
theorem dX12_span_28 : decode cX12_span 28 = .ok (.aload_n 0, 1) := zdc_920.2.1
theorem dX12_span_29 : decode cX12_span 29 = .ok (.invokevirtual 174, 3) := zdc_920.2.2.1
theorem dX12_span_32 : decode cX12_span 32 = .ok (.iconst (-1), 1) := zdc_920.2.2.2.1
theorem dX12_span_33 : decode cX12_span 33 = .ok (.istore_n 3, 1) := zdc_920.2.2.2.2.1
theorem dX12_span_34 : decode cX12_span 34 = .ok (.iconst 1, 1) := zdc_920.2.2.2.2.2.1
theorem dX12_span_35 : decode cX12_span 35 = .ok (.istore 4, 2) := zdc_920.2.2.2.2.2.2.1
theorem dX12_span_37 : decode cX12_span 37 = .ok (.iload 4, 2) := zdc_920.2.2.2.2.2.2.2.1
theorem dX12_span_39 : decode cX12_span 39 = .ok (.bipush 6, 2) := zdc_920.2.2.2.2.2.2.2.2.1
theorem dX12_span_41 : decode cX12_span 41 = .ok (.if_icmp .gt 66, 3) := zdc_920.2.2.2.2.2.2.2.2.2
theorem zdc_921 : decode cX12_span 44 = .ok (.aload_n 0, 1) ∧ decode cX12_span 45 = .ok (.getfield 7, 3) ∧ decode cX12_span 48 = .ok (.bipush 10, 2) ∧ decode cX12_span 50 = .ok (.iload 4, 2) ∧ decode cX12_span 52 = .ok (.iastore, 1) ∧ decode cX12_span 53 = .ok (.aload_n 0, 1) ∧ decode cX12_span 54 = .ok (.iload_n 1, 1) ∧ decode cX12_span 55 = .ok (.iconst 1, 1) ∧ decode cX12_span 56 = .ok (.invokevirtual 292, 3) ∧ decode cX12_span 59 = .ok (.istore 5, 2) := by decide +kernel
theorem dX12_span_44 : decode cX12_span 44 = .ok (.aload_n 0, 1) := zdc_921.1
theorem dX12_span_45 : decode cX12_span 45 = .ok (.getfield 7, 3) := zdc_921.2.1
theorem dX12_span_48 : decode cX12_span 48 = .ok (.bipush 10, 2) := zdc_921.2.2.1
theorem dX12_span_50 : decode cX12_span 50 = .ok (.iload 4, 2) := zdc_921.2.2.2.1
theorem dX12_span_52 : decode cX12_span 52 = .ok (.iastore, 1) := zdc_921.2.2.2.2.1
theorem dX12_span_53 : decode cX12_span 53 = .ok (.aload_n 0, 1) := zdc_921.2.2.2.2.2.1
theorem dX12_span_54 : decode cX12_span 54 = .ok (.iload_n 1, 1) := zdc_921.2.2.2.2.2.2.1
theorem dX12_span_55 : decode cX12_span 55 = .ok (.iconst 1, 1) := zdc_921.2.2.2.2.2.2.2.1
theorem dX12_span_56 : decode cX12_span 56 = .ok (.invokevirtual 292, 3) := zdc_921.2.2.2.2.2.2.2.2.1
theorem dX12_span_59 : decode cX12_span 59 = .ok (.istore 5, 2) := zdc_921.2.2.2.2.2.2.2.2.2
theorem zdc_922 : decode cX12_span 61 = .ok (.aload_n 0, 1) ∧ decode cX12_span 62 = .ok (.invokevirtual 62, 3) ∧ decode cX12_span 65 = .ok (.istore 6, 2) ∧ decode cX12_span 67 = .ok (.aload_n 0, 1) ∧ decode cX12_span 68 = .ok (.invokevirtual 184, 3) ∧ decode cX12_span 71 = .ok (.iload_n 3, 1) ∧ decode cX12_span 72 = .ok (.iconst (-1), 1) ∧ decode cX12_span 73 = .ok (.if_icmp .ne 8, 3) ∧ decode cX12_span 76 = .ok (.iload 6, 2) ∧ decode cX12_span 78 = .ok (.goto 22, 3) := by decide +kernel
theorem dX12_span_61 : decode cX12_span 61 = .ok (.aload_n 0, 1) := zdc_922.1
theorem dX12_span_62 : decode cX12_span 62 = .ok (.invokevirtual 62, 3) := zdc_922.2.1
theorem dX12_span_65 : decode cX12_span 65 = .ok (.istore 6, 2) := zdc_922.2.2.1
theorem dX12_span_67 : decode cX12_span 67 = .ok (.aload_n 0, 1) := zdc_922.2.2.2.1
theorem dX12_span_68 : decode cX12_span 68 = .ok (.invokevirtual 184, 3) := zdc_922.2.2.2.2.1
theorem dX12_span_71 : decode cX12_span 71 = .ok (.iload_n 3, 1) := zdc_922.2.2.2.2.2.1
theorem dX12_span_72 : decode cX12_span 72 = .ok (.iconst (-1), 1) := zdc_922.2.2.2.2.2.2.1
theorem dX12_span_73 : decode cX12_span 73 = .ok (.if_icmp .ne 8, 3) := zdc_922.2.2.2.2.2.2.2.1
theorem dX12_span_76 : decode cX12_span 76 = .ok (.iload 6, 2) := zdc_922.2.2.2.2.2.2.2.2.1
theorem dX12_span_78 : decode cX12_span 78 = .ok (.goto 22, 3) := zdc_922.2.2.2.2.2.2.2.2.2
theorem zdc_923 : decode cX12_span 81 = .ok (.iload_n 2, 1) ∧ decode cX12_span 82 = .ok (.ifCond .eq 12, 3) ∧ decode cX12_span 85 = .ok (.iload_n 3, 1) ∧ decode cX12_span 86 = .ok (.iload 6, 2) ∧ decode cX12_span 88 = .ok (.invokestatic 251, 3) ∧ decode cX12_span 91 = .ok (.goto 9, 3) ∧ decode cX12_span 94 = .ok (.iload_n 3, 1) ∧ decode cX12_span 95 = .ok (.iload 6, 2) ∧ decode cX12_span 97 = .ok (.invokestatic 248, 3) ∧ decode cX12_span 100 = .ok (.istore_n 3, 1) := by decide +kernel
theorem dX12_span_81 : decode cX12_span 81 = .ok (.iload_n 2, 1) := zdc_923.1
theorem dX12_span_82 : decode cX12_span 82 = .ok (.ifCond .eq 12, 3) := zdc_923.2.1
theorem dX12_span_85 : decode cX12_span 85 = .ok (.iload_n 3, 1) := zdc_923.2.2.1
theorem dX12_span_86 : decode cX12_span 86 = .ok (.iload 6, 2) := zdc_923.2.2.2.1
theorem dX12_span_88 : decode cX12_span 88 = .ok (.invokestatic 251, 3) := zdc_923.2.2.2.2.1
theorem dX12_span_91 : decode cX12_span 91 = .ok (.goto 9, 3) := zdc_923.2.2.2.2.2.1
theorem dX12_span_94 : decode cX12_span 94 = .ok (.iload_n 3, 1) := zdc_923.2.2.2.2.2.2.1
theorem dX12_span_95 : decode cX12_span 95 = .ok (.iload 6, 2) := zdc_923.2.2.2.2.2.2.2.1
theorem dX12_span_97 : decode cX12_span 97 = .ok (.invokestatic 248, 3) := zdc_923.2.2.2.2.2.2.2.2.1
theorem dX12_span_100 : decode cX12_span 100 = .ok (.istore_n 3, 1) := zdc_923.2.2.2.2.2.2.2.2.2
theorem zdc_924 : decode cX12_span 101 = .ok (.iinc 4 1, 3) ∧ decode cX12_span 104 = .ok (.goto (-67), 3) ∧ decode cX12_span 107 = .ok (.iload_n 3, 1) ∧ decode cX12_span 108 = .ok (.ireturn, 1) ∧ decode cX12_logged 0 = .ok (.aload_n 0, 1) ∧ decode cX12_logged 1 = .ok (.getfield 7, 3) ∧ decode cX12_logged 4 = .ok (.sipush 139, 3) ∧ decode cX12_logged 7 = .ok (.iconst 4, 1) ∧ decode cX12_logged 8 = .ok (.iload_n 1, 1) ∧ decode cX12_logged 9 = .ok (.imul, 1) := by decide +kernel
theorem dX12_span_101 : decode cX12_span 101 = .ok (.iinc 4 1, 3) := zdc_924.1
theorem dX12_span_104 : decode cX12_span 104 = .ok (.goto (-67), 3) := zdc_924.2.1
theorem dX12_span_107 : decode cX12_span 107 = .ok (.iload_n 3, 1) := zdc_924.2.2.1
theorem dX12_span_108 : decode cX12_span 108 = .ok (.ireturn, 1) := zdc_924.2.2.2.1
theorem dX12_logged_0 : decode cX12_logged 0 = .ok (.aload_n 0, 1) := zdc_924.2.2.2.2.1
theorem dX12_logged_1 : decode cX12_logged 1 = .ok (.getfield 7, 3) := zdc_924.2.2.2.2.2.1
theorem dX12_logged_4 : decode cX12_logged 4 = .ok (.sipush 139, 3) := zdc_924.2.2.2.2.2.2.1
theorem dX12_logged_7 : decode cX12_logged 7 = .ok (.iconst 4, 1) := zdc_924.2.2.2.2.2.2.2.1
theorem dX12_logged_8 : decode cX12_logged 8 = .ok (.iload_n 1, 1) := zdc_924.2.2.2.2.2.2.2.2.1
theorem dX12_logged_9 : decode cX12_logged 9 = .ok (.imul, 1) := zdc_924.2.2.2.2.2.2.2.2.2
theorem zdc_925 : decode cX12_logged 10 = .ok (.iadd, 1) ∧ decode cX12_logged 11 = .ok (.iload_n 2, 1) ∧ decode cX12_logged 12 = .ok (.iadd, 1) ∧ decode cX12_logged 13 = .ok (.iaload, 1) ∧ decode cX12_logged 14 = .ok (.ireturn, 1) ∧ decode cX12_led 0 = .ok (.aload_n 0, 1) ∧ decode cX12_led 1 = .ok (.aload_n 0, 1) ∧ decode cX12_led 2 = .ok (.iload_n 1, 1) ∧ decode cX12_led 3 = .ok (.invokevirtual 286, 3) ∧ decode cX12_led 6 = .ok (.ifCond .ne 7, 3) := by decide +kernel
theorem dX12_logged_10 : decode cX12_logged 10 = .ok (.iadd, 1) := zdc_925.1
theorem dX12_logged_11 : decode cX12_logged 11 = .ok (.iload_n 2, 1) := zdc_925.2.1
theorem dX12_logged_12 : decode cX12_logged 12 = .ok (.iadd, 1) := zdc_925.2.2.1
theorem dX12_logged_13 : decode cX12_logged 13 = .ok (.iaload, 1) := zdc_925.2.2.2.1
theorem dX12_logged_14 : decode cX12_logged 14 = .ok (.ireturn, 1) := zdc_925.2.2.2.2.1
theorem dX12_led_0 : decode cX12_led 0 = .ok (.aload_n 0, 1) := zdc_925.2.2.2.2.2.1
theorem dX12_led_1 : decode cX12_led 1 = .ok (.aload_n 0, 1) := zdc_925.2.2.2.2.2.2.1
theorem dX12_led_2 : decode cX12_led 2 = .ok (.iload_n 1, 1) := zdc_925.2.2.2.2.2.2.2.1
theorem dX12_led_3 : decode cX12_led 3 = .ok (.invokevirtual 286, 3) := zdc_925.2.2.2.2.2.2.2.2.1
theorem dX12_led_6 : decode cX12_led 6 = .ok (.ifCond .ne 7, 3) := zdc_925.2.2.2.2.2.2.2.2.2
theorem zdc_926 : decode cX12_led 9 = .ok (.iconst 1, 1) ∧ decode cX12_led 10 = .ok (.goto 4, 3) ∧ decode cX12_led 13 = .ok (.iconst 0, 1) ∧ decode cX12_led 14 = .ok (.putfield 39, 3) ∧ decode cX12_led 17 = .ok (.aload_n 0, 1) ∧ decode cX12_led 18 = .ok (.getfield 39, 3) ∧ decode cX12_led 21 = .ok (.ifCond .le 5, 3) ∧ decode cX12_led 24 = .ok (.iconst 0, 1) ∧ decode cX12_led 25 = .ok (.ireturn, 1) ∧ decode cX12_led 26 = .ok (.iconst 0, 1) := by decide +kernel
theorem dX12_led_9 : decode cX12_led 9 = .ok (.iconst 1, 1) := zdc_926.1
theorem dX12_led_10 : decode cX12_led 10 = .ok (.goto 4, 3) := zdc_926.2.1
theorem dX12_led_13 : decode cX12_led 13 = .ok (.iconst 0, 1) := zdc_926.2.2.1
theorem dX12_led_14 : decode cX12_led 14 = .ok (.putfield 39, 3) := zdc_926.2.2.2.1
theorem dX12_led_17 : decode cX12_led 17 = .ok (.aload_n 0, 1) := zdc_926.2.2.2.2.1
theorem dX12_led_18 : decode cX12_led 18 = .ok (.getfield 39, 3) := zdc_926.2.2.2.2.2.1
theorem dX12_led_21 : decode cX12_led 21 = .ok (.ifCond .le 5, 3) := zdc_926.2.2.2.2.2.2.1
theorem dX12_led_24 : decode cX12_led 24 = .ok (.iconst 0, 1) := zdc_926.2.2.2.2.2.2.2.1
theorem dX12_led_25 : decode cX12_led 25 = .ok (.ireturn, 1) := zdc_926.2.2.2.2.2.2.2.2.1
theorem dX12_led_26 : decode cX12_led 26 = .ok (.iconst 0, 1) := zdc_926.2.2.2.2.2.2.2.2.2
theorem zdc_927 : decode cX12_led 27 = .ok (.istore_n 3, 1) ∧ decode cX12_led 28 = .ok (.iconst (-1), 1) ∧ decode cX12_led 29 = .ok (.istore 4, 2) ∧ decode cX12_led 31 = .ok (.aload_n 0, 1) ∧ decode cX12_led 32 = .ok (.getfield 7, 3) ∧ decode cX12_led 35 = .ok (.bipush 9, 2) ∧ decode cX12_led 37 = .ok (.iaload, 1) ∧ decode cX12_led 38 = .ok (.iconst 1, 1) ∧ decode cX12_led 39 = .ok (.isub, 1) ∧ decode cX12_led 40 = .ok (.istore 5, 2) := by decide +kernel
theorem dX12_led_27 : decode cX12_led 27 = .ok (.istore_n 3, 1) := zdc_927.1
theorem dX12_led_28 : decode cX12_led 28 = .ok (.iconst (-1), 1) := zdc_927.2.1
theorem dX12_led_29 : decode cX12_led 29 = .ok (.istore 4, 2) := zdc_927.2.2.1
theorem dX12_led_31 : decode cX12_led 31 = .ok (.aload_n 0, 1) := zdc_927.2.2.2.1
theorem dX12_led_32 : decode cX12_led 32 = .ok (.getfield 7, 3) := zdc_927.2.2.2.2.1
theorem dX12_led_35 : decode cX12_led 35 = .ok (.bipush 9, 2) := zdc_927.2.2.2.2.2.1
theorem dX12_led_37 : decode cX12_led 37 = .ok (.iaload, 1) := zdc_927.2.2.2.2.2.2.1
theorem dX12_led_38 : decode cX12_led 38 = .ok (.iconst 1, 1) := zdc_927.2.2.2.2.2.2.2.1
theorem dX12_led_39 : decode cX12_led 39 = .ok (.isub, 1) := zdc_927.2.2.2.2.2.2.2.2.1
theorem dX12_led_40 : decode cX12_led 40 = .ok (.istore 5, 2) := zdc_927.2.2.2.2.2.2.2.2.2
theorem zdc_928 : decode cX12_led 42 = .ok (.iload 5, 2) ∧ decode cX12_led 44 = .ok (.ifCond .lt 46, 3) ∧ decode cX12_led 47 = .ok (.aload_n 0, 1) ∧ decode cX12_led 48 = .ok (.iload 5, 2) ∧ decode cX12_led 50 = .ok (.iconst 1, 1) ∧ decode cX12_led 51 = .ok (.invokevirtual 346, 3) ∧ decode cX12_led 54 = .ok (.iload_n 1, 1) ∧ decode cX12_led 55 = .ok (.if_icmp .ne 29, 3) ∧ decode cX12_led 58 = .ok (.aload_n 0, 1) ∧ decode cX12_led 59 = .ok (.iload 5, 2) := by decide +kernel
theorem dX12_led_42 : decode cX12_led 42 = .ok (.iload 5, 2) := zdc_928.1
theorem dX12_led_44 : decode cX12_led 44 = .ok (.ifCond .lt 46, 3) := zdc_928.2.1
theorem dX12_led_47 : decode cX12_led 47 = .ok (.aload_n 0, 1) := zdc_928.2.2.1
theorem dX12_led_48 : decode cX12_led 48 = .ok (.iload 5, 2) := zdc_928.2.2.2.1
theorem dX12_led_50 : decode cX12_led 50 = .ok (.iconst 1, 1) := zdc_928.2.2.2.2.1
theorem dX12_led_51 : decode cX12_led 51 = .ok (.invokevirtual 346, 3) := zdc_928.2.2.2.2.2.1
theorem dX12_led_54 : decode cX12_led 54 = .ok (.iload_n 1, 1) := zdc_928.2.2.2.2.2.2.1
theorem dX12_led_55 : decode cX12_led 55 = .ok (.if_icmp .ne 29, 3) := zdc_928.2.2.2.2.2.2.2.1
theorem dX12_led_58 : decode cX12_led 58 = .ok (.aload_n 0, 1) := zdc_928.2.2.2.2.2.2.2.2.1
theorem dX12_led_59 : decode cX12_led 59 = .ok (.iload 5, 2) := zdc_928.2.2.2.2.2.2.2.2.2
theorem zdc_929 : decode cX12_led 61 = .ok (.iconst 2, 1) ∧ decode cX12_led 62 = .ok (.invokevirtual 346, 3) ∧ decode cX12_led 65 = .ok (.iconst 1, 1) ∧ decode cX12_led 66 = .ok (.if_icmp .le 6, 3) ∧ decode cX12_led 69 = .ok (.goto 15, 3) ∧ decode cX12_led 72 = .ok (.iinc 3 1, 3) ∧ decode cX12_led 75 = .ok (.aload_n 0, 1) ∧ decode cX12_led 76 = .ok (.iload 5, 2) ∧ decode cX12_led 78 = .ok (.iconst 0, 1) ∧ decode cX12_led 79 = .ok (.invokevirtual 346, 3) := by decide +kernel
theorem dX12_led_61 : decode cX12_led 61 = .ok (.iconst 2, 1) := zdc_929.1
theorem dX12_led_62 : decode cX12_led 62 = .ok (.invokevirtual 346, 3) := zdc_929.2.1
theorem dX12_led_65 : decode cX12_led 65 = .ok (.iconst 1, 1) := zdc_929.2.2.1
theorem dX12_led_66 : decode cX12_led 66 = .ok (.if_icmp .le 6, 3) := zdc_929.2.2.2.1
theorem dX12_led_69 : decode cX12_led 69 = .ok (.goto 15, 3) := zdc_929.2.2.2.2.1
theorem dX12_led_72 : decode cX12_led 72 = .ok (.iinc 3 1, 3) := zdc_929.2.2.2.2.2.1
theorem dX12_led_75 : decode cX12_led 75 = .ok (.aload_n 0, 1) := zdc_929.2.2.2.2.2.2.1
theorem dX12_led_76 : decode cX12_led 76 = .ok (.iload 5, 2) := zdc_929.2.2.2.2.2.2.2.1
theorem dX12_led_78 : decode cX12_led 78 = .ok (.iconst 0, 1) := zdc_929.2.2.2.2.2.2.2.2.1
theorem dX12_led_79 : decode cX12_led 79 = .ok (.invokevirtual 346, 3) := zdc_929.2.2.2.2.2.2.2.2.2
theorem zdc_930 : decode cX12_led 82 = .ok (.istore 4, 2) ∧ decode cX12_led 84 = .ok (.iinc 5 (-1), 3) ∧ decode cX12_led 87 = .ok (.goto (-45), 3) ∧ decode cX12_led 90 = .ok (.iload_n 2, 1) ∧ decode cX12_led 91 = .ok (.ifCond .eq 8, 3) ∧ decode cX12_led 94 = .ok (.iload 4, 2) ∧ decode cX12_led 96 = .ok (.goto 4, 3) ∧ decode cX12_led 99 = .ok (.iload_n 3, 1) ∧ decode cX12_led 100 = .ok (.ireturn, 1) ∧ decode cX12_log 0 = .ok (.aload_n 0, 1) := by decide +kernel
theorem dX12_led_82 : decode cX12_led 82 = .ok (.istore 4, 2) := zdc_930.1
theorem dX12_led_84 : decode cX12_led 84 = .ok (.iinc 5 (-1), 3) := zdc_930.2.1
theorem dX12_led_87 : decode cX12_led 87 = .ok (.goto (-45), 3) := zdc_930.2.2.1
theorem dX12_led_90 : decode cX12_led 90 = .ok (.iload_n 2, 1) := zdc_930.2.2.2.1
theorem dX12_led_91 : decode cX12_led 91 = .ok (.ifCond .eq 8, 3) := zdc_930.2.2.2.2.1
theorem dX12_led_94 : decode cX12_led 94 = .ok (.iload 4, 2) := zdc_930.2.2.2.2.2.1
theorem dX12_led_96 : decode cX12_led 96 = .ok (.goto 4, 3) := zdc_930.2.2.2.2.2.2.1
theorem dX12_led_99 : decode cX12_led 99 = .ok (.iload_n 3, 1) := zdc_930.2.2.2.2.2.2.2.1
theorem dX12_led_100 : decode cX12_led 100 = .ok (.ireturn, 1) := zdc_930.2.2.2.2.2.2.2.2.1
theorem dX12_log_0 : decode cX12_log 0 = .ok (.aload_n 0, 1) := zdc_930.2.2.2.2.2.2.2.2.2
theorem zdc_931 : decode cX12_log 1 = .ok (.iload_n 2, 1) ∧ decode cX12_log 2 = .ok (.iconst 0, 1) ∧ decode cX12_log 3 = .ok (.iconst 3, 1) ∧ decode cX12_log 4 = .ok (.invokestatic 42, 3) ∧ decode cX12_log 7 = .ok (.ifCond .ne 7, 3) ∧ decode cX12_log 10 = .ok (.iconst 1, 1) ∧ decode cX12_log 11 = .ok (.goto 4, 3) ∧ decode cX12_log 14 = .ok (.iconst 0, 1) ∧ decode cX12_log 15 = .ok (.putfield 39, 3) ∧ decode cX12_log 18 = .ok (.aload_n 0, 1) := by decide +kernel
theorem dX12_log_1 : decode cX12_log 1 = .ok (.iload_n 2, 1) := zdc_931.1
theorem dX12_log_2 : decode cX12_log 2 = .ok (.iconst 0, 1) := zdc_931.2.1
theorem dX12_log_3 : decode cX12_log 3 = .ok (.iconst 3, 1) := zdc_931.2.2.1
theorem dX12_log_4 : decode cX12_log 4 = .ok (.invokestatic 42, 3) := zdc_931.2.2.2.1
theorem dX12_log_7 : decode cX12_log 7 = .ok (.ifCond .ne 7, 3) := zdc_931.2.2.2.2.1
theorem dX12_log_10 : decode cX12_log 10 = .ok (.iconst 1, 1) := zdc_931.2.2.2.2.2.1
theorem dX12_log_11 : decode cX12_log 11 = .ok (.goto 4, 3) := zdc_931.2.2.2.2.2.2.1
theorem dX12_log_14 : decode cX12_log 14 = .ok (.iconst 0, 1) := zdc_931.2.2.2.2.2.2.2.1
theorem dX12_log_15 : decode cX12_log 15 = .ok (.putfield 39, 3) := zdc_931.2.2.2.2.2.2.2.2.1
theorem dX12_log_18 : decode cX12_log 18 = .ok (.aload_n 0, 1) := zdc_931.2.2.2.2.2.2.2.2.2
theorem zdc_932 : decode cX12_log 19 = .ok (.getfield 39, 3) ∧ decode cX12_log 22 = .ok (.ifCond .le 5, 3) ∧ decode cX12_log 25 = .ok (.iconst 0, 1) ∧ decode cX12_log 26 = .ok (.ireturn, 1) ∧ decode cX12_log 27 = .ok (.iload_n 1, 1) ∧ decode cX12_log 28 = .ok (.iconst 0, 1) ∧ decode cX12_log 29 = .ok (.aload_n 0, 1) ∧ decode cX12_log 30 = .ok (.getfield 7, 3) ∧ decode cX12_log 33 = .ok (.bipush 9, 2) ∧ decode cX12_log 35 = .ok (.iaload, 1) := by decide +kernel
theorem dX12_log_19 : decode cX12_log 19 = .ok (.getfield 39, 3) := zdc_932.1
theorem dX12_log_22 : decode cX12_log 22 = .ok (.ifCond .le 5, 3) := zdc_932.2.1
theorem dX12_log_25 : decode cX12_log 25 = .ok (.iconst 0, 1) := zdc_932.2.2.1
theorem dX12_log_26 : decode cX12_log 26 = .ok (.ireturn, 1) := zdc_932.2.2.2.1
theorem dX12_log_27 : decode cX12_log 27 = .ok (.iload_n 1, 1) := zdc_932.2.2.2.2.1
theorem dX12_log_28 : decode cX12_log 28 = .ok (.iconst 0, 1) := zdc_932.2.2.2.2.2.1
theorem dX12_log_29 : decode cX12_log 29 = .ok (.aload_n 0, 1) := zdc_932.2.2.2.2.2.2.1
theorem dX12_log_30 : decode cX12_log 30 = .ok (.getfield 7, 3) := zdc_932.2.2.2.2.2.2.2.1
theorem dX12_log_33 : decode cX12_log 33 = .ok (.bipush 9, 2) := zdc_932.2.2.2.2.2.2.2.2.1
theorem dX12_log_35 : decode cX12_log 35 = .ok (.iaload, 1) := zdc_932.2.2.2.2.2.2.2.2.2
theorem zdc_933 : decode cX12_log 36 = .ok (.iconst 1, 1) ∧ decode cX12_log 37 = .ok (.isub, 1) ∧ decode cX12_log 38 = .ok (.invokestatic 42, 3) ∧ decode cX12_log 41 = .ok (.ifCond .eq 12, 3) ∧ decode cX12_log 44 = .ok (.aload_n 0, 1) ∧ decode cX12_log 45 = .ok (.iload_n 1, 1) ∧ decode cX12_log 46 = .ok (.iload_n 2, 1) ∧ decode cX12_log 47 = .ok (.invokevirtual 346, 3) ∧ decode cX12_log 50 = .ok (.goto 4, 3) ∧ decode cX12_log 53 = .ok (.iconst (-1), 1) := by decide +kernel
theorem dX12_log_36 : decode cX12_log 36 = .ok (.iconst 1, 1) := zdc_933.1
theorem dX12_log_37 : decode cX12_log 37 = .ok (.isub, 1) := zdc_933.2.1
theorem dX12_log_38 : decode cX12_log 38 = .ok (.invokestatic 42, 3) := zdc_933.2.2.1
theorem dX12_log_41 : decode cX12_log 41 = .ok (.ifCond .eq 12, 3) := zdc_933.2.2.2.1
theorem dX12_log_44 : decode cX12_log 44 = .ok (.aload_n 0, 1) := zdc_933.2.2.2.2.1
theorem dX12_log_45 : decode cX12_log 45 = .ok (.iload_n 1, 1) := zdc_933.2.2.2.2.2.1
theorem dX12_log_46 : decode cX12_log 46 = .ok (.iload_n 2, 1) := zdc_933.2.2.2.2.2.2.1
theorem dX12_log_47 : decode cX12_log 47 = .ok (.invokevirtual 346, 3) := zdc_933.2.2.2.2.2.2.2.1
theorem dX12_log_50 : decode cX12_log 50 = .ok (.goto 4, 3) := zdc_933.2.2.2.2.2.2.2.2.1
theorem dX12_log_53 : decode cX12_log 53 = .ok (.iconst (-1), 1) := zdc_933.2.2.2.2.2.2.2.2.2
theorem zdc_934 : decode cX12_log 54 = .ok (.ireturn, 1) ∧ decode cX12_seed 0 = .ok (.aload_n 0, 1) ∧ decode cX12_seed 1 = .ok (.iconst 0, 1) ∧ decode cX12_seed 2 = .ok (.putfield 39, 3) ∧ decode cX12_seed 5 = .ok (.aload_n 0, 1) ∧ decode cX12_seed 6 = .ok (.getfield 7, 3) ∧ decode cX12_seed 9 = .ok (.bipush 10, 2) ∧ decode cX12_seed 11 = .ok (.iaload, 1) ∧ decode cX12_seed 12 = .ok (.istore_n 2, 1) ∧ decode cX12_seed 13 = .ok (.aload_n 0, 1) := by decide +kernel
theorem dX12_log_54 : decode cX12_log 54 = .ok (.ireturn, 1) := zdc_934.1
theorem dX12_seed_0 : decode cX12_seed 0 = .ok (.aload_n 0, 1) := zdc_934.2.1
theorem dX12_seed_1 : decode cX12_seed 1 = .ok (.iconst 0, 1) := zdc_934.2.2.1
theorem dX12_seed_2 : decode cX12_seed 2 = .ok (.putfield 39, 3) := zdc_934.2.2.2.1
theorem dX12_seed_5 : decode cX12_seed 5 = .ok (.aload_n 0, 1) := zdc_934.2.2.2.2.1
theorem dX12_seed_6 : decode cX12_seed 6 = .ok (.getfield 7, 3) := zdc_934.2.2.2.2.2.1
theorem dX12_seed_9 : decode cX12_seed 9 = .ok (.bipush 10, 2) := zdc_934.2.2.2.2.2.2.1
theorem dX12_seed_11 : decode cX12_seed 11 = .ok (.iaload, 1) := zdc_934.2.2.2.2.2.2.2.1
theorem dX12_seed_12 : decode cX12_seed 12 = .ok (.istore_n 2, 1) := zdc_934.2.2.2.2.2.2.2.2.1
theorem dX12_seed_13 : decode cX12_seed 13 = .ok (.aload_n 0, 1) := zdc_934.2.2.2.2.2.2.2.2.2
theorem zdc_935 : decode cX12_seed 14 = .ok (.getfield 7, 3) ∧ decode cX12_seed 17 = .ok (.bipush 10, 2) ∧ decode cX12_seed 19 = .ok (.iload_n 1, 1) ∧ decode cX12_seed 20 = .ok (.iastore, 1) ∧ decode cX12_seed 21 = .ok (.iload_n 2, 1) ∧ decode cX12_seed 22 = .ok (.ireturn, 1) ∧ decode cX12_undo 0 = .ok (.aload_n 0, 1) ∧ decode cX12_undo 1 = .ok (.iconst 0, 1) ∧ decode cX12_undo 2 = .ok (.putfield 39, 3) ∧ decode cX12_undo 5 = .ok (.aload_n 0, 1) := by decide +kernel
theorem dX12_seed_14 : decode cX12_seed 14 = .ok (.getfield 7, 3) := zdc_935.1
theorem dX12_seed_17 : decode cX12_seed 17 = .ok (.bipush 10, 2) := zdc_935.2.1
theorem dX12_seed_19 : decode cX12_seed 19 = .ok (.iload_n 1, 1) := zdc_935.2.2.1
theorem dX12_seed_20 : decode cX12_seed 20 = .ok (.iastore, 1) := zdc_935.2.2.2.1
theorem dX12_seed_21 : decode cX12_seed 21 = .ok (.iload_n 2, 1) := zdc_935.2.2.2.2.1
theorem dX12_seed_22 : decode cX12_seed 22 = .ok (.ireturn, 1) := zdc_935.2.2.2.2.2.1
theorem dX12_undo_0 : decode cX12_undo 0 = .ok (.aload_n 0, 1) := zdc_935.2.2.2.2.2.2.1
theorem dX12_undo_1 : decode cX12_undo 1 = .ok (.iconst 0, 1) := zdc_935.2.2.2.2.2.2.2.1
theorem dX12_undo_2 : decode cX12_undo 2 = .ok (.putfield 39, 3) := zdc_935.2.2.2.2.2.2.2.2.1
theorem dX12_undo_5 : decode cX12_undo 5 = .ok (.aload_n 0, 1) := zdc_935.2.2.2.2.2.2.2.2.2
theorem zdc_936 : decode cX12_undo 6 = .ok (.getfield 187, 3) ∧ decode cX12_undo 9 = .ok (.ifCond .ne 5, 3) ∧ decode cX12_undo 12 = .ok (.iconst 0, 1) ∧ decode cX12_undo 13 = .ok (.ireturn, 1) ∧ decode cX12_undo 14 = .ok (.aload_n 0, 1) ∧ decode cX12_undo 15 = .ok (.dup, 1) ∧ decode cX12_undo 16 = .ok (.getfield 187, 3) ∧ decode cX12_undo 19 = .ok (.iconst 1, 1) ∧ decode cX12_undo 20 = .ok (.isub, 1) ∧ decode cX12_undo 21 = .ok (.putfield 187, 3) := by decide +kernel
theorem dX12_undo_6 : decode cX12_undo 6 = .ok (.getfield 187, 3) := zdc_936.1
theorem dX12_undo_9 : decode cX12_undo 9 = .ok (.ifCond .ne 5, 3) := zdc_936.2.1
theorem dX12_undo_12 : decode cX12_undo 12 = .ok (.iconst 0, 1) := zdc_936.2.2.1
theorem dX12_undo_13 : decode cX12_undo 13 = .ok (.ireturn, 1) := zdc_936.2.2.2.1
theorem dX12_undo_14 : decode cX12_undo 14 = .ok (.aload_n 0, 1) := zdc_936.2.2.2.2.1
theorem dX12_undo_15 : decode cX12_undo 15 = .ok (.dup, 1) := zdc_936.2.2.2.2.2.1
theorem dX12_undo_16 : decode cX12_undo 16 = .ok (.getfield 187, 3) := zdc_936.2.2.2.2.2.2.1
theorem dX12_undo_19 : decode cX12_undo 19 = .ok (.iconst 1, 1) := zdc_936.2.2.2.2.2.2.2.1
theorem dX12_undo_20 : decode cX12_undo 20 = .ok (.isub, 1) := zdc_936.2.2.2.2.2.2.2.2.1
theorem dX12_undo_21 : decode cX12_undo 21 = .ok (.putfield 187, 3) := zdc_936.2.2.2.2.2.2.2.2.2
theorem zdc_937 : decode cX12_undo 24 = .ok (.iconst 0, 1) ∧ decode cX12_undo 25 = .ok (.istore_n 1, 1) ∧ decode cX12_undo 26 = .ok (.iload_n 1, 1) ∧ decode cX12_undo 27 = .ok (.sipush 379, 3) ∧ decode cX12_undo 30 = .ok (.if_icmp .ge 30, 3) ∧ decode cX12_undo 33 = .ok (.aload_n 0, 1) ∧ decode cX12_undo 34 = .ok (.getfield 7, 3) ∧ decode cX12_undo 37 = .ok (.iload_n 1, 1) ∧ decode cX12_undo 38 = .ok (.aload_n 0, 1) ∧ decode cX12_undo 39 = .ok (.getfield 19, 3) := by decide +kernel
theorem dX12_undo_24 : decode cX12_undo 24 = .ok (.iconst 0, 1) := zdc_937.1
theorem dX12_undo_25 : decode cX12_undo 25 = .ok (.istore_n 1, 1) := zdc_937.2.1
theorem dX12_undo_26 : decode cX12_undo 26 = .ok (.iload_n 1, 1) := zdc_937.2.2.1
theorem dX12_undo_27 : decode cX12_undo 27 = .ok (.sipush 379, 3) := zdc_937.2.2.2.1
theorem dX12_undo_30 : decode cX12_undo 30 = .ok (.if_icmp .ge 30, 3) := zdc_937.2.2.2.2.1
theorem dX12_undo_33 : decode cX12_undo 33 = .ok (.aload_n 0, 1) := zdc_937.2.2.2.2.2.1
theorem dX12_undo_34 : decode cX12_undo 34 = .ok (.getfield 7, 3) := zdc_937.2.2.2.2.2.2.1
theorem dX12_undo_37 : decode cX12_undo 37 = .ok (.iload_n 1, 1) := zdc_937.2.2.2.2.2.2.2.1
theorem dX12_undo_38 : decode cX12_undo 38 = .ok (.aload_n 0, 1) := zdc_937.2.2.2.2.2.2.2.2.1
theorem dX12_undo_39 : decode cX12_undo 39 = .ok (.getfield 19, 3) := zdc_937.2.2.2.2.2.2.2.2.2
theorem zdc_938 : decode cX12_undo 42 = .ok (.sipush 379, 3) ∧ decode cX12_undo 45 = .ok (.aload_n 0, 1) ∧ decode cX12_undo 46 = .ok (.getfield 187, 3) ∧ decode cX12_undo 49 = .ok (.imul, 1) ∧ decode cX12_undo 50 = .ok (.iload_n 1, 1) ∧ decode cX12_undo 51 = .ok (.iadd, 1) ∧ decode cX12_undo 52 = .ok (.iaload, 1) ∧ decode cX12_undo 53 = .ok (.iastore, 1) ∧ decode cX12_undo 54 = .ok (.iinc 1 1, 3) ∧ decode cX12_undo 57 = .ok (.goto (-31), 3) := by decide +kernel
theorem dX12_undo_42 : decode cX12_undo 42 = .ok (.sipush 379, 3) := zdc_938.1
theorem dX12_undo_45 : decode cX12_undo 45 = .ok (.aload_n 0, 1) := zdc_938.2.1
theorem dX12_undo_46 : decode cX12_undo 46 = .ok (.getfield 187, 3) := zdc_938.2.2.1
theorem dX12_undo_49 : decode cX12_undo 49 = .ok (.imul, 1) := zdc_938.2.2.2.1
theorem dX12_undo_50 : decode cX12_undo 50 = .ok (.iload_n 1, 1) := zdc_938.2.2.2.2.1
theorem dX12_undo_51 : decode cX12_undo 51 = .ok (.iadd, 1) := zdc_938.2.2.2.2.2.1
theorem dX12_undo_52 : decode cX12_undo 52 = .ok (.iaload, 1) := zdc_938.2.2.2.2.2.2.1
theorem dX12_undo_53 : decode cX12_undo 53 = .ok (.iastore, 1) := zdc_938.2.2.2.2.2.2.2.1
theorem dX12_undo_54 : decode cX12_undo 54 = .ok (.iinc 1 1, 3) := zdc_938.2.2.2.2.2.2.2.2.1
theorem dX12_undo_57 : decode cX12_undo 57 = .ok (.goto (-31), 3) := zdc_938.2.2.2.2.2.2.2.2.2
theorem zdc_939 : decode cX12_undo 60 = .ok (.iconst 1, 1) ∧ decode cX12_undo 61 = .ok (.ireturn, 1) ∧ decode cX12_image 0 = .ok (.aload_n 0, 1) ∧ decode cX12_image 1 = .ok (.iconst 0, 1) ∧ decode cX12_image 2 = .ok (.putfield 39, 3) ∧ decode cX12_image 5 = .ok (.iconst 0, 1) ∧ decode cX12_image 6 = .ok (.istore_n 1, 1) ∧ decode cX12_image 7 = .ok (.iload_n 1, 1) ∧ decode cX12_image 8 = .ok (.sipush 779, 3) ∧ decode cX12_image 11 = .ok (.if_icmp .ge 21, 3) := by decide +kernel
theorem dX12_undo_60 : decode cX12_undo 60 = .ok (.iconst 1, 1) := zdc_939.1
theorem dX12_undo_61 : decode cX12_undo 61 = .ok (.ireturn, 1) := zdc_939.2.1
theorem dX12_image_0 : decode cX12_image 0 = .ok (.aload_n 0, 1) := zdc_939.2.2.1
theorem dX12_image_1 : decode cX12_image 1 = .ok (.iconst 0, 1) := zdc_939.2.2.2.1
theorem dX12_image_2 : decode cX12_image 2 = .ok (.putfield 39, 3) := zdc_939.2.2.2.2.1
theorem dX12_image_5 : decode cX12_image 5 = .ok (.iconst 0, 1) := zdc_939.2.2.2.2.2.1
theorem dX12_image_6 : decode cX12_image 6 = .ok (.istore_n 1, 1) := zdc_939.2.2.2.2.2.2.1
theorem dX12_image_7 : decode cX12_image 7 = .ok (.iload_n 1, 1) := zdc_939.2.2.2.2.2.2.2.1
theorem dX12_image_8 : decode cX12_image 8 = .ok (.sipush 779, 3) := zdc_939.2.2.2.2.2.2.2.2.1
theorem dX12_image_11 : decode cX12_image 11 = .ok (.if_icmp .ge 21, 3) := zdc_939.2.2.2.2.2.2.2.2.2
theorem zdc_940 : decode cX12_image 14 = .ok (.aload_n 0, 1) ∧ decode cX12_image 15 = .ok (.getfield 13, 3) ∧ decode cX12_image 18 = .ok (.iload_n 1, 1) ∧ decode cX12_image 19 = .ok (.aload_n 0, 1) ∧ decode cX12_image 20 = .ok (.getfield 7, 3) ∧ decode cX12_image 23 = .ok (.iload_n 1, 1) ∧ decode cX12_image 24 = .ok (.iaload, 1) ∧ decode cX12_image 25 = .ok (.iastore, 1) ∧ decode cX12_image 26 = .ok (.iinc 1 1, 3) ∧ decode cX12_image 29 = .ok (.goto (-22), 3) := by decide +kernel
theorem dX12_image_14 : decode cX12_image 14 = .ok (.aload_n 0, 1) := zdc_940.1
theorem dX12_image_15 : decode cX12_image 15 = .ok (.getfield 13, 3) := zdc_940.2.1
theorem dX12_image_18 : decode cX12_image 18 = .ok (.iload_n 1, 1) := zdc_940.2.2.1
theorem dX12_image_19 : decode cX12_image 19 = .ok (.aload_n 0, 1) := zdc_940.2.2.2.1
theorem dX12_image_20 : decode cX12_image 20 = .ok (.getfield 7, 3) := zdc_940.2.2.2.2.1
theorem dX12_image_23 : decode cX12_image 23 = .ok (.iload_n 1, 1) := zdc_940.2.2.2.2.2.1
theorem dX12_image_24 : decode cX12_image 24 = .ok (.iaload, 1) := zdc_940.2.2.2.2.2.2.1
theorem dX12_image_25 : decode cX12_image 25 = .ok (.iastore, 1) := zdc_940.2.2.2.2.2.2.2.1
theorem dX12_image_26 : decode cX12_image 26 = .ok (.iinc 1 1, 3) := zdc_940.2.2.2.2.2.2.2.2.1
theorem dX12_image_29 : decode cX12_image 29 = .ok (.goto (-22), 3) := zdc_940.2.2.2.2.2.2.2.2.2
theorem zdc_941 : decode cX12_image 32 = .ok (.aload_n 0, 1) ∧ decode cX12_image 33 = .ok (.iconst 1, 1) ∧ decode cX12_image 34 = .ok (.putfield 349, 3) ∧ decode cX12_image 37 = .ok (.return_, 1) ∧ decode cX12_back 0 = .ok (.aload_n 0, 1) ∧ decode cX12_back 1 = .ok (.iconst 0, 1) ∧ decode cX12_back 2 = .ok (.putfield 39, 3) ∧ decode cX12_back 5 = .ok (.aload_n 0, 1) ∧ decode cX12_back 6 = .ok (.getfield 349, 3) ∧ decode cX12_back 9 = .ok (.ifCond .ne 5, 3) := by decide +kernel
theorem dX12_image_32 : decode cX12_image 32 = .ok (.aload_n 0, 1) := zdc_941.1
theorem dX12_image_33 : decode cX12_image 33 = .ok (.iconst 1, 1) := zdc_941.2.1
theorem dX12_image_34 : decode cX12_image 34 = .ok (.putfield 349, 3) := zdc_941.2.2.1
theorem dX12_image_37 : decode cX12_image 37 = .ok (.return_, 1) := zdc_941.2.2.2.1
theorem dX12_back_0 : decode cX12_back 0 = .ok (.aload_n 0, 1) := zdc_941.2.2.2.2.1
theorem dX12_back_1 : decode cX12_back 1 = .ok (.iconst 0, 1) := zdc_941.2.2.2.2.2.1
theorem dX12_back_2 : decode cX12_back 2 = .ok (.putfield 39, 3) := zdc_941.2.2.2.2.2.2.1
theorem dX12_back_5 : decode cX12_back 5 = .ok (.aload_n 0, 1) := zdc_941.2.2.2.2.2.2.2.1
theorem dX12_back_6 : decode cX12_back 6 = .ok (.getfield 349, 3) := zdc_941.2.2.2.2.2.2.2.2.1
theorem dX12_back_9 : decode cX12_back 9 = .ok (.ifCond .ne 5, 3) := zdc_941.2.2.2.2.2.2.2.2.2
theorem zdc_942 : decode cX12_back 12 = .ok (.iconst 0, 1) ∧ decode cX12_back 13 = .ok (.ireturn, 1) ∧ decode cX12_back 14 = .ok (.iconst 0, 1) ∧ decode cX12_back 15 = .ok (.istore_n 1, 1) ∧ decode cX12_back 16 = .ok (.iload_n 1, 1) ∧ decode cX12_back 17 = .ok (.sipush 779, 3) ∧ decode cX12_back 20 = .ok (.if_icmp .ge 21, 3) ∧ decode cX12_back 23 = .ok (.aload_n 0, 1) ∧ decode cX12_back 24 = .ok (.getfield 7, 3) ∧ decode cX12_back 27 = .ok (.iload_n 1, 1) := by decide +kernel
theorem dX12_back_12 : decode cX12_back 12 = .ok (.iconst 0, 1) := zdc_942.1
theorem dX12_back_13 : decode cX12_back 13 = .ok (.ireturn, 1) := zdc_942.2.1
theorem dX12_back_14 : decode cX12_back 14 = .ok (.iconst 0, 1) := zdc_942.2.2.1
theorem dX12_back_15 : decode cX12_back 15 = .ok (.istore_n 1, 1) := zdc_942.2.2.2.1
theorem dX12_back_16 : decode cX12_back 16 = .ok (.iload_n 1, 1) := zdc_942.2.2.2.2.1
theorem dX12_back_17 : decode cX12_back 17 = .ok (.sipush 779, 3) := zdc_942.2.2.2.2.2.1
theorem dX12_back_20 : decode cX12_back 20 = .ok (.if_icmp .ge 21, 3) := zdc_942.2.2.2.2.2.2.1
theorem dX12_back_23 : decode cX12_back 23 = .ok (.aload_n 0, 1) := zdc_942.2.2.2.2.2.2.2.1
theorem dX12_back_24 : decode cX12_back 24 = .ok (.getfield 7, 3) := zdc_942.2.2.2.2.2.2.2.2.1
theorem dX12_back_27 : decode cX12_back 27 = .ok (.iload_n 1, 1) := zdc_942.2.2.2.2.2.2.2.2.2
theorem zdc_943 : decode cX12_back 28 = .ok (.aload_n 0, 1) ∧ decode cX12_back 29 = .ok (.getfield 13, 3) ∧ decode cX12_back 32 = .ok (.iload_n 1, 1) ∧ decode cX12_back 33 = .ok (.iaload, 1) ∧ decode cX12_back 34 = .ok (.iastore, 1) ∧ decode cX12_back 35 = .ok (.iinc 1 1, 3) ∧ decode cX12_back 38 = .ok (.goto (-22), 3) ∧ decode cX12_back 41 = .ok (.aload_n 0, 1) ∧ decode cX12_back 42 = .ok (.iconst 0, 1) ∧ decode cX12_back 43 = .ok (.putfield 187, 3) := by decide +kernel
theorem dX12_back_28 : decode cX12_back 28 = .ok (.aload_n 0, 1) := zdc_943.1
theorem dX12_back_29 : decode cX12_back 29 = .ok (.getfield 13, 3) := zdc_943.2.1
theorem dX12_back_32 : decode cX12_back 32 = .ok (.iload_n 1, 1) := zdc_943.2.2.1
theorem dX12_back_33 : decode cX12_back 33 = .ok (.iaload, 1) := zdc_943.2.2.2.1
theorem dX12_back_34 : decode cX12_back 34 = .ok (.iastore, 1) := zdc_943.2.2.2.2.1
theorem dX12_back_35 : decode cX12_back 35 = .ok (.iinc 1 1, 3) := zdc_943.2.2.2.2.2.1
theorem dX12_back_38 : decode cX12_back 38 = .ok (.goto (-22), 3) := zdc_943.2.2.2.2.2.2.1
theorem dX12_back_41 : decode cX12_back 41 = .ok (.aload_n 0, 1) := zdc_943.2.2.2.2.2.2.2.1
theorem dX12_back_42 : decode cX12_back 42 = .ok (.iconst 0, 1) := zdc_943.2.2.2.2.2.2.2.2.1
theorem dX12_back_43 : decode cX12_back 43 = .ok (.putfield 187, 3) := zdc_943.2.2.2.2.2.2.2.2.2
theorem zdc_944 : decode cX12_back 46 = .ok (.iconst 1, 1) ∧ decode cX12_back 47 = .ok (.ireturn, 1) ∧ decode cX12_sharesOfAll 0 = .ok (.iconst 0, 1) ∧ decode cX12_sharesOfAll 1 = .ok (.istore_n 1, 1) ∧ decode cX12_sharesOfAll 2 = .ok (.iconst 0, 1) ∧ decode cX12_sharesOfAll 3 = .ok (.istore_n 2, 1) ∧ decode cX12_sharesOfAll 4 = .ok (.iload_n 2, 1) ∧ decode cX12_sharesOfAll 5 = .ok (.aload_n 0, 1) ∧ decode cX12_sharesOfAll 6 = .ok (.getfield 7, 3) ∧ decode cX12_sharesOfAll 9 = .ok (.iconst 3, 1) := by decide +kernel
theorem dX12_back_46 : decode cX12_back 46 = .ok (.iconst 1, 1) := zdc_944.1
theorem dX12_back_47 : decode cX12_back 47 = .ok (.ireturn, 1) := zdc_944.2.1
theorem dX12_sharesOfAll_0 : decode cX12_sharesOfAll 0 = .ok (.iconst 0, 1) := zdc_944.2.2.1
theorem dX12_sharesOfAll_1 : decode cX12_sharesOfAll 1 = .ok (.istore_n 1, 1) := zdc_944.2.2.2.1
theorem dX12_sharesOfAll_2 : decode cX12_sharesOfAll 2 = .ok (.iconst 0, 1) := zdc_944.2.2.2.2.1
theorem dX12_sharesOfAll_3 : decode cX12_sharesOfAll 3 = .ok (.istore_n 2, 1) := zdc_944.2.2.2.2.2.1
theorem dX12_sharesOfAll_4 : decode cX12_sharesOfAll 4 = .ok (.iload_n 2, 1) := zdc_944.2.2.2.2.2.2.1
theorem dX12_sharesOfAll_5 : decode cX12_sharesOfAll 5 = .ok (.aload_n 0, 1) := zdc_944.2.2.2.2.2.2.2.1
theorem dX12_sharesOfAll_6 : decode cX12_sharesOfAll 6 = .ok (.getfield 7, 3) := zdc_944.2.2.2.2.2.2.2.2.1
theorem dX12_sharesOfAll_9 : decode cX12_sharesOfAll 9 = .ok (.iconst 3, 1) := zdc_944.2.2.2.2.2.2.2.2.2
theorem zdc_945 : decode cX12_sharesOfAll 10 = .ok (.iaload, 1) ∧ decode cX12_sharesOfAll 11 = .ok (.if_icmp .ge 18, 3) ∧ decode cX12_sharesOfAll 14 = .ok (.iload_n 1, 1) ∧ decode cX12_sharesOfAll 15 = .ok (.aload_n 0, 1) ∧ decode cX12_sharesOfAll 16 = .ok (.iload_n 2, 1) ∧ decode cX12_sharesOfAll 17 = .ok (.iconst 2, 1) ∧ decode cX12_sharesOfAll 18 = .ok (.invokevirtual 46, 3) ∧ decode cX12_sharesOfAll 21 = .ok (.iadd, 1) ∧ decode cX12_sharesOfAll 22 = .ok (.istore_n 1, 1) ∧ decode cX12_sharesOfAll 23 = .ok (.iinc 2 1, 3) := by decide +kernel
theorem dX12_sharesOfAll_10 : decode cX12_sharesOfAll 10 = .ok (.iaload, 1) := zdc_945.1
theorem dX12_sharesOfAll_11 : decode cX12_sharesOfAll 11 = .ok (.if_icmp .ge 18, 3) := zdc_945.2.1
theorem dX12_sharesOfAll_14 : decode cX12_sharesOfAll 14 = .ok (.iload_n 1, 1) := zdc_945.2.2.1
theorem dX12_sharesOfAll_15 : decode cX12_sharesOfAll 15 = .ok (.aload_n 0, 1) := zdc_945.2.2.2.1
theorem dX12_sharesOfAll_16 : decode cX12_sharesOfAll 16 = .ok (.iload_n 2, 1) := zdc_945.2.2.2.2.1
theorem dX12_sharesOfAll_17 : decode cX12_sharesOfAll 17 = .ok (.iconst 2, 1) := zdc_945.2.2.2.2.2.1
theorem dX12_sharesOfAll_18 : decode cX12_sharesOfAll 18 = .ok (.invokevirtual 46, 3) := zdc_945.2.2.2.2.2.2.1
theorem dX12_sharesOfAll_21 : decode cX12_sharesOfAll 21 = .ok (.iadd, 1) := zdc_945.2.2.2.2.2.2.2.1
theorem dX12_sharesOfAll_22 : decode cX12_sharesOfAll 22 = .ok (.istore_n 1, 1) := zdc_945.2.2.2.2.2.2.2.2.1
theorem dX12_sharesOfAll_23 : decode cX12_sharesOfAll 23 = .ok (.iinc 2 1, 3) := zdc_945.2.2.2.2.2.2.2.2.2
theorem zdc_946 : decode cX12_sharesOfAll 26 = .ok (.goto (-22), 3) ∧ decode cX12_sharesOfAll 29 = .ok (.iload_n 1, 1) ∧ decode cX12_sharesOfAll 30 = .ok (.ireturn, 1) ∧ decode cX12_count 0 = .ok (.aload_n 0, 1) ∧ decode cX12_count 1 = .ok (.iconst 0, 1) ∧ decode cX12_count 2 = .ok (.putfield 39, 3) ∧ decode cX12_count 5 = .ok (.iload_n 1, 1) ∧ decode cX12_count 6 = .ok (.ifCond .ne 10, 3) ∧ decode cX12_count 9 = .ok (.aload_n 0, 1) ∧ decode cX12_count 10 = .ok (.getfield 7, 3) := by decide +kernel
theorem dX12_sharesOfAll_26 : decode cX12_sharesOfAll 26 = .ok (.goto (-22), 3) := zdc_946.1
theorem dX12_sharesOfAll_29 : decode cX12_sharesOfAll 29 = .ok (.iload_n 1, 1) := zdc_946.2.1
theorem dX12_sharesOfAll_30 : decode cX12_sharesOfAll 30 = .ok (.ireturn, 1) := zdc_946.2.2.1
theorem dX12_count_0 : decode cX12_count 0 = .ok (.aload_n 0, 1) := zdc_946.2.2.2.1
theorem dX12_count_1 : decode cX12_count 1 = .ok (.iconst 0, 1) := zdc_946.2.2.2.2.1
theorem dX12_count_2 : decode cX12_count 2 = .ok (.putfield 39, 3) := zdc_946.2.2.2.2.2.1
theorem dX12_count_5 : decode cX12_count 5 = .ok (.iload_n 1, 1) := zdc_946.2.2.2.2.2.2.1
theorem dX12_count_6 : decode cX12_count 6 = .ok (.ifCond .ne 10, 3) := zdc_946.2.2.2.2.2.2.2.1
theorem dX12_count_9 : decode cX12_count 9 = .ok (.aload_n 0, 1) := zdc_946.2.2.2.2.2.2.2.2.1
theorem dX12_count_10 : decode cX12_count 10 = .ok (.getfield 7, 3) := zdc_946.2.2.2.2.2.2.2.2.2
theorem zdc_947 : decode cX12_count 13 = .ok (.iconst 3, 1) ∧ decode cX12_count 14 = .ok (.iaload, 1) ∧ decode cX12_count 15 = .ok (.ireturn, 1) ∧ decode cX12_count 16 = .ok (.iload_n 1, 1) ∧ decode cX12_count 17 = .ok (.iconst 1, 1) ∧ decode cX12_count 18 = .ok (.if_icmp .ne 10, 3) ∧ decode cX12_count 21 = .ok (.aload_n 0, 1) ∧ decode cX12_count 22 = .ok (.getfield 7, 3) ∧ decode cX12_count 25 = .ok (.iconst 4, 1) ∧ decode cX12_count 26 = .ok (.iaload, 1) := by decide +kernel
theorem dX12_count_13 : decode cX12_count 13 = .ok (.iconst 3, 1) := zdc_947.1
theorem dX12_count_14 : decode cX12_count 14 = .ok (.iaload, 1) := zdc_947.2.1
theorem dX12_count_15 : decode cX12_count 15 = .ok (.ireturn, 1) := zdc_947.2.2.1
theorem dX12_count_16 : decode cX12_count 16 = .ok (.iload_n 1, 1) := zdc_947.2.2.2.1
theorem dX12_count_17 : decode cX12_count 17 = .ok (.iconst 1, 1) := zdc_947.2.2.2.2.1
theorem dX12_count_18 : decode cX12_count 18 = .ok (.if_icmp .ne 10, 3) := zdc_947.2.2.2.2.2.1
theorem dX12_count_21 : decode cX12_count 21 = .ok (.aload_n 0, 1) := zdc_947.2.2.2.2.2.2.1
theorem dX12_count_22 : decode cX12_count 22 = .ok (.getfield 7, 3) := zdc_947.2.2.2.2.2.2.2.1
theorem dX12_count_25 : decode cX12_count 25 = .ok (.iconst 4, 1) := zdc_947.2.2.2.2.2.2.2.2.1
theorem dX12_count_26 : decode cX12_count 26 = .ok (.iaload, 1) := zdc_947.2.2.2.2.2.2.2.2.2
theorem zdc_948 : decode cX12_count 27 = .ok (.ireturn, 1) ∧ decode cX12_count 28 = .ok (.iload_n 1, 1) ∧ decode cX12_count 29 = .ok (.iconst 2, 1) ∧ decode cX12_count 30 = .ok (.if_icmp .ne 10, 3) ∧ decode cX12_count 33 = .ok (.aload_n 0, 1) ∧ decode cX12_count 34 = .ok (.getfield 7, 3) ∧ decode cX12_count 37 = .ok (.iconst 0, 1) ∧ decode cX12_count 38 = .ok (.iaload, 1) ∧ decode cX12_count 39 = .ok (.ireturn, 1) ∧ decode cX12_count 40 = .ok (.iload_n 1, 1) := by decide +kernel
theorem dX12_count_27 : decode cX12_count 27 = .ok (.ireturn, 1) := zdc_948.1
theorem dX12_count_28 : decode cX12_count 28 = .ok (.iload_n 1, 1) := zdc_948.2.1
theorem dX12_count_29 : decode cX12_count 29 = .ok (.iconst 2, 1) := zdc_948.2.2.1
theorem dX12_count_30 : decode cX12_count 30 = .ok (.if_icmp .ne 10, 3) := zdc_948.2.2.2.1
theorem dX12_count_33 : decode cX12_count 33 = .ok (.aload_n 0, 1) := zdc_948.2.2.2.2.1
theorem dX12_count_34 : decode cX12_count 34 = .ok (.getfield 7, 3) := zdc_948.2.2.2.2.2.1
theorem dX12_count_37 : decode cX12_count 37 = .ok (.iconst 0, 1) := zdc_948.2.2.2.2.2.2.1
theorem dX12_count_38 : decode cX12_count 38 = .ok (.iaload, 1) := zdc_948.2.2.2.2.2.2.2.1
theorem dX12_count_39 : decode cX12_count 39 = .ok (.ireturn, 1) := zdc_948.2.2.2.2.2.2.2.2.1
theorem dX12_count_40 : decode cX12_count 40 = .ok (.iload_n 1, 1) := zdc_948.2.2.2.2.2.2.2.2.2
theorem zdc_949 : decode cX12_count 41 = .ok (.iconst 3, 1) ∧ decode cX12_count 42 = .ok (.if_icmp .ne 10, 3) ∧ decode cX12_count 45 = .ok (.aload_n 0, 1) ∧ decode cX12_count 46 = .ok (.getfield 7, 3) ∧ decode cX12_count 49 = .ok (.iconst 1, 1) ∧ decode cX12_count 50 = .ok (.iaload, 1) ∧ decode cX12_count 51 = .ok (.ireturn, 1) ∧ decode cX12_count 52 = .ok (.iload_n 1, 1) ∧ decode cX12_count 53 = .ok (.iconst 4, 1) ∧ decode cX12_count 54 = .ok (.if_icmp .ne 11, 3) := by decide +kernel
theorem dX12_count_41 : decode cX12_count 41 = .ok (.iconst 3, 1) := zdc_949.1
theorem dX12_count_42 : decode cX12_count 42 = .ok (.if_icmp .ne 10, 3) := zdc_949.2.1
theorem dX12_count_45 : decode cX12_count 45 = .ok (.aload_n 0, 1) := zdc_949.2.2.1
theorem dX12_count_46 : decode cX12_count 46 = .ok (.getfield 7, 3) := zdc_949.2.2.2.1
theorem dX12_count_49 : decode cX12_count 49 = .ok (.iconst 1, 1) := zdc_949.2.2.2.2.1
theorem dX12_count_50 : decode cX12_count 50 = .ok (.iaload, 1) := zdc_949.2.2.2.2.2.1
theorem dX12_count_51 : decode cX12_count 51 = .ok (.ireturn, 1) := zdc_949.2.2.2.2.2.2.1
theorem dX12_count_52 : decode cX12_count 52 = .ok (.iload_n 1, 1) := zdc_949.2.2.2.2.2.2.2.1
theorem dX12_count_53 : decode cX12_count 53 = .ok (.iconst 4, 1) := zdc_949.2.2.2.2.2.2.2.2.1
theorem dX12_count_54 : decode cX12_count 54 = .ok (.if_icmp .ne 11, 3) := zdc_949.2.2.2.2.2.2.2.2.2
theorem zdc_950 : decode cX12_count 57 = .ok (.aload_n 0, 1) ∧ decode cX12_count 58 = .ok (.getfield 7, 3) ∧ decode cX12_count 61 = .ok (.bipush 8, 2) ∧ decode cX12_count 63 = .ok (.iaload, 1) ∧ decode cX12_count 64 = .ok (.ireturn, 1) ∧ decode cX12_count 65 = .ok (.iload_n 1, 1) ∧ decode cX12_count 66 = .ok (.iconst 5, 1) ∧ decode cX12_count 67 = .ok (.if_icmp .ne 10, 3) ∧ decode cX12_count 70 = .ok (.aload_n 0, 1) ∧ decode cX12_count 71 = .ok (.getfield 7, 3) := by decide +kernel
theorem dX12_count_57 : decode cX12_count 57 = .ok (.aload_n 0, 1) := zdc_950.1
theorem dX12_count_58 : decode cX12_count 58 = .ok (.getfield 7, 3) := zdc_950.2.1
theorem dX12_count_61 : decode cX12_count 61 = .ok (.bipush 8, 2) := zdc_950.2.2.1
theorem dX12_count_63 : decode cX12_count 63 = .ok (.iaload, 1) := zdc_950.2.2.2.1
theorem dX12_count_64 : decode cX12_count 64 = .ok (.ireturn, 1) := zdc_950.2.2.2.2.1
theorem dX12_count_65 : decode cX12_count 65 = .ok (.iload_n 1, 1) := zdc_950.2.2.2.2.2.1
theorem dX12_count_66 : decode cX12_count 66 = .ok (.iconst 5, 1) := zdc_950.2.2.2.2.2.2.1
theorem dX12_count_67 : decode cX12_count 67 = .ok (.if_icmp .ne 10, 3) := zdc_950.2.2.2.2.2.2.2.1
theorem dX12_count_70 : decode cX12_count 70 = .ok (.aload_n 0, 1) := zdc_950.2.2.2.2.2.2.2.2.1
theorem dX12_count_71 : decode cX12_count 71 = .ok (.getfield 7, 3) := zdc_950.2.2.2.2.2.2.2.2.2
theorem zdc_951 : decode cX12_count 74 = .ok (.iconst 5, 1) ∧ decode cX12_count 75 = .ok (.iaload, 1) ∧ decode cX12_count 76 = .ok (.ireturn, 1) ∧ decode cX12_count 77 = .ok (.iload_n 1, 1) ∧ decode cX12_count 78 = .ok (.bipush 6, 2) ∧ decode cX12_count 80 = .ok (.if_icmp .ne 8, 3) ∧ decode cX12_count 83 = .ok (.aload_n 0, 1) ∧ decode cX12_count 84 = .ok (.invokevirtual 62, 3) ∧ decode cX12_count 87 = .ok (.ireturn, 1) ∧ decode cX12_count 88 = .ok (.iload_n 1, 1) := by decide +kernel
theorem dX12_count_74 : decode cX12_count 74 = .ok (.iconst 5, 1) := zdc_951.1
theorem dX12_count_75 : decode cX12_count 75 = .ok (.iaload, 1) := zdc_951.2.1
theorem dX12_count_76 : decode cX12_count 76 = .ok (.ireturn, 1) := zdc_951.2.2.1
theorem dX12_count_77 : decode cX12_count 77 = .ok (.iload_n 1, 1) := zdc_951.2.2.2.1
theorem dX12_count_78 : decode cX12_count 78 = .ok (.bipush 6, 2) := zdc_951.2.2.2.2.1
theorem dX12_count_80 : decode cX12_count 80 = .ok (.if_icmp .ne 8, 3) := zdc_951.2.2.2.2.2.1
theorem dX12_count_83 : decode cX12_count 83 = .ok (.aload_n 0, 1) := zdc_951.2.2.2.2.2.2.1
theorem dX12_count_84 : decode cX12_count 84 = .ok (.invokevirtual 62, 3) := zdc_951.2.2.2.2.2.2.2.1
theorem dX12_count_87 : decode cX12_count 87 = .ok (.ireturn, 1) := zdc_951.2.2.2.2.2.2.2.2.1
theorem dX12_count_88 : decode cX12_count 88 = .ok (.iload_n 1, 1) := zdc_951.2.2.2.2.2.2.2.2.2
theorem zdc_952 : decode cX12_count 89 = .ok (.bipush 7, 2) ∧ decode cX12_count 91 = .ok (.if_icmp .ne 8, 3) ∧ decode cX12_count 94 = .ok (.aload_n 0, 1) ∧ decode cX12_count 95 = .ok (.invokevirtual 54, 3) ∧ decode cX12_count 98 = .ok (.ireturn, 1) ∧ decode cX12_count 99 = .ok (.iload_n 1, 1) ∧ decode cX12_count 100 = .ok (.bipush 8, 2) ∧ decode cX12_count 102 = .ok (.bipush 9, 2) ∧ decode cX12_count 104 = .ok (.invokestatic 42, 3) ∧ decode cX12_count 107 = .ok (.ifCond .eq 12, 3) := by decide +kernel
theorem dX12_count_89 : decode cX12_count 89 = .ok (.bipush 7, 2) := zdc_952.1
theorem dX12_count_91 : decode cX12_count 91 = .ok (.if_icmp .ne 8, 3) := zdc_952.2.1
theorem dX12_count_94 : decode cX12_count 94 = .ok (.aload_n 0, 1) := zdc_952.2.2.1
theorem dX12_count_95 : decode cX12_count 95 = .ok (.invokevirtual 54, 3) := zdc_952.2.2.2.1
theorem dX12_count_98 : decode cX12_count 98 = .ok (.ireturn, 1) := zdc_952.2.2.2.2.1
theorem dX12_count_99 : decode cX12_count 99 = .ok (.iload_n 1, 1) := zdc_952.2.2.2.2.2.1
theorem dX12_count_100 : decode cX12_count 100 = .ok (.bipush 8, 2) := zdc_952.2.2.2.2.2.2.1
theorem dX12_count_102 : decode cX12_count 102 = .ok (.bipush 9, 2) := zdc_952.2.2.2.2.2.2.2.1
theorem dX12_count_104 : decode cX12_count 104 = .ok (.invokestatic 42, 3) := zdc_952.2.2.2.2.2.2.2.2.1
theorem dX12_count_107 : decode cX12_count 107 = .ok (.ifCond .eq 12, 3) := zdc_952.2.2.2.2.2.2.2.2.2
theorem zdc_953 : decode cX12_count 110 = .ok (.aload_n 0, 1) ∧ decode cX12_count 111 = .ok (.iload_n 1, 1) ∧ decode cX12_count 112 = .ok (.bipush 7, 2) ∧ decode cX12_count 114 = .ok (.isub, 1) ∧ decode cX12_count 115 = .ok (.invokevirtual 242, 3) ∧ decode cX12_count 118 = .ok (.ireturn, 1) ∧ decode cX12_count 119 = .ok (.iload_n 1, 1) ∧ decode cX12_count 120 = .ok (.bipush 10, 2) ∧ decode cX12_count 122 = .ok (.if_icmp .ne 8, 3) ∧ decode cX12_count 125 = .ok (.aload_n 0, 1) := by decide +kernel
theorem dX12_count_110 : decode cX12_count 110 = .ok (.aload_n 0, 1) := zdc_953.1
theorem dX12_count_111 : decode cX12_count 111 = .ok (.iload_n 1, 1) := zdc_953.2.1
theorem dX12_count_112 : decode cX12_count 112 = .ok (.bipush 7, 2) := zdc_953.2.2.1
theorem dX12_count_114 : decode cX12_count 114 = .ok (.isub, 1) := zdc_953.2.2.2.1
theorem dX12_count_115 : decode cX12_count 115 = .ok (.invokevirtual 242, 3) := zdc_953.2.2.2.2.1
theorem dX12_count_118 : decode cX12_count 118 = .ok (.ireturn, 1) := zdc_953.2.2.2.2.2.1
theorem dX12_count_119 : decode cX12_count 119 = .ok (.iload_n 1, 1) := zdc_953.2.2.2.2.2.2.1
theorem dX12_count_120 : decode cX12_count 120 = .ok (.bipush 10, 2) := zdc_953.2.2.2.2.2.2.2.1
theorem dX12_count_122 : decode cX12_count 122 = .ok (.if_icmp .ne 8, 3) := zdc_953.2.2.2.2.2.2.2.2.1
theorem dX12_count_125 : decode cX12_count 125 = .ok (.aload_n 0, 1) := zdc_953.2.2.2.2.2.2.2.2.2
theorem zdc_954 : decode cX12_count 126 = .ok (.invokevirtual 352, 3) ∧ decode cX12_count 129 = .ok (.ireturn, 1) ∧ decode cX12_count 130 = .ok (.iload_n 1, 1) ∧ decode cX12_count 131 = .ok (.bipush 11, 2) ∧ decode cX12_count 133 = .ok (.if_icmp .ne 11, 3) ∧ decode cX12_count 136 = .ok (.aload_n 0, 1) ∧ decode cX12_count 137 = .ok (.getfield 7, 3) ∧ decode cX12_count 140 = .ok (.bipush 9, 2) ∧ decode cX12_count 142 = .ok (.iaload, 1) ∧ decode cX12_count 143 = .ok (.ireturn, 1) := by decide +kernel
theorem dX12_count_126 : decode cX12_count 126 = .ok (.invokevirtual 352, 3) := zdc_954.1
theorem dX12_count_129 : decode cX12_count 129 = .ok (.ireturn, 1) := zdc_954.2.1
theorem dX12_count_130 : decode cX12_count 130 = .ok (.iload_n 1, 1) := zdc_954.2.2.1
theorem dX12_count_131 : decode cX12_count 131 = .ok (.bipush 11, 2) := zdc_954.2.2.2.1
theorem dX12_count_133 : decode cX12_count 133 = .ok (.if_icmp .ne 11, 3) := zdc_954.2.2.2.2.1
theorem dX12_count_136 : decode cX12_count 136 = .ok (.aload_n 0, 1) := zdc_954.2.2.2.2.2.1
theorem dX12_count_137 : decode cX12_count 137 = .ok (.getfield 7, 3) := zdc_954.2.2.2.2.2.2.1
theorem dX12_count_140 : decode cX12_count 140 = .ok (.bipush 9, 2) := zdc_954.2.2.2.2.2.2.2.1
theorem dX12_count_142 : decode cX12_count 142 = .ok (.iaload, 1) := zdc_954.2.2.2.2.2.2.2.2.1
theorem dX12_count_143 : decode cX12_count 143 = .ok (.ireturn, 1) := zdc_954.2.2.2.2.2.2.2.2.2
theorem zdc_955 : decode cX12_count 144 = .ok (.iload_n 1, 1) ∧ decode cX12_count 145 = .ok (.bipush 12, 2) ∧ decode cX12_count 147 = .ok (.if_icmp .ne 10, 3) ∧ decode cX12_count 150 = .ok (.aload_n 0, 1) ∧ decode cX12_count 151 = .ok (.getfield 187, 3) ∧ decode cX12_count 154 = .ok (.goto 4, 3) ∧ decode cX12_count 157 = .ok (.iconst (-1), 1) ∧ decode cX12_count 158 = .ok (.ireturn, 1) ∧ decode cJ6_bitCount_0f7a4 0 = .ok (.iload_n 0, 1) ∧ decode cJ6_bitCount_0f7a4 1 = .ok (.iload_n 0, 1) := by decide +kernel
theorem dX12_count_144 : decode cX12_count 144 = .ok (.iload_n 1, 1) := zdc_955.1
theorem dX12_count_145 : decode cX12_count 145 = .ok (.bipush 12, 2) := zdc_955.2.1
theorem dX12_count_147 : decode cX12_count 147 = .ok (.if_icmp .ne 10, 3) := zdc_955.2.2.1
theorem dX12_count_150 : decode cX12_count 150 = .ok (.aload_n 0, 1) := zdc_955.2.2.2.1
theorem dX12_count_151 : decode cX12_count 151 = .ok (.getfield 187, 3) := zdc_955.2.2.2.2.1
theorem dX12_count_154 : decode cX12_count 154 = .ok (.goto 4, 3) := zdc_955.2.2.2.2.2.1
theorem dX12_count_157 : decode cX12_count 157 = .ok (.iconst (-1), 1) := zdc_955.2.2.2.2.2.2.1
theorem dX12_count_158 : decode cX12_count 158 = .ok (.ireturn, 1) := zdc_955.2.2.2.2.2.2.2.1
theorem dJ6_bitCount_0f7a4_0 : decode cJ6_bitCount_0f7a4 0 = .ok (.iload_n 0, 1) := zdc_955.2.2.2.2.2.2.2.2.1
theorem dJ6_bitCount_0f7a4_1 : decode cJ6_bitCount_0f7a4 1 = .ok (.iload_n 0, 1) := zdc_955.2.2.2.2.2.2.2.2.2
theorem zdc_956 : decode cJ6_bitCount_0f7a4 2 = .ok (.iconst 1, 1) ∧ decode cJ6_bitCount_0f7a4 3 = .ok (.iushr, 1) ∧ decode cJ6_bitCount_0f7a4 4 = .ok (.ldc_w 265, 3) ∧ decode cJ6_bitCount_0f7a4 7 = .ok (.iand, 1) ∧ decode cJ6_bitCount_0f7a4 8 = .ok (.isub, 1) ∧ decode cJ6_bitCount_0f7a4 9 = .ok (.istore_n 0, 1) ∧ decode cJ6_bitCount_0f7a4 10 = .ok (.iload_n 0, 1) ∧ decode cJ6_bitCount_0f7a4 11 = .ok (.ldc_w 266, 3) ∧ decode cJ6_bitCount_0f7a4 14 = .ok (.iand, 1) ∧ decode cJ6_bitCount_0f7a4 15 = .ok (.iload_n 0, 1) := by decide +kernel
theorem dJ6_bitCount_0f7a4_2 : decode cJ6_bitCount_0f7a4 2 = .ok (.iconst 1, 1) := zdc_956.1
theorem dJ6_bitCount_0f7a4_3 : decode cJ6_bitCount_0f7a4 3 = .ok (.iushr, 1) := zdc_956.2.1
theorem dJ6_bitCount_0f7a4_4 : decode cJ6_bitCount_0f7a4 4 = .ok (.ldc_w 265, 3) := zdc_956.2.2.1
theorem dJ6_bitCount_0f7a4_7 : decode cJ6_bitCount_0f7a4 7 = .ok (.iand, 1) := zdc_956.2.2.2.1
theorem dJ6_bitCount_0f7a4_8 : decode cJ6_bitCount_0f7a4 8 = .ok (.isub, 1) := zdc_956.2.2.2.2.1
theorem dJ6_bitCount_0f7a4_9 : decode cJ6_bitCount_0f7a4 9 = .ok (.istore_n 0, 1) := zdc_956.2.2.2.2.2.1
theorem dJ6_bitCount_0f7a4_10 : decode cJ6_bitCount_0f7a4 10 = .ok (.iload_n 0, 1) := zdc_956.2.2.2.2.2.2.1
theorem dJ6_bitCount_0f7a4_11 : decode cJ6_bitCount_0f7a4 11 = .ok (.ldc_w 266, 3) := zdc_956.2.2.2.2.2.2.2.1
theorem dJ6_bitCount_0f7a4_14 : decode cJ6_bitCount_0f7a4 14 = .ok (.iand, 1) := zdc_956.2.2.2.2.2.2.2.2.1
theorem dJ6_bitCount_0f7a4_15 : decode cJ6_bitCount_0f7a4 15 = .ok (.iload_n 0, 1) := zdc_956.2.2.2.2.2.2.2.2.2
theorem zdc_957 : decode cJ6_bitCount_0f7a4 16 = .ok (.iconst 2, 1) ∧ decode cJ6_bitCount_0f7a4 17 = .ok (.iushr, 1) ∧ decode cJ6_bitCount_0f7a4 18 = .ok (.ldc_w 266, 3) ∧ decode cJ6_bitCount_0f7a4 21 = .ok (.iand, 1) ∧ decode cJ6_bitCount_0f7a4 22 = .ok (.iadd, 1) ∧ decode cJ6_bitCount_0f7a4 23 = .ok (.istore_n 0, 1) ∧ decode cJ6_bitCount_0f7a4 24 = .ok (.iload_n 0, 1) ∧ decode cJ6_bitCount_0f7a4 25 = .ok (.iload_n 0, 1) ∧ decode cJ6_bitCount_0f7a4 26 = .ok (.iconst 4, 1) ∧ decode cJ6_bitCount_0f7a4 27 = .ok (.iushr, 1) := by decide +kernel
theorem dJ6_bitCount_0f7a4_16 : decode cJ6_bitCount_0f7a4 16 = .ok (.iconst 2, 1) := zdc_957.1
theorem dJ6_bitCount_0f7a4_17 : decode cJ6_bitCount_0f7a4 17 = .ok (.iushr, 1) := zdc_957.2.1
theorem dJ6_bitCount_0f7a4_18 : decode cJ6_bitCount_0f7a4 18 = .ok (.ldc_w 266, 3) := zdc_957.2.2.1
theorem dJ6_bitCount_0f7a4_21 : decode cJ6_bitCount_0f7a4 21 = .ok (.iand, 1) := zdc_957.2.2.2.1
theorem dJ6_bitCount_0f7a4_22 : decode cJ6_bitCount_0f7a4 22 = .ok (.iadd, 1) := zdc_957.2.2.2.2.1
theorem dJ6_bitCount_0f7a4_23 : decode cJ6_bitCount_0f7a4 23 = .ok (.istore_n 0, 1) := zdc_957.2.2.2.2.2.1
theorem dJ6_bitCount_0f7a4_24 : decode cJ6_bitCount_0f7a4 24 = .ok (.iload_n 0, 1) := zdc_957.2.2.2.2.2.2.1
theorem dJ6_bitCount_0f7a4_25 : decode cJ6_bitCount_0f7a4 25 = .ok (.iload_n 0, 1) := zdc_957.2.2.2.2.2.2.2.1
theorem dJ6_bitCount_0f7a4_26 : decode cJ6_bitCount_0f7a4 26 = .ok (.iconst 4, 1) := zdc_957.2.2.2.2.2.2.2.2.1
theorem dJ6_bitCount_0f7a4_27 : decode cJ6_bitCount_0f7a4 27 = .ok (.iushr, 1) := zdc_957.2.2.2.2.2.2.2.2.2
theorem zdc_958 : decode cJ6_bitCount_0f7a4 28 = .ok (.iadd, 1) ∧ decode cJ6_bitCount_0f7a4 29 = .ok (.ldc_w 267, 3) ∧ decode cJ6_bitCount_0f7a4 32 = .ok (.iand, 1) ∧ decode cJ6_bitCount_0f7a4 33 = .ok (.istore_n 0, 1) ∧ decode cJ6_bitCount_0f7a4 34 = .ok (.iload_n 0, 1) ∧ decode cJ6_bitCount_0f7a4 35 = .ok (.iload_n 0, 1) ∧ decode cJ6_bitCount_0f7a4 36 = .ok (.bipush 8, 2) ∧ decode cJ6_bitCount_0f7a4 38 = .ok (.iushr, 1) ∧ decode cJ6_bitCount_0f7a4 39 = .ok (.iadd, 1) ∧ decode cJ6_bitCount_0f7a4 40 = .ok (.istore_n 0, 1) := by decide +kernel
theorem dJ6_bitCount_0f7a4_28 : decode cJ6_bitCount_0f7a4 28 = .ok (.iadd, 1) := zdc_958.1
theorem dJ6_bitCount_0f7a4_29 : decode cJ6_bitCount_0f7a4 29 = .ok (.ldc_w 267, 3) := zdc_958.2.1
theorem dJ6_bitCount_0f7a4_32 : decode cJ6_bitCount_0f7a4 32 = .ok (.iand, 1) := zdc_958.2.2.1
theorem dJ6_bitCount_0f7a4_33 : decode cJ6_bitCount_0f7a4 33 = .ok (.istore_n 0, 1) := zdc_958.2.2.2.1
theorem dJ6_bitCount_0f7a4_34 : decode cJ6_bitCount_0f7a4 34 = .ok (.iload_n 0, 1) := zdc_958.2.2.2.2.1
theorem dJ6_bitCount_0f7a4_35 : decode cJ6_bitCount_0f7a4 35 = .ok (.iload_n 0, 1) := zdc_958.2.2.2.2.2.1
theorem dJ6_bitCount_0f7a4_36 : decode cJ6_bitCount_0f7a4 36 = .ok (.bipush 8, 2) := zdc_958.2.2.2.2.2.2.1
theorem dJ6_bitCount_0f7a4_38 : decode cJ6_bitCount_0f7a4 38 = .ok (.iushr, 1) := zdc_958.2.2.2.2.2.2.2.1
theorem dJ6_bitCount_0f7a4_39 : decode cJ6_bitCount_0f7a4 39 = .ok (.iadd, 1) := zdc_958.2.2.2.2.2.2.2.2.1
theorem dJ6_bitCount_0f7a4_40 : decode cJ6_bitCount_0f7a4 40 = .ok (.istore_n 0, 1) := zdc_958.2.2.2.2.2.2.2.2.2
theorem zdc_959 : decode cJ6_bitCount_0f7a4 41 = .ok (.iload_n 0, 1) ∧ decode cJ6_bitCount_0f7a4 42 = .ok (.iload_n 0, 1) ∧ decode cJ6_bitCount_0f7a4 43 = .ok (.bipush 16, 2) ∧ decode cJ6_bitCount_0f7a4 45 = .ok (.iushr, 1) ∧ decode cJ6_bitCount_0f7a4 46 = .ok (.iadd, 1) ∧ decode cJ6_bitCount_0f7a4 47 = .ok (.istore_n 0, 1) ∧ decode cJ6_bitCount_0f7a4 48 = .ok (.iload_n 0, 1) ∧ decode cJ6_bitCount_0f7a4 49 = .ok (.bipush 63, 2) ∧ decode cJ6_bitCount_0f7a4 51 = .ok (.iand, 1) ∧ decode cJ6_bitCount_0f7a4 52 = .ok (.ireturn, 1) := by decide +kernel
theorem dJ6_bitCount_0f7a4_41 : decode cJ6_bitCount_0f7a4 41 = .ok (.iload_n 0, 1) := zdc_959.1
theorem dJ6_bitCount_0f7a4_42 : decode cJ6_bitCount_0f7a4 42 = .ok (.iload_n 0, 1) := zdc_959.2.1
theorem dJ6_bitCount_0f7a4_43 : decode cJ6_bitCount_0f7a4 43 = .ok (.bipush 16, 2) := zdc_959.2.2.1
theorem dJ6_bitCount_0f7a4_45 : decode cJ6_bitCount_0f7a4 45 = .ok (.iushr, 1) := zdc_959.2.2.2.1
theorem dJ6_bitCount_0f7a4_46 : decode cJ6_bitCount_0f7a4 46 = .ok (.iadd, 1) := zdc_959.2.2.2.2.1
theorem dJ6_bitCount_0f7a4_47 : decode cJ6_bitCount_0f7a4 47 = .ok (.istore_n 0, 1) := zdc_959.2.2.2.2.2.1
theorem dJ6_bitCount_0f7a4_48 : decode cJ6_bitCount_0f7a4 48 = .ok (.iload_n 0, 1) := zdc_959.2.2.2.2.2.2.1
theorem dJ6_bitCount_0f7a4_49 : decode cJ6_bitCount_0f7a4 49 = .ok (.bipush 63, 2) := zdc_959.2.2.2.2.2.2.2.1
theorem dJ6_bitCount_0f7a4_51 : decode cJ6_bitCount_0f7a4 51 = .ok (.iand, 1) := zdc_959.2.2.2.2.2.2.2.2.1
theorem dJ6_bitCount_0f7a4_52 : decode cJ6_bitCount_0f7a4 52 = .ok (.ireturn, 1) := zdc_959.2.2.2.2.2.2.2.2.2
theorem zdc_960 : decode cJ9_floorMod_7cf53 0 = .ok (.iload_n 0, 1) ∧ decode cJ9_floorMod_7cf53 1 = .ok (.iload_n 1, 1) ∧ decode cJ9_floorMod_7cf53 2 = .ok (.irem, 1) ∧ decode cJ9_floorMod_7cf53 3 = .ok (.istore_n 2, 1) ∧ decode cJ9_floorMod_7cf53 4 = .ok (.iload_n 0, 1) ∧ decode cJ9_floorMod_7cf53 5 = .ok (.iload_n 1, 1) ∧ decode cJ9_floorMod_7cf53 6 = .ok (.ixor, 1) ∧ decode cJ9_floorMod_7cf53 7 = .ok (.ifCond .ge 11, 3) ∧ decode cJ9_floorMod_7cf53 10 = .ok (.iload_n 2, 1) ∧ decode cJ9_floorMod_7cf53 11 = .ok (.ifCond .eq 7, 3) := by decide +kernel
theorem dJ9_floorMod_7cf53_0 : decode cJ9_floorMod_7cf53 0 = .ok (.iload_n 0, 1) := zdc_960.1
theorem dJ9_floorMod_7cf53_1 : decode cJ9_floorMod_7cf53 1 = .ok (.iload_n 1, 1) := zdc_960.2.1
theorem dJ9_floorMod_7cf53_2 : decode cJ9_floorMod_7cf53 2 = .ok (.irem, 1) := zdc_960.2.2.1
theorem dJ9_floorMod_7cf53_3 : decode cJ9_floorMod_7cf53 3 = .ok (.istore_n 2, 1) := zdc_960.2.2.2.1
theorem dJ9_floorMod_7cf53_4 : decode cJ9_floorMod_7cf53 4 = .ok (.iload_n 0, 1) := zdc_960.2.2.2.2.1
theorem dJ9_floorMod_7cf53_5 : decode cJ9_floorMod_7cf53 5 = .ok (.iload_n 1, 1) := zdc_960.2.2.2.2.2.1
theorem dJ9_floorMod_7cf53_6 : decode cJ9_floorMod_7cf53 6 = .ok (.ixor, 1) := zdc_960.2.2.2.2.2.2.1
theorem dJ9_floorMod_7cf53_7 : decode cJ9_floorMod_7cf53 7 = .ok (.ifCond .ge 11, 3) := zdc_960.2.2.2.2.2.2.2.1
theorem dJ9_floorMod_7cf53_10 : decode cJ9_floorMod_7cf53 10 = .ok (.iload_n 2, 1) := zdc_960.2.2.2.2.2.2.2.2.1
theorem dJ9_floorMod_7cf53_11 : decode cJ9_floorMod_7cf53 11 = .ok (.ifCond .eq 7, 3) := zdc_960.2.2.2.2.2.2.2.2.2
theorem zdc_961 : decode cJ9_floorMod_7cf53 14 = .ok (.iload_n 2, 1) ∧ decode cJ9_floorMod_7cf53 15 = .ok (.iload_n 1, 1) ∧ decode cJ9_floorMod_7cf53 16 = .ok (.iadd, 1) ∧ decode cJ9_floorMod_7cf53 17 = .ok (.ireturn, 1) ∧ decode cJ9_floorMod_7cf53 18 = .ok (.iload_n 2, 1) ∧ decode cJ9_floorMod_7cf53 19 = .ok (.ireturn, 1) ∧ decode cJ9_max_7cf53 0 = .ok (.iload_n 0, 1) ∧ decode cJ9_max_7cf53 1 = .ok (.iload_n 1, 1) ∧ decode cJ9_max_7cf53 2 = .ok (.if_icmp .lt 7, 3) ∧ decode cJ9_max_7cf53 5 = .ok (.iload_n 0, 1) := by decide +kernel
theorem dJ9_floorMod_7cf53_14 : decode cJ9_floorMod_7cf53 14 = .ok (.iload_n 2, 1) := zdc_961.1
theorem dJ9_floorMod_7cf53_15 : decode cJ9_floorMod_7cf53 15 = .ok (.iload_n 1, 1) := zdc_961.2.1
theorem dJ9_floorMod_7cf53_16 : decode cJ9_floorMod_7cf53 16 = .ok (.iadd, 1) := zdc_961.2.2.1
theorem dJ9_floorMod_7cf53_17 : decode cJ9_floorMod_7cf53 17 = .ok (.ireturn, 1) := zdc_961.2.2.2.1
theorem dJ9_floorMod_7cf53_18 : decode cJ9_floorMod_7cf53 18 = .ok (.iload_n 2, 1) := zdc_961.2.2.2.2.1
theorem dJ9_floorMod_7cf53_19 : decode cJ9_floorMod_7cf53 19 = .ok (.ireturn, 1) := zdc_961.2.2.2.2.2.1
theorem dJ9_max_7cf53_0 : decode cJ9_max_7cf53 0 = .ok (.iload_n 0, 1) := zdc_961.2.2.2.2.2.2.1
theorem dJ9_max_7cf53_1 : decode cJ9_max_7cf53 1 = .ok (.iload_n 1, 1) := zdc_961.2.2.2.2.2.2.2.1
theorem dJ9_max_7cf53_2 : decode cJ9_max_7cf53 2 = .ok (.if_icmp .lt 7, 3) := zdc_961.2.2.2.2.2.2.2.2.1
theorem dJ9_max_7cf53_5 : decode cJ9_max_7cf53 5 = .ok (.iload_n 0, 1) := zdc_961.2.2.2.2.2.2.2.2.2
theorem zdc_962 : decode cJ9_max_7cf53 6 = .ok (.goto 4, 3) ∧ decode cJ9_max_7cf53 9 = .ok (.iload_n 1, 1) ∧ decode cJ9_max_7cf53 10 = .ok (.ireturn, 1) ∧ decode cJ9_min_7cf53 0 = .ok (.iload_n 0, 1) ∧ decode cJ9_min_7cf53 1 = .ok (.iload_n 1, 1) ∧ decode cJ9_min_7cf53 2 = .ok (.if_icmp .gt 7, 3) ∧ decode cJ9_min_7cf53 5 = .ok (.iload_n 0, 1) ∧ decode cJ9_min_7cf53 6 = .ok (.goto 4, 3) ∧ decode cJ9_min_7cf53 9 = .ok (.iload_n 1, 1) ∧ decode cJ9_min_7cf53 10 = .ok (.ireturn, 1) := by decide +kernel
theorem dJ9_max_7cf53_6 : decode cJ9_max_7cf53 6 = .ok (.goto 4, 3) := zdc_962.1
theorem dJ9_max_7cf53_9 : decode cJ9_max_7cf53 9 = .ok (.iload_n 1, 1) := zdc_962.2.1
theorem dJ9_max_7cf53_10 : decode cJ9_max_7cf53 10 = .ok (.ireturn, 1) := zdc_962.2.2.1
theorem dJ9_min_7cf53_0 : decode cJ9_min_7cf53 0 = .ok (.iload_n 0, 1) := zdc_962.2.2.2.1
theorem dJ9_min_7cf53_1 : decode cJ9_min_7cf53 1 = .ok (.iload_n 1, 1) := zdc_962.2.2.2.2.1
theorem dJ9_min_7cf53_2 : decode cJ9_min_7cf53 2 = .ok (.if_icmp .gt 7, 3) := zdc_962.2.2.2.2.2.1
theorem dJ9_min_7cf53_5 : decode cJ9_min_7cf53 5 = .ok (.iload_n 0, 1) := zdc_962.2.2.2.2.2.2.1
theorem dJ9_min_7cf53_6 : decode cJ9_min_7cf53 6 = .ok (.goto 4, 3) := zdc_962.2.2.2.2.2.2.2.1
theorem dJ9_min_7cf53_9 : decode cJ9_min_7cf53 9 = .ok (.iload_n 1, 1) := zdc_962.2.2.2.2.2.2.2.2.1
theorem dJ9_min_7cf53_10 : decode cJ9_min_7cf53 10 = .ok (.ireturn, 1) := zdc_962.2.2.2.2.2.2.2.2.2
theorem zdc_963 : decode cJ0_length_8abf5 0 = .ok (.aload_n 0, 1) ∧ decode cJ0_length_8abf5 1 = .ok (.getfield 9, 3) ∧ decode cJ0_length_8abf5 4 = .ok (.arraylength, 1) ∧ decode cJ0_length_8abf5 5 = .ok (.aload_n 0, 1) ∧ decode cJ0_length_8abf5 6 = .ok (.invokevirtual 335, 3) ∧ decode cJ0_length_8abf5 9 = .ok (.ishr, 1) ∧ decode cJ0_length_8abf5 10 = .ok (.ireturn, 1) ∧ decode cJ0_charAt_5068e 0 = .ok (.aload_n 0, 1) ∧ decode cJ0_charAt_5068e 1 = .ok (.invokevirtual 492, 3) ∧ decode cJ0_charAt_5068e 4 = .ok (.ifCond .eq 12, 3) := by decide +kernel
theorem dJ0_length_8abf5_0 : decode cJ0_length_8abf5 0 = .ok (.aload_n 0, 1) := zdc_963.1
theorem dJ0_length_8abf5_1 : decode cJ0_length_8abf5 1 = .ok (.getfield 9, 3) := zdc_963.2.1
theorem dJ0_length_8abf5_4 : decode cJ0_length_8abf5 4 = .ok (.arraylength, 1) := zdc_963.2.2.1
theorem dJ0_length_8abf5_5 : decode cJ0_length_8abf5 5 = .ok (.aload_n 0, 1) := zdc_963.2.2.2.1
theorem dJ0_length_8abf5_6 : decode cJ0_length_8abf5 6 = .ok (.invokevirtual 335, 3) := zdc_963.2.2.2.2.1
theorem dJ0_length_8abf5_9 : decode cJ0_length_8abf5 9 = .ok (.ishr, 1) := zdc_963.2.2.2.2.2.1
theorem dJ0_length_8abf5_10 : decode cJ0_length_8abf5 10 = .ok (.ireturn, 1) := zdc_963.2.2.2.2.2.2.1
theorem dJ0_charAt_5068e_0 : decode cJ0_charAt_5068e 0 = .ok (.aload_n 0, 1) := zdc_963.2.2.2.2.2.2.2.1
theorem dJ0_charAt_5068e_1 : decode cJ0_charAt_5068e 1 = .ok (.invokevirtual 492, 3) := zdc_963.2.2.2.2.2.2.2.2.1
theorem dJ0_charAt_5068e_4 : decode cJ0_charAt_5068e 4 = .ok (.ifCond .eq 12, 3) := zdc_963.2.2.2.2.2.2.2.2.2
theorem zdc_964 : decode cJ0_charAt_5068e 7 = .ok (.aload_n 0, 1) ∧ decode cJ0_charAt_5068e 8 = .ok (.getfield 9, 3) ∧ decode cJ0_charAt_5068e 11 = .ok (.iload_n 1, 1) ∧ decode cJ0_charAt_5068e 12 = .ok (.invokestatic 495, 3) ∧ decode cJ0_charAt_5068e 15 = .ok (.ireturn, 1) ∧ decode cJ0_charAt_5068e 16 = .ok (.aload_n 0, 1) ∧ decode cJ0_charAt_5068e 17 = .ok (.getfield 9, 3) ∧ decode cJ0_charAt_5068e 20 = .ok (.iload_n 1, 1) ∧ decode cJ0_charAt_5068e 21 = .ok (.invokestatic 498, 3) ∧ decode cJ0_charAt_5068e 24 = .ok (.ireturn, 1) := by decide +kernel
theorem dJ0_charAt_5068e_7 : decode cJ0_charAt_5068e 7 = .ok (.aload_n 0, 1) := zdc_964.1
theorem dJ0_charAt_5068e_8 : decode cJ0_charAt_5068e 8 = .ok (.getfield 9, 3) := zdc_964.2.1
theorem dJ0_charAt_5068e_11 : decode cJ0_charAt_5068e 11 = .ok (.iload_n 1, 1) := zdc_964.2.2.1
theorem dJ0_charAt_5068e_12 : decode cJ0_charAt_5068e 12 = .ok (.invokestatic 495, 3) := zdc_964.2.2.2.1
theorem dJ0_charAt_5068e_15 : decode cJ0_charAt_5068e 15 = .ok (.ireturn, 1) := zdc_964.2.2.2.2.1
theorem dJ0_charAt_5068e_16 : decode cJ0_charAt_5068e 16 = .ok (.aload_n 0, 1) := zdc_964.2.2.2.2.2.1
theorem dJ0_charAt_5068e_17 : decode cJ0_charAt_5068e 17 = .ok (.getfield 9, 3) := zdc_964.2.2.2.2.2.2.1
theorem dJ0_charAt_5068e_20 : decode cJ0_charAt_5068e 20 = .ok (.iload_n 1, 1) := zdc_964.2.2.2.2.2.2.2.1
theorem dJ0_charAt_5068e_21 : decode cJ0_charAt_5068e 21 = .ok (.invokestatic 498, 3) := zdc_964.2.2.2.2.2.2.2.2.1
theorem dJ0_charAt_5068e_24 : decode cJ0_charAt_5068e 24 = .ok (.ireturn, 1) := zdc_964.2.2.2.2.2.2.2.2.2
theorem zdc_965 : decode cJ0_coder_7d493 0 = .ok (.getstatic 38, 3) ∧ decode cJ0_coder_7d493 3 = .ok (.ifCond .eq 10, 3) ∧ decode cJ0_coder_7d493 6 = .ok (.aload_n 0, 1) ∧ decode cJ0_coder_7d493 7 = .ok (.getfield 15, 3) ∧ decode cJ0_coder_7d493 10 = .ok (.goto 4, 3) ∧ decode cJ0_coder_7d493 13 = .ok (.iconst 1, 1) ∧ decode cJ0_coder_7d493 14 = .ok (.ireturn, 1) ∧ decode cJ0_isLatin1_aae02 0 = .ok (.getstatic 38, 3) ∧ decode cJ0_isLatin1_aae02 3 = .ok (.ifCond .eq 14, 3) ∧ decode cJ0_isLatin1_aae02 6 = .ok (.aload_n 0, 1) := by decide +kernel
theorem dJ0_coder_7d493_0 : decode cJ0_coder_7d493 0 = .ok (.getstatic 38, 3) := zdc_965.1
theorem dJ0_coder_7d493_3 : decode cJ0_coder_7d493 3 = .ok (.ifCond .eq 10, 3) := zdc_965.2.1
theorem dJ0_coder_7d493_6 : decode cJ0_coder_7d493 6 = .ok (.aload_n 0, 1) := zdc_965.2.2.1
theorem dJ0_coder_7d493_7 : decode cJ0_coder_7d493 7 = .ok (.getfield 15, 3) := zdc_965.2.2.2.1
theorem dJ0_coder_7d493_10 : decode cJ0_coder_7d493 10 = .ok (.goto 4, 3) := zdc_965.2.2.2.2.1
theorem dJ0_coder_7d493_13 : decode cJ0_coder_7d493 13 = .ok (.iconst 1, 1) := zdc_965.2.2.2.2.2.1
theorem dJ0_coder_7d493_14 : decode cJ0_coder_7d493 14 = .ok (.ireturn, 1) := zdc_965.2.2.2.2.2.2.1
theorem dJ0_isLatin1_aae02_0 : decode cJ0_isLatin1_aae02 0 = .ok (.getstatic 38, 3) := zdc_965.2.2.2.2.2.2.2.1
theorem dJ0_isLatin1_aae02_3 : decode cJ0_isLatin1_aae02 3 = .ok (.ifCond .eq 14, 3) := zdc_965.2.2.2.2.2.2.2.2.1
theorem dJ0_isLatin1_aae02_6 : decode cJ0_isLatin1_aae02 6 = .ok (.aload_n 0, 1) := zdc_965.2.2.2.2.2.2.2.2.2
theorem zdc_966 : decode cJ0_isLatin1_aae02 7 = .ok (.getfield 15, 3) ∧ decode cJ0_isLatin1_aae02 10 = .ok (.ifCond .ne 7, 3) ∧ decode cJ0_isLatin1_aae02 13 = .ok (.iconst 1, 1) ∧ decode cJ0_isLatin1_aae02 14 = .ok (.goto 4, 3) ∧ decode cJ0_isLatin1_aae02 17 = .ok (.iconst 0, 1) ∧ decode cJ0_isLatin1_aae02 18 = .ok (.ireturn, 1) ∧ decode cJ0_checkIndex_df160 0 = .ok (.iload_n 0, 1) ∧ decode cJ0_checkIndex_df160 1 = .ok (.iload_n 1, 1) ∧ decode cJ0_checkIndex_df160 2 = .ok (.getstatic 1053, 3) ∧ decode cJ0_checkIndex_df160 5 = .ok (.invokestatic 1059, 3) := by decide +kernel
theorem dJ0_isLatin1_aae02_7 : decode cJ0_isLatin1_aae02 7 = .ok (.getfield 15, 3) := zdc_966.1
theorem dJ0_isLatin1_aae02_10 : decode cJ0_isLatin1_aae02 10 = .ok (.ifCond .ne 7, 3) := zdc_966.2.1
theorem dJ0_isLatin1_aae02_13 : decode cJ0_isLatin1_aae02 13 = .ok (.iconst 1, 1) := zdc_966.2.2.1
theorem dJ0_isLatin1_aae02_14 : decode cJ0_isLatin1_aae02 14 = .ok (.goto 4, 3) := zdc_966.2.2.2.1
theorem dJ0_isLatin1_aae02_17 : decode cJ0_isLatin1_aae02 17 = .ok (.iconst 0, 1) := zdc_966.2.2.2.2.1
theorem dJ0_isLatin1_aae02_18 : decode cJ0_isLatin1_aae02 18 = .ok (.ireturn, 1) := zdc_966.2.2.2.2.2.1
theorem dJ0_checkIndex_df160_0 : decode cJ0_checkIndex_df160 0 = .ok (.iload_n 0, 1) := zdc_966.2.2.2.2.2.2.1
theorem dJ0_checkIndex_df160_1 : decode cJ0_checkIndex_df160 1 = .ok (.iload_n 1, 1) := zdc_966.2.2.2.2.2.2.2.1
theorem dJ0_checkIndex_df160_2 : decode cJ0_checkIndex_df160 2 = .ok (.getstatic 1053, 3) := zdc_966.2.2.2.2.2.2.2.2.1
theorem dJ0_checkIndex_df160_5 : decode cJ0_checkIndex_df160 5 = .ok (.invokestatic 1059, 3) := zdc_966.2.2.2.2.2.2.2.2.2
theorem zdc_967 : decode cJ0_checkIndex_df160 8 = .ok (.pop, 1) ∧ decode cJ0_checkIndex_df160 9 = .ok (.return_, 1) ∧ decode cJ1_charAt_3b067 0 = .ok (.iload_n 1, 1) ∧ decode cJ1_charAt_3b067 1 = .ok (.aload_n 0, 1) ∧ decode cJ1_charAt_3b067 2 = .ok (.arraylength, 1) ∧ decode cJ1_charAt_3b067 3 = .ok (.invokestatic 9, 3) ∧ decode cJ1_charAt_3b067 6 = .ok (.aload_n 0, 1) ∧ decode cJ1_charAt_3b067 7 = .ok (.iload_n 1, 1) ∧ decode cJ1_charAt_3b067 8 = .ok (.baload, 1) ∧ decode cJ1_charAt_3b067 9 = .ok (.sipush 255, 3) := by decide +kernel
theorem dJ0_checkIndex_df160_8 : decode cJ0_checkIndex_df160 8 = .ok (.pop, 1) := zdc_967.1
theorem dJ0_checkIndex_df160_9 : decode cJ0_checkIndex_df160 9 = .ok (.return_, 1) := zdc_967.2.1
theorem dJ1_charAt_3b067_0 : decode cJ1_charAt_3b067 0 = .ok (.iload_n 1, 1) := zdc_967.2.2.1
theorem dJ1_charAt_3b067_1 : decode cJ1_charAt_3b067 1 = .ok (.aload_n 0, 1) := zdc_967.2.2.2.1
theorem dJ1_charAt_3b067_2 : decode cJ1_charAt_3b067 2 = .ok (.arraylength, 1) := zdc_967.2.2.2.2.1
theorem dJ1_charAt_3b067_3 : decode cJ1_charAt_3b067 3 = .ok (.invokestatic 9, 3) := zdc_967.2.2.2.2.2.1
theorem dJ1_charAt_3b067_6 : decode cJ1_charAt_3b067 6 = .ok (.aload_n 0, 1) := zdc_967.2.2.2.2.2.2.1
theorem dJ1_charAt_3b067_7 : decode cJ1_charAt_3b067 7 = .ok (.iload_n 1, 1) := zdc_967.2.2.2.2.2.2.2.1
theorem dJ1_charAt_3b067_8 : decode cJ1_charAt_3b067 8 = .ok (.baload, 1) := zdc_967.2.2.2.2.2.2.2.2.1
theorem dJ1_charAt_3b067_9 : decode cJ1_charAt_3b067 9 = .ok (.sipush 255, 3) := zdc_967.2.2.2.2.2.2.2.2.2
theorem zdc_968 : decode cJ1_charAt_3b067 12 = .ok (.iand, 1) ∧ decode cJ1_charAt_3b067 13 = .ok (.i2c, 1) ∧ decode cJ1_charAt_3b067 14 = .ok (.ireturn, 1) ∧ decode cJ2_getChar_3b067 0 = .ok (.getstatic 44, 3) ∧ decode cJ2_getChar_3b067 3 = .ok (.ifCond .ne 25, 3) ∧ decode cJ2_getChar_3b067 6 = .ok (.iload_n 1, 1) ∧ decode cJ2_getChar_3b067 7 = .ok (.ifCond .lt 11, 3) ∧ decode cJ2_getChar_3b067 10 = .ok (.iload_n 1, 1) ∧ decode cJ2_getChar_3b067 11 = .ok (.aload_n 0, 1) ∧ decode cJ2_getChar_3b067 12 = .ok (.invokestatic 48, 3) := by decide +kernel
theorem dJ1_charAt_3b067_12 : decode cJ1_charAt_3b067 12 = .ok (.iand, 1) := zdc_968.1
theorem dJ1_charAt_3b067_13 : decode cJ1_charAt_3b067 13 = .ok (.i2c, 1) := zdc_968.2.1
theorem dJ1_charAt_3b067_14 : decode cJ1_charAt_3b067 14 = .ok (.ireturn, 1) := zdc_968.2.2.1
theorem dJ2_getChar_3b067_0 : decode cJ2_getChar_3b067 0 = .ok (.getstatic 44, 3) := zdc_968.2.2.2.1
theorem dJ2_getChar_3b067_3 : decode cJ2_getChar_3b067 3 = .ok (.ifCond .ne 25, 3) := zdc_968.2.2.2.2.1
theorem dJ2_getChar_3b067_6 : decode cJ2_getChar_3b067 6 = .ok (.iload_n 1, 1) := zdc_968.2.2.2.2.2.1
theorem dJ2_getChar_3b067_7 : decode cJ2_getChar_3b067 7 = .ok (.ifCond .lt 11, 3) := zdc_968.2.2.2.2.2.2.1
theorem dJ2_getChar_3b067_10 : decode cJ2_getChar_3b067 10 = .ok (.iload_n 1, 1) := zdc_968.2.2.2.2.2.2.2.1
theorem dJ2_getChar_3b067_11 : decode cJ2_getChar_3b067 11 = .ok (.aload_n 0, 1) := zdc_968.2.2.2.2.2.2.2.2.1
theorem dJ2_getChar_3b067_12 : decode cJ2_getChar_3b067 12 = .ok (.invokestatic 48, 3) := zdc_968.2.2.2.2.2.2.2.2.2
theorem zdc_969 : decode cJ2_getChar_3b067 15 = .ok (.if_icmp .lt 13, 3) ∧ decode cJ2_getChar_3b067 18 = .ok (.new 52, 3) ∧ decode cJ2_getChar_3b067 21 = .ok (.dup, 1) ∧ decode cJ2_getChar_3b067 22 = .ok (.ldc 54, 2) ∧ decode cJ2_getChar_3b067 24 = .ok (.invokespecial 56, 3) ∧ decode cJ2_getChar_3b067 27 = .ok (.athrow, 1) ∧ decode cJ2_getChar_3b067 28 = .ok (.iload_n 1, 1) ∧ decode cJ2_getChar_3b067 29 = .ok (.iconst 1, 1) ∧ decode cJ2_getChar_3b067 30 = .ok (.ishl, 1) ∧ decode cJ2_getChar_3b067 31 = .ok (.istore_n 1, 1) := by decide +kernel
theorem dJ2_getChar_3b067_15 : decode cJ2_getChar_3b067 15 = .ok (.if_icmp .lt 13, 3) := zdc_969.1
theorem dJ2_getChar_3b067_18 : decode cJ2_getChar_3b067 18 = .ok (.new 52, 3) := zdc_969.2.1
theorem dJ2_getChar_3b067_21 : decode cJ2_getChar_3b067 21 = .ok (.dup, 1) := zdc_969.2.2.1
theorem dJ2_getChar_3b067_22 : decode cJ2_getChar_3b067 22 = .ok (.ldc 54, 2) := zdc_969.2.2.2.1
theorem dJ2_getChar_3b067_24 : decode cJ2_getChar_3b067 24 = .ok (.invokespecial 56, 3) := zdc_969.2.2.2.2.1
theorem dJ2_getChar_3b067_27 : decode cJ2_getChar_3b067 27 = .ok (.athrow, 1) := zdc_969.2.2.2.2.2.1
theorem dJ2_getChar_3b067_28 : decode cJ2_getChar_3b067 28 = .ok (.iload_n 1, 1) := zdc_969.2.2.2.2.2.2.1
theorem dJ2_getChar_3b067_29 : decode cJ2_getChar_3b067 29 = .ok (.iconst 1, 1) := zdc_969.2.2.2.2.2.2.2.1
theorem dJ2_getChar_3b067_30 : decode cJ2_getChar_3b067 30 = .ok (.ishl, 1) := zdc_969.2.2.2.2.2.2.2.2.1
theorem dJ2_getChar_3b067_31 : decode cJ2_getChar_3b067 31 = .ok (.istore_n 1, 1) := zdc_969.2.2.2.2.2.2.2.2.2
theorem zdc_970 : decode cJ2_getChar_3b067 32 = .ok (.aload_n 0, 1) ∧ decode cJ2_getChar_3b067 33 = .ok (.iload_n 1, 1) ∧ decode cJ2_getChar_3b067 34 = .ok (.iinc 1 1, 3) ∧ decode cJ2_getChar_3b067 37 = .ok (.baload, 1) ∧ decode cJ2_getChar_3b067 38 = .ok (.sipush 255, 3) ∧ decode cJ2_getChar_3b067 41 = .ok (.iand, 1) ∧ decode cJ2_getChar_3b067 42 = .ok (.getstatic 59, 3) ∧ decode cJ2_getChar_3b067 45 = .ok (.ishl, 1) ∧ decode cJ2_getChar_3b067 46 = .ok (.aload_n 0, 1) ∧ decode cJ2_getChar_3b067 47 = .ok (.iload_n 1, 1) := by decide +kernel
theorem dJ2_getChar_3b067_32 : decode cJ2_getChar_3b067 32 = .ok (.aload_n 0, 1) := zdc_970.1
theorem dJ2_getChar_3b067_33 : decode cJ2_getChar_3b067 33 = .ok (.iload_n 1, 1) := zdc_970.2.1
theorem dJ2_getChar_3b067_34 : decode cJ2_getChar_3b067 34 = .ok (.iinc 1 1, 3) := zdc_970.2.2.1
theorem dJ2_getChar_3b067_37 : decode cJ2_getChar_3b067 37 = .ok (.baload, 1) := zdc_970.2.2.2.1
theorem dJ2_getChar_3b067_38 : decode cJ2_getChar_3b067 38 = .ok (.sipush 255, 3) := zdc_970.2.2.2.2.1
theorem dJ2_getChar_3b067_41 : decode cJ2_getChar_3b067 41 = .ok (.iand, 1) := zdc_970.2.2.2.2.2.1
theorem dJ2_getChar_3b067_42 : decode cJ2_getChar_3b067 42 = .ok (.getstatic 59, 3) := zdc_970.2.2.2.2.2.2.1
theorem dJ2_getChar_3b067_45 : decode cJ2_getChar_3b067 45 = .ok (.ishl, 1) := zdc_970.2.2.2.2.2.2.2.1
theorem dJ2_getChar_3b067_46 : decode cJ2_getChar_3b067 46 = .ok (.aload_n 0, 1) := zdc_970.2.2.2.2.2.2.2.2.1
theorem dJ2_getChar_3b067_47 : decode cJ2_getChar_3b067 47 = .ok (.iload_n 1, 1) := zdc_970.2.2.2.2.2.2.2.2.2
theorem zdc_971 : decode cJ2_getChar_3b067 48 = .ok (.baload, 1) ∧ decode cJ2_getChar_3b067 49 = .ok (.sipush 255, 3) ∧ decode cJ2_getChar_3b067 52 = .ok (.iand, 1) ∧ decode cJ2_getChar_3b067 53 = .ok (.getstatic 63, 3) ∧ decode cJ2_getChar_3b067 56 = .ok (.ishl, 1) ∧ decode cJ2_getChar_3b067 57 = .ok (.ior, 1) ∧ decode cJ2_getChar_3b067 58 = .ok (.i2c, 1) ∧ decode cJ2_getChar_3b067 59 = .ok (.ireturn, 1) ∧ decode cJ2_length_9d52b 0 = .ok (.aload_n 0, 1) ∧ decode cJ2_length_9d52b 1 = .ok (.arraylength, 1) := by decide +kernel
theorem dJ2_getChar_3b067_48 : decode cJ2_getChar_3b067 48 = .ok (.baload, 1) := zdc_971.1
theorem dJ2_getChar_3b067_49 : decode cJ2_getChar_3b067 49 = .ok (.sipush 255, 3) := zdc_971.2.1
theorem dJ2_getChar_3b067_52 : decode cJ2_getChar_3b067 52 = .ok (.iand, 1) := zdc_971.2.2.1
theorem dJ2_getChar_3b067_53 : decode cJ2_getChar_3b067 53 = .ok (.getstatic 63, 3) := zdc_971.2.2.2.1
theorem dJ2_getChar_3b067_56 : decode cJ2_getChar_3b067 56 = .ok (.ishl, 1) := zdc_971.2.2.2.2.1
theorem dJ2_getChar_3b067_57 : decode cJ2_getChar_3b067 57 = .ok (.ior, 1) := zdc_971.2.2.2.2.2.1
theorem dJ2_getChar_3b067_58 : decode cJ2_getChar_3b067 58 = .ok (.i2c, 1) := zdc_971.2.2.2.2.2.2.1
theorem dJ2_getChar_3b067_59 : decode cJ2_getChar_3b067 59 = .ok (.ireturn, 1) := zdc_971.2.2.2.2.2.2.2.1
theorem dJ2_length_9d52b_0 : decode cJ2_length_9d52b 0 = .ok (.aload_n 0, 1) := zdc_971.2.2.2.2.2.2.2.2.1
theorem dJ2_length_9d52b_1 : decode cJ2_length_9d52b 1 = .ok (.arraylength, 1) := zdc_971.2.2.2.2.2.2.2.2.2
theorem zdc_972 : decode cJ2_length_9d52b 2 = .ok (.iconst 1, 1) ∧ decode cJ2_length_9d52b 3 = .ok (.ishr, 1) ∧ decode cJ2_length_9d52b 4 = .ok (.ireturn, 1) ∧ decode cJ2_charAt_3b067 0 = .ok (.iload_n 1, 1) ∧ decode cJ2_charAt_3b067 1 = .ok (.aload_n 0, 1) ∧ decode cJ2_charAt_3b067 2 = .ok (.invokestatic 67, 3) ∧ decode cJ2_charAt_3b067 5 = .ok (.aload_n 0, 1) ∧ decode cJ2_charAt_3b067 6 = .ok (.iload_n 1, 1) ∧ decode cJ2_charAt_3b067 7 = .ok (.invokestatic 71, 3) ∧ decode cJ2_charAt_3b067 10 = .ok (.ireturn, 1) := by decide +kernel
theorem dJ2_length_9d52b_2 : decode cJ2_length_9d52b 2 = .ok (.iconst 1, 1) := zdc_972.1
theorem dJ2_length_9d52b_3 : decode cJ2_length_9d52b 3 = .ok (.ishr, 1) := zdc_972.2.1
theorem dJ2_length_9d52b_4 : decode cJ2_length_9d52b 4 = .ok (.ireturn, 1) := zdc_972.2.2.1
theorem dJ2_charAt_3b067_0 : decode cJ2_charAt_3b067 0 = .ok (.iload_n 1, 1) := zdc_972.2.2.2.1
theorem dJ2_charAt_3b067_1 : decode cJ2_charAt_3b067 1 = .ok (.aload_n 0, 1) := zdc_972.2.2.2.2.1
theorem dJ2_charAt_3b067_2 : decode cJ2_charAt_3b067 2 = .ok (.invokestatic 67, 3) := zdc_972.2.2.2.2.2.1
theorem dJ2_charAt_3b067_5 : decode cJ2_charAt_3b067 5 = .ok (.aload_n 0, 1) := zdc_972.2.2.2.2.2.2.1
theorem dJ2_charAt_3b067_6 : decode cJ2_charAt_3b067 6 = .ok (.iload_n 1, 1) := zdc_972.2.2.2.2.2.2.2.1
theorem dJ2_charAt_3b067_7 : decode cJ2_charAt_3b067 7 = .ok (.invokestatic 71, 3) := zdc_972.2.2.2.2.2.2.2.2.1
theorem dJ2_charAt_3b067_10 : decode cJ2_charAt_3b067 10 = .ok (.ireturn, 1) := zdc_972.2.2.2.2.2.2.2.2.2
theorem zdc_973 : decode cJ2_checkIndex_2214a 0 = .ok (.iload_n 0, 1) ∧ decode cJ2_checkIndex_2214a 1 = .ok (.aload_n 1, 1) ∧ decode cJ2_checkIndex_2214a 2 = .ok (.invokestatic 48, 3) ∧ decode cJ2_checkIndex_2214a 5 = .ok (.invokestatic 414, 3) ∧ decode cJ2_checkIndex_2214a 8 = .ok (.return_, 1) ∧ decode cJ3_checkIndex_8e157 0 = .ok (.iload_n 0, 1) ∧ decode cJ3_checkIndex_8e157 1 = .ok (.ifCond .lt 8, 3) ∧ decode cJ3_checkIndex_8e157 4 = .ok (.iload_n 0, 1) ∧ decode cJ3_checkIndex_8e157 5 = .ok (.iload_n 1, 1) ∧ decode cJ3_checkIndex_8e157 6 = .ok (.if_icmp .lt 10, 3) := by decide +kernel
theorem dJ2_checkIndex_2214a_0 : decode cJ2_checkIndex_2214a 0 = .ok (.iload_n 0, 1) := zdc_973.1
theorem dJ2_checkIndex_2214a_1 : decode cJ2_checkIndex_2214a 1 = .ok (.aload_n 1, 1) := zdc_973.2.1
theorem dJ2_checkIndex_2214a_2 : decode cJ2_checkIndex_2214a 2 = .ok (.invokestatic 48, 3) := zdc_973.2.2.1
theorem dJ2_checkIndex_2214a_5 : decode cJ2_checkIndex_2214a 5 = .ok (.invokestatic 414, 3) := zdc_973.2.2.2.1
theorem dJ2_checkIndex_2214a_8 : decode cJ2_checkIndex_2214a 8 = .ok (.return_, 1) := zdc_973.2.2.2.2.1
theorem dJ3_checkIndex_8e157_0 : decode cJ3_checkIndex_8e157 0 = .ok (.iload_n 0, 1) := zdc_973.2.2.2.2.2.1
theorem dJ3_checkIndex_8e157_1 : decode cJ3_checkIndex_8e157 1 = .ok (.ifCond .lt 8, 3) := zdc_973.2.2.2.2.2.2.1
theorem dJ3_checkIndex_8e157_4 : decode cJ3_checkIndex_8e157 4 = .ok (.iload_n 0, 1) := zdc_973.2.2.2.2.2.2.2.1
theorem dJ3_checkIndex_8e157_5 : decode cJ3_checkIndex_8e157 5 = .ok (.iload_n 1, 1) := zdc_973.2.2.2.2.2.2.2.2.1
theorem dJ3_checkIndex_8e157_6 : decode cJ3_checkIndex_8e157 6 = .ok (.if_icmp .lt 10, 3) := zdc_973.2.2.2.2.2.2.2.2.2
theorem zdc_974 : decode cJ3_checkIndex_8e157 9 = .ok (.aload_n 2, 1) ∧ decode cJ3_checkIndex_8e157 10 = .ok (.iload_n 0, 1) ∧ decode cJ3_checkIndex_8e157 11 = .ok (.iload_n 1, 1) ∧ decode cJ3_checkIndex_8e157 12 = .ok (.invokestatic 95, 3) ∧ decode cJ3_checkIndex_8e157 15 = .ok (.athrow, 1) ∧ decode cJ3_checkIndex_8e157 16 = .ok (.iload_n 0, 1) ∧ decode cJ3_checkIndex_8e157 17 = .ok (.ireturn, 1) ∧ decode cL_town 0 = .ok (.aload_n 1, 1) ∧ decode cL_town 1 = .ok (.iconst 0, 1) ∧ decode cL_town 2 = .ok (.aload_n 0, 1) := by decide +kernel
theorem dJ3_checkIndex_8e157_9 : decode cJ3_checkIndex_8e157 9 = .ok (.aload_n 2, 1) := zdc_974.1
theorem dJ3_checkIndex_8e157_10 : decode cJ3_checkIndex_8e157 10 = .ok (.iload_n 0, 1) := zdc_974.2.1
theorem dJ3_checkIndex_8e157_11 : decode cJ3_checkIndex_8e157 11 = .ok (.iload_n 1, 1) := zdc_974.2.2.1
theorem dJ3_checkIndex_8e157_12 : decode cJ3_checkIndex_8e157 12 = .ok (.invokestatic 95, 3) := zdc_974.2.2.2.1
theorem dJ3_checkIndex_8e157_15 : decode cJ3_checkIndex_8e157 15 = .ok (.athrow, 1) := zdc_974.2.2.2.2.1
theorem dJ3_checkIndex_8e157_16 : decode cJ3_checkIndex_8e157 16 = .ok (.iload_n 0, 1) := zdc_974.2.2.2.2.2.1
theorem dJ3_checkIndex_8e157_17 : decode cJ3_checkIndex_8e157 17 = .ok (.ireturn, 1) := zdc_974.2.2.2.2.2.2.1
theorem dL_town_0 : decode cL_town 0 = .ok (.aload_n 1, 1) := zdc_974.2.2.2.2.2.2.2.1
theorem dL_town_1 : decode cL_town 1 = .ok (.iconst 0, 1) := zdc_974.2.2.2.2.2.2.2.2.1
theorem dL_town_2 : decode cL_town 2 = .ok (.aload_n 0, 1) := zdc_974.2.2.2.2.2.2.2.2.2
theorem zdc_975 : decode cL_town 3 = .ok (.invokevirtual 7, 3) ∧ decode cL_town 6 = .ok (.i2l, 1) ∧ decode cL_town 7 = .ok (.lastore, 1) ∧ decode cL_town 8 = .ok (.goto 9, 3) ∧ decode cL_town 11 = .ok (.astore_n 2, 1) ∧ decode cL_town 12 = .ok (.iconst 1, 1) ∧ decode cL_town 13 = .ok (.ireturn, 1) ∧ decode cL_town 14 = .ok (.astore_n 2, 1) ∧ decode cL_town 15 = .ok (.iconst 2, 1) ∧ decode cL_town 16 = .ok (.ireturn, 1) := by decide +kernel
theorem dL_town_3 : decode cL_town 3 = .ok (.invokevirtual 7, 3) := zdc_975.1
theorem dL_town_6 : decode cL_town 6 = .ok (.i2l, 1) := zdc_975.2.1
theorem dL_town_7 : decode cL_town 7 = .ok (.lastore, 1) := zdc_975.2.2.1
theorem dL_town_8 : decode cL_town 8 = .ok (.goto 9, 3) := zdc_975.2.2.2.1
theorem dL_town_11 : decode cL_town 11 = .ok (.astore_n 2, 1) := zdc_975.2.2.2.2.1
theorem dL_town_12 : decode cL_town 12 = .ok (.iconst 1, 1) := zdc_975.2.2.2.2.2.1
theorem dL_town_13 : decode cL_town 13 = .ok (.ireturn, 1) := zdc_975.2.2.2.2.2.2.1
theorem dL_town_14 : decode cL_town 14 = .ok (.astore_n 2, 1) := zdc_975.2.2.2.2.2.2.2.1
theorem dL_town_15 : decode cL_town 15 = .ok (.iconst 2, 1) := zdc_975.2.2.2.2.2.2.2.2.1
theorem dL_town_16 : decode cL_town 16 = .ok (.ireturn, 1) := zdc_975.2.2.2.2.2.2.2.2.2
theorem zdc_976 : decode cL_town 17 = .ok (.iconst 0, 1) ∧ decode cL_town 18 = .ok (.ireturn, 1) ∧ decode cL_law 0 = .ok (.aload_n 1, 1) ∧ decode cL_law 1 = .ok (.iconst 0, 1) ∧ decode cL_law 2 = .ok (.aload_n 0, 1) ∧ decode cL_law 3 = .ok (.invokevirtual 17, 3) ∧ decode cL_law 6 = .ok (.i2l, 1) ∧ decode cL_law 7 = .ok (.lastore, 1) ∧ decode cL_law 8 = .ok (.goto 6, 3) ∧ decode cL_law 11 = .ok (.astore_n 2, 1) := by decide +kernel
theorem dL_town_17 : decode cL_town 17 = .ok (.iconst 0, 1) := zdc_976.1
theorem dL_town_18 : decode cL_town 18 = .ok (.ireturn, 1) := zdc_976.2.1
theorem dL_law_0 : decode cL_law 0 = .ok (.aload_n 1, 1) := zdc_976.2.2.1
theorem dL_law_1 : decode cL_law 1 = .ok (.iconst 0, 1) := zdc_976.2.2.2.1
theorem dL_law_2 : decode cL_law 2 = .ok (.aload_n 0, 1) := zdc_976.2.2.2.2.1
theorem dL_law_3 : decode cL_law 3 = .ok (.invokevirtual 17, 3) := zdc_976.2.2.2.2.2.1
theorem dL_law_6 : decode cL_law 6 = .ok (.i2l, 1) := zdc_976.2.2.2.2.2.2.1
theorem dL_law_7 : decode cL_law 7 = .ok (.lastore, 1) := zdc_976.2.2.2.2.2.2.2.1
theorem dL_law_8 : decode cL_law 8 = .ok (.goto 6, 3) := zdc_976.2.2.2.2.2.2.2.2.1
theorem dL_law_11 : decode cL_law 11 = .ok (.astore_n 2, 1) := zdc_976.2.2.2.2.2.2.2.2.2
theorem zdc_977 : decode cL_law 12 = .ok (.iconst 1, 1) ∧ decode cL_law 13 = .ok (.ireturn, 1) ∧ decode cL_law 14 = .ok (.iconst 0, 1) ∧ decode cL_law 15 = .ok (.ireturn, 1) ∧ decode cL_person 0 = .ok (.aload_n 3, 1) ∧ decode cL_person 1 = .ok (.iconst 0, 1) ∧ decode cL_person 2 = .ok (.aload_n 0, 1) ∧ decode cL_person 3 = .ok (.iload_n 1, 1) ∧ decode cL_person 4 = .ok (.iload_n 2, 1) ∧ decode cL_person 5 = .ok (.invokevirtual 20, 3) := by decide +kernel
theorem dL_law_12 : decode cL_law 12 = .ok (.iconst 1, 1) := zdc_977.1
theorem dL_law_13 : decode cL_law 13 = .ok (.ireturn, 1) := zdc_977.2.1
theorem dL_law_14 : decode cL_law 14 = .ok (.iconst 0, 1) := zdc_977.2.2.1
theorem dL_law_15 : decode cL_law 15 = .ok (.ireturn, 1) := zdc_977.2.2.2.1
theorem dL_person_0 : decode cL_person 0 = .ok (.aload_n 3, 1) := zdc_977.2.2.2.2.1
theorem dL_person_1 : decode cL_person 1 = .ok (.iconst 0, 1) := zdc_977.2.2.2.2.2.1
theorem dL_person_2 : decode cL_person 2 = .ok (.aload_n 0, 1) := zdc_977.2.2.2.2.2.2.1
theorem dL_person_3 : decode cL_person 3 = .ok (.iload_n 1, 1) := zdc_977.2.2.2.2.2.2.2.1
theorem dL_person_4 : decode cL_person 4 = .ok (.iload_n 2, 1) := zdc_977.2.2.2.2.2.2.2.2.1
theorem dL_person_5 : decode cL_person 5 = .ok (.invokevirtual 20, 3) := zdc_977.2.2.2.2.2.2.2.2.2
theorem zdc_978 : decode cL_person 8 = .ok (.i2l, 1) ∧ decode cL_person 9 = .ok (.lastore, 1) ∧ decode cL_person 10 = .ok (.goto 11, 3) ∧ decode cL_person 13 = .ok (.astore 4, 2) ∧ decode cL_person 15 = .ok (.iconst 1, 1) ∧ decode cL_person 16 = .ok (.ireturn, 1) ∧ decode cL_person 17 = .ok (.astore 4, 2) ∧ decode cL_person 19 = .ok (.iconst 2, 1) ∧ decode cL_person 20 = .ok (.ireturn, 1) ∧ decode cL_person 21 = .ok (.iconst 0, 1) := by decide +kernel
theorem dL_person_8 : decode cL_person 8 = .ok (.i2l, 1) := zdc_978.1
theorem dL_person_9 : decode cL_person 9 = .ok (.lastore, 1) := zdc_978.2.1
theorem dL_person_10 : decode cL_person 10 = .ok (.goto 11, 3) := zdc_978.2.2.1
theorem dL_person_13 : decode cL_person 13 = .ok (.astore 4, 2) := zdc_978.2.2.2.1
theorem dL_person_15 : decode cL_person 15 = .ok (.iconst 1, 1) := zdc_978.2.2.2.2.1
theorem dL_person_16 : decode cL_person 16 = .ok (.ireturn, 1) := zdc_978.2.2.2.2.2.1
theorem dL_person_17 : decode cL_person 17 = .ok (.astore 4, 2) := zdc_978.2.2.2.2.2.2.1
theorem dL_person_19 : decode cL_person 19 = .ok (.iconst 2, 1) := zdc_978.2.2.2.2.2.2.2.1
theorem dL_person_20 : decode cL_person 20 = .ok (.ireturn, 1) := zdc_978.2.2.2.2.2.2.2.2.1
theorem dL_person_21 : decode cL_person 21 = .ok (.iconst 0, 1) := zdc_978.2.2.2.2.2.2.2.2.2
theorem zdc_979 : decode cL_person 22 = .ok (.ireturn, 1) ∧ decode cL_trust 0 = .ok (.aload_n 3, 1) ∧ decode cL_trust 1 = .ok (.iconst 0, 1) ∧ decode cL_trust 2 = .ok (.aload_n 0, 1) ∧ decode cL_trust 3 = .ok (.iload_n 1, 1) ∧ decode cL_trust 4 = .ok (.iload_n 2, 1) ∧ decode cL_trust 5 = .ok (.invokevirtual 28, 3) ∧ decode cL_trust 8 = .ok (.i2l, 1) ∧ decode cL_trust 9 = .ok (.lastore, 1) ∧ decode cL_trust 10 = .ok (.goto 11, 3) := by decide +kernel
theorem dL_person_22 : decode cL_person 22 = .ok (.ireturn, 1) := zdc_979.1
theorem dL_trust_0 : decode cL_trust 0 = .ok (.aload_n 3, 1) := zdc_979.2.1
theorem dL_trust_1 : decode cL_trust 1 = .ok (.iconst 0, 1) := zdc_979.2.2.1
theorem dL_trust_2 : decode cL_trust 2 = .ok (.aload_n 0, 1) := zdc_979.2.2.2.1
theorem dL_trust_3 : decode cL_trust 3 = .ok (.iload_n 1, 1) := zdc_979.2.2.2.2.1
theorem dL_trust_4 : decode cL_trust 4 = .ok (.iload_n 2, 1) := zdc_979.2.2.2.2.2.1
theorem dL_trust_5 : decode cL_trust 5 = .ok (.invokevirtual 28, 3) := zdc_979.2.2.2.2.2.2.1
theorem dL_trust_8 : decode cL_trust 8 = .ok (.i2l, 1) := zdc_979.2.2.2.2.2.2.2.1
theorem dL_trust_9 : decode cL_trust 9 = .ok (.lastore, 1) := zdc_979.2.2.2.2.2.2.2.2.1
theorem dL_trust_10 : decode cL_trust 10 = .ok (.goto 11, 3) := zdc_979.2.2.2.2.2.2.2.2.2
theorem zdc_980 : decode cL_trust 13 = .ok (.astore 4, 2) ∧ decode cL_trust 15 = .ok (.iconst 1, 1) ∧ decode cL_trust 16 = .ok (.ireturn, 1) ∧ decode cL_trust 17 = .ok (.astore 4, 2) ∧ decode cL_trust 19 = .ok (.iconst 2, 1) ∧ decode cL_trust 20 = .ok (.ireturn, 1) ∧ decode cL_trust 21 = .ok (.iconst 0, 1) ∧ decode cL_trust 22 = .ok (.ireturn, 1) ∧ decode cL_work 0 = .ok (.aload_n 3, 1) ∧ decode cL_work 1 = .ok (.iconst 0, 1) := by decide +kernel
theorem dL_trust_13 : decode cL_trust 13 = .ok (.astore 4, 2) := zdc_980.1
theorem dL_trust_15 : decode cL_trust 15 = .ok (.iconst 1, 1) := zdc_980.2.1
theorem dL_trust_16 : decode cL_trust 16 = .ok (.ireturn, 1) := zdc_980.2.2.1
theorem dL_trust_17 : decode cL_trust 17 = .ok (.astore 4, 2) := zdc_980.2.2.2.1
theorem dL_trust_19 : decode cL_trust 19 = .ok (.iconst 2, 1) := zdc_980.2.2.2.2.1
theorem dL_trust_20 : decode cL_trust 20 = .ok (.ireturn, 1) := zdc_980.2.2.2.2.2.1
theorem dL_trust_21 : decode cL_trust 21 = .ok (.iconst 0, 1) := zdc_980.2.2.2.2.2.2.1
theorem dL_trust_22 : decode cL_trust 22 = .ok (.ireturn, 1) := zdc_980.2.2.2.2.2.2.2.1
theorem dL_work_0 : decode cL_work 0 = .ok (.aload_n 3, 1) := zdc_980.2.2.2.2.2.2.2.2.1
theorem dL_work_1 : decode cL_work 1 = .ok (.iconst 0, 1) := zdc_980.2.2.2.2.2.2.2.2.2
theorem zdc_981 : decode cL_work 2 = .ok (.aload_n 0, 1) ∧ decode cL_work 3 = .ok (.iload_n 1, 1) ∧ decode cL_work 4 = .ok (.iload_n 2, 1) ∧ decode cL_work 5 = .ok (.invokevirtual 31, 3) ∧ decode cL_work 8 = .ok (.i2l, 1) ∧ decode cL_work 9 = .ok (.lastore, 1) ∧ decode cL_work 10 = .ok (.goto 11, 3) ∧ decode cL_work 13 = .ok (.astore 4, 2) ∧ decode cL_work 15 = .ok (.iconst 1, 1) ∧ decode cL_work 16 = .ok (.ireturn, 1) := by decide +kernel
theorem dL_work_2 : decode cL_work 2 = .ok (.aload_n 0, 1) := zdc_981.1
theorem dL_work_3 : decode cL_work 3 = .ok (.iload_n 1, 1) := zdc_981.2.1
theorem dL_work_4 : decode cL_work 4 = .ok (.iload_n 2, 1) := zdc_981.2.2.1
theorem dL_work_5 : decode cL_work 5 = .ok (.invokevirtual 31, 3) := zdc_981.2.2.2.1
theorem dL_work_8 : decode cL_work 8 = .ok (.i2l, 1) := zdc_981.2.2.2.2.1
theorem dL_work_9 : decode cL_work 9 = .ok (.lastore, 1) := zdc_981.2.2.2.2.2.1
theorem dL_work_10 : decode cL_work 10 = .ok (.goto 11, 3) := zdc_981.2.2.2.2.2.2.1
theorem dL_work_13 : decode cL_work 13 = .ok (.astore 4, 2) := zdc_981.2.2.2.2.2.2.2.1
theorem dL_work_15 : decode cL_work 15 = .ok (.iconst 1, 1) := zdc_981.2.2.2.2.2.2.2.2.1
theorem dL_work_16 : decode cL_work 16 = .ok (.ireturn, 1) := zdc_981.2.2.2.2.2.2.2.2.2
theorem zdc_982 : decode cL_work 17 = .ok (.astore 4, 2) ∧ decode cL_work 19 = .ok (.iconst 2, 1) ∧ decode cL_work 20 = .ok (.ireturn, 1) ∧ decode cL_work 21 = .ok (.iconst 0, 1) ∧ decode cL_work 22 = .ok (.ireturn, 1) ∧ decode cL_tell 0 = .ok (.aload_n 2, 1) ∧ decode cL_tell 1 = .ok (.iconst 0, 1) ∧ decode cL_tell 2 = .ok (.aload_n 0, 1) ∧ decode cL_tell 3 = .ok (.iload_n 1, 1) ∧ decode cL_tell 4 = .ok (.invokevirtual 34, 3) := by decide +kernel
theorem dL_work_17 : decode cL_work 17 = .ok (.astore 4, 2) := zdc_982.1
theorem dL_work_19 : decode cL_work 19 = .ok (.iconst 2, 1) := zdc_982.2.1
theorem dL_work_20 : decode cL_work 20 = .ok (.ireturn, 1) := zdc_982.2.2.1
theorem dL_work_21 : decode cL_work 21 = .ok (.iconst 0, 1) := zdc_982.2.2.2.1
theorem dL_work_22 : decode cL_work 22 = .ok (.ireturn, 1) := zdc_982.2.2.2.2.1
theorem dL_tell_0 : decode cL_tell 0 = .ok (.aload_n 2, 1) := zdc_982.2.2.2.2.2.1
theorem dL_tell_1 : decode cL_tell 1 = .ok (.iconst 0, 1) := zdc_982.2.2.2.2.2.2.1
theorem dL_tell_2 : decode cL_tell 2 = .ok (.aload_n 0, 1) := zdc_982.2.2.2.2.2.2.2.1
theorem dL_tell_3 : decode cL_tell 3 = .ok (.iload_n 1, 1) := zdc_982.2.2.2.2.2.2.2.2.1
theorem dL_tell_4 : decode cL_tell 4 = .ok (.invokevirtual 34, 3) := zdc_982.2.2.2.2.2.2.2.2.2
theorem zdc_983 : decode cL_tell 7 = .ok (.i2l, 1) ∧ decode cL_tell 8 = .ok (.lastore, 1) ∧ decode cL_tell 9 = .ok (.goto 9, 3) ∧ decode cL_tell 12 = .ok (.astore_n 3, 1) ∧ decode cL_tell 13 = .ok (.iconst 1, 1) ∧ decode cL_tell 14 = .ok (.ireturn, 1) ∧ decode cL_tell 15 = .ok (.astore_n 3, 1) ∧ decode cL_tell 16 = .ok (.iconst 2, 1) ∧ decode cL_tell 17 = .ok (.ireturn, 1) ∧ decode cL_tell 18 = .ok (.iconst 0, 1) := by decide +kernel
theorem dL_tell_7 : decode cL_tell 7 = .ok (.i2l, 1) := zdc_983.1
theorem dL_tell_8 : decode cL_tell 8 = .ok (.lastore, 1) := zdc_983.2.1
theorem dL_tell_9 : decode cL_tell 9 = .ok (.goto 9, 3) := zdc_983.2.2.1
theorem dL_tell_12 : decode cL_tell 12 = .ok (.astore_n 3, 1) := zdc_983.2.2.2.1
theorem dL_tell_13 : decode cL_tell 13 = .ok (.iconst 1, 1) := zdc_983.2.2.2.2.1
theorem dL_tell_14 : decode cL_tell 14 = .ok (.ireturn, 1) := zdc_983.2.2.2.2.2.1
theorem dL_tell_15 : decode cL_tell 15 = .ok (.astore_n 3, 1) := zdc_983.2.2.2.2.2.2.1
theorem dL_tell_16 : decode cL_tell 16 = .ok (.iconst 2, 1) := zdc_983.2.2.2.2.2.2.2.1
theorem dL_tell_17 : decode cL_tell 17 = .ok (.ireturn, 1) := zdc_983.2.2.2.2.2.2.2.2.1
theorem dL_tell_18 : decode cL_tell 18 = .ok (.iconst 0, 1) := zdc_983.2.2.2.2.2.2.2.2.2
theorem zdc_984 : decode cL_tell 19 = .ok (.ireturn, 1) ∧ decode cL_tie 0 = .ok (.aload 4, 2) ∧ decode cL_tie 2 = .ok (.iconst 0, 1) ∧ decode cL_tie 3 = .ok (.aload_n 0, 1) ∧ decode cL_tie 4 = .ok (.iload_n 1, 1) ∧ decode cL_tie 5 = .ok (.iload_n 2, 1) ∧ decode cL_tie 6 = .ok (.iload_n 3, 1) ∧ decode cL_tie 7 = .ok (.invokevirtual 40, 3) ∧ decode cL_tie 10 = .ok (.i2l, 1) ∧ decode cL_tie 11 = .ok (.lastore, 1) := by decide +kernel
theorem dL_tell_19 : decode cL_tell 19 = .ok (.ireturn, 1) := zdc_984.1
theorem dL_tie_0 : decode cL_tie 0 = .ok (.aload 4, 2) := zdc_984.2.1
theorem dL_tie_2 : decode cL_tie 2 = .ok (.iconst 0, 1) := zdc_984.2.2.1
theorem dL_tie_3 : decode cL_tie 3 = .ok (.aload_n 0, 1) := zdc_984.2.2.2.1
theorem dL_tie_4 : decode cL_tie 4 = .ok (.iload_n 1, 1) := zdc_984.2.2.2.2.1
theorem dL_tie_5 : decode cL_tie 5 = .ok (.iload_n 2, 1) := zdc_984.2.2.2.2.2.1
theorem dL_tie_6 : decode cL_tie 6 = .ok (.iload_n 3, 1) := zdc_984.2.2.2.2.2.2.1
theorem dL_tie_7 : decode cL_tie 7 = .ok (.invokevirtual 40, 3) := zdc_984.2.2.2.2.2.2.2.1
theorem dL_tie_10 : decode cL_tie 10 = .ok (.i2l, 1) := zdc_984.2.2.2.2.2.2.2.2.1
theorem dL_tie_11 : decode cL_tie 11 = .ok (.lastore, 1) := zdc_984.2.2.2.2.2.2.2.2.2
theorem zdc_985 : decode cL_tie 12 = .ok (.goto 11, 3) ∧ decode cL_tie 15 = .ok (.astore 5, 2) ∧ decode cL_tie 17 = .ok (.iconst 1, 1) ∧ decode cL_tie 18 = .ok (.ireturn, 1) ∧ decode cL_tie 19 = .ok (.astore 5, 2) ∧ decode cL_tie 21 = .ok (.iconst 2, 1) ∧ decode cL_tie 22 = .ok (.ireturn, 1) ∧ decode cL_tie 23 = .ok (.iconst 0, 1) ∧ decode cL_tie 24 = .ok (.ireturn, 1) ∧ decode cL_plan 0 = .ok (.aload_n 0, 1) := by decide +kernel
theorem dL_tie_12 : decode cL_tie 12 = .ok (.goto 11, 3) := zdc_985.1
theorem dL_tie_15 : decode cL_tie 15 = .ok (.astore 5, 2) := zdc_985.2.1
theorem dL_tie_17 : decode cL_tie 17 = .ok (.iconst 1, 1) := zdc_985.2.2.1
theorem dL_tie_18 : decode cL_tie 18 = .ok (.ireturn, 1) := zdc_985.2.2.2.1
theorem dL_tie_19 : decode cL_tie 19 = .ok (.astore 5, 2) := zdc_985.2.2.2.2.1
theorem dL_tie_21 : decode cL_tie 21 = .ok (.iconst 2, 1) := zdc_985.2.2.2.2.2.1
theorem dL_tie_22 : decode cL_tie 22 = .ok (.ireturn, 1) := zdc_985.2.2.2.2.2.2.1
theorem dL_tie_23 : decode cL_tie 23 = .ok (.iconst 0, 1) := zdc_985.2.2.2.2.2.2.2.1
theorem dL_tie_24 : decode cL_tie 24 = .ok (.ireturn, 1) := zdc_985.2.2.2.2.2.2.2.2.1
theorem dL_plan_0 : decode cL_plan 0 = .ok (.aload_n 0, 1) := zdc_985.2.2.2.2.2.2.2.2.2
theorem zdc_986 : decode cL_plan 1 = .ok (.iload_n 1, 1) ∧ decode cL_plan 2 = .ok (.invokevirtual 44, 3) ∧ decode cL_plan 5 = .ok (.goto 9, 3) ∧ decode cL_plan 8 = .ok (.astore_n 2, 1) ∧ decode cL_plan 9 = .ok (.iconst 1, 1) ∧ decode cL_plan 10 = .ok (.ireturn, 1) ∧ decode cL_plan 11 = .ok (.astore_n 2, 1) ∧ decode cL_plan 12 = .ok (.iconst 2, 1) ∧ decode cL_plan 13 = .ok (.ireturn, 1) ∧ decode cL_plan 14 = .ok (.iconst 0, 1) := by decide +kernel
theorem dL_plan_1 : decode cL_plan 1 = .ok (.iload_n 1, 1) := zdc_986.1
theorem dL_plan_2 : decode cL_plan 2 = .ok (.invokevirtual 44, 3) := zdc_986.2.1
theorem dL_plan_5 : decode cL_plan 5 = .ok (.goto 9, 3) := zdc_986.2.2.1
theorem dL_plan_8 : decode cL_plan 8 = .ok (.astore_n 2, 1) := zdc_986.2.2.2.1
theorem dL_plan_9 : decode cL_plan 9 = .ok (.iconst 1, 1) := zdc_986.2.2.2.2.1
theorem dL_plan_10 : decode cL_plan 10 = .ok (.ireturn, 1) := zdc_986.2.2.2.2.2.1
theorem dL_plan_11 : decode cL_plan 11 = .ok (.astore_n 2, 1) := zdc_986.2.2.2.2.2.2.1
theorem dL_plan_12 : decode cL_plan 12 = .ok (.iconst 2, 1) := zdc_986.2.2.2.2.2.2.2.1
theorem dL_plan_13 : decode cL_plan 13 = .ok (.ireturn, 1) := zdc_986.2.2.2.2.2.2.2.2.1
theorem dL_plan_14 : decode cL_plan 14 = .ok (.iconst 0, 1) := zdc_986.2.2.2.2.2.2.2.2.2
theorem zdc_987 : decode cL_plan 15 = .ok (.ireturn, 1) ∧ decode cL_send 0 = .ok (.aload_n 2, 1) ∧ decode cL_send 1 = .ok (.iconst 0, 1) ∧ decode cL_send 2 = .ok (.aload_n 0, 1) ∧ decode cL_send 3 = .ok (.iload_n 1, 1) ∧ decode cL_send 4 = .ok (.invokevirtual 48, 3) ∧ decode cL_send 7 = .ok (.i2l, 1) ∧ decode cL_send 8 = .ok (.lastore, 1) ∧ decode cL_send 9 = .ok (.goto 9, 3) ∧ decode cL_send 12 = .ok (.astore_n 3, 1) := by decide +kernel
theorem dL_plan_15 : decode cL_plan 15 = .ok (.ireturn, 1) := zdc_987.1
theorem dL_send_0 : decode cL_send 0 = .ok (.aload_n 2, 1) := zdc_987.2.1
theorem dL_send_1 : decode cL_send 1 = .ok (.iconst 0, 1) := zdc_987.2.2.1
theorem dL_send_2 : decode cL_send 2 = .ok (.aload_n 0, 1) := zdc_987.2.2.2.1
theorem dL_send_3 : decode cL_send 3 = .ok (.iload_n 1, 1) := zdc_987.2.2.2.2.1
theorem dL_send_4 : decode cL_send 4 = .ok (.invokevirtual 48, 3) := zdc_987.2.2.2.2.2.1
theorem dL_send_7 : decode cL_send 7 = .ok (.i2l, 1) := zdc_987.2.2.2.2.2.2.1
theorem dL_send_8 : decode cL_send 8 = .ok (.lastore, 1) := zdc_987.2.2.2.2.2.2.2.1
theorem dL_send_9 : decode cL_send 9 = .ok (.goto 9, 3) := zdc_987.2.2.2.2.2.2.2.2.1
theorem dL_send_12 : decode cL_send 12 = .ok (.astore_n 3, 1) := zdc_987.2.2.2.2.2.2.2.2.2
theorem zdc_988 : decode cL_send 13 = .ok (.iconst 1, 1) ∧ decode cL_send 14 = .ok (.ireturn, 1) ∧ decode cL_send 15 = .ok (.astore_n 3, 1) ∧ decode cL_send 16 = .ok (.iconst 2, 1) ∧ decode cL_send 17 = .ok (.ireturn, 1) ∧ decode cL_send 18 = .ok (.iconst 0, 1) ∧ decode cL_send 19 = .ok (.ireturn, 1) ∧ decode cL_buy 0 = .ok (.aload_n 3, 1) ∧ decode cL_buy 1 = .ok (.iconst 0, 1) ∧ decode cL_buy 2 = .ok (.aload_n 0, 1) := by decide +kernel
theorem dL_send_13 : decode cL_send 13 = .ok (.iconst 1, 1) := zdc_988.1
theorem dL_send_14 : decode cL_send 14 = .ok (.ireturn, 1) := zdc_988.2.1
theorem dL_send_15 : decode cL_send 15 = .ok (.astore_n 3, 1) := zdc_988.2.2.1
theorem dL_send_16 : decode cL_send 16 = .ok (.iconst 2, 1) := zdc_988.2.2.2.1
theorem dL_send_17 : decode cL_send 17 = .ok (.ireturn, 1) := zdc_988.2.2.2.2.1
theorem dL_send_18 : decode cL_send 18 = .ok (.iconst 0, 1) := zdc_988.2.2.2.2.2.1
theorem dL_send_19 : decode cL_send 19 = .ok (.ireturn, 1) := zdc_988.2.2.2.2.2.2.1
theorem dL_buy_0 : decode cL_buy 0 = .ok (.aload_n 3, 1) := zdc_988.2.2.2.2.2.2.2.1
theorem dL_buy_1 : decode cL_buy 1 = .ok (.iconst 0, 1) := zdc_988.2.2.2.2.2.2.2.2.1
theorem dL_buy_2 : decode cL_buy 2 = .ok (.aload_n 0, 1) := zdc_988.2.2.2.2.2.2.2.2.2
theorem zdc_989 : decode cL_buy 3 = .ok (.iload_n 1, 1) ∧ decode cL_buy 4 = .ok (.iload_n 2, 1) ∧ decode cL_buy 5 = .ok (.invokevirtual 51, 3) ∧ decode cL_buy 8 = .ok (.i2l, 1) ∧ decode cL_buy 9 = .ok (.lastore, 1) ∧ decode cL_buy 10 = .ok (.goto 15, 3) ∧ decode cL_buy 13 = .ok (.astore 4, 2) ∧ decode cL_buy 15 = .ok (.iconst 1, 1) ∧ decode cL_buy 16 = .ok (.ireturn, 1) ∧ decode cL_buy 17 = .ok (.astore 4, 2) := by decide +kernel
theorem dL_buy_3 : decode cL_buy 3 = .ok (.iload_n 1, 1) := zdc_989.1
theorem dL_buy_4 : decode cL_buy 4 = .ok (.iload_n 2, 1) := zdc_989.2.1
theorem dL_buy_5 : decode cL_buy 5 = .ok (.invokevirtual 51, 3) := zdc_989.2.2.1
theorem dL_buy_8 : decode cL_buy 8 = .ok (.i2l, 1) := zdc_989.2.2.2.1
theorem dL_buy_9 : decode cL_buy 9 = .ok (.lastore, 1) := zdc_989.2.2.2.2.1
theorem dL_buy_10 : decode cL_buy 10 = .ok (.goto 15, 3) := zdc_989.2.2.2.2.2.1
theorem dL_buy_13 : decode cL_buy 13 = .ok (.astore 4, 2) := zdc_989.2.2.2.2.2.2.1
theorem dL_buy_15 : decode cL_buy 15 = .ok (.iconst 1, 1) := zdc_989.2.2.2.2.2.2.2.1
theorem dL_buy_16 : decode cL_buy 16 = .ok (.ireturn, 1) := zdc_989.2.2.2.2.2.2.2.2.1
theorem dL_buy_17 : decode cL_buy 17 = .ok (.astore 4, 2) := zdc_989.2.2.2.2.2.2.2.2.2
theorem zdc_990 : decode cL_buy 19 = .ok (.iconst 2, 1) ∧ decode cL_buy 20 = .ok (.ireturn, 1) ∧ decode cL_buy 21 = .ok (.astore 4, 2) ∧ decode cL_buy 23 = .ok (.iconst 3, 1) ∧ decode cL_buy 24 = .ok (.ireturn, 1) ∧ decode cL_buy 25 = .ok (.iconst 0, 1) ∧ decode cL_buy 26 = .ok (.ireturn, 1) ∧ decode cL_sell 0 = .ok (.aload_n 3, 1) ∧ decode cL_sell 1 = .ok (.iconst 0, 1) ∧ decode cL_sell 2 = .ok (.aload_n 0, 1) := by decide +kernel
theorem dL_buy_19 : decode cL_buy 19 = .ok (.iconst 2, 1) := zdc_990.1
theorem dL_buy_20 : decode cL_buy 20 = .ok (.ireturn, 1) := zdc_990.2.1
theorem dL_buy_21 : decode cL_buy 21 = .ok (.astore 4, 2) := zdc_990.2.2.1
theorem dL_buy_23 : decode cL_buy 23 = .ok (.iconst 3, 1) := zdc_990.2.2.2.1
theorem dL_buy_24 : decode cL_buy 24 = .ok (.ireturn, 1) := zdc_990.2.2.2.2.1
theorem dL_buy_25 : decode cL_buy 25 = .ok (.iconst 0, 1) := zdc_990.2.2.2.2.2.1
theorem dL_buy_26 : decode cL_buy 26 = .ok (.ireturn, 1) := zdc_990.2.2.2.2.2.2.1
theorem dL_sell_0 : decode cL_sell 0 = .ok (.aload_n 3, 1) := zdc_990.2.2.2.2.2.2.2.1
theorem dL_sell_1 : decode cL_sell 1 = .ok (.iconst 0, 1) := zdc_990.2.2.2.2.2.2.2.2.1
theorem dL_sell_2 : decode cL_sell 2 = .ok (.aload_n 0, 1) := zdc_990.2.2.2.2.2.2.2.2.2
theorem zdc_991 : decode cL_sell 3 = .ok (.iload_n 1, 1) ∧ decode cL_sell 4 = .ok (.iload_n 2, 1) ∧ decode cL_sell 5 = .ok (.invokevirtual 54, 3) ∧ decode cL_sell 8 = .ok (.i2l, 1) ∧ decode cL_sell 9 = .ok (.lastore, 1) ∧ decode cL_sell 10 = .ok (.goto 15, 3) ∧ decode cL_sell 13 = .ok (.astore 4, 2) ∧ decode cL_sell 15 = .ok (.iconst 1, 1) ∧ decode cL_sell 16 = .ok (.ireturn, 1) ∧ decode cL_sell 17 = .ok (.astore 4, 2) := by decide +kernel
theorem dL_sell_3 : decode cL_sell 3 = .ok (.iload_n 1, 1) := zdc_991.1
theorem dL_sell_4 : decode cL_sell 4 = .ok (.iload_n 2, 1) := zdc_991.2.1
theorem dL_sell_5 : decode cL_sell 5 = .ok (.invokevirtual 54, 3) := zdc_991.2.2.1
theorem dL_sell_8 : decode cL_sell 8 = .ok (.i2l, 1) := zdc_991.2.2.2.1
theorem dL_sell_9 : decode cL_sell 9 = .ok (.lastore, 1) := zdc_991.2.2.2.2.1
theorem dL_sell_10 : decode cL_sell 10 = .ok (.goto 15, 3) := zdc_991.2.2.2.2.2.1
theorem dL_sell_13 : decode cL_sell 13 = .ok (.astore 4, 2) := zdc_991.2.2.2.2.2.2.1
theorem dL_sell_15 : decode cL_sell 15 = .ok (.iconst 1, 1) := zdc_991.2.2.2.2.2.2.2.1
theorem dL_sell_16 : decode cL_sell 16 = .ok (.ireturn, 1) := zdc_991.2.2.2.2.2.2.2.2.1
theorem dL_sell_17 : decode cL_sell 17 = .ok (.astore 4, 2) := zdc_991.2.2.2.2.2.2.2.2.2
theorem zdc_992 : decode cL_sell 19 = .ok (.iconst 2, 1) ∧ decode cL_sell 20 = .ok (.ireturn, 1) ∧ decode cL_sell 21 = .ok (.astore 4, 2) ∧ decode cL_sell 23 = .ok (.iconst 3, 1) ∧ decode cL_sell 24 = .ok (.ireturn, 1) ∧ decode cL_sell 25 = .ok (.iconst 0, 1) ∧ decode cL_sell 26 = .ok (.ireturn, 1) ∧ decode cL_dry 0 = .ok (.aload_n 3, 1) ∧ decode cL_dry 1 = .ok (.iconst 0, 1) ∧ decode cL_dry 2 = .ok (.aload_n 0, 1) := by decide +kernel
theorem dL_sell_19 : decode cL_sell 19 = .ok (.iconst 2, 1) := zdc_992.1
theorem dL_sell_20 : decode cL_sell 20 = .ok (.ireturn, 1) := zdc_992.2.1
theorem dL_sell_21 : decode cL_sell 21 = .ok (.astore 4, 2) := zdc_992.2.2.1
theorem dL_sell_23 : decode cL_sell 23 = .ok (.iconst 3, 1) := zdc_992.2.2.2.1
theorem dL_sell_24 : decode cL_sell 24 = .ok (.ireturn, 1) := zdc_992.2.2.2.2.1
theorem dL_sell_25 : decode cL_sell 25 = .ok (.iconst 0, 1) := zdc_992.2.2.2.2.2.1
theorem dL_sell_26 : decode cL_sell 26 = .ok (.ireturn, 1) := zdc_992.2.2.2.2.2.2.1
theorem dL_dry_0 : decode cL_dry 0 = .ok (.aload_n 3, 1) := zdc_992.2.2.2.2.2.2.2.1
theorem dL_dry_1 : decode cL_dry 1 = .ok (.iconst 0, 1) := zdc_992.2.2.2.2.2.2.2.2.1
theorem dL_dry_2 : decode cL_dry 2 = .ok (.aload_n 0, 1) := zdc_992.2.2.2.2.2.2.2.2.2
theorem zdc_993 : decode cL_dry 3 = .ok (.iload_n 1, 1) ∧ decode cL_dry 4 = .ok (.iload_n 2, 1) ∧ decode cL_dry 5 = .ok (.invokevirtual 57, 3) ∧ decode cL_dry 8 = .ok (.ifCond .eq 7, 3) ∧ decode cL_dry 11 = .ok (.lconst 1, 1) ∧ decode cL_dry 12 = .ok (.goto 4, 3) ∧ decode cL_dry 15 = .ok (.lconst 0, 1) ∧ decode cL_dry 16 = .ok (.lastore, 1) ∧ decode cL_dry 17 = .ok (.goto 7, 3) ∧ decode cL_dry 20 = .ok (.astore 4, 2) := by decide +kernel
theorem dL_dry_3 : decode cL_dry 3 = .ok (.iload_n 1, 1) := zdc_993.1
theorem dL_dry_4 : decode cL_dry 4 = .ok (.iload_n 2, 1) := zdc_993.2.1
theorem dL_dry_5 : decode cL_dry 5 = .ok (.invokevirtual 57, 3) := zdc_993.2.2.1
theorem dL_dry_8 : decode cL_dry 8 = .ok (.ifCond .eq 7, 3) := zdc_993.2.2.2.1
theorem dL_dry_11 : decode cL_dry 11 = .ok (.lconst 1, 1) := zdc_993.2.2.2.2.1
theorem dL_dry_12 : decode cL_dry 12 = .ok (.goto 4, 3) := zdc_993.2.2.2.2.2.1
theorem dL_dry_15 : decode cL_dry 15 = .ok (.lconst 0, 1) := zdc_993.2.2.2.2.2.2.1
theorem dL_dry_16 : decode cL_dry 16 = .ok (.lastore, 1) := zdc_993.2.2.2.2.2.2.2.1
theorem dL_dry_17 : decode cL_dry 17 = .ok (.goto 7, 3) := zdc_993.2.2.2.2.2.2.2.2.1
theorem dL_dry_20 : decode cL_dry 20 = .ok (.astore 4, 2) := zdc_993.2.2.2.2.2.2.2.2.2
theorem zdc_994 : decode cL_dry 22 = .ok (.iconst 1, 1) ∧ decode cL_dry 23 = .ok (.ireturn, 1) ∧ decode cL_dry 24 = .ok (.iconst 0, 1) ∧ decode cL_dry 25 = .ok (.ireturn, 1) ∧ decode cL_days 0 = .ok (.aload_n 2, 1) ∧ decode cL_days 1 = .ok (.iconst 0, 1) ∧ decode cL_days 2 = .ok (.aload_n 0, 1) ∧ decode cL_days 3 = .ok (.iload_n 1, 1) ∧ decode cL_days 4 = .ok (.invokevirtual 61, 3) ∧ decode cL_days 7 = .ok (.i2l, 1) := by decide +kernel
theorem dL_dry_22 : decode cL_dry 22 = .ok (.iconst 1, 1) := zdc_994.1
theorem dL_dry_23 : decode cL_dry 23 = .ok (.ireturn, 1) := zdc_994.2.1
theorem dL_dry_24 : decode cL_dry 24 = .ok (.iconst 0, 1) := zdc_994.2.2.1
theorem dL_dry_25 : decode cL_dry 25 = .ok (.ireturn, 1) := zdc_994.2.2.2.1
theorem dL_days_0 : decode cL_days 0 = .ok (.aload_n 2, 1) := zdc_994.2.2.2.2.1
theorem dL_days_1 : decode cL_days 1 = .ok (.iconst 0, 1) := zdc_994.2.2.2.2.2.1
theorem dL_days_2 : decode cL_days 2 = .ok (.aload_n 0, 1) := zdc_994.2.2.2.2.2.2.1
theorem dL_days_3 : decode cL_days 3 = .ok (.iload_n 1, 1) := zdc_994.2.2.2.2.2.2.2.1
theorem dL_days_4 : decode cL_days 4 = .ok (.invokevirtual 61, 3) := zdc_994.2.2.2.2.2.2.2.2.1
theorem dL_days_7 : decode cL_days 7 = .ok (.i2l, 1) := zdc_994.2.2.2.2.2.2.2.2.2
theorem zdc_995 : decode cL_days 8 = .ok (.lastore, 1) ∧ decode cL_days 9 = .ok (.goto 6, 3) ∧ decode cL_days 12 = .ok (.astore_n 3, 1) ∧ decode cL_days 13 = .ok (.iconst 1, 1) ∧ decode cL_days 14 = .ok (.ireturn, 1) ∧ decode cL_days 15 = .ok (.iconst 0, 1) ∧ decode cL_days 16 = .ok (.ireturn, 1) ∧ decode cL_ahead 0 = .ok (.aload_n 3, 1) ∧ decode cL_ahead 1 = .ok (.iconst 0, 1) ∧ decode cL_ahead 2 = .ok (.aload_n 0, 1) := by decide +kernel
theorem dL_days_8 : decode cL_days 8 = .ok (.lastore, 1) := zdc_995.1
theorem dL_days_9 : decode cL_days 9 = .ok (.goto 6, 3) := zdc_995.2.1
theorem dL_days_12 : decode cL_days 12 = .ok (.astore_n 3, 1) := zdc_995.2.2.1
theorem dL_days_13 : decode cL_days 13 = .ok (.iconst 1, 1) := zdc_995.2.2.2.1
theorem dL_days_14 : decode cL_days 14 = .ok (.ireturn, 1) := zdc_995.2.2.2.2.1
theorem dL_days_15 : decode cL_days 15 = .ok (.iconst 0, 1) := zdc_995.2.2.2.2.2.1
theorem dL_days_16 : decode cL_days 16 = .ok (.ireturn, 1) := zdc_995.2.2.2.2.2.2.1
theorem dL_ahead_0 : decode cL_ahead 0 = .ok (.aload_n 3, 1) := zdc_995.2.2.2.2.2.2.2.1
theorem dL_ahead_1 : decode cL_ahead 1 = .ok (.iconst 0, 1) := zdc_995.2.2.2.2.2.2.2.2.1
theorem dL_ahead_2 : decode cL_ahead 2 = .ok (.aload_n 0, 1) := zdc_995.2.2.2.2.2.2.2.2.2
theorem zdc_996 : decode cL_ahead 3 = .ok (.iload_n 1, 1) ∧ decode cL_ahead 4 = .ok (.iload_n 2, 1) ∧ decode cL_ahead 5 = .ok (.invokevirtual 64, 3) ∧ decode cL_ahead 8 = .ok (.i2l, 1) ∧ decode cL_ahead 9 = .ok (.lastore, 1) ∧ decode cL_ahead 10 = .ok (.goto 11, 3) ∧ decode cL_ahead 13 = .ok (.astore 4, 2) ∧ decode cL_ahead 15 = .ok (.iconst 1, 1) ∧ decode cL_ahead 16 = .ok (.ireturn, 1) ∧ decode cL_ahead 17 = .ok (.astore 4, 2) := by decide +kernel
theorem dL_ahead_3 : decode cL_ahead 3 = .ok (.iload_n 1, 1) := zdc_996.1
theorem dL_ahead_4 : decode cL_ahead 4 = .ok (.iload_n 2, 1) := zdc_996.2.1
theorem dL_ahead_5 : decode cL_ahead 5 = .ok (.invokevirtual 64, 3) := zdc_996.2.2.1
theorem dL_ahead_8 : decode cL_ahead 8 = .ok (.i2l, 1) := zdc_996.2.2.2.1
theorem dL_ahead_9 : decode cL_ahead 9 = .ok (.lastore, 1) := zdc_996.2.2.2.2.1
theorem dL_ahead_10 : decode cL_ahead 10 = .ok (.goto 11, 3) := zdc_996.2.2.2.2.2.1
theorem dL_ahead_13 : decode cL_ahead 13 = .ok (.astore 4, 2) := zdc_996.2.2.2.2.2.2.1
theorem dL_ahead_15 : decode cL_ahead 15 = .ok (.iconst 1, 1) := zdc_996.2.2.2.2.2.2.2.1
theorem dL_ahead_16 : decode cL_ahead 16 = .ok (.ireturn, 1) := zdc_996.2.2.2.2.2.2.2.2.1
theorem dL_ahead_17 : decode cL_ahead 17 = .ok (.astore 4, 2) := zdc_996.2.2.2.2.2.2.2.2.2
theorem zdc_997 : decode cL_ahead 19 = .ok (.iconst 2, 1) ∧ decode cL_ahead 20 = .ok (.ireturn, 1) ∧ decode cL_ahead 21 = .ok (.iconst 0, 1) ∧ decode cL_ahead 22 = .ok (.ireturn, 1) ∧ decode cL_then 0 = .ok (.aload_n 3, 1) ∧ decode cL_then 1 = .ok (.iconst 0, 1) ∧ decode cL_then 2 = .ok (.aload_n 0, 1) ∧ decode cL_then 3 = .ok (.iload_n 1, 1) ∧ decode cL_then 4 = .ok (.iload_n 2, 1) ∧ decode cL_then 5 = .ok (.invokevirtual 67, 3) := by decide +kernel
theorem dL_ahead_19 : decode cL_ahead 19 = .ok (.iconst 2, 1) := zdc_997.1
theorem dL_ahead_20 : decode cL_ahead 20 = .ok (.ireturn, 1) := zdc_997.2.1
theorem dL_ahead_21 : decode cL_ahead 21 = .ok (.iconst 0, 1) := zdc_997.2.2.1
theorem dL_ahead_22 : decode cL_ahead 22 = .ok (.ireturn, 1) := zdc_997.2.2.2.1
theorem dL_then_0 : decode cL_then 0 = .ok (.aload_n 3, 1) := zdc_997.2.2.2.2.1
theorem dL_then_1 : decode cL_then 1 = .ok (.iconst 0, 1) := zdc_997.2.2.2.2.2.1
theorem dL_then_2 : decode cL_then 2 = .ok (.aload_n 0, 1) := zdc_997.2.2.2.2.2.2.1
theorem dL_then_3 : decode cL_then 3 = .ok (.iload_n 1, 1) := zdc_997.2.2.2.2.2.2.2.1
theorem dL_then_4 : decode cL_then 4 = .ok (.iload_n 2, 1) := zdc_997.2.2.2.2.2.2.2.2.1
theorem dL_then_5 : decode cL_then 5 = .ok (.invokevirtual 67, 3) := zdc_997.2.2.2.2.2.2.2.2.2
theorem zdc_998 : decode cL_then 8 = .ok (.i2l, 1) ∧ decode cL_then 9 = .ok (.lastore, 1) ∧ decode cL_then 10 = .ok (.goto 7, 3) ∧ decode cL_then 13 = .ok (.astore 4, 2) ∧ decode cL_then 15 = .ok (.iconst 1, 1) ∧ decode cL_then 16 = .ok (.ireturn, 1) ∧ decode cL_then 17 = .ok (.iconst 0, 1) ∧ decode cL_then 18 = .ok (.ireturn, 1) ∧ decode cL_sways 0 = .ok (.aload_n 3, 1) ∧ decode cL_sways 1 = .ok (.iconst 0, 1) := by decide +kernel
theorem dL_then_8 : decode cL_then 8 = .ok (.i2l, 1) := zdc_998.1
theorem dL_then_9 : decode cL_then 9 = .ok (.lastore, 1) := zdc_998.2.1
theorem dL_then_10 : decode cL_then 10 = .ok (.goto 7, 3) := zdc_998.2.2.1
theorem dL_then_13 : decode cL_then 13 = .ok (.astore 4, 2) := zdc_998.2.2.2.1
theorem dL_then_15 : decode cL_then 15 = .ok (.iconst 1, 1) := zdc_998.2.2.2.2.1
theorem dL_then_16 : decode cL_then 16 = .ok (.ireturn, 1) := zdc_998.2.2.2.2.2.1
theorem dL_then_17 : decode cL_then 17 = .ok (.iconst 0, 1) := zdc_998.2.2.2.2.2.2.1
theorem dL_then_18 : decode cL_then 18 = .ok (.ireturn, 1) := zdc_998.2.2.2.2.2.2.2.1
theorem dL_sways_0 : decode cL_sways 0 = .ok (.aload_n 3, 1) := zdc_998.2.2.2.2.2.2.2.2.1
theorem dL_sways_1 : decode cL_sways 1 = .ok (.iconst 0, 1) := zdc_998.2.2.2.2.2.2.2.2.2
theorem zdc_999 : decode cL_sways 2 = .ok (.aload_n 0, 1) ∧ decode cL_sways 3 = .ok (.iload_n 1, 1) ∧ decode cL_sways 4 = .ok (.iload_n 2, 1) ∧ decode cL_sways 5 = .ok (.invokevirtual 71, 3) ∧ decode cL_sways 8 = .ok (.i2l, 1) ∧ decode cL_sways 9 = .ok (.lastore, 1) ∧ decode cL_sways 10 = .ok (.goto 11, 3) ∧ decode cL_sways 13 = .ok (.astore 4, 2) ∧ decode cL_sways 15 = .ok (.iconst 1, 1) ∧ decode cL_sways 16 = .ok (.ireturn, 1) := by decide +kernel
theorem dL_sways_2 : decode cL_sways 2 = .ok (.aload_n 0, 1) := zdc_999.1
theorem dL_sways_3 : decode cL_sways 3 = .ok (.iload_n 1, 1) := zdc_999.2.1
theorem dL_sways_4 : decode cL_sways 4 = .ok (.iload_n 2, 1) := zdc_999.2.2.1
theorem dL_sways_5 : decode cL_sways 5 = .ok (.invokevirtual 71, 3) := zdc_999.2.2.2.1
theorem dL_sways_8 : decode cL_sways 8 = .ok (.i2l, 1) := zdc_999.2.2.2.2.1
theorem dL_sways_9 : decode cL_sways 9 = .ok (.lastore, 1) := zdc_999.2.2.2.2.2.1
theorem dL_sways_10 : decode cL_sways 10 = .ok (.goto 11, 3) := zdc_999.2.2.2.2.2.2.1
theorem dL_sways_13 : decode cL_sways 13 = .ok (.astore 4, 2) := zdc_999.2.2.2.2.2.2.2.1
theorem dL_sways_15 : decode cL_sways 15 = .ok (.iconst 1, 1) := zdc_999.2.2.2.2.2.2.2.2.1
theorem dL_sways_16 : decode cL_sways 16 = .ok (.ireturn, 1) := zdc_999.2.2.2.2.2.2.2.2.2
theorem zdc_1000 : decode cL_sways 17 = .ok (.astore 4, 2) ∧ decode cL_sways 19 = .ok (.iconst 2, 1) ∧ decode cL_sways 20 = .ok (.ireturn, 1) ∧ decode cL_sways 21 = .ok (.iconst 0, 1) ∧ decode cL_sways 22 = .ok (.ireturn, 1) ∧ decode cL_guru 0 = .ok (.aload_n 2, 1) ∧ decode cL_guru 1 = .ok (.iconst 0, 1) ∧ decode cL_guru 2 = .ok (.aload_n 0, 1) ∧ decode cL_guru 3 = .ok (.iload_n 1, 1) ∧ decode cL_guru 4 = .ok (.invokevirtual 74, 3) := by decide +kernel
theorem dL_sways_17 : decode cL_sways 17 = .ok (.astore 4, 2) := zdc_1000.1
theorem dL_sways_19 : decode cL_sways 19 = .ok (.iconst 2, 1) := zdc_1000.2.1
theorem dL_sways_20 : decode cL_sways 20 = .ok (.ireturn, 1) := zdc_1000.2.2.1
theorem dL_sways_21 : decode cL_sways 21 = .ok (.iconst 0, 1) := zdc_1000.2.2.2.1
theorem dL_sways_22 : decode cL_sways 22 = .ok (.ireturn, 1) := zdc_1000.2.2.2.2.1
theorem dL_guru_0 : decode cL_guru 0 = .ok (.aload_n 2, 1) := zdc_1000.2.2.2.2.2.1
theorem dL_guru_1 : decode cL_guru 1 = .ok (.iconst 0, 1) := zdc_1000.2.2.2.2.2.2.1
theorem dL_guru_2 : decode cL_guru 2 = .ok (.aload_n 0, 1) := zdc_1000.2.2.2.2.2.2.2.1
theorem dL_guru_3 : decode cL_guru 3 = .ok (.iload_n 1, 1) := zdc_1000.2.2.2.2.2.2.2.2.1
theorem dL_guru_4 : decode cL_guru 4 = .ok (.invokevirtual 74, 3) := zdc_1000.2.2.2.2.2.2.2.2.2
theorem zdc_1001 : decode cL_guru 7 = .ok (.i2l, 1) ∧ decode cL_guru 8 = .ok (.lastore, 1) ∧ decode cL_guru 9 = .ok (.goto 6, 3) ∧ decode cL_guru 12 = .ok (.astore_n 3, 1) ∧ decode cL_guru 13 = .ok (.iconst 1, 1) ∧ decode cL_guru 14 = .ok (.ireturn, 1) ∧ decode cL_guru 15 = .ok (.iconst 0, 1) ∧ decode cL_guru 16 = .ok (.ireturn, 1) ∧ decode cL_must 0 = .ok (.aload_n 3, 1) ∧ decode cL_must 1 = .ok (.iconst 0, 1) := by decide +kernel
theorem dL_guru_7 : decode cL_guru 7 = .ok (.i2l, 1) := zdc_1001.1
theorem dL_guru_8 : decode cL_guru 8 = .ok (.lastore, 1) := zdc_1001.2.1
theorem dL_guru_9 : decode cL_guru 9 = .ok (.goto 6, 3) := zdc_1001.2.2.1
theorem dL_guru_12 : decode cL_guru 12 = .ok (.astore_n 3, 1) := zdc_1001.2.2.2.1
theorem dL_guru_13 : decode cL_guru 13 = .ok (.iconst 1, 1) := zdc_1001.2.2.2.2.1
theorem dL_guru_14 : decode cL_guru 14 = .ok (.ireturn, 1) := zdc_1001.2.2.2.2.2.1
theorem dL_guru_15 : decode cL_guru 15 = .ok (.iconst 0, 1) := zdc_1001.2.2.2.2.2.2.1
theorem dL_guru_16 : decode cL_guru 16 = .ok (.ireturn, 1) := zdc_1001.2.2.2.2.2.2.2.1
theorem dL_must_0 : decode cL_must 0 = .ok (.aload_n 3, 1) := zdc_1001.2.2.2.2.2.2.2.2.1
theorem dL_must_1 : decode cL_must 1 = .ok (.iconst 0, 1) := zdc_1001.2.2.2.2.2.2.2.2.2
theorem zdc_1002 : decode cL_must 2 = .ok (.aload_n 0, 1) ∧ decode cL_must 3 = .ok (.iload_n 1, 1) ∧ decode cL_must 4 = .ok (.iload_n 2, 1) ∧ decode cL_must 5 = .ok (.invokevirtual 77, 3) ∧ decode cL_must 8 = .ok (.i2l, 1) ∧ decode cL_must 9 = .ok (.lastore, 1) ∧ decode cL_must 10 = .ok (.goto 7, 3) ∧ decode cL_must 13 = .ok (.astore 4, 2) ∧ decode cL_must 15 = .ok (.iconst 1, 1) ∧ decode cL_must 16 = .ok (.ireturn, 1) := by decide +kernel
theorem dL_must_2 : decode cL_must 2 = .ok (.aload_n 0, 1) := zdc_1002.1
theorem dL_must_3 : decode cL_must 3 = .ok (.iload_n 1, 1) := zdc_1002.2.1
theorem dL_must_4 : decode cL_must 4 = .ok (.iload_n 2, 1) := zdc_1002.2.2.1
theorem dL_must_5 : decode cL_must 5 = .ok (.invokevirtual 77, 3) := zdc_1002.2.2.2.1
theorem dL_must_8 : decode cL_must 8 = .ok (.i2l, 1) := zdc_1002.2.2.2.2.1
theorem dL_must_9 : decode cL_must 9 = .ok (.lastore, 1) := zdc_1002.2.2.2.2.2.1
theorem dL_must_10 : decode cL_must 10 = .ok (.goto 7, 3) := zdc_1002.2.2.2.2.2.2.1
theorem dL_must_13 : decode cL_must 13 = .ok (.astore 4, 2) := zdc_1002.2.2.2.2.2.2.2.1
theorem dL_must_15 : decode cL_must 15 = .ok (.iconst 1, 1) := zdc_1002.2.2.2.2.2.2.2.2.1
theorem dL_must_16 : decode cL_must 16 = .ok (.ireturn, 1) := zdc_1002.2.2.2.2.2.2.2.2.2
theorem zdc_1003 : decode cL_must 17 = .ok (.iconst 0, 1) ∧ decode cL_must 18 = .ok (.ireturn, 1) ∧ decode cL_reaches 0 = .ok (.aload_n 2, 1) ∧ decode cL_reaches 1 = .ok (.iconst 0, 1) ∧ decode cL_reaches 2 = .ok (.aload_n 0, 1) ∧ decode cL_reaches 3 = .ok (.iload_n 1, 1) ∧ decode cL_reaches 4 = .ok (.invokevirtual 80, 3) ∧ decode cL_reaches 7 = .ok (.i2l, 1) ∧ decode cL_reaches 8 = .ok (.lastore, 1) ∧ decode cL_reaches 9 = .ok (.goto 6, 3) := by decide +kernel
theorem dL_must_17 : decode cL_must 17 = .ok (.iconst 0, 1) := zdc_1003.1
theorem dL_must_18 : decode cL_must 18 = .ok (.ireturn, 1) := zdc_1003.2.1
theorem dL_reaches_0 : decode cL_reaches 0 = .ok (.aload_n 2, 1) := zdc_1003.2.2.1
theorem dL_reaches_1 : decode cL_reaches 1 = .ok (.iconst 0, 1) := zdc_1003.2.2.2.1
theorem dL_reaches_2 : decode cL_reaches 2 = .ok (.aload_n 0, 1) := zdc_1003.2.2.2.2.1
theorem dL_reaches_3 : decode cL_reaches 3 = .ok (.iload_n 1, 1) := zdc_1003.2.2.2.2.2.1
theorem dL_reaches_4 : decode cL_reaches 4 = .ok (.invokevirtual 80, 3) := zdc_1003.2.2.2.2.2.2.1
theorem dL_reaches_7 : decode cL_reaches 7 = .ok (.i2l, 1) := zdc_1003.2.2.2.2.2.2.2.1
theorem dL_reaches_8 : decode cL_reaches 8 = .ok (.lastore, 1) := zdc_1003.2.2.2.2.2.2.2.2.1
theorem dL_reaches_9 : decode cL_reaches 9 = .ok (.goto 6, 3) := zdc_1003.2.2.2.2.2.2.2.2.2
theorem zdc_1004 : decode cL_reaches 12 = .ok (.astore_n 3, 1) ∧ decode cL_reaches 13 = .ok (.iconst 1, 1) ∧ decode cL_reaches 14 = .ok (.ireturn, 1) ∧ decode cL_reaches 15 = .ok (.iconst 0, 1) ∧ decode cL_reaches 16 = .ok (.ireturn, 1) ∧ decode cL_dearest 0 = .ok (.aload_n 3, 1) ∧ decode cL_dearest 1 = .ok (.iconst 0, 1) ∧ decode cL_dearest 2 = .ok (.aload_n 0, 1) ∧ decode cL_dearest 3 = .ok (.iload_n 1, 1) ∧ decode cL_dearest 4 = .ok (.iload_n 2, 1) := by decide +kernel
theorem dL_reaches_12 : decode cL_reaches 12 = .ok (.astore_n 3, 1) := zdc_1004.1
theorem dL_reaches_13 : decode cL_reaches 13 = .ok (.iconst 1, 1) := zdc_1004.2.1
theorem dL_reaches_14 : decode cL_reaches 14 = .ok (.ireturn, 1) := zdc_1004.2.2.1
theorem dL_reaches_15 : decode cL_reaches 15 = .ok (.iconst 0, 1) := zdc_1004.2.2.2.1
theorem dL_reaches_16 : decode cL_reaches 16 = .ok (.ireturn, 1) := zdc_1004.2.2.2.2.1
theorem dL_dearest_0 : decode cL_dearest 0 = .ok (.aload_n 3, 1) := zdc_1004.2.2.2.2.2.1
theorem dL_dearest_1 : decode cL_dearest 1 = .ok (.iconst 0, 1) := zdc_1004.2.2.2.2.2.2.1
theorem dL_dearest_2 : decode cL_dearest 2 = .ok (.aload_n 0, 1) := zdc_1004.2.2.2.2.2.2.2.1
theorem dL_dearest_3 : decode cL_dearest 3 = .ok (.iload_n 1, 1) := zdc_1004.2.2.2.2.2.2.2.2.1
theorem dL_dearest_4 : decode cL_dearest 4 = .ok (.iload_n 2, 1) := zdc_1004.2.2.2.2.2.2.2.2.2
theorem zdc_1005 : decode cL_dearest 5 = .ok (.invokevirtual 83, 3) ∧ decode cL_dearest 8 = .ok (.i2l, 1) ∧ decode cL_dearest 9 = .ok (.lastore, 1) ∧ decode cL_dearest 10 = .ok (.goto 7, 3) ∧ decode cL_dearest 13 = .ok (.astore 4, 2) ∧ decode cL_dearest 15 = .ok (.iconst 1, 1) ∧ decode cL_dearest 16 = .ok (.ireturn, 1) ∧ decode cL_dearest 17 = .ok (.iconst 0, 1) ∧ decode cL_dearest 18 = .ok (.ireturn, 1) ∧ decode cL_falls 0 = .ok (.aload_n 2, 1) := by decide +kernel
theorem dL_dearest_5 : decode cL_dearest 5 = .ok (.invokevirtual 83, 3) := zdc_1005.1
theorem dL_dearest_8 : decode cL_dearest 8 = .ok (.i2l, 1) := zdc_1005.2.1
theorem dL_dearest_9 : decode cL_dearest 9 = .ok (.lastore, 1) := zdc_1005.2.2.1
theorem dL_dearest_10 : decode cL_dearest 10 = .ok (.goto 7, 3) := zdc_1005.2.2.2.1
theorem dL_dearest_13 : decode cL_dearest 13 = .ok (.astore 4, 2) := zdc_1005.2.2.2.2.1
theorem dL_dearest_15 : decode cL_dearest 15 = .ok (.iconst 1, 1) := zdc_1005.2.2.2.2.2.1
theorem dL_dearest_16 : decode cL_dearest 16 = .ok (.ireturn, 1) := zdc_1005.2.2.2.2.2.2.1
theorem dL_dearest_17 : decode cL_dearest 17 = .ok (.iconst 0, 1) := zdc_1005.2.2.2.2.2.2.2.1
theorem dL_dearest_18 : decode cL_dearest 18 = .ok (.ireturn, 1) := zdc_1005.2.2.2.2.2.2.2.2.1
theorem dL_falls_0 : decode cL_falls 0 = .ok (.aload_n 2, 1) := zdc_1005.2.2.2.2.2.2.2.2.2
theorem zdc_1006 : decode cL_falls 1 = .ok (.iconst 0, 1) ∧ decode cL_falls 2 = .ok (.aload_n 0, 1) ∧ decode cL_falls 3 = .ok (.iload_n 1, 1) ∧ decode cL_falls 4 = .ok (.invokevirtual 86, 3) ∧ decode cL_falls 7 = .ok (.i2l, 1) ∧ decode cL_falls 8 = .ok (.lastore, 1) ∧ decode cL_falls 9 = .ok (.goto 6, 3) ∧ decode cL_falls 12 = .ok (.astore_n 3, 1) ∧ decode cL_falls 13 = .ok (.iconst 1, 1) ∧ decode cL_falls 14 = .ok (.ireturn, 1) := by decide +kernel
theorem dL_falls_1 : decode cL_falls 1 = .ok (.iconst 0, 1) := zdc_1006.1
theorem dL_falls_2 : decode cL_falls 2 = .ok (.aload_n 0, 1) := zdc_1006.2.1
theorem dL_falls_3 : decode cL_falls 3 = .ok (.iload_n 1, 1) := zdc_1006.2.2.1
theorem dL_falls_4 : decode cL_falls 4 = .ok (.invokevirtual 86, 3) := zdc_1006.2.2.2.1
theorem dL_falls_7 : decode cL_falls 7 = .ok (.i2l, 1) := zdc_1006.2.2.2.2.1
theorem dL_falls_8 : decode cL_falls 8 = .ok (.lastore, 1) := zdc_1006.2.2.2.2.2.1
theorem dL_falls_9 : decode cL_falls 9 = .ok (.goto 6, 3) := zdc_1006.2.2.2.2.2.2.1
theorem dL_falls_12 : decode cL_falls 12 = .ok (.astore_n 3, 1) := zdc_1006.2.2.2.2.2.2.2.1
theorem dL_falls_13 : decode cL_falls 13 = .ok (.iconst 1, 1) := zdc_1006.2.2.2.2.2.2.2.2.1
theorem dL_falls_14 : decode cL_falls 14 = .ok (.ireturn, 1) := zdc_1006.2.2.2.2.2.2.2.2.2
theorem zdc_1007 : decode cL_falls 15 = .ok (.iconst 0, 1) ∧ decode cL_falls 16 = .ok (.ireturn, 1) ∧ decode cL_river 0 = .ok (.aload_n 2, 1) ∧ decode cL_river 1 = .ok (.iconst 0, 1) ∧ decode cL_river 2 = .ok (.aload_n 0, 1) ∧ decode cL_river 3 = .ok (.iload_n 1, 1) ∧ decode cL_river 4 = .ok (.invokevirtual 89, 3) ∧ decode cL_river 7 = .ok (.i2l, 1) ∧ decode cL_river 8 = .ok (.lastore, 1) ∧ decode cL_river 9 = .ok (.goto 6, 3) := by decide +kernel
theorem dL_falls_15 : decode cL_falls 15 = .ok (.iconst 0, 1) := zdc_1007.1
theorem dL_falls_16 : decode cL_falls 16 = .ok (.ireturn, 1) := zdc_1007.2.1
theorem dL_river_0 : decode cL_river 0 = .ok (.aload_n 2, 1) := zdc_1007.2.2.1
theorem dL_river_1 : decode cL_river 1 = .ok (.iconst 0, 1) := zdc_1007.2.2.2.1
theorem dL_river_2 : decode cL_river 2 = .ok (.aload_n 0, 1) := zdc_1007.2.2.2.2.1
theorem dL_river_3 : decode cL_river 3 = .ok (.iload_n 1, 1) := zdc_1007.2.2.2.2.2.1
theorem dL_river_4 : decode cL_river 4 = .ok (.invokevirtual 89, 3) := zdc_1007.2.2.2.2.2.2.1
theorem dL_river_7 : decode cL_river 7 = .ok (.i2l, 1) := zdc_1007.2.2.2.2.2.2.2.1
theorem dL_river_8 : decode cL_river 8 = .ok (.lastore, 1) := zdc_1007.2.2.2.2.2.2.2.2.1
theorem dL_river_9 : decode cL_river 9 = .ok (.goto 6, 3) := zdc_1007.2.2.2.2.2.2.2.2.2
theorem zdc_1008 : decode cL_river 12 = .ok (.astore_n 3, 1) ∧ decode cL_river 13 = .ok (.iconst 1, 1) ∧ decode cL_river 14 = .ok (.ireturn, 1) ∧ decode cL_river 15 = .ok (.iconst 0, 1) ∧ decode cL_river 16 = .ok (.ireturn, 1) ∧ decode cL_more 0 = .ok (.aload_n 2, 1) ∧ decode cL_more 1 = .ok (.iconst 0, 1) ∧ decode cL_more 2 = .ok (.aload_n 0, 1) ∧ decode cL_more 3 = .ok (.iload_n 1, 1) ∧ decode cL_more 4 = .ok (.invokevirtual 92, 3) := by decide +kernel
theorem dL_river_12 : decode cL_river 12 = .ok (.astore_n 3, 1) := zdc_1008.1
theorem dL_river_13 : decode cL_river 13 = .ok (.iconst 1, 1) := zdc_1008.2.1
theorem dL_river_14 : decode cL_river 14 = .ok (.ireturn, 1) := zdc_1008.2.2.1
theorem dL_river_15 : decode cL_river 15 = .ok (.iconst 0, 1) := zdc_1008.2.2.2.1
theorem dL_river_16 : decode cL_river 16 = .ok (.ireturn, 1) := zdc_1008.2.2.2.2.1
theorem dL_more_0 : decode cL_more 0 = .ok (.aload_n 2, 1) := zdc_1008.2.2.2.2.2.1
theorem dL_more_1 : decode cL_more 1 = .ok (.iconst 0, 1) := zdc_1008.2.2.2.2.2.2.1
theorem dL_more_2 : decode cL_more 2 = .ok (.aload_n 0, 1) := zdc_1008.2.2.2.2.2.2.2.1
theorem dL_more_3 : decode cL_more 3 = .ok (.iload_n 1, 1) := zdc_1008.2.2.2.2.2.2.2.2.1
theorem dL_more_4 : decode cL_more 4 = .ok (.invokevirtual 92, 3) := zdc_1008.2.2.2.2.2.2.2.2.2
theorem zdc_1009 : decode cL_more 7 = .ok (.i2l, 1) ∧ decode cL_more 8 = .ok (.lastore, 1) ∧ decode cL_more 9 = .ok (.goto 6, 3) ∧ decode cL_more 12 = .ok (.astore_n 3, 1) ∧ decode cL_more 13 = .ok (.iconst 1, 1) ∧ decode cL_more 14 = .ok (.ireturn, 1) ∧ decode cL_more 15 = .ok (.iconst 0, 1) ∧ decode cL_more 16 = .ok (.ireturn, 1) ∧ decode cL_liars 0 = .ok (.aload_n 2, 1) ∧ decode cL_liars 1 = .ok (.iconst 0, 1) := by decide +kernel
theorem dL_more_7 : decode cL_more 7 = .ok (.i2l, 1) := zdc_1009.1
theorem dL_more_8 : decode cL_more 8 = .ok (.lastore, 1) := zdc_1009.2.1
theorem dL_more_9 : decode cL_more 9 = .ok (.goto 6, 3) := zdc_1009.2.2.1
theorem dL_more_12 : decode cL_more 12 = .ok (.astore_n 3, 1) := zdc_1009.2.2.2.1
theorem dL_more_13 : decode cL_more 13 = .ok (.iconst 1, 1) := zdc_1009.2.2.2.2.1
theorem dL_more_14 : decode cL_more 14 = .ok (.ireturn, 1) := zdc_1009.2.2.2.2.2.1
theorem dL_more_15 : decode cL_more 15 = .ok (.iconst 0, 1) := zdc_1009.2.2.2.2.2.2.1
theorem dL_more_16 : decode cL_more 16 = .ok (.ireturn, 1) := zdc_1009.2.2.2.2.2.2.2.1
theorem dL_liars_0 : decode cL_liars 0 = .ok (.aload_n 2, 1) := zdc_1009.2.2.2.2.2.2.2.2.1
theorem dL_liars_1 : decode cL_liars 1 = .ok (.iconst 0, 1) := zdc_1009.2.2.2.2.2.2.2.2.2
theorem zdc_1010 : decode cL_liars 2 = .ok (.aload_n 0, 1) ∧ decode cL_liars 3 = .ok (.iload_n 1, 1) ∧ decode cL_liars 4 = .ok (.invokevirtual 95, 3) ∧ decode cL_liars 7 = .ok (.i2l, 1) ∧ decode cL_liars 8 = .ok (.lastore, 1) ∧ decode cL_liars 9 = .ok (.goto 6, 3) ∧ decode cL_liars 12 = .ok (.astore_n 3, 1) ∧ decode cL_liars 13 = .ok (.iconst 1, 1) ∧ decode cL_liars 14 = .ok (.ireturn, 1) ∧ decode cL_liars 15 = .ok (.iconst 0, 1) := by decide +kernel
theorem dL_liars_2 : decode cL_liars 2 = .ok (.aload_n 0, 1) := zdc_1010.1
theorem dL_liars_3 : decode cL_liars 3 = .ok (.iload_n 1, 1) := zdc_1010.2.1
theorem dL_liars_4 : decode cL_liars 4 = .ok (.invokevirtual 95, 3) := zdc_1010.2.2.1
theorem dL_liars_7 : decode cL_liars 7 = .ok (.i2l, 1) := zdc_1010.2.2.2.1
theorem dL_liars_8 : decode cL_liars 8 = .ok (.lastore, 1) := zdc_1010.2.2.2.2.1
theorem dL_liars_9 : decode cL_liars 9 = .ok (.goto 6, 3) := zdc_1010.2.2.2.2.2.1
theorem dL_liars_12 : decode cL_liars 12 = .ok (.astore_n 3, 1) := zdc_1010.2.2.2.2.2.2.1
theorem dL_liars_13 : decode cL_liars 13 = .ok (.iconst 1, 1) := zdc_1010.2.2.2.2.2.2.2.1
theorem dL_liars_14 : decode cL_liars 14 = .ok (.ireturn, 1) := zdc_1010.2.2.2.2.2.2.2.2.1
theorem dL_liars_15 : decode cL_liars 15 = .ok (.iconst 0, 1) := zdc_1010.2.2.2.2.2.2.2.2.2
theorem zdc_1011 : decode cL_liars 16 = .ok (.ireturn, 1) ∧ decode cL_ask 0 = .ok (.aload_n 1, 1) ∧ decode cL_ask 1 = .ok (.iconst 0, 1) ∧ decode cL_ask 2 = .ok (.aload_n 0, 1) ∧ decode cL_ask 3 = .ok (.invokevirtual 99, 3) ∧ decode cL_ask 6 = .ok (.i2l, 1) ∧ decode cL_ask 7 = .ok (.lastore, 1) ∧ decode cL_ask 8 = .ok (.goto 6, 3) ∧ decode cL_ask 11 = .ok (.astore_n 2, 1) ∧ decode cL_ask 12 = .ok (.iconst 1, 1) := by decide +kernel
theorem dL_liars_16 : decode cL_liars 16 = .ok (.ireturn, 1) := zdc_1011.1
theorem dL_ask_0 : decode cL_ask 0 = .ok (.aload_n 1, 1) := zdc_1011.2.1
theorem dL_ask_1 : decode cL_ask 1 = .ok (.iconst 0, 1) := zdc_1011.2.2.1
theorem dL_ask_2 : decode cL_ask 2 = .ok (.aload_n 0, 1) := zdc_1011.2.2.2.1
theorem dL_ask_3 : decode cL_ask 3 = .ok (.invokevirtual 99, 3) := zdc_1011.2.2.2.2.1
theorem dL_ask_6 : decode cL_ask 6 = .ok (.i2l, 1) := zdc_1011.2.2.2.2.2.1
theorem dL_ask_7 : decode cL_ask 7 = .ok (.lastore, 1) := zdc_1011.2.2.2.2.2.2.1
theorem dL_ask_8 : decode cL_ask 8 = .ok (.goto 6, 3) := zdc_1011.2.2.2.2.2.2.2.1
theorem dL_ask_11 : decode cL_ask 11 = .ok (.astore_n 2, 1) := zdc_1011.2.2.2.2.2.2.2.2.1
theorem dL_ask_12 : decode cL_ask 12 = .ok (.iconst 1, 1) := zdc_1011.2.2.2.2.2.2.2.2.2
theorem zdc_1012 : decode cL_ask 13 = .ok (.ireturn, 1) ∧ decode cL_ask 14 = .ok (.iconst 0, 1) ∧ decode cL_ask 15 = .ok (.ireturn, 1) ∧ decode cL_word 0 = .ok (.aload_n 2, 1) ∧ decode cL_word 1 = .ok (.iconst 0, 1) ∧ decode cL_word 2 = .ok (.aload_n 0, 1) ∧ decode cL_word 3 = .ok (.iload_n 1, 1) ∧ decode cL_word 4 = .ok (.invokevirtual 102, 3) ∧ decode cL_word 7 = .ok (.i2l, 1) ∧ decode cL_word 8 = .ok (.lastore, 1) := by decide +kernel
theorem dL_ask_13 : decode cL_ask 13 = .ok (.ireturn, 1) := zdc_1012.1
theorem dL_ask_14 : decode cL_ask 14 = .ok (.iconst 0, 1) := zdc_1012.2.1
theorem dL_ask_15 : decode cL_ask 15 = .ok (.ireturn, 1) := zdc_1012.2.2.1
theorem dL_word_0 : decode cL_word 0 = .ok (.aload_n 2, 1) := zdc_1012.2.2.2.1
theorem dL_word_1 : decode cL_word 1 = .ok (.iconst 0, 1) := zdc_1012.2.2.2.2.1
theorem dL_word_2 : decode cL_word 2 = .ok (.aload_n 0, 1) := zdc_1012.2.2.2.2.2.1
theorem dL_word_3 : decode cL_word 3 = .ok (.iload_n 1, 1) := zdc_1012.2.2.2.2.2.2.1
theorem dL_word_4 : decode cL_word 4 = .ok (.invokevirtual 102, 3) := zdc_1012.2.2.2.2.2.2.2.1
theorem dL_word_7 : decode cL_word 7 = .ok (.i2l, 1) := zdc_1012.2.2.2.2.2.2.2.2.1
theorem dL_word_8 : decode cL_word 8 = .ok (.lastore, 1) := zdc_1012.2.2.2.2.2.2.2.2.2
theorem zdc_1013 : decode cL_word 9 = .ok (.goto 6, 3) ∧ decode cL_word 12 = .ok (.astore_n 3, 1) ∧ decode cL_word 13 = .ok (.iconst 1, 1) ∧ decode cL_word 14 = .ok (.ireturn, 1) ∧ decode cL_word 15 = .ok (.iconst 0, 1) ∧ decode cL_word 16 = .ok (.ireturn, 1) ∧ decode cL_steps 0 = .ok (.aload_n 3, 1) ∧ decode cL_steps 1 = .ok (.iconst 0, 1) ∧ decode cL_steps 2 = .ok (.aload_n 0, 1) ∧ decode cL_steps 3 = .ok (.iload_n 1, 1) := by decide +kernel
theorem dL_word_9 : decode cL_word 9 = .ok (.goto 6, 3) := zdc_1013.1
theorem dL_word_12 : decode cL_word 12 = .ok (.astore_n 3, 1) := zdc_1013.2.1
theorem dL_word_13 : decode cL_word 13 = .ok (.iconst 1, 1) := zdc_1013.2.2.1
theorem dL_word_14 : decode cL_word 14 = .ok (.ireturn, 1) := zdc_1013.2.2.2.1
theorem dL_word_15 : decode cL_word 15 = .ok (.iconst 0, 1) := zdc_1013.2.2.2.2.1
theorem dL_word_16 : decode cL_word 16 = .ok (.ireturn, 1) := zdc_1013.2.2.2.2.2.1
theorem dL_steps_0 : decode cL_steps 0 = .ok (.aload_n 3, 1) := zdc_1013.2.2.2.2.2.2.1
theorem dL_steps_1 : decode cL_steps 1 = .ok (.iconst 0, 1) := zdc_1013.2.2.2.2.2.2.2.1
theorem dL_steps_2 : decode cL_steps 2 = .ok (.aload_n 0, 1) := zdc_1013.2.2.2.2.2.2.2.2.1
theorem dL_steps_3 : decode cL_steps 3 = .ok (.iload_n 1, 1) := zdc_1013.2.2.2.2.2.2.2.2.2
theorem zdc_1014 : decode cL_steps 4 = .ok (.iload_n 2, 1) ∧ decode cL_steps 5 = .ok (.invokevirtual 105, 3) ∧ decode cL_steps 8 = .ok (.i2l, 1) ∧ decode cL_steps 9 = .ok (.lastore, 1) ∧ decode cL_steps 10 = .ok (.goto 11, 3) ∧ decode cL_steps 13 = .ok (.astore 4, 2) ∧ decode cL_steps 15 = .ok (.iconst 1, 1) ∧ decode cL_steps 16 = .ok (.ireturn, 1) ∧ decode cL_steps 17 = .ok (.astore 4, 2) ∧ decode cL_steps 19 = .ok (.iconst 2, 1) := by decide +kernel
theorem dL_steps_4 : decode cL_steps 4 = .ok (.iload_n 2, 1) := zdc_1014.1
theorem dL_steps_5 : decode cL_steps 5 = .ok (.invokevirtual 105, 3) := zdc_1014.2.1
theorem dL_steps_8 : decode cL_steps 8 = .ok (.i2l, 1) := zdc_1014.2.2.1
theorem dL_steps_9 : decode cL_steps 9 = .ok (.lastore, 1) := zdc_1014.2.2.2.1
theorem dL_steps_10 : decode cL_steps 10 = .ok (.goto 11, 3) := zdc_1014.2.2.2.2.1
theorem dL_steps_13 : decode cL_steps 13 = .ok (.astore 4, 2) := zdc_1014.2.2.2.2.2.1
theorem dL_steps_15 : decode cL_steps 15 = .ok (.iconst 1, 1) := zdc_1014.2.2.2.2.2.2.1
theorem dL_steps_16 : decode cL_steps 16 = .ok (.ireturn, 1) := zdc_1014.2.2.2.2.2.2.2.1
theorem dL_steps_17 : decode cL_steps 17 = .ok (.astore 4, 2) := zdc_1014.2.2.2.2.2.2.2.2.1
theorem dL_steps_19 : decode cL_steps 19 = .ok (.iconst 2, 1) := zdc_1014.2.2.2.2.2.2.2.2.2
theorem zdc_1015 : decode cL_steps 20 = .ok (.ireturn, 1) ∧ decode cL_steps 21 = .ok (.iconst 0, 1) ∧ decode cL_steps 22 = .ok (.ireturn, 1) ∧ decode cL_rests 0 = .ok (.aload_n 3, 1) ∧ decode cL_rests 1 = .ok (.iconst 0, 1) ∧ decode cL_rests 2 = .ok (.aload_n 0, 1) ∧ decode cL_rests 3 = .ok (.iload_n 1, 1) ∧ decode cL_rests 4 = .ok (.iload_n 2, 1) ∧ decode cL_rests 5 = .ok (.invokevirtual 108, 3) ∧ decode cL_rests 8 = .ok (.i2l, 1) := by decide +kernel
theorem dL_steps_20 : decode cL_steps 20 = .ok (.ireturn, 1) := zdc_1015.1
theorem dL_steps_21 : decode cL_steps 21 = .ok (.iconst 0, 1) := zdc_1015.2.1
theorem dL_steps_22 : decode cL_steps 22 = .ok (.ireturn, 1) := zdc_1015.2.2.1
theorem dL_rests_0 : decode cL_rests 0 = .ok (.aload_n 3, 1) := zdc_1015.2.2.2.1
theorem dL_rests_1 : decode cL_rests 1 = .ok (.iconst 0, 1) := zdc_1015.2.2.2.2.1
theorem dL_rests_2 : decode cL_rests 2 = .ok (.aload_n 0, 1) := zdc_1015.2.2.2.2.2.1
theorem dL_rests_3 : decode cL_rests 3 = .ok (.iload_n 1, 1) := zdc_1015.2.2.2.2.2.2.1
theorem dL_rests_4 : decode cL_rests 4 = .ok (.iload_n 2, 1) := zdc_1015.2.2.2.2.2.2.2.1
theorem dL_rests_5 : decode cL_rests 5 = .ok (.invokevirtual 108, 3) := zdc_1015.2.2.2.2.2.2.2.2.1
theorem dL_rests_8 : decode cL_rests 8 = .ok (.i2l, 1) := zdc_1015.2.2.2.2.2.2.2.2.2
theorem zdc_1016 : decode cL_rests 9 = .ok (.lastore, 1) ∧ decode cL_rests 10 = .ok (.goto 11, 3) ∧ decode cL_rests 13 = .ok (.astore 4, 2) ∧ decode cL_rests 15 = .ok (.iconst 1, 1) ∧ decode cL_rests 16 = .ok (.ireturn, 1) ∧ decode cL_rests 17 = .ok (.astore 4, 2) ∧ decode cL_rests 19 = .ok (.iconst 2, 1) ∧ decode cL_rests 20 = .ok (.ireturn, 1) ∧ decode cL_rests 21 = .ok (.iconst 0, 1) ∧ decode cL_rests 22 = .ok (.ireturn, 1) := by decide +kernel
theorem dL_rests_9 : decode cL_rests 9 = .ok (.lastore, 1) := zdc_1016.1
theorem dL_rests_10 : decode cL_rests 10 = .ok (.goto 11, 3) := zdc_1016.2.1
theorem dL_rests_13 : decode cL_rests 13 = .ok (.astore 4, 2) := zdc_1016.2.2.1
theorem dL_rests_15 : decode cL_rests 15 = .ok (.iconst 1, 1) := zdc_1016.2.2.2.1
theorem dL_rests_16 : decode cL_rests 16 = .ok (.ireturn, 1) := zdc_1016.2.2.2.2.1
theorem dL_rests_17 : decode cL_rests 17 = .ok (.astore 4, 2) := zdc_1016.2.2.2.2.2.1
theorem dL_rests_19 : decode cL_rests 19 = .ok (.iconst 2, 1) := zdc_1016.2.2.2.2.2.2.1
theorem dL_rests_20 : decode cL_rests 20 = .ok (.ireturn, 1) := zdc_1016.2.2.2.2.2.2.2.1
theorem dL_rests_21 : decode cL_rests 21 = .ok (.iconst 0, 1) := zdc_1016.2.2.2.2.2.2.2.2.1
theorem dL_rests_22 : decode cL_rests 22 = .ok (.ireturn, 1) := zdc_1016.2.2.2.2.2.2.2.2.2
theorem zdc_1017 : decode cL_last 0 = .ok (.aload_n 2, 1) ∧ decode cL_last 1 = .ok (.iconst 0, 1) ∧ decode cL_last 2 = .ok (.aload_n 0, 1) ∧ decode cL_last 3 = .ok (.iload_n 1, 1) ∧ decode cL_last 4 = .ok (.invokevirtual 111, 3) ∧ decode cL_last 7 = .ok (.i2l, 1) ∧ decode cL_last 8 = .ok (.lastore, 1) ∧ decode cL_last 9 = .ok (.goto 6, 3) ∧ decode cL_last 12 = .ok (.astore_n 3, 1) ∧ decode cL_last 13 = .ok (.iconst 1, 1) := by decide +kernel
theorem dL_last_0 : decode cL_last 0 = .ok (.aload_n 2, 1) := zdc_1017.1
theorem dL_last_1 : decode cL_last 1 = .ok (.iconst 0, 1) := zdc_1017.2.1
theorem dL_last_2 : decode cL_last 2 = .ok (.aload_n 0, 1) := zdc_1017.2.2.1
theorem dL_last_3 : decode cL_last 3 = .ok (.iload_n 1, 1) := zdc_1017.2.2.2.1
theorem dL_last_4 : decode cL_last 4 = .ok (.invokevirtual 111, 3) := zdc_1017.2.2.2.2.1
theorem dL_last_7 : decode cL_last 7 = .ok (.i2l, 1) := zdc_1017.2.2.2.2.2.1
theorem dL_last_8 : decode cL_last 8 = .ok (.lastore, 1) := zdc_1017.2.2.2.2.2.2.1
theorem dL_last_9 : decode cL_last 9 = .ok (.goto 6, 3) := zdc_1017.2.2.2.2.2.2.2.1
theorem dL_last_12 : decode cL_last 12 = .ok (.astore_n 3, 1) := zdc_1017.2.2.2.2.2.2.2.2.1
theorem dL_last_13 : decode cL_last 13 = .ok (.iconst 1, 1) := zdc_1017.2.2.2.2.2.2.2.2.2
theorem zdc_1018 : decode cL_last 14 = .ok (.ireturn, 1) ∧ decode cL_last 15 = .ok (.iconst 0, 1) ∧ decode cL_last 16 = .ok (.ireturn, 1) ∧ decode cL_trial 0 = .ok (.aload_n 3, 1) ∧ decode cL_trial 1 = .ok (.iconst 0, 1) ∧ decode cL_trial 2 = .ok (.aload_n 0, 1) ∧ decode cL_trial 3 = .ok (.iload_n 1, 1) ∧ decode cL_trial 4 = .ok (.iload_n 2, 1) ∧ decode cL_trial 5 = .ok (.invokevirtual 114, 3) ∧ decode cL_trial 8 = .ok (.i2l, 1) := by decide +kernel
theorem dL_last_14 : decode cL_last 14 = .ok (.ireturn, 1) := zdc_1018.1
theorem dL_last_15 : decode cL_last 15 = .ok (.iconst 0, 1) := zdc_1018.2.1
theorem dL_last_16 : decode cL_last 16 = .ok (.ireturn, 1) := zdc_1018.2.2.1
theorem dL_trial_0 : decode cL_trial 0 = .ok (.aload_n 3, 1) := zdc_1018.2.2.2.1
theorem dL_trial_1 : decode cL_trial 1 = .ok (.iconst 0, 1) := zdc_1018.2.2.2.2.1
theorem dL_trial_2 : decode cL_trial 2 = .ok (.aload_n 0, 1) := zdc_1018.2.2.2.2.2.1
theorem dL_trial_3 : decode cL_trial 3 = .ok (.iload_n 1, 1) := zdc_1018.2.2.2.2.2.2.1
theorem dL_trial_4 : decode cL_trial 4 = .ok (.iload_n 2, 1) := zdc_1018.2.2.2.2.2.2.2.1
theorem dL_trial_5 : decode cL_trial 5 = .ok (.invokevirtual 114, 3) := zdc_1018.2.2.2.2.2.2.2.2.1
theorem dL_trial_8 : decode cL_trial 8 = .ok (.i2l, 1) := zdc_1018.2.2.2.2.2.2.2.2.2
theorem zdc_1019 : decode cL_trial 9 = .ok (.lastore, 1) ∧ decode cL_trial 10 = .ok (.goto 7, 3) ∧ decode cL_trial 13 = .ok (.astore 4, 2) ∧ decode cL_trial 15 = .ok (.iconst 1, 1) ∧ decode cL_trial 16 = .ok (.ireturn, 1) ∧ decode cL_trial 17 = .ok (.iconst 0, 1) ∧ decode cL_trial 18 = .ok (.ireturn, 1) ∧ decode cL_span 0 = .ok (.aload_n 3, 1) ∧ decode cL_span 1 = .ok (.iconst 0, 1) ∧ decode cL_span 2 = .ok (.aload_n 0, 1) := by decide +kernel
theorem dL_trial_9 : decode cL_trial 9 = .ok (.lastore, 1) := zdc_1019.1
theorem dL_trial_10 : decode cL_trial 10 = .ok (.goto 7, 3) := zdc_1019.2.1
theorem dL_trial_13 : decode cL_trial 13 = .ok (.astore 4, 2) := zdc_1019.2.2.1
theorem dL_trial_15 : decode cL_trial 15 = .ok (.iconst 1, 1) := zdc_1019.2.2.2.1
theorem dL_trial_16 : decode cL_trial 16 = .ok (.ireturn, 1) := zdc_1019.2.2.2.2.1
theorem dL_trial_17 : decode cL_trial 17 = .ok (.iconst 0, 1) := zdc_1019.2.2.2.2.2.1
theorem dL_trial_18 : decode cL_trial 18 = .ok (.ireturn, 1) := zdc_1019.2.2.2.2.2.2.1
theorem dL_span_0 : decode cL_span 0 = .ok (.aload_n 3, 1) := zdc_1019.2.2.2.2.2.2.2.1
theorem dL_span_1 : decode cL_span 1 = .ok (.iconst 0, 1) := zdc_1019.2.2.2.2.2.2.2.2.1
theorem dL_span_2 : decode cL_span 2 = .ok (.aload_n 0, 1) := zdc_1019.2.2.2.2.2.2.2.2.2
theorem zdc_1020 : decode cL_span 3 = .ok (.iload_n 1, 1) ∧ decode cL_span 4 = .ok (.iload_n 2, 1) ∧ decode cL_span 5 = .ok (.invokevirtual 117, 3) ∧ decode cL_span 8 = .ok (.i2l, 1) ∧ decode cL_span 9 = .ok (.lastore, 1) ∧ decode cL_span 10 = .ok (.goto 7, 3) ∧ decode cL_span 13 = .ok (.astore 4, 2) ∧ decode cL_span 15 = .ok (.iconst 1, 1) ∧ decode cL_span 16 = .ok (.ireturn, 1) ∧ decode cL_span 17 = .ok (.iconst 0, 1) := by decide +kernel
theorem dL_span_3 : decode cL_span 3 = .ok (.iload_n 1, 1) := zdc_1020.1
theorem dL_span_4 : decode cL_span 4 = .ok (.iload_n 2, 1) := zdc_1020.2.1
theorem dL_span_5 : decode cL_span 5 = .ok (.invokevirtual 117, 3) := zdc_1020.2.2.1
theorem dL_span_8 : decode cL_span 8 = .ok (.i2l, 1) := zdc_1020.2.2.2.1
theorem dL_span_9 : decode cL_span 9 = .ok (.lastore, 1) := zdc_1020.2.2.2.2.1
theorem dL_span_10 : decode cL_span 10 = .ok (.goto 7, 3) := zdc_1020.2.2.2.2.2.1
theorem dL_span_13 : decode cL_span 13 = .ok (.astore 4, 2) := zdc_1020.2.2.2.2.2.2.1
theorem dL_span_15 : decode cL_span 15 = .ok (.iconst 1, 1) := zdc_1020.2.2.2.2.2.2.2.1
theorem dL_span_16 : decode cL_span 16 = .ok (.ireturn, 1) := zdc_1020.2.2.2.2.2.2.2.2.1
theorem dL_span_17 : decode cL_span 17 = .ok (.iconst 0, 1) := zdc_1020.2.2.2.2.2.2.2.2.2
theorem zdc_1021 : decode cL_span 18 = .ok (.ireturn, 1) ∧ decode cL_led 0 = .ok (.aload_n 3, 1) ∧ decode cL_led 1 = .ok (.iconst 0, 1) ∧ decode cL_led 2 = .ok (.aload_n 0, 1) ∧ decode cL_led 3 = .ok (.iload_n 1, 1) ∧ decode cL_led 4 = .ok (.iload_n 2, 1) ∧ decode cL_led 5 = .ok (.invokevirtual 120, 3) ∧ decode cL_led 8 = .ok (.i2l, 1) ∧ decode cL_led 9 = .ok (.lastore, 1) ∧ decode cL_led 10 = .ok (.goto 7, 3) := by decide +kernel
theorem dL_span_18 : decode cL_span 18 = .ok (.ireturn, 1) := zdc_1021.1
theorem dL_led_0 : decode cL_led 0 = .ok (.aload_n 3, 1) := zdc_1021.2.1
theorem dL_led_1 : decode cL_led 1 = .ok (.iconst 0, 1) := zdc_1021.2.2.1
theorem dL_led_2 : decode cL_led 2 = .ok (.aload_n 0, 1) := zdc_1021.2.2.2.1
theorem dL_led_3 : decode cL_led 3 = .ok (.iload_n 1, 1) := zdc_1021.2.2.2.2.1
theorem dL_led_4 : decode cL_led 4 = .ok (.iload_n 2, 1) := zdc_1021.2.2.2.2.2.1
theorem dL_led_5 : decode cL_led 5 = .ok (.invokevirtual 120, 3) := zdc_1021.2.2.2.2.2.2.1
theorem dL_led_8 : decode cL_led 8 = .ok (.i2l, 1) := zdc_1021.2.2.2.2.2.2.2.1
theorem dL_led_9 : decode cL_led 9 = .ok (.lastore, 1) := zdc_1021.2.2.2.2.2.2.2.2.1
theorem dL_led_10 : decode cL_led 10 = .ok (.goto 7, 3) := zdc_1021.2.2.2.2.2.2.2.2.2
theorem zdc_1022 : decode cL_led 13 = .ok (.astore 4, 2) ∧ decode cL_led 15 = .ok (.iconst 1, 1) ∧ decode cL_led 16 = .ok (.ireturn, 1) ∧ decode cL_led 17 = .ok (.iconst 0, 1) ∧ decode cL_led 18 = .ok (.ireturn, 1) ∧ decode cL_log 0 = .ok (.aload_n 3, 1) ∧ decode cL_log 1 = .ok (.iconst 0, 1) ∧ decode cL_log 2 = .ok (.aload_n 0, 1) ∧ decode cL_log 3 = .ok (.iload_n 1, 1) ∧ decode cL_log 4 = .ok (.iload_n 2, 1) := by decide +kernel
theorem dL_led_13 : decode cL_led 13 = .ok (.astore 4, 2) := zdc_1022.1
theorem dL_led_15 : decode cL_led 15 = .ok (.iconst 1, 1) := zdc_1022.2.1
theorem dL_led_16 : decode cL_led 16 = .ok (.ireturn, 1) := zdc_1022.2.2.1
theorem dL_led_17 : decode cL_led 17 = .ok (.iconst 0, 1) := zdc_1022.2.2.2.1
theorem dL_led_18 : decode cL_led 18 = .ok (.ireturn, 1) := zdc_1022.2.2.2.2.1
theorem dL_log_0 : decode cL_log 0 = .ok (.aload_n 3, 1) := zdc_1022.2.2.2.2.2.1
theorem dL_log_1 : decode cL_log 1 = .ok (.iconst 0, 1) := zdc_1022.2.2.2.2.2.2.1
theorem dL_log_2 : decode cL_log 2 = .ok (.aload_n 0, 1) := zdc_1022.2.2.2.2.2.2.2.1
theorem dL_log_3 : decode cL_log 3 = .ok (.iload_n 1, 1) := zdc_1022.2.2.2.2.2.2.2.2.1
theorem dL_log_4 : decode cL_log 4 = .ok (.iload_n 2, 1) := zdc_1022.2.2.2.2.2.2.2.2.2
theorem zdc_1023 : decode cL_log 5 = .ok (.invokevirtual 123, 3) ∧ decode cL_log 8 = .ok (.i2l, 1) ∧ decode cL_log 9 = .ok (.lastore, 1) ∧ decode cL_log 10 = .ok (.goto 7, 3) ∧ decode cL_log 13 = .ok (.astore 4, 2) ∧ decode cL_log 15 = .ok (.iconst 1, 1) ∧ decode cL_log 16 = .ok (.ireturn, 1) ∧ decode cL_log 17 = .ok (.iconst 0, 1) ∧ decode cL_log 18 = .ok (.ireturn, 1) := by decide +kernel
theorem dL_log_5 : decode cL_log 5 = .ok (.invokevirtual 123, 3) := zdc_1023.1
theorem dL_log_8 : decode cL_log 8 = .ok (.i2l, 1) := zdc_1023.2.1
theorem dL_log_9 : decode cL_log 9 = .ok (.lastore, 1) := zdc_1023.2.2.1
theorem dL_log_10 : decode cL_log 10 = .ok (.goto 7, 3) := zdc_1023.2.2.2.1
theorem dL_log_13 : decode cL_log 13 = .ok (.astore 4, 2) := zdc_1023.2.2.2.2.1
theorem dL_log_15 : decode cL_log 15 = .ok (.iconst 1, 1) := zdc_1023.2.2.2.2.2.1
theorem dL_log_16 : decode cL_log 16 = .ok (.ireturn, 1) := zdc_1023.2.2.2.2.2.2.1
theorem dL_log_17 : decode cL_log 17 = .ok (.iconst 0, 1) := zdc_1023.2.2.2.2.2.2.2.1
theorem dL_log_18 : decode cL_log 18 = .ok (.ireturn, 1) := zdc_1023.2.2.2.2.2.2.2.2
