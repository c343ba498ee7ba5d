/-! decode rows: a list of them is looked through at once -/
def zdk (c : ByteArray) (l : List (Nat × Instr × Nat)) : Bool := l.all fun q => decide (decode c q.1 = .ok q.2)
theorem zdk_g {c : ByteArray} {l : List (Nat × Instr × Nat)} (h : zdk c l = true) {i p : Nat} {x : Instr × Nat} (e : l[i]? = some (p, x)) : decode c p = .ok x := by
  have h1 := List.all_eq_true.mp h _ (List.mem_of_getElem? e)
  exact of_decide_eq_true h1
theorem zdc_0 : decode cX0_init 0 = .ok (.aload_n 0, 1) ∧ decode cX0_init 1 = .ok (.invokespecial 3, 3) ∧ decode cX0_init 4 = .ok (.aload_n 0, 1) ∧ decode cX0_init 5 = .ok (.new 9, 3) ∧ decode cX0_init 8 = .ok (.dup, 1) ∧ decode cX0_init 9 = .ok (.invokespecial 11, 3) ∧ decode cX0_init 12 = .ok (.putfield 12, 3) ∧ decode cX0_init 15 = .ok (.aload_n 0, 1) ∧ decode cX0_init 16 = .ok (.aload_n 1, 1) ∧ decode cX0_init 17 = .ok (.putfield 18, 3) := by decide +kernel
theorem dX0_init_0 : decode cX0_init 0 = .ok (.aload_n 0, 1) := zdc_0.1
theorem dX0_init_1 : decode cX0_init 1 = .ok (.invokespecial 3, 3) := zdc_0.2.1
theorem dX0_init_4 : decode cX0_init 4 = .ok (.aload_n 0, 1) := zdc_0.2.2.1
theorem dX0_init_5 : decode cX0_init 5 = .ok (.new 9, 3) := zdc_0.2.2.2.1
theorem dX0_init_8 : decode cX0_init 8 = .ok (.dup, 1) := zdc_0.2.2.2.2.1
theorem dX0_init_9 : decode cX0_init 9 = .ok (.invokespecial 11, 3) := zdc_0.2.2.2.2.2.1
theorem dX0_init_12 : decode cX0_init 12 = .ok (.putfield 12, 3) := zdc_0.2.2.2.2.2.2.1
theorem dX0_init_15 : decode cX0_init 15 = .ok (.aload_n 0, 1) := zdc_0.2.2.2.2.2.2.2.1
theorem dX0_init_16 : decode cX0_init 16 = .ok (.aload_n 1, 1) := zdc_0.2.2.2.2.2.2.2.2.1
theorem dX0_init_17 : decode cX0_init 17 = .ok (.putfield 18, 3) := zdc_0.2.2.2.2.2.2.2.2.2
theorem zdc_1 : decode cX0_init 20 = .ok (.aload_n 0, 1) ∧ decode cX0_init 21 = .ok (.aload_n 2, 1) ∧ decode cX0_init 22 = .ok (.putfield 21, 3) ∧ decode cX0_init 25 = .ok (.return_, 1) ∧ decode cX0_lookAhead 0 = .ok (.aload_n 0, 1) ∧ decode cX0_lookAhead 1 = .ok (.getfield 12, 3) ∧ decode cX0_lookAhead 4 = .ok (.aload_n 0, 1) ∧ decode cX0_lookAhead 5 = .ok (.getfield 18, 3) ∧ decode cX0_lookAhead 8 = .ok (.invokevirtual 25, 3) ∧ decode cX0_lookAhead 11 = .ok (.iconst 0, 1) := by decide +kernel
theorem dX0_init_20 : decode cX0_init 20 = .ok (.aload_n 0, 1) := zdc_1.1
theorem dX0_init_21 : decode cX0_init 21 = .ok (.aload_n 2, 1) := zdc_1.2.1
theorem dX0_init_22 : decode cX0_init 22 = .ok (.putfield 21, 3) := zdc_1.2.2.1
theorem dX0_init_25 : decode cX0_init 25 = .ok (.return_, 1) := zdc_1.2.2.2.1
theorem dX0_lookAhead_0 : decode cX0_lookAhead 0 = .ok (.aload_n 0, 1) := zdc_1.2.2.2.2.1
theorem dX0_lookAhead_1 : decode cX0_lookAhead 1 = .ok (.getfield 12, 3) := zdc_1.2.2.2.2.2.1
theorem dX0_lookAhead_4 : decode cX0_lookAhead 4 = .ok (.aload_n 0, 1) := zdc_1.2.2.2.2.2.2.1
theorem dX0_lookAhead_5 : decode cX0_lookAhead 5 = .ok (.getfield 18, 3) := zdc_1.2.2.2.2.2.2.2.1
theorem dX0_lookAhead_8 : decode cX0_lookAhead 8 = .ok (.invokevirtual 25, 3) := zdc_1.2.2.2.2.2.2.2.2.1
theorem dX0_lookAhead_11 : decode cX0_lookAhead 11 = .ok (.iconst 0, 1) := zdc_1.2.2.2.2.2.2.2.2.2
theorem zdc_2 : decode cX0_lookAhead 12 = .ok (.istore 4, 2) ∧ decode cX0_lookAhead 14 = .ok (.iload 4, 2) ∧ decode cX0_lookAhead 16 = .ok (.aload_n 0, 1) ∧ decode cX0_lookAhead 17 = .ok (.getfield 18, 3) ∧ decode cX0_lookAhead 20 = .ok (.getfield 29, 3) ∧ decode cX0_lookAhead 23 = .ok (.if_icmp .ge 28, 3) ∧ decode cX0_lookAhead 26 = .ok (.iload_n 1, 1) ∧ decode cX0_lookAhead 27 = .ok (.iload 4, 2) ∧ decode cX0_lookAhead 29 = .ok (.ishr, 1) ∧ decode cX0_lookAhead 30 = .ok (.iconst 1, 1) := by decide +kernel
theorem dX0_lookAhead_12 : decode cX0_lookAhead 12 = .ok (.istore 4, 2) := zdc_2.1
theorem dX0_lookAhead_14 : decode cX0_lookAhead 14 = .ok (.iload 4, 2) := zdc_2.2.1
theorem dX0_lookAhead_16 : decode cX0_lookAhead 16 = .ok (.aload_n 0, 1) := zdc_2.2.2.1
theorem dX0_lookAhead_17 : decode cX0_lookAhead 17 = .ok (.getfield 18, 3) := zdc_2.2.2.2.1
theorem dX0_lookAhead_20 : decode cX0_lookAhead 20 = .ok (.getfield 29, 3) := zdc_2.2.2.2.2.1
theorem dX0_lookAhead_23 : decode cX0_lookAhead 23 = .ok (.if_icmp .ge 28, 3) := zdc_2.2.2.2.2.2.1
theorem dX0_lookAhead_26 : decode cX0_lookAhead 26 = .ok (.iload_n 1, 1) := zdc_2.2.2.2.2.2.2.1
theorem dX0_lookAhead_27 : decode cX0_lookAhead 27 = .ok (.iload 4, 2) := zdc_2.2.2.2.2.2.2.2.1
theorem dX0_lookAhead_29 : decode cX0_lookAhead 29 = .ok (.ishr, 1) := zdc_2.2.2.2.2.2.2.2.2.1
theorem dX0_lookAhead_30 : decode cX0_lookAhead 30 = .ok (.iconst 1, 1) := zdc_2.2.2.2.2.2.2.2.2.2
theorem zdc_3 : decode cX0_lookAhead 31 = .ok (.iand, 1) ∧ decode cX0_lookAhead 32 = .ok (.ifCond .eq 13, 3) ∧ decode cX0_lookAhead 35 = .ok (.aload_n 0, 1) ∧ decode cX0_lookAhead 36 = .ok (.getfield 12, 3) ∧ decode cX0_lookAhead 39 = .ok (.iload 4, 2) ∧ decode cX0_lookAhead 41 = .ok (.iload_n 2, 1) ∧ decode cX0_lookAhead 42 = .ok (.invokevirtual 33, 3) ∧ decode cX0_lookAhead 45 = .ok (.iinc 4 1, 3) ∧ decode cX0_lookAhead 48 = .ok (.goto (-34), 3) ∧ decode cX0_lookAhead 51 = .ok (.iconst 0, 1) := by decide +kernel
theorem dX0_lookAhead_31 : decode cX0_lookAhead 31 = .ok (.iand, 1) := zdc_3.1
theorem dX0_lookAhead_32 : decode cX0_lookAhead 32 = .ok (.ifCond .eq 13, 3) := zdc_3.2.1
theorem dX0_lookAhead_35 : decode cX0_lookAhead 35 = .ok (.aload_n 0, 1) := zdc_3.2.2.1
theorem dX0_lookAhead_36 : decode cX0_lookAhead 36 = .ok (.getfield 12, 3) := zdc_3.2.2.2.1
theorem dX0_lookAhead_39 : decode cX0_lookAhead 39 = .ok (.iload 4, 2) := zdc_3.2.2.2.2.1
theorem dX0_lookAhead_41 : decode cX0_lookAhead 41 = .ok (.iload_n 2, 1) := zdc_3.2.2.2.2.2.1
theorem dX0_lookAhead_42 : decode cX0_lookAhead 42 = .ok (.invokevirtual 33, 3) := zdc_3.2.2.2.2.2.2.1
theorem dX0_lookAhead_45 : decode cX0_lookAhead 45 = .ok (.iinc 4 1, 3) := zdc_3.2.2.2.2.2.2.2.1
theorem dX0_lookAhead_48 : decode cX0_lookAhead 48 = .ok (.goto (-34), 3) := zdc_3.2.2.2.2.2.2.2.2.1
theorem dX0_lookAhead_51 : decode cX0_lookAhead 51 = .ok (.iconst 0, 1) := zdc_3.2.2.2.2.2.2.2.2.2
theorem zdc_4 : decode cX0_lookAhead 52 = .ok (.istore 4, 2) ∧ decode cX0_lookAhead 54 = .ok (.iload 4, 2) ∧ decode cX0_lookAhead 56 = .ok (.iload_n 3, 1) ∧ decode cX0_lookAhead 57 = .ok (.if_icmp .ge 23, 3) ∧ decode cX0_lookAhead 60 = .ok (.aload_n 0, 1) ∧ decode cX0_lookAhead 61 = .ok (.getfield 12, 3) ∧ decode cX0_lookAhead 64 = .ok (.aload_n 0, 1) ∧ decode cX0_lookAhead 65 = .ok (.getfield 21, 3) ∧ decode cX0_lookAhead 68 = .ok (.iconst 0, 1) ∧ decode cX0_lookAhead 69 = .ok (.aconst_null, 1) := by decide +kernel
theorem dX0_lookAhead_52 : decode cX0_lookAhead 52 = .ok (.istore 4, 2) := zdc_4.1
theorem dX0_lookAhead_54 : decode cX0_lookAhead 54 = .ok (.iload 4, 2) := zdc_4.2.1
theorem dX0_lookAhead_56 : decode cX0_lookAhead 56 = .ok (.iload_n 3, 1) := zdc_4.2.2.1
theorem dX0_lookAhead_57 : decode cX0_lookAhead 57 = .ok (.if_icmp .ge 23, 3) := zdc_4.2.2.2.1
theorem dX0_lookAhead_60 : decode cX0_lookAhead 60 = .ok (.aload_n 0, 1) := zdc_4.2.2.2.2.1
theorem dX0_lookAhead_61 : decode cX0_lookAhead 61 = .ok (.getfield 12, 3) := zdc_4.2.2.2.2.2.1
theorem dX0_lookAhead_64 : decode cX0_lookAhead 64 = .ok (.aload_n 0, 1) := zdc_4.2.2.2.2.2.2.1
theorem dX0_lookAhead_65 : decode cX0_lookAhead 65 = .ok (.getfield 21, 3) := zdc_4.2.2.2.2.2.2.2.1
theorem dX0_lookAhead_68 : decode cX0_lookAhead 68 = .ok (.iconst 0, 1) := zdc_4.2.2.2.2.2.2.2.2.1
theorem dX0_lookAhead_69 : decode cX0_lookAhead 69 = .ok (.aconst_null, 1) := zdc_4.2.2.2.2.2.2.2.2.2
theorem zdc_5 : decode cX0_lookAhead 70 = .ok (.invokevirtual 37, 3) ∧ decode cX0_lookAhead 73 = .ok (.pop, 1) ∧ decode cX0_lookAhead 74 = .ok (.iinc 4 1, 3) ∧ decode cX0_lookAhead 77 = .ok (.goto (-23), 3) ∧ decode cX0_lookAhead 80 = .ok (.aload_n 0, 1) ∧ decode cX0_lookAhead 81 = .ok (.getfield 12, 3) ∧ decode cX0_lookAhead 84 = .ok (.invokevirtual 41, 3) ∧ decode cX0_lookAhead 87 = .ok (.ireturn, 1) ∧ decode cX0_strongest 0 = .ok (.iconst (-1), 1) ∧ decode cX0_strongest 1 = .ok (.istore_n 2, 1) := by decide +kernel
theorem dX0_lookAhead_70 : decode cX0_lookAhead 70 = .ok (.invokevirtual 37, 3) := zdc_5.1
theorem dX0_lookAhead_73 : decode cX0_lookAhead 73 = .ok (.pop, 1) := zdc_5.2.1
theorem dX0_lookAhead_74 : decode cX0_lookAhead 74 = .ok (.iinc 4 1, 3) := zdc_5.2.2.1
theorem dX0_lookAhead_77 : decode cX0_lookAhead 77 = .ok (.goto (-23), 3) := zdc_5.2.2.2.1
theorem dX0_lookAhead_80 : decode cX0_lookAhead 80 = .ok (.aload_n 0, 1) := zdc_5.2.2.2.2.1
theorem dX0_lookAhead_81 : decode cX0_lookAhead 81 = .ok (.getfield 12, 3) := zdc_5.2.2.2.2.2.1
theorem dX0_lookAhead_84 : decode cX0_lookAhead 84 = .ok (.invokevirtual 41, 3) := zdc_5.2.2.2.2.2.2.1
theorem dX0_lookAhead_87 : decode cX0_lookAhead 87 = .ok (.ireturn, 1) := zdc_5.2.2.2.2.2.2.2.1
theorem dX0_strongest_0 : decode cX0_strongest 0 = .ok (.iconst (-1), 1) := zdc_5.2.2.2.2.2.2.2.2.1
theorem dX0_strongest_1 : decode cX0_strongest 1 = .ok (.istore_n 2, 1) := zdc_5.2.2.2.2.2.2.2.2.2
theorem zdc_6 : decode cX0_strongest 2 = .ok (.iconst 0, 1) ∧ decode cX0_strongest 3 = .ok (.istore_n 3, 1) ∧ decode cX0_strongest 4 = .ok (.iconst 0, 1) ∧ decode cX0_strongest 5 = .ok (.istore 4, 2) ∧ decode cX0_strongest 7 = .ok (.iload 4, 2) ∧ decode cX0_strongest 9 = .ok (.aload_n 0, 1) ∧ decode cX0_strongest 10 = .ok (.getfield 18, 3) ∧ decode cX0_strongest 13 = .ok (.getfield 29, 3) ∧ decode cX0_strongest 16 = .ok (.if_icmp .ge 51, 3) ∧ decode cX0_strongest 19 = .ok (.aload_n 0, 1) := by decide +kernel
theorem dX0_strongest_2 : decode cX0_strongest 2 = .ok (.iconst 0, 1) := zdc_6.1
theorem dX0_strongest_3 : decode cX0_strongest 3 = .ok (.istore_n 3, 1) := zdc_6.2.1
theorem dX0_strongest_4 : decode cX0_strongest 4 = .ok (.iconst 0, 1) := zdc_6.2.2.1
theorem dX0_strongest_5 : decode cX0_strongest 5 = .ok (.istore 4, 2) := zdc_6.2.2.2.1
theorem dX0_strongest_7 : decode cX0_strongest 7 = .ok (.iload 4, 2) := zdc_6.2.2.2.2.1
theorem dX0_strongest_9 : decode cX0_strongest 9 = .ok (.aload_n 0, 1) := zdc_6.2.2.2.2.2.1
theorem dX0_strongest_10 : decode cX0_strongest 10 = .ok (.getfield 18, 3) := zdc_6.2.2.2.2.2.2.1
theorem dX0_strongest_13 : decode cX0_strongest 13 = .ok (.getfield 29, 3) := zdc_6.2.2.2.2.2.2.2.1
theorem dX0_strongest_16 : decode cX0_strongest 16 = .ok (.if_icmp .ge 51, 3) := zdc_6.2.2.2.2.2.2.2.2.1
theorem dX0_strongest_19 : decode cX0_strongest 19 = .ok (.aload_n 0, 1) := zdc_6.2.2.2.2.2.2.2.2.2
theorem zdc_7 : decode cX0_strongest 20 = .ok (.getfield 18, 3) ∧ decode cX0_strongest 23 = .ok (.iload 4, 2) ∧ decode cX0_strongest 25 = .ok (.invokevirtual 45, 3) ∧ decode cX0_strongest 28 = .ok (.ifCond .eq 33, 3) ∧ decode cX0_strongest 31 = .ok (.aload_n 0, 1) ∧ decode cX0_strongest 32 = .ok (.iconst 1, 1) ∧ decode cX0_strongest 33 = .ok (.iload 4, 2) ∧ decode cX0_strongest 35 = .ok (.ishl, 1) ∧ decode cX0_strongest 36 = .ok (.bipush 10, 2) ∧ decode cX0_strongest 38 = .ok (.iload_n 1, 1) := by decide +kernel
theorem dX0_strongest_20 : decode cX0_strongest 20 = .ok (.getfield 18, 3) := zdc_7.1
theorem dX0_strongest_23 : decode cX0_strongest 23 = .ok (.iload 4, 2) := zdc_7.2.1
theorem dX0_strongest_25 : decode cX0_strongest 25 = .ok (.invokevirtual 45, 3) := zdc_7.2.2.1
theorem dX0_strongest_28 : decode cX0_strongest 28 = .ok (.ifCond .eq 33, 3) := zdc_7.2.2.2.1
theorem dX0_strongest_31 : decode cX0_strongest 31 = .ok (.aload_n 0, 1) := zdc_7.2.2.2.2.1
theorem dX0_strongest_32 : decode cX0_strongest 32 = .ok (.iconst 1, 1) := zdc_7.2.2.2.2.2.1
theorem dX0_strongest_33 : decode cX0_strongest 33 = .ok (.iload 4, 2) := zdc_7.2.2.2.2.2.2.1
theorem dX0_strongest_35 : decode cX0_strongest 35 = .ok (.ishl, 1) := zdc_7.2.2.2.2.2.2.2.1
theorem dX0_strongest_36 : decode cX0_strongest 36 = .ok (.bipush 10, 2) := zdc_7.2.2.2.2.2.2.2.2.1
theorem dX0_strongest_38 : decode cX0_strongest 38 = .ok (.iload_n 1, 1) := zdc_7.2.2.2.2.2.2.2.2.2
theorem zdc_8 : decode cX0_strongest 39 = .ok (.invokevirtual 49, 3) ∧ decode cX0_strongest 42 = .ok (.istore 5, 2) ∧ decode cX0_strongest 44 = .ok (.iload_n 2, 1) ∧ decode cX0_strongest 45 = .ok (.iconst (-1), 1) ∧ decode cX0_strongest 46 = .ok (.if_icmp .eq 9, 3) ∧ decode cX0_strongest 49 = .ok (.iload 5, 2) ∧ decode cX0_strongest 51 = .ok (.iload_n 3, 1) ∧ decode cX0_strongest 52 = .ok (.if_icmp .le 9, 3) ∧ decode cX0_strongest 55 = .ok (.iload 4, 2) ∧ decode cX0_strongest 57 = .ok (.istore_n 2, 1) := by decide +kernel
theorem dX0_strongest_39 : decode cX0_strongest 39 = .ok (.invokevirtual 49, 3) := zdc_8.1
theorem dX0_strongest_42 : decode cX0_strongest 42 = .ok (.istore 5, 2) := zdc_8.2.1
theorem dX0_strongest_44 : decode cX0_strongest 44 = .ok (.iload_n 2, 1) := zdc_8.2.2.1
theorem dX0_strongest_45 : decode cX0_strongest 45 = .ok (.iconst (-1), 1) := zdc_8.2.2.2.1
theorem dX0_strongest_46 : decode cX0_strongest 46 = .ok (.if_icmp .eq 9, 3) := zdc_8.2.2.2.2.1
theorem dX0_strongest_49 : decode cX0_strongest 49 = .ok (.iload 5, 2) := zdc_8.2.2.2.2.2.1
theorem dX0_strongest_51 : decode cX0_strongest 51 = .ok (.iload_n 3, 1) := zdc_8.2.2.2.2.2.2.1
theorem dX0_strongest_52 : decode cX0_strongest 52 = .ok (.if_icmp .le 9, 3) := zdc_8.2.2.2.2.2.2.2.1
theorem dX0_strongest_55 : decode cX0_strongest 55 = .ok (.iload 4, 2) := zdc_8.2.2.2.2.2.2.2.2.1
theorem dX0_strongest_57 : decode cX0_strongest 57 = .ok (.istore_n 2, 1) := zdc_8.2.2.2.2.2.2.2.2.2
theorem zdc_9 : decode cX0_strongest 58 = .ok (.iload 5, 2) ∧ decode cX0_strongest 60 = .ok (.istore_n 3, 1) ∧ decode cX0_strongest 61 = .ok (.iinc 4 1, 3) ∧ decode cX0_strongest 64 = .ok (.goto (-57), 3) ∧ decode cX0_strongest 67 = .ok (.iload_n 2, 1) ∧ decode cX0_strongest 68 = .ok (.ireturn, 1) ∧ decode cX0_fewestTold 0 = .ok (.aload_n 0, 1) ∧ decode cX0_fewestTold 1 = .ok (.getfield 18, 3) ∧ decode cX0_fewestTold 4 = .ok (.invokevirtual 53, 3) ∧ decode cX0_fewestTold 7 = .ok (.istore_n 3, 1) := by decide +kernel
theorem dX0_strongest_58 : decode cX0_strongest 58 = .ok (.iload 5, 2) := zdc_9.1
theorem dX0_strongest_60 : decode cX0_strongest 60 = .ok (.istore_n 3, 1) := zdc_9.2.1
theorem dX0_strongest_61 : decode cX0_strongest 61 = .ok (.iinc 4 1, 3) := zdc_9.2.2.1
theorem dX0_strongest_64 : decode cX0_strongest 64 = .ok (.goto (-57), 3) := zdc_9.2.2.2.1
theorem dX0_strongest_67 : decode cX0_strongest 67 = .ok (.iload_n 2, 1) := zdc_9.2.2.2.2.1
theorem dX0_strongest_68 : decode cX0_strongest 68 = .ok (.ireturn, 1) := zdc_9.2.2.2.2.2.1
theorem dX0_fewestTold_0 : decode cX0_fewestTold 0 = .ok (.aload_n 0, 1) := zdc_9.2.2.2.2.2.2.1
theorem dX0_fewestTold_1 : decode cX0_fewestTold 1 = .ok (.getfield 18, 3) := zdc_9.2.2.2.2.2.2.2.1
theorem dX0_fewestTold_4 : decode cX0_fewestTold 4 = .ok (.invokevirtual 53, 3) := zdc_9.2.2.2.2.2.2.2.2.1
theorem dX0_fewestTold_7 : decode cX0_fewestTold 7 = .ok (.istore_n 3, 1) := zdc_9.2.2.2.2.2.2.2.2.2
theorem zdc_10 : decode cX0_fewestTold 8 = .ok (.iconst 0, 1) ∧ decode cX0_fewestTold 9 = .ok (.istore 4, 2) ∧ decode cX0_fewestTold 11 = .ok (.iload 4, 2) ∧ decode cX0_fewestTold 13 = .ok (.aload_n 0, 1) ∧ decode cX0_fewestTold 14 = .ok (.getfield 18, 3) ∧ decode cX0_fewestTold 17 = .ok (.getfield 29, 3) ∧ decode cX0_fewestTold 20 = .ok (.if_icmp .gt 67, 3) ∧ decode cX0_fewestTold 23 = .ok (.iconst 0, 1) ∧ decode cX0_fewestTold 24 = .ok (.istore 5, 2) ∧ decode cX0_fewestTold 26 = .ok (.iload 5, 2) := by decide +kernel
theorem dX0_fewestTold_8 : decode cX0_fewestTold 8 = .ok (.iconst 0, 1) := zdc_10.1
theorem dX0_fewestTold_9 : decode cX0_fewestTold 9 = .ok (.istore 4, 2) := zdc_10.2.1
theorem dX0_fewestTold_11 : decode cX0_fewestTold 11 = .ok (.iload 4, 2) := zdc_10.2.2.1
theorem dX0_fewestTold_13 : decode cX0_fewestTold 13 = .ok (.aload_n 0, 1) := zdc_10.2.2.2.1
theorem dX0_fewestTold_14 : decode cX0_fewestTold 14 = .ok (.getfield 18, 3) := zdc_10.2.2.2.2.1
theorem dX0_fewestTold_17 : decode cX0_fewestTold 17 = .ok (.getfield 29, 3) := zdc_10.2.2.2.2.2.1
theorem dX0_fewestTold_20 : decode cX0_fewestTold 20 = .ok (.if_icmp .gt 67, 3) := zdc_10.2.2.2.2.2.2.1
theorem dX0_fewestTold_23 : decode cX0_fewestTold 23 = .ok (.iconst 0, 1) := zdc_10.2.2.2.2.2.2.2.1
theorem dX0_fewestTold_24 : decode cX0_fewestTold 24 = .ok (.istore 5, 2) := zdc_10.2.2.2.2.2.2.2.2.1
theorem dX0_fewestTold_26 : decode cX0_fewestTold 26 = .ok (.iload 5, 2) := zdc_10.2.2.2.2.2.2.2.2.2
theorem zdc_11 : decode cX0_fewestTold 28 = .ok (.iconst 1, 1) ∧ decode cX0_fewestTold 29 = .ok (.aload_n 0, 1) ∧ decode cX0_fewestTold 30 = .ok (.getfield 18, 3) ∧ decode cX0_fewestTold 33 = .ok (.getfield 29, 3) ∧ decode cX0_fewestTold 36 = .ok (.ishl, 1) ∧ decode cX0_fewestTold 37 = .ok (.if_icmp .ge 44, 3) ∧ decode cX0_fewestTold 40 = .ok (.iload 5, 2) ∧ decode cX0_fewestTold 42 = .ok (.invokestatic 56, 3) ∧ decode cX0_fewestTold 45 = .ok (.iload 4, 2) ∧ decode cX0_fewestTold 47 = .ok (.if_icmp .ne 28, 3) := by decide +kernel
theorem dX0_fewestTold_28 : decode cX0_fewestTold 28 = .ok (.iconst 1, 1) := zdc_11.1
theorem dX0_fewestTold_29 : decode cX0_fewestTold 29 = .ok (.aload_n 0, 1) := zdc_11.2.1
theorem dX0_fewestTold_30 : decode cX0_fewestTold 30 = .ok (.getfield 18, 3) := zdc_11.2.2.1
theorem dX0_fewestTold_33 : decode cX0_fewestTold 33 = .ok (.getfield 29, 3) := zdc_11.2.2.2.1
theorem dX0_fewestTold_36 : decode cX0_fewestTold 36 = .ok (.ishl, 1) := zdc_11.2.2.2.2.1
theorem dX0_fewestTold_37 : decode cX0_fewestTold 37 = .ok (.if_icmp .ge 44, 3) := zdc_11.2.2.2.2.2.1
theorem dX0_fewestTold_40 : decode cX0_fewestTold 40 = .ok (.iload 5, 2) := zdc_11.2.2.2.2.2.2.1
theorem dX0_fewestTold_42 : decode cX0_fewestTold 42 = .ok (.invokestatic 56, 3) := zdc_11.2.2.2.2.2.2.2.1
theorem dX0_fewestTold_45 : decode cX0_fewestTold 45 = .ok (.iload 4, 2) := zdc_11.2.2.2.2.2.2.2.2.1
theorem dX0_fewestTold_47 : decode cX0_fewestTold 47 = .ok (.if_icmp .ne 28, 3) := zdc_11.2.2.2.2.2.2.2.2.2
theorem zdc_12 : decode cX0_fewestTold 50 = .ok (.iload 5, 2) ∧ decode cX0_fewestTold 52 = .ok (.iload_n 3, 1) ∧ decode cX0_fewestTold 53 = .ok (.iconst (-1), 1) ∧ decode cX0_fewestTold 54 = .ok (.ixor, 1) ∧ decode cX0_fewestTold 55 = .ok (.iand, 1) ∧ decode cX0_fewestTold 56 = .ok (.ifCond .ne 19, 3) ∧ decode cX0_fewestTold 59 = .ok (.aload_n 0, 1) ∧ decode cX0_fewestTold 60 = .ok (.iload 5, 2) ∧ decode cX0_fewestTold 62 = .ok (.bipush 20, 2) ∧ decode cX0_fewestTold 64 = .ok (.iload_n 2, 1) := by decide +kernel
theorem dX0_fewestTold_50 : decode cX0_fewestTold 50 = .ok (.iload 5, 2) := zdc_12.1
theorem dX0_fewestTold_52 : decode cX0_fewestTold 52 = .ok (.iload_n 3, 1) := zdc_12.2.1
theorem dX0_fewestTold_53 : decode cX0_fewestTold 53 = .ok (.iconst (-1), 1) := zdc_12.2.2.1
theorem dX0_fewestTold_54 : decode cX0_fewestTold 54 = .ok (.ixor, 1) := zdc_12.2.2.2.1
theorem dX0_fewestTold_55 : decode cX0_fewestTold 55 = .ok (.iand, 1) := zdc_12.2.2.2.2.1
theorem dX0_fewestTold_56 : decode cX0_fewestTold 56 = .ok (.ifCond .ne 19, 3) := zdc_12.2.2.2.2.2.1
theorem dX0_fewestTold_59 : decode cX0_fewestTold 59 = .ok (.aload_n 0, 1) := zdc_12.2.2.2.2.2.2.1
theorem dX0_fewestTold_60 : decode cX0_fewestTold 60 = .ok (.iload 5, 2) := zdc_12.2.2.2.2.2.2.2.1
theorem dX0_fewestTold_62 : decode cX0_fewestTold 62 = .ok (.bipush 20, 2) := zdc_12.2.2.2.2.2.2.2.2.1
theorem dX0_fewestTold_64 : decode cX0_fewestTold 64 = .ok (.iload_n 2, 1) := zdc_12.2.2.2.2.2.2.2.2.2
theorem zdc_13 : decode cX0_fewestTold 65 = .ok (.invokevirtual 49, 3) ∧ decode cX0_fewestTold 68 = .ok (.iload_n 1, 1) ∧ decode cX0_fewestTold 69 = .ok (.if_icmp .lt 6, 3) ∧ decode cX0_fewestTold 72 = .ok (.iload 5, 2) ∧ decode cX0_fewestTold 74 = .ok (.ireturn, 1) ∧ decode cX0_fewestTold 75 = .ok (.iinc 5 1, 3) ∧ decode cX0_fewestTold 78 = .ok (.goto (-52), 3) ∧ decode cX0_fewestTold 81 = .ok (.iinc 4 1, 3) ∧ decode cX0_fewestTold 84 = .ok (.goto (-73), 3) ∧ decode cX0_fewestTold 87 = .ok (.iconst (-1), 1) := by decide +kernel
theorem dX0_fewestTold_65 : decode cX0_fewestTold 65 = .ok (.invokevirtual 49, 3) := zdc_13.1
theorem dX0_fewestTold_68 : decode cX0_fewestTold 68 = .ok (.iload_n 1, 1) := zdc_13.2.1
theorem dX0_fewestTold_69 : decode cX0_fewestTold 69 = .ok (.if_icmp .lt 6, 3) := zdc_13.2.2.1
theorem dX0_fewestTold_72 : decode cX0_fewestTold 72 = .ok (.iload 5, 2) := zdc_13.2.2.2.1
theorem dX0_fewestTold_74 : decode cX0_fewestTold 74 = .ok (.ireturn, 1) := zdc_13.2.2.2.2.1
theorem dX0_fewestTold_75 : decode cX0_fewestTold 75 = .ok (.iinc 5 1, 3) := zdc_13.2.2.2.2.2.1
theorem dX0_fewestTold_78 : decode cX0_fewestTold 78 = .ok (.goto (-52), 3) := zdc_13.2.2.2.2.2.2.1
theorem dX0_fewestTold_81 : decode cX0_fewestTold 81 = .ok (.iinc 4 1, 3) := zdc_13.2.2.2.2.2.2.2.1
theorem dX0_fewestTold_84 : decode cX0_fewestTold 84 = .ok (.goto (-73), 3) := zdc_13.2.2.2.2.2.2.2.2.1
theorem dX0_fewestTold_87 : decode cX0_fewestTold 87 = .ok (.iconst (-1), 1) := zdc_13.2.2.2.2.2.2.2.2.2
theorem zdc_14 : decode cX0_fewestTold 88 = .ok (.ireturn, 1) ∧ decode cX0_firstBelieved 0 = .ok (.aload_n 0, 1) ∧ decode cX0_firstBelieved 1 = .ok (.getfield 12, 3) ∧ decode cX0_firstBelieved 4 = .ok (.aload_n 0, 1) ∧ decode cX0_firstBelieved 5 = .ok (.getfield 18, 3) ∧ decode cX0_firstBelieved 8 = .ok (.invokevirtual 25, 3) ∧ decode cX0_firstBelieved 11 = .ok (.iconst 0, 1) ∧ decode cX0_firstBelieved 12 = .ok (.istore_n 2, 1) ∧ decode cX0_firstBelieved 13 = .ok (.iload_n 2, 1) ∧ decode cX0_firstBelieved 14 = .ok (.bipush 100, 2) := by decide +kernel
theorem dX0_fewestTold_88 : decode cX0_fewestTold 88 = .ok (.ireturn, 1) := zdc_14.1
theorem dX0_firstBelieved_0 : decode cX0_firstBelieved 0 = .ok (.aload_n 0, 1) := zdc_14.2.1
theorem dX0_firstBelieved_1 : decode cX0_firstBelieved 1 = .ok (.getfield 12, 3) := zdc_14.2.2.1
theorem dX0_firstBelieved_4 : decode cX0_firstBelieved 4 = .ok (.aload_n 0, 1) := zdc_14.2.2.2.1
theorem dX0_firstBelieved_5 : decode cX0_firstBelieved 5 = .ok (.getfield 18, 3) := zdc_14.2.2.2.2.1
theorem dX0_firstBelieved_8 : decode cX0_firstBelieved 8 = .ok (.invokevirtual 25, 3) := zdc_14.2.2.2.2.2.1
theorem dX0_firstBelieved_11 : decode cX0_firstBelieved 11 = .ok (.iconst 0, 1) := zdc_14.2.2.2.2.2.2.1
theorem dX0_firstBelieved_12 : decode cX0_firstBelieved 12 = .ok (.istore_n 2, 1) := zdc_14.2.2.2.2.2.2.2.1
theorem dX0_firstBelieved_13 : decode cX0_firstBelieved 13 = .ok (.iload_n 2, 1) := zdc_14.2.2.2.2.2.2.2.2.1
theorem dX0_firstBelieved_14 : decode cX0_firstBelieved 14 = .ok (.bipush 100, 2) := zdc_14.2.2.2.2.2.2.2.2.2
theorem zdc_15 : decode cX0_firstBelieved 16 = .ok (.if_icmp .gt 36, 3) ∧ decode cX0_firstBelieved 19 = .ok (.aload_n 0, 1) ∧ decode cX0_firstBelieved 20 = .ok (.getfield 12, 3) ∧ decode cX0_firstBelieved 23 = .ok (.invokevirtual 41, 3) ∧ decode cX0_firstBelieved 26 = .ok (.iload_n 1, 1) ∧ decode cX0_firstBelieved 27 = .ok (.if_icmp .lt 5, 3) ∧ decode cX0_firstBelieved 30 = .ok (.iload_n 2, 1) ∧ decode cX0_firstBelieved 31 = .ok (.ireturn, 1) ∧ decode cX0_firstBelieved 32 = .ok (.aload_n 0, 1) ∧ decode cX0_firstBelieved 33 = .ok (.getfield 12, 3) := by decide +kernel
theorem dX0_firstBelieved_16 : decode cX0_firstBelieved 16 = .ok (.if_icmp .gt 36, 3) := zdc_15.1
theorem dX0_firstBelieved_19 : decode cX0_firstBelieved 19 = .ok (.aload_n 0, 1) := zdc_15.2.1
theorem dX0_firstBelieved_20 : decode cX0_firstBelieved 20 = .ok (.getfield 12, 3) := zdc_15.2.2.1
theorem dX0_firstBelieved_23 : decode cX0_firstBelieved 23 = .ok (.invokevirtual 41, 3) := zdc_15.2.2.2.1
theorem dX0_firstBelieved_26 : decode cX0_firstBelieved 26 = .ok (.iload_n 1, 1) := zdc_15.2.2.2.2.1
theorem dX0_firstBelieved_27 : decode cX0_firstBelieved 27 = .ok (.if_icmp .lt 5, 3) := zdc_15.2.2.2.2.2.1
theorem dX0_firstBelieved_30 : decode cX0_firstBelieved 30 = .ok (.iload_n 2, 1) := zdc_15.2.2.2.2.2.2.1
theorem dX0_firstBelieved_31 : decode cX0_firstBelieved 31 = .ok (.ireturn, 1) := zdc_15.2.2.2.2.2.2.2.1
theorem dX0_firstBelieved_32 : decode cX0_firstBelieved 32 = .ok (.aload_n 0, 1) := zdc_15.2.2.2.2.2.2.2.2.1
theorem dX0_firstBelieved_33 : decode cX0_firstBelieved 33 = .ok (.getfield 12, 3) := zdc_15.2.2.2.2.2.2.2.2.2
theorem zdc_16 : decode cX0_firstBelieved 36 = .ok (.aload_n 0, 1) ∧ decode cX0_firstBelieved 37 = .ok (.getfield 21, 3) ∧ decode cX0_firstBelieved 40 = .ok (.iconst 0, 1) ∧ decode cX0_firstBelieved 41 = .ok (.aconst_null, 1) ∧ decode cX0_firstBelieved 42 = .ok (.invokevirtual 37, 3) ∧ decode cX0_firstBelieved 45 = .ok (.pop, 1) ∧ decode cX0_firstBelieved 46 = .ok (.iinc 2 1, 3) ∧ decode cX0_firstBelieved 49 = .ok (.goto (-36), 3) ∧ decode cX0_firstBelieved 52 = .ok (.iconst (-1), 1) ∧ decode cX0_firstBelieved 53 = .ok (.ireturn, 1) := by decide +kernel
theorem dX0_firstBelieved_36 : decode cX0_firstBelieved 36 = .ok (.aload_n 0, 1) := zdc_16.1
theorem dX0_firstBelieved_37 : decode cX0_firstBelieved 37 = .ok (.getfield 21, 3) := zdc_16.2.1
theorem dX0_firstBelieved_40 : decode cX0_firstBelieved 40 = .ok (.iconst 0, 1) := zdc_16.2.2.1
theorem dX0_firstBelieved_41 : decode cX0_firstBelieved 41 = .ok (.aconst_null, 1) := zdc_16.2.2.2.1
theorem dX0_firstBelieved_42 : decode cX0_firstBelieved 42 = .ok (.invokevirtual 37, 3) := zdc_16.2.2.2.2.1
theorem dX0_firstBelieved_45 : decode cX0_firstBelieved 45 = .ok (.pop, 1) := zdc_16.2.2.2.2.2.1
theorem dX0_firstBelieved_46 : decode cX0_firstBelieved 46 = .ok (.iinc 2 1, 3) := zdc_16.2.2.2.2.2.2.1
theorem dX0_firstBelieved_49 : decode cX0_firstBelieved 49 = .ok (.goto (-36), 3) := zdc_16.2.2.2.2.2.2.2.1
theorem dX0_firstBelieved_52 : decode cX0_firstBelieved 52 = .ok (.iconst (-1), 1) := zdc_16.2.2.2.2.2.2.2.2.1
theorem dX0_firstBelieved_53 : decode cX0_firstBelieved 53 = .ok (.ireturn, 1) := zdc_16.2.2.2.2.2.2.2.2.2
theorem zdc_17 : decode cX0_firstRuin 0 = .ok (.aload_n 0, 1) ∧ decode cX0_firstRuin 1 = .ok (.getfield 12, 3) ∧ decode cX0_firstRuin 4 = .ok (.aload_n 0, 1) ∧ decode cX0_firstRuin 5 = .ok (.getfield 18, 3) ∧ decode cX0_firstRuin 8 = .ok (.invokevirtual 25, 3) ∧ decode cX0_firstRuin 11 = .ok (.iconst 0, 1) ∧ decode cX0_firstRuin 12 = .ok (.istore_n 1, 1) ∧ decode cX0_firstRuin 13 = .ok (.iload_n 1, 1) ∧ decode cX0_firstRuin 14 = .ok (.bipush 100, 2) ∧ decode cX0_firstRuin 16 = .ok (.if_icmp .gt 35, 3) := by decide +kernel
theorem dX0_firstRuin_0 : decode cX0_firstRuin 0 = .ok (.aload_n 0, 1) := zdc_17.1
theorem dX0_firstRuin_1 : decode cX0_firstRuin 1 = .ok (.getfield 12, 3) := zdc_17.2.1
theorem dX0_firstRuin_4 : decode cX0_firstRuin 4 = .ok (.aload_n 0, 1) := zdc_17.2.2.1
theorem dX0_firstRuin_5 : decode cX0_firstRuin 5 = .ok (.getfield 18, 3) := zdc_17.2.2.2.1
theorem dX0_firstRuin_8 : decode cX0_firstRuin 8 = .ok (.invokevirtual 25, 3) := zdc_17.2.2.2.2.1
theorem dX0_firstRuin_11 : decode cX0_firstRuin 11 = .ok (.iconst 0, 1) := zdc_17.2.2.2.2.2.1
theorem dX0_firstRuin_12 : decode cX0_firstRuin 12 = .ok (.istore_n 1, 1) := zdc_17.2.2.2.2.2.2.1
theorem dX0_firstRuin_13 : decode cX0_firstRuin 13 = .ok (.iload_n 1, 1) := zdc_17.2.2.2.2.2.2.2.1
theorem dX0_firstRuin_14 : decode cX0_firstRuin 14 = .ok (.bipush 100, 2) := zdc_17.2.2.2.2.2.2.2.2.1
theorem dX0_firstRuin_16 : decode cX0_firstRuin 16 = .ok (.if_icmp .gt 35, 3) := zdc_17.2.2.2.2.2.2.2.2.2
theorem zdc_18 : decode cX0_firstRuin 19 = .ok (.aload_n 0, 1) ∧ decode cX0_firstRuin 20 = .ok (.getfield 12, 3) ∧ decode cX0_firstRuin 23 = .ok (.invokevirtual 62, 3) ∧ decode cX0_firstRuin 26 = .ok (.ifCond .eq 5, 3) ∧ decode cX0_firstRuin 29 = .ok (.iload_n 1, 1) ∧ decode cX0_firstRuin 30 = .ok (.ireturn, 1) ∧ decode cX0_firstRuin 31 = .ok (.aload_n 0, 1) ∧ decode cX0_firstRuin 32 = .ok (.getfield 12, 3) ∧ decode cX0_firstRuin 35 = .ok (.aload_n 0, 1) ∧ decode cX0_firstRuin 36 = .ok (.getfield 21, 3) := by decide +kernel
theorem dX0_firstRuin_19 : decode cX0_firstRuin 19 = .ok (.aload_n 0, 1) := zdc_18.1
theorem dX0_firstRuin_20 : decode cX0_firstRuin 20 = .ok (.getfield 12, 3) := zdc_18.2.1
theorem dX0_firstRuin_23 : decode cX0_firstRuin 23 = .ok (.invokevirtual 62, 3) := zdc_18.2.2.1
theorem dX0_firstRuin_26 : decode cX0_firstRuin 26 = .ok (.ifCond .eq 5, 3) := zdc_18.2.2.2.1
theorem dX0_firstRuin_29 : decode cX0_firstRuin 29 = .ok (.iload_n 1, 1) := zdc_18.2.2.2.2.1
theorem dX0_firstRuin_30 : decode cX0_firstRuin 30 = .ok (.ireturn, 1) := zdc_18.2.2.2.2.2.1
theorem dX0_firstRuin_31 : decode cX0_firstRuin 31 = .ok (.aload_n 0, 1) := zdc_18.2.2.2.2.2.2.1
theorem dX0_firstRuin_32 : decode cX0_firstRuin 32 = .ok (.getfield 12, 3) := zdc_18.2.2.2.2.2.2.2.1
theorem dX0_firstRuin_35 : decode cX0_firstRuin 35 = .ok (.aload_n 0, 1) := zdc_18.2.2.2.2.2.2.2.2.1
theorem dX0_firstRuin_36 : decode cX0_firstRuin 36 = .ok (.getfield 21, 3) := zdc_18.2.2.2.2.2.2.2.2.2
theorem zdc_19 : decode cX0_firstRuin 39 = .ok (.iconst 0, 1) ∧ decode cX0_firstRuin 40 = .ok (.aconst_null, 1) ∧ decode cX0_firstRuin 41 = .ok (.invokevirtual 37, 3) ∧ decode cX0_firstRuin 44 = .ok (.pop, 1) ∧ decode cX0_firstRuin 45 = .ok (.iinc 1 1, 3) ∧ decode cX0_firstRuin 48 = .ok (.goto (-35), 3) ∧ decode cX0_firstRuin 51 = .ok (.iconst (-1), 1) ∧ decode cX0_firstRuin 52 = .ok (.ireturn, 1) ∧ decode cX0_firstFallen 0 = .ok (.aload_n 0, 1) ∧ decode cX0_firstFallen 1 = .ok (.getfield 12, 3) := by decide +kernel
theorem dX0_firstRuin_39 : decode cX0_firstRuin 39 = .ok (.iconst 0, 1) := zdc_19.1
theorem dX0_firstRuin_40 : decode cX0_firstRuin 40 = .ok (.aconst_null, 1) := zdc_19.2.1
theorem dX0_firstRuin_41 : decode cX0_firstRuin 41 = .ok (.invokevirtual 37, 3) := zdc_19.2.2.1
theorem dX0_firstRuin_44 : decode cX0_firstRuin 44 = .ok (.pop, 1) := zdc_19.2.2.2.1
theorem dX0_firstRuin_45 : decode cX0_firstRuin 45 = .ok (.iinc 1 1, 3) := zdc_19.2.2.2.2.1
theorem dX0_firstRuin_48 : decode cX0_firstRuin 48 = .ok (.goto (-35), 3) := zdc_19.2.2.2.2.2.1
theorem dX0_firstRuin_51 : decode cX0_firstRuin 51 = .ok (.iconst (-1), 1) := zdc_19.2.2.2.2.2.2.1
theorem dX0_firstRuin_52 : decode cX0_firstRuin 52 = .ok (.ireturn, 1) := zdc_19.2.2.2.2.2.2.2.1
theorem dX0_firstFallen_0 : decode cX0_firstFallen 0 = .ok (.aload_n 0, 1) := zdc_19.2.2.2.2.2.2.2.2.1
theorem dX0_firstFallen_1 : decode cX0_firstFallen 1 = .ok (.getfield 12, 3) := zdc_19.2.2.2.2.2.2.2.2.2
theorem zdc_20 : decode cX0_firstFallen 4 = .ok (.aload_n 0, 1) ∧ decode cX0_firstFallen 5 = .ok (.getfield 18, 3) ∧ decode cX0_firstFallen 8 = .ok (.invokevirtual 25, 3) ∧ decode cX0_firstFallen 11 = .ok (.iconst 0, 1) ∧ decode cX0_firstFallen 12 = .ok (.istore_n 2, 1) ∧ decode cX0_firstFallen 13 = .ok (.iload_n 2, 1) ∧ decode cX0_firstFallen 14 = .ok (.bipush 100, 2) ∧ decode cX0_firstFallen 16 = .ok (.if_icmp .gt 38, 3) ∧ decode cX0_firstFallen 19 = .ok (.aload_n 0, 1) ∧ decode cX0_firstFallen 20 = .ok (.getfield 12, 3) := by decide +kernel
theorem dX0_firstFallen_4 : decode cX0_firstFallen 4 = .ok (.aload_n 0, 1) := zdc_20.1
theorem dX0_firstFallen_5 : decode cX0_firstFallen 5 = .ok (.getfield 18, 3) := zdc_20.2.1
theorem dX0_firstFallen_8 : decode cX0_firstFallen 8 = .ok (.invokevirtual 25, 3) := zdc_20.2.2.1
theorem dX0_firstFallen_11 : decode cX0_firstFallen 11 = .ok (.iconst 0, 1) := zdc_20.2.2.2.1
theorem dX0_firstFallen_12 : decode cX0_firstFallen 12 = .ok (.istore_n 2, 1) := zdc_20.2.2.2.2.1
theorem dX0_firstFallen_13 : decode cX0_firstFallen 13 = .ok (.iload_n 2, 1) := zdc_20.2.2.2.2.2.1
theorem dX0_firstFallen_14 : decode cX0_firstFallen 14 = .ok (.bipush 100, 2) := zdc_20.2.2.2.2.2.2.1
theorem dX0_firstFallen_16 : decode cX0_firstFallen 16 = .ok (.if_icmp .gt 38, 3) := zdc_20.2.2.2.2.2.2.2.1
theorem dX0_firstFallen_19 : decode cX0_firstFallen 19 = .ok (.aload_n 0, 1) := zdc_20.2.2.2.2.2.2.2.2.1
theorem dX0_firstFallen_20 : decode cX0_firstFallen 20 = .ok (.getfield 12, 3) := zdc_20.2.2.2.2.2.2.2.2.2
theorem zdc_21 : decode cX0_firstFallen 23 = .ok (.getfield 66, 3) ∧ decode cX0_firstFallen 26 = .ok (.iload_n 1, 1) ∧ decode cX0_firstFallen 27 = .ok (.iaload, 1) ∧ decode cX0_firstFallen 28 = .ok (.iconst 2, 1) ∧ decode cX0_firstFallen 29 = .ok (.if_icmp .ne 5, 3) ∧ decode cX0_firstFallen 32 = .ok (.iload_n 2, 1) ∧ decode cX0_firstFallen 33 = .ok (.ireturn, 1) ∧ decode cX0_firstFallen 34 = .ok (.aload_n 0, 1) ∧ decode cX0_firstFallen 35 = .ok (.getfield 12, 3) ∧ decode cX0_firstFallen 38 = .ok (.aload_n 0, 1) := by decide +kernel
theorem dX0_firstFallen_23 : decode cX0_firstFallen 23 = .ok (.getfield 66, 3) := zdc_21.1
theorem dX0_firstFallen_26 : decode cX0_firstFallen 26 = .ok (.iload_n 1, 1) := zdc_21.2.1
theorem dX0_firstFallen_27 : decode cX0_firstFallen 27 = .ok (.iaload, 1) := zdc_21.2.2.1
theorem dX0_firstFallen_28 : decode cX0_firstFallen 28 = .ok (.iconst 2, 1) := zdc_21.2.2.2.1
theorem dX0_firstFallen_29 : decode cX0_firstFallen 29 = .ok (.if_icmp .ne 5, 3) := zdc_21.2.2.2.2.1
theorem dX0_firstFallen_32 : decode cX0_firstFallen 32 = .ok (.iload_n 2, 1) := zdc_21.2.2.2.2.2.1
theorem dX0_firstFallen_33 : decode cX0_firstFallen 33 = .ok (.ireturn, 1) := zdc_21.2.2.2.2.2.2.1
theorem dX0_firstFallen_34 : decode cX0_firstFallen 34 = .ok (.aload_n 0, 1) := zdc_21.2.2.2.2.2.2.2.1
theorem dX0_firstFallen_35 : decode cX0_firstFallen 35 = .ok (.getfield 12, 3) := zdc_21.2.2.2.2.2.2.2.2.1
theorem dX0_firstFallen_38 : decode cX0_firstFallen 38 = .ok (.aload_n 0, 1) := zdc_21.2.2.2.2.2.2.2.2.2
theorem zdc_22 : decode cX0_firstFallen 39 = .ok (.getfield 21, 3) ∧ decode cX0_firstFallen 42 = .ok (.iconst 0, 1) ∧ decode cX0_firstFallen 43 = .ok (.aconst_null, 1) ∧ decode cX0_firstFallen 44 = .ok (.invokevirtual 37, 3) ∧ decode cX0_firstFallen 47 = .ok (.pop, 1) ∧ decode cX0_firstFallen 48 = .ok (.iinc 2 1, 3) ∧ decode cX0_firstFallen 51 = .ok (.goto (-38), 3) ∧ decode cX0_firstFallen 54 = .ok (.iconst (-1), 1) ∧ decode cX0_firstFallen 55 = .ok (.ireturn, 1) ∧ decode cX0_greatestPrice 0 = .ok (.aload_n 0, 1) := by decide +kernel
theorem dX0_firstFallen_39 : decode cX0_firstFallen 39 = .ok (.getfield 21, 3) := zdc_22.1
theorem dX0_firstFallen_42 : decode cX0_firstFallen 42 = .ok (.iconst 0, 1) := zdc_22.2.1
theorem dX0_firstFallen_43 : decode cX0_firstFallen 43 = .ok (.aconst_null, 1) := zdc_22.2.2.1
theorem dX0_firstFallen_44 : decode cX0_firstFallen 44 = .ok (.invokevirtual 37, 3) := zdc_22.2.2.2.1
theorem dX0_firstFallen_47 : decode cX0_firstFallen 47 = .ok (.pop, 1) := zdc_22.2.2.2.2.1
theorem dX0_firstFallen_48 : decode cX0_firstFallen 48 = .ok (.iinc 2 1, 3) := zdc_22.2.2.2.2.2.1
theorem dX0_firstFallen_51 : decode cX0_firstFallen 51 = .ok (.goto (-38), 3) := zdc_22.2.2.2.2.2.2.1
theorem dX0_firstFallen_54 : decode cX0_firstFallen 54 = .ok (.iconst (-1), 1) := zdc_22.2.2.2.2.2.2.2.1
theorem dX0_firstFallen_55 : decode cX0_firstFallen 55 = .ok (.ireturn, 1) := zdc_22.2.2.2.2.2.2.2.2.1
theorem dX0_greatestPrice_0 : decode cX0_greatestPrice 0 = .ok (.aload_n 0, 1) := zdc_22.2.2.2.2.2.2.2.2.2
theorem zdc_23 : decode cX0_greatestPrice 1 = .ok (.getfield 12, 3) ∧ decode cX0_greatestPrice 4 = .ok (.aload_n 0, 1) ∧ decode cX0_greatestPrice 5 = .ok (.getfield 18, 3) ∧ decode cX0_greatestPrice 8 = .ok (.invokevirtual 25, 3) ∧ decode cX0_greatestPrice 11 = .ok (.iconst 0, 1) ∧ decode cX0_greatestPrice 12 = .ok (.istore_n 3, 1) ∧ decode cX0_greatestPrice 13 = .ok (.aload_n 0, 1) ∧ decode cX0_greatestPrice 14 = .ok (.getfield 12, 3) ∧ decode cX0_greatestPrice 17 = .ok (.invokevirtual 70, 3) ∧ decode cX0_greatestPrice 20 = .ok (.istore 4, 2) := by decide +kernel
theorem dX0_greatestPrice_1 : decode cX0_greatestPrice 1 = .ok (.getfield 12, 3) := zdc_23.1
theorem dX0_greatestPrice_4 : decode cX0_greatestPrice 4 = .ok (.aload_n 0, 1) := zdc_23.2.1
theorem dX0_greatestPrice_5 : decode cX0_greatestPrice 5 = .ok (.getfield 18, 3) := zdc_23.2.2.1
theorem dX0_greatestPrice_8 : decode cX0_greatestPrice 8 = .ok (.invokevirtual 25, 3) := zdc_23.2.2.2.1
theorem dX0_greatestPrice_11 : decode cX0_greatestPrice 11 = .ok (.iconst 0, 1) := zdc_23.2.2.2.2.1
theorem dX0_greatestPrice_12 : decode cX0_greatestPrice 12 = .ok (.istore_n 3, 1) := zdc_23.2.2.2.2.2.1
theorem dX0_greatestPrice_13 : decode cX0_greatestPrice 13 = .ok (.aload_n 0, 1) := zdc_23.2.2.2.2.2.2.1
theorem dX0_greatestPrice_14 : decode cX0_greatestPrice 14 = .ok (.getfield 12, 3) := zdc_23.2.2.2.2.2.2.2.1
theorem dX0_greatestPrice_17 : decode cX0_greatestPrice 17 = .ok (.invokevirtual 70, 3) := zdc_23.2.2.2.2.2.2.2.2.1
theorem dX0_greatestPrice_20 : decode cX0_greatestPrice 20 = .ok (.istore 4, 2) := zdc_23.2.2.2.2.2.2.2.2.2
theorem zdc_24 : decode cX0_greatestPrice 22 = .ok (.iconst 1, 1) ∧ decode cX0_greatestPrice 23 = .ok (.istore 5, 2) ∧ decode cX0_greatestPrice 25 = .ok (.iload 5, 2) ∧ decode cX0_greatestPrice 27 = .ok (.iload_n 1, 1) ∧ decode cX0_greatestPrice 28 = .ok (.if_icmp .gt 47, 3) ∧ decode cX0_greatestPrice 31 = .ok (.aload_n 0, 1) ∧ decode cX0_greatestPrice 32 = .ok (.getfield 12, 3) ∧ decode cX0_greatestPrice 35 = .ok (.aload_n 0, 1) ∧ decode cX0_greatestPrice 36 = .ok (.getfield 21, 3) ∧ decode cX0_greatestPrice 39 = .ok (.iconst 0, 1) := by decide +kernel
theorem dX0_greatestPrice_22 : decode cX0_greatestPrice 22 = .ok (.iconst 1, 1) := zdc_24.1
theorem dX0_greatestPrice_23 : decode cX0_greatestPrice 23 = .ok (.istore 5, 2) := zdc_24.2.1
theorem dX0_greatestPrice_25 : decode cX0_greatestPrice 25 = .ok (.iload 5, 2) := zdc_24.2.2.1
theorem dX0_greatestPrice_27 : decode cX0_greatestPrice 27 = .ok (.iload_n 1, 1) := zdc_24.2.2.2.1
theorem dX0_greatestPrice_28 : decode cX0_greatestPrice 28 = .ok (.if_icmp .gt 47, 3) := zdc_24.2.2.2.2.1
theorem dX0_greatestPrice_31 : decode cX0_greatestPrice 31 = .ok (.aload_n 0, 1) := zdc_24.2.2.2.2.2.1
theorem dX0_greatestPrice_32 : decode cX0_greatestPrice 32 = .ok (.getfield 12, 3) := zdc_24.2.2.2.2.2.2.1
theorem dX0_greatestPrice_35 : decode cX0_greatestPrice 35 = .ok (.aload_n 0, 1) := zdc_24.2.2.2.2.2.2.2.1
theorem dX0_greatestPrice_36 : decode cX0_greatestPrice 36 = .ok (.getfield 21, 3) := zdc_24.2.2.2.2.2.2.2.2.1
theorem dX0_greatestPrice_39 : decode cX0_greatestPrice 39 = .ok (.iconst 0, 1) := zdc_24.2.2.2.2.2.2.2.2.2
theorem zdc_25 : decode cX0_greatestPrice 40 = .ok (.aconst_null, 1) ∧ decode cX0_greatestPrice 41 = .ok (.invokevirtual 37, 3) ∧ decode cX0_greatestPrice 44 = .ok (.pop, 1) ∧ decode cX0_greatestPrice 45 = .ok (.aload_n 0, 1) ∧ decode cX0_greatestPrice 46 = .ok (.getfield 12, 3) ∧ decode cX0_greatestPrice 49 = .ok (.invokevirtual 70, 3) ∧ decode cX0_greatestPrice 52 = .ok (.iload 4, 2) ∧ decode cX0_greatestPrice 54 = .ok (.if_icmp .le 15, 3) ∧ decode cX0_greatestPrice 57 = .ok (.aload_n 0, 1) ∧ decode cX0_greatestPrice 58 = .ok (.getfield 12, 3) := by decide +kernel
theorem dX0_greatestPrice_40 : decode cX0_greatestPrice 40 = .ok (.aconst_null, 1) := zdc_25.1
theorem dX0_greatestPrice_41 : decode cX0_greatestPrice 41 = .ok (.invokevirtual 37, 3) := zdc_25.2.1
theorem dX0_greatestPrice_44 : decode cX0_greatestPrice 44 = .ok (.pop, 1) := zdc_25.2.2.1
theorem dX0_greatestPrice_45 : decode cX0_greatestPrice 45 = .ok (.aload_n 0, 1) := zdc_25.2.2.2.1
theorem dX0_greatestPrice_46 : decode cX0_greatestPrice 46 = .ok (.getfield 12, 3) := zdc_25.2.2.2.2.1
theorem dX0_greatestPrice_49 : decode cX0_greatestPrice 49 = .ok (.invokevirtual 70, 3) := zdc_25.2.2.2.2.2.1
theorem dX0_greatestPrice_52 : decode cX0_greatestPrice 52 = .ok (.iload 4, 2) := zdc_25.2.2.2.2.2.2.1
theorem dX0_greatestPrice_54 : decode cX0_greatestPrice 54 = .ok (.if_icmp .le 15, 3) := zdc_25.2.2.2.2.2.2.2.1
theorem dX0_greatestPrice_57 : decode cX0_greatestPrice 57 = .ok (.aload_n 0, 1) := zdc_25.2.2.2.2.2.2.2.2.1
theorem dX0_greatestPrice_58 : decode cX0_greatestPrice 58 = .ok (.getfield 12, 3) := zdc_25.2.2.2.2.2.2.2.2.2
theorem zdc_26 : decode cX0_greatestPrice 61 = .ok (.invokevirtual 70, 3) ∧ decode cX0_greatestPrice 64 = .ok (.istore 4, 2) ∧ decode cX0_greatestPrice 66 = .ok (.iload 5, 2) ∧ decode cX0_greatestPrice 68 = .ok (.istore_n 3, 1) ∧ decode cX0_greatestPrice 69 = .ok (.iinc 5 1, 3) ∧ decode cX0_greatestPrice 72 = .ok (.goto (-47), 3) ∧ decode cX0_greatestPrice 75 = .ok (.iload_n 2, 1) ∧ decode cX0_greatestPrice 76 = .ok (.ifCond .eq 8, 3) ∧ decode cX0_greatestPrice 79 = .ok (.iload 4, 2) ∧ decode cX0_greatestPrice 81 = .ok (.goto 4, 3) := by decide +kernel
theorem dX0_greatestPrice_61 : decode cX0_greatestPrice 61 = .ok (.invokevirtual 70, 3) := zdc_26.1
theorem dX0_greatestPrice_64 : decode cX0_greatestPrice 64 = .ok (.istore 4, 2) := zdc_26.2.1
theorem dX0_greatestPrice_66 : decode cX0_greatestPrice 66 = .ok (.iload 5, 2) := zdc_26.2.2.1
theorem dX0_greatestPrice_68 : decode cX0_greatestPrice 68 = .ok (.istore_n 3, 1) := zdc_26.2.2.2.1
theorem dX0_greatestPrice_69 : decode cX0_greatestPrice 69 = .ok (.iinc 5 1, 3) := zdc_26.2.2.2.2.1
theorem dX0_greatestPrice_72 : decode cX0_greatestPrice 72 = .ok (.goto (-47), 3) := zdc_26.2.2.2.2.2.1
theorem dX0_greatestPrice_75 : decode cX0_greatestPrice 75 = .ok (.iload_n 2, 1) := zdc_26.2.2.2.2.2.2.1
theorem dX0_greatestPrice_76 : decode cX0_greatestPrice 76 = .ok (.ifCond .eq 8, 3) := zdc_26.2.2.2.2.2.2.2.1
theorem dX0_greatestPrice_79 : decode cX0_greatestPrice 79 = .ok (.iload 4, 2) := zdc_26.2.2.2.2.2.2.2.2.1
theorem dX0_greatestPrice_81 : decode cX0_greatestPrice 81 = .ok (.goto 4, 3) := zdc_26.2.2.2.2.2.2.2.2.2
theorem zdc_27 : decode cX0_greatestPrice 84 = .ok (.iload_n 3, 1) ∧ decode cX0_greatestPrice 85 = .ok (.ireturn, 1) ∧ decode cX0_tryOut 0 = .ok (.aload_n 0, 1) ∧ decode cX0_tryOut 1 = .ok (.getfield 12, 3) ∧ decode cX0_tryOut 4 = .ok (.aload_n 0, 1) ∧ decode cX0_tryOut 5 = .ok (.getfield 18, 3) ∧ decode cX0_tryOut 8 = .ok (.invokevirtual 25, 3) ∧ decode cX0_tryOut 11 = .ok (.aload_n 0, 1) ∧ decode cX0_tryOut 12 = .ok (.getfield 12, 3) ∧ decode cX0_tryOut 15 = .ok (.iload_n 1, 1) := by decide +kernel
theorem dX0_greatestPrice_84 : decode cX0_greatestPrice 84 = .ok (.iload_n 3, 1) := zdc_27.1
theorem dX0_greatestPrice_85 : decode cX0_greatestPrice 85 = .ok (.ireturn, 1) := zdc_27.2.1
theorem dX0_tryOut_0 : decode cX0_tryOut 0 = .ok (.aload_n 0, 1) := zdc_27.2.2.1
theorem dX0_tryOut_1 : decode cX0_tryOut 1 = .ok (.getfield 12, 3) := zdc_27.2.2.2.1
theorem dX0_tryOut_4 : decode cX0_tryOut 4 = .ok (.aload_n 0, 1) := zdc_27.2.2.2.2.1
theorem dX0_tryOut_5 : decode cX0_tryOut 5 = .ok (.getfield 18, 3) := zdc_27.2.2.2.2.2.1
theorem dX0_tryOut_8 : decode cX0_tryOut 8 = .ok (.invokevirtual 25, 3) := zdc_27.2.2.2.2.2.2.1
theorem dX0_tryOut_11 : decode cX0_tryOut 11 = .ok (.aload_n 0, 1) := zdc_27.2.2.2.2.2.2.2.1
theorem dX0_tryOut_12 : decode cX0_tryOut 12 = .ok (.getfield 12, 3) := zdc_27.2.2.2.2.2.2.2.2.1
theorem dX0_tryOut_15 : decode cX0_tryOut 15 = .ok (.iload_n 1, 1) := zdc_27.2.2.2.2.2.2.2.2.2
theorem zdc_28 : decode cX0_tryOut 16 = .ok (.putfield 73, 3) ∧ decode cX0_tryOut 19 = .ok (.iconst 0, 1) ∧ decode cX0_tryOut 20 = .ok (.istore_n 3, 1) ∧ decode cX0_tryOut 21 = .ok (.iload_n 3, 1) ∧ decode cX0_tryOut 22 = .ok (.iload_n 2, 1) ∧ decode cX0_tryOut 23 = .ok (.if_icmp .ge 23, 3) ∧ decode cX0_tryOut 26 = .ok (.aload_n 0, 1) ∧ decode cX0_tryOut 27 = .ok (.getfield 12, 3) ∧ decode cX0_tryOut 30 = .ok (.aload_n 0, 1) ∧ decode cX0_tryOut 31 = .ok (.getfield 21, 3) := by decide +kernel
theorem dX0_tryOut_16 : decode cX0_tryOut 16 = .ok (.putfield 73, 3) := zdc_28.1
theorem dX0_tryOut_19 : decode cX0_tryOut 19 = .ok (.iconst 0, 1) := zdc_28.2.1
theorem dX0_tryOut_20 : decode cX0_tryOut 20 = .ok (.istore_n 3, 1) := zdc_28.2.2.1
theorem dX0_tryOut_21 : decode cX0_tryOut 21 = .ok (.iload_n 3, 1) := zdc_28.2.2.2.1
theorem dX0_tryOut_22 : decode cX0_tryOut 22 = .ok (.iload_n 2, 1) := zdc_28.2.2.2.2.1
theorem dX0_tryOut_23 : decode cX0_tryOut 23 = .ok (.if_icmp .ge 23, 3) := zdc_28.2.2.2.2.2.1
theorem dX0_tryOut_26 : decode cX0_tryOut 26 = .ok (.aload_n 0, 1) := zdc_28.2.2.2.2.2.2.1
theorem dX0_tryOut_27 : decode cX0_tryOut 27 = .ok (.getfield 12, 3) := zdc_28.2.2.2.2.2.2.2.1
theorem dX0_tryOut_30 : decode cX0_tryOut 30 = .ok (.aload_n 0, 1) := zdc_28.2.2.2.2.2.2.2.2.1
theorem dX0_tryOut_31 : decode cX0_tryOut 31 = .ok (.getfield 21, 3) := zdc_28.2.2.2.2.2.2.2.2.2
theorem zdc_29 : decode cX0_tryOut 34 = .ok (.iconst 1, 1) ∧ decode cX0_tryOut 35 = .ok (.aconst_null, 1) ∧ decode cX0_tryOut 36 = .ok (.invokevirtual 37, 3) ∧ decode cX0_tryOut 39 = .ok (.pop, 1) ∧ decode cX0_tryOut 40 = .ok (.iinc 3 1, 3) ∧ decode cX0_tryOut 43 = .ok (.goto (-22), 3) ∧ decode cX0_tryOut 46 = .ok (.aload_n 0, 1) ∧ decode cX0_tryOut 47 = .ok (.getfield 12, 3) ∧ decode cX0_tryOut 50 = .ok (.invokevirtual 41, 3) ∧ decode cX0_tryOut 53 = .ok (.ireturn, 1) := by decide +kernel
theorem dX0_tryOut_34 : decode cX0_tryOut 34 = .ok (.iconst 1, 1) := zdc_29.1
theorem dX0_tryOut_35 : decode cX0_tryOut 35 = .ok (.aconst_null, 1) := zdc_29.2.1
theorem dX0_tryOut_36 : decode cX0_tryOut 36 = .ok (.invokevirtual 37, 3) := zdc_29.2.2.1
theorem dX0_tryOut_39 : decode cX0_tryOut 39 = .ok (.pop, 1) := zdc_29.2.2.2.1
theorem dX0_tryOut_40 : decode cX0_tryOut 40 = .ok (.iinc 3 1, 3) := zdc_29.2.2.2.2.1
theorem dX0_tryOut_43 : decode cX0_tryOut 43 = .ok (.goto (-22), 3) := zdc_29.2.2.2.2.2.1
theorem dX0_tryOut_46 : decode cX0_tryOut 46 = .ok (.aload_n 0, 1) := zdc_29.2.2.2.2.2.2.1
theorem dX0_tryOut_47 : decode cX0_tryOut 47 = .ok (.getfield 12, 3) := zdc_29.2.2.2.2.2.2.2.1
theorem dX0_tryOut_50 : decode cX0_tryOut 50 = .ok (.invokevirtual 41, 3) := zdc_29.2.2.2.2.2.2.2.2.1
theorem dX0_tryOut_53 : decode cX0_tryOut 53 = .ok (.ireturn, 1) := zdc_29.2.2.2.2.2.2.2.2.2
theorem zdc_30 : decode cX0_utmostOfSeeds 0 = .ok (.iconst (-1), 1) ∧ decode cX0_utmostOfSeeds 1 = .ok (.istore_n 3, 1) ∧ decode cX0_utmostOfSeeds 2 = .ok (.iconst 1, 1) ∧ decode cX0_utmostOfSeeds 3 = .ok (.istore 4, 2) ∧ decode cX0_utmostOfSeeds 5 = .ok (.iload 4, 2) ∧ decode cX0_utmostOfSeeds 7 = .ok (.bipush 6, 2) ∧ decode cX0_utmostOfSeeds 9 = .ok (.if_icmp .gt 45, 3) ∧ decode cX0_utmostOfSeeds 12 = .ok (.aload_n 0, 1) ∧ decode cX0_utmostOfSeeds 13 = .ok (.iload 4, 2) ∧ decode cX0_utmostOfSeeds 15 = .ok (.iload_n 1, 1) := by decide +kernel
theorem dX0_utmostOfSeeds_0 : decode cX0_utmostOfSeeds 0 = .ok (.iconst (-1), 1) := zdc_30.1
theorem dX0_utmostOfSeeds_1 : decode cX0_utmostOfSeeds 1 = .ok (.istore_n 3, 1) := zdc_30.2.1
theorem dX0_utmostOfSeeds_2 : decode cX0_utmostOfSeeds 2 = .ok (.iconst 1, 1) := zdc_30.2.2.1
theorem dX0_utmostOfSeeds_3 : decode cX0_utmostOfSeeds 3 = .ok (.istore 4, 2) := zdc_30.2.2.2.1
theorem dX0_utmostOfSeeds_5 : decode cX0_utmostOfSeeds 5 = .ok (.iload 4, 2) := zdc_30.2.2.2.2.1
theorem dX0_utmostOfSeeds_7 : decode cX0_utmostOfSeeds 7 = .ok (.bipush 6, 2) := zdc_30.2.2.2.2.2.1
theorem dX0_utmostOfSeeds_9 : decode cX0_utmostOfSeeds 9 = .ok (.if_icmp .gt 45, 3) := zdc_30.2.2.2.2.2.2.1
theorem dX0_utmostOfSeeds_12 : decode cX0_utmostOfSeeds 12 = .ok (.aload_n 0, 1) := zdc_30.2.2.2.2.2.2.2.1
theorem dX0_utmostOfSeeds_13 : decode cX0_utmostOfSeeds 13 = .ok (.iload 4, 2) := zdc_30.2.2.2.2.2.2.2.2.1
theorem dX0_utmostOfSeeds_15 : decode cX0_utmostOfSeeds 15 = .ok (.iload_n 1, 1) := zdc_30.2.2.2.2.2.2.2.2.2
theorem zdc_31 : decode cX0_utmostOfSeeds 16 = .ok (.invokevirtual 76, 3) ∧ decode cX0_utmostOfSeeds 19 = .ok (.istore 5, 2) ∧ decode cX0_utmostOfSeeds 21 = .ok (.iload_n 3, 1) ∧ decode cX0_utmostOfSeeds 22 = .ok (.iconst (-1), 1) ∧ decode cX0_utmostOfSeeds 23 = .ok (.if_icmp .eq 22, 3) ∧ decode cX0_utmostOfSeeds 26 = .ok (.iload_n 2, 1) ∧ decode cX0_utmostOfSeeds 27 = .ok (.ifCond .eq 12, 3) ∧ decode cX0_utmostOfSeeds 30 = .ok (.iload 5, 2) ∧ decode cX0_utmostOfSeeds 32 = .ok (.iload_n 3, 1) ∧ decode cX0_utmostOfSeeds 33 = .ok (.if_icmp .le 15, 3) := by decide +kernel
theorem dX0_utmostOfSeeds_16 : decode cX0_utmostOfSeeds 16 = .ok (.invokevirtual 76, 3) := zdc_31.1
theorem dX0_utmostOfSeeds_19 : decode cX0_utmostOfSeeds 19 = .ok (.istore 5, 2) := zdc_31.2.1
theorem dX0_utmostOfSeeds_21 : decode cX0_utmostOfSeeds 21 = .ok (.iload_n 3, 1) := zdc_31.2.2.1
theorem dX0_utmostOfSeeds_22 : decode cX0_utmostOfSeeds 22 = .ok (.iconst (-1), 1) := zdc_31.2.2.2.1
theorem dX0_utmostOfSeeds_23 : decode cX0_utmostOfSeeds 23 = .ok (.if_icmp .eq 22, 3) := zdc_31.2.2.2.2.1
theorem dX0_utmostOfSeeds_26 : decode cX0_utmostOfSeeds 26 = .ok (.iload_n 2, 1) := zdc_31.2.2.2.2.2.1
theorem dX0_utmostOfSeeds_27 : decode cX0_utmostOfSeeds 27 = .ok (.ifCond .eq 12, 3) := zdc_31.2.2.2.2.2.2.1
theorem dX0_utmostOfSeeds_30 : decode cX0_utmostOfSeeds 30 = .ok (.iload 5, 2) := zdc_31.2.2.2.2.2.2.2.1
theorem dX0_utmostOfSeeds_32 : decode cX0_utmostOfSeeds 32 = .ok (.iload_n 3, 1) := zdc_31.2.2.2.2.2.2.2.2.1
theorem dX0_utmostOfSeeds_33 : decode cX0_utmostOfSeeds 33 = .ok (.if_icmp .le 15, 3) := zdc_31.2.2.2.2.2.2.2.2.2
theorem zdc_32 : decode cX0_utmostOfSeeds 36 = .ok (.goto 9, 3) ∧ decode cX0_utmostOfSeeds 39 = .ok (.iload 5, 2) ∧ decode cX0_utmostOfSeeds 41 = .ok (.iload_n 3, 1) ∧ decode cX0_utmostOfSeeds 42 = .ok (.if_icmp .ge 6, 3) ∧ decode cX0_utmostOfSeeds 45 = .ok (.iload 5, 2) ∧ decode cX0_utmostOfSeeds 47 = .ok (.istore_n 3, 1) ∧ decode cX0_utmostOfSeeds 48 = .ok (.iinc 4 1, 3) ∧ decode cX0_utmostOfSeeds 51 = .ok (.goto (-46), 3) ∧ decode cX0_utmostOfSeeds 54 = .ok (.iload_n 3, 1) ∧ decode cX0_utmostOfSeeds 55 = .ok (.ireturn, 1) := by decide +kernel
theorem dX0_utmostOfSeeds_36 : decode cX0_utmostOfSeeds 36 = .ok (.goto 9, 3) := zdc_32.1
theorem dX0_utmostOfSeeds_39 : decode cX0_utmostOfSeeds 39 = .ok (.iload 5, 2) := zdc_32.2.1
theorem dX0_utmostOfSeeds_41 : decode cX0_utmostOfSeeds 41 = .ok (.iload_n 3, 1) := zdc_32.2.2.1
theorem dX0_utmostOfSeeds_42 : decode cX0_utmostOfSeeds 42 = .ok (.if_icmp .ge 6, 3) := zdc_32.2.2.2.1
theorem dX0_utmostOfSeeds_45 : decode cX0_utmostOfSeeds 45 = .ok (.iload 5, 2) := zdc_32.2.2.2.2.1
theorem dX0_utmostOfSeeds_47 : decode cX0_utmostOfSeeds 47 = .ok (.istore_n 3, 1) := zdc_32.2.2.2.2.2.1
theorem dX0_utmostOfSeeds_48 : decode cX0_utmostOfSeeds 48 = .ok (.iinc 4 1, 3) := zdc_32.2.2.2.2.2.2.1
theorem dX0_utmostOfSeeds_51 : decode cX0_utmostOfSeeds 51 = .ok (.goto (-46), 3) := zdc_32.2.2.2.2.2.2.2.1
theorem dX0_utmostOfSeeds_54 : decode cX0_utmostOfSeeds 54 = .ok (.iload_n 3, 1) := zdc_32.2.2.2.2.2.2.2.2.1
theorem dX0_utmostOfSeeds_55 : decode cX0_utmostOfSeeds 55 = .ok (.ireturn, 1) := zdc_32.2.2.2.2.2.2.2.2.2
theorem zdc_33 : decode cX1_init 0 = .ok (.aload_n 0, 1) ∧ decode cX1_init 1 = .ok (.invokespecial 3, 3) ∧ decode cX1_init 4 = .ok (.aload_n 0, 1) ∧ decode cX1_init 5 = .ok (.sipush 400, 3) ∧ decode cX1_init 8 = .ok (.newarray .int, 2) ∧ decode cX1_init 10 = .ok (.putfield 9, 3) ∧ decode cX1_init 13 = .ok (.aload_n 0, 1) ∧ decode cX1_init 14 = .ok (.iconst (-1), 1) ∧ decode cX1_init 15 = .ok (.putfield 15, 3) ∧ decode cX1_init 18 = .ok (.return_, 1) := by decide +kernel
theorem dX1_init_0 : decode cX1_init 0 = .ok (.aload_n 0, 1) := zdc_33.1
theorem dX1_init_1 : decode cX1_init 1 = .ok (.invokespecial 3, 3) := zdc_33.2.1
theorem dX1_init_4 : decode cX1_init 4 = .ok (.aload_n 0, 1) := zdc_33.2.2.1
theorem dX1_init_5 : decode cX1_init 5 = .ok (.sipush 400, 3) := zdc_33.2.2.2.1
theorem dX1_init_8 : decode cX1_init 8 = .ok (.newarray .int, 2) := zdc_33.2.2.2.2.1
theorem dX1_init_10 : decode cX1_init 10 = .ok (.putfield 9, 3) := zdc_33.2.2.2.2.2.1
theorem dX1_init_13 : decode cX1_init 13 = .ok (.aload_n 0, 1) := zdc_33.2.2.2.2.2.2.1
theorem dX1_init_14 : decode cX1_init 14 = .ok (.iconst (-1), 1) := zdc_33.2.2.2.2.2.2.2.1
theorem dX1_init_15 : decode cX1_init 15 = .ok (.putfield 15, 3) := zdc_33.2.2.2.2.2.2.2.2.1
theorem dX1_init_18 : decode cX1_init 18 = .ok (.return_, 1) := zdc_33.2.2.2.2.2.2.2.2.2
theorem zdc_34 : decode cX1_clear 0 = .ok (.aload_n 0, 1) ∧ decode cX1_clear 1 = .ok (.iconst 0, 1) ∧ decode cX1_clear 2 = .ok (.putfield 19, 3) ∧ decode cX1_clear 5 = .ok (.aload_n 0, 1) ∧ decode cX1_clear 6 = .ok (.iconst (-1), 1) ∧ decode cX1_clear 7 = .ok (.putfield 15, 3) ∧ decode cX1_clear 10 = .ok (.return_, 1) ∧ decode cX1_copyFrom 0 = .ok (.aload_n 1, 1) ∧ decode cX1_copyFrom 1 = .ok (.getfield 9, 3) ∧ decode cX1_copyFrom 4 = .ok (.iconst 0, 1) := by decide +kernel
theorem dX1_clear_0 : decode cX1_clear 0 = .ok (.aload_n 0, 1) := zdc_34.1
theorem dX1_clear_1 : decode cX1_clear 1 = .ok (.iconst 0, 1) := zdc_34.2.1
theorem dX1_clear_2 : decode cX1_clear 2 = .ok (.putfield 19, 3) := zdc_34.2.2.1
theorem dX1_clear_5 : decode cX1_clear 5 = .ok (.aload_n 0, 1) := zdc_34.2.2.2.1
theorem dX1_clear_6 : decode cX1_clear 6 = .ok (.iconst (-1), 1) := zdc_34.2.2.2.2.1
theorem dX1_clear_7 : decode cX1_clear 7 = .ok (.putfield 15, 3) := zdc_34.2.2.2.2.2.1
theorem dX1_clear_10 : decode cX1_clear 10 = .ok (.return_, 1) := zdc_34.2.2.2.2.2.2.1
theorem dX1_copyFrom_0 : decode cX1_copyFrom 0 = .ok (.aload_n 1, 1) := zdc_34.2.2.2.2.2.2.2.1
theorem dX1_copyFrom_1 : decode cX1_copyFrom 1 = .ok (.getfield 9, 3) := zdc_34.2.2.2.2.2.2.2.2.1
theorem dX1_copyFrom_4 : decode cX1_copyFrom 4 = .ok (.iconst 0, 1) := zdc_34.2.2.2.2.2.2.2.2.2
theorem zdc_35 : decode cX1_copyFrom 5 = .ok (.aload_n 0, 1) ∧ decode cX1_copyFrom 6 = .ok (.getfield 9, 3) ∧ decode cX1_copyFrom 9 = .ok (.iconst 0, 1) ∧ decode cX1_copyFrom 10 = .ok (.sipush 400, 3) ∧ decode cX1_copyFrom 13 = .ok (.invokestatic 22, 3) ∧ decode cX1_copyFrom 16 = .ok (.aload_n 0, 1) ∧ decode cX1_copyFrom 17 = .ok (.aload_n 1, 1) ∧ decode cX1_copyFrom 18 = .ok (.getfield 19, 3) ∧ decode cX1_copyFrom 21 = .ok (.putfield 19, 3) ∧ decode cX1_copyFrom 24 = .ok (.aload_n 0, 1) := by decide +kernel
theorem dX1_copyFrom_5 : decode cX1_copyFrom 5 = .ok (.aload_n 0, 1) := zdc_35.1
theorem dX1_copyFrom_6 : decode cX1_copyFrom 6 = .ok (.getfield 9, 3) := zdc_35.2.1
theorem dX1_copyFrom_9 : decode cX1_copyFrom 9 = .ok (.iconst 0, 1) := zdc_35.2.2.1
theorem dX1_copyFrom_10 : decode cX1_copyFrom 10 = .ok (.sipush 400, 3) := zdc_35.2.2.2.1
theorem dX1_copyFrom_13 : decode cX1_copyFrom 13 = .ok (.invokestatic 22, 3) := zdc_35.2.2.2.2.1
theorem dX1_copyFrom_16 : decode cX1_copyFrom 16 = .ok (.aload_n 0, 1) := zdc_35.2.2.2.2.2.1
theorem dX1_copyFrom_17 : decode cX1_copyFrom 17 = .ok (.aload_n 1, 1) := zdc_35.2.2.2.2.2.2.1
theorem dX1_copyFrom_18 : decode cX1_copyFrom 18 = .ok (.getfield 19, 3) := zdc_35.2.2.2.2.2.2.2.1
theorem dX1_copyFrom_21 : decode cX1_copyFrom 21 = .ok (.putfield 19, 3) := zdc_35.2.2.2.2.2.2.2.2.1
theorem dX1_copyFrom_24 : decode cX1_copyFrom 24 = .ok (.aload_n 0, 1) := zdc_35.2.2.2.2.2.2.2.2.2
theorem zdc_36 : decode cX1_copyFrom 25 = .ok (.aload_n 1, 1) ∧ decode cX1_copyFrom 26 = .ok (.getfield 15, 3) ∧ decode cX1_copyFrom 29 = .ok (.putfield 15, 3) ∧ decode cX1_copyFrom 32 = .ok (.return_, 1) ∧ decode cX1_put 0 = .ok (.aload_n 0, 1) ∧ decode cX1_put 1 = .ok (.getfield 19, 3) ∧ decode cX1_put 4 = .ok (.sipush 400, 3) ∧ decode cX1_put 7 = .ok (.if_icmp .lt 5, 3) ∧ decode cX1_put 10 = .ok (.iconst (-1), 1) ∧ decode cX1_put 11 = .ok (.ireturn, 1) := by decide +kernel
theorem dX1_copyFrom_25 : decode cX1_copyFrom 25 = .ok (.aload_n 1, 1) := zdc_36.1
theorem dX1_copyFrom_26 : decode cX1_copyFrom 26 = .ok (.getfield 15, 3) := zdc_36.2.1
theorem dX1_copyFrom_29 : decode cX1_copyFrom 29 = .ok (.putfield 15, 3) := zdc_36.2.2.1
theorem dX1_copyFrom_32 : decode cX1_copyFrom 32 = .ok (.return_, 1) := zdc_36.2.2.2.1
theorem dX1_put_0 : decode cX1_put 0 = .ok (.aload_n 0, 1) := zdc_36.2.2.2.2.1
theorem dX1_put_1 : decode cX1_put 1 = .ok (.getfield 19, 3) := zdc_36.2.2.2.2.2.1
theorem dX1_put_4 : decode cX1_put 4 = .ok (.sipush 400, 3) := zdc_36.2.2.2.2.2.2.1
theorem dX1_put_7 : decode cX1_put 7 = .ok (.if_icmp .lt 5, 3) := zdc_36.2.2.2.2.2.2.2.1
theorem dX1_put_10 : decode cX1_put 10 = .ok (.iconst (-1), 1) := zdc_36.2.2.2.2.2.2.2.2.1
theorem dX1_put_11 : decode cX1_put 11 = .ok (.ireturn, 1) := zdc_36.2.2.2.2.2.2.2.2.2
theorem zdc_37 : decode cX1_put 12 = .ok (.aload_n 0, 1) ∧ decode cX1_put 13 = .ok (.getfield 9, 3) ∧ decode cX1_put 16 = .ok (.aload_n 0, 1) ∧ decode cX1_put 17 = .ok (.getfield 19, 3) ∧ decode cX1_put 20 = .ok (.iload_n 1, 1) ∧ decode cX1_put 21 = .ok (.bipush 32, 2) ∧ decode cX1_put 23 = .ok (.iload_n 2, 1) ∧ decode cX1_put 24 = .ok (.imul, 1) ∧ decode cX1_put 25 = .ok (.iadd, 1) ∧ decode cX1_put 26 = .ok (.iastore, 1) := by decide +kernel
theorem dX1_put_12 : decode cX1_put 12 = .ok (.aload_n 0, 1) := zdc_37.1
theorem dX1_put_13 : decode cX1_put 13 = .ok (.getfield 9, 3) := zdc_37.2.1
theorem dX1_put_16 : decode cX1_put 16 = .ok (.aload_n 0, 1) := zdc_37.2.2.1
theorem dX1_put_17 : decode cX1_put 17 = .ok (.getfield 19, 3) := zdc_37.2.2.2.1
theorem dX1_put_20 : decode cX1_put 20 = .ok (.iload_n 1, 1) := zdc_37.2.2.2.2.1
theorem dX1_put_21 : decode cX1_put 21 = .ok (.bipush 32, 2) := zdc_37.2.2.2.2.2.1
theorem dX1_put_23 : decode cX1_put 23 = .ok (.iload_n 2, 1) := zdc_37.2.2.2.2.2.2.1
theorem dX1_put_24 : decode cX1_put 24 = .ok (.imul, 1) := zdc_37.2.2.2.2.2.2.2.1
theorem dX1_put_25 : decode cX1_put 25 = .ok (.iadd, 1) := zdc_37.2.2.2.2.2.2.2.2.1
theorem dX1_put_26 : decode cX1_put 26 = .ok (.iastore, 1) := zdc_37.2.2.2.2.2.2.2.2.2
theorem zdc_38 : decode cX1_put 27 = .ok (.aload_n 0, 1) ∧ decode cX1_put 28 = .ok (.dup, 1) ∧ decode cX1_put 29 = .ok (.getfield 19, 3) ∧ decode cX1_put 32 = .ok (.iconst 1, 1) ∧ decode cX1_put 33 = .ok (.iadd, 1) ∧ decode cX1_put 34 = .ok (.putfield 19, 3) ∧ decode cX1_put 37 = .ok (.aload_n 0, 1) ∧ decode cX1_put 38 = .ok (.getfield 19, 3) ∧ decode cX1_put 41 = .ok (.iconst 1, 1) ∧ decode cX1_put 42 = .ok (.isub, 1) := by decide +kernel
theorem dX1_put_27 : decode cX1_put 27 = .ok (.aload_n 0, 1) := zdc_38.1
theorem dX1_put_28 : decode cX1_put 28 = .ok (.dup, 1) := zdc_38.2.1
theorem dX1_put_29 : decode cX1_put 29 = .ok (.getfield 19, 3) := zdc_38.2.2.1
theorem dX1_put_32 : decode cX1_put 32 = .ok (.iconst 1, 1) := zdc_38.2.2.2.1
theorem dX1_put_33 : decode cX1_put 33 = .ok (.iadd, 1) := zdc_38.2.2.2.2.1
theorem dX1_put_34 : decode cX1_put 34 = .ok (.putfield 19, 3) := zdc_38.2.2.2.2.2.1
theorem dX1_put_37 : decode cX1_put 37 = .ok (.aload_n 0, 1) := zdc_38.2.2.2.2.2.2.1
theorem dX1_put_38 : decode cX1_put 38 = .ok (.getfield 19, 3) := zdc_38.2.2.2.2.2.2.2.1
theorem dX1_put_41 : decode cX1_put 41 = .ok (.iconst 1, 1) := zdc_38.2.2.2.2.2.2.2.2.1
theorem dX1_put_42 : decode cX1_put 42 = .ok (.isub, 1) := zdc_38.2.2.2.2.2.2.2.2.2
theorem zdc_39 : decode cX1_put 43 = .ok (.ireturn, 1) ∧ decode cX1_aim 0 = .ok (.iload_n 1, 1) ∧ decode cX1_aim 1 = .ok (.ifCond .lt 34, 3) ∧ decode cX1_aim 4 = .ok (.iload_n 1, 1) ∧ decode cX1_aim 5 = .ok (.aload_n 0, 1) ∧ decode cX1_aim 6 = .ok (.getfield 19, 3) ∧ decode cX1_aim 9 = .ok (.if_icmp .ge 26, 3) ∧ decode cX1_aim 12 = .ok (.aload_n 0, 1) ∧ decode cX1_aim 13 = .ok (.getfield 9, 3) ∧ decode cX1_aim 16 = .ok (.iload_n 1, 1) := by decide +kernel
theorem dX1_put_43 : decode cX1_put 43 = .ok (.ireturn, 1) := zdc_39.1
theorem dX1_aim_0 : decode cX1_aim 0 = .ok (.iload_n 1, 1) := zdc_39.2.1
theorem dX1_aim_1 : decode cX1_aim 1 = .ok (.ifCond .lt 34, 3) := zdc_39.2.2.1
theorem dX1_aim_4 : decode cX1_aim 4 = .ok (.iload_n 1, 1) := zdc_39.2.2.2.1
theorem dX1_aim_5 : decode cX1_aim 5 = .ok (.aload_n 0, 1) := zdc_39.2.2.2.2.1
theorem dX1_aim_6 : decode cX1_aim 6 = .ok (.getfield 19, 3) := zdc_39.2.2.2.2.2.1
theorem dX1_aim_9 : decode cX1_aim 9 = .ok (.if_icmp .ge 26, 3) := zdc_39.2.2.2.2.2.2.1
theorem dX1_aim_12 : decode cX1_aim 12 = .ok (.aload_n 0, 1) := zdc_39.2.2.2.2.2.2.2.1
theorem dX1_aim_13 : decode cX1_aim 13 = .ok (.getfield 9, 3) := zdc_39.2.2.2.2.2.2.2.2.1
theorem dX1_aim_16 : decode cX1_aim 16 = .ok (.iload_n 1, 1) := zdc_39.2.2.2.2.2.2.2.2.2
theorem zdc_40 : decode cX1_aim 17 = .ok (.aload_n 0, 1) ∧ decode cX1_aim 18 = .ok (.getfield 9, 3) ∧ decode cX1_aim 21 = .ok (.iload_n 1, 1) ∧ decode cX1_aim 22 = .ok (.iaload, 1) ∧ decode cX1_aim 23 = .ok (.bipush 32, 2) ∧ decode cX1_aim 25 = .ok (.irem, 1) ∧ decode cX1_aim 26 = .ok (.bipush 32, 2) ∧ decode cX1_aim 28 = .ok (.aload_n 0, 1) ∧ decode cX1_aim 29 = .ok (.getfield 19, 3) ∧ decode cX1_aim 32 = .ok (.imul, 1) := by decide +kernel
theorem dX1_aim_17 : decode cX1_aim 17 = .ok (.aload_n 0, 1) := zdc_40.1
theorem dX1_aim_18 : decode cX1_aim 18 = .ok (.getfield 9, 3) := zdc_40.2.1
theorem dX1_aim_21 : decode cX1_aim 21 = .ok (.iload_n 1, 1) := zdc_40.2.2.1
theorem dX1_aim_22 : decode cX1_aim 22 = .ok (.iaload, 1) := zdc_40.2.2.2.1
theorem dX1_aim_23 : decode cX1_aim 23 = .ok (.bipush 32, 2) := zdc_40.2.2.2.2.1
theorem dX1_aim_25 : decode cX1_aim 25 = .ok (.irem, 1) := zdc_40.2.2.2.2.2.1
theorem dX1_aim_26 : decode cX1_aim 26 = .ok (.bipush 32, 2) := zdc_40.2.2.2.2.2.2.1
theorem dX1_aim_28 : decode cX1_aim 28 = .ok (.aload_n 0, 1) := zdc_40.2.2.2.2.2.2.2.1
theorem dX1_aim_29 : decode cX1_aim 29 = .ok (.getfield 19, 3) := zdc_40.2.2.2.2.2.2.2.2.1
theorem dX1_aim_32 : decode cX1_aim 32 = .ok (.imul, 1) := zdc_40.2.2.2.2.2.2.2.2.2
theorem zdc_41 : decode cX1_aim 33 = .ok (.iadd, 1) ∧ decode cX1_aim 34 = .ok (.iastore, 1) ∧ decode cX1_aim 35 = .ok (.return_, 1) ∧ decode cX1_look 0 = .ok (.aload_n 0, 1) ∧ decode cX1_look 1 = .ok (.iload_n 1, 1) ∧ decode cX1_look 2 = .ok (.putfield 28, 3) ∧ decode cX1_look 5 = .ok (.aload_n 0, 1) ∧ decode cX1_look 6 = .ok (.iload_n 2, 1) ∧ decode cX1_look 7 = .ok (.putfield 31, 3) ∧ decode cX1_look 10 = .ok (.aload_n 0, 1) := by decide +kernel
theorem dX1_aim_33 : decode cX1_aim 33 = .ok (.iadd, 1) := zdc_41.1
theorem dX1_aim_34 : decode cX1_aim 34 = .ok (.iastore, 1) := zdc_41.2.1
theorem dX1_aim_35 : decode cX1_aim 35 = .ok (.return_, 1) := zdc_41.2.2.1
theorem dX1_look_0 : decode cX1_look 0 = .ok (.aload_n 0, 1) := zdc_41.2.2.2.1
theorem dX1_look_1 : decode cX1_look 1 = .ok (.iload_n 1, 1) := zdc_41.2.2.2.2.1
theorem dX1_look_2 : decode cX1_look 2 = .ok (.putfield 28, 3) := zdc_41.2.2.2.2.2.1
theorem dX1_look_5 : decode cX1_look 5 = .ok (.aload_n 0, 1) := zdc_41.2.2.2.2.2.2.1
theorem dX1_look_6 : decode cX1_look 6 = .ok (.iload_n 2, 1) := zdc_41.2.2.2.2.2.2.2.1
theorem dX1_look_7 : decode cX1_look 7 = .ok (.putfield 31, 3) := zdc_41.2.2.2.2.2.2.2.2.1
theorem dX1_look_10 : decode cX1_look 10 = .ok (.aload_n 0, 1) := zdc_41.2.2.2.2.2.2.2.2.2
theorem zdc_42 : decode cX1_look 11 = .ok (.iload_n 3, 1) ∧ decode cX1_look 12 = .ok (.putfield 34, 3) ∧ decode cX1_look 15 = .ok (.return_, 1) ∧ decode cX1_turnsOf 0 = .ok (.aload_n 0, 1) ∧ decode cX1_turnsOf 1 = .ok (.getfield 15, 3) ∧ decode cX1_turnsOf 4 = .ok (.iconst (-1), 1) ∧ decode cX1_turnsOf 5 = .ok (.if_icmp .ne 18, 3) ∧ decode cX1_turnsOf 8 = .ok (.aload_n 1, 1) ∧ decode cX1_turnsOf 9 = .ok (.getfield 37, 3) ∧ decode cX1_turnsOf 12 = .ok (.iload_n 2, 1) := by decide +kernel
theorem dX1_look_11 : decode cX1_look 11 = .ok (.iload_n 3, 1) := zdc_42.1
theorem dX1_look_12 : decode cX1_look 12 = .ok (.putfield 34, 3) := zdc_42.2.1
theorem dX1_look_15 : decode cX1_look 15 = .ok (.return_, 1) := zdc_42.2.2.1
theorem dX1_turnsOf_0 : decode cX1_turnsOf 0 = .ok (.aload_n 0, 1) := zdc_42.2.2.2.1
theorem dX1_turnsOf_1 : decode cX1_turnsOf 1 = .ok (.getfield 15, 3) := zdc_42.2.2.2.2.1
theorem dX1_turnsOf_4 : decode cX1_turnsOf 4 = .ok (.iconst (-1), 1) := zdc_42.2.2.2.2.2.1
theorem dX1_turnsOf_5 : decode cX1_turnsOf 5 = .ok (.if_icmp .ne 18, 3) := zdc_42.2.2.2.2.2.2.1
theorem dX1_turnsOf_8 : decode cX1_turnsOf 8 = .ok (.aload_n 1, 1) := zdc_42.2.2.2.2.2.2.2.1
theorem dX1_turnsOf_9 : decode cX1_turnsOf 9 = .ok (.getfield 37, 3) := zdc_42.2.2.2.2.2.2.2.2.1
theorem dX1_turnsOf_12 : decode cX1_turnsOf 12 = .ok (.iload_n 2, 1) := zdc_42.2.2.2.2.2.2.2.2.2
theorem zdc_43 : decode cX1_turnsOf 13 = .ok (.baload, 1) ∧ decode cX1_turnsOf 14 = .ok (.ifCond .eq 7, 3) ∧ decode cX1_turnsOf 17 = .ok (.iconst (-1), 1) ∧ decode cX1_turnsOf 18 = .ok (.goto 4, 3) ∧ decode cX1_turnsOf 21 = .ok (.iconst 0, 1) ∧ decode cX1_turnsOf 22 = .ok (.ireturn, 1) ∧ decode cX1_turnsOf 23 = .ok (.iconst 0, 1) ∧ decode cX1_turnsOf 24 = .ok (.istore_n 3, 1) ∧ decode cX1_turnsOf 25 = .ok (.iconst 0, 1) ∧ decode cX1_turnsOf 26 = .ok (.istore 4, 2) := by decide +kernel
theorem dX1_turnsOf_13 : decode cX1_turnsOf 13 = .ok (.baload, 1) := zdc_43.1
theorem dX1_turnsOf_14 : decode cX1_turnsOf 14 = .ok (.ifCond .eq 7, 3) := zdc_43.2.1
theorem dX1_turnsOf_17 : decode cX1_turnsOf 17 = .ok (.iconst (-1), 1) := zdc_43.2.2.1
theorem dX1_turnsOf_18 : decode cX1_turnsOf 18 = .ok (.goto 4, 3) := zdc_43.2.2.2.1
theorem dX1_turnsOf_21 : decode cX1_turnsOf 21 = .ok (.iconst 0, 1) := zdc_43.2.2.2.2.1
theorem dX1_turnsOf_22 : decode cX1_turnsOf 22 = .ok (.ireturn, 1) := zdc_43.2.2.2.2.2.1
theorem dX1_turnsOf_23 : decode cX1_turnsOf 23 = .ok (.iconst 0, 1) := zdc_43.2.2.2.2.2.2.1
theorem dX1_turnsOf_24 : decode cX1_turnsOf 24 = .ok (.istore_n 3, 1) := zdc_43.2.2.2.2.2.2.2.1
theorem dX1_turnsOf_25 : decode cX1_turnsOf 25 = .ok (.iconst 0, 1) := zdc_43.2.2.2.2.2.2.2.2.1
theorem dX1_turnsOf_26 : decode cX1_turnsOf 26 = .ok (.istore 4, 2) := zdc_43.2.2.2.2.2.2.2.2.2
theorem zdc_44 : decode cX1_turnsOf 28 = .ok (.iconst 0, 1) ∧ decode cX1_turnsOf 29 = .ok (.istore 5, 2) ∧ decode cX1_turnsOf 31 = .ok (.iconst 1, 1) ∧ decode cX1_turnsOf 32 = .ok (.istore 6, 2) ∧ decode cX1_turnsOf 34 = .ok (.iconst 0, 1) ∧ decode cX1_turnsOf 35 = .ok (.istore 7, 2) ∧ decode cX1_turnsOf 37 = .ok (.iload 7, 2) ∧ decode cX1_turnsOf 39 = .ok (.aload_n 0, 1) ∧ decode cX1_turnsOf 40 = .ok (.getfield 19, 3) ∧ decode cX1_turnsOf 43 = .ok (.if_icmp .ge 325, 3) := by decide +kernel
theorem dX1_turnsOf_28 : decode cX1_turnsOf 28 = .ok (.iconst 0, 1) := zdc_44.1
theorem dX1_turnsOf_29 : decode cX1_turnsOf 29 = .ok (.istore 5, 2) := zdc_44.2.1
theorem dX1_turnsOf_31 : decode cX1_turnsOf 31 = .ok (.iconst 1, 1) := zdc_44.2.2.1
theorem dX1_turnsOf_32 : decode cX1_turnsOf 32 = .ok (.istore 6, 2) := zdc_44.2.2.2.1
theorem dX1_turnsOf_34 : decode cX1_turnsOf 34 = .ok (.iconst 0, 1) := zdc_44.2.2.2.2.1
theorem dX1_turnsOf_35 : decode cX1_turnsOf 35 = .ok (.istore 7, 2) := zdc_44.2.2.2.2.2.1
theorem dX1_turnsOf_37 : decode cX1_turnsOf 37 = .ok (.iload 7, 2) := zdc_44.2.2.2.2.2.2.1
theorem dX1_turnsOf_39 : decode cX1_turnsOf 39 = .ok (.aload_n 0, 1) := zdc_44.2.2.2.2.2.2.2.1
theorem dX1_turnsOf_40 : decode cX1_turnsOf 40 = .ok (.getfield 19, 3) := zdc_44.2.2.2.2.2.2.2.2.1
theorem dX1_turnsOf_43 : decode cX1_turnsOf 43 = .ok (.if_icmp .ge 325, 3) := zdc_44.2.2.2.2.2.2.2.2.2
theorem zdc_45 : decode cX1_turnsOf 46 = .ok (.aload_n 0, 1) ∧ decode cX1_turnsOf 47 = .ok (.getfield 9, 3) ∧ decode cX1_turnsOf 50 = .ok (.iload 7, 2) ∧ decode cX1_turnsOf 52 = .ok (.iaload, 1) ∧ decode cX1_turnsOf 53 = .ok (.bipush 32, 2) ∧ decode cX1_turnsOf 55 = .ok (.idiv, 1) ∧ decode cX1_turnsOf 56 = .ok (.istore 8, 2) ∧ decode cX1_turnsOf 58 = .ok (.aload_n 0, 1) ∧ decode cX1_turnsOf 59 = .ok (.getfield 9, 3) ∧ decode cX1_turnsOf 62 = .ok (.iload 7, 2) := by decide +kernel
theorem dX1_turnsOf_46 : decode cX1_turnsOf 46 = .ok (.aload_n 0, 1) := zdc_45.1
theorem dX1_turnsOf_47 : decode cX1_turnsOf 47 = .ok (.getfield 9, 3) := zdc_45.2.1
theorem dX1_turnsOf_50 : decode cX1_turnsOf 50 = .ok (.iload 7, 2) := zdc_45.2.2.1
theorem dX1_turnsOf_52 : decode cX1_turnsOf 52 = .ok (.iaload, 1) := zdc_45.2.2.2.1
theorem dX1_turnsOf_53 : decode cX1_turnsOf 53 = .ok (.bipush 32, 2) := zdc_45.2.2.2.2.1
theorem dX1_turnsOf_55 : decode cX1_turnsOf 55 = .ok (.idiv, 1) := zdc_45.2.2.2.2.2.1
theorem dX1_turnsOf_56 : decode cX1_turnsOf 56 = .ok (.istore 8, 2) := zdc_45.2.2.2.2.2.2.1
theorem dX1_turnsOf_58 : decode cX1_turnsOf 58 = .ok (.aload_n 0, 1) := zdc_45.2.2.2.2.2.2.2.1
theorem dX1_turnsOf_59 : decode cX1_turnsOf 59 = .ok (.getfield 9, 3) := zdc_45.2.2.2.2.2.2.2.2.1
theorem dX1_turnsOf_62 : decode cX1_turnsOf 62 = .ok (.iload 7, 2) := zdc_45.2.2.2.2.2.2.2.2.2
theorem zdc_46 : decode cX1_turnsOf 64 = .ok (.iaload, 1) ∧ decode cX1_turnsOf 65 = .ok (.bipush 32, 2) ∧ decode cX1_turnsOf 67 = .ok (.irem, 1) ∧ decode cX1_turnsOf 68 = .ok (.istore 9, 2) ∧ decode cX1_turnsOf 70 = .ok (.iload 9, 2) ∧ decode cX1_turnsOf 72 = .ok (.tableswitch 277 0 16 #[84, 277, 277, 277, 277, 277, 277, 94, 104, 124, 144, 155, 174, 189, 213, 237, 257], 84) ∧ decode cX1_turnsOf 156 = .ok (.iload 5, 2) ∧ decode cX1_turnsOf 158 = .ok (.iload 8, 2) ∧ decode cX1_turnsOf 160 = .ok (.iadd, 1) ∧ decode cX1_turnsOf 161 = .ok (.istore 5, 2) := by decide +kernel
theorem dX1_turnsOf_64 : decode cX1_turnsOf 64 = .ok (.iaload, 1) := zdc_46.1
theorem dX1_turnsOf_65 : decode cX1_turnsOf 65 = .ok (.bipush 32, 2) := zdc_46.2.1
theorem dX1_turnsOf_67 : decode cX1_turnsOf 67 = .ok (.irem, 1) := zdc_46.2.2.1
theorem dX1_turnsOf_68 : decode cX1_turnsOf 68 = .ok (.istore 9, 2) := zdc_46.2.2.2.1
theorem dX1_turnsOf_70 : decode cX1_turnsOf 70 = .ok (.iload 9, 2) := zdc_46.2.2.2.2.1
theorem dX1_turnsOf_72 : decode cX1_turnsOf 72 = .ok (.tableswitch 277 0 16 #[84, 277, 277, 277, 277, 277, 277, 94, 104, 124, 144, 155, 174, 189, 213, 237, 257], 84) := zdc_46.2.2.2.2.2.1
theorem dX1_turnsOf_156 : decode cX1_turnsOf 156 = .ok (.iload 5, 2) := zdc_46.2.2.2.2.2.2.1
theorem dX1_turnsOf_158 : decode cX1_turnsOf 158 = .ok (.iload 8, 2) := zdc_46.2.2.2.2.2.2.2.1
theorem dX1_turnsOf_160 : decode cX1_turnsOf 160 = .ok (.iadd, 1) := zdc_46.2.2.2.2.2.2.2.2.1
theorem dX1_turnsOf_161 : decode cX1_turnsOf 161 = .ok (.istore 5, 2) := zdc_46.2.2.2.2.2.2.2.2.2
theorem zdc_47 : decode cX1_turnsOf 163 = .ok (.goto 199, 3) ∧ decode cX1_turnsOf 166 = .ok (.iload 5, 2) ∧ decode cX1_turnsOf 168 = .ok (.istore 4, 2) ∧ decode cX1_turnsOf 170 = .ok (.iconst 0, 1) ∧ decode cX1_turnsOf 171 = .ok (.istore 5, 2) ∧ decode cX1_turnsOf 173 = .ok (.goto 189, 3) ∧ decode cX1_turnsOf 176 = .ok (.iload 4, 2) ∧ decode cX1_turnsOf 178 = .ok (.iload 5, 2) ∧ decode cX1_turnsOf 180 = .ok (.if_icmp .ge 7, 3) ∧ decode cX1_turnsOf 183 = .ok (.iconst 1, 1) := by decide +kernel
theorem dX1_turnsOf_163 : decode cX1_turnsOf 163 = .ok (.goto 199, 3) := zdc_47.1
theorem dX1_turnsOf_166 : decode cX1_turnsOf 166 = .ok (.iload 5, 2) := zdc_47.2.1
theorem dX1_turnsOf_168 : decode cX1_turnsOf 168 = .ok (.istore 4, 2) := zdc_47.2.2.1
theorem dX1_turnsOf_170 : decode cX1_turnsOf 170 = .ok (.iconst 0, 1) := zdc_47.2.2.2.1
theorem dX1_turnsOf_171 : decode cX1_turnsOf 171 = .ok (.istore 5, 2) := zdc_47.2.2.2.2.1
theorem dX1_turnsOf_173 : decode cX1_turnsOf 173 = .ok (.goto 189, 3) := zdc_47.2.2.2.2.2.1
theorem dX1_turnsOf_176 : decode cX1_turnsOf 176 = .ok (.iload 4, 2) := zdc_47.2.2.2.2.2.2.1
theorem dX1_turnsOf_178 : decode cX1_turnsOf 178 = .ok (.iload 5, 2) := zdc_47.2.2.2.2.2.2.2.1
theorem dX1_turnsOf_180 : decode cX1_turnsOf 180 = .ok (.if_icmp .ge 7, 3) := zdc_47.2.2.2.2.2.2.2.2.1
theorem dX1_turnsOf_183 : decode cX1_turnsOf 183 = .ok (.iconst 1, 1) := zdc_47.2.2.2.2.2.2.2.2.2
theorem zdc_48 : decode cX1_turnsOf 184 = .ok (.goto 4, 3) ∧ decode cX1_turnsOf 187 = .ok (.iconst 0, 1) ∧ decode cX1_turnsOf 188 = .ok (.istore 6, 2) ∧ decode cX1_turnsOf 190 = .ok (.iconst 0, 1) ∧ decode cX1_turnsOf 191 = .ok (.istore 5, 2) ∧ decode cX1_turnsOf 193 = .ok (.goto 169, 3) ∧ decode cX1_turnsOf 196 = .ok (.iload 4, 2) ∧ decode cX1_turnsOf 198 = .ok (.iload 5, 2) ∧ decode cX1_turnsOf 200 = .ok (.if_icmp .le 7, 3) ∧ decode cX1_turnsOf 203 = .ok (.iconst 1, 1) := by decide +kernel
theorem dX1_turnsOf_184 : decode cX1_turnsOf 184 = .ok (.goto 4, 3) := zdc_48.1
theorem dX1_turnsOf_187 : decode cX1_turnsOf 187 = .ok (.iconst 0, 1) := zdc_48.2.1
theorem dX1_turnsOf_188 : decode cX1_turnsOf 188 = .ok (.istore 6, 2) := zdc_48.2.2.1
theorem dX1_turnsOf_190 : decode cX1_turnsOf 190 = .ok (.iconst 0, 1) := zdc_48.2.2.2.1
theorem dX1_turnsOf_191 : decode cX1_turnsOf 191 = .ok (.istore 5, 2) := zdc_48.2.2.2.2.1
theorem dX1_turnsOf_193 : decode cX1_turnsOf 193 = .ok (.goto 169, 3) := zdc_48.2.2.2.2.2.1
theorem dX1_turnsOf_196 : decode cX1_turnsOf 196 = .ok (.iload 4, 2) := zdc_48.2.2.2.2.2.2.1
theorem dX1_turnsOf_198 : decode cX1_turnsOf 198 = .ok (.iload 5, 2) := zdc_48.2.2.2.2.2.2.2.1
theorem dX1_turnsOf_200 : decode cX1_turnsOf 200 = .ok (.if_icmp .le 7, 3) := zdc_48.2.2.2.2.2.2.2.2.1
theorem dX1_turnsOf_203 : decode cX1_turnsOf 203 = .ok (.iconst 1, 1) := zdc_48.2.2.2.2.2.2.2.2.2
theorem zdc_49 : decode cX1_turnsOf 204 = .ok (.goto 4, 3) ∧ decode cX1_turnsOf 207 = .ok (.iconst 0, 1) ∧ decode cX1_turnsOf 208 = .ok (.istore 6, 2) ∧ decode cX1_turnsOf 210 = .ok (.iconst 0, 1) ∧ decode cX1_turnsOf 211 = .ok (.istore 5, 2) ∧ decode cX1_turnsOf 213 = .ok (.goto 149, 3) ∧ decode cX1_turnsOf 216 = .ok (.aload_n 1, 1) ∧ decode cX1_turnsOf 217 = .ok (.getfield 37, 3) ∧ decode cX1_turnsOf 220 = .ok (.iload_n 2, 1) ∧ decode cX1_turnsOf 221 = .ok (.baload, 1) := by decide +kernel
theorem dX1_turnsOf_204 : decode cX1_turnsOf 204 = .ok (.goto 4, 3) := zdc_49.1
theorem dX1_turnsOf_207 : decode cX1_turnsOf 207 = .ok (.iconst 0, 1) := zdc_49.2.1
theorem dX1_turnsOf_208 : decode cX1_turnsOf 208 = .ok (.istore 6, 2) := zdc_49.2.2.1
theorem dX1_turnsOf_210 : decode cX1_turnsOf 210 = .ok (.iconst 0, 1) := zdc_49.2.2.2.1
theorem dX1_turnsOf_211 : decode cX1_turnsOf 211 = .ok (.istore 5, 2) := zdc_49.2.2.2.2.1
theorem dX1_turnsOf_213 : decode cX1_turnsOf 213 = .ok (.goto 149, 3) := zdc_49.2.2.2.2.2.1
theorem dX1_turnsOf_216 : decode cX1_turnsOf 216 = .ok (.aload_n 1, 1) := zdc_49.2.2.2.2.2.2.1
theorem dX1_turnsOf_217 : decode cX1_turnsOf 217 = .ok (.getfield 37, 3) := zdc_49.2.2.2.2.2.2.2.1
theorem dX1_turnsOf_220 : decode cX1_turnsOf 220 = .ok (.iload_n 2, 1) := zdc_49.2.2.2.2.2.2.2.2.1
theorem dX1_turnsOf_221 : decode cX1_turnsOf 221 = .ok (.baload, 1) := zdc_49.2.2.2.2.2.2.2.2.2
theorem zdc_50 : decode cX1_turnsOf 222 = .ok (.istore 6, 2) ∧ decode cX1_turnsOf 224 = .ok (.goto 138, 3) ∧ decode cX1_turnsOf 227 = .ok (.aload_n 1, 1) ∧ decode cX1_turnsOf 228 = .ok (.getfield 43, 3) ∧ decode cX1_turnsOf 231 = .ok (.iload_n 2, 1) ∧ decode cX1_turnsOf 232 = .ok (.iaload, 1) ∧ decode cX1_turnsOf 233 = .ok (.ifCond .le 7, 3) ∧ decode cX1_turnsOf 236 = .ok (.iconst 1, 1) ∧ decode cX1_turnsOf 237 = .ok (.goto 4, 3) ∧ decode cX1_turnsOf 240 = .ok (.iconst 0, 1) := by decide +kernel
theorem dX1_turnsOf_222 : decode cX1_turnsOf 222 = .ok (.istore 6, 2) := zdc_50.1
theorem dX1_turnsOf_224 : decode cX1_turnsOf 224 = .ok (.goto 138, 3) := zdc_50.2.1
theorem dX1_turnsOf_227 : decode cX1_turnsOf 227 = .ok (.aload_n 1, 1) := zdc_50.2.2.1
theorem dX1_turnsOf_228 : decode cX1_turnsOf 228 = .ok (.getfield 43, 3) := zdc_50.2.2.2.1
theorem dX1_turnsOf_231 : decode cX1_turnsOf 231 = .ok (.iload_n 2, 1) := zdc_50.2.2.2.2.1
theorem dX1_turnsOf_232 : decode cX1_turnsOf 232 = .ok (.iaload, 1) := zdc_50.2.2.2.2.2.1
theorem dX1_turnsOf_233 : decode cX1_turnsOf 233 = .ok (.ifCond .le 7, 3) := zdc_50.2.2.2.2.2.2.1
theorem dX1_turnsOf_236 : decode cX1_turnsOf 236 = .ok (.iconst 1, 1) := zdc_50.2.2.2.2.2.2.2.1
theorem dX1_turnsOf_237 : decode cX1_turnsOf 237 = .ok (.goto 4, 3) := zdc_50.2.2.2.2.2.2.2.2.1
theorem dX1_turnsOf_240 : decode cX1_turnsOf 240 = .ok (.iconst 0, 1) := zdc_50.2.2.2.2.2.2.2.2.2
theorem zdc_51 : decode cX1_turnsOf 241 = .ok (.istore 6, 2) ∧ decode cX1_turnsOf 243 = .ok (.goto 119, 3) ∧ decode cX1_turnsOf 246 = .ok (.iload 6, 2) ∧ decode cX1_turnsOf 248 = .ok (.ifCond .ne 7, 3) ∧ decode cX1_turnsOf 251 = .ok (.iconst 1, 1) ∧ decode cX1_turnsOf 252 = .ok (.goto 4, 3) ∧ decode cX1_turnsOf 255 = .ok (.iconst 0, 1) ∧ decode cX1_turnsOf 256 = .ok (.istore 6, 2) ∧ decode cX1_turnsOf 258 = .ok (.goto 104, 3) ∧ decode cX1_turnsOf 261 = .ok (.iload 6, 2) := by decide +kernel
theorem dX1_turnsOf_241 : decode cX1_turnsOf 241 = .ok (.istore 6, 2) := zdc_51.1
theorem dX1_turnsOf_243 : decode cX1_turnsOf 243 = .ok (.goto 119, 3) := zdc_51.2.1
theorem dX1_turnsOf_246 : decode cX1_turnsOf 246 = .ok (.iload 6, 2) := zdc_51.2.2.1
theorem dX1_turnsOf_248 : decode cX1_turnsOf 248 = .ok (.ifCond .ne 7, 3) := zdc_51.2.2.2.1
theorem dX1_turnsOf_251 : decode cX1_turnsOf 251 = .ok (.iconst 1, 1) := zdc_51.2.2.2.2.1
theorem dX1_turnsOf_252 : decode cX1_turnsOf 252 = .ok (.goto 4, 3) := zdc_51.2.2.2.2.2.1
theorem dX1_turnsOf_255 : decode cX1_turnsOf 255 = .ok (.iconst 0, 1) := zdc_51.2.2.2.2.2.2.1
theorem dX1_turnsOf_256 : decode cX1_turnsOf 256 = .ok (.istore 6, 2) := zdc_51.2.2.2.2.2.2.2.1
theorem dX1_turnsOf_258 : decode cX1_turnsOf 258 = .ok (.goto 104, 3) := zdc_51.2.2.2.2.2.2.2.2.1
theorem dX1_turnsOf_261 : decode cX1_turnsOf 261 = .ok (.iload 6, 2) := zdc_51.2.2.2.2.2.2.2.2.2
theorem zdc_52 : decode cX1_turnsOf 263 = .ok (.ifCond .eq 8, 3) ∧ decode cX1_turnsOf 266 = .ok (.iload 7, 2) ∧ decode cX1_turnsOf 268 = .ok (.goto 12, 3) ∧ decode cX1_turnsOf 271 = .ok (.iload 7, 2) ∧ decode cX1_turnsOf 273 = .ok (.iload 8, 2) ∧ decode cX1_turnsOf 275 = .ok (.iconst 1, 1) ∧ decode cX1_turnsOf 276 = .ok (.isub, 1) ∧ decode cX1_turnsOf 277 = .ok (.invokestatic 46, 3) ∧ decode cX1_turnsOf 280 = .ok (.istore 7, 2) ∧ decode cX1_turnsOf 282 = .ok (.goto 80, 3) := by decide +kernel
theorem dX1_turnsOf_263 : decode cX1_turnsOf 263 = .ok (.ifCond .eq 8, 3) := zdc_52.1
theorem dX1_turnsOf_266 : decode cX1_turnsOf 266 = .ok (.iload 7, 2) := zdc_52.2.1
theorem dX1_turnsOf_268 : decode cX1_turnsOf 268 = .ok (.goto 12, 3) := zdc_52.2.2.1
theorem dX1_turnsOf_271 : decode cX1_turnsOf 271 = .ok (.iload 7, 2) := zdc_52.2.2.2.1
theorem dX1_turnsOf_273 : decode cX1_turnsOf 273 = .ok (.iload 8, 2) := zdc_52.2.2.2.2.1
theorem dX1_turnsOf_275 : decode cX1_turnsOf 275 = .ok (.iconst 1, 1) := zdc_52.2.2.2.2.2.1
theorem dX1_turnsOf_276 : decode cX1_turnsOf 276 = .ok (.isub, 1) := zdc_52.2.2.2.2.2.2.1
theorem dX1_turnsOf_277 : decode cX1_turnsOf 277 = .ok (.invokestatic 46, 3) := zdc_52.2.2.2.2.2.2.2.1
theorem dX1_turnsOf_280 : decode cX1_turnsOf 280 = .ok (.istore 7, 2) := zdc_52.2.2.2.2.2.2.2.2.1
theorem dX1_turnsOf_282 : decode cX1_turnsOf 282 = .ok (.goto 80, 3) := zdc_52.2.2.2.2.2.2.2.2.2
theorem zdc_53 : decode cX1_turnsOf 285 = .ok (.iload 6, 2) ∧ decode cX1_turnsOf 287 = .ok (.ifCond .eq 15, 3) ∧ decode cX1_turnsOf 290 = .ok (.iload 7, 2) ∧ decode cX1_turnsOf 292 = .ok (.iload 8, 2) ∧ decode cX1_turnsOf 294 = .ok (.iconst 1, 1) ∧ decode cX1_turnsOf 295 = .ok (.isub, 1) ∧ decode cX1_turnsOf 296 = .ok (.invokestatic 46, 3) ∧ decode cX1_turnsOf 299 = .ok (.goto 5, 3) ∧ decode cX1_turnsOf 302 = .ok (.iload 7, 2) ∧ decode cX1_turnsOf 304 = .ok (.istore 7, 2) := by decide +kernel
theorem dX1_turnsOf_285 : decode cX1_turnsOf 285 = .ok (.iload 6, 2) := zdc_53.1
theorem dX1_turnsOf_287 : decode cX1_turnsOf 287 = .ok (.ifCond .eq 15, 3) := zdc_53.2.1
theorem dX1_turnsOf_290 : decode cX1_turnsOf 290 = .ok (.iload 7, 2) := zdc_53.2.2.1
theorem dX1_turnsOf_292 : decode cX1_turnsOf 292 = .ok (.iload 8, 2) := zdc_53.2.2.2.1
theorem dX1_turnsOf_294 : decode cX1_turnsOf 294 = .ok (.iconst 1, 1) := zdc_53.2.2.2.2.1
theorem dX1_turnsOf_295 : decode cX1_turnsOf 295 = .ok (.isub, 1) := zdc_53.2.2.2.2.2.1
theorem dX1_turnsOf_296 : decode cX1_turnsOf 296 = .ok (.invokestatic 46, 3) := zdc_53.2.2.2.2.2.2.1
theorem dX1_turnsOf_299 : decode cX1_turnsOf 299 = .ok (.goto 5, 3) := zdc_53.2.2.2.2.2.2.2.1
theorem dX1_turnsOf_302 : decode cX1_turnsOf 302 = .ok (.iload 7, 2) := zdc_53.2.2.2.2.2.2.2.2.1
theorem dX1_turnsOf_304 : decode cX1_turnsOf 304 = .ok (.istore 7, 2) := zdc_53.2.2.2.2.2.2.2.2.2
theorem zdc_54 : decode cX1_turnsOf 306 = .ok (.goto 56, 3) ∧ decode cX1_turnsOf 309 = .ok (.iload_n 3, 1) ∧ decode cX1_turnsOf 310 = .ok (.iload 6, 2) ∧ decode cX1_turnsOf 312 = .ok (.ifCond .eq 8, 3) ∧ decode cX1_turnsOf 315 = .ok (.iload 8, 2) ∧ decode cX1_turnsOf 317 = .ok (.goto 4, 3) ∧ decode cX1_turnsOf 320 = .ok (.iconst 0, 1) ∧ decode cX1_turnsOf 321 = .ok (.iadd, 1) ∧ decode cX1_turnsOf 322 = .ok (.istore_n 3, 1) ∧ decode cX1_turnsOf 323 = .ok (.iconst 1, 1) := by decide +kernel
theorem dX1_turnsOf_306 : decode cX1_turnsOf 306 = .ok (.goto 56, 3) := zdc_54.1
theorem dX1_turnsOf_309 : decode cX1_turnsOf 309 = .ok (.iload_n 3, 1) := zdc_54.2.1
theorem dX1_turnsOf_310 : decode cX1_turnsOf 310 = .ok (.iload 6, 2) := zdc_54.2.2.1
theorem dX1_turnsOf_312 : decode cX1_turnsOf 312 = .ok (.ifCond .eq 8, 3) := zdc_54.2.2.2.1
theorem dX1_turnsOf_315 : decode cX1_turnsOf 315 = .ok (.iload 8, 2) := zdc_54.2.2.2.2.1
theorem dX1_turnsOf_317 : decode cX1_turnsOf 317 = .ok (.goto 4, 3) := zdc_54.2.2.2.2.2.1
theorem dX1_turnsOf_320 : decode cX1_turnsOf 320 = .ok (.iconst 0, 1) := zdc_54.2.2.2.2.2.2.1
theorem dX1_turnsOf_321 : decode cX1_turnsOf 321 = .ok (.iadd, 1) := zdc_54.2.2.2.2.2.2.2.1
theorem dX1_turnsOf_322 : decode cX1_turnsOf 322 = .ok (.istore_n 3, 1) := zdc_54.2.2.2.2.2.2.2.2.1
theorem dX1_turnsOf_323 : decode cX1_turnsOf 323 = .ok (.iconst 1, 1) := zdc_54.2.2.2.2.2.2.2.2.2
theorem zdc_55 : decode cX1_turnsOf 324 = .ok (.istore 6, 2) ∧ decode cX1_turnsOf 326 = .ok (.goto 36, 3) ∧ decode cX1_turnsOf 329 = .ok (.iload_n 3, 1) ∧ decode cX1_turnsOf 330 = .ok (.iload 6, 2) ∧ decode cX1_turnsOf 332 = .ok (.ifCond .eq 8, 3) ∧ decode cX1_turnsOf 335 = .ok (.iload 8, 2) ∧ decode cX1_turnsOf 337 = .ok (.goto 4, 3) ∧ decode cX1_turnsOf 340 = .ok (.iconst 0, 1) ∧ decode cX1_turnsOf 341 = .ok (.isub, 1) ∧ decode cX1_turnsOf 342 = .ok (.istore_n 3, 1) := by decide +kernel
theorem dX1_turnsOf_324 : decode cX1_turnsOf 324 = .ok (.istore 6, 2) := zdc_55.1
theorem dX1_turnsOf_326 : decode cX1_turnsOf 326 = .ok (.goto 36, 3) := zdc_55.2.1
theorem dX1_turnsOf_329 : decode cX1_turnsOf 329 = .ok (.iload_n 3, 1) := zdc_55.2.2.1
theorem dX1_turnsOf_330 : decode cX1_turnsOf 330 = .ok (.iload 6, 2) := zdc_55.2.2.2.1
theorem dX1_turnsOf_332 : decode cX1_turnsOf 332 = .ok (.ifCond .eq 8, 3) := zdc_55.2.2.2.2.1
theorem dX1_turnsOf_335 : decode cX1_turnsOf 335 = .ok (.iload 8, 2) := zdc_55.2.2.2.2.2.1
theorem dX1_turnsOf_337 : decode cX1_turnsOf 337 = .ok (.goto 4, 3) := zdc_55.2.2.2.2.2.2.1
theorem dX1_turnsOf_340 : decode cX1_turnsOf 340 = .ok (.iconst 0, 1) := zdc_55.2.2.2.2.2.2.2.1
theorem dX1_turnsOf_341 : decode cX1_turnsOf 341 = .ok (.isub, 1) := zdc_55.2.2.2.2.2.2.2.2.1
theorem dX1_turnsOf_342 : decode cX1_turnsOf 342 = .ok (.istore_n 3, 1) := zdc_55.2.2.2.2.2.2.2.2.2
theorem zdc_56 : decode cX1_turnsOf 343 = .ok (.iconst 1, 1) ∧ decode cX1_turnsOf 344 = .ok (.istore 6, 2) ∧ decode cX1_turnsOf 346 = .ok (.goto 16, 3) ∧ decode cX1_turnsOf 349 = .ok (.iload 5, 2) ∧ decode cX1_turnsOf 351 = .ok (.aload_n 0, 1) ∧ decode cX1_turnsOf 352 = .ok (.aload_n 1, 1) ∧ decode cX1_turnsOf 353 = .ok (.iload_n 2, 1) ∧ decode cX1_turnsOf 354 = .ok (.iload 9, 2) ∧ decode cX1_turnsOf 356 = .ok (.invokevirtual 52, 3) ∧ decode cX1_turnsOf 359 = .ok (.iadd, 1) := by decide +kernel
theorem dX1_turnsOf_343 : decode cX1_turnsOf 343 = .ok (.iconst 1, 1) := zdc_56.1
theorem dX1_turnsOf_344 : decode cX1_turnsOf 344 = .ok (.istore 6, 2) := zdc_56.2.1
theorem dX1_turnsOf_346 : decode cX1_turnsOf 346 = .ok (.goto 16, 3) := zdc_56.2.2.1
theorem dX1_turnsOf_349 : decode cX1_turnsOf 349 = .ok (.iload 5, 2) := zdc_56.2.2.2.1
theorem dX1_turnsOf_351 : decode cX1_turnsOf 351 = .ok (.aload_n 0, 1) := zdc_56.2.2.2.2.1
theorem dX1_turnsOf_352 : decode cX1_turnsOf 352 = .ok (.aload_n 1, 1) := zdc_56.2.2.2.2.2.1
theorem dX1_turnsOf_353 : decode cX1_turnsOf 353 = .ok (.iload_n 2, 1) := zdc_56.2.2.2.2.2.2.1
theorem dX1_turnsOf_354 : decode cX1_turnsOf 354 = .ok (.iload 9, 2) := zdc_56.2.2.2.2.2.2.2.1
theorem dX1_turnsOf_356 : decode cX1_turnsOf 356 = .ok (.invokevirtual 52, 3) := zdc_56.2.2.2.2.2.2.2.2.1
theorem dX1_turnsOf_359 : decode cX1_turnsOf 359 = .ok (.iadd, 1) := zdc_56.2.2.2.2.2.2.2.2.2
theorem zdc_57 : decode cX1_turnsOf 360 = .ok (.istore 5, 2) ∧ decode cX1_turnsOf 362 = .ok (.iinc 7 1, 3) ∧ decode cX1_turnsOf 365 = .ok (.goto (-328), 3) ∧ decode cX1_turnsOf 368 = .ok (.iload_n 3, 1) ∧ decode cX1_turnsOf 369 = .ok (.ireturn, 1) ∧ decode cX1_partOf 0 = .ok (.iload_n 3, 1) ∧ decode cX1_partOf 1 = .ok (.tableswitch 60 1 5 #[35, 37, 44, 49, 54], 35) ∧ decode cX1_partOf 36 = .ok (.iload_n 2, 1) ∧ decode cX1_partOf 37 = .ok (.ireturn, 1) ∧ decode cX1_partOf 38 = .ok (.aload_n 1, 1) := by decide +kernel
theorem dX1_turnsOf_360 : decode cX1_turnsOf 360 = .ok (.istore 5, 2) := zdc_57.1
theorem dX1_turnsOf_362 : decode cX1_turnsOf 362 = .ok (.iinc 7 1, 3) := zdc_57.2.1
theorem dX1_turnsOf_365 : decode cX1_turnsOf 365 = .ok (.goto (-328), 3) := zdc_57.2.2.1
theorem dX1_turnsOf_368 : decode cX1_turnsOf 368 = .ok (.iload_n 3, 1) := zdc_57.2.2.2.1
theorem dX1_turnsOf_369 : decode cX1_turnsOf 369 = .ok (.ireturn, 1) := zdc_57.2.2.2.2.1
theorem dX1_partOf_0 : decode cX1_partOf 0 = .ok (.iload_n 3, 1) := zdc_57.2.2.2.2.2.1
theorem dX1_partOf_1 : decode cX1_partOf 1 = .ok (.tableswitch 60 1 5 #[35, 37, 44, 49, 54], 35) := zdc_57.2.2.2.2.2.2.1
theorem dX1_partOf_36 : decode cX1_partOf 36 = .ok (.iload_n 2, 1) := zdc_57.2.2.2.2.2.2.2.1
theorem dX1_partOf_37 : decode cX1_partOf 37 = .ok (.ireturn, 1) := zdc_57.2.2.2.2.2.2.2.2.1
theorem dX1_partOf_38 : decode cX1_partOf 38 = .ok (.aload_n 1, 1) := zdc_57.2.2.2.2.2.2.2.2.2
theorem zdc_58 : decode cX1_partOf 39 = .ok (.getfield 56, 3) ∧ decode cX1_partOf 42 = .ok (.iload_n 2, 1) ∧ decode cX1_partOf 43 = .ok (.iaload, 1) ∧ decode cX1_partOf 44 = .ok (.ireturn, 1) ∧ decode cX1_partOf 45 = .ok (.aload_n 0, 1) ∧ decode cX1_partOf 46 = .ok (.getfield 28, 3) ∧ decode cX1_partOf 49 = .ok (.ireturn, 1) ∧ decode cX1_partOf 50 = .ok (.aload_n 0, 1) ∧ decode cX1_partOf 51 = .ok (.getfield 31, 3) ∧ decode cX1_partOf 54 = .ok (.ireturn, 1) := by decide +kernel
theorem dX1_partOf_39 : decode cX1_partOf 39 = .ok (.getfield 56, 3) := zdc_58.1
theorem dX1_partOf_42 : decode cX1_partOf 42 = .ok (.iload_n 2, 1) := zdc_58.2.1
theorem dX1_partOf_43 : decode cX1_partOf 43 = .ok (.iaload, 1) := zdc_58.2.2.1
theorem dX1_partOf_44 : decode cX1_partOf 44 = .ok (.ireturn, 1) := zdc_58.2.2.2.1
theorem dX1_partOf_45 : decode cX1_partOf 45 = .ok (.aload_n 0, 1) := zdc_58.2.2.2.2.1
theorem dX1_partOf_46 : decode cX1_partOf 46 = .ok (.getfield 28, 3) := zdc_58.2.2.2.2.2.1
theorem dX1_partOf_49 : decode cX1_partOf 49 = .ok (.ireturn, 1) := zdc_58.2.2.2.2.2.2.1
theorem dX1_partOf_50 : decode cX1_partOf 50 = .ok (.aload_n 0, 1) := zdc_58.2.2.2.2.2.2.2.1
theorem dX1_partOf_51 : decode cX1_partOf 51 = .ok (.getfield 31, 3) := zdc_58.2.2.2.2.2.2.2.2.1
theorem dX1_partOf_54 : decode cX1_partOf 54 = .ok (.ireturn, 1) := zdc_58.2.2.2.2.2.2.2.2.2
theorem zdc_59 : decode cX1_partOf 55 = .ok (.aload_n 1, 1) ∧ decode cX1_partOf 56 = .ok (.iload_n 2, 1) ∧ decode cX1_partOf 57 = .ok (.invokevirtual 59, 3) ∧ decode cX1_partOf 60 = .ok (.ireturn, 1) ∧ decode cX1_partOf 61 = .ok (.aload_n 0, 1) ∧ decode cX1_partOf 62 = .ok (.getfield 34, 3) ∧ decode cX1_partOf 65 = .ok (.ireturn, 1) ∧ decode cX2_init 0 = .ok (.aload_n 0, 1) ∧ decode cX2_init 1 = .ok (.aload_n 1, 1) ∧ decode cX2_init 2 = .ok (.invokespecial 3, 3) := by decide +kernel
theorem dX1_partOf_55 : decode cX1_partOf 55 = .ok (.aload_n 1, 1) := zdc_59.1
theorem dX1_partOf_56 : decode cX1_partOf 56 = .ok (.iload_n 2, 1) := zdc_59.2.1
theorem dX1_partOf_57 : decode cX1_partOf 57 = .ok (.invokevirtual 59, 3) := zdc_59.2.2.1
theorem dX1_partOf_60 : decode cX1_partOf 60 = .ok (.ireturn, 1) := zdc_59.2.2.2.1
theorem dX1_partOf_61 : decode cX1_partOf 61 = .ok (.aload_n 0, 1) := zdc_59.2.2.2.2.1
theorem dX1_partOf_62 : decode cX1_partOf 62 = .ok (.getfield 34, 3) := zdc_59.2.2.2.2.2.1
theorem dX1_partOf_65 : decode cX1_partOf 65 = .ok (.ireturn, 1) := zdc_59.2.2.2.2.2.2.1
theorem dX2_init_0 : decode cX2_init 0 = .ok (.aload_n 0, 1) := zdc_59.2.2.2.2.2.2.2.1
theorem dX2_init_1 : decode cX2_init 1 = .ok (.aload_n 1, 1) := zdc_59.2.2.2.2.2.2.2.2.1
theorem dX2_init_2 : decode cX2_init 2 = .ok (.invokespecial 3, 3) := zdc_59.2.2.2.2.2.2.2.2.2
theorem zdc_60 : decode cX2_init 5 = .ok (.aload_n 0, 1) ∧ decode cX2_init 6 = .ok (.new 9, 3) ∧ decode cX2_init 9 = .ok (.dup, 1) ∧ decode cX2_init 10 = .ok (.invokespecial 11, 3) ∧ decode cX2_init 13 = .ok (.putfield 14, 3) ∧ decode cX2_init 16 = .ok (.return_, 1) ∧ decode cX2_readLine 0 = .ok (.aload_n 0, 1) ∧ decode cX2_readLine 1 = .ok (.getfield 20, 3) ∧ decode cX2_readLine 4 = .ok (.ldc 24, 2) ∧ decode cX2_readLine 6 = .ok (.invokevirtual 26, 3) := by decide +kernel
theorem dX2_init_5 : decode cX2_init 5 = .ok (.aload_n 0, 1) := zdc_60.1
theorem dX2_init_6 : decode cX2_init 6 = .ok (.new 9, 3) := zdc_60.2.1
theorem dX2_init_9 : decode cX2_init 9 = .ok (.dup, 1) := zdc_60.2.2.1
theorem dX2_init_10 : decode cX2_init 10 = .ok (.invokespecial 11, 3) := zdc_60.2.2.2.1
theorem dX2_init_13 : decode cX2_init 13 = .ok (.putfield 14, 3) := zdc_60.2.2.2.2.1
theorem dX2_init_16 : decode cX2_init 16 = .ok (.return_, 1) := zdc_60.2.2.2.2.2.1
theorem dX2_readLine_0 : decode cX2_readLine 0 = .ok (.aload_n 0, 1) := zdc_60.2.2.2.2.2.2.1
theorem dX2_readLine_1 : decode cX2_readLine 1 = .ok (.getfield 20, 3) := zdc_60.2.2.2.2.2.2.2.1
theorem dX2_readLine_4 : decode cX2_readLine 4 = .ok (.ldc 24, 2) := zdc_60.2.2.2.2.2.2.2.2.1
theorem dX2_readLine_6 : decode cX2_readLine 6 = .ok (.invokevirtual 26, 3) := zdc_60.2.2.2.2.2.2.2.2.2
theorem zdc_61 : decode cX2_readLine 9 = .ok (.istore_n 1, 1) ∧ decode cX2_readLine 10 = .ok (.iload_n 1, 1) ∧ decode cX2_readLine 11 = .ok (.ifCond .ne 23, 3) ∧ decode cX2_readLine 14 = .ok (.aload_n 0, 1) ∧ decode cX2_readLine 15 = .ok (.getfield 20, 3) ∧ decode cX2_readLine 18 = .ok (.ldc 32, 2) ∧ decode cX2_readLine 20 = .ok (.invokevirtual 26, 3) ∧ decode cX2_readLine 23 = .ok (.ifCond .ne 11, 3) ∧ decode cX2_readLine 26 = .ok (.aload_n 0, 1) ∧ decode cX2_readLine 27 = .ok (.getfield 20, 3) := by decide +kernel
theorem dX2_readLine_9 : decode cX2_readLine 9 = .ok (.istore_n 1, 1) := zdc_61.1
theorem dX2_readLine_10 : decode cX2_readLine 10 = .ok (.iload_n 1, 1) := zdc_61.2.1
theorem dX2_readLine_11 : decode cX2_readLine 11 = .ok (.ifCond .ne 23, 3) := zdc_61.2.2.1
theorem dX2_readLine_14 : decode cX2_readLine 14 = .ok (.aload_n 0, 1) := zdc_61.2.2.2.1
theorem dX2_readLine_15 : decode cX2_readLine 15 = .ok (.getfield 20, 3) := zdc_61.2.2.2.2.1
theorem dX2_readLine_18 : decode cX2_readLine 18 = .ok (.ldc 32, 2) := zdc_61.2.2.2.2.2.1
theorem dX2_readLine_20 : decode cX2_readLine 20 = .ok (.invokevirtual 26, 3) := zdc_61.2.2.2.2.2.2.1
theorem dX2_readLine_23 : decode cX2_readLine 23 = .ok (.ifCond .ne 11, 3) := zdc_61.2.2.2.2.2.2.2.1
theorem dX2_readLine_26 : decode cX2_readLine 26 = .ok (.aload_n 0, 1) := zdc_61.2.2.2.2.2.2.2.2.1
theorem dX2_readLine_27 : decode cX2_readLine 27 = .ok (.getfield 20, 3) := zdc_61.2.2.2.2.2.2.2.2.2
theorem zdc_62 : decode cX2_readLine 30 = .ok (.invokevirtual 34, 3) ∧ decode cX2_readLine 33 = .ok (.ireturn, 1) ∧ decode cX2_readLine 34 = .ok (.aload_n 0, 1) ∧ decode cX2_readLine 35 = .ok (.getfield 20, 3) ∧ decode cX2_readLine 38 = .ok (.invokevirtual 38, 3) ∧ decode cX2_readLine 41 = .ok (.aload_n 0, 1) ∧ decode cX2_readLine 42 = .ok (.getfield 20, 3) ∧ decode cX2_readLine 45 = .ok (.iconst 0, 1) ∧ decode cX2_readLine 46 = .ok (.bipush 30, 2) ∧ decode cX2_readLine 48 = .ok (.invokevirtual 41, 3) := by decide +kernel
theorem dX2_readLine_30 : decode cX2_readLine 30 = .ok (.invokevirtual 34, 3) := zdc_62.1
theorem dX2_readLine_33 : decode cX2_readLine 33 = .ok (.ireturn, 1) := zdc_62.2.1
theorem dX2_readLine_34 : decode cX2_readLine 34 = .ok (.aload_n 0, 1) := zdc_62.2.2.1
theorem dX2_readLine_35 : decode cX2_readLine 35 = .ok (.getfield 20, 3) := zdc_62.2.2.2.1
theorem dX2_readLine_38 : decode cX2_readLine 38 = .ok (.invokevirtual 38, 3) := zdc_62.2.2.2.2.1
theorem dX2_readLine_41 : decode cX2_readLine 41 = .ok (.aload_n 0, 1) := zdc_62.2.2.2.2.2.1
theorem dX2_readLine_42 : decode cX2_readLine 42 = .ok (.getfield 20, 3) := zdc_62.2.2.2.2.2.2.1
theorem dX2_readLine_45 : decode cX2_readLine 45 = .ok (.iconst 0, 1) := zdc_62.2.2.2.2.2.2.2.1
theorem dX2_readLine_46 : decode cX2_readLine 46 = .ok (.bipush 30, 2) := zdc_62.2.2.2.2.2.2.2.2.1
theorem dX2_readLine_48 : decode cX2_readLine 48 = .ok (.invokevirtual 41, 3) := zdc_62.2.2.2.2.2.2.2.2.2
theorem zdc_63 : decode cX2_readLine 51 = .ok (.istore_n 2, 1) ∧ decode cX2_readLine 52 = .ok (.iload_n 2, 1) ∧ decode cX2_readLine 53 = .ok (.iconst (-1), 1) ∧ decode cX2_readLine 54 = .ok (.if_icmp .eq 23, 3) ∧ decode cX2_readLine 57 = .ok (.aload_n 0, 1) ∧ decode cX2_readLine 58 = .ok (.getfield 20, 3) ∧ decode cX2_readLine 61 = .ok (.ldc 45, 2) ∧ decode cX2_readLine 63 = .ok (.invokevirtual 47, 3) ∧ decode cX2_readLine 66 = .ok (.ifCond .eq 13, 3) ∧ decode cX2_readLine 69 = .ok (.aload_n 0, 1) := by decide +kernel
theorem dX2_readLine_51 : decode cX2_readLine 51 = .ok (.istore_n 2, 1) := zdc_63.1
theorem dX2_readLine_52 : decode cX2_readLine 52 = .ok (.iload_n 2, 1) := zdc_63.2.1
theorem dX2_readLine_53 : decode cX2_readLine 53 = .ok (.iconst (-1), 1) := zdc_63.2.2.1
theorem dX2_readLine_54 : decode cX2_readLine 54 = .ok (.if_icmp .eq 23, 3) := zdc_63.2.2.2.1
theorem dX2_readLine_57 : decode cX2_readLine 57 = .ok (.aload_n 0, 1) := zdc_63.2.2.2.2.1
theorem dX2_readLine_58 : decode cX2_readLine 58 = .ok (.getfield 20, 3) := zdc_63.2.2.2.2.2.1
theorem dX2_readLine_61 : decode cX2_readLine 61 = .ok (.ldc 45, 2) := zdc_63.2.2.2.2.2.2.1
theorem dX2_readLine_63 : decode cX2_readLine 63 = .ok (.invokevirtual 47, 3) := zdc_63.2.2.2.2.2.2.2.1
theorem dX2_readLine_66 : decode cX2_readLine 66 = .ok (.ifCond .eq 13, 3) := zdc_63.2.2.2.2.2.2.2.2.1
theorem dX2_readLine_69 : decode cX2_readLine 69 = .ok (.aload_n 0, 1) := zdc_63.2.2.2.2.2.2.2.2.2
theorem zdc_64 : decode cX2_readLine 70 = .ok (.iconst 0, 1) ∧ decode cX2_readLine 71 = .ok (.invokevirtual 50, 3) ∧ decode cX2_readLine 74 = .ok (.ifCond .ne 5, 3) ∧ decode cX2_readLine 77 = .ok (.iconst 0, 1) ∧ decode cX2_readLine 78 = .ok (.ireturn, 1) ∧ decode cX2_readLine 79 = .ok (.aload_n 0, 1) ∧ decode cX2_readLine 80 = .ok (.getfield 14, 3) ∧ decode cX2_readLine 83 = .ok (.iload_n 1, 1) ∧ decode cX2_readLine 84 = .ok (.ifCond .eq 8, 3) ∧ decode cX2_readLine 87 = .ok (.bipush 15, 2) := by decide +kernel
theorem dX2_readLine_70 : decode cX2_readLine 70 = .ok (.iconst 0, 1) := zdc_64.1
theorem dX2_readLine_71 : decode cX2_readLine 71 = .ok (.invokevirtual 50, 3) := zdc_64.2.1
theorem dX2_readLine_74 : decode cX2_readLine 74 = .ok (.ifCond .ne 5, 3) := zdc_64.2.2.1
theorem dX2_readLine_77 : decode cX2_readLine 77 = .ok (.iconst 0, 1) := zdc_64.2.2.2.1
theorem dX2_readLine_78 : decode cX2_readLine 78 = .ok (.ireturn, 1) := zdc_64.2.2.2.2.1
theorem dX2_readLine_79 : decode cX2_readLine 79 = .ok (.aload_n 0, 1) := zdc_64.2.2.2.2.2.1
theorem dX2_readLine_80 : decode cX2_readLine 80 = .ok (.getfield 14, 3) := zdc_64.2.2.2.2.2.2.1
theorem dX2_readLine_83 : decode cX2_readLine 83 = .ok (.iload_n 1, 1) := zdc_64.2.2.2.2.2.2.2.1
theorem dX2_readLine_84 : decode cX2_readLine 84 = .ok (.ifCond .eq 8, 3) := zdc_64.2.2.2.2.2.2.2.2.1
theorem dX2_readLine_87 : decode cX2_readLine 87 = .ok (.bipush 15, 2) := zdc_64.2.2.2.2.2.2.2.2.2
theorem zdc_65 : decode cX2_readLine 89 = .ok (.goto 5, 3) ∧ decode cX2_readLine 92 = .ok (.bipush 16, 2) ∧ decode cX2_readLine 94 = .ok (.iload_n 2, 1) ∧ decode cX2_readLine 95 = .ok (.invokevirtual 54, 3) ∧ decode cX2_readLine 98 = .ok (.pop, 1) ∧ decode cX2_readLine 99 = .ok (.iconst 1, 1) ∧ decode cX2_readLine 100 = .ok (.ireturn, 1) ∧ decode cX2_readCondition 0 = .ok (.iconst (-1), 1) ∧ decode cX2_readCondition 1 = .ok (.istore_n 2, 1) ∧ decode cX2_readCondition 2 = .ok (.iconst (-1), 1) := by decide +kernel
theorem dX2_readLine_89 : decode cX2_readLine 89 = .ok (.goto 5, 3) := zdc_65.1
theorem dX2_readLine_92 : decode cX2_readLine 92 = .ok (.bipush 16, 2) := zdc_65.2.1
theorem dX2_readLine_94 : decode cX2_readLine 94 = .ok (.iload_n 2, 1) := zdc_65.2.2.1
theorem dX2_readLine_95 : decode cX2_readLine 95 = .ok (.invokevirtual 54, 3) := zdc_65.2.2.2.1
theorem dX2_readLine_98 : decode cX2_readLine 98 = .ok (.pop, 1) := zdc_65.2.2.2.2.1
theorem dX2_readLine_99 : decode cX2_readLine 99 = .ok (.iconst 1, 1) := zdc_65.2.2.2.2.2.1
theorem dX2_readLine_100 : decode cX2_readLine 100 = .ok (.ireturn, 1) := zdc_65.2.2.2.2.2.2.1
theorem dX2_readCondition_0 : decode cX2_readCondition 0 = .ok (.iconst (-1), 1) := zdc_65.2.2.2.2.2.2.2.1
theorem dX2_readCondition_1 : decode cX2_readCondition 1 = .ok (.istore_n 2, 1) := zdc_65.2.2.2.2.2.2.2.2.1
theorem dX2_readCondition_2 : decode cX2_readCondition 2 = .ok (.iconst (-1), 1) := zdc_65.2.2.2.2.2.2.2.2.2
theorem zdc_66 : decode cX2_readCondition 3 = .ok (.istore_n 3, 1) ∧ decode cX2_readCondition 4 = .ok (.iconst 0, 1) ∧ decode cX2_readCondition 5 = .ok (.istore 4, 2) ∧ decode cX2_readCondition 7 = .ok (.iload 4, 2) ∧ decode cX2_readCondition 9 = .ok (.sipush 400, 3) ∧ decode cX2_readCondition 12 = .ok (.if_icmp .ge 88, 3) ∧ decode cX2_readCondition 15 = .ok (.aload_n 0, 1) ∧ decode cX2_readCondition 16 = .ok (.iload_n 1, 1) ∧ decode cX2_readCondition 17 = .ok (.invokevirtual 57, 3) ∧ decode cX2_readCondition 20 = .ok (.ifCond .ne 5, 3) := by decide +kernel
theorem dX2_readCondition_3 : decode cX2_readCondition 3 = .ok (.istore_n 3, 1) := zdc_66.1
theorem dX2_readCondition_4 : decode cX2_readCondition 4 = .ok (.iconst 0, 1) := zdc_66.2.1
theorem dX2_readCondition_5 : decode cX2_readCondition 5 = .ok (.istore 4, 2) := zdc_66.2.2.1
theorem dX2_readCondition_7 : decode cX2_readCondition 7 = .ok (.iload 4, 2) := zdc_66.2.2.2.1
theorem dX2_readCondition_9 : decode cX2_readCondition 9 = .ok (.sipush 400, 3) := zdc_66.2.2.2.2.1
theorem dX2_readCondition_12 : decode cX2_readCondition 12 = .ok (.if_icmp .ge 88, 3) := zdc_66.2.2.2.2.2.1
theorem dX2_readCondition_15 : decode cX2_readCondition 15 = .ok (.aload_n 0, 1) := zdc_66.2.2.2.2.2.2.1
theorem dX2_readCondition_16 : decode cX2_readCondition 16 = .ok (.iload_n 1, 1) := zdc_66.2.2.2.2.2.2.2.1
theorem dX2_readCondition_17 : decode cX2_readCondition 17 = .ok (.invokevirtual 57, 3) := zdc_66.2.2.2.2.2.2.2.2.1
theorem dX2_readCondition_20 : decode cX2_readCondition 20 = .ok (.ifCond .ne 5, 3) := zdc_66.2.2.2.2.2.2.2.2.2
theorem zdc_67 : decode cX2_readCondition 23 = .ok (.iconst 0, 1) ∧ decode cX2_readCondition 24 = .ok (.ireturn, 1) ∧ decode cX2_readCondition 25 = .ok (.aload_n 0, 1) ∧ decode cX2_readCondition 26 = .ok (.getfield 14, 3) ∧ decode cX2_readCondition 29 = .ok (.iload_n 3, 1) ∧ decode cX2_readCondition 30 = .ok (.invokevirtual 60, 3) ∧ decode cX2_readCondition 33 = .ok (.iconst (-1), 1) ∧ decode cX2_readCondition 34 = .ok (.istore_n 3, 1) ∧ decode cX2_readCondition 35 = .ok (.aload_n 0, 1) ∧ decode cX2_readCondition 36 = .ok (.getfield 20, 3) := by decide +kernel
theorem dX2_readCondition_23 : decode cX2_readCondition 23 = .ok (.iconst 0, 1) := zdc_67.1
theorem dX2_readCondition_24 : decode cX2_readCondition 24 = .ok (.ireturn, 1) := zdc_67.2.1
theorem dX2_readCondition_25 : decode cX2_readCondition 25 = .ok (.aload_n 0, 1) := zdc_67.2.2.1
theorem dX2_readCondition_26 : decode cX2_readCondition 26 = .ok (.getfield 14, 3) := zdc_67.2.2.2.1
theorem dX2_readCondition_29 : decode cX2_readCondition 29 = .ok (.iload_n 3, 1) := zdc_67.2.2.2.2.1
theorem dX2_readCondition_30 : decode cX2_readCondition 30 = .ok (.invokevirtual 60, 3) := zdc_67.2.2.2.2.2.1
theorem dX2_readCondition_33 : decode cX2_readCondition 33 = .ok (.iconst (-1), 1) := zdc_67.2.2.2.2.2.2.1
theorem dX2_readCondition_34 : decode cX2_readCondition 34 = .ok (.istore_n 3, 1) := zdc_67.2.2.2.2.2.2.2.1
theorem dX2_readCondition_35 : decode cX2_readCondition 35 = .ok (.aload_n 0, 1) := zdc_67.2.2.2.2.2.2.2.2.1
theorem dX2_readCondition_36 : decode cX2_readCondition 36 = .ok (.getfield 20, 3) := zdc_67.2.2.2.2.2.2.2.2.2
theorem zdc_68 : decode cX2_readCondition 39 = .ok (.ldc 64, 2) ∧ decode cX2_readCondition 41 = .ok (.invokevirtual 47, 3) ∧ decode cX2_readCondition 44 = .ok (.ifCond .eq 17, 3) ∧ decode cX2_readCondition 47 = .ok (.aload_n 0, 1) ∧ decode cX2_readCondition 48 = .ok (.getfield 14, 3) ∧ decode cX2_readCondition 51 = .ok (.bipush 13, 2) ∧ decode cX2_readCondition 53 = .ok (.iconst 0, 1) ∧ decode cX2_readCondition 54 = .ok (.invokevirtual 54, 3) ∧ decode cX2_readCondition 57 = .ok (.istore_n 3, 1) ∧ decode cX2_readCondition 58 = .ok (.goto 36, 3) := by decide +kernel
theorem dX2_readCondition_39 : decode cX2_readCondition 39 = .ok (.ldc 64, 2) := zdc_68.1
theorem dX2_readCondition_41 : decode cX2_readCondition 41 = .ok (.invokevirtual 47, 3) := zdc_68.2.1
theorem dX2_readCondition_44 : decode cX2_readCondition 44 = .ok (.ifCond .eq 17, 3) := zdc_68.2.2.1
theorem dX2_readCondition_47 : decode cX2_readCondition 47 = .ok (.aload_n 0, 1) := zdc_68.2.2.2.1
theorem dX2_readCondition_48 : decode cX2_readCondition 48 = .ok (.getfield 14, 3) := zdc_68.2.2.2.2.1
theorem dX2_readCondition_51 : decode cX2_readCondition 51 = .ok (.bipush 13, 2) := zdc_68.2.2.2.2.2.1
theorem dX2_readCondition_53 : decode cX2_readCondition 53 = .ok (.iconst 0, 1) := zdc_68.2.2.2.2.2.2.1
theorem dX2_readCondition_54 : decode cX2_readCondition 54 = .ok (.invokevirtual 54, 3) := zdc_68.2.2.2.2.2.2.2.1
theorem dX2_readCondition_57 : decode cX2_readCondition 57 = .ok (.istore_n 3, 1) := zdc_68.2.2.2.2.2.2.2.2.1
theorem dX2_readCondition_58 : decode cX2_readCondition 58 = .ok (.goto 36, 3) := zdc_68.2.2.2.2.2.2.2.2.2
theorem zdc_69 : decode cX2_readCondition 61 = .ok (.aload_n 0, 1) ∧ decode cX2_readCondition 62 = .ok (.getfield 14, 3) ∧ decode cX2_readCondition 65 = .ok (.iload_n 2, 1) ∧ decode cX2_readCondition 66 = .ok (.invokevirtual 60, 3) ∧ decode cX2_readCondition 69 = .ok (.aload_n 0, 1) ∧ decode cX2_readCondition 70 = .ok (.getfield 20, 3) ∧ decode cX2_readCondition 73 = .ok (.ldc 66, 2) ∧ decode cX2_readCondition 75 = .ok (.invokevirtual 47, 3) ∧ decode cX2_readCondition 78 = .ok (.ifCond .ne 5, 3) ∧ decode cX2_readCondition 81 = .ok (.iconst 1, 1) := by decide +kernel
theorem dX2_readCondition_61 : decode cX2_readCondition 61 = .ok (.aload_n 0, 1) := zdc_69.1
theorem dX2_readCondition_62 : decode cX2_readCondition 62 = .ok (.getfield 14, 3) := zdc_69.2.1
theorem dX2_readCondition_65 : decode cX2_readCondition 65 = .ok (.iload_n 2, 1) := zdc_69.2.2.1
theorem dX2_readCondition_66 : decode cX2_readCondition 66 = .ok (.invokevirtual 60, 3) := zdc_69.2.2.2.1
theorem dX2_readCondition_69 : decode cX2_readCondition 69 = .ok (.aload_n 0, 1) := zdc_69.2.2.2.2.1
theorem dX2_readCondition_70 : decode cX2_readCondition 70 = .ok (.getfield 20, 3) := zdc_69.2.2.2.2.2.1
theorem dX2_readCondition_73 : decode cX2_readCondition 73 = .ok (.ldc 66, 2) := zdc_69.2.2.2.2.2.2.1
theorem dX2_readCondition_75 : decode cX2_readCondition 75 = .ok (.invokevirtual 47, 3) := zdc_69.2.2.2.2.2.2.2.1
theorem dX2_readCondition_78 : decode cX2_readCondition 78 = .ok (.ifCond .ne 5, 3) := zdc_69.2.2.2.2.2.2.2.2.1
theorem dX2_readCondition_81 : decode cX2_readCondition 81 = .ok (.iconst 1, 1) := zdc_69.2.2.2.2.2.2.2.2.2
theorem zdc_70 : decode cX2_readCondition 82 = .ok (.ireturn, 1) ∧ decode cX2_readCondition 83 = .ok (.aload_n 0, 1) ∧ decode cX2_readCondition 84 = .ok (.getfield 14, 3) ∧ decode cX2_readCondition 87 = .ok (.bipush 14, 2) ∧ decode cX2_readCondition 89 = .ok (.iconst 0, 1) ∧ decode cX2_readCondition 90 = .ok (.invokevirtual 54, 3) ∧ decode cX2_readCondition 93 = .ok (.istore_n 2, 1) ∧ decode cX2_readCondition 94 = .ok (.iinc 4 1, 3) ∧ decode cX2_readCondition 97 = .ok (.goto (-90), 3) ∧ decode cX2_readCondition 100 = .ok (.aload_n 0, 1) := by decide +kernel
theorem dX2_readCondition_82 : decode cX2_readCondition 82 = .ok (.ireturn, 1) := zdc_70.1
theorem dX2_readCondition_83 : decode cX2_readCondition 83 = .ok (.aload_n 0, 1) := zdc_70.2.1
theorem dX2_readCondition_84 : decode cX2_readCondition 84 = .ok (.getfield 14, 3) := zdc_70.2.2.1
theorem dX2_readCondition_87 : decode cX2_readCondition 87 = .ok (.bipush 14, 2) := zdc_70.2.2.2.1
theorem dX2_readCondition_89 : decode cX2_readCondition 89 = .ok (.iconst 0, 1) := zdc_70.2.2.2.2.1
theorem dX2_readCondition_90 : decode cX2_readCondition 90 = .ok (.invokevirtual 54, 3) := zdc_70.2.2.2.2.2.1
theorem dX2_readCondition_93 : decode cX2_readCondition 93 = .ok (.istore_n 2, 1) := zdc_70.2.2.2.2.2.2.1
theorem dX2_readCondition_94 : decode cX2_readCondition 94 = .ok (.iinc 4 1, 3) := zdc_70.2.2.2.2.2.2.2.1
theorem dX2_readCondition_97 : decode cX2_readCondition 97 = .ok (.goto (-90), 3) := zdc_70.2.2.2.2.2.2.2.2.1
theorem dX2_readCondition_100 : decode cX2_readCondition 100 = .ok (.aload_n 0, 1) := zdc_70.2.2.2.2.2.2.2.2.2
theorem zdc_71 : decode cX2_readCondition 101 = .ok (.getfield 20, 3) ∧ decode cX2_readCondition 104 = .ok (.invokevirtual 34, 3) ∧ decode cX2_readCondition 107 = .ok (.ireturn, 1) ∧ decode cX2_readAtom 0 = .ok (.aload_n 0, 1) ∧ decode cX2_readAtom 1 = .ok (.getfield 20, 3) ∧ decode cX2_readAtom 4 = .ok (.ldc 68, 2) ∧ decode cX2_readAtom 6 = .ok (.invokevirtual 26, 3) ∧ decode cX2_readAtom 9 = .ok (.ifCond .ne 15, 3) ∧ decode cX2_readAtom 12 = .ok (.aload_n 0, 1) ∧ decode cX2_readAtom 13 = .ok (.getfield 20, 3) := by decide +kernel
theorem dX2_readCondition_101 : decode cX2_readCondition 101 = .ok (.getfield 20, 3) := zdc_71.1
theorem dX2_readCondition_104 : decode cX2_readCondition 104 = .ok (.invokevirtual 34, 3) := zdc_71.2.1
theorem dX2_readCondition_107 : decode cX2_readCondition 107 = .ok (.ireturn, 1) := zdc_71.2.2.1
theorem dX2_readAtom_0 : decode cX2_readAtom 0 = .ok (.aload_n 0, 1) := zdc_71.2.2.2.1
theorem dX2_readAtom_1 : decode cX2_readAtom 1 = .ok (.getfield 20, 3) := zdc_71.2.2.2.2.1
theorem dX2_readAtom_4 : decode cX2_readAtom 4 = .ok (.ldc 68, 2) := zdc_71.2.2.2.2.2.1
theorem dX2_readAtom_6 : decode cX2_readAtom 6 = .ok (.invokevirtual 26, 3) := zdc_71.2.2.2.2.2.2.1
theorem dX2_readAtom_9 : decode cX2_readAtom 9 = .ok (.ifCond .ne 15, 3) := zdc_71.2.2.2.2.2.2.2.1
theorem dX2_readAtom_12 : decode cX2_readAtom 12 = .ok (.aload_n 0, 1) := zdc_71.2.2.2.2.2.2.2.2.1
theorem dX2_readAtom_13 : decode cX2_readAtom 13 = .ok (.getfield 20, 3) := zdc_71.2.2.2.2.2.2.2.2.2
theorem zdc_72 : decode cX2_readAtom 16 = .ok (.bipush 40, 2) ∧ decode cX2_readAtom 18 = .ok (.invokevirtual 70, 3) ∧ decode cX2_readAtom 21 = .ok (.ifCond .eq 27, 3) ∧ decode cX2_readAtom 24 = .ok (.iload_n 1, 1) ∧ decode cX2_readAtom 25 = .ok (.bipush 6, 2) ∧ decode cX2_readAtom 27 = .ok (.if_icmp .ge 13, 3) ∧ decode cX2_readAtom 30 = .ok (.aload_n 0, 1) ∧ decode cX2_readAtom 31 = .ok (.iload_n 1, 1) ∧ decode cX2_readAtom 32 = .ok (.iconst 1, 1) ∧ decode cX2_readAtom 33 = .ok (.iadd, 1) := by decide +kernel
theorem dX2_readAtom_16 : decode cX2_readAtom 16 = .ok (.bipush 40, 2) := zdc_72.1
theorem dX2_readAtom_18 : decode cX2_readAtom 18 = .ok (.invokevirtual 70, 3) := zdc_72.2.1
theorem dX2_readAtom_21 : decode cX2_readAtom 21 = .ok (.ifCond .eq 27, 3) := zdc_72.2.2.1
theorem dX2_readAtom_24 : decode cX2_readAtom 24 = .ok (.iload_n 1, 1) := zdc_72.2.2.2.1
theorem dX2_readAtom_25 : decode cX2_readAtom 25 = .ok (.bipush 6, 2) := zdc_72.2.2.2.2.1
theorem dX2_readAtom_27 : decode cX2_readAtom 27 = .ok (.if_icmp .ge 13, 3) := zdc_72.2.2.2.2.2.1
theorem dX2_readAtom_30 : decode cX2_readAtom 30 = .ok (.aload_n 0, 1) := zdc_72.2.2.2.2.2.2.1
theorem dX2_readAtom_31 : decode cX2_readAtom 31 = .ok (.iload_n 1, 1) := zdc_72.2.2.2.2.2.2.2.1
theorem dX2_readAtom_32 : decode cX2_readAtom 32 = .ok (.iconst 1, 1) := zdc_72.2.2.2.2.2.2.2.2.1
theorem dX2_readAtom_33 : decode cX2_readAtom 33 = .ok (.iadd, 1) := zdc_72.2.2.2.2.2.2.2.2.2
theorem zdc_73 : decode cX2_readAtom 34 = .ok (.invokevirtual 74, 3) ∧ decode cX2_readAtom 37 = .ok (.goto 10, 3) ∧ decode cX2_readAtom 40 = .ok (.aload_n 0, 1) ∧ decode cX2_readAtom 41 = .ok (.getfield 20, 3) ∧ decode cX2_readAtom 44 = .ok (.invokevirtual 34, 3) ∧ decode cX2_readAtom 47 = .ok (.ireturn, 1) ∧ decode cX2_readAtom 48 = .ok (.aload_n 0, 1) ∧ decode cX2_readAtom 49 = .ok (.getfield 20, 3) ∧ decode cX2_readAtom 52 = .ok (.ldc 77, 2) ∧ decode cX2_readAtom 54 = .ok (.invokevirtual 47, 3) := by decide +kernel
theorem dX2_readAtom_34 : decode cX2_readAtom 34 = .ok (.invokevirtual 74, 3) := zdc_73.1
theorem dX2_readAtom_37 : decode cX2_readAtom 37 = .ok (.goto 10, 3) := zdc_73.2.1
theorem dX2_readAtom_40 : decode cX2_readAtom 40 = .ok (.aload_n 0, 1) := zdc_73.2.2.1
theorem dX2_readAtom_41 : decode cX2_readAtom 41 = .ok (.getfield 20, 3) := zdc_73.2.2.2.1
theorem dX2_readAtom_44 : decode cX2_readAtom 44 = .ok (.invokevirtual 34, 3) := zdc_73.2.2.2.2.1
theorem dX2_readAtom_47 : decode cX2_readAtom 47 = .ok (.ireturn, 1) := zdc_73.2.2.2.2.2.1
theorem dX2_readAtom_48 : decode cX2_readAtom 48 = .ok (.aload_n 0, 1) := zdc_73.2.2.2.2.2.2.1
theorem dX2_readAtom_49 : decode cX2_readAtom 49 = .ok (.getfield 20, 3) := zdc_73.2.2.2.2.2.2.2.1
theorem dX2_readAtom_52 : decode cX2_readAtom 52 = .ok (.ldc 77, 2) := zdc_73.2.2.2.2.2.2.2.2.1
theorem dX2_readAtom_54 : decode cX2_readAtom 54 = .ok (.invokevirtual 47, 3) := zdc_73.2.2.2.2.2.2.2.2.2
theorem zdc_74 : decode cX2_readAtom 57 = .ok (.ifCond .eq 16, 3) ∧ decode cX2_readAtom 60 = .ok (.aload_n 0, 1) ∧ decode cX2_readAtom 61 = .ok (.getfield 14, 3) ∧ decode cX2_readAtom 64 = .ok (.bipush 10, 2) ∧ decode cX2_readAtom 66 = .ok (.iconst 0, 1) ∧ decode cX2_readAtom 67 = .ok (.invokevirtual 54, 3) ∧ decode cX2_readAtom 70 = .ok (.pop, 1) ∧ decode cX2_readAtom 71 = .ok (.iconst 1, 1) ∧ decode cX2_readAtom 72 = .ok (.ireturn, 1) ∧ decode cX2_readAtom 73 = .ok (.aload_n 0, 1) := by decide +kernel
theorem dX2_readAtom_57 : decode cX2_readAtom 57 = .ok (.ifCond .eq 16, 3) := zdc_74.1
theorem dX2_readAtom_60 : decode cX2_readAtom 60 = .ok (.aload_n 0, 1) := zdc_74.2.1
theorem dX2_readAtom_61 : decode cX2_readAtom 61 = .ok (.getfield 14, 3) := zdc_74.2.2.1
theorem dX2_readAtom_64 : decode cX2_readAtom 64 = .ok (.bipush 10, 2) := zdc_74.2.2.2.1
theorem dX2_readAtom_66 : decode cX2_readAtom 66 = .ok (.iconst 0, 1) := zdc_74.2.2.2.2.1
theorem dX2_readAtom_67 : decode cX2_readAtom 67 = .ok (.invokevirtual 54, 3) := zdc_74.2.2.2.2.2.1
theorem dX2_readAtom_70 : decode cX2_readAtom 70 = .ok (.pop, 1) := zdc_74.2.2.2.2.2.2.1
theorem dX2_readAtom_71 : decode cX2_readAtom 71 = .ok (.iconst 1, 1) := zdc_74.2.2.2.2.2.2.2.1
theorem dX2_readAtom_72 : decode cX2_readAtom 72 = .ok (.ireturn, 1) := zdc_74.2.2.2.2.2.2.2.2.1
theorem dX2_readAtom_73 : decode cX2_readAtom 73 = .ok (.aload_n 0, 1) := zdc_74.2.2.2.2.2.2.2.2.2
theorem zdc_75 : decode cX2_readAtom 74 = .ok (.getfield 20, 3) ∧ decode cX2_readAtom 77 = .ok (.ldc 79, 2) ∧ decode cX2_readAtom 79 = .ok (.invokevirtual 47, 3) ∧ decode cX2_readAtom 82 = .ok (.ifCond .eq 16, 3) ∧ decode cX2_readAtom 85 = .ok (.aload_n 0, 1) ∧ decode cX2_readAtom 86 = .ok (.getfield 14, 3) ∧ decode cX2_readAtom 89 = .ok (.bipush 11, 2) ∧ decode cX2_readAtom 91 = .ok (.iconst 0, 1) ∧ decode cX2_readAtom 92 = .ok (.invokevirtual 54, 3) ∧ decode cX2_readAtom 95 = .ok (.pop, 1) := by decide +kernel
theorem dX2_readAtom_74 : decode cX2_readAtom 74 = .ok (.getfield 20, 3) := zdc_75.1
theorem dX2_readAtom_77 : decode cX2_readAtom 77 = .ok (.ldc 79, 2) := zdc_75.2.1
theorem dX2_readAtom_79 : decode cX2_readAtom 79 = .ok (.invokevirtual 47, 3) := zdc_75.2.2.1
theorem dX2_readAtom_82 : decode cX2_readAtom 82 = .ok (.ifCond .eq 16, 3) := zdc_75.2.2.2.1
theorem dX2_readAtom_85 : decode cX2_readAtom 85 = .ok (.aload_n 0, 1) := zdc_75.2.2.2.2.1
theorem dX2_readAtom_86 : decode cX2_readAtom 86 = .ok (.getfield 14, 3) := zdc_75.2.2.2.2.2.1
theorem dX2_readAtom_89 : decode cX2_readAtom 89 = .ok (.bipush 11, 2) := zdc_75.2.2.2.2.2.2.1
theorem dX2_readAtom_91 : decode cX2_readAtom 91 = .ok (.iconst 0, 1) := zdc_75.2.2.2.2.2.2.2.1
theorem dX2_readAtom_92 : decode cX2_readAtom 92 = .ok (.invokevirtual 54, 3) := zdc_75.2.2.2.2.2.2.2.2.1
theorem dX2_readAtom_95 : decode cX2_readAtom 95 = .ok (.pop, 1) := zdc_75.2.2.2.2.2.2.2.2.2
theorem zdc_76 : decode cX2_readAtom 96 = .ok (.iconst 1, 1) ∧ decode cX2_readAtom 97 = .ok (.ireturn, 1) ∧ decode cX2_readAtom 98 = .ok (.aload_n 0, 1) ∧ decode cX2_readAtom 99 = .ok (.invokevirtual 81, 3) ∧ decode cX2_readAtom 102 = .ok (.ifCond .ne 5, 3) ∧ decode cX2_readAtom 105 = .ok (.iconst 0, 1) ∧ decode cX2_readAtom 106 = .ok (.ireturn, 1) ∧ decode cX2_readAtom 107 = .ok (.aload_n 0, 1) ∧ decode cX2_readAtom 108 = .ok (.getfield 20, 3) ∧ decode cX2_readAtom 111 = .ok (.bipush 60, 2) := by decide +kernel
theorem dX2_readAtom_96 : decode cX2_readAtom 96 = .ok (.iconst 1, 1) := zdc_76.1
theorem dX2_readAtom_97 : decode cX2_readAtom 97 = .ok (.ireturn, 1) := zdc_76.2.1
theorem dX2_readAtom_98 : decode cX2_readAtom 98 = .ok (.aload_n 0, 1) := zdc_76.2.2.1
theorem dX2_readAtom_99 : decode cX2_readAtom 99 = .ok (.invokevirtual 81, 3) := zdc_76.2.2.2.1
theorem dX2_readAtom_102 : decode cX2_readAtom 102 = .ok (.ifCond .ne 5, 3) := zdc_76.2.2.2.2.1
theorem dX2_readAtom_105 : decode cX2_readAtom 105 = .ok (.iconst 0, 1) := zdc_76.2.2.2.2.2.1
theorem dX2_readAtom_106 : decode cX2_readAtom 106 = .ok (.ireturn, 1) := zdc_76.2.2.2.2.2.2.1
theorem dX2_readAtom_107 : decode cX2_readAtom 107 = .ok (.aload_n 0, 1) := zdc_76.2.2.2.2.2.2.2.1
theorem dX2_readAtom_108 : decode cX2_readAtom 108 = .ok (.getfield 20, 3) := zdc_76.2.2.2.2.2.2.2.2.1
theorem dX2_readAtom_111 : decode cX2_readAtom 111 = .ok (.bipush 60, 2) := zdc_76.2.2.2.2.2.2.2.2.2
theorem zdc_77 : decode cX2_readAtom 113 = .ok (.invokevirtual 70, 3) ∧ decode cX2_readAtom 116 = .ok (.istore_n 2, 1) ∧ decode cX2_readAtom 117 = .ok (.iload_n 2, 1) ∧ decode cX2_readAtom 118 = .ok (.ifCond .ne 23, 3) ∧ decode cX2_readAtom 121 = .ok (.aload_n 0, 1) ∧ decode cX2_readAtom 122 = .ok (.getfield 20, 3) ∧ decode cX2_readAtom 125 = .ok (.bipush 62, 2) ∧ decode cX2_readAtom 127 = .ok (.invokevirtual 70, 3) ∧ decode cX2_readAtom 130 = .ok (.ifCond .ne 11, 3) ∧ decode cX2_readAtom 133 = .ok (.aload_n 0, 1) := by decide +kernel
theorem dX2_readAtom_113 : decode cX2_readAtom 113 = .ok (.invokevirtual 70, 3) := zdc_77.1
theorem dX2_readAtom_116 : decode cX2_readAtom 116 = .ok (.istore_n 2, 1) := zdc_77.2.1
theorem dX2_readAtom_117 : decode cX2_readAtom 117 = .ok (.iload_n 2, 1) := zdc_77.2.2.1
theorem dX2_readAtom_118 : decode cX2_readAtom 118 = .ok (.ifCond .ne 23, 3) := zdc_77.2.2.2.1
theorem dX2_readAtom_121 : decode cX2_readAtom 121 = .ok (.aload_n 0, 1) := zdc_77.2.2.2.2.1
theorem dX2_readAtom_122 : decode cX2_readAtom 122 = .ok (.getfield 20, 3) := zdc_77.2.2.2.2.2.1
theorem dX2_readAtom_125 : decode cX2_readAtom 125 = .ok (.bipush 62, 2) := zdc_77.2.2.2.2.2.2.1
theorem dX2_readAtom_127 : decode cX2_readAtom 127 = .ok (.invokevirtual 70, 3) := zdc_77.2.2.2.2.2.2.2.1
theorem dX2_readAtom_130 : decode cX2_readAtom 130 = .ok (.ifCond .ne 11, 3) := zdc_77.2.2.2.2.2.2.2.2.1
theorem dX2_readAtom_133 : decode cX2_readAtom 133 = .ok (.aload_n 0, 1) := zdc_77.2.2.2.2.2.2.2.2.2
theorem zdc_78 : decode cX2_readAtom 134 = .ok (.getfield 20, 3) ∧ decode cX2_readAtom 137 = .ok (.invokevirtual 34, 3) ∧ decode cX2_readAtom 140 = .ok (.ireturn, 1) ∧ decode cX2_readAtom 141 = .ok (.aload_n 0, 1) ∧ decode cX2_readAtom 142 = .ok (.getfield 20, 3) ∧ decode cX2_readAtom 145 = .ok (.invokevirtual 38, 3) ∧ decode cX2_readAtom 148 = .ok (.aload_n 0, 1) ∧ decode cX2_readAtom 149 = .ok (.getfield 14, 3) ∧ decode cX2_readAtom 152 = .ok (.bipush 7, 2) ∧ decode cX2_readAtom 154 = .ok (.iconst 0, 1) := by decide +kernel
theorem dX2_readAtom_134 : decode cX2_readAtom 134 = .ok (.getfield 20, 3) := zdc_78.1
theorem dX2_readAtom_137 : decode cX2_readAtom 137 = .ok (.invokevirtual 34, 3) := zdc_78.2.1
theorem dX2_readAtom_140 : decode cX2_readAtom 140 = .ok (.ireturn, 1) := zdc_78.2.2.1
theorem dX2_readAtom_141 : decode cX2_readAtom 141 = .ok (.aload_n 0, 1) := zdc_78.2.2.2.1
theorem dX2_readAtom_142 : decode cX2_readAtom 142 = .ok (.getfield 20, 3) := zdc_78.2.2.2.2.1
theorem dX2_readAtom_145 : decode cX2_readAtom 145 = .ok (.invokevirtual 38, 3) := zdc_78.2.2.2.2.2.1
theorem dX2_readAtom_148 : decode cX2_readAtom 148 = .ok (.aload_n 0, 1) := zdc_78.2.2.2.2.2.2.1
theorem dX2_readAtom_149 : decode cX2_readAtom 149 = .ok (.getfield 14, 3) := zdc_78.2.2.2.2.2.2.2.1
theorem dX2_readAtom_152 : decode cX2_readAtom 152 = .ok (.bipush 7, 2) := zdc_78.2.2.2.2.2.2.2.2.1
theorem dX2_readAtom_154 : decode cX2_readAtom 154 = .ok (.iconst 0, 1) := zdc_78.2.2.2.2.2.2.2.2.2
theorem zdc_79 : decode cX2_readAtom 155 = .ok (.invokevirtual 54, 3) ∧ decode cX2_readAtom 158 = .ok (.pop, 1) ∧ decode cX2_readAtom 159 = .ok (.aload_n 0, 1) ∧ decode cX2_readAtom 160 = .ok (.invokevirtual 81, 3) ∧ decode cX2_readAtom 163 = .ok (.ifCond .ne 5, 3) ∧ decode cX2_readAtom 166 = .ok (.iconst 0, 1) ∧ decode cX2_readAtom 167 = .ok (.ireturn, 1) ∧ decode cX2_readAtom 168 = .ok (.aload_n 0, 1) ∧ decode cX2_readAtom 169 = .ok (.getfield 14, 3) ∧ decode cX2_readAtom 172 = .ok (.iload_n 2, 1) := by decide +kernel
theorem dX2_readAtom_155 : decode cX2_readAtom 155 = .ok (.invokevirtual 54, 3) := zdc_79.1
theorem dX2_readAtom_158 : decode cX2_readAtom 158 = .ok (.pop, 1) := zdc_79.2.1
theorem dX2_readAtom_159 : decode cX2_readAtom 159 = .ok (.aload_n 0, 1) := zdc_79.2.2.1
theorem dX2_readAtom_160 : decode cX2_readAtom 160 = .ok (.invokevirtual 81, 3) := zdc_79.2.2.2.1
theorem dX2_readAtom_163 : decode cX2_readAtom 163 = .ok (.ifCond .ne 5, 3) := zdc_79.2.2.2.2.1
theorem dX2_readAtom_166 : decode cX2_readAtom 166 = .ok (.iconst 0, 1) := zdc_79.2.2.2.2.2.1
theorem dX2_readAtom_167 : decode cX2_readAtom 167 = .ok (.ireturn, 1) := zdc_79.2.2.2.2.2.2.1
theorem dX2_readAtom_168 : decode cX2_readAtom 168 = .ok (.aload_n 0, 1) := zdc_79.2.2.2.2.2.2.2.1
theorem dX2_readAtom_169 : decode cX2_readAtom 169 = .ok (.getfield 14, 3) := zdc_79.2.2.2.2.2.2.2.2.1
theorem dX2_readAtom_172 : decode cX2_readAtom 172 = .ok (.iload_n 2, 1) := zdc_79.2.2.2.2.2.2.2.2.2
theorem zdc_80 : decode cX2_readAtom 173 = .ok (.ifCond .eq 8, 3) ∧ decode cX2_readAtom 176 = .ok (.bipush 8, 2) ∧ decode cX2_readAtom 178 = .ok (.goto 5, 3) ∧ decode cX2_readAtom 181 = .ok (.bipush 9, 2) ∧ decode cX2_readAtom 183 = .ok (.iconst 0, 1) ∧ decode cX2_readAtom 184 = .ok (.invokevirtual 54, 3) ∧ decode cX2_readAtom 187 = .ok (.pop, 1) ∧ decode cX2_readAtom 188 = .ok (.iconst 1, 1) ∧ decode cX2_readAtom 189 = .ok (.ireturn, 1) ∧ decode cX2_readDeeper 0 = .ok (.aload_n 0, 1) := by decide +kernel
theorem dX2_readAtom_173 : decode cX2_readAtom 173 = .ok (.ifCond .eq 8, 3) := zdc_80.1
theorem dX2_readAtom_176 : decode cX2_readAtom 176 = .ok (.bipush 8, 2) := zdc_80.2.1
theorem dX2_readAtom_178 : decode cX2_readAtom 178 = .ok (.goto 5, 3) := zdc_80.2.2.1
theorem dX2_readAtom_181 : decode cX2_readAtom 181 = .ok (.bipush 9, 2) := zdc_80.2.2.2.1
theorem dX2_readAtom_183 : decode cX2_readAtom 183 = .ok (.iconst 0, 1) := zdc_80.2.2.2.2.1
theorem dX2_readAtom_184 : decode cX2_readAtom 184 = .ok (.invokevirtual 54, 3) := zdc_80.2.2.2.2.2.1
theorem dX2_readAtom_187 : decode cX2_readAtom 187 = .ok (.pop, 1) := zdc_80.2.2.2.2.2.2.1
theorem dX2_readAtom_188 : decode cX2_readAtom 188 = .ok (.iconst 1, 1) := zdc_80.2.2.2.2.2.2.2.1
theorem dX2_readAtom_189 : decode cX2_readAtom 189 = .ok (.ireturn, 1) := zdc_80.2.2.2.2.2.2.2.2.1
theorem dX2_readDeeper_0 : decode cX2_readDeeper 0 = .ok (.aload_n 0, 1) := zdc_80.2.2.2.2.2.2.2.2.2
theorem zdc_81 : decode cX2_readDeeper 1 = .ok (.getfield 20, 3) ∧ decode cX2_readDeeper 4 = .ok (.bipush 40, 2) ∧ decode cX2_readDeeper 6 = .ok (.invokevirtual 84, 3) ∧ decode cX2_readDeeper 9 = .ok (.ifCond .eq 39, 3) ∧ decode cX2_readDeeper 12 = .ok (.aload_n 0, 1) ∧ decode cX2_readDeeper 13 = .ok (.iload_n 1, 1) ∧ decode cX2_readDeeper 14 = .ok (.invokevirtual 50, 3) ∧ decode cX2_readDeeper 17 = .ok (.ifCond .eq 29, 3) ∧ decode cX2_readDeeper 20 = .ok (.aload_n 0, 1) ∧ decode cX2_readDeeper 21 = .ok (.getfield 20, 3) := by decide +kernel
theorem dX2_readDeeper_1 : decode cX2_readDeeper 1 = .ok (.getfield 20, 3) := zdc_81.1
theorem dX2_readDeeper_4 : decode cX2_readDeeper 4 = .ok (.bipush 40, 2) := zdc_81.2.1
theorem dX2_readDeeper_6 : decode cX2_readDeeper 6 = .ok (.invokevirtual 84, 3) := zdc_81.2.2.1
theorem dX2_readDeeper_9 : decode cX2_readDeeper 9 = .ok (.ifCond .eq 39, 3) := zdc_81.2.2.2.1
theorem dX2_readDeeper_12 : decode cX2_readDeeper 12 = .ok (.aload_n 0, 1) := zdc_81.2.2.2.2.1
theorem dX2_readDeeper_13 : decode cX2_readDeeper 13 = .ok (.iload_n 1, 1) := zdc_81.2.2.2.2.2.1
theorem dX2_readDeeper_14 : decode cX2_readDeeper 14 = .ok (.invokevirtual 50, 3) := zdc_81.2.2.2.2.2.2.1
theorem dX2_readDeeper_17 : decode cX2_readDeeper 17 = .ok (.ifCond .eq 29, 3) := zdc_81.2.2.2.2.2.2.2.1
theorem dX2_readDeeper_20 : decode cX2_readDeeper 20 = .ok (.aload_n 0, 1) := zdc_81.2.2.2.2.2.2.2.2.1
theorem dX2_readDeeper_21 : decode cX2_readDeeper 21 = .ok (.getfield 20, 3) := zdc_81.2.2.2.2.2.2.2.2.2
theorem zdc_82 : decode cX2_readDeeper 24 = .ok (.bipush 41, 2) ∧ decode cX2_readDeeper 26 = .ok (.invokevirtual 84, 3) ∧ decode cX2_readDeeper 29 = .ok (.ifCond .ne 13, 3) ∧ decode cX2_readDeeper 32 = .ok (.aload_n 0, 1) ∧ decode cX2_readDeeper 33 = .ok (.getfield 20, 3) ∧ decode cX2_readDeeper 36 = .ok (.invokevirtual 34, 3) ∧ decode cX2_readDeeper 39 = .ok (.ifCond .eq 7, 3) ∧ decode cX2_readDeeper 42 = .ok (.iconst 1, 1) ∧ decode cX2_readDeeper 43 = .ok (.goto 4, 3) ∧ decode cX2_readDeeper 46 = .ok (.iconst 0, 1) := by decide +kernel
theorem dX2_readDeeper_24 : decode cX2_readDeeper 24 = .ok (.bipush 41, 2) := zdc_82.1
theorem dX2_readDeeper_26 : decode cX2_readDeeper 26 = .ok (.invokevirtual 84, 3) := zdc_82.2.1
theorem dX2_readDeeper_29 : decode cX2_readDeeper 29 = .ok (.ifCond .ne 13, 3) := zdc_82.2.2.1
theorem dX2_readDeeper_32 : decode cX2_readDeeper 32 = .ok (.aload_n 0, 1) := zdc_82.2.2.2.1
theorem dX2_readDeeper_33 : decode cX2_readDeeper 33 = .ok (.getfield 20, 3) := zdc_82.2.2.2.2.1
theorem dX2_readDeeper_36 : decode cX2_readDeeper 36 = .ok (.invokevirtual 34, 3) := zdc_82.2.2.2.2.2.1
theorem dX2_readDeeper_39 : decode cX2_readDeeper 39 = .ok (.ifCond .eq 7, 3) := zdc_82.2.2.2.2.2.2.1
theorem dX2_readDeeper_42 : decode cX2_readDeeper 42 = .ok (.iconst 1, 1) := zdc_82.2.2.2.2.2.2.2.1
theorem dX2_readDeeper_43 : decode cX2_readDeeper 43 = .ok (.goto 4, 3) := zdc_82.2.2.2.2.2.2.2.2.1
theorem dX2_readDeeper_46 : decode cX2_readDeeper 46 = .ok (.iconst 0, 1) := zdc_82.2.2.2.2.2.2.2.2.2
theorem zdc_83 : decode cX2_readDeeper 47 = .ok (.ireturn, 1) ∧ decode cX2_readDeeper 48 = .ok (.aload_n 0, 1) ∧ decode cX2_readDeeper 49 = .ok (.getfield 20, 3) ∧ decode cX2_readDeeper 52 = .ok (.invokevirtual 38, 3) ∧ decode cX2_readDeeper 55 = .ok (.aload_n 0, 1) ∧ decode cX2_readDeeper 56 = .ok (.iload_n 1, 1) ∧ decode cX2_readDeeper 57 = .ok (.invokevirtual 57, 3) ∧ decode cX2_readDeeper 60 = .ok (.ifCond .ne 5, 3) ∧ decode cX2_readDeeper 63 = .ok (.iconst 0, 1) ∧ decode cX2_readDeeper 64 = .ok (.ireturn, 1) := by decide +kernel
theorem dX2_readDeeper_47 : decode cX2_readDeeper 47 = .ok (.ireturn, 1) := zdc_83.1
theorem dX2_readDeeper_48 : decode cX2_readDeeper 48 = .ok (.aload_n 0, 1) := zdc_83.2.1
theorem dX2_readDeeper_49 : decode cX2_readDeeper 49 = .ok (.getfield 20, 3) := zdc_83.2.2.1
theorem dX2_readDeeper_52 : decode cX2_readDeeper 52 = .ok (.invokevirtual 38, 3) := zdc_83.2.2.2.1
theorem dX2_readDeeper_55 : decode cX2_readDeeper 55 = .ok (.aload_n 0, 1) := zdc_83.2.2.2.2.1
theorem dX2_readDeeper_56 : decode cX2_readDeeper 56 = .ok (.iload_n 1, 1) := zdc_83.2.2.2.2.2.1
theorem dX2_readDeeper_57 : decode cX2_readDeeper 57 = .ok (.invokevirtual 57, 3) := zdc_83.2.2.2.2.2.2.1
theorem dX2_readDeeper_60 : decode cX2_readDeeper 60 = .ok (.ifCond .ne 5, 3) := zdc_83.2.2.2.2.2.2.2.1
theorem dX2_readDeeper_63 : decode cX2_readDeeper 63 = .ok (.iconst 0, 1) := zdc_83.2.2.2.2.2.2.2.2.1
theorem dX2_readDeeper_64 : decode cX2_readDeeper 64 = .ok (.ireturn, 1) := zdc_83.2.2.2.2.2.2.2.2.2
theorem zdc_84 : decode cX2_readDeeper 65 = .ok (.aload_n 0, 1) ∧ decode cX2_readDeeper 66 = .ok (.getfield 14, 3) ∧ decode cX2_readDeeper 69 = .ok (.bipush 12, 2) ∧ decode cX2_readDeeper 71 = .ok (.iconst 0, 1) ∧ decode cX2_readDeeper 72 = .ok (.invokevirtual 54, 3) ∧ decode cX2_readDeeper 75 = .ok (.pop, 1) ∧ decode cX2_readDeeper 76 = .ok (.iconst 1, 1) ∧ decode cX2_readDeeper 77 = .ok (.ireturn, 1) ∧ decode cX2_readSum 0 = .ok (.iconst 0, 1) ∧ decode cX2_readSum 1 = .ok (.istore_n 1, 1) := by decide +kernel
theorem dX2_readDeeper_65 : decode cX2_readDeeper 65 = .ok (.aload_n 0, 1) := zdc_84.1
theorem dX2_readDeeper_66 : decode cX2_readDeeper 66 = .ok (.getfield 14, 3) := zdc_84.2.1
theorem dX2_readDeeper_69 : decode cX2_readDeeper 69 = .ok (.bipush 12, 2) := zdc_84.2.2.1
theorem dX2_readDeeper_71 : decode cX2_readDeeper 71 = .ok (.iconst 0, 1) := zdc_84.2.2.2.1
theorem dX2_readDeeper_72 : decode cX2_readDeeper 72 = .ok (.invokevirtual 54, 3) := zdc_84.2.2.2.2.1
theorem dX2_readDeeper_75 : decode cX2_readDeeper 75 = .ok (.pop, 1) := zdc_84.2.2.2.2.2.1
theorem dX2_readDeeper_76 : decode cX2_readDeeper 76 = .ok (.iconst 1, 1) := zdc_84.2.2.2.2.2.2.1
theorem dX2_readDeeper_77 : decode cX2_readDeeper 77 = .ok (.ireturn, 1) := zdc_84.2.2.2.2.2.2.2.1
theorem dX2_readSum_0 : decode cX2_readSum 0 = .ok (.iconst 0, 1) := zdc_84.2.2.2.2.2.2.2.2.1
theorem dX2_readSum_1 : decode cX2_readSum 1 = .ok (.istore_n 1, 1) := zdc_84.2.2.2.2.2.2.2.2.2
theorem zdc_85 : decode cX2_readSum 2 = .ok (.iload_n 1, 1) ∧ decode cX2_readSum 3 = .ok (.sipush 400, 3) ∧ decode cX2_readSum 6 = .ok (.if_icmp .ge 164, 3) ∧ decode cX2_readSum 9 = .ok (.aload_n 0, 1) ∧ decode cX2_readSum 10 = .ok (.getfield 20, 3) ∧ decode cX2_readSum 13 = .ok (.ldc 87, 2) ∧ decode cX2_readSum 15 = .ok (.invokevirtual 26, 3) ∧ decode cX2_readSum 18 = .ok (.ifCond .eq 7, 3) ∧ decode cX2_readSum 21 = .ok (.iconst 1, 1) ∧ decode cX2_readSum 22 = .ok (.goto 85, 3) := by decide +kernel
theorem dX2_readSum_2 : decode cX2_readSum 2 = .ok (.iload_n 1, 1) := zdc_85.1
theorem dX2_readSum_3 : decode cX2_readSum 3 = .ok (.sipush 400, 3) := zdc_85.2.1
theorem dX2_readSum_6 : decode cX2_readSum 6 = .ok (.if_icmp .ge 164, 3) := zdc_85.2.2.1
theorem dX2_readSum_9 : decode cX2_readSum 9 = .ok (.aload_n 0, 1) := zdc_85.2.2.2.1
theorem dX2_readSum_10 : decode cX2_readSum 10 = .ok (.getfield 20, 3) := zdc_85.2.2.2.2.1
theorem dX2_readSum_13 : decode cX2_readSum 13 = .ok (.ldc 87, 2) := zdc_85.2.2.2.2.2.1
theorem dX2_readSum_15 : decode cX2_readSum 15 = .ok (.invokevirtual 26, 3) := zdc_85.2.2.2.2.2.2.1
theorem dX2_readSum_18 : decode cX2_readSum 18 = .ok (.ifCond .eq 7, 3) := zdc_85.2.2.2.2.2.2.2.1
theorem dX2_readSum_21 : decode cX2_readSum 21 = .ok (.iconst 1, 1) := zdc_85.2.2.2.2.2.2.2.2.1
theorem dX2_readSum_22 : decode cX2_readSum 22 = .ok (.goto 85, 3) := zdc_85.2.2.2.2.2.2.2.2.2
theorem zdc_86 : decode cX2_readSum 25 = .ok (.aload_n 0, 1) ∧ decode cX2_readSum 26 = .ok (.getfield 20, 3) ∧ decode cX2_readSum 29 = .ok (.ldc 89, 2) ∧ decode cX2_readSum 31 = .ok (.invokevirtual 26, 3) ∧ decode cX2_readSum 34 = .ok (.ifCond .eq 7, 3) ∧ decode cX2_readSum 37 = .ok (.iconst 2, 1) ∧ decode cX2_readSum 38 = .ok (.goto 69, 3) ∧ decode cX2_readSum 41 = .ok (.aload_n 0, 1) ∧ decode cX2_readSum 42 = .ok (.getfield 20, 3) ∧ decode cX2_readSum 45 = .ok (.ldc 91, 2) := by decide +kernel
theorem dX2_readSum_25 : decode cX2_readSum 25 = .ok (.aload_n 0, 1) := zdc_86.1
theorem dX2_readSum_26 : decode cX2_readSum 26 = .ok (.getfield 20, 3) := zdc_86.2.1
theorem dX2_readSum_29 : decode cX2_readSum 29 = .ok (.ldc 89, 2) := zdc_86.2.2.1
theorem dX2_readSum_31 : decode cX2_readSum 31 = .ok (.invokevirtual 26, 3) := zdc_86.2.2.2.1
theorem dX2_readSum_34 : decode cX2_readSum 34 = .ok (.ifCond .eq 7, 3) := zdc_86.2.2.2.2.1
theorem dX2_readSum_37 : decode cX2_readSum 37 = .ok (.iconst 2, 1) := zdc_86.2.2.2.2.2.1
theorem dX2_readSum_38 : decode cX2_readSum 38 = .ok (.goto 69, 3) := zdc_86.2.2.2.2.2.2.1
theorem dX2_readSum_41 : decode cX2_readSum 41 = .ok (.aload_n 0, 1) := zdc_86.2.2.2.2.2.2.2.1
theorem dX2_readSum_42 : decode cX2_readSum 42 = .ok (.getfield 20, 3) := zdc_86.2.2.2.2.2.2.2.2.1
theorem dX2_readSum_45 : decode cX2_readSum 45 = .ok (.ldc 91, 2) := zdc_86.2.2.2.2.2.2.2.2.2
theorem zdc_87 : decode cX2_readSum 47 = .ok (.invokevirtual 26, 3) ∧ decode cX2_readSum 50 = .ok (.ifCond .eq 7, 3) ∧ decode cX2_readSum 53 = .ok (.iconst 3, 1) ∧ decode cX2_readSum 54 = .ok (.goto 53, 3) ∧ decode cX2_readSum 57 = .ok (.aload_n 0, 1) ∧ decode cX2_readSum 58 = .ok (.getfield 20, 3) ∧ decode cX2_readSum 61 = .ok (.ldc 93, 2) ∧ decode cX2_readSum 63 = .ok (.invokevirtual 26, 3) ∧ decode cX2_readSum 66 = .ok (.ifCond .eq 7, 3) ∧ decode cX2_readSum 69 = .ok (.iconst 4, 1) := by decide +kernel
theorem dX2_readSum_47 : decode cX2_readSum 47 = .ok (.invokevirtual 26, 3) := zdc_87.1
theorem dX2_readSum_50 : decode cX2_readSum 50 = .ok (.ifCond .eq 7, 3) := zdc_87.2.1
theorem dX2_readSum_53 : decode cX2_readSum 53 = .ok (.iconst 3, 1) := zdc_87.2.2.1
theorem dX2_readSum_54 : decode cX2_readSum 54 = .ok (.goto 53, 3) := zdc_87.2.2.2.1
theorem dX2_readSum_57 : decode cX2_readSum 57 = .ok (.aload_n 0, 1) := zdc_87.2.2.2.2.1
theorem dX2_readSum_58 : decode cX2_readSum 58 = .ok (.getfield 20, 3) := zdc_87.2.2.2.2.2.1
theorem dX2_readSum_61 : decode cX2_readSum 61 = .ok (.ldc 93, 2) := zdc_87.2.2.2.2.2.2.1
theorem dX2_readSum_63 : decode cX2_readSum 63 = .ok (.invokevirtual 26, 3) := zdc_87.2.2.2.2.2.2.2.1
theorem dX2_readSum_66 : decode cX2_readSum 66 = .ok (.ifCond .eq 7, 3) := zdc_87.2.2.2.2.2.2.2.2.1
theorem dX2_readSum_69 : decode cX2_readSum 69 = .ok (.iconst 4, 1) := zdc_87.2.2.2.2.2.2.2.2.2
theorem zdc_88 : decode cX2_readSum 70 = .ok (.goto 37, 3) ∧ decode cX2_readSum 73 = .ok (.aload_n 0, 1) ∧ decode cX2_readSum 74 = .ok (.getfield 20, 3) ∧ decode cX2_readSum 77 = .ok (.ldc 95, 2) ∧ decode cX2_readSum 79 = .ok (.invokevirtual 26, 3) ∧ decode cX2_readSum 82 = .ok (.ifCond .eq 7, 3) ∧ decode cX2_readSum 85 = .ok (.iconst 5, 1) ∧ decode cX2_readSum 86 = .ok (.goto 21, 3) ∧ decode cX2_readSum 89 = .ok (.aload_n 0, 1) ∧ decode cX2_readSum 90 = .ok (.getfield 20, 3) := by decide +kernel
theorem dX2_readSum_70 : decode cX2_readSum 70 = .ok (.goto 37, 3) := zdc_88.1
theorem dX2_readSum_73 : decode cX2_readSum 73 = .ok (.aload_n 0, 1) := zdc_88.2.1
theorem dX2_readSum_74 : decode cX2_readSum 74 = .ok (.getfield 20, 3) := zdc_88.2.2.1
theorem dX2_readSum_77 : decode cX2_readSum 77 = .ok (.ldc 95, 2) := zdc_88.2.2.2.1
theorem dX2_readSum_79 : decode cX2_readSum 79 = .ok (.invokevirtual 26, 3) := zdc_88.2.2.2.2.1
theorem dX2_readSum_82 : decode cX2_readSum 82 = .ok (.ifCond .eq 7, 3) := zdc_88.2.2.2.2.2.1
theorem dX2_readSum_85 : decode cX2_readSum 85 = .ok (.iconst 5, 1) := zdc_88.2.2.2.2.2.2.1
theorem dX2_readSum_86 : decode cX2_readSum 86 = .ok (.goto 21, 3) := zdc_88.2.2.2.2.2.2.2.1
theorem dX2_readSum_89 : decode cX2_readSum 89 = .ok (.aload_n 0, 1) := zdc_88.2.2.2.2.2.2.2.2.1
theorem dX2_readSum_90 : decode cX2_readSum 90 = .ok (.getfield 20, 3) := zdc_88.2.2.2.2.2.2.2.2.2
theorem zdc_89 : decode cX2_readSum 93 = .ok (.ldc 97, 2) ∧ decode cX2_readSum 95 = .ok (.invokevirtual 26, 3) ∧ decode cX2_readSum 98 = .ok (.ifCond .eq 8, 3) ∧ decode cX2_readSum 101 = .ok (.bipush 6, 2) ∧ decode cX2_readSum 103 = .ok (.goto 4, 3) ∧ decode cX2_readSum 106 = .ok (.iconst 0, 1) ∧ decode cX2_readSum 107 = .ok (.istore_n 2, 1) ∧ decode cX2_readSum 108 = .ok (.iconst 0, 1) ∧ decode cX2_readSum 109 = .ok (.istore_n 3, 1) ∧ decode cX2_readSum 110 = .ok (.iload_n 2, 1) := by decide +kernel
theorem dX2_readSum_93 : decode cX2_readSum 93 = .ok (.ldc 97, 2) := zdc_89.1
theorem dX2_readSum_95 : decode cX2_readSum 95 = .ok (.invokevirtual 26, 3) := zdc_89.2.1
theorem dX2_readSum_98 : decode cX2_readSum 98 = .ok (.ifCond .eq 8, 3) := zdc_89.2.2.1
theorem dX2_readSum_101 : decode cX2_readSum 101 = .ok (.bipush 6, 2) := zdc_89.2.2.2.1
theorem dX2_readSum_103 : decode cX2_readSum 103 = .ok (.goto 4, 3) := zdc_89.2.2.2.2.1
theorem dX2_readSum_106 : decode cX2_readSum 106 = .ok (.iconst 0, 1) := zdc_89.2.2.2.2.2.1
theorem dX2_readSum_107 : decode cX2_readSum 107 = .ok (.istore_n 2, 1) := zdc_89.2.2.2.2.2.2.1
theorem dX2_readSum_108 : decode cX2_readSum 108 = .ok (.iconst 0, 1) := zdc_89.2.2.2.2.2.2.2.1
theorem dX2_readSum_109 : decode cX2_readSum 109 = .ok (.istore_n 3, 1) := zdc_89.2.2.2.2.2.2.2.2.1
theorem dX2_readSum_110 : decode cX2_readSum 110 = .ok (.iload_n 2, 1) := zdc_89.2.2.2.2.2.2.2.2.2
theorem zdc_90 : decode cX2_readSum 111 = .ok (.ifCond .ne 22, 3) ∧ decode cX2_readSum 114 = .ok (.aload_n 0, 1) ∧ decode cX2_readSum 115 = .ok (.getfield 20, 3) ∧ decode cX2_readSum 118 = .ok (.iconst 0, 1) ∧ decode cX2_readSum 119 = .ok (.sipush 999, 3) ∧ decode cX2_readSum 122 = .ok (.invokevirtual 41, 3) ∧ decode cX2_readSum 125 = .ok (.istore_n 3, 1) ∧ decode cX2_readSum 126 = .ok (.iload_n 3, 1) ∧ decode cX2_readSum 127 = .ok (.iconst (-1), 1) ∧ decode cX2_readSum 128 = .ok (.if_icmp .ne 12, 3) := by decide +kernel
theorem dX2_readSum_111 : decode cX2_readSum 111 = .ok (.ifCond .ne 22, 3) := zdc_90.1
theorem dX2_readSum_114 : decode cX2_readSum 114 = .ok (.aload_n 0, 1) := zdc_90.2.1
theorem dX2_readSum_115 : decode cX2_readSum 115 = .ok (.getfield 20, 3) := zdc_90.2.2.1
theorem dX2_readSum_118 : decode cX2_readSum 118 = .ok (.iconst 0, 1) := zdc_90.2.2.2.1
theorem dX2_readSum_119 : decode cX2_readSum 119 = .ok (.sipush 999, 3) := zdc_90.2.2.2.2.1
theorem dX2_readSum_122 : decode cX2_readSum 122 = .ok (.invokevirtual 41, 3) := zdc_90.2.2.2.2.2.1
theorem dX2_readSum_125 : decode cX2_readSum 125 = .ok (.istore_n 3, 1) := zdc_90.2.2.2.2.2.2.1
theorem dX2_readSum_126 : decode cX2_readSum 126 = .ok (.iload_n 3, 1) := zdc_90.2.2.2.2.2.2.2.1
theorem dX2_readSum_127 : decode cX2_readSum 127 = .ok (.iconst (-1), 1) := zdc_90.2.2.2.2.2.2.2.2.1
theorem dX2_readSum_128 : decode cX2_readSum 128 = .ok (.if_icmp .ne 12, 3) := zdc_90.2.2.2.2.2.2.2.2.2
theorem zdc_91 : decode cX2_readSum 131 = .ok (.iconst 0, 1) ∧ decode cX2_readSum 132 = .ok (.ireturn, 1) ∧ decode cX2_readSum 133 = .ok (.aload_n 0, 1) ∧ decode cX2_readSum 134 = .ok (.getfield 20, 3) ∧ decode cX2_readSum 137 = .ok (.invokevirtual 38, 3) ∧ decode cX2_readSum 140 = .ok (.aload_n 0, 1) ∧ decode cX2_readSum 141 = .ok (.getfield 14, 3) ∧ decode cX2_readSum 144 = .ok (.iload_n 2, 1) ∧ decode cX2_readSum 145 = .ok (.iload_n 3, 1) ∧ decode cX2_readSum 146 = .ok (.invokevirtual 54, 3) := by decide +kernel
theorem dX2_readSum_131 : decode cX2_readSum 131 = .ok (.iconst 0, 1) := zdc_91.1
theorem dX2_readSum_132 : decode cX2_readSum 132 = .ok (.ireturn, 1) := zdc_91.2.1
theorem dX2_readSum_133 : decode cX2_readSum 133 = .ok (.aload_n 0, 1) := zdc_91.2.2.1
theorem dX2_readSum_134 : decode cX2_readSum 134 = .ok (.getfield 20, 3) := zdc_91.2.2.2.1
theorem dX2_readSum_137 : decode cX2_readSum 137 = .ok (.invokevirtual 38, 3) := zdc_91.2.2.2.2.1
theorem dX2_readSum_140 : decode cX2_readSum 140 = .ok (.aload_n 0, 1) := zdc_91.2.2.2.2.2.1
theorem dX2_readSum_141 : decode cX2_readSum 141 = .ok (.getfield 14, 3) := zdc_91.2.2.2.2.2.2.1
theorem dX2_readSum_144 : decode cX2_readSum 144 = .ok (.iload_n 2, 1) := zdc_91.2.2.2.2.2.2.2.1
theorem dX2_readSum_145 : decode cX2_readSum 145 = .ok (.iload_n 3, 1) := zdc_91.2.2.2.2.2.2.2.2.1
theorem dX2_readSum_146 : decode cX2_readSum 146 = .ok (.invokevirtual 54, 3) := zdc_91.2.2.2.2.2.2.2.2.2
theorem zdc_92 : decode cX2_readSum 149 = .ok (.pop, 1) ∧ decode cX2_readSum 150 = .ok (.aload_n 0, 1) ∧ decode cX2_readSum 151 = .ok (.getfield 20, 3) ∧ decode cX2_readSum 154 = .ok (.bipush 43, 2) ∧ decode cX2_readSum 156 = .ok (.invokevirtual 84, 3) ∧ decode cX2_readSum 159 = .ok (.ifCond .ne 5, 3) ∧ decode cX2_readSum 162 = .ok (.iconst 1, 1) ∧ decode cX2_readSum 163 = .ok (.ireturn, 1) ∧ decode cX2_readSum 164 = .ok (.iinc 1 1, 3) ∧ decode cX2_readSum 167 = .ok (.goto (-165), 3) := by decide +kernel
theorem dX2_readSum_149 : decode cX2_readSum 149 = .ok (.pop, 1) := zdc_92.1
theorem dX2_readSum_150 : decode cX2_readSum 150 = .ok (.aload_n 0, 1) := zdc_92.2.1
theorem dX2_readSum_151 : decode cX2_readSum 151 = .ok (.getfield 20, 3) := zdc_92.2.2.1
theorem dX2_readSum_154 : decode cX2_readSum 154 = .ok (.bipush 43, 2) := zdc_92.2.2.2.1
theorem dX2_readSum_156 : decode cX2_readSum 156 = .ok (.invokevirtual 84, 3) := zdc_92.2.2.2.2.1
theorem dX2_readSum_159 : decode cX2_readSum 159 = .ok (.ifCond .ne 5, 3) := zdc_92.2.2.2.2.2.1
theorem dX2_readSum_162 : decode cX2_readSum 162 = .ok (.iconst 1, 1) := zdc_92.2.2.2.2.2.2.1
theorem dX2_readSum_163 : decode cX2_readSum 163 = .ok (.ireturn, 1) := zdc_92.2.2.2.2.2.2.2.1
theorem dX2_readSum_164 : decode cX2_readSum 164 = .ok (.iinc 1 1, 3) := zdc_92.2.2.2.2.2.2.2.2.1
theorem dX2_readSum_167 : decode cX2_readSum 167 = .ok (.goto (-165), 3) := zdc_92.2.2.2.2.2.2.2.2.2
theorem zdc_93 : decode cX2_readSum 170 = .ok (.aload_n 0, 1) ∧ decode cX2_readSum 171 = .ok (.getfield 20, 3) ∧ decode cX2_readSum 174 = .ok (.invokevirtual 34, 3) ∧ decode cX2_readSum 177 = .ok (.ireturn, 1) ∧ decode cX3_init 0 = .ok (.aload_n 0, 1) ∧ decode cX3_init 1 = .ok (.invokespecial 3, 3) ∧ decode cX3_init 4 = .ok (.aload_n 0, 1) ∧ decode cX3_init 5 = .ok (.sipush 240, 3) ∧ decode cX3_init 8 = .ok (.newarray .int, 2) ∧ decode cX3_init 10 = .ok (.putfield 9, 3) := by decide +kernel
theorem dX2_readSum_170 : decode cX2_readSum 170 = .ok (.aload_n 0, 1) := zdc_93.1
theorem dX2_readSum_171 : decode cX2_readSum 171 = .ok (.getfield 20, 3) := zdc_93.2.1
theorem dX2_readSum_174 : decode cX2_readSum 174 = .ok (.invokevirtual 34, 3) := zdc_93.2.2.1
theorem dX2_readSum_177 : decode cX2_readSum 177 = .ok (.ireturn, 1) := zdc_93.2.2.2.1
theorem dX3_init_0 : decode cX3_init 0 = .ok (.aload_n 0, 1) := zdc_93.2.2.2.2.1
theorem dX3_init_1 : decode cX3_init 1 = .ok (.invokespecial 3, 3) := zdc_93.2.2.2.2.2.1
theorem dX3_init_4 : decode cX3_init 4 = .ok (.aload_n 0, 1) := zdc_93.2.2.2.2.2.2.1
theorem dX3_init_5 : decode cX3_init 5 = .ok (.sipush 240, 3) := zdc_93.2.2.2.2.2.2.2.1
theorem dX3_init_8 : decode cX3_init 8 = .ok (.newarray .int, 2) := zdc_93.2.2.2.2.2.2.2.2.1
theorem dX3_init_10 : decode cX3_init 10 = .ok (.putfield 9, 3) := zdc_93.2.2.2.2.2.2.2.2.2
theorem zdc_94 : decode cX3_init 13 = .ok (.return_, 1) ∧ decode cX3_copyFrom 0 = .ok (.aload_n 1, 1) ∧ decode cX3_copyFrom 1 = .ok (.getfield 9, 3) ∧ decode cX3_copyFrom 4 = .ok (.iconst 0, 1) ∧ decode cX3_copyFrom 5 = .ok (.aload_n 0, 1) ∧ decode cX3_copyFrom 6 = .ok (.getfield 9, 3) ∧ decode cX3_copyFrom 9 = .ok (.iconst 0, 1) ∧ decode cX3_copyFrom 10 = .ok (.sipush 240, 3) ∧ decode cX3_copyFrom 13 = .ok (.invokestatic 15, 3) ∧ decode cX3_copyFrom 16 = .ok (.aload_n 0, 1) := by decide +kernel
theorem dX3_init_13 : decode cX3_init 13 = .ok (.return_, 1) := zdc_94.1
theorem dX3_copyFrom_0 : decode cX3_copyFrom 0 = .ok (.aload_n 1, 1) := zdc_94.2.1
theorem dX3_copyFrom_1 : decode cX3_copyFrom 1 = .ok (.getfield 9, 3) := zdc_94.2.2.1
theorem dX3_copyFrom_4 : decode cX3_copyFrom 4 = .ok (.iconst 0, 1) := zdc_94.2.2.2.1
theorem dX3_copyFrom_5 : decode cX3_copyFrom 5 = .ok (.aload_n 0, 1) := zdc_94.2.2.2.2.1
theorem dX3_copyFrom_6 : decode cX3_copyFrom 6 = .ok (.getfield 9, 3) := zdc_94.2.2.2.2.2.1
theorem dX3_copyFrom_9 : decode cX3_copyFrom 9 = .ok (.iconst 0, 1) := zdc_94.2.2.2.2.2.2.1
theorem dX3_copyFrom_10 : decode cX3_copyFrom 10 = .ok (.sipush 240, 3) := zdc_94.2.2.2.2.2.2.2.1
theorem dX3_copyFrom_13 : decode cX3_copyFrom 13 = .ok (.invokestatic 15, 3) := zdc_94.2.2.2.2.2.2.2.2.1
theorem dX3_copyFrom_16 : decode cX3_copyFrom 16 = .ok (.aload_n 0, 1) := zdc_94.2.2.2.2.2.2.2.2.2
theorem zdc_95 : decode cX3_copyFrom 17 = .ok (.aload_n 1, 1) ∧ decode cX3_copyFrom 18 = .ok (.getfield 21, 3) ∧ decode cX3_copyFrom 21 = .ok (.putfield 21, 3) ∧ decode cX3_copyFrom 24 = .ok (.aload_n 0, 1) ∧ decode cX3_copyFrom 25 = .ok (.aload_n 1, 1) ∧ decode cX3_copyFrom 26 = .ok (.getfield 25, 3) ∧ decode cX3_copyFrom 29 = .ok (.putfield 25, 3) ∧ decode cX3_copyFrom 32 = .ok (.return_, 1) ∧ decode cX3_add 0 = .ok (.aload_n 0, 1) ∧ decode cX3_add 1 = .ok (.getfield 25, 3) := by decide +kernel
theorem dX3_copyFrom_17 : decode cX3_copyFrom 17 = .ok (.aload_n 1, 1) := zdc_95.1
theorem dX3_copyFrom_18 : decode cX3_copyFrom 18 = .ok (.getfield 21, 3) := zdc_95.2.1
theorem dX3_copyFrom_21 : decode cX3_copyFrom 21 = .ok (.putfield 21, 3) := zdc_95.2.2.1
theorem dX3_copyFrom_24 : decode cX3_copyFrom 24 = .ok (.aload_n 0, 1) := zdc_95.2.2.2.1
theorem dX3_copyFrom_25 : decode cX3_copyFrom 25 = .ok (.aload_n 1, 1) := zdc_95.2.2.2.2.1
theorem dX3_copyFrom_26 : decode cX3_copyFrom 26 = .ok (.getfield 25, 3) := zdc_95.2.2.2.2.2.1
theorem dX3_copyFrom_29 : decode cX3_copyFrom 29 = .ok (.putfield 25, 3) := zdc_95.2.2.2.2.2.2.1
theorem dX3_copyFrom_32 : decode cX3_copyFrom 32 = .ok (.return_, 1) := zdc_95.2.2.2.2.2.2.2.1
theorem dX3_add_0 : decode cX3_add 0 = .ok (.aload_n 0, 1) := zdc_95.2.2.2.2.2.2.2.2.1
theorem dX3_add_1 : decode cX3_add 1 = .ok (.getfield 25, 3) := zdc_95.2.2.2.2.2.2.2.2.2
theorem zdc_96 : decode cX3_add 4 = .ok (.iconst 4, 1) ∧ decode cX3_add 5 = .ok (.imul, 1) ∧ decode cX3_add 6 = .ok (.istore 5, 2) ∧ decode cX3_add 8 = .ok (.aload_n 0, 1) ∧ decode cX3_add 9 = .ok (.getfield 9, 3) ∧ decode cX3_add 12 = .ok (.iload 5, 2) ∧ decode cX3_add 14 = .ok (.iload_n 1, 1) ∧ decode cX3_add 15 = .ok (.iastore, 1) ∧ decode cX3_add 16 = .ok (.aload_n 0, 1) ∧ decode cX3_add 17 = .ok (.getfield 9, 3) := by decide +kernel
theorem dX3_add_4 : decode cX3_add 4 = .ok (.iconst 4, 1) := zdc_96.1
theorem dX3_add_5 : decode cX3_add 5 = .ok (.imul, 1) := zdc_96.2.1
theorem dX3_add_6 : decode cX3_add 6 = .ok (.istore 5, 2) := zdc_96.2.2.1
theorem dX3_add_8 : decode cX3_add 8 = .ok (.aload_n 0, 1) := zdc_96.2.2.2.1
theorem dX3_add_9 : decode cX3_add 9 = .ok (.getfield 9, 3) := zdc_96.2.2.2.2.1
theorem dX3_add_12 : decode cX3_add 12 = .ok (.iload 5, 2) := zdc_96.2.2.2.2.2.1
theorem dX3_add_14 : decode cX3_add 14 = .ok (.iload_n 1, 1) := zdc_96.2.2.2.2.2.2.1
theorem dX3_add_15 : decode cX3_add 15 = .ok (.iastore, 1) := zdc_96.2.2.2.2.2.2.2.1
theorem dX3_add_16 : decode cX3_add 16 = .ok (.aload_n 0, 1) := zdc_96.2.2.2.2.2.2.2.2.1
theorem dX3_add_17 : decode cX3_add 17 = .ok (.getfield 9, 3) := zdc_96.2.2.2.2.2.2.2.2.2
theorem zdc_97 : decode cX3_add 20 = .ok (.iload 5, 2) ∧ decode cX3_add 22 = .ok (.iconst 1, 1) ∧ decode cX3_add 23 = .ok (.iadd, 1) ∧ decode cX3_add 24 = .ok (.iload_n 2, 1) ∧ decode cX3_add 25 = .ok (.iastore, 1) ∧ decode cX3_add 26 = .ok (.aload_n 0, 1) ∧ decode cX3_add 27 = .ok (.getfield 9, 3) ∧ decode cX3_add 30 = .ok (.iload 5, 2) ∧ decode cX3_add 32 = .ok (.iconst 2, 1) ∧ decode cX3_add 33 = .ok (.iadd, 1) := by decide +kernel
theorem dX3_add_20 : decode cX3_add 20 = .ok (.iload 5, 2) := zdc_97.1
theorem dX3_add_22 : decode cX3_add 22 = .ok (.iconst 1, 1) := zdc_97.2.1
theorem dX3_add_23 : decode cX3_add 23 = .ok (.iadd, 1) := zdc_97.2.2.1
theorem dX3_add_24 : decode cX3_add 24 = .ok (.iload_n 2, 1) := zdc_97.2.2.2.1
theorem dX3_add_25 : decode cX3_add 25 = .ok (.iastore, 1) := zdc_97.2.2.2.2.1
theorem dX3_add_26 : decode cX3_add 26 = .ok (.aload_n 0, 1) := zdc_97.2.2.2.2.2.1
theorem dX3_add_27 : decode cX3_add 27 = .ok (.getfield 9, 3) := zdc_97.2.2.2.2.2.2.1
theorem dX3_add_30 : decode cX3_add 30 = .ok (.iload 5, 2) := zdc_97.2.2.2.2.2.2.2.1
theorem dX3_add_32 : decode cX3_add 32 = .ok (.iconst 2, 1) := zdc_97.2.2.2.2.2.2.2.2.1
theorem dX3_add_33 : decode cX3_add 33 = .ok (.iadd, 1) := zdc_97.2.2.2.2.2.2.2.2.2
theorem zdc_98 : decode cX3_add 34 = .ok (.iload_n 3, 1) ∧ decode cX3_add 35 = .ok (.iastore, 1) ∧ decode cX3_add 36 = .ok (.aload_n 0, 1) ∧ decode cX3_add 37 = .ok (.getfield 9, 3) ∧ decode cX3_add 40 = .ok (.iload 5, 2) ∧ decode cX3_add 42 = .ok (.iconst 3, 1) ∧ decode cX3_add 43 = .ok (.iadd, 1) ∧ decode cX3_add 44 = .ok (.iload 4, 2) ∧ decode cX3_add 46 = .ok (.iastore, 1) ∧ decode cX3_add 47 = .ok (.aload_n 0, 1) := by decide +kernel
theorem dX3_add_34 : decode cX3_add 34 = .ok (.iload_n 3, 1) := zdc_98.1
theorem dX3_add_35 : decode cX3_add 35 = .ok (.iastore, 1) := zdc_98.2.1
theorem dX3_add_36 : decode cX3_add 36 = .ok (.aload_n 0, 1) := zdc_98.2.2.1
theorem dX3_add_37 : decode cX3_add 37 = .ok (.getfield 9, 3) := zdc_98.2.2.2.1
theorem dX3_add_40 : decode cX3_add 40 = .ok (.iload 5, 2) := zdc_98.2.2.2.2.1
theorem dX3_add_42 : decode cX3_add 42 = .ok (.iconst 3, 1) := zdc_98.2.2.2.2.2.1
theorem dX3_add_43 : decode cX3_add 43 = .ok (.iadd, 1) := zdc_98.2.2.2.2.2.2.1
theorem dX3_add_44 : decode cX3_add 44 = .ok (.iload 4, 2) := zdc_98.2.2.2.2.2.2.2.1
theorem dX3_add_46 : decode cX3_add 46 = .ok (.iastore, 1) := zdc_98.2.2.2.2.2.2.2.2.1
theorem dX3_add_47 : decode cX3_add 47 = .ok (.aload_n 0, 1) := zdc_98.2.2.2.2.2.2.2.2.2
theorem zdc_99 : decode cX3_add 48 = .ok (.aload_n 0, 1) ∧ decode cX3_add 49 = .ok (.getfield 25, 3) ∧ decode cX3_add 52 = .ok (.iconst 1, 1) ∧ decode cX3_add 53 = .ok (.iadd, 1) ∧ decode cX3_add 54 = .ok (.bipush 60, 2) ∧ decode cX3_add 56 = .ok (.irem, 1) ∧ decode cX3_add 57 = .ok (.putfield 25, 3) ∧ decode cX3_add 60 = .ok (.aload_n 0, 1) ∧ decode cX3_add 61 = .ok (.bipush 60, 2) ∧ decode cX3_add 63 = .ok (.aload_n 0, 1) := by decide +kernel
theorem dX3_add_48 : decode cX3_add 48 = .ok (.aload_n 0, 1) := zdc_99.1
theorem dX3_add_49 : decode cX3_add 49 = .ok (.getfield 25, 3) := zdc_99.2.1
theorem dX3_add_52 : decode cX3_add 52 = .ok (.iconst 1, 1) := zdc_99.2.2.1
theorem dX3_add_53 : decode cX3_add 53 = .ok (.iadd, 1) := zdc_99.2.2.2.1
theorem dX3_add_54 : decode cX3_add 54 = .ok (.bipush 60, 2) := zdc_99.2.2.2.2.1
theorem dX3_add_56 : decode cX3_add 56 = .ok (.irem, 1) := zdc_99.2.2.2.2.2.1
theorem dX3_add_57 : decode cX3_add 57 = .ok (.putfield 25, 3) := zdc_99.2.2.2.2.2.2.1
theorem dX3_add_60 : decode cX3_add 60 = .ok (.aload_n 0, 1) := zdc_99.2.2.2.2.2.2.2.1
theorem dX3_add_61 : decode cX3_add 61 = .ok (.bipush 60, 2) := zdc_99.2.2.2.2.2.2.2.2.1
theorem dX3_add_63 : decode cX3_add 63 = .ok (.aload_n 0, 1) := zdc_99.2.2.2.2.2.2.2.2.2
theorem zdc_100 : decode cX3_add 64 = .ok (.getfield 21, 3) ∧ decode cX3_add 67 = .ok (.iconst 1, 1) ∧ decode cX3_add 68 = .ok (.iadd, 1) ∧ decode cX3_add 69 = .ok (.invokestatic 28, 3) ∧ decode cX3_add 72 = .ok (.putfield 21, 3) ∧ decode cX3_add 75 = .ok (.return_, 1) ∧ decode cX3_at 0 = .ok (.iload_n 1, 1) ∧ decode cX3_at 1 = .ok (.ifCond .lt 11, 3) ∧ decode cX3_at 4 = .ok (.iload_n 1, 1) ∧ decode cX3_at 5 = .ok (.aload_n 0, 1) := by decide +kernel
theorem dX3_add_64 : decode cX3_add 64 = .ok (.getfield 21, 3) := zdc_100.1
theorem dX3_add_67 : decode cX3_add 67 = .ok (.iconst 1, 1) := zdc_100.2.1
theorem dX3_add_68 : decode cX3_add 68 = .ok (.iadd, 1) := zdc_100.2.2.1
theorem dX3_add_69 : decode cX3_add 69 = .ok (.invokestatic 28, 3) := zdc_100.2.2.2.1
theorem dX3_add_72 : decode cX3_add 72 = .ok (.putfield 21, 3) := zdc_100.2.2.2.2.1
theorem dX3_add_75 : decode cX3_add 75 = .ok (.return_, 1) := zdc_100.2.2.2.2.2.1
theorem dX3_at_0 : decode cX3_at 0 = .ok (.iload_n 1, 1) := zdc_100.2.2.2.2.2.2.1
theorem dX3_at_1 : decode cX3_at 1 = .ok (.ifCond .lt 11, 3) := zdc_100.2.2.2.2.2.2.2.1
theorem dX3_at_4 : decode cX3_at 4 = .ok (.iload_n 1, 1) := zdc_100.2.2.2.2.2.2.2.2.1
theorem dX3_at_5 : decode cX3_at 5 = .ok (.aload_n 0, 1) := zdc_100.2.2.2.2.2.2.2.2.2
theorem zdc_101 : decode cX3_at 6 = .ok (.getfield 21, 3) ∧ decode cX3_at 9 = .ok (.if_icmp .lt 5, 3) ∧ decode cX3_at 12 = .ok (.iconst (-1), 1) ∧ decode cX3_at 13 = .ok (.ireturn, 1) ∧ decode cX3_at 14 = .ok (.aload_n 0, 1) ∧ decode cX3_at 15 = .ok (.getfield 9, 3) ∧ decode cX3_at 18 = .ok (.aload_n 0, 1) ∧ decode cX3_at 19 = .ok (.getfield 25, 3) ∧ decode cX3_at 22 = .ok (.iconst 1, 1) ∧ decode cX3_at 23 = .ok (.isub, 1) := by decide +kernel
theorem dX3_at_6 : decode cX3_at 6 = .ok (.getfield 21, 3) := zdc_101.1
theorem dX3_at_9 : decode cX3_at 9 = .ok (.if_icmp .lt 5, 3) := zdc_101.2.1
theorem dX3_at_12 : decode cX3_at 12 = .ok (.iconst (-1), 1) := zdc_101.2.2.1
theorem dX3_at_13 : decode cX3_at 13 = .ok (.ireturn, 1) := zdc_101.2.2.2.1
theorem dX3_at_14 : decode cX3_at 14 = .ok (.aload_n 0, 1) := zdc_101.2.2.2.2.1
theorem dX3_at_15 : decode cX3_at 15 = .ok (.getfield 9, 3) := zdc_101.2.2.2.2.2.1
theorem dX3_at_18 : decode cX3_at 18 = .ok (.aload_n 0, 1) := zdc_101.2.2.2.2.2.2.1
theorem dX3_at_19 : decode cX3_at 19 = .ok (.getfield 25, 3) := zdc_101.2.2.2.2.2.2.2.1
theorem dX3_at_22 : decode cX3_at 22 = .ok (.iconst 1, 1) := zdc_101.2.2.2.2.2.2.2.2.1
theorem dX3_at_23 : decode cX3_at 23 = .ok (.isub, 1) := zdc_101.2.2.2.2.2.2.2.2.2
theorem zdc_102 : decode cX3_at 24 = .ok (.iload_n 1, 1) ∧ decode cX3_at 25 = .ok (.isub, 1) ∧ decode cX3_at 26 = .ok (.bipush 60, 2) ∧ decode cX3_at 28 = .ok (.invokestatic 34, 3) ∧ decode cX3_at 31 = .ok (.iconst 4, 1) ∧ decode cX3_at 32 = .ok (.imul, 1) ∧ decode cX3_at 33 = .ok (.iload_n 2, 1) ∧ decode cX3_at 34 = .ok (.iadd, 1) ∧ decode cX3_at 35 = .ok (.iaload, 1) ∧ decode cX3_at 36 = .ok (.ireturn, 1) := by decide +kernel
theorem dX3_at_24 : decode cX3_at 24 = .ok (.iload_n 1, 1) := zdc_102.1
theorem dX3_at_25 : decode cX3_at 25 = .ok (.isub, 1) := zdc_102.2.1
theorem dX3_at_26 : decode cX3_at 26 = .ok (.bipush 60, 2) := zdc_102.2.2.1
theorem dX3_at_28 : decode cX3_at 28 = .ok (.invokestatic 34, 3) := zdc_102.2.2.2.1
theorem dX3_at_31 : decode cX3_at 31 = .ok (.iconst 4, 1) := zdc_102.2.2.2.2.1
theorem dX3_at_32 : decode cX3_at 32 = .ok (.imul, 1) := zdc_102.2.2.2.2.2.1
theorem dX3_at_33 : decode cX3_at 33 = .ok (.iload_n 2, 1) := zdc_102.2.2.2.2.2.2.1
theorem dX3_at_34 : decode cX3_at 34 = .ok (.iadd, 1) := zdc_102.2.2.2.2.2.2.2.1
theorem dX3_at_35 : decode cX3_at 35 = .ok (.iaload, 1) := zdc_102.2.2.2.2.2.2.2.2.1
theorem dX3_at_36 : decode cX3_at 36 = .ok (.ireturn, 1) := zdc_102.2.2.2.2.2.2.2.2.2
theorem zdc_103 : decode cX3_isOf 0 = .ok (.aload_n 0, 1) ∧ decode cX3_isOf 1 = .ok (.iload_n 1, 1) ∧ decode cX3_isOf 2 = .ok (.iconst 1, 1) ∧ decode cX3_isOf 3 = .ok (.invokevirtual 37, 3) ∧ decode cX3_isOf 6 = .ok (.iload_n 2, 1) ∧ decode cX3_isOf 7 = .ok (.if_icmp .ne 17, 3) ∧ decode cX3_isOf 10 = .ok (.aload_n 0, 1) ∧ decode cX3_isOf 11 = .ok (.iload_n 1, 1) ∧ decode cX3_isOf 12 = .ok (.iconst 2, 1) ∧ decode cX3_isOf 13 = .ok (.invokevirtual 37, 3) := by decide +kernel
theorem dX3_isOf_0 : decode cX3_isOf 0 = .ok (.aload_n 0, 1) := zdc_103.1
theorem dX3_isOf_1 : decode cX3_isOf 1 = .ok (.iload_n 1, 1) := zdc_103.2.1
theorem dX3_isOf_2 : decode cX3_isOf 2 = .ok (.iconst 1, 1) := zdc_103.2.2.1
theorem dX3_isOf_3 : decode cX3_isOf 3 = .ok (.invokevirtual 37, 3) := zdc_103.2.2.2.1
theorem dX3_isOf_6 : decode cX3_isOf 6 = .ok (.iload_n 2, 1) := zdc_103.2.2.2.2.1
theorem dX3_isOf_7 : decode cX3_isOf 7 = .ok (.if_icmp .ne 17, 3) := zdc_103.2.2.2.2.2.1
theorem dX3_isOf_10 : decode cX3_isOf 10 = .ok (.aload_n 0, 1) := zdc_103.2.2.2.2.2.2.1
theorem dX3_isOf_11 : decode cX3_isOf 11 = .ok (.iload_n 1, 1) := zdc_103.2.2.2.2.2.2.2.1
theorem dX3_isOf_12 : decode cX3_isOf 12 = .ok (.iconst 2, 1) := zdc_103.2.2.2.2.2.2.2.2.1
theorem dX3_isOf_13 : decode cX3_isOf 13 = .ok (.invokevirtual 37, 3) := zdc_103.2.2.2.2.2.2.2.2.2
theorem zdc_104 : decode cX3_isOf 16 = .ok (.iconst 1, 1) ∧ decode cX3_isOf 17 = .ok (.if_icmp .gt 7, 3) ∧ decode cX3_isOf 20 = .ok (.iconst 1, 1) ∧ decode cX3_isOf 21 = .ok (.goto 4, 3) ∧ decode cX3_isOf 24 = .ok (.iconst 0, 1) ∧ decode cX3_isOf 25 = .ok (.ireturn, 1) ∧ decode cX3_rowsOf 0 = .ok (.iconst 0, 1) ∧ decode cX3_rowsOf 1 = .ok (.istore_n 2, 1) ∧ decode cX3_rowsOf 2 = .ok (.iconst 0, 1) ∧ decode cX3_rowsOf 3 = .ok (.istore_n 3, 1) := by decide +kernel
theorem dX3_isOf_16 : decode cX3_isOf 16 = .ok (.iconst 1, 1) := zdc_104.1
theorem dX3_isOf_17 : decode cX3_isOf 17 = .ok (.if_icmp .gt 7, 3) := zdc_104.2.1
theorem dX3_isOf_20 : decode cX3_isOf 20 = .ok (.iconst 1, 1) := zdc_104.2.2.1
theorem dX3_isOf_21 : decode cX3_isOf 21 = .ok (.goto 4, 3) := zdc_104.2.2.2.1
theorem dX3_isOf_24 : decode cX3_isOf 24 = .ok (.iconst 0, 1) := zdc_104.2.2.2.2.1
theorem dX3_isOf_25 : decode cX3_isOf 25 = .ok (.ireturn, 1) := zdc_104.2.2.2.2.2.1
theorem dX3_rowsOf_0 : decode cX3_rowsOf 0 = .ok (.iconst 0, 1) := zdc_104.2.2.2.2.2.2.1
theorem dX3_rowsOf_1 : decode cX3_rowsOf 1 = .ok (.istore_n 2, 1) := zdc_104.2.2.2.2.2.2.2.1
theorem dX3_rowsOf_2 : decode cX3_rowsOf 2 = .ok (.iconst 0, 1) := zdc_104.2.2.2.2.2.2.2.2.1
theorem dX3_rowsOf_3 : decode cX3_rowsOf 3 = .ok (.istore_n 3, 1) := zdc_104.2.2.2.2.2.2.2.2.2
theorem zdc_105 : decode cX3_rowsOf 4 = .ok (.iload_n 3, 1) ∧ decode cX3_rowsOf 5 = .ok (.aload_n 0, 1) ∧ decode cX3_rowsOf 6 = .ok (.getfield 21, 3) ∧ decode cX3_rowsOf 9 = .ok (.if_icmp .ge 21, 3) ∧ decode cX3_rowsOf 12 = .ok (.aload_n 0, 1) ∧ decode cX3_rowsOf 13 = .ok (.iload_n 3, 1) ∧ decode cX3_rowsOf 14 = .ok (.iload_n 1, 1) ∧ decode cX3_rowsOf 15 = .ok (.invokevirtual 40, 3) ∧ decode cX3_rowsOf 18 = .ok (.ifCond .eq 6, 3) ∧ decode cX3_rowsOf 21 = .ok (.iinc 2 1, 3) := by decide +kernel
theorem dX3_rowsOf_4 : decode cX3_rowsOf 4 = .ok (.iload_n 3, 1) := zdc_105.1
theorem dX3_rowsOf_5 : decode cX3_rowsOf 5 = .ok (.aload_n 0, 1) := zdc_105.2.1
theorem dX3_rowsOf_6 : decode cX3_rowsOf 6 = .ok (.getfield 21, 3) := zdc_105.2.2.1
theorem dX3_rowsOf_9 : decode cX3_rowsOf 9 = .ok (.if_icmp .ge 21, 3) := zdc_105.2.2.2.1
theorem dX3_rowsOf_12 : decode cX3_rowsOf 12 = .ok (.aload_n 0, 1) := zdc_105.2.2.2.2.1
theorem dX3_rowsOf_13 : decode cX3_rowsOf 13 = .ok (.iload_n 3, 1) := zdc_105.2.2.2.2.2.1
theorem dX3_rowsOf_14 : decode cX3_rowsOf 14 = .ok (.iload_n 1, 1) := zdc_105.2.2.2.2.2.2.1
theorem dX3_rowsOf_15 : decode cX3_rowsOf 15 = .ok (.invokevirtual 40, 3) := zdc_105.2.2.2.2.2.2.2.1
theorem dX3_rowsOf_18 : decode cX3_rowsOf 18 = .ok (.ifCond .eq 6, 3) := zdc_105.2.2.2.2.2.2.2.2.1
theorem dX3_rowsOf_21 : decode cX3_rowsOf 21 = .ok (.iinc 2 1, 3) := zdc_105.2.2.2.2.2.2.2.2.2
theorem zdc_106 : decode cX3_rowsOf 24 = .ok (.iinc 3 1, 3) ∧ decode cX3_rowsOf 27 = .ok (.goto (-23), 3) ∧ decode cX3_rowsOf 30 = .ok (.iload_n 2, 1) ∧ decode cX3_rowsOf 31 = .ok (.ireturn, 1) ∧ decode cX3_latestDayOf 0 = .ok (.iconst 0, 1) ∧ decode cX3_latestDayOf 1 = .ok (.istore_n 2, 1) ∧ decode cX3_latestDayOf 2 = .ok (.iload_n 2, 1) ∧ decode cX3_latestDayOf 3 = .ok (.aload_n 0, 1) ∧ decode cX3_latestDayOf 4 = .ok (.getfield 21, 3) ∧ decode cX3_latestDayOf 7 = .ok (.if_icmp .ge 25, 3) := by decide +kernel
theorem dX3_rowsOf_24 : decode cX3_rowsOf 24 = .ok (.iinc 3 1, 3) := zdc_106.1
theorem dX3_rowsOf_27 : decode cX3_rowsOf 27 = .ok (.goto (-23), 3) := zdc_106.2.1
theorem dX3_rowsOf_30 : decode cX3_rowsOf 30 = .ok (.iload_n 2, 1) := zdc_106.2.2.1
theorem dX3_rowsOf_31 : decode cX3_rowsOf 31 = .ok (.ireturn, 1) := zdc_106.2.2.2.1
theorem dX3_latestDayOf_0 : decode cX3_latestDayOf 0 = .ok (.iconst 0, 1) := zdc_106.2.2.2.2.1
theorem dX3_latestDayOf_1 : decode cX3_latestDayOf 1 = .ok (.istore_n 2, 1) := zdc_106.2.2.2.2.2.1
theorem dX3_latestDayOf_2 : decode cX3_latestDayOf 2 = .ok (.iload_n 2, 1) := zdc_106.2.2.2.2.2.2.1
theorem dX3_latestDayOf_3 : decode cX3_latestDayOf 3 = .ok (.aload_n 0, 1) := zdc_106.2.2.2.2.2.2.2.1
theorem dX3_latestDayOf_4 : decode cX3_latestDayOf 4 = .ok (.getfield 21, 3) := zdc_106.2.2.2.2.2.2.2.2.1
theorem dX3_latestDayOf_7 : decode cX3_latestDayOf 7 = .ok (.if_icmp .ge 25, 3) := zdc_106.2.2.2.2.2.2.2.2.2
theorem zdc_107 : decode cX3_latestDayOf 10 = .ok (.aload_n 0, 1) ∧ decode cX3_latestDayOf 11 = .ok (.iload_n 2, 1) ∧ decode cX3_latestDayOf 12 = .ok (.iload_n 1, 1) ∧ decode cX3_latestDayOf 13 = .ok (.invokevirtual 40, 3) ∧ decode cX3_latestDayOf 16 = .ok (.ifCond .eq 10, 3) ∧ decode cX3_latestDayOf 19 = .ok (.aload_n 0, 1) ∧ decode cX3_latestDayOf 20 = .ok (.iload_n 2, 1) ∧ decode cX3_latestDayOf 21 = .ok (.iconst 0, 1) ∧ decode cX3_latestDayOf 22 = .ok (.invokevirtual 37, 3) ∧ decode cX3_latestDayOf 25 = .ok (.ireturn, 1) := by decide +kernel
theorem dX3_latestDayOf_10 : decode cX3_latestDayOf 10 = .ok (.aload_n 0, 1) := zdc_107.1
theorem dX3_latestDayOf_11 : decode cX3_latestDayOf 11 = .ok (.iload_n 2, 1) := zdc_107.2.1
theorem dX3_latestDayOf_12 : decode cX3_latestDayOf 12 = .ok (.iload_n 1, 1) := zdc_107.2.2.1
theorem dX3_latestDayOf_13 : decode cX3_latestDayOf 13 = .ok (.invokevirtual 40, 3) := zdc_107.2.2.2.1
theorem dX3_latestDayOf_16 : decode cX3_latestDayOf 16 = .ok (.ifCond .eq 10, 3) := zdc_107.2.2.2.2.1
theorem dX3_latestDayOf_19 : decode cX3_latestDayOf 19 = .ok (.aload_n 0, 1) := zdc_107.2.2.2.2.2.1
theorem dX3_latestDayOf_20 : decode cX3_latestDayOf 20 = .ok (.iload_n 2, 1) := zdc_107.2.2.2.2.2.2.1
theorem dX3_latestDayOf_21 : decode cX3_latestDayOf 21 = .ok (.iconst 0, 1) := zdc_107.2.2.2.2.2.2.2.1
theorem dX3_latestDayOf_22 : decode cX3_latestDayOf 22 = .ok (.invokevirtual 37, 3) := zdc_107.2.2.2.2.2.2.2.2.1
theorem dX3_latestDayOf_25 : decode cX3_latestDayOf 25 = .ok (.ireturn, 1) := zdc_107.2.2.2.2.2.2.2.2.2
theorem zdc_108 : decode cX3_latestDayOf 26 = .ok (.iinc 2 1, 3) ∧ decode cX3_latestDayOf 29 = .ok (.goto (-27), 3) ∧ decode cX3_latestDayOf 32 = .ok (.iconst (-1), 1) ∧ decode cX3_latestDayOf 33 = .ok (.ireturn, 1) ∧ decode cX4_init 0 = .ok (.aload_n 0, 1) ∧ decode cX4_init 1 = .ok (.invokespecial 3, 3) ∧ decode cX4_init 4 = .ok (.aload_n 0, 1) ∧ decode cX4_init 5 = .ok (.bipush 12, 2) ∧ decode cX4_init 7 = .ok (.anewarray 9, 3) ∧ decode cX4_init 10 = .ok (.putfield 11, 3) := by decide +kernel
theorem dX3_latestDayOf_26 : decode cX3_latestDayOf 26 = .ok (.iinc 2 1, 3) := zdc_108.1
theorem dX3_latestDayOf_29 : decode cX3_latestDayOf 29 = .ok (.goto (-27), 3) := zdc_108.2.1
theorem dX3_latestDayOf_32 : decode cX3_latestDayOf 32 = .ok (.iconst (-1), 1) := zdc_108.2.2.1
theorem dX3_latestDayOf_33 : decode cX3_latestDayOf 33 = .ok (.ireturn, 1) := zdc_108.2.2.2.1
theorem dX4_init_0 : decode cX4_init 0 = .ok (.aload_n 0, 1) := zdc_108.2.2.2.2.1
theorem dX4_init_1 : decode cX4_init 1 = .ok (.invokespecial 3, 3) := zdc_108.2.2.2.2.2.1
theorem dX4_init_4 : decode cX4_init 4 = .ok (.aload_n 0, 1) := zdc_108.2.2.2.2.2.2.1
theorem dX4_init_5 : decode cX4_init 5 = .ok (.bipush 12, 2) := zdc_108.2.2.2.2.2.2.2.1
theorem dX4_init_7 : decode cX4_init 7 = .ok (.anewarray 9, 3) := zdc_108.2.2.2.2.2.2.2.2.1
theorem dX4_init_10 : decode cX4_init 10 = .ok (.putfield 11, 3) := zdc_108.2.2.2.2.2.2.2.2.2
theorem zdc_109 : decode cX4_init 13 = .ok (.aload_n 0, 1) ∧ decode cX4_init 14 = .ok (.bipush 12, 2) ∧ decode cX4_init 16 = .ok (.anewarray 17, 3) ∧ decode cX4_init 19 = .ok (.putfield 19, 3) ∧ decode cX4_init 22 = .ok (.aload_n 0, 1) ∧ decode cX4_init 23 = .ok (.new 9, 3) ∧ decode cX4_init 26 = .ok (.dup, 1) ∧ decode cX4_init 27 = .ok (.invokespecial 23, 3) ∧ decode cX4_init 30 = .ok (.putfield 24, 3) ∧ decode cX4_init 33 = .ok (.aload_n 0, 1) := by decide +kernel
theorem dX4_init_13 : decode cX4_init 13 = .ok (.aload_n 0, 1) := zdc_109.1
theorem dX4_init_14 : decode cX4_init 14 = .ok (.bipush 12, 2) := zdc_109.2.1
theorem dX4_init_16 : decode cX4_init 16 = .ok (.anewarray 17, 3) := zdc_109.2.2.1
theorem dX4_init_19 : decode cX4_init 19 = .ok (.putfield 19, 3) := zdc_109.2.2.2.1
theorem dX4_init_22 : decode cX4_init 22 = .ok (.aload_n 0, 1) := zdc_109.2.2.2.2.1
theorem dX4_init_23 : decode cX4_init 23 = .ok (.new 9, 3) := zdc_109.2.2.2.2.2.1
theorem dX4_init_26 : decode cX4_init 26 = .ok (.dup, 1) := zdc_109.2.2.2.2.2.2.1
theorem dX4_init_27 : decode cX4_init 27 = .ok (.invokespecial 23, 3) := zdc_109.2.2.2.2.2.2.2.1
theorem dX4_init_30 : decode cX4_init 30 = .ok (.putfield 24, 3) := zdc_109.2.2.2.2.2.2.2.2.1
theorem dX4_init_33 : decode cX4_init 33 = .ok (.aload_n 0, 1) := zdc_109.2.2.2.2.2.2.2.2.2
theorem zdc_110 : decode cX4_init 34 = .ok (.new 28, 3) ∧ decode cX4_init 37 = .ok (.dup, 1) ∧ decode cX4_init 38 = .ok (.invokespecial 30, 3) ∧ decode cX4_init 41 = .ok (.putfield 31, 3) ∧ decode cX4_init 44 = .ok (.aload_n 0, 1) ∧ decode cX4_init 45 = .ok (.new 17, 3) ∧ decode cX4_init 48 = .ok (.dup, 1) ∧ decode cX4_init 49 = .ok (.invokespecial 35, 3) ∧ decode cX4_init 52 = .ok (.putfield 36, 3) ∧ decode cX4_init 55 = .ok (.iconst 0, 1) := by decide +kernel
theorem dX4_init_34 : decode cX4_init 34 = .ok (.new 28, 3) := zdc_110.1
theorem dX4_init_37 : decode cX4_init 37 = .ok (.dup, 1) := zdc_110.2.1
theorem dX4_init_38 : decode cX4_init 38 = .ok (.invokespecial 30, 3) := zdc_110.2.2.1
theorem dX4_init_41 : decode cX4_init 41 = .ok (.putfield 31, 3) := zdc_110.2.2.2.1
theorem dX4_init_44 : decode cX4_init 44 = .ok (.aload_n 0, 1) := zdc_110.2.2.2.2.1
theorem dX4_init_45 : decode cX4_init 45 = .ok (.new 17, 3) := zdc_110.2.2.2.2.2.1
theorem dX4_init_48 : decode cX4_init 48 = .ok (.dup, 1) := zdc_110.2.2.2.2.2.2.1
theorem dX4_init_49 : decode cX4_init 49 = .ok (.invokespecial 35, 3) := zdc_110.2.2.2.2.2.2.2.1
theorem dX4_init_52 : decode cX4_init 52 = .ok (.putfield 36, 3) := zdc_110.2.2.2.2.2.2.2.2.1
theorem dX4_init_55 : decode cX4_init 55 = .ok (.iconst 0, 1) := zdc_110.2.2.2.2.2.2.2.2.2
theorem zdc_111 : decode cX4_init 56 = .ok (.istore_n 1, 1) ∧ decode cX4_init 57 = .ok (.iload_n 1, 1) ∧ decode cX4_init 58 = .ok (.bipush 12, 2) ∧ decode cX4_init 60 = .ok (.if_icmp .ge 35, 3) ∧ decode cX4_init 63 = .ok (.aload_n 0, 1) ∧ decode cX4_init 64 = .ok (.getfield 11, 3) ∧ decode cX4_init 67 = .ok (.iload_n 1, 1) ∧ decode cX4_init 68 = .ok (.new 9, 3) ∧ decode cX4_init 71 = .ok (.dup, 1) ∧ decode cX4_init 72 = .ok (.invokespecial 23, 3) := by decide +kernel
theorem dX4_init_56 : decode cX4_init 56 = .ok (.istore_n 1, 1) := zdc_111.1
theorem dX4_init_57 : decode cX4_init 57 = .ok (.iload_n 1, 1) := zdc_111.2.1
theorem dX4_init_58 : decode cX4_init 58 = .ok (.bipush 12, 2) := zdc_111.2.2.1
theorem dX4_init_60 : decode cX4_init 60 = .ok (.if_icmp .ge 35, 3) := zdc_111.2.2.2.1
theorem dX4_init_63 : decode cX4_init 63 = .ok (.aload_n 0, 1) := zdc_111.2.2.2.2.1
theorem dX4_init_64 : decode cX4_init 64 = .ok (.getfield 11, 3) := zdc_111.2.2.2.2.2.1
theorem dX4_init_67 : decode cX4_init 67 = .ok (.iload_n 1, 1) := zdc_111.2.2.2.2.2.2.1
theorem dX4_init_68 : decode cX4_init 68 = .ok (.new 9, 3) := zdc_111.2.2.2.2.2.2.2.1
theorem dX4_init_71 : decode cX4_init 71 = .ok (.dup, 1) := zdc_111.2.2.2.2.2.2.2.2.1
theorem dX4_init_72 : decode cX4_init 72 = .ok (.invokespecial 23, 3) := zdc_111.2.2.2.2.2.2.2.2.2
theorem zdc_112 : decode cX4_init 75 = .ok (.aastore, 1) ∧ decode cX4_init 76 = .ok (.aload_n 0, 1) ∧ decode cX4_init 77 = .ok (.getfield 19, 3) ∧ decode cX4_init 80 = .ok (.iload_n 1, 1) ∧ decode cX4_init 81 = .ok (.new 17, 3) ∧ decode cX4_init 84 = .ok (.dup, 1) ∧ decode cX4_init 85 = .ok (.invokespecial 35, 3) ∧ decode cX4_init 88 = .ok (.aastore, 1) ∧ decode cX4_init 89 = .ok (.iinc 1 1, 3) ∧ decode cX4_init 92 = .ok (.goto (-35), 3) := by decide +kernel
theorem dX4_init_75 : decode cX4_init 75 = .ok (.aastore, 1) := zdc_112.1
theorem dX4_init_76 : decode cX4_init 76 = .ok (.aload_n 0, 1) := zdc_112.2.1
theorem dX4_init_77 : decode cX4_init 77 = .ok (.getfield 19, 3) := zdc_112.2.2.1
theorem dX4_init_80 : decode cX4_init 80 = .ok (.iload_n 1, 1) := zdc_112.2.2.2.1
theorem dX4_init_81 : decode cX4_init 81 = .ok (.new 17, 3) := zdc_112.2.2.2.2.1
theorem dX4_init_84 : decode cX4_init 84 = .ok (.dup, 1) := zdc_112.2.2.2.2.2.1
theorem dX4_init_85 : decode cX4_init 85 = .ok (.invokespecial 35, 3) := zdc_112.2.2.2.2.2.2.1
theorem dX4_init_88 : decode cX4_init 88 = .ok (.aastore, 1) := zdc_112.2.2.2.2.2.2.2.1
theorem dX4_init_89 : decode cX4_init 89 = .ok (.iinc 1 1, 3) := zdc_112.2.2.2.2.2.2.2.2.1
theorem dX4_init_92 : decode cX4_init 92 = .ok (.goto (-35), 3) := zdc_112.2.2.2.2.2.2.2.2.2
theorem zdc_113 : decode cX4_init 95 = .ok (.return_, 1) ∧ decode cX4_forget 0 = .ok (.aload_n 0, 1) ∧ decode cX4_forget 1 = .ok (.iconst 0, 1) ∧ decode cX4_forget 2 = .ok (.putfield 40, 3) ∧ decode cX4_forget 5 = .ok (.return_, 1) ∧ decode cX4_remember 0 = .ok (.aload_n 0, 1) ∧ decode cX4_remember 1 = .ok (.getfield 11, 3) ∧ decode cX4_remember 4 = .ok (.aload_n 0, 1) ∧ decode cX4_remember 5 = .ok (.getfield 44, 3) ∧ decode cX4_remember 8 = .ok (.aaload, 1) := by decide +kernel
theorem dX4_init_95 : decode cX4_init 95 = .ok (.return_, 1) := zdc_113.1
theorem dX4_forget_0 : decode cX4_forget 0 = .ok (.aload_n 0, 1) := zdc_113.2.1
theorem dX4_forget_1 : decode cX4_forget 1 = .ok (.iconst 0, 1) := zdc_113.2.2.1
theorem dX4_forget_2 : decode cX4_forget 2 = .ok (.putfield 40, 3) := zdc_113.2.2.2.1
theorem dX4_forget_5 : decode cX4_forget 5 = .ok (.return_, 1) := zdc_113.2.2.2.2.1
theorem dX4_remember_0 : decode cX4_remember 0 = .ok (.aload_n 0, 1) := zdc_113.2.2.2.2.2.1
theorem dX4_remember_1 : decode cX4_remember 1 = .ok (.getfield 11, 3) := zdc_113.2.2.2.2.2.2.1
theorem dX4_remember_4 : decode cX4_remember 4 = .ok (.aload_n 0, 1) := zdc_113.2.2.2.2.2.2.2.1
theorem dX4_remember_5 : decode cX4_remember 5 = .ok (.getfield 44, 3) := zdc_113.2.2.2.2.2.2.2.2.1
theorem dX4_remember_8 : decode cX4_remember 8 = .ok (.aaload, 1) := zdc_113.2.2.2.2.2.2.2.2.2
theorem zdc_114 : decode cX4_remember 9 = .ok (.aload_n 1, 1) ∧ decode cX4_remember 10 = .ok (.invokevirtual 47, 3) ∧ decode cX4_remember 13 = .ok (.aload_n 0, 1) ∧ decode cX4_remember 14 = .ok (.getfield 19, 3) ∧ decode cX4_remember 17 = .ok (.aload_n 0, 1) ∧ decode cX4_remember 18 = .ok (.getfield 44, 3) ∧ decode cX4_remember 21 = .ok (.aaload, 1) ∧ decode cX4_remember 22 = .ok (.aload_n 2, 1) ∧ decode cX4_remember 23 = .ok (.invokevirtual 51, 3) ∧ decode cX4_remember 26 = .ok (.aload_n 0, 1) := by decide +kernel
theorem dX4_remember_9 : decode cX4_remember 9 = .ok (.aload_n 1, 1) := zdc_114.1
theorem dX4_remember_10 : decode cX4_remember 10 = .ok (.invokevirtual 47, 3) := zdc_114.2.1
theorem dX4_remember_13 : decode cX4_remember 13 = .ok (.aload_n 0, 1) := zdc_114.2.2.1
theorem dX4_remember_14 : decode cX4_remember 14 = .ok (.getfield 19, 3) := zdc_114.2.2.2.1
theorem dX4_remember_17 : decode cX4_remember 17 = .ok (.aload_n 0, 1) := zdc_114.2.2.2.2.1
theorem dX4_remember_18 : decode cX4_remember 18 = .ok (.getfield 44, 3) := zdc_114.2.2.2.2.2.1
theorem dX4_remember_21 : decode cX4_remember 21 = .ok (.aaload, 1) := zdc_114.2.2.2.2.2.2.1
theorem dX4_remember_22 : decode cX4_remember 22 = .ok (.aload_n 2, 1) := zdc_114.2.2.2.2.2.2.2.1
theorem dX4_remember_23 : decode cX4_remember 23 = .ok (.invokevirtual 51, 3) := zdc_114.2.2.2.2.2.2.2.2.1
theorem dX4_remember_26 : decode cX4_remember 26 = .ok (.aload_n 0, 1) := zdc_114.2.2.2.2.2.2.2.2.2
theorem zdc_115 : decode cX4_remember 27 = .ok (.aload_n 0, 1) ∧ decode cX4_remember 28 = .ok (.getfield 44, 3) ∧ decode cX4_remember 31 = .ok (.iconst 1, 1) ∧ decode cX4_remember 32 = .ok (.iadd, 1) ∧ decode cX4_remember 33 = .ok (.bipush 12, 2) ∧ decode cX4_remember 35 = .ok (.irem, 1) ∧ decode cX4_remember 36 = .ok (.putfield 44, 3) ∧ decode cX4_remember 39 = .ok (.aload_n 0, 1) ∧ decode cX4_remember 40 = .ok (.bipush 12, 2) ∧ decode cX4_remember 42 = .ok (.aload_n 0, 1) := by decide +kernel
theorem dX4_remember_27 : decode cX4_remember 27 = .ok (.aload_n 0, 1) := zdc_115.1
theorem dX4_remember_28 : decode cX4_remember 28 = .ok (.getfield 44, 3) := zdc_115.2.1
theorem dX4_remember_31 : decode cX4_remember 31 = .ok (.iconst 1, 1) := zdc_115.2.2.1
theorem dX4_remember_32 : decode cX4_remember 32 = .ok (.iadd, 1) := zdc_115.2.2.2.1
theorem dX4_remember_33 : decode cX4_remember 33 = .ok (.bipush 12, 2) := zdc_115.2.2.2.2.1
theorem dX4_remember_35 : decode cX4_remember 35 = .ok (.irem, 1) := zdc_115.2.2.2.2.2.1
theorem dX4_remember_36 : decode cX4_remember 36 = .ok (.putfield 44, 3) := zdc_115.2.2.2.2.2.2.1
theorem dX4_remember_39 : decode cX4_remember 39 = .ok (.aload_n 0, 1) := zdc_115.2.2.2.2.2.2.2.1
theorem dX4_remember_40 : decode cX4_remember 40 = .ok (.bipush 12, 2) := zdc_115.2.2.2.2.2.2.2.2.1
theorem dX4_remember_42 : decode cX4_remember 42 = .ok (.aload_n 0, 1) := zdc_115.2.2.2.2.2.2.2.2.2
theorem zdc_116 : decode cX4_remember 43 = .ok (.getfield 40, 3) ∧ decode cX4_remember 46 = .ok (.iconst 1, 1) ∧ decode cX4_remember 47 = .ok (.iadd, 1) ∧ decode cX4_remember 48 = .ok (.invokestatic 54, 3) ∧ decode cX4_remember 51 = .ok (.putfield 40, 3) ∧ decode cX4_remember 54 = .ok (.return_, 1) ∧ decode cX4_recall 0 = .ok (.aload_n 0, 1) ∧ decode cX4_recall 1 = .ok (.getfield 40, 3) ∧ decode cX4_recall 4 = .ok (.ifCond .ne 5, 3) ∧ decode cX4_recall 7 = .ok (.iconst 0, 1) := by decide +kernel
theorem dX4_remember_43 : decode cX4_remember 43 = .ok (.getfield 40, 3) := zdc_116.1
theorem dX4_remember_46 : decode cX4_remember 46 = .ok (.iconst 1, 1) := zdc_116.2.1
theorem dX4_remember_47 : decode cX4_remember 47 = .ok (.iadd, 1) := zdc_116.2.2.1
theorem dX4_remember_48 : decode cX4_remember 48 = .ok (.invokestatic 54, 3) := zdc_116.2.2.2.1
theorem dX4_remember_51 : decode cX4_remember 51 = .ok (.putfield 40, 3) := zdc_116.2.2.2.2.1
theorem dX4_remember_54 : decode cX4_remember 54 = .ok (.return_, 1) := zdc_116.2.2.2.2.2.1
theorem dX4_recall_0 : decode cX4_recall 0 = .ok (.aload_n 0, 1) := zdc_116.2.2.2.2.2.2.1
theorem dX4_recall_1 : decode cX4_recall 1 = .ok (.getfield 40, 3) := zdc_116.2.2.2.2.2.2.2.1
theorem dX4_recall_4 : decode cX4_recall 4 = .ok (.ifCond .ne 5, 3) := zdc_116.2.2.2.2.2.2.2.2.1
theorem dX4_recall_7 : decode cX4_recall 7 = .ok (.iconst 0, 1) := zdc_116.2.2.2.2.2.2.2.2.2
theorem zdc_117 : decode cX4_recall 8 = .ok (.ireturn, 1) ∧ decode cX4_recall 9 = .ok (.aload_n 0, 1) ∧ decode cX4_recall 10 = .ok (.dup, 1) ∧ decode cX4_recall 11 = .ok (.getfield 40, 3) ∧ decode cX4_recall 14 = .ok (.iconst 1, 1) ∧ decode cX4_recall 15 = .ok (.isub, 1) ∧ decode cX4_recall 16 = .ok (.putfield 40, 3) ∧ decode cX4_recall 19 = .ok (.aload_n 0, 1) ∧ decode cX4_recall 20 = .ok (.aload_n 0, 1) ∧ decode cX4_recall 21 = .ok (.getfield 44, 3) := by decide +kernel
theorem dX4_recall_8 : decode cX4_recall 8 = .ok (.ireturn, 1) := zdc_117.1
theorem dX4_recall_9 : decode cX4_recall 9 = .ok (.aload_n 0, 1) := zdc_117.2.1
theorem dX4_recall_10 : decode cX4_recall 10 = .ok (.dup, 1) := zdc_117.2.2.1
theorem dX4_recall_11 : decode cX4_recall 11 = .ok (.getfield 40, 3) := zdc_117.2.2.2.1
theorem dX4_recall_14 : decode cX4_recall 14 = .ok (.iconst 1, 1) := zdc_117.2.2.2.2.1
theorem dX4_recall_15 : decode cX4_recall 15 = .ok (.isub, 1) := zdc_117.2.2.2.2.2.1
theorem dX4_recall_16 : decode cX4_recall 16 = .ok (.putfield 40, 3) := zdc_117.2.2.2.2.2.2.1
theorem dX4_recall_19 : decode cX4_recall 19 = .ok (.aload_n 0, 1) := zdc_117.2.2.2.2.2.2.2.1
theorem dX4_recall_20 : decode cX4_recall 20 = .ok (.aload_n 0, 1) := zdc_117.2.2.2.2.2.2.2.2.1
theorem dX4_recall_21 : decode cX4_recall 21 = .ok (.getfield 44, 3) := zdc_117.2.2.2.2.2.2.2.2.2
theorem zdc_118 : decode cX4_recall 24 = .ok (.iconst 1, 1) ∧ decode cX4_recall 25 = .ok (.isub, 1) ∧ decode cX4_recall 26 = .ok (.bipush 12, 2) ∧ decode cX4_recall 28 = .ok (.invokestatic 60, 3) ∧ decode cX4_recall 31 = .ok (.putfield 44, 3) ∧ decode cX4_recall 34 = .ok (.aload_n 1, 1) ∧ decode cX4_recall 35 = .ok (.aload_n 0, 1) ∧ decode cX4_recall 36 = .ok (.getfield 11, 3) ∧ decode cX4_recall 39 = .ok (.aload_n 0, 1) ∧ decode cX4_recall 40 = .ok (.getfield 44, 3) := by decide +kernel
theorem dX4_recall_24 : decode cX4_recall 24 = .ok (.iconst 1, 1) := zdc_118.1
theorem dX4_recall_25 : decode cX4_recall 25 = .ok (.isub, 1) := zdc_118.2.1
theorem dX4_recall_26 : decode cX4_recall 26 = .ok (.bipush 12, 2) := zdc_118.2.2.1
theorem dX4_recall_28 : decode cX4_recall 28 = .ok (.invokestatic 60, 3) := zdc_118.2.2.2.1
theorem dX4_recall_31 : decode cX4_recall 31 = .ok (.putfield 44, 3) := zdc_118.2.2.2.2.1
theorem dX4_recall_34 : decode cX4_recall 34 = .ok (.aload_n 1, 1) := zdc_118.2.2.2.2.2.1
theorem dX4_recall_35 : decode cX4_recall 35 = .ok (.aload_n 0, 1) := zdc_118.2.2.2.2.2.2.1
theorem dX4_recall_36 : decode cX4_recall 36 = .ok (.getfield 11, 3) := zdc_118.2.2.2.2.2.2.2.1
theorem dX4_recall_39 : decode cX4_recall 39 = .ok (.aload_n 0, 1) := zdc_118.2.2.2.2.2.2.2.2.1
theorem dX4_recall_40 : decode cX4_recall 40 = .ok (.getfield 44, 3) := zdc_118.2.2.2.2.2.2.2.2.2
theorem zdc_119 : decode cX4_recall 43 = .ok (.aaload, 1) ∧ decode cX4_recall 44 = .ok (.invokevirtual 47, 3) ∧ decode cX4_recall 47 = .ok (.aload_n 2, 1) ∧ decode cX4_recall 48 = .ok (.aload_n 0, 1) ∧ decode cX4_recall 49 = .ok (.getfield 19, 3) ∧ decode cX4_recall 52 = .ok (.aload_n 0, 1) ∧ decode cX4_recall 53 = .ok (.getfield 44, 3) ∧ decode cX4_recall 56 = .ok (.aaload, 1) ∧ decode cX4_recall 57 = .ok (.invokevirtual 51, 3) ∧ decode cX4_recall 60 = .ok (.iconst 1, 1) := by decide +kernel
theorem dX4_recall_43 : decode cX4_recall 43 = .ok (.aaload, 1) := zdc_119.1
theorem dX4_recall_44 : decode cX4_recall 44 = .ok (.invokevirtual 47, 3) := zdc_119.2.1
theorem dX4_recall_47 : decode cX4_recall 47 = .ok (.aload_n 2, 1) := zdc_119.2.2.1
theorem dX4_recall_48 : decode cX4_recall 48 = .ok (.aload_n 0, 1) := zdc_119.2.2.2.1
theorem dX4_recall_49 : decode cX4_recall 49 = .ok (.getfield 19, 3) := zdc_119.2.2.2.2.1
theorem dX4_recall_52 : decode cX4_recall 52 = .ok (.aload_n 0, 1) := zdc_119.2.2.2.2.2.1
theorem dX4_recall_53 : decode cX4_recall 53 = .ok (.getfield 44, 3) := zdc_119.2.2.2.2.2.2.1
theorem dX4_recall_56 : decode cX4_recall 56 = .ok (.aaload, 1) := zdc_119.2.2.2.2.2.2.2.1
theorem dX4_recall_57 : decode cX4_recall 57 = .ok (.invokevirtual 51, 3) := zdc_119.2.2.2.2.2.2.2.2.1
theorem dX4_recall_60 : decode cX4_recall 60 = .ok (.iconst 1, 1) := zdc_119.2.2.2.2.2.2.2.2.2
theorem zdc_120 : decode cX4_recall 61 = .ok (.ireturn, 1) ∧ decode cX4_keepImage 0 = .ok (.aload_n 0, 1) ∧ decode cX4_keepImage 1 = .ok (.getfield 24, 3) ∧ decode cX4_keepImage 4 = .ok (.aload_n 1, 1) ∧ decode cX4_keepImage 5 = .ok (.invokevirtual 47, 3) ∧ decode cX4_keepImage 8 = .ok (.aload_n 0, 1) ∧ decode cX4_keepImage 9 = .ok (.getfield 31, 3) ∧ decode cX4_keepImage 12 = .ok (.aload_n 2, 1) ∧ decode cX4_keepImage 13 = .ok (.invokevirtual 63, 3) ∧ decode cX4_keepImage 16 = .ok (.aload_n 0, 1) := by decide +kernel
theorem dX4_recall_61 : decode cX4_recall 61 = .ok (.ireturn, 1) := zdc_120.1
theorem dX4_keepImage_0 : decode cX4_keepImage 0 = .ok (.aload_n 0, 1) := zdc_120.2.1
theorem dX4_keepImage_1 : decode cX4_keepImage 1 = .ok (.getfield 24, 3) := zdc_120.2.2.1
theorem dX4_keepImage_4 : decode cX4_keepImage 4 = .ok (.aload_n 1, 1) := zdc_120.2.2.2.1
theorem dX4_keepImage_5 : decode cX4_keepImage 5 = .ok (.invokevirtual 47, 3) := zdc_120.2.2.2.2.1
theorem dX4_keepImage_8 : decode cX4_keepImage 8 = .ok (.aload_n 0, 1) := zdc_120.2.2.2.2.2.1
theorem dX4_keepImage_9 : decode cX4_keepImage 9 = .ok (.getfield 31, 3) := zdc_120.2.2.2.2.2.2.1
theorem dX4_keepImage_12 : decode cX4_keepImage 12 = .ok (.aload_n 2, 1) := zdc_120.2.2.2.2.2.2.2.1
theorem dX4_keepImage_13 : decode cX4_keepImage 13 = .ok (.invokevirtual 63, 3) := zdc_120.2.2.2.2.2.2.2.2.1
theorem dX4_keepImage_16 : decode cX4_keepImage 16 = .ok (.aload_n 0, 1) := zdc_120.2.2.2.2.2.2.2.2.2
theorem zdc_121 : decode cX4_keepImage 17 = .ok (.getfield 36, 3) ∧ decode cX4_keepImage 20 = .ok (.aload_n 3, 1) ∧ decode cX4_keepImage 21 = .ok (.invokevirtual 51, 3) ∧ decode cX4_keepImage 24 = .ok (.aload_n 0, 1) ∧ decode cX4_keepImage 25 = .ok (.iconst 1, 1) ∧ decode cX4_keepImage 26 = .ok (.putfield 66, 3) ∧ decode cX4_keepImage 29 = .ok (.return_, 1) ∧ decode cX4_giveBackImage 0 = .ok (.aload_n 0, 1) ∧ decode cX4_giveBackImage 1 = .ok (.getfield 66, 3) ∧ decode cX4_giveBackImage 4 = .ok (.ifCond .ne 5, 3) := by decide +kernel
theorem dX4_keepImage_17 : decode cX4_keepImage 17 = .ok (.getfield 36, 3) := zdc_121.1
theorem dX4_keepImage_20 : decode cX4_keepImage 20 = .ok (.aload_n 3, 1) := zdc_121.2.1
theorem dX4_keepImage_21 : decode cX4_keepImage 21 = .ok (.invokevirtual 51, 3) := zdc_121.2.2.1
theorem dX4_keepImage_24 : decode cX4_keepImage 24 = .ok (.aload_n 0, 1) := zdc_121.2.2.2.1
theorem dX4_keepImage_25 : decode cX4_keepImage 25 = .ok (.iconst 1, 1) := zdc_121.2.2.2.2.1
theorem dX4_keepImage_26 : decode cX4_keepImage 26 = .ok (.putfield 66, 3) := zdc_121.2.2.2.2.2.1
theorem dX4_keepImage_29 : decode cX4_keepImage 29 = .ok (.return_, 1) := zdc_121.2.2.2.2.2.2.1
theorem dX4_giveBackImage_0 : decode cX4_giveBackImage 0 = .ok (.aload_n 0, 1) := zdc_121.2.2.2.2.2.2.2.1
theorem dX4_giveBackImage_1 : decode cX4_giveBackImage 1 = .ok (.getfield 66, 3) := zdc_121.2.2.2.2.2.2.2.2.1
theorem dX4_giveBackImage_4 : decode cX4_giveBackImage 4 = .ok (.ifCond .ne 5, 3) := zdc_121.2.2.2.2.2.2.2.2.2
theorem zdc_122 : decode cX4_giveBackImage 7 = .ok (.iconst 0, 1) ∧ decode cX4_giveBackImage 8 = .ok (.ireturn, 1) ∧ decode cX4_giveBackImage 9 = .ok (.aload_n 1, 1) ∧ decode cX4_giveBackImage 10 = .ok (.aload_n 0, 1) ∧ decode cX4_giveBackImage 11 = .ok (.getfield 24, 3) ∧ decode cX4_giveBackImage 14 = .ok (.invokevirtual 47, 3) ∧ decode cX4_giveBackImage 17 = .ok (.aload_n 2, 1) ∧ decode cX4_giveBackImage 18 = .ok (.aload_n 0, 1) ∧ decode cX4_giveBackImage 19 = .ok (.getfield 31, 3) ∧ decode cX4_giveBackImage 22 = .ok (.invokevirtual 63, 3) := by decide +kernel
theorem dX4_giveBackImage_7 : decode cX4_giveBackImage 7 = .ok (.iconst 0, 1) := zdc_122.1
theorem dX4_giveBackImage_8 : decode cX4_giveBackImage 8 = .ok (.ireturn, 1) := zdc_122.2.1
theorem dX4_giveBackImage_9 : decode cX4_giveBackImage 9 = .ok (.aload_n 1, 1) := zdc_122.2.2.1
theorem dX4_giveBackImage_10 : decode cX4_giveBackImage 10 = .ok (.aload_n 0, 1) := zdc_122.2.2.2.1
theorem dX4_giveBackImage_11 : decode cX4_giveBackImage 11 = .ok (.getfield 24, 3) := zdc_122.2.2.2.2.1
theorem dX4_giveBackImage_14 : decode cX4_giveBackImage 14 = .ok (.invokevirtual 47, 3) := zdc_122.2.2.2.2.2.1
theorem dX4_giveBackImage_17 : decode cX4_giveBackImage 17 = .ok (.aload_n 2, 1) := zdc_122.2.2.2.2.2.2.1
theorem dX4_giveBackImage_18 : decode cX4_giveBackImage 18 = .ok (.aload_n 0, 1) := zdc_122.2.2.2.2.2.2.2.1
theorem dX4_giveBackImage_19 : decode cX4_giveBackImage 19 = .ok (.getfield 31, 3) := zdc_122.2.2.2.2.2.2.2.2.1
theorem dX4_giveBackImage_22 : decode cX4_giveBackImage 22 = .ok (.invokevirtual 63, 3) := zdc_122.2.2.2.2.2.2.2.2.2
theorem zdc_123 : decode cX4_giveBackImage 25 = .ok (.aload_n 3, 1) ∧ decode cX4_giveBackImage 26 = .ok (.aload_n 0, 1) ∧ decode cX4_giveBackImage 27 = .ok (.getfield 36, 3) ∧ decode cX4_giveBackImage 30 = .ok (.invokevirtual 51, 3) ∧ decode cX4_giveBackImage 33 = .ok (.aload_n 0, 1) ∧ decode cX4_giveBackImage 34 = .ok (.invokevirtual 70, 3) ∧ decode cX4_giveBackImage 37 = .ok (.iconst 1, 1) ∧ decode cX4_giveBackImage 38 = .ok (.ireturn, 1) ∧ decode cX5_init 0 = .ok (.aload_n 0, 1) ∧ decode cX5_init 1 = .ok (.invokespecial 3, 3) := by decide +kernel
theorem dX4_giveBackImage_25 : decode cX4_giveBackImage 25 = .ok (.aload_n 3, 1) := zdc_123.1
theorem dX4_giveBackImage_26 : decode cX4_giveBackImage 26 = .ok (.aload_n 0, 1) := zdc_123.2.1
theorem dX4_giveBackImage_27 : decode cX4_giveBackImage 27 = .ok (.getfield 36, 3) := zdc_123.2.2.1
theorem dX4_giveBackImage_30 : decode cX4_giveBackImage 30 = .ok (.invokevirtual 51, 3) := zdc_123.2.2.2.1
theorem dX4_giveBackImage_33 : decode cX4_giveBackImage 33 = .ok (.aload_n 0, 1) := zdc_123.2.2.2.2.1
theorem dX4_giveBackImage_34 : decode cX4_giveBackImage 34 = .ok (.invokevirtual 70, 3) := zdc_123.2.2.2.2.2.1
theorem dX4_giveBackImage_37 : decode cX4_giveBackImage 37 = .ok (.iconst 1, 1) := zdc_123.2.2.2.2.2.2.1
theorem dX4_giveBackImage_38 : decode cX4_giveBackImage 38 = .ok (.ireturn, 1) := zdc_123.2.2.2.2.2.2.2.1
theorem dX5_init_0 : decode cX5_init 0 = .ok (.aload_n 0, 1) := zdc_123.2.2.2.2.2.2.2.2.1
theorem dX5_init_1 : decode cX5_init 1 = .ok (.invokespecial 3, 3) := zdc_123.2.2.2.2.2.2.2.2.2
theorem zdc_124 : decode cX5_init 4 = .ok (.aload_n 0, 1) ∧ decode cX5_init 5 = .ok (.sipush 256, 3) ∧ decode cX5_init 8 = .ok (.newarray .boolean, 2) ∧ decode cX5_init 10 = .ok (.putfield 9, 3) ∧ decode cX5_init 13 = .ok (.return_, 1) ∧ decode cX5_hear 0 = .ok (.aload_n 0, 1) ∧ decode cX5_hear 1 = .ok (.iload_n 3, 1) ∧ decode cX5_hear 2 = .ok (.bipush 8, 2) ∧ decode cX5_hear 4 = .ok (.invokestatic 15, 3) ∧ decode cX5_hear 7 = .ok (.putfield 21, 3) := by decide +kernel
theorem dX5_init_4 : decode cX5_init 4 = .ok (.aload_n 0, 1) := zdc_124.1
theorem dX5_init_5 : decode cX5_init 5 = .ok (.sipush 256, 3) := zdc_124.2.1
theorem dX5_init_8 : decode cX5_init 8 = .ok (.newarray .boolean, 2) := zdc_124.2.2.1
theorem dX5_init_10 : decode cX5_init 10 = .ok (.putfield 9, 3) := zdc_124.2.2.2.1
theorem dX5_init_13 : decode cX5_init 13 = .ok (.return_, 1) := zdc_124.2.2.2.2.1
theorem dX5_hear_0 : decode cX5_hear 0 = .ok (.aload_n 0, 1) := zdc_124.2.2.2.2.2.1
theorem dX5_hear_1 : decode cX5_hear 1 = .ok (.iload_n 3, 1) := zdc_124.2.2.2.2.2.2.1
theorem dX5_hear_2 : decode cX5_hear 2 = .ok (.bipush 8, 2) := zdc_124.2.2.2.2.2.2.2.1
theorem dX5_hear_4 : decode cX5_hear 4 = .ok (.invokestatic 15, 3) := zdc_124.2.2.2.2.2.2.2.2.1
theorem dX5_hear_7 : decode cX5_hear 7 = .ok (.putfield 21, 3) := zdc_124.2.2.2.2.2.2.2.2.2
theorem zdc_125 : decode cX5_hear 10 = .ok (.aload_n 0, 1) ∧ decode cX5_hear 11 = .ok (.iconst 0, 1) ∧ decode cX5_hear 12 = .ok (.putfield 25, 3) ∧ decode cX5_hear 15 = .ok (.iconst 0, 1) ∧ decode cX5_hear 16 = .ok (.istore 4, 2) ∧ decode cX5_hear 18 = .ok (.iload 4, 2) ∧ decode cX5_hear 20 = .ok (.iconst 1, 1) ∧ decode cX5_hear 21 = .ok (.aload_n 0, 1) ∧ decode cX5_hear 22 = .ok (.getfield 21, 3) ∧ decode cX5_hear 25 = .ok (.ishl, 1) := by decide +kernel
theorem dX5_hear_10 : decode cX5_hear 10 = .ok (.aload_n 0, 1) := zdc_125.1
theorem dX5_hear_11 : decode cX5_hear 11 = .ok (.iconst 0, 1) := zdc_125.2.1
theorem dX5_hear_12 : decode cX5_hear 12 = .ok (.putfield 25, 3) := zdc_125.2.2.1
theorem dX5_hear_15 : decode cX5_hear 15 = .ok (.iconst 0, 1) := zdc_125.2.2.2.1
theorem dX5_hear_16 : decode cX5_hear 16 = .ok (.istore 4, 2) := zdc_125.2.2.2.2.1
theorem dX5_hear_18 : decode cX5_hear 18 = .ok (.iload 4, 2) := zdc_125.2.2.2.2.2.1
theorem dX5_hear_20 : decode cX5_hear 20 = .ok (.iconst 1, 1) := zdc_125.2.2.2.2.2.2.1
theorem dX5_hear_21 : decode cX5_hear 21 = .ok (.aload_n 0, 1) := zdc_125.2.2.2.2.2.2.2.1
theorem dX5_hear_22 : decode cX5_hear 22 = .ok (.getfield 21, 3) := zdc_125.2.2.2.2.2.2.2.2.1
theorem dX5_hear_25 : decode cX5_hear 25 = .ok (.ishl, 1) := zdc_125.2.2.2.2.2.2.2.2.2
theorem zdc_126 : decode cX5_hear 26 = .ok (.if_icmp .ge 44, 3) ∧ decode cX5_hear 29 = .ok (.aload_n 0, 1) ∧ decode cX5_hear 30 = .ok (.getfield 9, 3) ∧ decode cX5_hear 33 = .ok (.iload 4, 2) ∧ decode cX5_hear 35 = .ok (.aload_n 0, 1) ∧ decode cX5_hear 36 = .ok (.aload_n 1, 1) ∧ decode cX5_hear 37 = .ok (.iload_n 2, 1) ∧ decode cX5_hear 38 = .ok (.iload 4, 2) ∧ decode cX5_hear 40 = .ok (.invokevirtual 28, 3) ∧ decode cX5_hear 43 = .ok (.bastore, 1) := by decide +kernel
theorem dX5_hear_26 : decode cX5_hear 26 = .ok (.if_icmp .ge 44, 3) := zdc_126.1
theorem dX5_hear_29 : decode cX5_hear 29 = .ok (.aload_n 0, 1) := zdc_126.2.1
theorem dX5_hear_30 : decode cX5_hear 30 = .ok (.getfield 9, 3) := zdc_126.2.2.1
theorem dX5_hear_33 : decode cX5_hear 33 = .ok (.iload 4, 2) := zdc_126.2.2.2.1
theorem dX5_hear_35 : decode cX5_hear 35 = .ok (.aload_n 0, 1) := zdc_126.2.2.2.2.1
theorem dX5_hear_36 : decode cX5_hear 36 = .ok (.aload_n 1, 1) := zdc_126.2.2.2.2.2.1
theorem dX5_hear_37 : decode cX5_hear 37 = .ok (.iload_n 2, 1) := zdc_126.2.2.2.2.2.2.1
theorem dX5_hear_38 : decode cX5_hear 38 = .ok (.iload 4, 2) := zdc_126.2.2.2.2.2.2.2.1
theorem dX5_hear_40 : decode cX5_hear 40 = .ok (.invokevirtual 28, 3) := zdc_126.2.2.2.2.2.2.2.2.1
theorem dX5_hear_43 : decode cX5_hear 43 = .ok (.bastore, 1) := zdc_126.2.2.2.2.2.2.2.2.2
theorem zdc_127 : decode cX5_hear 44 = .ok (.aload_n 0, 1) ∧ decode cX5_hear 45 = .ok (.getfield 9, 3) ∧ decode cX5_hear 48 = .ok (.iload 4, 2) ∧ decode cX5_hear 50 = .ok (.baload, 1) ∧ decode cX5_hear 51 = .ok (.ifCond .eq 13, 3) ∧ decode cX5_hear 54 = .ok (.aload_n 0, 1) ∧ decode cX5_hear 55 = .ok (.dup, 1) ∧ decode cX5_hear 56 = .ok (.getfield 25, 3) ∧ decode cX5_hear 59 = .ok (.iconst 1, 1) ∧ decode cX5_hear 60 = .ok (.iadd, 1) := by decide +kernel
theorem dX5_hear_44 : decode cX5_hear 44 = .ok (.aload_n 0, 1) := zdc_127.1
theorem dX5_hear_45 : decode cX5_hear 45 = .ok (.getfield 9, 3) := zdc_127.2.1
theorem dX5_hear_48 : decode cX5_hear 48 = .ok (.iload 4, 2) := zdc_127.2.2.1
theorem dX5_hear_50 : decode cX5_hear 50 = .ok (.baload, 1) := zdc_127.2.2.2.1
theorem dX5_hear_51 : decode cX5_hear 51 = .ok (.ifCond .eq 13, 3) := zdc_127.2.2.2.2.1
theorem dX5_hear_54 : decode cX5_hear 54 = .ok (.aload_n 0, 1) := zdc_127.2.2.2.2.2.1
theorem dX5_hear_55 : decode cX5_hear 55 = .ok (.dup, 1) := zdc_127.2.2.2.2.2.2.1
theorem dX5_hear_56 : decode cX5_hear 56 = .ok (.getfield 25, 3) := zdc_127.2.2.2.2.2.2.2.1
theorem dX5_hear_59 : decode cX5_hear 59 = .ok (.iconst 1, 1) := zdc_127.2.2.2.2.2.2.2.2.1
theorem dX5_hear_60 : decode cX5_hear 60 = .ok (.iadd, 1) := zdc_127.2.2.2.2.2.2.2.2.2
theorem zdc_128 : decode cX5_hear 61 = .ok (.putfield 25, 3) ∧ decode cX5_hear 64 = .ok (.iinc 4 1, 3) ∧ decode cX5_hear 67 = .ok (.goto (-49), 3) ∧ decode cX5_hear 70 = .ok (.return_, 1) ∧ decode cX5_fitsAll 0 = .ok (.iconst 0, 1) ∧ decode cX5_fitsAll 1 = .ok (.istore 4, 2) ∧ decode cX5_fitsAll 3 = .ok (.iload 4, 2) ∧ decode cX5_fitsAll 5 = .ok (.iconst 2, 1) ∧ decode cX5_fitsAll 6 = .ok (.iadd, 1) ∧ decode cX5_fitsAll 7 = .ok (.iload_n 2, 1) := by decide +kernel
theorem dX5_hear_61 : decode cX5_hear 61 = .ok (.putfield 25, 3) := zdc_128.1
theorem dX5_hear_64 : decode cX5_hear 64 = .ok (.iinc 4 1, 3) := zdc_128.2.1
theorem dX5_hear_67 : decode cX5_hear 67 = .ok (.goto (-49), 3) := zdc_128.2.2.1
theorem dX5_hear_70 : decode cX5_hear 70 = .ok (.return_, 1) := zdc_128.2.2.2.1
theorem dX5_fitsAll_0 : decode cX5_fitsAll 0 = .ok (.iconst 0, 1) := zdc_128.2.2.2.2.1
theorem dX5_fitsAll_1 : decode cX5_fitsAll 1 = .ok (.istore 4, 2) := zdc_128.2.2.2.2.2.1
theorem dX5_fitsAll_3 : decode cX5_fitsAll 3 = .ok (.iload 4, 2) := zdc_128.2.2.2.2.2.2.1
theorem dX5_fitsAll_5 : decode cX5_fitsAll 5 = .ok (.iconst 2, 1) := zdc_128.2.2.2.2.2.2.2.1
theorem dX5_fitsAll_6 : decode cX5_fitsAll 6 = .ok (.iadd, 1) := zdc_128.2.2.2.2.2.2.2.2.1
theorem dX5_fitsAll_7 : decode cX5_fitsAll 7 = .ok (.iload_n 2, 1) := zdc_128.2.2.2.2.2.2.2.2.2
theorem zdc_129 : decode cX5_fitsAll 8 = .ok (.if_icmp .ge 63, 3) ∧ decode cX5_fitsAll 11 = .ok (.iload 4, 2) ∧ decode cX5_fitsAll 13 = .ok (.iconst 2, 1) ∧ decode cX5_fitsAll 14 = .ok (.iadd, 1) ∧ decode cX5_fitsAll 15 = .ok (.sipush 400, 3) ∧ decode cX5_fitsAll 18 = .ok (.if_icmp .ge 53, 3) ∧ decode cX5_fitsAll 21 = .ok (.aload_n 0, 1) ∧ decode cX5_fitsAll 22 = .ok (.iload_n 3, 1) ∧ decode cX5_fitsAll 23 = .ok (.aload_n 1, 1) ∧ decode cX5_fitsAll 24 = .ok (.getfield 32, 3) := by decide +kernel
theorem dX5_fitsAll_8 : decode cX5_fitsAll 8 = .ok (.if_icmp .ge 63, 3) := zdc_129.1
theorem dX5_fitsAll_11 : decode cX5_fitsAll 11 = .ok (.iload 4, 2) := zdc_129.2.1
theorem dX5_fitsAll_13 : decode cX5_fitsAll 13 = .ok (.iconst 2, 1) := zdc_129.2.2.1
theorem dX5_fitsAll_14 : decode cX5_fitsAll 14 = .ok (.iadd, 1) := zdc_129.2.2.2.1
theorem dX5_fitsAll_15 : decode cX5_fitsAll 15 = .ok (.sipush 400, 3) := zdc_129.2.2.2.2.1
theorem dX5_fitsAll_18 : decode cX5_fitsAll 18 = .ok (.if_icmp .ge 53, 3) := zdc_129.2.2.2.2.2.1
theorem dX5_fitsAll_21 : decode cX5_fitsAll 21 = .ok (.aload_n 0, 1) := zdc_129.2.2.2.2.2.2.1
theorem dX5_fitsAll_22 : decode cX5_fitsAll 22 = .ok (.iload_n 3, 1) := zdc_129.2.2.2.2.2.2.2.1
theorem dX5_fitsAll_23 : decode cX5_fitsAll 23 = .ok (.aload_n 1, 1) := zdc_129.2.2.2.2.2.2.2.2.1
theorem dX5_fitsAll_24 : decode cX5_fitsAll 24 = .ok (.getfield 32, 3) := zdc_129.2.2.2.2.2.2.2.2.2
theorem zdc_130 : decode cX5_fitsAll 27 = .ok (.iload 4, 2) ∧ decode cX5_fitsAll 29 = .ok (.iaload, 1) ∧ decode cX5_fitsAll 30 = .ok (.aload_n 1, 1) ∧ decode cX5_fitsAll 31 = .ok (.getfield 32, 3) ∧ decode cX5_fitsAll 34 = .ok (.iload 4, 2) ∧ decode cX5_fitsAll 36 = .ok (.iconst 1, 1) ∧ decode cX5_fitsAll 37 = .ok (.iadd, 1) ∧ decode cX5_fitsAll 38 = .ok (.iaload, 1) ∧ decode cX5_fitsAll 39 = .ok (.invokevirtual 38, 3) ∧ decode cX5_fitsAll 42 = .ok (.aload_n 1, 1) := by decide +kernel
theorem dX5_fitsAll_27 : decode cX5_fitsAll 27 = .ok (.iload 4, 2) := zdc_130.1
theorem dX5_fitsAll_29 : decode cX5_fitsAll 29 = .ok (.iaload, 1) := zdc_130.2.1
theorem dX5_fitsAll_30 : decode cX5_fitsAll 30 = .ok (.aload_n 1, 1) := zdc_130.2.2.1
theorem dX5_fitsAll_31 : decode cX5_fitsAll 31 = .ok (.getfield 32, 3) := zdc_130.2.2.2.1
theorem dX5_fitsAll_34 : decode cX5_fitsAll 34 = .ok (.iload 4, 2) := zdc_130.2.2.2.2.1
theorem dX5_fitsAll_36 : decode cX5_fitsAll 36 = .ok (.iconst 1, 1) := zdc_130.2.2.2.2.2.1
theorem dX5_fitsAll_37 : decode cX5_fitsAll 37 = .ok (.iadd, 1) := zdc_130.2.2.2.2.2.2.1
theorem dX5_fitsAll_38 : decode cX5_fitsAll 38 = .ok (.iaload, 1) := zdc_130.2.2.2.2.2.2.2.1
theorem dX5_fitsAll_39 : decode cX5_fitsAll 39 = .ok (.invokevirtual 38, 3) := zdc_130.2.2.2.2.2.2.2.2.1
theorem dX5_fitsAll_42 : decode cX5_fitsAll 42 = .ok (.aload_n 1, 1) := zdc_130.2.2.2.2.2.2.2.2.2
theorem zdc_131 : decode cX5_fitsAll 43 = .ok (.getfield 32, 3) ∧ decode cX5_fitsAll 46 = .ok (.iload 4, 2) ∧ decode cX5_fitsAll 48 = .ok (.iconst 2, 1) ∧ decode cX5_fitsAll 49 = .ok (.iadd, 1) ∧ decode cX5_fitsAll 50 = .ok (.iaload, 1) ∧ decode cX5_fitsAll 51 = .ok (.iconst 1, 1) ∧ decode cX5_fitsAll 52 = .ok (.if_icmp .ne 7, 3) ∧ decode cX5_fitsAll 55 = .ok (.iconst 1, 1) ∧ decode cX5_fitsAll 56 = .ok (.goto 4, 3) ∧ decode cX5_fitsAll 59 = .ok (.iconst 0, 1) := by decide +kernel
theorem dX5_fitsAll_43 : decode cX5_fitsAll 43 = .ok (.getfield 32, 3) := zdc_131.1
theorem dX5_fitsAll_46 : decode cX5_fitsAll 46 = .ok (.iload 4, 2) := zdc_131.2.1
theorem dX5_fitsAll_48 : decode cX5_fitsAll 48 = .ok (.iconst 2, 1) := zdc_131.2.2.1
theorem dX5_fitsAll_49 : decode cX5_fitsAll 49 = .ok (.iadd, 1) := zdc_131.2.2.2.1
theorem dX5_fitsAll_50 : decode cX5_fitsAll 50 = .ok (.iaload, 1) := zdc_131.2.2.2.2.1
theorem dX5_fitsAll_51 : decode cX5_fitsAll 51 = .ok (.iconst 1, 1) := zdc_131.2.2.2.2.2.1
theorem dX5_fitsAll_52 : decode cX5_fitsAll 52 = .ok (.if_icmp .ne 7, 3) := zdc_131.2.2.2.2.2.2.1
theorem dX5_fitsAll_55 : decode cX5_fitsAll 55 = .ok (.iconst 1, 1) := zdc_131.2.2.2.2.2.2.2.1
theorem dX5_fitsAll_56 : decode cX5_fitsAll 56 = .ok (.goto 4, 3) := zdc_131.2.2.2.2.2.2.2.2.1
theorem dX5_fitsAll_59 : decode cX5_fitsAll 59 = .ok (.iconst 0, 1) := zdc_131.2.2.2.2.2.2.2.2.2
theorem zdc_132 : decode cX5_fitsAll 60 = .ok (.if_icmp .eq 5, 3) ∧ decode cX5_fitsAll 63 = .ok (.iconst 0, 1) ∧ decode cX5_fitsAll 64 = .ok (.ireturn, 1) ∧ decode cX5_fitsAll 65 = .ok (.iinc 4 3, 3) ∧ decode cX5_fitsAll 68 = .ok (.goto (-65), 3) ∧ decode cX5_fitsAll 71 = .ok (.iconst 1, 1) ∧ decode cX5_fitsAll 72 = .ok (.ireturn, 1) ∧ decode cX5_answers 0 = .ok (.iload_n 1, 1) ∧ decode cX5_answers 1 = .ok (.iload_n 2, 1) ∧ decode cX5_answers 2 = .ok (.ishr, 1) := by decide +kernel
theorem dX5_fitsAll_60 : decode cX5_fitsAll 60 = .ok (.if_icmp .eq 5, 3) := zdc_132.1
theorem dX5_fitsAll_63 : decode cX5_fitsAll 63 = .ok (.iconst 0, 1) := zdc_132.2.1
theorem dX5_fitsAll_64 : decode cX5_fitsAll 64 = .ok (.ireturn, 1) := zdc_132.2.2.1
theorem dX5_fitsAll_65 : decode cX5_fitsAll 65 = .ok (.iinc 4 3, 3) := zdc_132.2.2.2.1
theorem dX5_fitsAll_68 : decode cX5_fitsAll 68 = .ok (.goto (-65), 3) := zdc_132.2.2.2.2.1
theorem dX5_fitsAll_71 : decode cX5_fitsAll 71 = .ok (.iconst 1, 1) := zdc_132.2.2.2.2.2.1
theorem dX5_fitsAll_72 : decode cX5_fitsAll 72 = .ok (.ireturn, 1) := zdc_132.2.2.2.2.2.2.1
theorem dX5_answers_0 : decode cX5_answers 0 = .ok (.iload_n 1, 1) := zdc_132.2.2.2.2.2.2.2.1
theorem dX5_answers_1 : decode cX5_answers 1 = .ok (.iload_n 2, 1) := zdc_132.2.2.2.2.2.2.2.2.1
theorem dX5_answers_2 : decode cX5_answers 2 = .ok (.ishr, 1) := zdc_132.2.2.2.2.2.2.2.2.2
theorem zdc_133 : decode cX5_answers 3 = .ok (.iconst 1, 1) ∧ decode cX5_answers 4 = .ok (.iand, 1) ∧ decode cX5_answers 5 = .ok (.iload_n 1, 1) ∧ decode cX5_answers 6 = .ok (.iload_n 3, 1) ∧ decode cX5_answers 7 = .ok (.ishr, 1) ∧ decode cX5_answers 8 = .ok (.iconst 1, 1) ∧ decode cX5_answers 9 = .ok (.iand, 1) ∧ decode cX5_answers 10 = .ok (.if_icmp .ne 7, 3) ∧ decode cX5_answers 13 = .ok (.iconst 1, 1) ∧ decode cX5_answers 14 = .ok (.goto 4, 3) := by decide +kernel
theorem dX5_answers_3 : decode cX5_answers 3 = .ok (.iconst 1, 1) := zdc_133.1
theorem dX5_answers_4 : decode cX5_answers 4 = .ok (.iand, 1) := zdc_133.2.1
theorem dX5_answers_5 : decode cX5_answers 5 = .ok (.iload_n 1, 1) := zdc_133.2.2.1
theorem dX5_answers_6 : decode cX5_answers 6 = .ok (.iload_n 3, 1) := zdc_133.2.2.2.1
theorem dX5_answers_7 : decode cX5_answers 7 = .ok (.ishr, 1) := zdc_133.2.2.2.2.1
theorem dX5_answers_8 : decode cX5_answers 8 = .ok (.iconst 1, 1) := zdc_133.2.2.2.2.2.1
theorem dX5_answers_9 : decode cX5_answers 9 = .ok (.iand, 1) := zdc_133.2.2.2.2.2.2.1
theorem dX5_answers_10 : decode cX5_answers 10 = .ok (.if_icmp .ne 7, 3) := zdc_133.2.2.2.2.2.2.2.1
theorem dX5_answers_13 : decode cX5_answers 13 = .ok (.iconst 1, 1) := zdc_133.2.2.2.2.2.2.2.2.1
theorem dX5_answers_14 : decode cX5_answers 14 = .ok (.goto 4, 3) := zdc_133.2.2.2.2.2.2.2.2.2
theorem zdc_134 : decode cX5_answers 17 = .ok (.iconst 0, 1) ∧ decode cX5_answers 18 = .ok (.ireturn, 1) ∧ decode cX5_honestInAll 0 = .ok (.aload_n 0, 1) ∧ decode cX5_honestInAll 1 = .ok (.getfield 25, 3) ∧ decode cX5_honestInAll 4 = .ok (.ifCond .ne 7, 3) ∧ decode cX5_honestInAll 7 = .ok (.iconst 0, 1) ∧ decode cX5_honestInAll 8 = .ok (.goto 11, 3) ∧ decode cX5_honestInAll 11 = .ok (.iconst 1, 1) ∧ decode cX5_honestInAll 12 = .ok (.aload_n 0, 1) ∧ decode cX5_honestInAll 13 = .ok (.getfield 21, 3) := by decide +kernel
theorem dX5_answers_17 : decode cX5_answers 17 = .ok (.iconst 0, 1) := zdc_134.1
theorem dX5_answers_18 : decode cX5_answers 18 = .ok (.ireturn, 1) := zdc_134.2.1
theorem dX5_honestInAll_0 : decode cX5_honestInAll 0 = .ok (.aload_n 0, 1) := zdc_134.2.2.1
theorem dX5_honestInAll_1 : decode cX5_honestInAll 1 = .ok (.getfield 25, 3) := zdc_134.2.2.2.1
theorem dX5_honestInAll_4 : decode cX5_honestInAll 4 = .ok (.ifCond .ne 7, 3) := zdc_134.2.2.2.2.1
theorem dX5_honestInAll_7 : decode cX5_honestInAll 7 = .ok (.iconst 0, 1) := zdc_134.2.2.2.2.2.1
theorem dX5_honestInAll_8 : decode cX5_honestInAll 8 = .ok (.goto 11, 3) := zdc_134.2.2.2.2.2.2.1
theorem dX5_honestInAll_11 : decode cX5_honestInAll 11 = .ok (.iconst 1, 1) := zdc_134.2.2.2.2.2.2.2.1
theorem dX5_honestInAll_12 : decode cX5_honestInAll 12 = .ok (.aload_n 0, 1) := zdc_134.2.2.2.2.2.2.2.2.1
theorem dX5_honestInAll_13 : decode cX5_honestInAll 13 = .ok (.getfield 21, 3) := zdc_134.2.2.2.2.2.2.2.2.2
theorem zdc_135 : decode cX5_honestInAll 16 = .ok (.ishl, 1) ∧ decode cX5_honestInAll 17 = .ok (.iconst 1, 1) ∧ decode cX5_honestInAll 18 = .ok (.isub, 1) ∧ decode cX5_honestInAll 19 = .ok (.istore_n 1, 1) ∧ decode cX5_honestInAll 20 = .ok (.iconst 0, 1) ∧ decode cX5_honestInAll 21 = .ok (.istore_n 2, 1) ∧ decode cX5_honestInAll 22 = .ok (.iload_n 2, 1) ∧ decode cX5_honestInAll 23 = .ok (.iconst 1, 1) ∧ decode cX5_honestInAll 24 = .ok (.aload_n 0, 1) ∧ decode cX5_honestInAll 25 = .ok (.getfield 21, 3) := by decide +kernel
theorem dX5_honestInAll_16 : decode cX5_honestInAll 16 = .ok (.ishl, 1) := zdc_135.1
theorem dX5_honestInAll_17 : decode cX5_honestInAll 17 = .ok (.iconst 1, 1) := zdc_135.2.1
theorem dX5_honestInAll_18 : decode cX5_honestInAll 18 = .ok (.isub, 1) := zdc_135.2.2.1
theorem dX5_honestInAll_19 : decode cX5_honestInAll 19 = .ok (.istore_n 1, 1) := zdc_135.2.2.2.1
theorem dX5_honestInAll_20 : decode cX5_honestInAll 20 = .ok (.iconst 0, 1) := zdc_135.2.2.2.2.1
theorem dX5_honestInAll_21 : decode cX5_honestInAll 21 = .ok (.istore_n 2, 1) := zdc_135.2.2.2.2.2.1
theorem dX5_honestInAll_22 : decode cX5_honestInAll 22 = .ok (.iload_n 2, 1) := zdc_135.2.2.2.2.2.2.1
theorem dX5_honestInAll_23 : decode cX5_honestInAll 23 = .ok (.iconst 1, 1) := zdc_135.2.2.2.2.2.2.2.1
theorem dX5_honestInAll_24 : decode cX5_honestInAll 24 = .ok (.aload_n 0, 1) := zdc_135.2.2.2.2.2.2.2.2.1
theorem dX5_honestInAll_25 : decode cX5_honestInAll 25 = .ok (.getfield 21, 3) := zdc_135.2.2.2.2.2.2.2.2.2
theorem zdc_136 : decode cX5_honestInAll 28 = .ok (.ishl, 1) ∧ decode cX5_honestInAll 29 = .ok (.if_icmp .ge 22, 3) ∧ decode cX5_honestInAll 32 = .ok (.aload_n 0, 1) ∧ decode cX5_honestInAll 33 = .ok (.getfield 9, 3) ∧ decode cX5_honestInAll 36 = .ok (.iload_n 2, 1) ∧ decode cX5_honestInAll 37 = .ok (.baload, 1) ∧ decode cX5_honestInAll 38 = .ok (.ifCond .eq 7, 3) ∧ decode cX5_honestInAll 41 = .ok (.iload_n 1, 1) ∧ decode cX5_honestInAll 42 = .ok (.iload_n 2, 1) ∧ decode cX5_honestInAll 43 = .ok (.iand, 1) := by decide +kernel
theorem dX5_honestInAll_28 : decode cX5_honestInAll 28 = .ok (.ishl, 1) := zdc_136.1
theorem dX5_honestInAll_29 : decode cX5_honestInAll 29 = .ok (.if_icmp .ge 22, 3) := zdc_136.2.1
theorem dX5_honestInAll_32 : decode cX5_honestInAll 32 = .ok (.aload_n 0, 1) := zdc_136.2.2.1
theorem dX5_honestInAll_33 : decode cX5_honestInAll 33 = .ok (.getfield 9, 3) := zdc_136.2.2.2.1
theorem dX5_honestInAll_36 : decode cX5_honestInAll 36 = .ok (.iload_n 2, 1) := zdc_136.2.2.2.2.1
theorem dX5_honestInAll_37 : decode cX5_honestInAll 37 = .ok (.baload, 1) := zdc_136.2.2.2.2.2.1
theorem dX5_honestInAll_38 : decode cX5_honestInAll 38 = .ok (.ifCond .eq 7, 3) := zdc_136.2.2.2.2.2.2.1
theorem dX5_honestInAll_41 : decode cX5_honestInAll 41 = .ok (.iload_n 1, 1) := zdc_136.2.2.2.2.2.2.2.1
theorem dX5_honestInAll_42 : decode cX5_honestInAll 42 = .ok (.iload_n 2, 1) := zdc_136.2.2.2.2.2.2.2.2.1
theorem dX5_honestInAll_43 : decode cX5_honestInAll 43 = .ok (.iand, 1) := zdc_136.2.2.2.2.2.2.2.2.2
theorem zdc_137 : decode cX5_honestInAll 44 = .ok (.istore_n 1, 1) ∧ decode cX5_honestInAll 45 = .ok (.iinc 2 1, 3) ∧ decode cX5_honestInAll 48 = .ok (.goto (-26), 3) ∧ decode cX5_honestInAll 51 = .ok (.iload_n 1, 1) ∧ decode cX5_honestInAll 52 = .ok (.ireturn, 1) ∧ decode cX5_bestQuestion 0 = .ok (.iconst (-1), 1) ∧ decode cX5_bestQuestion 1 = .ok (.istore_n 1, 1) ∧ decode cX5_bestQuestion 2 = .ok (.iconst 0, 1) ∧ decode cX5_bestQuestion 3 = .ok (.istore_n 2, 1) ∧ decode cX5_bestQuestion 4 = .ok (.iconst 0, 1) := by decide +kernel
theorem dX5_honestInAll_44 : decode cX5_honestInAll 44 = .ok (.istore_n 1, 1) := zdc_137.1
theorem dX5_honestInAll_45 : decode cX5_honestInAll 45 = .ok (.iinc 2 1, 3) := zdc_137.2.1
theorem dX5_honestInAll_48 : decode cX5_honestInAll 48 = .ok (.goto (-26), 3) := zdc_137.2.2.1
theorem dX5_honestInAll_51 : decode cX5_honestInAll 51 = .ok (.iload_n 1, 1) := zdc_137.2.2.2.1
theorem dX5_honestInAll_52 : decode cX5_honestInAll 52 = .ok (.ireturn, 1) := zdc_137.2.2.2.2.1
theorem dX5_bestQuestion_0 : decode cX5_bestQuestion 0 = .ok (.iconst (-1), 1) := zdc_137.2.2.2.2.2.1
theorem dX5_bestQuestion_1 : decode cX5_bestQuestion 1 = .ok (.istore_n 1, 1) := zdc_137.2.2.2.2.2.2.1
theorem dX5_bestQuestion_2 : decode cX5_bestQuestion 2 = .ok (.iconst 0, 1) := zdc_137.2.2.2.2.2.2.2.1
theorem dX5_bestQuestion_3 : decode cX5_bestQuestion 3 = .ok (.istore_n 2, 1) := zdc_137.2.2.2.2.2.2.2.2.1
theorem dX5_bestQuestion_4 : decode cX5_bestQuestion 4 = .ok (.iconst 0, 1) := zdc_137.2.2.2.2.2.2.2.2.2
theorem zdc_138 : decode cX5_bestQuestion 5 = .ok (.istore_n 3, 1) ∧ decode cX5_bestQuestion 6 = .ok (.iload_n 3, 1) ∧ decode cX5_bestQuestion 7 = .ok (.aload_n 0, 1) ∧ decode cX5_bestQuestion 8 = .ok (.getfield 21, 3) ∧ decode cX5_bestQuestion 11 = .ok (.if_icmp .ge 72, 3) ∧ decode cX5_bestQuestion 14 = .ok (.aload_n 0, 1) ∧ decode cX5_bestQuestion 15 = .ok (.getfield 25, 3) ∧ decode cX5_bestQuestion 18 = .ok (.iconst 2, 1) ∧ decode cX5_bestQuestion 19 = .ok (.if_icmp .lt 64, 3) ∧ decode cX5_bestQuestion 22 = .ok (.iconst 0, 1) := by decide +kernel
theorem dX5_bestQuestion_5 : decode cX5_bestQuestion 5 = .ok (.istore_n 3, 1) := zdc_138.1
theorem dX5_bestQuestion_6 : decode cX5_bestQuestion 6 = .ok (.iload_n 3, 1) := zdc_138.2.1
theorem dX5_bestQuestion_7 : decode cX5_bestQuestion 7 = .ok (.aload_n 0, 1) := zdc_138.2.2.1
theorem dX5_bestQuestion_8 : decode cX5_bestQuestion 8 = .ok (.getfield 21, 3) := zdc_138.2.2.2.1
theorem dX5_bestQuestion_11 : decode cX5_bestQuestion 11 = .ok (.if_icmp .ge 72, 3) := zdc_138.2.2.2.2.1
theorem dX5_bestQuestion_14 : decode cX5_bestQuestion 14 = .ok (.aload_n 0, 1) := zdc_138.2.2.2.2.2.1
theorem dX5_bestQuestion_15 : decode cX5_bestQuestion 15 = .ok (.getfield 25, 3) := zdc_138.2.2.2.2.2.2.1
theorem dX5_bestQuestion_18 : decode cX5_bestQuestion 18 = .ok (.iconst 2, 1) := zdc_138.2.2.2.2.2.2.2.1
theorem dX5_bestQuestion_19 : decode cX5_bestQuestion 19 = .ok (.if_icmp .lt 64, 3) := zdc_138.2.2.2.2.2.2.2.2.1
theorem dX5_bestQuestion_22 : decode cX5_bestQuestion 22 = .ok (.iconst 0, 1) := zdc_138.2.2.2.2.2.2.2.2.2
theorem zdc_139 : decode cX5_bestQuestion 23 = .ok (.istore 4, 2) ∧ decode cX5_bestQuestion 25 = .ok (.iload 4, 2) ∧ decode cX5_bestQuestion 27 = .ok (.aload_n 0, 1) ∧ decode cX5_bestQuestion 28 = .ok (.getfield 21, 3) ∧ decode cX5_bestQuestion 31 = .ok (.if_icmp .ge 46, 3) ∧ decode cX5_bestQuestion 34 = .ok (.aload_n 0, 1) ∧ decode cX5_bestQuestion 35 = .ok (.iload_n 3, 1) ∧ decode cX5_bestQuestion 36 = .ok (.iload 4, 2) ∧ decode cX5_bestQuestion 38 = .ok (.invokevirtual 42, 3) ∧ decode cX5_bestQuestion 41 = .ok (.istore 5, 2) := by decide +kernel
theorem dX5_bestQuestion_23 : decode cX5_bestQuestion 23 = .ok (.istore 4, 2) := zdc_139.1
theorem dX5_bestQuestion_25 : decode cX5_bestQuestion 25 = .ok (.iload 4, 2) := zdc_139.2.1
theorem dX5_bestQuestion_27 : decode cX5_bestQuestion 27 = .ok (.aload_n 0, 1) := zdc_139.2.2.1
theorem dX5_bestQuestion_28 : decode cX5_bestQuestion 28 = .ok (.getfield 21, 3) := zdc_139.2.2.2.1
theorem dX5_bestQuestion_31 : decode cX5_bestQuestion 31 = .ok (.if_icmp .ge 46, 3) := zdc_139.2.2.2.2.1
theorem dX5_bestQuestion_34 : decode cX5_bestQuestion 34 = .ok (.aload_n 0, 1) := zdc_139.2.2.2.2.2.1
theorem dX5_bestQuestion_35 : decode cX5_bestQuestion 35 = .ok (.iload_n 3, 1) := zdc_139.2.2.2.2.2.2.1
theorem dX5_bestQuestion_36 : decode cX5_bestQuestion 36 = .ok (.iload 4, 2) := zdc_139.2.2.2.2.2.2.2.1
theorem dX5_bestQuestion_38 : decode cX5_bestQuestion 38 = .ok (.invokevirtual 42, 3) := zdc_139.2.2.2.2.2.2.2.2.1
theorem dX5_bestQuestion_41 : decode cX5_bestQuestion 41 = .ok (.istore 5, 2) := zdc_139.2.2.2.2.2.2.2.2.2
theorem zdc_140 : decode cX5_bestQuestion 43 = .ok (.iload_n 3, 1) ∧ decode cX5_bestQuestion 44 = .ok (.iload 4, 2) ∧ decode cX5_bestQuestion 46 = .ok (.if_icmp .eq 25, 3) ∧ decode cX5_bestQuestion 49 = .ok (.iload_n 1, 1) ∧ decode cX5_bestQuestion 50 = .ok (.iconst (-1), 1) ∧ decode cX5_bestQuestion 51 = .ok (.if_icmp .eq 9, 3) ∧ decode cX5_bestQuestion 54 = .ok (.iload 5, 2) ∧ decode cX5_bestQuestion 56 = .ok (.iload_n 2, 1) ∧ decode cX5_bestQuestion 57 = .ok (.if_icmp .ge 14, 3) ∧ decode cX5_bestQuestion 60 = .ok (.bipush 10, 2) := by decide +kernel
theorem dX5_bestQuestion_43 : decode cX5_bestQuestion 43 = .ok (.iload_n 3, 1) := zdc_140.1
theorem dX5_bestQuestion_44 : decode cX5_bestQuestion 44 = .ok (.iload 4, 2) := zdc_140.2.1
theorem dX5_bestQuestion_46 : decode cX5_bestQuestion 46 = .ok (.if_icmp .eq 25, 3) := zdc_140.2.2.1
theorem dX5_bestQuestion_49 : decode cX5_bestQuestion 49 = .ok (.iload_n 1, 1) := zdc_140.2.2.2.1
theorem dX5_bestQuestion_50 : decode cX5_bestQuestion 50 = .ok (.iconst (-1), 1) := zdc_140.2.2.2.2.1
theorem dX5_bestQuestion_51 : decode cX5_bestQuestion 51 = .ok (.if_icmp .eq 9, 3) := zdc_140.2.2.2.2.2.1
theorem dX5_bestQuestion_54 : decode cX5_bestQuestion 54 = .ok (.iload 5, 2) := zdc_140.2.2.2.2.2.2.1
theorem dX5_bestQuestion_56 : decode cX5_bestQuestion 56 = .ok (.iload_n 2, 1) := zdc_140.2.2.2.2.2.2.2.1
theorem dX5_bestQuestion_57 : decode cX5_bestQuestion 57 = .ok (.if_icmp .ge 14, 3) := zdc_140.2.2.2.2.2.2.2.2.1
theorem dX5_bestQuestion_60 : decode cX5_bestQuestion 60 = .ok (.bipush 10, 2) := zdc_140.2.2.2.2.2.2.2.2.2
theorem zdc_141 : decode cX5_bestQuestion 62 = .ok (.iload_n 3, 1) ∧ decode cX5_bestQuestion 63 = .ok (.imul, 1) ∧ decode cX5_bestQuestion 64 = .ok (.iload 4, 2) ∧ decode cX5_bestQuestion 66 = .ok (.iadd, 1) ∧ decode cX5_bestQuestion 67 = .ok (.istore_n 1, 1) ∧ decode cX5_bestQuestion 68 = .ok (.iload 5, 2) ∧ decode cX5_bestQuestion 70 = .ok (.istore_n 2, 1) ∧ decode cX5_bestQuestion 71 = .ok (.iinc 4 1, 3) ∧ decode cX5_bestQuestion 74 = .ok (.goto (-49), 3) ∧ decode cX5_bestQuestion 77 = .ok (.iinc 3 1, 3) := by decide +kernel
theorem dX5_bestQuestion_62 : decode cX5_bestQuestion 62 = .ok (.iload_n 3, 1) := zdc_141.1
theorem dX5_bestQuestion_63 : decode cX5_bestQuestion 63 = .ok (.imul, 1) := zdc_141.2.1
theorem dX5_bestQuestion_64 : decode cX5_bestQuestion 64 = .ok (.iload 4, 2) := zdc_141.2.2.1
theorem dX5_bestQuestion_66 : decode cX5_bestQuestion 66 = .ok (.iadd, 1) := zdc_141.2.2.2.1
theorem dX5_bestQuestion_67 : decode cX5_bestQuestion 67 = .ok (.istore_n 1, 1) := zdc_141.2.2.2.2.1
theorem dX5_bestQuestion_68 : decode cX5_bestQuestion 68 = .ok (.iload 5, 2) := zdc_141.2.2.2.2.2.1
theorem dX5_bestQuestion_70 : decode cX5_bestQuestion 70 = .ok (.istore_n 2, 1) := zdc_141.2.2.2.2.2.2.1
theorem dX5_bestQuestion_71 : decode cX5_bestQuestion 71 = .ok (.iinc 4 1, 3) := zdc_141.2.2.2.2.2.2.2.1
theorem dX5_bestQuestion_74 : decode cX5_bestQuestion 74 = .ok (.goto (-49), 3) := zdc_141.2.2.2.2.2.2.2.2.1
theorem dX5_bestQuestion_77 : decode cX5_bestQuestion 77 = .ok (.iinc 3 1, 3) := zdc_141.2.2.2.2.2.2.2.2.2
theorem zdc_142 : decode cX5_bestQuestion 80 = .ok (.goto (-74), 3) ∧ decode cX5_bestQuestion 83 = .ok (.iload_n 1, 1) ∧ decode cX5_bestQuestion 84 = .ok (.ireturn, 1) ∧ decode cX5_greaterPart 0 = .ok (.iconst 0, 1) ∧ decode cX5_greaterPart 1 = .ok (.istore_n 3, 1) ∧ decode cX5_greaterPart 2 = .ok (.iconst 0, 1) ∧ decode cX5_greaterPart 3 = .ok (.istore 4, 2) ∧ decode cX5_greaterPart 5 = .ok (.iload 4, 2) ∧ decode cX5_greaterPart 7 = .ok (.iconst 1, 1) ∧ decode cX5_greaterPart 8 = .ok (.aload_n 0, 1) := by decide +kernel
theorem dX5_bestQuestion_80 : decode cX5_bestQuestion 80 = .ok (.goto (-74), 3) := zdc_142.1
theorem dX5_bestQuestion_83 : decode cX5_bestQuestion 83 = .ok (.iload_n 1, 1) := zdc_142.2.1
theorem dX5_bestQuestion_84 : decode cX5_bestQuestion 84 = .ok (.ireturn, 1) := zdc_142.2.2.1
theorem dX5_greaterPart_0 : decode cX5_greaterPart 0 = .ok (.iconst 0, 1) := zdc_142.2.2.2.1
theorem dX5_greaterPart_1 : decode cX5_greaterPart 1 = .ok (.istore_n 3, 1) := zdc_142.2.2.2.2.1
theorem dX5_greaterPart_2 : decode cX5_greaterPart 2 = .ok (.iconst 0, 1) := zdc_142.2.2.2.2.2.1
theorem dX5_greaterPart_3 : decode cX5_greaterPart 3 = .ok (.istore 4, 2) := zdc_142.2.2.2.2.2.2.1
theorem dX5_greaterPart_5 : decode cX5_greaterPart 5 = .ok (.iload 4, 2) := zdc_142.2.2.2.2.2.2.2.1
theorem dX5_greaterPart_7 : decode cX5_greaterPart 7 = .ok (.iconst 1, 1) := zdc_142.2.2.2.2.2.2.2.2.1
theorem dX5_greaterPart_8 : decode cX5_greaterPart 8 = .ok (.aload_n 0, 1) := zdc_142.2.2.2.2.2.2.2.2.2
theorem zdc_143 : decode cX5_greaterPart 9 = .ok (.getfield 21, 3) ∧ decode cX5_greaterPart 12 = .ok (.ishl, 1) ∧ decode cX5_greaterPart 13 = .ok (.if_icmp .ge 33, 3) ∧ decode cX5_greaterPart 16 = .ok (.aload_n 0, 1) ∧ decode cX5_greaterPart 17 = .ok (.getfield 9, 3) ∧ decode cX5_greaterPart 20 = .ok (.iload 4, 2) ∧ decode cX5_greaterPart 22 = .ok (.baload, 1) ∧ decode cX5_greaterPart 23 = .ok (.ifCond .eq 17, 3) ∧ decode cX5_greaterPart 26 = .ok (.aload_n 0, 1) ∧ decode cX5_greaterPart 27 = .ok (.iload 4, 2) := by decide +kernel
theorem dX5_greaterPart_9 : decode cX5_greaterPart 9 = .ok (.getfield 21, 3) := zdc_143.1
theorem dX5_greaterPart_12 : decode cX5_greaterPart 12 = .ok (.ishl, 1) := zdc_143.2.1
theorem dX5_greaterPart_13 : decode cX5_greaterPart 13 = .ok (.if_icmp .ge 33, 3) := zdc_143.2.2.1
theorem dX5_greaterPart_16 : decode cX5_greaterPart 16 = .ok (.aload_n 0, 1) := zdc_143.2.2.2.1
theorem dX5_greaterPart_17 : decode cX5_greaterPart 17 = .ok (.getfield 9, 3) := zdc_143.2.2.2.2.1
theorem dX5_greaterPart_20 : decode cX5_greaterPart 20 = .ok (.iload 4, 2) := zdc_143.2.2.2.2.2.1
theorem dX5_greaterPart_22 : decode cX5_greaterPart 22 = .ok (.baload, 1) := zdc_143.2.2.2.2.2.2.1
theorem dX5_greaterPart_23 : decode cX5_greaterPart 23 = .ok (.ifCond .eq 17, 3) := zdc_143.2.2.2.2.2.2.2.1
theorem dX5_greaterPart_26 : decode cX5_greaterPart 26 = .ok (.aload_n 0, 1) := zdc_143.2.2.2.2.2.2.2.2.1
theorem dX5_greaterPart_27 : decode cX5_greaterPart 27 = .ok (.iload 4, 2) := zdc_143.2.2.2.2.2.2.2.2.2
theorem zdc_144 : decode cX5_greaterPart 29 = .ok (.iload_n 1, 1) ∧ decode cX5_greaterPart 30 = .ok (.iload_n 2, 1) ∧ decode cX5_greaterPart 31 = .ok (.invokevirtual 38, 3) ∧ decode cX5_greaterPart 34 = .ok (.ifCond .eq 6, 3) ∧ decode cX5_greaterPart 37 = .ok (.iinc 3 1, 3) ∧ decode cX5_greaterPart 40 = .ok (.iinc 4 1, 3) ∧ decode cX5_greaterPart 43 = .ok (.goto (-38), 3) ∧ decode cX5_greaterPart 46 = .ok (.iload_n 3, 1) ∧ decode cX5_greaterPart 47 = .ok (.aload_n 0, 1) ∧ decode cX5_greaterPart 48 = .ok (.getfield 25, 3) := by decide +kernel
theorem dX5_greaterPart_29 : decode cX5_greaterPart 29 = .ok (.iload_n 1, 1) := zdc_144.1
theorem dX5_greaterPart_30 : decode cX5_greaterPart 30 = .ok (.iload_n 2, 1) := zdc_144.2.1
theorem dX5_greaterPart_31 : decode cX5_greaterPart 31 = .ok (.invokevirtual 38, 3) := zdc_144.2.2.1
theorem dX5_greaterPart_34 : decode cX5_greaterPart 34 = .ok (.ifCond .eq 6, 3) := zdc_144.2.2.2.1
theorem dX5_greaterPart_37 : decode cX5_greaterPart 37 = .ok (.iinc 3 1, 3) := zdc_144.2.2.2.2.1
theorem dX5_greaterPart_40 : decode cX5_greaterPart 40 = .ok (.iinc 4 1, 3) := zdc_144.2.2.2.2.2.1
theorem dX5_greaterPart_43 : decode cX5_greaterPart 43 = .ok (.goto (-38), 3) := zdc_144.2.2.2.2.2.2.1
theorem dX5_greaterPart_46 : decode cX5_greaterPart 46 = .ok (.iload_n 3, 1) := zdc_144.2.2.2.2.2.2.2.1
theorem dX5_greaterPart_47 : decode cX5_greaterPart 47 = .ok (.aload_n 0, 1) := zdc_144.2.2.2.2.2.2.2.2.1
theorem dX5_greaterPart_48 : decode cX5_greaterPart 48 = .ok (.getfield 25, 3) := zdc_144.2.2.2.2.2.2.2.2.2
theorem zdc_145 : decode cX5_greaterPart 51 = .ok (.iload_n 3, 1) ∧ decode cX5_greaterPart 52 = .ok (.isub, 1) ∧ decode cX5_greaterPart 53 = .ok (.invokestatic 45, 3) ∧ decode cX5_greaterPart 56 = .ok (.ireturn, 1) ∧ decode cX5_odds 0 = .ok (.iload_n 0, 1) ∧ decode cX5_odds 1 = .ok (.i2l, 1) ∧ decode cX5_odds 2 = .ok (.lstore_n 2, 1) ∧ decode cX5_odds 3 = .ok (.bipush 100, 2) ∧ decode cX5_odds 5 = .ok (.iload_n 0, 1) ∧ decode cX5_odds 6 = .ok (.isub, 1) := by decide +kernel
theorem dX5_greaterPart_51 : decode cX5_greaterPart 51 = .ok (.iload_n 3, 1) := zdc_145.1
theorem dX5_greaterPart_52 : decode cX5_greaterPart 52 = .ok (.isub, 1) := zdc_145.2.1
theorem dX5_greaterPart_53 : decode cX5_greaterPart 53 = .ok (.invokestatic 45, 3) := zdc_145.2.2.1
theorem dX5_greaterPart_56 : decode cX5_greaterPart 56 = .ok (.ireturn, 1) := zdc_145.2.2.2.1
theorem dX5_odds_0 : decode cX5_odds 0 = .ok (.iload_n 0, 1) := zdc_145.2.2.2.2.1
theorem dX5_odds_1 : decode cX5_odds 1 = .ok (.i2l, 1) := zdc_145.2.2.2.2.2.1
theorem dX5_odds_2 : decode cX5_odds 2 = .ok (.lstore_n 2, 1) := zdc_145.2.2.2.2.2.2.1
theorem dX5_odds_3 : decode cX5_odds 3 = .ok (.bipush 100, 2) := zdc_145.2.2.2.2.2.2.2.1
theorem dX5_odds_5 : decode cX5_odds 5 = .ok (.iload_n 0, 1) := zdc_145.2.2.2.2.2.2.2.2.1
theorem dX5_odds_6 : decode cX5_odds 6 = .ok (.isub, 1) := zdc_145.2.2.2.2.2.2.2.2.2
theorem zdc_146 : decode cX5_odds 7 = .ok (.i2l, 1) ∧ decode cX5_odds 8 = .ok (.lstore 4, 2) ∧ decode cX5_odds 10 = .ok (.iconst 0, 1) ∧ decode cX5_odds 11 = .ok (.istore 6, 2) ∧ decode cX5_odds 13 = .ok (.iload 6, 2) ∧ decode cX5_odds 15 = .ok (.iload_n 1, 1) ∧ decode cX5_odds 16 = .ok (.if_icmp .ge 15, 3) ∧ decode cX5_odds 19 = .ok (.lload_n 2, 1) ∧ decode cX5_odds 20 = .ok (.ldc2_w 48, 3) ∧ decode cX5_odds 23 = .ok (.lmul, 1) := by decide +kernel
theorem dX5_odds_7 : decode cX5_odds 7 = .ok (.i2l, 1) := zdc_146.1
theorem dX5_odds_8 : decode cX5_odds 8 = .ok (.lstore 4, 2) := zdc_146.2.1
theorem dX5_odds_10 : decode cX5_odds 10 = .ok (.iconst 0, 1) := zdc_146.2.2.1
theorem dX5_odds_11 : decode cX5_odds 11 = .ok (.istore 6, 2) := zdc_146.2.2.2.1
theorem dX5_odds_13 : decode cX5_odds 13 = .ok (.iload 6, 2) := zdc_146.2.2.2.2.1
theorem dX5_odds_15 : decode cX5_odds 15 = .ok (.iload_n 1, 1) := zdc_146.2.2.2.2.2.1
theorem dX5_odds_16 : decode cX5_odds 16 = .ok (.if_icmp .ge 15, 3) := zdc_146.2.2.2.2.2.2.1
theorem dX5_odds_19 : decode cX5_odds 19 = .ok (.lload_n 2, 1) := zdc_146.2.2.2.2.2.2.2.1
theorem dX5_odds_20 : decode cX5_odds 20 = .ok (.ldc2_w 48, 3) := zdc_146.2.2.2.2.2.2.2.2.1
theorem dX5_odds_23 : decode cX5_odds 23 = .ok (.lmul, 1) := zdc_146.2.2.2.2.2.2.2.2.2
theorem zdc_147 : decode cX5_odds 24 = .ok (.lstore_n 2, 1) ∧ decode cX5_odds 25 = .ok (.iinc 6 1, 3) ∧ decode cX5_odds 28 = .ok (.goto (-15), 3) ∧ decode cX5_odds 31 = .ok (.iconst 0, 1) ∧ decode cX5_odds 32 = .ok (.istore 6, 2) ∧ decode cX5_odds 34 = .ok (.iload 6, 2) ∧ decode cX5_odds 36 = .ok (.iload_n 1, 1) ∧ decode cX5_odds 37 = .ok (.ineg, 1) ∧ decode cX5_odds 38 = .ok (.if_icmp .ge 17, 3) ∧ decode cX5_odds 41 = .ok (.lload 4, 2) := by decide +kernel
theorem dX5_odds_24 : decode cX5_odds 24 = .ok (.lstore_n 2, 1) := zdc_147.1
theorem dX5_odds_25 : decode cX5_odds 25 = .ok (.iinc 6 1, 3) := zdc_147.2.1
theorem dX5_odds_28 : decode cX5_odds 28 = .ok (.goto (-15), 3) := zdc_147.2.2.1
theorem dX5_odds_31 : decode cX5_odds 31 = .ok (.iconst 0, 1) := zdc_147.2.2.2.1
theorem dX5_odds_32 : decode cX5_odds 32 = .ok (.istore 6, 2) := zdc_147.2.2.2.2.1
theorem dX5_odds_34 : decode cX5_odds 34 = .ok (.iload 6, 2) := zdc_147.2.2.2.2.2.1
theorem dX5_odds_36 : decode cX5_odds 36 = .ok (.iload_n 1, 1) := zdc_147.2.2.2.2.2.2.1
theorem dX5_odds_37 : decode cX5_odds 37 = .ok (.ineg, 1) := zdc_147.2.2.2.2.2.2.2.1
theorem dX5_odds_38 : decode cX5_odds 38 = .ok (.if_icmp .ge 17, 3) := zdc_147.2.2.2.2.2.2.2.2.1
theorem dX5_odds_41 : decode cX5_odds 41 = .ok (.lload 4, 2) := zdc_147.2.2.2.2.2.2.2.2.2
theorem zdc_148 : decode cX5_odds 43 = .ok (.ldc2_w 48, 3) ∧ decode cX5_odds 46 = .ok (.lmul, 1) ∧ decode cX5_odds 47 = .ok (.lstore 4, 2) ∧ decode cX5_odds 49 = .ok (.iinc 6 1, 3) ∧ decode cX5_odds 52 = .ok (.goto (-18), 3) ∧ decode cX5_odds 55 = .ok (.lload_n 2, 1) ∧ decode cX5_odds 56 = .ok (.lload 4, 2) ∧ decode cX5_odds 58 = .ok (.ladd, 1) ∧ decode cX5_odds 59 = .ok (.lconst 0, 1) ∧ decode cX5_odds 60 = .ok (.lcmp, 1) := by decide +kernel
theorem dX5_odds_43 : decode cX5_odds 43 = .ok (.ldc2_w 48, 3) := zdc_148.1
theorem dX5_odds_46 : decode cX5_odds 46 = .ok (.lmul, 1) := zdc_148.2.1
theorem dX5_odds_47 : decode cX5_odds 47 = .ok (.lstore 4, 2) := zdc_148.2.2.1
theorem dX5_odds_49 : decode cX5_odds 49 = .ok (.iinc 6 1, 3) := zdc_148.2.2.2.1
theorem dX5_odds_52 : decode cX5_odds 52 = .ok (.goto (-18), 3) := zdc_148.2.2.2.2.1
theorem dX5_odds_55 : decode cX5_odds 55 = .ok (.lload_n 2, 1) := zdc_148.2.2.2.2.2.1
theorem dX5_odds_56 : decode cX5_odds 56 = .ok (.lload 4, 2) := zdc_148.2.2.2.2.2.2.1
theorem dX5_odds_58 : decode cX5_odds 58 = .ok (.ladd, 1) := zdc_148.2.2.2.2.2.2.2.1
theorem dX5_odds_59 : decode cX5_odds 59 = .ok (.lconst 0, 1) := zdc_148.2.2.2.2.2.2.2.2.1
theorem dX5_odds_60 : decode cX5_odds 60 = .ok (.lcmp, 1) := zdc_148.2.2.2.2.2.2.2.2.2
theorem zdc_149 : decode cX5_odds 61 = .ok (.ifCond .gt 7, 3) ∧ decode cX5_odds 64 = .ok (.iconst 0, 1) ∧ decode cX5_odds 65 = .ok (.goto 14, 3) ∧ decode cX5_odds 68 = .ok (.ldc2_w 50, 3) ∧ decode cX5_odds 71 = .ok (.lload_n 2, 1) ∧ decode cX5_odds 72 = .ok (.lmul, 1) ∧ decode cX5_odds 73 = .ok (.lload_n 2, 1) ∧ decode cX5_odds 74 = .ok (.lload 4, 2) ∧ decode cX5_odds 76 = .ok (.ladd, 1) ∧ decode cX5_odds 77 = .ok (.ldiv, 1) := by decide +kernel
theorem dX5_odds_61 : decode cX5_odds 61 = .ok (.ifCond .gt 7, 3) := zdc_149.1
theorem dX5_odds_64 : decode cX5_odds 64 = .ok (.iconst 0, 1) := zdc_149.2.1
theorem dX5_odds_65 : decode cX5_odds 65 = .ok (.goto 14, 3) := zdc_149.2.2.1
theorem dX5_odds_68 : decode cX5_odds 68 = .ok (.ldc2_w 50, 3) := zdc_149.2.2.2.1
theorem dX5_odds_71 : decode cX5_odds 71 = .ok (.lload_n 2, 1) := zdc_149.2.2.2.2.1
theorem dX5_odds_72 : decode cX5_odds 72 = .ok (.lmul, 1) := zdc_149.2.2.2.2.2.1
theorem dX5_odds_73 : decode cX5_odds 73 = .ok (.lload_n 2, 1) := zdc_149.2.2.2.2.2.2.1
theorem dX5_odds_74 : decode cX5_odds 74 = .ok (.lload 4, 2) := zdc_149.2.2.2.2.2.2.2.1
theorem dX5_odds_76 : decode cX5_odds 76 = .ok (.ladd, 1) := zdc_149.2.2.2.2.2.2.2.2.1
theorem dX5_odds_77 : decode cX5_odds 77 = .ok (.ldiv, 1) := zdc_149.2.2.2.2.2.2.2.2.2
theorem zdc_150 : decode cX5_odds 78 = .ok (.l2i, 1) ∧ decode cX5_odds 79 = .ok (.ireturn, 1) ∧ decode cX5_fewestNeeded 0 = .ok (.iconst 0, 1) ∧ decode cX5_fewestNeeded 1 = .ok (.istore_n 2, 1) ∧ decode cX5_fewestNeeded 2 = .ok (.iload_n 2, 1) ∧ decode cX5_fewestNeeded 3 = .ok (.bipush 20, 2) ∧ decode cX5_fewestNeeded 5 = .ok (.if_icmp .gt 32, 3) ∧ decode cX5_fewestNeeded 8 = .ok (.iload_n 1, 1) ∧ decode cX5_fewestNeeded 9 = .ok (.iload_n 2, 1) ∧ decode cX5_fewestNeeded 10 = .ok (.iadd, 1) := by decide +kernel
theorem dX5_odds_78 : decode cX5_odds 78 = .ok (.l2i, 1) := zdc_150.1
theorem dX5_odds_79 : decode cX5_odds 79 = .ok (.ireturn, 1) := zdc_150.2.1
theorem dX5_fewestNeeded_0 : decode cX5_fewestNeeded 0 = .ok (.iconst 0, 1) := zdc_150.2.2.1
theorem dX5_fewestNeeded_1 : decode cX5_fewestNeeded 1 = .ok (.istore_n 2, 1) := zdc_150.2.2.2.1
theorem dX5_fewestNeeded_2 : decode cX5_fewestNeeded 2 = .ok (.iload_n 2, 1) := zdc_150.2.2.2.2.1
theorem dX5_fewestNeeded_3 : decode cX5_fewestNeeded 3 = .ok (.bipush 20, 2) := zdc_150.2.2.2.2.2.1
theorem dX5_fewestNeeded_5 : decode cX5_fewestNeeded 5 = .ok (.if_icmp .gt 32, 3) := zdc_150.2.2.2.2.2.2.1
theorem dX5_fewestNeeded_8 : decode cX5_fewestNeeded 8 = .ok (.iload_n 1, 1) := zdc_150.2.2.2.2.2.2.2.1
theorem dX5_fewestNeeded_9 : decode cX5_fewestNeeded 9 = .ok (.iload_n 2, 1) := zdc_150.2.2.2.2.2.2.2.2.1
theorem dX5_fewestNeeded_10 : decode cX5_fewestNeeded 10 = .ok (.iadd, 1) := zdc_150.2.2.2.2.2.2.2.2.2
theorem zdc_151 : decode cX5_fewestNeeded 11 = .ok (.bipush 12, 2) ∧ decode cX5_fewestNeeded 13 = .ok (.if_icmp .gt 24, 3) ∧ decode cX5_fewestNeeded 16 = .ok (.iload_n 0, 1) ∧ decode cX5_fewestNeeded 17 = .ok (.iload_n 1, 1) ∧ decode cX5_fewestNeeded 18 = .ok (.iload_n 2, 1) ∧ decode cX5_fewestNeeded 19 = .ok (.iadd, 1) ∧ decode cX5_fewestNeeded 20 = .ok (.invokestatic 52, 3) ∧ decode cX5_fewestNeeded 23 = .ok (.sipush 9900, 3) ∧ decode cX5_fewestNeeded 26 = .ok (.if_icmp .lt 5, 3) ∧ decode cX5_fewestNeeded 29 = .ok (.iload_n 2, 1) := by decide +kernel
theorem dX5_fewestNeeded_11 : decode cX5_fewestNeeded 11 = .ok (.bipush 12, 2) := zdc_151.1
theorem dX5_fewestNeeded_13 : decode cX5_fewestNeeded 13 = .ok (.if_icmp .gt 24, 3) := zdc_151.2.1
theorem dX5_fewestNeeded_16 : decode cX5_fewestNeeded 16 = .ok (.iload_n 0, 1) := zdc_151.2.2.1
theorem dX5_fewestNeeded_17 : decode cX5_fewestNeeded 17 = .ok (.iload_n 1, 1) := zdc_151.2.2.2.1
theorem dX5_fewestNeeded_18 : decode cX5_fewestNeeded 18 = .ok (.iload_n 2, 1) := zdc_151.2.2.2.2.1
theorem dX5_fewestNeeded_19 : decode cX5_fewestNeeded 19 = .ok (.iadd, 1) := zdc_151.2.2.2.2.2.1
theorem dX5_fewestNeeded_20 : decode cX5_fewestNeeded 20 = .ok (.invokestatic 52, 3) := zdc_151.2.2.2.2.2.2.1
theorem dX5_fewestNeeded_23 : decode cX5_fewestNeeded 23 = .ok (.sipush 9900, 3) := zdc_151.2.2.2.2.2.2.2.1
theorem dX5_fewestNeeded_26 : decode cX5_fewestNeeded 26 = .ok (.if_icmp .lt 5, 3) := zdc_151.2.2.2.2.2.2.2.2.1
theorem dX5_fewestNeeded_29 : decode cX5_fewestNeeded 29 = .ok (.iload_n 2, 1) := zdc_151.2.2.2.2.2.2.2.2.2
theorem zdc_152 : decode cX5_fewestNeeded 30 = .ok (.ireturn, 1) ∧ decode cX5_fewestNeeded 31 = .ok (.iinc 2 1, 3) ∧ decode cX5_fewestNeeded 34 = .ok (.goto (-32), 3) ∧ decode cX5_fewestNeeded 37 = .ok (.iconst (-1), 1) ∧ decode cX5_fewestNeeded 38 = .ok (.ireturn, 1) ∧ decode cX5_choicesAtRest 0 = .ok (.iconst 0, 1) ∧ decode cX5_choicesAtRest 1 = .ok (.istore_n 1, 1) ∧ decode cX5_choicesAtRest 2 = .ok (.iconst 0, 1) ∧ decode cX5_choicesAtRest 3 = .ok (.istore_n 2, 1) ∧ decode cX5_choicesAtRest 4 = .ok (.iload_n 2, 1) := by decide +kernel
theorem dX5_fewestNeeded_30 : decode cX5_fewestNeeded 30 = .ok (.ireturn, 1) := zdc_152.1
theorem dX5_fewestNeeded_31 : decode cX5_fewestNeeded 31 = .ok (.iinc 2 1, 3) := zdc_152.2.1
theorem dX5_fewestNeeded_34 : decode cX5_fewestNeeded 34 = .ok (.goto (-32), 3) := zdc_152.2.2.1
theorem dX5_fewestNeeded_37 : decode cX5_fewestNeeded 37 = .ok (.iconst (-1), 1) := zdc_152.2.2.2.1
theorem dX5_fewestNeeded_38 : decode cX5_fewestNeeded 38 = .ok (.ireturn, 1) := zdc_152.2.2.2.2.1
theorem dX5_choicesAtRest_0 : decode cX5_choicesAtRest 0 = .ok (.iconst 0, 1) := zdc_152.2.2.2.2.2.1
theorem dX5_choicesAtRest_1 : decode cX5_choicesAtRest 1 = .ok (.istore_n 1, 1) := zdc_152.2.2.2.2.2.2.1
theorem dX5_choicesAtRest_2 : decode cX5_choicesAtRest 2 = .ok (.iconst 0, 1) := zdc_152.2.2.2.2.2.2.2.1
theorem dX5_choicesAtRest_3 : decode cX5_choicesAtRest 3 = .ok (.istore_n 2, 1) := zdc_152.2.2.2.2.2.2.2.2.1
theorem dX5_choicesAtRest_4 : decode cX5_choicesAtRest 4 = .ok (.iload_n 2, 1) := zdc_152.2.2.2.2.2.2.2.2.2
theorem zdc_153 : decode cX5_choicesAtRest 5 = .ok (.iconst 4, 1) ∧ decode cX5_choicesAtRest 6 = .ok (.if_icmp .ge 60, 3) ∧ decode cX5_choicesAtRest 9 = .ok (.iload_n 2, 1) ∧ decode cX5_choicesAtRest 10 = .ok (.iconst 2, 1) ∧ decode cX5_choicesAtRest 11 = .ok (.idiv, 1) ∧ decode cX5_choicesAtRest 12 = .ok (.istore_n 3, 1) ∧ decode cX5_choicesAtRest 13 = .ok (.iload_n 2, 1) ∧ decode cX5_choicesAtRest 14 = .ok (.iconst 2, 1) ∧ decode cX5_choicesAtRest 15 = .ok (.irem, 1) ∧ decode cX5_choicesAtRest 16 = .ok (.istore 4, 2) := by decide +kernel
theorem dX5_choicesAtRest_5 : decode cX5_choicesAtRest 5 = .ok (.iconst 4, 1) := zdc_153.1
theorem dX5_choicesAtRest_6 : decode cX5_choicesAtRest 6 = .ok (.if_icmp .ge 60, 3) := zdc_153.2.1
theorem dX5_choicesAtRest_9 : decode cX5_choicesAtRest 9 = .ok (.iload_n 2, 1) := zdc_153.2.2.1
theorem dX5_choicesAtRest_10 : decode cX5_choicesAtRest 10 = .ok (.iconst 2, 1) := zdc_153.2.2.2.1
theorem dX5_choicesAtRest_11 : decode cX5_choicesAtRest 11 = .ok (.idiv, 1) := zdc_153.2.2.2.2.1
theorem dX5_choicesAtRest_12 : decode cX5_choicesAtRest 12 = .ok (.istore_n 3, 1) := zdc_153.2.2.2.2.2.1
theorem dX5_choicesAtRest_13 : decode cX5_choicesAtRest 13 = .ok (.iload_n 2, 1) := zdc_153.2.2.2.2.2.2.1
theorem dX5_choicesAtRest_14 : decode cX5_choicesAtRest 14 = .ok (.iconst 2, 1) := zdc_153.2.2.2.2.2.2.2.1
theorem dX5_choicesAtRest_15 : decode cX5_choicesAtRest 15 = .ok (.irem, 1) := zdc_153.2.2.2.2.2.2.2.2.1
theorem dX5_choicesAtRest_16 : decode cX5_choicesAtRest 16 = .ok (.istore 4, 2) := zdc_153.2.2.2.2.2.2.2.2.2
theorem zdc_154 : decode cX5_choicesAtRest 18 = .ok (.iload_n 3, 1) ∧ decode cX5_choicesAtRest 19 = .ok (.iload 4, 2) ∧ decode cX5_choicesAtRest 21 = .ok (.invokestatic 55, 3) ∧ decode cX5_choicesAtRest 24 = .ok (.iconst 1, 1) ∧ decode cX5_choicesAtRest 25 = .ok (.iload_n 3, 1) ∧ decode cX5_choicesAtRest 26 = .ok (.isub, 1) ∧ decode cX5_choicesAtRest 27 = .ok (.iload 4, 2) ∧ decode cX5_choicesAtRest 29 = .ok (.invokestatic 55, 3) ∧ decode cX5_choicesAtRest 32 = .ok (.if_icmp .lt 28, 3) ∧ decode cX5_choicesAtRest 35 = .ok (.iload_n 3, 1) := by decide +kernel
theorem dX5_choicesAtRest_18 : decode cX5_choicesAtRest 18 = .ok (.iload_n 3, 1) := zdc_154.1
theorem dX5_choicesAtRest_19 : decode cX5_choicesAtRest 19 = .ok (.iload 4, 2) := zdc_154.2.1
theorem dX5_choicesAtRest_21 : decode cX5_choicesAtRest 21 = .ok (.invokestatic 55, 3) := zdc_154.2.2.1
theorem dX5_choicesAtRest_24 : decode cX5_choicesAtRest 24 = .ok (.iconst 1, 1) := zdc_154.2.2.2.1
theorem dX5_choicesAtRest_25 : decode cX5_choicesAtRest 25 = .ok (.iload_n 3, 1) := zdc_154.2.2.2.2.1
theorem dX5_choicesAtRest_26 : decode cX5_choicesAtRest 26 = .ok (.isub, 1) := zdc_154.2.2.2.2.2.1
theorem dX5_choicesAtRest_27 : decode cX5_choicesAtRest 27 = .ok (.iload 4, 2) := zdc_154.2.2.2.2.2.2.1
theorem dX5_choicesAtRest_29 : decode cX5_choicesAtRest 29 = .ok (.invokestatic 55, 3) := zdc_154.2.2.2.2.2.2.2.1
theorem dX5_choicesAtRest_32 : decode cX5_choicesAtRest 32 = .ok (.if_icmp .lt 28, 3) := zdc_154.2.2.2.2.2.2.2.2.1
theorem dX5_choicesAtRest_35 : decode cX5_choicesAtRest 35 = .ok (.iload_n 3, 1) := zdc_154.2.2.2.2.2.2.2.2.2
theorem zdc_155 : decode cX5_choicesAtRest 36 = .ok (.iload 4, 2) ∧ decode cX5_choicesAtRest 38 = .ok (.iload_n 0, 1) ∧ decode cX5_choicesAtRest 39 = .ok (.invokestatic 58, 3) ∧ decode cX5_choicesAtRest 42 = .ok (.iload_n 3, 1) ∧ decode cX5_choicesAtRest 43 = .ok (.iconst 1, 1) ∧ decode cX5_choicesAtRest 44 = .ok (.iload 4, 2) ∧ decode cX5_choicesAtRest 46 = .ok (.isub, 1) ∧ decode cX5_choicesAtRest 47 = .ok (.iload_n 0, 1) ∧ decode cX5_choicesAtRest 48 = .ok (.invokestatic 58, 3) ∧ decode cX5_choicesAtRest 51 = .ok (.if_icmp .lt 9, 3) := by decide +kernel
theorem dX5_choicesAtRest_36 : decode cX5_choicesAtRest 36 = .ok (.iload 4, 2) := zdc_155.1
theorem dX5_choicesAtRest_38 : decode cX5_choicesAtRest 38 = .ok (.iload_n 0, 1) := zdc_155.2.1
theorem dX5_choicesAtRest_39 : decode cX5_choicesAtRest 39 = .ok (.invokestatic 58, 3) := zdc_155.2.2.1
theorem dX5_choicesAtRest_42 : decode cX5_choicesAtRest 42 = .ok (.iload_n 3, 1) := zdc_155.2.2.2.1
theorem dX5_choicesAtRest_43 : decode cX5_choicesAtRest 43 = .ok (.iconst 1, 1) := zdc_155.2.2.2.2.1
theorem dX5_choicesAtRest_44 : decode cX5_choicesAtRest 44 = .ok (.iload 4, 2) := zdc_155.2.2.2.2.2.1
theorem dX5_choicesAtRest_46 : decode cX5_choicesAtRest 46 = .ok (.isub, 1) := zdc_155.2.2.2.2.2.2.1
theorem dX5_choicesAtRest_47 : decode cX5_choicesAtRest 47 = .ok (.iload_n 0, 1) := zdc_155.2.2.2.2.2.2.2.1
theorem dX5_choicesAtRest_48 : decode cX5_choicesAtRest 48 = .ok (.invokestatic 58, 3) := zdc_155.2.2.2.2.2.2.2.2.1
theorem dX5_choicesAtRest_51 : decode cX5_choicesAtRest 51 = .ok (.if_icmp .lt 9, 3) := zdc_155.2.2.2.2.2.2.2.2.2
theorem zdc_156 : decode cX5_choicesAtRest 54 = .ok (.iload_n 1, 1) ∧ decode cX5_choicesAtRest 55 = .ok (.iconst 1, 1) ∧ decode cX5_choicesAtRest 56 = .ok (.iload_n 2, 1) ∧ decode cX5_choicesAtRest 57 = .ok (.ishl, 1) ∧ decode cX5_choicesAtRest 58 = .ok (.ior, 1) ∧ decode cX5_choicesAtRest 59 = .ok (.istore_n 1, 1) ∧ decode cX5_choicesAtRest 60 = .ok (.iinc 2 1, 3) ∧ decode cX5_choicesAtRest 63 = .ok (.goto (-59), 3) ∧ decode cX5_choicesAtRest 66 = .ok (.iload_n 1, 1) ∧ decode cX5_choicesAtRest 67 = .ok (.ireturn, 1) := by decide +kernel
theorem dX5_choicesAtRest_54 : decode cX5_choicesAtRest 54 = .ok (.iload_n 1, 1) := zdc_156.1
theorem dX5_choicesAtRest_55 : decode cX5_choicesAtRest 55 = .ok (.iconst 1, 1) := zdc_156.2.1
theorem dX5_choicesAtRest_56 : decode cX5_choicesAtRest 56 = .ok (.iload_n 2, 1) := zdc_156.2.2.1
theorem dX5_choicesAtRest_57 : decode cX5_choicesAtRest 57 = .ok (.ishl, 1) := zdc_156.2.2.2.1
theorem dX5_choicesAtRest_58 : decode cX5_choicesAtRest 58 = .ok (.ior, 1) := zdc_156.2.2.2.2.1
theorem dX5_choicesAtRest_59 : decode cX5_choicesAtRest 59 = .ok (.istore_n 1, 1) := zdc_156.2.2.2.2.2.1
theorem dX5_choicesAtRest_60 : decode cX5_choicesAtRest 60 = .ok (.iinc 2 1, 3) := zdc_156.2.2.2.2.2.2.1
theorem dX5_choicesAtRest_63 : decode cX5_choicesAtRest 63 = .ok (.goto (-59), 3) := zdc_156.2.2.2.2.2.2.2.1
theorem dX5_choicesAtRest_66 : decode cX5_choicesAtRest 66 = .ok (.iload_n 1, 1) := zdc_156.2.2.2.2.2.2.2.2.1
theorem dX5_choicesAtRest_67 : decode cX5_choicesAtRest 67 = .ok (.ireturn, 1) := zdc_156.2.2.2.2.2.2.2.2.2
theorem zdc_157 : decode cX5_risesBy 0 = .ok (.iload_n 0, 1) ∧ decode cX5_risesBy 1 = .ok (.ifCond .ne 14, 3) ∧ decode cX5_risesBy 4 = .ok (.iload_n 1, 1) ∧ decode cX5_risesBy 5 = .ok (.ifCond .ne 7, 3) ∧ decode cX5_risesBy 8 = .ok (.iconst 5, 1) ∧ decode cX5_risesBy 9 = .ok (.goto 5, 3) ∧ decode cX5_risesBy 12 = .ok (.bipush 20, 2) ∧ decode cX5_risesBy 14 = .ok (.ireturn, 1) ∧ decode cX5_risesBy 15 = .ok (.iload_n 1, 1) ∧ decode cX5_risesBy 16 = .ok (.ifCond .ne 8, 3) := by decide +kernel
theorem dX5_risesBy_0 : decode cX5_risesBy 0 = .ok (.iload_n 0, 1) := zdc_157.1
theorem dX5_risesBy_1 : decode cX5_risesBy 1 = .ok (.ifCond .ne 14, 3) := zdc_157.2.1
theorem dX5_risesBy_4 : decode cX5_risesBy 4 = .ok (.iload_n 1, 1) := zdc_157.2.2.1
theorem dX5_risesBy_5 : decode cX5_risesBy 5 = .ok (.ifCond .ne 7, 3) := zdc_157.2.2.2.1
theorem dX5_risesBy_8 : decode cX5_risesBy 8 = .ok (.iconst 5, 1) := zdc_157.2.2.2.2.1
theorem dX5_risesBy_9 : decode cX5_risesBy 9 = .ok (.goto 5, 3) := zdc_157.2.2.2.2.2.1
theorem dX5_risesBy_12 : decode cX5_risesBy 12 = .ok (.bipush 20, 2) := zdc_157.2.2.2.2.2.2.1
theorem dX5_risesBy_14 : decode cX5_risesBy 14 = .ok (.ireturn, 1) := zdc_157.2.2.2.2.2.2.2.1
theorem dX5_risesBy_15 : decode cX5_risesBy 15 = .ok (.iload_n 1, 1) := zdc_157.2.2.2.2.2.2.2.2.1
theorem dX5_risesBy_16 : decode cX5_risesBy 16 = .ok (.ifCond .ne 8, 3) := zdc_157.2.2.2.2.2.2.2.2.2
theorem zdc_158 : decode cX5_risesBy 19 = .ok (.bipush (-10), 2) ∧ decode cX5_risesBy 21 = .ok (.goto 4, 3) ∧ decode cX5_risesBy 24 = .ok (.iconst 0, 1) ∧ decode cX5_risesBy 25 = .ok (.ireturn, 1) ∧ decode cX5_tellerHas 0 = .ok (.iload_n 0, 1) ∧ decode cX5_tellerHas 1 = .ok (.iload_n 1, 1) ∧ decode cX5_tellerHas 2 = .ok (.invokestatic 62, 3) ∧ decode cX5_tellerHas 5 = .ok (.iload_n 0, 1) ∧ decode cX5_tellerHas 6 = .ok (.ifCond .ne 7, 3) ∧ decode cX5_tellerHas 9 = .ok (.iconst 4, 1) := by decide +kernel
theorem dX5_risesBy_19 : decode cX5_risesBy 19 = .ok (.bipush (-10), 2) := zdc_158.1
theorem dX5_risesBy_21 : decode cX5_risesBy 21 = .ok (.goto 4, 3) := zdc_158.2.1
theorem dX5_risesBy_24 : decode cX5_risesBy 24 = .ok (.iconst 0, 1) := zdc_158.2.2.1
theorem dX5_risesBy_25 : decode cX5_risesBy 25 = .ok (.ireturn, 1) := zdc_158.2.2.2.1
theorem dX5_tellerHas_0 : decode cX5_tellerHas 0 = .ok (.iload_n 0, 1) := zdc_158.2.2.2.2.1
theorem dX5_tellerHas_1 : decode cX5_tellerHas 1 = .ok (.iload_n 1, 1) := zdc_158.2.2.2.2.2.1
theorem dX5_tellerHas_2 : decode cX5_tellerHas 2 = .ok (.invokestatic 62, 3) := zdc_158.2.2.2.2.2.2.1
theorem dX5_tellerHas_5 : decode cX5_tellerHas 5 = .ok (.iload_n 0, 1) := zdc_158.2.2.2.2.2.2.2.1
theorem dX5_tellerHas_6 : decode cX5_tellerHas 6 = .ok (.ifCond .ne 7, 3) := zdc_158.2.2.2.2.2.2.2.2.1
theorem dX5_tellerHas_9 : decode cX5_tellerHas 9 = .ok (.iconst 4, 1) := zdc_158.2.2.2.2.2.2.2.2.2
theorem zdc_159 : decode cX5_tellerHas 10 = .ok (.goto 4, 3) ∧ decode cX5_tellerHas 13 = .ok (.iconst 0, 1) ∧ decode cX5_tellerHas 14 = .ok (.isub, 1) ∧ decode cX5_tellerHas 15 = .ok (.ireturn, 1) ∧ decode cX5_dryManHas 0 = .ok (.iload_n 0, 1) ∧ decode cX5_dryManHas 1 = .ok (.iload_n 1, 1) ∧ decode cX5_dryManHas 2 = .ok (.invokestatic 62, 3) ∧ decode cX5_dryManHas 5 = .ok (.ineg, 1) ∧ decode cX5_dryManHas 6 = .ok (.iload_n 1, 1) ∧ decode cX5_dryManHas 7 = .ok (.ifCond .ne 7, 3) := by decide +kernel
theorem dX5_tellerHas_10 : decode cX5_tellerHas 10 = .ok (.goto 4, 3) := zdc_159.1
theorem dX5_tellerHas_13 : decode cX5_tellerHas 13 = .ok (.iconst 0, 1) := zdc_159.2.1
theorem dX5_tellerHas_14 : decode cX5_tellerHas 14 = .ok (.isub, 1) := zdc_159.2.2.1
theorem dX5_tellerHas_15 : decode cX5_tellerHas 15 = .ok (.ireturn, 1) := zdc_159.2.2.2.1
theorem dX5_dryManHas_0 : decode cX5_dryManHas 0 = .ok (.iload_n 0, 1) := zdc_159.2.2.2.2.1
theorem dX5_dryManHas_1 : decode cX5_dryManHas 1 = .ok (.iload_n 1, 1) := zdc_159.2.2.2.2.2.1
theorem dX5_dryManHas_2 : decode cX5_dryManHas 2 = .ok (.invokestatic 62, 3) := zdc_159.2.2.2.2.2.2.1
theorem dX5_dryManHas_5 : decode cX5_dryManHas 5 = .ok (.ineg, 1) := zdc_159.2.2.2.2.2.2.2.1
theorem dX5_dryManHas_6 : decode cX5_dryManHas 6 = .ok (.iload_n 1, 1) := zdc_159.2.2.2.2.2.2.2.2.1
theorem dX5_dryManHas_7 : decode cX5_dryManHas 7 = .ok (.ifCond .ne 7, 3) := zdc_159.2.2.2.2.2.2.2.2.2
theorem zdc_160 : decode cX5_dryManHas 10 = .ok (.iload_n 2, 1) ∧ decode cX5_dryManHas 11 = .ok (.goto 4, 3) ∧ decode cX5_dryManHas 14 = .ok (.iconst 0, 1) ∧ decode cX5_dryManHas 15 = .ok (.isub, 1) ∧ decode cX5_dryManHas 16 = .ok (.ireturn, 1) ∧ decode cX6_init 0 = .ok (.aload_n 0, 1) ∧ decode cX6_init 1 = .ok (.invokespecial 3, 3) ∧ decode cX6_init 4 = .ok (.aload_n 0, 1) ∧ decode cX6_init 5 = .ok (.sipush 400, 3) ∧ decode cX6_init 8 = .ok (.newarray .int, 2) := by decide +kernel
theorem dX5_dryManHas_10 : decode cX5_dryManHas 10 = .ok (.iload_n 2, 1) := zdc_160.1
theorem dX5_dryManHas_11 : decode cX5_dryManHas 11 = .ok (.goto 4, 3) := zdc_160.2.1
theorem dX5_dryManHas_14 : decode cX5_dryManHas 14 = .ok (.iconst 0, 1) := zdc_160.2.2.1
theorem dX5_dryManHas_15 : decode cX5_dryManHas 15 = .ok (.isub, 1) := zdc_160.2.2.2.1
theorem dX5_dryManHas_16 : decode cX5_dryManHas 16 = .ok (.ireturn, 1) := zdc_160.2.2.2.2.1
theorem dX6_init_0 : decode cX6_init 0 = .ok (.aload_n 0, 1) := zdc_160.2.2.2.2.2.1
theorem dX6_init_1 : decode cX6_init 1 = .ok (.invokespecial 3, 3) := zdc_160.2.2.2.2.2.2.1
theorem dX6_init_4 : decode cX6_init 4 = .ok (.aload_n 0, 1) := zdc_160.2.2.2.2.2.2.2.1
theorem dX6_init_5 : decode cX6_init 5 = .ok (.sipush 400, 3) := zdc_160.2.2.2.2.2.2.2.2.1
theorem dX6_init_8 : decode cX6_init 8 = .ok (.newarray .int, 2) := zdc_160.2.2.2.2.2.2.2.2.2
theorem zdc_161 : decode cX6_init 10 = .ok (.putfield 9, 3) ∧ decode cX6_init 13 = .ok (.aload_n 0, 1) ∧ decode cX6_init 14 = .ok (.iconst (-1), 1) ∧ decode cX6_init 15 = .ok (.putfield 15, 3) ∧ decode cX6_init 18 = .ok (.return_, 1) ∧ decode cX6_add 0 = .ok (.bipush 24, 2) ∧ decode cX6_add 2 = .ok (.istore_n 2, 1) ∧ decode cX6_add 3 = .ok (.iload_n 2, 1) ∧ decode cX6_add 4 = .ok (.ifCond .lt 45, 3) ∧ decode cX6_add 7 = .ok (.aload_n 0, 1) := by decide +kernel
theorem dX6_init_10 : decode cX6_init 10 = .ok (.putfield 9, 3) := zdc_161.1
theorem dX6_init_13 : decode cX6_init 13 = .ok (.aload_n 0, 1) := zdc_161.2.1
theorem dX6_init_14 : decode cX6_init 14 = .ok (.iconst (-1), 1) := zdc_161.2.2.1
theorem dX6_init_15 : decode cX6_init 15 = .ok (.putfield 15, 3) := zdc_161.2.2.2.1
theorem dX6_init_18 : decode cX6_init 18 = .ok (.return_, 1) := zdc_161.2.2.2.2.1
theorem dX6_add_0 : decode cX6_add 0 = .ok (.bipush 24, 2) := zdc_161.2.2.2.2.2.1
theorem dX6_add_2 : decode cX6_add 2 = .ok (.istore_n 2, 1) := zdc_161.2.2.2.2.2.2.1
theorem dX6_add_3 : decode cX6_add 3 = .ok (.iload_n 2, 1) := zdc_161.2.2.2.2.2.2.2.1
theorem dX6_add_4 : decode cX6_add 4 = .ok (.ifCond .lt 45, 3) := zdc_161.2.2.2.2.2.2.2.2.1
theorem dX6_add_7 : decode cX6_add 7 = .ok (.aload_n 0, 1) := zdc_161.2.2.2.2.2.2.2.2.2
theorem zdc_162 : decode cX6_add 8 = .ok (.getfield 19, 3) ∧ decode cX6_add 11 = .ok (.sipush 400, 3) ∧ decode cX6_add 14 = .ok (.if_icmp .ge 35, 3) ∧ decode cX6_add 17 = .ok (.aload_n 0, 1) ∧ decode cX6_add 18 = .ok (.getfield 9, 3) ∧ decode cX6_add 21 = .ok (.aload_n 0, 1) ∧ decode cX6_add 22 = .ok (.getfield 19, 3) ∧ decode cX6_add 25 = .ok (.iload_n 1, 1) ∧ decode cX6_add 26 = .ok (.iload_n 2, 1) ∧ decode cX6_add 27 = .ok (.iushr, 1) := by decide +kernel
theorem dX6_add_8 : decode cX6_add 8 = .ok (.getfield 19, 3) := zdc_162.1
theorem dX6_add_11 : decode cX6_add 11 = .ok (.sipush 400, 3) := zdc_162.2.1
theorem dX6_add_14 : decode cX6_add 14 = .ok (.if_icmp .ge 35, 3) := zdc_162.2.2.1
theorem dX6_add_17 : decode cX6_add 17 = .ok (.aload_n 0, 1) := zdc_162.2.2.2.1
theorem dX6_add_18 : decode cX6_add 18 = .ok (.getfield 9, 3) := zdc_162.2.2.2.2.1
theorem dX6_add_21 : decode cX6_add 21 = .ok (.aload_n 0, 1) := zdc_162.2.2.2.2.2.1
theorem dX6_add_22 : decode cX6_add 22 = .ok (.getfield 19, 3) := zdc_162.2.2.2.2.2.2.1
theorem dX6_add_25 : decode cX6_add 25 = .ok (.iload_n 1, 1) := zdc_162.2.2.2.2.2.2.2.1
theorem dX6_add_26 : decode cX6_add 26 = .ok (.iload_n 2, 1) := zdc_162.2.2.2.2.2.2.2.2.1
theorem dX6_add_27 : decode cX6_add 27 = .ok (.iushr, 1) := zdc_162.2.2.2.2.2.2.2.2.2
theorem zdc_163 : decode cX6_add 28 = .ok (.sipush 255, 3) ∧ decode cX6_add 31 = .ok (.iand, 1) ∧ decode cX6_add 32 = .ok (.iastore, 1) ∧ decode cX6_add 33 = .ok (.aload_n 0, 1) ∧ decode cX6_add 34 = .ok (.dup, 1) ∧ decode cX6_add 35 = .ok (.getfield 19, 3) ∧ decode cX6_add 38 = .ok (.iconst 1, 1) ∧ decode cX6_add 39 = .ok (.iadd, 1) ∧ decode cX6_add 40 = .ok (.putfield 19, 3) ∧ decode cX6_add 43 = .ok (.iinc 2 (-8), 3) := by decide +kernel
theorem dX6_add_28 : decode cX6_add 28 = .ok (.sipush 255, 3) := zdc_163.1
theorem dX6_add_31 : decode cX6_add 31 = .ok (.iand, 1) := zdc_163.2.1
theorem dX6_add_32 : decode cX6_add 32 = .ok (.iastore, 1) := zdc_163.2.2.1
theorem dX6_add_33 : decode cX6_add 33 = .ok (.aload_n 0, 1) := zdc_163.2.2.2.1
theorem dX6_add_34 : decode cX6_add 34 = .ok (.dup, 1) := zdc_163.2.2.2.2.1
theorem dX6_add_35 : decode cX6_add 35 = .ok (.getfield 19, 3) := zdc_163.2.2.2.2.2.1
theorem dX6_add_38 : decode cX6_add 38 = .ok (.iconst 1, 1) := zdc_163.2.2.2.2.2.2.1
theorem dX6_add_39 : decode cX6_add 39 = .ok (.iadd, 1) := zdc_163.2.2.2.2.2.2.2.1
theorem dX6_add_40 : decode cX6_add 40 = .ok (.putfield 19, 3) := zdc_163.2.2.2.2.2.2.2.2.1
theorem dX6_add_43 : decode cX6_add 43 = .ok (.iinc 2 (-8), 3) := zdc_163.2.2.2.2.2.2.2.2.2
theorem zdc_164 : decode cX6_add 46 = .ok (.goto (-43), 3) ∧ decode cX6_add 49 = .ok (.return_, 1) ∧ decode cX6_useUp 0 = .ok (.aload_n 0, 1) ∧ decode cX6_useUp 1 = .ok (.getfield 19, 3) ∧ decode cX6_useUp 4 = .ok (.istore_n 1, 1) ∧ decode cX6_useUp 5 = .ok (.aload_n 0, 1) ∧ decode cX6_useUp 6 = .ok (.iconst 0, 1) ∧ decode cX6_useUp 7 = .ok (.putfield 19, 3) ∧ decode cX6_useUp 10 = .ok (.iload_n 1, 1) ∧ decode cX6_useUp 11 = .ok (.ireturn, 1) := by decide +kernel
theorem dX6_add_46 : decode cX6_add 46 = .ok (.goto (-43), 3) := zdc_164.1
theorem dX6_add_49 : decode cX6_add 49 = .ok (.return_, 1) := zdc_164.2.1
theorem dX6_useUp_0 : decode cX6_useUp 0 = .ok (.aload_n 0, 1) := zdc_164.2.2.1
theorem dX6_useUp_1 : decode cX6_useUp 1 = .ok (.getfield 19, 3) := zdc_164.2.2.2.1
theorem dX6_useUp_4 : decode cX6_useUp 4 = .ok (.istore_n 1, 1) := zdc_164.2.2.2.2.1
theorem dX6_useUp_5 : decode cX6_useUp 5 = .ok (.aload_n 0, 1) := zdc_164.2.2.2.2.2.1
theorem dX6_useUp_6 : decode cX6_useUp 6 = .ok (.iconst 0, 1) := zdc_164.2.2.2.2.2.2.1
theorem dX6_useUp_7 : decode cX6_useUp 7 = .ok (.putfield 19, 3) := zdc_164.2.2.2.2.2.2.2.1
theorem dX6_useUp_10 : decode cX6_useUp 10 = .ok (.iload_n 1, 1) := zdc_164.2.2.2.2.2.2.2.2.1
theorem dX6_useUp_11 : decode cX6_useUp 11 = .ok (.ireturn, 1) := zdc_164.2.2.2.2.2.2.2.2.2
theorem zdc_165 : decode cX6_holdsTales 0 = .ok (.iconst 0, 1) ∧ decode cX6_holdsTales 1 = .ok (.istore_n 2, 1) ∧ decode cX6_holdsTales 2 = .ok (.iload_n 2, 1) ∧ decode cX6_holdsTales 3 = .ok (.iload_n 1, 1) ∧ decode cX6_holdsTales 4 = .ok (.if_icmp .ge 21, 3) ∧ decode cX6_holdsTales 7 = .ok (.aload_n 0, 1) ∧ decode cX6_holdsTales 8 = .ok (.getfield 9, 3) ∧ decode cX6_holdsTales 11 = .ok (.iload_n 2, 1) ∧ decode cX6_holdsTales 12 = .ok (.iaload, 1) ∧ decode cX6_holdsTales 13 = .ok (.iconst 1, 1) := by decide +kernel
theorem dX6_holdsTales_0 : decode cX6_holdsTales 0 = .ok (.iconst 0, 1) := zdc_165.1
theorem dX6_holdsTales_1 : decode cX6_holdsTales 1 = .ok (.istore_n 2, 1) := zdc_165.2.1
theorem dX6_holdsTales_2 : decode cX6_holdsTales 2 = .ok (.iload_n 2, 1) := zdc_165.2.2.1
theorem dX6_holdsTales_3 : decode cX6_holdsTales 3 = .ok (.iload_n 1, 1) := zdc_165.2.2.2.1
theorem dX6_holdsTales_4 : decode cX6_holdsTales 4 = .ok (.if_icmp .ge 21, 3) := zdc_165.2.2.2.2.1
theorem dX6_holdsTales_7 : decode cX6_holdsTales 7 = .ok (.aload_n 0, 1) := zdc_165.2.2.2.2.2.1
theorem dX6_holdsTales_8 : decode cX6_holdsTales 8 = .ok (.getfield 9, 3) := zdc_165.2.2.2.2.2.2.1
theorem dX6_holdsTales_11 : decode cX6_holdsTales 11 = .ok (.iload_n 2, 1) := zdc_165.2.2.2.2.2.2.2.1
theorem dX6_holdsTales_12 : decode cX6_holdsTales 12 = .ok (.iaload, 1) := zdc_165.2.2.2.2.2.2.2.2.1
theorem dX6_holdsTales_13 : decode cX6_holdsTales 13 = .ok (.iconst 1, 1) := zdc_165.2.2.2.2.2.2.2.2.2
theorem zdc_166 : decode cX6_holdsTales 14 = .ok (.if_icmp .le 5, 3) ∧ decode cX6_holdsTales 17 = .ok (.iconst 0, 1) ∧ decode cX6_holdsTales 18 = .ok (.ireturn, 1) ∧ decode cX6_holdsTales 19 = .ok (.iinc 2 1, 3) ∧ decode cX6_holdsTales 22 = .ok (.goto (-20), 3) ∧ decode cX6_holdsTales 25 = .ok (.iconst 1, 1) ∧ decode cX6_holdsTales 26 = .ok (.ireturn, 1) ∧ decode cX6_lead 0 = .ok (.iconst 0, 1) ∧ decode cX6_lead 1 = .ok (.istore_n 2, 1) ∧ decode cX6_lead 2 = .ok (.iconst 0, 1) := by decide +kernel
theorem dX6_holdsTales_14 : decode cX6_holdsTales 14 = .ok (.if_icmp .le 5, 3) := zdc_166.1
theorem dX6_holdsTales_17 : decode cX6_holdsTales 17 = .ok (.iconst 0, 1) := zdc_166.2.1
theorem dX6_holdsTales_18 : decode cX6_holdsTales 18 = .ok (.ireturn, 1) := zdc_166.2.2.1
theorem dX6_holdsTales_19 : decode cX6_holdsTales 19 = .ok (.iinc 2 1, 3) := zdc_166.2.2.2.1
theorem dX6_holdsTales_22 : decode cX6_holdsTales 22 = .ok (.goto (-20), 3) := zdc_166.2.2.2.2.1
theorem dX6_holdsTales_25 : decode cX6_holdsTales 25 = .ok (.iconst 1, 1) := zdc_166.2.2.2.2.2.1
theorem dX6_holdsTales_26 : decode cX6_holdsTales 26 = .ok (.ireturn, 1) := zdc_166.2.2.2.2.2.2.1
theorem dX6_lead_0 : decode cX6_lead 0 = .ok (.iconst 0, 1) := zdc_166.2.2.2.2.2.2.2.1
theorem dX6_lead_1 : decode cX6_lead 1 = .ok (.istore_n 2, 1) := zdc_166.2.2.2.2.2.2.2.2.1
theorem dX6_lead_2 : decode cX6_lead 2 = .ok (.iconst 0, 1) := zdc_166.2.2.2.2.2.2.2.2.2
theorem zdc_167 : decode cX6_lead 3 = .ok (.istore_n 3, 1) ∧ decode cX6_lead 4 = .ok (.iload_n 3, 1) ∧ decode cX6_lead 5 = .ok (.iload_n 1, 1) ∧ decode cX6_lead 6 = .ok (.if_icmp .ge 27, 3) ∧ decode cX6_lead 9 = .ok (.iload_n 2, 1) ∧ decode cX6_lead 10 = .ok (.aload_n 0, 1) ∧ decode cX6_lead 11 = .ok (.getfield 9, 3) ∧ decode cX6_lead 14 = .ok (.iload_n 3, 1) ∧ decode cX6_lead 15 = .ok (.iaload, 1) ∧ decode cX6_lead 16 = .ok (.iconst 1, 1) := by decide +kernel
theorem dX6_lead_3 : decode cX6_lead 3 = .ok (.istore_n 3, 1) := zdc_167.1
theorem dX6_lead_4 : decode cX6_lead 4 = .ok (.iload_n 3, 1) := zdc_167.2.1
theorem dX6_lead_5 : decode cX6_lead 5 = .ok (.iload_n 1, 1) := zdc_167.2.2.1
theorem dX6_lead_6 : decode cX6_lead 6 = .ok (.if_icmp .ge 27, 3) := zdc_167.2.2.2.1
theorem dX6_lead_9 : decode cX6_lead 9 = .ok (.iload_n 2, 1) := zdc_167.2.2.2.2.1
theorem dX6_lead_10 : decode cX6_lead 10 = .ok (.aload_n 0, 1) := zdc_167.2.2.2.2.2.1
theorem dX6_lead_11 : decode cX6_lead 11 = .ok (.getfield 9, 3) := zdc_167.2.2.2.2.2.2.1
theorem dX6_lead_14 : decode cX6_lead 14 = .ok (.iload_n 3, 1) := zdc_167.2.2.2.2.2.2.2.1
theorem dX6_lead_15 : decode cX6_lead 15 = .ok (.iaload, 1) := zdc_167.2.2.2.2.2.2.2.2.1
theorem dX6_lead_16 : decode cX6_lead 16 = .ok (.iconst 1, 1) := zdc_167.2.2.2.2.2.2.2.2.2
theorem zdc_168 : decode cX6_lead 17 = .ok (.if_icmp .ne 7, 3) ∧ decode cX6_lead 20 = .ok (.iconst 1, 1) ∧ decode cX6_lead 21 = .ok (.goto 4, 3) ∧ decode cX6_lead 24 = .ok (.iconst (-1), 1) ∧ decode cX6_lead 25 = .ok (.iadd, 1) ∧ decode cX6_lead 26 = .ok (.istore_n 2, 1) ∧ decode cX6_lead 27 = .ok (.iinc 3 1, 3) ∧ decode cX6_lead 30 = .ok (.goto (-26), 3) ∧ decode cX6_lead 33 = .ok (.iload_n 2, 1) ∧ decode cX6_lead 34 = .ok (.ireturn, 1) := by decide +kernel
theorem dX6_lead_17 : decode cX6_lead 17 = .ok (.if_icmp .ne 7, 3) := zdc_168.1
theorem dX6_lead_20 : decode cX6_lead 20 = .ok (.iconst 1, 1) := zdc_168.2.1
theorem dX6_lead_21 : decode cX6_lead 21 = .ok (.goto 4, 3) := zdc_168.2.2.1
theorem dX6_lead_24 : decode cX6_lead 24 = .ok (.iconst (-1), 1) := zdc_168.2.2.2.1
theorem dX6_lead_25 : decode cX6_lead 25 = .ok (.iadd, 1) := zdc_168.2.2.2.2.1
theorem dX6_lead_26 : decode cX6_lead 26 = .ok (.istore_n 2, 1) := zdc_168.2.2.2.2.2.1
theorem dX6_lead_27 : decode cX6_lead 27 = .ok (.iinc 3 1, 3) := zdc_168.2.2.2.2.2.2.1
theorem dX6_lead_30 : decode cX6_lead 30 = .ok (.goto (-26), 3) := zdc_168.2.2.2.2.2.2.2.1
theorem dX6_lead_33 : decode cX6_lead 33 = .ok (.iload_n 2, 1) := zdc_168.2.2.2.2.2.2.2.2.1
theorem dX6_lead_34 : decode cX6_lead 34 = .ok (.ireturn, 1) := zdc_168.2.2.2.2.2.2.2.2.2
theorem zdc_169 : decode cX6_holdsSaid 0 = .ok (.iload_n 1, 1) ∧ decode cX6_holdsSaid 1 = .ok (.iconst 3, 1) ∧ decode cX6_holdsSaid 2 = .ok (.irem, 1) ∧ decode cX6_holdsSaid 3 = .ok (.ifCond .eq 5, 3) ∧ decode cX6_holdsSaid 6 = .ok (.iconst 0, 1) ∧ decode cX6_holdsSaid 7 = .ok (.ireturn, 1) ∧ decode cX6_holdsSaid 8 = .ok (.iconst 0, 1) ∧ decode cX6_holdsSaid 9 = .ok (.istore_n 3, 1) ∧ decode cX6_holdsSaid 10 = .ok (.iload_n 3, 1) ∧ decode cX6_holdsSaid 11 = .ok (.iconst 2, 1) := by decide +kernel
theorem dX6_holdsSaid_0 : decode cX6_holdsSaid 0 = .ok (.iload_n 1, 1) := zdc_169.1
theorem dX6_holdsSaid_1 : decode cX6_holdsSaid 1 = .ok (.iconst 3, 1) := zdc_169.2.1
theorem dX6_holdsSaid_2 : decode cX6_holdsSaid 2 = .ok (.irem, 1) := zdc_169.2.2.1
theorem dX6_holdsSaid_3 : decode cX6_holdsSaid 3 = .ok (.ifCond .eq 5, 3) := zdc_169.2.2.2.1
theorem dX6_holdsSaid_6 : decode cX6_holdsSaid 6 = .ok (.iconst 0, 1) := zdc_169.2.2.2.2.1
theorem dX6_holdsSaid_7 : decode cX6_holdsSaid 7 = .ok (.ireturn, 1) := zdc_169.2.2.2.2.2.1
theorem dX6_holdsSaid_8 : decode cX6_holdsSaid 8 = .ok (.iconst 0, 1) := zdc_169.2.2.2.2.2.2.1
theorem dX6_holdsSaid_9 : decode cX6_holdsSaid 9 = .ok (.istore_n 3, 1) := zdc_169.2.2.2.2.2.2.2.1
theorem dX6_holdsSaid_10 : decode cX6_holdsSaid 10 = .ok (.iload_n 3, 1) := zdc_169.2.2.2.2.2.2.2.2.1
theorem dX6_holdsSaid_11 : decode cX6_holdsSaid 11 = .ok (.iconst 2, 1) := zdc_169.2.2.2.2.2.2.2.2.2
theorem zdc_170 : decode cX6_holdsSaid 12 = .ok (.iadd, 1) ∧ decode cX6_holdsSaid 13 = .ok (.iload_n 1, 1) ∧ decode cX6_holdsSaid 14 = .ok (.if_icmp .ge 60, 3) ∧ decode cX6_holdsSaid 17 = .ok (.aload_n 0, 1) ∧ decode cX6_holdsSaid 18 = .ok (.getfield 9, 3) ∧ decode cX6_holdsSaid 21 = .ok (.iload_n 3, 1) ∧ decode cX6_holdsSaid 22 = .ok (.iaload, 1) ∧ decode cX6_holdsSaid 23 = .ok (.istore 4, 2) ∧ decode cX6_holdsSaid 25 = .ok (.aload_n 0, 1) ∧ decode cX6_holdsSaid 26 = .ok (.getfield 9, 3) := by decide +kernel
theorem dX6_holdsSaid_12 : decode cX6_holdsSaid 12 = .ok (.iadd, 1) := zdc_170.1
theorem dX6_holdsSaid_13 : decode cX6_holdsSaid 13 = .ok (.iload_n 1, 1) := zdc_170.2.1
theorem dX6_holdsSaid_14 : decode cX6_holdsSaid 14 = .ok (.if_icmp .ge 60, 3) := zdc_170.2.2.1
theorem dX6_holdsSaid_17 : decode cX6_holdsSaid 17 = .ok (.aload_n 0, 1) := zdc_170.2.2.2.1
theorem dX6_holdsSaid_18 : decode cX6_holdsSaid 18 = .ok (.getfield 9, 3) := zdc_170.2.2.2.2.1
theorem dX6_holdsSaid_21 : decode cX6_holdsSaid 21 = .ok (.iload_n 3, 1) := zdc_170.2.2.2.2.2.1
theorem dX6_holdsSaid_22 : decode cX6_holdsSaid 22 = .ok (.iaload, 1) := zdc_170.2.2.2.2.2.2.1
theorem dX6_holdsSaid_23 : decode cX6_holdsSaid 23 = .ok (.istore 4, 2) := zdc_170.2.2.2.2.2.2.2.1
theorem dX6_holdsSaid_25 : decode cX6_holdsSaid 25 = .ok (.aload_n 0, 1) := zdc_170.2.2.2.2.2.2.2.2.1
theorem dX6_holdsSaid_26 : decode cX6_holdsSaid 26 = .ok (.getfield 9, 3) := zdc_170.2.2.2.2.2.2.2.2.2
theorem zdc_171 : decode cX6_holdsSaid 29 = .ok (.iload_n 3, 1) ∧ decode cX6_holdsSaid 30 = .ok (.iconst 1, 1) ∧ decode cX6_holdsSaid 31 = .ok (.iadd, 1) ∧ decode cX6_holdsSaid 32 = .ok (.iaload, 1) ∧ decode cX6_holdsSaid 33 = .ok (.istore 5, 2) ∧ decode cX6_holdsSaid 35 = .ok (.iload 4, 2) ∧ decode cX6_holdsSaid 37 = .ok (.iload_n 2, 1) ∧ decode cX6_holdsSaid 38 = .ok (.if_icmp .ge 28, 3) ∧ decode cX6_holdsSaid 41 = .ok (.iload 5, 2) ∧ decode cX6_holdsSaid 43 = .ok (.iload_n 2, 1) := by decide +kernel
theorem dX6_holdsSaid_29 : decode cX6_holdsSaid 29 = .ok (.iload_n 3, 1) := zdc_171.1
theorem dX6_holdsSaid_30 : decode cX6_holdsSaid 30 = .ok (.iconst 1, 1) := zdc_171.2.1
theorem dX6_holdsSaid_31 : decode cX6_holdsSaid 31 = .ok (.iadd, 1) := zdc_171.2.2.1
theorem dX6_holdsSaid_32 : decode cX6_holdsSaid 32 = .ok (.iaload, 1) := zdc_171.2.2.2.1
theorem dX6_holdsSaid_33 : decode cX6_holdsSaid 33 = .ok (.istore 5, 2) := zdc_171.2.2.2.2.1
theorem dX6_holdsSaid_35 : decode cX6_holdsSaid 35 = .ok (.iload 4, 2) := zdc_171.2.2.2.2.2.1
theorem dX6_holdsSaid_37 : decode cX6_holdsSaid 37 = .ok (.iload_n 2, 1) := zdc_171.2.2.2.2.2.2.1
theorem dX6_holdsSaid_38 : decode cX6_holdsSaid 38 = .ok (.if_icmp .ge 28, 3) := zdc_171.2.2.2.2.2.2.2.1
theorem dX6_holdsSaid_41 : decode cX6_holdsSaid 41 = .ok (.iload 5, 2) := zdc_171.2.2.2.2.2.2.2.2.1
theorem dX6_holdsSaid_43 : decode cX6_holdsSaid 43 = .ok (.iload_n 2, 1) := zdc_171.2.2.2.2.2.2.2.2.2
theorem zdc_172 : decode cX6_holdsSaid 44 = .ok (.if_icmp .ge 22, 3) ∧ decode cX6_holdsSaid 47 = .ok (.iload 4, 2) ∧ decode cX6_holdsSaid 49 = .ok (.iload 5, 2) ∧ decode cX6_holdsSaid 51 = .ok (.if_icmp .eq 15, 3) ∧ decode cX6_holdsSaid 54 = .ok (.aload_n 0, 1) ∧ decode cX6_holdsSaid 55 = .ok (.getfield 9, 3) ∧ decode cX6_holdsSaid 58 = .ok (.iload_n 3, 1) ∧ decode cX6_holdsSaid 59 = .ok (.iconst 2, 1) ∧ decode cX6_holdsSaid 60 = .ok (.iadd, 1) ∧ decode cX6_holdsSaid 61 = .ok (.iaload, 1) := by decide +kernel
theorem dX6_holdsSaid_44 : decode cX6_holdsSaid 44 = .ok (.if_icmp .ge 22, 3) := zdc_172.1
theorem dX6_holdsSaid_47 : decode cX6_holdsSaid 47 = .ok (.iload 4, 2) := zdc_172.2.1
theorem dX6_holdsSaid_49 : decode cX6_holdsSaid 49 = .ok (.iload 5, 2) := zdc_172.2.2.1
theorem dX6_holdsSaid_51 : decode cX6_holdsSaid 51 = .ok (.if_icmp .eq 15, 3) := zdc_172.2.2.2.1
theorem dX6_holdsSaid_54 : decode cX6_holdsSaid 54 = .ok (.aload_n 0, 1) := zdc_172.2.2.2.2.1
theorem dX6_holdsSaid_55 : decode cX6_holdsSaid 55 = .ok (.getfield 9, 3) := zdc_172.2.2.2.2.2.1
theorem dX6_holdsSaid_58 : decode cX6_holdsSaid 58 = .ok (.iload_n 3, 1) := zdc_172.2.2.2.2.2.2.1
theorem dX6_holdsSaid_59 : decode cX6_holdsSaid 59 = .ok (.iconst 2, 1) := zdc_172.2.2.2.2.2.2.2.1
theorem dX6_holdsSaid_60 : decode cX6_holdsSaid 60 = .ok (.iadd, 1) := zdc_172.2.2.2.2.2.2.2.2.1
theorem dX6_holdsSaid_61 : decode cX6_holdsSaid 61 = .ok (.iaload, 1) := zdc_172.2.2.2.2.2.2.2.2.2
theorem zdc_173 : decode cX6_holdsSaid 62 = .ok (.iconst 1, 1) ∧ decode cX6_holdsSaid 63 = .ok (.if_icmp .le 5, 3) ∧ decode cX6_holdsSaid 66 = .ok (.iconst 0, 1) ∧ decode cX6_holdsSaid 67 = .ok (.ireturn, 1) ∧ decode cX6_holdsSaid 68 = .ok (.iinc 3 3, 3) ∧ decode cX6_holdsSaid 71 = .ok (.goto (-61), 3) ∧ decode cX6_holdsSaid 74 = .ok (.iconst 1, 1) ∧ decode cX6_holdsSaid 75 = .ok (.ireturn, 1) ∧ decode cX6_open 0 = .ok (.aload_n 0, 1) ∧ decode cX6_open 1 = .ok (.iload_n 1, 1) := by decide +kernel
theorem dX6_holdsSaid_62 : decode cX6_holdsSaid 62 = .ok (.iconst 1, 1) := zdc_173.1
theorem dX6_holdsSaid_63 : decode cX6_holdsSaid 63 = .ok (.if_icmp .le 5, 3) := zdc_173.2.1
theorem dX6_holdsSaid_66 : decode cX6_holdsSaid 66 = .ok (.iconst 0, 1) := zdc_173.2.2.1
theorem dX6_holdsSaid_67 : decode cX6_holdsSaid 67 = .ok (.ireturn, 1) := zdc_173.2.2.2.1
theorem dX6_holdsSaid_68 : decode cX6_holdsSaid 68 = .ok (.iinc 3 3, 3) := zdc_173.2.2.2.2.1
theorem dX6_holdsSaid_71 : decode cX6_holdsSaid 71 = .ok (.goto (-61), 3) := zdc_173.2.2.2.2.2.1
theorem dX6_holdsSaid_74 : decode cX6_holdsSaid 74 = .ok (.iconst 1, 1) := zdc_173.2.2.2.2.2.2.1
theorem dX6_holdsSaid_75 : decode cX6_holdsSaid 75 = .ok (.ireturn, 1) := zdc_173.2.2.2.2.2.2.2.1
theorem dX6_open_0 : decode cX6_open 0 = .ok (.aload_n 0, 1) := zdc_173.2.2.2.2.2.2.2.2.1
theorem dX6_open_1 : decode cX6_open 1 = .ok (.iload_n 1, 1) := zdc_173.2.2.2.2.2.2.2.2.2
theorem zdc_174 : decode cX6_open 2 = .ok (.sipush 400, 3) ∧ decode cX6_open 5 = .ok (.invokestatic 22, 3) ∧ decode cX6_open 8 = .ok (.putfield 28, 3) ∧ decode cX6_open 11 = .ok (.aload_n 0, 1) ∧ decode cX6_open 12 = .ok (.iconst 0, 1) ∧ decode cX6_open 13 = .ok (.putfield 31, 3) ∧ decode cX6_open 16 = .ok (.aload_n 0, 1) ∧ decode cX6_open 17 = .ok (.iconst (-1), 1) ∧ decode cX6_open 18 = .ok (.putfield 15, 3) ∧ decode cX6_open 21 = .ok (.aload_n 0, 1) := by decide +kernel
theorem dX6_open_2 : decode cX6_open 2 = .ok (.sipush 400, 3) := zdc_174.1
theorem dX6_open_5 : decode cX6_open 5 = .ok (.invokestatic 22, 3) := zdc_174.2.1
theorem dX6_open_8 : decode cX6_open 8 = .ok (.putfield 28, 3) := zdc_174.2.2.1
theorem dX6_open_11 : decode cX6_open 11 = .ok (.aload_n 0, 1) := zdc_174.2.2.2.1
theorem dX6_open_12 : decode cX6_open 12 = .ok (.iconst 0, 1) := zdc_174.2.2.2.2.1
theorem dX6_open_13 : decode cX6_open 13 = .ok (.putfield 31, 3) := zdc_174.2.2.2.2.2.1
theorem dX6_open_16 : decode cX6_open 16 = .ok (.aload_n 0, 1) := zdc_174.2.2.2.2.2.2.1
theorem dX6_open_17 : decode cX6_open 17 = .ok (.iconst (-1), 1) := zdc_174.2.2.2.2.2.2.2.1
theorem dX6_open_18 : decode cX6_open 18 = .ok (.putfield 15, 3) := zdc_174.2.2.2.2.2.2.2.2.1
theorem dX6_open_21 : decode cX6_open 21 = .ok (.aload_n 0, 1) := zdc_174.2.2.2.2.2.2.2.2.2
theorem zdc_175 : decode cX6_open 22 = .ok (.invokevirtual 34, 3) ∧ decode cX6_open 25 = .ok (.return_, 1) ∧ decode cX6_step 0 = .ok (.aload_n 0, 1) ∧ decode cX6_step 1 = .ok (.getfield 31, 3) ∧ decode cX6_step 4 = .ok (.aload_n 0, 1) ∧ decode cX6_step 5 = .ok (.getfield 28, 3) ∧ decode cX6_step 8 = .ok (.if_icmp .ge 30, 3) ∧ decode cX6_step 11 = .ok (.aload_n 0, 1) ∧ decode cX6_step 12 = .ok (.getfield 9, 3) ∧ decode cX6_step 15 = .ok (.aload_n 0, 1) := by decide +kernel
theorem dX6_open_22 : decode cX6_open 22 = .ok (.invokevirtual 34, 3) := zdc_175.1
theorem dX6_open_25 : decode cX6_open 25 = .ok (.return_, 1) := zdc_175.2.1
theorem dX6_step_0 : decode cX6_step 0 = .ok (.aload_n 0, 1) := zdc_175.2.2.1
theorem dX6_step_1 : decode cX6_step 1 = .ok (.getfield 31, 3) := zdc_175.2.2.2.1
theorem dX6_step_4 : decode cX6_step 4 = .ok (.aload_n 0, 1) := zdc_175.2.2.2.2.1
theorem dX6_step_5 : decode cX6_step 5 = .ok (.getfield 28, 3) := zdc_175.2.2.2.2.2.1
theorem dX6_step_8 : decode cX6_step 8 = .ok (.if_icmp .ge 30, 3) := zdc_175.2.2.2.2.2.2.1
theorem dX6_step_11 : decode cX6_step 11 = .ok (.aload_n 0, 1) := zdc_175.2.2.2.2.2.2.2.1
theorem dX6_step_12 : decode cX6_step 12 = .ok (.getfield 9, 3) := zdc_175.2.2.2.2.2.2.2.2.1
theorem dX6_step_15 : decode cX6_step 15 = .ok (.aload_n 0, 1) := zdc_175.2.2.2.2.2.2.2.2.2
theorem zdc_176 : decode cX6_step 16 = .ok (.getfield 31, 3) ∧ decode cX6_step 19 = .ok (.iaload, 1) ∧ decode cX6_step 20 = .ok (.bipush 32, 2) ∧ decode cX6_step 22 = .ok (.if_icmp .ne 16, 3) ∧ decode cX6_step 25 = .ok (.aload_n 0, 1) ∧ decode cX6_step 26 = .ok (.dup, 1) ∧ decode cX6_step 27 = .ok (.getfield 31, 3) ∧ decode cX6_step 30 = .ok (.iconst 1, 1) ∧ decode cX6_step 31 = .ok (.iadd, 1) ∧ decode cX6_step 32 = .ok (.putfield 31, 3) := by decide +kernel
theorem dX6_step_16 : decode cX6_step 16 = .ok (.getfield 31, 3) := zdc_176.1
theorem dX6_step_19 : decode cX6_step 19 = .ok (.iaload, 1) := zdc_176.2.1
theorem dX6_step_20 : decode cX6_step 20 = .ok (.bipush 32, 2) := zdc_176.2.2.1
theorem dX6_step_22 : decode cX6_step 22 = .ok (.if_icmp .ne 16, 3) := zdc_176.2.2.2.1
theorem dX6_step_25 : decode cX6_step 25 = .ok (.aload_n 0, 1) := zdc_176.2.2.2.2.1
theorem dX6_step_26 : decode cX6_step 26 = .ok (.dup, 1) := zdc_176.2.2.2.2.2.1
theorem dX6_step_27 : decode cX6_step 27 = .ok (.getfield 31, 3) := zdc_176.2.2.2.2.2.2.1
theorem dX6_step_30 : decode cX6_step 30 = .ok (.iconst 1, 1) := zdc_176.2.2.2.2.2.2.2.1
theorem dX6_step_31 : decode cX6_step 31 = .ok (.iadd, 1) := zdc_176.2.2.2.2.2.2.2.2.1
theorem dX6_step_32 : decode cX6_step 32 = .ok (.putfield 31, 3) := zdc_176.2.2.2.2.2.2.2.2.2
theorem zdc_177 : decode cX6_step 35 = .ok (.goto (-35), 3) ∧ decode cX6_step 38 = .ok (.aload_n 0, 1) ∧ decode cX6_step 39 = .ok (.aload_n 0, 1) ∧ decode cX6_step 40 = .ok (.getfield 31, 3) ∧ decode cX6_step 43 = .ok (.putfield 37, 3) ∧ decode cX6_step 46 = .ok (.aload_n 0, 1) ∧ decode cX6_step 47 = .ok (.getfield 31, 3) ∧ decode cX6_step 50 = .ok (.aload_n 0, 1) ∧ decode cX6_step 51 = .ok (.getfield 28, 3) ∧ decode cX6_step 54 = .ok (.if_icmp .lt 9, 3) := by decide +kernel
theorem dX6_step_35 : decode cX6_step 35 = .ok (.goto (-35), 3) := zdc_177.1
theorem dX6_step_38 : decode cX6_step 38 = .ok (.aload_n 0, 1) := zdc_177.2.1
theorem dX6_step_39 : decode cX6_step 39 = .ok (.aload_n 0, 1) := zdc_177.2.2.1
theorem dX6_step_40 : decode cX6_step 40 = .ok (.getfield 31, 3) := zdc_177.2.2.2.1
theorem dX6_step_43 : decode cX6_step 43 = .ok (.putfield 37, 3) := zdc_177.2.2.2.2.1
theorem dX6_step_46 : decode cX6_step 46 = .ok (.aload_n 0, 1) := zdc_177.2.2.2.2.2.1
theorem dX6_step_47 : decode cX6_step 47 = .ok (.getfield 31, 3) := zdc_177.2.2.2.2.2.2.1
theorem dX6_step_50 : decode cX6_step 50 = .ok (.aload_n 0, 1) := zdc_177.2.2.2.2.2.2.2.1
theorem dX6_step_51 : decode cX6_step 51 = .ok (.getfield 28, 3) := zdc_177.2.2.2.2.2.2.2.2.1
theorem dX6_step_54 : decode cX6_step 54 = .ok (.if_icmp .lt 9, 3) := zdc_177.2.2.2.2.2.2.2.2.2
theorem zdc_178 : decode cX6_step 57 = .ok (.aload_n 0, 1) ∧ decode cX6_step 58 = .ok (.iconst 0, 1) ∧ decode cX6_step 59 = .ok (.putfield 40, 3) ∧ decode cX6_step 62 = .ok (.return_, 1) ∧ decode cX6_step 63 = .ok (.aload_n 0, 1) ∧ decode cX6_step 64 = .ok (.getfield 9, 3) ∧ decode cX6_step 67 = .ok (.aload_n 0, 1) ∧ decode cX6_step 68 = .ok (.getfield 31, 3) ∧ decode cX6_step 71 = .ok (.iaload, 1) ∧ decode cX6_step 72 = .ok (.istore_n 1, 1) := by decide +kernel
theorem dX6_step_57 : decode cX6_step 57 = .ok (.aload_n 0, 1) := zdc_178.1
theorem dX6_step_58 : decode cX6_step 58 = .ok (.iconst 0, 1) := zdc_178.2.1
theorem dX6_step_59 : decode cX6_step 59 = .ok (.putfield 40, 3) := zdc_178.2.2.1
theorem dX6_step_62 : decode cX6_step 62 = .ok (.return_, 1) := zdc_178.2.2.2.1
theorem dX6_step_63 : decode cX6_step 63 = .ok (.aload_n 0, 1) := zdc_178.2.2.2.2.1
theorem dX6_step_64 : decode cX6_step 64 = .ok (.getfield 9, 3) := zdc_178.2.2.2.2.2.1
theorem dX6_step_67 : decode cX6_step 67 = .ok (.aload_n 0, 1) := zdc_178.2.2.2.2.2.2.1
theorem dX6_step_68 : decode cX6_step 68 = .ok (.getfield 31, 3) := zdc_178.2.2.2.2.2.2.2.1
theorem dX6_step_71 : decode cX6_step 71 = .ok (.iaload, 1) := zdc_178.2.2.2.2.2.2.2.2.1
theorem dX6_step_72 : decode cX6_step 72 = .ok (.istore_n 1, 1) := zdc_178.2.2.2.2.2.2.2.2.2
theorem zdc_179 : decode cX6_step 73 = .ok (.aload_n 0, 1) ∧ decode cX6_step 74 = .ok (.dup, 1) ∧ decode cX6_step 75 = .ok (.getfield 31, 3) ∧ decode cX6_step 78 = .ok (.iconst 1, 1) ∧ decode cX6_step 79 = .ok (.iadd, 1) ∧ decode cX6_step 80 = .ok (.putfield 31, 3) ∧ decode cX6_step 83 = .ok (.iload_n 1, 1) ∧ decode cX6_step 84 = .ok (.bipush 97, 2) ∧ decode cX6_step 86 = .ok (.if_icmp .lt 66, 3) ∧ decode cX6_step 89 = .ok (.iload_n 1, 1) := by decide +kernel
theorem dX6_step_73 : decode cX6_step 73 = .ok (.aload_n 0, 1) := zdc_179.1
theorem dX6_step_74 : decode cX6_step 74 = .ok (.dup, 1) := zdc_179.2.1
theorem dX6_step_75 : decode cX6_step 75 = .ok (.getfield 31, 3) := zdc_179.2.2.1
theorem dX6_step_78 : decode cX6_step 78 = .ok (.iconst 1, 1) := zdc_179.2.2.2.1
theorem dX6_step_79 : decode cX6_step 79 = .ok (.iadd, 1) := zdc_179.2.2.2.2.1
theorem dX6_step_80 : decode cX6_step 80 = .ok (.putfield 31, 3) := zdc_179.2.2.2.2.2.1
theorem dX6_step_83 : decode cX6_step 83 = .ok (.iload_n 1, 1) := zdc_179.2.2.2.2.2.2.1
theorem dX6_step_84 : decode cX6_step 84 = .ok (.bipush 97, 2) := zdc_179.2.2.2.2.2.2.2.1
theorem dX6_step_86 : decode cX6_step 86 = .ok (.if_icmp .lt 66, 3) := zdc_179.2.2.2.2.2.2.2.2.1
theorem dX6_step_89 : decode cX6_step 89 = .ok (.iload_n 1, 1) := zdc_179.2.2.2.2.2.2.2.2.2
theorem zdc_180 : decode cX6_step 90 = .ok (.bipush 122, 2) ∧ decode cX6_step 92 = .ok (.if_icmp .gt 60, 3) ∧ decode cX6_step 95 = .ok (.aload_n 0, 1) ∧ decode cX6_step 96 = .ok (.iconst 1, 1) ∧ decode cX6_step 97 = .ok (.putfield 40, 3) ∧ decode cX6_step 100 = .ok (.aload_n 0, 1) ∧ decode cX6_step 101 = .ok (.getfield 31, 3) ∧ decode cX6_step 104 = .ok (.aload_n 0, 1) ∧ decode cX6_step 105 = .ok (.getfield 28, 3) ∧ decode cX6_step 108 = .ok (.if_icmp .ge 118, 3) := by decide +kernel
theorem dX6_step_90 : decode cX6_step 90 = .ok (.bipush 122, 2) := zdc_180.1
theorem dX6_step_92 : decode cX6_step 92 = .ok (.if_icmp .gt 60, 3) := zdc_180.2.1
theorem dX6_step_95 : decode cX6_step 95 = .ok (.aload_n 0, 1) := zdc_180.2.2.1
theorem dX6_step_96 : decode cX6_step 96 = .ok (.iconst 1, 1) := zdc_180.2.2.2.1
theorem dX6_step_97 : decode cX6_step 97 = .ok (.putfield 40, 3) := zdc_180.2.2.2.2.1
theorem dX6_step_100 : decode cX6_step 100 = .ok (.aload_n 0, 1) := zdc_180.2.2.2.2.2.1
theorem dX6_step_101 : decode cX6_step 101 = .ok (.getfield 31, 3) := zdc_180.2.2.2.2.2.2.1
theorem dX6_step_104 : decode cX6_step 104 = .ok (.aload_n 0, 1) := zdc_180.2.2.2.2.2.2.2.1
theorem dX6_step_105 : decode cX6_step 105 = .ok (.getfield 28, 3) := zdc_180.2.2.2.2.2.2.2.2.1
theorem dX6_step_108 : decode cX6_step 108 = .ok (.if_icmp .ge 118, 3) := zdc_180.2.2.2.2.2.2.2.2.2
theorem zdc_181 : decode cX6_step 111 = .ok (.aload_n 0, 1) ∧ decode cX6_step 112 = .ok (.getfield 9, 3) ∧ decode cX6_step 115 = .ok (.aload_n 0, 1) ∧ decode cX6_step 116 = .ok (.getfield 31, 3) ∧ decode cX6_step 119 = .ok (.iaload, 1) ∧ decode cX6_step 120 = .ok (.bipush 97, 2) ∧ decode cX6_step 122 = .ok (.if_icmp .lt 104, 3) ∧ decode cX6_step 125 = .ok (.aload_n 0, 1) ∧ decode cX6_step 126 = .ok (.getfield 9, 3) ∧ decode cX6_step 129 = .ok (.aload_n 0, 1) := by decide +kernel
theorem dX6_step_111 : decode cX6_step 111 = .ok (.aload_n 0, 1) := zdc_181.1
theorem dX6_step_112 : decode cX6_step 112 = .ok (.getfield 9, 3) := zdc_181.2.1
theorem dX6_step_115 : decode cX6_step 115 = .ok (.aload_n 0, 1) := zdc_181.2.2.1
theorem dX6_step_116 : decode cX6_step 116 = .ok (.getfield 31, 3) := zdc_181.2.2.2.1
theorem dX6_step_119 : decode cX6_step 119 = .ok (.iaload, 1) := zdc_181.2.2.2.2.1
theorem dX6_step_120 : decode cX6_step 120 = .ok (.bipush 97, 2) := zdc_181.2.2.2.2.2.1
theorem dX6_step_122 : decode cX6_step 122 = .ok (.if_icmp .lt 104, 3) := zdc_181.2.2.2.2.2.2.1
theorem dX6_step_125 : decode cX6_step 125 = .ok (.aload_n 0, 1) := zdc_181.2.2.2.2.2.2.2.1
theorem dX6_step_126 : decode cX6_step 126 = .ok (.getfield 9, 3) := zdc_181.2.2.2.2.2.2.2.2.1
theorem dX6_step_129 : decode cX6_step 129 = .ok (.aload_n 0, 1) := zdc_181.2.2.2.2.2.2.2.2.2
theorem zdc_182 : decode cX6_step 130 = .ok (.getfield 31, 3) ∧ decode cX6_step 133 = .ok (.iaload, 1) ∧ decode cX6_step 134 = .ok (.bipush 122, 2) ∧ decode cX6_step 136 = .ok (.if_icmp .gt 90, 3) ∧ decode cX6_step 139 = .ok (.aload_n 0, 1) ∧ decode cX6_step 140 = .ok (.dup, 1) ∧ decode cX6_step 141 = .ok (.getfield 31, 3) ∧ decode cX6_step 144 = .ok (.iconst 1, 1) ∧ decode cX6_step 145 = .ok (.iadd, 1) ∧ decode cX6_step 146 = .ok (.putfield 31, 3) := by decide +kernel
theorem dX6_step_130 : decode cX6_step 130 = .ok (.getfield 31, 3) := zdc_182.1
theorem dX6_step_133 : decode cX6_step 133 = .ok (.iaload, 1) := zdc_182.2.1
theorem dX6_step_134 : decode cX6_step 134 = .ok (.bipush 122, 2) := zdc_182.2.2.1
theorem dX6_step_136 : decode cX6_step 136 = .ok (.if_icmp .gt 90, 3) := zdc_182.2.2.2.1
theorem dX6_step_139 : decode cX6_step 139 = .ok (.aload_n 0, 1) := zdc_182.2.2.2.2.1
theorem dX6_step_140 : decode cX6_step 140 = .ok (.dup, 1) := zdc_182.2.2.2.2.2.1
theorem dX6_step_141 : decode cX6_step 141 = .ok (.getfield 31, 3) := zdc_182.2.2.2.2.2.2.1
theorem dX6_step_144 : decode cX6_step 144 = .ok (.iconst 1, 1) := zdc_182.2.2.2.2.2.2.2.1
theorem dX6_step_145 : decode cX6_step 145 = .ok (.iadd, 1) := zdc_182.2.2.2.2.2.2.2.2.1
theorem dX6_step_146 : decode cX6_step 146 = .ok (.putfield 31, 3) := zdc_182.2.2.2.2.2.2.2.2.2
theorem zdc_183 : decode cX6_step 149 = .ok (.goto (-49), 3) ∧ decode cX6_step 152 = .ok (.iload_n 1, 1) ∧ decode cX6_step 153 = .ok (.bipush 48, 2) ∧ decode cX6_step 155 = .ok (.if_icmp .lt 66, 3) ∧ decode cX6_step 158 = .ok (.iload_n 1, 1) ∧ decode cX6_step 159 = .ok (.bipush 57, 2) ∧ decode cX6_step 161 = .ok (.if_icmp .gt 60, 3) ∧ decode cX6_step 164 = .ok (.aload_n 0, 1) ∧ decode cX6_step 165 = .ok (.iconst 2, 1) ∧ decode cX6_step 166 = .ok (.putfield 40, 3) := by decide +kernel
theorem dX6_step_149 : decode cX6_step 149 = .ok (.goto (-49), 3) := zdc_183.1
theorem dX6_step_152 : decode cX6_step 152 = .ok (.iload_n 1, 1) := zdc_183.2.1
theorem dX6_step_153 : decode cX6_step 153 = .ok (.bipush 48, 2) := zdc_183.2.2.1
theorem dX6_step_155 : decode cX6_step 155 = .ok (.if_icmp .lt 66, 3) := zdc_183.2.2.2.1
theorem dX6_step_158 : decode cX6_step 158 = .ok (.iload_n 1, 1) := zdc_183.2.2.2.2.1
theorem dX6_step_159 : decode cX6_step 159 = .ok (.bipush 57, 2) := zdc_183.2.2.2.2.2.1
theorem dX6_step_161 : decode cX6_step 161 = .ok (.if_icmp .gt 60, 3) := zdc_183.2.2.2.2.2.2.1
theorem dX6_step_164 : decode cX6_step 164 = .ok (.aload_n 0, 1) := zdc_183.2.2.2.2.2.2.2.1
theorem dX6_step_165 : decode cX6_step 165 = .ok (.iconst 2, 1) := zdc_183.2.2.2.2.2.2.2.2.1
theorem dX6_step_166 : decode cX6_step 166 = .ok (.putfield 40, 3) := zdc_183.2.2.2.2.2.2.2.2.2
theorem zdc_184 : decode cX6_step 169 = .ok (.aload_n 0, 1) ∧ decode cX6_step 170 = .ok (.getfield 31, 3) ∧ decode cX6_step 173 = .ok (.aload_n 0, 1) ∧ decode cX6_step 174 = .ok (.getfield 28, 3) ∧ decode cX6_step 177 = .ok (.if_icmp .ge 49, 3) ∧ decode cX6_step 180 = .ok (.aload_n 0, 1) ∧ decode cX6_step 181 = .ok (.getfield 9, 3) ∧ decode cX6_step 184 = .ok (.aload_n 0, 1) ∧ decode cX6_step 185 = .ok (.getfield 31, 3) ∧ decode cX6_step 188 = .ok (.iaload, 1) := by decide +kernel
theorem dX6_step_169 : decode cX6_step 169 = .ok (.aload_n 0, 1) := zdc_184.1
theorem dX6_step_170 : decode cX6_step 170 = .ok (.getfield 31, 3) := zdc_184.2.1
theorem dX6_step_173 : decode cX6_step 173 = .ok (.aload_n 0, 1) := zdc_184.2.2.1
theorem dX6_step_174 : decode cX6_step 174 = .ok (.getfield 28, 3) := zdc_184.2.2.2.1
theorem dX6_step_177 : decode cX6_step 177 = .ok (.if_icmp .ge 49, 3) := zdc_184.2.2.2.2.1
theorem dX6_step_180 : decode cX6_step 180 = .ok (.aload_n 0, 1) := zdc_184.2.2.2.2.2.1
theorem dX6_step_181 : decode cX6_step 181 = .ok (.getfield 9, 3) := zdc_184.2.2.2.2.2.2.1
theorem dX6_step_184 : decode cX6_step 184 = .ok (.aload_n 0, 1) := zdc_184.2.2.2.2.2.2.2.1
theorem dX6_step_185 : decode cX6_step 185 = .ok (.getfield 31, 3) := zdc_184.2.2.2.2.2.2.2.2.1
theorem dX6_step_188 : decode cX6_step 188 = .ok (.iaload, 1) := zdc_184.2.2.2.2.2.2.2.2.2
theorem zdc_185 : decode cX6_step 189 = .ok (.bipush 48, 2) ∧ decode cX6_step 191 = .ok (.if_icmp .lt 35, 3) ∧ decode cX6_step 194 = .ok (.aload_n 0, 1) ∧ decode cX6_step 195 = .ok (.getfield 9, 3) ∧ decode cX6_step 198 = .ok (.aload_n 0, 1) ∧ decode cX6_step 199 = .ok (.getfield 31, 3) ∧ decode cX6_step 202 = .ok (.iaload, 1) ∧ decode cX6_step 203 = .ok (.bipush 57, 2) ∧ decode cX6_step 205 = .ok (.if_icmp .gt 21, 3) ∧ decode cX6_step 208 = .ok (.aload_n 0, 1) := by decide +kernel
theorem dX6_step_189 : decode cX6_step 189 = .ok (.bipush 48, 2) := zdc_185.1
theorem dX6_step_191 : decode cX6_step 191 = .ok (.if_icmp .lt 35, 3) := zdc_185.2.1
theorem dX6_step_194 : decode cX6_step 194 = .ok (.aload_n 0, 1) := zdc_185.2.2.1
theorem dX6_step_195 : decode cX6_step 195 = .ok (.getfield 9, 3) := zdc_185.2.2.2.1
theorem dX6_step_198 : decode cX6_step 198 = .ok (.aload_n 0, 1) := zdc_185.2.2.2.2.1
theorem dX6_step_199 : decode cX6_step 199 = .ok (.getfield 31, 3) := zdc_185.2.2.2.2.2.1
theorem dX6_step_202 : decode cX6_step 202 = .ok (.iaload, 1) := zdc_185.2.2.2.2.2.2.1
theorem dX6_step_203 : decode cX6_step 203 = .ok (.bipush 57, 2) := zdc_185.2.2.2.2.2.2.2.1
theorem dX6_step_205 : decode cX6_step 205 = .ok (.if_icmp .gt 21, 3) := zdc_185.2.2.2.2.2.2.2.2.1
theorem dX6_step_208 : decode cX6_step 208 = .ok (.aload_n 0, 1) := zdc_185.2.2.2.2.2.2.2.2.2
theorem zdc_186 : decode cX6_step 209 = .ok (.dup, 1) ∧ decode cX6_step 210 = .ok (.getfield 31, 3) ∧ decode cX6_step 213 = .ok (.iconst 1, 1) ∧ decode cX6_step 214 = .ok (.iadd, 1) ∧ decode cX6_step 215 = .ok (.putfield 31, 3) ∧ decode cX6_step 218 = .ok (.goto (-49), 3) ∧ decode cX6_step 221 = .ok (.aload_n 0, 1) ∧ decode cX6_step 222 = .ok (.iconst 3, 1) ∧ decode cX6_step 223 = .ok (.putfield 40, 3) ∧ decode cX6_step 226 = .ok (.return_, 1) := by decide +kernel
theorem dX6_step_209 : decode cX6_step 209 = .ok (.dup, 1) := zdc_186.1
theorem dX6_step_210 : decode cX6_step 210 = .ok (.getfield 31, 3) := zdc_186.2.1
theorem dX6_step_213 : decode cX6_step 213 = .ok (.iconst 1, 1) := zdc_186.2.2.1
theorem dX6_step_214 : decode cX6_step 214 = .ok (.iadd, 1) := zdc_186.2.2.2.1
theorem dX6_step_215 : decode cX6_step 215 = .ok (.putfield 31, 3) := zdc_186.2.2.2.2.1
theorem dX6_step_218 : decode cX6_step 218 = .ok (.goto (-49), 3) := zdc_186.2.2.2.2.2.1
theorem dX6_step_221 : decode cX6_step 221 = .ok (.aload_n 0, 1) := zdc_186.2.2.2.2.2.2.1
theorem dX6_step_222 : decode cX6_step 222 = .ok (.iconst 3, 1) := zdc_186.2.2.2.2.2.2.2.1
theorem dX6_step_223 : decode cX6_step 223 = .ok (.putfield 40, 3) := zdc_186.2.2.2.2.2.2.2.2.1
theorem dX6_step_226 : decode cX6_step 226 = .ok (.return_, 1) := zdc_186.2.2.2.2.2.2.2.2.2
theorem zdc_187 : decode cX6_refuse 0 = .ok (.aload_n 0, 1) ∧ decode cX6_refuse 1 = .ok (.getfield 15, 3) ∧ decode cX6_refuse 4 = .ok (.iconst (-1), 1) ∧ decode cX6_refuse 5 = .ok (.if_icmp .ne 11, 3) ∧ decode cX6_refuse 8 = .ok (.aload_n 0, 1) ∧ decode cX6_refuse 9 = .ok (.aload_n 0, 1) ∧ decode cX6_refuse 10 = .ok (.getfield 37, 3) ∧ decode cX6_refuse 13 = .ok (.putfield 15, 3) ∧ decode cX6_refuse 16 = .ok (.iconst 0, 1) ∧ decode cX6_refuse 17 = .ok (.ireturn, 1) := by decide +kernel
theorem dX6_refuse_0 : decode cX6_refuse 0 = .ok (.aload_n 0, 1) := zdc_187.1
theorem dX6_refuse_1 : decode cX6_refuse 1 = .ok (.getfield 15, 3) := zdc_187.2.1
theorem dX6_refuse_4 : decode cX6_refuse 4 = .ok (.iconst (-1), 1) := zdc_187.2.2.1
theorem dX6_refuse_5 : decode cX6_refuse 5 = .ok (.if_icmp .ne 11, 3) := zdc_187.2.2.2.1
theorem dX6_refuse_8 : decode cX6_refuse 8 = .ok (.aload_n 0, 1) := zdc_187.2.2.2.2.1
theorem dX6_refuse_9 : decode cX6_refuse 9 = .ok (.aload_n 0, 1) := zdc_187.2.2.2.2.2.1
theorem dX6_refuse_10 : decode cX6_refuse 10 = .ok (.getfield 37, 3) := zdc_187.2.2.2.2.2.2.1
theorem dX6_refuse_13 : decode cX6_refuse 13 = .ok (.putfield 15, 3) := zdc_187.2.2.2.2.2.2.2.1
theorem dX6_refuse_16 : decode cX6_refuse 16 = .ok (.iconst 0, 1) := zdc_187.2.2.2.2.2.2.2.2.1
theorem dX6_refuse_17 : decode cX6_refuse 17 = .ok (.ireturn, 1) := zdc_187.2.2.2.2.2.2.2.2.2
theorem zdc_188 : decode cX6_isWord 0 = .ok (.aload_n 0, 1) ∧ decode cX6_isWord 1 = .ok (.getfield 40, 3) ∧ decode cX6_isWord 4 = .ok (.iconst 1, 1) ∧ decode cX6_isWord 5 = .ok (.if_icmp .ne 19, 3) ∧ decode cX6_isWord 8 = .ok (.aload_n 1, 1) ∧ decode cX6_isWord 9 = .ok (.invokevirtual 43, 3) ∧ decode cX6_isWord 12 = .ok (.aload_n 0, 1) ∧ decode cX6_isWord 13 = .ok (.getfield 31, 3) ∧ decode cX6_isWord 16 = .ok (.aload_n 0, 1) ∧ decode cX6_isWord 17 = .ok (.getfield 37, 3) := by decide +kernel
theorem dX6_isWord_0 : decode cX6_isWord 0 = .ok (.aload_n 0, 1) := zdc_188.1
theorem dX6_isWord_1 : decode cX6_isWord 1 = .ok (.getfield 40, 3) := zdc_188.2.1
theorem dX6_isWord_4 : decode cX6_isWord 4 = .ok (.iconst 1, 1) := zdc_188.2.2.1
theorem dX6_isWord_5 : decode cX6_isWord 5 = .ok (.if_icmp .ne 19, 3) := zdc_188.2.2.2.1
theorem dX6_isWord_8 : decode cX6_isWord 8 = .ok (.aload_n 1, 1) := zdc_188.2.2.2.2.1
theorem dX6_isWord_9 : decode cX6_isWord 9 = .ok (.invokevirtual 43, 3) := zdc_188.2.2.2.2.2.1
theorem dX6_isWord_12 : decode cX6_isWord 12 = .ok (.aload_n 0, 1) := zdc_188.2.2.2.2.2.2.1
theorem dX6_isWord_13 : decode cX6_isWord 13 = .ok (.getfield 31, 3) := zdc_188.2.2.2.2.2.2.2.1
theorem dX6_isWord_16 : decode cX6_isWord 16 = .ok (.aload_n 0, 1) := zdc_188.2.2.2.2.2.2.2.2.1
theorem dX6_isWord_17 : decode cX6_isWord 17 = .ok (.getfield 37, 3) := zdc_188.2.2.2.2.2.2.2.2.2
theorem zdc_189 : decode cX6_isWord 20 = .ok (.isub, 1) ∧ decode cX6_isWord 21 = .ok (.if_icmp .eq 5, 3) ∧ decode cX6_isWord 24 = .ok (.iconst 0, 1) ∧ decode cX6_isWord 25 = .ok (.ireturn, 1) ∧ decode cX6_isWord 26 = .ok (.iconst 0, 1) ∧ decode cX6_isWord 27 = .ok (.istore_n 2, 1) ∧ decode cX6_isWord 28 = .ok (.iload_n 2, 1) ∧ decode cX6_isWord 29 = .ok (.aload_n 1, 1) ∧ decode cX6_isWord 30 = .ok (.invokevirtual 43, 3) ∧ decode cX6_isWord 33 = .ok (.if_icmp .ge 30, 3) := by decide +kernel
theorem dX6_isWord_20 : decode cX6_isWord 20 = .ok (.isub, 1) := zdc_189.1
theorem dX6_isWord_21 : decode cX6_isWord 21 = .ok (.if_icmp .eq 5, 3) := zdc_189.2.1
theorem dX6_isWord_24 : decode cX6_isWord 24 = .ok (.iconst 0, 1) := zdc_189.2.2.1
theorem dX6_isWord_25 : decode cX6_isWord 25 = .ok (.ireturn, 1) := zdc_189.2.2.2.1
theorem dX6_isWord_26 : decode cX6_isWord 26 = .ok (.iconst 0, 1) := zdc_189.2.2.2.2.1
theorem dX6_isWord_27 : decode cX6_isWord 27 = .ok (.istore_n 2, 1) := zdc_189.2.2.2.2.2.1
theorem dX6_isWord_28 : decode cX6_isWord 28 = .ok (.iload_n 2, 1) := zdc_189.2.2.2.2.2.2.1
theorem dX6_isWord_29 : decode cX6_isWord 29 = .ok (.aload_n 1, 1) := zdc_189.2.2.2.2.2.2.2.1
theorem dX6_isWord_30 : decode cX6_isWord 30 = .ok (.invokevirtual 43, 3) := zdc_189.2.2.2.2.2.2.2.2.1
theorem dX6_isWord_33 : decode cX6_isWord 33 = .ok (.if_icmp .ge 30, 3) := zdc_189.2.2.2.2.2.2.2.2.2
theorem zdc_190 : decode cX6_isWord 36 = .ok (.aload_n 0, 1) ∧ decode cX6_isWord 37 = .ok (.getfield 9, 3) ∧ decode cX6_isWord 40 = .ok (.aload_n 0, 1) ∧ decode cX6_isWord 41 = .ok (.getfield 37, 3) ∧ decode cX6_isWord 44 = .ok (.iload_n 2, 1) ∧ decode cX6_isWord 45 = .ok (.iadd, 1) ∧ decode cX6_isWord 46 = .ok (.iaload, 1) ∧ decode cX6_isWord 47 = .ok (.aload_n 1, 1) ∧ decode cX6_isWord 48 = .ok (.iload_n 2, 1) ∧ decode cX6_isWord 49 = .ok (.invokevirtual 48, 3) := by decide +kernel
theorem dX6_isWord_36 : decode cX6_isWord 36 = .ok (.aload_n 0, 1) := zdc_190.1
theorem dX6_isWord_37 : decode cX6_isWord 37 = .ok (.getfield 9, 3) := zdc_190.2.1
theorem dX6_isWord_40 : decode cX6_isWord 40 = .ok (.aload_n 0, 1) := zdc_190.2.2.1
theorem dX6_isWord_41 : decode cX6_isWord 41 = .ok (.getfield 37, 3) := zdc_190.2.2.2.1
theorem dX6_isWord_44 : decode cX6_isWord 44 = .ok (.iload_n 2, 1) := zdc_190.2.2.2.2.1
theorem dX6_isWord_45 : decode cX6_isWord 45 = .ok (.iadd, 1) := zdc_190.2.2.2.2.2.1
theorem dX6_isWord_46 : decode cX6_isWord 46 = .ok (.iaload, 1) := zdc_190.2.2.2.2.2.2.1
theorem dX6_isWord_47 : decode cX6_isWord 47 = .ok (.aload_n 1, 1) := zdc_190.2.2.2.2.2.2.2.1
theorem dX6_isWord_48 : decode cX6_isWord 48 = .ok (.iload_n 2, 1) := zdc_190.2.2.2.2.2.2.2.2.1
theorem dX6_isWord_49 : decode cX6_isWord 49 = .ok (.invokevirtual 48, 3) := zdc_190.2.2.2.2.2.2.2.2.2
theorem zdc_191 : decode cX6_isWord 52 = .ok (.if_icmp .eq 5, 3) ∧ decode cX6_isWord 55 = .ok (.iconst 0, 1) ∧ decode cX6_isWord 56 = .ok (.ireturn, 1) ∧ decode cX6_isWord 57 = .ok (.iinc 2 1, 3) ∧ decode cX6_isWord 60 = .ok (.goto (-32), 3) ∧ decode cX6_isWord 63 = .ok (.iconst 1, 1) ∧ decode cX6_isWord 64 = .ok (.ireturn, 1) ∧ decode cX6_isSign 0 = .ok (.aload_n 0, 1) ∧ decode cX6_isSign 1 = .ok (.getfield 40, 3) ∧ decode cX6_isSign 4 = .ok (.iconst 3, 1) := by decide +kernel
theorem dX6_isWord_52 : decode cX6_isWord 52 = .ok (.if_icmp .eq 5, 3) := zdc_191.1
theorem dX6_isWord_55 : decode cX6_isWord 55 = .ok (.iconst 0, 1) := zdc_191.2.1
theorem dX6_isWord_56 : decode cX6_isWord 56 = .ok (.ireturn, 1) := zdc_191.2.2.1
theorem dX6_isWord_57 : decode cX6_isWord 57 = .ok (.iinc 2 1, 3) := zdc_191.2.2.2.1
theorem dX6_isWord_60 : decode cX6_isWord 60 = .ok (.goto (-32), 3) := zdc_191.2.2.2.2.1
theorem dX6_isWord_63 : decode cX6_isWord 63 = .ok (.iconst 1, 1) := zdc_191.2.2.2.2.2.1
theorem dX6_isWord_64 : decode cX6_isWord 64 = .ok (.ireturn, 1) := zdc_191.2.2.2.2.2.2.1
theorem dX6_isSign_0 : decode cX6_isSign 0 = .ok (.aload_n 0, 1) := zdc_191.2.2.2.2.2.2.2.1
theorem dX6_isSign_1 : decode cX6_isSign 1 = .ok (.getfield 40, 3) := zdc_191.2.2.2.2.2.2.2.2.1
theorem dX6_isSign_4 : decode cX6_isSign 4 = .ok (.iconst 3, 1) := zdc_191.2.2.2.2.2.2.2.2.2
theorem zdc_192 : decode cX6_isSign 5 = .ok (.if_icmp .ne 20, 3) ∧ decode cX6_isSign 8 = .ok (.aload_n 0, 1) ∧ decode cX6_isSign 9 = .ok (.getfield 9, 3) ∧ decode cX6_isSign 12 = .ok (.aload_n 0, 1) ∧ decode cX6_isSign 13 = .ok (.getfield 37, 3) ∧ decode cX6_isSign 16 = .ok (.iaload, 1) ∧ decode cX6_isSign 17 = .ok (.iload_n 1, 1) ∧ decode cX6_isSign 18 = .ok (.if_icmp .ne 7, 3) ∧ decode cX6_isSign 21 = .ok (.iconst 1, 1) ∧ decode cX6_isSign 22 = .ok (.goto 4, 3) := by decide +kernel
theorem dX6_isSign_5 : decode cX6_isSign 5 = .ok (.if_icmp .ne 20, 3) := zdc_192.1
theorem dX6_isSign_8 : decode cX6_isSign 8 = .ok (.aload_n 0, 1) := zdc_192.2.1
theorem dX6_isSign_9 : decode cX6_isSign 9 = .ok (.getfield 9, 3) := zdc_192.2.2.1
theorem dX6_isSign_12 : decode cX6_isSign 12 = .ok (.aload_n 0, 1) := zdc_192.2.2.2.1
theorem dX6_isSign_13 : decode cX6_isSign 13 = .ok (.getfield 37, 3) := zdc_192.2.2.2.2.1
theorem dX6_isSign_16 : decode cX6_isSign 16 = .ok (.iaload, 1) := zdc_192.2.2.2.2.2.1
theorem dX6_isSign_17 : decode cX6_isSign 17 = .ok (.iload_n 1, 1) := zdc_192.2.2.2.2.2.2.1
theorem dX6_isSign_18 : decode cX6_isSign 18 = .ok (.if_icmp .ne 7, 3) := zdc_192.2.2.2.2.2.2.2.1
theorem dX6_isSign_21 : decode cX6_isSign 21 = .ok (.iconst 1, 1) := zdc_192.2.2.2.2.2.2.2.2.1
theorem dX6_isSign_22 : decode cX6_isSign 22 = .ok (.goto 4, 3) := zdc_192.2.2.2.2.2.2.2.2.2
theorem zdc_193 : decode cX6_isSign 25 = .ok (.iconst 0, 1) ∧ decode cX6_isSign 26 = .ok (.ireturn, 1) ∧ decode cX6_takeWord 0 = .ok (.aload_n 0, 1) ∧ decode cX6_takeWord 1 = .ok (.aload_n 1, 1) ∧ decode cX6_takeWord 2 = .ok (.invokevirtual 52, 3) ∧ decode cX6_takeWord 5 = .ok (.ifCond .ne 5, 3) ∧ decode cX6_takeWord 8 = .ok (.iconst 0, 1) ∧ decode cX6_takeWord 9 = .ok (.ireturn, 1) ∧ decode cX6_takeWord 10 = .ok (.aload_n 0, 1) ∧ decode cX6_takeWord 11 = .ok (.invokevirtual 34, 3) := by decide +kernel
theorem dX6_isSign_25 : decode cX6_isSign 25 = .ok (.iconst 0, 1) := zdc_193.1
theorem dX6_isSign_26 : decode cX6_isSign 26 = .ok (.ireturn, 1) := zdc_193.2.1
theorem dX6_takeWord_0 : decode cX6_takeWord 0 = .ok (.aload_n 0, 1) := zdc_193.2.2.1
theorem dX6_takeWord_1 : decode cX6_takeWord 1 = .ok (.aload_n 1, 1) := zdc_193.2.2.2.1
theorem dX6_takeWord_2 : decode cX6_takeWord 2 = .ok (.invokevirtual 52, 3) := zdc_193.2.2.2.2.1
theorem dX6_takeWord_5 : decode cX6_takeWord 5 = .ok (.ifCond .ne 5, 3) := zdc_193.2.2.2.2.2.1
theorem dX6_takeWord_8 : decode cX6_takeWord 8 = .ok (.iconst 0, 1) := zdc_193.2.2.2.2.2.2.1
theorem dX6_takeWord_9 : decode cX6_takeWord 9 = .ok (.ireturn, 1) := zdc_193.2.2.2.2.2.2.2.1
theorem dX6_takeWord_10 : decode cX6_takeWord 10 = .ok (.aload_n 0, 1) := zdc_193.2.2.2.2.2.2.2.2.1
theorem dX6_takeWord_11 : decode cX6_takeWord 11 = .ok (.invokevirtual 34, 3) := zdc_193.2.2.2.2.2.2.2.2.2
theorem zdc_194 : decode cX6_takeWord 14 = .ok (.iconst 1, 1) ∧ decode cX6_takeWord 15 = .ok (.ireturn, 1) ∧ decode cX6_needWord 0 = .ok (.aload_n 0, 1) ∧ decode cX6_needWord 1 = .ok (.aload_n 1, 1) ∧ decode cX6_needWord 2 = .ok (.invokevirtual 56, 3) ∧ decode cX6_needWord 5 = .ok (.ifCond .ne 10, 3) ∧ decode cX6_needWord 8 = .ok (.aload_n 0, 1) ∧ decode cX6_needWord 9 = .ok (.invokevirtual 59, 3) ∧ decode cX6_needWord 12 = .ok (.ifCond .eq 7, 3) ∧ decode cX6_needWord 15 = .ok (.iconst 1, 1) := by decide +kernel
theorem dX6_takeWord_14 : decode cX6_takeWord 14 = .ok (.iconst 1, 1) := zdc_194.1
theorem dX6_takeWord_15 : decode cX6_takeWord 15 = .ok (.ireturn, 1) := zdc_194.2.1
theorem dX6_needWord_0 : decode cX6_needWord 0 = .ok (.aload_n 0, 1) := zdc_194.2.2.1
theorem dX6_needWord_1 : decode cX6_needWord 1 = .ok (.aload_n 1, 1) := zdc_194.2.2.2.1
theorem dX6_needWord_2 : decode cX6_needWord 2 = .ok (.invokevirtual 56, 3) := zdc_194.2.2.2.2.1
theorem dX6_needWord_5 : decode cX6_needWord 5 = .ok (.ifCond .ne 10, 3) := zdc_194.2.2.2.2.2.1
theorem dX6_needWord_8 : decode cX6_needWord 8 = .ok (.aload_n 0, 1) := zdc_194.2.2.2.2.2.2.1
theorem dX6_needWord_9 : decode cX6_needWord 9 = .ok (.invokevirtual 59, 3) := zdc_194.2.2.2.2.2.2.2.1
theorem dX6_needWord_12 : decode cX6_needWord 12 = .ok (.ifCond .eq 7, 3) := zdc_194.2.2.2.2.2.2.2.2.1
theorem dX6_needWord_15 : decode cX6_needWord 15 = .ok (.iconst 1, 1) := zdc_194.2.2.2.2.2.2.2.2.2
theorem zdc_195 : decode cX6_needWord 16 = .ok (.goto 4, 3) ∧ decode cX6_needWord 19 = .ok (.iconst 0, 1) ∧ decode cX6_needWord 20 = .ok (.ireturn, 1) ∧ decode cX6_takeSign 0 = .ok (.aload_n 0, 1) ∧ decode cX6_takeSign 1 = .ok (.iload_n 1, 1) ∧ decode cX6_takeSign 2 = .ok (.invokevirtual 63, 3) ∧ decode cX6_takeSign 5 = .ok (.ifCond .ne 5, 3) ∧ decode cX6_takeSign 8 = .ok (.iconst 0, 1) ∧ decode cX6_takeSign 9 = .ok (.ireturn, 1) ∧ decode cX6_takeSign 10 = .ok (.aload_n 0, 1) := by decide +kernel
theorem dX6_needWord_16 : decode cX6_needWord 16 = .ok (.goto 4, 3) := zdc_195.1
theorem dX6_needWord_19 : decode cX6_needWord 19 = .ok (.iconst 0, 1) := zdc_195.2.1
theorem dX6_needWord_20 : decode cX6_needWord 20 = .ok (.ireturn, 1) := zdc_195.2.2.1
theorem dX6_takeSign_0 : decode cX6_takeSign 0 = .ok (.aload_n 0, 1) := zdc_195.2.2.2.1
theorem dX6_takeSign_1 : decode cX6_takeSign 1 = .ok (.iload_n 1, 1) := zdc_195.2.2.2.2.1
theorem dX6_takeSign_2 : decode cX6_takeSign 2 = .ok (.invokevirtual 63, 3) := zdc_195.2.2.2.2.2.1
theorem dX6_takeSign_5 : decode cX6_takeSign 5 = .ok (.ifCond .ne 5, 3) := zdc_195.2.2.2.2.2.2.1
theorem dX6_takeSign_8 : decode cX6_takeSign 8 = .ok (.iconst 0, 1) := zdc_195.2.2.2.2.2.2.2.1
theorem dX6_takeSign_9 : decode cX6_takeSign 9 = .ok (.ireturn, 1) := zdc_195.2.2.2.2.2.2.2.2.1
theorem dX6_takeSign_10 : decode cX6_takeSign 10 = .ok (.aload_n 0, 1) := zdc_195.2.2.2.2.2.2.2.2.2
theorem zdc_196 : decode cX6_takeSign 11 = .ok (.invokevirtual 34, 3) ∧ decode cX6_takeSign 14 = .ok (.iconst 1, 1) ∧ decode cX6_takeSign 15 = .ok (.ireturn, 1) ∧ decode cX6_needSign 0 = .ok (.aload_n 0, 1) ∧ decode cX6_needSign 1 = .ok (.iload_n 1, 1) ∧ decode cX6_needSign 2 = .ok (.invokevirtual 67, 3) ∧ decode cX6_needSign 5 = .ok (.ifCond .ne 10, 3) ∧ decode cX6_needSign 8 = .ok (.aload_n 0, 1) ∧ decode cX6_needSign 9 = .ok (.invokevirtual 59, 3) ∧ decode cX6_needSign 12 = .ok (.ifCond .eq 7, 3) := by decide +kernel
theorem dX6_takeSign_11 : decode cX6_takeSign 11 = .ok (.invokevirtual 34, 3) := zdc_196.1
theorem dX6_takeSign_14 : decode cX6_takeSign 14 = .ok (.iconst 1, 1) := zdc_196.2.1
theorem dX6_takeSign_15 : decode cX6_takeSign 15 = .ok (.ireturn, 1) := zdc_196.2.2.1
theorem dX6_needSign_0 : decode cX6_needSign 0 = .ok (.aload_n 0, 1) := zdc_196.2.2.2.1
theorem dX6_needSign_1 : decode cX6_needSign 1 = .ok (.iload_n 1, 1) := zdc_196.2.2.2.2.1
theorem dX6_needSign_2 : decode cX6_needSign 2 = .ok (.invokevirtual 67, 3) := zdc_196.2.2.2.2.2.1
theorem dX6_needSign_5 : decode cX6_needSign 5 = .ok (.ifCond .ne 10, 3) := zdc_196.2.2.2.2.2.2.1
theorem dX6_needSign_8 : decode cX6_needSign 8 = .ok (.aload_n 0, 1) := zdc_196.2.2.2.2.2.2.2.1
theorem dX6_needSign_9 : decode cX6_needSign 9 = .ok (.invokevirtual 59, 3) := zdc_196.2.2.2.2.2.2.2.2.1
theorem dX6_needSign_12 : decode cX6_needSign 12 = .ok (.ifCond .eq 7, 3) := zdc_196.2.2.2.2.2.2.2.2.2
theorem zdc_197 : decode cX6_needSign 15 = .ok (.iconst 1, 1) ∧ decode cX6_needSign 16 = .ok (.goto 4, 3) ∧ decode cX6_needSign 19 = .ok (.iconst 0, 1) ∧ decode cX6_needSign 20 = .ok (.ireturn, 1) ∧ decode cX6_number 0 = .ok (.iconst 0, 1) ∧ decode cX6_number 1 = .ok (.istore_n 3, 1) ∧ decode cX6_number 2 = .ok (.aload_n 0, 1) ∧ decode cX6_number 3 = .ok (.getfield 40, 3) ∧ decode cX6_number 6 = .ok (.iconst 2, 1) ∧ decode cX6_number 7 = .ok (.if_icmp .ne 69, 3) := by decide +kernel
theorem dX6_needSign_15 : decode cX6_needSign 15 = .ok (.iconst 1, 1) := zdc_197.1
theorem dX6_needSign_16 : decode cX6_needSign 16 = .ok (.goto 4, 3) := zdc_197.2.1
theorem dX6_needSign_19 : decode cX6_needSign 19 = .ok (.iconst 0, 1) := zdc_197.2.2.1
theorem dX6_needSign_20 : decode cX6_needSign 20 = .ok (.ireturn, 1) := zdc_197.2.2.2.1
theorem dX6_number_0 : decode cX6_number 0 = .ok (.iconst 0, 1) := zdc_197.2.2.2.2.1
theorem dX6_number_1 : decode cX6_number 1 = .ok (.istore_n 3, 1) := zdc_197.2.2.2.2.2.1
theorem dX6_number_2 : decode cX6_number 2 = .ok (.aload_n 0, 1) := zdc_197.2.2.2.2.2.2.1
theorem dX6_number_3 : decode cX6_number 3 = .ok (.getfield 40, 3) := zdc_197.2.2.2.2.2.2.2.1
theorem dX6_number_6 : decode cX6_number 6 = .ok (.iconst 2, 1) := zdc_197.2.2.2.2.2.2.2.2.1
theorem dX6_number_7 : decode cX6_number 7 = .ok (.if_icmp .ne 69, 3) := zdc_197.2.2.2.2.2.2.2.2.2
theorem zdc_198 : decode cX6_number 10 = .ok (.aload_n 0, 1) ∧ decode cX6_number 11 = .ok (.getfield 31, 3) ∧ decode cX6_number 14 = .ok (.aload_n 0, 1) ∧ decode cX6_number 15 = .ok (.getfield 37, 3) ∧ decode cX6_number 18 = .ok (.isub, 1) ∧ decode cX6_number 19 = .ok (.iconst 3, 1) ∧ decode cX6_number 20 = .ok (.if_icmp .gt 56, 3) ∧ decode cX6_number 23 = .ok (.aload_n 0, 1) ∧ decode cX6_number 24 = .ok (.getfield 37, 3) ∧ decode cX6_number 27 = .ok (.istore 4, 2) := by decide +kernel
theorem dX6_number_10 : decode cX6_number 10 = .ok (.aload_n 0, 1) := zdc_198.1
theorem dX6_number_11 : decode cX6_number 11 = .ok (.getfield 31, 3) := zdc_198.2.1
theorem dX6_number_14 : decode cX6_number 14 = .ok (.aload_n 0, 1) := zdc_198.2.2.1
theorem dX6_number_15 : decode cX6_number 15 = .ok (.getfield 37, 3) := zdc_198.2.2.2.1
theorem dX6_number_18 : decode cX6_number 18 = .ok (.isub, 1) := zdc_198.2.2.2.2.1
theorem dX6_number_19 : decode cX6_number 19 = .ok (.iconst 3, 1) := zdc_198.2.2.2.2.2.1
theorem dX6_number_20 : decode cX6_number 20 = .ok (.if_icmp .gt 56, 3) := zdc_198.2.2.2.2.2.2.1
theorem dX6_number_23 : decode cX6_number 23 = .ok (.aload_n 0, 1) := zdc_198.2.2.2.2.2.2.2.1
theorem dX6_number_24 : decode cX6_number 24 = .ok (.getfield 37, 3) := zdc_198.2.2.2.2.2.2.2.2.1
theorem dX6_number_27 : decode cX6_number 27 = .ok (.istore 4, 2) := zdc_198.2.2.2.2.2.2.2.2.2
theorem zdc_199 : decode cX6_number 29 = .ok (.iload 4, 2) ∧ decode cX6_number 31 = .ok (.aload_n 0, 1) ∧ decode cX6_number 32 = .ok (.getfield 31, 3) ∧ decode cX6_number 35 = .ok (.if_icmp .ge 25, 3) ∧ decode cX6_number 38 = .ok (.iload_n 3, 1) ∧ decode cX6_number 39 = .ok (.bipush 10, 2) ∧ decode cX6_number 41 = .ok (.imul, 1) ∧ decode cX6_number 42 = .ok (.aload_n 0, 1) ∧ decode cX6_number 43 = .ok (.getfield 9, 3) ∧ decode cX6_number 46 = .ok (.iload 4, 2) := by decide +kernel
theorem dX6_number_29 : decode cX6_number 29 = .ok (.iload 4, 2) := zdc_199.1
theorem dX6_number_31 : decode cX6_number 31 = .ok (.aload_n 0, 1) := zdc_199.2.1
theorem dX6_number_32 : decode cX6_number 32 = .ok (.getfield 31, 3) := zdc_199.2.2.1
theorem dX6_number_35 : decode cX6_number 35 = .ok (.if_icmp .ge 25, 3) := zdc_199.2.2.2.1
theorem dX6_number_38 : decode cX6_number 38 = .ok (.iload_n 3, 1) := zdc_199.2.2.2.2.1
theorem dX6_number_39 : decode cX6_number 39 = .ok (.bipush 10, 2) := zdc_199.2.2.2.2.2.1
theorem dX6_number_41 : decode cX6_number 41 = .ok (.imul, 1) := zdc_199.2.2.2.2.2.2.1
theorem dX6_number_42 : decode cX6_number 42 = .ok (.aload_n 0, 1) := zdc_199.2.2.2.2.2.2.2.1
theorem dX6_number_43 : decode cX6_number 43 = .ok (.getfield 9, 3) := zdc_199.2.2.2.2.2.2.2.2.1
theorem dX6_number_46 : decode cX6_number 46 = .ok (.iload 4, 2) := zdc_199.2.2.2.2.2.2.2.2.2
theorem zdc_200 : decode cX6_number 48 = .ok (.iaload, 1) ∧ decode cX6_number 49 = .ok (.iadd, 1) ∧ decode cX6_number 50 = .ok (.bipush 48, 2) ∧ decode cX6_number 52 = .ok (.isub, 1) ∧ decode cX6_number 53 = .ok (.istore_n 3, 1) ∧ decode cX6_number 54 = .ok (.iinc 4 1, 3) ∧ decode cX6_number 57 = .ok (.goto (-28), 3) ∧ decode cX6_number 60 = .ok (.iload_n 3, 1) ∧ decode cX6_number 61 = .ok (.iload_n 1, 1) ∧ decode cX6_number 62 = .ok (.if_icmp .lt 14, 3) := by decide +kernel
theorem dX6_number_48 : decode cX6_number 48 = .ok (.iaload, 1) := zdc_200.1
theorem dX6_number_49 : decode cX6_number 49 = .ok (.iadd, 1) := zdc_200.2.1
theorem dX6_number_50 : decode cX6_number 50 = .ok (.bipush 48, 2) := zdc_200.2.2.1
theorem dX6_number_52 : decode cX6_number 52 = .ok (.isub, 1) := zdc_200.2.2.2.1
theorem dX6_number_53 : decode cX6_number 53 = .ok (.istore_n 3, 1) := zdc_200.2.2.2.2.1
theorem dX6_number_54 : decode cX6_number 54 = .ok (.iinc 4 1, 3) := zdc_200.2.2.2.2.2.1
theorem dX6_number_57 : decode cX6_number 57 = .ok (.goto (-28), 3) := zdc_200.2.2.2.2.2.2.1
theorem dX6_number_60 : decode cX6_number 60 = .ok (.iload_n 3, 1) := zdc_200.2.2.2.2.2.2.2.1
theorem dX6_number_61 : decode cX6_number 61 = .ok (.iload_n 1, 1) := zdc_200.2.2.2.2.2.2.2.2.1
theorem dX6_number_62 : decode cX6_number 62 = .ok (.if_icmp .lt 14, 3) := zdc_200.2.2.2.2.2.2.2.2.2
theorem zdc_201 : decode cX6_number 65 = .ok (.iload_n 3, 1) ∧ decode cX6_number 66 = .ok (.iload_n 2, 1) ∧ decode cX6_number 67 = .ok (.if_icmp .gt 9, 3) ∧ decode cX6_number 70 = .ok (.aload_n 0, 1) ∧ decode cX6_number 71 = .ok (.invokevirtual 34, 3) ∧ decode cX6_number 74 = .ok (.iload_n 3, 1) ∧ decode cX6_number 75 = .ok (.ireturn, 1) ∧ decode cX6_number 76 = .ok (.aload_n 0, 1) ∧ decode cX6_number 77 = .ok (.invokevirtual 59, 3) ∧ decode cX6_number 80 = .ok (.pop, 1) := by decide +kernel
theorem dX6_number_65 : decode cX6_number 65 = .ok (.iload_n 3, 1) := zdc_201.1
theorem dX6_number_66 : decode cX6_number 66 = .ok (.iload_n 2, 1) := zdc_201.2.1
theorem dX6_number_67 : decode cX6_number 67 = .ok (.if_icmp .gt 9, 3) := zdc_201.2.2.1
theorem dX6_number_70 : decode cX6_number 70 = .ok (.aload_n 0, 1) := zdc_201.2.2.2.1
theorem dX6_number_71 : decode cX6_number 71 = .ok (.invokevirtual 34, 3) := zdc_201.2.2.2.2.1
theorem dX6_number_74 : decode cX6_number 74 = .ok (.iload_n 3, 1) := zdc_201.2.2.2.2.2.1
theorem dX6_number_75 : decode cX6_number 75 = .ok (.ireturn, 1) := zdc_201.2.2.2.2.2.2.1
theorem dX6_number_76 : decode cX6_number 76 = .ok (.aload_n 0, 1) := zdc_201.2.2.2.2.2.2.2.1
theorem dX6_number_77 : decode cX6_number 77 = .ok (.invokevirtual 59, 3) := zdc_201.2.2.2.2.2.2.2.2.1
theorem dX6_number_80 : decode cX6_number 80 = .ok (.pop, 1) := zdc_201.2.2.2.2.2.2.2.2.2
theorem zdc_202 : decode cX6_number 81 = .ok (.iconst (-1), 1) ∧ decode cX6_number 82 = .ok (.ireturn, 1) ∧ decode cX7_init 0 = .ok (.aload_n 0, 1) ∧ decode cX7_init 1 = .ok (.invokespecial 3, 3) ∧ decode cX7_init 4 = .ok (.aload_n 0, 1) ∧ decode cX7_init 5 = .ok (.aload_n 1, 1) ∧ decode cX7_init 6 = .ok (.putfield 9, 3) ∧ decode cX7_init 9 = .ok (.return_, 1) ∧ decode cX7_readLines 0 = .ok (.aload_n 0, 1) ∧ decode cX7_readLines 1 = .ok (.getfield 9, 3) := by decide +kernel
theorem dX6_number_81 : decode cX6_number 81 = .ok (.iconst (-1), 1) := zdc_202.1
theorem dX6_number_82 : decode cX6_number 82 = .ok (.ireturn, 1) := zdc_202.2.1
theorem dX7_init_0 : decode cX7_init 0 = .ok (.aload_n 0, 1) := zdc_202.2.2.1
theorem dX7_init_1 : decode cX7_init 1 = .ok (.invokespecial 3, 3) := zdc_202.2.2.2.1
theorem dX7_init_4 : decode cX7_init 4 = .ok (.aload_n 0, 1) := zdc_202.2.2.2.2.1
theorem dX7_init_5 : decode cX7_init 5 = .ok (.aload_n 1, 1) := zdc_202.2.2.2.2.2.1
theorem dX7_init_6 : decode cX7_init 6 = .ok (.putfield 9, 3) := zdc_202.2.2.2.2.2.2.1
theorem dX7_init_9 : decode cX7_init 9 = .ok (.return_, 1) := zdc_202.2.2.2.2.2.2.2.1
theorem dX7_readLines_0 : decode cX7_readLines 0 = .ok (.aload_n 0, 1) := zdc_202.2.2.2.2.2.2.2.2.1
theorem dX7_readLines_1 : decode cX7_readLines 1 = .ok (.getfield 9, 3) := zdc_202.2.2.2.2.2.2.2.2.2
theorem zdc_203 : decode cX7_readLines 4 = .ok (.getfield 15, 3) ∧ decode cX7_readLines 7 = .ok (.ifCond .ne 5, 3) ∧ decode cX7_readLines 10 = .ok (.iconst 0, 1) ∧ decode cX7_readLines 11 = .ok (.ireturn, 1) ∧ decode cX7_readLines 12 = .ok (.iconst 1, 1) ∧ decode cX7_readLines 13 = .ok (.istore_n 2, 1) ∧ decode cX7_readLines 14 = .ok (.iload_n 2, 1) ∧ decode cX7_readLines 15 = .ok (.iload_n 1, 1) ∧ decode cX7_readLines 16 = .ok (.if_icmp .gt 44, 3) ∧ decode cX7_readLines 19 = .ok (.aload_n 0, 1) := by decide +kernel
theorem dX7_readLines_4 : decode cX7_readLines 4 = .ok (.getfield 15, 3) := zdc_203.1
theorem dX7_readLines_7 : decode cX7_readLines 7 = .ok (.ifCond .ne 5, 3) := zdc_203.2.1
theorem dX7_readLines_10 : decode cX7_readLines 10 = .ok (.iconst 0, 1) := zdc_203.2.2.1
theorem dX7_readLines_11 : decode cX7_readLines 11 = .ok (.ireturn, 1) := zdc_203.2.2.2.1
theorem dX7_readLines_12 : decode cX7_readLines 12 = .ok (.iconst 1, 1) := zdc_203.2.2.2.2.1
theorem dX7_readLines_13 : decode cX7_readLines 13 = .ok (.istore_n 2, 1) := zdc_203.2.2.2.2.2.1
theorem dX7_readLines_14 : decode cX7_readLines 14 = .ok (.iload_n 2, 1) := zdc_203.2.2.2.2.2.2.1
theorem dX7_readLines_15 : decode cX7_readLines 15 = .ok (.iload_n 1, 1) := zdc_203.2.2.2.2.2.2.2.1
theorem dX7_readLines_16 : decode cX7_readLines 16 = .ok (.if_icmp .gt 44, 3) := zdc_203.2.2.2.2.2.2.2.2.1
theorem dX7_readLines_19 : decode cX7_readLines 19 = .ok (.aload_n 0, 1) := zdc_203.2.2.2.2.2.2.2.2.2
theorem zdc_204 : decode cX7_readLines 20 = .ok (.invokevirtual 21, 3) ∧ decode cX7_readLines 23 = .ok (.ifCond .ne 5, 3) ∧ decode cX7_readLines 26 = .ok (.iconst (-1), 1) ∧ decode cX7_readLines 27 = .ok (.ireturn, 1) ∧ decode cX7_readLines 28 = .ok (.aload_n 0, 1) ∧ decode cX7_readLines 29 = .ok (.getfield 9, 3) ∧ decode cX7_readLines 32 = .ok (.getfield 15, 3) ∧ decode cX7_readLines 35 = .ok (.ifCond .ne 5, 3) ∧ decode cX7_readLines 38 = .ok (.iload_n 2, 1) ∧ decode cX7_readLines 39 = .ok (.ireturn, 1) := by decide +kernel
theorem dX7_readLines_20 : decode cX7_readLines 20 = .ok (.invokevirtual 21, 3) := zdc_204.1
theorem dX7_readLines_23 : decode cX7_readLines 23 = .ok (.ifCond .ne 5, 3) := zdc_204.2.1
theorem dX7_readLines_26 : decode cX7_readLines 26 = .ok (.iconst (-1), 1) := zdc_204.2.2.1
theorem dX7_readLines_27 : decode cX7_readLines 27 = .ok (.ireturn, 1) := zdc_204.2.2.2.1
theorem dX7_readLines_28 : decode cX7_readLines 28 = .ok (.aload_n 0, 1) := zdc_204.2.2.2.2.1
theorem dX7_readLines_29 : decode cX7_readLines 29 = .ok (.getfield 9, 3) := zdc_204.2.2.2.2.2.1
theorem dX7_readLines_32 : decode cX7_readLines 32 = .ok (.getfield 15, 3) := zdc_204.2.2.2.2.2.2.1
theorem dX7_readLines_35 : decode cX7_readLines 35 = .ok (.ifCond .ne 5, 3) := zdc_204.2.2.2.2.2.2.2.1
theorem dX7_readLines_38 : decode cX7_readLines 38 = .ok (.iload_n 2, 1) := zdc_204.2.2.2.2.2.2.2.2.1
theorem dX7_readLines_39 : decode cX7_readLines 39 = .ok (.ireturn, 1) := zdc_204.2.2.2.2.2.2.2.2.2
theorem zdc_205 : decode cX7_readLines 40 = .ok (.aload_n 0, 1) ∧ decode cX7_readLines 41 = .ok (.getfield 9, 3) ∧ decode cX7_readLines 44 = .ok (.bipush 59, 2) ∧ decode cX7_readLines 46 = .ok (.invokevirtual 25, 3) ∧ decode cX7_readLines 49 = .ok (.ifCond .ne 5, 3) ∧ decode cX7_readLines 52 = .ok (.iconst (-1), 1) ∧ decode cX7_readLines 53 = .ok (.ireturn, 1) ∧ decode cX7_readLines 54 = .ok (.iinc 2 1, 3) ∧ decode cX7_readLines 57 = .ok (.goto (-43), 3) ∧ decode cX7_readLines 60 = .ok (.aload_n 0, 1) := by decide +kernel
theorem dX7_readLines_40 : decode cX7_readLines 40 = .ok (.aload_n 0, 1) := zdc_205.1
theorem dX7_readLines_41 : decode cX7_readLines 41 = .ok (.getfield 9, 3) := zdc_205.2.1
theorem dX7_readLines_44 : decode cX7_readLines 44 = .ok (.bipush 59, 2) := zdc_205.2.2.1
theorem dX7_readLines_46 : decode cX7_readLines 46 = .ok (.invokevirtual 25, 3) := zdc_205.2.2.2.1
theorem dX7_readLines_49 : decode cX7_readLines 49 = .ok (.ifCond .ne 5, 3) := zdc_205.2.2.2.2.1
theorem dX7_readLines_52 : decode cX7_readLines 52 = .ok (.iconst (-1), 1) := zdc_205.2.2.2.2.2.1
theorem dX7_readLines_53 : decode cX7_readLines 53 = .ok (.ireturn, 1) := zdc_205.2.2.2.2.2.2.1
theorem dX7_readLines_54 : decode cX7_readLines 54 = .ok (.iinc 2 1, 3) := zdc_205.2.2.2.2.2.2.2.1
theorem dX7_readLines_57 : decode cX7_readLines 57 = .ok (.goto (-43), 3) := zdc_205.2.2.2.2.2.2.2.2.1
theorem dX7_readLines_60 : decode cX7_readLines 60 = .ok (.aload_n 0, 1) := zdc_205.2.2.2.2.2.2.2.2.2
theorem zdc_206 : decode cX7_readLines 61 = .ok (.getfield 9, 3) ∧ decode cX7_readLines 64 = .ok (.invokevirtual 29, 3) ∧ decode cX7_readLines 67 = .ok (.pop, 1) ∧ decode cX7_readLines 68 = .ok (.iconst (-1), 1) ∧ decode cX7_readLines 69 = .ok (.ireturn, 1) ∧ decode cX8_trusting 0 = .ok (.iconst 0, 1) ∧ decode cX8_trusting 1 = .ok (.istore_n 2, 1) ∧ decode cX8_trusting 2 = .ok (.iconst 0, 1) ∧ decode cX8_trusting 3 = .ok (.istore_n 3, 1) ∧ decode cX8_trusting 4 = .ok (.iload_n 3, 1) := by decide +kernel
theorem dX7_readLines_61 : decode cX7_readLines 61 = .ok (.getfield 9, 3) := zdc_206.1
theorem dX7_readLines_64 : decode cX7_readLines 64 = .ok (.invokevirtual 29, 3) := zdc_206.2.1
theorem dX7_readLines_67 : decode cX7_readLines 67 = .ok (.pop, 1) := zdc_206.2.2.1
theorem dX7_readLines_68 : decode cX7_readLines 68 = .ok (.iconst (-1), 1) := zdc_206.2.2.2.1
theorem dX7_readLines_69 : decode cX7_readLines 69 = .ok (.ireturn, 1) := zdc_206.2.2.2.2.1
theorem dX8_trusting_0 : decode cX8_trusting 0 = .ok (.iconst 0, 1) := zdc_206.2.2.2.2.2.1
theorem dX8_trusting_1 : decode cX8_trusting 1 = .ok (.istore_n 2, 1) := zdc_206.2.2.2.2.2.2.1
theorem dX8_trusting_2 : decode cX8_trusting 2 = .ok (.iconst 0, 1) := zdc_206.2.2.2.2.2.2.2.1
theorem dX8_trusting_3 : decode cX8_trusting 3 = .ok (.istore_n 3, 1) := zdc_206.2.2.2.2.2.2.2.2.1
theorem dX8_trusting_4 : decode cX8_trusting 4 = .ok (.iload_n 3, 1) := zdc_206.2.2.2.2.2.2.2.2.2
theorem zdc_207 : decode cX8_trusting 5 = .ok (.aload_n 0, 1) ∧ decode cX8_trusting 6 = .ok (.getfield 9, 3) ∧ decode cX8_trusting 9 = .ok (.if_icmp .ge 58, 3) ∧ decode cX8_trusting 12 = .ok (.iconst 0, 1) ∧ decode cX8_trusting 13 = .ok (.istore 4, 2) ∧ decode cX8_trusting 15 = .ok (.iload 4, 2) ∧ decode cX8_trusting 17 = .ok (.aload_n 0, 1) ∧ decode cX8_trusting 18 = .ok (.getfield 9, 3) ∧ decode cX8_trusting 21 = .ok (.if_icmp .ge 40, 3) ∧ decode cX8_trusting 24 = .ok (.iload 4, 2) := by decide +kernel
theorem dX8_trusting_5 : decode cX8_trusting 5 = .ok (.aload_n 0, 1) := zdc_207.1
theorem dX8_trusting_6 : decode cX8_trusting 6 = .ok (.getfield 9, 3) := zdc_207.2.1
theorem dX8_trusting_9 : decode cX8_trusting 9 = .ok (.if_icmp .ge 58, 3) := zdc_207.2.2.1
theorem dX8_trusting_12 : decode cX8_trusting 12 = .ok (.iconst 0, 1) := zdc_207.2.2.2.1
theorem dX8_trusting_13 : decode cX8_trusting 13 = .ok (.istore 4, 2) := zdc_207.2.2.2.2.1
theorem dX8_trusting_15 : decode cX8_trusting 15 = .ok (.iload 4, 2) := zdc_207.2.2.2.2.2.1
theorem dX8_trusting_17 : decode cX8_trusting 17 = .ok (.aload_n 0, 1) := zdc_207.2.2.2.2.2.2.1
theorem dX8_trusting_18 : decode cX8_trusting 18 = .ok (.getfield 9, 3) := zdc_207.2.2.2.2.2.2.2.1
theorem dX8_trusting_21 : decode cX8_trusting 21 = .ok (.if_icmp .ge 40, 3) := zdc_207.2.2.2.2.2.2.2.2.1
theorem dX8_trusting_24 : decode cX8_trusting 24 = .ok (.iload 4, 2) := zdc_207.2.2.2.2.2.2.2.2.2
theorem zdc_208 : decode cX8_trusting 26 = .ok (.iload_n 3, 1) ∧ decode cX8_trusting 27 = .ok (.if_icmp .eq 28, 3) ∧ decode cX8_trusting 30 = .ok (.iload_n 1, 1) ∧ decode cX8_trusting 31 = .ok (.iload 4, 2) ∧ decode cX8_trusting 33 = .ok (.ishr, 1) ∧ decode cX8_trusting 34 = .ok (.iconst 1, 1) ∧ decode cX8_trusting 35 = .ok (.iand, 1) ∧ decode cX8_trusting 36 = .ok (.ifCond .eq 19, 3) ∧ decode cX8_trusting 39 = .ok (.aload_n 0, 1) ∧ decode cX8_trusting 40 = .ok (.iload_n 3, 1) := by decide +kernel
theorem dX8_trusting_26 : decode cX8_trusting 26 = .ok (.iload_n 3, 1) := zdc_208.1
theorem dX8_trusting_27 : decode cX8_trusting 27 = .ok (.if_icmp .eq 28, 3) := zdc_208.2.1
theorem dX8_trusting_30 : decode cX8_trusting 30 = .ok (.iload_n 1, 1) := zdc_208.2.2.1
theorem dX8_trusting_31 : decode cX8_trusting 31 = .ok (.iload 4, 2) := zdc_208.2.2.2.1
theorem dX8_trusting_33 : decode cX8_trusting 33 = .ok (.ishr, 1) := zdc_208.2.2.2.2.1
theorem dX8_trusting_34 : decode cX8_trusting 34 = .ok (.iconst 1, 1) := zdc_208.2.2.2.2.2.1
theorem dX8_trusting_35 : decode cX8_trusting 35 = .ok (.iand, 1) := zdc_208.2.2.2.2.2.2.1
theorem dX8_trusting_36 : decode cX8_trusting 36 = .ok (.ifCond .eq 19, 3) := zdc_208.2.2.2.2.2.2.2.1
theorem dX8_trusting_39 : decode cX8_trusting 39 = .ok (.aload_n 0, 1) := zdc_208.2.2.2.2.2.2.2.2.1
theorem dX8_trusting_40 : decode cX8_trusting 40 = .ok (.iload_n 3, 1) := zdc_208.2.2.2.2.2.2.2.2.2
theorem zdc_209 : decode cX8_trusting 41 = .ok (.iload 4, 2) ∧ decode cX8_trusting 43 = .ok (.invokevirtual 15, 3) ∧ decode cX8_trusting 46 = .ok (.ifCond .le 9, 3) ∧ decode cX8_trusting 49 = .ok (.iload_n 2, 1) ∧ decode cX8_trusting 50 = .ok (.iconst 1, 1) ∧ decode cX8_trusting 51 = .ok (.iload_n 3, 1) ∧ decode cX8_trusting 52 = .ok (.ishl, 1) ∧ decode cX8_trusting 53 = .ok (.ior, 1) ∧ decode cX8_trusting 54 = .ok (.istore_n 2, 1) ∧ decode cX8_trusting 55 = .ok (.iinc 4 1, 3) := by decide +kernel
theorem dX8_trusting_41 : decode cX8_trusting 41 = .ok (.iload 4, 2) := zdc_209.1
theorem dX8_trusting_43 : decode cX8_trusting 43 = .ok (.invokevirtual 15, 3) := zdc_209.2.1
theorem dX8_trusting_46 : decode cX8_trusting 46 = .ok (.ifCond .le 9, 3) := zdc_209.2.2.1
theorem dX8_trusting_49 : decode cX8_trusting 49 = .ok (.iload_n 2, 1) := zdc_209.2.2.2.1
theorem dX8_trusting_50 : decode cX8_trusting 50 = .ok (.iconst 1, 1) := zdc_209.2.2.2.2.1
theorem dX8_trusting_51 : decode cX8_trusting 51 = .ok (.iload_n 3, 1) := zdc_209.2.2.2.2.2.1
theorem dX8_trusting_52 : decode cX8_trusting 52 = .ok (.ishl, 1) := zdc_209.2.2.2.2.2.2.1
theorem dX8_trusting_53 : decode cX8_trusting 53 = .ok (.ior, 1) := zdc_209.2.2.2.2.2.2.2.1
theorem dX8_trusting_54 : decode cX8_trusting 54 = .ok (.istore_n 2, 1) := zdc_209.2.2.2.2.2.2.2.2.1
theorem dX8_trusting_55 : decode cX8_trusting 55 = .ok (.iinc 4 1, 3) := zdc_209.2.2.2.2.2.2.2.2.2
theorem zdc_210 : decode cX8_trusting 58 = .ok (.goto (-43), 3) ∧ decode cX8_trusting 61 = .ok (.iinc 3 1, 3) ∧ decode cX8_trusting 64 = .ok (.goto (-60), 3) ∧ decode cX8_trusting 67 = .ok (.iload_n 2, 1) ∧ decode cX8_trusting 68 = .ok (.ireturn, 1) ∧ decode cX8_wordOf 0 = .ok (.iconst 0, 1) ∧ decode cX8_wordOf 1 = .ok (.istore_n 2, 1) ∧ decode cX8_wordOf 2 = .ok (.iconst 0, 1) ∧ decode cX8_wordOf 3 = .ok (.istore_n 3, 1) ∧ decode cX8_wordOf 4 = .ok (.iload_n 3, 1) := by decide +kernel
theorem dX8_trusting_58 : decode cX8_trusting 58 = .ok (.goto (-43), 3) := zdc_210.1
theorem dX8_trusting_61 : decode cX8_trusting 61 = .ok (.iinc 3 1, 3) := zdc_210.2.1
theorem dX8_trusting_64 : decode cX8_trusting 64 = .ok (.goto (-60), 3) := zdc_210.2.2.1
theorem dX8_trusting_67 : decode cX8_trusting 67 = .ok (.iload_n 2, 1) := zdc_210.2.2.2.1
theorem dX8_trusting_68 : decode cX8_trusting 68 = .ok (.ireturn, 1) := zdc_210.2.2.2.2.1
theorem dX8_wordOf_0 : decode cX8_wordOf 0 = .ok (.iconst 0, 1) := zdc_210.2.2.2.2.2.1
theorem dX8_wordOf_1 : decode cX8_wordOf 1 = .ok (.istore_n 2, 1) := zdc_210.2.2.2.2.2.2.1
theorem dX8_wordOf_2 : decode cX8_wordOf 2 = .ok (.iconst 0, 1) := zdc_210.2.2.2.2.2.2.2.1
theorem dX8_wordOf_3 : decode cX8_wordOf 3 = .ok (.istore_n 3, 1) := zdc_210.2.2.2.2.2.2.2.2.1
theorem dX8_wordOf_4 : decode cX8_wordOf 4 = .ok (.iload_n 3, 1) := zdc_210.2.2.2.2.2.2.2.2.2
theorem zdc_211 : decode cX8_wordOf 5 = .ok (.aload_n 0, 1) ∧ decode cX8_wordOf 6 = .ok (.getfield 9, 3) ∧ decode cX8_wordOf 9 = .ok (.if_icmp .ge 21, 3) ∧ decode cX8_wordOf 12 = .ok (.iload_n 2, 1) ∧ decode cX8_wordOf 13 = .ok (.aload_n 0, 1) ∧ decode cX8_wordOf 14 = .ok (.iload_n 2, 1) ∧ decode cX8_wordOf 15 = .ok (.iconst 1, 1) ∧ decode cX8_wordOf 16 = .ok (.iload_n 1, 1) ∧ decode cX8_wordOf 17 = .ok (.ishl, 1) ∧ decode cX8_wordOf 18 = .ok (.ior, 1) := by decide +kernel
theorem dX8_wordOf_5 : decode cX8_wordOf 5 = .ok (.aload_n 0, 1) := zdc_211.1
theorem dX8_wordOf_6 : decode cX8_wordOf 6 = .ok (.getfield 9, 3) := zdc_211.2.1
theorem dX8_wordOf_9 : decode cX8_wordOf 9 = .ok (.if_icmp .ge 21, 3) := zdc_211.2.2.1
theorem dX8_wordOf_12 : decode cX8_wordOf 12 = .ok (.iload_n 2, 1) := zdc_211.2.2.2.1
theorem dX8_wordOf_13 : decode cX8_wordOf 13 = .ok (.aload_n 0, 1) := zdc_211.2.2.2.2.1
theorem dX8_wordOf_14 : decode cX8_wordOf 14 = .ok (.iload_n 2, 1) := zdc_211.2.2.2.2.2.1
theorem dX8_wordOf_15 : decode cX8_wordOf 15 = .ok (.iconst 1, 1) := zdc_211.2.2.2.2.2.2.1
theorem dX8_wordOf_16 : decode cX8_wordOf 16 = .ok (.iload_n 1, 1) := zdc_211.2.2.2.2.2.2.2.1
theorem dX8_wordOf_17 : decode cX8_wordOf 17 = .ok (.ishl, 1) := zdc_211.2.2.2.2.2.2.2.2.1
theorem dX8_wordOf_18 : decode cX8_wordOf 18 = .ok (.ior, 1) := zdc_211.2.2.2.2.2.2.2.2.2
theorem zdc_212 : decode cX8_wordOf 19 = .ok (.invokestatic 19, 3) ∧ decode cX8_wordOf 22 = .ok (.ior, 1) ∧ decode cX8_wordOf 23 = .ok (.istore_n 2, 1) ∧ decode cX8_wordOf 24 = .ok (.iinc 3 1, 3) ∧ decode cX8_wordOf 27 = .ok (.goto (-23), 3) ∧ decode cX8_wordOf 30 = .ok (.iload_n 2, 1) ∧ decode cX8_wordOf 31 = .ok (.iconst 1, 1) ∧ decode cX8_wordOf 32 = .ok (.iload_n 1, 1) ∧ decode cX8_wordOf 33 = .ok (.ishl, 1) ∧ decode cX8_wordOf 34 = .ok (.iconst (-1), 1) := by decide +kernel
theorem dX8_wordOf_19 : decode cX8_wordOf 19 = .ok (.invokestatic 19, 3) := zdc_212.1
theorem dX8_wordOf_22 : decode cX8_wordOf 22 = .ok (.ior, 1) := zdc_212.2.1
theorem dX8_wordOf_23 : decode cX8_wordOf 23 = .ok (.istore_n 2, 1) := zdc_212.2.2.1
theorem dX8_wordOf_24 : decode cX8_wordOf 24 = .ok (.iinc 3 1, 3) := zdc_212.2.2.2.1
theorem dX8_wordOf_27 : decode cX8_wordOf 27 = .ok (.goto (-23), 3) := zdc_212.2.2.2.2.1
theorem dX8_wordOf_30 : decode cX8_wordOf 30 = .ok (.iload_n 2, 1) := zdc_212.2.2.2.2.2.1
theorem dX8_wordOf_31 : decode cX8_wordOf 31 = .ok (.iconst 1, 1) := zdc_212.2.2.2.2.2.2.1
theorem dX8_wordOf_32 : decode cX8_wordOf 32 = .ok (.iload_n 1, 1) := zdc_212.2.2.2.2.2.2.2.1
theorem dX8_wordOf_33 : decode cX8_wordOf 33 = .ok (.ishl, 1) := zdc_212.2.2.2.2.2.2.2.2.1
theorem dX8_wordOf_34 : decode cX8_wordOf 34 = .ok (.iconst (-1), 1) := zdc_212.2.2.2.2.2.2.2.2.2
theorem zdc_213 : decode cX8_wordOf 35 = .ok (.ixor, 1) ∧ decode cX8_wordOf 36 = .ok (.iand, 1) ∧ decode cX8_wordOf 37 = .ok (.ireturn, 1) ∧ decode cX8_fewestSteps 0 = .ok (.iconst 1, 1) ∧ decode cX8_fewestSteps 1 = .ok (.iload_n 1, 1) ∧ decode cX8_fewestSteps 2 = .ok (.ishl, 1) ∧ decode cX8_fewestSteps 3 = .ok (.istore_n 3, 1) ∧ decode cX8_fewestSteps 4 = .ok (.iconst 1, 1) ∧ decode cX8_fewestSteps 5 = .ok (.istore 4, 2) ∧ decode cX8_fewestSteps 7 = .ok (.iload 4, 2) := by decide +kernel
theorem dX8_wordOf_35 : decode cX8_wordOf 35 = .ok (.ixor, 1) := zdc_213.1
theorem dX8_wordOf_36 : decode cX8_wordOf 36 = .ok (.iand, 1) := zdc_213.2.1
theorem dX8_wordOf_37 : decode cX8_wordOf 37 = .ok (.ireturn, 1) := zdc_213.2.2.1
theorem dX8_fewestSteps_0 : decode cX8_fewestSteps 0 = .ok (.iconst 1, 1) := zdc_213.2.2.2.1
theorem dX8_fewestSteps_1 : decode cX8_fewestSteps 1 = .ok (.iload_n 1, 1) := zdc_213.2.2.2.2.1
theorem dX8_fewestSteps_2 : decode cX8_fewestSteps 2 = .ok (.ishl, 1) := zdc_213.2.2.2.2.2.1
theorem dX8_fewestSteps_3 : decode cX8_fewestSteps 3 = .ok (.istore_n 3, 1) := zdc_213.2.2.2.2.2.2.1
theorem dX8_fewestSteps_4 : decode cX8_fewestSteps 4 = .ok (.iconst 1, 1) := zdc_213.2.2.2.2.2.2.2.1
theorem dX8_fewestSteps_5 : decode cX8_fewestSteps 5 = .ok (.istore 4, 2) := zdc_213.2.2.2.2.2.2.2.2.1
theorem dX8_fewestSteps_7 : decode cX8_fewestSteps 7 = .ok (.iload 4, 2) := zdc_213.2.2.2.2.2.2.2.2.2
theorem zdc_214 : decode cX8_fewestSteps 9 = .ok (.aload_n 0, 1) ∧ decode cX8_fewestSteps 10 = .ok (.getfield 9, 3) ∧ decode cX8_fewestSteps 13 = .ok (.if_icmp .ge 28, 3) ∧ decode cX8_fewestSteps 16 = .ok (.iload_n 3, 1) ∧ decode cX8_fewestSteps 17 = .ok (.aload_n 0, 1) ∧ decode cX8_fewestSteps 18 = .ok (.iload_n 3, 1) ∧ decode cX8_fewestSteps 19 = .ok (.invokestatic 19, 3) ∧ decode cX8_fewestSteps 22 = .ok (.ior, 1) ∧ decode cX8_fewestSteps 23 = .ok (.istore_n 3, 1) ∧ decode cX8_fewestSteps 24 = .ok (.iload_n 3, 1) := by decide +kernel
theorem dX8_fewestSteps_9 : decode cX8_fewestSteps 9 = .ok (.aload_n 0, 1) := zdc_214.1
theorem dX8_fewestSteps_10 : decode cX8_fewestSteps 10 = .ok (.getfield 9, 3) := zdc_214.2.1
theorem dX8_fewestSteps_13 : decode cX8_fewestSteps 13 = .ok (.if_icmp .ge 28, 3) := zdc_214.2.2.1
theorem dX8_fewestSteps_16 : decode cX8_fewestSteps 16 = .ok (.iload_n 3, 1) := zdc_214.2.2.2.1
theorem dX8_fewestSteps_17 : decode cX8_fewestSteps 17 = .ok (.aload_n 0, 1) := zdc_214.2.2.2.2.1
theorem dX8_fewestSteps_18 : decode cX8_fewestSteps 18 = .ok (.iload_n 3, 1) := zdc_214.2.2.2.2.2.1
theorem dX8_fewestSteps_19 : decode cX8_fewestSteps 19 = .ok (.invokestatic 19, 3) := zdc_214.2.2.2.2.2.2.1
theorem dX8_fewestSteps_22 : decode cX8_fewestSteps 22 = .ok (.ior, 1) := zdc_214.2.2.2.2.2.2.2.1
theorem dX8_fewestSteps_23 : decode cX8_fewestSteps 23 = .ok (.istore_n 3, 1) := zdc_214.2.2.2.2.2.2.2.2.1
theorem dX8_fewestSteps_24 : decode cX8_fewestSteps 24 = .ok (.iload_n 3, 1) := zdc_214.2.2.2.2.2.2.2.2.2
theorem zdc_215 : decode cX8_fewestSteps 25 = .ok (.iload_n 2, 1) ∧ decode cX8_fewestSteps 26 = .ok (.ishr, 1) ∧ decode cX8_fewestSteps 27 = .ok (.iconst 1, 1) ∧ decode cX8_fewestSteps 28 = .ok (.iand, 1) ∧ decode cX8_fewestSteps 29 = .ok (.ifCond .eq 6, 3) ∧ decode cX8_fewestSteps 32 = .ok (.iload 4, 2) ∧ decode cX8_fewestSteps 34 = .ok (.ireturn, 1) ∧ decode cX8_fewestSteps 35 = .ok (.iinc 4 1, 3) ∧ decode cX8_fewestSteps 38 = .ok (.goto (-31), 3) ∧ decode cX8_fewestSteps 41 = .ok (.iconst (-1), 1) := by decide +kernel
theorem dX8_fewestSteps_25 : decode cX8_fewestSteps 25 = .ok (.iload_n 2, 1) := zdc_215.1
theorem dX8_fewestSteps_26 : decode cX8_fewestSteps 26 = .ok (.ishr, 1) := zdc_215.2.1
theorem dX8_fewestSteps_27 : decode cX8_fewestSteps 27 = .ok (.iconst 1, 1) := zdc_215.2.2.1
theorem dX8_fewestSteps_28 : decode cX8_fewestSteps 28 = .ok (.iand, 1) := zdc_215.2.2.2.1
theorem dX8_fewestSteps_29 : decode cX8_fewestSteps 29 = .ok (.ifCond .eq 6, 3) := zdc_215.2.2.2.2.1
theorem dX8_fewestSteps_32 : decode cX8_fewestSteps 32 = .ok (.iload 4, 2) := zdc_215.2.2.2.2.2.1
theorem dX8_fewestSteps_34 : decode cX8_fewestSteps 34 = .ok (.ireturn, 1) := zdc_215.2.2.2.2.2.2.1
theorem dX8_fewestSteps_35 : decode cX8_fewestSteps 35 = .ok (.iinc 4 1, 3) := zdc_215.2.2.2.2.2.2.2.1
theorem dX8_fewestSteps_38 : decode cX8_fewestSteps 38 = .ok (.goto (-31), 3) := zdc_215.2.2.2.2.2.2.2.2.1
theorem dX8_fewestSteps_41 : decode cX8_fewestSteps 41 = .ok (.iconst (-1), 1) := zdc_215.2.2.2.2.2.2.2.2.2
theorem zdc_216 : decode cX8_fewestSteps 42 = .ok (.ireturn, 1) ∧ decode cX8_countCircles 0 = .ok (.iconst 0, 1) ∧ decode cX8_countCircles 1 = .ok (.istore_n 1, 1) ∧ decode cX8_countCircles 2 = .ok (.iconst 0, 1) ∧ decode cX8_countCircles 3 = .ok (.istore_n 2, 1) ∧ decode cX8_countCircles 4 = .ok (.iconst 0, 1) ∧ decode cX8_countCircles 5 = .ok (.istore_n 3, 1) ∧ decode cX8_countCircles 6 = .ok (.iload_n 3, 1) ∧ decode cX8_countCircles 7 = .ok (.aload_n 0, 1) ∧ decode cX8_countCircles 8 = .ok (.getfield 9, 3) := by decide +kernel
theorem dX8_fewestSteps_42 : decode cX8_fewestSteps 42 = .ok (.ireturn, 1) := zdc_216.1
theorem dX8_countCircles_0 : decode cX8_countCircles 0 = .ok (.iconst 0, 1) := zdc_216.2.1
theorem dX8_countCircles_1 : decode cX8_countCircles 1 = .ok (.istore_n 1, 1) := zdc_216.2.2.1
theorem dX8_countCircles_2 : decode cX8_countCircles 2 = .ok (.iconst 0, 1) := zdc_216.2.2.2.1
theorem dX8_countCircles_3 : decode cX8_countCircles 3 = .ok (.istore_n 2, 1) := zdc_216.2.2.2.2.1
theorem dX8_countCircles_4 : decode cX8_countCircles 4 = .ok (.iconst 0, 1) := zdc_216.2.2.2.2.2.1
theorem dX8_countCircles_5 : decode cX8_countCircles 5 = .ok (.istore_n 3, 1) := zdc_216.2.2.2.2.2.2.1
theorem dX8_countCircles_6 : decode cX8_countCircles 6 = .ok (.iload_n 3, 1) := zdc_216.2.2.2.2.2.2.2.1
theorem dX8_countCircles_7 : decode cX8_countCircles 7 = .ok (.aload_n 0, 1) := zdc_216.2.2.2.2.2.2.2.2.1
theorem dX8_countCircles_8 : decode cX8_countCircles 8 = .ok (.getfield 9, 3) := zdc_216.2.2.2.2.2.2.2.2.2
theorem zdc_217 : decode cX8_countCircles 11 = .ok (.if_icmp .ge 37, 3) ∧ decode cX8_countCircles 14 = .ok (.aload_n 0, 1) ∧ decode cX8_countCircles 15 = .ok (.iload_n 3, 1) ∧ decode cX8_countCircles 16 = .ok (.invokestatic 25, 3) ∧ decode cX8_countCircles 19 = .ok (.istore 4, 2) ∧ decode cX8_countCircles 21 = .ok (.iload 4, 2) ∧ decode cX8_countCircles 23 = .ok (.ifCond .eq 14, 3) ∧ decode cX8_countCircles 26 = .ok (.iload_n 2, 1) ∧ decode cX8_countCircles 27 = .ok (.iload_n 3, 1) ∧ decode cX8_countCircles 28 = .ok (.ishr, 1) := by decide +kernel
theorem dX8_countCircles_11 : decode cX8_countCircles 11 = .ok (.if_icmp .ge 37, 3) := zdc_217.1
theorem dX8_countCircles_14 : decode cX8_countCircles 14 = .ok (.aload_n 0, 1) := zdc_217.2.1
theorem dX8_countCircles_15 : decode cX8_countCircles 15 = .ok (.iload_n 3, 1) := zdc_217.2.2.1
theorem dX8_countCircles_16 : decode cX8_countCircles 16 = .ok (.invokestatic 25, 3) := zdc_217.2.2.2.1
theorem dX8_countCircles_19 : decode cX8_countCircles 19 = .ok (.istore 4, 2) := zdc_217.2.2.2.2.1
theorem dX8_countCircles_21 : decode cX8_countCircles 21 = .ok (.iload 4, 2) := zdc_217.2.2.2.2.2.1
theorem dX8_countCircles_23 : decode cX8_countCircles 23 = .ok (.ifCond .eq 14, 3) := zdc_217.2.2.2.2.2.2.1
theorem dX8_countCircles_26 : decode cX8_countCircles 26 = .ok (.iload_n 2, 1) := zdc_217.2.2.2.2.2.2.2.1
theorem dX8_countCircles_27 : decode cX8_countCircles 27 = .ok (.iload_n 3, 1) := zdc_217.2.2.2.2.2.2.2.2.1
theorem dX8_countCircles_28 : decode cX8_countCircles 28 = .ok (.ishr, 1) := zdc_217.2.2.2.2.2.2.2.2.2
theorem zdc_218 : decode cX8_countCircles 29 = .ok (.iconst 1, 1) ∧ decode cX8_countCircles 30 = .ok (.iand, 1) ∧ decode cX8_countCircles 31 = .ok (.ifCond .ne 6, 3) ∧ decode cX8_countCircles 34 = .ok (.iinc 1 1, 3) ∧ decode cX8_countCircles 37 = .ok (.iload_n 2, 1) ∧ decode cX8_countCircles 38 = .ok (.iload 4, 2) ∧ decode cX8_countCircles 40 = .ok (.ior, 1) ∧ decode cX8_countCircles 41 = .ok (.istore_n 2, 1) ∧ decode cX8_countCircles 42 = .ok (.iinc 3 1, 3) ∧ decode cX8_countCircles 45 = .ok (.goto (-39), 3) := by decide +kernel
theorem dX8_countCircles_29 : decode cX8_countCircles 29 = .ok (.iconst 1, 1) := zdc_218.1
theorem dX8_countCircles_30 : decode cX8_countCircles 30 = .ok (.iand, 1) := zdc_218.2.1
theorem dX8_countCircles_31 : decode cX8_countCircles 31 = .ok (.ifCond .ne 6, 3) := zdc_218.2.2.1
theorem dX8_countCircles_34 : decode cX8_countCircles 34 = .ok (.iinc 1 1, 3) := zdc_218.2.2.2.1
theorem dX8_countCircles_37 : decode cX8_countCircles 37 = .ok (.iload_n 2, 1) := zdc_218.2.2.2.2.1
theorem dX8_countCircles_38 : decode cX8_countCircles 38 = .ok (.iload 4, 2) := zdc_218.2.2.2.2.2.1
theorem dX8_countCircles_40 : decode cX8_countCircles 40 = .ok (.ior, 1) := zdc_218.2.2.2.2.2.2.1
theorem dX8_countCircles_41 : decode cX8_countCircles 41 = .ok (.istore_n 2, 1) := zdc_218.2.2.2.2.2.2.2.1
theorem dX8_countCircles_42 : decode cX8_countCircles 42 = .ok (.iinc 3 1, 3) := zdc_218.2.2.2.2.2.2.2.2.1
theorem dX8_countCircles_45 : decode cX8_countCircles 45 = .ok (.goto (-39), 3) := zdc_218.2.2.2.2.2.2.2.2.2
theorem zdc_219 : decode cX8_countCircles 48 = .ok (.iload_n 1, 1) ∧ decode cX8_countCircles 49 = .ok (.ireturn, 1) ∧ decode cX8_circleOf 0 = .ok (.aload_n 0, 1) ∧ decode cX8_circleOf 1 = .ok (.iload_n 1, 1) ∧ decode cX8_circleOf 2 = .ok (.invokestatic 28, 3) ∧ decode cX8_circleOf 5 = .ok (.istore_n 2, 1) ∧ decode cX8_circleOf 6 = .ok (.iconst 0, 1) ∧ decode cX8_circleOf 7 = .ok (.istore_n 3, 1) ∧ decode cX8_circleOf 8 = .ok (.iconst 0, 1) ∧ decode cX8_circleOf 9 = .ok (.istore 4, 2) := by decide +kernel
theorem dX8_countCircles_48 : decode cX8_countCircles 48 = .ok (.iload_n 1, 1) := zdc_219.1
theorem dX8_countCircles_49 : decode cX8_countCircles 49 = .ok (.ireturn, 1) := zdc_219.2.1
theorem dX8_circleOf_0 : decode cX8_circleOf 0 = .ok (.aload_n 0, 1) := zdc_219.2.2.1
theorem dX8_circleOf_1 : decode cX8_circleOf 1 = .ok (.iload_n 1, 1) := zdc_219.2.2.2.1
theorem dX8_circleOf_2 : decode cX8_circleOf 2 = .ok (.invokestatic 28, 3) := zdc_219.2.2.2.2.1
theorem dX8_circleOf_5 : decode cX8_circleOf 5 = .ok (.istore_n 2, 1) := zdc_219.2.2.2.2.2.1
theorem dX8_circleOf_6 : decode cX8_circleOf 6 = .ok (.iconst 0, 1) := zdc_219.2.2.2.2.2.2.1
theorem dX8_circleOf_7 : decode cX8_circleOf 7 = .ok (.istore_n 3, 1) := zdc_219.2.2.2.2.2.2.2.1
theorem dX8_circleOf_8 : decode cX8_circleOf 8 = .ok (.iconst 0, 1) := zdc_219.2.2.2.2.2.2.2.2.1
theorem dX8_circleOf_9 : decode cX8_circleOf 9 = .ok (.istore 4, 2) := zdc_219.2.2.2.2.2.2.2.2.2
theorem zdc_220 : decode cX8_circleOf 11 = .ok (.iload 4, 2) ∧ decode cX8_circleOf 13 = .ok (.aload_n 0, 1) ∧ decode cX8_circleOf 14 = .ok (.getfield 9, 3) ∧ decode cX8_circleOf 17 = .ok (.if_icmp .ge 38, 3) ∧ decode cX8_circleOf 20 = .ok (.iload_n 2, 1) ∧ decode cX8_circleOf 21 = .ok (.iload 4, 2) ∧ decode cX8_circleOf 23 = .ok (.ishr, 1) ∧ decode cX8_circleOf 24 = .ok (.iconst 1, 1) ∧ decode cX8_circleOf 25 = .ok (.iand, 1) ∧ decode cX8_circleOf 26 = .ok (.ifCond .eq 23, 3) := by decide +kernel
theorem dX8_circleOf_11 : decode cX8_circleOf 11 = .ok (.iload 4, 2) := zdc_220.1
theorem dX8_circleOf_13 : decode cX8_circleOf 13 = .ok (.aload_n 0, 1) := zdc_220.2.1
theorem dX8_circleOf_14 : decode cX8_circleOf 14 = .ok (.getfield 9, 3) := zdc_220.2.2.1
theorem dX8_circleOf_17 : decode cX8_circleOf 17 = .ok (.if_icmp .ge 38, 3) := zdc_220.2.2.2.1
theorem dX8_circleOf_20 : decode cX8_circleOf 20 = .ok (.iload_n 2, 1) := zdc_220.2.2.2.2.1
theorem dX8_circleOf_21 : decode cX8_circleOf 21 = .ok (.iload 4, 2) := zdc_220.2.2.2.2.2.1
theorem dX8_circleOf_23 : decode cX8_circleOf 23 = .ok (.ishr, 1) := zdc_220.2.2.2.2.2.2.1
theorem dX8_circleOf_24 : decode cX8_circleOf 24 = .ok (.iconst 1, 1) := zdc_220.2.2.2.2.2.2.2.1
theorem dX8_circleOf_25 : decode cX8_circleOf 25 = .ok (.iand, 1) := zdc_220.2.2.2.2.2.2.2.2.1
theorem dX8_circleOf_26 : decode cX8_circleOf 26 = .ok (.ifCond .eq 23, 3) := zdc_220.2.2.2.2.2.2.2.2.2
theorem zdc_221 : decode cX8_circleOf 29 = .ok (.aload_n 0, 1) ∧ decode cX8_circleOf 30 = .ok (.iload 4, 2) ∧ decode cX8_circleOf 32 = .ok (.invokestatic 28, 3) ∧ decode cX8_circleOf 35 = .ok (.iload_n 1, 1) ∧ decode cX8_circleOf 36 = .ok (.ishr, 1) ∧ decode cX8_circleOf 37 = .ok (.iconst 1, 1) ∧ decode cX8_circleOf 38 = .ok (.iand, 1) ∧ decode cX8_circleOf 39 = .ok (.ifCond .eq 10, 3) ∧ decode cX8_circleOf 42 = .ok (.iload_n 3, 1) ∧ decode cX8_circleOf 43 = .ok (.iconst 1, 1) := by decide +kernel
theorem dX8_circleOf_29 : decode cX8_circleOf 29 = .ok (.aload_n 0, 1) := zdc_221.1
theorem dX8_circleOf_30 : decode cX8_circleOf 30 = .ok (.iload 4, 2) := zdc_221.2.1
theorem dX8_circleOf_32 : decode cX8_circleOf 32 = .ok (.invokestatic 28, 3) := zdc_221.2.2.1
theorem dX8_circleOf_35 : decode cX8_circleOf 35 = .ok (.iload_n 1, 1) := zdc_221.2.2.2.1
theorem dX8_circleOf_36 : decode cX8_circleOf 36 = .ok (.ishr, 1) := zdc_221.2.2.2.2.1
theorem dX8_circleOf_37 : decode cX8_circleOf 37 = .ok (.iconst 1, 1) := zdc_221.2.2.2.2.2.1
theorem dX8_circleOf_38 : decode cX8_circleOf 38 = .ok (.iand, 1) := zdc_221.2.2.2.2.2.2.1
theorem dX8_circleOf_39 : decode cX8_circleOf 39 = .ok (.ifCond .eq 10, 3) := zdc_221.2.2.2.2.2.2.2.1
theorem dX8_circleOf_42 : decode cX8_circleOf 42 = .ok (.iload_n 3, 1) := zdc_221.2.2.2.2.2.2.2.2.1
theorem dX8_circleOf_43 : decode cX8_circleOf 43 = .ok (.iconst 1, 1) := zdc_221.2.2.2.2.2.2.2.2.2
theorem zdc_222 : decode cX8_circleOf 44 = .ok (.iload 4, 2) ∧ decode cX8_circleOf 46 = .ok (.ishl, 1) ∧ decode cX8_circleOf 47 = .ok (.ior, 1) ∧ decode cX8_circleOf 48 = .ok (.istore_n 3, 1) ∧ decode cX8_circleOf 49 = .ok (.iinc 4 1, 3) ∧ decode cX8_circleOf 52 = .ok (.goto (-41), 3) ∧ decode cX8_circleOf 55 = .ok (.iload_n 3, 1) ∧ decode cX8_circleOf 56 = .ok (.ireturn, 1) ∧ decode cX8_untied 0 = .ok (.iconst 0, 1) ∧ decode cX8_untied 1 = .ok (.istore_n 1, 1) := by decide +kernel
theorem dX8_circleOf_44 : decode cX8_circleOf 44 = .ok (.iload 4, 2) := zdc_222.1
theorem dX8_circleOf_46 : decode cX8_circleOf 46 = .ok (.ishl, 1) := zdc_222.2.1
theorem dX8_circleOf_47 : decode cX8_circleOf 47 = .ok (.ior, 1) := zdc_222.2.2.1
theorem dX8_circleOf_48 : decode cX8_circleOf 48 = .ok (.istore_n 3, 1) := zdc_222.2.2.2.1
theorem dX8_circleOf_49 : decode cX8_circleOf 49 = .ok (.iinc 4 1, 3) := zdc_222.2.2.2.2.1
theorem dX8_circleOf_52 : decode cX8_circleOf 52 = .ok (.goto (-41), 3) := zdc_222.2.2.2.2.2.1
theorem dX8_circleOf_55 : decode cX8_circleOf 55 = .ok (.iload_n 3, 1) := zdc_222.2.2.2.2.2.2.1
theorem dX8_circleOf_56 : decode cX8_circleOf 56 = .ok (.ireturn, 1) := zdc_222.2.2.2.2.2.2.2.1
theorem dX8_untied_0 : decode cX8_untied 0 = .ok (.iconst 0, 1) := zdc_222.2.2.2.2.2.2.2.2.1
theorem dX8_untied_1 : decode cX8_untied 1 = .ok (.istore_n 1, 1) := zdc_222.2.2.2.2.2.2.2.2.2
theorem zdc_223 : decode cX8_untied 2 = .ok (.iconst 0, 1) ∧ decode cX8_untied 3 = .ok (.istore_n 2, 1) ∧ decode cX8_untied 4 = .ok (.iload_n 2, 1) ∧ decode cX8_untied 5 = .ok (.aload_n 0, 1) ∧ decode cX8_untied 6 = .ok (.getfield 9, 3) ∧ decode cX8_untied 9 = .ok (.if_icmp .ge 33, 3) ∧ decode cX8_untied 12 = .ok (.aload_n 0, 1) ∧ decode cX8_untied 13 = .ok (.iload_n 2, 1) ∧ decode cX8_untied 14 = .ok (.invokevirtual 31, 3) ∧ decode cX8_untied 17 = .ok (.ifCond .ne 19, 3) := by decide +kernel
theorem dX8_untied_2 : decode cX8_untied 2 = .ok (.iconst 0, 1) := zdc_223.1
theorem dX8_untied_3 : decode cX8_untied 3 = .ok (.istore_n 2, 1) := zdc_223.2.1
theorem dX8_untied_4 : decode cX8_untied 4 = .ok (.iload_n 2, 1) := zdc_223.2.2.1
theorem dX8_untied_5 : decode cX8_untied 5 = .ok (.aload_n 0, 1) := zdc_223.2.2.2.1
theorem dX8_untied_6 : decode cX8_untied 6 = .ok (.getfield 9, 3) := zdc_223.2.2.2.2.1
theorem dX8_untied_9 : decode cX8_untied 9 = .ok (.if_icmp .ge 33, 3) := zdc_223.2.2.2.2.2.1
theorem dX8_untied_12 : decode cX8_untied 12 = .ok (.aload_n 0, 1) := zdc_223.2.2.2.2.2.2.1
theorem dX8_untied_13 : decode cX8_untied 13 = .ok (.iload_n 2, 1) := zdc_223.2.2.2.2.2.2.2.1
theorem dX8_untied_14 : decode cX8_untied 14 = .ok (.invokevirtual 31, 3) := zdc_223.2.2.2.2.2.2.2.2.1
theorem dX8_untied_17 : decode cX8_untied 17 = .ok (.ifCond .ne 19, 3) := zdc_223.2.2.2.2.2.2.2.2.2
theorem zdc_224 : decode cX8_untied 20 = .ok (.aload_n 0, 1) ∧ decode cX8_untied 21 = .ok (.iconst 1, 1) ∧ decode cX8_untied 22 = .ok (.iload_n 2, 1) ∧ decode cX8_untied 23 = .ok (.ishl, 1) ∧ decode cX8_untied 24 = .ok (.invokestatic 19, 3) ∧ decode cX8_untied 27 = .ok (.ifCond .ne 9, 3) ∧ decode cX8_untied 30 = .ok (.iload_n 1, 1) ∧ decode cX8_untied 31 = .ok (.iconst 1, 1) ∧ decode cX8_untied 32 = .ok (.iload_n 2, 1) ∧ decode cX8_untied 33 = .ok (.ishl, 1) := by decide +kernel
theorem dX8_untied_20 : decode cX8_untied 20 = .ok (.aload_n 0, 1) := zdc_224.1
theorem dX8_untied_21 : decode cX8_untied 21 = .ok (.iconst 1, 1) := zdc_224.2.1
theorem dX8_untied_22 : decode cX8_untied 22 = .ok (.iload_n 2, 1) := zdc_224.2.2.1
theorem dX8_untied_23 : decode cX8_untied 23 = .ok (.ishl, 1) := zdc_224.2.2.2.1
theorem dX8_untied_24 : decode cX8_untied 24 = .ok (.invokestatic 19, 3) := zdc_224.2.2.2.2.1
theorem dX8_untied_27 : decode cX8_untied 27 = .ok (.ifCond .ne 9, 3) := zdc_224.2.2.2.2.2.1
theorem dX8_untied_30 : decode cX8_untied 30 = .ok (.iload_n 1, 1) := zdc_224.2.2.2.2.2.2.1
theorem dX8_untied_31 : decode cX8_untied 31 = .ok (.iconst 1, 1) := zdc_224.2.2.2.2.2.2.2.1
theorem dX8_untied_32 : decode cX8_untied 32 = .ok (.iload_n 2, 1) := zdc_224.2.2.2.2.2.2.2.2.1
theorem dX8_untied_33 : decode cX8_untied 33 = .ok (.ishl, 1) := zdc_224.2.2.2.2.2.2.2.2.2
theorem zdc_225 : decode cX8_untied 34 = .ok (.ior, 1) ∧ decode cX8_untied 35 = .ok (.istore_n 1, 1) ∧ decode cX8_untied 36 = .ok (.iinc 2 1, 3) ∧ decode cX8_untied 39 = .ok (.goto (-35), 3) ∧ decode cX8_untied 42 = .ok (.iload_n 1, 1) ∧ decode cX8_untied 43 = .ok (.ireturn, 1) ∧ decode cX9_init 0 = .ok (.aload_n 0, 1) ∧ decode cX9_init 1 = .ok (.invokespecial 3, 3) ∧ decode cX9_init 4 = .ok (.aload_n 0, 1) ∧ decode cX9_init 5 = .ok (.bipush 20, 2) := by decide +kernel
theorem dX8_untied_34 : decode cX8_untied 34 = .ok (.ior, 1) := zdc_225.1
theorem dX8_untied_35 : decode cX8_untied 35 = .ok (.istore_n 1, 1) := zdc_225.2.1
theorem dX8_untied_36 : decode cX8_untied 36 = .ok (.iinc 2 1, 3) := zdc_225.2.2.1
theorem dX8_untied_39 : decode cX8_untied 39 = .ok (.goto (-35), 3) := zdc_225.2.2.2.1
theorem dX8_untied_42 : decode cX8_untied 42 = .ok (.iload_n 1, 1) := zdc_225.2.2.2.2.1
theorem dX8_untied_43 : decode cX8_untied 43 = .ok (.ireturn, 1) := zdc_225.2.2.2.2.2.1
theorem dX9_init_0 : decode cX9_init 0 = .ok (.aload_n 0, 1) := zdc_225.2.2.2.2.2.2.1
theorem dX9_init_1 : decode cX9_init 1 = .ok (.invokespecial 3, 3) := zdc_225.2.2.2.2.2.2.2.1
theorem dX9_init_4 : decode cX9_init 4 = .ok (.aload_n 0, 1) := zdc_225.2.2.2.2.2.2.2.2.1
theorem dX9_init_5 : decode cX9_init 5 = .ok (.bipush 20, 2) := zdc_225.2.2.2.2.2.2.2.2.2
theorem zdc_226 : decode cX9_init 7 = .ok (.putfield 9, 3) ∧ decode cX9_init 10 = .ok (.aload_n 0, 1) ∧ decode cX9_init 11 = .ok (.bipush 6, 2) ∧ decode cX9_init 13 = .ok (.putfield 15, 3) ∧ decode cX9_init 16 = .ok (.aload_n 0, 1) ∧ decode cX9_init 17 = .ok (.bipush 50, 2) ∧ decode cX9_init 19 = .ok (.putfield 18, 3) ∧ decode cX9_init 22 = .ok (.aload_n 0, 1) ∧ decode cX9_init 23 = .ok (.iconst 1, 1) ∧ decode cX9_init 24 = .ok (.putfield 21, 3) := by decide +kernel
theorem dX9_init_7 : decode cX9_init 7 = .ok (.putfield 9, 3) := zdc_226.1
theorem dX9_init_10 : decode cX9_init 10 = .ok (.aload_n 0, 1) := zdc_226.2.1
theorem dX9_init_11 : decode cX9_init 11 = .ok (.bipush 6, 2) := zdc_226.2.2.1
theorem dX9_init_13 : decode cX9_init 13 = .ok (.putfield 15, 3) := zdc_226.2.2.2.1
theorem dX9_init_16 : decode cX9_init 16 = .ok (.aload_n 0, 1) := zdc_226.2.2.2.2.1
theorem dX9_init_17 : decode cX9_init 17 = .ok (.bipush 50, 2) := zdc_226.2.2.2.2.2.1
theorem dX9_init_19 : decode cX9_init 19 = .ok (.putfield 18, 3) := zdc_226.2.2.2.2.2.2.1
theorem dX9_init_22 : decode cX9_init 22 = .ok (.aload_n 0, 1) := zdc_226.2.2.2.2.2.2.2.1
theorem dX9_init_23 : decode cX9_init 23 = .ok (.iconst 1, 1) := zdc_226.2.2.2.2.2.2.2.2.1
theorem dX9_init_24 : decode cX9_init 24 = .ok (.putfield 21, 3) := zdc_226.2.2.2.2.2.2.2.2.2
theorem zdc_227 : decode cX9_init 27 = .ok (.aload_n 0, 1) ∧ decode cX9_init 28 = .ok (.bipush 8, 2) ∧ decode cX9_init 30 = .ok (.newarray .int, 2) ∧ decode cX9_init 32 = .ok (.putfield 24, 3) ∧ decode cX9_init 35 = .ok (.aload_n 0, 1) ∧ decode cX9_init 36 = .ok (.bipush 8, 2) ∧ decode cX9_init 38 = .ok (.newarray .int, 2) ∧ decode cX9_init 40 = .ok (.putfield 28, 3) ∧ decode cX9_init 43 = .ok (.aload_n 0, 1) ∧ decode cX9_init 44 = .ok (.bipush 8, 2) := by decide +kernel
theorem dX9_init_27 : decode cX9_init 27 = .ok (.aload_n 0, 1) := zdc_227.1
theorem dX9_init_28 : decode cX9_init 28 = .ok (.bipush 8, 2) := zdc_227.2.1
theorem dX9_init_30 : decode cX9_init 30 = .ok (.newarray .int, 2) := zdc_227.2.2.1
theorem dX9_init_32 : decode cX9_init 32 = .ok (.putfield 24, 3) := zdc_227.2.2.2.1
theorem dX9_init_35 : decode cX9_init 35 = .ok (.aload_n 0, 1) := zdc_227.2.2.2.2.1
theorem dX9_init_36 : decode cX9_init 36 = .ok (.bipush 8, 2) := zdc_227.2.2.2.2.2.1
theorem dX9_init_38 : decode cX9_init 38 = .ok (.newarray .int, 2) := zdc_227.2.2.2.2.2.2.1
theorem dX9_init_40 : decode cX9_init 40 = .ok (.putfield 28, 3) := zdc_227.2.2.2.2.2.2.2.1
theorem dX9_init_43 : decode cX9_init 43 = .ok (.aload_n 0, 1) := zdc_227.2.2.2.2.2.2.2.2.1
theorem dX9_init_44 : decode cX9_init 44 = .ok (.bipush 8, 2) := zdc_227.2.2.2.2.2.2.2.2.2
theorem zdc_228 : decode cX9_init 46 = .ok (.newarray .int, 2) ∧ decode cX9_init 48 = .ok (.putfield 31, 3) ∧ decode cX9_init 51 = .ok (.aload_n 0, 1) ∧ decode cX9_init 52 = .ok (.bipush 8, 2) ∧ decode cX9_init 54 = .ok (.newarray .int, 2) ∧ decode cX9_init 56 = .ok (.putfield 34, 3) ∧ decode cX9_init 59 = .ok (.aload_n 0, 1) ∧ decode cX9_init 60 = .ok (.bipush 8, 2) ∧ decode cX9_init 62 = .ok (.newarray .boolean, 2) ∧ decode cX9_init 64 = .ok (.putfield 37, 3) := by decide +kernel
theorem dX9_init_46 : decode cX9_init 46 = .ok (.newarray .int, 2) := zdc_228.1
theorem dX9_init_48 : decode cX9_init 48 = .ok (.putfield 31, 3) := zdc_228.2.1
theorem dX9_init_51 : decode cX9_init 51 = .ok (.aload_n 0, 1) := zdc_228.2.2.1
theorem dX9_init_52 : decode cX9_init 52 = .ok (.bipush 8, 2) := zdc_228.2.2.2.1
theorem dX9_init_54 : decode cX9_init 54 = .ok (.newarray .int, 2) := zdc_228.2.2.2.2.1
theorem dX9_init_56 : decode cX9_init 56 = .ok (.putfield 34, 3) := zdc_228.2.2.2.2.2.1
theorem dX9_init_59 : decode cX9_init 59 = .ok (.aload_n 0, 1) := zdc_228.2.2.2.2.2.2.1
theorem dX9_init_60 : decode cX9_init 60 = .ok (.bipush 8, 2) := zdc_228.2.2.2.2.2.2.2.1
theorem dX9_init_62 : decode cX9_init 62 = .ok (.newarray .boolean, 2) := zdc_228.2.2.2.2.2.2.2.2.1
theorem dX9_init_64 : decode cX9_init 64 = .ok (.putfield 37, 3) := zdc_228.2.2.2.2.2.2.2.2.2
theorem zdc_229 : decode cX9_init 67 = .ok (.aload_n 0, 1) ∧ decode cX9_init 68 = .ok (.bipush 64, 2) ∧ decode cX9_init 70 = .ok (.newarray .int, 2) ∧ decode cX9_init 72 = .ok (.putfield 41, 3) ∧ decode cX9_init 75 = .ok (.aload_n 0, 1) ∧ decode cX9_init 76 = .ok (.bipush 6, 2) ∧ decode cX9_init 78 = .ok (.newarray .int, 2) ∧ decode cX9_init 80 = .ok (.putfield 44, 3) ∧ decode cX9_init 83 = .ok (.aload_n 0, 1) ∧ decode cX9_init 84 = .ok (.bipush 6, 2) := by decide +kernel
theorem dX9_init_67 : decode cX9_init 67 = .ok (.aload_n 0, 1) := zdc_229.1
theorem dX9_init_68 : decode cX9_init 68 = .ok (.bipush 64, 2) := zdc_229.2.1
theorem dX9_init_70 : decode cX9_init 70 = .ok (.newarray .int, 2) := zdc_229.2.2.1
theorem dX9_init_72 : decode cX9_init 72 = .ok (.putfield 41, 3) := zdc_229.2.2.2.1
theorem dX9_init_75 : decode cX9_init 75 = .ok (.aload_n 0, 1) := zdc_229.2.2.2.2.1
theorem dX9_init_76 : decode cX9_init 76 = .ok (.bipush 6, 2) := zdc_229.2.2.2.2.2.1
theorem dX9_init_78 : decode cX9_init 78 = .ok (.newarray .int, 2) := zdc_229.2.2.2.2.2.2.1
theorem dX9_init_80 : decode cX9_init 80 = .ok (.putfield 44, 3) := zdc_229.2.2.2.2.2.2.2.1
theorem dX9_init_83 : decode cX9_init 83 = .ok (.aload_n 0, 1) := zdc_229.2.2.2.2.2.2.2.2.1
theorem dX9_init_84 : decode cX9_init 84 = .ok (.bipush 6, 2) := zdc_229.2.2.2.2.2.2.2.2.2
theorem zdc_230 : decode cX9_init 86 = .ok (.newarray .int, 2) ∧ decode cX9_init 88 = .ok (.putfield 47, 3) ∧ decode cX9_init 91 = .ok (.aload_n 0, 1) ∧ decode cX9_init 92 = .ok (.bipush 6, 2) ∧ decode cX9_init 94 = .ok (.newarray .int, 2) ∧ decode cX9_init 96 = .ok (.putfield 50, 3) ∧ decode cX9_init 99 = .ok (.aload_n 0, 1) ∧ decode cX9_init 100 = .ok (.bipush 6, 2) ∧ decode cX9_init 102 = .ok (.newarray .int, 2) ∧ decode cX9_init 104 = .ok (.putfield 53, 3) := by decide +kernel
theorem dX9_init_86 : decode cX9_init 86 = .ok (.newarray .int, 2) := zdc_230.1
theorem dX9_init_88 : decode cX9_init 88 = .ok (.putfield 47, 3) := zdc_230.2.1
theorem dX9_init_91 : decode cX9_init 91 = .ok (.aload_n 0, 1) := zdc_230.2.2.1
theorem dX9_init_92 : decode cX9_init 92 = .ok (.bipush 6, 2) := zdc_230.2.2.2.1
theorem dX9_init_94 : decode cX9_init 94 = .ok (.newarray .int, 2) := zdc_230.2.2.2.2.1
theorem dX9_init_96 : decode cX9_init 96 = .ok (.putfield 50, 3) := zdc_230.2.2.2.2.2.1
theorem dX9_init_99 : decode cX9_init 99 = .ok (.aload_n 0, 1) := zdc_230.2.2.2.2.2.2.1
theorem dX9_init_100 : decode cX9_init 100 = .ok (.bipush 6, 2) := zdc_230.2.2.2.2.2.2.2.1
theorem dX9_init_102 : decode cX9_init 102 = .ok (.newarray .int, 2) := zdc_230.2.2.2.2.2.2.2.2.1
theorem dX9_init_104 : decode cX9_init 104 = .ok (.putfield 53, 3) := zdc_230.2.2.2.2.2.2.2.2.2
theorem zdc_231 : decode cX9_init 107 = .ok (.aload_n 0, 1) ∧ decode cX9_init 108 = .ok (.bipush 8, 2) ∧ decode cX9_init 110 = .ok (.newarray .int, 2) ∧ decode cX9_init 112 = .ok (.putfield 56, 3) ∧ decode cX9_init 115 = .ok (.return_, 1) ∧ decode cX9_copyFrom 0 = .ok (.aload_n 0, 1) ∧ decode cX9_copyFrom 1 = .ok (.aload_n 1, 1) ∧ decode cX9_copyFrom 2 = .ok (.getfield 59, 3) ∧ decode cX9_copyFrom 5 = .ok (.putfield 59, 3) ∧ decode cX9_copyFrom 8 = .ok (.aload_n 0, 1) := by decide +kernel
theorem dX9_init_107 : decode cX9_init 107 = .ok (.aload_n 0, 1) := zdc_231.1
theorem dX9_init_108 : decode cX9_init 108 = .ok (.bipush 8, 2) := zdc_231.2.1
theorem dX9_init_110 : decode cX9_init 110 = .ok (.newarray .int, 2) := zdc_231.2.2.1
theorem dX9_init_112 : decode cX9_init 112 = .ok (.putfield 56, 3) := zdc_231.2.2.2.1
theorem dX9_init_115 : decode cX9_init 115 = .ok (.return_, 1) := zdc_231.2.2.2.2.1
theorem dX9_copyFrom_0 : decode cX9_copyFrom 0 = .ok (.aload_n 0, 1) := zdc_231.2.2.2.2.2.1
theorem dX9_copyFrom_1 : decode cX9_copyFrom 1 = .ok (.aload_n 1, 1) := zdc_231.2.2.2.2.2.2.1
theorem dX9_copyFrom_2 : decode cX9_copyFrom 2 = .ok (.getfield 59, 3) := zdc_231.2.2.2.2.2.2.2.1
theorem dX9_copyFrom_5 : decode cX9_copyFrom 5 = .ok (.putfield 59, 3) := zdc_231.2.2.2.2.2.2.2.2.1
theorem dX9_copyFrom_8 : decode cX9_copyFrom 8 = .ok (.aload_n 0, 1) := zdc_231.2.2.2.2.2.2.2.2.2
theorem zdc_232 : decode cX9_copyFrom 9 = .ok (.aload_n 1, 1) ∧ decode cX9_copyFrom 10 = .ok (.getfield 62, 3) ∧ decode cX9_copyFrom 13 = .ok (.putfield 62, 3) ∧ decode cX9_copyFrom 16 = .ok (.aload_n 0, 1) ∧ decode cX9_copyFrom 17 = .ok (.aload_n 1, 1) ∧ decode cX9_copyFrom 18 = .ok (.getfield 65, 3) ∧ decode cX9_copyFrom 21 = .ok (.putfield 65, 3) ∧ decode cX9_copyFrom 24 = .ok (.aload_n 0, 1) ∧ decode cX9_copyFrom 25 = .ok (.aload_n 1, 1) ∧ decode cX9_copyFrom 26 = .ok (.getfield 9, 3) := by decide +kernel
theorem dX9_copyFrom_9 : decode cX9_copyFrom 9 = .ok (.aload_n 1, 1) := zdc_232.1
theorem dX9_copyFrom_10 : decode cX9_copyFrom 10 = .ok (.getfield 62, 3) := zdc_232.2.1
theorem dX9_copyFrom_13 : decode cX9_copyFrom 13 = .ok (.putfield 62, 3) := zdc_232.2.2.1
theorem dX9_copyFrom_16 : decode cX9_copyFrom 16 = .ok (.aload_n 0, 1) := zdc_232.2.2.2.1
theorem dX9_copyFrom_17 : decode cX9_copyFrom 17 = .ok (.aload_n 1, 1) := zdc_232.2.2.2.2.1
theorem dX9_copyFrom_18 : decode cX9_copyFrom 18 = .ok (.getfield 65, 3) := zdc_232.2.2.2.2.2.1
theorem dX9_copyFrom_21 : decode cX9_copyFrom 21 = .ok (.putfield 65, 3) := zdc_232.2.2.2.2.2.2.1
theorem dX9_copyFrom_24 : decode cX9_copyFrom 24 = .ok (.aload_n 0, 1) := zdc_232.2.2.2.2.2.2.2.1
theorem dX9_copyFrom_25 : decode cX9_copyFrom 25 = .ok (.aload_n 1, 1) := zdc_232.2.2.2.2.2.2.2.2.1
theorem dX9_copyFrom_26 : decode cX9_copyFrom 26 = .ok (.getfield 9, 3) := zdc_232.2.2.2.2.2.2.2.2.2
theorem zdc_233 : decode cX9_copyFrom 29 = .ok (.putfield 9, 3) ∧ decode cX9_copyFrom 32 = .ok (.aload_n 0, 1) ∧ decode cX9_copyFrom 33 = .ok (.aload_n 1, 1) ∧ decode cX9_copyFrom 34 = .ok (.getfield 15, 3) ∧ decode cX9_copyFrom 37 = .ok (.putfield 15, 3) ∧ decode cX9_copyFrom 40 = .ok (.aload_n 0, 1) ∧ decode cX9_copyFrom 41 = .ok (.aload_n 1, 1) ∧ decode cX9_copyFrom 42 = .ok (.getfield 18, 3) ∧ decode cX9_copyFrom 45 = .ok (.putfield 18, 3) ∧ decode cX9_copyFrom 48 = .ok (.aload_n 0, 1) := by decide +kernel
theorem dX9_copyFrom_29 : decode cX9_copyFrom 29 = .ok (.putfield 9, 3) := zdc_233.1
theorem dX9_copyFrom_32 : decode cX9_copyFrom 32 = .ok (.aload_n 0, 1) := zdc_233.2.1
theorem dX9_copyFrom_33 : decode cX9_copyFrom 33 = .ok (.aload_n 1, 1) := zdc_233.2.2.1
theorem dX9_copyFrom_34 : decode cX9_copyFrom 34 = .ok (.getfield 15, 3) := zdc_233.2.2.2.1
theorem dX9_copyFrom_37 : decode cX9_copyFrom 37 = .ok (.putfield 15, 3) := zdc_233.2.2.2.2.1
theorem dX9_copyFrom_40 : decode cX9_copyFrom 40 = .ok (.aload_n 0, 1) := zdc_233.2.2.2.2.2.1
theorem dX9_copyFrom_41 : decode cX9_copyFrom 41 = .ok (.aload_n 1, 1) := zdc_233.2.2.2.2.2.2.1
theorem dX9_copyFrom_42 : decode cX9_copyFrom 42 = .ok (.getfield 18, 3) := zdc_233.2.2.2.2.2.2.2.1
theorem dX9_copyFrom_45 : decode cX9_copyFrom 45 = .ok (.putfield 18, 3) := zdc_233.2.2.2.2.2.2.2.2.1
theorem dX9_copyFrom_48 : decode cX9_copyFrom 48 = .ok (.aload_n 0, 1) := zdc_233.2.2.2.2.2.2.2.2.2
theorem zdc_234 : decode cX9_copyFrom 49 = .ok (.aload_n 1, 1) ∧ decode cX9_copyFrom 50 = .ok (.getfield 68, 3) ∧ decode cX9_copyFrom 53 = .ok (.putfield 68, 3) ∧ decode cX9_copyFrom 56 = .ok (.aload_n 0, 1) ∧ decode cX9_copyFrom 57 = .ok (.aload_n 1, 1) ∧ decode cX9_copyFrom 58 = .ok (.getfield 21, 3) ∧ decode cX9_copyFrom 61 = .ok (.putfield 21, 3) ∧ decode cX9_copyFrom 64 = .ok (.aload_n 1, 1) ∧ decode cX9_copyFrom 65 = .ok (.getfield 24, 3) ∧ decode cX9_copyFrom 68 = .ok (.iconst 0, 1) := by decide +kernel
theorem dX9_copyFrom_49 : decode cX9_copyFrom 49 = .ok (.aload_n 1, 1) := zdc_234.1
theorem dX9_copyFrom_50 : decode cX9_copyFrom 50 = .ok (.getfield 68, 3) := zdc_234.2.1
theorem dX9_copyFrom_53 : decode cX9_copyFrom 53 = .ok (.putfield 68, 3) := zdc_234.2.2.1
theorem dX9_copyFrom_56 : decode cX9_copyFrom 56 = .ok (.aload_n 0, 1) := zdc_234.2.2.2.1
theorem dX9_copyFrom_57 : decode cX9_copyFrom 57 = .ok (.aload_n 1, 1) := zdc_234.2.2.2.2.1
theorem dX9_copyFrom_58 : decode cX9_copyFrom 58 = .ok (.getfield 21, 3) := zdc_234.2.2.2.2.2.1
theorem dX9_copyFrom_61 : decode cX9_copyFrom 61 = .ok (.putfield 21, 3) := zdc_234.2.2.2.2.2.2.1
theorem dX9_copyFrom_64 : decode cX9_copyFrom 64 = .ok (.aload_n 1, 1) := zdc_234.2.2.2.2.2.2.2.1
theorem dX9_copyFrom_65 : decode cX9_copyFrom 65 = .ok (.getfield 24, 3) := zdc_234.2.2.2.2.2.2.2.2.1
theorem dX9_copyFrom_68 : decode cX9_copyFrom 68 = .ok (.iconst 0, 1) := zdc_234.2.2.2.2.2.2.2.2.2
theorem zdc_235 : decode cX9_copyFrom 69 = .ok (.aload_n 0, 1) ∧ decode cX9_copyFrom 70 = .ok (.getfield 24, 3) ∧ decode cX9_copyFrom 73 = .ok (.iconst 0, 1) ∧ decode cX9_copyFrom 74 = .ok (.bipush 8, 2) ∧ decode cX9_copyFrom 76 = .ok (.invokestatic 71, 3) ∧ decode cX9_copyFrom 79 = .ok (.aload_n 1, 1) ∧ decode cX9_copyFrom 80 = .ok (.getfield 28, 3) ∧ decode cX9_copyFrom 83 = .ok (.iconst 0, 1) ∧ decode cX9_copyFrom 84 = .ok (.aload_n 0, 1) ∧ decode cX9_copyFrom 85 = .ok (.getfield 28, 3) := by decide +kernel
theorem dX9_copyFrom_69 : decode cX9_copyFrom 69 = .ok (.aload_n 0, 1) := zdc_235.1
theorem dX9_copyFrom_70 : decode cX9_copyFrom 70 = .ok (.getfield 24, 3) := zdc_235.2.1
theorem dX9_copyFrom_73 : decode cX9_copyFrom 73 = .ok (.iconst 0, 1) := zdc_235.2.2.1
theorem dX9_copyFrom_74 : decode cX9_copyFrom 74 = .ok (.bipush 8, 2) := zdc_235.2.2.2.1
theorem dX9_copyFrom_76 : decode cX9_copyFrom 76 = .ok (.invokestatic 71, 3) := zdc_235.2.2.2.2.1
theorem dX9_copyFrom_79 : decode cX9_copyFrom 79 = .ok (.aload_n 1, 1) := zdc_235.2.2.2.2.2.1
theorem dX9_copyFrom_80 : decode cX9_copyFrom 80 = .ok (.getfield 28, 3) := zdc_235.2.2.2.2.2.2.1
theorem dX9_copyFrom_83 : decode cX9_copyFrom 83 = .ok (.iconst 0, 1) := zdc_235.2.2.2.2.2.2.2.1
theorem dX9_copyFrom_84 : decode cX9_copyFrom 84 = .ok (.aload_n 0, 1) := zdc_235.2.2.2.2.2.2.2.2.1
theorem dX9_copyFrom_85 : decode cX9_copyFrom 85 = .ok (.getfield 28, 3) := zdc_235.2.2.2.2.2.2.2.2.2
theorem zdc_236 : decode cX9_copyFrom 88 = .ok (.iconst 0, 1) ∧ decode cX9_copyFrom 89 = .ok (.bipush 8, 2) ∧ decode cX9_copyFrom 91 = .ok (.invokestatic 71, 3) ∧ decode cX9_copyFrom 94 = .ok (.aload_n 1, 1) ∧ decode cX9_copyFrom 95 = .ok (.getfield 31, 3) ∧ decode cX9_copyFrom 98 = .ok (.iconst 0, 1) ∧ decode cX9_copyFrom 99 = .ok (.aload_n 0, 1) ∧ decode cX9_copyFrom 100 = .ok (.getfield 31, 3) ∧ decode cX9_copyFrom 103 = .ok (.iconst 0, 1) ∧ decode cX9_copyFrom 104 = .ok (.bipush 8, 2) := by decide +kernel
theorem dX9_copyFrom_88 : decode cX9_copyFrom 88 = .ok (.iconst 0, 1) := zdc_236.1
theorem dX9_copyFrom_89 : decode cX9_copyFrom 89 = .ok (.bipush 8, 2) := zdc_236.2.1
theorem dX9_copyFrom_91 : decode cX9_copyFrom 91 = .ok (.invokestatic 71, 3) := zdc_236.2.2.1
theorem dX9_copyFrom_94 : decode cX9_copyFrom 94 = .ok (.aload_n 1, 1) := zdc_236.2.2.2.1
theorem dX9_copyFrom_95 : decode cX9_copyFrom 95 = .ok (.getfield 31, 3) := zdc_236.2.2.2.2.1
theorem dX9_copyFrom_98 : decode cX9_copyFrom 98 = .ok (.iconst 0, 1) := zdc_236.2.2.2.2.2.1
theorem dX9_copyFrom_99 : decode cX9_copyFrom 99 = .ok (.aload_n 0, 1) := zdc_236.2.2.2.2.2.2.1
theorem dX9_copyFrom_100 : decode cX9_copyFrom 100 = .ok (.getfield 31, 3) := zdc_236.2.2.2.2.2.2.2.1
theorem dX9_copyFrom_103 : decode cX9_copyFrom 103 = .ok (.iconst 0, 1) := zdc_236.2.2.2.2.2.2.2.2.1
theorem dX9_copyFrom_104 : decode cX9_copyFrom 104 = .ok (.bipush 8, 2) := zdc_236.2.2.2.2.2.2.2.2.2
theorem zdc_237 : decode cX9_copyFrom 106 = .ok (.invokestatic 71, 3) ∧ decode cX9_copyFrom 109 = .ok (.aload_n 1, 1) ∧ decode cX9_copyFrom 110 = .ok (.getfield 34, 3) ∧ decode cX9_copyFrom 113 = .ok (.iconst 0, 1) ∧ decode cX9_copyFrom 114 = .ok (.aload_n 0, 1) ∧ decode cX9_copyFrom 115 = .ok (.getfield 34, 3) ∧ decode cX9_copyFrom 118 = .ok (.iconst 0, 1) ∧ decode cX9_copyFrom 119 = .ok (.bipush 8, 2) ∧ decode cX9_copyFrom 121 = .ok (.invokestatic 71, 3) ∧ decode cX9_copyFrom 124 = .ok (.aload_n 1, 1) := by decide +kernel
theorem dX9_copyFrom_106 : decode cX9_copyFrom 106 = .ok (.invokestatic 71, 3) := zdc_237.1
theorem dX9_copyFrom_109 : decode cX9_copyFrom 109 = .ok (.aload_n 1, 1) := zdc_237.2.1
theorem dX9_copyFrom_110 : decode cX9_copyFrom 110 = .ok (.getfield 34, 3) := zdc_237.2.2.1
theorem dX9_copyFrom_113 : decode cX9_copyFrom 113 = .ok (.iconst 0, 1) := zdc_237.2.2.2.1
theorem dX9_copyFrom_114 : decode cX9_copyFrom 114 = .ok (.aload_n 0, 1) := zdc_237.2.2.2.2.1
theorem dX9_copyFrom_115 : decode cX9_copyFrom 115 = .ok (.getfield 34, 3) := zdc_237.2.2.2.2.2.1
theorem dX9_copyFrom_118 : decode cX9_copyFrom 118 = .ok (.iconst 0, 1) := zdc_237.2.2.2.2.2.2.1
theorem dX9_copyFrom_119 : decode cX9_copyFrom 119 = .ok (.bipush 8, 2) := zdc_237.2.2.2.2.2.2.2.1
theorem dX9_copyFrom_121 : decode cX9_copyFrom 121 = .ok (.invokestatic 71, 3) := zdc_237.2.2.2.2.2.2.2.2.1
theorem dX9_copyFrom_124 : decode cX9_copyFrom 124 = .ok (.aload_n 1, 1) := zdc_237.2.2.2.2.2.2.2.2.2
theorem zdc_238 : decode cX9_copyFrom 125 = .ok (.getfield 37, 3) ∧ decode cX9_copyFrom 128 = .ok (.iconst 0, 1) ∧ decode cX9_copyFrom 129 = .ok (.aload_n 0, 1) ∧ decode cX9_copyFrom 130 = .ok (.getfield 37, 3) ∧ decode cX9_copyFrom 133 = .ok (.iconst 0, 1) ∧ decode cX9_copyFrom 134 = .ok (.bipush 8, 2) ∧ decode cX9_copyFrom 136 = .ok (.invokestatic 71, 3) ∧ decode cX9_copyFrom 139 = .ok (.aload_n 1, 1) ∧ decode cX9_copyFrom 140 = .ok (.getfield 41, 3) ∧ decode cX9_copyFrom 143 = .ok (.iconst 0, 1) := by decide +kernel
theorem dX9_copyFrom_125 : decode cX9_copyFrom 125 = .ok (.getfield 37, 3) := zdc_238.1
theorem dX9_copyFrom_128 : decode cX9_copyFrom 128 = .ok (.iconst 0, 1) := zdc_238.2.1
theorem dX9_copyFrom_129 : decode cX9_copyFrom 129 = .ok (.aload_n 0, 1) := zdc_238.2.2.1
theorem dX9_copyFrom_130 : decode cX9_copyFrom 130 = .ok (.getfield 37, 3) := zdc_238.2.2.2.1
theorem dX9_copyFrom_133 : decode cX9_copyFrom 133 = .ok (.iconst 0, 1) := zdc_238.2.2.2.2.1
theorem dX9_copyFrom_134 : decode cX9_copyFrom 134 = .ok (.bipush 8, 2) := zdc_238.2.2.2.2.2.1
theorem dX9_copyFrom_136 : decode cX9_copyFrom 136 = .ok (.invokestatic 71, 3) := zdc_238.2.2.2.2.2.2.1
theorem dX9_copyFrom_139 : decode cX9_copyFrom 139 = .ok (.aload_n 1, 1) := zdc_238.2.2.2.2.2.2.2.1
theorem dX9_copyFrom_140 : decode cX9_copyFrom 140 = .ok (.getfield 41, 3) := zdc_238.2.2.2.2.2.2.2.2.1
theorem dX9_copyFrom_143 : decode cX9_copyFrom 143 = .ok (.iconst 0, 1) := zdc_238.2.2.2.2.2.2.2.2.2
theorem zdc_239 : decode cX9_copyFrom 144 = .ok (.aload_n 0, 1) ∧ decode cX9_copyFrom 145 = .ok (.getfield 41, 3) ∧ decode cX9_copyFrom 148 = .ok (.iconst 0, 1) ∧ decode cX9_copyFrom 149 = .ok (.bipush 64, 2) ∧ decode cX9_copyFrom 151 = .ok (.invokestatic 71, 3) ∧ decode cX9_copyFrom 154 = .ok (.aload_n 1, 1) ∧ decode cX9_copyFrom 155 = .ok (.getfield 44, 3) ∧ decode cX9_copyFrom 158 = .ok (.iconst 0, 1) ∧ decode cX9_copyFrom 159 = .ok (.aload_n 0, 1) ∧ decode cX9_copyFrom 160 = .ok (.getfield 44, 3) := by decide +kernel
theorem dX9_copyFrom_144 : decode cX9_copyFrom 144 = .ok (.aload_n 0, 1) := zdc_239.1
theorem dX9_copyFrom_145 : decode cX9_copyFrom 145 = .ok (.getfield 41, 3) := zdc_239.2.1
theorem dX9_copyFrom_148 : decode cX9_copyFrom 148 = .ok (.iconst 0, 1) := zdc_239.2.2.1
theorem dX9_copyFrom_149 : decode cX9_copyFrom 149 = .ok (.bipush 64, 2) := zdc_239.2.2.2.1
theorem dX9_copyFrom_151 : decode cX9_copyFrom 151 = .ok (.invokestatic 71, 3) := zdc_239.2.2.2.2.1
theorem dX9_copyFrom_154 : decode cX9_copyFrom 154 = .ok (.aload_n 1, 1) := zdc_239.2.2.2.2.2.1
theorem dX9_copyFrom_155 : decode cX9_copyFrom 155 = .ok (.getfield 44, 3) := zdc_239.2.2.2.2.2.2.1
theorem dX9_copyFrom_158 : decode cX9_copyFrom 158 = .ok (.iconst 0, 1) := zdc_239.2.2.2.2.2.2.2.1
theorem dX9_copyFrom_159 : decode cX9_copyFrom 159 = .ok (.aload_n 0, 1) := zdc_239.2.2.2.2.2.2.2.2.1
theorem dX9_copyFrom_160 : decode cX9_copyFrom 160 = .ok (.getfield 44, 3) := zdc_239.2.2.2.2.2.2.2.2.2
theorem zdc_240 : decode cX9_copyFrom 163 = .ok (.iconst 0, 1) ∧ decode cX9_copyFrom 164 = .ok (.bipush 6, 2) ∧ decode cX9_copyFrom 166 = .ok (.invokestatic 71, 3) ∧ decode cX9_copyFrom 169 = .ok (.aload_n 1, 1) ∧ decode cX9_copyFrom 170 = .ok (.getfield 47, 3) ∧ decode cX9_copyFrom 173 = .ok (.iconst 0, 1) ∧ decode cX9_copyFrom 174 = .ok (.aload_n 0, 1) ∧ decode cX9_copyFrom 175 = .ok (.getfield 47, 3) ∧ decode cX9_copyFrom 178 = .ok (.iconst 0, 1) ∧ decode cX9_copyFrom 179 = .ok (.bipush 6, 2) := by decide +kernel
theorem dX9_copyFrom_163 : decode cX9_copyFrom 163 = .ok (.iconst 0, 1) := zdc_240.1
theorem dX9_copyFrom_164 : decode cX9_copyFrom 164 = .ok (.bipush 6, 2) := zdc_240.2.1
theorem dX9_copyFrom_166 : decode cX9_copyFrom 166 = .ok (.invokestatic 71, 3) := zdc_240.2.2.1
theorem dX9_copyFrom_169 : decode cX9_copyFrom 169 = .ok (.aload_n 1, 1) := zdc_240.2.2.2.1
theorem dX9_copyFrom_170 : decode cX9_copyFrom 170 = .ok (.getfield 47, 3) := zdc_240.2.2.2.2.1
theorem dX9_copyFrom_173 : decode cX9_copyFrom 173 = .ok (.iconst 0, 1) := zdc_240.2.2.2.2.2.1
theorem dX9_copyFrom_174 : decode cX9_copyFrom 174 = .ok (.aload_n 0, 1) := zdc_240.2.2.2.2.2.2.1
theorem dX9_copyFrom_175 : decode cX9_copyFrom 175 = .ok (.getfield 47, 3) := zdc_240.2.2.2.2.2.2.2.1
theorem dX9_copyFrom_178 : decode cX9_copyFrom 178 = .ok (.iconst 0, 1) := zdc_240.2.2.2.2.2.2.2.2.1
theorem dX9_copyFrom_179 : decode cX9_copyFrom 179 = .ok (.bipush 6, 2) := zdc_240.2.2.2.2.2.2.2.2.2
theorem zdc_241 : decode cX9_copyFrom 181 = .ok (.invokestatic 71, 3) ∧ decode cX9_copyFrom 184 = .ok (.aload_n 1, 1) ∧ decode cX9_copyFrom 185 = .ok (.getfield 50, 3) ∧ decode cX9_copyFrom 188 = .ok (.iconst 0, 1) ∧ decode cX9_copyFrom 189 = .ok (.aload_n 0, 1) ∧ decode cX9_copyFrom 190 = .ok (.getfield 50, 3) ∧ decode cX9_copyFrom 193 = .ok (.iconst 0, 1) ∧ decode cX9_copyFrom 194 = .ok (.bipush 6, 2) ∧ decode cX9_copyFrom 196 = .ok (.invokestatic 71, 3) ∧ decode cX9_copyFrom 199 = .ok (.aload_n 1, 1) := by decide +kernel
theorem dX9_copyFrom_181 : decode cX9_copyFrom 181 = .ok (.invokestatic 71, 3) := zdc_241.1
theorem dX9_copyFrom_184 : decode cX9_copyFrom 184 = .ok (.aload_n 1, 1) := zdc_241.2.1
theorem dX9_copyFrom_185 : decode cX9_copyFrom 185 = .ok (.getfield 50, 3) := zdc_241.2.2.1
theorem dX9_copyFrom_188 : decode cX9_copyFrom 188 = .ok (.iconst 0, 1) := zdc_241.2.2.2.1
theorem dX9_copyFrom_189 : decode cX9_copyFrom 189 = .ok (.aload_n 0, 1) := zdc_241.2.2.2.2.1
theorem dX9_copyFrom_190 : decode cX9_copyFrom 190 = .ok (.getfield 50, 3) := zdc_241.2.2.2.2.2.1
theorem dX9_copyFrom_193 : decode cX9_copyFrom 193 = .ok (.iconst 0, 1) := zdc_241.2.2.2.2.2.2.1
theorem dX9_copyFrom_194 : decode cX9_copyFrom 194 = .ok (.bipush 6, 2) := zdc_241.2.2.2.2.2.2.2.1
theorem dX9_copyFrom_196 : decode cX9_copyFrom 196 = .ok (.invokestatic 71, 3) := zdc_241.2.2.2.2.2.2.2.2.1
theorem dX9_copyFrom_199 : decode cX9_copyFrom 199 = .ok (.aload_n 1, 1) := zdc_241.2.2.2.2.2.2.2.2.2
theorem zdc_242 : decode cX9_copyFrom 200 = .ok (.getfield 53, 3) ∧ decode cX9_copyFrom 203 = .ok (.iconst 0, 1) ∧ decode cX9_copyFrom 204 = .ok (.aload_n 0, 1) ∧ decode cX9_copyFrom 205 = .ok (.getfield 53, 3) ∧ decode cX9_copyFrom 208 = .ok (.iconst 0, 1) ∧ decode cX9_copyFrom 209 = .ok (.bipush 6, 2) ∧ decode cX9_copyFrom 211 = .ok (.invokestatic 71, 3) ∧ decode cX9_copyFrom 214 = .ok (.return_, 1) ∧ decode cX9_addPerson 0 = .ok (.aload_n 0, 1) ∧ decode cX9_addPerson 1 = .ok (.getfield 59, 3) := by decide +kernel
theorem dX9_copyFrom_200 : decode cX9_copyFrom 200 = .ok (.getfield 53, 3) := zdc_242.1
theorem dX9_copyFrom_203 : decode cX9_copyFrom 203 = .ok (.iconst 0, 1) := zdc_242.2.1
theorem dX9_copyFrom_204 : decode cX9_copyFrom 204 = .ok (.aload_n 0, 1) := zdc_242.2.2.1
theorem dX9_copyFrom_205 : decode cX9_copyFrom 205 = .ok (.getfield 53, 3) := zdc_242.2.2.2.1
theorem dX9_copyFrom_208 : decode cX9_copyFrom 208 = .ok (.iconst 0, 1) := zdc_242.2.2.2.2.1
theorem dX9_copyFrom_209 : decode cX9_copyFrom 209 = .ok (.bipush 6, 2) := zdc_242.2.2.2.2.2.1
theorem dX9_copyFrom_211 : decode cX9_copyFrom 211 = .ok (.invokestatic 71, 3) := zdc_242.2.2.2.2.2.2.1
theorem dX9_copyFrom_214 : decode cX9_copyFrom 214 = .ok (.return_, 1) := zdc_242.2.2.2.2.2.2.2.1
theorem dX9_addPerson_0 : decode cX9_addPerson 0 = .ok (.aload_n 0, 1) := zdc_242.2.2.2.2.2.2.2.2.1
theorem dX9_addPerson_1 : decode cX9_addPerson 1 = .ok (.getfield 59, 3) := zdc_242.2.2.2.2.2.2.2.2.2
theorem zdc_243 : decode cX9_addPerson 4 = .ok (.istore 4, 2) ∧ decode cX9_addPerson 6 = .ok (.iload 4, 2) ∧ decode cX9_addPerson 8 = .ok (.bipush 8, 2) ∧ decode cX9_addPerson 10 = .ok (.if_icmp .lt 4, 3) ∧ decode cX9_addPerson 13 = .ok (.return_, 1) ∧ decode cX9_addPerson 14 = .ok (.aload_n 0, 1) ∧ decode cX9_addPerson 15 = .ok (.dup, 1) ∧ decode cX9_addPerson 16 = .ok (.getfield 59, 3) ∧ decode cX9_addPerson 19 = .ok (.iconst 1, 1) ∧ decode cX9_addPerson 20 = .ok (.iadd, 1) := by decide +kernel
theorem dX9_addPerson_4 : decode cX9_addPerson 4 = .ok (.istore 4, 2) := zdc_243.1
theorem dX9_addPerson_6 : decode cX9_addPerson 6 = .ok (.iload 4, 2) := zdc_243.2.1
theorem dX9_addPerson_8 : decode cX9_addPerson 8 = .ok (.bipush 8, 2) := zdc_243.2.2.1
theorem dX9_addPerson_10 : decode cX9_addPerson 10 = .ok (.if_icmp .lt 4, 3) := zdc_243.2.2.2.1
theorem dX9_addPerson_13 : decode cX9_addPerson 13 = .ok (.return_, 1) := zdc_243.2.2.2.2.1
theorem dX9_addPerson_14 : decode cX9_addPerson 14 = .ok (.aload_n 0, 1) := zdc_243.2.2.2.2.2.1
theorem dX9_addPerson_15 : decode cX9_addPerson 15 = .ok (.dup, 1) := zdc_243.2.2.2.2.2.2.1
theorem dX9_addPerson_16 : decode cX9_addPerson 16 = .ok (.getfield 59, 3) := zdc_243.2.2.2.2.2.2.2.1
theorem dX9_addPerson_19 : decode cX9_addPerson 19 = .ok (.iconst 1, 1) := zdc_243.2.2.2.2.2.2.2.2.1
theorem dX9_addPerson_20 : decode cX9_addPerson 20 = .ok (.iadd, 1) := zdc_243.2.2.2.2.2.2.2.2.2
theorem zdc_244 : decode cX9_addPerson 21 = .ok (.putfield 59, 3) ∧ decode cX9_addPerson 24 = .ok (.aload_n 0, 1) ∧ decode cX9_addPerson 25 = .ok (.getfield 24, 3) ∧ decode cX9_addPerson 28 = .ok (.iload 4, 2) ∧ decode cX9_addPerson 30 = .ok (.iload_n 1, 1) ∧ decode cX9_addPerson 31 = .ok (.iastore, 1) ∧ decode cX9_addPerson 32 = .ok (.aload_n 0, 1) ∧ decode cX9_addPerson 33 = .ok (.getfield 28, 3) ∧ decode cX9_addPerson 36 = .ok (.iload 4, 2) ∧ decode cX9_addPerson 38 = .ok (.iload_n 2, 1) := by decide +kernel
theorem dX9_addPerson_21 : decode cX9_addPerson 21 = .ok (.putfield 59, 3) := zdc_244.1
theorem dX9_addPerson_24 : decode cX9_addPerson 24 = .ok (.aload_n 0, 1) := zdc_244.2.1
theorem dX9_addPerson_25 : decode cX9_addPerson 25 = .ok (.getfield 24, 3) := zdc_244.2.2.1
theorem dX9_addPerson_28 : decode cX9_addPerson 28 = .ok (.iload 4, 2) := zdc_244.2.2.2.1
theorem dX9_addPerson_30 : decode cX9_addPerson 30 = .ok (.iload_n 1, 1) := zdc_244.2.2.2.2.1
theorem dX9_addPerson_31 : decode cX9_addPerson 31 = .ok (.iastore, 1) := zdc_244.2.2.2.2.2.1
theorem dX9_addPerson_32 : decode cX9_addPerson 32 = .ok (.aload_n 0, 1) := zdc_244.2.2.2.2.2.2.1
theorem dX9_addPerson_33 : decode cX9_addPerson 33 = .ok (.getfield 28, 3) := zdc_244.2.2.2.2.2.2.2.1
theorem dX9_addPerson_36 : decode cX9_addPerson 36 = .ok (.iload 4, 2) := zdc_244.2.2.2.2.2.2.2.2.1
theorem dX9_addPerson_38 : decode cX9_addPerson 38 = .ok (.iload_n 2, 1) := zdc_244.2.2.2.2.2.2.2.2.2
theorem zdc_245 : decode cX9_addPerson 39 = .ok (.iastore, 1) ∧ decode cX9_addPerson 40 = .ok (.aload_n 0, 1) ∧ decode cX9_addPerson 41 = .ok (.getfield 31, 3) ∧ decode cX9_addPerson 44 = .ok (.iload 4, 2) ∧ decode cX9_addPerson 46 = .ok (.iconst 0, 1) ∧ decode cX9_addPerson 47 = .ok (.iastore, 1) ∧ decode cX9_addPerson 48 = .ok (.aload_n 0, 1) ∧ decode cX9_addPerson 49 = .ok (.getfield 34, 3) ∧ decode cX9_addPerson 52 = .ok (.iload 4, 2) ∧ decode cX9_addPerson 54 = .ok (.iconst (-1), 1) := by decide +kernel
theorem dX9_addPerson_39 : decode cX9_addPerson 39 = .ok (.iastore, 1) := zdc_245.1
theorem dX9_addPerson_40 : decode cX9_addPerson 40 = .ok (.aload_n 0, 1) := zdc_245.2.1
theorem dX9_addPerson_41 : decode cX9_addPerson 41 = .ok (.getfield 31, 3) := zdc_245.2.2.1
theorem dX9_addPerson_44 : decode cX9_addPerson 44 = .ok (.iload 4, 2) := zdc_245.2.2.2.1
theorem dX9_addPerson_46 : decode cX9_addPerson 46 = .ok (.iconst 0, 1) := zdc_245.2.2.2.2.1
theorem dX9_addPerson_47 : decode cX9_addPerson 47 = .ok (.iastore, 1) := zdc_245.2.2.2.2.2.1
theorem dX9_addPerson_48 : decode cX9_addPerson 48 = .ok (.aload_n 0, 1) := zdc_245.2.2.2.2.2.2.1
theorem dX9_addPerson_49 : decode cX9_addPerson 49 = .ok (.getfield 34, 3) := zdc_245.2.2.2.2.2.2.2.1
theorem dX9_addPerson_52 : decode cX9_addPerson 52 = .ok (.iload 4, 2) := zdc_245.2.2.2.2.2.2.2.2.1
theorem dX9_addPerson_54 : decode cX9_addPerson 54 = .ok (.iconst (-1), 1) := zdc_245.2.2.2.2.2.2.2.2.2
theorem zdc_246 : decode cX9_addPerson 55 = .ok (.iastore, 1) ∧ decode cX9_addPerson 56 = .ok (.aload_n 0, 1) ∧ decode cX9_addPerson 57 = .ok (.getfield 37, 3) ∧ decode cX9_addPerson 60 = .ok (.iload 4, 2) ∧ decode cX9_addPerson 62 = .ok (.iload_n 3, 1) ∧ decode cX9_addPerson 63 = .ok (.bastore, 1) ∧ decode cX9_addPerson 64 = .ok (.iconst 0, 1) ∧ decode cX9_addPerson 65 = .ok (.istore 5, 2) ∧ decode cX9_addPerson 67 = .ok (.iload 5, 2) ∧ decode cX9_addPerson 69 = .ok (.bipush 8, 2) := by decide +kernel
theorem dX9_addPerson_55 : decode cX9_addPerson 55 = .ok (.iastore, 1) := zdc_246.1
theorem dX9_addPerson_56 : decode cX9_addPerson 56 = .ok (.aload_n 0, 1) := zdc_246.2.1
theorem dX9_addPerson_57 : decode cX9_addPerson 57 = .ok (.getfield 37, 3) := zdc_246.2.2.1
theorem dX9_addPerson_60 : decode cX9_addPerson 60 = .ok (.iload 4, 2) := zdc_246.2.2.2.1
theorem dX9_addPerson_62 : decode cX9_addPerson 62 = .ok (.iload_n 3, 1) := zdc_246.2.2.2.2.1
theorem dX9_addPerson_63 : decode cX9_addPerson 63 = .ok (.bastore, 1) := zdc_246.2.2.2.2.2.1
theorem dX9_addPerson_64 : decode cX9_addPerson 64 = .ok (.iconst 0, 1) := zdc_246.2.2.2.2.2.2.1
theorem dX9_addPerson_65 : decode cX9_addPerson 65 = .ok (.istore 5, 2) := zdc_246.2.2.2.2.2.2.2.1
theorem dX9_addPerson_67 : decode cX9_addPerson 67 = .ok (.iload 5, 2) := zdc_246.2.2.2.2.2.2.2.2.1
theorem dX9_addPerson_69 : decode cX9_addPerson 69 = .ok (.bipush 8, 2) := zdc_246.2.2.2.2.2.2.2.2.2
theorem zdc_247 : decode cX9_addPerson 71 = .ok (.if_icmp .ge 27, 3) ∧ decode cX9_addPerson 74 = .ok (.aload_n 0, 1) ∧ decode cX9_addPerson 75 = .ok (.iload 4, 2) ∧ decode cX9_addPerson 77 = .ok (.iload 5, 2) ∧ decode cX9_addPerson 79 = .ok (.iconst 0, 1) ∧ decode cX9_addPerson 80 = .ok (.invokevirtual 77, 3) ∧ decode cX9_addPerson 83 = .ok (.aload_n 0, 1) ∧ decode cX9_addPerson 84 = .ok (.iload 5, 2) ∧ decode cX9_addPerson 86 = .ok (.iload 4, 2) ∧ decode cX9_addPerson 88 = .ok (.iconst 0, 1) := by decide +kernel
theorem dX9_addPerson_71 : decode cX9_addPerson 71 = .ok (.if_icmp .ge 27, 3) := zdc_247.1
theorem dX9_addPerson_74 : decode cX9_addPerson 74 = .ok (.aload_n 0, 1) := zdc_247.2.1
theorem dX9_addPerson_75 : decode cX9_addPerson 75 = .ok (.iload 4, 2) := zdc_247.2.2.1
theorem dX9_addPerson_77 : decode cX9_addPerson 77 = .ok (.iload 5, 2) := zdc_247.2.2.2.1
theorem dX9_addPerson_79 : decode cX9_addPerson 79 = .ok (.iconst 0, 1) := zdc_247.2.2.2.2.1
theorem dX9_addPerson_80 : decode cX9_addPerson 80 = .ok (.invokevirtual 77, 3) := zdc_247.2.2.2.2.2.1
theorem dX9_addPerson_83 : decode cX9_addPerson 83 = .ok (.aload_n 0, 1) := zdc_247.2.2.2.2.2.2.1
theorem dX9_addPerson_84 : decode cX9_addPerson 84 = .ok (.iload 5, 2) := zdc_247.2.2.2.2.2.2.2.1
theorem dX9_addPerson_86 : decode cX9_addPerson 86 = .ok (.iload 4, 2) := zdc_247.2.2.2.2.2.2.2.2.1
theorem dX9_addPerson_88 : decode cX9_addPerson 88 = .ok (.iconst 0, 1) := zdc_247.2.2.2.2.2.2.2.2.2
theorem zdc_248 : decode cX9_addPerson 89 = .ok (.invokevirtual 77, 3) ∧ decode cX9_addPerson 92 = .ok (.iinc 5 1, 3) ∧ decode cX9_addPerson 95 = .ok (.goto (-28), 3) ∧ decode cX9_addPerson 98 = .ok (.return_, 1) ∧ decode cX9_addWork 0 = .ok (.aload_n 0, 1) ∧ decode cX9_addWork 1 = .ok (.getfield 62, 3) ∧ decode cX9_addWork 4 = .ok (.istore 4, 2) ∧ decode cX9_addWork 6 = .ok (.iload 4, 2) ∧ decode cX9_addWork 8 = .ok (.bipush 6, 2) ∧ decode cX9_addWork 10 = .ok (.if_icmp .lt 4, 3) := by decide +kernel
theorem dX9_addPerson_89 : decode cX9_addPerson 89 = .ok (.invokevirtual 77, 3) := zdc_248.1
theorem dX9_addPerson_92 : decode cX9_addPerson 92 = .ok (.iinc 5 1, 3) := zdc_248.2.1
theorem dX9_addPerson_95 : decode cX9_addPerson 95 = .ok (.goto (-28), 3) := zdc_248.2.2.1
theorem dX9_addPerson_98 : decode cX9_addPerson 98 = .ok (.return_, 1) := zdc_248.2.2.2.1
theorem dX9_addWork_0 : decode cX9_addWork 0 = .ok (.aload_n 0, 1) := zdc_248.2.2.2.2.1
theorem dX9_addWork_1 : decode cX9_addWork 1 = .ok (.getfield 62, 3) := zdc_248.2.2.2.2.2.1
theorem dX9_addWork_4 : decode cX9_addWork 4 = .ok (.istore 4, 2) := zdc_248.2.2.2.2.2.2.1
theorem dX9_addWork_6 : decode cX9_addWork 6 = .ok (.iload 4, 2) := zdc_248.2.2.2.2.2.2.2.1
theorem dX9_addWork_8 : decode cX9_addWork 8 = .ok (.bipush 6, 2) := zdc_248.2.2.2.2.2.2.2.2.1
theorem dX9_addWork_10 : decode cX9_addWork 10 = .ok (.if_icmp .lt 4, 3) := zdc_248.2.2.2.2.2.2.2.2.2
theorem zdc_249 : decode cX9_addWork 13 = .ok (.return_, 1) ∧ decode cX9_addWork 14 = .ok (.aload_n 0, 1) ∧ decode cX9_addWork 15 = .ok (.dup, 1) ∧ decode cX9_addWork 16 = .ok (.getfield 62, 3) ∧ decode cX9_addWork 19 = .ok (.iconst 1, 1) ∧ decode cX9_addWork 20 = .ok (.iadd, 1) ∧ decode cX9_addWork 21 = .ok (.putfield 62, 3) ∧ decode cX9_addWork 24 = .ok (.aload_n 0, 1) ∧ decode cX9_addWork 25 = .ok (.getfield 44, 3) ∧ decode cX9_addWork 28 = .ok (.iload 4, 2) := by decide +kernel
theorem dX9_addWork_13 : decode cX9_addWork 13 = .ok (.return_, 1) := zdc_249.1
theorem dX9_addWork_14 : decode cX9_addWork 14 = .ok (.aload_n 0, 1) := zdc_249.2.1
theorem dX9_addWork_15 : decode cX9_addWork 15 = .ok (.dup, 1) := zdc_249.2.2.1
theorem dX9_addWork_16 : decode cX9_addWork 16 = .ok (.getfield 62, 3) := zdc_249.2.2.2.1
theorem dX9_addWork_19 : decode cX9_addWork 19 = .ok (.iconst 1, 1) := zdc_249.2.2.2.2.1
theorem dX9_addWork_20 : decode cX9_addWork 20 = .ok (.iadd, 1) := zdc_249.2.2.2.2.2.1
theorem dX9_addWork_21 : decode cX9_addWork 21 = .ok (.putfield 62, 3) := zdc_249.2.2.2.2.2.2.1
theorem dX9_addWork_24 : decode cX9_addWork 24 = .ok (.aload_n 0, 1) := zdc_249.2.2.2.2.2.2.2.1
theorem dX9_addWork_25 : decode cX9_addWork 25 = .ok (.getfield 44, 3) := zdc_249.2.2.2.2.2.2.2.2.1
theorem dX9_addWork_28 : decode cX9_addWork 28 = .ok (.iload 4, 2) := zdc_249.2.2.2.2.2.2.2.2.2
theorem zdc_250 : decode cX9_addWork 30 = .ok (.iload_n 1, 1) ∧ decode cX9_addWork 31 = .ok (.iastore, 1) ∧ decode cX9_addWork 32 = .ok (.aload_n 0, 1) ∧ decode cX9_addWork 33 = .ok (.getfield 47, 3) ∧ decode cX9_addWork 36 = .ok (.iload 4, 2) ∧ decode cX9_addWork 38 = .ok (.iload_n 2, 1) ∧ decode cX9_addWork 39 = .ok (.iastore, 1) ∧ decode cX9_addWork 40 = .ok (.aload_n 0, 1) ∧ decode cX9_addWork 41 = .ok (.getfield 50, 3) ∧ decode cX9_addWork 44 = .ok (.iload 4, 2) := by decide +kernel
theorem dX9_addWork_30 : decode cX9_addWork 30 = .ok (.iload_n 1, 1) := zdc_250.1
theorem dX9_addWork_31 : decode cX9_addWork 31 = .ok (.iastore, 1) := zdc_250.2.1
theorem dX9_addWork_32 : decode cX9_addWork 32 = .ok (.aload_n 0, 1) := zdc_250.2.2.1
theorem dX9_addWork_33 : decode cX9_addWork 33 = .ok (.getfield 47, 3) := zdc_250.2.2.2.1
theorem dX9_addWork_36 : decode cX9_addWork 36 = .ok (.iload 4, 2) := zdc_250.2.2.2.2.1
theorem dX9_addWork_38 : decode cX9_addWork 38 = .ok (.iload_n 2, 1) := zdc_250.2.2.2.2.2.1
theorem dX9_addWork_39 : decode cX9_addWork 39 = .ok (.iastore, 1) := zdc_250.2.2.2.2.2.2.1
theorem dX9_addWork_40 : decode cX9_addWork 40 = .ok (.aload_n 0, 1) := zdc_250.2.2.2.2.2.2.2.1
theorem dX9_addWork_41 : decode cX9_addWork 41 = .ok (.getfield 50, 3) := zdc_250.2.2.2.2.2.2.2.2.1
theorem dX9_addWork_44 : decode cX9_addWork 44 = .ok (.iload 4, 2) := zdc_250.2.2.2.2.2.2.2.2.2
theorem zdc_251 : decode cX9_addWork 46 = .ok (.iload_n 3, 1) ∧ decode cX9_addWork 47 = .ok (.iastore, 1) ∧ decode cX9_addWork 48 = .ok (.aload_n 0, 1) ∧ decode cX9_addWork 49 = .ok (.getfield 53, 3) ∧ decode cX9_addWork 52 = .ok (.iload 4, 2) ∧ decode cX9_addWork 54 = .ok (.iconst 0, 1) ∧ decode cX9_addWork 55 = .ok (.iastore, 1) ∧ decode cX9_addWork 56 = .ok (.return_, 1) ∧ decode cX9_trustOf 0 = .ok (.aload_n 0, 1) ∧ decode cX9_trustOf 1 = .ok (.getfield 41, 3) := by decide +kernel
theorem dX9_addWork_46 : decode cX9_addWork 46 = .ok (.iload_n 3, 1) := zdc_251.1
theorem dX9_addWork_47 : decode cX9_addWork 47 = .ok (.iastore, 1) := zdc_251.2.1
theorem dX9_addWork_48 : decode cX9_addWork 48 = .ok (.aload_n 0, 1) := zdc_251.2.2.1
theorem dX9_addWork_49 : decode cX9_addWork 49 = .ok (.getfield 53, 3) := zdc_251.2.2.2.1
theorem dX9_addWork_52 : decode cX9_addWork 52 = .ok (.iload 4, 2) := zdc_251.2.2.2.2.1
theorem dX9_addWork_54 : decode cX9_addWork 54 = .ok (.iconst 0, 1) := zdc_251.2.2.2.2.2.1
theorem dX9_addWork_55 : decode cX9_addWork 55 = .ok (.iastore, 1) := zdc_251.2.2.2.2.2.2.1
theorem dX9_addWork_56 : decode cX9_addWork 56 = .ok (.return_, 1) := zdc_251.2.2.2.2.2.2.2.1
theorem dX9_trustOf_0 : decode cX9_trustOf 0 = .ok (.aload_n 0, 1) := zdc_251.2.2.2.2.2.2.2.2.1
theorem dX9_trustOf_1 : decode cX9_trustOf 1 = .ok (.getfield 41, 3) := zdc_251.2.2.2.2.2.2.2.2.2
theorem zdc_252 : decode cX9_trustOf 4 = .ok (.iload_n 1, 1) ∧ decode cX9_trustOf 5 = .ok (.bipush 8, 2) ∧ decode cX9_trustOf 7 = .ok (.imul, 1) ∧ decode cX9_trustOf 8 = .ok (.iload_n 2, 1) ∧ decode cX9_trustOf 9 = .ok (.iadd, 1) ∧ decode cX9_trustOf 10 = .ok (.iaload, 1) ∧ decode cX9_trustOf 11 = .ok (.ireturn, 1) ∧ decode cX9_setTrust 0 = .ok (.aload_n 0, 1) ∧ decode cX9_setTrust 1 = .ok (.getfield 41, 3) ∧ decode cX9_setTrust 4 = .ok (.iload_n 1, 1) := by decide +kernel
theorem dX9_trustOf_4 : decode cX9_trustOf 4 = .ok (.iload_n 1, 1) := zdc_252.1
theorem dX9_trustOf_5 : decode cX9_trustOf 5 = .ok (.bipush 8, 2) := zdc_252.2.1
theorem dX9_trustOf_7 : decode cX9_trustOf 7 = .ok (.imul, 1) := zdc_252.2.2.1
theorem dX9_trustOf_8 : decode cX9_trustOf 8 = .ok (.iload_n 2, 1) := zdc_252.2.2.2.1
theorem dX9_trustOf_9 : decode cX9_trustOf 9 = .ok (.iadd, 1) := zdc_252.2.2.2.2.1
theorem dX9_trustOf_10 : decode cX9_trustOf 10 = .ok (.iaload, 1) := zdc_252.2.2.2.2.2.1
theorem dX9_trustOf_11 : decode cX9_trustOf 11 = .ok (.ireturn, 1) := zdc_252.2.2.2.2.2.2.1
theorem dX9_setTrust_0 : decode cX9_setTrust 0 = .ok (.aload_n 0, 1) := zdc_252.2.2.2.2.2.2.2.1
theorem dX9_setTrust_1 : decode cX9_setTrust 1 = .ok (.getfield 41, 3) := zdc_252.2.2.2.2.2.2.2.2.1
theorem dX9_setTrust_4 : decode cX9_setTrust 4 = .ok (.iload_n 1, 1) := zdc_252.2.2.2.2.2.2.2.2.2
theorem zdc_253 : decode cX9_setTrust 5 = .ok (.bipush 8, 2) ∧ decode cX9_setTrust 7 = .ok (.imul, 1) ∧ decode cX9_setTrust 8 = .ok (.iload_n 2, 1) ∧ decode cX9_setTrust 9 = .ok (.iadd, 1) ∧ decode cX9_setTrust 10 = .ok (.iload_n 3, 1) ∧ decode cX9_setTrust 11 = .ok (.iastore, 1) ∧ decode cX9_setTrust 12 = .ok (.return_, 1) ∧ decode cX9_isHere 0 = .ok (.aload_n 0, 1) ∧ decode cX9_isHere 1 = .ok (.getfield 34, 3) ∧ decode cX9_isHere 4 = .ok (.iload_n 1, 1) := by decide +kernel
theorem dX9_setTrust_5 : decode cX9_setTrust 5 = .ok (.bipush 8, 2) := zdc_253.1
theorem dX9_setTrust_7 : decode cX9_setTrust 7 = .ok (.imul, 1) := zdc_253.2.1
theorem dX9_setTrust_8 : decode cX9_setTrust 8 = .ok (.iload_n 2, 1) := zdc_253.2.2.1
theorem dX9_setTrust_9 : decode cX9_setTrust 9 = .ok (.iadd, 1) := zdc_253.2.2.2.1
theorem dX9_setTrust_10 : decode cX9_setTrust 10 = .ok (.iload_n 3, 1) := zdc_253.2.2.2.2.1
theorem dX9_setTrust_11 : decode cX9_setTrust 11 = .ok (.iastore, 1) := zdc_253.2.2.2.2.2.1
theorem dX9_setTrust_12 : decode cX9_setTrust 12 = .ok (.return_, 1) := zdc_253.2.2.2.2.2.2.1
theorem dX9_isHere_0 : decode cX9_isHere 0 = .ok (.aload_n 0, 1) := zdc_253.2.2.2.2.2.2.2.1
theorem dX9_isHere_1 : decode cX9_isHere 1 = .ok (.getfield 34, 3) := zdc_253.2.2.2.2.2.2.2.2.1
theorem dX9_isHere_4 : decode cX9_isHere 4 = .ok (.iload_n 1, 1) := zdc_253.2.2.2.2.2.2.2.2.2
theorem zdc_254 : decode cX9_isHere 5 = .ok (.iaload, 1) ∧ decode cX9_isHere 6 = .ok (.iconst (-1), 1) ∧ decode cX9_isHere 7 = .ok (.if_icmp .ne 7, 3) ∧ decode cX9_isHere 10 = .ok (.iconst 1, 1) ∧ decode cX9_isHere 11 = .ok (.goto 4, 3) ∧ decode cX9_isHere 14 = .ok (.iconst 0, 1) ∧ decode cX9_isHere 15 = .ok (.ireturn, 1) ∧ decode cX9_peopleHere 0 = .ok (.iconst 0, 1) ∧ decode cX9_peopleHere 1 = .ok (.istore_n 1, 1) ∧ decode cX9_peopleHere 2 = .ok (.iconst 0, 1) := by decide +kernel
theorem dX9_isHere_5 : decode cX9_isHere 5 = .ok (.iaload, 1) := zdc_254.1
theorem dX9_isHere_6 : decode cX9_isHere 6 = .ok (.iconst (-1), 1) := zdc_254.2.1
theorem dX9_isHere_7 : decode cX9_isHere 7 = .ok (.if_icmp .ne 7, 3) := zdc_254.2.2.1
theorem dX9_isHere_10 : decode cX9_isHere 10 = .ok (.iconst 1, 1) := zdc_254.2.2.2.1
theorem dX9_isHere_11 : decode cX9_isHere 11 = .ok (.goto 4, 3) := zdc_254.2.2.2.2.1
theorem dX9_isHere_14 : decode cX9_isHere 14 = .ok (.iconst 0, 1) := zdc_254.2.2.2.2.2.1
theorem dX9_isHere_15 : decode cX9_isHere 15 = .ok (.ireturn, 1) := zdc_254.2.2.2.2.2.2.1
theorem dX9_peopleHere_0 : decode cX9_peopleHere 0 = .ok (.iconst 0, 1) := zdc_254.2.2.2.2.2.2.2.1
theorem dX9_peopleHere_1 : decode cX9_peopleHere 1 = .ok (.istore_n 1, 1) := zdc_254.2.2.2.2.2.2.2.2.1
theorem dX9_peopleHere_2 : decode cX9_peopleHere 2 = .ok (.iconst 0, 1) := zdc_254.2.2.2.2.2.2.2.2.2
theorem zdc_255 : decode cX9_peopleHere 3 = .ok (.istore_n 2, 1) ∧ decode cX9_peopleHere 4 = .ok (.iload_n 2, 1) ∧ decode cX9_peopleHere 5 = .ok (.aload_n 0, 1) ∧ decode cX9_peopleHere 6 = .ok (.getfield 59, 3) ∧ decode cX9_peopleHere 9 = .ok (.if_icmp .ge 23, 3) ∧ decode cX9_peopleHere 12 = .ok (.aload_n 0, 1) ∧ decode cX9_peopleHere 13 = .ok (.iload_n 2, 1) ∧ decode cX9_peopleHere 14 = .ok (.invokevirtual 81, 3) ∧ decode cX9_peopleHere 17 = .ok (.ifCond .eq 9, 3) := by decide +kernel
theorem dX9_peopleHere_3 : decode cX9_peopleHere 3 = .ok (.istore_n 2, 1) := zdc_255.1
theorem dX9_peopleHere_4 : decode cX9_peopleHere 4 = .ok (.iload_n 2, 1) := zdc_255.2.1
theorem dX9_peopleHere_5 : decode cX9_peopleHere 5 = .ok (.aload_n 0, 1) := zdc_255.2.2.1
theorem dX9_peopleHere_6 : decode cX9_peopleHere 6 = .ok (.getfield 59, 3) := zdc_255.2.2.2.1
theorem dX9_peopleHere_9 : decode cX9_peopleHere 9 = .ok (.if_icmp .ge 23, 3) := zdc_255.2.2.2.2.1
theorem dX9_peopleHere_12 : decode cX9_peopleHere 12 = .ok (.aload_n 0, 1) := zdc_255.2.2.2.2.2.1
theorem dX9_peopleHere_13 : decode cX9_peopleHere 13 = .ok (.iload_n 2, 1) := zdc_255.2.2.2.2.2.2.1
theorem dX9_peopleHere_14 : decode cX9_peopleHere 14 = .ok (.invokevirtual 81, 3) := zdc_255.2.2.2.2.2.2.2.1
theorem dX9_peopleHere_17 : decode cX9_peopleHere 17 = .ok (.ifCond .eq 9, 3) := zdc_255.2.2.2.2.2.2.2.2
