theorem zdc_256 : decode cX9_peopleHere 20 = .ok (.iload_n 1, 1) ∧ decode cX9_peopleHere 21 = .ok (.iconst 1, 1) ∧ decode cX9_peopleHere 22 = .ok (.iload_n 2, 1) ∧ decode cX9_peopleHere 23 = .ok (.ishl, 1) ∧ decode cX9_peopleHere 24 = .ok (.ior, 1) ∧ decode cX9_peopleHere 25 = .ok (.istore_n 1, 1) ∧ decode cX9_peopleHere 26 = .ok (.iinc 2 1, 3) ∧ decode cX9_peopleHere 29 = .ok (.goto (-25), 3) ∧ decode cX9_peopleHere 32 = .ok (.iload_n 1, 1) ∧ decode cX9_peopleHere 33 = .ok (.ireturn, 1) := by decide +kernel
theorem dX9_peopleHere_20 : decode cX9_peopleHere 20 = .ok (.iload_n 1, 1) := zdc_256.1
theorem dX9_peopleHere_21 : decode cX9_peopleHere 21 = .ok (.iconst 1, 1) := zdc_256.2.1
theorem dX9_peopleHere_22 : decode cX9_peopleHere 22 = .ok (.iload_n 2, 1) := zdc_256.2.2.1
theorem dX9_peopleHere_23 : decode cX9_peopleHere 23 = .ok (.ishl, 1) := zdc_256.2.2.2.1
theorem dX9_peopleHere_24 : decode cX9_peopleHere 24 = .ok (.ior, 1) := zdc_256.2.2.2.2.1
theorem dX9_peopleHere_25 : decode cX9_peopleHere 25 = .ok (.istore_n 1, 1) := zdc_256.2.2.2.2.2.1
theorem dX9_peopleHere_26 : decode cX9_peopleHere 26 = .ok (.iinc 2 1, 3) := zdc_256.2.2.2.2.2.2.1
theorem dX9_peopleHere_29 : decode cX9_peopleHere 29 = .ok (.goto (-25), 3) := zdc_256.2.2.2.2.2.2.2.1
theorem dX9_peopleHere_32 : decode cX9_peopleHere 32 = .ok (.iload_n 1, 1) := zdc_256.2.2.2.2.2.2.2.2.1
theorem dX9_peopleHere_33 : decode cX9_peopleHere 33 = .ok (.ireturn, 1) := zdc_256.2.2.2.2.2.2.2.2.2
theorem zdc_257 : decode cX9_believed 0 = .ok (.iconst 0, 1) ∧ decode cX9_believed 1 = .ok (.istore_n 1, 1) ∧ decode cX9_believed 2 = .ok (.iconst 0, 1) ∧ decode cX9_believed 3 = .ok (.istore_n 2, 1) ∧ decode cX9_believed 4 = .ok (.iload_n 2, 1) ∧ decode cX9_believed 5 = .ok (.aload_n 0, 1) ∧ decode cX9_believed 6 = .ok (.getfield 59, 3) ∧ decode cX9_believed 9 = .ok (.if_icmp .ge 26, 3) ∧ decode cX9_believed 12 = .ok (.aload_n 0, 1) ∧ decode cX9_believed 13 = .ok (.iload_n 2, 1) := by decide +kernel
theorem dX9_believed_0 : decode cX9_believed 0 = .ok (.iconst 0, 1) := zdc_257.1
theorem dX9_believed_1 : decode cX9_believed 1 = .ok (.istore_n 1, 1) := zdc_257.2.1
theorem dX9_believed_2 : decode cX9_believed 2 = .ok (.iconst 0, 1) := zdc_257.2.2.1
theorem dX9_believed_3 : decode cX9_believed 3 = .ok (.istore_n 2, 1) := zdc_257.2.2.2.1
theorem dX9_believed_4 : decode cX9_believed 4 = .ok (.iload_n 2, 1) := zdc_257.2.2.2.2.1
theorem dX9_believed_5 : decode cX9_believed 5 = .ok (.aload_n 0, 1) := zdc_257.2.2.2.2.2.1
theorem dX9_believed_6 : decode cX9_believed 6 = .ok (.getfield 59, 3) := zdc_257.2.2.2.2.2.2.1
theorem dX9_believed_9 : decode cX9_believed 9 = .ok (.if_icmp .ge 26, 3) := zdc_257.2.2.2.2.2.2.2.1
theorem dX9_believed_12 : decode cX9_believed 12 = .ok (.aload_n 0, 1) := zdc_257.2.2.2.2.2.2.2.2.1
theorem dX9_believed_13 : decode cX9_believed 13 = .ok (.iload_n 2, 1) := zdc_257.2.2.2.2.2.2.2.2.2
theorem zdc_258 : decode cX9_believed 14 = .ok (.invokevirtual 81, 3) ∧ decode cX9_believed 17 = .ok (.ifCond .eq 12, 3) ∧ decode cX9_believed 20 = .ok (.iload_n 1, 1) ∧ decode cX9_believed 21 = .ok (.aload_n 0, 1) ∧ decode cX9_believed 22 = .ok (.getfield 24, 3) ∧ decode cX9_believed 25 = .ok (.iload_n 2, 1) ∧ decode cX9_believed 26 = .ok (.iaload, 1) ∧ decode cX9_believed 27 = .ok (.iadd, 1) ∧ decode cX9_believed 28 = .ok (.istore_n 1, 1) ∧ decode cX9_believed 29 = .ok (.iinc 2 1, 3) := by decide +kernel
theorem dX9_believed_14 : decode cX9_believed 14 = .ok (.invokevirtual 81, 3) := zdc_258.1
theorem dX9_believed_17 : decode cX9_believed 17 = .ok (.ifCond .eq 12, 3) := zdc_258.2.1
theorem dX9_believed_20 : decode cX9_believed 20 = .ok (.iload_n 1, 1) := zdc_258.2.2.1
theorem dX9_believed_21 : decode cX9_believed 21 = .ok (.aload_n 0, 1) := zdc_258.2.2.2.1
theorem dX9_believed_22 : decode cX9_believed 22 = .ok (.getfield 24, 3) := zdc_258.2.2.2.2.1
theorem dX9_believed_25 : decode cX9_believed 25 = .ok (.iload_n 2, 1) := zdc_258.2.2.2.2.2.1
theorem dX9_believed_26 : decode cX9_believed 26 = .ok (.iaload, 1) := zdc_258.2.2.2.2.2.2.1
theorem dX9_believed_27 : decode cX9_believed 27 = .ok (.iadd, 1) := zdc_258.2.2.2.2.2.2.2.1
theorem dX9_believed_28 : decode cX9_believed 28 = .ok (.istore_n 1, 1) := zdc_258.2.2.2.2.2.2.2.2.1
theorem dX9_believed_29 : decode cX9_believed 29 = .ok (.iinc 2 1, 3) := zdc_258.2.2.2.2.2.2.2.2.2
theorem zdc_259 : decode cX9_believed 32 = .ok (.goto (-28), 3) ∧ decode cX9_believed 35 = .ok (.iload_n 1, 1) ∧ decode cX9_believed 36 = .ok (.ireturn, 1) ∧ decode cX9_meanBelief 0 = .ok (.aload_n 0, 1) ∧ decode cX9_meanBelief 1 = .ok (.invokevirtual 85, 3) ∧ decode cX9_meanBelief 4 = .ok (.invokestatic 89, 3) ∧ decode cX9_meanBelief 7 = .ok (.istore_n 1, 1) ∧ decode cX9_meanBelief 8 = .ok (.iload_n 1, 1) ∧ decode cX9_meanBelief 9 = .ok (.ifCond .ne 7, 3) ∧ decode cX9_meanBelief 12 = .ok (.iconst 0, 1) := by decide +kernel
theorem dX9_believed_32 : decode cX9_believed 32 = .ok (.goto (-28), 3) := zdc_259.1
theorem dX9_believed_35 : decode cX9_believed 35 = .ok (.iload_n 1, 1) := zdc_259.2.1
theorem dX9_believed_36 : decode cX9_believed 36 = .ok (.ireturn, 1) := zdc_259.2.2.1
theorem dX9_meanBelief_0 : decode cX9_meanBelief 0 = .ok (.aload_n 0, 1) := zdc_259.2.2.2.1
theorem dX9_meanBelief_1 : decode cX9_meanBelief 1 = .ok (.invokevirtual 85, 3) := zdc_259.2.2.2.2.1
theorem dX9_meanBelief_4 : decode cX9_meanBelief 4 = .ok (.invokestatic 89, 3) := zdc_259.2.2.2.2.2.1
theorem dX9_meanBelief_7 : decode cX9_meanBelief 7 = .ok (.istore_n 1, 1) := zdc_259.2.2.2.2.2.2.1
theorem dX9_meanBelief_8 : decode cX9_meanBelief 8 = .ok (.iload_n 1, 1) := zdc_259.2.2.2.2.2.2.2.1
theorem dX9_meanBelief_9 : decode cX9_meanBelief 9 = .ok (.ifCond .ne 7, 3) := zdc_259.2.2.2.2.2.2.2.2.1
theorem dX9_meanBelief_12 : decode cX9_meanBelief 12 = .ok (.iconst 0, 1) := zdc_259.2.2.2.2.2.2.2.2.2
theorem zdc_260 : decode cX9_meanBelief 13 = .ok (.goto 9, 3) ∧ decode cX9_meanBelief 16 = .ok (.aload_n 0, 1) ∧ decode cX9_meanBelief 17 = .ok (.invokevirtual 95, 3) ∧ decode cX9_meanBelief 20 = .ok (.iload_n 1, 1) ∧ decode cX9_meanBelief 21 = .ok (.idiv, 1) ∧ decode cX9_meanBelief 22 = .ok (.ireturn, 1) ∧ decode cX9_sharePrice 0 = .ok (.aload_n 0, 1) ∧ decode cX9_sharePrice 1 = .ok (.invokevirtual 98, 3) ∧ decode cX9_sharePrice 4 = .ok (.istore_n 1, 1) ∧ decode cX9_sharePrice 5 = .ok (.iload_n 1, 1) := by decide +kernel
theorem dX9_meanBelief_13 : decode cX9_meanBelief 13 = .ok (.goto 9, 3) := zdc_260.1
theorem dX9_meanBelief_16 : decode cX9_meanBelief 16 = .ok (.aload_n 0, 1) := zdc_260.2.1
theorem dX9_meanBelief_17 : decode cX9_meanBelief 17 = .ok (.invokevirtual 95, 3) := zdc_260.2.2.1
theorem dX9_meanBelief_20 : decode cX9_meanBelief 20 = .ok (.iload_n 1, 1) := zdc_260.2.2.2.1
theorem dX9_meanBelief_21 : decode cX9_meanBelief 21 = .ok (.idiv, 1) := zdc_260.2.2.2.2.1
theorem dX9_meanBelief_22 : decode cX9_meanBelief 22 = .ok (.ireturn, 1) := zdc_260.2.2.2.2.2.1
theorem dX9_sharePrice_0 : decode cX9_sharePrice 0 = .ok (.aload_n 0, 1) := zdc_260.2.2.2.2.2.2.1
theorem dX9_sharePrice_1 : decode cX9_sharePrice 1 = .ok (.invokevirtual 98, 3) := zdc_260.2.2.2.2.2.2.2.1
theorem dX9_sharePrice_4 : decode cX9_sharePrice 4 = .ok (.istore_n 1, 1) := zdc_260.2.2.2.2.2.2.2.2.1
theorem dX9_sharePrice_5 : decode cX9_sharePrice 5 = .ok (.iload_n 1, 1) := zdc_260.2.2.2.2.2.2.2.2.2
theorem zdc_261 : decode cX9_sharePrice 6 = .ok (.iload_n 1, 1) ∧ decode cX9_sharePrice 7 = .ok (.imul, 1) ∧ decode cX9_sharePrice 8 = .ok (.bipush 50, 2) ∧ decode cX9_sharePrice 10 = .ok (.idiv, 1) ∧ decode cX9_sharePrice 11 = .ok (.iconst 1, 1) ∧ decode cX9_sharePrice 12 = .ok (.iadd, 1) ∧ decode cX9_sharePrice 13 = .ok (.ireturn, 1) ∧ decode cX9_pullOf 0 = .ok (.iconst 0, 1) ∧ decode cX9_pullOf 1 = .ok (.istore_n 2, 1) ∧ decode cX9_pullOf 2 = .ok (.iconst 0, 1) := by decide +kernel
theorem dX9_sharePrice_6 : decode cX9_sharePrice 6 = .ok (.iload_n 1, 1) := zdc_261.1
theorem dX9_sharePrice_7 : decode cX9_sharePrice 7 = .ok (.imul, 1) := zdc_261.2.1
theorem dX9_sharePrice_8 : decode cX9_sharePrice 8 = .ok (.bipush 50, 2) := zdc_261.2.2.1
theorem dX9_sharePrice_10 : decode cX9_sharePrice 10 = .ok (.idiv, 1) := zdc_261.2.2.2.1
theorem dX9_sharePrice_11 : decode cX9_sharePrice 11 = .ok (.iconst 1, 1) := zdc_261.2.2.2.2.1
theorem dX9_sharePrice_12 : decode cX9_sharePrice 12 = .ok (.iadd, 1) := zdc_261.2.2.2.2.2.1
theorem dX9_sharePrice_13 : decode cX9_sharePrice 13 = .ok (.ireturn, 1) := zdc_261.2.2.2.2.2.2.1
theorem dX9_pullOf_0 : decode cX9_pullOf 0 = .ok (.iconst 0, 1) := zdc_261.2.2.2.2.2.2.2.1
theorem dX9_pullOf_1 : decode cX9_pullOf 1 = .ok (.istore_n 2, 1) := zdc_261.2.2.2.2.2.2.2.2.1
theorem dX9_pullOf_2 : decode cX9_pullOf 2 = .ok (.iconst 0, 1) := zdc_261.2.2.2.2.2.2.2.2.2
theorem zdc_262 : decode cX9_pullOf 3 = .ok (.istore_n 3, 1) ∧ decode cX9_pullOf 4 = .ok (.iload_n 3, 1) ∧ decode cX9_pullOf 5 = .ok (.aload_n 0, 1) ∧ decode cX9_pullOf 6 = .ok (.getfield 59, 3) ∧ decode cX9_pullOf 9 = .ok (.if_icmp .ge 45, 3) ∧ decode cX9_pullOf 12 = .ok (.iload_n 3, 1) ∧ decode cX9_pullOf 13 = .ok (.iload_n 1, 1) ∧ decode cX9_pullOf 14 = .ok (.if_icmp .eq 34, 3) ∧ decode cX9_pullOf 17 = .ok (.aload_n 0, 1) ∧ decode cX9_pullOf 18 = .ok (.iload_n 3, 1) := by decide +kernel
theorem dX9_pullOf_3 : decode cX9_pullOf 3 = .ok (.istore_n 3, 1) := zdc_262.1
theorem dX9_pullOf_4 : decode cX9_pullOf 4 = .ok (.iload_n 3, 1) := zdc_262.2.1
theorem dX9_pullOf_5 : decode cX9_pullOf 5 = .ok (.aload_n 0, 1) := zdc_262.2.2.1
theorem dX9_pullOf_6 : decode cX9_pullOf 6 = .ok (.getfield 59, 3) := zdc_262.2.2.2.1
theorem dX9_pullOf_9 : decode cX9_pullOf 9 = .ok (.if_icmp .ge 45, 3) := zdc_262.2.2.2.2.1
theorem dX9_pullOf_12 : decode cX9_pullOf 12 = .ok (.iload_n 3, 1) := zdc_262.2.2.2.2.2.1
theorem dX9_pullOf_13 : decode cX9_pullOf 13 = .ok (.iload_n 1, 1) := zdc_262.2.2.2.2.2.2.1
theorem dX9_pullOf_14 : decode cX9_pullOf 14 = .ok (.if_icmp .eq 34, 3) := zdc_262.2.2.2.2.2.2.2.1
theorem dX9_pullOf_17 : decode cX9_pullOf 17 = .ok (.aload_n 0, 1) := zdc_262.2.2.2.2.2.2.2.2.1
theorem dX9_pullOf_18 : decode cX9_pullOf 18 = .ok (.iload_n 3, 1) := zdc_262.2.2.2.2.2.2.2.2.2
theorem zdc_263 : decode cX9_pullOf 19 = .ok (.invokevirtual 81, 3) ∧ decode cX9_pullOf 22 = .ok (.ifCond .eq 26, 3) ∧ decode cX9_pullOf 25 = .ok (.iload_n 2, 1) ∧ decode cX9_pullOf 26 = .ok (.aload_n 0, 1) ∧ decode cX9_pullOf 27 = .ok (.iload_n 1, 1) ∧ decode cX9_pullOf 28 = .ok (.iload_n 3, 1) ∧ decode cX9_pullOf 29 = .ok (.invokevirtual 101, 3) ∧ decode cX9_pullOf 32 = .ok (.aload_n 0, 1) ∧ decode cX9_pullOf 33 = .ok (.getfield 24, 3) ∧ decode cX9_pullOf 36 = .ok (.iload_n 3, 1) := by decide +kernel
theorem dX9_pullOf_19 : decode cX9_pullOf 19 = .ok (.invokevirtual 81, 3) := zdc_263.1
theorem dX9_pullOf_22 : decode cX9_pullOf 22 = .ok (.ifCond .eq 26, 3) := zdc_263.2.1
theorem dX9_pullOf_25 : decode cX9_pullOf 25 = .ok (.iload_n 2, 1) := zdc_263.2.2.1
theorem dX9_pullOf_26 : decode cX9_pullOf 26 = .ok (.aload_n 0, 1) := zdc_263.2.2.2.1
theorem dX9_pullOf_27 : decode cX9_pullOf 27 = .ok (.iload_n 1, 1) := zdc_263.2.2.2.2.1
theorem dX9_pullOf_28 : decode cX9_pullOf 28 = .ok (.iload_n 3, 1) := zdc_263.2.2.2.2.2.1
theorem dX9_pullOf_29 : decode cX9_pullOf 29 = .ok (.invokevirtual 101, 3) := zdc_263.2.2.2.2.2.2.1
theorem dX9_pullOf_32 : decode cX9_pullOf 32 = .ok (.aload_n 0, 1) := zdc_263.2.2.2.2.2.2.2.1
theorem dX9_pullOf_33 : decode cX9_pullOf 33 = .ok (.getfield 24, 3) := zdc_263.2.2.2.2.2.2.2.2.1
theorem dX9_pullOf_36 : decode cX9_pullOf 36 = .ok (.iload_n 3, 1) := zdc_263.2.2.2.2.2.2.2.2.2
theorem zdc_264 : decode cX9_pullOf 37 = .ok (.iaload, 1) ∧ decode cX9_pullOf 38 = .ok (.aload_n 0, 1) ∧ decode cX9_pullOf 39 = .ok (.getfield 24, 3) ∧ decode cX9_pullOf 42 = .ok (.iload_n 1, 1) ∧ decode cX9_pullOf 43 = .ok (.iaload, 1) ∧ decode cX9_pullOf 44 = .ok (.isub, 1) ∧ decode cX9_pullOf 45 = .ok (.imul, 1) ∧ decode cX9_pullOf 46 = .ok (.iadd, 1) ∧ decode cX9_pullOf 47 = .ok (.istore_n 2, 1) ∧ decode cX9_pullOf 48 = .ok (.iinc 3 1, 3) := by decide +kernel
theorem dX9_pullOf_37 : decode cX9_pullOf 37 = .ok (.iaload, 1) := zdc_264.1
theorem dX9_pullOf_38 : decode cX9_pullOf 38 = .ok (.aload_n 0, 1) := zdc_264.2.1
theorem dX9_pullOf_39 : decode cX9_pullOf 39 = .ok (.getfield 24, 3) := zdc_264.2.2.1
theorem dX9_pullOf_42 : decode cX9_pullOf 42 = .ok (.iload_n 1, 1) := zdc_264.2.2.2.1
theorem dX9_pullOf_43 : decode cX9_pullOf 43 = .ok (.iaload, 1) := zdc_264.2.2.2.2.1
theorem dX9_pullOf_44 : decode cX9_pullOf 44 = .ok (.isub, 1) := zdc_264.2.2.2.2.2.1
theorem dX9_pullOf_45 : decode cX9_pullOf 45 = .ok (.imul, 1) := zdc_264.2.2.2.2.2.2.1
theorem dX9_pullOf_46 : decode cX9_pullOf 46 = .ok (.iadd, 1) := zdc_264.2.2.2.2.2.2.2.1
theorem dX9_pullOf_47 : decode cX9_pullOf 47 = .ok (.istore_n 2, 1) := zdc_264.2.2.2.2.2.2.2.2.1
theorem dX9_pullOf_48 : decode cX9_pullOf 48 = .ok (.iinc 3 1, 3) := zdc_264.2.2.2.2.2.2.2.2.2
theorem zdc_265 : decode cX9_pullOf 51 = .ok (.goto (-47), 3) ∧ decode cX9_pullOf 54 = .ok (.iload_n 2, 1) ∧ decode cX9_pullOf 55 = .ok (.bipush 40, 2) ∧ decode cX9_pullOf 57 = .ok (.idiv, 1) ∧ decode cX9_pullOf 58 = .ok (.ireturn, 1) ∧ decode cX9_tiesOf 0 = .ok (.iconst 0, 1) ∧ decode cX9_tiesOf 1 = .ok (.istore_n 2, 1) ∧ decode cX9_tiesOf 2 = .ok (.iconst 0, 1) ∧ decode cX9_tiesOf 3 = .ok (.istore_n 3, 1) ∧ decode cX9_tiesOf 4 = .ok (.iload_n 3, 1) := by decide +kernel
theorem dX9_pullOf_51 : decode cX9_pullOf 51 = .ok (.goto (-47), 3) := zdc_265.1
theorem dX9_pullOf_54 : decode cX9_pullOf 54 = .ok (.iload_n 2, 1) := zdc_265.2.1
theorem dX9_pullOf_55 : decode cX9_pullOf 55 = .ok (.bipush 40, 2) := zdc_265.2.2.1
theorem dX9_pullOf_57 : decode cX9_pullOf 57 = .ok (.idiv, 1) := zdc_265.2.2.2.1
theorem dX9_pullOf_58 : decode cX9_pullOf 58 = .ok (.ireturn, 1) := zdc_265.2.2.2.2.1
theorem dX9_tiesOf_0 : decode cX9_tiesOf 0 = .ok (.iconst 0, 1) := zdc_265.2.2.2.2.2.1
theorem dX9_tiesOf_1 : decode cX9_tiesOf 1 = .ok (.istore_n 2, 1) := zdc_265.2.2.2.2.2.2.1
theorem dX9_tiesOf_2 : decode cX9_tiesOf 2 = .ok (.iconst 0, 1) := zdc_265.2.2.2.2.2.2.2.1
theorem dX9_tiesOf_3 : decode cX9_tiesOf 3 = .ok (.istore_n 3, 1) := zdc_265.2.2.2.2.2.2.2.2.1
theorem dX9_tiesOf_4 : decode cX9_tiesOf 4 = .ok (.iload_n 3, 1) := zdc_265.2.2.2.2.2.2.2.2.2
theorem zdc_266 : decode cX9_tiesOf 5 = .ok (.aload_n 0, 1) ∧ decode cX9_tiesOf 6 = .ok (.getfield 59, 3) ∧ decode cX9_tiesOf 9 = .ok (.if_icmp .ge 31, 3) ∧ decode cX9_tiesOf 12 = .ok (.iload_n 3, 1) ∧ decode cX9_tiesOf 13 = .ok (.iload_n 1, 1) ∧ decode cX9_tiesOf 14 = .ok (.if_icmp .eq 20, 3) ∧ decode cX9_tiesOf 17 = .ok (.aload_n 0, 1) ∧ decode cX9_tiesOf 18 = .ok (.getfield 41, 3) ∧ decode cX9_tiesOf 21 = .ok (.iload_n 1, 1) ∧ decode cX9_tiesOf 22 = .ok (.bipush 8, 2) := by decide +kernel
theorem dX9_tiesOf_5 : decode cX9_tiesOf 5 = .ok (.aload_n 0, 1) := zdc_266.1
theorem dX9_tiesOf_6 : decode cX9_tiesOf 6 = .ok (.getfield 59, 3) := zdc_266.2.1
theorem dX9_tiesOf_9 : decode cX9_tiesOf 9 = .ok (.if_icmp .ge 31, 3) := zdc_266.2.2.1
theorem dX9_tiesOf_12 : decode cX9_tiesOf 12 = .ok (.iload_n 3, 1) := zdc_266.2.2.2.1
theorem dX9_tiesOf_13 : decode cX9_tiesOf 13 = .ok (.iload_n 1, 1) := zdc_266.2.2.2.2.1
theorem dX9_tiesOf_14 : decode cX9_tiesOf 14 = .ok (.if_icmp .eq 20, 3) := zdc_266.2.2.2.2.2.1
theorem dX9_tiesOf_17 : decode cX9_tiesOf 17 = .ok (.aload_n 0, 1) := zdc_266.2.2.2.2.2.2.1
theorem dX9_tiesOf_18 : decode cX9_tiesOf 18 = .ok (.getfield 41, 3) := zdc_266.2.2.2.2.2.2.2.1
theorem dX9_tiesOf_21 : decode cX9_tiesOf 21 = .ok (.iload_n 1, 1) := zdc_266.2.2.2.2.2.2.2.2.1
theorem dX9_tiesOf_22 : decode cX9_tiesOf 22 = .ok (.bipush 8, 2) := zdc_266.2.2.2.2.2.2.2.2.2
theorem zdc_267 : decode cX9_tiesOf 24 = .ok (.imul, 1) ∧ decode cX9_tiesOf 25 = .ok (.iload_n 3, 1) ∧ decode cX9_tiesOf 26 = .ok (.iadd, 1) ∧ decode cX9_tiesOf 27 = .ok (.iaload, 1) ∧ decode cX9_tiesOf 28 = .ok (.ifCond .le 6, 3) ∧ decode cX9_tiesOf 31 = .ok (.iinc 2 1, 3) ∧ decode cX9_tiesOf 34 = .ok (.iinc 3 1, 3) ∧ decode cX9_tiesOf 37 = .ok (.goto (-33), 3) ∧ decode cX9_tiesOf 40 = .ok (.iload_n 2, 1) ∧ decode cX9_tiesOf 41 = .ok (.ireturn, 1) := by decide +kernel
theorem dX9_tiesOf_24 : decode cX9_tiesOf 24 = .ok (.imul, 1) := zdc_267.1
theorem dX9_tiesOf_25 : decode cX9_tiesOf 25 = .ok (.iload_n 3, 1) := zdc_267.2.1
theorem dX9_tiesOf_26 : decode cX9_tiesOf 26 = .ok (.iadd, 1) := zdc_267.2.2.1
theorem dX9_tiesOf_27 : decode cX9_tiesOf 27 = .ok (.iaload, 1) := zdc_267.2.2.2.1
theorem dX9_tiesOf_28 : decode cX9_tiesOf 28 = .ok (.ifCond .le 6, 3) := zdc_267.2.2.2.2.1
theorem dX9_tiesOf_31 : decode cX9_tiesOf 31 = .ok (.iinc 2 1, 3) := zdc_267.2.2.2.2.2.1
theorem dX9_tiesOf_34 : decode cX9_tiesOf 34 = .ok (.iinc 3 1, 3) := zdc_267.2.2.2.2.2.2.1
theorem dX9_tiesOf_37 : decode cX9_tiesOf 37 = .ok (.goto (-33), 3) := zdc_267.2.2.2.2.2.2.2.1
theorem dX9_tiesOf_40 : decode cX9_tiesOf 40 = .ok (.iload_n 2, 1) := zdc_267.2.2.2.2.2.2.2.2.1
theorem dX9_tiesOf_41 : decode cX9_tiesOf 41 = .ok (.ireturn, 1) := zdc_267.2.2.2.2.2.2.2.2.2
theorem zdc_268 : decode cX9_worthOf 0 = .ok (.aload_n 0, 1) ∧ decode cX9_worthOf 1 = .ok (.getfield 28, 3) ∧ decode cX9_worthOf 4 = .ok (.iload_n 1, 1) ∧ decode cX9_worthOf 5 = .ok (.iaload, 1) ∧ decode cX9_worthOf 6 = .ok (.aload_n 0, 1) ∧ decode cX9_worthOf 7 = .ok (.getfield 31, 3) ∧ decode cX9_worthOf 10 = .ok (.iload_n 1, 1) ∧ decode cX9_worthOf 11 = .ok (.iaload, 1) ∧ decode cX9_worthOf 12 = .ok (.aload_n 0, 1) ∧ decode cX9_worthOf 13 = .ok (.invokevirtual 105, 3) := by decide +kernel
theorem dX9_worthOf_0 : decode cX9_worthOf 0 = .ok (.aload_n 0, 1) := zdc_268.1
theorem dX9_worthOf_1 : decode cX9_worthOf 1 = .ok (.getfield 28, 3) := zdc_268.2.1
theorem dX9_worthOf_4 : decode cX9_worthOf 4 = .ok (.iload_n 1, 1) := zdc_268.2.2.1
theorem dX9_worthOf_5 : decode cX9_worthOf 5 = .ok (.iaload, 1) := zdc_268.2.2.2.1
theorem dX9_worthOf_6 : decode cX9_worthOf 6 = .ok (.aload_n 0, 1) := zdc_268.2.2.2.2.1
theorem dX9_worthOf_7 : decode cX9_worthOf 7 = .ok (.getfield 31, 3) := zdc_268.2.2.2.2.2.1
theorem dX9_worthOf_10 : decode cX9_worthOf 10 = .ok (.iload_n 1, 1) := zdc_268.2.2.2.2.2.2.1
theorem dX9_worthOf_11 : decode cX9_worthOf 11 = .ok (.iaload, 1) := zdc_268.2.2.2.2.2.2.2.1
theorem dX9_worthOf_12 : decode cX9_worthOf 12 = .ok (.aload_n 0, 1) := zdc_268.2.2.2.2.2.2.2.2.1
theorem dX9_worthOf_13 : decode cX9_worthOf 13 = .ok (.invokevirtual 105, 3) := zdc_268.2.2.2.2.2.2.2.2.2
theorem zdc_269 : decode cX9_worthOf 16 = .ok (.imul, 1) ∧ decode cX9_worthOf 17 = .ok (.iadd, 1) ∧ decode cX9_worthOf 18 = .ok (.ireturn, 1) ∧ decode cX9_shareOf 0 = .ok (.aload_n 0, 1) ∧ decode cX9_shareOf 1 = .ok (.invokevirtual 95, 3) ∧ decode cX9_shareOf 4 = .ok (.istore_n 2, 1) ∧ decode cX9_shareOf 5 = .ok (.iload_n 2, 1) ∧ decode cX9_shareOf 6 = .ok (.ifCond .eq 11, 3) ∧ decode cX9_shareOf 9 = .ok (.aload_n 0, 1) ∧ decode cX9_shareOf 10 = .ok (.iload_n 1, 1) := by decide +kernel
theorem dX9_worthOf_16 : decode cX9_worthOf 16 = .ok (.imul, 1) := zdc_269.1
theorem dX9_worthOf_17 : decode cX9_worthOf 17 = .ok (.iadd, 1) := zdc_269.2.1
theorem dX9_worthOf_18 : decode cX9_worthOf 18 = .ok (.ireturn, 1) := zdc_269.2.2.1
theorem dX9_shareOf_0 : decode cX9_shareOf 0 = .ok (.aload_n 0, 1) := zdc_269.2.2.2.1
theorem dX9_shareOf_1 : decode cX9_shareOf 1 = .ok (.invokevirtual 95, 3) := zdc_269.2.2.2.2.1
theorem dX9_shareOf_4 : decode cX9_shareOf 4 = .ok (.istore_n 2, 1) := zdc_269.2.2.2.2.2.1
theorem dX9_shareOf_5 : decode cX9_shareOf 5 = .ok (.iload_n 2, 1) := zdc_269.2.2.2.2.2.2.1
theorem dX9_shareOf_6 : decode cX9_shareOf 6 = .ok (.ifCond .eq 11, 3) := zdc_269.2.2.2.2.2.2.2.1
theorem dX9_shareOf_9 : decode cX9_shareOf 9 = .ok (.aload_n 0, 1) := zdc_269.2.2.2.2.2.2.2.2.1
theorem dX9_shareOf_10 : decode cX9_shareOf 10 = .ok (.iload_n 1, 1) := zdc_269.2.2.2.2.2.2.2.2.2
theorem zdc_270 : decode cX9_shareOf 11 = .ok (.invokevirtual 81, 3) ∧ decode cX9_shareOf 14 = .ok (.ifCond .ne 7, 3) ∧ decode cX9_shareOf 17 = .ok (.iconst 0, 1) ∧ decode cX9_shareOf 18 = .ok (.goto 14, 3) ∧ decode cX9_shareOf 21 = .ok (.aload_n 0, 1) ∧ decode cX9_shareOf 22 = .ok (.getfield 24, 3) ∧ decode cX9_shareOf 25 = .ok (.iload_n 1, 1) ∧ decode cX9_shareOf 26 = .ok (.iaload, 1) ∧ decode cX9_shareOf 27 = .ok (.bipush 100, 2) ∧ decode cX9_shareOf 29 = .ok (.imul, 1) := by decide +kernel
theorem dX9_shareOf_11 : decode cX9_shareOf 11 = .ok (.invokevirtual 81, 3) := zdc_270.1
theorem dX9_shareOf_14 : decode cX9_shareOf 14 = .ok (.ifCond .ne 7, 3) := zdc_270.2.1
theorem dX9_shareOf_17 : decode cX9_shareOf 17 = .ok (.iconst 0, 1) := zdc_270.2.2.1
theorem dX9_shareOf_18 : decode cX9_shareOf 18 = .ok (.goto 14, 3) := zdc_270.2.2.2.1
theorem dX9_shareOf_21 : decode cX9_shareOf 21 = .ok (.aload_n 0, 1) := zdc_270.2.2.2.2.1
theorem dX9_shareOf_22 : decode cX9_shareOf 22 = .ok (.getfield 24, 3) := zdc_270.2.2.2.2.2.1
theorem dX9_shareOf_25 : decode cX9_shareOf 25 = .ok (.iload_n 1, 1) := zdc_270.2.2.2.2.2.2.1
theorem dX9_shareOf_26 : decode cX9_shareOf 26 = .ok (.iaload, 1) := zdc_270.2.2.2.2.2.2.2.1
theorem dX9_shareOf_27 : decode cX9_shareOf 27 = .ok (.bipush 100, 2) := zdc_270.2.2.2.2.2.2.2.2.1
theorem dX9_shareOf_29 : decode cX9_shareOf 29 = .ok (.imul, 1) := zdc_270.2.2.2.2.2.2.2.2.2
theorem zdc_271 : decode cX9_shareOf 30 = .ok (.iload_n 2, 1) ∧ decode cX9_shareOf 31 = .ok (.idiv, 1) ∧ decode cX9_shareOf 32 = .ok (.ireturn, 1) ∧ decode cX9_sharesOfAll 0 = .ok (.iconst 0, 1) ∧ decode cX9_sharesOfAll 1 = .ok (.istore_n 1, 1) ∧ decode cX9_sharesOfAll 2 = .ok (.iconst 0, 1) ∧ decode cX9_sharesOfAll 3 = .ok (.istore_n 2, 1) ∧ decode cX9_sharesOfAll 4 = .ok (.iload_n 2, 1) ∧ decode cX9_sharesOfAll 5 = .ok (.aload_n 0, 1) ∧ decode cX9_sharesOfAll 6 = .ok (.getfield 59, 3) := by decide +kernel
theorem dX9_shareOf_30 : decode cX9_shareOf 30 = .ok (.iload_n 2, 1) := zdc_271.1
theorem dX9_shareOf_31 : decode cX9_shareOf 31 = .ok (.idiv, 1) := zdc_271.2.1
theorem dX9_shareOf_32 : decode cX9_shareOf 32 = .ok (.ireturn, 1) := zdc_271.2.2.1
theorem dX9_sharesOfAll_0 : decode cX9_sharesOfAll 0 = .ok (.iconst 0, 1) := zdc_271.2.2.2.1
theorem dX9_sharesOfAll_1 : decode cX9_sharesOfAll 1 = .ok (.istore_n 1, 1) := zdc_271.2.2.2.2.1
theorem dX9_sharesOfAll_2 : decode cX9_sharesOfAll 2 = .ok (.iconst 0, 1) := zdc_271.2.2.2.2.2.1
theorem dX9_sharesOfAll_3 : decode cX9_sharesOfAll 3 = .ok (.istore_n 2, 1) := zdc_271.2.2.2.2.2.2.1
theorem dX9_sharesOfAll_4 : decode cX9_sharesOfAll 4 = .ok (.iload_n 2, 1) := zdc_271.2.2.2.2.2.2.2.1
theorem dX9_sharesOfAll_5 : decode cX9_sharesOfAll 5 = .ok (.aload_n 0, 1) := zdc_271.2.2.2.2.2.2.2.2.1
theorem dX9_sharesOfAll_6 : decode cX9_sharesOfAll 6 = .ok (.getfield 59, 3) := zdc_271.2.2.2.2.2.2.2.2.2
theorem zdc_272 : decode cX9_sharesOfAll 9 = .ok (.if_icmp .ge 18, 3) ∧ decode cX9_sharesOfAll 12 = .ok (.iload_n 1, 1) ∧ decode cX9_sharesOfAll 13 = .ok (.aload_n 0, 1) ∧ decode cX9_sharesOfAll 14 = .ok (.getfield 31, 3) ∧ decode cX9_sharesOfAll 17 = .ok (.iload_n 2, 1) ∧ decode cX9_sharesOfAll 18 = .ok (.iaload, 1) ∧ decode cX9_sharesOfAll 19 = .ok (.iadd, 1) ∧ decode cX9_sharesOfAll 20 = .ok (.istore_n 1, 1) ∧ decode cX9_sharesOfAll 21 = .ok (.iinc 2 1, 3) ∧ decode cX9_sharesOfAll 24 = .ok (.goto (-20), 3) := by decide +kernel
theorem dX9_sharesOfAll_9 : decode cX9_sharesOfAll 9 = .ok (.if_icmp .ge 18, 3) := zdc_272.1
theorem dX9_sharesOfAll_12 : decode cX9_sharesOfAll 12 = .ok (.iload_n 1, 1) := zdc_272.2.1
theorem dX9_sharesOfAll_13 : decode cX9_sharesOfAll 13 = .ok (.aload_n 0, 1) := zdc_272.2.2.1
theorem dX9_sharesOfAll_14 : decode cX9_sharesOfAll 14 = .ok (.getfield 31, 3) := zdc_272.2.2.2.1
theorem dX9_sharesOfAll_17 : decode cX9_sharesOfAll 17 = .ok (.iload_n 2, 1) := zdc_272.2.2.2.2.1
theorem dX9_sharesOfAll_18 : decode cX9_sharesOfAll 18 = .ok (.iaload, 1) := zdc_272.2.2.2.2.2.1
theorem dX9_sharesOfAll_19 : decode cX9_sharesOfAll 19 = .ok (.iadd, 1) := zdc_272.2.2.2.2.2.2.1
theorem dX9_sharesOfAll_20 : decode cX9_sharesOfAll 20 = .ok (.istore_n 1, 1) := zdc_272.2.2.2.2.2.2.2.1
theorem dX9_sharesOfAll_21 : decode cX9_sharesOfAll 21 = .ok (.iinc 2 1, 3) := zdc_272.2.2.2.2.2.2.2.2.1
theorem dX9_sharesOfAll_24 : decode cX9_sharesOfAll 24 = .ok (.goto (-20), 3) := zdc_272.2.2.2.2.2.2.2.2.2
theorem zdc_273 : decode cX9_sharesOfAll 27 = .ok (.iload_n 1, 1) ∧ decode cX9_sharesOfAll 28 = .ok (.ireturn, 1) ∧ decode cX9_doubters 0 = .ok (.iconst 0, 1) ∧ decode cX9_doubters 1 = .ok (.istore_n 1, 1) ∧ decode cX9_doubters 2 = .ok (.iconst 0, 1) ∧ decode cX9_doubters 3 = .ok (.istore_n 2, 1) ∧ decode cX9_doubters 4 = .ok (.iload_n 2, 1) ∧ decode cX9_doubters 5 = .ok (.aload_n 0, 1) ∧ decode cX9_doubters 6 = .ok (.getfield 59, 3) ∧ decode cX9_doubters 9 = .ok (.if_icmp .ge 34, 3) := by decide +kernel
theorem dX9_sharesOfAll_27 : decode cX9_sharesOfAll 27 = .ok (.iload_n 1, 1) := zdc_273.1
theorem dX9_sharesOfAll_28 : decode cX9_sharesOfAll 28 = .ok (.ireturn, 1) := zdc_273.2.1
theorem dX9_doubters_0 : decode cX9_doubters 0 = .ok (.iconst 0, 1) := zdc_273.2.2.1
theorem dX9_doubters_1 : decode cX9_doubters 1 = .ok (.istore_n 1, 1) := zdc_273.2.2.2.1
theorem dX9_doubters_2 : decode cX9_doubters 2 = .ok (.iconst 0, 1) := zdc_273.2.2.2.2.1
theorem dX9_doubters_3 : decode cX9_doubters 3 = .ok (.istore_n 2, 1) := zdc_273.2.2.2.2.2.1
theorem dX9_doubters_4 : decode cX9_doubters 4 = .ok (.iload_n 2, 1) := zdc_273.2.2.2.2.2.2.1
theorem dX9_doubters_5 : decode cX9_doubters 5 = .ok (.aload_n 0, 1) := zdc_273.2.2.2.2.2.2.2.1
theorem dX9_doubters_6 : decode cX9_doubters 6 = .ok (.getfield 59, 3) := zdc_273.2.2.2.2.2.2.2.2.1
theorem dX9_doubters_9 : decode cX9_doubters 9 = .ok (.if_icmp .ge 34, 3) := zdc_273.2.2.2.2.2.2.2.2.2
theorem zdc_274 : decode cX9_doubters 12 = .ok (.aload_n 0, 1) ∧ decode cX9_doubters 13 = .ok (.iload_n 2, 1) ∧ decode cX9_doubters 14 = .ok (.invokevirtual 81, 3) ∧ decode cX9_doubters 17 = .ok (.ifCond .eq 20, 3) ∧ decode cX9_doubters 20 = .ok (.aload_n 0, 1) ∧ decode cX9_doubters 21 = .ok (.getfield 24, 3) ∧ decode cX9_doubters 24 = .ok (.iload_n 2, 1) ∧ decode cX9_doubters 25 = .ok (.iaload, 1) ∧ decode cX9_doubters 26 = .ok (.bipush 33, 2) ∧ decode cX9_doubters 28 = .ok (.if_icmp .ge 9, 3) := by decide +kernel
theorem dX9_doubters_12 : decode cX9_doubters 12 = .ok (.aload_n 0, 1) := zdc_274.1
theorem dX9_doubters_13 : decode cX9_doubters 13 = .ok (.iload_n 2, 1) := zdc_274.2.1
theorem dX9_doubters_14 : decode cX9_doubters 14 = .ok (.invokevirtual 81, 3) := zdc_274.2.2.1
theorem dX9_doubters_17 : decode cX9_doubters 17 = .ok (.ifCond .eq 20, 3) := zdc_274.2.2.2.1
theorem dX9_doubters_20 : decode cX9_doubters 20 = .ok (.aload_n 0, 1) := zdc_274.2.2.2.2.1
theorem dX9_doubters_21 : decode cX9_doubters 21 = .ok (.getfield 24, 3) := zdc_274.2.2.2.2.2.1
theorem dX9_doubters_24 : decode cX9_doubters 24 = .ok (.iload_n 2, 1) := zdc_274.2.2.2.2.2.2.1
theorem dX9_doubters_25 : decode cX9_doubters 25 = .ok (.iaload, 1) := zdc_274.2.2.2.2.2.2.2.1
theorem dX9_doubters_26 : decode cX9_doubters 26 = .ok (.bipush 33, 2) := zdc_274.2.2.2.2.2.2.2.2.1
theorem dX9_doubters_28 : decode cX9_doubters 28 = .ok (.if_icmp .ge 9, 3) := zdc_274.2.2.2.2.2.2.2.2.2
theorem zdc_275 : decode cX9_doubters 31 = .ok (.iload_n 1, 1) ∧ decode cX9_doubters 32 = .ok (.iconst 1, 1) ∧ decode cX9_doubters 33 = .ok (.iload_n 2, 1) ∧ decode cX9_doubters 34 = .ok (.ishl, 1) ∧ decode cX9_doubters 35 = .ok (.ior, 1) ∧ decode cX9_doubters 36 = .ok (.istore_n 1, 1) ∧ decode cX9_doubters 37 = .ok (.iinc 2 1, 3) ∧ decode cX9_doubters 40 = .ok (.goto (-36), 3) ∧ decode cX9_doubters 43 = .ok (.iload_n 1, 1) ∧ decode cX9_doubters 44 = .ok (.ireturn, 1) := by decide +kernel
theorem dX9_doubters_31 : decode cX9_doubters 31 = .ok (.iload_n 1, 1) := zdc_275.1
theorem dX9_doubters_32 : decode cX9_doubters 32 = .ok (.iconst 1, 1) := zdc_275.2.1
theorem dX9_doubters_33 : decode cX9_doubters 33 = .ok (.iload_n 2, 1) := zdc_275.2.2.1
theorem dX9_doubters_34 : decode cX9_doubters 34 = .ok (.ishl, 1) := zdc_275.2.2.2.1
theorem dX9_doubters_35 : decode cX9_doubters 35 = .ok (.ior, 1) := zdc_275.2.2.2.2.1
theorem dX9_doubters_36 : decode cX9_doubters 36 = .ok (.istore_n 1, 1) := zdc_275.2.2.2.2.2.1
theorem dX9_doubters_37 : decode cX9_doubters 37 = .ok (.iinc 2 1, 3) := zdc_275.2.2.2.2.2.2.1
theorem dX9_doubters_40 : decode cX9_doubters 40 = .ok (.goto (-36), 3) := zdc_275.2.2.2.2.2.2.2.1
theorem dX9_doubters_43 : decode cX9_doubters 43 = .ok (.iload_n 1, 1) := zdc_275.2.2.2.2.2.2.2.2.1
theorem dX9_doubters_44 : decode cX9_doubters 44 = .ok (.ireturn, 1) := zdc_275.2.2.2.2.2.2.2.2.2
theorem zdc_276 : decode cX9_isRuined 0 = .ok (.aload_n 0, 1) ∧ decode cX9_isRuined 1 = .ok (.invokevirtual 85, 3) ∧ decode cX9_isRuined 4 = .ok (.invokestatic 89, 3) ∧ decode cX9_isRuined 7 = .ok (.istore_n 1, 1) ∧ decode cX9_isRuined 8 = .ok (.iload_n 1, 1) ∧ decode cX9_isRuined 9 = .ok (.ifCond .le 22, 3) ∧ decode cX9_isRuined 12 = .ok (.iconst 3, 1) ∧ decode cX9_isRuined 13 = .ok (.aload_n 0, 1) ∧ decode cX9_isRuined 14 = .ok (.invokevirtual 108, 3) ∧ decode cX9_isRuined 17 = .ok (.invokestatic 89, 3) := by decide +kernel
theorem dX9_isRuined_0 : decode cX9_isRuined 0 = .ok (.aload_n 0, 1) := zdc_276.1
theorem dX9_isRuined_1 : decode cX9_isRuined 1 = .ok (.invokevirtual 85, 3) := zdc_276.2.1
theorem dX9_isRuined_4 : decode cX9_isRuined 4 = .ok (.invokestatic 89, 3) := zdc_276.2.2.1
theorem dX9_isRuined_7 : decode cX9_isRuined 7 = .ok (.istore_n 1, 1) := zdc_276.2.2.2.1
theorem dX9_isRuined_8 : decode cX9_isRuined 8 = .ok (.iload_n 1, 1) := zdc_276.2.2.2.2.1
theorem dX9_isRuined_9 : decode cX9_isRuined 9 = .ok (.ifCond .le 22, 3) := zdc_276.2.2.2.2.2.1
theorem dX9_isRuined_12 : decode cX9_isRuined 12 = .ok (.iconst 3, 1) := zdc_276.2.2.2.2.2.2.1
theorem dX9_isRuined_13 : decode cX9_isRuined 13 = .ok (.aload_n 0, 1) := zdc_276.2.2.2.2.2.2.2.1
theorem dX9_isRuined_14 : decode cX9_isRuined 14 = .ok (.invokevirtual 108, 3) := zdc_276.2.2.2.2.2.2.2.2.1
theorem dX9_isRuined_17 : decode cX9_isRuined 17 = .ok (.invokestatic 89, 3) := zdc_276.2.2.2.2.2.2.2.2.2
theorem zdc_277 : decode cX9_isRuined 20 = .ok (.imul, 1) ∧ decode cX9_isRuined 21 = .ok (.iconst 2, 1) ∧ decode cX9_isRuined 22 = .ok (.iload_n 1, 1) ∧ decode cX9_isRuined 23 = .ok (.imul, 1) ∧ decode cX9_isRuined 24 = .ok (.if_icmp .lt 7, 3) ∧ decode cX9_isRuined 27 = .ok (.iconst 1, 1) ∧ decode cX9_isRuined 28 = .ok (.goto 4, 3) ∧ decode cX9_isRuined 31 = .ok (.iconst 0, 1) ∧ decode cX9_isRuined 32 = .ok (.ireturn, 1) ∧ decode cX9_worksIn 0 = .ok (.iconst 0, 1) := by decide +kernel
theorem dX9_isRuined_20 : decode cX9_isRuined 20 = .ok (.imul, 1) := zdc_277.1
theorem dX9_isRuined_21 : decode cX9_isRuined 21 = .ok (.iconst 2, 1) := zdc_277.2.1
theorem dX9_isRuined_22 : decode cX9_isRuined 22 = .ok (.iload_n 1, 1) := zdc_277.2.2.1
theorem dX9_isRuined_23 : decode cX9_isRuined 23 = .ok (.imul, 1) := zdc_277.2.2.2.1
theorem dX9_isRuined_24 : decode cX9_isRuined 24 = .ok (.if_icmp .lt 7, 3) := zdc_277.2.2.2.2.1
theorem dX9_isRuined_27 : decode cX9_isRuined 27 = .ok (.iconst 1, 1) := zdc_277.2.2.2.2.2.1
theorem dX9_isRuined_28 : decode cX9_isRuined 28 = .ok (.goto 4, 3) := zdc_277.2.2.2.2.2.2.1
theorem dX9_isRuined_31 : decode cX9_isRuined 31 = .ok (.iconst 0, 1) := zdc_277.2.2.2.2.2.2.2.1
theorem dX9_isRuined_32 : decode cX9_isRuined 32 = .ok (.ireturn, 1) := zdc_277.2.2.2.2.2.2.2.2.1
theorem dX9_worksIn_0 : decode cX9_worksIn 0 = .ok (.iconst 0, 1) := zdc_277.2.2.2.2.2.2.2.2.2
theorem zdc_278 : decode cX9_worksIn 1 = .ok (.istore_n 2, 1) ∧ decode cX9_worksIn 2 = .ok (.iconst 0, 1) ∧ decode cX9_worksIn 3 = .ok (.istore_n 3, 1) ∧ decode cX9_worksIn 4 = .ok (.iload_n 3, 1) ∧ decode cX9_worksIn 5 = .ok (.aload_n 0, 1) ∧ decode cX9_worksIn 6 = .ok (.getfield 62, 3) ∧ decode cX9_worksIn 9 = .ok (.if_icmp .ge 25, 3) ∧ decode cX9_worksIn 12 = .ok (.aload_n 0, 1) ∧ decode cX9_worksIn 13 = .ok (.getfield 53, 3) ∧ decode cX9_worksIn 16 = .ok (.iload_n 3, 1) := by decide +kernel
theorem dX9_worksIn_1 : decode cX9_worksIn 1 = .ok (.istore_n 2, 1) := zdc_278.1
theorem dX9_worksIn_2 : decode cX9_worksIn 2 = .ok (.iconst 0, 1) := zdc_278.2.1
theorem dX9_worksIn_3 : decode cX9_worksIn 3 = .ok (.istore_n 3, 1) := zdc_278.2.2.1
theorem dX9_worksIn_4 : decode cX9_worksIn 4 = .ok (.iload_n 3, 1) := zdc_278.2.2.2.1
theorem dX9_worksIn_5 : decode cX9_worksIn 5 = .ok (.aload_n 0, 1) := zdc_278.2.2.2.2.1
theorem dX9_worksIn_6 : decode cX9_worksIn 6 = .ok (.getfield 62, 3) := zdc_278.2.2.2.2.2.1
theorem dX9_worksIn_9 : decode cX9_worksIn 9 = .ok (.if_icmp .ge 25, 3) := zdc_278.2.2.2.2.2.2.1
theorem dX9_worksIn_12 : decode cX9_worksIn 12 = .ok (.aload_n 0, 1) := zdc_278.2.2.2.2.2.2.2.1
theorem dX9_worksIn_13 : decode cX9_worksIn 13 = .ok (.getfield 53, 3) := zdc_278.2.2.2.2.2.2.2.2.1
theorem dX9_worksIn_16 : decode cX9_worksIn 16 = .ok (.iload_n 3, 1) := zdc_278.2.2.2.2.2.2.2.2.2
theorem zdc_279 : decode cX9_worksIn 17 = .ok (.iaload, 1) ∧ decode cX9_worksIn 18 = .ok (.iload_n 1, 1) ∧ decode cX9_worksIn 19 = .ok (.if_icmp .ne 9, 3) ∧ decode cX9_worksIn 22 = .ok (.iload_n 2, 1) ∧ decode cX9_worksIn 23 = .ok (.iconst 1, 1) ∧ decode cX9_worksIn 24 = .ok (.iload_n 3, 1) ∧ decode cX9_worksIn 25 = .ok (.ishl, 1) ∧ decode cX9_worksIn 26 = .ok (.ior, 1) ∧ decode cX9_worksIn 27 = .ok (.istore_n 2, 1) ∧ decode cX9_worksIn 28 = .ok (.iinc 3 1, 3) := by decide +kernel
theorem dX9_worksIn_17 : decode cX9_worksIn 17 = .ok (.iaload, 1) := zdc_279.1
theorem dX9_worksIn_18 : decode cX9_worksIn 18 = .ok (.iload_n 1, 1) := zdc_279.2.1
theorem dX9_worksIn_19 : decode cX9_worksIn 19 = .ok (.if_icmp .ne 9, 3) := zdc_279.2.2.1
theorem dX9_worksIn_22 : decode cX9_worksIn 22 = .ok (.iload_n 2, 1) := zdc_279.2.2.2.1
theorem dX9_worksIn_23 : decode cX9_worksIn 23 = .ok (.iconst 1, 1) := zdc_279.2.2.2.2.1
theorem dX9_worksIn_24 : decode cX9_worksIn 24 = .ok (.iload_n 3, 1) := zdc_279.2.2.2.2.2.1
theorem dX9_worksIn_25 : decode cX9_worksIn 25 = .ok (.ishl, 1) := zdc_279.2.2.2.2.2.2.1
theorem dX9_worksIn_26 : decode cX9_worksIn 26 = .ok (.ior, 1) := zdc_279.2.2.2.2.2.2.2.1
theorem dX9_worksIn_27 : decode cX9_worksIn 27 = .ok (.istore_n 2, 1) := zdc_279.2.2.2.2.2.2.2.2.1
theorem dX9_worksIn_28 : decode cX9_worksIn 28 = .ok (.iinc 3 1, 3) := zdc_279.2.2.2.2.2.2.2.2.2
theorem zdc_280 : decode cX9_worksIn 31 = .ok (.goto (-27), 3) ∧ decode cX9_worksIn 34 = .ok (.iload_n 2, 1) ∧ decode cX9_worksIn 35 = .ok (.ireturn, 1) ∧ decode cX9_firstComing 0 = .ok (.iconst (-1), 1) ∧ decode cX9_firstComing 1 = .ok (.istore_n 1, 1) ∧ decode cX9_firstComing 2 = .ok (.iconst 0, 1) ∧ decode cX9_firstComing 3 = .ok (.istore_n 2, 1) ∧ decode cX9_firstComing 4 = .ok (.iload_n 2, 1) ∧ decode cX9_firstComing 5 = .ok (.aload_n 0, 1) ∧ decode cX9_firstComing 6 = .ok (.getfield 59, 3) := by decide +kernel
theorem dX9_worksIn_31 : decode cX9_worksIn 31 = .ok (.goto (-27), 3) := zdc_280.1
theorem dX9_worksIn_34 : decode cX9_worksIn 34 = .ok (.iload_n 2, 1) := zdc_280.2.1
theorem dX9_worksIn_35 : decode cX9_worksIn 35 = .ok (.ireturn, 1) := zdc_280.2.2.1
theorem dX9_firstComing_0 : decode cX9_firstComing 0 = .ok (.iconst (-1), 1) := zdc_280.2.2.2.1
theorem dX9_firstComing_1 : decode cX9_firstComing 1 = .ok (.istore_n 1, 1) := zdc_280.2.2.2.2.1
theorem dX9_firstComing_2 : decode cX9_firstComing 2 = .ok (.iconst 0, 1) := zdc_280.2.2.2.2.2.1
theorem dX9_firstComing_3 : decode cX9_firstComing 3 = .ok (.istore_n 2, 1) := zdc_280.2.2.2.2.2.2.1
theorem dX9_firstComing_4 : decode cX9_firstComing 4 = .ok (.iload_n 2, 1) := zdc_280.2.2.2.2.2.2.2.1
theorem dX9_firstComing_5 : decode cX9_firstComing 5 = .ok (.aload_n 0, 1) := zdc_280.2.2.2.2.2.2.2.2.1
theorem dX9_firstComing_6 : decode cX9_firstComing 6 = .ok (.getfield 59, 3) := zdc_280.2.2.2.2.2.2.2.2.2
theorem zdc_281 : decode cX9_firstComing 9 = .ok (.if_icmp .ge 39, 3) ∧ decode cX9_firstComing 12 = .ok (.aload_n 0, 1) ∧ decode cX9_firstComing 13 = .ok (.iload_n 2, 1) ∧ decode cX9_firstComing 14 = .ok (.invokevirtual 81, 3) ∧ decode cX9_firstComing 17 = .ok (.ifCond .ne 25, 3) ∧ decode cX9_firstComing 20 = .ok (.iload_n 1, 1) ∧ decode cX9_firstComing 21 = .ok (.iconst (-1), 1) ∧ decode cX9_firstComing 22 = .ok (.if_icmp .eq 13, 3) ∧ decode cX9_firstComing 25 = .ok (.aload_n 0, 1) ∧ decode cX9_firstComing 26 = .ok (.getfield 34, 3) := by decide +kernel
theorem dX9_firstComing_9 : decode cX9_firstComing 9 = .ok (.if_icmp .ge 39, 3) := zdc_281.1
theorem dX9_firstComing_12 : decode cX9_firstComing 12 = .ok (.aload_n 0, 1) := zdc_281.2.1
theorem dX9_firstComing_13 : decode cX9_firstComing 13 = .ok (.iload_n 2, 1) := zdc_281.2.2.1
theorem dX9_firstComing_14 : decode cX9_firstComing 14 = .ok (.invokevirtual 81, 3) := zdc_281.2.2.2.1
theorem dX9_firstComing_17 : decode cX9_firstComing 17 = .ok (.ifCond .ne 25, 3) := zdc_281.2.2.2.2.1
theorem dX9_firstComing_20 : decode cX9_firstComing 20 = .ok (.iload_n 1, 1) := zdc_281.2.2.2.2.2.1
theorem dX9_firstComing_21 : decode cX9_firstComing 21 = .ok (.iconst (-1), 1) := zdc_281.2.2.2.2.2.2.1
theorem dX9_firstComing_22 : decode cX9_firstComing 22 = .ok (.if_icmp .eq 13, 3) := zdc_281.2.2.2.2.2.2.2.1
theorem dX9_firstComing_25 : decode cX9_firstComing 25 = .ok (.aload_n 0, 1) := zdc_281.2.2.2.2.2.2.2.2.1
theorem dX9_firstComing_26 : decode cX9_firstComing 26 = .ok (.getfield 34, 3) := zdc_281.2.2.2.2.2.2.2.2.2
theorem zdc_282 : decode cX9_firstComing 29 = .ok (.iload_n 2, 1) ∧ decode cX9_firstComing 30 = .ok (.iaload, 1) ∧ decode cX9_firstComing 31 = .ok (.iload_n 1, 1) ∧ decode cX9_firstComing 32 = .ok (.if_icmp .ge 10, 3) ∧ decode cX9_firstComing 35 = .ok (.aload_n 0, 1) ∧ decode cX9_firstComing 36 = .ok (.getfield 34, 3) ∧ decode cX9_firstComing 39 = .ok (.iload_n 2, 1) ∧ decode cX9_firstComing 40 = .ok (.iaload, 1) ∧ decode cX9_firstComing 41 = .ok (.istore_n 1, 1) ∧ decode cX9_firstComing 42 = .ok (.iinc 2 1, 3) := by decide +kernel
theorem dX9_firstComing_29 : decode cX9_firstComing 29 = .ok (.iload_n 2, 1) := zdc_282.1
theorem dX9_firstComing_30 : decode cX9_firstComing 30 = .ok (.iaload, 1) := zdc_282.2.1
theorem dX9_firstComing_31 : decode cX9_firstComing 31 = .ok (.iload_n 1, 1) := zdc_282.2.2.1
theorem dX9_firstComing_32 : decode cX9_firstComing 32 = .ok (.if_icmp .ge 10, 3) := zdc_282.2.2.2.1
theorem dX9_firstComing_35 : decode cX9_firstComing 35 = .ok (.aload_n 0, 1) := zdc_282.2.2.2.2.1
theorem dX9_firstComing_36 : decode cX9_firstComing 36 = .ok (.getfield 34, 3) := zdc_282.2.2.2.2.2.1
theorem dX9_firstComing_39 : decode cX9_firstComing 39 = .ok (.iload_n 2, 1) := zdc_282.2.2.2.2.2.2.1
theorem dX9_firstComing_40 : decode cX9_firstComing 40 = .ok (.iaload, 1) := zdc_282.2.2.2.2.2.2.2.1
theorem dX9_firstComing_41 : decode cX9_firstComing 41 = .ok (.istore_n 1, 1) := zdc_282.2.2.2.2.2.2.2.2.1
theorem dX9_firstComing_42 : decode cX9_firstComing 42 = .ok (.iinc 2 1, 3) := zdc_282.2.2.2.2.2.2.2.2.2
theorem zdc_283 : decode cX9_firstComing 45 = .ok (.goto (-41), 3) ∧ decode cX9_firstComing 48 = .ok (.iload_n 1, 1) ∧ decode cX9_firstComing 49 = .ok (.iconst (-1), 1) ∧ decode cX9_firstComing 50 = .ok (.if_icmp .eq 10, 3) ∧ decode cX9_firstComing 53 = .ok (.iload_n 1, 1) ∧ decode cX9_firstComing 54 = .ok (.sipush 9999, 3) ∧ decode cX9_firstComing 57 = .ok (.if_icmp .le 7, 3) ∧ decode cX9_firstComing 60 = .ok (.iconst (-1), 1) ∧ decode cX9_firstComing 61 = .ok (.goto 11, 3) ∧ decode cX9_firstComing 64 = .ok (.iload_n 1, 1) := by decide +kernel
theorem dX9_firstComing_45 : decode cX9_firstComing 45 = .ok (.goto (-41), 3) := zdc_283.1
theorem dX9_firstComing_48 : decode cX9_firstComing 48 = .ok (.iload_n 1, 1) := zdc_283.2.1
theorem dX9_firstComing_49 : decode cX9_firstComing 49 = .ok (.iconst (-1), 1) := zdc_283.2.2.1
theorem dX9_firstComing_50 : decode cX9_firstComing 50 = .ok (.if_icmp .eq 10, 3) := zdc_283.2.2.2.1
theorem dX9_firstComing_53 : decode cX9_firstComing 53 = .ok (.iload_n 1, 1) := zdc_283.2.2.2.2.1
theorem dX9_firstComing_54 : decode cX9_firstComing 54 = .ok (.sipush 9999, 3) := zdc_283.2.2.2.2.2.1
theorem dX9_firstComing_57 : decode cX9_firstComing 57 = .ok (.if_icmp .le 7, 3) := zdc_283.2.2.2.2.2.2.1
theorem dX9_firstComing_60 : decode cX9_firstComing 60 = .ok (.iconst (-1), 1) := zdc_283.2.2.2.2.2.2.2.1
theorem dX9_firstComing_61 : decode cX9_firstComing 61 = .ok (.goto 11, 3) := zdc_283.2.2.2.2.2.2.2.2.1
theorem dX9_firstComing_64 : decode cX9_firstComing 64 = .ok (.iload_n 1, 1) := zdc_283.2.2.2.2.2.2.2.2.2
theorem zdc_284 : decode cX9_firstComing 65 = .ok (.aload_n 0, 1) ∧ decode cX9_firstComing 66 = .ok (.getfield 68, 3) ∧ decode cX9_firstComing 69 = .ok (.invokestatic 111, 3) ∧ decode cX9_firstComing 72 = .ok (.ireturn, 1) ∧ decode cX9_bestWorks 0 = .ok (.iconst 0, 1) ∧ decode cX9_bestWorks 1 = .ok (.istore_n 1, 1) ∧ decode cX9_bestWorks 2 = .ok (.iconst 1, 1) ∧ decode cX9_bestWorks 3 = .ok (.istore_n 2, 1) ∧ decode cX9_bestWorks 4 = .ok (.iload_n 2, 1) ∧ decode cX9_bestWorks 5 = .ok (.iconst 1, 1) := by decide +kernel
theorem dX9_firstComing_65 : decode cX9_firstComing 65 = .ok (.aload_n 0, 1) := zdc_284.1
theorem dX9_firstComing_66 : decode cX9_firstComing 66 = .ok (.getfield 68, 3) := zdc_284.2.1
theorem dX9_firstComing_69 : decode cX9_firstComing 69 = .ok (.invokestatic 111, 3) := zdc_284.2.2.1
theorem dX9_firstComing_72 : decode cX9_firstComing 72 = .ok (.ireturn, 1) := zdc_284.2.2.2.1
theorem dX9_bestWorks_0 : decode cX9_bestWorks 0 = .ok (.iconst 0, 1) := zdc_284.2.2.2.2.1
theorem dX9_bestWorks_1 : decode cX9_bestWorks 1 = .ok (.istore_n 1, 1) := zdc_284.2.2.2.2.2.1
theorem dX9_bestWorks_2 : decode cX9_bestWorks 2 = .ok (.iconst 1, 1) := zdc_284.2.2.2.2.2.2.1
theorem dX9_bestWorks_3 : decode cX9_bestWorks 3 = .ok (.istore_n 2, 1) := zdc_284.2.2.2.2.2.2.2.1
theorem dX9_bestWorks_4 : decode cX9_bestWorks 4 = .ok (.iload_n 2, 1) := zdc_284.2.2.2.2.2.2.2.2.1
theorem dX9_bestWorks_5 : decode cX9_bestWorks 5 = .ok (.iconst 1, 1) := zdc_284.2.2.2.2.2.2.2.2.2
theorem zdc_285 : decode cX9_bestWorks 6 = .ok (.aload_n 0, 1) ∧ decode cX9_bestWorks 7 = .ok (.getfield 62, 3) ∧ decode cX9_bestWorks 10 = .ok (.ishl, 1) ∧ decode cX9_bestWorks 11 = .ok (.if_icmp .ge 32, 3) ∧ decode cX9_bestWorks 14 = .ok (.aload_n 0, 1) ∧ decode cX9_bestWorks 15 = .ok (.iload_n 2, 1) ∧ decode cX9_bestWorks 16 = .ok (.invokevirtual 116, 3) ∧ decode cX9_bestWorks 19 = .ok (.ifCond .eq 18, 3) ∧ decode cX9_bestWorks 22 = .ok (.aload_n 0, 1) ∧ decode cX9_bestWorks 23 = .ok (.iload_n 2, 1) := by decide +kernel
theorem dX9_bestWorks_6 : decode cX9_bestWorks 6 = .ok (.aload_n 0, 1) := zdc_285.1
theorem dX9_bestWorks_7 : decode cX9_bestWorks 7 = .ok (.getfield 62, 3) := zdc_285.2.1
theorem dX9_bestWorks_10 : decode cX9_bestWorks 10 = .ok (.ishl, 1) := zdc_285.2.2.1
theorem dX9_bestWorks_11 : decode cX9_bestWorks 11 = .ok (.if_icmp .ge 32, 3) := zdc_285.2.2.2.1
theorem dX9_bestWorks_14 : decode cX9_bestWorks 14 = .ok (.aload_n 0, 1) := zdc_285.2.2.2.2.1
theorem dX9_bestWorks_15 : decode cX9_bestWorks 15 = .ok (.iload_n 2, 1) := zdc_285.2.2.2.2.2.1
theorem dX9_bestWorks_16 : decode cX9_bestWorks 16 = .ok (.invokevirtual 116, 3) := zdc_285.2.2.2.2.2.2.1
theorem dX9_bestWorks_19 : decode cX9_bestWorks 19 = .ok (.ifCond .eq 18, 3) := zdc_285.2.2.2.2.2.2.2.1
theorem dX9_bestWorks_22 : decode cX9_bestWorks 22 = .ok (.aload_n 0, 1) := zdc_285.2.2.2.2.2.2.2.2.1
theorem dX9_bestWorks_23 : decode cX9_bestWorks 23 = .ok (.iload_n 2, 1) := zdc_285.2.2.2.2.2.2.2.2.2
theorem zdc_286 : decode cX9_bestWorks 24 = .ok (.invokevirtual 119, 3) ∧ decode cX9_bestWorks 27 = .ok (.aload_n 0, 1) ∧ decode cX9_bestWorks 28 = .ok (.iload_n 1, 1) ∧ decode cX9_bestWorks 29 = .ok (.invokevirtual 119, 3) ∧ decode cX9_bestWorks 32 = .ok (.if_icmp .le 5, 3) ∧ decode cX9_bestWorks 35 = .ok (.iload_n 2, 1) ∧ decode cX9_bestWorks 36 = .ok (.istore_n 1, 1) ∧ decode cX9_bestWorks 37 = .ok (.iinc 2 1, 3) ∧ decode cX9_bestWorks 40 = .ok (.goto (-36), 3) ∧ decode cX9_bestWorks 43 = .ok (.iload_n 1, 1) := by decide +kernel
theorem dX9_bestWorks_24 : decode cX9_bestWorks 24 = .ok (.invokevirtual 119, 3) := zdc_286.1
theorem dX9_bestWorks_27 : decode cX9_bestWorks 27 = .ok (.aload_n 0, 1) := zdc_286.2.1
theorem dX9_bestWorks_28 : decode cX9_bestWorks 28 = .ok (.iload_n 1, 1) := zdc_286.2.2.1
theorem dX9_bestWorks_29 : decode cX9_bestWorks 29 = .ok (.invokevirtual 119, 3) := zdc_286.2.2.2.1
theorem dX9_bestWorks_32 : decode cX9_bestWorks 32 = .ok (.if_icmp .le 5, 3) := zdc_286.2.2.2.2.1
theorem dX9_bestWorks_35 : decode cX9_bestWorks 35 = .ok (.iload_n 2, 1) := zdc_286.2.2.2.2.2.1
theorem dX9_bestWorks_36 : decode cX9_bestWorks 36 = .ok (.istore_n 1, 1) := zdc_286.2.2.2.2.2.2.1
theorem dX9_bestWorks_37 : decode cX9_bestWorks 37 = .ok (.iinc 2 1, 3) := zdc_286.2.2.2.2.2.2.2.1
theorem dX9_bestWorks_40 : decode cX9_bestWorks 40 = .ok (.goto (-36), 3) := zdc_286.2.2.2.2.2.2.2.2.1
theorem dX9_bestWorks_43 : decode cX9_bestWorks 43 = .ok (.iload_n 1, 1) := zdc_286.2.2.2.2.2.2.2.2.2
theorem zdc_287 : decode cX9_bestWorks 44 = .ok (.ireturn, 1) ∧ decode cX9_canBuild 0 = .ok (.aload_n 0, 1) ∧ decode cX9_canBuild 1 = .ok (.invokevirtual 95, 3) ∧ decode cX9_canBuild 4 = .ok (.istore_n 2, 1) ∧ decode cX9_canBuild 5 = .ok (.iconst 0, 1) ∧ decode cX9_canBuild 6 = .ok (.istore_n 3, 1) ∧ decode cX9_canBuild 7 = .ok (.iconst 0, 1) ∧ decode cX9_canBuild 8 = .ok (.istore 4, 2) ∧ decode cX9_canBuild 10 = .ok (.iload 4, 2) ∧ decode cX9_canBuild 12 = .ok (.aload_n 0, 1) := by decide +kernel
theorem dX9_bestWorks_44 : decode cX9_bestWorks 44 = .ok (.ireturn, 1) := zdc_287.1
theorem dX9_canBuild_0 : decode cX9_canBuild 0 = .ok (.aload_n 0, 1) := zdc_287.2.1
theorem dX9_canBuild_1 : decode cX9_canBuild 1 = .ok (.invokevirtual 95, 3) := zdc_287.2.2.1
theorem dX9_canBuild_4 : decode cX9_canBuild 4 = .ok (.istore_n 2, 1) := zdc_287.2.2.2.1
theorem dX9_canBuild_5 : decode cX9_canBuild 5 = .ok (.iconst 0, 1) := zdc_287.2.2.2.2.1
theorem dX9_canBuild_6 : decode cX9_canBuild 6 = .ok (.istore_n 3, 1) := zdc_287.2.2.2.2.2.1
theorem dX9_canBuild_7 : decode cX9_canBuild 7 = .ok (.iconst 0, 1) := zdc_287.2.2.2.2.2.2.1
theorem dX9_canBuild_8 : decode cX9_canBuild 8 = .ok (.istore 4, 2) := zdc_287.2.2.2.2.2.2.2.1
theorem dX9_canBuild_10 : decode cX9_canBuild 10 = .ok (.iload 4, 2) := zdc_287.2.2.2.2.2.2.2.2.1
theorem dX9_canBuild_12 : decode cX9_canBuild 12 = .ok (.aload_n 0, 1) := zdc_287.2.2.2.2.2.2.2.2.2
theorem zdc_288 : decode cX9_canBuild 13 = .ok (.getfield 62, 3) ∧ decode cX9_canBuild 16 = .ok (.if_icmp .ge 51, 3) ∧ decode cX9_canBuild 19 = .ok (.iload_n 1, 1) ∧ decode cX9_canBuild 20 = .ok (.iload 4, 2) ∧ decode cX9_canBuild 22 = .ok (.ishr, 1) ∧ decode cX9_canBuild 23 = .ok (.iconst 1, 1) ∧ decode cX9_canBuild 24 = .ok (.iand, 1) ∧ decode cX9_canBuild 25 = .ok (.ifCond .eq 36, 3) ∧ decode cX9_canBuild 28 = .ok (.aload_n 0, 1) ∧ decode cX9_canBuild 29 = .ok (.getfield 53, 3) := by decide +kernel
theorem dX9_canBuild_13 : decode cX9_canBuild 13 = .ok (.getfield 62, 3) := zdc_288.1
theorem dX9_canBuild_16 : decode cX9_canBuild 16 = .ok (.if_icmp .ge 51, 3) := zdc_288.2.1
theorem dX9_canBuild_19 : decode cX9_canBuild 19 = .ok (.iload_n 1, 1) := zdc_288.2.2.1
theorem dX9_canBuild_20 : decode cX9_canBuild 20 = .ok (.iload 4, 2) := zdc_288.2.2.2.1
theorem dX9_canBuild_22 : decode cX9_canBuild 22 = .ok (.ishr, 1) := zdc_288.2.2.2.2.1
theorem dX9_canBuild_23 : decode cX9_canBuild 23 = .ok (.iconst 1, 1) := zdc_288.2.2.2.2.2.1
theorem dX9_canBuild_24 : decode cX9_canBuild 24 = .ok (.iand, 1) := zdc_288.2.2.2.2.2.2.1
theorem dX9_canBuild_25 : decode cX9_canBuild 25 = .ok (.ifCond .eq 36, 3) := zdc_288.2.2.2.2.2.2.2.1
theorem dX9_canBuild_28 : decode cX9_canBuild 28 = .ok (.aload_n 0, 1) := zdc_288.2.2.2.2.2.2.2.2.1
theorem dX9_canBuild_29 : decode cX9_canBuild 29 = .ok (.getfield 53, 3) := zdc_288.2.2.2.2.2.2.2.2.2
theorem zdc_289 : decode cX9_canBuild 32 = .ok (.iload 4, 2) ∧ decode cX9_canBuild 34 = .ok (.iaload, 1) ∧ decode cX9_canBuild 35 = .ok (.ifCond .ne 14, 3) ∧ decode cX9_canBuild 38 = .ok (.aload_n 0, 1) ∧ decode cX9_canBuild 39 = .ok (.getfield 47, 3) ∧ decode cX9_canBuild 42 = .ok (.iload 4, 2) ∧ decode cX9_canBuild 44 = .ok (.iaload, 1) ∧ decode cX9_canBuild 45 = .ok (.iload_n 2, 1) ∧ decode cX9_canBuild 46 = .ok (.if_icmp .le 5, 3) ∧ decode cX9_canBuild 49 = .ok (.iconst 0, 1) := by decide +kernel
theorem dX9_canBuild_32 : decode cX9_canBuild 32 = .ok (.iload 4, 2) := zdc_289.1
theorem dX9_canBuild_34 : decode cX9_canBuild 34 = .ok (.iaload, 1) := zdc_289.2.1
theorem dX9_canBuild_35 : decode cX9_canBuild 35 = .ok (.ifCond .ne 14, 3) := zdc_289.2.2.1
theorem dX9_canBuild_38 : decode cX9_canBuild 38 = .ok (.aload_n 0, 1) := zdc_289.2.2.2.1
theorem dX9_canBuild_39 : decode cX9_canBuild 39 = .ok (.getfield 47, 3) := zdc_289.2.2.2.2.1
theorem dX9_canBuild_42 : decode cX9_canBuild 42 = .ok (.iload 4, 2) := zdc_289.2.2.2.2.2.1
theorem dX9_canBuild_44 : decode cX9_canBuild 44 = .ok (.iaload, 1) := zdc_289.2.2.2.2.2.2.1
theorem dX9_canBuild_45 : decode cX9_canBuild 45 = .ok (.iload_n 2, 1) := zdc_289.2.2.2.2.2.2.2.1
theorem dX9_canBuild_46 : decode cX9_canBuild 46 = .ok (.if_icmp .le 5, 3) := zdc_289.2.2.2.2.2.2.2.2.1
theorem dX9_canBuild_49 : decode cX9_canBuild 49 = .ok (.iconst 0, 1) := zdc_289.2.2.2.2.2.2.2.2.2
theorem zdc_290 : decode cX9_canBuild 50 = .ok (.ireturn, 1) ∧ decode cX9_canBuild 51 = .ok (.iload_n 3, 1) ∧ decode cX9_canBuild 52 = .ok (.aload_n 0, 1) ∧ decode cX9_canBuild 53 = .ok (.getfield 44, 3) ∧ decode cX9_canBuild 56 = .ok (.iload 4, 2) ∧ decode cX9_canBuild 58 = .ok (.iaload, 1) ∧ decode cX9_canBuild 59 = .ok (.iadd, 1) ∧ decode cX9_canBuild 60 = .ok (.istore_n 3, 1) ∧ decode cX9_canBuild 61 = .ok (.iinc 4 1, 3) ∧ decode cX9_canBuild 64 = .ok (.goto (-54), 3) := by decide +kernel
theorem dX9_canBuild_50 : decode cX9_canBuild 50 = .ok (.ireturn, 1) := zdc_290.1
theorem dX9_canBuild_51 : decode cX9_canBuild 51 = .ok (.iload_n 3, 1) := zdc_290.2.1
theorem dX9_canBuild_52 : decode cX9_canBuild 52 = .ok (.aload_n 0, 1) := zdc_290.2.2.1
theorem dX9_canBuild_53 : decode cX9_canBuild 53 = .ok (.getfield 44, 3) := zdc_290.2.2.2.1
theorem dX9_canBuild_56 : decode cX9_canBuild 56 = .ok (.iload 4, 2) := zdc_290.2.2.2.2.1
theorem dX9_canBuild_58 : decode cX9_canBuild 58 = .ok (.iaload, 1) := zdc_290.2.2.2.2.2.1
theorem dX9_canBuild_59 : decode cX9_canBuild 59 = .ok (.iadd, 1) := zdc_290.2.2.2.2.2.2.1
theorem dX9_canBuild_60 : decode cX9_canBuild 60 = .ok (.istore_n 3, 1) := zdc_290.2.2.2.2.2.2.2.1
theorem dX9_canBuild_61 : decode cX9_canBuild 61 = .ok (.iinc 4 1, 3) := zdc_290.2.2.2.2.2.2.2.2.1
theorem dX9_canBuild_64 : decode cX9_canBuild 64 = .ok (.goto (-54), 3) := zdc_290.2.2.2.2.2.2.2.2.2
theorem zdc_291 : decode cX9_canBuild 67 = .ok (.iload_n 3, 1) ∧ decode cX9_canBuild 68 = .ok (.aload_n 0, 1) ∧ decode cX9_canBuild 69 = .ok (.getfield 9, 3) ∧ decode cX9_canBuild 72 = .ok (.if_icmp .gt 7, 3) ∧ decode cX9_canBuild 75 = .ok (.iconst 1, 1) ∧ decode cX9_canBuild 76 = .ok (.goto 4, 3) ∧ decode cX9_canBuild 79 = .ok (.iconst 0, 1) ∧ decode cX9_canBuild 80 = .ok (.ireturn, 1) ∧ decode cX9_gainOf 0 = .ok (.iconst 0, 1) ∧ decode cX9_gainOf 1 = .ok (.istore_n 2, 1) := by decide +kernel
theorem dX9_canBuild_67 : decode cX9_canBuild 67 = .ok (.iload_n 3, 1) := zdc_291.1
theorem dX9_canBuild_68 : decode cX9_canBuild 68 = .ok (.aload_n 0, 1) := zdc_291.2.1
theorem dX9_canBuild_69 : decode cX9_canBuild 69 = .ok (.getfield 9, 3) := zdc_291.2.2.1
theorem dX9_canBuild_72 : decode cX9_canBuild 72 = .ok (.if_icmp .gt 7, 3) := zdc_291.2.2.2.1
theorem dX9_canBuild_75 : decode cX9_canBuild 75 = .ok (.iconst 1, 1) := zdc_291.2.2.2.2.1
theorem dX9_canBuild_76 : decode cX9_canBuild 76 = .ok (.goto 4, 3) := zdc_291.2.2.2.2.2.1
theorem dX9_canBuild_79 : decode cX9_canBuild 79 = .ok (.iconst 0, 1) := zdc_291.2.2.2.2.2.2.1
theorem dX9_canBuild_80 : decode cX9_canBuild 80 = .ok (.ireturn, 1) := zdc_291.2.2.2.2.2.2.2.1
theorem dX9_gainOf_0 : decode cX9_gainOf 0 = .ok (.iconst 0, 1) := zdc_291.2.2.2.2.2.2.2.2.1
theorem dX9_gainOf_1 : decode cX9_gainOf 1 = .ok (.istore_n 2, 1) := zdc_291.2.2.2.2.2.2.2.2.2
theorem zdc_292 : decode cX9_gainOf 2 = .ok (.iconst 0, 1) ∧ decode cX9_gainOf 3 = .ok (.istore_n 3, 1) ∧ decode cX9_gainOf 4 = .ok (.iload_n 3, 1) ∧ decode cX9_gainOf 5 = .ok (.aload_n 0, 1) ∧ decode cX9_gainOf 6 = .ok (.getfield 62, 3) ∧ decode cX9_gainOf 9 = .ok (.if_icmp .ge 26, 3) ∧ decode cX9_gainOf 12 = .ok (.iload_n 1, 1) ∧ decode cX9_gainOf 13 = .ok (.iload_n 3, 1) ∧ decode cX9_gainOf 14 = .ok (.ishr, 1) ∧ decode cX9_gainOf 15 = .ok (.iconst 1, 1) := by decide +kernel
theorem dX9_gainOf_2 : decode cX9_gainOf 2 = .ok (.iconst 0, 1) := zdc_292.1
theorem dX9_gainOf_3 : decode cX9_gainOf 3 = .ok (.istore_n 3, 1) := zdc_292.2.1
theorem dX9_gainOf_4 : decode cX9_gainOf 4 = .ok (.iload_n 3, 1) := zdc_292.2.2.1
theorem dX9_gainOf_5 : decode cX9_gainOf 5 = .ok (.aload_n 0, 1) := zdc_292.2.2.2.1
theorem dX9_gainOf_6 : decode cX9_gainOf 6 = .ok (.getfield 62, 3) := zdc_292.2.2.2.2.1
theorem dX9_gainOf_9 : decode cX9_gainOf 9 = .ok (.if_icmp .ge 26, 3) := zdc_292.2.2.2.2.2.1
theorem dX9_gainOf_12 : decode cX9_gainOf 12 = .ok (.iload_n 1, 1) := zdc_292.2.2.2.2.2.2.1
theorem dX9_gainOf_13 : decode cX9_gainOf 13 = .ok (.iload_n 3, 1) := zdc_292.2.2.2.2.2.2.2.1
theorem dX9_gainOf_14 : decode cX9_gainOf 14 = .ok (.ishr, 1) := zdc_292.2.2.2.2.2.2.2.2.1
theorem dX9_gainOf_15 : decode cX9_gainOf 15 = .ok (.iconst 1, 1) := zdc_292.2.2.2.2.2.2.2.2.2
theorem zdc_293 : decode cX9_gainOf 16 = .ok (.iand, 1) ∧ decode cX9_gainOf 17 = .ok (.ifCond .eq 12, 3) ∧ decode cX9_gainOf 20 = .ok (.iload_n 2, 1) ∧ decode cX9_gainOf 21 = .ok (.aload_n 0, 1) ∧ decode cX9_gainOf 22 = .ok (.getfield 50, 3) ∧ decode cX9_gainOf 25 = .ok (.iload_n 3, 1) ∧ decode cX9_gainOf 26 = .ok (.iaload, 1) ∧ decode cX9_gainOf 27 = .ok (.iadd, 1) ∧ decode cX9_gainOf 28 = .ok (.istore_n 2, 1) ∧ decode cX9_gainOf 29 = .ok (.iinc 3 1, 3) := by decide +kernel
theorem dX9_gainOf_16 : decode cX9_gainOf 16 = .ok (.iand, 1) := zdc_293.1
theorem dX9_gainOf_17 : decode cX9_gainOf 17 = .ok (.ifCond .eq 12, 3) := zdc_293.2.1
theorem dX9_gainOf_20 : decode cX9_gainOf 20 = .ok (.iload_n 2, 1) := zdc_293.2.2.1
theorem dX9_gainOf_21 : decode cX9_gainOf 21 = .ok (.aload_n 0, 1) := zdc_293.2.2.2.1
theorem dX9_gainOf_22 : decode cX9_gainOf 22 = .ok (.getfield 50, 3) := zdc_293.2.2.2.2.1
theorem dX9_gainOf_25 : decode cX9_gainOf 25 = .ok (.iload_n 3, 1) := zdc_293.2.2.2.2.2.1
theorem dX9_gainOf_26 : decode cX9_gainOf 26 = .ok (.iaload, 1) := zdc_293.2.2.2.2.2.2.1
theorem dX9_gainOf_27 : decode cX9_gainOf 27 = .ok (.iadd, 1) := zdc_293.2.2.2.2.2.2.2.1
theorem dX9_gainOf_28 : decode cX9_gainOf 28 = .ok (.istore_n 2, 1) := zdc_293.2.2.2.2.2.2.2.2.1
theorem dX9_gainOf_29 : decode cX9_gainOf 29 = .ok (.iinc 3 1, 3) := zdc_293.2.2.2.2.2.2.2.2.2
theorem zdc_294 : decode cX9_gainOf 32 = .ok (.goto (-28), 3) ∧ decode cX9_gainOf 35 = .ok (.iload_n 2, 1) ∧ decode cX9_gainOf 36 = .ok (.ireturn, 1) ∧ decode cX9_raise 0 = .ok (.aload_n 0, 1) ∧ decode cX9_raise 1 = .ok (.getfield 24, 3) ∧ decode cX9_raise 4 = .ok (.iload_n 1, 1) ∧ decode cX9_raise 5 = .ok (.aload_n 0, 1) ∧ decode cX9_raise 6 = .ok (.aload_n 0, 1) ∧ decode cX9_raise 7 = .ok (.getfield 24, 3) ∧ decode cX9_raise 10 = .ok (.iload_n 1, 1) := by decide +kernel
theorem dX9_gainOf_32 : decode cX9_gainOf 32 = .ok (.goto (-28), 3) := zdc_294.1
theorem dX9_gainOf_35 : decode cX9_gainOf 35 = .ok (.iload_n 2, 1) := zdc_294.2.1
theorem dX9_gainOf_36 : decode cX9_gainOf 36 = .ok (.ireturn, 1) := zdc_294.2.2.1
theorem dX9_raise_0 : decode cX9_raise 0 = .ok (.aload_n 0, 1) := zdc_294.2.2.2.1
theorem dX9_raise_1 : decode cX9_raise 1 = .ok (.getfield 24, 3) := zdc_294.2.2.2.2.1
theorem dX9_raise_4 : decode cX9_raise 4 = .ok (.iload_n 1, 1) := zdc_294.2.2.2.2.2.1
theorem dX9_raise_5 : decode cX9_raise 5 = .ok (.aload_n 0, 1) := zdc_294.2.2.2.2.2.2.1
theorem dX9_raise_6 : decode cX9_raise 6 = .ok (.aload_n 0, 1) := zdc_294.2.2.2.2.2.2.2.1
theorem dX9_raise_7 : decode cX9_raise 7 = .ok (.getfield 24, 3) := zdc_294.2.2.2.2.2.2.2.2.1
theorem dX9_raise_10 : decode cX9_raise 10 = .ok (.iload_n 1, 1) := zdc_294.2.2.2.2.2.2.2.2.2
theorem zdc_295 : decode cX9_raise 11 = .ok (.iaload, 1) ∧ decode cX9_raise 12 = .ok (.iload_n 2, 1) ∧ decode cX9_raise 13 = .ok (.iadd, 1) ∧ decode cX9_raise 14 = .ok (.invokevirtual 122, 3) ∧ decode cX9_raise 17 = .ok (.iastore, 1) ∧ decode cX9_raise 18 = .ok (.return_, 1) ∧ decode cX9_within 0 = .ok (.iconst 0, 1) ∧ decode cX9_within 1 = .ok (.bipush 99, 2) ∧ decode cX9_within 3 = .ok (.iload_n 1, 1) ∧ decode cX9_within 4 = .ok (.invokestatic 125, 3) := by decide +kernel
theorem dX9_raise_11 : decode cX9_raise 11 = .ok (.iaload, 1) := zdc_295.1
theorem dX9_raise_12 : decode cX9_raise 12 = .ok (.iload_n 2, 1) := zdc_295.2.1
theorem dX9_raise_13 : decode cX9_raise 13 = .ok (.iadd, 1) := zdc_295.2.2.1
theorem dX9_raise_14 : decode cX9_raise 14 = .ok (.invokevirtual 122, 3) := zdc_295.2.2.2.1
theorem dX9_raise_17 : decode cX9_raise 17 = .ok (.iastore, 1) := zdc_295.2.2.2.2.1
theorem dX9_raise_18 : decode cX9_raise 18 = .ok (.return_, 1) := zdc_295.2.2.2.2.2.1
theorem dX9_within_0 : decode cX9_within 0 = .ok (.iconst 0, 1) := zdc_295.2.2.2.2.2.2.1
theorem dX9_within_1 : decode cX9_within 1 = .ok (.bipush 99, 2) := zdc_295.2.2.2.2.2.2.2.1
theorem dX9_within_3 : decode cX9_within 3 = .ok (.iload_n 1, 1) := zdc_295.2.2.2.2.2.2.2.2.1
theorem dX9_within_4 : decode cX9_within 4 = .ok (.invokestatic 125, 3) := zdc_295.2.2.2.2.2.2.2.2.2
theorem zdc_296 : decode cX9_within 7 = .ok (.invokestatic 111, 3) ∧ decode cX9_within 10 = .ok (.ireturn, 1) ∧ decode cX9_passDay 0 = .ok (.aload_n 0, 1) ∧ decode cX9_passDay 1 = .ok (.aload_n 1, 1) ∧ decode cX9_passDay 2 = .ok (.invokevirtual 128, 3) ∧ decode cX9_passDay 5 = .ok (.aload_n 0, 1) ∧ decode cX9_passDay 6 = .ok (.aload_n 1, 1) ∧ decode cX9_passDay 7 = .ok (.invokevirtual 132, 3) ∧ decode cX9_passDay 10 = .ok (.aload_n 0, 1) ∧ decode cX9_passDay 11 = .ok (.aload_n 3, 1) := by decide +kernel
theorem dX9_within_7 : decode cX9_within 7 = .ok (.invokestatic 111, 3) := zdc_296.1
theorem dX9_within_10 : decode cX9_within 10 = .ok (.ireturn, 1) := zdc_296.2.1
theorem dX9_passDay_0 : decode cX9_passDay 0 = .ok (.aload_n 0, 1) := zdc_296.2.2.1
theorem dX9_passDay_1 : decode cX9_passDay 1 = .ok (.aload_n 1, 1) := zdc_296.2.2.2.1
theorem dX9_passDay_2 : decode cX9_passDay 2 = .ok (.invokevirtual 128, 3) := zdc_296.2.2.2.2.1
theorem dX9_passDay_5 : decode cX9_passDay 5 = .ok (.aload_n 0, 1) := zdc_296.2.2.2.2.2.1
theorem dX9_passDay_6 : decode cX9_passDay 6 = .ok (.aload_n 1, 1) := zdc_296.2.2.2.2.2.2.1
theorem dX9_passDay_7 : decode cX9_passDay 7 = .ok (.invokevirtual 132, 3) := zdc_296.2.2.2.2.2.2.2.1
theorem dX9_passDay_10 : decode cX9_passDay 10 = .ok (.aload_n 0, 1) := zdc_296.2.2.2.2.2.2.2.2.1
theorem dX9_passDay_11 : decode cX9_passDay 11 = .ok (.aload_n 3, 1) := zdc_296.2.2.2.2.2.2.2.2.2
theorem zdc_297 : decode cX9_passDay 12 = .ok (.invokevirtual 135, 3) ∧ decode cX9_passDay 15 = .ok (.istore 4, 2) ∧ decode cX9_passDay 17 = .ok (.aload_n 0, 1) ∧ decode cX9_passDay 18 = .ok (.iload_n 2, 1) ∧ decode cX9_passDay 19 = .ok (.aload_n 3, 1) ∧ decode cX9_passDay 20 = .ok (.invokevirtual 139, 3) ∧ decode cX9_passDay 23 = .ok (.aload_n 0, 1) ∧ decode cX9_passDay 24 = .ok (.sipush 9999, 3) ∧ decode cX9_passDay 27 = .ok (.aload_n 0, 1) ∧ decode cX9_passDay 28 = .ok (.getfield 68, 3) := by decide +kernel
theorem dX9_passDay_12 : decode cX9_passDay 12 = .ok (.invokevirtual 135, 3) := zdc_297.1
theorem dX9_passDay_15 : decode cX9_passDay 15 = .ok (.istore 4, 2) := zdc_297.2.1
theorem dX9_passDay_17 : decode cX9_passDay 17 = .ok (.aload_n 0, 1) := zdc_297.2.2.1
theorem dX9_passDay_18 : decode cX9_passDay 18 = .ok (.iload_n 2, 1) := zdc_297.2.2.2.1
theorem dX9_passDay_19 : decode cX9_passDay 19 = .ok (.aload_n 3, 1) := zdc_297.2.2.2.2.1
theorem dX9_passDay_20 : decode cX9_passDay 20 = .ok (.invokevirtual 139, 3) := zdc_297.2.2.2.2.2.1
theorem dX9_passDay_23 : decode cX9_passDay 23 = .ok (.aload_n 0, 1) := zdc_297.2.2.2.2.2.2.1
theorem dX9_passDay_24 : decode cX9_passDay 24 = .ok (.sipush 9999, 3) := zdc_297.2.2.2.2.2.2.2.1
theorem dX9_passDay_27 : decode cX9_passDay 27 = .ok (.aload_n 0, 1) := zdc_297.2.2.2.2.2.2.2.2.1
theorem dX9_passDay_28 : decode cX9_passDay 28 = .ok (.getfield 68, 3) := zdc_297.2.2.2.2.2.2.2.2.2
theorem zdc_298 : decode cX9_passDay 31 = .ok (.iconst 1, 1) ∧ decode cX9_passDay 32 = .ok (.iadd, 1) ∧ decode cX9_passDay 33 = .ok (.invokestatic 125, 3) ∧ decode cX9_passDay 36 = .ok (.putfield 68, 3) ∧ decode cX9_passDay 39 = .ok (.iload 4, 2) ∧ decode cX9_passDay 41 = .ok (.ireturn, 1) ∧ decode cX9_showTo 0 = .ok (.aload_n 1, 1) ∧ decode cX9_showTo 1 = .ok (.aload_n 0, 1) ∧ decode cX9_showTo 2 = .ok (.invokevirtual 98, 3) ∧ decode cX9_showTo 5 = .ok (.aload_n 0, 1) := by decide +kernel
theorem dX9_passDay_31 : decode cX9_passDay 31 = .ok (.iconst 1, 1) := zdc_298.1
theorem dX9_passDay_32 : decode cX9_passDay 32 = .ok (.iadd, 1) := zdc_298.2.1
theorem dX9_passDay_33 : decode cX9_passDay 33 = .ok (.invokestatic 125, 3) := zdc_298.2.2.1
theorem dX9_passDay_36 : decode cX9_passDay 36 = .ok (.putfield 68, 3) := zdc_298.2.2.2.1
theorem dX9_passDay_39 : decode cX9_passDay 39 = .ok (.iload 4, 2) := zdc_298.2.2.2.2.1
theorem dX9_passDay_41 : decode cX9_passDay 41 = .ok (.ireturn, 1) := zdc_298.2.2.2.2.2.1
theorem dX9_showTo_0 : decode cX9_showTo 0 = .ok (.aload_n 1, 1) := zdc_298.2.2.2.2.2.2.1
theorem dX9_showTo_1 : decode cX9_showTo 1 = .ok (.aload_n 0, 1) := zdc_298.2.2.2.2.2.2.2.1
theorem dX9_showTo_2 : decode cX9_showTo 2 = .ok (.invokevirtual 98, 3) := zdc_298.2.2.2.2.2.2.2.2.1
theorem dX9_showTo_5 : decode cX9_showTo 5 = .ok (.aload_n 0, 1) := zdc_298.2.2.2.2.2.2.2.2.2
theorem zdc_299 : decode cX9_showTo 6 = .ok (.iconst 1, 1) ∧ decode cX9_showTo 7 = .ok (.invokevirtual 143, 3) ∧ decode cX9_showTo 10 = .ok (.invokestatic 89, 3) ∧ decode cX9_showTo 13 = .ok (.aload_n 0, 1) ∧ decode cX9_showTo 14 = .ok (.getfield 68, 3) ∧ decode cX9_showTo 17 = .ok (.invokevirtual 146, 3) ∧ decode cX9_showTo 20 = .ok (.return_, 1) ∧ decode cX9_turnsOf 0 = .ok (.aload_n 0, 1) ∧ decode cX9_turnsOf 1 = .ok (.aload_n 2, 1) ∧ decode cX9_turnsOf 2 = .ok (.invokevirtual 128, 3) := by decide +kernel
theorem dX9_showTo_6 : decode cX9_showTo 6 = .ok (.iconst 1, 1) := zdc_299.1
theorem dX9_showTo_7 : decode cX9_showTo 7 = .ok (.invokevirtual 143, 3) := zdc_299.2.1
theorem dX9_showTo_10 : decode cX9_showTo 10 = .ok (.invokestatic 89, 3) := zdc_299.2.2.1
theorem dX9_showTo_13 : decode cX9_showTo 13 = .ok (.aload_n 0, 1) := zdc_299.2.2.2.1
theorem dX9_showTo_14 : decode cX9_showTo 14 = .ok (.getfield 68, 3) := zdc_299.2.2.2.2.1
theorem dX9_showTo_17 : decode cX9_showTo 17 = .ok (.invokevirtual 146, 3) := zdc_299.2.2.2.2.2.1
theorem dX9_showTo_20 : decode cX9_showTo 20 = .ok (.return_, 1) := zdc_299.2.2.2.2.2.2.1
theorem dX9_turnsOf_0 : decode cX9_turnsOf 0 = .ok (.aload_n 0, 1) := zdc_299.2.2.2.2.2.2.2.1
theorem dX9_turnsOf_1 : decode cX9_turnsOf 1 = .ok (.aload_n 2, 1) := zdc_299.2.2.2.2.2.2.2.2.1
theorem dX9_turnsOf_2 : decode cX9_turnsOf 2 = .ok (.invokevirtual 128, 3) := zdc_299.2.2.2.2.2.2.2.2.2
theorem zdc_300 : decode cX9_turnsOf 5 = .ok (.aload_n 2, 1) ∧ decode cX9_turnsOf 6 = .ok (.aload_n 0, 1) ∧ decode cX9_turnsOf 7 = .ok (.iload_n 1, 1) ∧ decode cX9_turnsOf 8 = .ok (.invokevirtual 151, 3) ∧ decode cX9_turnsOf 11 = .ok (.ireturn, 1) ∧ decode cX9_turnBeliefs 0 = .ok (.iconst 0, 1) ∧ decode cX9_turnBeliefs 1 = .ok (.istore_n 2, 1) ∧ decode cX9_turnBeliefs 2 = .ok (.iload_n 2, 1) ∧ decode cX9_turnBeliefs 3 = .ok (.aload_n 0, 1) ∧ decode cX9_turnBeliefs 4 = .ok (.getfield 59, 3) := by decide +kernel
theorem dX9_turnsOf_5 : decode cX9_turnsOf 5 = .ok (.aload_n 2, 1) := zdc_300.1
theorem dX9_turnsOf_6 : decode cX9_turnsOf 6 = .ok (.aload_n 0, 1) := zdc_300.2.1
theorem dX9_turnsOf_7 : decode cX9_turnsOf 7 = .ok (.iload_n 1, 1) := zdc_300.2.2.1
theorem dX9_turnsOf_8 : decode cX9_turnsOf 8 = .ok (.invokevirtual 151, 3) := zdc_300.2.2.2.1
theorem dX9_turnsOf_11 : decode cX9_turnsOf 11 = .ok (.ireturn, 1) := zdc_300.2.2.2.2.1
theorem dX9_turnBeliefs_0 : decode cX9_turnBeliefs 0 = .ok (.iconst 0, 1) := zdc_300.2.2.2.2.2.1
theorem dX9_turnBeliefs_1 : decode cX9_turnBeliefs 1 = .ok (.istore_n 2, 1) := zdc_300.2.2.2.2.2.2.1
theorem dX9_turnBeliefs_2 : decode cX9_turnBeliefs 2 = .ok (.iload_n 2, 1) := zdc_300.2.2.2.2.2.2.2.1
theorem dX9_turnBeliefs_3 : decode cX9_turnBeliefs 3 = .ok (.aload_n 0, 1) := zdc_300.2.2.2.2.2.2.2.2.1
theorem dX9_turnBeliefs_4 : decode cX9_turnBeliefs 4 = .ok (.getfield 59, 3) := zdc_300.2.2.2.2.2.2.2.2.2
theorem zdc_301 : decode cX9_turnBeliefs 7 = .ok (.if_icmp .ge 61, 3) ∧ decode cX9_turnBeliefs 10 = .ok (.aload_n 0, 1) ∧ decode cX9_turnBeliefs 11 = .ok (.iload_n 2, 1) ∧ decode cX9_turnBeliefs 12 = .ok (.invokevirtual 81, 3) ∧ decode cX9_turnBeliefs 15 = .ok (.ifCond .eq 35, 3) ∧ decode cX9_turnBeliefs 18 = .ok (.aload_n 0, 1) ∧ decode cX9_turnBeliefs 19 = .ok (.getfield 56, 3) ∧ decode cX9_turnBeliefs 22 = .ok (.iload_n 2, 1) ∧ decode cX9_turnBeliefs 23 = .ok (.aload_n 0, 1) ∧ decode cX9_turnBeliefs 24 = .ok (.aload_n 0, 1) := by decide +kernel
theorem dX9_turnBeliefs_7 : decode cX9_turnBeliefs 7 = .ok (.if_icmp .ge 61, 3) := zdc_301.1
theorem dX9_turnBeliefs_10 : decode cX9_turnBeliefs 10 = .ok (.aload_n 0, 1) := zdc_301.2.1
theorem dX9_turnBeliefs_11 : decode cX9_turnBeliefs 11 = .ok (.iload_n 2, 1) := zdc_301.2.2.1
theorem dX9_turnBeliefs_12 : decode cX9_turnBeliefs 12 = .ok (.invokevirtual 81, 3) := zdc_301.2.2.2.1
theorem dX9_turnBeliefs_15 : decode cX9_turnBeliefs 15 = .ok (.ifCond .eq 35, 3) := zdc_301.2.2.2.2.1
theorem dX9_turnBeliefs_18 : decode cX9_turnBeliefs 18 = .ok (.aload_n 0, 1) := zdc_301.2.2.2.2.2.1
theorem dX9_turnBeliefs_19 : decode cX9_turnBeliefs 19 = .ok (.getfield 56, 3) := zdc_301.2.2.2.2.2.2.1
theorem dX9_turnBeliefs_22 : decode cX9_turnBeliefs 22 = .ok (.iload_n 2, 1) := zdc_301.2.2.2.2.2.2.2.1
theorem dX9_turnBeliefs_23 : decode cX9_turnBeliefs 23 = .ok (.aload_n 0, 1) := zdc_301.2.2.2.2.2.2.2.2.1
theorem dX9_turnBeliefs_24 : decode cX9_turnBeliefs 24 = .ok (.aload_n 0, 1) := zdc_301.2.2.2.2.2.2.2.2.2
theorem zdc_302 : decode cX9_turnBeliefs 25 = .ok (.getfield 24, 3) ∧ decode cX9_turnBeliefs 28 = .ok (.iload_n 2, 1) ∧ decode cX9_turnBeliefs 29 = .ok (.iaload, 1) ∧ decode cX9_turnBeliefs 30 = .ok (.aload_n 0, 1) ∧ decode cX9_turnBeliefs 31 = .ok (.iload_n 2, 1) ∧ decode cX9_turnBeliefs 32 = .ok (.invokevirtual 155, 3) ∧ decode cX9_turnBeliefs 35 = .ok (.iadd, 1) ∧ decode cX9_turnBeliefs 36 = .ok (.aload_n 1, 1) ∧ decode cX9_turnBeliefs 37 = .ok (.aload_n 0, 1) ∧ decode cX9_turnBeliefs 38 = .ok (.iload_n 2, 1) := by decide +kernel
theorem dX9_turnBeliefs_25 : decode cX9_turnBeliefs 25 = .ok (.getfield 24, 3) := zdc_302.1
theorem dX9_turnBeliefs_28 : decode cX9_turnBeliefs 28 = .ok (.iload_n 2, 1) := zdc_302.2.1
theorem dX9_turnBeliefs_29 : decode cX9_turnBeliefs 29 = .ok (.iaload, 1) := zdc_302.2.2.1
theorem dX9_turnBeliefs_30 : decode cX9_turnBeliefs 30 = .ok (.aload_n 0, 1) := zdc_302.2.2.2.1
theorem dX9_turnBeliefs_31 : decode cX9_turnBeliefs 31 = .ok (.iload_n 2, 1) := zdc_302.2.2.2.2.1
theorem dX9_turnBeliefs_32 : decode cX9_turnBeliefs 32 = .ok (.invokevirtual 155, 3) := zdc_302.2.2.2.2.2.1
theorem dX9_turnBeliefs_35 : decode cX9_turnBeliefs 35 = .ok (.iadd, 1) := zdc_302.2.2.2.2.2.2.1
theorem dX9_turnBeliefs_36 : decode cX9_turnBeliefs 36 = .ok (.aload_n 1, 1) := zdc_302.2.2.2.2.2.2.2.1
theorem dX9_turnBeliefs_37 : decode cX9_turnBeliefs 37 = .ok (.aload_n 0, 1) := zdc_302.2.2.2.2.2.2.2.2.1
theorem dX9_turnBeliefs_38 : decode cX9_turnBeliefs 38 = .ok (.iload_n 2, 1) := zdc_302.2.2.2.2.2.2.2.2.2
theorem zdc_303 : decode cX9_turnBeliefs 39 = .ok (.invokevirtual 151, 3) ∧ decode cX9_turnBeliefs 42 = .ok (.iadd, 1) ∧ decode cX9_turnBeliefs 43 = .ok (.invokevirtual 122, 3) ∧ decode cX9_turnBeliefs 46 = .ok (.iastore, 1) ∧ decode cX9_turnBeliefs 47 = .ok (.goto 15, 3) ∧ decode cX9_turnBeliefs 50 = .ok (.aload_n 0, 1) ∧ decode cX9_turnBeliefs 51 = .ok (.getfield 56, 3) ∧ decode cX9_turnBeliefs 54 = .ok (.iload_n 2, 1) ∧ decode cX9_turnBeliefs 55 = .ok (.aload_n 0, 1) ∧ decode cX9_turnBeliefs 56 = .ok (.getfield 24, 3) := by decide +kernel
theorem dX9_turnBeliefs_39 : decode cX9_turnBeliefs 39 = .ok (.invokevirtual 151, 3) := zdc_303.1
theorem dX9_turnBeliefs_42 : decode cX9_turnBeliefs 42 = .ok (.iadd, 1) := zdc_303.2.1
theorem dX9_turnBeliefs_43 : decode cX9_turnBeliefs 43 = .ok (.invokevirtual 122, 3) := zdc_303.2.2.1
theorem dX9_turnBeliefs_46 : decode cX9_turnBeliefs 46 = .ok (.iastore, 1) := zdc_303.2.2.2.1
theorem dX9_turnBeliefs_47 : decode cX9_turnBeliefs 47 = .ok (.goto 15, 3) := zdc_303.2.2.2.2.1
theorem dX9_turnBeliefs_50 : decode cX9_turnBeliefs 50 = .ok (.aload_n 0, 1) := zdc_303.2.2.2.2.2.1
theorem dX9_turnBeliefs_51 : decode cX9_turnBeliefs 51 = .ok (.getfield 56, 3) := zdc_303.2.2.2.2.2.2.1
theorem dX9_turnBeliefs_54 : decode cX9_turnBeliefs 54 = .ok (.iload_n 2, 1) := zdc_303.2.2.2.2.2.2.2.1
theorem dX9_turnBeliefs_55 : decode cX9_turnBeliefs 55 = .ok (.aload_n 0, 1) := zdc_303.2.2.2.2.2.2.2.2.1
theorem dX9_turnBeliefs_56 : decode cX9_turnBeliefs 56 = .ok (.getfield 24, 3) := zdc_303.2.2.2.2.2.2.2.2.2
theorem zdc_304 : decode cX9_turnBeliefs 59 = .ok (.iload_n 2, 1) ∧ decode cX9_turnBeliefs 60 = .ok (.iaload, 1) ∧ decode cX9_turnBeliefs 61 = .ok (.iastore, 1) ∧ decode cX9_turnBeliefs 62 = .ok (.iinc 2 1, 3) ∧ decode cX9_turnBeliefs 65 = .ok (.goto (-63), 3) ∧ decode cX9_turnBeliefs 68 = .ok (.aload_n 0, 1) ∧ decode cX9_turnBeliefs 69 = .ok (.getfield 56, 3) ∧ decode cX9_turnBeliefs 72 = .ok (.iconst 0, 1) ∧ decode cX9_turnBeliefs 73 = .ok (.aload_n 0, 1) ∧ decode cX9_turnBeliefs 74 = .ok (.getfield 24, 3) := by decide +kernel
theorem dX9_turnBeliefs_59 : decode cX9_turnBeliefs 59 = .ok (.iload_n 2, 1) := zdc_304.1
theorem dX9_turnBeliefs_60 : decode cX9_turnBeliefs 60 = .ok (.iaload, 1) := zdc_304.2.1
theorem dX9_turnBeliefs_61 : decode cX9_turnBeliefs 61 = .ok (.iastore, 1) := zdc_304.2.2.1
theorem dX9_turnBeliefs_62 : decode cX9_turnBeliefs 62 = .ok (.iinc 2 1, 3) := zdc_304.2.2.2.1
theorem dX9_turnBeliefs_65 : decode cX9_turnBeliefs 65 = .ok (.goto (-63), 3) := zdc_304.2.2.2.2.1
theorem dX9_turnBeliefs_68 : decode cX9_turnBeliefs 68 = .ok (.aload_n 0, 1) := zdc_304.2.2.2.2.2.1
theorem dX9_turnBeliefs_69 : decode cX9_turnBeliefs 69 = .ok (.getfield 56, 3) := zdc_304.2.2.2.2.2.2.1
theorem dX9_turnBeliefs_72 : decode cX9_turnBeliefs 72 = .ok (.iconst 0, 1) := zdc_304.2.2.2.2.2.2.2.1
theorem dX9_turnBeliefs_73 : decode cX9_turnBeliefs 73 = .ok (.aload_n 0, 1) := zdc_304.2.2.2.2.2.2.2.2.1
theorem dX9_turnBeliefs_74 : decode cX9_turnBeliefs 74 = .ok (.getfield 24, 3) := zdc_304.2.2.2.2.2.2.2.2.2
theorem zdc_305 : decode cX9_turnBeliefs 77 = .ok (.iconst 0, 1) ∧ decode cX9_turnBeliefs 78 = .ok (.aload_n 0, 1) ∧ decode cX9_turnBeliefs 79 = .ok (.getfield 59, 3) ∧ decode cX9_turnBeliefs 82 = .ok (.invokestatic 71, 3) ∧ decode cX9_turnBeliefs 85 = .ok (.return_, 1) ∧ decode cX9_keepWorks 0 = .ok (.aload_n 0, 1) ∧ decode cX9_keepWorks 1 = .ok (.invokevirtual 95, 3) ∧ decode cX9_keepWorks 4 = .ok (.istore_n 2, 1) ∧ decode cX9_keepWorks 5 = .ok (.iconst 0, 1) ∧ decode cX9_keepWorks 6 = .ok (.istore_n 3, 1) := by decide +kernel
theorem dX9_turnBeliefs_77 : decode cX9_turnBeliefs 77 = .ok (.iconst 0, 1) := zdc_305.1
theorem dX9_turnBeliefs_78 : decode cX9_turnBeliefs 78 = .ok (.aload_n 0, 1) := zdc_305.2.1
theorem dX9_turnBeliefs_79 : decode cX9_turnBeliefs 79 = .ok (.getfield 59, 3) := zdc_305.2.2.1
theorem dX9_turnBeliefs_82 : decode cX9_turnBeliefs 82 = .ok (.invokestatic 71, 3) := zdc_305.2.2.2.1
theorem dX9_turnBeliefs_85 : decode cX9_turnBeliefs 85 = .ok (.return_, 1) := zdc_305.2.2.2.2.1
theorem dX9_keepWorks_0 : decode cX9_keepWorks 0 = .ok (.aload_n 0, 1) := zdc_305.2.2.2.2.2.1
theorem dX9_keepWorks_1 : decode cX9_keepWorks 1 = .ok (.invokevirtual 95, 3) := zdc_305.2.2.2.2.2.2.1
theorem dX9_keepWorks_4 : decode cX9_keepWorks 4 = .ok (.istore_n 2, 1) := zdc_305.2.2.2.2.2.2.2.1
theorem dX9_keepWorks_5 : decode cX9_keepWorks 5 = .ok (.iconst 0, 1) := zdc_305.2.2.2.2.2.2.2.2.1
theorem dX9_keepWorks_6 : decode cX9_keepWorks 6 = .ok (.istore_n 3, 1) := zdc_305.2.2.2.2.2.2.2.2.2
theorem zdc_306 : decode cX9_keepWorks 7 = .ok (.iconst 0, 1) ∧ decode cX9_keepWorks 8 = .ok (.istore 4, 2) ∧ decode cX9_keepWorks 10 = .ok (.iload 4, 2) ∧ decode cX9_keepWorks 12 = .ok (.aload_n 0, 1) ∧ decode cX9_keepWorks 13 = .ok (.getfield 62, 3) ∧ decode cX9_keepWorks 16 = .ok (.if_icmp .ge 156, 3) ∧ decode cX9_keepWorks 19 = .ok (.aload_n 0, 1) ∧ decode cX9_keepWorks 20 = .ok (.getfield 53, 3) ∧ decode cX9_keepWorks 23 = .ok (.iload 4, 2) ∧ decode cX9_keepWorks 25 = .ok (.iaload, 1) := by decide +kernel
theorem dX9_keepWorks_7 : decode cX9_keepWorks 7 = .ok (.iconst 0, 1) := zdc_306.1
theorem dX9_keepWorks_8 : decode cX9_keepWorks 8 = .ok (.istore 4, 2) := zdc_306.2.1
theorem dX9_keepWorks_10 : decode cX9_keepWorks 10 = .ok (.iload 4, 2) := zdc_306.2.2.1
theorem dX9_keepWorks_12 : decode cX9_keepWorks 12 = .ok (.aload_n 0, 1) := zdc_306.2.2.2.1
theorem dX9_keepWorks_13 : decode cX9_keepWorks 13 = .ok (.getfield 62, 3) := zdc_306.2.2.2.2.1
theorem dX9_keepWorks_16 : decode cX9_keepWorks 16 = .ok (.if_icmp .ge 156, 3) := zdc_306.2.2.2.2.2.1
theorem dX9_keepWorks_19 : decode cX9_keepWorks 19 = .ok (.aload_n 0, 1) := zdc_306.2.2.2.2.2.2.1
theorem dX9_keepWorks_20 : decode cX9_keepWorks 20 = .ok (.getfield 53, 3) := zdc_306.2.2.2.2.2.2.2.1
theorem dX9_keepWorks_23 : decode cX9_keepWorks 23 = .ok (.iload 4, 2) := zdc_306.2.2.2.2.2.2.2.2.1
theorem dX9_keepWorks_25 : decode cX9_keepWorks 25 = .ok (.iaload, 1) := zdc_306.2.2.2.2.2.2.2.2.2
theorem zdc_307 : decode cX9_keepWorks 26 = .ok (.ifCond .ne 63, 3) ∧ decode cX9_keepWorks 29 = .ok (.iload_n 2, 1) ∧ decode cX9_keepWorks 30 = .ok (.aload_n 0, 1) ∧ decode cX9_keepWorks 31 = .ok (.getfield 47, 3) ∧ decode cX9_keepWorks 34 = .ok (.iload 4, 2) ∧ decode cX9_keepWorks 36 = .ok (.iaload, 1) ∧ decode cX9_keepWorks 37 = .ok (.if_icmp .lt 52, 3) ∧ decode cX9_keepWorks 40 = .ok (.aload_n 0, 1) ∧ decode cX9_keepWorks 41 = .ok (.getfield 9, 3) ∧ decode cX9_keepWorks 44 = .ok (.aload_n 0, 1) := by decide +kernel
theorem dX9_keepWorks_26 : decode cX9_keepWorks 26 = .ok (.ifCond .ne 63, 3) := zdc_307.1
theorem dX9_keepWorks_29 : decode cX9_keepWorks 29 = .ok (.iload_n 2, 1) := zdc_307.2.1
theorem dX9_keepWorks_30 : decode cX9_keepWorks 30 = .ok (.aload_n 0, 1) := zdc_307.2.2.1
theorem dX9_keepWorks_31 : decode cX9_keepWorks 31 = .ok (.getfield 47, 3) := zdc_307.2.2.2.1
theorem dX9_keepWorks_34 : decode cX9_keepWorks 34 = .ok (.iload 4, 2) := zdc_307.2.2.2.2.1
theorem dX9_keepWorks_36 : decode cX9_keepWorks 36 = .ok (.iaload, 1) := zdc_307.2.2.2.2.2.1
theorem dX9_keepWorks_37 : decode cX9_keepWorks 37 = .ok (.if_icmp .lt 52, 3) := zdc_307.2.2.2.2.2.2.1
theorem dX9_keepWorks_40 : decode cX9_keepWorks 40 = .ok (.aload_n 0, 1) := zdc_307.2.2.2.2.2.2.2.1
theorem dX9_keepWorks_41 : decode cX9_keepWorks 41 = .ok (.getfield 9, 3) := zdc_307.2.2.2.2.2.2.2.2.1
theorem dX9_keepWorks_44 : decode cX9_keepWorks 44 = .ok (.aload_n 0, 1) := zdc_307.2.2.2.2.2.2.2.2.2
theorem zdc_308 : decode cX9_keepWorks 45 = .ok (.getfield 44, 3) ∧ decode cX9_keepWorks 48 = .ok (.iload 4, 2) ∧ decode cX9_keepWorks 50 = .ok (.iaload, 1) ∧ decode cX9_keepWorks 51 = .ok (.if_icmp .lt 38, 3) ∧ decode cX9_keepWorks 54 = .ok (.aload_n 0, 1) ∧ decode cX9_keepWorks 55 = .ok (.getfield 53, 3) ∧ decode cX9_keepWorks 58 = .ok (.iload 4, 2) ∧ decode cX9_keepWorks 60 = .ok (.iconst 1, 1) ∧ decode cX9_keepWorks 61 = .ok (.iastore, 1) ∧ decode cX9_keepWorks 62 = .ok (.aload_n 0, 1) := by decide +kernel
theorem dX9_keepWorks_45 : decode cX9_keepWorks 45 = .ok (.getfield 44, 3) := zdc_308.1
theorem dX9_keepWorks_48 : decode cX9_keepWorks 48 = .ok (.iload 4, 2) := zdc_308.2.1
theorem dX9_keepWorks_50 : decode cX9_keepWorks 50 = .ok (.iaload, 1) := zdc_308.2.2.1
theorem dX9_keepWorks_51 : decode cX9_keepWorks 51 = .ok (.if_icmp .lt 38, 3) := zdc_308.2.2.2.1
theorem dX9_keepWorks_54 : decode cX9_keepWorks 54 = .ok (.aload_n 0, 1) := zdc_308.2.2.2.2.1
theorem dX9_keepWorks_55 : decode cX9_keepWorks 55 = .ok (.getfield 53, 3) := zdc_308.2.2.2.2.2.1
theorem dX9_keepWorks_58 : decode cX9_keepWorks 58 = .ok (.iload 4, 2) := zdc_308.2.2.2.2.2.2.1
theorem dX9_keepWorks_60 : decode cX9_keepWorks 60 = .ok (.iconst 1, 1) := zdc_308.2.2.2.2.2.2.2.1
theorem dX9_keepWorks_61 : decode cX9_keepWorks 61 = .ok (.iastore, 1) := zdc_308.2.2.2.2.2.2.2.2.1
theorem dX9_keepWorks_62 : decode cX9_keepWorks 62 = .ok (.aload_n 0, 1) := zdc_308.2.2.2.2.2.2.2.2.2
theorem zdc_309 : decode cX9_keepWorks 63 = .ok (.dup, 1) ∧ decode cX9_keepWorks 64 = .ok (.getfield 9, 3) ∧ decode cX9_keepWorks 67 = .ok (.aload_n 0, 1) ∧ decode cX9_keepWorks 68 = .ok (.getfield 44, 3) ∧ decode cX9_keepWorks 71 = .ok (.iload 4, 2) ∧ decode cX9_keepWorks 73 = .ok (.iaload, 1) ∧ decode cX9_keepWorks 74 = .ok (.isub, 1) ∧ decode cX9_keepWorks 75 = .ok (.putfield 9, 3) ∧ decode cX9_keepWorks 78 = .ok (.aload_n 0, 1) ∧ decode cX9_keepWorks 79 = .ok (.aload_n 1, 1) := by decide +kernel
theorem dX9_keepWorks_63 : decode cX9_keepWorks 63 = .ok (.dup, 1) := zdc_309.1
theorem dX9_keepWorks_64 : decode cX9_keepWorks 64 = .ok (.getfield 9, 3) := zdc_309.2.1
theorem dX9_keepWorks_67 : decode cX9_keepWorks 67 = .ok (.aload_n 0, 1) := zdc_309.2.2.1
theorem dX9_keepWorks_68 : decode cX9_keepWorks 68 = .ok (.getfield 44, 3) := zdc_309.2.2.2.1
theorem dX9_keepWorks_71 : decode cX9_keepWorks 71 = .ok (.iload 4, 2) := zdc_309.2.2.2.2.1
theorem dX9_keepWorks_73 : decode cX9_keepWorks 73 = .ok (.iaload, 1) := zdc_309.2.2.2.2.2.1
theorem dX9_keepWorks_74 : decode cX9_keepWorks 74 = .ok (.isub, 1) := zdc_309.2.2.2.2.2.2.1
theorem dX9_keepWorks_75 : decode cX9_keepWorks 75 = .ok (.putfield 9, 3) := zdc_309.2.2.2.2.2.2.2.1
theorem dX9_keepWorks_78 : decode cX9_keepWorks 78 = .ok (.aload_n 0, 1) := zdc_309.2.2.2.2.2.2.2.2.1
theorem dX9_keepWorks_79 : decode cX9_keepWorks 79 = .ok (.aload_n 1, 1) := zdc_309.2.2.2.2.2.2.2.2.2
theorem zdc_310 : decode cX9_keepWorks 80 = .ok (.iload 4, 2) ∧ decode cX9_keepWorks 82 = .ok (.iconst 0, 1) ∧ decode cX9_keepWorks 83 = .ok (.invokevirtual 158, 3) ∧ decode cX9_keepWorks 86 = .ok (.goto 80, 3) ∧ decode cX9_keepWorks 89 = .ok (.aload_n 0, 1) ∧ decode cX9_keepWorks 90 = .ok (.getfield 53, 3) ∧ decode cX9_keepWorks 93 = .ok (.iload 4, 2) ∧ decode cX9_keepWorks 95 = .ok (.iaload, 1) ∧ decode cX9_keepWorks 96 = .ok (.iconst 1, 1) ∧ decode cX9_keepWorks 97 = .ok (.if_icmp .ne 36, 3) := by decide +kernel
theorem dX9_keepWorks_80 : decode cX9_keepWorks 80 = .ok (.iload 4, 2) := zdc_310.1
theorem dX9_keepWorks_82 : decode cX9_keepWorks 82 = .ok (.iconst 0, 1) := zdc_310.2.1
theorem dX9_keepWorks_83 : decode cX9_keepWorks 83 = .ok (.invokevirtual 158, 3) := zdc_310.2.2.1
theorem dX9_keepWorks_86 : decode cX9_keepWorks 86 = .ok (.goto 80, 3) := zdc_310.2.2.2.1
theorem dX9_keepWorks_89 : decode cX9_keepWorks 89 = .ok (.aload_n 0, 1) := zdc_310.2.2.2.2.1
theorem dX9_keepWorks_90 : decode cX9_keepWorks 90 = .ok (.getfield 53, 3) := zdc_310.2.2.2.2.2.1
theorem dX9_keepWorks_93 : decode cX9_keepWorks 93 = .ok (.iload 4, 2) := zdc_310.2.2.2.2.2.2.1
theorem dX9_keepWorks_95 : decode cX9_keepWorks 95 = .ok (.iaload, 1) := zdc_310.2.2.2.2.2.2.2.1
theorem dX9_keepWorks_96 : decode cX9_keepWorks 96 = .ok (.iconst 1, 1) := zdc_310.2.2.2.2.2.2.2.2.1
theorem dX9_keepWorks_97 : decode cX9_keepWorks 97 = .ok (.if_icmp .ne 36, 3) := zdc_310.2.2.2.2.2.2.2.2.2
theorem zdc_311 : decode cX9_keepWorks 100 = .ok (.iload_n 2, 1) ∧ decode cX9_keepWorks 101 = .ok (.aload_n 0, 1) ∧ decode cX9_keepWorks 102 = .ok (.getfield 47, 3) ∧ decode cX9_keepWorks 105 = .ok (.iload 4, 2) ∧ decode cX9_keepWorks 107 = .ok (.iaload, 1) ∧ decode cX9_keepWorks 108 = .ok (.if_icmp .ge 25, 3) ∧ decode cX9_keepWorks 111 = .ok (.aload_n 0, 1) ∧ decode cX9_keepWorks 112 = .ok (.getfield 53, 3) ∧ decode cX9_keepWorks 115 = .ok (.iload 4, 2) ∧ decode cX9_keepWorks 117 = .ok (.iconst 2, 1) := by decide +kernel
theorem dX9_keepWorks_100 : decode cX9_keepWorks 100 = .ok (.iload_n 2, 1) := zdc_311.1
theorem dX9_keepWorks_101 : decode cX9_keepWorks 101 = .ok (.aload_n 0, 1) := zdc_311.2.1
theorem dX9_keepWorks_102 : decode cX9_keepWorks 102 = .ok (.getfield 47, 3) := zdc_311.2.2.1
theorem dX9_keepWorks_105 : decode cX9_keepWorks 105 = .ok (.iload 4, 2) := zdc_311.2.2.2.1
theorem dX9_keepWorks_107 : decode cX9_keepWorks 107 = .ok (.iaload, 1) := zdc_311.2.2.2.2.1
theorem dX9_keepWorks_108 : decode cX9_keepWorks 108 = .ok (.if_icmp .ge 25, 3) := zdc_311.2.2.2.2.2.1
theorem dX9_keepWorks_111 : decode cX9_keepWorks 111 = .ok (.aload_n 0, 1) := zdc_311.2.2.2.2.2.2.1
theorem dX9_keepWorks_112 : decode cX9_keepWorks 112 = .ok (.getfield 53, 3) := zdc_311.2.2.2.2.2.2.2.1
theorem dX9_keepWorks_115 : decode cX9_keepWorks 115 = .ok (.iload 4, 2) := zdc_311.2.2.2.2.2.2.2.2.1
theorem dX9_keepWorks_117 : decode cX9_keepWorks 117 = .ok (.iconst 2, 1) := zdc_311.2.2.2.2.2.2.2.2.2
theorem zdc_312 : decode cX9_keepWorks 118 = .ok (.iastore, 1) ∧ decode cX9_keepWorks 119 = .ok (.iinc 3 1, 3) ∧ decode cX9_keepWorks 122 = .ok (.aload_n 0, 1) ∧ decode cX9_keepWorks 123 = .ok (.aload_n 1, 1) ∧ decode cX9_keepWorks 124 = .ok (.iload 4, 2) ∧ decode cX9_keepWorks 126 = .ok (.iconst 1, 1) ∧ decode cX9_keepWorks 127 = .ok (.invokevirtual 158, 3) ∧ decode cX9_keepWorks 130 = .ok (.goto 36, 3) ∧ decode cX9_keepWorks 133 = .ok (.aload_n 0, 1) ∧ decode cX9_keepWorks 134 = .ok (.getfield 53, 3) := by decide +kernel
theorem dX9_keepWorks_118 : decode cX9_keepWorks 118 = .ok (.iastore, 1) := zdc_312.1
theorem dX9_keepWorks_119 : decode cX9_keepWorks 119 = .ok (.iinc 3 1, 3) := zdc_312.2.1
theorem dX9_keepWorks_122 : decode cX9_keepWorks 122 = .ok (.aload_n 0, 1) := zdc_312.2.2.1
theorem dX9_keepWorks_123 : decode cX9_keepWorks 123 = .ok (.aload_n 1, 1) := zdc_312.2.2.2.1
theorem dX9_keepWorks_124 : decode cX9_keepWorks 124 = .ok (.iload 4, 2) := zdc_312.2.2.2.2.1
theorem dX9_keepWorks_126 : decode cX9_keepWorks 126 = .ok (.iconst 1, 1) := zdc_312.2.2.2.2.2.1
theorem dX9_keepWorks_127 : decode cX9_keepWorks 127 = .ok (.invokevirtual 158, 3) := zdc_312.2.2.2.2.2.2.1
theorem dX9_keepWorks_130 : decode cX9_keepWorks 130 = .ok (.goto 36, 3) := zdc_312.2.2.2.2.2.2.2.1
theorem dX9_keepWorks_133 : decode cX9_keepWorks 133 = .ok (.aload_n 0, 1) := zdc_312.2.2.2.2.2.2.2.2.1
theorem dX9_keepWorks_134 : decode cX9_keepWorks 134 = .ok (.getfield 53, 3) := zdc_312.2.2.2.2.2.2.2.2.2
theorem zdc_313 : decode cX9_keepWorks 137 = .ok (.iload 4, 2) ∧ decode cX9_keepWorks 139 = .ok (.iaload, 1) ∧ decode cX9_keepWorks 140 = .ok (.iconst 1, 1) ∧ decode cX9_keepWorks 141 = .ok (.if_icmp .ne 25, 3) ∧ decode cX9_keepWorks 144 = .ok (.aload_n 0, 1) ∧ decode cX9_keepWorks 145 = .ok (.sipush 9999, 3) ∧ decode cX9_keepWorks 148 = .ok (.aload_n 0, 1) ∧ decode cX9_keepWorks 149 = .ok (.getfield 9, 3) ∧ decode cX9_keepWorks 152 = .ok (.aload_n 0, 1) ∧ decode cX9_keepWorks 153 = .ok (.getfield 50, 3) := by decide +kernel
theorem dX9_keepWorks_137 : decode cX9_keepWorks 137 = .ok (.iload 4, 2) := zdc_313.1
theorem dX9_keepWorks_139 : decode cX9_keepWorks 139 = .ok (.iaload, 1) := zdc_313.2.1
theorem dX9_keepWorks_140 : decode cX9_keepWorks 140 = .ok (.iconst 1, 1) := zdc_313.2.2.1
theorem dX9_keepWorks_141 : decode cX9_keepWorks 141 = .ok (.if_icmp .ne 25, 3) := zdc_313.2.2.2.1
theorem dX9_keepWorks_144 : decode cX9_keepWorks 144 = .ok (.aload_n 0, 1) := zdc_313.2.2.2.2.1
theorem dX9_keepWorks_145 : decode cX9_keepWorks 145 = .ok (.sipush 9999, 3) := zdc_313.2.2.2.2.2.1
theorem dX9_keepWorks_148 : decode cX9_keepWorks 148 = .ok (.aload_n 0, 1) := zdc_313.2.2.2.2.2.2.1
theorem dX9_keepWorks_149 : decode cX9_keepWorks 149 = .ok (.getfield 9, 3) := zdc_313.2.2.2.2.2.2.2.1
theorem dX9_keepWorks_152 : decode cX9_keepWorks 152 = .ok (.aload_n 0, 1) := zdc_313.2.2.2.2.2.2.2.2.1
theorem dX9_keepWorks_153 : decode cX9_keepWorks 153 = .ok (.getfield 50, 3) := zdc_313.2.2.2.2.2.2.2.2.2
theorem zdc_314 : decode cX9_keepWorks 156 = .ok (.iload 4, 2) ∧ decode cX9_keepWorks 158 = .ok (.iaload, 1) ∧ decode cX9_keepWorks 159 = .ok (.iadd, 1) ∧ decode cX9_keepWorks 160 = .ok (.invokestatic 125, 3) ∧ decode cX9_keepWorks 163 = .ok (.putfield 9, 3) ∧ decode cX9_keepWorks 166 = .ok (.iinc 4 1, 3) ∧ decode cX9_keepWorks 169 = .ok (.goto (-159), 3) ∧ decode cX9_keepWorks 172 = .ok (.iload_n 3, 1) ∧ decode cX9_keepWorks 173 = .ok (.ireturn, 1) ∧ decode cX9_comeBack 0 = .ok (.iconst 0, 1) := by decide +kernel
theorem dX9_keepWorks_156 : decode cX9_keepWorks 156 = .ok (.iload 4, 2) := zdc_314.1
theorem dX9_keepWorks_158 : decode cX9_keepWorks 158 = .ok (.iaload, 1) := zdc_314.2.1
theorem dX9_keepWorks_159 : decode cX9_keepWorks 159 = .ok (.iadd, 1) := zdc_314.2.2.1
theorem dX9_keepWorks_160 : decode cX9_keepWorks 160 = .ok (.invokestatic 125, 3) := zdc_314.2.2.2.1
theorem dX9_keepWorks_163 : decode cX9_keepWorks 163 = .ok (.putfield 9, 3) := zdc_314.2.2.2.2.1
theorem dX9_keepWorks_166 : decode cX9_keepWorks 166 = .ok (.iinc 4 1, 3) := zdc_314.2.2.2.2.2.1
theorem dX9_keepWorks_169 : decode cX9_keepWorks 169 = .ok (.goto (-159), 3) := zdc_314.2.2.2.2.2.2.1
theorem dX9_keepWorks_172 : decode cX9_keepWorks 172 = .ok (.iload_n 3, 1) := zdc_314.2.2.2.2.2.2.2.1
theorem dX9_keepWorks_173 : decode cX9_keepWorks 173 = .ok (.ireturn, 1) := zdc_314.2.2.2.2.2.2.2.2.1
theorem dX9_comeBack_0 : decode cX9_comeBack 0 = .ok (.iconst 0, 1) := zdc_314.2.2.2.2.2.2.2.2.2
theorem zdc_315 : decode cX9_comeBack 1 = .ok (.istore_n 3, 1) ∧ decode cX9_comeBack 2 = .ok (.iload_n 3, 1) ∧ decode cX9_comeBack 3 = .ok (.aload_n 0, 1) ∧ decode cX9_comeBack 4 = .ok (.getfield 59, 3) ∧ decode cX9_comeBack 7 = .ok (.if_icmp .ge 85, 3) ∧ decode cX9_comeBack 10 = .ok (.aload_n 0, 1) ∧ decode cX9_comeBack 11 = .ok (.iload_n 3, 1) ∧ decode cX9_comeBack 12 = .ok (.invokevirtual 81, 3) ∧ decode cX9_comeBack 15 = .ok (.ifCond .ne 71, 3) ∧ decode cX9_comeBack 18 = .ok (.aload_n 0, 1) := by decide +kernel
theorem dX9_comeBack_1 : decode cX9_comeBack 1 = .ok (.istore_n 3, 1) := zdc_315.1
theorem dX9_comeBack_2 : decode cX9_comeBack 2 = .ok (.iload_n 3, 1) := zdc_315.2.1
theorem dX9_comeBack_3 : decode cX9_comeBack 3 = .ok (.aload_n 0, 1) := zdc_315.2.2.1
theorem dX9_comeBack_4 : decode cX9_comeBack 4 = .ok (.getfield 59, 3) := zdc_315.2.2.2.1
theorem dX9_comeBack_7 : decode cX9_comeBack 7 = .ok (.if_icmp .ge 85, 3) := zdc_315.2.2.2.2.1
theorem dX9_comeBack_10 : decode cX9_comeBack 10 = .ok (.aload_n 0, 1) := zdc_315.2.2.2.2.2.1
theorem dX9_comeBack_11 : decode cX9_comeBack 11 = .ok (.iload_n 3, 1) := zdc_315.2.2.2.2.2.2.1
theorem dX9_comeBack_12 : decode cX9_comeBack 12 = .ok (.invokevirtual 81, 3) := zdc_315.2.2.2.2.2.2.2.1
theorem dX9_comeBack_15 : decode cX9_comeBack 15 = .ok (.ifCond .ne 71, 3) := zdc_315.2.2.2.2.2.2.2.2.1
theorem dX9_comeBack_18 : decode cX9_comeBack 18 = .ok (.aload_n 0, 1) := zdc_315.2.2.2.2.2.2.2.2.2
theorem zdc_316 : decode cX9_comeBack 19 = .ok (.getfield 34, 3) ∧ decode cX9_comeBack 22 = .ok (.iload_n 3, 1) ∧ decode cX9_comeBack 23 = .ok (.iaload, 1) ∧ decode cX9_comeBack 24 = .ok (.aload_n 0, 1) ∧ decode cX9_comeBack 25 = .ok (.getfield 68, 3) ∧ decode cX9_comeBack 28 = .ok (.if_icmp .gt 58, 3) ∧ decode cX9_comeBack 31 = .ok (.aload_n 0, 1) ∧ decode cX9_comeBack 32 = .ok (.getfield 34, 3) ∧ decode cX9_comeBack 35 = .ok (.iload_n 3, 1) ∧ decode cX9_comeBack 36 = .ok (.iconst (-1), 1) := by decide +kernel
theorem dX9_comeBack_19 : decode cX9_comeBack 19 = .ok (.getfield 34, 3) := zdc_316.1
theorem dX9_comeBack_22 : decode cX9_comeBack 22 = .ok (.iload_n 3, 1) := zdc_316.2.1
theorem dX9_comeBack_23 : decode cX9_comeBack 23 = .ok (.iaload, 1) := zdc_316.2.2.1
theorem dX9_comeBack_24 : decode cX9_comeBack 24 = .ok (.aload_n 0, 1) := zdc_316.2.2.2.1
theorem dX9_comeBack_25 : decode cX9_comeBack 25 = .ok (.getfield 68, 3) := zdc_316.2.2.2.2.1
theorem dX9_comeBack_28 : decode cX9_comeBack 28 = .ok (.if_icmp .gt 58, 3) := zdc_316.2.2.2.2.2.1
theorem dX9_comeBack_31 : decode cX9_comeBack 31 = .ok (.aload_n 0, 1) := zdc_316.2.2.2.2.2.2.1
theorem dX9_comeBack_32 : decode cX9_comeBack 32 = .ok (.getfield 34, 3) := zdc_316.2.2.2.2.2.2.2.1
theorem dX9_comeBack_35 : decode cX9_comeBack 35 = .ok (.iload_n 3, 1) := zdc_316.2.2.2.2.2.2.2.2.1
theorem dX9_comeBack_36 : decode cX9_comeBack 36 = .ok (.iconst (-1), 1) := zdc_316.2.2.2.2.2.2.2.2.2
theorem zdc_317 : decode cX9_comeBack 37 = .ok (.iastore, 1) ∧ decode cX9_comeBack 38 = .ok (.iload_n 1, 1) ∧ decode cX9_comeBack 39 = .ok (.ifCond .eq 47, 3) ∧ decode cX9_comeBack 42 = .ok (.aload_n 0, 1) ∧ decode cX9_comeBack 43 = .ok (.invokevirtual 162, 3) ∧ decode cX9_comeBack 46 = .ok (.bipush 100, 2) ∧ decode cX9_comeBack 48 = .ok (.irem, 1) ∧ decode cX9_comeBack 49 = .ok (.aload_n 0, 1) ∧ decode cX9_comeBack 50 = .ok (.getfield 18, 3) ∧ decode cX9_comeBack 53 = .ok (.if_icmp .ge 7, 3) := by decide +kernel
theorem dX9_comeBack_37 : decode cX9_comeBack 37 = .ok (.iastore, 1) := zdc_317.1
theorem dX9_comeBack_38 : decode cX9_comeBack 38 = .ok (.iload_n 1, 1) := zdc_317.2.1
theorem dX9_comeBack_39 : decode cX9_comeBack 39 = .ok (.ifCond .eq 47, 3) := zdc_317.2.2.1
theorem dX9_comeBack_42 : decode cX9_comeBack 42 = .ok (.aload_n 0, 1) := zdc_317.2.2.2.1
theorem dX9_comeBack_43 : decode cX9_comeBack 43 = .ok (.invokevirtual 162, 3) := zdc_317.2.2.2.2.1
theorem dX9_comeBack_46 : decode cX9_comeBack 46 = .ok (.bipush 100, 2) := zdc_317.2.2.2.2.2.1
theorem dX9_comeBack_48 : decode cX9_comeBack 48 = .ok (.irem, 1) := zdc_317.2.2.2.2.2.2.1
theorem dX9_comeBack_49 : decode cX9_comeBack 49 = .ok (.aload_n 0, 1) := zdc_317.2.2.2.2.2.2.2.1
theorem dX9_comeBack_50 : decode cX9_comeBack 50 = .ok (.getfield 18, 3) := zdc_317.2.2.2.2.2.2.2.2.1
theorem dX9_comeBack_53 : decode cX9_comeBack 53 = .ok (.if_icmp .ge 7, 3) := zdc_317.2.2.2.2.2.2.2.2.2
theorem zdc_318 : decode cX9_comeBack 56 = .ok (.iconst 1, 1) ∧ decode cX9_comeBack 57 = .ok (.goto 4, 3) ∧ decode cX9_comeBack 60 = .ok (.iconst 0, 1) ∧ decode cX9_comeBack 61 = .ok (.istore 4, 2) ∧ decode cX9_comeBack 63 = .ok (.aload_n 0, 1) ∧ decode cX9_comeBack 64 = .ok (.iload_n 3, 1) ∧ decode cX9_comeBack 65 = .ok (.iload 4, 2) ∧ decode cX9_comeBack 67 = .ok (.invokevirtual 165, 3) ∧ decode cX9_comeBack 70 = .ok (.aload_n 0, 1) ∧ decode cX9_comeBack 71 = .ok (.aload_n 2, 1) := by decide +kernel
theorem dX9_comeBack_56 : decode cX9_comeBack 56 = .ok (.iconst 1, 1) := zdc_318.1
theorem dX9_comeBack_57 : decode cX9_comeBack 57 = .ok (.goto 4, 3) := zdc_318.2.1
theorem dX9_comeBack_60 : decode cX9_comeBack 60 = .ok (.iconst 0, 1) := zdc_318.2.2.1
theorem dX9_comeBack_61 : decode cX9_comeBack 61 = .ok (.istore 4, 2) := zdc_318.2.2.2.1
theorem dX9_comeBack_63 : decode cX9_comeBack 63 = .ok (.aload_n 0, 1) := zdc_318.2.2.2.2.1
theorem dX9_comeBack_64 : decode cX9_comeBack 64 = .ok (.iload_n 3, 1) := zdc_318.2.2.2.2.2.1
theorem dX9_comeBack_65 : decode cX9_comeBack 65 = .ok (.iload 4, 2) := zdc_318.2.2.2.2.2.2.1
theorem dX9_comeBack_67 : decode cX9_comeBack 67 = .ok (.invokevirtual 165, 3) := zdc_318.2.2.2.2.2.2.2.1
theorem dX9_comeBack_70 : decode cX9_comeBack 70 = .ok (.aload_n 0, 1) := zdc_318.2.2.2.2.2.2.2.2.1
theorem dX9_comeBack_71 : decode cX9_comeBack 71 = .ok (.aload_n 2, 1) := zdc_318.2.2.2.2.2.2.2.2.2
theorem zdc_319 : decode cX9_comeBack 72 = .ok (.iload_n 3, 1) ∧ decode cX9_comeBack 73 = .ok (.iload 4, 2) ∧ decode cX9_comeBack 75 = .ok (.ifCond .eq 7, 3) ∧ decode cX9_comeBack 78 = .ok (.iconst 2, 1) ∧ decode cX9_comeBack 79 = .ok (.goto 4, 3) ∧ decode cX9_comeBack 82 = .ok (.iconst 3, 1) ∧ decode cX9_comeBack 83 = .ok (.invokevirtual 158, 3) ∧ decode cX9_comeBack 86 = .ok (.iinc 3 1, 3) ∧ decode cX9_comeBack 89 = .ok (.goto (-87), 3) ∧ decode cX9_comeBack 92 = .ok (.return_, 1) := by decide +kernel
theorem dX9_comeBack_72 : decode cX9_comeBack 72 = .ok (.iload_n 3, 1) := zdc_319.1
theorem dX9_comeBack_73 : decode cX9_comeBack 73 = .ok (.iload 4, 2) := zdc_319.2.1
theorem dX9_comeBack_75 : decode cX9_comeBack 75 = .ok (.ifCond .eq 7, 3) := zdc_319.2.2.1
theorem dX9_comeBack_78 : decode cX9_comeBack 78 = .ok (.iconst 2, 1) := zdc_319.2.2.2.1
theorem dX9_comeBack_79 : decode cX9_comeBack 79 = .ok (.goto 4, 3) := zdc_319.2.2.2.2.1
theorem dX9_comeBack_82 : decode cX9_comeBack 82 = .ok (.iconst 3, 1) := zdc_319.2.2.2.2.2.1
theorem dX9_comeBack_83 : decode cX9_comeBack 83 = .ok (.invokevirtual 158, 3) := zdc_319.2.2.2.2.2.2.1
theorem dX9_comeBack_86 : decode cX9_comeBack 86 = .ok (.iinc 3 1, 3) := zdc_319.2.2.2.2.2.2.2.1
theorem dX9_comeBack_89 : decode cX9_comeBack 89 = .ok (.goto (-87), 3) := zdc_319.2.2.2.2.2.2.2.2.1
theorem dX9_comeBack_92 : decode cX9_comeBack 92 = .ok (.return_, 1) := zdc_319.2.2.2.2.2.2.2.2.2
theorem zdc_320 : decode cX9_draw 0 = .ok (.aload_n 0, 1) ∧ decode cX9_draw 1 = .ok (.ldc 169, 2) ∧ decode cX9_draw 3 = .ok (.aload_n 0, 1) ∧ decode cX9_draw 4 = .ok (.getfield 21, 3) ∧ decode cX9_draw 7 = .ok (.imul, 1) ∧ decode cX9_draw 8 = .ok (.sipush 12345, 3) ∧ decode cX9_draw 11 = .ok (.iadd, 1) ∧ decode cX9_draw 12 = .ok (.putfield 21, 3) ∧ decode cX9_draw 15 = .ok (.aload_n 0, 1) ∧ decode cX9_draw 16 = .ok (.getfield 21, 3) := by decide +kernel
theorem dX9_draw_0 : decode cX9_draw 0 = .ok (.aload_n 0, 1) := zdc_320.1
theorem dX9_draw_1 : decode cX9_draw 1 = .ok (.ldc 169, 2) := zdc_320.2.1
theorem dX9_draw_3 : decode cX9_draw 3 = .ok (.aload_n 0, 1) := zdc_320.2.2.1
theorem dX9_draw_4 : decode cX9_draw 4 = .ok (.getfield 21, 3) := zdc_320.2.2.2.1
theorem dX9_draw_7 : decode cX9_draw 7 = .ok (.imul, 1) := zdc_320.2.2.2.2.1
theorem dX9_draw_8 : decode cX9_draw 8 = .ok (.sipush 12345, 3) := zdc_320.2.2.2.2.2.1
theorem dX9_draw_11 : decode cX9_draw 11 = .ok (.iadd, 1) := zdc_320.2.2.2.2.2.2.1
theorem dX9_draw_12 : decode cX9_draw 12 = .ok (.putfield 21, 3) := zdc_320.2.2.2.2.2.2.2.1
theorem dX9_draw_15 : decode cX9_draw 15 = .ok (.aload_n 0, 1) := zdc_320.2.2.2.2.2.2.2.2.1
theorem dX9_draw_16 : decode cX9_draw 16 = .ok (.getfield 21, 3) := zdc_320.2.2.2.2.2.2.2.2.2
theorem zdc_321 : decode cX9_draw 19 = .ok (.bipush 16, 2) ∧ decode cX9_draw 21 = .ok (.ishr, 1) ∧ decode cX9_draw 22 = .ok (.sipush 32767, 3) ∧ decode cX9_draw 25 = .ok (.iand, 1) ∧ decode cX9_draw 26 = .ok (.ireturn, 1) ∧ decode cX9_spread 0 = .ok (.iconst 0, 1) ∧ decode cX9_spread 1 = .ok (.istore_n 3, 1) ∧ decode cX9_spread 2 = .ok (.iload_n 3, 1) ∧ decode cX9_spread 3 = .ok (.aload_n 0, 1) ∧ decode cX9_spread 4 = .ok (.getfield 59, 3) := by decide +kernel
theorem dX9_draw_19 : decode cX9_draw 19 = .ok (.bipush 16, 2) := zdc_321.1
theorem dX9_draw_21 : decode cX9_draw 21 = .ok (.ishr, 1) := zdc_321.2.1
theorem dX9_draw_22 : decode cX9_draw 22 = .ok (.sipush 32767, 3) := zdc_321.2.2.1
theorem dX9_draw_25 : decode cX9_draw 25 = .ok (.iand, 1) := zdc_321.2.2.2.1
theorem dX9_draw_26 : decode cX9_draw 26 = .ok (.ireturn, 1) := zdc_321.2.2.2.2.1
theorem dX9_spread_0 : decode cX9_spread 0 = .ok (.iconst 0, 1) := zdc_321.2.2.2.2.2.1
theorem dX9_spread_1 : decode cX9_spread 1 = .ok (.istore_n 3, 1) := zdc_321.2.2.2.2.2.2.1
theorem dX9_spread_2 : decode cX9_spread 2 = .ok (.iload_n 3, 1) := zdc_321.2.2.2.2.2.2.2.1
theorem dX9_spread_3 : decode cX9_spread 3 = .ok (.aload_n 0, 1) := zdc_321.2.2.2.2.2.2.2.2.1
theorem dX9_spread_4 : decode cX9_spread 4 = .ok (.getfield 59, 3) := zdc_321.2.2.2.2.2.2.2.2.2
theorem zdc_322 : decode cX9_spread 7 = .ok (.if_icmp .ge 47, 3) ∧ decode cX9_spread 10 = .ok (.iload_n 3, 1) ∧ decode cX9_spread 11 = .ok (.iload_n 1, 1) ∧ decode cX9_spread 12 = .ok (.if_icmp .eq 36, 3) ∧ decode cX9_spread 15 = .ok (.aload_n 0, 1) ∧ decode cX9_spread 16 = .ok (.iload_n 3, 1) ∧ decode cX9_spread 17 = .ok (.invokevirtual 81, 3) ∧ decode cX9_spread 20 = .ok (.ifCond .eq 28, 3) ∧ decode cX9_spread 23 = .ok (.aload_n 0, 1) ∧ decode cX9_spread 24 = .ok (.iload_n 3, 1) := by decide +kernel
theorem dX9_spread_7 : decode cX9_spread 7 = .ok (.if_icmp .ge 47, 3) := zdc_322.1
theorem dX9_spread_10 : decode cX9_spread 10 = .ok (.iload_n 3, 1) := zdc_322.2.1
theorem dX9_spread_11 : decode cX9_spread 11 = .ok (.iload_n 1, 1) := zdc_322.2.2.1
theorem dX9_spread_12 : decode cX9_spread 12 = .ok (.if_icmp .eq 36, 3) := zdc_322.2.2.2.1
theorem dX9_spread_15 : decode cX9_spread 15 = .ok (.aload_n 0, 1) := zdc_322.2.2.2.2.1
theorem dX9_spread_16 : decode cX9_spread 16 = .ok (.iload_n 3, 1) := zdc_322.2.2.2.2.2.1
theorem dX9_spread_17 : decode cX9_spread 17 = .ok (.invokevirtual 81, 3) := zdc_322.2.2.2.2.2.2.1
theorem dX9_spread_20 : decode cX9_spread 20 = .ok (.ifCond .eq 28, 3) := zdc_322.2.2.2.2.2.2.2.1
theorem dX9_spread_23 : decode cX9_spread 23 = .ok (.aload_n 0, 1) := zdc_322.2.2.2.2.2.2.2.2.1
theorem dX9_spread_24 : decode cX9_spread 24 = .ok (.iload_n 3, 1) := zdc_322.2.2.2.2.2.2.2.2.2
theorem zdc_323 : decode cX9_spread 25 = .ok (.iload_n 2, 1) ∧ decode cX9_spread 26 = .ok (.ifCond .eq 12, 3) ∧ decode cX9_spread 29 = .ok (.aload_n 0, 1) ∧ decode cX9_spread 30 = .ok (.iload_n 3, 1) ∧ decode cX9_spread 31 = .ok (.iload_n 1, 1) ∧ decode cX9_spread 32 = .ok (.invokevirtual 101, 3) ∧ decode cX9_spread 35 = .ok (.goto 10, 3) ∧ decode cX9_spread 38 = .ok (.aload_n 0, 1) ∧ decode cX9_spread 39 = .ok (.iload_n 3, 1) ∧ decode cX9_spread 40 = .ok (.iload_n 1, 1) := by decide +kernel
theorem dX9_spread_25 : decode cX9_spread 25 = .ok (.iload_n 2, 1) := zdc_323.1
theorem dX9_spread_26 : decode cX9_spread 26 = .ok (.ifCond .eq 12, 3) := zdc_323.2.1
theorem dX9_spread_29 : decode cX9_spread 29 = .ok (.aload_n 0, 1) := zdc_323.2.2.1
theorem dX9_spread_30 : decode cX9_spread 30 = .ok (.iload_n 3, 1) := zdc_323.2.2.2.1
theorem dX9_spread_31 : decode cX9_spread 31 = .ok (.iload_n 1, 1) := zdc_323.2.2.2.2.1
theorem dX9_spread_32 : decode cX9_spread 32 = .ok (.invokevirtual 101, 3) := zdc_323.2.2.2.2.2.1
theorem dX9_spread_35 : decode cX9_spread 35 = .ok (.goto 10, 3) := zdc_323.2.2.2.2.2.2.1
theorem dX9_spread_38 : decode cX9_spread 38 = .ok (.aload_n 0, 1) := zdc_323.2.2.2.2.2.2.2.1
theorem dX9_spread_39 : decode cX9_spread 39 = .ok (.iload_n 3, 1) := zdc_323.2.2.2.2.2.2.2.2.1
theorem dX9_spread_40 : decode cX9_spread 40 = .ok (.iload_n 1, 1) := zdc_323.2.2.2.2.2.2.2.2.2
theorem zdc_324 : decode cX9_spread 41 = .ok (.invokevirtual 101, 3) ∧ decode cX9_spread 44 = .ok (.ineg, 1) ∧ decode cX9_spread 45 = .ok (.invokevirtual 170, 3) ∧ decode cX9_spread 48 = .ok (.iinc 3 1, 3) ∧ decode cX9_spread 51 = .ok (.goto (-49), 3) ∧ decode cX9_spread 54 = .ok (.aload_n 0, 1) ∧ decode cX9_spread 55 = .ok (.getfield 24, 3) ∧ decode cX9_spread 58 = .ok (.iload_n 1, 1) ∧ decode cX9_spread 59 = .ok (.iload_n 2, 1) ∧ decode cX9_spread 60 = .ok (.ifCond .eq 8, 3) := by decide +kernel
theorem dX9_spread_41 : decode cX9_spread 41 = .ok (.invokevirtual 101, 3) := zdc_324.1
theorem dX9_spread_44 : decode cX9_spread 44 = .ok (.ineg, 1) := zdc_324.2.1
theorem dX9_spread_45 : decode cX9_spread 45 = .ok (.invokevirtual 170, 3) := zdc_324.2.2.1
theorem dX9_spread_48 : decode cX9_spread 48 = .ok (.iinc 3 1, 3) := zdc_324.2.2.2.1
theorem dX9_spread_51 : decode cX9_spread 51 = .ok (.goto (-49), 3) := zdc_324.2.2.2.2.1
theorem dX9_spread_54 : decode cX9_spread 54 = .ok (.aload_n 0, 1) := zdc_324.2.2.2.2.2.1
theorem dX9_spread_55 : decode cX9_spread 55 = .ok (.getfield 24, 3) := zdc_324.2.2.2.2.2.2.1
theorem dX9_spread_58 : decode cX9_spread 58 = .ok (.iload_n 1, 1) := zdc_324.2.2.2.2.2.2.2.1
theorem dX9_spread_59 : decode cX9_spread 59 = .ok (.iload_n 2, 1) := zdc_324.2.2.2.2.2.2.2.2.1
theorem dX9_spread_60 : decode cX9_spread 60 = .ok (.ifCond .eq 8, 3) := zdc_324.2.2.2.2.2.2.2.2.2
theorem zdc_325 : decode cX9_spread 63 = .ok (.bipush 99, 2) ∧ decode cX9_spread 65 = .ok (.goto 4, 3) ∧ decode cX9_spread 68 = .ok (.iconst 0, 1) ∧ decode cX9_spread 69 = .ok (.iastore, 1) ∧ decode cX9_spread 70 = .ok (.return_, 1) ∧ decode cX9_write 0 = .ok (.aload_n 1, 1) ∧ decode cX9_write 1 = .ok (.ifnull 17, 3) ∧ decode cX9_write 4 = .ok (.aload_n 1, 1) ∧ decode cX9_write 5 = .ok (.aload_n 0, 1) ∧ decode cX9_write 6 = .ok (.getfield 68, 3) := by decide +kernel
theorem dX9_spread_63 : decode cX9_spread 63 = .ok (.bipush 99, 2) := zdc_325.1
theorem dX9_spread_65 : decode cX9_spread 65 = .ok (.goto 4, 3) := zdc_325.2.1
theorem dX9_spread_68 : decode cX9_spread 68 = .ok (.iconst 0, 1) := zdc_325.2.2.1
theorem dX9_spread_69 : decode cX9_spread 69 = .ok (.iastore, 1) := zdc_325.2.2.2.1
theorem dX9_spread_70 : decode cX9_spread 70 = .ok (.return_, 1) := zdc_325.2.2.2.2.1
theorem dX9_write_0 : decode cX9_write 0 = .ok (.aload_n 1, 1) := zdc_325.2.2.2.2.2.1
theorem dX9_write_1 : decode cX9_write 1 = .ok (.ifnull 17, 3) := zdc_325.2.2.2.2.2.2.1
theorem dX9_write_4 : decode cX9_write 4 = .ok (.aload_n 1, 1) := zdc_325.2.2.2.2.2.2.2.1
theorem dX9_write_5 : decode cX9_write 5 = .ok (.aload_n 0, 1) := zdc_325.2.2.2.2.2.2.2.2.1
theorem dX9_write_6 : decode cX9_write 6 = .ok (.getfield 68, 3) := zdc_325.2.2.2.2.2.2.2.2.2
theorem zdc_326 : decode cX9_write 9 = .ok (.iload_n 2, 1) ∧ decode cX9_write 10 = .ok (.iload_n 3, 1) ∧ decode cX9_write 11 = .ok (.aload_n 0, 1) ∧ decode cX9_write 12 = .ok (.invokevirtual 95, 3) ∧ decode cX9_write 15 = .ok (.invokevirtual 174, 3) ∧ decode cX9_write 18 = .ok (.return_, 1) ∧ decode cX10_init 0 = .ok (.aload_n 0, 1) ∧ decode cX10_init 1 = .ok (.aload_n 1, 1) ∧ decode cX10_init 2 = .ok (.invokespecial 3, 3) ∧ decode cX10_init 5 = .ok (.aload_n 0, 1) := by decide +kernel
theorem dX9_write_9 : decode cX9_write 9 = .ok (.iload_n 2, 1) := zdc_326.1
theorem dX9_write_10 : decode cX9_write 10 = .ok (.iload_n 3, 1) := zdc_326.2.1
theorem dX9_write_11 : decode cX9_write 11 = .ok (.aload_n 0, 1) := zdc_326.2.2.1
theorem dX9_write_12 : decode cX9_write 12 = .ok (.invokevirtual 95, 3) := zdc_326.2.2.2.1
theorem dX9_write_15 : decode cX9_write 15 = .ok (.invokevirtual 174, 3) := zdc_326.2.2.2.2.1
theorem dX9_write_18 : decode cX9_write 18 = .ok (.return_, 1) := zdc_326.2.2.2.2.2.1
theorem dX10_init_0 : decode cX10_init 0 = .ok (.aload_n 0, 1) := zdc_326.2.2.2.2.2.2.1
theorem dX10_init_1 : decode cX10_init 1 = .ok (.aload_n 1, 1) := zdc_326.2.2.2.2.2.2.2.1
theorem dX10_init_2 : decode cX10_init 2 = .ok (.invokespecial 3, 3) := zdc_326.2.2.2.2.2.2.2.2.1
theorem dX10_init_5 : decode cX10_init 5 = .ok (.aload_n 0, 1) := zdc_326.2.2.2.2.2.2.2.2.2
theorem zdc_327 : decode cX10_init 6 = .ok (.new 9, 3) ∧ decode cX10_init 9 = .ok (.dup, 1) ∧ decode cX10_init 10 = .ok (.invokespecial 11, 3) ∧ decode cX10_init 13 = .ok (.putfield 14, 3) ∧ decode cX10_init 16 = .ok (.return_, 1) ∧ decode cX10_readLine 0 = .ok (.aload_n 0, 1) ∧ decode cX10_readLine 1 = .ok (.getfield 20, 3) ∧ decode cX10_readLine 4 = .ok (.ldc 24, 2) ∧ decode cX10_readLine 6 = .ok (.invokevirtual 26, 3) ∧ decode cX10_readLine 9 = .ok (.ifCond .eq 8, 3) := by decide +kernel
theorem dX10_init_6 : decode cX10_init 6 = .ok (.new 9, 3) := zdc_327.1
theorem dX10_init_9 : decode cX10_init 9 = .ok (.dup, 1) := zdc_327.2.1
theorem dX10_init_10 : decode cX10_init 10 = .ok (.invokespecial 11, 3) := zdc_327.2.2.1
theorem dX10_init_13 : decode cX10_init 13 = .ok (.putfield 14, 3) := zdc_327.2.2.2.1
theorem dX10_init_16 : decode cX10_init 16 = .ok (.return_, 1) := zdc_327.2.2.2.2.1
theorem dX10_readLine_0 : decode cX10_readLine 0 = .ok (.aload_n 0, 1) := zdc_327.2.2.2.2.2.1
theorem dX10_readLine_1 : decode cX10_readLine 1 = .ok (.getfield 20, 3) := zdc_327.2.2.2.2.2.2.1
theorem dX10_readLine_4 : decode cX10_readLine 4 = .ok (.ldc 24, 2) := zdc_327.2.2.2.2.2.2.2.1
theorem dX10_readLine_6 : decode cX10_readLine 6 = .ok (.invokevirtual 26, 3) := zdc_327.2.2.2.2.2.2.2.2.1
theorem dX10_readLine_9 : decode cX10_readLine 9 = .ok (.ifCond .eq 8, 3) := zdc_327.2.2.2.2.2.2.2.2.2
theorem zdc_328 : decode cX10_readLine 12 = .ok (.aload_n 0, 1) ∧ decode cX10_readLine 13 = .ok (.invokevirtual 32, 3) ∧ decode cX10_readLine 16 = .ok (.ireturn, 1) ∧ decode cX10_readLine 17 = .ok (.aload_n 0, 1) ∧ decode cX10_readLine 18 = .ok (.getfield 20, 3) ∧ decode cX10_readLine 21 = .ok (.ldc 36, 2) ∧ decode cX10_readLine 23 = .ok (.invokevirtual 26, 3) ∧ decode cX10_readLine 26 = .ok (.ifCond .eq 8, 3) ∧ decode cX10_readLine 29 = .ok (.aload_n 0, 1) ∧ decode cX10_readLine 30 = .ok (.invokevirtual 38, 3) := by decide +kernel
theorem dX10_readLine_12 : decode cX10_readLine 12 = .ok (.aload_n 0, 1) := zdc_328.1
theorem dX10_readLine_13 : decode cX10_readLine 13 = .ok (.invokevirtual 32, 3) := zdc_328.2.1
theorem dX10_readLine_16 : decode cX10_readLine 16 = .ok (.ireturn, 1) := zdc_328.2.2.1
theorem dX10_readLine_17 : decode cX10_readLine 17 = .ok (.aload_n 0, 1) := zdc_328.2.2.2.1
theorem dX10_readLine_18 : decode cX10_readLine 18 = .ok (.getfield 20, 3) := zdc_328.2.2.2.2.1
theorem dX10_readLine_21 : decode cX10_readLine 21 = .ok (.ldc 36, 2) := zdc_328.2.2.2.2.2.1
theorem dX10_readLine_23 : decode cX10_readLine 23 = .ok (.invokevirtual 26, 3) := zdc_328.2.2.2.2.2.2.1
theorem dX10_readLine_26 : decode cX10_readLine 26 = .ok (.ifCond .eq 8, 3) := zdc_328.2.2.2.2.2.2.2.1
theorem dX10_readLine_29 : decode cX10_readLine 29 = .ok (.aload_n 0, 1) := zdc_328.2.2.2.2.2.2.2.2.1
theorem dX10_readLine_30 : decode cX10_readLine 30 = .ok (.invokevirtual 38, 3) := zdc_328.2.2.2.2.2.2.2.2.2
theorem zdc_329 : decode cX10_readLine 33 = .ok (.ireturn, 1) ∧ decode cX10_readLine 34 = .ok (.aload_n 0, 1) ∧ decode cX10_readLine 35 = .ok (.getfield 20, 3) ∧ decode cX10_readLine 38 = .ok (.ldc 41, 2) ∧ decode cX10_readLine 40 = .ok (.invokevirtual 43, 3) ∧ decode cX10_readLine 43 = .ok (.ifCond .eq 8, 3) ∧ decode cX10_readLine 46 = .ok (.aload_n 0, 1) ∧ decode cX10_readLine 47 = .ok (.invokevirtual 46, 3) ∧ decode cX10_readLine 50 = .ok (.ireturn, 1) ∧ decode cX10_readLine 51 = .ok (.aload_n 0, 1) := by decide +kernel
theorem dX10_readLine_33 : decode cX10_readLine 33 = .ok (.ireturn, 1) := zdc_329.1
theorem dX10_readLine_34 : decode cX10_readLine 34 = .ok (.aload_n 0, 1) := zdc_329.2.1
theorem dX10_readLine_35 : decode cX10_readLine 35 = .ok (.getfield 20, 3) := zdc_329.2.2.1
theorem dX10_readLine_38 : decode cX10_readLine 38 = .ok (.ldc 41, 2) := zdc_329.2.2.2.1
theorem dX10_readLine_40 : decode cX10_readLine 40 = .ok (.invokevirtual 43, 3) := zdc_329.2.2.2.2.1
theorem dX10_readLine_43 : decode cX10_readLine 43 = .ok (.ifCond .eq 8, 3) := zdc_329.2.2.2.2.2.1
theorem dX10_readLine_46 : decode cX10_readLine 46 = .ok (.aload_n 0, 1) := zdc_329.2.2.2.2.2.2.1
theorem dX10_readLine_47 : decode cX10_readLine 47 = .ok (.invokevirtual 46, 3) := zdc_329.2.2.2.2.2.2.2.1
theorem dX10_readLine_50 : decode cX10_readLine 50 = .ok (.ireturn, 1) := zdc_329.2.2.2.2.2.2.2.2.1
theorem dX10_readLine_51 : decode cX10_readLine 51 = .ok (.aload_n 0, 1) := zdc_329.2.2.2.2.2.2.2.2.2
theorem zdc_330 : decode cX10_readLine 52 = .ok (.getfield 20, 3) ∧ decode cX10_readLine 55 = .ok (.ldc 49, 2) ∧ decode cX10_readLine 57 = .ok (.invokevirtual 43, 3) ∧ decode cX10_readLine 60 = .ok (.ifCond .eq 8, 3) ∧ decode cX10_readLine 63 = .ok (.aload_n 0, 1) ∧ decode cX10_readLine 64 = .ok (.invokevirtual 51, 3) ∧ decode cX10_readLine 67 = .ok (.ireturn, 1) ∧ decode cX10_readLine 68 = .ok (.aload_n 0, 1) ∧ decode cX10_readLine 69 = .ok (.getfield 20, 3) ∧ decode cX10_readLine 72 = .ok (.ldc 54, 2) := by decide +kernel
theorem dX10_readLine_52 : decode cX10_readLine 52 = .ok (.getfield 20, 3) := zdc_330.1
theorem dX10_readLine_55 : decode cX10_readLine 55 = .ok (.ldc 49, 2) := zdc_330.2.1
theorem dX10_readLine_57 : decode cX10_readLine 57 = .ok (.invokevirtual 43, 3) := zdc_330.2.2.1
theorem dX10_readLine_60 : decode cX10_readLine 60 = .ok (.ifCond .eq 8, 3) := zdc_330.2.2.2.1
theorem dX10_readLine_63 : decode cX10_readLine 63 = .ok (.aload_n 0, 1) := zdc_330.2.2.2.2.1
theorem dX10_readLine_64 : decode cX10_readLine 64 = .ok (.invokevirtual 51, 3) := zdc_330.2.2.2.2.2.1
theorem dX10_readLine_67 : decode cX10_readLine 67 = .ok (.ireturn, 1) := zdc_330.2.2.2.2.2.2.1
theorem dX10_readLine_68 : decode cX10_readLine 68 = .ok (.aload_n 0, 1) := zdc_330.2.2.2.2.2.2.2.1
theorem dX10_readLine_69 : decode cX10_readLine 69 = .ok (.getfield 20, 3) := zdc_330.2.2.2.2.2.2.2.2.1
theorem dX10_readLine_72 : decode cX10_readLine 72 = .ok (.ldc 54, 2) := zdc_330.2.2.2.2.2.2.2.2.2
theorem zdc_331 : decode cX10_readLine 74 = .ok (.invokevirtual 43, 3) ∧ decode cX10_readLine 77 = .ok (.ifCond .eq 34, 3) ∧ decode cX10_readLine 80 = .ok (.aload_n 0, 1) ∧ decode cX10_readLine 81 = .ok (.getfield 20, 3) ∧ decode cX10_readLine 84 = .ok (.iconst 0, 1) ∧ decode cX10_readLine 85 = .ok (.sipush 999, 3) ∧ decode cX10_readLine 88 = .ok (.invokevirtual 56, 3) ∧ decode cX10_readLine 91 = .ok (.istore_n 1, 1) ∧ decode cX10_readLine 92 = .ok (.aload_n 0, 1) ∧ decode cX10_readLine 93 = .ok (.getfield 14, 3) := by decide +kernel
theorem dX10_readLine_74 : decode cX10_readLine 74 = .ok (.invokevirtual 43, 3) := zdc_331.1
theorem dX10_readLine_77 : decode cX10_readLine 77 = .ok (.ifCond .eq 34, 3) := zdc_331.2.1
theorem dX10_readLine_80 : decode cX10_readLine 80 = .ok (.aload_n 0, 1) := zdc_331.2.2.1
theorem dX10_readLine_81 : decode cX10_readLine 81 = .ok (.getfield 20, 3) := zdc_331.2.2.2.1
theorem dX10_readLine_84 : decode cX10_readLine 84 = .ok (.iconst 0, 1) := zdc_331.2.2.2.2.1
theorem dX10_readLine_85 : decode cX10_readLine 85 = .ok (.sipush 999, 3) := zdc_331.2.2.2.2.2.1
theorem dX10_readLine_88 : decode cX10_readLine 88 = .ok (.invokevirtual 56, 3) := zdc_331.2.2.2.2.2.2.1
theorem dX10_readLine_91 : decode cX10_readLine 91 = .ok (.istore_n 1, 1) := zdc_331.2.2.2.2.2.2.2.1
theorem dX10_readLine_92 : decode cX10_readLine 92 = .ok (.aload_n 0, 1) := zdc_331.2.2.2.2.2.2.2.2.1
theorem dX10_readLine_93 : decode cX10_readLine 93 = .ok (.getfield 14, 3) := zdc_331.2.2.2.2.2.2.2.2.2
theorem zdc_332 : decode cX10_readLine 96 = .ok (.iload_n 1, 1) ∧ decode cX10_readLine 97 = .ok (.putfield 60, 3) ∧ decode cX10_readLine 100 = .ok (.iload_n 1, 1) ∧ decode cX10_readLine 101 = .ok (.iconst (-1), 1) ∧ decode cX10_readLine 102 = .ok (.if_icmp .eq 7, 3) ∧ decode cX10_readLine 105 = .ok (.iconst 1, 1) ∧ decode cX10_readLine 106 = .ok (.goto 4, 3) ∧ decode cX10_readLine 109 = .ok (.iconst 0, 1) ∧ decode cX10_readLine 110 = .ok (.ireturn, 1) ∧ decode cX10_readLine 111 = .ok (.aload_n 0, 1) := by decide +kernel
theorem dX10_readLine_96 : decode cX10_readLine 96 = .ok (.iload_n 1, 1) := zdc_332.1
theorem dX10_readLine_97 : decode cX10_readLine 97 = .ok (.putfield 60, 3) := zdc_332.2.1
theorem dX10_readLine_100 : decode cX10_readLine 100 = .ok (.iload_n 1, 1) := zdc_332.2.2.1
theorem dX10_readLine_101 : decode cX10_readLine 101 = .ok (.iconst (-1), 1) := zdc_332.2.2.2.1
theorem dX10_readLine_102 : decode cX10_readLine 102 = .ok (.if_icmp .eq 7, 3) := zdc_332.2.2.2.2.1
theorem dX10_readLine_105 : decode cX10_readLine 105 = .ok (.iconst 1, 1) := zdc_332.2.2.2.2.2.1
theorem dX10_readLine_106 : decode cX10_readLine 106 = .ok (.goto 4, 3) := zdc_332.2.2.2.2.2.2.1
theorem dX10_readLine_109 : decode cX10_readLine 109 = .ok (.iconst 0, 1) := zdc_332.2.2.2.2.2.2.2.1
theorem dX10_readLine_110 : decode cX10_readLine 110 = .ok (.ireturn, 1) := zdc_332.2.2.2.2.2.2.2.2.1
theorem dX10_readLine_111 : decode cX10_readLine 111 = .ok (.aload_n 0, 1) := zdc_332.2.2.2.2.2.2.2.2.2
theorem zdc_333 : decode cX10_readLine 112 = .ok (.getfield 20, 3) ∧ decode cX10_readLine 115 = .ok (.ldc 63, 2) ∧ decode cX10_readLine 117 = .ok (.invokevirtual 43, 3) ∧ decode cX10_readLine 120 = .ok (.ifCond .eq 33, 3) ∧ decode cX10_readLine 123 = .ok (.aload_n 0, 1) ∧ decode cX10_readLine 124 = .ok (.getfield 20, 3) ∧ decode cX10_readLine 127 = .ok (.iconst 1, 1) ∧ decode cX10_readLine 128 = .ok (.bipush 30, 2) ∧ decode cX10_readLine 130 = .ok (.invokevirtual 56, 3) ∧ decode cX10_readLine 133 = .ok (.istore_n 1, 1) := by decide +kernel
theorem dX10_readLine_112 : decode cX10_readLine 112 = .ok (.getfield 20, 3) := zdc_333.1
theorem dX10_readLine_115 : decode cX10_readLine 115 = .ok (.ldc 63, 2) := zdc_333.2.1
theorem dX10_readLine_117 : decode cX10_readLine 117 = .ok (.invokevirtual 43, 3) := zdc_333.2.2.1
theorem dX10_readLine_120 : decode cX10_readLine 120 = .ok (.ifCond .eq 33, 3) := zdc_333.2.2.2.1
theorem dX10_readLine_123 : decode cX10_readLine 123 = .ok (.aload_n 0, 1) := zdc_333.2.2.2.2.1
theorem dX10_readLine_124 : decode cX10_readLine 124 = .ok (.getfield 20, 3) := zdc_333.2.2.2.2.2.1
theorem dX10_readLine_127 : decode cX10_readLine 127 = .ok (.iconst 1, 1) := zdc_333.2.2.2.2.2.2.1
theorem dX10_readLine_128 : decode cX10_readLine 128 = .ok (.bipush 30, 2) := zdc_333.2.2.2.2.2.2.2.1
theorem dX10_readLine_130 : decode cX10_readLine 130 = .ok (.invokevirtual 56, 3) := zdc_333.2.2.2.2.2.2.2.2.1
theorem dX10_readLine_133 : decode cX10_readLine 133 = .ok (.istore_n 1, 1) := zdc_333.2.2.2.2.2.2.2.2.2
theorem zdc_334 : decode cX10_readLine 134 = .ok (.aload_n 0, 1) ∧ decode cX10_readLine 135 = .ok (.getfield 14, 3) ∧ decode cX10_readLine 138 = .ok (.iload_n 1, 1) ∧ decode cX10_readLine 139 = .ok (.putfield 65, 3) ∧ decode cX10_readLine 142 = .ok (.iload_n 1, 1) ∧ decode cX10_readLine 143 = .ok (.iconst (-1), 1) ∧ decode cX10_readLine 144 = .ok (.if_icmp .eq 7, 3) ∧ decode cX10_readLine 147 = .ok (.iconst 1, 1) ∧ decode cX10_readLine 148 = .ok (.goto 4, 3) ∧ decode cX10_readLine 151 = .ok (.iconst 0, 1) := by decide +kernel
theorem dX10_readLine_134 : decode cX10_readLine 134 = .ok (.aload_n 0, 1) := zdc_334.1
theorem dX10_readLine_135 : decode cX10_readLine 135 = .ok (.getfield 14, 3) := zdc_334.2.1
theorem dX10_readLine_138 : decode cX10_readLine 138 = .ok (.iload_n 1, 1) := zdc_334.2.2.1
theorem dX10_readLine_139 : decode cX10_readLine 139 = .ok (.putfield 65, 3) := zdc_334.2.2.2.1
theorem dX10_readLine_142 : decode cX10_readLine 142 = .ok (.iload_n 1, 1) := zdc_334.2.2.2.2.1
theorem dX10_readLine_143 : decode cX10_readLine 143 = .ok (.iconst (-1), 1) := zdc_334.2.2.2.2.2.1
theorem dX10_readLine_144 : decode cX10_readLine 144 = .ok (.if_icmp .eq 7, 3) := zdc_334.2.2.2.2.2.2.1
theorem dX10_readLine_147 : decode cX10_readLine 147 = .ok (.iconst 1, 1) := zdc_334.2.2.2.2.2.2.2.1
theorem dX10_readLine_148 : decode cX10_readLine 148 = .ok (.goto 4, 3) := zdc_334.2.2.2.2.2.2.2.2.1
theorem dX10_readLine_151 : decode cX10_readLine 151 = .ok (.iconst 0, 1) := zdc_334.2.2.2.2.2.2.2.2.2
theorem zdc_335 : decode cX10_readLine 152 = .ok (.ireturn, 1) ∧ decode cX10_readLine 153 = .ok (.aload_n 0, 1) ∧ decode cX10_readLine 154 = .ok (.getfield 20, 3) ∧ decode cX10_readLine 157 = .ok (.ldc 67, 2) ∧ decode cX10_readLine 159 = .ok (.invokevirtual 43, 3) ∧ decode cX10_readLine 162 = .ok (.ifCond .eq 33, 3) ∧ decode cX10_readLine 165 = .ok (.aload_n 0, 1) ∧ decode cX10_readLine 166 = .ok (.getfield 20, 3) ∧ decode cX10_readLine 169 = .ok (.iconst 0, 1) ∧ decode cX10_readLine 170 = .ok (.bipush 100, 2) := by decide +kernel
theorem dX10_readLine_152 : decode cX10_readLine 152 = .ok (.ireturn, 1) := zdc_335.1
theorem dX10_readLine_153 : decode cX10_readLine 153 = .ok (.aload_n 0, 1) := zdc_335.2.1
theorem dX10_readLine_154 : decode cX10_readLine 154 = .ok (.getfield 20, 3) := zdc_335.2.2.1
theorem dX10_readLine_157 : decode cX10_readLine 157 = .ok (.ldc 67, 2) := zdc_335.2.2.2.1
theorem dX10_readLine_159 : decode cX10_readLine 159 = .ok (.invokevirtual 43, 3) := zdc_335.2.2.2.2.1
theorem dX10_readLine_162 : decode cX10_readLine 162 = .ok (.ifCond .eq 33, 3) := zdc_335.2.2.2.2.2.1
theorem dX10_readLine_165 : decode cX10_readLine 165 = .ok (.aload_n 0, 1) := zdc_335.2.2.2.2.2.2.1
theorem dX10_readLine_166 : decode cX10_readLine 166 = .ok (.getfield 20, 3) := zdc_335.2.2.2.2.2.2.2.1
theorem dX10_readLine_169 : decode cX10_readLine 169 = .ok (.iconst 0, 1) := zdc_335.2.2.2.2.2.2.2.2.1
theorem dX10_readLine_170 : decode cX10_readLine 170 = .ok (.bipush 100, 2) := zdc_335.2.2.2.2.2.2.2.2.2
theorem zdc_336 : decode cX10_readLine 172 = .ok (.invokevirtual 56, 3) ∧ decode cX10_readLine 175 = .ok (.istore_n 1, 1) ∧ decode cX10_readLine 176 = .ok (.aload_n 0, 1) ∧ decode cX10_readLine 177 = .ok (.getfield 14, 3) ∧ decode cX10_readLine 180 = .ok (.iload_n 1, 1) ∧ decode cX10_readLine 181 = .ok (.putfield 69, 3) ∧ decode cX10_readLine 184 = .ok (.iload_n 1, 1) ∧ decode cX10_readLine 185 = .ok (.iconst (-1), 1) ∧ decode cX10_readLine 186 = .ok (.if_icmp .eq 7, 3) ∧ decode cX10_readLine 189 = .ok (.iconst 1, 1) := by decide +kernel
theorem dX10_readLine_172 : decode cX10_readLine 172 = .ok (.invokevirtual 56, 3) := zdc_336.1
theorem dX10_readLine_175 : decode cX10_readLine 175 = .ok (.istore_n 1, 1) := zdc_336.2.1
theorem dX10_readLine_176 : decode cX10_readLine 176 = .ok (.aload_n 0, 1) := zdc_336.2.2.1
theorem dX10_readLine_177 : decode cX10_readLine 177 = .ok (.getfield 14, 3) := zdc_336.2.2.2.1
theorem dX10_readLine_180 : decode cX10_readLine 180 = .ok (.iload_n 1, 1) := zdc_336.2.2.2.2.1
theorem dX10_readLine_181 : decode cX10_readLine 181 = .ok (.putfield 69, 3) := zdc_336.2.2.2.2.2.1
theorem dX10_readLine_184 : decode cX10_readLine 184 = .ok (.iload_n 1, 1) := zdc_336.2.2.2.2.2.2.1
theorem dX10_readLine_185 : decode cX10_readLine 185 = .ok (.iconst (-1), 1) := zdc_336.2.2.2.2.2.2.2.1
theorem dX10_readLine_186 : decode cX10_readLine 186 = .ok (.if_icmp .eq 7, 3) := zdc_336.2.2.2.2.2.2.2.2.1
theorem dX10_readLine_189 : decode cX10_readLine 189 = .ok (.iconst 1, 1) := zdc_336.2.2.2.2.2.2.2.2.2
theorem zdc_337 : decode cX10_readLine 190 = .ok (.goto 4, 3) ∧ decode cX10_readLine 193 = .ok (.iconst 0, 1) ∧ decode cX10_readLine 194 = .ok (.ireturn, 1) ∧ decode cX10_readLine 195 = .ok (.aload_n 0, 1) ∧ decode cX10_readLine 196 = .ok (.getfield 20, 3) ∧ decode cX10_readLine 199 = .ok (.ldc 71, 2) ∧ decode cX10_readLine 201 = .ok (.invokevirtual 43, 3) ∧ decode cX10_readLine 204 = .ok (.ifCond .eq 34, 3) ∧ decode cX10_readLine 207 = .ok (.aload_n 0, 1) ∧ decode cX10_readLine 208 = .ok (.getfield 20, 3) := by decide +kernel
theorem dX10_readLine_190 : decode cX10_readLine 190 = .ok (.goto 4, 3) := zdc_337.1
theorem dX10_readLine_193 : decode cX10_readLine 193 = .ok (.iconst 0, 1) := zdc_337.2.1
theorem dX10_readLine_194 : decode cX10_readLine 194 = .ok (.ireturn, 1) := zdc_337.2.2.1
theorem dX10_readLine_195 : decode cX10_readLine 195 = .ok (.aload_n 0, 1) := zdc_337.2.2.2.1
theorem dX10_readLine_196 : decode cX10_readLine 196 = .ok (.getfield 20, 3) := zdc_337.2.2.2.2.1
theorem dX10_readLine_199 : decode cX10_readLine 199 = .ok (.ldc 71, 2) := zdc_337.2.2.2.2.2.1
theorem dX10_readLine_201 : decode cX10_readLine 201 = .ok (.invokevirtual 43, 3) := zdc_337.2.2.2.2.2.2.1
theorem dX10_readLine_204 : decode cX10_readLine 204 = .ok (.ifCond .eq 34, 3) := zdc_337.2.2.2.2.2.2.2.1
theorem dX10_readLine_207 : decode cX10_readLine 207 = .ok (.aload_n 0, 1) := zdc_337.2.2.2.2.2.2.2.2.1
theorem dX10_readLine_208 : decode cX10_readLine 208 = .ok (.getfield 20, 3) := zdc_337.2.2.2.2.2.2.2.2.2
theorem zdc_338 : decode cX10_readLine 211 = .ok (.iconst 0, 1) ∧ decode cX10_readLine 212 = .ok (.sipush 999, 3) ∧ decode cX10_readLine 215 = .ok (.invokevirtual 56, 3) ∧ decode cX10_readLine 218 = .ok (.istore_n 1, 1) ∧ decode cX10_readLine 219 = .ok (.aload_n 0, 1) ∧ decode cX10_readLine 220 = .ok (.getfield 14, 3) ∧ decode cX10_readLine 223 = .ok (.iload_n 1, 1) ∧ decode cX10_readLine 224 = .ok (.putfield 73, 3) ∧ decode cX10_readLine 227 = .ok (.iload_n 1, 1) ∧ decode cX10_readLine 228 = .ok (.iconst (-1), 1) := by decide +kernel
theorem dX10_readLine_211 : decode cX10_readLine 211 = .ok (.iconst 0, 1) := zdc_338.1
theorem dX10_readLine_212 : decode cX10_readLine 212 = .ok (.sipush 999, 3) := zdc_338.2.1
theorem dX10_readLine_215 : decode cX10_readLine 215 = .ok (.invokevirtual 56, 3) := zdc_338.2.2.1
theorem dX10_readLine_218 : decode cX10_readLine 218 = .ok (.istore_n 1, 1) := zdc_338.2.2.2.1
theorem dX10_readLine_219 : decode cX10_readLine 219 = .ok (.aload_n 0, 1) := zdc_338.2.2.2.2.1
theorem dX10_readLine_220 : decode cX10_readLine 220 = .ok (.getfield 14, 3) := zdc_338.2.2.2.2.2.1
theorem dX10_readLine_223 : decode cX10_readLine 223 = .ok (.iload_n 1, 1) := zdc_338.2.2.2.2.2.2.1
theorem dX10_readLine_224 : decode cX10_readLine 224 = .ok (.putfield 73, 3) := zdc_338.2.2.2.2.2.2.2.1
theorem dX10_readLine_227 : decode cX10_readLine 227 = .ok (.iload_n 1, 1) := zdc_338.2.2.2.2.2.2.2.2.1
theorem dX10_readLine_228 : decode cX10_readLine 228 = .ok (.iconst (-1), 1) := zdc_338.2.2.2.2.2.2.2.2.2
theorem zdc_339 : decode cX10_readLine 229 = .ok (.if_icmp .eq 7, 3) ∧ decode cX10_readLine 232 = .ok (.iconst 1, 1) ∧ decode cX10_readLine 233 = .ok (.goto 4, 3) ∧ decode cX10_readLine 236 = .ok (.iconst 0, 1) ∧ decode cX10_readLine 237 = .ok (.ireturn, 1) ∧ decode cX10_readLine 238 = .ok (.aload_n 0, 1) ∧ decode cX10_readLine 239 = .ok (.getfield 20, 3) ∧ decode cX10_readLine 242 = .ok (.invokevirtual 75, 3) ∧ decode cX10_readLine 245 = .ok (.ireturn, 1) ∧ decode cX10_readPerson 0 = .ok (.aload_n 0, 1) := by decide +kernel
theorem dX10_readLine_229 : decode cX10_readLine 229 = .ok (.if_icmp .eq 7, 3) := zdc_339.1
theorem dX10_readLine_232 : decode cX10_readLine 232 = .ok (.iconst 1, 1) := zdc_339.2.1
theorem dX10_readLine_233 : decode cX10_readLine 233 = .ok (.goto 4, 3) := zdc_339.2.2.1
theorem dX10_readLine_236 : decode cX10_readLine 236 = .ok (.iconst 0, 1) := zdc_339.2.2.2.1
theorem dX10_readLine_237 : decode cX10_readLine 237 = .ok (.ireturn, 1) := zdc_339.2.2.2.2.1
theorem dX10_readLine_238 : decode cX10_readLine 238 = .ok (.aload_n 0, 1) := zdc_339.2.2.2.2.2.1
theorem dX10_readLine_239 : decode cX10_readLine 239 = .ok (.getfield 20, 3) := zdc_339.2.2.2.2.2.2.1
theorem dX10_readLine_242 : decode cX10_readLine 242 = .ok (.invokevirtual 75, 3) := zdc_339.2.2.2.2.2.2.2.1
theorem dX10_readLine_245 : decode cX10_readLine 245 = .ok (.ireturn, 1) := zdc_339.2.2.2.2.2.2.2.2.1
theorem dX10_readPerson_0 : decode cX10_readPerson 0 = .ok (.aload_n 0, 1) := zdc_339.2.2.2.2.2.2.2.2.2
theorem zdc_340 : decode cX10_readPerson 1 = .ok (.getfield 14, 3) ∧ decode cX10_readPerson 4 = .ok (.getfield 78, 3) ∧ decode cX10_readPerson 7 = .ok (.bipush 8, 2) ∧ decode cX10_readPerson 9 = .ok (.if_icmp .lt 11, 3) ∧ decode cX10_readPerson 12 = .ok (.aload_n 0, 1) ∧ decode cX10_readPerson 13 = .ok (.getfield 20, 3) ∧ decode cX10_readPerson 16 = .ok (.invokevirtual 75, 3) ∧ decode cX10_readPerson 19 = .ok (.ireturn, 1) ∧ decode cX10_readPerson 20 = .ok (.aload_n 0, 1) ∧ decode cX10_readPerson 21 = .ok (.getfield 20, 3) := by decide +kernel
theorem dX10_readPerson_1 : decode cX10_readPerson 1 = .ok (.getfield 14, 3) := zdc_340.1
theorem dX10_readPerson_4 : decode cX10_readPerson 4 = .ok (.getfield 78, 3) := zdc_340.2.1
theorem dX10_readPerson_7 : decode cX10_readPerson 7 = .ok (.bipush 8, 2) := zdc_340.2.2.1
theorem dX10_readPerson_9 : decode cX10_readPerson 9 = .ok (.if_icmp .lt 11, 3) := zdc_340.2.2.2.1
theorem dX10_readPerson_12 : decode cX10_readPerson 12 = .ok (.aload_n 0, 1) := zdc_340.2.2.2.2.1
theorem dX10_readPerson_13 : decode cX10_readPerson 13 = .ok (.getfield 20, 3) := zdc_340.2.2.2.2.2.1
theorem dX10_readPerson_16 : decode cX10_readPerson 16 = .ok (.invokevirtual 75, 3) := zdc_340.2.2.2.2.2.2.1
theorem dX10_readPerson_19 : decode cX10_readPerson 19 = .ok (.ireturn, 1) := zdc_340.2.2.2.2.2.2.2.1
theorem dX10_readPerson_20 : decode cX10_readPerson 20 = .ok (.aload_n 0, 1) := zdc_340.2.2.2.2.2.2.2.2.1
theorem dX10_readPerson_21 : decode cX10_readPerson 21 = .ok (.getfield 20, 3) := zdc_340.2.2.2.2.2.2.2.2.2
theorem zdc_341 : decode cX10_readPerson 24 = .ok (.invokevirtual 81, 3) ∧ decode cX10_readPerson 27 = .ok (.aload_n 0, 1) ∧ decode cX10_readPerson 28 = .ok (.getfield 20, 3) ∧ decode cX10_readPerson 31 = .ok (.iconst 0, 1) ∧ decode cX10_readPerson 32 = .ok (.bipush 99, 2) ∧ decode cX10_readPerson 34 = .ok (.invokevirtual 56, 3) ∧ decode cX10_readPerson 37 = .ok (.istore_n 1, 1) ∧ decode cX10_readPerson 38 = .ok (.iload_n 1, 1) ∧ decode cX10_readPerson 39 = .ok (.iconst (-1), 1) ∧ decode cX10_readPerson 40 = .ok (.if_icmp .eq 15, 3) := by decide +kernel
theorem dX10_readPerson_24 : decode cX10_readPerson 24 = .ok (.invokevirtual 81, 3) := zdc_341.1
theorem dX10_readPerson_27 : decode cX10_readPerson 27 = .ok (.aload_n 0, 1) := zdc_341.2.1
theorem dX10_readPerson_28 : decode cX10_readPerson 28 = .ok (.getfield 20, 3) := zdc_341.2.2.1
theorem dX10_readPerson_31 : decode cX10_readPerson 31 = .ok (.iconst 0, 1) := zdc_341.2.2.2.1
theorem dX10_readPerson_32 : decode cX10_readPerson 32 = .ok (.bipush 99, 2) := zdc_341.2.2.2.2.1
theorem dX10_readPerson_34 : decode cX10_readPerson 34 = .ok (.invokevirtual 56, 3) := zdc_341.2.2.2.2.2.1
theorem dX10_readPerson_37 : decode cX10_readPerson 37 = .ok (.istore_n 1, 1) := zdc_341.2.2.2.2.2.2.1
theorem dX10_readPerson_38 : decode cX10_readPerson 38 = .ok (.iload_n 1, 1) := zdc_341.2.2.2.2.2.2.2.1
theorem dX10_readPerson_39 : decode cX10_readPerson 39 = .ok (.iconst (-1), 1) := zdc_341.2.2.2.2.2.2.2.2.1
theorem dX10_readPerson_40 : decode cX10_readPerson 40 = .ok (.if_icmp .eq 15, 3) := zdc_341.2.2.2.2.2.2.2.2.2
theorem zdc_342 : decode cX10_readPerson 43 = .ok (.aload_n 0, 1) ∧ decode cX10_readPerson 44 = .ok (.getfield 20, 3) ∧ decode cX10_readPerson 47 = .ok (.ldc 84, 2) ∧ decode cX10_readPerson 49 = .ok (.invokevirtual 86, 3) ∧ decode cX10_readPerson 52 = .ok (.ifCond .ne 5, 3) ∧ decode cX10_readPerson 55 = .ok (.iconst 0, 1) ∧ decode cX10_readPerson 56 = .ok (.ireturn, 1) ∧ decode cX10_readPerson 57 = .ok (.aload_n 0, 1) ∧ decode cX10_readPerson 58 = .ok (.getfield 20, 3) ∧ decode cX10_readPerson 61 = .ok (.iconst 0, 1) := by decide +kernel
theorem dX10_readPerson_43 : decode cX10_readPerson 43 = .ok (.aload_n 0, 1) := zdc_342.1
theorem dX10_readPerson_44 : decode cX10_readPerson 44 = .ok (.getfield 20, 3) := zdc_342.2.1
theorem dX10_readPerson_47 : decode cX10_readPerson 47 = .ok (.ldc 84, 2) := zdc_342.2.2.1
theorem dX10_readPerson_49 : decode cX10_readPerson 49 = .ok (.invokevirtual 86, 3) := zdc_342.2.2.2.1
theorem dX10_readPerson_52 : decode cX10_readPerson 52 = .ok (.ifCond .ne 5, 3) := zdc_342.2.2.2.2.1
theorem dX10_readPerson_55 : decode cX10_readPerson 55 = .ok (.iconst 0, 1) := zdc_342.2.2.2.2.2.1
theorem dX10_readPerson_56 : decode cX10_readPerson 56 = .ok (.ireturn, 1) := zdc_342.2.2.2.2.2.2.1
theorem dX10_readPerson_57 : decode cX10_readPerson 57 = .ok (.aload_n 0, 1) := zdc_342.2.2.2.2.2.2.2.1
theorem dX10_readPerson_58 : decode cX10_readPerson 58 = .ok (.getfield 20, 3) := zdc_342.2.2.2.2.2.2.2.2.1
theorem dX10_readPerson_61 : decode cX10_readPerson 61 = .ok (.iconst 0, 1) := zdc_342.2.2.2.2.2.2.2.2.2
theorem zdc_343 : decode cX10_readPerson 62 = .ok (.sipush 999, 3) ∧ decode cX10_readPerson 65 = .ok (.invokevirtual 56, 3) ∧ decode cX10_readPerson 68 = .ok (.istore_n 2, 1) ∧ decode cX10_readPerson 69 = .ok (.iload_n 2, 1) ∧ decode cX10_readPerson 70 = .ok (.iconst (-1), 1) ∧ decode cX10_readPerson 71 = .ok (.if_icmp .ne 5, 3) ∧ decode cX10_readPerson 74 = .ok (.iconst 0, 1) ∧ decode cX10_readPerson 75 = .ok (.ireturn, 1) ∧ decode cX10_readPerson 76 = .ok (.aload_n 0, 1) ∧ decode cX10_readPerson 77 = .ok (.getfield 14, 3) := by decide +kernel
theorem dX10_readPerson_62 : decode cX10_readPerson 62 = .ok (.sipush 999, 3) := zdc_343.1
theorem dX10_readPerson_65 : decode cX10_readPerson 65 = .ok (.invokevirtual 56, 3) := zdc_343.2.1
theorem dX10_readPerson_68 : decode cX10_readPerson 68 = .ok (.istore_n 2, 1) := zdc_343.2.2.1
theorem dX10_readPerson_69 : decode cX10_readPerson 69 = .ok (.iload_n 2, 1) := zdc_343.2.2.2.1
theorem dX10_readPerson_70 : decode cX10_readPerson 70 = .ok (.iconst (-1), 1) := zdc_343.2.2.2.2.1
theorem dX10_readPerson_71 : decode cX10_readPerson 71 = .ok (.if_icmp .ne 5, 3) := zdc_343.2.2.2.2.2.1
theorem dX10_readPerson_74 : decode cX10_readPerson 74 = .ok (.iconst 0, 1) := zdc_343.2.2.2.2.2.2.1
theorem dX10_readPerson_75 : decode cX10_readPerson 75 = .ok (.ireturn, 1) := zdc_343.2.2.2.2.2.2.2.1
theorem dX10_readPerson_76 : decode cX10_readPerson 76 = .ok (.aload_n 0, 1) := zdc_343.2.2.2.2.2.2.2.2.1
theorem dX10_readPerson_77 : decode cX10_readPerson 77 = .ok (.getfield 14, 3) := zdc_343.2.2.2.2.2.2.2.2.2
theorem zdc_344 : decode cX10_readPerson 80 = .ok (.iload_n 1, 1) ∧ decode cX10_readPerson 81 = .ok (.iload_n 2, 1) ∧ decode cX10_readPerson 82 = .ok (.aload_n 0, 1) ∧ decode cX10_readPerson 83 = .ok (.getfield 20, 3) ∧ decode cX10_readPerson 86 = .ok (.ldc 89, 2) ∧ decode cX10_readPerson 88 = .ok (.invokevirtual 43, 3) ∧ decode cX10_readPerson 91 = .ok (.invokevirtual 91, 3) ∧ decode cX10_readPerson 94 = .ok (.iconst 1, 1) ∧ decode cX10_readPerson 95 = .ok (.ireturn, 1) ∧ decode cX10_readWork 0 = .ok (.aload_n 0, 1) := by decide +kernel
theorem dX10_readPerson_80 : decode cX10_readPerson 80 = .ok (.iload_n 1, 1) := zdc_344.1
theorem dX10_readPerson_81 : decode cX10_readPerson 81 = .ok (.iload_n 2, 1) := zdc_344.2.1
theorem dX10_readPerson_82 : decode cX10_readPerson 82 = .ok (.aload_n 0, 1) := zdc_344.2.2.1
theorem dX10_readPerson_83 : decode cX10_readPerson 83 = .ok (.getfield 20, 3) := zdc_344.2.2.2.1
theorem dX10_readPerson_86 : decode cX10_readPerson 86 = .ok (.ldc 89, 2) := zdc_344.2.2.2.2.1
theorem dX10_readPerson_88 : decode cX10_readPerson 88 = .ok (.invokevirtual 43, 3) := zdc_344.2.2.2.2.2.1
theorem dX10_readPerson_91 : decode cX10_readPerson 91 = .ok (.invokevirtual 91, 3) := zdc_344.2.2.2.2.2.2.1
theorem dX10_readPerson_94 : decode cX10_readPerson 94 = .ok (.iconst 1, 1) := zdc_344.2.2.2.2.2.2.2.1
theorem dX10_readPerson_95 : decode cX10_readPerson 95 = .ok (.ireturn, 1) := zdc_344.2.2.2.2.2.2.2.2.1
theorem dX10_readWork_0 : decode cX10_readWork 0 = .ok (.aload_n 0, 1) := zdc_344.2.2.2.2.2.2.2.2.2
theorem zdc_345 : decode cX10_readWork 1 = .ok (.getfield 14, 3) ∧ decode cX10_readWork 4 = .ok (.getfield 95, 3) ∧ decode cX10_readWork 7 = .ok (.bipush 6, 2) ∧ decode cX10_readWork 9 = .ok (.if_icmp .lt 11, 3) ∧ decode cX10_readWork 12 = .ok (.aload_n 0, 1) ∧ decode cX10_readWork 13 = .ok (.getfield 20, 3) ∧ decode cX10_readWork 16 = .ok (.invokevirtual 75, 3) ∧ decode cX10_readWork 19 = .ok (.ireturn, 1) ∧ decode cX10_readWork 20 = .ok (.aload_n 0, 1) ∧ decode cX10_readWork 21 = .ok (.getfield 20, 3) := by decide +kernel
theorem dX10_readWork_1 : decode cX10_readWork 1 = .ok (.getfield 14, 3) := zdc_345.1
theorem dX10_readWork_4 : decode cX10_readWork 4 = .ok (.getfield 95, 3) := zdc_345.2.1
theorem dX10_readWork_7 : decode cX10_readWork 7 = .ok (.bipush 6, 2) := zdc_345.2.2.1
theorem dX10_readWork_9 : decode cX10_readWork 9 = .ok (.if_icmp .lt 11, 3) := zdc_345.2.2.2.1
theorem dX10_readWork_12 : decode cX10_readWork 12 = .ok (.aload_n 0, 1) := zdc_345.2.2.2.2.1
theorem dX10_readWork_13 : decode cX10_readWork 13 = .ok (.getfield 20, 3) := zdc_345.2.2.2.2.2.1
theorem dX10_readWork_16 : decode cX10_readWork 16 = .ok (.invokevirtual 75, 3) := zdc_345.2.2.2.2.2.2.1
theorem dX10_readWork_19 : decode cX10_readWork 19 = .ok (.ireturn, 1) := zdc_345.2.2.2.2.2.2.2.1
theorem dX10_readWork_20 : decode cX10_readWork 20 = .ok (.aload_n 0, 1) := zdc_345.2.2.2.2.2.2.2.2.1
theorem dX10_readWork_21 : decode cX10_readWork 21 = .ok (.getfield 20, 3) := zdc_345.2.2.2.2.2.2.2.2.2
theorem zdc_346 : decode cX10_readWork 24 = .ok (.invokevirtual 81, 3) ∧ decode cX10_readWork 27 = .ok (.aload_n 0, 1) ∧ decode cX10_readWork 28 = .ok (.getfield 20, 3) ∧ decode cX10_readWork 31 = .ok (.iconst 1, 1) ∧ decode cX10_readWork 32 = .ok (.bipush 99, 2) ∧ decode cX10_readWork 34 = .ok (.invokevirtual 56, 3) ∧ decode cX10_readWork 37 = .ok (.istore_n 1, 1) ∧ decode cX10_readWork 38 = .ok (.iload_n 1, 1) ∧ decode cX10_readWork 39 = .ok (.iconst (-1), 1) ∧ decode cX10_readWork 40 = .ok (.if_icmp .eq 15, 3) := by decide +kernel
theorem dX10_readWork_24 : decode cX10_readWork 24 = .ok (.invokevirtual 81, 3) := zdc_346.1
theorem dX10_readWork_27 : decode cX10_readWork 27 = .ok (.aload_n 0, 1) := zdc_346.2.1
theorem dX10_readWork_28 : decode cX10_readWork 28 = .ok (.getfield 20, 3) := zdc_346.2.2.1
theorem dX10_readWork_31 : decode cX10_readWork 31 = .ok (.iconst 1, 1) := zdc_346.2.2.2.1
theorem dX10_readWork_32 : decode cX10_readWork 32 = .ok (.bipush 99, 2) := zdc_346.2.2.2.2.1
theorem dX10_readWork_34 : decode cX10_readWork 34 = .ok (.invokevirtual 56, 3) := zdc_346.2.2.2.2.2.1
theorem dX10_readWork_37 : decode cX10_readWork 37 = .ok (.istore_n 1, 1) := zdc_346.2.2.2.2.2.2.1
theorem dX10_readWork_38 : decode cX10_readWork 38 = .ok (.iload_n 1, 1) := zdc_346.2.2.2.2.2.2.2.1
theorem dX10_readWork_39 : decode cX10_readWork 39 = .ok (.iconst (-1), 1) := zdc_346.2.2.2.2.2.2.2.2.1
theorem dX10_readWork_40 : decode cX10_readWork 40 = .ok (.if_icmp .eq 15, 3) := zdc_346.2.2.2.2.2.2.2.2.2
theorem zdc_347 : decode cX10_readWork 43 = .ok (.aload_n 0, 1) ∧ decode cX10_readWork 44 = .ok (.getfield 20, 3) ∧ decode cX10_readWork 47 = .ok (.ldc 98, 2) ∧ decode cX10_readWork 49 = .ok (.invokevirtual 86, 3) ∧ decode cX10_readWork 52 = .ok (.ifCond .ne 5, 3) ∧ decode cX10_readWork 55 = .ok (.iconst 0, 1) ∧ decode cX10_readWork 56 = .ok (.ireturn, 1) ∧ decode cX10_readWork 57 = .ok (.aload_n 0, 1) ∧ decode cX10_readWork 58 = .ok (.getfield 20, 3) ∧ decode cX10_readWork 61 = .ok (.iconst 0, 1) := by decide +kernel
theorem dX10_readWork_43 : decode cX10_readWork 43 = .ok (.aload_n 0, 1) := zdc_347.1
theorem dX10_readWork_44 : decode cX10_readWork 44 = .ok (.getfield 20, 3) := zdc_347.2.1
theorem dX10_readWork_47 : decode cX10_readWork 47 = .ok (.ldc 98, 2) := zdc_347.2.2.1
theorem dX10_readWork_49 : decode cX10_readWork 49 = .ok (.invokevirtual 86, 3) := zdc_347.2.2.2.1
theorem dX10_readWork_52 : decode cX10_readWork 52 = .ok (.ifCond .ne 5, 3) := zdc_347.2.2.2.2.1
theorem dX10_readWork_55 : decode cX10_readWork 55 = .ok (.iconst 0, 1) := zdc_347.2.2.2.2.2.1
theorem dX10_readWork_56 : decode cX10_readWork 56 = .ok (.ireturn, 1) := zdc_347.2.2.2.2.2.2.1
theorem dX10_readWork_57 : decode cX10_readWork 57 = .ok (.aload_n 0, 1) := zdc_347.2.2.2.2.2.2.2.1
theorem dX10_readWork_58 : decode cX10_readWork 58 = .ok (.getfield 20, 3) := zdc_347.2.2.2.2.2.2.2.2.1
theorem dX10_readWork_61 : decode cX10_readWork 61 = .ok (.iconst 0, 1) := zdc_347.2.2.2.2.2.2.2.2.2
theorem zdc_348 : decode cX10_readWork 62 = .ok (.sipush 799, 3) ∧ decode cX10_readWork 65 = .ok (.invokevirtual 56, 3) ∧ decode cX10_readWork 68 = .ok (.istore_n 2, 1) ∧ decode cX10_readWork 69 = .ok (.iload_n 2, 1) ∧ decode cX10_readWork 70 = .ok (.iconst (-1), 1) ∧ decode cX10_readWork 71 = .ok (.if_icmp .eq 15, 3) ∧ decode cX10_readWork 74 = .ok (.aload_n 0, 1) ∧ decode cX10_readWork 75 = .ok (.getfield 20, 3) ∧ decode cX10_readWork 78 = .ok (.ldc 100, 2) ∧ decode cX10_readWork 80 = .ok (.invokevirtual 86, 3) := by decide +kernel
theorem dX10_readWork_62 : decode cX10_readWork 62 = .ok (.sipush 799, 3) := zdc_348.1
theorem dX10_readWork_65 : decode cX10_readWork 65 = .ok (.invokevirtual 56, 3) := zdc_348.2.1
theorem dX10_readWork_68 : decode cX10_readWork 68 = .ok (.istore_n 2, 1) := zdc_348.2.2.1
theorem dX10_readWork_69 : decode cX10_readWork 69 = .ok (.iload_n 2, 1) := zdc_348.2.2.2.1
theorem dX10_readWork_70 : decode cX10_readWork 70 = .ok (.iconst (-1), 1) := zdc_348.2.2.2.2.1
theorem dX10_readWork_71 : decode cX10_readWork 71 = .ok (.if_icmp .eq 15, 3) := zdc_348.2.2.2.2.2.1
theorem dX10_readWork_74 : decode cX10_readWork 74 = .ok (.aload_n 0, 1) := zdc_348.2.2.2.2.2.2.1
theorem dX10_readWork_75 : decode cX10_readWork 75 = .ok (.getfield 20, 3) := zdc_348.2.2.2.2.2.2.2.1
theorem dX10_readWork_78 : decode cX10_readWork 78 = .ok (.ldc 100, 2) := zdc_348.2.2.2.2.2.2.2.2.1
theorem dX10_readWork_80 : decode cX10_readWork 80 = .ok (.invokevirtual 86, 3) := zdc_348.2.2.2.2.2.2.2.2.2
theorem zdc_349 : decode cX10_readWork 83 = .ok (.ifCond .ne 5, 3) ∧ decode cX10_readWork 86 = .ok (.iconst 0, 1) ∧ decode cX10_readWork 87 = .ok (.ireturn, 1) ∧ decode cX10_readWork 88 = .ok (.aload_n 0, 1) ∧ decode cX10_readWork 89 = .ok (.getfield 20, 3) ∧ decode cX10_readWork 92 = .ok (.iconst 0, 1) ∧ decode cX10_readWork 93 = .ok (.bipush 20, 2) ∧ decode cX10_readWork 95 = .ok (.invokevirtual 56, 3) ∧ decode cX10_readWork 98 = .ok (.istore_n 3, 1) ∧ decode cX10_readWork 99 = .ok (.iload_n 3, 1) := by decide +kernel
theorem dX10_readWork_83 : decode cX10_readWork 83 = .ok (.ifCond .ne 5, 3) := zdc_349.1
theorem dX10_readWork_86 : decode cX10_readWork 86 = .ok (.iconst 0, 1) := zdc_349.2.1
theorem dX10_readWork_87 : decode cX10_readWork 87 = .ok (.ireturn, 1) := zdc_349.2.2.1
theorem dX10_readWork_88 : decode cX10_readWork 88 = .ok (.aload_n 0, 1) := zdc_349.2.2.2.1
theorem dX10_readWork_89 : decode cX10_readWork 89 = .ok (.getfield 20, 3) := zdc_349.2.2.2.2.1
theorem dX10_readWork_92 : decode cX10_readWork 92 = .ok (.iconst 0, 1) := zdc_349.2.2.2.2.2.1
theorem dX10_readWork_93 : decode cX10_readWork 93 = .ok (.bipush 20, 2) := zdc_349.2.2.2.2.2.2.1
theorem dX10_readWork_95 : decode cX10_readWork 95 = .ok (.invokevirtual 56, 3) := zdc_349.2.2.2.2.2.2.2.1
theorem dX10_readWork_98 : decode cX10_readWork 98 = .ok (.istore_n 3, 1) := zdc_349.2.2.2.2.2.2.2.2.1
theorem dX10_readWork_99 : decode cX10_readWork 99 = .ok (.iload_n 3, 1) := zdc_349.2.2.2.2.2.2.2.2.2
theorem zdc_350 : decode cX10_readWork 100 = .ok (.iconst (-1), 1) ∧ decode cX10_readWork 101 = .ok (.if_icmp .ne 5, 3) ∧ decode cX10_readWork 104 = .ok (.iconst 0, 1) ∧ decode cX10_readWork 105 = .ok (.ireturn, 1) ∧ decode cX10_readWork 106 = .ok (.aload_n 0, 1) ∧ decode cX10_readWork 107 = .ok (.getfield 14, 3) ∧ decode cX10_readWork 110 = .ok (.iload_n 1, 1) ∧ decode cX10_readWork 111 = .ok (.iload_n 2, 1) ∧ decode cX10_readWork 112 = .ok (.iload_n 3, 1) ∧ decode cX10_readWork 113 = .ok (.invokevirtual 102, 3) := by decide +kernel
theorem dX10_readWork_100 : decode cX10_readWork 100 = .ok (.iconst (-1), 1) := zdc_350.1
theorem dX10_readWork_101 : decode cX10_readWork 101 = .ok (.if_icmp .ne 5, 3) := zdc_350.2.1
theorem dX10_readWork_104 : decode cX10_readWork 104 = .ok (.iconst 0, 1) := zdc_350.2.2.1
theorem dX10_readWork_105 : decode cX10_readWork 105 = .ok (.ireturn, 1) := zdc_350.2.2.2.1
theorem dX10_readWork_106 : decode cX10_readWork 106 = .ok (.aload_n 0, 1) := zdc_350.2.2.2.2.1
theorem dX10_readWork_107 : decode cX10_readWork 107 = .ok (.getfield 14, 3) := zdc_350.2.2.2.2.2.1
theorem dX10_readWork_110 : decode cX10_readWork 110 = .ok (.iload_n 1, 1) := zdc_350.2.2.2.2.2.2.1
theorem dX10_readWork_111 : decode cX10_readWork 111 = .ok (.iload_n 2, 1) := zdc_350.2.2.2.2.2.2.2.1
theorem dX10_readWork_112 : decode cX10_readWork 112 = .ok (.iload_n 3, 1) := zdc_350.2.2.2.2.2.2.2.2.1
theorem dX10_readWork_113 : decode cX10_readWork 113 = .ok (.invokevirtual 102, 3) := zdc_350.2.2.2.2.2.2.2.2.2
theorem zdc_351 : decode cX10_readWork 116 = .ok (.iconst 1, 1) ∧ decode cX10_readWork 117 = .ok (.ireturn, 1) ∧ decode cX10_readTrusts 0 = .ok (.aload_n 0, 1) ∧ decode cX10_readTrusts 1 = .ok (.getfield 20, 3) ∧ decode cX10_readTrusts 4 = .ok (.iconst 0, 1) ∧ decode cX10_readTrusts 5 = .ok (.aload_n 0, 1) ∧ decode cX10_readTrusts 6 = .ok (.getfield 14, 3) ∧ decode cX10_readTrusts 9 = .ok (.getfield 78, 3) ∧ decode cX10_readTrusts 12 = .ok (.iconst 1, 1) ∧ decode cX10_readTrusts 13 = .ok (.isub, 1) := by decide +kernel
theorem dX10_readWork_116 : decode cX10_readWork 116 = .ok (.iconst 1, 1) := zdc_351.1
theorem dX10_readWork_117 : decode cX10_readWork 117 = .ok (.ireturn, 1) := zdc_351.2.1
theorem dX10_readTrusts_0 : decode cX10_readTrusts 0 = .ok (.aload_n 0, 1) := zdc_351.2.2.1
theorem dX10_readTrusts_1 : decode cX10_readTrusts 1 = .ok (.getfield 20, 3) := zdc_351.2.2.2.1
theorem dX10_readTrusts_4 : decode cX10_readTrusts 4 = .ok (.iconst 0, 1) := zdc_351.2.2.2.2.1
theorem dX10_readTrusts_5 : decode cX10_readTrusts 5 = .ok (.aload_n 0, 1) := zdc_351.2.2.2.2.2.1
theorem dX10_readTrusts_6 : decode cX10_readTrusts 6 = .ok (.getfield 14, 3) := zdc_351.2.2.2.2.2.2.1
theorem dX10_readTrusts_9 : decode cX10_readTrusts 9 = .ok (.getfield 78, 3) := zdc_351.2.2.2.2.2.2.2.1
theorem dX10_readTrusts_12 : decode cX10_readTrusts 12 = .ok (.iconst 1, 1) := zdc_351.2.2.2.2.2.2.2.2.1
theorem dX10_readTrusts_13 : decode cX10_readTrusts 13 = .ok (.isub, 1) := zdc_351.2.2.2.2.2.2.2.2.2
theorem zdc_352 : decode cX10_readTrusts 14 = .ok (.invokevirtual 56, 3) ∧ decode cX10_readTrusts 17 = .ok (.istore_n 1, 1) ∧ decode cX10_readTrusts 18 = .ok (.iload_n 1, 1) ∧ decode cX10_readTrusts 19 = .ok (.iconst (-1), 1) ∧ decode cX10_readTrusts 20 = .ok (.if_icmp .ne 5, 3) ∧ decode cX10_readTrusts 23 = .ok (.iconst 0, 1) ∧ decode cX10_readTrusts 24 = .ok (.ireturn, 1) ∧ decode cX10_readTrusts 25 = .ok (.aload_n 0, 1) ∧ decode cX10_readTrusts 26 = .ok (.getfield 20, 3) ∧ decode cX10_readTrusts 29 = .ok (.getfield 106, 3) := by decide +kernel
theorem dX10_readTrusts_14 : decode cX10_readTrusts 14 = .ok (.invokevirtual 56, 3) := zdc_352.1
theorem dX10_readTrusts_17 : decode cX10_readTrusts 17 = .ok (.istore_n 1, 1) := zdc_352.2.1
theorem dX10_readTrusts_18 : decode cX10_readTrusts 18 = .ok (.iload_n 1, 1) := zdc_352.2.2.1
theorem dX10_readTrusts_19 : decode cX10_readTrusts 19 = .ok (.iconst (-1), 1) := zdc_352.2.2.2.1
theorem dX10_readTrusts_20 : decode cX10_readTrusts 20 = .ok (.if_icmp .ne 5, 3) := zdc_352.2.2.2.2.1
theorem dX10_readTrusts_23 : decode cX10_readTrusts 23 = .ok (.iconst 0, 1) := zdc_352.2.2.2.2.2.1
theorem dX10_readTrusts_24 : decode cX10_readTrusts 24 = .ok (.ireturn, 1) := zdc_352.2.2.2.2.2.2.1
theorem dX10_readTrusts_25 : decode cX10_readTrusts 25 = .ok (.aload_n 0, 1) := zdc_352.2.2.2.2.2.2.2.1
theorem dX10_readTrusts_26 : decode cX10_readTrusts 26 = .ok (.getfield 20, 3) := zdc_352.2.2.2.2.2.2.2.2.1
theorem dX10_readTrusts_29 : decode cX10_readTrusts 29 = .ok (.getfield 106, 3) := zdc_352.2.2.2.2.2.2.2.2.2
theorem zdc_353 : decode cX10_readTrusts 32 = .ok (.iconst 2, 1) ∧ decode cX10_readTrusts 33 = .ok (.if_icmp .ne 28, 3) ∧ decode cX10_readTrusts 36 = .ok (.aload_n 0, 1) ∧ decode cX10_readTrusts 37 = .ok (.getfield 20, 3) ∧ decode cX10_readTrusts 40 = .ok (.getfield 109, 3) ∧ decode cX10_readTrusts 43 = .ok (.aload_n 0, 1) ∧ decode cX10_readTrusts 44 = .ok (.getfield 20, 3) ∧ decode cX10_readTrusts 47 = .ok (.getfield 112, 3) ∧ decode cX10_readTrusts 50 = .ok (.isub, 1) ∧ decode cX10_readTrusts 51 = .ok (.aload_n 0, 1) := by decide +kernel
theorem dX10_readTrusts_32 : decode cX10_readTrusts 32 = .ok (.iconst 2, 1) := zdc_353.1
theorem dX10_readTrusts_33 : decode cX10_readTrusts 33 = .ok (.if_icmp .ne 28, 3) := zdc_353.2.1
theorem dX10_readTrusts_36 : decode cX10_readTrusts 36 = .ok (.aload_n 0, 1) := zdc_353.2.2.1
theorem dX10_readTrusts_37 : decode cX10_readTrusts 37 = .ok (.getfield 20, 3) := zdc_353.2.2.2.1
theorem dX10_readTrusts_40 : decode cX10_readTrusts 40 = .ok (.getfield 109, 3) := zdc_353.2.2.2.2.1
theorem dX10_readTrusts_43 : decode cX10_readTrusts 43 = .ok (.aload_n 0, 1) := zdc_353.2.2.2.2.2.1
theorem dX10_readTrusts_44 : decode cX10_readTrusts 44 = .ok (.getfield 20, 3) := zdc_353.2.2.2.2.2.2.1
theorem dX10_readTrusts_47 : decode cX10_readTrusts 47 = .ok (.getfield 112, 3) := zdc_353.2.2.2.2.2.2.2.1
theorem dX10_readTrusts_50 : decode cX10_readTrusts 50 = .ok (.isub, 1) := zdc_353.2.2.2.2.2.2.2.2.1
theorem dX10_readTrusts_51 : decode cX10_readTrusts 51 = .ok (.aload_n 0, 1) := zdc_353.2.2.2.2.2.2.2.2.2
theorem zdc_354 : decode cX10_readTrusts 52 = .ok (.getfield 14, 3) ∧ decode cX10_readTrusts 55 = .ok (.getfield 78, 3) ∧ decode cX10_readTrusts 58 = .ok (.if_icmp .eq 11, 3) ∧ decode cX10_readTrusts 61 = .ok (.aload_n 0, 1) ∧ decode cX10_readTrusts 62 = .ok (.getfield 20, 3) ∧ decode cX10_readTrusts 65 = .ok (.invokevirtual 75, 3) ∧ decode cX10_readTrusts 68 = .ok (.ireturn, 1) ∧ decode cX10_readTrusts 69 = .ok (.iconst 0, 1) ∧ decode cX10_readTrusts 70 = .ok (.istore_n 2, 1) ∧ decode cX10_readTrusts 71 = .ok (.iload_n 2, 1) := by decide +kernel
theorem dX10_readTrusts_52 : decode cX10_readTrusts 52 = .ok (.getfield 14, 3) := zdc_354.1
theorem dX10_readTrusts_55 : decode cX10_readTrusts 55 = .ok (.getfield 78, 3) := zdc_354.2.1
theorem dX10_readTrusts_58 : decode cX10_readTrusts 58 = .ok (.if_icmp .eq 11, 3) := zdc_354.2.2.1
theorem dX10_readTrusts_61 : decode cX10_readTrusts 61 = .ok (.aload_n 0, 1) := zdc_354.2.2.2.1
theorem dX10_readTrusts_62 : decode cX10_readTrusts 62 = .ok (.getfield 20, 3) := zdc_354.2.2.2.2.1
theorem dX10_readTrusts_65 : decode cX10_readTrusts 65 = .ok (.invokevirtual 75, 3) := zdc_354.2.2.2.2.2.1
theorem dX10_readTrusts_68 : decode cX10_readTrusts 68 = .ok (.ireturn, 1) := zdc_354.2.2.2.2.2.2.1
theorem dX10_readTrusts_69 : decode cX10_readTrusts 69 = .ok (.iconst 0, 1) := zdc_354.2.2.2.2.2.2.2.1
theorem dX10_readTrusts_70 : decode cX10_readTrusts 70 = .ok (.istore_n 2, 1) := zdc_354.2.2.2.2.2.2.2.2.1
theorem dX10_readTrusts_71 : decode cX10_readTrusts 71 = .ok (.iload_n 2, 1) := zdc_354.2.2.2.2.2.2.2.2.2
theorem zdc_355 : decode cX10_readTrusts 72 = .ok (.aload_n 0, 1) ∧ decode cX10_readTrusts 73 = .ok (.getfield 14, 3) ∧ decode cX10_readTrusts 76 = .ok (.getfield 78, 3) ∧ decode cX10_readTrusts 79 = .ok (.if_icmp .ge 43, 3) ∧ decode cX10_readTrusts 82 = .ok (.iload_n 2, 1) ∧ decode cX10_readTrusts 83 = .ok (.iload_n 1, 1) ∧ decode cX10_readTrusts 84 = .ok (.if_icmp .eq 32, 3) ∧ decode cX10_readTrusts 87 = .ok (.aload_n 0, 1) ∧ decode cX10_readTrusts 88 = .ok (.getfield 14, 3) ∧ decode cX10_readTrusts 91 = .ok (.iload_n 1, 1) := by decide +kernel
theorem dX10_readTrusts_72 : decode cX10_readTrusts 72 = .ok (.aload_n 0, 1) := zdc_355.1
theorem dX10_readTrusts_73 : decode cX10_readTrusts 73 = .ok (.getfield 14, 3) := zdc_355.2.1
theorem dX10_readTrusts_76 : decode cX10_readTrusts 76 = .ok (.getfield 78, 3) := zdc_355.2.2.1
theorem dX10_readTrusts_79 : decode cX10_readTrusts 79 = .ok (.if_icmp .ge 43, 3) := zdc_355.2.2.2.1
theorem dX10_readTrusts_82 : decode cX10_readTrusts 82 = .ok (.iload_n 2, 1) := zdc_355.2.2.2.2.1
theorem dX10_readTrusts_83 : decode cX10_readTrusts 83 = .ok (.iload_n 1, 1) := zdc_355.2.2.2.2.2.1
theorem dX10_readTrusts_84 : decode cX10_readTrusts 84 = .ok (.if_icmp .eq 32, 3) := zdc_355.2.2.2.2.2.2.1
theorem dX10_readTrusts_87 : decode cX10_readTrusts 87 = .ok (.aload_n 0, 1) := zdc_355.2.2.2.2.2.2.2.1
theorem dX10_readTrusts_88 : decode cX10_readTrusts 88 = .ok (.getfield 14, 3) := zdc_355.2.2.2.2.2.2.2.2.1
theorem dX10_readTrusts_91 : decode cX10_readTrusts 91 = .ok (.iload_n 1, 1) := zdc_355.2.2.2.2.2.2.2.2.2
theorem zdc_356 : decode cX10_readTrusts 92 = .ok (.iload_n 2, 1) ∧ decode cX10_readTrusts 93 = .ok (.aload_n 0, 1) ∧ decode cX10_readTrusts 94 = .ok (.getfield 20, 3) ∧ decode cX10_readTrusts 97 = .ok (.getfield 115, 3) ∧ decode cX10_readTrusts 100 = .ok (.aload_n 0, 1) ∧ decode cX10_readTrusts 101 = .ok (.getfield 20, 3) ∧ decode cX10_readTrusts 104 = .ok (.getfield 112, 3) ∧ decode cX10_readTrusts 107 = .ok (.iload_n 2, 1) ∧ decode cX10_readTrusts 108 = .ok (.iadd, 1) ∧ decode cX10_readTrusts 109 = .ok (.iaload, 1) := by decide +kernel
theorem dX10_readTrusts_92 : decode cX10_readTrusts 92 = .ok (.iload_n 2, 1) := zdc_356.1
theorem dX10_readTrusts_93 : decode cX10_readTrusts 93 = .ok (.aload_n 0, 1) := zdc_356.2.1
theorem dX10_readTrusts_94 : decode cX10_readTrusts 94 = .ok (.getfield 20, 3) := zdc_356.2.2.1
theorem dX10_readTrusts_97 : decode cX10_readTrusts 97 = .ok (.getfield 115, 3) := zdc_356.2.2.2.1
theorem dX10_readTrusts_100 : decode cX10_readTrusts 100 = .ok (.aload_n 0, 1) := zdc_356.2.2.2.2.1
theorem dX10_readTrusts_101 : decode cX10_readTrusts 101 = .ok (.getfield 20, 3) := zdc_356.2.2.2.2.2.1
theorem dX10_readTrusts_104 : decode cX10_readTrusts 104 = .ok (.getfield 112, 3) := zdc_356.2.2.2.2.2.2.1
theorem dX10_readTrusts_107 : decode cX10_readTrusts 107 = .ok (.iload_n 2, 1) := zdc_356.2.2.2.2.2.2.2.1
theorem dX10_readTrusts_108 : decode cX10_readTrusts 108 = .ok (.iadd, 1) := zdc_356.2.2.2.2.2.2.2.2.1
theorem dX10_readTrusts_109 : decode cX10_readTrusts 109 = .ok (.iaload, 1) := zdc_356.2.2.2.2.2.2.2.2.2
theorem zdc_357 : decode cX10_readTrusts 110 = .ok (.bipush 48, 2) ∧ decode cX10_readTrusts 112 = .ok (.isub, 1) ∧ decode cX10_readTrusts 113 = .ok (.invokevirtual 119, 3) ∧ decode cX10_readTrusts 116 = .ok (.iinc 2 1, 3) ∧ decode cX10_readTrusts 119 = .ok (.goto (-48), 3) ∧ decode cX10_readTrusts 122 = .ok (.aload_n 0, 1) ∧ decode cX10_readTrusts 123 = .ok (.getfield 20, 3) ∧ decode cX10_readTrusts 126 = .ok (.invokevirtual 81, 3) ∧ decode cX10_readTrusts 129 = .ok (.iconst 1, 1) ∧ decode cX10_readTrusts 130 = .ok (.ireturn, 1) := by decide +kernel
theorem dX10_readTrusts_110 : decode cX10_readTrusts 110 = .ok (.bipush 48, 2) := zdc_357.1
theorem dX10_readTrusts_112 : decode cX10_readTrusts 112 = .ok (.isub, 1) := zdc_357.2.1
theorem dX10_readTrusts_113 : decode cX10_readTrusts 113 = .ok (.invokevirtual 119, 3) := zdc_357.2.2.1
theorem dX10_readTrusts_116 : decode cX10_readTrusts 116 = .ok (.iinc 2 1, 3) := zdc_357.2.2.2.1
theorem dX10_readTrusts_119 : decode cX10_readTrusts 119 = .ok (.goto (-48), 3) := zdc_357.2.2.2.2.1
theorem dX10_readTrusts_122 : decode cX10_readTrusts 122 = .ok (.aload_n 0, 1) := zdc_357.2.2.2.2.2.1
theorem dX10_readTrusts_123 : decode cX10_readTrusts 123 = .ok (.getfield 20, 3) := zdc_357.2.2.2.2.2.2.1
theorem dX10_readTrusts_126 : decode cX10_readTrusts 126 = .ok (.invokevirtual 81, 3) := zdc_357.2.2.2.2.2.2.2.1
theorem dX10_readTrusts_129 : decode cX10_readTrusts 129 = .ok (.iconst 1, 1) := zdc_357.2.2.2.2.2.2.2.2.1
theorem dX10_readTrusts_130 : decode cX10_readTrusts 130 = .ok (.ireturn, 1) := zdc_357.2.2.2.2.2.2.2.2.2
theorem zdc_358 : decode cX10_readShares 0 = .ok (.aload_n 0, 1) ∧ decode cX10_readShares 1 = .ok (.getfield 20, 3) ∧ decode cX10_readShares 4 = .ok (.iconst 0, 1) ∧ decode cX10_readShares 5 = .ok (.aload_n 0, 1) ∧ decode cX10_readShares 6 = .ok (.getfield 14, 3) ∧ decode cX10_readShares 9 = .ok (.getfield 78, 3) ∧ decode cX10_readShares 12 = .ok (.iconst 1, 1) ∧ decode cX10_readShares 13 = .ok (.isub, 1) ∧ decode cX10_readShares 14 = .ok (.invokevirtual 56, 3) ∧ decode cX10_readShares 17 = .ok (.istore_n 1, 1) := by decide +kernel
theorem dX10_readShares_0 : decode cX10_readShares 0 = .ok (.aload_n 0, 1) := zdc_358.1
theorem dX10_readShares_1 : decode cX10_readShares 1 = .ok (.getfield 20, 3) := zdc_358.2.1
theorem dX10_readShares_4 : decode cX10_readShares 4 = .ok (.iconst 0, 1) := zdc_358.2.2.1
theorem dX10_readShares_5 : decode cX10_readShares 5 = .ok (.aload_n 0, 1) := zdc_358.2.2.2.1
theorem dX10_readShares_6 : decode cX10_readShares 6 = .ok (.getfield 14, 3) := zdc_358.2.2.2.2.1
theorem dX10_readShares_9 : decode cX10_readShares 9 = .ok (.getfield 78, 3) := zdc_358.2.2.2.2.2.1
theorem dX10_readShares_12 : decode cX10_readShares 12 = .ok (.iconst 1, 1) := zdc_358.2.2.2.2.2.2.1
theorem dX10_readShares_13 : decode cX10_readShares 13 = .ok (.isub, 1) := zdc_358.2.2.2.2.2.2.2.1
theorem dX10_readShares_14 : decode cX10_readShares 14 = .ok (.invokevirtual 56, 3) := zdc_358.2.2.2.2.2.2.2.2.1
theorem dX10_readShares_17 : decode cX10_readShares 17 = .ok (.istore_n 1, 1) := zdc_358.2.2.2.2.2.2.2.2.2
theorem zdc_359 : decode cX10_readShares 18 = .ok (.iload_n 1, 1) ∧ decode cX10_readShares 19 = .ok (.iconst (-1), 1) ∧ decode cX10_readShares 20 = .ok (.if_icmp .ne 5, 3) ∧ decode cX10_readShares 23 = .ok (.iconst 0, 1) ∧ decode cX10_readShares 24 = .ok (.ireturn, 1) ∧ decode cX10_readShares 25 = .ok (.aload_n 0, 1) ∧ decode cX10_readShares 26 = .ok (.getfield 20, 3) ∧ decode cX10_readShares 29 = .ok (.iconst 0, 1) ∧ decode cX10_readShares 30 = .ok (.bipush 99, 2) ∧ decode cX10_readShares 32 = .ok (.invokevirtual 56, 3) := by decide +kernel
theorem dX10_readShares_18 : decode cX10_readShares 18 = .ok (.iload_n 1, 1) := zdc_359.1
theorem dX10_readShares_19 : decode cX10_readShares 19 = .ok (.iconst (-1), 1) := zdc_359.2.1
theorem dX10_readShares_20 : decode cX10_readShares 20 = .ok (.if_icmp .ne 5, 3) := zdc_359.2.2.1
theorem dX10_readShares_23 : decode cX10_readShares 23 = .ok (.iconst 0, 1) := zdc_359.2.2.2.1
theorem dX10_readShares_24 : decode cX10_readShares 24 = .ok (.ireturn, 1) := zdc_359.2.2.2.2.1
theorem dX10_readShares_25 : decode cX10_readShares 25 = .ok (.aload_n 0, 1) := zdc_359.2.2.2.2.2.1
theorem dX10_readShares_26 : decode cX10_readShares 26 = .ok (.getfield 20, 3) := zdc_359.2.2.2.2.2.2.1
theorem dX10_readShares_29 : decode cX10_readShares 29 = .ok (.iconst 0, 1) := zdc_359.2.2.2.2.2.2.2.1
theorem dX10_readShares_30 : decode cX10_readShares 30 = .ok (.bipush 99, 2) := zdc_359.2.2.2.2.2.2.2.2.1
theorem dX10_readShares_32 : decode cX10_readShares 32 = .ok (.invokevirtual 56, 3) := zdc_359.2.2.2.2.2.2.2.2.2
theorem zdc_360 : decode cX10_readShares 35 = .ok (.istore_n 2, 1) ∧ decode cX10_readShares 36 = .ok (.iload_n 2, 1) ∧ decode cX10_readShares 37 = .ok (.iconst (-1), 1) ∧ decode cX10_readShares 38 = .ok (.if_icmp .ne 5, 3) ∧ decode cX10_readShares 41 = .ok (.iconst 0, 1) ∧ decode cX10_readShares 42 = .ok (.ireturn, 1) ∧ decode cX10_readShares 43 = .ok (.aload_n 0, 1) ∧ decode cX10_readShares 44 = .ok (.getfield 14, 3) ∧ decode cX10_readShares 47 = .ok (.getfield 122, 3) ∧ decode cX10_readShares 50 = .ok (.iload_n 1, 1) := by decide +kernel
theorem dX10_readShares_35 : decode cX10_readShares 35 = .ok (.istore_n 2, 1) := zdc_360.1
theorem dX10_readShares_36 : decode cX10_readShares 36 = .ok (.iload_n 2, 1) := zdc_360.2.1
theorem dX10_readShares_37 : decode cX10_readShares 37 = .ok (.iconst (-1), 1) := zdc_360.2.2.1
theorem dX10_readShares_38 : decode cX10_readShares 38 = .ok (.if_icmp .ne 5, 3) := zdc_360.2.2.2.1
theorem dX10_readShares_41 : decode cX10_readShares 41 = .ok (.iconst 0, 1) := zdc_360.2.2.2.2.1
theorem dX10_readShares_42 : decode cX10_readShares 42 = .ok (.ireturn, 1) := zdc_360.2.2.2.2.2.1
theorem dX10_readShares_43 : decode cX10_readShares 43 = .ok (.aload_n 0, 1) := zdc_360.2.2.2.2.2.2.1
theorem dX10_readShares_44 : decode cX10_readShares 44 = .ok (.getfield 14, 3) := zdc_360.2.2.2.2.2.2.2.1
theorem dX10_readShares_47 : decode cX10_readShares 47 = .ok (.getfield 122, 3) := zdc_360.2.2.2.2.2.2.2.2.1
theorem dX10_readShares_50 : decode cX10_readShares 50 = .ok (.iload_n 1, 1) := zdc_360.2.2.2.2.2.2.2.2.2
theorem zdc_361 : decode cX10_readShares 51 = .ok (.iload_n 2, 1) ∧ decode cX10_readShares 52 = .ok (.iastore, 1) ∧ decode cX10_readShares 53 = .ok (.iconst 1, 1) ∧ decode cX10_readShares 54 = .ok (.ireturn, 1) ∧ decode cX11_init 0 = .ok (.aload_n 0, 1) ∧ decode cX11_init 1 = .ok (.invokespecial 1, 3) ∧ decode cX11_init 4 = .ok (.aload_n 0, 1) ∧ decode cX11_init 5 = .ok (.new 7, 3) ∧ decode cX11_init 8 = .ok (.dup, 1) ∧ decode cX11_init 9 = .ok (.invokespecial 9, 3) := by decide +kernel
theorem dX10_readShares_51 : decode cX10_readShares 51 = .ok (.iload_n 2, 1) := zdc_361.1
theorem dX10_readShares_52 : decode cX10_readShares 52 = .ok (.iastore, 1) := zdc_361.2.1
theorem dX10_readShares_53 : decode cX10_readShares 53 = .ok (.iconst 1, 1) := zdc_361.2.2.1
theorem dX10_readShares_54 : decode cX10_readShares 54 = .ok (.ireturn, 1) := zdc_361.2.2.2.1
theorem dX11_init_0 : decode cX11_init 0 = .ok (.aload_n 0, 1) := zdc_361.2.2.2.2.1
theorem dX11_init_1 : decode cX11_init 1 = .ok (.invokespecial 1, 3) := zdc_361.2.2.2.2.2.1
theorem dX11_init_4 : decode cX11_init 4 = .ok (.aload_n 0, 1) := zdc_361.2.2.2.2.2.2.1
theorem dX11_init_5 : decode cX11_init 5 = .ok (.new 7, 3) := zdc_361.2.2.2.2.2.2.2.1
theorem dX11_init_8 : decode cX11_init 8 = .ok (.dup, 1) := zdc_361.2.2.2.2.2.2.2.2.1
theorem dX11_init_9 : decode cX11_init 9 = .ok (.invokespecial 9, 3) := zdc_361.2.2.2.2.2.2.2.2.2
theorem zdc_362 : decode cX11_init 12 = .ok (.putfield 10, 3) ∧ decode cX11_init 15 = .ok (.aload_n 0, 1) ∧ decode cX11_init 16 = .ok (.new 16, 3) ∧ decode cX11_init 19 = .ok (.dup, 1) ∧ decode cX11_init 20 = .ok (.invokespecial 18, 3) ∧ decode cX11_init 23 = .ok (.putfield 19, 3) ∧ decode cX11_init 26 = .ok (.aload_n 0, 1) ∧ decode cX11_init 27 = .ok (.new 23, 3) ∧ decode cX11_init 30 = .ok (.dup, 1) ∧ decode cX11_init 31 = .ok (.invokespecial 25, 3) := by decide +kernel
theorem dX11_init_12 : decode cX11_init 12 = .ok (.putfield 10, 3) := zdc_362.1
theorem dX11_init_15 : decode cX11_init 15 = .ok (.aload_n 0, 1) := zdc_362.2.1
theorem dX11_init_16 : decode cX11_init 16 = .ok (.new 16, 3) := zdc_362.2.2.1
theorem dX11_init_19 : decode cX11_init 19 = .ok (.dup, 1) := zdc_362.2.2.2.1
theorem dX11_init_20 : decode cX11_init 20 = .ok (.invokespecial 18, 3) := zdc_362.2.2.2.2.1
theorem dX11_init_23 : decode cX11_init 23 = .ok (.putfield 19, 3) := zdc_362.2.2.2.2.2.1
theorem dX11_init_26 : decode cX11_init 26 = .ok (.aload_n 0, 1) := zdc_362.2.2.2.2.2.2.1
theorem dX11_init_27 : decode cX11_init 27 = .ok (.new 23, 3) := zdc_362.2.2.2.2.2.2.2.1
theorem dX11_init_30 : decode cX11_init 30 = .ok (.dup, 1) := zdc_362.2.2.2.2.2.2.2.2.1
theorem dX11_init_31 : decode cX11_init 31 = .ok (.invokespecial 25, 3) := zdc_362.2.2.2.2.2.2.2.2.2
theorem zdc_363 : decode cX11_init 34 = .ok (.putfield 26, 3) ∧ decode cX11_init 37 = .ok (.aload_n 0, 1) ∧ decode cX11_init 38 = .ok (.new 30, 3) ∧ decode cX11_init 41 = .ok (.dup, 1) ∧ decode cX11_init 42 = .ok (.invokespecial 32, 3) ∧ decode cX11_init 45 = .ok (.putfield 33, 3) ∧ decode cX11_init 48 = .ok (.aload_n 0, 1) ∧ decode cX11_init 49 = .ok (.new 37, 3) ∧ decode cX11_init 52 = .ok (.dup, 1) ∧ decode cX11_init 53 = .ok (.aload_n 0, 1) := by decide +kernel
theorem dX11_init_34 : decode cX11_init 34 = .ok (.putfield 26, 3) := zdc_363.1
theorem dX11_init_37 : decode cX11_init 37 = .ok (.aload_n 0, 1) := zdc_363.2.1
theorem dX11_init_38 : decode cX11_init 38 = .ok (.new 30, 3) := zdc_363.2.2.1
theorem dX11_init_41 : decode cX11_init 41 = .ok (.dup, 1) := zdc_363.2.2.2.1
theorem dX11_init_42 : decode cX11_init 42 = .ok (.invokespecial 32, 3) := zdc_363.2.2.2.2.1
theorem dX11_init_45 : decode cX11_init 45 = .ok (.putfield 33, 3) := zdc_363.2.2.2.2.2.1
theorem dX11_init_48 : decode cX11_init 48 = .ok (.aload_n 0, 1) := zdc_363.2.2.2.2.2.2.1
theorem dX11_init_49 : decode cX11_init 49 = .ok (.new 37, 3) := zdc_363.2.2.2.2.2.2.2.1
theorem dX11_init_52 : decode cX11_init 52 = .ok (.dup, 1) := zdc_363.2.2.2.2.2.2.2.2.1
theorem dX11_init_53 : decode cX11_init 53 = .ok (.aload_n 0, 1) := zdc_363.2.2.2.2.2.2.2.2.2
theorem zdc_364 : decode cX11_init 54 = .ok (.getfield 10, 3) ∧ decode cX11_init 57 = .ok (.invokespecial 39, 3) ∧ decode cX11_init 60 = .ok (.putfield 42, 3) ∧ decode cX11_init 63 = .ok (.aload_n 0, 1) ∧ decode cX11_init 64 = .ok (.new 46, 3) ∧ decode cX11_init 67 = .ok (.dup, 1) ∧ decode cX11_init 68 = .ok (.aload_n 0, 1) ∧ decode cX11_init 69 = .ok (.getfield 10, 3) ∧ decode cX11_init 72 = .ok (.invokespecial 48, 3) ∧ decode cX11_init 75 = .ok (.putfield 49, 3) := by decide +kernel
theorem dX11_init_54 : decode cX11_init 54 = .ok (.getfield 10, 3) := zdc_364.1
theorem dX11_init_57 : decode cX11_init 57 = .ok (.invokespecial 39, 3) := zdc_364.2.1
theorem dX11_init_60 : decode cX11_init 60 = .ok (.putfield 42, 3) := zdc_364.2.2.1
theorem dX11_init_63 : decode cX11_init 63 = .ok (.aload_n 0, 1) := zdc_364.2.2.2.1
theorem dX11_init_64 : decode cX11_init 64 = .ok (.new 46, 3) := zdc_364.2.2.2.2.1
theorem dX11_init_67 : decode cX11_init 67 = .ok (.dup, 1) := zdc_364.2.2.2.2.2.1
theorem dX11_init_68 : decode cX11_init 68 = .ok (.aload_n 0, 1) := zdc_364.2.2.2.2.2.2.1
theorem dX11_init_69 : decode cX11_init 69 = .ok (.getfield 10, 3) := zdc_364.2.2.2.2.2.2.2.1
theorem dX11_init_72 : decode cX11_init 72 = .ok (.invokespecial 48, 3) := zdc_364.2.2.2.2.2.2.2.2.1
theorem dX11_init_75 : decode cX11_init 75 = .ok (.putfield 49, 3) := zdc_364.2.2.2.2.2.2.2.2.2
theorem zdc_365 : decode cX11_init 78 = .ok (.aload_n 0, 1) ∧ decode cX11_init 79 = .ok (.new 53, 3) ∧ decode cX11_init 82 = .ok (.dup, 1) ∧ decode cX11_init 83 = .ok (.invokespecial 55, 3) ∧ decode cX11_init 86 = .ok (.putfield 56, 3) ∧ decode cX11_init 89 = .ok (.aload_n 0, 1) ∧ decode cX11_init 90 = .ok (.new 60, 3) ∧ decode cX11_init 93 = .ok (.dup, 1) ∧ decode cX11_init 94 = .ok (.aload_n 0, 1) ∧ decode cX11_init 95 = .ok (.getfield 19, 3) := by decide +kernel
theorem dX11_init_78 : decode cX11_init 78 = .ok (.aload_n 0, 1) := zdc_365.1
theorem dX11_init_79 : decode cX11_init 79 = .ok (.new 53, 3) := zdc_365.2.1
theorem dX11_init_82 : decode cX11_init 82 = .ok (.dup, 1) := zdc_365.2.2.1
theorem dX11_init_83 : decode cX11_init 83 = .ok (.invokespecial 55, 3) := zdc_365.2.2.2.1
theorem dX11_init_86 : decode cX11_init 86 = .ok (.putfield 56, 3) := zdc_365.2.2.2.2.1
theorem dX11_init_89 : decode cX11_init 89 = .ok (.aload_n 0, 1) := zdc_365.2.2.2.2.2.1
theorem dX11_init_90 : decode cX11_init 90 = .ok (.new 60, 3) := zdc_365.2.2.2.2.2.2.1
theorem dX11_init_93 : decode cX11_init 93 = .ok (.dup, 1) := zdc_365.2.2.2.2.2.2.2.1
theorem dX11_init_94 : decode cX11_init 94 = .ok (.aload_n 0, 1) := zdc_365.2.2.2.2.2.2.2.2.1
theorem dX11_init_95 : decode cX11_init 95 = .ok (.getfield 19, 3) := zdc_365.2.2.2.2.2.2.2.2.2
theorem zdc_366 : decode cX11_init 98 = .ok (.aload_n 0, 1) ∧ decode cX11_init 99 = .ok (.getfield 26, 3) ∧ decode cX11_init 102 = .ok (.invokespecial 62, 3) ∧ decode cX11_init 105 = .ok (.putfield 65, 3) ∧ decode cX11_init 108 = .ok (.aload_n 0, 1) ∧ decode cX11_init 109 = .ok (.new 69, 3) ∧ decode cX11_init 112 = .ok (.dup, 1) ∧ decode cX11_init 113 = .ok (.invokespecial 71, 3) ∧ decode cX11_init 116 = .ok (.putfield 72, 3) ∧ decode cX11_init 119 = .ok (.aload_n 0, 1) := by decide +kernel
theorem dX11_init_98 : decode cX11_init 98 = .ok (.aload_n 0, 1) := zdc_366.1
theorem dX11_init_99 : decode cX11_init 99 = .ok (.getfield 26, 3) := zdc_366.2.1
theorem dX11_init_102 : decode cX11_init 102 = .ok (.invokespecial 62, 3) := zdc_366.2.2.1
theorem dX11_init_105 : decode cX11_init 105 = .ok (.putfield 65, 3) := zdc_366.2.2.2.1
theorem dX11_init_108 : decode cX11_init 108 = .ok (.aload_n 0, 1) := zdc_366.2.2.2.2.1
theorem dX11_init_109 : decode cX11_init 109 = .ok (.new 69, 3) := zdc_366.2.2.2.2.2.1
theorem dX11_init_112 : decode cX11_init 112 = .ok (.dup, 1) := zdc_366.2.2.2.2.2.2.1
theorem dX11_init_113 : decode cX11_init 113 = .ok (.invokespecial 71, 3) := zdc_366.2.2.2.2.2.2.2.1
theorem dX11_init_116 : decode cX11_init 116 = .ok (.putfield 72, 3) := zdc_366.2.2.2.2.2.2.2.2.1
theorem dX11_init_119 : decode cX11_init 119 = .ok (.aload_n 0, 1) := zdc_366.2.2.2.2.2.2.2.2.2
theorem zdc_367 : decode cX11_init 120 = .ok (.iconst (-1), 1) ∧ decode cX11_init 121 = .ok (.putfield 76, 3) ∧ decode cX11_init 124 = .ok (.return_, 1) ∧ decode cX11_feed 0 = .ok (.aload_n 0, 1) ∧ decode cX11_feed 1 = .ok (.getfield 10, 3) ∧ decode cX11_feed 4 = .ok (.getfield 80, 3) ∧ decode cX11_feed 7 = .ok (.sipush 380, 3) ∧ decode cX11_feed 10 = .ok (.if_icmp .le 5, 3) ∧ decode cX11_feed 13 = .ok (.iconst (-1), 1) ∧ decode cX11_feed 14 = .ok (.ireturn, 1) := by decide +kernel
theorem dX11_init_120 : decode cX11_init 120 = .ok (.iconst (-1), 1) := zdc_367.1
theorem dX11_init_121 : decode cX11_init 121 = .ok (.putfield 76, 3) := zdc_367.2.1
theorem dX11_init_124 : decode cX11_init 124 = .ok (.return_, 1) := zdc_367.2.2.1
theorem dX11_feed_0 : decode cX11_feed 0 = .ok (.aload_n 0, 1) := zdc_367.2.2.2.1
theorem dX11_feed_1 : decode cX11_feed 1 = .ok (.getfield 10, 3) := zdc_367.2.2.2.2.1
theorem dX11_feed_4 : decode cX11_feed 4 = .ok (.getfield 80, 3) := zdc_367.2.2.2.2.2.1
theorem dX11_feed_7 : decode cX11_feed 7 = .ok (.sipush 380, 3) := zdc_367.2.2.2.2.2.2.1
theorem dX11_feed_10 : decode cX11_feed 10 = .ok (.if_icmp .le 5, 3) := zdc_367.2.2.2.2.2.2.2.1
theorem dX11_feed_13 : decode cX11_feed 13 = .ok (.iconst (-1), 1) := zdc_367.2.2.2.2.2.2.2.2.1
theorem dX11_feed_14 : decode cX11_feed 14 = .ok (.ireturn, 1) := zdc_367.2.2.2.2.2.2.2.2.2
theorem zdc_368 : decode cX11_feed 15 = .ok (.aload_n 0, 1) ∧ decode cX11_feed 16 = .ok (.getfield 10, 3) ∧ decode cX11_feed 19 = .ok (.iload_n 1, 1) ∧ decode cX11_feed 20 = .ok (.invokevirtual 83, 3) ∧ decode cX11_feed 23 = .ok (.aload_n 0, 1) ∧ decode cX11_feed 24 = .ok (.getfield 10, 3) ∧ decode cX11_feed 27 = .ok (.iload_n 2, 1) ∧ decode cX11_feed 28 = .ok (.invokevirtual 83, 3) ∧ decode cX11_feed 31 = .ok (.aload_n 0, 1) ∧ decode cX11_feed 32 = .ok (.getfield 10, 3) := by decide +kernel
theorem dX11_feed_15 : decode cX11_feed 15 = .ok (.aload_n 0, 1) := zdc_368.1
theorem dX11_feed_16 : decode cX11_feed 16 = .ok (.getfield 10, 3) := zdc_368.2.1
theorem dX11_feed_19 : decode cX11_feed 19 = .ok (.iload_n 1, 1) := zdc_368.2.2.1
theorem dX11_feed_20 : decode cX11_feed 20 = .ok (.invokevirtual 83, 3) := zdc_368.2.2.2.1
theorem dX11_feed_23 : decode cX11_feed 23 = .ok (.aload_n 0, 1) := zdc_368.2.2.2.2.1
theorem dX11_feed_24 : decode cX11_feed 24 = .ok (.getfield 10, 3) := zdc_368.2.2.2.2.2.1
theorem dX11_feed_27 : decode cX11_feed 27 = .ok (.iload_n 2, 1) := zdc_368.2.2.2.2.2.2.1
theorem dX11_feed_28 : decode cX11_feed 28 = .ok (.invokevirtual 83, 3) := zdc_368.2.2.2.2.2.2.2.1
theorem dX11_feed_31 : decode cX11_feed 31 = .ok (.aload_n 0, 1) := zdc_368.2.2.2.2.2.2.2.2.1
theorem dX11_feed_32 : decode cX11_feed 32 = .ok (.getfield 10, 3) := zdc_368.2.2.2.2.2.2.2.2.2
theorem zdc_369 : decode cX11_feed 35 = .ok (.iload_n 3, 1) ∧ decode cX11_feed 36 = .ok (.invokevirtual 83, 3) ∧ decode cX11_feed 39 = .ok (.aload_n 0, 1) ∧ decode cX11_feed 40 = .ok (.getfield 10, 3) ∧ decode cX11_feed 43 = .ok (.iload 4, 2) ∧ decode cX11_feed 45 = .ok (.invokevirtual 83, 3) ∧ decode cX11_feed 48 = .ok (.aload_n 0, 1) ∧ decode cX11_feed 49 = .ok (.getfield 10, 3) ∧ decode cX11_feed 52 = .ok (.iload 5, 2) ∧ decode cX11_feed 54 = .ok (.invokevirtual 83, 3) := by decide +kernel
theorem dX11_feed_35 : decode cX11_feed 35 = .ok (.iload_n 3, 1) := zdc_369.1
theorem dX11_feed_36 : decode cX11_feed 36 = .ok (.invokevirtual 83, 3) := zdc_369.2.1
theorem dX11_feed_39 : decode cX11_feed 39 = .ok (.aload_n 0, 1) := zdc_369.2.2.1
theorem dX11_feed_40 : decode cX11_feed 40 = .ok (.getfield 10, 3) := zdc_369.2.2.2.1
theorem dX11_feed_43 : decode cX11_feed 43 = .ok (.iload 4, 2) := zdc_369.2.2.2.2.1
theorem dX11_feed_45 : decode cX11_feed 45 = .ok (.invokevirtual 83, 3) := zdc_369.2.2.2.2.2.1
theorem dX11_feed_48 : decode cX11_feed 48 = .ok (.aload_n 0, 1) := zdc_369.2.2.2.2.2.2.1
theorem dX11_feed_49 : decode cX11_feed 49 = .ok (.getfield 10, 3) := zdc_369.2.2.2.2.2.2.2.1
theorem dX11_feed_52 : decode cX11_feed 52 = .ok (.iload 5, 2) := zdc_369.2.2.2.2.2.2.2.2.1
theorem dX11_feed_54 : decode cX11_feed 54 = .ok (.invokevirtual 83, 3) := zdc_369.2.2.2.2.2.2.2.2.2
theorem zdc_370 : decode cX11_feed 57 = .ok (.aload_n 0, 1) ∧ decode cX11_feed 58 = .ok (.getfield 10, 3) ∧ decode cX11_feed 61 = .ok (.getfield 80, 3) ∧ decode cX11_feed 64 = .ok (.ireturn, 1) ∧ decode cX11_end 0 = .ok (.iload_n 1, 1) ∧ decode cX11_end 1 = .ok (.ifCond .lt 14, 3) ∧ decode cX11_end 4 = .ok (.iload_n 1, 1) ∧ decode cX11_end 5 = .ok (.aload_n 0, 1) ∧ decode cX11_end 6 = .ok (.getfield 10, 3) ∧ decode cX11_end 9 = .ok (.getfield 80, 3) := by decide +kernel
theorem dX11_feed_57 : decode cX11_feed 57 = .ok (.aload_n 0, 1) := zdc_370.1
theorem dX11_feed_58 : decode cX11_feed 58 = .ok (.getfield 10, 3) := zdc_370.2.1
theorem dX11_feed_61 : decode cX11_feed 61 = .ok (.getfield 80, 3) := zdc_370.2.2.1
theorem dX11_feed_64 : decode cX11_feed 64 = .ok (.ireturn, 1) := zdc_370.2.2.2.1
theorem dX11_end_0 : decode cX11_end 0 = .ok (.iload_n 1, 1) := zdc_370.2.2.2.2.1
theorem dX11_end_1 : decode cX11_end 1 = .ok (.ifCond .lt 14, 3) := zdc_370.2.2.2.2.2.1
theorem dX11_end_4 : decode cX11_end 4 = .ok (.iload_n 1, 1) := zdc_370.2.2.2.2.2.2.1
theorem dX11_end_5 : decode cX11_end 5 = .ok (.aload_n 0, 1) := zdc_370.2.2.2.2.2.2.2.1
theorem dX11_end_6 : decode cX11_end 6 = .ok (.getfield 10, 3) := zdc_370.2.2.2.2.2.2.2.2.1
theorem dX11_end_9 : decode cX11_end 9 = .ok (.getfield 80, 3) := zdc_370.2.2.2.2.2.2.2.2.2
theorem zdc_371 : decode cX11_end 12 = .ok (.if_icmp .le 5, 3) ∧ decode cX11_end 15 = .ok (.iconst 0, 1) ∧ decode cX11_end 16 = .ok (.ireturn, 1) ∧ decode cX11_end 17 = .ok (.aload_n 0, 1) ∧ decode cX11_end 18 = .ok (.getfield 10, 3) ∧ decode cX11_end 21 = .ok (.iload_n 1, 1) ∧ decode cX11_end 22 = .ok (.putfield 80, 3) ∧ decode cX11_end 25 = .ok (.iconst 1, 1) ∧ decode cX11_end 26 = .ok (.ireturn, 1) ∧ decode cX11_town 0 = .ok (.aload_n 0, 1) := by decide +kernel
theorem dX11_end_12 : decode cX11_end 12 = .ok (.if_icmp .le 5, 3) := zdc_371.1
theorem dX11_end_15 : decode cX11_end 15 = .ok (.iconst 0, 1) := zdc_371.2.1
theorem dX11_end_16 : decode cX11_end 16 = .ok (.ireturn, 1) := zdc_371.2.2.1
theorem dX11_end_17 : decode cX11_end 17 = .ok (.aload_n 0, 1) := zdc_371.2.2.2.1
theorem dX11_end_18 : decode cX11_end 18 = .ok (.getfield 10, 3) := zdc_371.2.2.2.2.1
theorem dX11_end_21 : decode cX11_end 21 = .ok (.iload_n 1, 1) := zdc_371.2.2.2.2.2.1
theorem dX11_end_22 : decode cX11_end 22 = .ok (.putfield 80, 3) := zdc_371.2.2.2.2.2.2.1
theorem dX11_end_25 : decode cX11_end 25 = .ok (.iconst 1, 1) := zdc_371.2.2.2.2.2.2.2.1
theorem dX11_end_26 : decode cX11_end 26 = .ok (.ireturn, 1) := zdc_371.2.2.2.2.2.2.2.2.1
theorem dX11_town_0 : decode cX11_town 0 = .ok (.aload_n 0, 1) := zdc_371.2.2.2.2.2.2.2.2.2
theorem zdc_372 : decode cX11_town 1 = .ok (.getfield 10, 3) ∧ decode cX11_town 4 = .ok (.aload_n 0, 1) ∧ decode cX11_town 5 = .ok (.getfield 10, 3) ∧ decode cX11_town 8 = .ok (.invokevirtual 87, 3) ∧ decode cX11_town 11 = .ok (.invokevirtual 91, 3) ∧ decode cX11_town 14 = .ok (.aload_n 0, 1) ∧ decode cX11_town 15 = .ok (.getfield 42, 3) ∧ decode cX11_town 18 = .ok (.getfield 94, 3) ∧ decode cX11_town 21 = .ok (.aload_n 0, 1) ∧ decode cX11_town 22 = .ok (.getfield 19, 3) := by decide +kernel
theorem dX11_town_1 : decode cX11_town 1 = .ok (.getfield 10, 3) := zdc_372.1
theorem dX11_town_4 : decode cX11_town 4 = .ok (.aload_n 0, 1) := zdc_372.2.1
theorem dX11_town_5 : decode cX11_town 5 = .ok (.getfield 10, 3) := zdc_372.2.2.1
theorem dX11_town_8 : decode cX11_town 8 = .ok (.invokevirtual 87, 3) := zdc_372.2.2.2.1
theorem dX11_town_11 : decode cX11_town 11 = .ok (.invokevirtual 91, 3) := zdc_372.2.2.2.2.1
theorem dX11_town_14 : decode cX11_town 14 = .ok (.aload_n 0, 1) := zdc_372.2.2.2.2.2.1
theorem dX11_town_15 : decode cX11_town 15 = .ok (.getfield 42, 3) := zdc_372.2.2.2.2.2.2.1
theorem dX11_town_18 : decode cX11_town 18 = .ok (.getfield 94, 3) := zdc_372.2.2.2.2.2.2.2.1
theorem dX11_town_21 : decode cX11_town 21 = .ok (.aload_n 0, 1) := zdc_372.2.2.2.2.2.2.2.2.1
theorem dX11_town_22 : decode cX11_town 22 = .ok (.getfield 19, 3) := zdc_372.2.2.2.2.2.2.2.2.2
theorem zdc_373 : decode cX11_town 25 = .ok (.invokevirtual 97, 3) ∧ decode cX11_town 28 = .ok (.aload_n 0, 1) ∧ decode cX11_town 29 = .ok (.getfield 42, 3) ∧ decode cX11_town 32 = .ok (.bipush 14, 2) ∧ decode cX11_town 34 = .ok (.invokevirtual 101, 3) ∧ decode cX11_town 37 = .ok (.istore_n 1, 1) ∧ decode cX11_town 38 = .ok (.aload_n 0, 1) ∧ decode cX11_town 39 = .ok (.aload_n 0, 1) ∧ decode cX11_town 40 = .ok (.getfield 10, 3) ∧ decode cX11_town 43 = .ok (.getfield 105, 3) := by decide +kernel
theorem dX11_town_25 : decode cX11_town 25 = .ok (.invokevirtual 97, 3) := zdc_373.1
theorem dX11_town_28 : decode cX11_town 28 = .ok (.aload_n 0, 1) := zdc_373.2.1
theorem dX11_town_29 : decode cX11_town 29 = .ok (.getfield 42, 3) := zdc_373.2.2.1
theorem dX11_town_32 : decode cX11_town 32 = .ok (.bipush 14, 2) := zdc_373.2.2.2.1
theorem dX11_town_34 : decode cX11_town 34 = .ok (.invokevirtual 101, 3) := zdc_373.2.2.2.2.1
theorem dX11_town_37 : decode cX11_town 37 = .ok (.istore_n 1, 1) := zdc_373.2.2.2.2.2.1
theorem dX11_town_38 : decode cX11_town 38 = .ok (.aload_n 0, 1) := zdc_373.2.2.2.2.2.2.1
theorem dX11_town_39 : decode cX11_town 39 = .ok (.aload_n 0, 1) := zdc_373.2.2.2.2.2.2.2.1
theorem dX11_town_40 : decode cX11_town 40 = .ok (.getfield 10, 3) := zdc_373.2.2.2.2.2.2.2.2.1
theorem dX11_town_43 : decode cX11_town 43 = .ok (.getfield 105, 3) := zdc_373.2.2.2.2.2.2.2.2.2
theorem zdc_374 : decode cX11_town 46 = .ok (.putfield 76, 3) ∧ decode cX11_town 49 = .ok (.iload_n 1, 1) ∧ decode cX11_town 50 = .ok (.iconst (-1), 1) ∧ decode cX11_town 51 = .ok (.if_icmp .ne 13, 3) ∧ decode cX11_town 54 = .ok (.new 106, 3) ∧ decode cX11_town 57 = .ok (.dup, 1) ∧ decode cX11_town 58 = .ok (.ldc 108, 2) ∧ decode cX11_town 60 = .ok (.invokespecial 110, 3) ∧ decode cX11_town 63 = .ok (.athrow, 1) ∧ decode cX11_town 64 = .ok (.aload_n 0, 1) := by decide +kernel
theorem dX11_town_46 : decode cX11_town 46 = .ok (.putfield 76, 3) := zdc_374.1
theorem dX11_town_49 : decode cX11_town 49 = .ok (.iload_n 1, 1) := zdc_374.2.1
theorem dX11_town_50 : decode cX11_town 50 = .ok (.iconst (-1), 1) := zdc_374.2.2.1
theorem dX11_town_51 : decode cX11_town 51 = .ok (.if_icmp .ne 13, 3) := zdc_374.2.2.2.1
theorem dX11_town_54 : decode cX11_town 54 = .ok (.new 106, 3) := zdc_374.2.2.2.2.1
theorem dX11_town_57 : decode cX11_town 57 = .ok (.dup, 1) := zdc_374.2.2.2.2.2.1
theorem dX11_town_58 : decode cX11_town 58 = .ok (.ldc 108, 2) := zdc_374.2.2.2.2.2.2.1
theorem dX11_town_60 : decode cX11_town 60 = .ok (.invokespecial 110, 3) := zdc_374.2.2.2.2.2.2.2.1
theorem dX11_town_63 : decode cX11_town 63 = .ok (.athrow, 1) := zdc_374.2.2.2.2.2.2.2.2.1
theorem dX11_town_64 : decode cX11_town 64 = .ok (.aload_n 0, 1) := zdc_374.2.2.2.2.2.2.2.2.2
theorem zdc_375 : decode cX11_town 65 = .ok (.getfield 19, 3) ∧ decode cX11_town 68 = .ok (.getfield 113, 3) ∧ decode cX11_town 71 = .ok (.bipush 12, 2) ∧ decode cX11_town 73 = .ok (.if_icmp .lt 13, 3) ∧ decode cX11_town 76 = .ok (.new 116, 3) ∧ decode cX11_town 79 = .ok (.dup, 1) ∧ decode cX11_town 80 = .ok (.ldc 118, 2) ∧ decode cX11_town 82 = .ok (.invokespecial 120, 3) ∧ decode cX11_town 85 = .ok (.athrow, 1) ∧ decode cX11_town 86 = .ok (.aload_n 0, 1) := by decide +kernel
theorem dX11_town_65 : decode cX11_town 65 = .ok (.getfield 19, 3) := zdc_375.1
theorem dX11_town_68 : decode cX11_town 68 = .ok (.getfield 113, 3) := zdc_375.2.1
theorem dX11_town_71 : decode cX11_town 71 = .ok (.bipush 12, 2) := zdc_375.2.2.1
theorem dX11_town_73 : decode cX11_town 73 = .ok (.if_icmp .lt 13, 3) := zdc_375.2.2.2.1
theorem dX11_town_76 : decode cX11_town 76 = .ok (.new 116, 3) := zdc_375.2.2.2.2.1
theorem dX11_town_79 : decode cX11_town 79 = .ok (.dup, 1) := zdc_375.2.2.2.2.2.1
theorem dX11_town_80 : decode cX11_town 80 = .ok (.ldc 118, 2) := zdc_375.2.2.2.2.2.2.1
theorem dX11_town_82 : decode cX11_town 82 = .ok (.invokespecial 120, 3) := zdc_375.2.2.2.2.2.2.2.1
theorem dX11_town_85 : decode cX11_town 85 = .ok (.athrow, 1) := zdc_375.2.2.2.2.2.2.2.2.1
theorem dX11_town_86 : decode cX11_town 86 = .ok (.aload_n 0, 1) := zdc_375.2.2.2.2.2.2.2.2.2
theorem zdc_376 : decode cX11_town 87 = .ok (.getfield 19, 3) ∧ decode cX11_town 90 = .ok (.aload_n 0, 1) ∧ decode cX11_town 91 = .ok (.getfield 42, 3) ∧ decode cX11_town 94 = .ok (.getfield 94, 3) ∧ decode cX11_town 97 = .ok (.invokevirtual 97, 3) ∧ decode cX11_town 100 = .ok (.aload_n 0, 1) ∧ decode cX11_town 101 = .ok (.getfield 19, 3) ∧ decode cX11_town 104 = .ok (.dup, 1) ∧ decode cX11_town 105 = .ok (.getfield 113, 3) ∧ decode cX11_town 108 = .ok (.iconst 1, 1) := by decide +kernel
theorem dX11_town_87 : decode cX11_town 87 = .ok (.getfield 19, 3) := zdc_376.1
theorem dX11_town_90 : decode cX11_town 90 = .ok (.aload_n 0, 1) := zdc_376.2.1
theorem dX11_town_91 : decode cX11_town 91 = .ok (.getfield 42, 3) := zdc_376.2.2.1
theorem dX11_town_94 : decode cX11_town 94 = .ok (.getfield 94, 3) := zdc_376.2.2.2.1
theorem dX11_town_97 : decode cX11_town 97 = .ok (.invokevirtual 97, 3) := zdc_376.2.2.2.2.1
theorem dX11_town_100 : decode cX11_town 100 = .ok (.aload_n 0, 1) := zdc_376.2.2.2.2.2.1
theorem dX11_town_101 : decode cX11_town 101 = .ok (.getfield 19, 3) := zdc_376.2.2.2.2.2.2.1
theorem dX11_town_104 : decode cX11_town 104 = .ok (.dup, 1) := zdc_376.2.2.2.2.2.2.2.1
theorem dX11_town_105 : decode cX11_town 105 = .ok (.getfield 113, 3) := zdc_376.2.2.2.2.2.2.2.2.1
theorem dX11_town_108 : decode cX11_town 108 = .ok (.iconst 1, 1) := zdc_376.2.2.2.2.2.2.2.2.2
theorem zdc_377 : decode cX11_town 109 = .ok (.iadd, 1) ∧ decode cX11_town 110 = .ok (.putfield 113, 3) ∧ decode cX11_town 113 = .ok (.aload_n 0, 1) ∧ decode cX11_town 114 = .ok (.getfield 56, 3) ∧ decode cX11_town 117 = .ok (.invokevirtual 121, 3) ∧ decode cX11_town 120 = .ok (.aload_n 0, 1) ∧ decode cX11_town 121 = .ok (.getfield 19, 3) ∧ decode cX11_town 124 = .ok (.getfield 113, 3) ∧ decode cX11_town 127 = .ok (.ireturn, 1) ∧ decode cX11_law 0 = .ok (.aload_n 0, 1) := by decide +kernel
theorem dX11_town_109 : decode cX11_town 109 = .ok (.iadd, 1) := zdc_377.1
theorem dX11_town_110 : decode cX11_town 110 = .ok (.putfield 113, 3) := zdc_377.2.1
theorem dX11_town_113 : decode cX11_town 113 = .ok (.aload_n 0, 1) := zdc_377.2.2.1
theorem dX11_town_114 : decode cX11_town 114 = .ok (.getfield 56, 3) := zdc_377.2.2.2.1
theorem dX11_town_117 : decode cX11_town 117 = .ok (.invokevirtual 121, 3) := zdc_377.2.2.2.2.1
theorem dX11_town_120 : decode cX11_town 120 = .ok (.aload_n 0, 1) := zdc_377.2.2.2.2.2.1
theorem dX11_town_121 : decode cX11_town 121 = .ok (.getfield 19, 3) := zdc_377.2.2.2.2.2.2.1
theorem dX11_town_124 : decode cX11_town 124 = .ok (.getfield 113, 3) := zdc_377.2.2.2.2.2.2.2.1
theorem dX11_town_127 : decode cX11_town 127 = .ok (.ireturn, 1) := zdc_377.2.2.2.2.2.2.2.2.1
theorem dX11_law_0 : decode cX11_law 0 = .ok (.aload_n 0, 1) := zdc_377.2.2.2.2.2.2.2.2.2
theorem zdc_378 : decode cX11_law 1 = .ok (.getfield 10, 3) ∧ decode cX11_law 4 = .ok (.aload_n 0, 1) ∧ decode cX11_law 5 = .ok (.getfield 10, 3) ∧ decode cX11_law 8 = .ok (.invokevirtual 87, 3) ∧ decode cX11_law 11 = .ok (.invokevirtual 91, 3) ∧ decode cX11_law 14 = .ok (.aload_n 0, 1) ∧ decode cX11_law 15 = .ok (.getfield 49, 3) ∧ decode cX11_law 18 = .ok (.getfield 124, 3) ∧ decode cX11_law 21 = .ok (.invokevirtual 126, 3) ∧ decode cX11_law 24 = .ok (.aload_n 0, 1) := by decide +kernel
theorem dX11_law_1 : decode cX11_law 1 = .ok (.getfield 10, 3) := zdc_378.1
theorem dX11_law_4 : decode cX11_law 4 = .ok (.aload_n 0, 1) := zdc_378.2.1
theorem dX11_law_5 : decode cX11_law 5 = .ok (.getfield 10, 3) := zdc_378.2.2.1
theorem dX11_law_8 : decode cX11_law 8 = .ok (.invokevirtual 87, 3) := zdc_378.2.2.2.1
theorem dX11_law_11 : decode cX11_law 11 = .ok (.invokevirtual 91, 3) := zdc_378.2.2.2.2.1
theorem dX11_law_14 : decode cX11_law 14 = .ok (.aload_n 0, 1) := zdc_378.2.2.2.2.2.1
theorem dX11_law_15 : decode cX11_law 15 = .ok (.getfield 49, 3) := zdc_378.2.2.2.2.2.2.1
theorem dX11_law_18 : decode cX11_law 18 = .ok (.getfield 124, 3) := zdc_378.2.2.2.2.2.2.2.1
theorem dX11_law_21 : decode cX11_law 21 = .ok (.invokevirtual 126, 3) := zdc_378.2.2.2.2.2.2.2.2.1
theorem dX11_law_24 : decode cX11_law 24 = .ok (.aload_n 0, 1) := zdc_378.2.2.2.2.2.2.2.2.2
theorem zdc_379 : decode cX11_law 25 = .ok (.getfield 49, 3) ∧ decode cX11_law 28 = .ok (.bipush 12, 2) ∧ decode cX11_law 30 = .ok (.invokevirtual 129, 3) ∧ decode cX11_law 33 = .ok (.istore_n 1, 1) ∧ decode cX11_law 34 = .ok (.aload_n 0, 1) ∧ decode cX11_law 35 = .ok (.aload_n 0, 1) ∧ decode cX11_law 36 = .ok (.getfield 10, 3) ∧ decode cX11_law 39 = .ok (.getfield 105, 3) ∧ decode cX11_law 42 = .ok (.putfield 76, 3) ∧ decode cX11_law 45 = .ok (.iload_n 1, 1) := by decide +kernel
theorem dX11_law_25 : decode cX11_law 25 = .ok (.getfield 49, 3) := zdc_379.1
theorem dX11_law_28 : decode cX11_law 28 = .ok (.bipush 12, 2) := zdc_379.2.1
theorem dX11_law_30 : decode cX11_law 30 = .ok (.invokevirtual 129, 3) := zdc_379.2.2.1
theorem dX11_law_33 : decode cX11_law 33 = .ok (.istore_n 1, 1) := zdc_379.2.2.2.1
theorem dX11_law_34 : decode cX11_law 34 = .ok (.aload_n 0, 1) := zdc_379.2.2.2.2.1
theorem dX11_law_35 : decode cX11_law 35 = .ok (.aload_n 0, 1) := zdc_379.2.2.2.2.2.1
theorem dX11_law_36 : decode cX11_law 36 = .ok (.getfield 10, 3) := zdc_379.2.2.2.2.2.2.1
theorem dX11_law_39 : decode cX11_law 39 = .ok (.getfield 105, 3) := zdc_379.2.2.2.2.2.2.2.1
theorem dX11_law_42 : decode cX11_law 42 = .ok (.putfield 76, 3) := zdc_379.2.2.2.2.2.2.2.2.1
theorem dX11_law_45 : decode cX11_law 45 = .ok (.iload_n 1, 1) := zdc_379.2.2.2.2.2.2.2.2.2
theorem zdc_380 : decode cX11_law 46 = .ok (.iconst (-1), 1) ∧ decode cX11_law 47 = .ok (.if_icmp .ne 13, 3) ∧ decode cX11_law 50 = .ok (.new 106, 3) ∧ decode cX11_law 53 = .ok (.dup, 1) ∧ decode cX11_law 54 = .ok (.ldc 130, 2) ∧ decode cX11_law 56 = .ok (.invokespecial 110, 3) ∧ decode cX11_law 59 = .ok (.athrow, 1) ∧ decode cX11_law 60 = .ok (.aload_n 0, 1) ∧ decode cX11_law 61 = .ok (.getfield 49, 3) ∧ decode cX11_law 64 = .ok (.getfield 124, 3) := by decide +kernel
theorem dX11_law_46 : decode cX11_law 46 = .ok (.iconst (-1), 1) := zdc_380.1
theorem dX11_law_47 : decode cX11_law 47 = .ok (.if_icmp .ne 13, 3) := zdc_380.2.1
theorem dX11_law_50 : decode cX11_law 50 = .ok (.new 106, 3) := zdc_380.2.2.1
theorem dX11_law_53 : decode cX11_law 53 = .ok (.dup, 1) := zdc_380.2.2.2.1
theorem dX11_law_54 : decode cX11_law 54 = .ok (.ldc 130, 2) := zdc_380.2.2.2.2.1
theorem dX11_law_56 : decode cX11_law 56 = .ok (.invokespecial 110, 3) := zdc_380.2.2.2.2.2.1
theorem dX11_law_59 : decode cX11_law 59 = .ok (.athrow, 1) := zdc_380.2.2.2.2.2.2.1
theorem dX11_law_60 : decode cX11_law 60 = .ok (.aload_n 0, 1) := zdc_380.2.2.2.2.2.2.2.1
theorem dX11_law_61 : decode cX11_law 61 = .ok (.getfield 49, 3) := zdc_380.2.2.2.2.2.2.2.2.1
theorem dX11_law_64 : decode cX11_law 64 = .ok (.getfield 124, 3) := zdc_380.2.2.2.2.2.2.2.2.2
theorem zdc_381 : decode cX11_law 67 = .ok (.iload_n 1, 1) ∧ decode cX11_law 68 = .ok (.putfield 132, 3) ∧ decode cX11_law 71 = .ok (.aload_n 0, 1) ∧ decode cX11_law 72 = .ok (.getfield 26, 3) ∧ decode cX11_law 75 = .ok (.aload_n 0, 1) ∧ decode cX11_law 76 = .ok (.getfield 49, 3) ∧ decode cX11_law 79 = .ok (.getfield 124, 3) ∧ decode cX11_law 82 = .ok (.invokevirtual 135, 3) ∧ decode cX11_law 85 = .ok (.aload_n 0, 1) ∧ decode cX11_law 86 = .ok (.getfield 56, 3) := by decide +kernel
theorem dX11_law_67 : decode cX11_law 67 = .ok (.iload_n 1, 1) := zdc_381.1
theorem dX11_law_68 : decode cX11_law 68 = .ok (.putfield 132, 3) := zdc_381.2.1
theorem dX11_law_71 : decode cX11_law 71 = .ok (.aload_n 0, 1) := zdc_381.2.2.1
theorem dX11_law_72 : decode cX11_law 72 = .ok (.getfield 26, 3) := zdc_381.2.2.2.1
theorem dX11_law_75 : decode cX11_law 75 = .ok (.aload_n 0, 1) := zdc_381.2.2.2.2.1
theorem dX11_law_76 : decode cX11_law 76 = .ok (.getfield 49, 3) := zdc_381.2.2.2.2.2.1
theorem dX11_law_79 : decode cX11_law 79 = .ok (.getfield 124, 3) := zdc_381.2.2.2.2.2.2.1
theorem dX11_law_82 : decode cX11_law 82 = .ok (.invokevirtual 135, 3) := zdc_381.2.2.2.2.2.2.2.1
theorem dX11_law_85 : decode cX11_law 85 = .ok (.aload_n 0, 1) := zdc_381.2.2.2.2.2.2.2.2.1
theorem dX11_law_86 : decode cX11_law 86 = .ok (.getfield 56, 3) := zdc_381.2.2.2.2.2.2.2.2.2
theorem zdc_382 : decode cX11_law 89 = .ok (.invokevirtual 121, 3) ∧ decode cX11_law 92 = .ok (.iload_n 1, 1) ∧ decode cX11_law 93 = .ok (.ireturn, 1) ∧ decode cX11_fault 0 = .ok (.aload_n 0, 1) ∧ decode cX11_fault 1 = .ok (.getfield 76, 3) ∧ decode cX11_fault 4 = .ok (.ireturn, 1) ∧ decode cX11_person 0 = .ok (.aload_n 0, 1) ∧ decode cX11_person 1 = .ok (.iload_n 1, 1) ∧ decode cX11_person 2 = .ok (.invokevirtual 138, 3) ∧ decode cX11_person 5 = .ok (.iload_n 2, 1) := by decide +kernel
theorem dX11_law_89 : decode cX11_law 89 = .ok (.invokevirtual 121, 3) := zdc_382.1
theorem dX11_law_92 : decode cX11_law 92 = .ok (.iload_n 1, 1) := zdc_382.2.1
theorem dX11_law_93 : decode cX11_law 93 = .ok (.ireturn, 1) := zdc_382.2.2.1
theorem dX11_fault_0 : decode cX11_fault 0 = .ok (.aload_n 0, 1) := zdc_382.2.2.2.1
theorem dX11_fault_1 : decode cX11_fault 1 = .ok (.getfield 76, 3) := zdc_382.2.2.2.2.1
theorem dX11_fault_4 : decode cX11_fault 4 = .ok (.ireturn, 1) := zdc_382.2.2.2.2.2.1
theorem dX11_person_0 : decode cX11_person 0 = .ok (.aload_n 0, 1) := zdc_382.2.2.2.2.2.2.1
theorem dX11_person_1 : decode cX11_person 1 = .ok (.iload_n 1, 1) := zdc_382.2.2.2.2.2.2.2.1
theorem dX11_person_2 : decode cX11_person 2 = .ok (.invokevirtual 138, 3) := zdc_382.2.2.2.2.2.2.2.2.1
theorem dX11_person_5 : decode cX11_person 5 = .ok (.iload_n 2, 1) := zdc_382.2.2.2.2.2.2.2.2.2
theorem zdc_383 : decode cX11_person 6 = .ok (.tableswitch 148 0 8 #[50, 60, 70, 80, 98, 108, 117, 130, 139], 50) ∧ decode cX11_person 56 = .ok (.aload_n 0, 1) ∧ decode cX11_person 57 = .ok (.getfield 19, 3) ∧ decode cX11_person 60 = .ok (.getfield 141, 3) ∧ decode cX11_person 63 = .ok (.iload_n 1, 1) ∧ decode cX11_person 64 = .ok (.iaload, 1) ∧ decode cX11_person 65 = .ok (.ireturn, 1) ∧ decode cX11_person 66 = .ok (.aload_n 0, 1) ∧ decode cX11_person 67 = .ok (.getfield 19, 3) ∧ decode cX11_person 70 = .ok (.getfield 145, 3) := by decide +kernel
theorem dX11_person_6 : decode cX11_person 6 = .ok (.tableswitch 148 0 8 #[50, 60, 70, 80, 98, 108, 117, 130, 139], 50) := zdc_383.1
theorem dX11_person_56 : decode cX11_person 56 = .ok (.aload_n 0, 1) := zdc_383.2.1
theorem dX11_person_57 : decode cX11_person 57 = .ok (.getfield 19, 3) := zdc_383.2.2.1
theorem dX11_person_60 : decode cX11_person 60 = .ok (.getfield 141, 3) := zdc_383.2.2.2.1
theorem dX11_person_63 : decode cX11_person 63 = .ok (.iload_n 1, 1) := zdc_383.2.2.2.2.1
theorem dX11_person_64 : decode cX11_person 64 = .ok (.iaload, 1) := zdc_383.2.2.2.2.2.1
theorem dX11_person_65 : decode cX11_person 65 = .ok (.ireturn, 1) := zdc_383.2.2.2.2.2.2.1
theorem dX11_person_66 : decode cX11_person 66 = .ok (.aload_n 0, 1) := zdc_383.2.2.2.2.2.2.2.1
theorem dX11_person_67 : decode cX11_person 67 = .ok (.getfield 19, 3) := zdc_383.2.2.2.2.2.2.2.2.1
theorem dX11_person_70 : decode cX11_person 70 = .ok (.getfield 145, 3) := zdc_383.2.2.2.2.2.2.2.2.2
theorem zdc_384 : decode cX11_person 73 = .ok (.iload_n 1, 1) ∧ decode cX11_person 74 = .ok (.iaload, 1) ∧ decode cX11_person 75 = .ok (.ireturn, 1) ∧ decode cX11_person 76 = .ok (.aload_n 0, 1) ∧ decode cX11_person 77 = .ok (.getfield 19, 3) ∧ decode cX11_person 80 = .ok (.getfield 148, 3) ∧ decode cX11_person 83 = .ok (.iload_n 1, 1) ∧ decode cX11_person 84 = .ok (.iaload, 1) ∧ decode cX11_person 85 = .ok (.ireturn, 1) ∧ decode cX11_person 86 = .ok (.aload_n 0, 1) := by decide +kernel
theorem dX11_person_73 : decode cX11_person 73 = .ok (.iload_n 1, 1) := zdc_384.1
theorem dX11_person_74 : decode cX11_person 74 = .ok (.iaload, 1) := zdc_384.2.1
theorem dX11_person_75 : decode cX11_person 75 = .ok (.ireturn, 1) := zdc_384.2.2.1
theorem dX11_person_76 : decode cX11_person 76 = .ok (.aload_n 0, 1) := zdc_384.2.2.2.1
theorem dX11_person_77 : decode cX11_person 77 = .ok (.getfield 19, 3) := zdc_384.2.2.2.2.1
theorem dX11_person_80 : decode cX11_person 80 = .ok (.getfield 148, 3) := zdc_384.2.2.2.2.2.1
theorem dX11_person_83 : decode cX11_person 83 = .ok (.iload_n 1, 1) := zdc_384.2.2.2.2.2.2.1
theorem dX11_person_84 : decode cX11_person 84 = .ok (.iaload, 1) := zdc_384.2.2.2.2.2.2.2.1
theorem dX11_person_85 : decode cX11_person 85 = .ok (.ireturn, 1) := zdc_384.2.2.2.2.2.2.2.2.1
theorem dX11_person_86 : decode cX11_person 86 = .ok (.aload_n 0, 1) := zdc_384.2.2.2.2.2.2.2.2.2
theorem zdc_385 : decode cX11_person 87 = .ok (.getfield 19, 3) ∧ decode cX11_person 90 = .ok (.getfield 151, 3) ∧ decode cX11_person 93 = .ok (.iload_n 1, 1) ∧ decode cX11_person 94 = .ok (.baload, 1) ∧ decode cX11_person 95 = .ok (.ifCond .eq 7, 3) ∧ decode cX11_person 98 = .ok (.iconst 1, 1) ∧ decode cX11_person 99 = .ok (.goto 4, 3) ∧ decode cX11_person 102 = .ok (.iconst 0, 1) ∧ decode cX11_person 103 = .ok (.ireturn, 1) ∧ decode cX11_person 104 = .ok (.aload_n 0, 1) := by decide +kernel
theorem dX11_person_87 : decode cX11_person 87 = .ok (.getfield 19, 3) := zdc_385.1
theorem dX11_person_90 : decode cX11_person 90 = .ok (.getfield 151, 3) := zdc_385.2.1
theorem dX11_person_93 : decode cX11_person 93 = .ok (.iload_n 1, 1) := zdc_385.2.2.1
theorem dX11_person_94 : decode cX11_person 94 = .ok (.baload, 1) := zdc_385.2.2.2.1
theorem dX11_person_95 : decode cX11_person 95 = .ok (.ifCond .eq 7, 3) := zdc_385.2.2.2.2.1
theorem dX11_person_98 : decode cX11_person 98 = .ok (.iconst 1, 1) := zdc_385.2.2.2.2.2.1
theorem dX11_person_99 : decode cX11_person 99 = .ok (.goto 4, 3) := zdc_385.2.2.2.2.2.2.1
theorem dX11_person_102 : decode cX11_person 102 = .ok (.iconst 0, 1) := zdc_385.2.2.2.2.2.2.2.1
theorem dX11_person_103 : decode cX11_person 103 = .ok (.ireturn, 1) := zdc_385.2.2.2.2.2.2.2.2.1
theorem dX11_person_104 : decode cX11_person 104 = .ok (.aload_n 0, 1) := zdc_385.2.2.2.2.2.2.2.2.2
theorem zdc_386 : decode cX11_person 105 = .ok (.getfield 19, 3) ∧ decode cX11_person 108 = .ok (.getfield 155, 3) ∧ decode cX11_person 111 = .ok (.iload_n 1, 1) ∧ decode cX11_person 112 = .ok (.iaload, 1) ∧ decode cX11_person 113 = .ok (.ireturn, 1) ∧ decode cX11_person 114 = .ok (.aload_n 0, 1) ∧ decode cX11_person 115 = .ok (.getfield 19, 3) ∧ decode cX11_person 118 = .ok (.iload_n 1, 1) ∧ decode cX11_person 119 = .ok (.invokevirtual 158, 3) ∧ decode cX11_person 122 = .ok (.ireturn, 1) := by decide +kernel
theorem dX11_person_105 : decode cX11_person 105 = .ok (.getfield 19, 3) := zdc_386.1
theorem dX11_person_108 : decode cX11_person 108 = .ok (.getfield 155, 3) := zdc_386.2.1
theorem dX11_person_111 : decode cX11_person 111 = .ok (.iload_n 1, 1) := zdc_386.2.2.1
theorem dX11_person_112 : decode cX11_person 112 = .ok (.iaload, 1) := zdc_386.2.2.2.1
theorem dX11_person_113 : decode cX11_person 113 = .ok (.ireturn, 1) := zdc_386.2.2.2.2.1
theorem dX11_person_114 : decode cX11_person 114 = .ok (.aload_n 0, 1) := zdc_386.2.2.2.2.2.1
theorem dX11_person_115 : decode cX11_person 115 = .ok (.getfield 19, 3) := zdc_386.2.2.2.2.2.2.1
theorem dX11_person_118 : decode cX11_person 118 = .ok (.iload_n 1, 1) := zdc_386.2.2.2.2.2.2.2.1
theorem dX11_person_119 : decode cX11_person 119 = .ok (.invokevirtual 158, 3) := zdc_386.2.2.2.2.2.2.2.2.1
theorem dX11_person_122 : decode cX11_person 122 = .ok (.ireturn, 1) := zdc_386.2.2.2.2.2.2.2.2.2
theorem zdc_387 : decode cX11_person 123 = .ok (.aload_n 0, 1) ∧ decode cX11_person 124 = .ok (.getfield 19, 3) ∧ decode cX11_person 127 = .ok (.iload_n 1, 1) ∧ decode cX11_person 128 = .ok (.aload_n 0, 1) ∧ decode cX11_person 129 = .ok (.getfield 26, 3) ∧ decode cX11_person 132 = .ok (.invokevirtual 161, 3) ∧ decode cX11_person 135 = .ok (.ireturn, 1) ∧ decode cX11_person 136 = .ok (.aload_n 0, 1) ∧ decode cX11_person 137 = .ok (.getfield 19, 3) ∧ decode cX11_person 140 = .ok (.iload_n 1, 1) := by decide +kernel
theorem dX11_person_123 : decode cX11_person 123 = .ok (.aload_n 0, 1) := zdc_387.1
theorem dX11_person_124 : decode cX11_person 124 = .ok (.getfield 19, 3) := zdc_387.2.1
theorem dX11_person_127 : decode cX11_person 127 = .ok (.iload_n 1, 1) := zdc_387.2.2.1
theorem dX11_person_128 : decode cX11_person 128 = .ok (.aload_n 0, 1) := zdc_387.2.2.2.1
theorem dX11_person_129 : decode cX11_person 129 = .ok (.getfield 26, 3) := zdc_387.2.2.2.2.1
theorem dX11_person_132 : decode cX11_person 132 = .ok (.invokevirtual 161, 3) := zdc_387.2.2.2.2.2.1
theorem dX11_person_135 : decode cX11_person 135 = .ok (.ireturn, 1) := zdc_387.2.2.2.2.2.2.1
theorem dX11_person_136 : decode cX11_person 136 = .ok (.aload_n 0, 1) := zdc_387.2.2.2.2.2.2.2.1
theorem dX11_person_137 : decode cX11_person 137 = .ok (.getfield 19, 3) := zdc_387.2.2.2.2.2.2.2.2.1
theorem dX11_person_140 : decode cX11_person 140 = .ok (.iload_n 1, 1) := zdc_387.2.2.2.2.2.2.2.2.2
theorem zdc_388 : decode cX11_person 141 = .ok (.invokevirtual 165, 3) ∧ decode cX11_person 144 = .ok (.ireturn, 1) ∧ decode cX11_person 145 = .ok (.aload_n 0, 1) ∧ decode cX11_person 146 = .ok (.getfield 19, 3) ∧ decode cX11_person 149 = .ok (.iload_n 1, 1) ∧ decode cX11_person 150 = .ok (.invokevirtual 168, 3) ∧ decode cX11_person 153 = .ok (.ireturn, 1) ∧ decode cX11_person 154 = .ok (.new 171, 3) ∧ decode cX11_person 157 = .ok (.dup, 1) ∧ decode cX11_person 158 = .ok (.ldc 173, 2) := by decide +kernel
theorem dX11_person_141 : decode cX11_person 141 = .ok (.invokevirtual 165, 3) := zdc_388.1
theorem dX11_person_144 : decode cX11_person 144 = .ok (.ireturn, 1) := zdc_388.2.1
theorem dX11_person_145 : decode cX11_person 145 = .ok (.aload_n 0, 1) := zdc_388.2.2.1
theorem dX11_person_146 : decode cX11_person 146 = .ok (.getfield 19, 3) := zdc_388.2.2.2.1
theorem dX11_person_149 : decode cX11_person 149 = .ok (.iload_n 1, 1) := zdc_388.2.2.2.2.1
theorem dX11_person_150 : decode cX11_person 150 = .ok (.invokevirtual 168, 3) := zdc_388.2.2.2.2.2.1
theorem dX11_person_153 : decode cX11_person 153 = .ok (.ireturn, 1) := zdc_388.2.2.2.2.2.2.1
theorem dX11_person_154 : decode cX11_person 154 = .ok (.new 171, 3) := zdc_388.2.2.2.2.2.2.2.1
theorem dX11_person_157 : decode cX11_person 157 = .ok (.dup, 1) := zdc_388.2.2.2.2.2.2.2.2.1
theorem dX11_person_158 : decode cX11_person 158 = .ok (.ldc 173, 2) := zdc_388.2.2.2.2.2.2.2.2.2
theorem zdc_389 : decode cX11_person 160 = .ok (.invokespecial 175, 3) ∧ decode cX11_person 163 = .ok (.athrow, 1) ∧ decode cX11_trust 0 = .ok (.aload_n 0, 1) ∧ decode cX11_trust 1 = .ok (.iload_n 1, 1) ∧ decode cX11_trust 2 = .ok (.iload_n 2, 1) ∧ decode cX11_trust 3 = .ok (.invokevirtual 176, 3) ∧ decode cX11_trust 6 = .ok (.aload_n 0, 1) ∧ decode cX11_trust 7 = .ok (.getfield 19, 3) ∧ decode cX11_trust 10 = .ok (.iload_n 1, 1) ∧ decode cX11_trust 11 = .ok (.iload_n 2, 1) := by decide +kernel
theorem dX11_person_160 : decode cX11_person 160 = .ok (.invokespecial 175, 3) := zdc_389.1
theorem dX11_person_163 : decode cX11_person 163 = .ok (.athrow, 1) := zdc_389.2.1
theorem dX11_trust_0 : decode cX11_trust 0 = .ok (.aload_n 0, 1) := zdc_389.2.2.1
theorem dX11_trust_1 : decode cX11_trust 1 = .ok (.iload_n 1, 1) := zdc_389.2.2.2.1
theorem dX11_trust_2 : decode cX11_trust 2 = .ok (.iload_n 2, 1) := zdc_389.2.2.2.2.1
theorem dX11_trust_3 : decode cX11_trust 3 = .ok (.invokevirtual 176, 3) := zdc_389.2.2.2.2.2.1
theorem dX11_trust_6 : decode cX11_trust 6 = .ok (.aload_n 0, 1) := zdc_389.2.2.2.2.2.2.1
theorem dX11_trust_7 : decode cX11_trust 7 = .ok (.getfield 19, 3) := zdc_389.2.2.2.2.2.2.2.1
theorem dX11_trust_10 : decode cX11_trust 10 = .ok (.iload_n 1, 1) := zdc_389.2.2.2.2.2.2.2.2.1
theorem dX11_trust_11 : decode cX11_trust 11 = .ok (.iload_n 2, 1) := zdc_389.2.2.2.2.2.2.2.2.2
theorem zdc_390 : decode cX11_trust 12 = .ok (.invokevirtual 180, 3) ∧ decode cX11_trust 15 = .ok (.ireturn, 1) ∧ decode cX11_work 0 = .ok (.aload_n 0, 1) ∧ decode cX11_work 1 = .ok (.iload_n 1, 1) ∧ decode cX11_work 2 = .ok (.invokevirtual 184, 3) ∧ decode cX11_work 5 = .ok (.iload_n 2, 1) ∧ decode cX11_work 6 = .ok (.tableswitch 70 0 3 #[30, 40, 50, 60], 30) ∧ decode cX11_work 36 = .ok (.aload_n 0, 1) ∧ decode cX11_work 37 = .ok (.getfield 19, 3) ∧ decode cX11_work 40 = .ok (.getfield 187, 3) := by decide +kernel
theorem dX11_trust_12 : decode cX11_trust 12 = .ok (.invokevirtual 180, 3) := zdc_390.1
theorem dX11_trust_15 : decode cX11_trust 15 = .ok (.ireturn, 1) := zdc_390.2.1
theorem dX11_work_0 : decode cX11_work 0 = .ok (.aload_n 0, 1) := zdc_390.2.2.1
theorem dX11_work_1 : decode cX11_work 1 = .ok (.iload_n 1, 1) := zdc_390.2.2.2.1
theorem dX11_work_2 : decode cX11_work 2 = .ok (.invokevirtual 184, 3) := zdc_390.2.2.2.2.1
theorem dX11_work_5 : decode cX11_work 5 = .ok (.iload_n 2, 1) := zdc_390.2.2.2.2.2.1
theorem dX11_work_6 : decode cX11_work 6 = .ok (.tableswitch 70 0 3 #[30, 40, 50, 60], 30) := zdc_390.2.2.2.2.2.2.1
theorem dX11_work_36 : decode cX11_work 36 = .ok (.aload_n 0, 1) := zdc_390.2.2.2.2.2.2.2.1
theorem dX11_work_37 : decode cX11_work 37 = .ok (.getfield 19, 3) := zdc_390.2.2.2.2.2.2.2.2.1
theorem dX11_work_40 : decode cX11_work 40 = .ok (.getfield 187, 3) := zdc_390.2.2.2.2.2.2.2.2.2
theorem zdc_391 : decode cX11_work 43 = .ok (.iload_n 1, 1) ∧ decode cX11_work 44 = .ok (.iaload, 1) ∧ decode cX11_work 45 = .ok (.ireturn, 1) ∧ decode cX11_work 46 = .ok (.aload_n 0, 1) ∧ decode cX11_work 47 = .ok (.getfield 19, 3) ∧ decode cX11_work 50 = .ok (.getfield 190, 3) ∧ decode cX11_work 53 = .ok (.iload_n 1, 1) ∧ decode cX11_work 54 = .ok (.iaload, 1) ∧ decode cX11_work 55 = .ok (.ireturn, 1) ∧ decode cX11_work 56 = .ok (.aload_n 0, 1) := by decide +kernel
theorem dX11_work_43 : decode cX11_work 43 = .ok (.iload_n 1, 1) := zdc_391.1
theorem dX11_work_44 : decode cX11_work 44 = .ok (.iaload, 1) := zdc_391.2.1
theorem dX11_work_45 : decode cX11_work 45 = .ok (.ireturn, 1) := zdc_391.2.2.1
theorem dX11_work_46 : decode cX11_work 46 = .ok (.aload_n 0, 1) := zdc_391.2.2.2.1
theorem dX11_work_47 : decode cX11_work 47 = .ok (.getfield 19, 3) := zdc_391.2.2.2.2.1
theorem dX11_work_50 : decode cX11_work 50 = .ok (.getfield 190, 3) := zdc_391.2.2.2.2.2.1
theorem dX11_work_53 : decode cX11_work 53 = .ok (.iload_n 1, 1) := zdc_391.2.2.2.2.2.2.1
theorem dX11_work_54 : decode cX11_work 54 = .ok (.iaload, 1) := zdc_391.2.2.2.2.2.2.2.1
theorem dX11_work_55 : decode cX11_work 55 = .ok (.ireturn, 1) := zdc_391.2.2.2.2.2.2.2.2.1
theorem dX11_work_56 : decode cX11_work 56 = .ok (.aload_n 0, 1) := zdc_391.2.2.2.2.2.2.2.2.2
theorem zdc_392 : decode cX11_work 57 = .ok (.getfield 19, 3) ∧ decode cX11_work 60 = .ok (.getfield 193, 3) ∧ decode cX11_work 63 = .ok (.iload_n 1, 1) ∧ decode cX11_work 64 = .ok (.iaload, 1) ∧ decode cX11_work 65 = .ok (.ireturn, 1) ∧ decode cX11_work 66 = .ok (.aload_n 0, 1) ∧ decode cX11_work 67 = .ok (.getfield 19, 3) ∧ decode cX11_work 70 = .ok (.getfield 196, 3) ∧ decode cX11_work 73 = .ok (.iload_n 1, 1) ∧ decode cX11_work 74 = .ok (.iaload, 1) := by decide +kernel
theorem dX11_work_57 : decode cX11_work 57 = .ok (.getfield 19, 3) := zdc_392.1
theorem dX11_work_60 : decode cX11_work 60 = .ok (.getfield 193, 3) := zdc_392.2.1
theorem dX11_work_63 : decode cX11_work 63 = .ok (.iload_n 1, 1) := zdc_392.2.2.1
theorem dX11_work_64 : decode cX11_work 64 = .ok (.iaload, 1) := zdc_392.2.2.2.1
theorem dX11_work_65 : decode cX11_work 65 = .ok (.ireturn, 1) := zdc_392.2.2.2.2.1
theorem dX11_work_66 : decode cX11_work 66 = .ok (.aload_n 0, 1) := zdc_392.2.2.2.2.2.1
theorem dX11_work_67 : decode cX11_work 67 = .ok (.getfield 19, 3) := zdc_392.2.2.2.2.2.2.1
theorem dX11_work_70 : decode cX11_work 70 = .ok (.getfield 196, 3) := zdc_392.2.2.2.2.2.2.2.1
theorem dX11_work_73 : decode cX11_work 73 = .ok (.iload_n 1, 1) := zdc_392.2.2.2.2.2.2.2.2.1
theorem dX11_work_74 : decode cX11_work 74 = .ok (.iaload, 1) := zdc_392.2.2.2.2.2.2.2.2.2
theorem zdc_393 : decode cX11_work 75 = .ok (.ireturn, 1) ∧ decode cX11_work 76 = .ok (.new 171, 3) ∧ decode cX11_work 79 = .ok (.dup, 1) ∧ decode cX11_work 80 = .ok (.ldc 199, 2) ∧ decode cX11_work 82 = .ok (.invokespecial 175, 3) ∧ decode cX11_work 85 = .ok (.athrow, 1) ∧ decode cX11_price 0 = .ok (.aload_n 0, 1) ∧ decode cX11_price 1 = .ok (.getfield 19, 3) ∧ decode cX11_price 4 = .ok (.invokevirtual 201, 3) ∧ decode cX11_price 7 = .ok (.ireturn, 1) := by decide +kernel
theorem dX11_work_75 : decode cX11_work 75 = .ok (.ireturn, 1) := zdc_393.1
theorem dX11_work_76 : decode cX11_work 76 = .ok (.new 171, 3) := zdc_393.2.1
theorem dX11_work_79 : decode cX11_work 79 = .ok (.dup, 1) := zdc_393.2.2.1
theorem dX11_work_80 : decode cX11_work 80 = .ok (.ldc 199, 2) := zdc_393.2.2.2.1
theorem dX11_work_82 : decode cX11_work 82 = .ok (.invokespecial 175, 3) := zdc_393.2.2.2.2.1
theorem dX11_work_85 : decode cX11_work 85 = .ok (.athrow, 1) := zdc_393.2.2.2.2.2.1
theorem dX11_price_0 : decode cX11_price 0 = .ok (.aload_n 0, 1) := zdc_393.2.2.2.2.2.2.1
theorem dX11_price_1 : decode cX11_price 1 = .ok (.getfield 19, 3) := zdc_393.2.2.2.2.2.2.2.1
theorem dX11_price_4 : decode cX11_price 4 = .ok (.invokevirtual 201, 3) := zdc_393.2.2.2.2.2.2.2.2.1
theorem dX11_price_7 : decode cX11_price 7 = .ok (.ireturn, 1) := zdc_393.2.2.2.2.2.2.2.2.2
theorem zdc_394 : decode cX11_tell 0 = .ok (.aload_n 0, 1) ∧ decode cX11_tell 1 = .ok (.iload_n 1, 1) ∧ decode cX11_tell 2 = .ok (.invokevirtual 138, 3) ∧ decode cX11_tell 5 = .ok (.aload_n 0, 1) ∧ decode cX11_tell 6 = .ok (.iload_n 1, 1) ∧ decode cX11_tell 7 = .ok (.invokevirtual 204, 3) ∧ decode cX11_tell 10 = .ok (.aload_n 0, 1) ∧ decode cX11_tell 11 = .ok (.getfield 56, 3) ∧ decode cX11_tell 14 = .ok (.aload_n 0, 1) ∧ decode cX11_tell 15 = .ok (.getfield 19, 3) := by decide +kernel
theorem dX11_tell_0 : decode cX11_tell 0 = .ok (.aload_n 0, 1) := zdc_394.1
theorem dX11_tell_1 : decode cX11_tell 1 = .ok (.iload_n 1, 1) := zdc_394.2.1
theorem dX11_tell_2 : decode cX11_tell 2 = .ok (.invokevirtual 138, 3) := zdc_394.2.2.1
theorem dX11_tell_5 : decode cX11_tell 5 = .ok (.aload_n 0, 1) := zdc_394.2.2.2.1
theorem dX11_tell_6 : decode cX11_tell 6 = .ok (.iload_n 1, 1) := zdc_394.2.2.2.2.1
theorem dX11_tell_7 : decode cX11_tell 7 = .ok (.invokevirtual 204, 3) := zdc_394.2.2.2.2.2.1
theorem dX11_tell_10 : decode cX11_tell 10 = .ok (.aload_n 0, 1) := zdc_394.2.2.2.2.2.2.1
theorem dX11_tell_11 : decode cX11_tell 11 = .ok (.getfield 56, 3) := zdc_394.2.2.2.2.2.2.2.1
theorem dX11_tell_14 : decode cX11_tell 14 = .ok (.aload_n 0, 1) := zdc_394.2.2.2.2.2.2.2.2.1
theorem dX11_tell_15 : decode cX11_tell 15 = .ok (.getfield 19, 3) := zdc_394.2.2.2.2.2.2.2.2.2
theorem zdc_395 : decode cX11_tell 18 = .ok (.aload_n 0, 1) ∧ decode cX11_tell 19 = .ok (.getfield 33, 3) ∧ decode cX11_tell 22 = .ok (.invokevirtual 207, 3) ∧ decode cX11_tell 25 = .ok (.aload_n 0, 1) ∧ decode cX11_tell 26 = .ok (.getfield 19, 3) ∧ decode cX11_tell 29 = .ok (.iload_n 1, 1) ∧ decode cX11_tell 30 = .ok (.bipush 20, 2) ∧ decode cX11_tell 32 = .ok (.invokevirtual 211, 3) ∧ decode cX11_tell 35 = .ok (.aload_n 0, 1) ∧ decode cX11_tell 36 = .ok (.getfield 19, 3) := by decide +kernel
theorem dX11_tell_18 : decode cX11_tell 18 = .ok (.aload_n 0, 1) := zdc_395.1
theorem dX11_tell_19 : decode cX11_tell 19 = .ok (.getfield 33, 3) := zdc_395.2.1
theorem dX11_tell_22 : decode cX11_tell 22 = .ok (.invokevirtual 207, 3) := zdc_395.2.2.1
theorem dX11_tell_25 : decode cX11_tell 25 = .ok (.aload_n 0, 1) := zdc_395.2.2.2.1
theorem dX11_tell_26 : decode cX11_tell 26 = .ok (.getfield 19, 3) := zdc_395.2.2.2.2.1
theorem dX11_tell_29 : decode cX11_tell 29 = .ok (.iload_n 1, 1) := zdc_395.2.2.2.2.2.1
theorem dX11_tell_30 : decode cX11_tell 30 = .ok (.bipush 20, 2) := zdc_395.2.2.2.2.2.2.1
theorem dX11_tell_32 : decode cX11_tell 32 = .ok (.invokevirtual 211, 3) := zdc_395.2.2.2.2.2.2.2.1
theorem dX11_tell_35 : decode cX11_tell 35 = .ok (.aload_n 0, 1) := zdc_395.2.2.2.2.2.2.2.2.1
theorem dX11_tell_36 : decode cX11_tell 36 = .ok (.getfield 19, 3) := zdc_395.2.2.2.2.2.2.2.2.2
theorem zdc_396 : decode cX11_tell 39 = .ok (.getfield 141, 3) ∧ decode cX11_tell 42 = .ok (.iload_n 1, 1) ∧ decode cX11_tell 43 = .ok (.iaload, 1) ∧ decode cX11_tell 44 = .ok (.ireturn, 1) ∧ decode cX11_tie 0 = .ok (.aload_n 0, 1) ∧ decode cX11_tie 1 = .ok (.iload_n 1, 1) ∧ decode cX11_tie 2 = .ok (.iload_n 2, 1) ∧ decode cX11_tie 3 = .ok (.invokevirtual 176, 3) ∧ decode cX11_tie 6 = .ok (.aload_n 0, 1) ∧ decode cX11_tie 7 = .ok (.iload_n 3, 1) := by decide +kernel
theorem dX11_tell_39 : decode cX11_tell 39 = .ok (.getfield 141, 3) := zdc_396.1
theorem dX11_tell_42 : decode cX11_tell 42 = .ok (.iload_n 1, 1) := zdc_396.2.1
theorem dX11_tell_43 : decode cX11_tell 43 = .ok (.iaload, 1) := zdc_396.2.2.1
theorem dX11_tell_44 : decode cX11_tell 44 = .ok (.ireturn, 1) := zdc_396.2.2.2.1
theorem dX11_tie_0 : decode cX11_tie 0 = .ok (.aload_n 0, 1) := zdc_396.2.2.2.2.1
theorem dX11_tie_1 : decode cX11_tie 1 = .ok (.iload_n 1, 1) := zdc_396.2.2.2.2.2.1
theorem dX11_tie_2 : decode cX11_tie 2 = .ok (.iload_n 2, 1) := zdc_396.2.2.2.2.2.2.1
theorem dX11_tie_3 : decode cX11_tie 3 = .ok (.invokevirtual 176, 3) := zdc_396.2.2.2.2.2.2.2.1
theorem dX11_tie_6 : decode cX11_tie 6 = .ok (.aload_n 0, 1) := zdc_396.2.2.2.2.2.2.2.2.1
theorem dX11_tie_7 : decode cX11_tie 7 = .ok (.iload_n 3, 1) := zdc_396.2.2.2.2.2.2.2.2.2
theorem zdc_397 : decode cX11_tie 8 = .ok (.iconst 0, 1) ∧ decode cX11_tie 9 = .ok (.bipush 9, 2) ∧ decode cX11_tie 11 = .ok (.invokevirtual 214, 3) ∧ decode cX11_tie 14 = .ok (.aload_n 0, 1) ∧ decode cX11_tie 15 = .ok (.getfield 56, 3) ∧ decode cX11_tie 18 = .ok (.aload_n 0, 1) ∧ decode cX11_tie 19 = .ok (.getfield 19, 3) ∧ decode cX11_tie 22 = .ok (.aload_n 0, 1) ∧ decode cX11_tie 23 = .ok (.getfield 33, 3) ∧ decode cX11_tie 26 = .ok (.invokevirtual 207, 3) := by decide +kernel
theorem dX11_tie_8 : decode cX11_tie 8 = .ok (.iconst 0, 1) := zdc_397.1
theorem dX11_tie_9 : decode cX11_tie 9 = .ok (.bipush 9, 2) := zdc_397.2.1
theorem dX11_tie_11 : decode cX11_tie 11 = .ok (.invokevirtual 214, 3) := zdc_397.2.2.1
theorem dX11_tie_14 : decode cX11_tie 14 = .ok (.aload_n 0, 1) := zdc_397.2.2.2.1
theorem dX11_tie_15 : decode cX11_tie 15 = .ok (.getfield 56, 3) := zdc_397.2.2.2.2.1
theorem dX11_tie_18 : decode cX11_tie 18 = .ok (.aload_n 0, 1) := zdc_397.2.2.2.2.2.1
theorem dX11_tie_19 : decode cX11_tie 19 = .ok (.getfield 19, 3) := zdc_397.2.2.2.2.2.2.1
theorem dX11_tie_22 : decode cX11_tie 22 = .ok (.aload_n 0, 1) := zdc_397.2.2.2.2.2.2.2.1
theorem dX11_tie_23 : decode cX11_tie 23 = .ok (.getfield 33, 3) := zdc_397.2.2.2.2.2.2.2.2.1
theorem dX11_tie_26 : decode cX11_tie 26 = .ok (.invokevirtual 207, 3) := zdc_397.2.2.2.2.2.2.2.2.2
theorem zdc_398 : decode cX11_tie 29 = .ok (.aload_n 0, 1) ∧ decode cX11_tie 30 = .ok (.getfield 19, 3) ∧ decode cX11_tie 33 = .ok (.iload_n 1, 1) ∧ decode cX11_tie 34 = .ok (.iload_n 2, 1) ∧ decode cX11_tie 35 = .ok (.invokevirtual 180, 3) ∧ decode cX11_tie 38 = .ok (.istore 4, 2) ∧ decode cX11_tie 40 = .ok (.aload_n 0, 1) ∧ decode cX11_tie 41 = .ok (.getfield 19, 3) ∧ decode cX11_tie 44 = .ok (.iload_n 1, 1) ∧ decode cX11_tie 45 = .ok (.iload_n 2, 1) := by decide +kernel
theorem dX11_tie_29 : decode cX11_tie 29 = .ok (.aload_n 0, 1) := zdc_398.1
theorem dX11_tie_30 : decode cX11_tie 30 = .ok (.getfield 19, 3) := zdc_398.2.1
theorem dX11_tie_33 : decode cX11_tie 33 = .ok (.iload_n 1, 1) := zdc_398.2.2.1
theorem dX11_tie_34 : decode cX11_tie 34 = .ok (.iload_n 2, 1) := zdc_398.2.2.2.1
theorem dX11_tie_35 : decode cX11_tie 35 = .ok (.invokevirtual 180, 3) := zdc_398.2.2.2.2.1
theorem dX11_tie_38 : decode cX11_tie 38 = .ok (.istore 4, 2) := zdc_398.2.2.2.2.2.1
theorem dX11_tie_40 : decode cX11_tie 40 = .ok (.aload_n 0, 1) := zdc_398.2.2.2.2.2.2.1
theorem dX11_tie_41 : decode cX11_tie 41 = .ok (.getfield 19, 3) := zdc_398.2.2.2.2.2.2.2.1
theorem dX11_tie_44 : decode cX11_tie 44 = .ok (.iload_n 1, 1) := zdc_398.2.2.2.2.2.2.2.2.1
theorem dX11_tie_45 : decode cX11_tie 45 = .ok (.iload_n 2, 1) := zdc_398.2.2.2.2.2.2.2.2.2
theorem zdc_399 : decode cX11_tie 46 = .ok (.iload_n 3, 1) ∧ decode cX11_tie 47 = .ok (.invokevirtual 218, 3) ∧ decode cX11_tie 50 = .ok (.iload 4, 2) ∧ decode cX11_tie 52 = .ok (.ireturn, 1) ∧ decode cX11_plan 0 = .ok (.aload_n 0, 1) ∧ decode cX11_plan 1 = .ok (.iload_n 1, 1) ∧ decode cX11_plan 2 = .ok (.invokevirtual 184, 3) ∧ decode cX11_plan 5 = .ok (.aload_n 0, 1) ∧ decode cX11_plan 6 = .ok (.aload_n 0, 1) ∧ decode cX11_plan 7 = .ok (.getfield 19, 3) := by decide +kernel
theorem dX11_tie_46 : decode cX11_tie 46 = .ok (.iload_n 3, 1) := zdc_399.1
theorem dX11_tie_47 : decode cX11_tie 47 = .ok (.invokevirtual 218, 3) := zdc_399.2.1
theorem dX11_tie_50 : decode cX11_tie 50 = .ok (.iload 4, 2) := zdc_399.2.2.1
theorem dX11_tie_52 : decode cX11_tie 52 = .ok (.ireturn, 1) := zdc_399.2.2.2.1
theorem dX11_plan_0 : decode cX11_plan 0 = .ok (.aload_n 0, 1) := zdc_399.2.2.2.2.1
theorem dX11_plan_1 : decode cX11_plan 1 = .ok (.iload_n 1, 1) := zdc_399.2.2.2.2.2.1
theorem dX11_plan_2 : decode cX11_plan 2 = .ok (.invokevirtual 184, 3) := zdc_399.2.2.2.2.2.2.1
theorem dX11_plan_5 : decode cX11_plan 5 = .ok (.aload_n 0, 1) := zdc_399.2.2.2.2.2.2.2.1
theorem dX11_plan_6 : decode cX11_plan 6 = .ok (.aload_n 0, 1) := zdc_399.2.2.2.2.2.2.2.2.1
theorem dX11_plan_7 : decode cX11_plan 7 = .ok (.getfield 19, 3) := zdc_399.2.2.2.2.2.2.2.2.2
theorem zdc_400 : decode cX11_plan 10 = .ok (.getfield 196, 3) ∧ decode cX11_plan 13 = .ok (.iload_n 1, 1) ∧ decode cX11_plan 14 = .ok (.iaload, 1) ∧ decode cX11_plan 15 = .ok (.iconst 2, 1) ∧ decode cX11_plan 16 = .ok (.if_icmp .ne 7, 3) ∧ decode cX11_plan 19 = .ok (.iconst 1, 1) ∧ decode cX11_plan 20 = .ok (.goto 4, 3) ∧ decode cX11_plan 23 = .ok (.iconst 0, 1) ∧ decode cX11_plan 24 = .ok (.invokevirtual 221, 3) ∧ decode cX11_plan 27 = .ok (.aload_n 0, 1) := by decide +kernel
theorem dX11_plan_10 : decode cX11_plan 10 = .ok (.getfield 196, 3) := zdc_400.1
theorem dX11_plan_13 : decode cX11_plan 13 = .ok (.iload_n 1, 1) := zdc_400.2.1
theorem dX11_plan_14 : decode cX11_plan 14 = .ok (.iaload, 1) := zdc_400.2.2.1
theorem dX11_plan_15 : decode cX11_plan 15 = .ok (.iconst 2, 1) := zdc_400.2.2.2.1
theorem dX11_plan_16 : decode cX11_plan 16 = .ok (.if_icmp .ne 7, 3) := zdc_400.2.2.2.2.1
theorem dX11_plan_19 : decode cX11_plan 19 = .ok (.iconst 1, 1) := zdc_400.2.2.2.2.2.1
theorem dX11_plan_20 : decode cX11_plan 20 = .ok (.goto 4, 3) := zdc_400.2.2.2.2.2.2.1
theorem dX11_plan_23 : decode cX11_plan 23 = .ok (.iconst 0, 1) := zdc_400.2.2.2.2.2.2.2.1
theorem dX11_plan_24 : decode cX11_plan 24 = .ok (.invokevirtual 221, 3) := zdc_400.2.2.2.2.2.2.2.2.1
theorem dX11_plan_27 : decode cX11_plan 27 = .ok (.aload_n 0, 1) := zdc_400.2.2.2.2.2.2.2.2.2
theorem zdc_401 : decode cX11_plan 28 = .ok (.getfield 56, 3) ∧ decode cX11_plan 31 = .ok (.aload_n 0, 1) ∧ decode cX11_plan 32 = .ok (.getfield 19, 3) ∧ decode cX11_plan 35 = .ok (.aload_n 0, 1) ∧ decode cX11_plan 36 = .ok (.getfield 33, 3) ∧ decode cX11_plan 39 = .ok (.invokevirtual 207, 3) ∧ decode cX11_plan 42 = .ok (.aload_n 0, 1) ∧ decode cX11_plan 43 = .ok (.getfield 19, 3) ∧ decode cX11_plan 46 = .ok (.getfield 196, 3) ∧ decode cX11_plan 49 = .ok (.iload_n 1, 1) := by decide +kernel
theorem dX11_plan_28 : decode cX11_plan 28 = .ok (.getfield 56, 3) := zdc_401.1
theorem dX11_plan_31 : decode cX11_plan 31 = .ok (.aload_n 0, 1) := zdc_401.2.1
theorem dX11_plan_32 : decode cX11_plan 32 = .ok (.getfield 19, 3) := zdc_401.2.2.1
theorem dX11_plan_35 : decode cX11_plan 35 = .ok (.aload_n 0, 1) := zdc_401.2.2.2.1
theorem dX11_plan_36 : decode cX11_plan 36 = .ok (.getfield 33, 3) := zdc_401.2.2.2.2.1
theorem dX11_plan_39 : decode cX11_plan 39 = .ok (.invokevirtual 207, 3) := zdc_401.2.2.2.2.2.1
theorem dX11_plan_42 : decode cX11_plan 42 = .ok (.aload_n 0, 1) := zdc_401.2.2.2.2.2.2.1
theorem dX11_plan_43 : decode cX11_plan 43 = .ok (.getfield 19, 3) := zdc_401.2.2.2.2.2.2.2.1
theorem dX11_plan_46 : decode cX11_plan 46 = .ok (.getfield 196, 3) := zdc_401.2.2.2.2.2.2.2.2.1
theorem dX11_plan_49 : decode cX11_plan 49 = .ok (.iload_n 1, 1) := zdc_401.2.2.2.2.2.2.2.2.2
theorem zdc_402 : decode cX11_plan 50 = .ok (.iconst 0, 1) ∧ decode cX11_plan 51 = .ok (.iastore, 1) ∧ decode cX11_plan 52 = .ok (.return_, 1) ∧ decode cX11_send 0 = .ok (.aload_n 0, 1) ∧ decode cX11_send 1 = .ok (.iload_n 1, 1) ∧ decode cX11_send 2 = .ok (.invokevirtual 138, 3) ∧ decode cX11_send 5 = .ok (.aload_n 0, 1) ∧ decode cX11_send 6 = .ok (.iload_n 1, 1) ∧ decode cX11_send 7 = .ok (.invokevirtual 204, 3) ∧ decode cX11_send 10 = .ok (.aload_n 0, 1) := by decide +kernel
theorem dX11_plan_50 : decode cX11_plan 50 = .ok (.iconst 0, 1) := zdc_402.1
theorem dX11_plan_51 : decode cX11_plan 51 = .ok (.iastore, 1) := zdc_402.2.1
theorem dX11_plan_52 : decode cX11_plan 52 = .ok (.return_, 1) := zdc_402.2.2.1
theorem dX11_send_0 : decode cX11_send 0 = .ok (.aload_n 0, 1) := zdc_402.2.2.2.1
theorem dX11_send_1 : decode cX11_send 1 = .ok (.iload_n 1, 1) := zdc_402.2.2.2.2.1
theorem dX11_send_2 : decode cX11_send 2 = .ok (.invokevirtual 138, 3) := zdc_402.2.2.2.2.2.1
theorem dX11_send_5 : decode cX11_send 5 = .ok (.aload_n 0, 1) := zdc_402.2.2.2.2.2.2.1
theorem dX11_send_6 : decode cX11_send 6 = .ok (.iload_n 1, 1) := zdc_402.2.2.2.2.2.2.2.1
theorem dX11_send_7 : decode cX11_send 7 = .ok (.invokevirtual 204, 3) := zdc_402.2.2.2.2.2.2.2.2.1
theorem dX11_send_10 : decode cX11_send 10 = .ok (.aload_n 0, 1) := zdc_402.2.2.2.2.2.2.2.2.2
theorem zdc_403 : decode cX11_send 11 = .ok (.getfield 56, 3) ∧ decode cX11_send 14 = .ok (.aload_n 0, 1) ∧ decode cX11_send 15 = .ok (.getfield 19, 3) ∧ decode cX11_send 18 = .ok (.aload_n 0, 1) ∧ decode cX11_send 19 = .ok (.getfield 33, 3) ∧ decode cX11_send 22 = .ok (.invokevirtual 207, 3) ∧ decode cX11_send 25 = .ok (.aload_n 0, 1) ∧ decode cX11_send 26 = .ok (.getfield 19, 3) ∧ decode cX11_send 29 = .ok (.getfield 155, 3) ∧ decode cX11_send 32 = .ok (.iload_n 1, 1) := by decide +kernel
theorem dX11_send_11 : decode cX11_send 11 = .ok (.getfield 56, 3) := zdc_403.1
theorem dX11_send_14 : decode cX11_send 14 = .ok (.aload_n 0, 1) := zdc_403.2.1
theorem dX11_send_15 : decode cX11_send 15 = .ok (.getfield 19, 3) := zdc_403.2.2.1
theorem dX11_send_18 : decode cX11_send 18 = .ok (.aload_n 0, 1) := zdc_403.2.2.2.1
theorem dX11_send_19 : decode cX11_send 19 = .ok (.getfield 33, 3) := zdc_403.2.2.2.2.1
theorem dX11_send_22 : decode cX11_send 22 = .ok (.invokevirtual 207, 3) := zdc_403.2.2.2.2.2.1
theorem dX11_send_25 : decode cX11_send 25 = .ok (.aload_n 0, 1) := zdc_403.2.2.2.2.2.2.1
theorem dX11_send_26 : decode cX11_send 26 = .ok (.getfield 19, 3) := zdc_403.2.2.2.2.2.2.2.1
theorem dX11_send_29 : decode cX11_send 29 = .ok (.getfield 155, 3) := zdc_403.2.2.2.2.2.2.2.2.1
theorem dX11_send_32 : decode cX11_send 32 = .ok (.iload_n 1, 1) := zdc_403.2.2.2.2.2.2.2.2.2
theorem zdc_404 : decode cX11_send 33 = .ok (.aload_n 0, 1) ∧ decode cX11_send 34 = .ok (.getfield 19, 3) ∧ decode cX11_send 37 = .ok (.getfield 225, 3) ∧ decode cX11_send 40 = .ok (.aload_n 0, 1) ∧ decode cX11_send 41 = .ok (.getfield 19, 3) ∧ decode cX11_send 44 = .ok (.getfield 228, 3) ∧ decode cX11_send 47 = .ok (.iadd, 1) ∧ decode cX11_send 48 = .ok (.iastore, 1) ∧ decode cX11_send 49 = .ok (.aload_n 0, 1) ∧ decode cX11_send 50 = .ok (.getfield 19, 3) := by decide +kernel
theorem dX11_send_33 : decode cX11_send 33 = .ok (.aload_n 0, 1) := zdc_404.1
theorem dX11_send_34 : decode cX11_send 34 = .ok (.getfield 19, 3) := zdc_404.2.1
theorem dX11_send_37 : decode cX11_send 37 = .ok (.getfield 225, 3) := zdc_404.2.2.1
theorem dX11_send_40 : decode cX11_send 40 = .ok (.aload_n 0, 1) := zdc_404.2.2.2.1
theorem dX11_send_41 : decode cX11_send 41 = .ok (.getfield 19, 3) := zdc_404.2.2.2.2.1
theorem dX11_send_44 : decode cX11_send 44 = .ok (.getfield 228, 3) := zdc_404.2.2.2.2.2.1
theorem dX11_send_47 : decode cX11_send 47 = .ok (.iadd, 1) := zdc_404.2.2.2.2.2.2.1
theorem dX11_send_48 : decode cX11_send 48 = .ok (.iastore, 1) := zdc_404.2.2.2.2.2.2.2.1
theorem dX11_send_49 : decode cX11_send 49 = .ok (.aload_n 0, 1) := zdc_404.2.2.2.2.2.2.2.2.1
theorem dX11_send_50 : decode cX11_send 50 = .ok (.getfield 19, 3) := zdc_404.2.2.2.2.2.2.2.2.2
theorem zdc_405 : decode cX11_send 53 = .ok (.getfield 155, 3) ∧ decode cX11_send 56 = .ok (.iload_n 1, 1) ∧ decode cX11_send 57 = .ok (.iaload, 1) ∧ decode cX11_send 58 = .ok (.ireturn, 1) ∧ decode cX11_buy 0 = .ok (.aload_n 0, 1) ∧ decode cX11_buy 1 = .ok (.iload_n 1, 1) ∧ decode cX11_buy 2 = .ok (.invokevirtual 138, 3) ∧ decode cX11_buy 5 = .ok (.aload_n 0, 1) ∧ decode cX11_buy 6 = .ok (.iload_n 2, 1) ∧ decode cX11_buy 7 = .ok (.iconst 1, 1) := by decide +kernel
theorem dX11_send_53 : decode cX11_send 53 = .ok (.getfield 155, 3) := zdc_405.1
theorem dX11_send_56 : decode cX11_send 56 = .ok (.iload_n 1, 1) := zdc_405.2.1
theorem dX11_send_57 : decode cX11_send 57 = .ok (.iaload, 1) := zdc_405.2.2.1
theorem dX11_send_58 : decode cX11_send 58 = .ok (.ireturn, 1) := zdc_405.2.2.2.1
theorem dX11_buy_0 : decode cX11_buy 0 = .ok (.aload_n 0, 1) := zdc_405.2.2.2.2.1
theorem dX11_buy_1 : decode cX11_buy 1 = .ok (.iload_n 1, 1) := zdc_405.2.2.2.2.2.1
theorem dX11_buy_2 : decode cX11_buy 2 = .ok (.invokevirtual 138, 3) := zdc_405.2.2.2.2.2.2.1
theorem dX11_buy_5 : decode cX11_buy 5 = .ok (.aload_n 0, 1) := zdc_405.2.2.2.2.2.2.2.1
theorem dX11_buy_6 : decode cX11_buy 6 = .ok (.iload_n 2, 1) := zdc_405.2.2.2.2.2.2.2.2.1
theorem dX11_buy_7 : decode cX11_buy 7 = .ok (.iconst 1, 1) := zdc_405.2.2.2.2.2.2.2.2.2
theorem zdc_406 : decode cX11_buy 8 = .ok (.bipush 99, 2) ∧ decode cX11_buy 10 = .ok (.invokevirtual 214, 3) ∧ decode cX11_buy 13 = .ok (.iload_n 2, 1) ∧ decode cX11_buy 14 = .ok (.aload_n 0, 1) ∧ decode cX11_buy 15 = .ok (.getfield 19, 3) ∧ decode cX11_buy 18 = .ok (.invokevirtual 201, 3) ∧ decode cX11_buy 21 = .ok (.imul, 1) ∧ decode cX11_buy 22 = .ok (.istore_n 3, 1) ∧ decode cX11_buy 23 = .ok (.aload_n 0, 1) ∧ decode cX11_buy 24 = .ok (.aload_n 0, 1) := by decide +kernel
theorem dX11_buy_8 : decode cX11_buy 8 = .ok (.bipush 99, 2) := zdc_406.1
theorem dX11_buy_10 : decode cX11_buy 10 = .ok (.invokevirtual 214, 3) := zdc_406.2.1
theorem dX11_buy_13 : decode cX11_buy 13 = .ok (.iload_n 2, 1) := zdc_406.2.2.1
theorem dX11_buy_14 : decode cX11_buy 14 = .ok (.aload_n 0, 1) := zdc_406.2.2.2.1
theorem dX11_buy_15 : decode cX11_buy 15 = .ok (.getfield 19, 3) := zdc_406.2.2.2.2.1
theorem dX11_buy_18 : decode cX11_buy 18 = .ok (.invokevirtual 201, 3) := zdc_406.2.2.2.2.2.1
theorem dX11_buy_21 : decode cX11_buy 21 = .ok (.imul, 1) := zdc_406.2.2.2.2.2.2.1
theorem dX11_buy_22 : decode cX11_buy 22 = .ok (.istore_n 3, 1) := zdc_406.2.2.2.2.2.2.2.1
theorem dX11_buy_23 : decode cX11_buy 23 = .ok (.aload_n 0, 1) := zdc_406.2.2.2.2.2.2.2.2.1
theorem dX11_buy_24 : decode cX11_buy 24 = .ok (.aload_n 0, 1) := zdc_406.2.2.2.2.2.2.2.2.2
theorem zdc_407 : decode cX11_buy 25 = .ok (.getfield 19, 3) ∧ decode cX11_buy 28 = .ok (.getfield 148, 3) ∧ decode cX11_buy 31 = .ok (.iload_n 1, 1) ∧ decode cX11_buy 32 = .ok (.iaload, 1) ∧ decode cX11_buy 33 = .ok (.iload_n 2, 1) ∧ decode cX11_buy 34 = .ok (.iadd, 1) ∧ decode cX11_buy 35 = .ok (.bipush 99, 2) ∧ decode cX11_buy 37 = .ok (.if_icmp .gt 20, 3) ∧ decode cX11_buy 40 = .ok (.aload_n 0, 1) ∧ decode cX11_buy 41 = .ok (.getfield 19, 3) := by decide +kernel
theorem dX11_buy_25 : decode cX11_buy 25 = .ok (.getfield 19, 3) := zdc_407.1
theorem dX11_buy_28 : decode cX11_buy 28 = .ok (.getfield 148, 3) := zdc_407.2.1
theorem dX11_buy_31 : decode cX11_buy 31 = .ok (.iload_n 1, 1) := zdc_407.2.2.1
theorem dX11_buy_32 : decode cX11_buy 32 = .ok (.iaload, 1) := zdc_407.2.2.2.1
theorem dX11_buy_33 : decode cX11_buy 33 = .ok (.iload_n 2, 1) := zdc_407.2.2.2.2.1
theorem dX11_buy_34 : decode cX11_buy 34 = .ok (.iadd, 1) := zdc_407.2.2.2.2.2.1
theorem dX11_buy_35 : decode cX11_buy 35 = .ok (.bipush 99, 2) := zdc_407.2.2.2.2.2.2.1
theorem dX11_buy_37 : decode cX11_buy 37 = .ok (.if_icmp .gt 20, 3) := zdc_407.2.2.2.2.2.2.2.1
theorem dX11_buy_40 : decode cX11_buy 40 = .ok (.aload_n 0, 1) := zdc_407.2.2.2.2.2.2.2.2.1
theorem dX11_buy_41 : decode cX11_buy 41 = .ok (.getfield 19, 3) := zdc_407.2.2.2.2.2.2.2.2.2
theorem zdc_408 : decode cX11_buy 44 = .ok (.getfield 145, 3) ∧ decode cX11_buy 47 = .ok (.iload_n 1, 1) ∧ decode cX11_buy 48 = .ok (.iaload, 1) ∧ decode cX11_buy 49 = .ok (.iload_n 3, 1) ∧ decode cX11_buy 50 = .ok (.if_icmp .lt 7, 3) ∧ decode cX11_buy 53 = .ok (.iconst 1, 1) ∧ decode cX11_buy 54 = .ok (.goto 4, 3) ∧ decode cX11_buy 57 = .ok (.iconst 0, 1) ∧ decode cX11_buy 58 = .ok (.invokevirtual 221, 3) ∧ decode cX11_buy 61 = .ok (.aload_n 0, 1) := by decide +kernel
theorem dX11_buy_44 : decode cX11_buy 44 = .ok (.getfield 145, 3) := zdc_408.1
theorem dX11_buy_47 : decode cX11_buy 47 = .ok (.iload_n 1, 1) := zdc_408.2.1
theorem dX11_buy_48 : decode cX11_buy 48 = .ok (.iaload, 1) := zdc_408.2.2.1
theorem dX11_buy_49 : decode cX11_buy 49 = .ok (.iload_n 3, 1) := zdc_408.2.2.2.1
theorem dX11_buy_50 : decode cX11_buy 50 = .ok (.if_icmp .lt 7, 3) := zdc_408.2.2.2.2.1
theorem dX11_buy_53 : decode cX11_buy 53 = .ok (.iconst 1, 1) := zdc_408.2.2.2.2.2.1
theorem dX11_buy_54 : decode cX11_buy 54 = .ok (.goto 4, 3) := zdc_408.2.2.2.2.2.2.1
theorem dX11_buy_57 : decode cX11_buy 57 = .ok (.iconst 0, 1) := zdc_408.2.2.2.2.2.2.2.1
theorem dX11_buy_58 : decode cX11_buy 58 = .ok (.invokevirtual 221, 3) := zdc_408.2.2.2.2.2.2.2.2.1
theorem dX11_buy_61 : decode cX11_buy 61 = .ok (.aload_n 0, 1) := zdc_408.2.2.2.2.2.2.2.2.2
theorem zdc_409 : decode cX11_buy 62 = .ok (.getfield 56, 3) ∧ decode cX11_buy 65 = .ok (.aload_n 0, 1) ∧ decode cX11_buy 66 = .ok (.getfield 19, 3) ∧ decode cX11_buy 69 = .ok (.aload_n 0, 1) ∧ decode cX11_buy 70 = .ok (.getfield 33, 3) ∧ decode cX11_buy 73 = .ok (.invokevirtual 207, 3) ∧ decode cX11_buy 76 = .ok (.aload_n 0, 1) ∧ decode cX11_buy 77 = .ok (.getfield 19, 3) ∧ decode cX11_buy 80 = .ok (.getfield 148, 3) ∧ decode cX11_buy 83 = .ok (.iload_n 1, 1) := by decide +kernel
theorem dX11_buy_62 : decode cX11_buy 62 = .ok (.getfield 56, 3) := zdc_409.1
theorem dX11_buy_65 : decode cX11_buy 65 = .ok (.aload_n 0, 1) := zdc_409.2.1
theorem dX11_buy_66 : decode cX11_buy 66 = .ok (.getfield 19, 3) := zdc_409.2.2.1
theorem dX11_buy_69 : decode cX11_buy 69 = .ok (.aload_n 0, 1) := zdc_409.2.2.2.1
theorem dX11_buy_70 : decode cX11_buy 70 = .ok (.getfield 33, 3) := zdc_409.2.2.2.2.1
theorem dX11_buy_73 : decode cX11_buy 73 = .ok (.invokevirtual 207, 3) := zdc_409.2.2.2.2.2.1
theorem dX11_buy_76 : decode cX11_buy 76 = .ok (.aload_n 0, 1) := zdc_409.2.2.2.2.2.2.1
theorem dX11_buy_77 : decode cX11_buy 77 = .ok (.getfield 19, 3) := zdc_409.2.2.2.2.2.2.2.1
theorem dX11_buy_80 : decode cX11_buy 80 = .ok (.getfield 148, 3) := zdc_409.2.2.2.2.2.2.2.2.1
theorem dX11_buy_83 : decode cX11_buy 83 = .ok (.iload_n 1, 1) := zdc_409.2.2.2.2.2.2.2.2.2
theorem zdc_410 : decode cX11_buy 84 = .ok (.dup2, 1) ∧ decode cX11_buy 85 = .ok (.iaload, 1) ∧ decode cX11_buy 86 = .ok (.iload_n 2, 1) ∧ decode cX11_buy 87 = .ok (.iadd, 1) ∧ decode cX11_buy 88 = .ok (.iastore, 1) ∧ decode cX11_buy 89 = .ok (.aload_n 0, 1) ∧ decode cX11_buy 90 = .ok (.getfield 19, 3) ∧ decode cX11_buy 93 = .ok (.getfield 145, 3) ∧ decode cX11_buy 96 = .ok (.iload_n 1, 1) ∧ decode cX11_buy 97 = .ok (.dup2, 1) := by decide +kernel
theorem dX11_buy_84 : decode cX11_buy 84 = .ok (.dup2, 1) := zdc_410.1
theorem dX11_buy_85 : decode cX11_buy 85 = .ok (.iaload, 1) := zdc_410.2.1
theorem dX11_buy_86 : decode cX11_buy 86 = .ok (.iload_n 2, 1) := zdc_410.2.2.1
theorem dX11_buy_87 : decode cX11_buy 87 = .ok (.iadd, 1) := zdc_410.2.2.2.1
theorem dX11_buy_88 : decode cX11_buy 88 = .ok (.iastore, 1) := zdc_410.2.2.2.2.1
theorem dX11_buy_89 : decode cX11_buy 89 = .ok (.aload_n 0, 1) := zdc_410.2.2.2.2.2.1
theorem dX11_buy_90 : decode cX11_buy 90 = .ok (.getfield 19, 3) := zdc_410.2.2.2.2.2.2.1
theorem dX11_buy_93 : decode cX11_buy 93 = .ok (.getfield 145, 3) := zdc_410.2.2.2.2.2.2.2.1
theorem dX11_buy_96 : decode cX11_buy 96 = .ok (.iload_n 1, 1) := zdc_410.2.2.2.2.2.2.2.2.1
theorem dX11_buy_97 : decode cX11_buy 97 = .ok (.dup2, 1) := zdc_410.2.2.2.2.2.2.2.2.2
theorem zdc_411 : decode cX11_buy 98 = .ok (.iaload, 1) ∧ decode cX11_buy 99 = .ok (.iload_n 3, 1) ∧ decode cX11_buy 100 = .ok (.isub, 1) ∧ decode cX11_buy 101 = .ok (.iastore, 1) ∧ decode cX11_buy 102 = .ok (.aload_n 0, 1) ∧ decode cX11_buy 103 = .ok (.getfield 19, 3) ∧ decode cX11_buy 106 = .ok (.sipush 9999, 3) ∧ decode cX11_buy 109 = .ok (.aload_n 0, 1) ∧ decode cX11_buy 110 = .ok (.getfield 19, 3) ∧ decode cX11_buy 113 = .ok (.getfield 231, 3) := by decide +kernel
theorem dX11_buy_98 : decode cX11_buy 98 = .ok (.iaload, 1) := zdc_411.1
theorem dX11_buy_99 : decode cX11_buy 99 = .ok (.iload_n 3, 1) := zdc_411.2.1
theorem dX11_buy_100 : decode cX11_buy 100 = .ok (.isub, 1) := zdc_411.2.2.1
theorem dX11_buy_101 : decode cX11_buy 101 = .ok (.iastore, 1) := zdc_411.2.2.2.1
theorem dX11_buy_102 : decode cX11_buy 102 = .ok (.aload_n 0, 1) := zdc_411.2.2.2.2.1
theorem dX11_buy_103 : decode cX11_buy 103 = .ok (.getfield 19, 3) := zdc_411.2.2.2.2.2.1
theorem dX11_buy_106 : decode cX11_buy 106 = .ok (.sipush 9999, 3) := zdc_411.2.2.2.2.2.2.1
theorem dX11_buy_109 : decode cX11_buy 109 = .ok (.aload_n 0, 1) := zdc_411.2.2.2.2.2.2.2.1
theorem dX11_buy_110 : decode cX11_buy 110 = .ok (.getfield 19, 3) := zdc_411.2.2.2.2.2.2.2.2.1
theorem dX11_buy_113 : decode cX11_buy 113 = .ok (.getfield 231, 3) := zdc_411.2.2.2.2.2.2.2.2.2
theorem zdc_412 : decode cX11_buy 116 = .ok (.iload_n 3, 1) ∧ decode cX11_buy 117 = .ok (.iadd, 1) ∧ decode cX11_buy 118 = .ok (.invokestatic 234, 3) ∧ decode cX11_buy 121 = .ok (.putfield 231, 3) ∧ decode cX11_buy 124 = .ok (.aload_n 0, 1) ∧ decode cX11_buy 125 = .ok (.getfield 19, 3) ∧ decode cX11_buy 128 = .ok (.getfield 145, 3) ∧ decode cX11_buy 131 = .ok (.iload_n 1, 1) ∧ decode cX11_buy 132 = .ok (.iaload, 1) ∧ decode cX11_buy 133 = .ok (.ireturn, 1) := by decide +kernel
theorem dX11_buy_116 : decode cX11_buy 116 = .ok (.iload_n 3, 1) := zdc_412.1
theorem dX11_buy_117 : decode cX11_buy 117 = .ok (.iadd, 1) := zdc_412.2.1
theorem dX11_buy_118 : decode cX11_buy 118 = .ok (.invokestatic 234, 3) := zdc_412.2.2.1
theorem dX11_buy_121 : decode cX11_buy 121 = .ok (.putfield 231, 3) := zdc_412.2.2.2.1
theorem dX11_buy_124 : decode cX11_buy 124 = .ok (.aload_n 0, 1) := zdc_412.2.2.2.2.1
theorem dX11_buy_125 : decode cX11_buy 125 = .ok (.getfield 19, 3) := zdc_412.2.2.2.2.2.1
theorem dX11_buy_128 : decode cX11_buy 128 = .ok (.getfield 145, 3) := zdc_412.2.2.2.2.2.2.1
theorem dX11_buy_131 : decode cX11_buy 131 = .ok (.iload_n 1, 1) := zdc_412.2.2.2.2.2.2.2.1
theorem dX11_buy_132 : decode cX11_buy 132 = .ok (.iaload, 1) := zdc_412.2.2.2.2.2.2.2.2.1
theorem dX11_buy_133 : decode cX11_buy 133 = .ok (.ireturn, 1) := zdc_412.2.2.2.2.2.2.2.2.2
theorem zdc_413 : decode cX11_sell 0 = .ok (.aload_n 0, 1) ∧ decode cX11_sell 1 = .ok (.iload_n 1, 1) ∧ decode cX11_sell 2 = .ok (.invokevirtual 138, 3) ∧ decode cX11_sell 5 = .ok (.aload_n 0, 1) ∧ decode cX11_sell 6 = .ok (.iload_n 2, 1) ∧ decode cX11_sell 7 = .ok (.iconst 1, 1) ∧ decode cX11_sell 8 = .ok (.bipush 99, 2) ∧ decode cX11_sell 10 = .ok (.invokevirtual 214, 3) ∧ decode cX11_sell 13 = .ok (.iload_n 2, 1) ∧ decode cX11_sell 14 = .ok (.aload_n 0, 1) := by decide +kernel
theorem dX11_sell_0 : decode cX11_sell 0 = .ok (.aload_n 0, 1) := zdc_413.1
theorem dX11_sell_1 : decode cX11_sell 1 = .ok (.iload_n 1, 1) := zdc_413.2.1
theorem dX11_sell_2 : decode cX11_sell 2 = .ok (.invokevirtual 138, 3) := zdc_413.2.2.1
theorem dX11_sell_5 : decode cX11_sell 5 = .ok (.aload_n 0, 1) := zdc_413.2.2.2.1
theorem dX11_sell_6 : decode cX11_sell 6 = .ok (.iload_n 2, 1) := zdc_413.2.2.2.2.1
theorem dX11_sell_7 : decode cX11_sell 7 = .ok (.iconst 1, 1) := zdc_413.2.2.2.2.2.1
theorem dX11_sell_8 : decode cX11_sell 8 = .ok (.bipush 99, 2) := zdc_413.2.2.2.2.2.2.1
theorem dX11_sell_10 : decode cX11_sell 10 = .ok (.invokevirtual 214, 3) := zdc_413.2.2.2.2.2.2.2.1
theorem dX11_sell_13 : decode cX11_sell 13 = .ok (.iload_n 2, 1) := zdc_413.2.2.2.2.2.2.2.2.1
theorem dX11_sell_14 : decode cX11_sell 14 = .ok (.aload_n 0, 1) := zdc_413.2.2.2.2.2.2.2.2.2
theorem zdc_414 : decode cX11_sell 15 = .ok (.getfield 19, 3) ∧ decode cX11_sell 18 = .ok (.invokevirtual 201, 3) ∧ decode cX11_sell 21 = .ok (.imul, 1) ∧ decode cX11_sell 22 = .ok (.istore_n 3, 1) ∧ decode cX11_sell 23 = .ok (.aload_n 0, 1) ∧ decode cX11_sell 24 = .ok (.aload_n 0, 1) ∧ decode cX11_sell 25 = .ok (.getfield 19, 3) ∧ decode cX11_sell 28 = .ok (.getfield 148, 3) ∧ decode cX11_sell 31 = .ok (.iload_n 1, 1) ∧ decode cX11_sell 32 = .ok (.iaload, 1) := by decide +kernel
theorem dX11_sell_15 : decode cX11_sell 15 = .ok (.getfield 19, 3) := zdc_414.1
theorem dX11_sell_18 : decode cX11_sell 18 = .ok (.invokevirtual 201, 3) := zdc_414.2.1
theorem dX11_sell_21 : decode cX11_sell 21 = .ok (.imul, 1) := zdc_414.2.2.1
theorem dX11_sell_22 : decode cX11_sell 22 = .ok (.istore_n 3, 1) := zdc_414.2.2.2.1
theorem dX11_sell_23 : decode cX11_sell 23 = .ok (.aload_n 0, 1) := zdc_414.2.2.2.2.1
theorem dX11_sell_24 : decode cX11_sell 24 = .ok (.aload_n 0, 1) := zdc_414.2.2.2.2.2.1
theorem dX11_sell_25 : decode cX11_sell 25 = .ok (.getfield 19, 3) := zdc_414.2.2.2.2.2.2.1
theorem dX11_sell_28 : decode cX11_sell 28 = .ok (.getfield 148, 3) := zdc_414.2.2.2.2.2.2.2.1
theorem dX11_sell_31 : decode cX11_sell 31 = .ok (.iload_n 1, 1) := zdc_414.2.2.2.2.2.2.2.2.1
theorem dX11_sell_32 : decode cX11_sell 32 = .ok (.iaload, 1) := zdc_414.2.2.2.2.2.2.2.2.2
theorem zdc_415 : decode cX11_sell 33 = .ok (.iload_n 2, 1) ∧ decode cX11_sell 34 = .ok (.if_icmp .lt 18, 3) ∧ decode cX11_sell 37 = .ok (.aload_n 0, 1) ∧ decode cX11_sell 38 = .ok (.getfield 19, 3) ∧ decode cX11_sell 41 = .ok (.getfield 231, 3) ∧ decode cX11_sell 44 = .ok (.iload_n 3, 1) ∧ decode cX11_sell 45 = .ok (.if_icmp .lt 7, 3) ∧ decode cX11_sell 48 = .ok (.iconst 1, 1) ∧ decode cX11_sell 49 = .ok (.goto 4, 3) ∧ decode cX11_sell 52 = .ok (.iconst 0, 1) := by decide +kernel
theorem dX11_sell_33 : decode cX11_sell 33 = .ok (.iload_n 2, 1) := zdc_415.1
theorem dX11_sell_34 : decode cX11_sell 34 = .ok (.if_icmp .lt 18, 3) := zdc_415.2.1
theorem dX11_sell_37 : decode cX11_sell 37 = .ok (.aload_n 0, 1) := zdc_415.2.2.1
theorem dX11_sell_38 : decode cX11_sell 38 = .ok (.getfield 19, 3) := zdc_415.2.2.2.1
theorem dX11_sell_41 : decode cX11_sell 41 = .ok (.getfield 231, 3) := zdc_415.2.2.2.2.1
theorem dX11_sell_44 : decode cX11_sell 44 = .ok (.iload_n 3, 1) := zdc_415.2.2.2.2.2.1
theorem dX11_sell_45 : decode cX11_sell 45 = .ok (.if_icmp .lt 7, 3) := zdc_415.2.2.2.2.2.2.1
theorem dX11_sell_48 : decode cX11_sell 48 = .ok (.iconst 1, 1) := zdc_415.2.2.2.2.2.2.2.1
theorem dX11_sell_49 : decode cX11_sell 49 = .ok (.goto 4, 3) := zdc_415.2.2.2.2.2.2.2.2.1
theorem dX11_sell_52 : decode cX11_sell 52 = .ok (.iconst 0, 1) := zdc_415.2.2.2.2.2.2.2.2.2
theorem zdc_416 : decode cX11_sell 53 = .ok (.invokevirtual 221, 3) ∧ decode cX11_sell 56 = .ok (.aload_n 0, 1) ∧ decode cX11_sell 57 = .ok (.getfield 56, 3) ∧ decode cX11_sell 60 = .ok (.aload_n 0, 1) ∧ decode cX11_sell 61 = .ok (.getfield 19, 3) ∧ decode cX11_sell 64 = .ok (.aload_n 0, 1) ∧ decode cX11_sell 65 = .ok (.getfield 33, 3) ∧ decode cX11_sell 68 = .ok (.invokevirtual 207, 3) ∧ decode cX11_sell 71 = .ok (.aload_n 0, 1) ∧ decode cX11_sell 72 = .ok (.getfield 19, 3) := by decide +kernel
theorem dX11_sell_53 : decode cX11_sell 53 = .ok (.invokevirtual 221, 3) := zdc_416.1
theorem dX11_sell_56 : decode cX11_sell 56 = .ok (.aload_n 0, 1) := zdc_416.2.1
theorem dX11_sell_57 : decode cX11_sell 57 = .ok (.getfield 56, 3) := zdc_416.2.2.1
theorem dX11_sell_60 : decode cX11_sell 60 = .ok (.aload_n 0, 1) := zdc_416.2.2.2.1
theorem dX11_sell_61 : decode cX11_sell 61 = .ok (.getfield 19, 3) := zdc_416.2.2.2.2.1
theorem dX11_sell_64 : decode cX11_sell 64 = .ok (.aload_n 0, 1) := zdc_416.2.2.2.2.2.1
theorem dX11_sell_65 : decode cX11_sell 65 = .ok (.getfield 33, 3) := zdc_416.2.2.2.2.2.2.1
theorem dX11_sell_68 : decode cX11_sell 68 = .ok (.invokevirtual 207, 3) := zdc_416.2.2.2.2.2.2.2.1
theorem dX11_sell_71 : decode cX11_sell 71 = .ok (.aload_n 0, 1) := zdc_416.2.2.2.2.2.2.2.2.1
theorem dX11_sell_72 : decode cX11_sell 72 = .ok (.getfield 19, 3) := zdc_416.2.2.2.2.2.2.2.2.2
theorem zdc_417 : decode cX11_sell 75 = .ok (.getfield 148, 3) ∧ decode cX11_sell 78 = .ok (.iload_n 1, 1) ∧ decode cX11_sell 79 = .ok (.dup2, 1) ∧ decode cX11_sell 80 = .ok (.iaload, 1) ∧ decode cX11_sell 81 = .ok (.iload_n 2, 1) ∧ decode cX11_sell 82 = .ok (.isub, 1) ∧ decode cX11_sell 83 = .ok (.iastore, 1) ∧ decode cX11_sell 84 = .ok (.aload_n 0, 1) ∧ decode cX11_sell 85 = .ok (.getfield 19, 3) ∧ decode cX11_sell 88 = .ok (.dup, 1) := by decide +kernel
theorem dX11_sell_75 : decode cX11_sell 75 = .ok (.getfield 148, 3) := zdc_417.1
theorem dX11_sell_78 : decode cX11_sell 78 = .ok (.iload_n 1, 1) := zdc_417.2.1
theorem dX11_sell_79 : decode cX11_sell 79 = .ok (.dup2, 1) := zdc_417.2.2.1
theorem dX11_sell_80 : decode cX11_sell 80 = .ok (.iaload, 1) := zdc_417.2.2.2.1
theorem dX11_sell_81 : decode cX11_sell 81 = .ok (.iload_n 2, 1) := zdc_417.2.2.2.2.1
theorem dX11_sell_82 : decode cX11_sell 82 = .ok (.isub, 1) := zdc_417.2.2.2.2.2.1
theorem dX11_sell_83 : decode cX11_sell 83 = .ok (.iastore, 1) := zdc_417.2.2.2.2.2.2.1
theorem dX11_sell_84 : decode cX11_sell 84 = .ok (.aload_n 0, 1) := zdc_417.2.2.2.2.2.2.2.1
theorem dX11_sell_85 : decode cX11_sell 85 = .ok (.getfield 19, 3) := zdc_417.2.2.2.2.2.2.2.2.1
theorem dX11_sell_88 : decode cX11_sell 88 = .ok (.dup, 1) := zdc_417.2.2.2.2.2.2.2.2.2
theorem zdc_418 : decode cX11_sell 89 = .ok (.getfield 231, 3) ∧ decode cX11_sell 92 = .ok (.iload_n 3, 1) ∧ decode cX11_sell 93 = .ok (.isub, 1) ∧ decode cX11_sell 94 = .ok (.putfield 231, 3) ∧ decode cX11_sell 97 = .ok (.aload_n 0, 1) ∧ decode cX11_sell 98 = .ok (.getfield 19, 3) ∧ decode cX11_sell 101 = .ok (.getfield 145, 3) ∧ decode cX11_sell 104 = .ok (.iload_n 1, 1) ∧ decode cX11_sell 105 = .ok (.sipush 9999, 3) ∧ decode cX11_sell 108 = .ok (.aload_n 0, 1) := by decide +kernel
theorem dX11_sell_89 : decode cX11_sell 89 = .ok (.getfield 231, 3) := zdc_418.1
theorem dX11_sell_92 : decode cX11_sell 92 = .ok (.iload_n 3, 1) := zdc_418.2.1
theorem dX11_sell_93 : decode cX11_sell 93 = .ok (.isub, 1) := zdc_418.2.2.1
theorem dX11_sell_94 : decode cX11_sell 94 = .ok (.putfield 231, 3) := zdc_418.2.2.2.1
theorem dX11_sell_97 : decode cX11_sell 97 = .ok (.aload_n 0, 1) := zdc_418.2.2.2.2.1
theorem dX11_sell_98 : decode cX11_sell 98 = .ok (.getfield 19, 3) := zdc_418.2.2.2.2.2.1
theorem dX11_sell_101 : decode cX11_sell 101 = .ok (.getfield 145, 3) := zdc_418.2.2.2.2.2.2.1
theorem dX11_sell_104 : decode cX11_sell 104 = .ok (.iload_n 1, 1) := zdc_418.2.2.2.2.2.2.2.1
theorem dX11_sell_105 : decode cX11_sell 105 = .ok (.sipush 9999, 3) := zdc_418.2.2.2.2.2.2.2.2.1
theorem dX11_sell_108 : decode cX11_sell 108 = .ok (.aload_n 0, 1) := zdc_418.2.2.2.2.2.2.2.2.2
theorem zdc_419 : decode cX11_sell 109 = .ok (.getfield 19, 3) ∧ decode cX11_sell 112 = .ok (.getfield 145, 3) ∧ decode cX11_sell 115 = .ok (.iload_n 1, 1) ∧ decode cX11_sell 116 = .ok (.iaload, 1) ∧ decode cX11_sell 117 = .ok (.iload_n 3, 1) ∧ decode cX11_sell 118 = .ok (.iadd, 1) ∧ decode cX11_sell 119 = .ok (.invokestatic 234, 3) ∧ decode cX11_sell 122 = .ok (.iastore, 1) ∧ decode cX11_sell 123 = .ok (.aload_n 0, 1) ∧ decode cX11_sell 124 = .ok (.getfield 19, 3) := by decide +kernel
theorem dX11_sell_109 : decode cX11_sell 109 = .ok (.getfield 19, 3) := zdc_419.1
theorem dX11_sell_112 : decode cX11_sell 112 = .ok (.getfield 145, 3) := zdc_419.2.1
theorem dX11_sell_115 : decode cX11_sell 115 = .ok (.iload_n 1, 1) := zdc_419.2.2.1
theorem dX11_sell_116 : decode cX11_sell 116 = .ok (.iaload, 1) := zdc_419.2.2.2.1
theorem dX11_sell_117 : decode cX11_sell 117 = .ok (.iload_n 3, 1) := zdc_419.2.2.2.2.1
theorem dX11_sell_118 : decode cX11_sell 118 = .ok (.iadd, 1) := zdc_419.2.2.2.2.2.1
theorem dX11_sell_119 : decode cX11_sell 119 = .ok (.invokestatic 234, 3) := zdc_419.2.2.2.2.2.2.1
theorem dX11_sell_122 : decode cX11_sell 122 = .ok (.iastore, 1) := zdc_419.2.2.2.2.2.2.2.1
theorem dX11_sell_123 : decode cX11_sell 123 = .ok (.aload_n 0, 1) := zdc_419.2.2.2.2.2.2.2.2.1
theorem dX11_sell_124 : decode cX11_sell 124 = .ok (.getfield 19, 3) := zdc_419.2.2.2.2.2.2.2.2.2
theorem zdc_420 : decode cX11_sell 127 = .ok (.getfield 145, 3) ∧ decode cX11_sell 130 = .ok (.iload_n 1, 1) ∧ decode cX11_sell 131 = .ok (.iaload, 1) ∧ decode cX11_sell 132 = .ok (.ireturn, 1) ∧ decode cX11_dry 0 = .ok (.aload_n 0, 1) ∧ decode cX11_dry 1 = .ok (.iload_n 1, 1) ∧ decode cX11_dry 2 = .ok (.invokevirtual 138, 3) ∧ decode cX11_dry 5 = .ok (.aload_n 0, 1) ∧ decode cX11_dry 6 = .ok (.getfield 56, 3) ∧ decode cX11_dry 9 = .ok (.aload_n 0, 1) := by decide +kernel
theorem dX11_sell_127 : decode cX11_sell 127 = .ok (.getfield 145, 3) := zdc_420.1
theorem dX11_sell_130 : decode cX11_sell 130 = .ok (.iload_n 1, 1) := zdc_420.2.1
theorem dX11_sell_131 : decode cX11_sell 131 = .ok (.iaload, 1) := zdc_420.2.2.1
theorem dX11_sell_132 : decode cX11_sell 132 = .ok (.ireturn, 1) := zdc_420.2.2.2.1
theorem dX11_dry_0 : decode cX11_dry 0 = .ok (.aload_n 0, 1) := zdc_420.2.2.2.2.1
theorem dX11_dry_1 : decode cX11_dry 1 = .ok (.iload_n 1, 1) := zdc_420.2.2.2.2.2.1
theorem dX11_dry_2 : decode cX11_dry 2 = .ok (.invokevirtual 138, 3) := zdc_420.2.2.2.2.2.2.1
theorem dX11_dry_5 : decode cX11_dry 5 = .ok (.aload_n 0, 1) := zdc_420.2.2.2.2.2.2.2.1
theorem dX11_dry_6 : decode cX11_dry 6 = .ok (.getfield 56, 3) := zdc_420.2.2.2.2.2.2.2.2.1
theorem dX11_dry_9 : decode cX11_dry 9 = .ok (.aload_n 0, 1) := zdc_420.2.2.2.2.2.2.2.2.2
theorem zdc_421 : decode cX11_dry 10 = .ok (.getfield 19, 3) ∧ decode cX11_dry 13 = .ok (.aload_n 0, 1) ∧ decode cX11_dry 14 = .ok (.getfield 33, 3) ∧ decode cX11_dry 17 = .ok (.invokevirtual 207, 3) ∧ decode cX11_dry 20 = .ok (.aload_n 0, 1) ∧ decode cX11_dry 21 = .ok (.getfield 19, 3) ∧ decode cX11_dry 24 = .ok (.getfield 151, 3) ∧ decode cX11_dry 27 = .ok (.iload_n 1, 1) ∧ decode cX11_dry 28 = .ok (.baload, 1) ∧ decode cX11_dry 29 = .ok (.iload_n 2, 1) := by decide +kernel
theorem dX11_dry_10 : decode cX11_dry 10 = .ok (.getfield 19, 3) := zdc_421.1
theorem dX11_dry_13 : decode cX11_dry 13 = .ok (.aload_n 0, 1) := zdc_421.2.1
theorem dX11_dry_14 : decode cX11_dry 14 = .ok (.getfield 33, 3) := zdc_421.2.2.1
theorem dX11_dry_17 : decode cX11_dry 17 = .ok (.invokevirtual 207, 3) := zdc_421.2.2.2.1
theorem dX11_dry_20 : decode cX11_dry 20 = .ok (.aload_n 0, 1) := zdc_421.2.2.2.2.1
theorem dX11_dry_21 : decode cX11_dry 21 = .ok (.getfield 19, 3) := zdc_421.2.2.2.2.2.1
theorem dX11_dry_24 : decode cX11_dry 24 = .ok (.getfield 151, 3) := zdc_421.2.2.2.2.2.2.1
theorem dX11_dry_27 : decode cX11_dry 27 = .ok (.iload_n 1, 1) := zdc_421.2.2.2.2.2.2.2.1
theorem dX11_dry_28 : decode cX11_dry 28 = .ok (.baload, 1) := zdc_421.2.2.2.2.2.2.2.2.1
theorem dX11_dry_29 : decode cX11_dry 29 = .ok (.iload_n 2, 1) := zdc_421.2.2.2.2.2.2.2.2.2
theorem zdc_422 : decode cX11_dry 30 = .ok (.if_icmp .eq 7, 3) ∧ decode cX11_dry 33 = .ok (.iconst 1, 1) ∧ decode cX11_dry 34 = .ok (.goto 4, 3) ∧ decode cX11_dry 37 = .ok (.iconst 0, 1) ∧ decode cX11_dry 38 = .ok (.istore_n 3, 1) ∧ decode cX11_dry 39 = .ok (.aload_n 0, 1) ∧ decode cX11_dry 40 = .ok (.getfield 19, 3) ∧ decode cX11_dry 43 = .ok (.getfield 151, 3) ∧ decode cX11_dry 46 = .ok (.iload_n 1, 1) ∧ decode cX11_dry 47 = .ok (.iload_n 2, 1) := by decide +kernel
theorem dX11_dry_30 : decode cX11_dry 30 = .ok (.if_icmp .eq 7, 3) := zdc_422.1
theorem dX11_dry_33 : decode cX11_dry 33 = .ok (.iconst 1, 1) := zdc_422.2.1
theorem dX11_dry_34 : decode cX11_dry 34 = .ok (.goto 4, 3) := zdc_422.2.2.1
theorem dX11_dry_37 : decode cX11_dry 37 = .ok (.iconst 0, 1) := zdc_422.2.2.2.1
theorem dX11_dry_38 : decode cX11_dry 38 = .ok (.istore_n 3, 1) := zdc_422.2.2.2.2.1
theorem dX11_dry_39 : decode cX11_dry 39 = .ok (.aload_n 0, 1) := zdc_422.2.2.2.2.2.1
theorem dX11_dry_40 : decode cX11_dry 40 = .ok (.getfield 19, 3) := zdc_422.2.2.2.2.2.2.1
theorem dX11_dry_43 : decode cX11_dry 43 = .ok (.getfield 151, 3) := zdc_422.2.2.2.2.2.2.2.1
theorem dX11_dry_46 : decode cX11_dry 46 = .ok (.iload_n 1, 1) := zdc_422.2.2.2.2.2.2.2.2.1
theorem dX11_dry_47 : decode cX11_dry 47 = .ok (.iload_n 2, 1) := zdc_422.2.2.2.2.2.2.2.2.2
theorem zdc_423 : decode cX11_dry 48 = .ok (.bastore, 1) ∧ decode cX11_dry 49 = .ok (.iload_n 3, 1) ∧ decode cX11_dry 50 = .ok (.ireturn, 1) ∧ decode cX11_days 0 = .ok (.aload_n 0, 1) ∧ decode cX11_days 1 = .ok (.iload_n 1, 1) ∧ decode cX11_days 2 = .ok (.iconst 1, 1) ∧ decode cX11_days 3 = .ok (.bipush 60, 2) ∧ decode cX11_days 5 = .ok (.invokevirtual 214, 3) ∧ decode cX11_days 8 = .ok (.aload_n 0, 1) ∧ decode cX11_days 9 = .ok (.getfield 56, 3) := by decide +kernel
theorem dX11_dry_48 : decode cX11_dry 48 = .ok (.bastore, 1) := zdc_423.1
theorem dX11_dry_49 : decode cX11_dry 49 = .ok (.iload_n 3, 1) := zdc_423.2.1
theorem dX11_dry_50 : decode cX11_dry 50 = .ok (.ireturn, 1) := zdc_423.2.2.1
theorem dX11_days_0 : decode cX11_days 0 = .ok (.aload_n 0, 1) := zdc_423.2.2.2.1
theorem dX11_days_1 : decode cX11_days 1 = .ok (.iload_n 1, 1) := zdc_423.2.2.2.2.1
theorem dX11_days_2 : decode cX11_days 2 = .ok (.iconst 1, 1) := zdc_423.2.2.2.2.2.1
theorem dX11_days_3 : decode cX11_days 3 = .ok (.bipush 60, 2) := zdc_423.2.2.2.2.2.2.1
theorem dX11_days_5 : decode cX11_days 5 = .ok (.invokevirtual 214, 3) := zdc_423.2.2.2.2.2.2.2.1
theorem dX11_days_8 : decode cX11_days 8 = .ok (.aload_n 0, 1) := zdc_423.2.2.2.2.2.2.2.2.1
theorem dX11_days_9 : decode cX11_days 9 = .ok (.getfield 56, 3) := zdc_423.2.2.2.2.2.2.2.2.2
theorem zdc_424 : decode cX11_days 12 = .ok (.aload_n 0, 1) ∧ decode cX11_days 13 = .ok (.getfield 19, 3) ∧ decode cX11_days 16 = .ok (.aload_n 0, 1) ∧ decode cX11_days 17 = .ok (.getfield 33, 3) ∧ decode cX11_days 20 = .ok (.invokevirtual 207, 3) ∧ decode cX11_days 23 = .ok (.iconst 0, 1) ∧ decode cX11_days 24 = .ok (.istore_n 2, 1) ∧ decode cX11_days 25 = .ok (.iconst 0, 1) ∧ decode cX11_days 26 = .ok (.istore_n 3, 1) ∧ decode cX11_days 27 = .ok (.iload_n 3, 1) := by decide +kernel
theorem dX11_days_12 : decode cX11_days 12 = .ok (.aload_n 0, 1) := zdc_424.1
theorem dX11_days_13 : decode cX11_days 13 = .ok (.getfield 19, 3) := zdc_424.2.1
theorem dX11_days_16 : decode cX11_days 16 = .ok (.aload_n 0, 1) := zdc_424.2.2.1
theorem dX11_days_17 : decode cX11_days 17 = .ok (.getfield 33, 3) := zdc_424.2.2.2.1
theorem dX11_days_20 : decode cX11_days 20 = .ok (.invokevirtual 207, 3) := zdc_424.2.2.2.2.1
theorem dX11_days_23 : decode cX11_days 23 = .ok (.iconst 0, 1) := zdc_424.2.2.2.2.2.1
theorem dX11_days_24 : decode cX11_days 24 = .ok (.istore_n 2, 1) := zdc_424.2.2.2.2.2.2.1
theorem dX11_days_25 : decode cX11_days 25 = .ok (.iconst 0, 1) := zdc_424.2.2.2.2.2.2.2.1
theorem dX11_days_26 : decode cX11_days 26 = .ok (.istore_n 3, 1) := zdc_424.2.2.2.2.2.2.2.2.1
theorem dX11_days_27 : decode cX11_days 27 = .ok (.iload_n 3, 1) := zdc_424.2.2.2.2.2.2.2.2.2
theorem zdc_425 : decode cX11_days 28 = .ok (.iload_n 1, 1) ∧ decode cX11_days 29 = .ok (.if_icmp .ge 28, 3) ∧ decode cX11_days 32 = .ok (.iload_n 2, 1) ∧ decode cX11_days 33 = .ok (.aload_n 0, 1) ∧ decode cX11_days 34 = .ok (.getfield 19, 3) ∧ decode cX11_days 37 = .ok (.aload_n 0, 1) ∧ decode cX11_days 38 = .ok (.getfield 26, 3) ∧ decode cX11_days 41 = .ok (.iconst 1, 1) ∧ decode cX11_days 42 = .ok (.aload_n 0, 1) ∧ decode cX11_days 43 = .ok (.getfield 33, 3) := by decide +kernel
theorem dX11_days_28 : decode cX11_days 28 = .ok (.iload_n 1, 1) := zdc_425.1
theorem dX11_days_29 : decode cX11_days 29 = .ok (.if_icmp .ge 28, 3) := zdc_425.2.1
theorem dX11_days_32 : decode cX11_days 32 = .ok (.iload_n 2, 1) := zdc_425.2.2.1
theorem dX11_days_33 : decode cX11_days 33 = .ok (.aload_n 0, 1) := zdc_425.2.2.2.1
theorem dX11_days_34 : decode cX11_days 34 = .ok (.getfield 19, 3) := zdc_425.2.2.2.2.1
theorem dX11_days_37 : decode cX11_days 37 = .ok (.aload_n 0, 1) := zdc_425.2.2.2.2.2.1
theorem dX11_days_38 : decode cX11_days 38 = .ok (.getfield 26, 3) := zdc_425.2.2.2.2.2.2.1
theorem dX11_days_41 : decode cX11_days 41 = .ok (.iconst 1, 1) := zdc_425.2.2.2.2.2.2.2.1
theorem dX11_days_42 : decode cX11_days 42 = .ok (.aload_n 0, 1) := zdc_425.2.2.2.2.2.2.2.2.1
theorem dX11_days_43 : decode cX11_days 43 = .ok (.getfield 33, 3) := zdc_425.2.2.2.2.2.2.2.2.2
theorem zdc_426 : decode cX11_days 46 = .ok (.invokevirtual 239, 3) ∧ decode cX11_days 49 = .ok (.iadd, 1) ∧ decode cX11_days 50 = .ok (.istore_n 2, 1) ∧ decode cX11_days 51 = .ok (.iinc 3 1, 3) ∧ decode cX11_days 54 = .ok (.goto (-27), 3) ∧ decode cX11_days 57 = .ok (.iload_n 2, 1) ∧ decode cX11_days 58 = .ok (.ireturn, 1) ∧ decode cX11_ahead 0 = .ok (.aload_n 0, 1) ∧ decode cX11_ahead 1 = .ok (.iload_n 1, 1) ∧ decode cX11_ahead 2 = .ok (.invokevirtual 138, 3) := by decide +kernel
theorem dX11_days_46 : decode cX11_days 46 = .ok (.invokevirtual 239, 3) := zdc_426.1
theorem dX11_days_49 : decode cX11_days 49 = .ok (.iadd, 1) := zdc_426.2.1
theorem dX11_days_50 : decode cX11_days 50 = .ok (.istore_n 2, 1) := zdc_426.2.2.1
theorem dX11_days_51 : decode cX11_days 51 = .ok (.iinc 3 1, 3) := zdc_426.2.2.2.1
theorem dX11_days_54 : decode cX11_days 54 = .ok (.goto (-27), 3) := zdc_426.2.2.2.2.1
theorem dX11_days_57 : decode cX11_days 57 = .ok (.iload_n 2, 1) := zdc_426.2.2.2.2.2.1
theorem dX11_days_58 : decode cX11_days 58 = .ok (.ireturn, 1) := zdc_426.2.2.2.2.2.2.1
theorem dX11_ahead_0 : decode cX11_ahead 0 = .ok (.aload_n 0, 1) := zdc_426.2.2.2.2.2.2.2.1
theorem dX11_ahead_1 : decode cX11_ahead 1 = .ok (.iload_n 1, 1) := zdc_426.2.2.2.2.2.2.2.2.1
theorem dX11_ahead_2 : decode cX11_ahead 2 = .ok (.invokevirtual 138, 3) := zdc_426.2.2.2.2.2.2.2.2.2
theorem zdc_427 : decode cX11_ahead 5 = .ok (.aload_n 0, 1) ∧ decode cX11_ahead 6 = .ok (.iload_n 2, 1) ∧ decode cX11_ahead 7 = .ok (.iconst 0, 1) ∧ decode cX11_ahead 8 = .ok (.bipush 100, 2) ∧ decode cX11_ahead 10 = .ok (.invokevirtual 214, 3) ∧ decode cX11_ahead 13 = .ok (.aload_n 0, 1) ∧ decode cX11_ahead 14 = .ok (.getfield 65, 3) ∧ decode cX11_ahead 17 = .ok (.iconst 0, 1) ∧ decode cX11_ahead 18 = .ok (.iconst 0, 1) ∧ decode cX11_ahead 19 = .ok (.iload_n 2, 1) := by decide +kernel
theorem dX11_ahead_5 : decode cX11_ahead 5 = .ok (.aload_n 0, 1) := zdc_427.1
theorem dX11_ahead_6 : decode cX11_ahead 6 = .ok (.iload_n 2, 1) := zdc_427.2.1
theorem dX11_ahead_7 : decode cX11_ahead 7 = .ok (.iconst 0, 1) := zdc_427.2.2.1
theorem dX11_ahead_8 : decode cX11_ahead 8 = .ok (.bipush 100, 2) := zdc_427.2.2.2.1
theorem dX11_ahead_10 : decode cX11_ahead 10 = .ok (.invokevirtual 214, 3) := zdc_427.2.2.2.2.1
theorem dX11_ahead_13 : decode cX11_ahead 13 = .ok (.aload_n 0, 1) := zdc_427.2.2.2.2.2.1
theorem dX11_ahead_14 : decode cX11_ahead 14 = .ok (.getfield 65, 3) := zdc_427.2.2.2.2.2.2.1
theorem dX11_ahead_17 : decode cX11_ahead 17 = .ok (.iconst 0, 1) := zdc_427.2.2.2.2.2.2.2.1
theorem dX11_ahead_18 : decode cX11_ahead 18 = .ok (.iconst 0, 1) := zdc_427.2.2.2.2.2.2.2.2.1
theorem dX11_ahead_19 : decode cX11_ahead 19 = .ok (.iload_n 2, 1) := zdc_427.2.2.2.2.2.2.2.2.2
theorem zdc_428 : decode cX11_ahead 20 = .ok (.invokevirtual 243, 3) ∧ decode cX11_ahead 23 = .ok (.pop, 1) ∧ decode cX11_ahead 24 = .ok (.aload_n 0, 1) ∧ decode cX11_ahead 25 = .ok (.getfield 65, 3) ∧ decode cX11_ahead 28 = .ok (.getfield 247, 3) ∧ decode cX11_ahead 31 = .ok (.getfield 141, 3) ∧ decode cX11_ahead 34 = .ok (.iload_n 1, 1) ∧ decode cX11_ahead 35 = .ok (.iaload, 1) ∧ decode cX11_ahead 36 = .ok (.ireturn, 1) ∧ decode cX11_then 0 = .ok (.aload_n 0, 1) := by decide +kernel
theorem dX11_ahead_20 : decode cX11_ahead 20 = .ok (.invokevirtual 243, 3) := zdc_428.1
theorem dX11_ahead_23 : decode cX11_ahead 23 = .ok (.pop, 1) := zdc_428.2.1
theorem dX11_ahead_24 : decode cX11_ahead 24 = .ok (.aload_n 0, 1) := zdc_428.2.2.1
theorem dX11_ahead_25 : decode cX11_ahead 25 = .ok (.getfield 65, 3) := zdc_428.2.2.2.1
theorem dX11_ahead_28 : decode cX11_ahead 28 = .ok (.getfield 247, 3) := zdc_428.2.2.2.2.1
theorem dX11_ahead_31 : decode cX11_ahead 31 = .ok (.getfield 141, 3) := zdc_428.2.2.2.2.2.1
theorem dX11_ahead_34 : decode cX11_ahead 34 = .ok (.iload_n 1, 1) := zdc_428.2.2.2.2.2.2.1
theorem dX11_ahead_35 : decode cX11_ahead 35 = .ok (.iaload, 1) := zdc_428.2.2.2.2.2.2.2.1
theorem dX11_ahead_36 : decode cX11_ahead 36 = .ok (.ireturn, 1) := zdc_428.2.2.2.2.2.2.2.2.1
theorem dX11_then_0 : decode cX11_then 0 = .ok (.aload_n 0, 1) := zdc_428.2.2.2.2.2.2.2.2.2
theorem zdc_429 : decode cX11_then 1 = .ok (.iload_n 1, 1) ∧ decode cX11_then 2 = .ok (.iconst 0, 1) ∧ decode cX11_then 3 = .ok (.bipush 100, 2) ∧ decode cX11_then 5 = .ok (.invokevirtual 214, 3) ∧ decode cX11_then 8 = .ok (.aload_n 0, 1) ∧ decode cX11_then 9 = .ok (.getfield 65, 3) ∧ decode cX11_then 12 = .ok (.iconst 0, 1) ∧ decode cX11_then 13 = .ok (.iconst 0, 1) ∧ decode cX11_then 14 = .ok (.iload_n 1, 1) ∧ decode cX11_then 15 = .ok (.invokevirtual 243, 3) := by decide +kernel
theorem dX11_then_1 : decode cX11_then 1 = .ok (.iload_n 1, 1) := zdc_429.1
theorem dX11_then_2 : decode cX11_then 2 = .ok (.iconst 0, 1) := zdc_429.2.1
theorem dX11_then_3 : decode cX11_then 3 = .ok (.bipush 100, 2) := zdc_429.2.2.1
theorem dX11_then_5 : decode cX11_then 5 = .ok (.invokevirtual 214, 3) := zdc_429.2.2.2.1
theorem dX11_then_8 : decode cX11_then 8 = .ok (.aload_n 0, 1) := zdc_429.2.2.2.2.1
theorem dX11_then_9 : decode cX11_then 9 = .ok (.getfield 65, 3) := zdc_429.2.2.2.2.2.1
theorem dX11_then_12 : decode cX11_then 12 = .ok (.iconst 0, 1) := zdc_429.2.2.2.2.2.2.1
theorem dX11_then_13 : decode cX11_then 13 = .ok (.iconst 0, 1) := zdc_429.2.2.2.2.2.2.2.1
theorem dX11_then_14 : decode cX11_then 14 = .ok (.iload_n 1, 1) := zdc_429.2.2.2.2.2.2.2.2.1
theorem dX11_then_15 : decode cX11_then 15 = .ok (.invokevirtual 243, 3) := zdc_429.2.2.2.2.2.2.2.2.2
theorem zdc_430 : decode cX11_then 18 = .ok (.istore_n 3, 1) ∧ decode cX11_then 19 = .ok (.iload_n 2, 1) ∧ decode cX11_then 20 = .ok (.ifCond .eq 16, 3) ∧ decode cX11_then 23 = .ok (.aload_n 0, 1) ∧ decode cX11_then 24 = .ok (.getfield 65, 3) ∧ decode cX11_then 27 = .ok (.getfield 247, 3) ∧ decode cX11_then 30 = .ok (.getfield 231, 3) ∧ decode cX11_then 33 = .ok (.goto 4, 3) ∧ decode cX11_then 36 = .ok (.iload_n 3, 1) ∧ decode cX11_then 37 = .ok (.ireturn, 1) := by decide +kernel
theorem dX11_then_18 : decode cX11_then 18 = .ok (.istore_n 3, 1) := zdc_430.1
theorem dX11_then_19 : decode cX11_then 19 = .ok (.iload_n 2, 1) := zdc_430.2.1
theorem dX11_then_20 : decode cX11_then 20 = .ok (.ifCond .eq 16, 3) := zdc_430.2.2.1
theorem dX11_then_23 : decode cX11_then 23 = .ok (.aload_n 0, 1) := zdc_430.2.2.2.1
theorem dX11_then_24 : decode cX11_then 24 = .ok (.getfield 65, 3) := zdc_430.2.2.2.2.1
theorem dX11_then_27 : decode cX11_then 27 = .ok (.getfield 247, 3) := zdc_430.2.2.2.2.2.1
theorem dX11_then_30 : decode cX11_then 30 = .ok (.getfield 231, 3) := zdc_430.2.2.2.2.2.2.1
theorem dX11_then_33 : decode cX11_then 33 = .ok (.goto 4, 3) := zdc_430.2.2.2.2.2.2.2.1
theorem dX11_then_36 : decode cX11_then 36 = .ok (.iload_n 3, 1) := zdc_430.2.2.2.2.2.2.2.2.1
theorem dX11_then_37 : decode cX11_then 37 = .ok (.ireturn, 1) := zdc_430.2.2.2.2.2.2.2.2.2
theorem zdc_431 : decode cX11_sways 0 = .ok (.aload_n 0, 1) ∧ decode cX11_sways 1 = .ok (.iload_n 1, 1) ∧ decode cX11_sways 2 = .ok (.invokevirtual 138, 3) ∧ decode cX11_sways 5 = .ok (.aload_n 0, 1) ∧ decode cX11_sways 6 = .ok (.iload_n 2, 1) ∧ decode cX11_sways 7 = .ok (.iconst 0, 1) ∧ decode cX11_sways 8 = .ok (.bipush 30, 2) ∧ decode cX11_sways 10 = .ok (.invokevirtual 214, 3) ∧ decode cX11_sways 13 = .ok (.aload_n 0, 1) ∧ decode cX11_sways 14 = .ok (.getfield 65, 3) := by decide +kernel
theorem dX11_sways_0 : decode cX11_sways 0 = .ok (.aload_n 0, 1) := zdc_431.1
theorem dX11_sways_1 : decode cX11_sways 1 = .ok (.iload_n 1, 1) := zdc_431.2.1
theorem dX11_sways_2 : decode cX11_sways 2 = .ok (.invokevirtual 138, 3) := zdc_431.2.2.1
theorem dX11_sways_5 : decode cX11_sways 5 = .ok (.aload_n 0, 1) := zdc_431.2.2.2.1
theorem dX11_sways_6 : decode cX11_sways 6 = .ok (.iload_n 2, 1) := zdc_431.2.2.2.2.1
theorem dX11_sways_7 : decode cX11_sways 7 = .ok (.iconst 0, 1) := zdc_431.2.2.2.2.2.1
theorem dX11_sways_8 : decode cX11_sways 8 = .ok (.bipush 30, 2) := zdc_431.2.2.2.2.2.2.1
theorem dX11_sways_10 : decode cX11_sways 10 = .ok (.invokevirtual 214, 3) := zdc_431.2.2.2.2.2.2.2.1
theorem dX11_sways_13 : decode cX11_sways 13 = .ok (.aload_n 0, 1) := zdc_431.2.2.2.2.2.2.2.2.1
theorem dX11_sways_14 : decode cX11_sways 14 = .ok (.getfield 65, 3) := zdc_431.2.2.2.2.2.2.2.2.2
theorem zdc_432 : decode cX11_sways 17 = .ok (.iconst 1, 1) ∧ decode cX11_sways 18 = .ok (.iload_n 1, 1) ∧ decode cX11_sways 19 = .ok (.ishl, 1) ∧ decode cX11_sways 20 = .ok (.bipush 10, 2) ∧ decode cX11_sways 22 = .ok (.iload_n 2, 1) ∧ decode cX11_sways 23 = .ok (.invokevirtual 243, 3) ∧ decode cX11_sways 26 = .ok (.aload_n 0, 1) ∧ decode cX11_sways 27 = .ok (.getfield 65, 3) ∧ decode cX11_sways 30 = .ok (.iconst 0, 1) ∧ decode cX11_sways 31 = .ok (.iconst 0, 1) := by decide +kernel
theorem dX11_sways_17 : decode cX11_sways 17 = .ok (.iconst 1, 1) := zdc_432.1
theorem dX11_sways_18 : decode cX11_sways 18 = .ok (.iload_n 1, 1) := zdc_432.2.1
theorem dX11_sways_19 : decode cX11_sways 19 = .ok (.ishl, 1) := zdc_432.2.2.1
theorem dX11_sways_20 : decode cX11_sways 20 = .ok (.bipush 10, 2) := zdc_432.2.2.2.1
theorem dX11_sways_22 : decode cX11_sways 22 = .ok (.iload_n 2, 1) := zdc_432.2.2.2.2.1
theorem dX11_sways_23 : decode cX11_sways 23 = .ok (.invokevirtual 243, 3) := zdc_432.2.2.2.2.2.1
theorem dX11_sways_26 : decode cX11_sways 26 = .ok (.aload_n 0, 1) := zdc_432.2.2.2.2.2.2.1
theorem dX11_sways_27 : decode cX11_sways 27 = .ok (.getfield 65, 3) := zdc_432.2.2.2.2.2.2.2.1
theorem dX11_sways_30 : decode cX11_sways 30 = .ok (.iconst 0, 1) := zdc_432.2.2.2.2.2.2.2.2.1
theorem dX11_sways_31 : decode cX11_sways 31 = .ok (.iconst 0, 1) := zdc_432.2.2.2.2.2.2.2.2.2
theorem zdc_433 : decode cX11_sways 32 = .ok (.iload_n 2, 1) ∧ decode cX11_sways 33 = .ok (.invokevirtual 243, 3) ∧ decode cX11_sways 36 = .ok (.isub, 1) ∧ decode cX11_sways 37 = .ok (.ireturn, 1) ∧ decode cX11_guru 0 = .ok (.aload_n 0, 1) ∧ decode cX11_guru 1 = .ok (.iload_n 1, 1) ∧ decode cX11_guru 2 = .ok (.iconst 0, 1) ∧ decode cX11_guru 3 = .ok (.bipush 30, 2) ∧ decode cX11_guru 5 = .ok (.invokevirtual 214, 3) ∧ decode cX11_guru 8 = .ok (.aload_n 0, 1) := by decide +kernel
theorem dX11_sways_32 : decode cX11_sways 32 = .ok (.iload_n 2, 1) := zdc_433.1
theorem dX11_sways_33 : decode cX11_sways 33 = .ok (.invokevirtual 243, 3) := zdc_433.2.1
theorem dX11_sways_36 : decode cX11_sways 36 = .ok (.isub, 1) := zdc_433.2.2.1
theorem dX11_sways_37 : decode cX11_sways 37 = .ok (.ireturn, 1) := zdc_433.2.2.2.1
theorem dX11_guru_0 : decode cX11_guru 0 = .ok (.aload_n 0, 1) := zdc_433.2.2.2.2.1
theorem dX11_guru_1 : decode cX11_guru 1 = .ok (.iload_n 1, 1) := zdc_433.2.2.2.2.2.1
theorem dX11_guru_2 : decode cX11_guru 2 = .ok (.iconst 0, 1) := zdc_433.2.2.2.2.2.2.1
theorem dX11_guru_3 : decode cX11_guru 3 = .ok (.bipush 30, 2) := zdc_433.2.2.2.2.2.2.2.1
theorem dX11_guru_5 : decode cX11_guru 5 = .ok (.invokevirtual 214, 3) := zdc_433.2.2.2.2.2.2.2.2.1
theorem dX11_guru_8 : decode cX11_guru 8 = .ok (.aload_n 0, 1) := zdc_433.2.2.2.2.2.2.2.2.2
theorem zdc_434 : decode cX11_guru 9 = .ok (.getfield 65, 3) ∧ decode cX11_guru 12 = .ok (.iload_n 1, 1) ∧ decode cX11_guru 13 = .ok (.invokevirtual 250, 3) ∧ decode cX11_guru 16 = .ok (.ireturn, 1) ∧ decode cX11_must 0 = .ok (.aload_n 0, 1) ∧ decode cX11_must 1 = .ok (.iload_n 1, 1) ∧ decode cX11_must 2 = .ok (.iconst 1, 1) ∧ decode cX11_must 3 = .ok (.sipush 792, 3) ∧ decode cX11_must 6 = .ok (.invokevirtual 214, 3) ∧ decode cX11_must 9 = .ok (.aload_n 0, 1) := by decide +kernel
theorem dX11_guru_9 : decode cX11_guru 9 = .ok (.getfield 65, 3) := zdc_434.1
theorem dX11_guru_12 : decode cX11_guru 12 = .ok (.iload_n 1, 1) := zdc_434.2.1
theorem dX11_guru_13 : decode cX11_guru 13 = .ok (.invokevirtual 250, 3) := zdc_434.2.2.1
theorem dX11_guru_16 : decode cX11_guru 16 = .ok (.ireturn, 1) := zdc_434.2.2.2.1
theorem dX11_must_0 : decode cX11_must 0 = .ok (.aload_n 0, 1) := zdc_434.2.2.2.2.1
theorem dX11_must_1 : decode cX11_must 1 = .ok (.iload_n 1, 1) := zdc_434.2.2.2.2.2.1
theorem dX11_must_2 : decode cX11_must 2 = .ok (.iconst 1, 1) := zdc_434.2.2.2.2.2.2.1
theorem dX11_must_3 : decode cX11_must 3 = .ok (.sipush 792, 3) := zdc_434.2.2.2.2.2.2.2.1
theorem dX11_must_6 : decode cX11_must 6 = .ok (.invokevirtual 214, 3) := zdc_434.2.2.2.2.2.2.2.2.1
theorem dX11_must_9 : decode cX11_must 9 = .ok (.aload_n 0, 1) := zdc_434.2.2.2.2.2.2.2.2.2
theorem zdc_435 : decode cX11_must 10 = .ok (.iload_n 2, 1) ∧ decode cX11_must 11 = .ok (.iconst 0, 1) ∧ decode cX11_must 12 = .ok (.bipush 30, 2) ∧ decode cX11_must 14 = .ok (.invokevirtual 214, 3) ∧ decode cX11_must 17 = .ok (.aload_n 0, 1) ∧ decode cX11_must 18 = .ok (.getfield 65, 3) ∧ decode cX11_must 21 = .ok (.iload_n 1, 1) ∧ decode cX11_must 22 = .ok (.iload_n 2, 1) ∧ decode cX11_must 23 = .ok (.invokevirtual 253, 3) ∧ decode cX11_must 26 = .ok (.ireturn, 1) := by decide +kernel
theorem dX11_must_10 : decode cX11_must 10 = .ok (.iload_n 2, 1) := zdc_435.1
theorem dX11_must_11 : decode cX11_must 11 = .ok (.iconst 0, 1) := zdc_435.2.1
theorem dX11_must_12 : decode cX11_must 12 = .ok (.bipush 30, 2) := zdc_435.2.2.1
theorem dX11_must_14 : decode cX11_must 14 = .ok (.invokevirtual 214, 3) := zdc_435.2.2.2.1
theorem dX11_must_17 : decode cX11_must 17 = .ok (.aload_n 0, 1) := zdc_435.2.2.2.2.1
theorem dX11_must_18 : decode cX11_must 18 = .ok (.getfield 65, 3) := zdc_435.2.2.2.2.2.1
theorem dX11_must_21 : decode cX11_must 21 = .ok (.iload_n 1, 1) := zdc_435.2.2.2.2.2.2.1
theorem dX11_must_22 : decode cX11_must 22 = .ok (.iload_n 2, 1) := zdc_435.2.2.2.2.2.2.2.1
theorem dX11_must_23 : decode cX11_must 23 = .ok (.invokevirtual 253, 3) := zdc_435.2.2.2.2.2.2.2.2.1
theorem dX11_must_26 : decode cX11_must 26 = .ok (.ireturn, 1) := zdc_435.2.2.2.2.2.2.2.2.2
theorem zdc_436 : decode cX11_reaches 0 = .ok (.aload_n 0, 1) ∧ decode cX11_reaches 1 = .ok (.iload_n 1, 1) ∧ decode cX11_reaches 2 = .ok (.iconst 1, 1) ∧ decode cX11_reaches 3 = .ok (.sipush 792, 3) ∧ decode cX11_reaches 6 = .ok (.invokevirtual 214, 3) ∧ decode cX11_reaches 9 = .ok (.aload_n 0, 1) ∧ decode cX11_reaches 10 = .ok (.getfield 65, 3) ∧ decode cX11_reaches 13 = .ok (.iload_n 1, 1) ∧ decode cX11_reaches 14 = .ok (.invokevirtual 256, 3) ∧ decode cX11_reaches 17 = .ok (.ireturn, 1) := by decide +kernel
theorem dX11_reaches_0 : decode cX11_reaches 0 = .ok (.aload_n 0, 1) := zdc_436.1
theorem dX11_reaches_1 : decode cX11_reaches 1 = .ok (.iload_n 1, 1) := zdc_436.2.1
theorem dX11_reaches_2 : decode cX11_reaches 2 = .ok (.iconst 1, 1) := zdc_436.2.2.1
theorem dX11_reaches_3 : decode cX11_reaches 3 = .ok (.sipush 792, 3) := zdc_436.2.2.2.1
theorem dX11_reaches_6 : decode cX11_reaches 6 = .ok (.invokevirtual 214, 3) := zdc_436.2.2.2.2.1
theorem dX11_reaches_9 : decode cX11_reaches 9 = .ok (.aload_n 0, 1) := zdc_436.2.2.2.2.2.1
theorem dX11_reaches_10 : decode cX11_reaches 10 = .ok (.getfield 65, 3) := zdc_436.2.2.2.2.2.2.1
theorem dX11_reaches_13 : decode cX11_reaches 13 = .ok (.iload_n 1, 1) := zdc_436.2.2.2.2.2.2.2.1
theorem dX11_reaches_14 : decode cX11_reaches 14 = .ok (.invokevirtual 256, 3) := zdc_436.2.2.2.2.2.2.2.2.1
theorem dX11_reaches_17 : decode cX11_reaches 17 = .ok (.ireturn, 1) := zdc_436.2.2.2.2.2.2.2.2.2
theorem zdc_437 : decode cX11_doubts 0 = .ok (.aload_n 0, 1) ∧ decode cX11_doubts 1 = .ok (.getfield 19, 3) ∧ decode cX11_doubts 4 = .ok (.invokevirtual 259, 3) ∧ decode cX11_doubts 7 = .ok (.ireturn, 1) ∧ decode cX11_ruin 0 = .ok (.aload_n 0, 1) ∧ decode cX11_ruin 1 = .ok (.getfield 65, 3) ∧ decode cX11_ruin 4 = .ok (.invokevirtual 262, 3) ∧ decode cX11_ruin 7 = .ok (.ireturn, 1) ∧ decode cX11_dearest 0 = .ok (.aload_n 0, 1) ∧ decode cX11_dearest 1 = .ok (.iload_n 1, 1) := by decide +kernel
theorem dX11_doubts_0 : decode cX11_doubts 0 = .ok (.aload_n 0, 1) := zdc_437.1
theorem dX11_doubts_1 : decode cX11_doubts 1 = .ok (.getfield 19, 3) := zdc_437.2.1
theorem dX11_doubts_4 : decode cX11_doubts 4 = .ok (.invokevirtual 259, 3) := zdc_437.2.2.1
theorem dX11_doubts_7 : decode cX11_doubts 7 = .ok (.ireturn, 1) := zdc_437.2.2.2.1
theorem dX11_ruin_0 : decode cX11_ruin 0 = .ok (.aload_n 0, 1) := zdc_437.2.2.2.2.1
theorem dX11_ruin_1 : decode cX11_ruin 1 = .ok (.getfield 65, 3) := zdc_437.2.2.2.2.2.1
theorem dX11_ruin_4 : decode cX11_ruin 4 = .ok (.invokevirtual 262, 3) := zdc_437.2.2.2.2.2.2.1
theorem dX11_ruin_7 : decode cX11_ruin 7 = .ok (.ireturn, 1) := zdc_437.2.2.2.2.2.2.2.1
theorem dX11_dearest_0 : decode cX11_dearest 0 = .ok (.aload_n 0, 1) := zdc_437.2.2.2.2.2.2.2.2.1
theorem dX11_dearest_1 : decode cX11_dearest 1 = .ok (.iload_n 1, 1) := zdc_437.2.2.2.2.2.2.2.2.2
theorem zdc_438 : decode cX11_dearest 2 = .ok (.iconst 0, 1) ∧ decode cX11_dearest 3 = .ok (.bipush 100, 2) ∧ decode cX11_dearest 5 = .ok (.invokevirtual 214, 3) ∧ decode cX11_dearest 8 = .ok (.aload_n 0, 1) ∧ decode cX11_dearest 9 = .ok (.getfield 65, 3) ∧ decode cX11_dearest 12 = .ok (.iload_n 1, 1) ∧ decode cX11_dearest 13 = .ok (.iload_n 2, 1) ∧ decode cX11_dearest 14 = .ok (.invokevirtual 265, 3) ∧ decode cX11_dearest 17 = .ok (.ireturn, 1) ∧ decode cX11_falls 0 = .ok (.aload_n 0, 1) := by decide +kernel
theorem dX11_dearest_2 : decode cX11_dearest 2 = .ok (.iconst 0, 1) := zdc_438.1
theorem dX11_dearest_3 : decode cX11_dearest 3 = .ok (.bipush 100, 2) := zdc_438.2.1
theorem dX11_dearest_5 : decode cX11_dearest 5 = .ok (.invokevirtual 214, 3) := zdc_438.2.2.1
theorem dX11_dearest_8 : decode cX11_dearest 8 = .ok (.aload_n 0, 1) := zdc_438.2.2.2.1
theorem dX11_dearest_9 : decode cX11_dearest 9 = .ok (.getfield 65, 3) := zdc_438.2.2.2.2.1
theorem dX11_dearest_12 : decode cX11_dearest 12 = .ok (.iload_n 1, 1) := zdc_438.2.2.2.2.2.1
theorem dX11_dearest_13 : decode cX11_dearest 13 = .ok (.iload_n 2, 1) := zdc_438.2.2.2.2.2.2.1
theorem dX11_dearest_14 : decode cX11_dearest 14 = .ok (.invokevirtual 265, 3) := zdc_438.2.2.2.2.2.2.2.1
theorem dX11_dearest_17 : decode cX11_dearest 17 = .ok (.ireturn, 1) := zdc_438.2.2.2.2.2.2.2.2.1
theorem dX11_falls_0 : decode cX11_falls 0 = .ok (.aload_n 0, 1) := zdc_438.2.2.2.2.2.2.2.2.2
theorem zdc_439 : decode cX11_falls 1 = .ok (.iload_n 1, 1) ∧ decode cX11_falls 2 = .ok (.iconst 0, 1) ∧ decode cX11_falls 3 = .ok (.bipush 100, 2) ∧ decode cX11_falls 5 = .ok (.invokevirtual 214, 3) ∧ decode cX11_falls 8 = .ok (.aload_n 0, 1) ∧ decode cX11_falls 9 = .ok (.getfield 65, 3) ∧ decode cX11_falls 12 = .ok (.iconst 0, 1) ∧ decode cX11_falls 13 = .ok (.iconst 0, 1) ∧ decode cX11_falls 14 = .ok (.iload_n 1, 1) ∧ decode cX11_falls 15 = .ok (.invokevirtual 243, 3) := by decide +kernel
theorem dX11_falls_1 : decode cX11_falls 1 = .ok (.iload_n 1, 1) := zdc_439.1
theorem dX11_falls_2 : decode cX11_falls 2 = .ok (.iconst 0, 1) := zdc_439.2.1
theorem dX11_falls_3 : decode cX11_falls 3 = .ok (.bipush 100, 2) := zdc_439.2.2.1
theorem dX11_falls_5 : decode cX11_falls 5 = .ok (.invokevirtual 214, 3) := zdc_439.2.2.2.1
theorem dX11_falls_8 : decode cX11_falls 8 = .ok (.aload_n 0, 1) := zdc_439.2.2.2.2.1
theorem dX11_falls_9 : decode cX11_falls 9 = .ok (.getfield 65, 3) := zdc_439.2.2.2.2.2.1
theorem dX11_falls_12 : decode cX11_falls 12 = .ok (.iconst 0, 1) := zdc_439.2.2.2.2.2.2.1
theorem dX11_falls_13 : decode cX11_falls 13 = .ok (.iconst 0, 1) := zdc_439.2.2.2.2.2.2.2.1
theorem dX11_falls_14 : decode cX11_falls 14 = .ok (.iload_n 1, 1) := zdc_439.2.2.2.2.2.2.2.2.1
theorem dX11_falls_15 : decode cX11_falls 15 = .ok (.invokevirtual 243, 3) := zdc_439.2.2.2.2.2.2.2.2.2
theorem zdc_440 : decode cX11_falls 18 = .ok (.pop, 1) ∧ decode cX11_falls 19 = .ok (.aload_n 0, 1) ∧ decode cX11_falls 20 = .ok (.getfield 65, 3) ∧ decode cX11_falls 23 = .ok (.getfield 247, 3) ∧ decode cX11_falls 26 = .ok (.iconst 2, 1) ∧ decode cX11_falls 27 = .ok (.invokevirtual 269, 3) ∧ decode cX11_falls 30 = .ok (.aload_n 0, 1) ∧ decode cX11_falls 31 = .ok (.getfield 19, 3) ∧ decode cX11_falls 34 = .ok (.iconst 2, 1) ∧ decode cX11_falls 35 = .ok (.invokevirtual 269, 3) := by decide +kernel
theorem dX11_falls_18 : decode cX11_falls 18 = .ok (.pop, 1) := zdc_440.1
theorem dX11_falls_19 : decode cX11_falls 19 = .ok (.aload_n 0, 1) := zdc_440.2.1
theorem dX11_falls_20 : decode cX11_falls 20 = .ok (.getfield 65, 3) := zdc_440.2.2.1
theorem dX11_falls_23 : decode cX11_falls 23 = .ok (.getfield 247, 3) := zdc_440.2.2.2.1
theorem dX11_falls_26 : decode cX11_falls 26 = .ok (.iconst 2, 1) := zdc_440.2.2.2.2.1
theorem dX11_falls_27 : decode cX11_falls 27 = .ok (.invokevirtual 269, 3) := zdc_440.2.2.2.2.2.1
theorem dX11_falls_30 : decode cX11_falls 30 = .ok (.aload_n 0, 1) := zdc_440.2.2.2.2.2.2.1
theorem dX11_falls_31 : decode cX11_falls 31 = .ok (.getfield 19, 3) := zdc_440.2.2.2.2.2.2.2.1
theorem dX11_falls_34 : decode cX11_falls 34 = .ok (.iconst 2, 1) := zdc_440.2.2.2.2.2.2.2.2.1
theorem dX11_falls_35 : decode cX11_falls 35 = .ok (.invokevirtual 269, 3) := zdc_440.2.2.2.2.2.2.2.2.2
theorem zdc_441 : decode cX11_falls 38 = .ok (.iconst (-1), 1) ∧ decode cX11_falls 39 = .ok (.ixor, 1) ∧ decode cX11_falls 40 = .ok (.iand, 1) ∧ decode cX11_falls 41 = .ok (.ireturn, 1) ∧ decode cX11_chosen 0 = .ok (.aload_n 0, 1) ∧ decode cX11_chosen 1 = .ok (.getfield 19, 3) ∧ decode cX11_chosen 4 = .ok (.invokevirtual 272, 3) ∧ decode cX11_chosen 7 = .ok (.istore_n 2, 1) ∧ decode cX11_chosen 8 = .ok (.iload_n 1, 1) ∧ decode cX11_chosen 9 = .ok (.ifCond .eq 14, 3) := by decide +kernel
theorem dX11_falls_38 : decode cX11_falls 38 = .ok (.iconst (-1), 1) := zdc_441.1
theorem dX11_falls_39 : decode cX11_falls 39 = .ok (.ixor, 1) := zdc_441.2.1
theorem dX11_falls_40 : decode cX11_falls 40 = .ok (.iand, 1) := zdc_441.2.2.1
theorem dX11_falls_41 : decode cX11_falls 41 = .ok (.ireturn, 1) := zdc_441.2.2.2.1
theorem dX11_chosen_0 : decode cX11_chosen 0 = .ok (.aload_n 0, 1) := zdc_441.2.2.2.2.1
theorem dX11_chosen_1 : decode cX11_chosen 1 = .ok (.getfield 19, 3) := zdc_441.2.2.2.2.2.1
theorem dX11_chosen_4 : decode cX11_chosen 4 = .ok (.invokevirtual 272, 3) := zdc_441.2.2.2.2.2.2.1
theorem dX11_chosen_7 : decode cX11_chosen 7 = .ok (.istore_n 2, 1) := zdc_441.2.2.2.2.2.2.2.1
theorem dX11_chosen_8 : decode cX11_chosen 8 = .ok (.iload_n 1, 1) := zdc_441.2.2.2.2.2.2.2.2.1
theorem dX11_chosen_9 : decode cX11_chosen 9 = .ok (.ifCond .eq 14, 3) := zdc_441.2.2.2.2.2.2.2.2.2
theorem zdc_442 : decode cX11_chosen 12 = .ok (.aload_n 0, 1) ∧ decode cX11_chosen 13 = .ok (.getfield 19, 3) ∧ decode cX11_chosen 16 = .ok (.iload_n 2, 1) ∧ decode cX11_chosen 17 = .ok (.invokevirtual 275, 3) ∧ decode cX11_chosen 20 = .ok (.goto 4, 3) ∧ decode cX11_chosen 23 = .ok (.iload_n 2, 1) ∧ decode cX11_chosen 24 = .ok (.ireturn, 1) ∧ decode cX11_river 0 = .ok (.aload_n 0, 1) ∧ decode cX11_river 1 = .ok (.getfield 10, 3) ∧ decode cX11_river 4 = .ok (.invokevirtual 87, 3) := by decide +kernel
theorem dX11_chosen_12 : decode cX11_chosen 12 = .ok (.aload_n 0, 1) := zdc_442.1
theorem dX11_chosen_13 : decode cX11_chosen 13 = .ok (.getfield 19, 3) := zdc_442.2.1
theorem dX11_chosen_16 : decode cX11_chosen 16 = .ok (.iload_n 2, 1) := zdc_442.2.2.1
theorem dX11_chosen_17 : decode cX11_chosen 17 = .ok (.invokevirtual 275, 3) := zdc_442.2.2.2.1
theorem dX11_chosen_20 : decode cX11_chosen 20 = .ok (.goto 4, 3) := zdc_442.2.2.2.2.1
theorem dX11_chosen_23 : decode cX11_chosen 23 = .ok (.iload_n 2, 1) := zdc_442.2.2.2.2.2.1
theorem dX11_chosen_24 : decode cX11_chosen 24 = .ok (.ireturn, 1) := zdc_442.2.2.2.2.2.2.1
theorem dX11_river_0 : decode cX11_river 0 = .ok (.aload_n 0, 1) := zdc_442.2.2.2.2.2.2.2.1
theorem dX11_river_1 : decode cX11_river 1 = .ok (.getfield 10, 3) := zdc_442.2.2.2.2.2.2.2.2.1
theorem dX11_river_4 : decode cX11_river 4 = .ok (.invokevirtual 87, 3) := zdc_442.2.2.2.2.2.2.2.2.2
theorem zdc_443 : decode cX11_river 7 = .ok (.istore_n 2, 1) ∧ decode cX11_river 8 = .ok (.aload_n 0, 1) ∧ decode cX11_river 9 = .ok (.iload_n 2, 1) ∧ decode cX11_river 10 = .ok (.iload_n 1, 1) ∧ decode cX11_river 11 = .ok (.invokevirtual 278, 3) ∧ decode cX11_river 14 = .ok (.iload_n 1, 1) ∧ decode cX11_river 15 = .ok (.aload_n 0, 1) ∧ decode cX11_river 16 = .ok (.getfield 10, 3) ∧ decode cX11_river 19 = .ok (.iload_n 2, 1) ∧ decode cX11_river 20 = .ok (.invokevirtual 281, 3) := by decide +kernel
theorem dX11_river_7 : decode cX11_river 7 = .ok (.istore_n 2, 1) := zdc_443.1
theorem dX11_river_8 : decode cX11_river 8 = .ok (.aload_n 0, 1) := zdc_443.2.1
theorem dX11_river_9 : decode cX11_river 9 = .ok (.iload_n 2, 1) := zdc_443.2.2.1
theorem dX11_river_10 : decode cX11_river 10 = .ok (.iload_n 1, 1) := zdc_443.2.2.2.1
theorem dX11_river_11 : decode cX11_river 11 = .ok (.invokevirtual 278, 3) := zdc_443.2.2.2.2.1
theorem dX11_river_14 : decode cX11_river 14 = .ok (.iload_n 1, 1) := zdc_443.2.2.2.2.2.1
theorem dX11_river_15 : decode cX11_river 15 = .ok (.aload_n 0, 1) := zdc_443.2.2.2.2.2.2.1
theorem dX11_river_16 : decode cX11_river 16 = .ok (.getfield 10, 3) := zdc_443.2.2.2.2.2.2.2.1
theorem dX11_river_19 : decode cX11_river 19 = .ok (.iload_n 2, 1) := zdc_443.2.2.2.2.2.2.2.2.1
theorem dX11_river_20 : decode cX11_river 20 = .ok (.invokevirtual 281, 3) := zdc_443.2.2.2.2.2.2.2.2.2
theorem zdc_444 : decode cX11_river 23 = .ok (.invokestatic 284, 3) ∧ decode cX11_river 26 = .ok (.ireturn, 1) ∧ decode cX11_more 0 = .ok (.aload_n 0, 1) ∧ decode cX11_more 1 = .ok (.getfield 10, 3) ∧ decode cX11_more 4 = .ok (.invokevirtual 87, 3) ∧ decode cX11_more 7 = .ok (.istore_n 2, 1) ∧ decode cX11_more 8 = .ok (.aload_n 0, 1) ∧ decode cX11_more 9 = .ok (.iload_n 2, 1) ∧ decode cX11_more 10 = .ok (.iload_n 1, 1) ∧ decode cX11_more 11 = .ok (.invokevirtual 278, 3) := by decide +kernel
theorem dX11_river_23 : decode cX11_river 23 = .ok (.invokestatic 284, 3) := zdc_444.1
theorem dX11_river_26 : decode cX11_river 26 = .ok (.ireturn, 1) := zdc_444.2.1
theorem dX11_more_0 : decode cX11_more 0 = .ok (.aload_n 0, 1) := zdc_444.2.2.1
theorem dX11_more_1 : decode cX11_more 1 = .ok (.getfield 10, 3) := zdc_444.2.2.2.1
theorem dX11_more_4 : decode cX11_more 4 = .ok (.invokevirtual 87, 3) := zdc_444.2.2.2.2.1
theorem dX11_more_7 : decode cX11_more 7 = .ok (.istore_n 2, 1) := zdc_444.2.2.2.2.2.1
theorem dX11_more_8 : decode cX11_more 8 = .ok (.aload_n 0, 1) := zdc_444.2.2.2.2.2.2.1
theorem dX11_more_9 : decode cX11_more 9 = .ok (.iload_n 2, 1) := zdc_444.2.2.2.2.2.2.2.1
theorem dX11_more_10 : decode cX11_more 10 = .ok (.iload_n 1, 1) := zdc_444.2.2.2.2.2.2.2.2.1
theorem dX11_more_11 : decode cX11_more 11 = .ok (.invokevirtual 278, 3) := zdc_444.2.2.2.2.2.2.2.2.2
theorem zdc_445 : decode cX11_more 14 = .ok (.iload_n 1, 1) ∧ decode cX11_more 15 = .ok (.aload_n 0, 1) ∧ decode cX11_more 16 = .ok (.getfield 10, 3) ∧ decode cX11_more 19 = .ok (.iload_n 2, 1) ∧ decode cX11_more 20 = .ok (.invokevirtual 281, 3) ∧ decode cX11_more 23 = .ok (.invokestatic 287, 3) ∧ decode cX11_more 26 = .ok (.ireturn, 1) ∧ decode cX11_liars 0 = .ok (.aload_n 0, 1) ∧ decode cX11_liars 1 = .ok (.getfield 10, 3) ∧ decode cX11_liars 4 = .ok (.invokevirtual 87, 3) := by decide +kernel
theorem dX11_more_14 : decode cX11_more 14 = .ok (.iload_n 1, 1) := zdc_445.1
theorem dX11_more_15 : decode cX11_more 15 = .ok (.aload_n 0, 1) := zdc_445.2.1
theorem dX11_more_16 : decode cX11_more 16 = .ok (.getfield 10, 3) := zdc_445.2.2.1
theorem dX11_more_19 : decode cX11_more 19 = .ok (.iload_n 2, 1) := zdc_445.2.2.2.1
theorem dX11_more_20 : decode cX11_more 20 = .ok (.invokevirtual 281, 3) := zdc_445.2.2.2.2.1
theorem dX11_more_23 : decode cX11_more 23 = .ok (.invokestatic 287, 3) := zdc_445.2.2.2.2.2.1
theorem dX11_more_26 : decode cX11_more 26 = .ok (.ireturn, 1) := zdc_445.2.2.2.2.2.2.1
theorem dX11_liars_0 : decode cX11_liars 0 = .ok (.aload_n 0, 1) := zdc_445.2.2.2.2.2.2.2.1
theorem dX11_liars_1 : decode cX11_liars 1 = .ok (.getfield 10, 3) := zdc_445.2.2.2.2.2.2.2.2.1
theorem dX11_liars_4 : decode cX11_liars 4 = .ok (.invokevirtual 87, 3) := zdc_445.2.2.2.2.2.2.2.2.2
theorem zdc_446 : decode cX11_liars 7 = .ok (.istore_n 2, 1) ∧ decode cX11_liars 8 = .ok (.aload_n 0, 1) ∧ decode cX11_liars 9 = .ok (.iload_n 2, 1) ∧ decode cX11_liars 10 = .ok (.invokevirtual 290, 3) ∧ decode cX11_liars 13 = .ok (.aload_n 0, 1) ∧ decode cX11_liars 14 = .ok (.getfield 72, 3) ∧ decode cX11_liars 17 = .ok (.aload_n 0, 1) ∧ decode cX11_liars 18 = .ok (.getfield 10, 3) ∧ decode cX11_liars 21 = .ok (.iload_n 2, 1) ∧ decode cX11_liars 22 = .ok (.aload_n 0, 1) := by decide +kernel
theorem dX11_liars_7 : decode cX11_liars 7 = .ok (.istore_n 2, 1) := zdc_446.1
theorem dX11_liars_8 : decode cX11_liars 8 = .ok (.aload_n 0, 1) := zdc_446.2.1
theorem dX11_liars_9 : decode cX11_liars 9 = .ok (.iload_n 2, 1) := zdc_446.2.2.1
theorem dX11_liars_10 : decode cX11_liars 10 = .ok (.invokevirtual 290, 3) := zdc_446.2.2.2.1
theorem dX11_liars_13 : decode cX11_liars 13 = .ok (.aload_n 0, 1) := zdc_446.2.2.2.2.1
theorem dX11_liars_14 : decode cX11_liars 14 = .ok (.getfield 72, 3) := zdc_446.2.2.2.2.2.1
theorem dX11_liars_17 : decode cX11_liars 17 = .ok (.aload_n 0, 1) := zdc_446.2.2.2.2.2.2.1
theorem dX11_liars_18 : decode cX11_liars 18 = .ok (.getfield 10, 3) := zdc_446.2.2.2.2.2.2.2.1
theorem dX11_liars_21 : decode cX11_liars 21 = .ok (.iload_n 2, 1) := zdc_446.2.2.2.2.2.2.2.2.1
theorem dX11_liars_22 : decode cX11_liars 22 = .ok (.aload_n 0, 1) := zdc_446.2.2.2.2.2.2.2.2.2
theorem zdc_447 : decode cX11_liars 23 = .ok (.getfield 19, 3) ∧ decode cX11_liars 26 = .ok (.getfield 293, 3) ∧ decode cX11_liars 29 = .ok (.invokevirtual 296, 3) ∧ decode cX11_liars 32 = .ok (.iload_n 1, 1) ∧ decode cX11_liars 33 = .ok (.ifCond .eq 13, 3) ∧ decode cX11_liars 36 = .ok (.aload_n 0, 1) ∧ decode cX11_liars 37 = .ok (.getfield 72, 3) ∧ decode cX11_liars 40 = .ok (.invokevirtual 300, 3) ∧ decode cX11_liars 43 = .ok (.goto 10, 3) ∧ decode cX11_liars 46 = .ok (.aload_n 0, 1) := by decide +kernel
theorem dX11_liars_23 : decode cX11_liars 23 = .ok (.getfield 19, 3) := zdc_447.1
theorem dX11_liars_26 : decode cX11_liars 26 = .ok (.getfield 293, 3) := zdc_447.2.1
theorem dX11_liars_29 : decode cX11_liars 29 = .ok (.invokevirtual 296, 3) := zdc_447.2.2.1
theorem dX11_liars_32 : decode cX11_liars 32 = .ok (.iload_n 1, 1) := zdc_447.2.2.2.1
theorem dX11_liars_33 : decode cX11_liars 33 = .ok (.ifCond .eq 13, 3) := zdc_447.2.2.2.2.1
theorem dX11_liars_36 : decode cX11_liars 36 = .ok (.aload_n 0, 1) := zdc_447.2.2.2.2.2.1
theorem dX11_liars_37 : decode cX11_liars 37 = .ok (.getfield 72, 3) := zdc_447.2.2.2.2.2.2.1
theorem dX11_liars_40 : decode cX11_liars 40 = .ok (.invokevirtual 300, 3) := zdc_447.2.2.2.2.2.2.2.1
theorem dX11_liars_43 : decode cX11_liars 43 = .ok (.goto 10, 3) := zdc_447.2.2.2.2.2.2.2.2.1
theorem dX11_liars_46 : decode cX11_liars 46 = .ok (.aload_n 0, 1) := zdc_447.2.2.2.2.2.2.2.2.2
theorem zdc_448 : decode cX11_liars 47 = .ok (.getfield 72, 3) ∧ decode cX11_liars 50 = .ok (.getfield 303, 3) ∧ decode cX11_liars 53 = .ok (.ireturn, 1) ∧ decode cX11_ask 0 = .ok (.aload_n 0, 1) ∧ decode cX11_ask 1 = .ok (.getfield 10, 3) ∧ decode cX11_ask 4 = .ok (.invokevirtual 87, 3) ∧ decode cX11_ask 7 = .ok (.istore_n 1, 1) ∧ decode cX11_ask 8 = .ok (.aload_n 0, 1) ∧ decode cX11_ask 9 = .ok (.iload_n 1, 1) ∧ decode cX11_ask 10 = .ok (.invokevirtual 290, 3) := by decide +kernel
theorem dX11_liars_47 : decode cX11_liars 47 = .ok (.getfield 72, 3) := zdc_448.1
theorem dX11_liars_50 : decode cX11_liars 50 = .ok (.getfield 303, 3) := zdc_448.2.1
theorem dX11_liars_53 : decode cX11_liars 53 = .ok (.ireturn, 1) := zdc_448.2.2.1
theorem dX11_ask_0 : decode cX11_ask 0 = .ok (.aload_n 0, 1) := zdc_448.2.2.2.1
theorem dX11_ask_1 : decode cX11_ask 1 = .ok (.getfield 10, 3) := zdc_448.2.2.2.2.1
theorem dX11_ask_4 : decode cX11_ask 4 = .ok (.invokevirtual 87, 3) := zdc_448.2.2.2.2.2.1
theorem dX11_ask_7 : decode cX11_ask 7 = .ok (.istore_n 1, 1) := zdc_448.2.2.2.2.2.2.1
theorem dX11_ask_8 : decode cX11_ask 8 = .ok (.aload_n 0, 1) := zdc_448.2.2.2.2.2.2.2.1
theorem dX11_ask_9 : decode cX11_ask 9 = .ok (.iload_n 1, 1) := zdc_448.2.2.2.2.2.2.2.2.1
theorem dX11_ask_10 : decode cX11_ask 10 = .ok (.invokevirtual 290, 3) := zdc_448.2.2.2.2.2.2.2.2.2
theorem zdc_449 : decode cX11_ask 13 = .ok (.aload_n 0, 1) ∧ decode cX11_ask 14 = .ok (.getfield 72, 3) ∧ decode cX11_ask 17 = .ok (.aload_n 0, 1) ∧ decode cX11_ask 18 = .ok (.getfield 10, 3) ∧ decode cX11_ask 21 = .ok (.iload_n 1, 1) ∧ decode cX11_ask 22 = .ok (.aload_n 0, 1) ∧ decode cX11_ask 23 = .ok (.getfield 19, 3) ∧ decode cX11_ask 26 = .ok (.getfield 293, 3) ∧ decode cX11_ask 29 = .ok (.invokevirtual 296, 3) ∧ decode cX11_ask 32 = .ok (.aload_n 0, 1) := by decide +kernel
theorem dX11_ask_13 : decode cX11_ask 13 = .ok (.aload_n 0, 1) := zdc_449.1
theorem dX11_ask_14 : decode cX11_ask 14 = .ok (.getfield 72, 3) := zdc_449.2.1
theorem dX11_ask_17 : decode cX11_ask 17 = .ok (.aload_n 0, 1) := zdc_449.2.2.1
theorem dX11_ask_18 : decode cX11_ask 18 = .ok (.getfield 10, 3) := zdc_449.2.2.2.1
theorem dX11_ask_21 : decode cX11_ask 21 = .ok (.iload_n 1, 1) := zdc_449.2.2.2.2.1
theorem dX11_ask_22 : decode cX11_ask 22 = .ok (.aload_n 0, 1) := zdc_449.2.2.2.2.2.1
theorem dX11_ask_23 : decode cX11_ask 23 = .ok (.getfield 19, 3) := zdc_449.2.2.2.2.2.2.1
theorem dX11_ask_26 : decode cX11_ask 26 = .ok (.getfield 293, 3) := zdc_449.2.2.2.2.2.2.2.1
theorem dX11_ask_29 : decode cX11_ask 29 = .ok (.invokevirtual 296, 3) := zdc_449.2.2.2.2.2.2.2.2.1
theorem dX11_ask_32 : decode cX11_ask 32 = .ok (.aload_n 0, 1) := zdc_449.2.2.2.2.2.2.2.2.2
theorem zdc_450 : decode cX11_ask 33 = .ok (.getfield 72, 3) ∧ decode cX11_ask 36 = .ok (.invokevirtual 306, 3) ∧ decode cX11_ask 39 = .ok (.ireturn, 1) ∧ decode cX11_word 0 = .ok (.aload_n 0, 1) ∧ decode cX11_word 1 = .ok (.iload_n 1, 1) ∧ decode cX11_word 2 = .ok (.invokevirtual 138, 3) ∧ decode cX11_word 5 = .ok (.aload_n 0, 1) ∧ decode cX11_word 6 = .ok (.getfield 19, 3) ∧ decode cX11_word 9 = .ok (.iload_n 1, 1) ∧ decode cX11_word 10 = .ok (.invokestatic 309, 3) := by decide +kernel
theorem dX11_ask_33 : decode cX11_ask 33 = .ok (.getfield 72, 3) := zdc_450.1
theorem dX11_ask_36 : decode cX11_ask 36 = .ok (.invokevirtual 306, 3) := zdc_450.2.1
theorem dX11_ask_39 : decode cX11_ask 39 = .ok (.ireturn, 1) := zdc_450.2.2.1
theorem dX11_word_0 : decode cX11_word 0 = .ok (.aload_n 0, 1) := zdc_450.2.2.2.1
theorem dX11_word_1 : decode cX11_word 1 = .ok (.iload_n 1, 1) := zdc_450.2.2.2.2.1
theorem dX11_word_2 : decode cX11_word 2 = .ok (.invokevirtual 138, 3) := zdc_450.2.2.2.2.2.1
theorem dX11_word_5 : decode cX11_word 5 = .ok (.aload_n 0, 1) := zdc_450.2.2.2.2.2.2.1
theorem dX11_word_6 : decode cX11_word 6 = .ok (.getfield 19, 3) := zdc_450.2.2.2.2.2.2.2.1
theorem dX11_word_9 : decode cX11_word 9 = .ok (.iload_n 1, 1) := zdc_450.2.2.2.2.2.2.2.2.1
theorem dX11_word_10 : decode cX11_word 10 = .ok (.invokestatic 309, 3) := zdc_450.2.2.2.2.2.2.2.2.2
theorem zdc_451 : decode cX11_word 13 = .ok (.ireturn, 1) ∧ decode cX11_steps 0 = .ok (.aload_n 0, 1) ∧ decode cX11_steps 1 = .ok (.iload_n 1, 1) ∧ decode cX11_steps 2 = .ok (.iload_n 2, 1) ∧ decode cX11_steps 3 = .ok (.invokevirtual 176, 3) ∧ decode cX11_steps 6 = .ok (.aload_n 0, 1) ∧ decode cX11_steps 7 = .ok (.getfield 19, 3) ∧ decode cX11_steps 10 = .ok (.iload_n 1, 1) ∧ decode cX11_steps 11 = .ok (.iload_n 2, 1) ∧ decode cX11_steps 12 = .ok (.invokestatic 315, 3) := by decide +kernel
theorem dX11_word_13 : decode cX11_word 13 = .ok (.ireturn, 1) := zdc_451.1
theorem dX11_steps_0 : decode cX11_steps 0 = .ok (.aload_n 0, 1) := zdc_451.2.1
theorem dX11_steps_1 : decode cX11_steps 1 = .ok (.iload_n 1, 1) := zdc_451.2.2.1
theorem dX11_steps_2 : decode cX11_steps 2 = .ok (.iload_n 2, 1) := zdc_451.2.2.2.1
theorem dX11_steps_3 : decode cX11_steps 3 = .ok (.invokevirtual 176, 3) := zdc_451.2.2.2.2.1
theorem dX11_steps_6 : decode cX11_steps 6 = .ok (.aload_n 0, 1) := zdc_451.2.2.2.2.2.1
theorem dX11_steps_7 : decode cX11_steps 7 = .ok (.getfield 19, 3) := zdc_451.2.2.2.2.2.2.1
theorem dX11_steps_10 : decode cX11_steps 10 = .ok (.iload_n 1, 1) := zdc_451.2.2.2.2.2.2.2.1
theorem dX11_steps_11 : decode cX11_steps 11 = .ok (.iload_n 2, 1) := zdc_451.2.2.2.2.2.2.2.2.1
theorem dX11_steps_12 : decode cX11_steps 12 = .ok (.invokestatic 315, 3) := zdc_451.2.2.2.2.2.2.2.2.2
theorem zdc_452 : decode cX11_steps 15 = .ok (.ireturn, 1) ∧ decode cX11_circles 0 = .ok (.aload_n 0, 1) ∧ decode cX11_circles 1 = .ok (.getfield 19, 3) ∧ decode cX11_circles 4 = .ok (.invokestatic 319, 3) ∧ decode cX11_circles 7 = .ok (.ireturn, 1) ∧ decode cX11_hermits 0 = .ok (.aload_n 0, 1) ∧ decode cX11_hermits 1 = .ok (.getfield 19, 3) ∧ decode cX11_hermits 4 = .ok (.invokestatic 323, 3) ∧ decode cX11_hermits 7 = .ok (.ireturn, 1) ∧ decode cX11_rests 0 = .ok (.aload_n 0, 1) := by decide +kernel
theorem dX11_steps_15 : decode cX11_steps 15 = .ok (.ireturn, 1) := zdc_452.1
theorem dX11_circles_0 : decode cX11_circles 0 = .ok (.aload_n 0, 1) := zdc_452.2.1
theorem dX11_circles_1 : decode cX11_circles 1 = .ok (.getfield 19, 3) := zdc_452.2.2.1
theorem dX11_circles_4 : decode cX11_circles 4 = .ok (.invokestatic 319, 3) := zdc_452.2.2.2.1
theorem dX11_circles_7 : decode cX11_circles 7 = .ok (.ireturn, 1) := zdc_452.2.2.2.2.1
theorem dX11_hermits_0 : decode cX11_hermits 0 = .ok (.aload_n 0, 1) := zdc_452.2.2.2.2.2.1
theorem dX11_hermits_1 : decode cX11_hermits 1 = .ok (.getfield 19, 3) := zdc_452.2.2.2.2.2.2.1
theorem dX11_hermits_4 : decode cX11_hermits 4 = .ok (.invokestatic 323, 3) := zdc_452.2.2.2.2.2.2.2.1
theorem dX11_hermits_7 : decode cX11_hermits 7 = .ok (.ireturn, 1) := zdc_452.2.2.2.2.2.2.2.2.1
theorem dX11_rests_0 : decode cX11_rests 0 = .ok (.aload_n 0, 1) := zdc_452.2.2.2.2.2.2.2.2.2
theorem zdc_453 : decode cX11_rests 1 = .ok (.iload_n 1, 1) ∧ decode cX11_rests 2 = .ok (.iload_n 2, 1) ∧ decode cX11_rests 3 = .ok (.invokevirtual 176, 3) ∧ decode cX11_rests 6 = .ok (.aload_n 0, 1) ∧ decode cX11_rests 7 = .ok (.getfield 19, 3) ∧ decode cX11_rests 10 = .ok (.iload_n 1, 1) ∧ decode cX11_rests 11 = .ok (.iload_n 2, 1) ∧ decode cX11_rests 12 = .ok (.invokevirtual 180, 3) ∧ decode cX11_rests 15 = .ok (.invokestatic 326, 3) ∧ decode cX11_rests 18 = .ok (.ireturn, 1) := by decide +kernel
theorem dX11_rests_1 : decode cX11_rests 1 = .ok (.iload_n 1, 1) := zdc_453.1
theorem dX11_rests_2 : decode cX11_rests 2 = .ok (.iload_n 2, 1) := zdc_453.2.1
theorem dX11_rests_3 : decode cX11_rests 3 = .ok (.invokevirtual 176, 3) := zdc_453.2.2.1
theorem dX11_rests_6 : decode cX11_rests 6 = .ok (.aload_n 0, 1) := zdc_453.2.2.2.1
theorem dX11_rests_7 : decode cX11_rests 7 = .ok (.getfield 19, 3) := zdc_453.2.2.2.2.1
theorem dX11_rests_10 : decode cX11_rests 10 = .ok (.iload_n 1, 1) := zdc_453.2.2.2.2.2.1
theorem dX11_rests_11 : decode cX11_rests 11 = .ok (.iload_n 2, 1) := zdc_453.2.2.2.2.2.2.1
theorem dX11_rests_12 : decode cX11_rests 12 = .ok (.invokevirtual 180, 3) := zdc_453.2.2.2.2.2.2.2.1
theorem dX11_rests_15 : decode cX11_rests 15 = .ok (.invokestatic 326, 3) := zdc_453.2.2.2.2.2.2.2.2.1
theorem dX11_rests_18 : decode cX11_rests 18 = .ok (.ireturn, 1) := zdc_453.2.2.2.2.2.2.2.2.2
theorem zdc_454 : decode cX11_richest 0 = .ok (.iconst (-1), 1) ∧ decode cX11_richest 1 = .ok (.istore_n 1, 1) ∧ decode cX11_richest 2 = .ok (.iconst 0, 1) ∧ decode cX11_richest 3 = .ok (.istore_n 2, 1) ∧ decode cX11_richest 4 = .ok (.iload_n 2, 1) ∧ decode cX11_richest 5 = .ok (.aload_n 0, 1) ∧ decode cX11_richest 6 = .ok (.getfield 19, 3) ∧ decode cX11_richest 9 = .ok (.getfield 293, 3) ∧ decode cX11_richest 12 = .ok (.if_icmp .ge 35, 3) ∧ decode cX11_richest 15 = .ok (.iload_n 1, 1) := by decide +kernel
theorem dX11_richest_0 : decode cX11_richest 0 = .ok (.iconst (-1), 1) := zdc_454.1
theorem dX11_richest_1 : decode cX11_richest 1 = .ok (.istore_n 1, 1) := zdc_454.2.1
theorem dX11_richest_2 : decode cX11_richest 2 = .ok (.iconst 0, 1) := zdc_454.2.2.1
theorem dX11_richest_3 : decode cX11_richest 3 = .ok (.istore_n 2, 1) := zdc_454.2.2.2.1
theorem dX11_richest_4 : decode cX11_richest 4 = .ok (.iload_n 2, 1) := zdc_454.2.2.2.2.1
theorem dX11_richest_5 : decode cX11_richest 5 = .ok (.aload_n 0, 1) := zdc_454.2.2.2.2.2.1
theorem dX11_richest_6 : decode cX11_richest 6 = .ok (.getfield 19, 3) := zdc_454.2.2.2.2.2.2.1
theorem dX11_richest_9 : decode cX11_richest 9 = .ok (.getfield 293, 3) := zdc_454.2.2.2.2.2.2.2.1
theorem dX11_richest_12 : decode cX11_richest 12 = .ok (.if_icmp .ge 35, 3) := zdc_454.2.2.2.2.2.2.2.2.1
theorem dX11_richest_15 : decode cX11_richest 15 = .ok (.iload_n 1, 1) := zdc_454.2.2.2.2.2.2.2.2.2
theorem zdc_455 : decode cX11_richest 16 = .ok (.iconst (-1), 1) ∧ decode cX11_richest 17 = .ok (.if_icmp .eq 22, 3) ∧ decode cX11_richest 20 = .ok (.aload_n 0, 1) ∧ decode cX11_richest 21 = .ok (.getfield 19, 3) ∧ decode cX11_richest 24 = .ok (.iload_n 2, 1) ∧ decode cX11_richest 25 = .ok (.invokevirtual 165, 3) ∧ decode cX11_richest 28 = .ok (.aload_n 0, 1) ∧ decode cX11_richest 29 = .ok (.getfield 19, 3) ∧ decode cX11_richest 32 = .ok (.iload_n 1, 1) ∧ decode cX11_richest 33 = .ok (.invokevirtual 165, 3) := by decide +kernel
theorem dX11_richest_16 : decode cX11_richest 16 = .ok (.iconst (-1), 1) := zdc_455.1
theorem dX11_richest_17 : decode cX11_richest 17 = .ok (.if_icmp .eq 22, 3) := zdc_455.2.1
theorem dX11_richest_20 : decode cX11_richest 20 = .ok (.aload_n 0, 1) := zdc_455.2.2.1
theorem dX11_richest_21 : decode cX11_richest 21 = .ok (.getfield 19, 3) := zdc_455.2.2.2.1
theorem dX11_richest_24 : decode cX11_richest 24 = .ok (.iload_n 2, 1) := zdc_455.2.2.2.2.1
theorem dX11_richest_25 : decode cX11_richest 25 = .ok (.invokevirtual 165, 3) := zdc_455.2.2.2.2.2.1
theorem dX11_richest_28 : decode cX11_richest 28 = .ok (.aload_n 0, 1) := zdc_455.2.2.2.2.2.2.1
theorem dX11_richest_29 : decode cX11_richest 29 = .ok (.getfield 19, 3) := zdc_455.2.2.2.2.2.2.2.1
theorem dX11_richest_32 : decode cX11_richest 32 = .ok (.iload_n 1, 1) := zdc_455.2.2.2.2.2.2.2.2.1
theorem dX11_richest_33 : decode cX11_richest 33 = .ok (.invokevirtual 165, 3) := zdc_455.2.2.2.2.2.2.2.2.2
theorem zdc_456 : decode cX11_richest 36 = .ok (.if_icmp .le 5, 3) ∧ decode cX11_richest 39 = .ok (.iload_n 2, 1) ∧ decode cX11_richest 40 = .ok (.istore_n 1, 1) ∧ decode cX11_richest 41 = .ok (.iinc 2 1, 3) ∧ decode cX11_richest 44 = .ok (.goto (-40), 3) ∧ decode cX11_richest 47 = .ok (.iload_n 1, 1) ∧ decode cX11_richest 48 = .ok (.ireturn, 1) ∧ decode cX11_firmest 0 = .ok (.iconst (-1), 1) ∧ decode cX11_firmest 1 = .ok (.istore_n 1, 1) ∧ decode cX11_firmest 2 = .ok (.iconst 0, 1) := by decide +kernel
theorem dX11_richest_36 : decode cX11_richest 36 = .ok (.if_icmp .le 5, 3) := zdc_456.1
theorem dX11_richest_39 : decode cX11_richest 39 = .ok (.iload_n 2, 1) := zdc_456.2.1
theorem dX11_richest_40 : decode cX11_richest 40 = .ok (.istore_n 1, 1) := zdc_456.2.2.1
theorem dX11_richest_41 : decode cX11_richest 41 = .ok (.iinc 2 1, 3) := zdc_456.2.2.2.1
theorem dX11_richest_44 : decode cX11_richest 44 = .ok (.goto (-40), 3) := zdc_456.2.2.2.2.1
theorem dX11_richest_47 : decode cX11_richest 47 = .ok (.iload_n 1, 1) := zdc_456.2.2.2.2.2.1
theorem dX11_richest_48 : decode cX11_richest 48 = .ok (.ireturn, 1) := zdc_456.2.2.2.2.2.2.1
theorem dX11_firmest_0 : decode cX11_firmest 0 = .ok (.iconst (-1), 1) := zdc_456.2.2.2.2.2.2.2.1
theorem dX11_firmest_1 : decode cX11_firmest 1 = .ok (.istore_n 1, 1) := zdc_456.2.2.2.2.2.2.2.2.1
theorem dX11_firmest_2 : decode cX11_firmest 2 = .ok (.iconst 0, 1) := zdc_456.2.2.2.2.2.2.2.2.2
theorem zdc_457 : decode cX11_firmest 3 = .ok (.istore_n 2, 1) ∧ decode cX11_firmest 4 = .ok (.iload_n 2, 1) ∧ decode cX11_firmest 5 = .ok (.aload_n 0, 1) ∧ decode cX11_firmest 6 = .ok (.getfield 19, 3) ∧ decode cX11_firmest 9 = .ok (.getfield 293, 3) ∧ decode cX11_firmest 12 = .ok (.if_icmp .ge 48, 3) ∧ decode cX11_firmest 15 = .ok (.aload_n 0, 1) ∧ decode cX11_firmest 16 = .ok (.getfield 19, 3) ∧ decode cX11_firmest 19 = .ok (.iload_n 2, 1) ∧ decode cX11_firmest 20 = .ok (.invokevirtual 329, 3) := by decide +kernel
theorem dX11_firmest_3 : decode cX11_firmest 3 = .ok (.istore_n 2, 1) := zdc_457.1
theorem dX11_firmest_4 : decode cX11_firmest 4 = .ok (.iload_n 2, 1) := zdc_457.2.1
theorem dX11_firmest_5 : decode cX11_firmest 5 = .ok (.aload_n 0, 1) := zdc_457.2.2.1
theorem dX11_firmest_6 : decode cX11_firmest 6 = .ok (.getfield 19, 3) := zdc_457.2.2.2.1
theorem dX11_firmest_9 : decode cX11_firmest 9 = .ok (.getfield 293, 3) := zdc_457.2.2.2.2.1
theorem dX11_firmest_12 : decode cX11_firmest 12 = .ok (.if_icmp .ge 48, 3) := zdc_457.2.2.2.2.2.1
theorem dX11_firmest_15 : decode cX11_firmest 15 = .ok (.aload_n 0, 1) := zdc_457.2.2.2.2.2.2.1
theorem dX11_firmest_16 : decode cX11_firmest 16 = .ok (.getfield 19, 3) := zdc_457.2.2.2.2.2.2.2.1
theorem dX11_firmest_19 : decode cX11_firmest 19 = .ok (.iload_n 2, 1) := zdc_457.2.2.2.2.2.2.2.2.1
theorem dX11_firmest_20 : decode cX11_firmest 20 = .ok (.invokevirtual 329, 3) := zdc_457.2.2.2.2.2.2.2.2.2
theorem zdc_458 : decode cX11_firmest 23 = .ok (.ifCond .eq 31, 3) ∧ decode cX11_firmest 26 = .ok (.iload_n 1, 1) ∧ decode cX11_firmest 27 = .ok (.iconst (-1), 1) ∧ decode cX11_firmest 28 = .ok (.if_icmp .eq 24, 3) ∧ decode cX11_firmest 31 = .ok (.aload_n 0, 1) ∧ decode cX11_firmest 32 = .ok (.getfield 19, 3) ∧ decode cX11_firmest 35 = .ok (.getfield 141, 3) ∧ decode cX11_firmest 38 = .ok (.iload_n 2, 1) ∧ decode cX11_firmest 39 = .ok (.iaload, 1) ∧ decode cX11_firmest 40 = .ok (.aload_n 0, 1) := by decide +kernel
theorem dX11_firmest_23 : decode cX11_firmest 23 = .ok (.ifCond .eq 31, 3) := zdc_458.1
theorem dX11_firmest_26 : decode cX11_firmest 26 = .ok (.iload_n 1, 1) := zdc_458.2.1
theorem dX11_firmest_27 : decode cX11_firmest 27 = .ok (.iconst (-1), 1) := zdc_458.2.2.1
theorem dX11_firmest_28 : decode cX11_firmest 28 = .ok (.if_icmp .eq 24, 3) := zdc_458.2.2.2.1
theorem dX11_firmest_31 : decode cX11_firmest 31 = .ok (.aload_n 0, 1) := zdc_458.2.2.2.2.1
theorem dX11_firmest_32 : decode cX11_firmest 32 = .ok (.getfield 19, 3) := zdc_458.2.2.2.2.2.1
theorem dX11_firmest_35 : decode cX11_firmest 35 = .ok (.getfield 141, 3) := zdc_458.2.2.2.2.2.2.1
theorem dX11_firmest_38 : decode cX11_firmest 38 = .ok (.iload_n 2, 1) := zdc_458.2.2.2.2.2.2.2.1
theorem dX11_firmest_39 : decode cX11_firmest 39 = .ok (.iaload, 1) := zdc_458.2.2.2.2.2.2.2.2.1
theorem dX11_firmest_40 : decode cX11_firmest 40 = .ok (.aload_n 0, 1) := zdc_458.2.2.2.2.2.2.2.2.2
theorem zdc_459 : decode cX11_firmest 41 = .ok (.getfield 19, 3) ∧ decode cX11_firmest 44 = .ok (.getfield 141, 3) ∧ decode cX11_firmest 47 = .ok (.iload_n 1, 1) ∧ decode cX11_firmest 48 = .ok (.iaload, 1) ∧ decode cX11_firmest 49 = .ok (.if_icmp .le 5, 3) ∧ decode cX11_firmest 52 = .ok (.iload_n 2, 1) ∧ decode cX11_firmest 53 = .ok (.istore_n 1, 1) ∧ decode cX11_firmest 54 = .ok (.iinc 2 1, 3) ∧ decode cX11_firmest 57 = .ok (.goto (-53), 3) ∧ decode cX11_firmest 60 = .ok (.iload_n 1, 1) := by decide +kernel
theorem dX11_firmest_41 : decode cX11_firmest 41 = .ok (.getfield 19, 3) := zdc_459.1
theorem dX11_firmest_44 : decode cX11_firmest 44 = .ok (.getfield 141, 3) := zdc_459.2.1
theorem dX11_firmest_47 : decode cX11_firmest 47 = .ok (.iload_n 1, 1) := zdc_459.2.2.1
theorem dX11_firmest_48 : decode cX11_firmest 48 = .ok (.iaload, 1) := zdc_459.2.2.2.1
theorem dX11_firmest_49 : decode cX11_firmest 49 = .ok (.if_icmp .le 5, 3) := zdc_459.2.2.2.2.1
theorem dX11_firmest_52 : decode cX11_firmest 52 = .ok (.iload_n 2, 1) := zdc_459.2.2.2.2.2.1
theorem dX11_firmest_53 : decode cX11_firmest 53 = .ok (.istore_n 1, 1) := zdc_459.2.2.2.2.2.2.1
theorem dX11_firmest_54 : decode cX11_firmest 54 = .ok (.iinc 2 1, 3) := zdc_459.2.2.2.2.2.2.2.1
theorem dX11_firmest_57 : decode cX11_firmest 57 = .ok (.goto (-53), 3) := zdc_459.2.2.2.2.2.2.2.2.1
theorem dX11_firmest_60 : decode cX11_firmest 60 = .ok (.iload_n 1, 1) := zdc_459.2.2.2.2.2.2.2.2.2
theorem zdc_460 : decode cX11_firmest 61 = .ok (.ireturn, 1) ∧ decode cX11_last 0 = .ok (.aload_n 0, 1) ∧ decode cX11_last 1 = .ok (.iload_n 1, 1) ∧ decode cX11_last 2 = .ok (.invokevirtual 184, 3) ∧ decode cX11_last 5 = .ok (.aload_n 0, 1) ∧ decode cX11_last 6 = .ok (.getfield 65, 3) ∧ decode cX11_last 9 = .ok (.iload_n 1, 1) ∧ decode cX11_last 10 = .ok (.invokevirtual 333, 3) ∧ decode cX11_last 13 = .ok (.ireturn, 1) ∧ decode cX11_home 0 = .ok (.aload_n 0, 1) := by decide +kernel
theorem dX11_firmest_61 : decode cX11_firmest 61 = .ok (.ireturn, 1) := zdc_460.1
theorem dX11_last_0 : decode cX11_last 0 = .ok (.aload_n 0, 1) := zdc_460.2.1
theorem dX11_last_1 : decode cX11_last 1 = .ok (.iload_n 1, 1) := zdc_460.2.2.1
theorem dX11_last_2 : decode cX11_last 2 = .ok (.invokevirtual 184, 3) := zdc_460.2.2.2.1
theorem dX11_last_5 : decode cX11_last 5 = .ok (.aload_n 0, 1) := zdc_460.2.2.2.2.1
theorem dX11_last_6 : decode cX11_last 6 = .ok (.getfield 65, 3) := zdc_460.2.2.2.2.2.1
theorem dX11_last_9 : decode cX11_last 9 = .ok (.iload_n 1, 1) := zdc_460.2.2.2.2.2.2.1
theorem dX11_last_10 : decode cX11_last 10 = .ok (.invokevirtual 333, 3) := zdc_460.2.2.2.2.2.2.2.1
theorem dX11_last_13 : decode cX11_last 13 = .ok (.ireturn, 1) := zdc_460.2.2.2.2.2.2.2.2.1
theorem dX11_home_0 : decode cX11_home 0 = .ok (.aload_n 0, 1) := zdc_460.2.2.2.2.2.2.2.2.2
theorem zdc_461 : decode cX11_home 1 = .ok (.getfield 19, 3) ∧ decode cX11_home 4 = .ok (.invokevirtual 336, 3) ∧ decode cX11_home 7 = .ok (.ireturn, 1) ∧ decode cX11_trial 0 = .ok (.aload_n 0, 1) ∧ decode cX11_trial 1 = .ok (.iload_n 1, 1) ∧ decode cX11_trial 2 = .ok (.iconst 0, 1) ∧ decode cX11_trial 3 = .ok (.bipush 60, 2) ∧ decode cX11_trial 5 = .ok (.invokevirtual 214, 3) ∧ decode cX11_trial 8 = .ok (.aload_n 0, 1) ∧ decode cX11_trial 9 = .ok (.getfield 65, 3) := by decide +kernel
theorem dX11_home_1 : decode cX11_home 1 = .ok (.getfield 19, 3) := zdc_461.1
theorem dX11_home_4 : decode cX11_home 4 = .ok (.invokevirtual 336, 3) := zdc_461.2.1
theorem dX11_home_7 : decode cX11_home 7 = .ok (.ireturn, 1) := zdc_461.2.2.1
theorem dX11_trial_0 : decode cX11_trial 0 = .ok (.aload_n 0, 1) := zdc_461.2.2.2.1
theorem dX11_trial_1 : decode cX11_trial 1 = .ok (.iload_n 1, 1) := zdc_461.2.2.2.2.1
theorem dX11_trial_2 : decode cX11_trial 2 = .ok (.iconst 0, 1) := zdc_461.2.2.2.2.2.1
theorem dX11_trial_3 : decode cX11_trial 3 = .ok (.bipush 60, 2) := zdc_461.2.2.2.2.2.2.1
theorem dX11_trial_5 : decode cX11_trial 5 = .ok (.invokevirtual 214, 3) := zdc_461.2.2.2.2.2.2.2.1
theorem dX11_trial_8 : decode cX11_trial 8 = .ok (.aload_n 0, 1) := zdc_461.2.2.2.2.2.2.2.2.1
theorem dX11_trial_9 : decode cX11_trial 9 = .ok (.getfield 65, 3) := zdc_461.2.2.2.2.2.2.2.2.2
theorem zdc_462 : decode cX11_trial 12 = .ok (.aload_n 0, 1) ∧ decode cX11_trial 13 = .ok (.getfield 19, 3) ∧ decode cX11_trial 16 = .ok (.getfield 339, 3) ∧ decode cX11_trial 19 = .ok (.iload_n 1, 1) ∧ decode cX11_trial 20 = .ok (.invokevirtual 342, 3) ∧ decode cX11_trial 23 = .ok (.istore_n 3, 1) ∧ decode cX11_trial 24 = .ok (.iload_n 2, 1) ∧ decode cX11_trial 25 = .ok (.ifCond .eq 16, 3) ∧ decode cX11_trial 28 = .ok (.aload_n 0, 1) ∧ decode cX11_trial 29 = .ok (.getfield 65, 3) := by decide +kernel
theorem dX11_trial_12 : decode cX11_trial 12 = .ok (.aload_n 0, 1) := zdc_462.1
theorem dX11_trial_13 : decode cX11_trial 13 = .ok (.getfield 19, 3) := zdc_462.2.1
theorem dX11_trial_16 : decode cX11_trial 16 = .ok (.getfield 339, 3) := zdc_462.2.2.1
theorem dX11_trial_19 : decode cX11_trial 19 = .ok (.iload_n 1, 1) := zdc_462.2.2.2.1
theorem dX11_trial_20 : decode cX11_trial 20 = .ok (.invokevirtual 342, 3) := zdc_462.2.2.2.2.1
theorem dX11_trial_23 : decode cX11_trial 23 = .ok (.istore_n 3, 1) := zdc_462.2.2.2.2.2.1
theorem dX11_trial_24 : decode cX11_trial 24 = .ok (.iload_n 2, 1) := zdc_462.2.2.2.2.2.2.1
theorem dX11_trial_25 : decode cX11_trial 25 = .ok (.ifCond .eq 16, 3) := zdc_462.2.2.2.2.2.2.2.1
theorem dX11_trial_28 : decode cX11_trial 28 = .ok (.aload_n 0, 1) := zdc_462.2.2.2.2.2.2.2.2.1
theorem dX11_trial_29 : decode cX11_trial 29 = .ok (.getfield 65, 3) := zdc_462.2.2.2.2.2.2.2.2.2
theorem zdc_463 : decode cX11_trial 32 = .ok (.getfield 247, 3) ∧ decode cX11_trial 35 = .ok (.getfield 231, 3) ∧ decode cX11_trial 38 = .ok (.goto 4, 3) ∧ decode cX11_trial 41 = .ok (.iload_n 3, 1) ∧ decode cX11_trial 42 = .ok (.ireturn, 1) ∧ decode cX11_span 0 = .ok (.aload_n 0, 1) ∧ decode cX11_span 1 = .ok (.iload_n 1, 1) ∧ decode cX11_span 2 = .ok (.iconst 0, 1) ∧ decode cX11_span 3 = .ok (.bipush 60, 2) ∧ decode cX11_span 5 = .ok (.invokevirtual 214, 3) := by decide +kernel
theorem dX11_trial_32 : decode cX11_trial 32 = .ok (.getfield 247, 3) := zdc_463.1
theorem dX11_trial_35 : decode cX11_trial 35 = .ok (.getfield 231, 3) := zdc_463.2.1
theorem dX11_trial_38 : decode cX11_trial 38 = .ok (.goto 4, 3) := zdc_463.2.2.1
theorem dX11_trial_41 : decode cX11_trial 41 = .ok (.iload_n 3, 1) := zdc_463.2.2.2.1
theorem dX11_trial_42 : decode cX11_trial 42 = .ok (.ireturn, 1) := zdc_463.2.2.2.2.1
theorem dX11_span_0 : decode cX11_span 0 = .ok (.aload_n 0, 1) := zdc_463.2.2.2.2.2.1
theorem dX11_span_1 : decode cX11_span 1 = .ok (.iload_n 1, 1) := zdc_463.2.2.2.2.2.2.1
theorem dX11_span_2 : decode cX11_span 2 = .ok (.iconst 0, 1) := zdc_463.2.2.2.2.2.2.2.1
theorem dX11_span_3 : decode cX11_span 3 = .ok (.bipush 60, 2) := zdc_463.2.2.2.2.2.2.2.2.1
theorem dX11_span_5 : decode cX11_span 5 = .ok (.invokevirtual 214, 3) := zdc_463.2.2.2.2.2.2.2.2.2
theorem zdc_464 : decode cX11_span 8 = .ok (.aload_n 0, 1) ∧ decode cX11_span 9 = .ok (.getfield 65, 3) ∧ decode cX11_span 12 = .ok (.iload_n 1, 1) ∧ decode cX11_span 13 = .ok (.iload_n 2, 1) ∧ decode cX11_span 14 = .ok (.invokevirtual 345, 3) ∧ decode cX11_span 17 = .ok (.ireturn, 1) ∧ decode cX11_led 0 = .ok (.aload_n 0, 1) ∧ decode cX11_led 1 = .ok (.iload_n 1, 1) ∧ decode cX11_led 2 = .ok (.invokevirtual 184, 3) ∧ decode cX11_led 5 = .ok (.iload_n 2, 1) := by decide +kernel
theorem dX11_span_8 : decode cX11_span 8 = .ok (.aload_n 0, 1) := zdc_464.1
theorem dX11_span_9 : decode cX11_span 9 = .ok (.getfield 65, 3) := zdc_464.2.1
theorem dX11_span_12 : decode cX11_span 12 = .ok (.iload_n 1, 1) := zdc_464.2.2.1
theorem dX11_span_13 : decode cX11_span 13 = .ok (.iload_n 2, 1) := zdc_464.2.2.2.1
theorem dX11_span_14 : decode cX11_span 14 = .ok (.invokevirtual 345, 3) := zdc_464.2.2.2.2.1
theorem dX11_span_17 : decode cX11_span 17 = .ok (.ireturn, 1) := zdc_464.2.2.2.2.2.1
theorem dX11_led_0 : decode cX11_led 0 = .ok (.aload_n 0, 1) := zdc_464.2.2.2.2.2.2.1
theorem dX11_led_1 : decode cX11_led 1 = .ok (.iload_n 1, 1) := zdc_464.2.2.2.2.2.2.2.1
theorem dX11_led_2 : decode cX11_led 2 = .ok (.invokevirtual 184, 3) := zdc_464.2.2.2.2.2.2.2.2.1
theorem dX11_led_5 : decode cX11_led 5 = .ok (.iload_n 2, 1) := zdc_464.2.2.2.2.2.2.2.2.2
theorem zdc_465 : decode cX11_led 6 = .ok (.ifCond .eq 14, 3) ∧ decode cX11_led 9 = .ok (.aload_n 0, 1) ∧ decode cX11_led 10 = .ok (.getfield 33, 3) ∧ decode cX11_led 13 = .ok (.iload_n 1, 1) ∧ decode cX11_led 14 = .ok (.invokevirtual 348, 3) ∧ decode cX11_led 17 = .ok (.goto 11, 3) ∧ decode cX11_led 20 = .ok (.aload_n 0, 1) ∧ decode cX11_led 21 = .ok (.getfield 33, 3) ∧ decode cX11_led 24 = .ok (.iload_n 1, 1) ∧ decode cX11_led 25 = .ok (.invokevirtual 351, 3) := by decide +kernel
theorem dX11_led_6 : decode cX11_led 6 = .ok (.ifCond .eq 14, 3) := zdc_465.1
theorem dX11_led_9 : decode cX11_led 9 = .ok (.aload_n 0, 1) := zdc_465.2.1
theorem dX11_led_10 : decode cX11_led 10 = .ok (.getfield 33, 3) := zdc_465.2.2.1
theorem dX11_led_13 : decode cX11_led 13 = .ok (.iload_n 1, 1) := zdc_465.2.2.2.1
theorem dX11_led_14 : decode cX11_led 14 = .ok (.invokevirtual 348, 3) := zdc_465.2.2.2.2.1
theorem dX11_led_17 : decode cX11_led 17 = .ok (.goto 11, 3) := zdc_465.2.2.2.2.2.1
theorem dX11_led_20 : decode cX11_led 20 = .ok (.aload_n 0, 1) := zdc_465.2.2.2.2.2.2.1
theorem dX11_led_21 : decode cX11_led 21 = .ok (.getfield 33, 3) := zdc_465.2.2.2.2.2.2.2.1
theorem dX11_led_24 : decode cX11_led 24 = .ok (.iload_n 1, 1) := zdc_465.2.2.2.2.2.2.2.2.1
theorem dX11_led_25 : decode cX11_led 25 = .ok (.invokevirtual 351, 3) := zdc_465.2.2.2.2.2.2.2.2.2
theorem zdc_466 : decode cX11_led 28 = .ok (.ireturn, 1) ∧ decode cX11_log 0 = .ok (.iload_n 2, 1) ∧ decode cX11_log 1 = .ok (.ifCond .lt 8, 3) ∧ decode cX11_log 4 = .ok (.iload_n 2, 1) ∧ decode cX11_log 5 = .ok (.iconst 4, 1) ∧ decode cX11_log 6 = .ok (.if_icmp .lt 14, 3) ∧ decode cX11_log 9 = .ok (.new 171, 3) ∧ decode cX11_log 12 = .ok (.dup, 1) ∧ decode cX11_log 13 = .ok (.ldc_w 354, 3) ∧ decode cX11_log 16 = .ok (.invokespecial 175, 3) := by decide +kernel
theorem dX11_led_28 : decode cX11_led 28 = .ok (.ireturn, 1) := zdc_466.1
theorem dX11_log_0 : decode cX11_log 0 = .ok (.iload_n 2, 1) := zdc_466.2.1
theorem dX11_log_1 : decode cX11_log 1 = .ok (.ifCond .lt 8, 3) := zdc_466.2.2.1
theorem dX11_log_4 : decode cX11_log 4 = .ok (.iload_n 2, 1) := zdc_466.2.2.2.1
theorem dX11_log_5 : decode cX11_log 5 = .ok (.iconst 4, 1) := zdc_466.2.2.2.2.1
theorem dX11_log_6 : decode cX11_log 6 = .ok (.if_icmp .lt 14, 3) := zdc_466.2.2.2.2.2.1
theorem dX11_log_9 : decode cX11_log 9 = .ok (.new 171, 3) := zdc_466.2.2.2.2.2.2.1
theorem dX11_log_12 : decode cX11_log 12 = .ok (.dup, 1) := zdc_466.2.2.2.2.2.2.2.1
theorem dX11_log_13 : decode cX11_log 13 = .ok (.ldc_w 354, 3) := zdc_466.2.2.2.2.2.2.2.2.1
theorem dX11_log_16 : decode cX11_log 16 = .ok (.invokespecial 175, 3) := zdc_466.2.2.2.2.2.2.2.2.2
theorem zdc_467 : decode cX11_log 19 = .ok (.athrow, 1) ∧ decode cX11_log 20 = .ok (.aload_n 0, 1) ∧ decode cX11_log 21 = .ok (.getfield 33, 3) ∧ decode cX11_log 24 = .ok (.iload_n 1, 1) ∧ decode cX11_log 25 = .ok (.iload_n 2, 1) ∧ decode cX11_log 26 = .ok (.invokevirtual 356, 3) ∧ decode cX11_log 29 = .ok (.ireturn, 1) ∧ decode cX11_seed 0 = .ok (.aload_n 0, 1) ∧ decode cX11_seed 1 = .ok (.getfield 19, 3) ∧ decode cX11_seed 4 = .ok (.getfield 339, 3) := by decide +kernel
theorem dX11_log_19 : decode cX11_log 19 = .ok (.athrow, 1) := zdc_467.1
theorem dX11_log_20 : decode cX11_log 20 = .ok (.aload_n 0, 1) := zdc_467.2.1
theorem dX11_log_21 : decode cX11_log 21 = .ok (.getfield 33, 3) := zdc_467.2.2.1
theorem dX11_log_24 : decode cX11_log 24 = .ok (.iload_n 1, 1) := zdc_467.2.2.2.1
theorem dX11_log_25 : decode cX11_log 25 = .ok (.iload_n 2, 1) := zdc_467.2.2.2.2.1
theorem dX11_log_26 : decode cX11_log 26 = .ok (.invokevirtual 356, 3) := zdc_467.2.2.2.2.2.1
theorem dX11_log_29 : decode cX11_log 29 = .ok (.ireturn, 1) := zdc_467.2.2.2.2.2.2.1
theorem dX11_seed_0 : decode cX11_seed 0 = .ok (.aload_n 0, 1) := zdc_467.2.2.2.2.2.2.2.1
theorem dX11_seed_1 : decode cX11_seed 1 = .ok (.getfield 19, 3) := zdc_467.2.2.2.2.2.2.2.2.1
theorem dX11_seed_4 : decode cX11_seed 4 = .ok (.getfield 339, 3) := zdc_467.2.2.2.2.2.2.2.2.2
theorem zdc_468 : decode cX11_seed 7 = .ok (.istore_n 2, 1) ∧ decode cX11_seed 8 = .ok (.aload_n 0, 1) ∧ decode cX11_seed 9 = .ok (.getfield 19, 3) ∧ decode cX11_seed 12 = .ok (.iload_n 1, 1) ∧ decode cX11_seed 13 = .ok (.putfield 339, 3) ∧ decode cX11_seed 16 = .ok (.iload_n 2, 1) ∧ decode cX11_seed 17 = .ok (.ireturn, 1) ∧ decode cX11_undo 0 = .ok (.aload_n 0, 1) ∧ decode cX11_undo 1 = .ok (.getfield 56, 3) ∧ decode cX11_undo 4 = .ok (.aload_n 0, 1) := by decide +kernel
theorem dX11_seed_7 : decode cX11_seed 7 = .ok (.istore_n 2, 1) := zdc_468.1
theorem dX11_seed_8 : decode cX11_seed 8 = .ok (.aload_n 0, 1) := zdc_468.2.1
theorem dX11_seed_9 : decode cX11_seed 9 = .ok (.getfield 19, 3) := zdc_468.2.2.1
theorem dX11_seed_12 : decode cX11_seed 12 = .ok (.iload_n 1, 1) := zdc_468.2.2.2.1
theorem dX11_seed_13 : decode cX11_seed 13 = .ok (.putfield 339, 3) := zdc_468.2.2.2.2.1
theorem dX11_seed_16 : decode cX11_seed 16 = .ok (.iload_n 2, 1) := zdc_468.2.2.2.2.2.1
theorem dX11_seed_17 : decode cX11_seed 17 = .ok (.ireturn, 1) := zdc_468.2.2.2.2.2.2.1
theorem dX11_undo_0 : decode cX11_undo 0 = .ok (.aload_n 0, 1) := zdc_468.2.2.2.2.2.2.2.1
theorem dX11_undo_1 : decode cX11_undo 1 = .ok (.getfield 56, 3) := zdc_468.2.2.2.2.2.2.2.2.1
theorem dX11_undo_4 : decode cX11_undo 4 = .ok (.aload_n 0, 1) := zdc_468.2.2.2.2.2.2.2.2.2
theorem zdc_469 : decode cX11_undo 5 = .ok (.getfield 19, 3) ∧ decode cX11_undo 8 = .ok (.aload_n 0, 1) ∧ decode cX11_undo 9 = .ok (.getfield 33, 3) ∧ decode cX11_undo 12 = .ok (.invokevirtual 359, 3) ∧ decode cX11_undo 15 = .ok (.ireturn, 1) ∧ decode cX11_image 0 = .ok (.aload_n 0, 1) ∧ decode cX11_image 1 = .ok (.getfield 56, 3) ∧ decode cX11_image 4 = .ok (.aload_n 0, 1) ∧ decode cX11_image 5 = .ok (.getfield 19, 3) ∧ decode cX11_image 8 = .ok (.aload_n 0, 1) := by decide +kernel
theorem dX11_undo_5 : decode cX11_undo 5 = .ok (.getfield 19, 3) := zdc_469.1
theorem dX11_undo_8 : decode cX11_undo 8 = .ok (.aload_n 0, 1) := zdc_469.2.1
theorem dX11_undo_9 : decode cX11_undo 9 = .ok (.getfield 33, 3) := zdc_469.2.2.1
theorem dX11_undo_12 : decode cX11_undo 12 = .ok (.invokevirtual 359, 3) := zdc_469.2.2.2.1
theorem dX11_undo_15 : decode cX11_undo 15 = .ok (.ireturn, 1) := zdc_469.2.2.2.2.1
theorem dX11_image_0 : decode cX11_image 0 = .ok (.aload_n 0, 1) := zdc_469.2.2.2.2.2.1
theorem dX11_image_1 : decode cX11_image 1 = .ok (.getfield 56, 3) := zdc_469.2.2.2.2.2.2.1
theorem dX11_image_4 : decode cX11_image 4 = .ok (.aload_n 0, 1) := zdc_469.2.2.2.2.2.2.2.1
theorem dX11_image_5 : decode cX11_image 5 = .ok (.getfield 19, 3) := zdc_469.2.2.2.2.2.2.2.2.1
theorem dX11_image_8 : decode cX11_image 8 = .ok (.aload_n 0, 1) := zdc_469.2.2.2.2.2.2.2.2.2
theorem zdc_470 : decode cX11_image 9 = .ok (.getfield 26, 3) ∧ decode cX11_image 12 = .ok (.aload_n 0, 1) ∧ decode cX11_image 13 = .ok (.getfield 33, 3) ∧ decode cX11_image 16 = .ok (.invokevirtual 363, 3) ∧ decode cX11_image 19 = .ok (.return_, 1) ∧ decode cX11_back 0 = .ok (.aload_n 0, 1) ∧ decode cX11_back 1 = .ok (.getfield 56, 3) ∧ decode cX11_back 4 = .ok (.aload_n 0, 1) ∧ decode cX11_back 5 = .ok (.getfield 19, 3) ∧ decode cX11_back 8 = .ok (.aload_n 0, 1) := by decide +kernel
theorem dX11_image_9 : decode cX11_image 9 = .ok (.getfield 26, 3) := zdc_470.1
theorem dX11_image_12 : decode cX11_image 12 = .ok (.aload_n 0, 1) := zdc_470.2.1
theorem dX11_image_13 : decode cX11_image 13 = .ok (.getfield 33, 3) := zdc_470.2.2.1
theorem dX11_image_16 : decode cX11_image 16 = .ok (.invokevirtual 363, 3) := zdc_470.2.2.2.1
theorem dX11_image_19 : decode cX11_image 19 = .ok (.return_, 1) := zdc_470.2.2.2.2.1
theorem dX11_back_0 : decode cX11_back 0 = .ok (.aload_n 0, 1) := zdc_470.2.2.2.2.2.1
theorem dX11_back_1 : decode cX11_back 1 = .ok (.getfield 56, 3) := zdc_470.2.2.2.2.2.2.1
theorem dX11_back_4 : decode cX11_back 4 = .ok (.aload_n 0, 1) := zdc_470.2.2.2.2.2.2.2.1
theorem dX11_back_5 : decode cX11_back 5 = .ok (.getfield 19, 3) := zdc_470.2.2.2.2.2.2.2.2.1
theorem dX11_back_8 : decode cX11_back 8 = .ok (.aload_n 0, 1) := zdc_470.2.2.2.2.2.2.2.2.2
theorem zdc_471 : decode cX11_back 9 = .ok (.getfield 26, 3) ∧ decode cX11_back 12 = .ok (.aload_n 0, 1) ∧ decode cX11_back 13 = .ok (.getfield 33, 3) ∧ decode cX11_back 16 = .ok (.invokevirtual 367, 3) ∧ decode cX11_back 19 = .ok (.ireturn, 1) ∧ decode cX11_count 0 = .ok (.iload_n 1, 1) ∧ decode cX11_count 1 = .ok (.tableswitch 173 0 12 #[67, 75, 83, 91, 99, 107, 115, 123, 131, 140, 149, 157, 165], 67) ∧ decode cX11_count 68 = .ok (.aload_n 0, 1) ∧ decode cX11_count 69 = .ok (.getfield 19, 3) ∧ decode cX11_count 72 = .ok (.getfield 293, 3) := by decide +kernel
theorem dX11_back_9 : decode cX11_back 9 = .ok (.getfield 26, 3) := zdc_471.1
theorem dX11_back_12 : decode cX11_back 12 = .ok (.aload_n 0, 1) := zdc_471.2.1
theorem dX11_back_13 : decode cX11_back 13 = .ok (.getfield 33, 3) := zdc_471.2.2.1
theorem dX11_back_16 : decode cX11_back 16 = .ok (.invokevirtual 367, 3) := zdc_471.2.2.2.1
theorem dX11_back_19 : decode cX11_back 19 = .ok (.ireturn, 1) := zdc_471.2.2.2.2.1
theorem dX11_count_0 : decode cX11_count 0 = .ok (.iload_n 1, 1) := zdc_471.2.2.2.2.2.1
theorem dX11_count_1 : decode cX11_count 1 = .ok (.tableswitch 173 0 12 #[67, 75, 83, 91, 99, 107, 115, 123, 131, 140, 149, 157, 165], 67) := zdc_471.2.2.2.2.2.2.1
theorem dX11_count_68 : decode cX11_count 68 = .ok (.aload_n 0, 1) := zdc_471.2.2.2.2.2.2.2.1
theorem dX11_count_69 : decode cX11_count 69 = .ok (.getfield 19, 3) := zdc_471.2.2.2.2.2.2.2.2.1
theorem dX11_count_72 : decode cX11_count 72 = .ok (.getfield 293, 3) := zdc_471.2.2.2.2.2.2.2.2.2
theorem zdc_472 : decode cX11_count 75 = .ok (.ireturn, 1) ∧ decode cX11_count 76 = .ok (.aload_n 0, 1) ∧ decode cX11_count 77 = .ok (.getfield 19, 3) ∧ decode cX11_count 80 = .ok (.getfield 371, 3) ∧ decode cX11_count 83 = .ok (.ireturn, 1) ∧ decode cX11_count 84 = .ok (.aload_n 0, 1) ∧ decode cX11_count 85 = .ok (.getfield 19, 3) ∧ decode cX11_count 88 = .ok (.getfield 113, 3) ∧ decode cX11_count 91 = .ok (.ireturn, 1) ∧ decode cX11_count 92 = .ok (.aload_n 0, 1) := by decide +kernel
theorem dX11_count_75 : decode cX11_count 75 = .ok (.ireturn, 1) := zdc_472.1
theorem dX11_count_76 : decode cX11_count 76 = .ok (.aload_n 0, 1) := zdc_472.2.1
theorem dX11_count_77 : decode cX11_count 77 = .ok (.getfield 19, 3) := zdc_472.2.2.1
theorem dX11_count_80 : decode cX11_count 80 = .ok (.getfield 371, 3) := zdc_472.2.2.2.1
theorem dX11_count_83 : decode cX11_count 83 = .ok (.ireturn, 1) := zdc_472.2.2.2.2.1
theorem dX11_count_84 : decode cX11_count 84 = .ok (.aload_n 0, 1) := zdc_472.2.2.2.2.2.1
theorem dX11_count_85 : decode cX11_count 85 = .ok (.getfield 19, 3) := zdc_472.2.2.2.2.2.2.1
theorem dX11_count_88 : decode cX11_count 88 = .ok (.getfield 113, 3) := zdc_472.2.2.2.2.2.2.2.1
theorem dX11_count_91 : decode cX11_count 91 = .ok (.ireturn, 1) := zdc_472.2.2.2.2.2.2.2.2.1
theorem dX11_count_92 : decode cX11_count 92 = .ok (.aload_n 0, 1) := zdc_472.2.2.2.2.2.2.2.2.2
theorem zdc_473 : decode cX11_count 93 = .ok (.getfield 26, 3) ∧ decode cX11_count 96 = .ok (.getfield 132, 3) ∧ decode cX11_count 99 = .ok (.ireturn, 1) ∧ decode cX11_count 100 = .ok (.aload_n 0, 1) ∧ decode cX11_count 101 = .ok (.getfield 19, 3) ∧ decode cX11_count 104 = .ok (.getfield 225, 3) ∧ decode cX11_count 107 = .ok (.ireturn, 1) ∧ decode cX11_count 108 = .ok (.aload_n 0, 1) ∧ decode cX11_count 109 = .ok (.getfield 19, 3) ∧ decode cX11_count 112 = .ok (.getfield 231, 3) := by decide +kernel
theorem dX11_count_93 : decode cX11_count 93 = .ok (.getfield 26, 3) := zdc_473.1
theorem dX11_count_96 : decode cX11_count 96 = .ok (.getfield 132, 3) := zdc_473.2.1
theorem dX11_count_99 : decode cX11_count 99 = .ok (.ireturn, 1) := zdc_473.2.2.1
theorem dX11_count_100 : decode cX11_count 100 = .ok (.aload_n 0, 1) := zdc_473.2.2.2.1
theorem dX11_count_101 : decode cX11_count 101 = .ok (.getfield 19, 3) := zdc_473.2.2.2.2.1
theorem dX11_count_104 : decode cX11_count 104 = .ok (.getfield 225, 3) := zdc_473.2.2.2.2.2.1
theorem dX11_count_107 : decode cX11_count 107 = .ok (.ireturn, 1) := zdc_473.2.2.2.2.2.2.1
theorem dX11_count_108 : decode cX11_count 108 = .ok (.aload_n 0, 1) := zdc_473.2.2.2.2.2.2.2.1
theorem dX11_count_109 : decode cX11_count 109 = .ok (.getfield 19, 3) := zdc_473.2.2.2.2.2.2.2.2.1
theorem dX11_count_112 : decode cX11_count 112 = .ok (.getfield 231, 3) := zdc_473.2.2.2.2.2.2.2.2.2
theorem zdc_474 : decode cX11_count 115 = .ok (.ireturn, 1) ∧ decode cX11_count 116 = .ok (.aload_n 0, 1) ∧ decode cX11_count 117 = .ok (.getfield 19, 3) ∧ decode cX11_count 120 = .ok (.invokevirtual 374, 3) ∧ decode cX11_count 123 = .ok (.ireturn, 1) ∧ decode cX11_count 124 = .ok (.aload_n 0, 1) ∧ decode cX11_count 125 = .ok (.getfield 19, 3) ∧ decode cX11_count 128 = .ok (.invokevirtual 377, 3) ∧ decode cX11_count 131 = .ok (.ireturn, 1) ∧ decode cX11_count 132 = .ok (.aload_n 0, 1) := by decide +kernel
theorem dX11_count_115 : decode cX11_count 115 = .ok (.ireturn, 1) := zdc_474.1
theorem dX11_count_116 : decode cX11_count 116 = .ok (.aload_n 0, 1) := zdc_474.2.1
theorem dX11_count_117 : decode cX11_count 117 = .ok (.getfield 19, 3) := zdc_474.2.2.1
theorem dX11_count_120 : decode cX11_count 120 = .ok (.invokevirtual 374, 3) := zdc_474.2.2.2.1
theorem dX11_count_123 : decode cX11_count 123 = .ok (.ireturn, 1) := zdc_474.2.2.2.2.1
theorem dX11_count_124 : decode cX11_count 124 = .ok (.aload_n 0, 1) := zdc_474.2.2.2.2.2.1
theorem dX11_count_125 : decode cX11_count 125 = .ok (.getfield 19, 3) := zdc_474.2.2.2.2.2.2.1
theorem dX11_count_128 : decode cX11_count 128 = .ok (.invokevirtual 377, 3) := zdc_474.2.2.2.2.2.2.2.1
theorem dX11_count_131 : decode cX11_count 131 = .ok (.ireturn, 1) := zdc_474.2.2.2.2.2.2.2.2.1
theorem dX11_count_132 : decode cX11_count 132 = .ok (.aload_n 0, 1) := zdc_474.2.2.2.2.2.2.2.2.2
theorem zdc_475 : decode cX11_count 133 = .ok (.getfield 19, 3) ∧ decode cX11_count 136 = .ok (.iconst 1, 1) ∧ decode cX11_count 137 = .ok (.invokevirtual 269, 3) ∧ decode cX11_count 140 = .ok (.ireturn, 1) ∧ decode cX11_count 141 = .ok (.aload_n 0, 1) ∧ decode cX11_count 142 = .ok (.getfield 19, 3) ∧ decode cX11_count 145 = .ok (.iconst 2, 1) ∧ decode cX11_count 146 = .ok (.invokevirtual 269, 3) ∧ decode cX11_count 149 = .ok (.ireturn, 1) ∧ decode cX11_count 150 = .ok (.aload_n 0, 1) := by decide +kernel
theorem dX11_count_133 : decode cX11_count 133 = .ok (.getfield 19, 3) := zdc_475.1
theorem dX11_count_136 : decode cX11_count 136 = .ok (.iconst 1, 1) := zdc_475.2.1
theorem dX11_count_137 : decode cX11_count 137 = .ok (.invokevirtual 269, 3) := zdc_475.2.2.1
theorem dX11_count_140 : decode cX11_count 140 = .ok (.ireturn, 1) := zdc_475.2.2.2.1
theorem dX11_count_141 : decode cX11_count 141 = .ok (.aload_n 0, 1) := zdc_475.2.2.2.2.1
theorem dX11_count_142 : decode cX11_count 142 = .ok (.getfield 19, 3) := zdc_475.2.2.2.2.2.1
theorem dX11_count_145 : decode cX11_count 145 = .ok (.iconst 2, 1) := zdc_475.2.2.2.2.2.2.1
theorem dX11_count_146 : decode cX11_count 146 = .ok (.invokevirtual 269, 3) := zdc_475.2.2.2.2.2.2.2.1
theorem dX11_count_149 : decode cX11_count 149 = .ok (.ireturn, 1) := zdc_475.2.2.2.2.2.2.2.2.1
theorem dX11_count_150 : decode cX11_count 150 = .ok (.aload_n 0, 1) := zdc_475.2.2.2.2.2.2.2.2.2
theorem zdc_476 : decode cX11_count 151 = .ok (.getfield 19, 3) ∧ decode cX11_count 154 = .ok (.invokevirtual 380, 3) ∧ decode cX11_count 157 = .ok (.ireturn, 1) ∧ decode cX11_count 158 = .ok (.aload_n 0, 1) ∧ decode cX11_count 159 = .ok (.getfield 33, 3) ∧ decode cX11_count 162 = .ok (.getfield 383, 3) ∧ decode cX11_count 165 = .ok (.ireturn, 1) ∧ decode cX11_count 166 = .ok (.aload_n 0, 1) ∧ decode cX11_count 167 = .ok (.getfield 56, 3) ∧ decode cX11_count 170 = .ok (.getfield 384, 3) := by decide +kernel
theorem dX11_count_151 : decode cX11_count 151 = .ok (.getfield 19, 3) := zdc_476.1
theorem dX11_count_154 : decode cX11_count 154 = .ok (.invokevirtual 380, 3) := zdc_476.2.1
theorem dX11_count_157 : decode cX11_count 157 = .ok (.ireturn, 1) := zdc_476.2.2.1
theorem dX11_count_158 : decode cX11_count 158 = .ok (.aload_n 0, 1) := zdc_476.2.2.2.1
theorem dX11_count_159 : decode cX11_count 159 = .ok (.getfield 33, 3) := zdc_476.2.2.2.2.1
theorem dX11_count_162 : decode cX11_count 162 = .ok (.getfield 383, 3) := zdc_476.2.2.2.2.2.1
theorem dX11_count_165 : decode cX11_count 165 = .ok (.ireturn, 1) := zdc_476.2.2.2.2.2.2.1
theorem dX11_count_166 : decode cX11_count 166 = .ok (.aload_n 0, 1) := zdc_476.2.2.2.2.2.2.2.1
theorem dX11_count_167 : decode cX11_count 167 = .ok (.getfield 56, 3) := zdc_476.2.2.2.2.2.2.2.2.1
theorem dX11_count_170 : decode cX11_count 170 = .ok (.getfield 384, 3) := zdc_476.2.2.2.2.2.2.2.2.2
theorem zdc_477 : decode cX11_count 173 = .ok (.ireturn, 1) ∧ decode cX11_count 174 = .ok (.iconst (-1), 1) ∧ decode cX11_count 175 = .ok (.ireturn, 1) ∧ decode cX11_needPerson 0 = .ok (.iload_n 1, 1) ∧ decode cX11_needPerson 1 = .ok (.ifCond .lt 14, 3) ∧ decode cX11_needPerson 4 = .ok (.iload_n 1, 1) ∧ decode cX11_needPerson 5 = .ok (.aload_n 0, 1) ∧ decode cX11_needPerson 6 = .ok (.getfield 19, 3) ∧ decode cX11_needPerson 9 = .ok (.getfield 293, 3) ∧ decode cX11_needPerson 12 = .ok (.if_icmp .lt 14, 3) := by decide +kernel
theorem dX11_count_173 : decode cX11_count 173 = .ok (.ireturn, 1) := zdc_477.1
theorem dX11_count_174 : decode cX11_count 174 = .ok (.iconst (-1), 1) := zdc_477.2.1
theorem dX11_count_175 : decode cX11_count 175 = .ok (.ireturn, 1) := zdc_477.2.2.1
theorem dX11_needPerson_0 : decode cX11_needPerson 0 = .ok (.iload_n 1, 1) := zdc_477.2.2.2.1
theorem dX11_needPerson_1 : decode cX11_needPerson 1 = .ok (.ifCond .lt 14, 3) := zdc_477.2.2.2.2.1
theorem dX11_needPerson_4 : decode cX11_needPerson 4 = .ok (.iload_n 1, 1) := zdc_477.2.2.2.2.2.1
theorem dX11_needPerson_5 : decode cX11_needPerson 5 = .ok (.aload_n 0, 1) := zdc_477.2.2.2.2.2.2.1
theorem dX11_needPerson_6 : decode cX11_needPerson 6 = .ok (.getfield 19, 3) := zdc_477.2.2.2.2.2.2.2.1
theorem dX11_needPerson_9 : decode cX11_needPerson 9 = .ok (.getfield 293, 3) := zdc_477.2.2.2.2.2.2.2.2.1
theorem dX11_needPerson_12 : decode cX11_needPerson 12 = .ok (.if_icmp .lt 14, 3) := zdc_477.2.2.2.2.2.2.2.2.2
theorem zdc_478 : decode cX11_needPerson 15 = .ok (.new 387, 3) ∧ decode cX11_needPerson 18 = .ok (.dup, 1) ∧ decode cX11_needPerson 19 = .ok (.ldc_w 389, 3) ∧ decode cX11_needPerson 22 = .ok (.invokespecial 391, 3) ∧ decode cX11_needPerson 25 = .ok (.athrow, 1) ∧ decode cX11_needPerson 26 = .ok (.return_, 1) ∧ decode cX11_needTwo 0 = .ok (.aload_n 0, 1) ∧ decode cX11_needTwo 1 = .ok (.iload_n 1, 1) ∧ decode cX11_needTwo 2 = .ok (.invokevirtual 138, 3) ∧ decode cX11_needTwo 5 = .ok (.aload_n 0, 1) := by decide +kernel
theorem dX11_needPerson_15 : decode cX11_needPerson 15 = .ok (.new 387, 3) := zdc_478.1
theorem dX11_needPerson_18 : decode cX11_needPerson 18 = .ok (.dup, 1) := zdc_478.2.1
theorem dX11_needPerson_19 : decode cX11_needPerson 19 = .ok (.ldc_w 389, 3) := zdc_478.2.2.1
theorem dX11_needPerson_22 : decode cX11_needPerson 22 = .ok (.invokespecial 391, 3) := zdc_478.2.2.2.1
theorem dX11_needPerson_25 : decode cX11_needPerson 25 = .ok (.athrow, 1) := zdc_478.2.2.2.2.1
theorem dX11_needPerson_26 : decode cX11_needPerson 26 = .ok (.return_, 1) := zdc_478.2.2.2.2.2.1
theorem dX11_needTwo_0 : decode cX11_needTwo 0 = .ok (.aload_n 0, 1) := zdc_478.2.2.2.2.2.2.1
theorem dX11_needTwo_1 : decode cX11_needTwo 1 = .ok (.iload_n 1, 1) := zdc_478.2.2.2.2.2.2.2.1
theorem dX11_needTwo_2 : decode cX11_needTwo 2 = .ok (.invokevirtual 138, 3) := zdc_478.2.2.2.2.2.2.2.2.1
theorem dX11_needTwo_5 : decode cX11_needTwo 5 = .ok (.aload_n 0, 1) := zdc_478.2.2.2.2.2.2.2.2.2
theorem zdc_479 : decode cX11_needTwo 6 = .ok (.iload_n 2, 1) ∧ decode cX11_needTwo 7 = .ok (.invokevirtual 138, 3) ∧ decode cX11_needTwo 10 = .ok (.iload_n 1, 1) ∧ decode cX11_needTwo 11 = .ok (.iload_n 2, 1) ∧ decode cX11_needTwo 12 = .ok (.if_icmp .ne 14, 3) ∧ decode cX11_needTwo 15 = .ok (.new 106, 3) ∧ decode cX11_needTwo 18 = .ok (.dup, 1) ∧ decode cX11_needTwo 19 = .ok (.ldc_w 392, 3) ∧ decode cX11_needTwo 22 = .ok (.invokespecial 110, 3) ∧ decode cX11_needTwo 25 = .ok (.athrow, 1) := by decide +kernel
theorem dX11_needTwo_6 : decode cX11_needTwo 6 = .ok (.iload_n 2, 1) := zdc_479.1
theorem dX11_needTwo_7 : decode cX11_needTwo 7 = .ok (.invokevirtual 138, 3) := zdc_479.2.1
theorem dX11_needTwo_10 : decode cX11_needTwo 10 = .ok (.iload_n 1, 1) := zdc_479.2.2.1
theorem dX11_needTwo_11 : decode cX11_needTwo 11 = .ok (.iload_n 2, 1) := zdc_479.2.2.2.1
theorem dX11_needTwo_12 : decode cX11_needTwo 12 = .ok (.if_icmp .ne 14, 3) := zdc_479.2.2.2.2.1
theorem dX11_needTwo_15 : decode cX11_needTwo 15 = .ok (.new 106, 3) := zdc_479.2.2.2.2.2.1
theorem dX11_needTwo_18 : decode cX11_needTwo 18 = .ok (.dup, 1) := zdc_479.2.2.2.2.2.2.1
theorem dX11_needTwo_19 : decode cX11_needTwo 19 = .ok (.ldc_w 392, 3) := zdc_479.2.2.2.2.2.2.2.1
theorem dX11_needTwo_22 : decode cX11_needTwo 22 = .ok (.invokespecial 110, 3) := zdc_479.2.2.2.2.2.2.2.2.1
theorem dX11_needTwo_25 : decode cX11_needTwo 25 = .ok (.athrow, 1) := zdc_479.2.2.2.2.2.2.2.2.2
theorem zdc_480 : decode cX11_needTwo 26 = .ok (.return_, 1) ∧ decode cX11_needWork 0 = .ok (.iload_n 1, 1) ∧ decode cX11_needWork 1 = .ok (.ifCond .lt 14, 3) ∧ decode cX11_needWork 4 = .ok (.iload_n 1, 1) ∧ decode cX11_needWork 5 = .ok (.aload_n 0, 1) ∧ decode cX11_needWork 6 = .ok (.getfield 19, 3) ∧ decode cX11_needWork 9 = .ok (.getfield 371, 3) ∧ decode cX11_needWork 12 = .ok (.if_icmp .lt 14, 3) ∧ decode cX11_needWork 15 = .ok (.new 387, 3) ∧ decode cX11_needWork 18 = .ok (.dup, 1) := by decide +kernel
theorem dX11_needTwo_26 : decode cX11_needTwo 26 = .ok (.return_, 1) := zdc_480.1
theorem dX11_needWork_0 : decode cX11_needWork 0 = .ok (.iload_n 1, 1) := zdc_480.2.1
theorem dX11_needWork_1 : decode cX11_needWork 1 = .ok (.ifCond .lt 14, 3) := zdc_480.2.2.1
theorem dX11_needWork_4 : decode cX11_needWork 4 = .ok (.iload_n 1, 1) := zdc_480.2.2.2.1
theorem dX11_needWork_5 : decode cX11_needWork 5 = .ok (.aload_n 0, 1) := zdc_480.2.2.2.2.1
theorem dX11_needWork_6 : decode cX11_needWork 6 = .ok (.getfield 19, 3) := zdc_480.2.2.2.2.2.1
theorem dX11_needWork_9 : decode cX11_needWork 9 = .ok (.getfield 371, 3) := zdc_480.2.2.2.2.2.2.1
theorem dX11_needWork_12 : decode cX11_needWork 12 = .ok (.if_icmp .lt 14, 3) := zdc_480.2.2.2.2.2.2.2.1
theorem dX11_needWork_15 : decode cX11_needWork 15 = .ok (.new 387, 3) := zdc_480.2.2.2.2.2.2.2.2.1
theorem dX11_needWork_18 : decode cX11_needWork 18 = .ok (.dup, 1) := zdc_480.2.2.2.2.2.2.2.2.2
theorem zdc_481 : decode cX11_needWork 19 = .ok (.ldc_w 394, 3) ∧ decode cX11_needWork 22 = .ok (.invokespecial 391, 3) ∧ decode cX11_needWork 25 = .ok (.athrow, 1) ∧ decode cX11_needWork 26 = .ok (.return_, 1) ∧ decode cX11_needHere 0 = .ok (.aload_n 0, 1) ∧ decode cX11_needHere 1 = .ok (.aload_n 0, 1) ∧ decode cX11_needHere 2 = .ok (.getfield 19, 3) ∧ decode cX11_needHere 5 = .ok (.iload_n 1, 1) ∧ decode cX11_needHere 6 = .ok (.invokevirtual 329, 3) ∧ decode cX11_needHere 9 = .ok (.invokevirtual 221, 3) := by decide +kernel
theorem dX11_needWork_19 : decode cX11_needWork 19 = .ok (.ldc_w 394, 3) := zdc_481.1
theorem dX11_needWork_22 : decode cX11_needWork 22 = .ok (.invokespecial 391, 3) := zdc_481.2.1
theorem dX11_needWork_25 : decode cX11_needWork 25 = .ok (.athrow, 1) := zdc_481.2.2.1
theorem dX11_needWork_26 : decode cX11_needWork 26 = .ok (.return_, 1) := zdc_481.2.2.2.1
theorem dX11_needHere_0 : decode cX11_needHere 0 = .ok (.aload_n 0, 1) := zdc_481.2.2.2.2.1
theorem dX11_needHere_1 : decode cX11_needHere 1 = .ok (.aload_n 0, 1) := zdc_481.2.2.2.2.2.1
theorem dX11_needHere_2 : decode cX11_needHere 2 = .ok (.getfield 19, 3) := zdc_481.2.2.2.2.2.2.1
theorem dX11_needHere_5 : decode cX11_needHere 5 = .ok (.iload_n 1, 1) := zdc_481.2.2.2.2.2.2.2.1
theorem dX11_needHere_6 : decode cX11_needHere 6 = .ok (.invokevirtual 329, 3) := zdc_481.2.2.2.2.2.2.2.2.1
theorem dX11_needHere_9 : decode cX11_needHere 9 = .ok (.invokevirtual 221, 3) := zdc_481.2.2.2.2.2.2.2.2.2
theorem zdc_482 : decode cX11_needHere 12 = .ok (.return_, 1) ∧ decode cX11_needState 0 = .ok (.iload_n 1, 1) ∧ decode cX11_needState 1 = .ok (.ifCond .ne 14, 3) ∧ decode cX11_needState 4 = .ok (.new 396, 3) ∧ decode cX11_needState 7 = .ok (.dup, 1) ∧ decode cX11_needState 8 = .ok (.ldc_w 398, 3) ∧ decode cX11_needState 11 = .ok (.invokespecial 400, 3) ∧ decode cX11_needState 14 = .ok (.athrow, 1) ∧ decode cX11_needState 15 = .ok (.return_, 1) ∧ decode cX11_needWithin 0 = .ok (.iload_n 1, 1) := by decide +kernel
theorem dX11_needHere_12 : decode cX11_needHere 12 = .ok (.return_, 1) := zdc_482.1
theorem dX11_needState_0 : decode cX11_needState 0 = .ok (.iload_n 1, 1) := zdc_482.2.1
theorem dX11_needState_1 : decode cX11_needState 1 = .ok (.ifCond .ne 14, 3) := zdc_482.2.2.1
theorem dX11_needState_4 : decode cX11_needState 4 = .ok (.new 396, 3) := zdc_482.2.2.2.1
theorem dX11_needState_7 : decode cX11_needState 7 = .ok (.dup, 1) := zdc_482.2.2.2.2.1
theorem dX11_needState_8 : decode cX11_needState 8 = .ok (.ldc_w 398, 3) := zdc_482.2.2.2.2.2.1
theorem dX11_needState_11 : decode cX11_needState 11 = .ok (.invokespecial 400, 3) := zdc_482.2.2.2.2.2.2.1
theorem dX11_needState_14 : decode cX11_needState 14 = .ok (.athrow, 1) := zdc_482.2.2.2.2.2.2.2.1
theorem dX11_needState_15 : decode cX11_needState 15 = .ok (.return_, 1) := zdc_482.2.2.2.2.2.2.2.2.1
theorem dX11_needWithin_0 : decode cX11_needWithin 0 = .ok (.iload_n 1, 1) := zdc_482.2.2.2.2.2.2.2.2.2
theorem zdc_483 : decode cX11_needWithin 1 = .ok (.iload_n 2, 1) ∧ decode cX11_needWithin 2 = .ok (.if_icmp .lt 8, 3) ∧ decode cX11_needWithin 5 = .ok (.iload_n 1, 1) ∧ decode cX11_needWithin 6 = .ok (.iload_n 3, 1) ∧ decode cX11_needWithin 7 = .ok (.if_icmp .le 14, 3) ∧ decode cX11_needWithin 10 = .ok (.new 106, 3) ∧ decode cX11_needWithin 13 = .ok (.dup, 1) ∧ decode cX11_needWithin 14 = .ok (.ldc_w 401, 3) ∧ decode cX11_needWithin 17 = .ok (.invokespecial 110, 3) ∧ decode cX11_needWithin 20 = .ok (.athrow, 1) := by decide +kernel
theorem dX11_needWithin_1 : decode cX11_needWithin 1 = .ok (.iload_n 2, 1) := zdc_483.1
theorem dX11_needWithin_2 : decode cX11_needWithin 2 = .ok (.if_icmp .lt 8, 3) := zdc_483.2.1
theorem dX11_needWithin_5 : decode cX11_needWithin 5 = .ok (.iload_n 1, 1) := zdc_483.2.2.1
theorem dX11_needWithin_6 : decode cX11_needWithin 6 = .ok (.iload_n 3, 1) := zdc_483.2.2.2.1
theorem dX11_needWithin_7 : decode cX11_needWithin 7 = .ok (.if_icmp .le 14, 3) := zdc_483.2.2.2.2.1
theorem dX11_needWithin_10 : decode cX11_needWithin 10 = .ok (.new 106, 3) := zdc_483.2.2.2.2.2.1
theorem dX11_needWithin_13 : decode cX11_needWithin 13 = .ok (.dup, 1) := zdc_483.2.2.2.2.2.2.1
theorem dX11_needWithin_14 : decode cX11_needWithin 14 = .ok (.ldc_w 401, 3) := zdc_483.2.2.2.2.2.2.2.1
theorem dX11_needWithin_17 : decode cX11_needWithin 17 = .ok (.invokespecial 110, 3) := zdc_483.2.2.2.2.2.2.2.2.1
theorem dX11_needWithin_20 : decode cX11_needWithin 20 = .ok (.athrow, 1) := zdc_483.2.2.2.2.2.2.2.2.2
theorem zdc_484 : decode cX11_needWithin 21 = .ok (.return_, 1) ∧ decode cX11_needTales 0 = .ok (.aload_n 0, 1) ∧ decode cX11_needTales 1 = .ok (.iload_n 2, 1) ∧ decode cX11_needTales 2 = .ok (.iconst 0, 1) ∧ decode cX11_needTales 3 = .ok (.bipush 100, 2) ∧ decode cX11_needTales 5 = .ok (.invokevirtual 214, 3) ∧ decode cX11_needTales 8 = .ok (.aload_n 0, 1) ∧ decode cX11_needTales 9 = .ok (.iload_n 1, 1) ∧ decode cX11_needTales 10 = .ok (.iconst 0, 1) ∧ decode cX11_needTales 11 = .ok (.bipush 12, 2) := by decide +kernel
theorem dX11_needWithin_21 : decode cX11_needWithin 21 = .ok (.return_, 1) := zdc_484.1
theorem dX11_needTales_0 : decode cX11_needTales 0 = .ok (.aload_n 0, 1) := zdc_484.2.1
theorem dX11_needTales_1 : decode cX11_needTales 1 = .ok (.iload_n 2, 1) := zdc_484.2.2.1
theorem dX11_needTales_2 : decode cX11_needTales 2 = .ok (.iconst 0, 1) := zdc_484.2.2.2.1
theorem dX11_needTales_3 : decode cX11_needTales 3 = .ok (.bipush 100, 2) := zdc_484.2.2.2.2.1
theorem dX11_needTales_5 : decode cX11_needTales 5 = .ok (.invokevirtual 214, 3) := zdc_484.2.2.2.2.2.1
theorem dX11_needTales_8 : decode cX11_needTales 8 = .ok (.aload_n 0, 1) := zdc_484.2.2.2.2.2.2.1
theorem dX11_needTales_9 : decode cX11_needTales 9 = .ok (.iload_n 1, 1) := zdc_484.2.2.2.2.2.2.2.1
theorem dX11_needTales_10 : decode cX11_needTales 10 = .ok (.iconst 0, 1) := zdc_484.2.2.2.2.2.2.2.2.1
theorem dX11_needTales_11 : decode cX11_needTales 11 = .ok (.bipush 12, 2) := zdc_484.2.2.2.2.2.2.2.2.2
theorem zdc_485 : decode cX11_needTales 13 = .ok (.invokevirtual 214, 3) ∧ decode cX11_needTales 16 = .ok (.aload_n 0, 1) ∧ decode cX11_needTales 17 = .ok (.getfield 10, 3) ∧ decode cX11_needTales 20 = .ok (.iload_n 1, 1) ∧ decode cX11_needTales 21 = .ok (.invokevirtual 403, 3) ∧ decode cX11_needTales 24 = .ok (.ifCond .ne 14, 3) ∧ decode cX11_needTales 27 = .ok (.new 106, 3) ∧ decode cX11_needTales 30 = .ok (.dup, 1) ∧ decode cX11_needTales 31 = .ok (.ldc_w 406, 3) ∧ decode cX11_needTales 34 = .ok (.invokespecial 110, 3) := by decide +kernel
theorem dX11_needTales_13 : decode cX11_needTales 13 = .ok (.invokevirtual 214, 3) := zdc_485.1
theorem dX11_needTales_16 : decode cX11_needTales 16 = .ok (.aload_n 0, 1) := zdc_485.2.1
theorem dX11_needTales_17 : decode cX11_needTales 17 = .ok (.getfield 10, 3) := zdc_485.2.2.1
theorem dX11_needTales_20 : decode cX11_needTales 20 = .ok (.iload_n 1, 1) := zdc_485.2.2.2.1
theorem dX11_needTales_21 : decode cX11_needTales 21 = .ok (.invokevirtual 403, 3) := zdc_485.2.2.2.2.1
theorem dX11_needTales_24 : decode cX11_needTales 24 = .ok (.ifCond .ne 14, 3) := zdc_485.2.2.2.2.2.1
theorem dX11_needTales_27 : decode cX11_needTales 27 = .ok (.new 106, 3) := zdc_485.2.2.2.2.2.2.1
theorem dX11_needTales_30 : decode cX11_needTales 30 = .ok (.dup, 1) := zdc_485.2.2.2.2.2.2.2.1
theorem dX11_needTales_31 : decode cX11_needTales 31 = .ok (.ldc_w 406, 3) := zdc_485.2.2.2.2.2.2.2.2.1
theorem dX11_needTales_34 : decode cX11_needTales 34 = .ok (.invokespecial 110, 3) := zdc_485.2.2.2.2.2.2.2.2.2
theorem zdc_486 : decode cX11_needTales 37 = .ok (.athrow, 1) ∧ decode cX11_needTales 38 = .ok (.return_, 1) ∧ decode cX11_needSaid 0 = .ok (.aload_n 0, 1) ∧ decode cX11_needSaid 1 = .ok (.iload_n 1, 1) ∧ decode cX11_needSaid 2 = .ok (.iconst 0, 1) ∧ decode cX11_needSaid 3 = .ok (.bipush 36, 2) ∧ decode cX11_needSaid 5 = .ok (.invokevirtual 214, 3) ∧ decode cX11_needSaid 8 = .ok (.aload_n 0, 1) ∧ decode cX11_needSaid 9 = .ok (.getfield 10, 3) ∧ decode cX11_needSaid 12 = .ok (.iload_n 1, 1) := by decide +kernel
theorem dX11_needTales_37 : decode cX11_needTales 37 = .ok (.athrow, 1) := zdc_486.1
theorem dX11_needTales_38 : decode cX11_needTales 38 = .ok (.return_, 1) := zdc_486.2.1
theorem dX11_needSaid_0 : decode cX11_needSaid 0 = .ok (.aload_n 0, 1) := zdc_486.2.2.1
theorem dX11_needSaid_1 : decode cX11_needSaid 1 = .ok (.iload_n 1, 1) := zdc_486.2.2.2.1
theorem dX11_needSaid_2 : decode cX11_needSaid 2 = .ok (.iconst 0, 1) := zdc_486.2.2.2.2.1
theorem dX11_needSaid_3 : decode cX11_needSaid 3 = .ok (.bipush 36, 2) := zdc_486.2.2.2.2.2.1
theorem dX11_needSaid_5 : decode cX11_needSaid 5 = .ok (.invokevirtual 214, 3) := zdc_486.2.2.2.2.2.2.1
theorem dX11_needSaid_8 : decode cX11_needSaid 8 = .ok (.aload_n 0, 1) := zdc_486.2.2.2.2.2.2.2.1
theorem dX11_needSaid_9 : decode cX11_needSaid 9 = .ok (.getfield 10, 3) := zdc_486.2.2.2.2.2.2.2.2.1
theorem dX11_needSaid_12 : decode cX11_needSaid 12 = .ok (.iload_n 1, 1) := zdc_486.2.2.2.2.2.2.2.2.2
theorem zdc_487 : decode cX11_needSaid 13 = .ok (.aload_n 0, 1) ∧ decode cX11_needSaid 14 = .ok (.getfield 19, 3) ∧ decode cX11_needSaid 17 = .ok (.getfield 293, 3) ∧ decode cX11_needSaid 20 = .ok (.invokevirtual 408, 3) ∧ decode cX11_needSaid 23 = .ok (.ifCond .ne 14, 3) ∧ decode cX11_needSaid 26 = .ok (.new 106, 3) ∧ decode cX11_needSaid 29 = .ok (.dup, 1) ∧ decode cX11_needSaid 30 = .ok (.ldc_w 412, 3) ∧ decode cX11_needSaid 33 = .ok (.invokespecial 110, 3) ∧ decode cX11_needSaid 36 = .ok (.athrow, 1) := by decide +kernel
theorem dX11_needSaid_13 : decode cX11_needSaid 13 = .ok (.aload_n 0, 1) := zdc_487.1
theorem dX11_needSaid_14 : decode cX11_needSaid 14 = .ok (.getfield 19, 3) := zdc_487.2.1
theorem dX11_needSaid_17 : decode cX11_needSaid 17 = .ok (.getfield 293, 3) := zdc_487.2.2.1
theorem dX11_needSaid_20 : decode cX11_needSaid 20 = .ok (.invokevirtual 408, 3) := zdc_487.2.2.2.1
theorem dX11_needSaid_23 : decode cX11_needSaid 23 = .ok (.ifCond .ne 14, 3) := zdc_487.2.2.2.2.1
theorem dX11_needSaid_26 : decode cX11_needSaid 26 = .ok (.new 106, 3) := zdc_487.2.2.2.2.2.1
theorem dX11_needSaid_29 : decode cX11_needSaid 29 = .ok (.dup, 1) := zdc_487.2.2.2.2.2.2.1
theorem dX11_needSaid_30 : decode cX11_needSaid 30 = .ok (.ldc_w 412, 3) := zdc_487.2.2.2.2.2.2.2.1
theorem dX11_needSaid_33 : decode cX11_needSaid 33 = .ok (.invokespecial 110, 3) := zdc_487.2.2.2.2.2.2.2.2.1
theorem dX11_needSaid_36 : decode cX11_needSaid 36 = .ok (.athrow, 1) := zdc_487.2.2.2.2.2.2.2.2.2
theorem zdc_488 : decode cX11_needSaid 37 = .ok (.return_, 1) ∧ decode cX12_init 0 = .ok (.aload_n 0, 1) ∧ decode cX12_init 1 = .ok (.invokespecial 1, 3) ∧ decode cX12_init 4 = .ok (.aload_n 0, 1) ∧ decode cX12_init 5 = .ok (.sipush 779, 3) ∧ decode cX12_init 8 = .ok (.newarray .int, 2) ∧ decode cX12_init 10 = .ok (.putfield 7, 3) ∧ decode cX12_init 13 = .ok (.aload_n 0, 1) ∧ decode cX12_init 14 = .ok (.sipush 779, 3) ∧ decode cX12_init 17 = .ok (.newarray .int, 2) := by decide +kernel
theorem dX11_needSaid_37 : decode cX11_needSaid 37 = .ok (.return_, 1) := zdc_488.1
theorem dX12_init_0 : decode cX12_init 0 = .ok (.aload_n 0, 1) := zdc_488.2.1
theorem dX12_init_1 : decode cX12_init 1 = .ok (.invokespecial 1, 3) := zdc_488.2.2.1
theorem dX12_init_4 : decode cX12_init 4 = .ok (.aload_n 0, 1) := zdc_488.2.2.2.1
theorem dX12_init_5 : decode cX12_init 5 = .ok (.sipush 779, 3) := zdc_488.2.2.2.2.1
theorem dX12_init_8 : decode cX12_init 8 = .ok (.newarray .int, 2) := zdc_488.2.2.2.2.2.1
theorem dX12_init_10 : decode cX12_init 10 = .ok (.putfield 7, 3) := zdc_488.2.2.2.2.2.2.1
theorem dX12_init_13 : decode cX12_init 13 = .ok (.aload_n 0, 1) := zdc_488.2.2.2.2.2.2.2.1
theorem dX12_init_14 : decode cX12_init 14 = .ok (.sipush 779, 3) := zdc_488.2.2.2.2.2.2.2.2.1
theorem dX12_init_17 : decode cX12_init 17 = .ok (.newarray .int, 2) := zdc_488.2.2.2.2.2.2.2.2.2
theorem zdc_489 : decode cX12_init 19 = .ok (.putfield 13, 3) ∧ decode cX12_init 22 = .ok (.aload_n 0, 1) ∧ decode cX12_init 23 = .ok (.sipush 379, 3) ∧ decode cX12_init 26 = .ok (.newarray .int, 2) ∧ decode cX12_init 28 = .ok (.putfield 16, 3) ∧ decode cX12_init 31 = .ok (.aload_n 0, 1) ∧ decode cX12_init 32 = .ok (.sipush 4548, 3) ∧ decode cX12_init 35 = .ok (.newarray .int, 2) ∧ decode cX12_init 37 = .ok (.putfield 19, 3) ∧ decode cX12_init 40 = .ok (.aload_n 0, 1) := by decide +kernel
theorem dX12_init_19 : decode cX12_init 19 = .ok (.putfield 13, 3) := zdc_489.1
theorem dX12_init_22 : decode cX12_init 22 = .ok (.aload_n 0, 1) := zdc_489.2.1
theorem dX12_init_23 : decode cX12_init 23 = .ok (.sipush 379, 3) := zdc_489.2.2.1
theorem dX12_init_26 : decode cX12_init 26 = .ok (.newarray .int, 2) := zdc_489.2.2.2.1
theorem dX12_init_28 : decode cX12_init 28 = .ok (.putfield 16, 3) := zdc_489.2.2.2.2.1
theorem dX12_init_31 : decode cX12_init 31 = .ok (.aload_n 0, 1) := zdc_489.2.2.2.2.2.1
theorem dX12_init_32 : decode cX12_init 32 = .ok (.sipush 4548, 3) := zdc_489.2.2.2.2.2.2.1
theorem dX12_init_35 : decode cX12_init 35 = .ok (.newarray .int, 2) := zdc_489.2.2.2.2.2.2.2.1
theorem dX12_init_37 : decode cX12_init 37 = .ok (.putfield 19, 3) := zdc_489.2.2.2.2.2.2.2.2.1
theorem dX12_init_40 : decode cX12_init 40 = .ok (.aload_n 0, 1) := zdc_489.2.2.2.2.2.2.2.2.2
theorem zdc_490 : decode cX12_init 41 = .ok (.sipush 400, 3) ∧ decode cX12_init 44 = .ok (.newarray .int, 2) ∧ decode cX12_init 46 = .ok (.putfield 22, 3) ∧ decode cX12_init 49 = .ok (.aload_n 0, 1) ∧ decode cX12_init 50 = .ok (.iconst (-1), 1) ∧ decode cX12_init 51 = .ok (.putfield 25, 3) ∧ decode cX12_init 54 = .ok (.aload_n 0, 1) ∧ decode cX12_init 55 = .ok (.bipush 6, 2) ∧ decode cX12_init 57 = .ok (.newarray .int, 2) ∧ decode cX12_init 59 = .ok (.putfield 29, 3) := by decide +kernel
theorem dX12_init_41 : decode cX12_init 41 = .ok (.sipush 400, 3) := zdc_490.1
theorem dX12_init_44 : decode cX12_init 44 = .ok (.newarray .int, 2) := zdc_490.2.1
theorem dX12_init_46 : decode cX12_init 46 = .ok (.putfield 22, 3) := zdc_490.2.2.1
theorem dX12_init_49 : decode cX12_init 49 = .ok (.aload_n 0, 1) := zdc_490.2.2.2.1
theorem dX12_init_50 : decode cX12_init 50 = .ok (.iconst (-1), 1) := zdc_490.2.2.2.2.1
theorem dX12_init_51 : decode cX12_init 51 = .ok (.putfield 25, 3) := zdc_490.2.2.2.2.2.1
theorem dX12_init_54 : decode cX12_init 54 = .ok (.aload_n 0, 1) := zdc_490.2.2.2.2.2.2.1
theorem dX12_init_55 : decode cX12_init 55 = .ok (.bipush 6, 2) := zdc_490.2.2.2.2.2.2.2.1
theorem dX12_init_57 : decode cX12_init 57 = .ok (.newarray .int, 2) := zdc_490.2.2.2.2.2.2.2.2.1
theorem dX12_init_59 : decode cX12_init 59 = .ok (.putfield 29, 3) := zdc_490.2.2.2.2.2.2.2.2.2
theorem zdc_491 : decode cX12_init 62 = .ok (.aload_n 0, 1) ∧ decode cX12_init 63 = .ok (.bipush 8, 2) ∧ decode cX12_init 65 = .ok (.newarray .int, 2) ∧ decode cX12_init 67 = .ok (.putfield 32, 3) ∧ decode cX12_init 70 = .ok (.aload_n 0, 1) ∧ decode cX12_init 71 = .ok (.sipush 256, 3) ∧ decode cX12_init 74 = .ok (.newarray .boolean, 2) ∧ decode cX12_init 76 = .ok (.putfield 35, 3) ∧ decode cX12_init 79 = .ok (.aload_n 0, 1) ∧ decode cX12_init 80 = .ok (.getfield 7, 3) := by decide +kernel
theorem dX12_init_62 : decode cX12_init 62 = .ok (.aload_n 0, 1) := zdc_491.1
theorem dX12_init_63 : decode cX12_init 63 = .ok (.bipush 8, 2) := zdc_491.2.1
theorem dX12_init_65 : decode cX12_init 65 = .ok (.newarray .int, 2) := zdc_491.2.2.1
theorem dX12_init_67 : decode cX12_init 67 = .ok (.putfield 32, 3) := zdc_491.2.2.2.1
theorem dX12_init_70 : decode cX12_init 70 = .ok (.aload_n 0, 1) := zdc_491.2.2.2.2.1
theorem dX12_init_71 : decode cX12_init 71 = .ok (.sipush 256, 3) := zdc_491.2.2.2.2.2.1
theorem dX12_init_74 : decode cX12_init 74 = .ok (.newarray .boolean, 2) := zdc_491.2.2.2.2.2.2.1
theorem dX12_init_76 : decode cX12_init 76 = .ok (.putfield 35, 3) := zdc_491.2.2.2.2.2.2.2.1
theorem dX12_init_79 : decode cX12_init 79 = .ok (.aload_n 0, 1) := zdc_491.2.2.2.2.2.2.2.2.1
theorem dX12_init_80 : decode cX12_init 80 = .ok (.getfield 7, 3) := zdc_491.2.2.2.2.2.2.2.2.2
theorem zdc_492 : decode cX12_init 83 = .ok (.iconst 1, 1) ∧ decode cX12_init 84 = .ok (.iconst (-1), 1) ∧ decode cX12_init 85 = .ok (.iastore, 1) ∧ decode cX12_init 86 = .ok (.aload_n 0, 1) ∧ decode cX12_init 87 = .ok (.getfield 7, 3) ∧ decode cX12_init 90 = .ok (.iconst 5, 1) ∧ decode cX12_init 91 = .ok (.bipush 20, 2) ∧ decode cX12_init 93 = .ok (.iastore, 1) ∧ decode cX12_init 94 = .ok (.aload_n 0, 1) ∧ decode cX12_init 95 = .ok (.getfield 7, 3) := by decide +kernel
theorem dX12_init_83 : decode cX12_init 83 = .ok (.iconst 1, 1) := zdc_492.1
theorem dX12_init_84 : decode cX12_init 84 = .ok (.iconst (-1), 1) := zdc_492.2.1
theorem dX12_init_85 : decode cX12_init 85 = .ok (.iastore, 1) := zdc_492.2.2.1
theorem dX12_init_86 : decode cX12_init 86 = .ok (.aload_n 0, 1) := zdc_492.2.2.2.1
theorem dX12_init_87 : decode cX12_init 87 = .ok (.getfield 7, 3) := zdc_492.2.2.2.2.1
theorem dX12_init_90 : decode cX12_init 90 = .ok (.iconst 5, 1) := zdc_492.2.2.2.2.2.1
theorem dX12_init_91 : decode cX12_init 91 = .ok (.bipush 20, 2) := zdc_492.2.2.2.2.2.2.1
theorem dX12_init_93 : decode cX12_init 93 = .ok (.iastore, 1) := zdc_492.2.2.2.2.2.2.2.1
theorem dX12_init_94 : decode cX12_init 94 = .ok (.aload_n 0, 1) := zdc_492.2.2.2.2.2.2.2.2.1
theorem dX12_init_95 : decode cX12_init 95 = .ok (.getfield 7, 3) := zdc_492.2.2.2.2.2.2.2.2.2
theorem zdc_493 : decode cX12_init 98 = .ok (.bipush 6, 2) ∧ decode cX12_init 100 = .ok (.bipush 6, 2) ∧ decode cX12_init 102 = .ok (.iastore, 1) ∧ decode cX12_init 103 = .ok (.aload_n 0, 1) ∧ decode cX12_init 104 = .ok (.getfield 7, 3) ∧ decode cX12_init 107 = .ok (.bipush 7, 2) ∧ decode cX12_init 109 = .ok (.bipush 50, 2) ∧ decode cX12_init 111 = .ok (.iastore, 1) ∧ decode cX12_init 112 = .ok (.aload_n 0, 1) ∧ decode cX12_init 113 = .ok (.getfield 7, 3) := by decide +kernel
theorem dX12_init_98 : decode cX12_init 98 = .ok (.bipush 6, 2) := zdc_493.1
theorem dX12_init_100 : decode cX12_init 100 = .ok (.bipush 6, 2) := zdc_493.2.1
theorem dX12_init_102 : decode cX12_init 102 = .ok (.iastore, 1) := zdc_493.2.2.1
theorem dX12_init_103 : decode cX12_init 103 = .ok (.aload_n 0, 1) := zdc_493.2.2.2.1
theorem dX12_init_104 : decode cX12_init 104 = .ok (.getfield 7, 3) := zdc_493.2.2.2.2.1
theorem dX12_init_107 : decode cX12_init 107 = .ok (.bipush 7, 2) := zdc_493.2.2.2.2.2.1
theorem dX12_init_109 : decode cX12_init 109 = .ok (.bipush 50, 2) := zdc_493.2.2.2.2.2.2.1
theorem dX12_init_111 : decode cX12_init 111 = .ok (.iastore, 1) := zdc_493.2.2.2.2.2.2.2.1
theorem dX12_init_112 : decode cX12_init 112 = .ok (.aload_n 0, 1) := zdc_493.2.2.2.2.2.2.2.2.1
theorem dX12_init_113 : decode cX12_init 113 = .ok (.getfield 7, 3) := zdc_493.2.2.2.2.2.2.2.2.2
theorem zdc_494 : decode cX12_init 116 = .ok (.bipush 10, 2) ∧ decode cX12_init 118 = .ok (.iconst 1, 1) ∧ decode cX12_init 119 = .ok (.iastore, 1) ∧ decode cX12_init 120 = .ok (.return_, 1) ∧ decode cX12_thrown 0 = .ok (.aload_n 0, 1) ∧ decode cX12_thrown 1 = .ok (.getfield 39, 3) ∧ decode cX12_thrown 4 = .ok (.ireturn, 1) ∧ decode cX12_isIn 0 = .ok (.iload_n 0, 1) ∧ decode cX12_isIn 1 = .ok (.iload_n 1, 1) ∧ decode cX12_isIn 2 = .ok (.if_icmp .lt 12, 3) := by decide +kernel
theorem dX12_init_116 : decode cX12_init 116 = .ok (.bipush 10, 2) := zdc_494.1
theorem dX12_init_118 : decode cX12_init 118 = .ok (.iconst 1, 1) := zdc_494.2.1
theorem dX12_init_119 : decode cX12_init 119 = .ok (.iastore, 1) := zdc_494.2.2.1
theorem dX12_init_120 : decode cX12_init 120 = .ok (.return_, 1) := zdc_494.2.2.2.1
theorem dX12_thrown_0 : decode cX12_thrown 0 = .ok (.aload_n 0, 1) := zdc_494.2.2.2.2.1
theorem dX12_thrown_1 : decode cX12_thrown 1 = .ok (.getfield 39, 3) := zdc_494.2.2.2.2.2.1
theorem dX12_thrown_4 : decode cX12_thrown 4 = .ok (.ireturn, 1) := zdc_494.2.2.2.2.2.2.1
theorem dX12_isIn_0 : decode cX12_isIn 0 = .ok (.iload_n 0, 1) := zdc_494.2.2.2.2.2.2.2.1
theorem dX12_isIn_1 : decode cX12_isIn 1 = .ok (.iload_n 1, 1) := zdc_494.2.2.2.2.2.2.2.2.1
theorem dX12_isIn_2 : decode cX12_isIn 2 = .ok (.if_icmp .lt 12, 3) := zdc_494.2.2.2.2.2.2.2.2.2
theorem zdc_495 : decode cX12_isIn 5 = .ok (.iload_n 0, 1) ∧ decode cX12_isIn 6 = .ok (.iload_n 2, 1) ∧ decode cX12_isIn 7 = .ok (.if_icmp .gt 7, 3) ∧ decode cX12_isIn 10 = .ok (.iconst 1, 1) ∧ decode cX12_isIn 11 = .ok (.goto 4, 3) ∧ decode cX12_isIn 14 = .ok (.iconst 0, 1) ∧ decode cX12_isIn 15 = .ok (.ireturn, 1) ∧ decode cX12_lesser 0 = .ok (.iload_n 0, 1) ∧ decode cX12_lesser 1 = .ok (.iload_n 1, 1) ∧ decode cX12_lesser 2 = .ok (.if_icmp .ge 7, 3) := by decide +kernel
theorem dX12_isIn_5 : decode cX12_isIn 5 = .ok (.iload_n 0, 1) := zdc_495.1
theorem dX12_isIn_6 : decode cX12_isIn 6 = .ok (.iload_n 2, 1) := zdc_495.2.1
theorem dX12_isIn_7 : decode cX12_isIn 7 = .ok (.if_icmp .gt 7, 3) := zdc_495.2.2.1
theorem dX12_isIn_10 : decode cX12_isIn 10 = .ok (.iconst 1, 1) := zdc_495.2.2.2.1
theorem dX12_isIn_11 : decode cX12_isIn 11 = .ok (.goto 4, 3) := zdc_495.2.2.2.2.1
theorem dX12_isIn_14 : decode cX12_isIn 14 = .ok (.iconst 0, 1) := zdc_495.2.2.2.2.2.1
theorem dX12_isIn_15 : decode cX12_isIn 15 = .ok (.ireturn, 1) := zdc_495.2.2.2.2.2.2.1
theorem dX12_lesser_0 : decode cX12_lesser 0 = .ok (.iload_n 0, 1) := zdc_495.2.2.2.2.2.2.2.1
theorem dX12_lesser_1 : decode cX12_lesser 1 = .ok (.iload_n 1, 1) := zdc_495.2.2.2.2.2.2.2.2.1
theorem dX12_lesser_2 : decode cX12_lesser 2 = .ok (.if_icmp .ge 7, 3) := zdc_495.2.2.2.2.2.2.2.2.2
theorem zdc_496 : decode cX12_lesser 5 = .ok (.iload_n 0, 1) ∧ decode cX12_lesser 6 = .ok (.goto 4, 3) ∧ decode cX12_lesser 9 = .ok (.iload_n 1, 1) ∧ decode cX12_lesser 10 = .ok (.ireturn, 1) ∧ decode cX12_greater 0 = .ok (.iload_n 0, 1) ∧ decode cX12_greater 1 = .ok (.iload_n 1, 1) ∧ decode cX12_greater 2 = .ok (.if_icmp .le 7, 3) ∧ decode cX12_greater 5 = .ok (.iload_n 0, 1) ∧ decode cX12_greater 6 = .ok (.goto 4, 3) ∧ decode cX12_greater 9 = .ok (.iload_n 1, 1) := by decide +kernel
theorem dX12_lesser_5 : decode cX12_lesser 5 = .ok (.iload_n 0, 1) := zdc_496.1
theorem dX12_lesser_6 : decode cX12_lesser 6 = .ok (.goto 4, 3) := zdc_496.2.1
theorem dX12_lesser_9 : decode cX12_lesser 9 = .ok (.iload_n 1, 1) := zdc_496.2.2.1
theorem dX12_lesser_10 : decode cX12_lesser 10 = .ok (.ireturn, 1) := zdc_496.2.2.2.1
theorem dX12_greater_0 : decode cX12_greater 0 = .ok (.iload_n 0, 1) := zdc_496.2.2.2.2.1
theorem dX12_greater_1 : decode cX12_greater 1 = .ok (.iload_n 1, 1) := zdc_496.2.2.2.2.2.1
theorem dX12_greater_2 : decode cX12_greater 2 = .ok (.if_icmp .le 7, 3) := zdc_496.2.2.2.2.2.2.1
theorem dX12_greater_5 : decode cX12_greater 5 = .ok (.iload_n 0, 1) := zdc_496.2.2.2.2.2.2.2.1
theorem dX12_greater_6 : decode cX12_greater 6 = .ok (.goto 4, 3) := zdc_496.2.2.2.2.2.2.2.2.1
theorem dX12_greater_9 : decode cX12_greater 9 = .ok (.iload_n 1, 1) := zdc_496.2.2.2.2.2.2.2.2.2
theorem zdc_497 : decode cX12_greater 10 = .ok (.ireturn, 1) ∧ decode cX12_isOf 0 = .ok (.iload_n 0, 1) ∧ decode cX12_isOf 1 = .ok (.iload_n 1, 1) ∧ decode cX12_isOf 2 = .ok (.ishr, 1) ∧ decode cX12_isOf 3 = .ok (.iconst 1, 1) ∧ decode cX12_isOf 4 = .ok (.iand, 1) ∧ decode cX12_isOf 5 = .ok (.iconst 1, 1) ∧ decode cX12_isOf 6 = .ok (.if_icmp .ne 7, 3) ∧ decode cX12_isOf 9 = .ok (.iconst 1, 1) ∧ decode cX12_isOf 10 = .ok (.goto 4, 3) := by decide +kernel
theorem dX12_greater_10 : decode cX12_greater 10 = .ok (.ireturn, 1) := zdc_497.1
theorem dX12_isOf_0 : decode cX12_isOf 0 = .ok (.iload_n 0, 1) := zdc_497.2.1
theorem dX12_isOf_1 : decode cX12_isOf 1 = .ok (.iload_n 1, 1) := zdc_497.2.2.1
theorem dX12_isOf_2 : decode cX12_isOf 2 = .ok (.ishr, 1) := zdc_497.2.2.2.1
theorem dX12_isOf_3 : decode cX12_isOf 3 = .ok (.iconst 1, 1) := zdc_497.2.2.2.2.1
theorem dX12_isOf_4 : decode cX12_isOf 4 = .ok (.iand, 1) := zdc_497.2.2.2.2.2.1
theorem dX12_isOf_5 : decode cX12_isOf 5 = .ok (.iconst 1, 1) := zdc_497.2.2.2.2.2.2.1
theorem dX12_isOf_6 : decode cX12_isOf 6 = .ok (.if_icmp .ne 7, 3) := zdc_497.2.2.2.2.2.2.2.1
theorem dX12_isOf_9 : decode cX12_isOf 9 = .ok (.iconst 1, 1) := zdc_497.2.2.2.2.2.2.2.2.1
theorem dX12_isOf_10 : decode cX12_isOf 10 = .ok (.goto 4, 3) := zdc_497.2.2.2.2.2.2.2.2.2
theorem zdc_498 : decode cX12_isOf 13 = .ok (.iconst 0, 1) ∧ decode cX12_isOf 14 = .ok (.ireturn, 1) ∧ decode cX12_bits 0 = .ok (.iconst 0, 1) ∧ decode cX12_bits 1 = .ok (.istore_n 1, 1) ∧ decode cX12_bits 2 = .ok (.iconst 0, 1) ∧ decode cX12_bits 3 = .ok (.istore_n 2, 1) ∧ decode cX12_bits 4 = .ok (.iload_n 2, 1) ∧ decode cX12_bits 5 = .ok (.bipush 31, 2) ∧ decode cX12_bits 7 = .ok (.if_icmp .ge 17, 3) ∧ decode cX12_bits 10 = .ok (.iload_n 1, 1) := by decide +kernel
theorem dX12_isOf_13 : decode cX12_isOf 13 = .ok (.iconst 0, 1) := zdc_498.1
theorem dX12_isOf_14 : decode cX12_isOf 14 = .ok (.ireturn, 1) := zdc_498.2.1
theorem dX12_bits_0 : decode cX12_bits 0 = .ok (.iconst 0, 1) := zdc_498.2.2.1
theorem dX12_bits_1 : decode cX12_bits 1 = .ok (.istore_n 1, 1) := zdc_498.2.2.2.1
theorem dX12_bits_2 : decode cX12_bits 2 = .ok (.iconst 0, 1) := zdc_498.2.2.2.2.1
theorem dX12_bits_3 : decode cX12_bits 3 = .ok (.istore_n 2, 1) := zdc_498.2.2.2.2.2.1
theorem dX12_bits_4 : decode cX12_bits 4 = .ok (.iload_n 2, 1) := zdc_498.2.2.2.2.2.2.1
theorem dX12_bits_5 : decode cX12_bits 5 = .ok (.bipush 31, 2) := zdc_498.2.2.2.2.2.2.2.1
theorem dX12_bits_7 : decode cX12_bits 7 = .ok (.if_icmp .ge 17, 3) := zdc_498.2.2.2.2.2.2.2.2.1
theorem dX12_bits_10 : decode cX12_bits 10 = .ok (.iload_n 1, 1) := zdc_498.2.2.2.2.2.2.2.2.2
theorem zdc_499 : decode cX12_bits 11 = .ok (.iload_n 0, 1) ∧ decode cX12_bits 12 = .ok (.iload_n 2, 1) ∧ decode cX12_bits 13 = .ok (.ishr, 1) ∧ decode cX12_bits 14 = .ok (.iconst 1, 1) ∧ decode cX12_bits 15 = .ok (.iand, 1) ∧ decode cX12_bits 16 = .ok (.iadd, 1) ∧ decode cX12_bits 17 = .ok (.istore_n 1, 1) ∧ decode cX12_bits 18 = .ok (.iinc 2 1, 3) ∧ decode cX12_bits 21 = .ok (.goto (-17), 3) ∧ decode cX12_bits 24 = .ok (.iload_n 1, 1) := by decide +kernel
theorem dX12_bits_11 : decode cX12_bits 11 = .ok (.iload_n 0, 1) := zdc_499.1
theorem dX12_bits_12 : decode cX12_bits 12 = .ok (.iload_n 2, 1) := zdc_499.2.1
theorem dX12_bits_13 : decode cX12_bits 13 = .ok (.ishr, 1) := zdc_499.2.2.1
theorem dX12_bits_14 : decode cX12_bits 14 = .ok (.iconst 1, 1) := zdc_499.2.2.2.1
theorem dX12_bits_15 : decode cX12_bits 15 = .ok (.iand, 1) := zdc_499.2.2.2.2.1
theorem dX12_bits_16 : decode cX12_bits 16 = .ok (.iadd, 1) := zdc_499.2.2.2.2.2.1
theorem dX12_bits_17 : decode cX12_bits 17 = .ok (.istore_n 1, 1) := zdc_499.2.2.2.2.2.2.1
theorem dX12_bits_18 : decode cX12_bits 18 = .ok (.iinc 2 1, 3) := zdc_499.2.2.2.2.2.2.2.1
theorem dX12_bits_21 : decode cX12_bits 21 = .ok (.goto (-17), 3) := zdc_499.2.2.2.2.2.2.2.2.1
theorem dX12_bits_24 : decode cX12_bits 24 = .ok (.iload_n 1, 1) := zdc_499.2.2.2.2.2.2.2.2.2
theorem zdc_500 : decode cX12_bits 25 = .ok (.ireturn, 1) ∧ decode cX12_of 0 = .ok (.aload_n 0, 1) ∧ decode cX12_of 1 = .ok (.getfield 7, 3) ∧ decode cX12_of 4 = .ok (.bipush 11, 2) ∧ decode cX12_of 6 = .ok (.iconst 5, 1) ∧ decode cX12_of 7 = .ok (.iload_n 1, 1) ∧ decode cX12_of 8 = .ok (.imul, 1) ∧ decode cX12_of 9 = .ok (.iadd, 1) ∧ decode cX12_of 10 = .ok (.iload_n 2, 1) ∧ decode cX12_of 11 = .ok (.iadd, 1) := by decide +kernel
theorem dX12_bits_25 : decode cX12_bits 25 = .ok (.ireturn, 1) := zdc_500.1
theorem dX12_of_0 : decode cX12_of 0 = .ok (.aload_n 0, 1) := zdc_500.2.1
theorem dX12_of_1 : decode cX12_of 1 = .ok (.getfield 7, 3) := zdc_500.2.2.1
theorem dX12_of_4 : decode cX12_of 4 = .ok (.bipush 11, 2) := zdc_500.2.2.2.1
theorem dX12_of_6 : decode cX12_of 6 = .ok (.iconst 5, 1) := zdc_500.2.2.2.2.1
theorem dX12_of_7 : decode cX12_of 7 = .ok (.iload_n 1, 1) := zdc_500.2.2.2.2.2.1
theorem dX12_of_8 : decode cX12_of 8 = .ok (.imul, 1) := zdc_500.2.2.2.2.2.2.1
theorem dX12_of_9 : decode cX12_of 9 = .ok (.iadd, 1) := zdc_500.2.2.2.2.2.2.2.1
theorem dX12_of_10 : decode cX12_of 10 = .ok (.iload_n 2, 1) := zdc_500.2.2.2.2.2.2.2.2.1
theorem dX12_of_11 : decode cX12_of 11 = .ok (.iadd, 1) := zdc_500.2.2.2.2.2.2.2.2.2
theorem zdc_501 : decode cX12_of 12 = .ok (.iaload, 1) ∧ decode cX12_of 13 = .ok (.ireturn, 1) ∧ decode cX12_put 0 = .ok (.aload_n 0, 1) ∧ decode cX12_put 1 = .ok (.getfield 7, 3) ∧ decode cX12_put 4 = .ok (.bipush 11, 2) ∧ decode cX12_put 6 = .ok (.iconst 5, 1) ∧ decode cX12_put 7 = .ok (.iload_n 1, 1) ∧ decode cX12_put 8 = .ok (.imul, 1) ∧ decode cX12_put 9 = .ok (.iadd, 1) ∧ decode cX12_put 10 = .ok (.iload_n 2, 1) := by decide +kernel
theorem dX12_of_12 : decode cX12_of 12 = .ok (.iaload, 1) := zdc_501.1
theorem dX12_of_13 : decode cX12_of 13 = .ok (.ireturn, 1) := zdc_501.2.1
theorem dX12_put_0 : decode cX12_put 0 = .ok (.aload_n 0, 1) := zdc_501.2.2.1
theorem dX12_put_1 : decode cX12_put 1 = .ok (.getfield 7, 3) := zdc_501.2.2.2.1
theorem dX12_put_4 : decode cX12_put 4 = .ok (.bipush 11, 2) := zdc_501.2.2.2.2.1
theorem dX12_put_6 : decode cX12_put 6 = .ok (.iconst 5, 1) := zdc_501.2.2.2.2.2.1
theorem dX12_put_7 : decode cX12_put 7 = .ok (.iload_n 1, 1) := zdc_501.2.2.2.2.2.2.1
theorem dX12_put_8 : decode cX12_put 8 = .ok (.imul, 1) := zdc_501.2.2.2.2.2.2.2.1
theorem dX12_put_9 : decode cX12_put 9 = .ok (.iadd, 1) := zdc_501.2.2.2.2.2.2.2.2.1
theorem dX12_put_10 : decode cX12_put 10 = .ok (.iload_n 2, 1) := zdc_501.2.2.2.2.2.2.2.2.2
theorem zdc_502 : decode cX12_put 11 = .ok (.iadd, 1) ∧ decode cX12_put 12 = .ok (.iload_n 3, 1) ∧ decode cX12_put 13 = .ok (.iastore, 1) ∧ decode cX12_put 14 = .ok (.return_, 1) ∧ decode cX12_ofWork 0 = .ok (.aload_n 0, 1) ∧ decode cX12_ofWork 1 = .ok (.getfield 7, 3) ∧ decode cX12_ofWork 4 = .ok (.bipush 115, 2) ∧ decode cX12_ofWork 6 = .ok (.iconst 4, 1) ∧ decode cX12_ofWork 7 = .ok (.iload_n 1, 1) ∧ decode cX12_ofWork 8 = .ok (.imul, 1) := by decide +kernel
theorem dX12_put_11 : decode cX12_put 11 = .ok (.iadd, 1) := zdc_502.1
theorem dX12_put_12 : decode cX12_put 12 = .ok (.iload_n 3, 1) := zdc_502.2.1
theorem dX12_put_13 : decode cX12_put 13 = .ok (.iastore, 1) := zdc_502.2.2.1
theorem dX12_put_14 : decode cX12_put 14 = .ok (.return_, 1) := zdc_502.2.2.2.1
theorem dX12_ofWork_0 : decode cX12_ofWork 0 = .ok (.aload_n 0, 1) := zdc_502.2.2.2.2.1
theorem dX12_ofWork_1 : decode cX12_ofWork 1 = .ok (.getfield 7, 3) := zdc_502.2.2.2.2.2.1
theorem dX12_ofWork_4 : decode cX12_ofWork 4 = .ok (.bipush 115, 2) := zdc_502.2.2.2.2.2.2.1
theorem dX12_ofWork_6 : decode cX12_ofWork 6 = .ok (.iconst 4, 1) := zdc_502.2.2.2.2.2.2.2.1
theorem dX12_ofWork_7 : decode cX12_ofWork 7 = .ok (.iload_n 1, 1) := zdc_502.2.2.2.2.2.2.2.2.1
theorem dX12_ofWork_8 : decode cX12_ofWork 8 = .ok (.imul, 1) := zdc_502.2.2.2.2.2.2.2.2.2
theorem zdc_503 : decode cX12_ofWork 9 = .ok (.iadd, 1) ∧ decode cX12_ofWork 10 = .ok (.iload_n 2, 1) ∧ decode cX12_ofWork 11 = .ok (.iadd, 1) ∧ decode cX12_ofWork 12 = .ok (.iaload, 1) ∧ decode cX12_ofWork 13 = .ok (.ireturn, 1) ∧ decode cX12_putWork 0 = .ok (.aload_n 0, 1) ∧ decode cX12_putWork 1 = .ok (.getfield 7, 3) ∧ decode cX12_putWork 4 = .ok (.bipush 115, 2) ∧ decode cX12_putWork 6 = .ok (.iconst 4, 1) ∧ decode cX12_putWork 7 = .ok (.iload_n 1, 1) := by decide +kernel
theorem dX12_ofWork_9 : decode cX12_ofWork 9 = .ok (.iadd, 1) := zdc_503.1
theorem dX12_ofWork_10 : decode cX12_ofWork 10 = .ok (.iload_n 2, 1) := zdc_503.2.1
theorem dX12_ofWork_11 : decode cX12_ofWork 11 = .ok (.iadd, 1) := zdc_503.2.2.1
theorem dX12_ofWork_12 : decode cX12_ofWork 12 = .ok (.iaload, 1) := zdc_503.2.2.2.1
theorem dX12_ofWork_13 : decode cX12_ofWork 13 = .ok (.ireturn, 1) := zdc_503.2.2.2.2.1
theorem dX12_putWork_0 : decode cX12_putWork 0 = .ok (.aload_n 0, 1) := zdc_503.2.2.2.2.2.1
theorem dX12_putWork_1 : decode cX12_putWork 1 = .ok (.getfield 7, 3) := zdc_503.2.2.2.2.2.2.1
theorem dX12_putWork_4 : decode cX12_putWork 4 = .ok (.bipush 115, 2) := zdc_503.2.2.2.2.2.2.2.1
theorem dX12_putWork_6 : decode cX12_putWork 6 = .ok (.iconst 4, 1) := zdc_503.2.2.2.2.2.2.2.2.1
theorem dX12_putWork_7 : decode cX12_putWork 7 = .ok (.iload_n 1, 1) := zdc_503.2.2.2.2.2.2.2.2.2
theorem zdc_504 : decode cX12_putWork 8 = .ok (.imul, 1) ∧ decode cX12_putWork 9 = .ok (.iadd, 1) ∧ decode cX12_putWork 10 = .ok (.iload_n 2, 1) ∧ decode cX12_putWork 11 = .ok (.iadd, 1) ∧ decode cX12_putWork 12 = .ok (.iload_n 3, 1) ∧ decode cX12_putWork 13 = .ok (.iastore, 1) ∧ decode cX12_putWork 14 = .ok (.return_, 1) ∧ decode cX12_trustOf 0 = .ok (.aload_n 0, 1) ∧ decode cX12_trustOf 1 = .ok (.getfield 7, 3) ∧ decode cX12_trustOf 4 = .ok (.bipush 51, 2) := by decide +kernel
theorem dX12_putWork_8 : decode cX12_putWork 8 = .ok (.imul, 1) := zdc_504.1
theorem dX12_putWork_9 : decode cX12_putWork 9 = .ok (.iadd, 1) := zdc_504.2.1
theorem dX12_putWork_10 : decode cX12_putWork 10 = .ok (.iload_n 2, 1) := zdc_504.2.2.1
theorem dX12_putWork_11 : decode cX12_putWork 11 = .ok (.iadd, 1) := zdc_504.2.2.2.1
theorem dX12_putWork_12 : decode cX12_putWork 12 = .ok (.iload_n 3, 1) := zdc_504.2.2.2.2.1
theorem dX12_putWork_13 : decode cX12_putWork 13 = .ok (.iastore, 1) := zdc_504.2.2.2.2.2.1
theorem dX12_putWork_14 : decode cX12_putWork 14 = .ok (.return_, 1) := zdc_504.2.2.2.2.2.2.1
theorem dX12_trustOf_0 : decode cX12_trustOf 0 = .ok (.aload_n 0, 1) := zdc_504.2.2.2.2.2.2.2.1
theorem dX12_trustOf_1 : decode cX12_trustOf 1 = .ok (.getfield 7, 3) := zdc_504.2.2.2.2.2.2.2.2.1
theorem dX12_trustOf_4 : decode cX12_trustOf 4 = .ok (.bipush 51, 2) := zdc_504.2.2.2.2.2.2.2.2.2
theorem zdc_505 : decode cX12_trustOf 6 = .ok (.bipush 8, 2) ∧ decode cX12_trustOf 8 = .ok (.iload_n 1, 1) ∧ decode cX12_trustOf 9 = .ok (.imul, 1) ∧ decode cX12_trustOf 10 = .ok (.iadd, 1) ∧ decode cX12_trustOf 11 = .ok (.iload_n 2, 1) ∧ decode cX12_trustOf 12 = .ok (.iadd, 1) ∧ decode cX12_trustOf 13 = .ok (.iaload, 1) ∧ decode cX12_trustOf 14 = .ok (.ireturn, 1) ∧ decode cX12_isPerson 0 = .ok (.iload_n 1, 1) ∧ decode cX12_isPerson 1 = .ok (.iconst 0, 1) := by decide +kernel
theorem dX12_trustOf_6 : decode cX12_trustOf 6 = .ok (.bipush 8, 2) := zdc_505.1
theorem dX12_trustOf_8 : decode cX12_trustOf 8 = .ok (.iload_n 1, 1) := zdc_505.2.1
theorem dX12_trustOf_9 : decode cX12_trustOf 9 = .ok (.imul, 1) := zdc_505.2.2.1
theorem dX12_trustOf_10 : decode cX12_trustOf 10 = .ok (.iadd, 1) := zdc_505.2.2.2.1
theorem dX12_trustOf_11 : decode cX12_trustOf 11 = .ok (.iload_n 2, 1) := zdc_505.2.2.2.2.1
theorem dX12_trustOf_12 : decode cX12_trustOf 12 = .ok (.iadd, 1) := zdc_505.2.2.2.2.2.1
theorem dX12_trustOf_13 : decode cX12_trustOf 13 = .ok (.iaload, 1) := zdc_505.2.2.2.2.2.2.1
theorem dX12_trustOf_14 : decode cX12_trustOf 14 = .ok (.ireturn, 1) := zdc_505.2.2.2.2.2.2.2.1
theorem dX12_isPerson_0 : decode cX12_isPerson 0 = .ok (.iload_n 1, 1) := zdc_505.2.2.2.2.2.2.2.2.1
theorem dX12_isPerson_1 : decode cX12_isPerson 1 = .ok (.iconst 0, 1) := zdc_505.2.2.2.2.2.2.2.2.2
theorem zdc_506 : decode cX12_isPerson 2 = .ok (.aload_n 0, 1) ∧ decode cX12_isPerson 3 = .ok (.getfield 7, 3) ∧ decode cX12_isPerson 6 = .ok (.iconst 3, 1) ∧ decode cX12_isPerson 7 = .ok (.iaload, 1) ∧ decode cX12_isPerson 8 = .ok (.iconst 1, 1) ∧ decode cX12_isPerson 9 = .ok (.isub, 1) ∧ decode cX12_isPerson 10 = .ok (.invokestatic 42, 3) ∧ decode cX12_isPerson 13 = .ok (.ireturn, 1) ∧ decode cX12_isWork 0 = .ok (.iload_n 1, 1) ∧ decode cX12_isWork 1 = .ok (.iconst 0, 1) := by decide +kernel
theorem dX12_isPerson_2 : decode cX12_isPerson 2 = .ok (.aload_n 0, 1) := zdc_506.1
theorem dX12_isPerson_3 : decode cX12_isPerson 3 = .ok (.getfield 7, 3) := zdc_506.2.1
theorem dX12_isPerson_6 : decode cX12_isPerson 6 = .ok (.iconst 3, 1) := zdc_506.2.2.1
theorem dX12_isPerson_7 : decode cX12_isPerson 7 = .ok (.iaload, 1) := zdc_506.2.2.2.1
theorem dX12_isPerson_8 : decode cX12_isPerson 8 = .ok (.iconst 1, 1) := zdc_506.2.2.2.2.1
theorem dX12_isPerson_9 : decode cX12_isPerson 9 = .ok (.isub, 1) := zdc_506.2.2.2.2.2.1
theorem dX12_isPerson_10 : decode cX12_isPerson 10 = .ok (.invokestatic 42, 3) := zdc_506.2.2.2.2.2.2.1
theorem dX12_isPerson_13 : decode cX12_isPerson 13 = .ok (.ireturn, 1) := zdc_506.2.2.2.2.2.2.2.1
theorem dX12_isWork_0 : decode cX12_isWork 0 = .ok (.iload_n 1, 1) := zdc_506.2.2.2.2.2.2.2.2.1
theorem dX12_isWork_1 : decode cX12_isWork 1 = .ok (.iconst 0, 1) := zdc_506.2.2.2.2.2.2.2.2.2
theorem zdc_507 : decode cX12_isWork 2 = .ok (.aload_n 0, 1) ∧ decode cX12_isWork 3 = .ok (.getfield 7, 3) ∧ decode cX12_isWork 6 = .ok (.iconst 4, 1) ∧ decode cX12_isWork 7 = .ok (.iaload, 1) ∧ decode cX12_isWork 8 = .ok (.iconst 1, 1) ∧ decode cX12_isWork 9 = .ok (.isub, 1) ∧ decode cX12_isWork 10 = .ok (.invokestatic 42, 3) ∧ decode cX12_isWork 13 = .ok (.ireturn, 1) ∧ decode cX12_isHere 0 = .ok (.aload_n 0, 1) ∧ decode cX12_isHere 1 = .ok (.iload_n 1, 1) := by decide +kernel
theorem dX12_isWork_2 : decode cX12_isWork 2 = .ok (.aload_n 0, 1) := zdc_507.1
theorem dX12_isWork_3 : decode cX12_isWork 3 = .ok (.getfield 7, 3) := zdc_507.2.1
theorem dX12_isWork_6 : decode cX12_isWork 6 = .ok (.iconst 4, 1) := zdc_507.2.2.1
theorem dX12_isWork_7 : decode cX12_isWork 7 = .ok (.iaload, 1) := zdc_507.2.2.2.1
theorem dX12_isWork_8 : decode cX12_isWork 8 = .ok (.iconst 1, 1) := zdc_507.2.2.2.2.1
theorem dX12_isWork_9 : decode cX12_isWork 9 = .ok (.isub, 1) := zdc_507.2.2.2.2.2.1
theorem dX12_isWork_10 : decode cX12_isWork 10 = .ok (.invokestatic 42, 3) := zdc_507.2.2.2.2.2.2.1
theorem dX12_isWork_13 : decode cX12_isWork 13 = .ok (.ireturn, 1) := zdc_507.2.2.2.2.2.2.2.1
theorem dX12_isHere_0 : decode cX12_isHere 0 = .ok (.aload_n 0, 1) := zdc_507.2.2.2.2.2.2.2.2.1
theorem dX12_isHere_1 : decode cX12_isHere 1 = .ok (.iload_n 1, 1) := zdc_507.2.2.2.2.2.2.2.2.2
theorem zdc_508 : decode cX12_isHere 2 = .ok (.iconst 4, 1) ∧ decode cX12_isHere 3 = .ok (.invokevirtual 46, 3) ∧ decode cX12_isHere 6 = .ok (.iconst (-1), 1) ∧ decode cX12_isHere 7 = .ok (.if_icmp .ne 7, 3) ∧ decode cX12_isHere 10 = .ok (.iconst 1, 1) ∧ decode cX12_isHere 11 = .ok (.goto 4, 3) ∧ decode cX12_isHere 14 = .ok (.iconst 0, 1) ∧ decode cX12_isHere 15 = .ok (.ireturn, 1) ∧ decode cX12_hereOnes 0 = .ok (.iconst 0, 1) ∧ decode cX12_hereOnes 1 = .ok (.istore_n 1, 1) := by decide +kernel
theorem dX12_isHere_2 : decode cX12_isHere 2 = .ok (.iconst 4, 1) := zdc_508.1
theorem dX12_isHere_3 : decode cX12_isHere 3 = .ok (.invokevirtual 46, 3) := zdc_508.2.1
theorem dX12_isHere_6 : decode cX12_isHere 6 = .ok (.iconst (-1), 1) := zdc_508.2.2.1
theorem dX12_isHere_7 : decode cX12_isHere 7 = .ok (.if_icmp .ne 7, 3) := zdc_508.2.2.2.1
theorem dX12_isHere_10 : decode cX12_isHere 10 = .ok (.iconst 1, 1) := zdc_508.2.2.2.2.1
theorem dX12_isHere_11 : decode cX12_isHere 11 = .ok (.goto 4, 3) := zdc_508.2.2.2.2.2.1
theorem dX12_isHere_14 : decode cX12_isHere 14 = .ok (.iconst 0, 1) := zdc_508.2.2.2.2.2.2.1
theorem dX12_isHere_15 : decode cX12_isHere 15 = .ok (.ireturn, 1) := zdc_508.2.2.2.2.2.2.2.1
theorem dX12_hereOnes_0 : decode cX12_hereOnes 0 = .ok (.iconst 0, 1) := zdc_508.2.2.2.2.2.2.2.2.1
theorem dX12_hereOnes_1 : decode cX12_hereOnes 1 = .ok (.istore_n 1, 1) := zdc_508.2.2.2.2.2.2.2.2.2
theorem zdc_509 : decode cX12_hereOnes 2 = .ok (.iconst 0, 1) ∧ decode cX12_hereOnes 3 = .ok (.istore_n 2, 1) ∧ decode cX12_hereOnes 4 = .ok (.iload_n 2, 1) ∧ decode cX12_hereOnes 5 = .ok (.aload_n 0, 1) ∧ decode cX12_hereOnes 6 = .ok (.getfield 7, 3) ∧ decode cX12_hereOnes 9 = .ok (.iconst 3, 1) ∧ decode cX12_hereOnes 10 = .ok (.iaload, 1) ∧ decode cX12_hereOnes 11 = .ok (.if_icmp .ge 27, 3) ∧ decode cX12_hereOnes 14 = .ok (.iload_n 1, 1) ∧ decode cX12_hereOnes 15 = .ok (.aload_n 0, 1) := by decide +kernel
theorem dX12_hereOnes_2 : decode cX12_hereOnes 2 = .ok (.iconst 0, 1) := zdc_509.1
theorem dX12_hereOnes_3 : decode cX12_hereOnes 3 = .ok (.istore_n 2, 1) := zdc_509.2.1
theorem dX12_hereOnes_4 : decode cX12_hereOnes 4 = .ok (.iload_n 2, 1) := zdc_509.2.2.1
theorem dX12_hereOnes_5 : decode cX12_hereOnes 5 = .ok (.aload_n 0, 1) := zdc_509.2.2.2.1
theorem dX12_hereOnes_6 : decode cX12_hereOnes 6 = .ok (.getfield 7, 3) := zdc_509.2.2.2.2.1
theorem dX12_hereOnes_9 : decode cX12_hereOnes 9 = .ok (.iconst 3, 1) := zdc_509.2.2.2.2.2.1
theorem dX12_hereOnes_10 : decode cX12_hereOnes 10 = .ok (.iaload, 1) := zdc_509.2.2.2.2.2.2.1
theorem dX12_hereOnes_11 : decode cX12_hereOnes 11 = .ok (.if_icmp .ge 27, 3) := zdc_509.2.2.2.2.2.2.2.1
theorem dX12_hereOnes_14 : decode cX12_hereOnes 14 = .ok (.iload_n 1, 1) := zdc_509.2.2.2.2.2.2.2.2.1
theorem dX12_hereOnes_15 : decode cX12_hereOnes 15 = .ok (.aload_n 0, 1) := zdc_509.2.2.2.2.2.2.2.2.2
theorem zdc_510 : decode cX12_hereOnes 16 = .ok (.iload_n 2, 1) ∧ decode cX12_hereOnes 17 = .ok (.invokevirtual 50, 3) ∧ decode cX12_hereOnes 20 = .ok (.ifCond .eq 9, 3) ∧ decode cX12_hereOnes 23 = .ok (.iconst 1, 1) ∧ decode cX12_hereOnes 24 = .ok (.iload_n 2, 1) ∧ decode cX12_hereOnes 25 = .ok (.ishl, 1) ∧ decode cX12_hereOnes 26 = .ok (.goto 4, 3) ∧ decode cX12_hereOnes 29 = .ok (.iconst 0, 1) ∧ decode cX12_hereOnes 30 = .ok (.ior, 1) ∧ decode cX12_hereOnes 31 = .ok (.istore_n 1, 1) := by decide +kernel
theorem dX12_hereOnes_16 : decode cX12_hereOnes 16 = .ok (.iload_n 2, 1) := zdc_510.1
theorem dX12_hereOnes_17 : decode cX12_hereOnes 17 = .ok (.invokevirtual 50, 3) := zdc_510.2.1
theorem dX12_hereOnes_20 : decode cX12_hereOnes 20 = .ok (.ifCond .eq 9, 3) := zdc_510.2.2.1
theorem dX12_hereOnes_23 : decode cX12_hereOnes 23 = .ok (.iconst 1, 1) := zdc_510.2.2.2.1
theorem dX12_hereOnes_24 : decode cX12_hereOnes 24 = .ok (.iload_n 2, 1) := zdc_510.2.2.2.2.1
theorem dX12_hereOnes_25 : decode cX12_hereOnes 25 = .ok (.ishl, 1) := zdc_510.2.2.2.2.2.1
theorem dX12_hereOnes_26 : decode cX12_hereOnes 26 = .ok (.goto 4, 3) := zdc_510.2.2.2.2.2.2.1
theorem dX12_hereOnes_29 : decode cX12_hereOnes 29 = .ok (.iconst 0, 1) := zdc_510.2.2.2.2.2.2.2.1
theorem dX12_hereOnes_30 : decode cX12_hereOnes 30 = .ok (.ior, 1) := zdc_510.2.2.2.2.2.2.2.2.1
theorem dX12_hereOnes_31 : decode cX12_hereOnes 31 = .ok (.istore_n 1, 1) := zdc_510.2.2.2.2.2.2.2.2.2
theorem zdc_511 : decode cX12_hereOnes 32 = .ok (.iinc 2 1, 3) ∧ decode cX12_hereOnes 35 = .ok (.goto (-31), 3) ∧ decode cX12_hereOnes 38 = .ok (.iload_n 1, 1) ∧ decode cX12_hereOnes 39 = .ok (.ireturn, 1) ∧ decode cX12_believed 0 = .ok (.iconst 0, 1) ∧ decode cX12_believed 1 = .ok (.istore_n 1, 1) ∧ decode cX12_believed 2 = .ok (.iconst 0, 1) ∧ decode cX12_believed 3 = .ok (.istore_n 2, 1) ∧ decode cX12_believed 4 = .ok (.iload_n 2, 1) := by decide +kernel
theorem dX12_hereOnes_32 : decode cX12_hereOnes 32 = .ok (.iinc 2 1, 3) := zdc_511.1
theorem dX12_hereOnes_35 : decode cX12_hereOnes 35 = .ok (.goto (-31), 3) := zdc_511.2.1
theorem dX12_hereOnes_38 : decode cX12_hereOnes 38 = .ok (.iload_n 1, 1) := zdc_511.2.2.1
theorem dX12_hereOnes_39 : decode cX12_hereOnes 39 = .ok (.ireturn, 1) := zdc_511.2.2.2.1
theorem dX12_believed_0 : decode cX12_believed 0 = .ok (.iconst 0, 1) := zdc_511.2.2.2.2.1
theorem dX12_believed_1 : decode cX12_believed 1 = .ok (.istore_n 1, 1) := zdc_511.2.2.2.2.2.1
theorem dX12_believed_2 : decode cX12_believed 2 = .ok (.iconst 0, 1) := zdc_511.2.2.2.2.2.2.1
theorem dX12_believed_3 : decode cX12_believed 3 = .ok (.istore_n 2, 1) := zdc_511.2.2.2.2.2.2.2.1
theorem dX12_believed_4 : decode cX12_believed 4 = .ok (.iload_n 2, 1) := zdc_511.2.2.2.2.2.2.2.2
