theorem d_SK_startAnew_0 : decode prog_13_method_2_code 0 = .ok (.aload_n 0, 1) := by decide +kernel
theorem d_SK_startAnew_1 : decode prog_13_method_2_code 1 = .ok (.iconst 0, 1) := by decide +kernel
theorem d_SK_startAnew_2 : decode prog_13_method_2_code 2 = .ok (.putfield 30, 3) := by decide +kernel
theorem d_SK_startAnew_5 : decode prog_13_method_2_code 5 = .ok (.aload_n 0, 1) := by decide +kernel
theorem d_SK_startAnew_6 : decode prog_13_method_2_code 6 = .ok (.iconst 0, 1) := by decide +kernel
theorem d_SK_startAnew_7 : decode prog_13_method_2_code 7 = .ok (.putfield 34, 3) := by decide +kernel
theorem d_SK_startAnew_10 : decode prog_13_method_2_code 10 = .ok (.aload_n 0, 1) := by decide +kernel
theorem d_SK_startAnew_11 : decode prog_13_method_2_code 11 = .ok (.getfield 12, 3) := by decide +kernel
theorem d_SK_startAnew_14 : decode prog_13_method_2_code 14 = .ok (.getstatic 37, 3) := by decide +kernel
theorem d_SK_startAnew_17 : decode prog_13_method_2_code 17 = .ok (.iconst 0, 1) := by decide +kernel
theorem d_SK_startAnew_18 : decode prog_13_method_2_code 18 = .ok (.aload_n 0, 1) := by decide +kernel
theorem d_SK_startAnew_19 : decode prog_13_method_2_code 19 = .ok (.getfield 22, 3) := by decide +kernel
theorem d_SK_startAnew_22 : decode prog_13_method_2_code 22 = .ok (.getfield 43, 3) := by decide +kernel
theorem d_SK_startAnew_25 : decode prog_13_method_2_code 25 = .ok (.iconst 1, 1) := by decide +kernel
theorem d_SK_startAnew_26 : decode prog_13_method_2_code 26 = .ok (.iconst 0, 1) := by decide +kernel
theorem d_SK_startAnew_27 : decode prog_13_method_2_code 27 = .ok (.invokevirtual 48, 3) := by decide +kernel
theorem d_SK_startAnew_30 : decode prog_13_method_2_code 30 = .ok (.return_, 1) := by decide +kernel
theorem d_SK_frameAt_0 : decode prog_13_method_3_code 0 = .ok (.iload_n 1, 1) := by decide +kernel
theorem d_SK_frameAt_1 : decode prog_13_method_3_code 1 = .ok (.iconst 1, 1) := by decide +kernel
theorem d_SK_frameAt_2 : decode prog_13_method_3_code 2 = .ok (.if_icmp .lt 23, 3) := by decide +kernel
theorem d_SK_frameAt_5 : decode prog_13_method_3_code 5 = .ok (.iload_n 1, 1) := by decide +kernel
theorem d_SK_frameAt_6 : decode prog_13_method_3_code 6 = .ok (.aload_n 0, 1) := by decide +kernel
theorem d_SK_frameAt_7 : decode prog_13_method_3_code 7 = .ok (.getfield 18, 3) := by decide +kernel
theorem d_SK_frameAt_10 : decode prog_13_method_3_code 10 = .ok (.arraylength, 1) := by decide +kernel
theorem d_SK_frameAt_11 : decode prog_13_method_3_code 11 = .ok (.if_icmp .gt 14, 3) := by decide +kernel
theorem d_SK_frameAt_14 : decode prog_13_method_3_code 14 = .ok (.aload_n 0, 1) := by decide +kernel
theorem d_SK_frameAt_15 : decode prog_13_method_3_code 15 = .ok (.getfield 18, 3) := by decide +kernel
theorem d_SK_frameAt_18 : decode prog_13_method_3_code 18 = .ok (.iload_n 1, 1) := by decide +kernel
theorem d_SK_frameAt_19 : decode prog_13_method_3_code 19 = .ok (.iconst 1, 1) := by decide +kernel
theorem d_SK_frameAt_20 : decode prog_13_method_3_code 20 = .ok (.isub, 1) := by decide +kernel
theorem d_SK_frameAt_21 : decode prog_13_method_3_code 21 = .ok (.aaload, 1) := by decide +kernel
theorem d_SK_frameAt_22 : decode prog_13_method_3_code 22 = .ok (.goto 7, 3) := by decide +kernel
theorem d_SK_frameAt_25 : decode prog_13_method_3_code 25 = .ok (.aload_n 0, 1) := by decide +kernel
theorem d_SK_frameAt_26 : decode prog_13_method_3_code 26 = .ok (.getfield 12, 3) := by decide +kernel
theorem d_SK_frameAt_29 : decode prog_13_method_3_code 29 = .ok (.areturn, 1) := by decide +kernel
theorem d_SK_top_0 : decode prog_13_method_4_code 0 = .ok (.aload_n 0, 1) := by decide +kernel
theorem d_SK_top_1 : decode prog_13_method_4_code 1 = .ok (.aload_n 0, 1) := by decide +kernel
theorem d_SK_top_2 : decode prog_13_method_4_code 2 = .ok (.getfield 30, 3) := by decide +kernel
theorem d_SK_top_5 : decode prog_13_method_4_code 5 = .ok (.invokevirtual 52, 3) := by decide +kernel
theorem d_SK_top_8 : decode prog_13_method_4_code 8 = .ok (.areturn, 1) := by decide +kernel
theorem d_SK_setTrimmed_0 : decode prog_13_method_9_code 0 = .ok (.aload_n 0, 1) := by decide +kernel
theorem d_SK_setTrimmed_1 : decode prog_13_method_9_code 1 = .ok (.getfield 22, 3) := by decide +kernel
theorem d_SK_setTrimmed_4 : decode prog_13_method_9_code 4 = .ok (.iload_n 3, 1) := by decide +kernel
theorem d_SK_setTrimmed_5 : decode prog_13_method_9_code 5 = .ok (.iload 4, 2) := by decide +kernel
theorem d_SK_setTrimmed_7 : decode prog_13_method_9_code 7 = .ok (.invokevirtual 110, 3) := by decide +kernel
theorem d_SK_setTrimmed_10 : decode prog_13_method_9_code 10 = .ok (.istore 5, 2) := by decide +kernel
theorem d_SK_setTrimmed_12 : decode prog_13_method_9_code 12 = .ok (.aload_n 1, 1) := by decide +kernel
theorem d_SK_setTrimmed_13 : decode prog_13_method_9_code 13 = .ok (.iload_n 2, 1) := by decide +kernel
theorem d_SK_setTrimmed_14 : decode prog_13_method_9_code 14 = .ok (.iload 5, 2) := by decide +kernel
theorem d_SK_setTrimmed_16 : decode prog_13_method_9_code 16 = .ok (.aload_n 0, 1) := by decide +kernel
theorem d_SK_setTrimmed_17 : decode prog_13_method_9_code 17 = .ok (.getfield 22, 3) := by decide +kernel
theorem d_SK_setTrimmed_20 : decode prog_13_method_9_code 20 = .ok (.iload 5, 2) := by decide +kernel
theorem d_SK_setTrimmed_22 : decode prog_13_method_9_code 22 = .ok (.iload 4, 2) := by decide +kernel
theorem d_SK_setTrimmed_24 : decode prog_13_method_9_code 24 = .ok (.invokevirtual 113, 3) := by decide +kernel
theorem d_SK_setTrimmed_27 : decode prog_13_method_9_code 27 = .ok (.invokevirtual 116, 3) := by decide +kernel
theorem d_SK_setTrimmed_30 : decode prog_13_method_9_code 30 = .ok (.return_, 1) := by decide +kernel
theorem d_SK_nextText_0 : decode prog_13_method_8_code 0 = .ok (.aload_n 0, 1) := by decide +kernel
theorem d_SK_nextText_1 : decode prog_13_method_8_code 1 = .ok (.getfield 22, 3) := by decide +kernel
theorem d_SK_nextText_4 : decode prog_13_method_8_code 4 = .ok (.aload_n 1, 1) := by decide +kernel
theorem d_SK_nextText_5 : decode prog_13_method_8_code 5 = .ok (.getfield 94, 3) := by decide +kernel
theorem d_SK_nextText_8 : decode prog_13_method_8_code 8 = .ok (.aload_n 1, 1) := by decide +kernel
theorem d_SK_nextText_9 : decode prog_13_method_8_code 9 = .ok (.getfield 97, 3) := by decide +kernel
theorem d_SK_nextText_12 : decode prog_13_method_8_code 12 = .ok (.invokevirtual 100, 3) := by decide +kernel
theorem d_SK_nextText_15 : decode prog_13_method_8_code 15 = .ok (.istore_n 2, 1) := by decide +kernel
theorem d_SK_nextText_16 : decode prog_13_method_8_code 16 = .ok (.iload_n 2, 1) := by decide +kernel
theorem d_SK_nextText_17 : decode prog_13_method_8_code 17 = .ok (.iconst (-1), 1) := by decide +kernel
theorem d_SK_nextText_18 : decode prog_13_method_8_code 18 = .ok (.if_icmp .ne 8, 3) := by decide +kernel
theorem d_SK_nextText_21 : decode prog_13_method_8_code 21 = .ok (.aload_n 1, 1) := by decide +kernel
theorem d_SK_nextText_22 : decode prog_13_method_8_code 22 = .ok (.getfield 97, 3) := by decide +kernel
theorem d_SK_nextText_25 : decode prog_13_method_8_code 25 = .ok (.istore_n 2, 1) := by decide +kernel
theorem d_SK_nextText_26 : decode prog_13_method_8_code 26 = .ok (.aload_n 0, 1) := by decide +kernel
theorem d_SK_nextText_27 : decode prog_13_method_8_code 27 = .ok (.aload_n 1, 1) := by decide +kernel
theorem d_SK_nextText_28 : decode prog_13_method_8_code 28 = .ok (.iconst 0, 1) := by decide +kernel
theorem d_SK_nextText_29 : decode prog_13_method_8_code 29 = .ok (.aload_n 1, 1) := by decide +kernel
theorem d_SK_nextText_30 : decode prog_13_method_8_code 30 = .ok (.getfield 94, 3) := by decide +kernel
theorem d_SK_nextText_33 : decode prog_13_method_8_code 33 = .ok (.iload_n 2, 1) := by decide +kernel
theorem d_SK_nextText_34 : decode prog_13_method_8_code 34 = .ok (.invokevirtual 103, 3) := by decide +kernel
theorem d_SK_nextText_37 : decode prog_13_method_8_code 37 = .ok (.aload_n 1, 1) := by decide +kernel
theorem d_SK_nextText_38 : decode prog_13_method_8_code 38 = .ok (.iload_n 2, 1) := by decide +kernel
theorem d_SK_nextText_39 : decode prog_13_method_8_code 39 = .ok (.iconst 1, 1) := by decide +kernel
theorem d_SK_nextText_40 : decode prog_13_method_8_code 40 = .ok (.iadd, 1) := by decide +kernel
theorem d_SK_nextText_41 : decode prog_13_method_8_code 41 = .ok (.aload_n 1, 1) := by decide +kernel
theorem d_SK_nextText_42 : decode prog_13_method_8_code 42 = .ok (.getfield 97, 3) := by decide +kernel
theorem d_SK_nextText_45 : decode prog_13_method_8_code 45 = .ok (.invokestatic 107, 3) := by decide +kernel
theorem d_SK_nextText_48 : decode prog_13_method_8_code 48 = .ok (.putfield 94, 3) := by decide +kernel
theorem d_SK_nextText_51 : decode prog_13_method_8_code 51 = .ok (.return_, 1) := by decide +kernel
theorem d_SK_turn_0 : decode prog_13_method_7_code 0 = .ok (.aload_n 0, 1) := by decide +kernel
theorem d_SK_turn_1 : decode prog_13_method_7_code 1 = .ok (.invokevirtual 65, 3) := by decide +kernel
theorem d_SK_turn_4 : decode prog_13_method_7_code 4 = .ok (.astore_n 1, 1) := by decide +kernel
theorem d_SK_turn_5 : decode prog_13_method_7_code 5 = .ok (.aload_n 1, 1) := by decide +kernel
theorem d_SK_turn_6 : decode prog_13_method_7_code 6 = .ok (.dup, 1) := by decide +kernel
theorem d_SK_turn_7 : decode prog_13_method_7_code 7 = .ok (.getfield 69, 3) := by decide +kernel
theorem d_SK_turn_10 : decode prog_13_method_7_code 10 = .ok (.iconst 1, 1) := by decide +kernel
theorem d_SK_turn_11 : decode prog_13_method_7_code 11 = .ok (.iadd, 1) := by decide +kernel
theorem d_SK_turn_12 : decode prog_13_method_7_code 12 = .ok (.putfield 69, 3) := by decide +kernel
theorem d_SK_turn_15 : decode prog_13_method_7_code 15 = .ok (.aload_n 1, 1) := by decide +kernel
theorem d_SK_turn_16 : decode prog_13_method_7_code 16 = .ok (.getfield 69, 3) := by decide +kernel
theorem d_SK_turn_19 : decode prog_13_method_7_code 19 = .ok (.aload_n 1, 1) := by decide +kernel
theorem d_SK_turn_20 : decode prog_13_method_7_code 20 = .ok (.getfield 72, 3) := by decide +kernel
theorem d_SK_turn_23 : decode prog_13_method_7_code 23 = .ok (.if_icmp .ge 14, 3) := by decide +kernel
theorem d_SK_turn_26 : decode prog_13_method_7_code 26 = .ok (.aload_n 1, 1) := by decide +kernel
theorem d_SK_turn_27 : decode prog_13_method_7_code 27 = .ok (.getfield 75, 3) := by decide +kernel
theorem d_SK_turn_30 : decode prog_13_method_7_code 30 = .ok (.aload_n 1, 1) := by decide +kernel
theorem d_SK_turn_31 : decode prog_13_method_7_code 31 = .ok (.getfield 78, 3) := by decide +kernel
theorem d_SK_turn_34 : decode prog_13_method_7_code 34 = .ok (.if_icmp .lt 18, 3) := by decide +kernel
theorem d_SK_turn_37 : decode prog_13_method_7_code 37 = .ok (.aload_n 0, 1) := by decide +kernel
theorem d_SK_turn_38 : decode prog_13_method_7_code 38 = .ok (.iconst 0, 1) := by decide +kernel
theorem d_SK_turn_39 : decode prog_13_method_7_code 39 = .ok (.aload_n 0, 1) := by decide +kernel
theorem d_SK_turn_40 : decode prog_13_method_7_code 40 = .ok (.getfield 30, 3) := by decide +kernel
theorem d_SK_turn_43 : decode prog_13_method_7_code 43 = .ok (.iconst 1, 1) := by decide +kernel
theorem d_SK_turn_44 : decode prog_13_method_7_code 44 = .ok (.isub, 1) := by decide +kernel
theorem d_SK_turn_45 : decode prog_13_method_7_code 45 = .ok (.invokestatic 59, 3) := by decide +kernel
theorem d_SK_turn_48 : decode prog_13_method_7_code 48 = .ok (.putfield 30, 3) := by decide +kernel
theorem d_SK_turn_51 : decode prog_13_method_7_code 51 = .ok (.return_, 1) := by decide +kernel
theorem d_SK_turn_52 : decode prog_13_method_7_code 52 = .ok (.aload_n 1, 1) := by decide +kernel
theorem d_SK_turn_53 : decode prog_13_method_7_code 53 = .ok (.aload_n 1, 1) := by decide +kernel
theorem d_SK_turn_54 : decode prog_13_method_7_code 54 = .ok (.getfield 75, 3) := by decide +kernel
theorem d_SK_turn_57 : decode prog_13_method_7_code 57 = .ok (.putfield 81, 3) := by decide +kernel
theorem d_SK_turn_60 : decode prog_13_method_7_code 60 = .ok (.aload_n 1, 1) := by decide +kernel
theorem d_SK_turn_61 : decode prog_13_method_7_code 61 = .ok (.getfield 84, 3) := by decide +kernel
theorem d_SK_turn_64 : decode prog_13_method_7_code 64 = .ok (.getstatic 87, 3) := by decide +kernel
theorem d_SK_turn_67 : decode prog_13_method_7_code 67 = .ok (.if_acmp .ne 8, 3) := by decide +kernel
theorem d_SK_turn_70 : decode prog_13_method_7_code 70 = .ok (.aload_n 0, 1) := by decide +kernel
theorem d_SK_turn_71 : decode prog_13_method_7_code 71 = .ok (.aload_n 1, 1) := by decide +kernel
theorem d_SK_turn_72 : decode prog_13_method_7_code 72 = .ok (.invokevirtual 90, 3) := by decide +kernel
theorem d_SK_turn_75 : decode prog_13_method_7_code 75 = .ok (.return_, 1) := by decide +kernel
theorem d_SK_macroDepth_0 : decode prog_13_method_12_code 0 = .ok (.aload_n 0, 1) := by decide +kernel
theorem d_SK_macroDepth_1 : decode prog_13_method_12_code 1 = .ok (.getfield 30, 3) := by decide +kernel
theorem d_SK_macroDepth_4 : decode prog_13_method_12_code 4 = .ok (.istore_n 1, 1) := by decide +kernel
theorem d_SK_macroDepth_5 : decode prog_13_method_12_code 5 = .ok (.iload_n 1, 1) := by decide +kernel
theorem d_SK_macroDepth_6 : decode prog_13_method_12_code 6 = .ok (.ifCond .le 23, 3) := by decide +kernel
theorem d_SK_macroDepth_9 : decode prog_13_method_12_code 9 = .ok (.aload_n 0, 1) := by decide +kernel
theorem d_SK_macroDepth_10 : decode prog_13_method_12_code 10 = .ok (.iload_n 1, 1) := by decide +kernel
theorem d_SK_macroDepth_11 : decode prog_13_method_12_code 11 = .ok (.invokevirtual 52, 3) := by decide +kernel
theorem d_SK_macroDepth_14 : decode prog_13_method_12_code 14 = .ok (.getfield 84, 3) := by decide +kernel
theorem d_SK_macroDepth_17 : decode prog_13_method_12_code 17 = .ok (.getstatic 141, 3) := by decide +kernel
theorem d_SK_macroDepth_20 : decode prog_13_method_12_code 20 = .ok (.if_acmp .eq 9, 3) := by decide +kernel
theorem d_SK_macroDepth_23 : decode prog_13_method_12_code 23 = .ok (.iinc 1 (-1), 3) := by decide +kernel
theorem d_SK_macroDepth_26 : decode prog_13_method_12_code 26 = .ok (.goto (-21), 3) := by decide +kernel
theorem d_SK_macroDepth_29 : decode prog_13_method_12_code 29 = .ok (.iload_n 1, 1) := by decide +kernel
theorem d_SK_macroDepth_30 : decode prog_13_method_12_code 30 = .ok (.ireturn, 1) := by decide +kernel
theorem d_SK_appendSign_0 : decode prog_13_method_18_code 0 = .ok (.aload_n 0, 1) := by decide +kernel
theorem d_SK_appendSign_1 : decode prog_13_method_18_code 1 = .ok (.getfield 147, 3) := by decide +kernel
theorem d_SK_appendSign_4 : decode prog_13_method_18_code 4 = .ok (.aload_n 0, 1) := by decide +kernel
theorem d_SK_appendSign_5 : decode prog_13_method_18_code 5 = .ok (.getfield 144, 3) := by decide +kernel
theorem d_SK_appendSign_8 : decode prog_13_method_18_code 8 = .ok (.isub, 1) := by decide +kernel
theorem d_SK_appendSign_9 : decode prog_13_method_18_code 9 = .ok (.sipush 300, 3) := by decide +kernel
theorem d_SK_appendSign_12 : decode prog_13_method_18_code 12 = .ok (.if_icmp .ge 15, 3) := by decide +kernel
theorem d_SK_appendSign_15 : decode prog_13_method_18_code 15 = .ok (.aload_n 0, 1) := by decide +kernel
theorem d_SK_appendSign_16 : decode prog_13_method_18_code 16 = .ok (.getfield 22, 3) := by decide +kernel
theorem d_SK_appendSign_19 : decode prog_13_method_18_code 19 = .ok (.aload_n 0, 1) := by decide +kernel
theorem d_SK_appendSign_20 : decode prog_13_method_18_code 20 = .ok (.getfield 147, 3) := by decide +kernel
theorem d_SK_appendSign_23 : decode prog_13_method_18_code 23 = .ok (.iload_n 1, 1) := by decide +kernel
theorem d_SK_appendSign_24 : decode prog_13_method_18_code 24 = .ok (.invokevirtual 209, 3) := by decide +kernel
theorem d_SK_appendSign_27 : decode prog_13_method_18_code 27 = .ok (.aload_n 0, 1) := by decide +kernel
theorem d_SK_appendSign_28 : decode prog_13_method_18_code 28 = .ok (.dup, 1) := by decide +kernel
theorem d_SK_appendSign_29 : decode prog_13_method_18_code 29 = .ok (.getfield 147, 3) := by decide +kernel
theorem d_SK_appendSign_32 : decode prog_13_method_18_code 32 = .ok (.iconst 1, 1) := by decide +kernel
theorem d_SK_appendSign_33 : decode prog_13_method_18_code 33 = .ok (.iadd, 1) := by decide +kernel
theorem d_SK_appendSign_34 : decode prog_13_method_18_code 34 = .ok (.putfield 147, 3) := by decide +kernel
theorem d_SK_appendSign_37 : decode prog_13_method_18_code 37 = .ok (.return_, 1) := by decide +kernel
theorem d_SK_appendNumber_0 : decode prog_13_method_16_code 0 = .ok (.iload_n 1, 1) := by decide +kernel
theorem d_SK_appendNumber_1 : decode prog_13_method_16_code 1 = .ok (.ifCond .ge 9, 3) := by decide +kernel
theorem d_SK_appendNumber_4 : decode prog_13_method_16_code 4 = .ok (.aload_n 0, 1) := by decide +kernel
theorem d_SK_appendNumber_5 : decode prog_13_method_16_code 5 = .ok (.iconst 1, 1) := by decide +kernel
theorem d_SK_appendNumber_6 : decode prog_13_method_16_code 6 = .ok (.putfield 150, 3) := by decide +kernel
theorem d_SK_appendNumber_9 : decode prog_13_method_16_code 9 = .ok (.return_, 1) := by decide +kernel
theorem d_SK_appendNumber_10 : decode prog_13_method_16_code 10 = .ok (.iconst 0, 1) := by decide +kernel
theorem d_SK_appendNumber_11 : decode prog_13_method_16_code 11 = .ok (.istore_n 2, 1) := by decide +kernel
theorem d_SK_appendNumber_12 : decode prog_13_method_16_code 12 = .ok (.ldc 205, 2) := by decide +kernel
theorem d_SK_appendNumber_14 : decode prog_13_method_16_code 14 = .ok (.istore_n 3, 1) := by decide +kernel
theorem d_SK_appendNumber_15 : decode prog_13_method_16_code 15 = .ok (.iload_n 3, 1) := by decide +kernel
theorem d_SK_appendNumber_16 : decode prog_13_method_16_code 16 = .ok (.ifCond .le 52, 3) := by decide +kernel
theorem d_SK_appendNumber_19 : decode prog_13_method_16_code 19 = .ok (.iload_n 1, 1) := by decide +kernel
theorem d_SK_appendNumber_20 : decode prog_13_method_16_code 20 = .ok (.iload_n 3, 1) := by decide +kernel
theorem d_SK_appendNumber_21 : decode prog_13_method_16_code 21 = .ok (.idiv, 1) := by decide +kernel
theorem d_SK_appendNumber_22 : decode prog_13_method_16_code 22 = .ok (.bipush 10, 2) := by decide +kernel
theorem d_SK_appendNumber_24 : decode prog_13_method_16_code 24 = .ok (.irem, 1) := by decide +kernel
theorem d_SK_appendNumber_25 : decode prog_13_method_16_code 25 = .ok (.istore 4, 2) := by decide +kernel
theorem d_SK_appendNumber_27 : decode prog_13_method_16_code 27 = .ok (.iload_n 2, 1) := by decide +kernel
theorem d_SK_appendNumber_28 : decode prog_13_method_16_code 28 = .ok (.ifCond .ne 13, 3) := by decide +kernel
theorem d_SK_appendNumber_31 : decode prog_13_method_16_code 31 = .ok (.iload 4, 2) := by decide +kernel
theorem d_SK_appendNumber_33 : decode prog_13_method_16_code 33 = .ok (.ifCond .gt 8, 3) := by decide +kernel
theorem d_SK_appendNumber_36 : decode prog_13_method_16_code 36 = .ok (.iload_n 3, 1) := by decide +kernel
theorem d_SK_appendNumber_37 : decode prog_13_method_16_code 37 = .ok (.iconst 1, 1) := by decide +kernel
theorem d_SK_appendNumber_38 : decode prog_13_method_16_code 38 = .ok (.if_icmp .ne 7, 3) := by decide +kernel
theorem d_SK_appendNumber_41 : decode prog_13_method_16_code 41 = .ok (.iconst 1, 1) := by decide +kernel
theorem d_SK_appendNumber_42 : decode prog_13_method_16_code 42 = .ok (.goto 4, 3) := by decide +kernel
theorem d_SK_appendNumber_45 : decode prog_13_method_16_code 45 = .ok (.iconst 0, 1) := by decide +kernel
theorem d_SK_appendNumber_46 : decode prog_13_method_16_code 46 = .ok (.istore_n 2, 1) := by decide +kernel
theorem d_SK_appendNumber_47 : decode prog_13_method_16_code 47 = .ok (.iload_n 2, 1) := by decide +kernel
theorem d_SK_appendNumber_48 : decode prog_13_method_16_code 48 = .ok (.ifCond .eq 12, 3) := by decide +kernel
theorem d_SK_appendNumber_51 : decode prog_13_method_16_code 51 = .ok (.aload_n 0, 1) := by decide +kernel
theorem d_SK_appendNumber_52 : decode prog_13_method_16_code 52 = .ok (.bipush 48, 2) := by decide +kernel
theorem d_SK_appendNumber_54 : decode prog_13_method_16_code 54 = .ok (.iload 4, 2) := by decide +kernel
theorem d_SK_appendNumber_56 : decode prog_13_method_16_code 56 = .ok (.iadd, 1) := by decide +kernel
theorem d_SK_appendNumber_57 : decode prog_13_method_16_code 57 = .ok (.invokevirtual 206, 3) := by decide +kernel
theorem d_SK_appendNumber_60 : decode prog_13_method_16_code 60 = .ok (.iload_n 3, 1) := by decide +kernel
theorem d_SK_appendNumber_61 : decode prog_13_method_16_code 61 = .ok (.bipush 10, 2) := by decide +kernel
theorem d_SK_appendNumber_63 : decode prog_13_method_16_code 63 = .ok (.idiv, 1) := by decide +kernel
theorem d_SK_appendNumber_64 : decode prog_13_method_16_code 64 = .ok (.istore_n 3, 1) := by decide +kernel
theorem d_SK_appendNumber_65 : decode prog_13_method_16_code 65 = .ok (.goto (-50), 3) := by decide +kernel
theorem d_SK_appendNumber_68 : decode prog_13_method_16_code 68 = .ok (.return_, 1) := by decide +kernel
theorem d_SK_append_0 : decode prog_13_method_17_code 0 = .ok (.aload_n 0, 1) := by decide +kernel
theorem d_SK_append_1 : decode prog_13_method_17_code 1 = .ok (.getfield 147, 3) := by decide +kernel
theorem d_SK_append_4 : decode prog_13_method_17_code 4 = .ok (.aload_n 0, 1) := by decide +kernel
theorem d_SK_append_5 : decode prog_13_method_17_code 5 = .ok (.getfield 144, 3) := by decide +kernel
theorem d_SK_append_8 : decode prog_13_method_17_code 8 = .ok (.isub, 1) := by decide +kernel
theorem d_SK_append_9 : decode prog_13_method_17_code 9 = .ok (.iload_n 2, 1) := by decide +kernel
theorem d_SK_append_10 : decode prog_13_method_17_code 10 = .ok (.iload_n 1, 1) := by decide +kernel
theorem d_SK_append_11 : decode prog_13_method_17_code 11 = .ok (.isub, 1) := by decide +kernel
theorem d_SK_append_12 : decode prog_13_method_17_code 12 = .ok (.iadd, 1) := by decide +kernel
theorem d_SK_append_13 : decode prog_13_method_17_code 13 = .ok (.sipush 300, 3) := by decide +kernel
theorem d_SK_append_16 : decode prog_13_method_17_code 16 = .ok (.if_icmp .le 16, 3) := by decide +kernel
theorem d_SK_append_19 : decode prog_13_method_17_code 19 = .ok (.aload_n 0, 1) := by decide +kernel
theorem d_SK_append_20 : decode prog_13_method_17_code 20 = .ok (.dup, 1) := by decide +kernel
theorem d_SK_append_21 : decode prog_13_method_17_code 21 = .ok (.getfield 147, 3) := by decide +kernel
theorem d_SK_append_24 : decode prog_13_method_17_code 24 = .ok (.iload_n 2, 1) := by decide +kernel
theorem d_SK_append_25 : decode prog_13_method_17_code 25 = .ok (.iload_n 1, 1) := by decide +kernel
theorem d_SK_append_26 : decode prog_13_method_17_code 26 = .ok (.isub, 1) := by decide +kernel
theorem d_SK_append_27 : decode prog_13_method_17_code 27 = .ok (.iadd, 1) := by decide +kernel
theorem d_SK_append_28 : decode prog_13_method_17_code 28 = .ok (.putfield 147, 3) := by decide +kernel
theorem d_SK_append_31 : decode prog_13_method_17_code 31 = .ok (.return_, 1) := by decide +kernel
theorem d_SK_append_32 : decode prog_13_method_17_code 32 = .ok (.iload_n 1, 1) := by decide +kernel
theorem d_SK_append_33 : decode prog_13_method_17_code 33 = .ok (.istore_n 3, 1) := by decide +kernel
theorem d_SK_append_34 : decode prog_13_method_17_code 34 = .ok (.iload_n 3, 1) := by decide +kernel
theorem d_SK_append_35 : decode prog_13_method_17_code 35 = .ok (.iload_n 2, 1) := by decide +kernel
theorem d_SK_append_36 : decode prog_13_method_17_code 36 = .ok (.if_icmp .ge 38, 3) := by decide +kernel
theorem d_SK_append_39 : decode prog_13_method_17_code 39 = .ok (.aload_n 0, 1) := by decide +kernel
theorem d_SK_append_40 : decode prog_13_method_17_code 40 = .ok (.getfield 22, 3) := by decide +kernel
theorem d_SK_append_43 : decode prog_13_method_17_code 43 = .ok (.aload_n 0, 1) := by decide +kernel
theorem d_SK_append_44 : decode prog_13_method_17_code 44 = .ok (.getfield 147, 3) := by decide +kernel
theorem d_SK_append_47 : decode prog_13_method_17_code 47 = .ok (.aload_n 0, 1) := by decide +kernel
theorem d_SK_append_48 : decode prog_13_method_17_code 48 = .ok (.getfield 22, 3) := by decide +kernel
theorem d_SK_append_51 : decode prog_13_method_17_code 51 = .ok (.iload_n 3, 1) := by decide +kernel
theorem d_SK_append_52 : decode prog_13_method_17_code 52 = .ok (.invokevirtual 161, 3) := by decide +kernel
theorem d_SK_append_55 : decode prog_13_method_17_code 55 = .ok (.invokevirtual 209, 3) := by decide +kernel
theorem d_SK_append_58 : decode prog_13_method_17_code 58 = .ok (.aload_n 0, 1) := by decide +kernel
theorem d_SK_append_59 : decode prog_13_method_17_code 59 = .ok (.dup, 1) := by decide +kernel
theorem d_SK_append_60 : decode prog_13_method_17_code 60 = .ok (.getfield 147, 3) := by decide +kernel
theorem d_SK_append_63 : decode prog_13_method_17_code 63 = .ok (.iconst 1, 1) := by decide +kernel
theorem d_SK_append_64 : decode prog_13_method_17_code 64 = .ok (.iadd, 1) := by decide +kernel
theorem d_SK_append_65 : decode prog_13_method_17_code 65 = .ok (.putfield 147, 3) := by decide +kernel
theorem d_SK_append_68 : decode prog_13_method_17_code 68 = .ok (.iinc 3 1, 3) := by decide +kernel
theorem d_SK_append_71 : decode prog_13_method_17_code 71 = .ok (.goto (-37), 3) := by decide +kernel
theorem d_SK_append_74 : decode prog_13_method_17_code 74 = .ok (.return_, 1) := by decide +kernel
theorem d_SK_appendNamed_0 : decode prog_13_method_15_code 0 = .ok (.aload_n 0, 1) := by decide +kernel
theorem d_SK_appendNamed_1 : decode prog_13_method_15_code 1 = .ok (.getfield 30, 3) := by decide +kernel
theorem d_SK_appendNamed_4 : decode prog_13_method_15_code 4 = .ok (.istore_n 3, 1) := by decide +kernel
theorem d_SK_appendNamed_5 : decode prog_13_method_15_code 5 = .ok (.iload_n 3, 1) := by decide +kernel
theorem d_SK_appendNamed_6 : decode prog_13_method_15_code 6 = .ok (.aload_n 0, 1) := by decide +kernel
theorem d_SK_appendNamed_7 : decode prog_13_method_15_code 7 = .ok (.getfield 158, 3) := by decide +kernel
theorem d_SK_appendNamed_10 : decode prog_13_method_15_code 10 = .ok (.if_icmp .le 66, 3) := by decide +kernel
theorem d_SK_appendNamed_13 : decode prog_13_method_15_code 13 = .ok (.aload_n 0, 1) := by decide +kernel
theorem d_SK_appendNamed_14 : decode prog_13_method_15_code 14 = .ok (.iload_n 3, 1) := by decide +kernel
theorem d_SK_appendNamed_15 : decode prog_13_method_15_code 15 = .ok (.invokevirtual 52, 3) := by decide +kernel
theorem d_SK_appendNamed_18 : decode prog_13_method_15_code 18 = .ok (.astore 4, 2) := by decide +kernel
theorem d_SK_appendNamed_20 : decode prog_13_method_15_code 20 = .ok (.aload 4, 2) := by decide +kernel
theorem d_SK_appendNamed_22 : decode prog_13_method_15_code 22 = .ok (.getfield 84, 3) := by decide +kernel
theorem d_SK_appendNamed_25 : decode prog_13_method_15_code 25 = .ok (.getstatic 87, 3) := by decide +kernel
theorem d_SK_appendNamed_28 : decode prog_13_method_15_code 28 = .ok (.if_acmp .ne 42, 3) := by decide +kernel
theorem d_SK_appendNamed_31 : decode prog_13_method_15_code 31 = .ok (.aload_n 0, 1) := by decide +kernel
theorem d_SK_appendNamed_32 : decode prog_13_method_15_code 32 = .ok (.getfield 22, 3) := by decide +kernel
theorem d_SK_appendNamed_35 : decode prog_13_method_15_code 35 = .ok (.aload 4, 2) := by decide +kernel
theorem d_SK_appendNamed_37 : decode prog_13_method_15_code 37 = .ok (.getfield 188, 3) := by decide +kernel
theorem d_SK_appendNamed_40 : decode prog_13_method_15_code 40 = .ok (.aload 4, 2) := by decide +kernel
theorem d_SK_appendNamed_42 : decode prog_13_method_15_code 42 = .ok (.getfield 191, 3) := by decide +kernel
theorem d_SK_appendNamed_45 : decode prog_13_method_15_code 45 = .ok (.iload_n 1, 1) := by decide +kernel
theorem d_SK_appendNamed_46 : decode prog_13_method_15_code 46 = .ok (.iload_n 2, 1) := by decide +kernel
theorem d_SK_appendNamed_47 : decode prog_13_method_15_code 47 = .ok (.invokevirtual 194, 3) := by decide +kernel
theorem d_SK_appendNamed_50 : decode prog_13_method_15_code 50 = .ok (.ifCond .eq 20, 3) := by decide +kernel
theorem d_SK_appendNamed_53 : decode prog_13_method_15_code 53 = .ok (.aload_n 0, 1) := by decide +kernel
theorem d_SK_appendNamed_54 : decode prog_13_method_15_code 54 = .ok (.aload 4, 2) := by decide +kernel
theorem d_SK_appendNamed_56 : decode prog_13_method_15_code 56 = .ok (.iconst 0, 1) := by decide +kernel
theorem d_SK_appendNamed_57 : decode prog_13_method_15_code 57 = .ok (.invokevirtual 129, 3) := by decide +kernel
theorem d_SK_appendNamed_60 : decode prog_13_method_15_code 60 = .ok (.aload 4, 2) := by decide +kernel
theorem d_SK_appendNamed_62 : decode prog_13_method_15_code 62 = .ok (.iconst 0, 1) := by decide +kernel
theorem d_SK_appendNamed_63 : decode prog_13_method_15_code 63 = .ok (.invokevirtual 132, 3) := by decide +kernel
theorem d_SK_appendNamed_66 : decode prog_13_method_15_code 66 = .ok (.invokevirtual 167, 3) := by decide +kernel
theorem d_SK_appendNamed_69 : decode prog_13_method_15_code 69 = .ok (.return_, 1) := by decide +kernel
theorem d_SK_appendNamed_70 : decode prog_13_method_15_code 70 = .ok (.iinc 3 (-1), 3) := by decide +kernel
theorem d_SK_appendNamed_73 : decode prog_13_method_15_code 73 = .ok (.goto (-68), 3) := by decide +kernel
theorem d_SK_appendNamed_76 : decode prog_13_method_15_code 76 = .ok (.aload_n 0, 1) := by decide +kernel
theorem d_SK_appendNamed_77 : decode prog_13_method_15_code 77 = .ok (.aload_n 0, 1) := by decide +kernel
theorem d_SK_appendNamed_78 : decode prog_13_method_15_code 78 = .ok (.getfield 158, 3) := by decide +kernel
theorem d_SK_appendNamed_81 : decode prog_13_method_15_code 81 = .ok (.invokevirtual 52, 3) := by decide +kernel
theorem d_SK_appendNamed_84 : decode prog_13_method_15_code 84 = .ok (.astore_n 3, 1) := by decide +kernel
theorem d_SK_appendNamed_85 : decode prog_13_method_15_code 85 = .ok (.aload_n 0, 1) := by decide +kernel
theorem d_SK_appendNamed_86 : decode prog_13_method_15_code 86 = .ok (.getfield 158, 3) := by decide +kernel
theorem d_SK_appendNamed_89 : decode prog_13_method_15_code 89 = .ok (.ifCond .ne 7, 3) := by decide +kernel
theorem d_SK_appendNamed_92 : decode prog_13_method_15_code 92 = .ok (.iconst (-1), 1) := by decide +kernel
theorem d_SK_appendNamed_93 : decode prog_13_method_15_code 93 = .ok (.goto 16, 3) := by decide +kernel
theorem d_SK_appendNamed_96 : decode prog_13_method_15_code 96 = .ok (.aload_n 0, 1) := by decide +kernel
theorem d_SK_appendNamed_97 : decode prog_13_method_15_code 97 = .ok (.getfield 26, 3) := by decide +kernel
theorem d_SK_appendNamed_100 : decode prog_13_method_15_code 100 = .ok (.aload_n 3, 1) := by decide +kernel
theorem d_SK_appendNamed_101 : decode prog_13_method_15_code 101 = .ok (.getfield 198, 3) := by decide +kernel
theorem d_SK_appendNamed_104 : decode prog_13_method_15_code 104 = .ok (.iload_n 1, 1) := by decide +kernel
theorem d_SK_appendNamed_105 : decode prog_13_method_15_code 105 = .ok (.iload_n 2, 1) := by decide +kernel
theorem d_SK_appendNamed_106 : decode prog_13_method_15_code 106 = .ok (.invokevirtual 201, 3) := by decide +kernel
theorem d_SK_appendNamed_109 : decode prog_13_method_15_code 109 = .ok (.istore 4, 2) := by decide +kernel
theorem d_SK_appendNamed_111 : decode prog_13_method_15_code 111 = .ok (.iload 4, 2) := by decide +kernel
theorem d_SK_appendNamed_113 : decode prog_13_method_15_code 113 = .ok (.iconst (-1), 1) := by decide +kernel
theorem d_SK_appendNamed_114 : decode prog_13_method_15_code 114 = .ok (.if_icmp .ne 9, 3) := by decide +kernel
theorem d_SK_appendNamed_117 : decode prog_13_method_15_code 117 = .ok (.aload_n 0, 1) := by decide +kernel
theorem d_SK_appendNamed_118 : decode prog_13_method_15_code 118 = .ok (.iconst 1, 1) := by decide +kernel
theorem d_SK_appendNamed_119 : decode prog_13_method_15_code 119 = .ok (.putfield 150, 3) := by decide +kernel
theorem d_SK_appendNamed_122 : decode prog_13_method_15_code 122 = .ok (.return_, 1) := by decide +kernel
theorem d_SK_appendNamed_123 : decode prog_13_method_15_code 123 = .ok (.aload_n 0, 1) := by decide +kernel
theorem d_SK_appendNamed_124 : decode prog_13_method_15_code 124 = .ok (.aload_n 3, 1) := by decide +kernel
theorem d_SK_appendNamed_125 : decode prog_13_method_15_code 125 = .ok (.iload 4, 2) := by decide +kernel
theorem d_SK_appendNamed_127 : decode prog_13_method_15_code 127 = .ok (.invokevirtual 129, 3) := by decide +kernel
theorem d_SK_appendNamed_130 : decode prog_13_method_15_code 130 = .ok (.aload_n 3, 1) := by decide +kernel
theorem d_SK_appendNamed_131 : decode prog_13_method_15_code 131 = .ok (.iload 4, 2) := by decide +kernel
theorem d_SK_appendNamed_133 : decode prog_13_method_15_code 133 = .ok (.invokevirtual 132, 3) := by decide +kernel
theorem d_SK_appendNamed_136 : decode prog_13_method_15_code 136 = .ok (.invokevirtual 167, 3) := by decide +kernel
theorem d_SK_appendNamed_139 : decode prog_13_method_15_code 139 = .ok (.return_, 1) := by decide +kernel
theorem d_SK_replaceMark_0 : decode prog_13_method_14_code 0 = .ok (.iload_n 1, 1) := by decide +kernel
theorem d_SK_replaceMark_1 : decode prog_13_method_14_code 1 = .ok (.iload_n 2, 1) := by decide +kernel
theorem d_SK_replaceMark_2 : decode prog_13_method_14_code 2 = .ok (.if_icmp .ge 14, 3) := by decide +kernel
theorem d_SK_replaceMark_5 : decode prog_13_method_14_code 5 = .ok (.aload_n 0, 1) := by decide +kernel
theorem d_SK_replaceMark_6 : decode prog_13_method_14_code 6 = .ok (.getfield 22, 3) := by decide +kernel
theorem d_SK_replaceMark_9 : decode prog_13_method_14_code 9 = .ok (.iload_n 1, 1) := by decide +kernel
theorem d_SK_replaceMark_10 : decode prog_13_method_14_code 10 = .ok (.invokevirtual 161, 3) := by decide +kernel
theorem d_SK_replaceMark_13 : decode prog_13_method_14_code 13 = .ok (.goto 4, 3) := by decide +kernel
theorem d_SK_replaceMark_16 : decode prog_13_method_14_code 16 = .ok (.iconst (-1), 1) := by decide +kernel
theorem d_SK_replaceMark_17 : decode prog_13_method_14_code 17 = .ok (.istore_n 3, 1) := by decide +kernel
theorem d_SK_replaceMark_18 : decode prog_13_method_14_code 18 = .ok (.iload_n 3, 1) := by decide +kernel
theorem d_SK_replaceMark_19 : decode prog_13_method_14_code 19 = .ok (.bipush 64, 2) := by decide +kernel
theorem d_SK_replaceMark_21 : decode prog_13_method_14_code 21 = .ok (.if_icmp .ne 33, 3) := by decide +kernel
theorem d_SK_replaceMark_24 : decode prog_13_method_14_code 24 = .ok (.aload_n 0, 1) := by decide +kernel
theorem d_SK_replaceMark_25 : decode prog_13_method_14_code 25 = .ok (.aload_n 0, 1) := by decide +kernel
theorem d_SK_replaceMark_26 : decode prog_13_method_14_code 26 = .ok (.getfield 158, 3) := by decide +kernel
theorem d_SK_replaceMark_29 : decode prog_13_method_14_code 29 = .ok (.ifCond .ne 7, 3) := by decide +kernel
theorem d_SK_replaceMark_32 : decode prog_13_method_14_code 32 = .ok (.iconst (-1), 1) := by decide +kernel
theorem d_SK_replaceMark_33 : decode prog_13_method_14_code 33 = .ok (.goto 14, 3) := by decide +kernel
theorem d_SK_replaceMark_36 : decode prog_13_method_14_code 36 = .ok (.aload_n 0, 1) := by decide +kernel
theorem d_SK_replaceMark_37 : decode prog_13_method_14_code 37 = .ok (.aload_n 0, 1) := by decide +kernel
theorem d_SK_replaceMark_38 : decode prog_13_method_14_code 38 = .ok (.getfield 158, 3) := by decide +kernel
theorem d_SK_replaceMark_41 : decode prog_13_method_14_code 41 = .ok (.invokevirtual 52, 3) := by decide +kernel
theorem d_SK_replaceMark_44 : decode prog_13_method_14_code 44 = .ok (.getfield 171, 3) := by decide +kernel
theorem d_SK_replaceMark_47 : decode prog_13_method_14_code 47 = .ok (.invokevirtual 174, 3) := by decide +kernel
theorem d_SK_replaceMark_50 : decode prog_13_method_14_code 50 = .ok (.iload_n 1, 1) := by decide +kernel
theorem d_SK_replaceMark_51 : decode prog_13_method_14_code 51 = .ok (.iconst 1, 1) := by decide +kernel
theorem d_SK_replaceMark_52 : decode prog_13_method_14_code 52 = .ok (.iadd, 1) := by decide +kernel
theorem d_SK_replaceMark_53 : decode prog_13_method_14_code 53 = .ok (.ireturn, 1) := by decide +kernel
theorem d_SK_replaceMark_54 : decode prog_13_method_14_code 54 = .ok (.iload_n 3, 1) := by decide +kernel
theorem d_SK_replaceMark_55 : decode prog_13_method_14_code 55 = .ok (.bipush 63, 2) := by decide +kernel
theorem d_SK_replaceMark_57 : decode prog_13_method_14_code 57 = .ok (.if_icmp .ne 32, 3) := by decide +kernel
theorem d_SK_replaceMark_60 : decode prog_13_method_14_code 60 = .ok (.aload_n 0, 1) := by decide +kernel
theorem d_SK_replaceMark_61 : decode prog_13_method_14_code 61 = .ok (.aload_n 0, 1) := by decide +kernel
theorem d_SK_replaceMark_62 : decode prog_13_method_14_code 62 = .ok (.invokevirtual 65, 3) := by decide +kernel
theorem d_SK_replaceMark_65 : decode prog_13_method_14_code 65 = .ok (.invokevirtual 178, 3) := by decide +kernel
theorem d_SK_replaceMark_68 : decode prog_13_method_14_code 68 = .ok (.ifCond .eq 13, 3) := by decide +kernel
theorem d_SK_replaceMark_71 : decode prog_13_method_14_code 71 = .ok (.aload_n 0, 1) := by decide +kernel
theorem d_SK_replaceMark_72 : decode prog_13_method_14_code 72 = .ok (.invokevirtual 65, 3) := by decide +kernel
theorem d_SK_replaceMark_75 : decode prog_13_method_14_code 75 = .ok (.getfield 69, 3) := by decide +kernel
theorem d_SK_replaceMark_78 : decode prog_13_method_14_code 78 = .ok (.goto 4, 3) := by decide +kernel
theorem d_SK_replaceMark_81 : decode prog_13_method_14_code 81 = .ok (.iconst (-1), 1) := by decide +kernel
theorem d_SK_replaceMark_82 : decode prog_13_method_14_code 82 = .ok (.invokevirtual 174, 3) := by decide +kernel
theorem d_SK_replaceMark_85 : decode prog_13_method_14_code 85 = .ok (.iload_n 1, 1) := by decide +kernel
theorem d_SK_replaceMark_86 : decode prog_13_method_14_code 86 = .ok (.iconst 1, 1) := by decide +kernel
theorem d_SK_replaceMark_87 : decode prog_13_method_14_code 87 = .ok (.iadd, 1) := by decide +kernel
theorem d_SK_replaceMark_88 : decode prog_13_method_14_code 88 = .ok (.ireturn, 1) := by decide +kernel
theorem d_SK_replaceMark_89 : decode prog_13_method_14_code 89 = .ok (.aload_n 0, 1) := by decide +kernel
theorem d_SK_replaceMark_90 : decode prog_13_method_14_code 90 = .ok (.getfield 22, 3) := by decide +kernel
theorem d_SK_replaceMark_93 : decode prog_13_method_14_code 93 = .ok (.iload_n 1, 1) := by decide +kernel
theorem d_SK_replaceMark_94 : decode prog_13_method_14_code 94 = .ok (.iload_n 2, 1) := by decide +kernel
theorem d_SK_replaceMark_95 : decode prog_13_method_14_code 95 = .ok (.invokevirtual 182, 3) := by decide +kernel
theorem d_SK_replaceMark_98 : decode prog_13_method_14_code 98 = .ok (.istore 4, 2) := by decide +kernel
theorem d_SK_replaceMark_100 : decode prog_13_method_14_code 100 = .ok (.aload_n 0, 1) := by decide +kernel
theorem d_SK_replaceMark_101 : decode prog_13_method_14_code 101 = .ok (.iload_n 1, 1) := by decide +kernel
theorem d_SK_replaceMark_102 : decode prog_13_method_14_code 102 = .ok (.iload 4, 2) := by decide +kernel
theorem d_SK_replaceMark_104 : decode prog_13_method_14_code 104 = .ok (.invokevirtual 185, 3) := by decide +kernel
theorem d_SK_replaceMark_107 : decode prog_13_method_14_code 107 = .ok (.iload 4, 2) := by decide +kernel
theorem d_SK_replaceMark_109 : decode prog_13_method_14_code 109 = .ok (.ireturn, 1) := by decide +kernel
theorem d_SK_replace_0 : decode prog_13_method_13_code 0 = .ok (.aload_n 0, 1) := by decide +kernel
theorem d_SK_replace_1 : decode prog_13_method_13_code 1 = .ok (.sipush 3000, 3) := by decide +kernel
theorem d_SK_replace_4 : decode prog_13_method_13_code 4 = .ok (.iconst 0, 1) := by decide +kernel
theorem d_SK_replace_5 : decode prog_13_method_13_code 5 = .ok (.aload_n 0, 1) := by decide +kernel
theorem d_SK_replace_6 : decode prog_13_method_13_code 6 = .ok (.getfield 30, 3) := by decide +kernel
theorem d_SK_replace_9 : decode prog_13_method_13_code 9 = .ok (.iconst 1, 1) := by decide +kernel
theorem d_SK_replace_10 : decode prog_13_method_13_code 10 = .ok (.isub, 1) := by decide +kernel
theorem d_SK_replace_11 : decode prog_13_method_13_code 11 = .ok (.invokestatic 59, 3) := by decide +kernel
theorem d_SK_replace_14 : decode prog_13_method_13_code 14 = .ok (.sipush 300, 3) := by decide +kernel
theorem d_SK_replace_17 : decode prog_13_method_13_code 17 = .ok (.imul, 1) := by decide +kernel
theorem d_SK_replace_18 : decode prog_13_method_13_code 18 = .ok (.iadd, 1) := by decide +kernel
theorem d_SK_replace_19 : decode prog_13_method_13_code 19 = .ok (.putfield 144, 3) := by decide +kernel
theorem d_SK_replace_22 : decode prog_13_method_13_code 22 = .ok (.aload_n 0, 1) := by decide +kernel
theorem d_SK_replace_23 : decode prog_13_method_13_code 23 = .ok (.aload_n 0, 1) := by decide +kernel
theorem d_SK_replace_24 : decode prog_13_method_13_code 24 = .ok (.getfield 144, 3) := by decide +kernel
theorem d_SK_replace_27 : decode prog_13_method_13_code 27 = .ok (.putfield 147, 3) := by decide +kernel
theorem d_SK_replace_30 : decode prog_13_method_13_code 30 = .ok (.aload_n 0, 1) := by decide +kernel
theorem d_SK_replace_31 : decode prog_13_method_13_code 31 = .ok (.iconst 0, 1) := by decide +kernel
theorem d_SK_replace_32 : decode prog_13_method_13_code 32 = .ok (.putfield 150, 3) := by decide +kernel
theorem d_SK_replace_35 : decode prog_13_method_13_code 35 = .ok (.aload_n 0, 1) := by decide +kernel
theorem d_SK_replace_36 : decode prog_13_method_13_code 36 = .ok (.aload_n 0, 1) := by decide +kernel
theorem d_SK_replace_37 : decode prog_13_method_13_code 37 = .ok (.invokevirtual 154, 3) := by decide +kernel
theorem d_SK_replace_40 : decode prog_13_method_13_code 40 = .ok (.putfield 158, 3) := by decide +kernel
theorem d_SK_replace_43 : decode prog_13_method_13_code 43 = .ok (.iload_n 1, 1) := by decide +kernel
theorem d_SK_replace_44 : decode prog_13_method_13_code 44 = .ok (.istore_n 3, 1) := by decide +kernel
theorem d_SK_replace_45 : decode prog_13_method_13_code 45 = .ok (.iload_n 3, 1) := by decide +kernel
theorem d_SK_replace_46 : decode prog_13_method_13_code 46 = .ok (.iload_n 2, 1) := by decide +kernel
theorem d_SK_replace_47 : decode prog_13_method_13_code 47 = .ok (.if_icmp .ge 48, 3) := by decide +kernel
theorem d_SK_replace_50 : decode prog_13_method_13_code 50 = .ok (.aload_n 0, 1) := by decide +kernel
theorem d_SK_replace_51 : decode prog_13_method_13_code 51 = .ok (.getfield 22, 3) := by decide +kernel
theorem d_SK_replace_54 : decode prog_13_method_13_code 54 = .ok (.iload_n 3, 1) := by decide +kernel
theorem d_SK_replace_55 : decode prog_13_method_13_code 55 = .ok (.invokevirtual 161, 3) := by decide +kernel
theorem d_SK_replace_58 : decode prog_13_method_13_code 58 = .ok (.bipush 92, 2) := by decide +kernel
theorem d_SK_replace_60 : decode prog_13_method_13_code 60 = .ok (.if_icmp .ne 21, 3) := by decide +kernel
theorem d_SK_replace_63 : decode prog_13_method_13_code 63 = .ok (.iload_n 3, 1) := by decide +kernel
theorem d_SK_replace_64 : decode prog_13_method_13_code 64 = .ok (.iconst 1, 1) := by decide +kernel
theorem d_SK_replace_65 : decode prog_13_method_13_code 65 = .ok (.iadd, 1) := by decide +kernel
theorem d_SK_replace_66 : decode prog_13_method_13_code 66 = .ok (.aload_n 0, 1) := by decide +kernel
theorem d_SK_replace_67 : decode prog_13_method_13_code 67 = .ok (.iload_n 3, 1) := by decide +kernel
theorem d_SK_replace_68 : decode prog_13_method_13_code 68 = .ok (.iconst 1, 1) := by decide +kernel
theorem d_SK_replace_69 : decode prog_13_method_13_code 69 = .ok (.iadd, 1) := by decide +kernel
theorem d_SK_replace_70 : decode prog_13_method_13_code 70 = .ok (.iload_n 2, 1) := by decide +kernel
theorem d_SK_replace_71 : decode prog_13_method_13_code 71 = .ok (.invokevirtual 164, 3) := by decide +kernel
theorem d_SK_replace_74 : decode prog_13_method_13_code 74 = .ok (.invokestatic 59, 3) := by decide +kernel
theorem d_SK_replace_77 : decode prog_13_method_13_code 77 = .ok (.istore_n 3, 1) := by decide +kernel
theorem d_SK_replace_78 : decode prog_13_method_13_code 78 = .ok (.goto (-33), 3) := by decide +kernel
theorem d_SK_replace_81 : decode prog_13_method_13_code 81 = .ok (.aload_n 0, 1) := by decide +kernel
theorem d_SK_replace_82 : decode prog_13_method_13_code 82 = .ok (.iload_n 3, 1) := by decide +kernel
theorem d_SK_replace_83 : decode prog_13_method_13_code 83 = .ok (.iload_n 3, 1) := by decide +kernel
theorem d_SK_replace_84 : decode prog_13_method_13_code 84 = .ok (.iconst 1, 1) := by decide +kernel
theorem d_SK_replace_85 : decode prog_13_method_13_code 85 = .ok (.iadd, 1) := by decide +kernel
theorem d_SK_replace_86 : decode prog_13_method_13_code 86 = .ok (.invokevirtual 167, 3) := by decide +kernel
theorem d_SK_replace_89 : decode prog_13_method_13_code 89 = .ok (.iinc 3 1, 3) := by decide +kernel
theorem d_SK_replace_92 : decode prog_13_method_13_code 92 = .ok (.goto (-47), 3) := by decide +kernel
theorem d_SK_replace_95 : decode prog_13_method_13_code 95 = .ok (.aload_n 0, 1) := by decide +kernel
theorem d_SK_replace_96 : decode prog_13_method_13_code 96 = .ok (.getfield 150, 3) := by decide +kernel
theorem d_SK_replace_99 : decode prog_13_method_13_code 99 = .ok (.ifCond .eq 5, 3) := by decide +kernel
theorem d_SK_replace_102 : decode prog_13_method_13_code 102 = .ok (.iconst 1, 1) := by decide +kernel
theorem d_SK_replace_103 : decode prog_13_method_13_code 103 = .ok (.ireturn, 1) := by decide +kernel
theorem d_SK_replace_104 : decode prog_13_method_13_code 104 = .ok (.aload_n 0, 1) := by decide +kernel
theorem d_SK_replace_105 : decode prog_13_method_13_code 105 = .ok (.getfield 147, 3) := by decide +kernel
theorem d_SK_replace_108 : decode prog_13_method_13_code 108 = .ok (.aload_n 0, 1) := by decide +kernel
theorem d_SK_replace_109 : decode prog_13_method_13_code 109 = .ok (.getfield 144, 3) := by decide +kernel
theorem d_SK_replace_112 : decode prog_13_method_13_code 112 = .ok (.isub, 1) := by decide +kernel
theorem d_SK_replace_113 : decode prog_13_method_13_code 113 = .ok (.sipush 300, 3) := by decide +kernel
theorem d_SK_replace_116 : decode prog_13_method_13_code 116 = .ok (.if_icmp .le 8, 3) := by decide +kernel
theorem d_SK_replace_119 : decode prog_13_method_13_code 119 = .ok (.bipush 6, 2) := by decide +kernel
theorem d_SK_replace_121 : decode prog_13_method_13_code 121 = .ok (.goto 4, 3) := by decide +kernel
theorem d_SK_replace_124 : decode prog_13_method_13_code 124 = .ok (.iconst 0, 1) := by decide +kernel
theorem d_SK_replace_125 : decode prog_13_method_13_code 125 = .ok (.ireturn, 1) := by decide +kernel
theorem d_SK_spare_0 : decode prog_13_method_5_code 0 = .ok (.aload_n 0, 1) := by decide +kernel
theorem d_SK_spare_1 : decode prog_13_method_5_code 1 = .ok (.aload_n 0, 1) := by decide +kernel
theorem d_SK_spare_2 : decode prog_13_method_5_code 2 = .ok (.getfield 30, 3) := by decide +kernel
theorem d_SK_spare_5 : decode prog_13_method_5_code 5 = .ok (.iconst 1, 1) := by decide +kernel
theorem d_SK_spare_6 : decode prog_13_method_5_code 6 = .ok (.iadd, 1) := by decide +kernel
theorem d_SK_spare_7 : decode prog_13_method_5_code 7 = .ok (.invokevirtual 52, 3) := by decide +kernel
theorem d_SK_spare_10 : decode prog_13_method_5_code 10 = .ok (.areturn, 1) := by decide +kernel
theorem d_SK_readArguments_0 : decode prog_13_method_10_code 0 = .ok (.aload_n 0, 1) := by decide +kernel
theorem d_SK_readArguments_1 : decode prog_13_method_10_code 1 = .ok (.invokevirtual 120, 3) := by decide +kernel
theorem d_SK_readArguments_4 : decode prog_13_method_10_code 4 = .ok (.astore 4, 2) := by decide +kernel
theorem d_SK_readArguments_6 : decode prog_13_method_10_code 6 = .ok (.aload_n 0, 1) := by decide +kernel
theorem d_SK_readArguments_7 : decode prog_13_method_10_code 7 = .ok (.getfield 26, 3) := by decide +kernel
theorem d_SK_readArguments_10 : decode prog_13_method_10_code 10 = .ok (.iload_n 1, 1) := by decide +kernel
theorem d_SK_readArguments_11 : decode prog_13_method_10_code 11 = .ok (.invokevirtual 123, 3) := by decide +kernel
theorem d_SK_readArguments_14 : decode prog_13_method_10_code 14 = .ok (.istore 5, 2) := by decide +kernel
theorem d_SK_readArguments_16 : decode prog_13_method_10_code 16 = .ok (.iload 5, 2) := by decide +kernel
theorem d_SK_readArguments_18 : decode prog_13_method_10_code 18 = .ok (.ifCond .ne 22, 3) := by decide +kernel
theorem d_SK_readArguments_21 : decode prog_13_method_10_code 21 = .ok (.aload_n 0, 1) := by decide +kernel
theorem d_SK_readArguments_22 : decode prog_13_method_10_code 22 = .ok (.getfield 22, 3) := by decide +kernel
theorem d_SK_readArguments_25 : decode prog_13_method_10_code 25 = .ok (.iload_n 2, 1) := by decide +kernel
theorem d_SK_readArguments_26 : decode prog_13_method_10_code 26 = .ok (.iload_n 3, 1) := by decide +kernel
theorem d_SK_readArguments_27 : decode prog_13_method_10_code 27 = .ok (.invokevirtual 110, 3) := by decide +kernel
theorem d_SK_readArguments_30 : decode prog_13_method_10_code 30 = .ok (.iload_n 3, 1) := by decide +kernel
theorem d_SK_readArguments_31 : decode prog_13_method_10_code 31 = .ok (.if_icmp .lt 7, 3) := by decide +kernel
theorem d_SK_readArguments_34 : decode prog_13_method_10_code 34 = .ok (.iconst 1, 1) := by decide +kernel
theorem d_SK_readArguments_35 : decode prog_13_method_10_code 35 = .ok (.goto 4, 3) := by decide +kernel
theorem d_SK_readArguments_38 : decode prog_13_method_10_code 38 = .ok (.iconst 0, 1) := by decide +kernel
theorem d_SK_readArguments_39 : decode prog_13_method_10_code 39 = .ok (.ireturn, 1) := by decide +kernel
theorem d_SK_readArguments_40 : decode prog_13_method_10_code 40 = .ok (.iload_n 2, 1) := by decide +kernel
theorem d_SK_readArguments_41 : decode prog_13_method_10_code 41 = .ok (.istore 6, 2) := by decide +kernel
theorem d_SK_readArguments_43 : decode prog_13_method_10_code 43 = .ok (.iconst 0, 1) := by decide +kernel
theorem d_SK_readArguments_44 : decode prog_13_method_10_code 44 = .ok (.istore 7, 2) := by decide +kernel
theorem d_SK_readArguments_46 : decode prog_13_method_10_code 46 = .ok (.iload 7, 2) := by decide +kernel
theorem d_SK_readArguments_48 : decode prog_13_method_10_code 48 = .ok (.iload 5, 2) := by decide +kernel
theorem d_SK_readArguments_50 : decode prog_13_method_10_code 50 = .ok (.if_icmp .ge 126, 3) := by decide +kernel
theorem d_SK_readArguments_53 : decode prog_13_method_10_code 53 = .ok (.iload 6, 2) := by decide +kernel
theorem d_SK_readArguments_55 : decode prog_13_method_10_code 55 = .ok (.iload_n 3, 1) := by decide +kernel
theorem d_SK_readArguments_56 : decode prog_13_method_10_code 56 = .ok (.invokestatic 107, 3) := by decide +kernel
theorem d_SK_readArguments_59 : decode prog_13_method_10_code 59 = .ok (.istore 8, 2) := by decide +kernel
theorem d_SK_readArguments_61 : decode prog_13_method_10_code 61 = .ok (.aload_n 0, 1) := by decide +kernel
theorem d_SK_readArguments_62 : decode prog_13_method_10_code 62 = .ok (.getfield 22, 3) := by decide +kernel
theorem d_SK_readArguments_65 : decode prog_13_method_10_code 65 = .ok (.iload 8, 2) := by decide +kernel
theorem d_SK_readArguments_67 : decode prog_13_method_10_code 67 = .ok (.iload_n 3, 1) := by decide +kernel
theorem d_SK_readArguments_68 : decode prog_13_method_10_code 68 = .ok (.invokevirtual 100, 3) := by decide +kernel
theorem d_SK_readArguments_71 : decode prog_13_method_10_code 71 = .ok (.istore 9, 2) := by decide +kernel
theorem d_SK_readArguments_73 : decode prog_13_method_10_code 73 = .ok (.iload 9, 2) := by decide +kernel
theorem d_SK_readArguments_75 : decode prog_13_method_10_code 75 = .ok (.iconst (-1), 1) := by decide +kernel
theorem d_SK_readArguments_76 : decode prog_13_method_10_code 76 = .ok (.if_icmp .ne 5, 3) := by decide +kernel
theorem d_SK_readArguments_79 : decode prog_13_method_10_code 79 = .ok (.iconst 0, 1) := by decide +kernel
theorem d_SK_readArguments_80 : decode prog_13_method_10_code 80 = .ok (.ireturn, 1) := by decide +kernel
theorem d_SK_readArguments_81 : decode prog_13_method_10_code 81 = .ok (.aload_n 0, 1) := by decide +kernel
theorem d_SK_readArguments_82 : decode prog_13_method_10_code 82 = .ok (.aload 4, 2) := by decide +kernel
theorem d_SK_readArguments_84 : decode prog_13_method_10_code 84 = .ok (.iload 7, 2) := by decide +kernel
theorem d_SK_readArguments_86 : decode prog_13_method_10_code 86 = .ok (.iload 8, 2) := by decide +kernel
theorem d_SK_readArguments_88 : decode prog_13_method_10_code 88 = .ok (.iload 9, 2) := by decide +kernel
theorem d_SK_readArguments_90 : decode prog_13_method_10_code 90 = .ok (.invokevirtual 103, 3) := by decide +kernel
theorem d_SK_readArguments_93 : decode prog_13_method_10_code 93 = .ok (.iload 6, 2) := by decide +kernel
theorem d_SK_readArguments_95 : decode prog_13_method_10_code 95 = .ok (.iload_n 3, 1) := by decide +kernel
theorem d_SK_readArguments_96 : decode prog_13_method_10_code 96 = .ok (.if_icmp .le 8, 3) := by decide +kernel
theorem d_SK_readArguments_99 : decode prog_13_method_10_code 99 = .ok (.iload 6, 2) := by decide +kernel
theorem d_SK_readArguments_101 : decode prog_13_method_10_code 101 = .ok (.goto 7, 3) := by decide +kernel
theorem d_SK_readArguments_104 : decode prog_13_method_10_code 104 = .ok (.iload 9, 2) := by decide +kernel
theorem d_SK_readArguments_106 : decode prog_13_method_10_code 106 = .ok (.iconst 1, 1) := by decide +kernel
theorem d_SK_readArguments_107 : decode prog_13_method_10_code 107 = .ok (.iadd, 1) := by decide +kernel
theorem d_SK_readArguments_108 : decode prog_13_method_10_code 108 = .ok (.istore 6, 2) := by decide +kernel
theorem d_SK_readArguments_110 : decode prog_13_method_10_code 110 = .ok (.aload 4, 2) := by decide +kernel
theorem d_SK_readArguments_112 : decode prog_13_method_10_code 112 = .ok (.iload 7, 2) := by decide +kernel
theorem d_SK_readArguments_114 : decode prog_13_method_10_code 114 = .ok (.invokevirtual 129, 3) := by decide +kernel
theorem d_SK_readArguments_117 : decode prog_13_method_10_code 117 = .ok (.aload 4, 2) := by decide +kernel
theorem d_SK_readArguments_119 : decode prog_13_method_10_code 119 = .ok (.iload 7, 2) := by decide +kernel
theorem d_SK_readArguments_121 : decode prog_13_method_10_code 121 = .ok (.invokevirtual 132, 3) := by decide +kernel
theorem d_SK_readArguments_124 : decode prog_13_method_10_code 124 = .ok (.if_icmp .lt 46, 3) := by decide +kernel
theorem d_SK_readArguments_127 : decode prog_13_method_10_code 127 = .ok (.aload_n 0, 1) := by decide +kernel
theorem d_SK_readArguments_128 : decode prog_13_method_10_code 128 = .ok (.getfield 26, 3) := by decide +kernel
theorem d_SK_readArguments_131 : decode prog_13_method_10_code 131 = .ok (.iload_n 1, 1) := by decide +kernel
theorem d_SK_readArguments_132 : decode prog_13_method_10_code 132 = .ok (.iload 7, 2) := by decide +kernel
theorem d_SK_readArguments_134 : decode prog_13_method_10_code 134 = .ok (.invokevirtual 135, 3) := by decide +kernel
theorem d_SK_readArguments_137 : decode prog_13_method_10_code 137 = .ok (.iconst (-1), 1) := by decide +kernel
theorem d_SK_readArguments_138 : decode prog_13_method_10_code 138 = .ok (.if_icmp .ne 5, 3) := by decide +kernel
theorem d_SK_readArguments_141 : decode prog_13_method_10_code 141 = .ok (.iconst 0, 1) := by decide +kernel
theorem d_SK_readArguments_142 : decode prog_13_method_10_code 142 = .ok (.ireturn, 1) := by decide +kernel
theorem d_SK_readArguments_143 : decode prog_13_method_10_code 143 = .ok (.aload 4, 2) := by decide +kernel
theorem d_SK_readArguments_145 : decode prog_13_method_10_code 145 = .ok (.iload 7, 2) := by decide +kernel
theorem d_SK_readArguments_147 : decode prog_13_method_10_code 147 = .ok (.aload_n 0, 1) := by decide +kernel
theorem d_SK_readArguments_148 : decode prog_13_method_10_code 148 = .ok (.getfield 26, 3) := by decide +kernel
theorem d_SK_readArguments_151 : decode prog_13_method_10_code 151 = .ok (.iload_n 1, 1) := by decide +kernel
theorem d_SK_readArguments_152 : decode prog_13_method_10_code 152 = .ok (.iload 7, 2) := by decide +kernel
theorem d_SK_readArguments_154 : decode prog_13_method_10_code 154 = .ok (.invokevirtual 135, 3) := by decide +kernel
theorem d_SK_readArguments_157 : decode prog_13_method_10_code 157 = .ok (.aload_n 0, 1) := by decide +kernel
theorem d_SK_readArguments_158 : decode prog_13_method_10_code 158 = .ok (.getfield 26, 3) := by decide +kernel
theorem d_SK_readArguments_161 : decode prog_13_method_10_code 161 = .ok (.iload_n 1, 1) := by decide +kernel
theorem d_SK_readArguments_162 : decode prog_13_method_10_code 162 = .ok (.iload 7, 2) := by decide +kernel
theorem d_SK_readArguments_164 : decode prog_13_method_10_code 164 = .ok (.invokevirtual 138, 3) := by decide +kernel
theorem d_SK_readArguments_167 : decode prog_13_method_10_code 167 = .ok (.invokevirtual 116, 3) := by decide +kernel
theorem d_SK_readArguments_170 : decode prog_13_method_10_code 170 = .ok (.iinc 7 1, 3) := by decide +kernel
theorem d_SK_readArguments_173 : decode prog_13_method_10_code 173 = .ok (.goto (-127), 3) := by decide +kernel
theorem d_SK_readArguments_176 : decode prog_13_method_10_code 176 = .ok (.iload 6, 2) := by decide +kernel
theorem d_SK_readArguments_178 : decode prog_13_method_10_code 178 = .ok (.iload_n 3, 1) := by decide +kernel
theorem d_SK_readArguments_179 : decode prog_13_method_10_code 179 = .ok (.if_icmp .le 7, 3) := by decide +kernel
theorem d_SK_readArguments_182 : decode prog_13_method_10_code 182 = .ok (.iconst 1, 1) := by decide +kernel
theorem d_SK_readArguments_183 : decode prog_13_method_10_code 183 = .ok (.goto 4, 3) := by decide +kernel
theorem d_SK_readArguments_186 : decode prog_13_method_10_code 186 = .ok (.iconst 0, 1) := by decide +kernel
theorem d_SK_readArguments_187 : decode prog_13_method_10_code 187 = .ok (.ireturn, 1) := by decide +kernel
theorem d_SK_open_0 : decode prog_13_method_6_code 0 = .ok (.aload_n 0, 1) := by decide +kernel
theorem d_SK_open_1 : decode prog_13_method_6_code 1 = .ok (.getfield 30, 3) := by decide +kernel
theorem d_SK_open_4 : decode prog_13_method_6_code 4 = .ok (.bipush 12, 2) := by decide +kernel
theorem d_SK_open_6 : decode prog_13_method_6_code 6 = .ok (.if_icmp .lt 5, 3) := by decide +kernel
theorem d_SK_open_9 : decode prog_13_method_6_code 9 = .ok (.iconst 0, 1) := by decide +kernel
theorem d_SK_open_10 : decode prog_13_method_6_code 10 = .ok (.ireturn, 1) := by decide +kernel
theorem d_SK_open_11 : decode prog_13_method_6_code 11 = .ok (.aload_n 0, 1) := by decide +kernel
theorem d_SK_open_12 : decode prog_13_method_6_code 12 = .ok (.getfield 30, 3) := by decide +kernel
theorem d_SK_open_15 : decode prog_13_method_6_code 15 = .ok (.ifCond .ne 8, 3) := by decide +kernel
theorem d_SK_open_18 : decode prog_13_method_6_code 18 = .ok (.aload_n 0, 1) := by decide +kernel
theorem d_SK_open_19 : decode prog_13_method_6_code 19 = .ok (.iload_n 1, 1) := by decide +kernel
theorem d_SK_open_20 : decode prog_13_method_6_code 20 = .ok (.putfield 56, 3) := by decide +kernel
theorem d_SK_open_23 : decode prog_13_method_6_code 23 = .ok (.aload_n 0, 1) := by decide +kernel
theorem d_SK_open_24 : decode prog_13_method_6_code 24 = .ok (.dup, 1) := by decide +kernel
theorem d_SK_open_25 : decode prog_13_method_6_code 25 = .ok (.getfield 30, 3) := by decide +kernel
theorem d_SK_open_28 : decode prog_13_method_6_code 28 = .ok (.iconst 1, 1) := by decide +kernel
theorem d_SK_open_29 : decode prog_13_method_6_code 29 = .ok (.iadd, 1) := by decide +kernel
theorem d_SK_open_30 : decode prog_13_method_6_code 30 = .ok (.putfield 30, 3) := by decide +kernel
theorem d_SK_open_33 : decode prog_13_method_6_code 33 = .ok (.aload_n 0, 1) := by decide +kernel
theorem d_SK_open_34 : decode prog_13_method_6_code 34 = .ok (.aload_n 0, 1) := by decide +kernel
theorem d_SK_open_35 : decode prog_13_method_6_code 35 = .ok (.getfield 34, 3) := by decide +kernel
theorem d_SK_open_38 : decode prog_13_method_6_code 38 = .ok (.aload_n 0, 1) := by decide +kernel
theorem d_SK_open_39 : decode prog_13_method_6_code 39 = .ok (.getfield 30, 3) := by decide +kernel
theorem d_SK_open_42 : decode prog_13_method_6_code 42 = .ok (.invokestatic 59, 3) := by decide +kernel
theorem d_SK_open_45 : decode prog_13_method_6_code 45 = .ok (.putfield 34, 3) := by decide +kernel
theorem d_SK_open_48 : decode prog_13_method_6_code 48 = .ok (.iconst 1, 1) := by decide +kernel
theorem d_SK_open_49 : decode prog_13_method_6_code 49 = .ok (.ireturn, 1) := by decide +kernel
theorem d_SK_readTexts_0 : decode prog_13_method_11_code 0 = .ok (.iconst 0, 1) := by decide +kernel
theorem d_SK_readTexts_1 : decode prog_13_method_11_code 1 = .ok (.istore_n 3, 1) := by decide +kernel
theorem d_SK_readTexts_2 : decode prog_13_method_11_code 2 = .ok (.iload_n 1, 1) := by decide +kernel
theorem d_SK_readTexts_3 : decode prog_13_method_11_code 3 = .ok (.istore 4, 2) := by decide +kernel
theorem d_SK_readTexts_5 : decode prog_13_method_11_code 5 = .ok (.iload_n 1, 1) := by decide +kernel
theorem d_SK_readTexts_6 : decode prog_13_method_11_code 6 = .ok (.istore 5, 2) := by decide +kernel
theorem d_SK_readTexts_8 : decode prog_13_method_11_code 8 = .ok (.iload 5, 2) := by decide +kernel
theorem d_SK_readTexts_10 : decode prog_13_method_11_code 10 = .ok (.iload_n 2, 1) := by decide +kernel
theorem d_SK_readTexts_11 : decode prog_13_method_11_code 11 = .ok (.if_icmp .gt 44, 3) := by decide +kernel
theorem d_SK_readTexts_14 : decode prog_13_method_11_code 14 = .ok (.iload 4, 2) := by decide +kernel
theorem d_SK_readTexts_16 : decode prog_13_method_11_code 16 = .ok (.iload_n 2, 1) := by decide +kernel
theorem d_SK_readTexts_17 : decode prog_13_method_11_code 17 = .ok (.if_icmp .gt 38, 3) := by decide +kernel
theorem d_SK_readTexts_20 : decode prog_13_method_11_code 20 = .ok (.aload_n 0, 1) := by decide +kernel
theorem d_SK_readTexts_21 : decode prog_13_method_11_code 21 = .ok (.getfield 22, 3) := by decide +kernel
theorem d_SK_readTexts_24 : decode prog_13_method_11_code 24 = .ok (.iload 4, 2) := by decide +kernel
theorem d_SK_readTexts_26 : decode prog_13_method_11_code 26 = .ok (.iload_n 2, 1) := by decide +kernel
theorem d_SK_readTexts_27 : decode prog_13_method_11_code 27 = .ok (.invokevirtual 100, 3) := by decide +kernel
theorem d_SK_readTexts_30 : decode prog_13_method_11_code 30 = .ok (.istore 6, 2) := by decide +kernel
theorem d_SK_readTexts_32 : decode prog_13_method_11_code 32 = .ok (.iload 6, 2) := by decide +kernel
theorem d_SK_readTexts_34 : decode prog_13_method_11_code 34 = .ok (.iconst (-1), 1) := by decide +kernel
theorem d_SK_readTexts_35 : decode prog_13_method_11_code 35 = .ok (.if_icmp .ne 5, 3) := by decide +kernel
theorem d_SK_readTexts_38 : decode prog_13_method_11_code 38 = .ok (.iconst (-1), 1) := by decide +kernel
theorem d_SK_readTexts_39 : decode prog_13_method_11_code 39 = .ok (.ireturn, 1) := by decide +kernel
theorem d_SK_readTexts_40 : decode prog_13_method_11_code 40 = .ok (.iload 6, 2) := by decide +kernel
theorem d_SK_readTexts_42 : decode prog_13_method_11_code 42 = .ok (.iconst 1, 1) := by decide +kernel
theorem d_SK_readTexts_43 : decode prog_13_method_11_code 43 = .ok (.iadd, 1) := by decide +kernel
theorem d_SK_readTexts_44 : decode prog_13_method_11_code 44 = .ok (.istore 4, 2) := by decide +kernel
theorem d_SK_readTexts_46 : decode prog_13_method_11_code 46 = .ok (.iinc 3 1, 3) := by decide +kernel
theorem d_SK_readTexts_49 : decode prog_13_method_11_code 49 = .ok (.iinc 5 1, 3) := by decide +kernel
theorem d_SK_readTexts_52 : decode prog_13_method_11_code 52 = .ok (.goto (-44), 3) := by decide +kernel
theorem d_SK_readTexts_55 : decode prog_13_method_11_code 55 = .ok (.aload_n 0, 1) := by decide +kernel
theorem d_SK_readTexts_56 : decode prog_13_method_11_code 56 = .ok (.invokevirtual 120, 3) := by decide +kernel
theorem d_SK_readTexts_59 : decode prog_13_method_11_code 59 = .ok (.astore 5, 2) := by decide +kernel
theorem d_SK_readTexts_61 : decode prog_13_method_11_code 61 = .ok (.aload 5, 2) := by decide +kernel
theorem d_SK_readTexts_63 : decode prog_13_method_11_code 63 = .ok (.iload_n 1, 1) := by decide +kernel
theorem d_SK_readTexts_64 : decode prog_13_method_11_code 64 = .ok (.putfield 94, 3) := by decide +kernel
theorem d_SK_readTexts_67 : decode prog_13_method_11_code 67 = .ok (.aload 5, 2) := by decide +kernel
theorem d_SK_readTexts_69 : decode prog_13_method_11_code 69 = .ok (.iload_n 2, 1) := by decide +kernel
theorem d_SK_readTexts_70 : decode prog_13_method_11_code 70 = .ok (.putfield 97, 3) := by decide +kernel
theorem d_SK_readTexts_73 : decode prog_13_method_11_code 73 = .ok (.aload_n 0, 1) := by decide +kernel
theorem d_SK_readTexts_74 : decode prog_13_method_11_code 74 = .ok (.aload 5, 2) := by decide +kernel
theorem d_SK_readTexts_76 : decode prog_13_method_11_code 76 = .ok (.invokevirtual 90, 3) := by decide +kernel
theorem d_SK_readTexts_79 : decode prog_13_method_11_code 79 = .ok (.iload_n 3, 1) := by decide +kernel
theorem d_SK_readTexts_80 : decode prog_13_method_11_code 80 = .ok (.ireturn, 1) := by decide +kernel
theorem hm_SK_startAnew : y_SK_startAnew.cls ≠ "java/lang/invoke/MethodHandle" ∧ y_SK_startAnew.cls ≠ "java/lang/invoke/VarHandle" ∧ (parseMethodDescriptor y_SK_startAnew.desc).map (fun d => d.parameters.length) = some 0 := by decide +kernel
theorem hm_SK_frameAt : y_SK_frameAt.cls ≠ "java/lang/invoke/MethodHandle" ∧ y_SK_frameAt.cls ≠ "java/lang/invoke/VarHandle" ∧ (parseMethodDescriptor y_SK_frameAt.desc).map (fun d => d.parameters.length) = some 1 := by decide +kernel
theorem hm_SK_top : y_SK_top.cls ≠ "java/lang/invoke/MethodHandle" ∧ y_SK_top.cls ≠ "java/lang/invoke/VarHandle" ∧ (parseMethodDescriptor y_SK_top.desc).map (fun d => d.parameters.length) = some 0 := by decide +kernel
theorem hm_SK_setTrimmed : y_SK_setTrimmed.cls ≠ "java/lang/invoke/MethodHandle" ∧ y_SK_setTrimmed.cls ≠ "java/lang/invoke/VarHandle" ∧ (parseMethodDescriptor y_SK_setTrimmed.desc).map (fun d => d.parameters.length) = some 4 := by decide +kernel
theorem hm_SK_nextText : y_SK_nextText.cls ≠ "java/lang/invoke/MethodHandle" ∧ y_SK_nextText.cls ≠ "java/lang/invoke/VarHandle" ∧ (parseMethodDescriptor y_SK_nextText.desc).map (fun d => d.parameters.length) = some 1 := by decide +kernel
theorem hm_SK_turn : y_SK_turn.cls ≠ "java/lang/invoke/MethodHandle" ∧ y_SK_turn.cls ≠ "java/lang/invoke/VarHandle" ∧ (parseMethodDescriptor y_SK_turn.desc).map (fun d => d.parameters.length) = some 0 := by decide +kernel
theorem hm_SK_macroDepth : y_SK_macroDepth.cls ≠ "java/lang/invoke/MethodHandle" ∧ y_SK_macroDepth.cls ≠ "java/lang/invoke/VarHandle" ∧ (parseMethodDescriptor y_SK_macroDepth.desc).map (fun d => d.parameters.length) = some 0 := by decide +kernel
theorem hm_SK_appendSign : y_SK_appendSign.cls ≠ "java/lang/invoke/MethodHandle" ∧ y_SK_appendSign.cls ≠ "java/lang/invoke/VarHandle" ∧ (parseMethodDescriptor y_SK_appendSign.desc).map (fun d => d.parameters.length) = some 1 := by decide +kernel
theorem hm_SK_appendNumber : y_SK_appendNumber.cls ≠ "java/lang/invoke/MethodHandle" ∧ y_SK_appendNumber.cls ≠ "java/lang/invoke/VarHandle" ∧ (parseMethodDescriptor y_SK_appendNumber.desc).map (fun d => d.parameters.length) = some 1 := by decide +kernel
theorem hm_SK_append : y_SK_append.cls ≠ "java/lang/invoke/MethodHandle" ∧ y_SK_append.cls ≠ "java/lang/invoke/VarHandle" ∧ (parseMethodDescriptor y_SK_append.desc).map (fun d => d.parameters.length) = some 2 := by decide +kernel
theorem hm_SK_appendNamed : y_SK_appendNamed.cls ≠ "java/lang/invoke/MethodHandle" ∧ y_SK_appendNamed.cls ≠ "java/lang/invoke/VarHandle" ∧ (parseMethodDescriptor y_SK_appendNamed.desc).map (fun d => d.parameters.length) = some 2 := by decide +kernel
theorem hm_SK_replaceMark : y_SK_replaceMark.cls ≠ "java/lang/invoke/MethodHandle" ∧ y_SK_replaceMark.cls ≠ "java/lang/invoke/VarHandle" ∧ (parseMethodDescriptor y_SK_replaceMark.desc).map (fun d => d.parameters.length) = some 2 := by decide +kernel
theorem hm_SK_replace : y_SK_replace.cls ≠ "java/lang/invoke/MethodHandle" ∧ y_SK_replace.cls ≠ "java/lang/invoke/VarHandle" ∧ (parseMethodDescriptor y_SK_replace.desc).map (fun d => d.parameters.length) = some 2 := by decide +kernel
theorem hm_SK_spare : y_SK_spare.cls ≠ "java/lang/invoke/MethodHandle" ∧ y_SK_spare.cls ≠ "java/lang/invoke/VarHandle" ∧ (parseMethodDescriptor y_SK_spare.desc).map (fun d => d.parameters.length) = some 0 := by decide +kernel
theorem hm_SK_readArguments : y_SK_readArguments.cls ≠ "java/lang/invoke/MethodHandle" ∧ y_SK_readArguments.cls ≠ "java/lang/invoke/VarHandle" ∧ (parseMethodDescriptor y_SK_readArguments.desc).map (fun d => d.parameters.length) = some 3 := by decide +kernel
theorem hm_SK_open : y_SK_open.cls ≠ "java/lang/invoke/MethodHandle" ∧ y_SK_open.cls ≠ "java/lang/invoke/VarHandle" ∧ (parseMethodDescriptor y_SK_open.desc).map (fun d => d.parameters.length) = some 1 := by decide +kernel
theorem hm_SK_readTexts : y_SK_readTexts.cls ≠ "java/lang/invoke/MethodHandle" ∧ y_SK_readTexts.cls ≠ "java/lang/invoke/VarHandle" ∧ (parseMethodDescriptor y_SK_readTexts.desc).map (fun d => d.parameters.length) = some 2 := by decide +kernel
