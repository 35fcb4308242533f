theorem d_MA_parametersOf_0 : decode prog_8_method_7_code 0 = .ok (.iload_n 1, 1) := by decide +kernel
theorem d_MA_parametersOf_1 : decode prog_8_method_7_code 1 = .ok (.ifCond .lt 18, 3) := by decide +kernel
theorem d_MA_parametersOf_4 : decode prog_8_method_7_code 4 = .ok (.iload_n 1, 1) := by decide +kernel
theorem d_MA_parametersOf_5 : decode prog_8_method_7_code 5 = .ok (.bipush 17, 2) := by decide +kernel
theorem d_MA_parametersOf_7 : decode prog_8_method_7_code 7 = .ok (.if_icmp .ge 12, 3) := by decide +kernel
theorem d_MA_parametersOf_10 : decode prog_8_method_7_code 10 = .ok (.aload_n 0, 1) := by decide +kernel
theorem d_MA_parametersOf_11 : decode prog_8_method_7_code 11 = .ok (.getfield 11, 3) := by decide +kernel
theorem d_MA_parametersOf_14 : decode prog_8_method_7_code 14 = .ok (.iload_n 1, 1) := by decide +kernel
theorem d_MA_parametersOf_15 : decode prog_8_method_7_code 15 = .ok (.iaload, 1) := by decide +kernel
theorem d_MA_parametersOf_16 : decode prog_8_method_7_code 16 = .ok (.goto 4, 3) := by decide +kernel
theorem d_MA_parametersOf_19 : decode prog_8_method_7_code 19 = .ok (.iconst 0, 1) := by decide +kernel
theorem d_MA_parametersOf_20 : decode prog_8_method_7_code 20 = .ok (.ireturn, 1) := by decide +kernel
theorem d_MA_findParameter_0 : decode prog_8_method_10_code 0 = .ok (.iconst 0, 1) := by decide +kernel
theorem d_MA_findParameter_1 : decode prog_8_method_10_code 1 = .ok (.istore 4, 2) := by decide +kernel
theorem d_MA_findParameter_3 : decode prog_8_method_10_code 3 = .ok (.iload 4, 2) := by decide +kernel
theorem d_MA_findParameter_5 : decode prog_8_method_10_code 5 = .ok (.aload_n 0, 1) := by decide +kernel
theorem d_MA_findParameter_6 : decode prog_8_method_10_code 6 = .ok (.iload_n 1, 1) := by decide +kernel
theorem d_MA_findParameter_7 : decode prog_8_method_10_code 7 = .ok (.invokevirtual 111, 3) := by decide +kernel
theorem d_MA_findParameter_10 : decode prog_8_method_10_code 10 = .ok (.if_icmp .ge 62, 3) := by decide +kernel
theorem d_MA_findParameter_13 : decode prog_8_method_10_code 13 = .ok (.iload_n 1, 1) := by decide +kernel
theorem d_MA_findParameter_14 : decode prog_8_method_10_code 14 = .ok (.bipush 6, 2) := by decide +kernel
theorem d_MA_findParameter_16 : decode prog_8_method_10_code 16 = .ok (.imul, 1) := by decide +kernel
theorem d_MA_findParameter_17 : decode prog_8_method_10_code 17 = .ok (.iload 4, 2) := by decide +kernel
theorem d_MA_findParameter_19 : decode prog_8_method_10_code 19 = .ok (.iadd, 1) := by decide +kernel
theorem d_MA_findParameter_20 : decode prog_8_method_10_code 20 = .ok (.istore 5, 2) := by decide +kernel
theorem d_MA_findParameter_22 : decode prog_8_method_10_code 22 = .ok (.iload 5, 2) := by decide +kernel
theorem d_MA_findParameter_24 : decode prog_8_method_10_code 24 = .ok (.ifCond .lt 42, 3) := by decide +kernel
theorem d_MA_findParameter_27 : decode prog_8_method_10_code 27 = .ok (.iload 5, 2) := by decide +kernel
theorem d_MA_findParameter_29 : decode prog_8_method_10_code 29 = .ok (.aload_n 0, 1) := by decide +kernel
theorem d_MA_findParameter_30 : decode prog_8_method_10_code 30 = .ok (.getfield 24, 3) := by decide +kernel
theorem d_MA_findParameter_33 : decode prog_8_method_10_code 33 = .ok (.arraylength, 1) := by decide +kernel
theorem d_MA_findParameter_34 : decode prog_8_method_10_code 34 = .ok (.if_icmp .ge 32, 3) := by decide +kernel
theorem d_MA_findParameter_37 : decode prog_8_method_10_code 37 = .ok (.aload_n 0, 1) := by decide +kernel
theorem d_MA_findParameter_38 : decode prog_8_method_10_code 38 = .ok (.getfield 36, 3) := by decide +kernel
theorem d_MA_findParameter_41 : decode prog_8_method_10_code 41 = .ok (.aload_n 0, 1) := by decide +kernel
theorem d_MA_findParameter_42 : decode prog_8_method_10_code 42 = .ok (.getfield 24, 3) := by decide +kernel
theorem d_MA_findParameter_45 : decode prog_8_method_10_code 45 = .ok (.iload 5, 2) := by decide +kernel
theorem d_MA_findParameter_47 : decode prog_8_method_10_code 47 = .ok (.iaload, 1) := by decide +kernel
theorem d_MA_findParameter_48 : decode prog_8_method_10_code 48 = .ok (.aload_n 0, 1) := by decide +kernel
theorem d_MA_findParameter_49 : decode prog_8_method_10_code 49 = .ok (.getfield 27, 3) := by decide +kernel
theorem d_MA_findParameter_52 : decode prog_8_method_10_code 52 = .ok (.iload 5, 2) := by decide +kernel
theorem d_MA_findParameter_54 : decode prog_8_method_10_code 54 = .ok (.iaload, 1) := by decide +kernel
theorem d_MA_findParameter_55 : decode prog_8_method_10_code 55 = .ok (.iload_n 2, 1) := by decide +kernel
theorem d_MA_findParameter_56 : decode prog_8_method_10_code 56 = .ok (.iload_n 3, 1) := by decide +kernel
theorem d_MA_findParameter_57 : decode prog_8_method_10_code 57 = .ok (.invokevirtual 115, 3) := by decide +kernel
theorem d_MA_findParameter_60 : decode prog_8_method_10_code 60 = .ok (.ifCond .eq 6, 3) := by decide +kernel
theorem d_MA_findParameter_63 : decode prog_8_method_10_code 63 = .ok (.iload 4, 2) := by decide +kernel
theorem d_MA_findParameter_65 : decode prog_8_method_10_code 65 = .ok (.ireturn, 1) := by decide +kernel
theorem d_MA_findParameter_66 : decode prog_8_method_10_code 66 = .ok (.iinc 4 1, 3) := by decide +kernel
theorem d_MA_findParameter_69 : decode prog_8_method_10_code 69 = .ok (.goto (-66), 3) := by decide +kernel
theorem d_MA_findParameter_72 : decode prog_8_method_10_code 72 = .ok (.iconst (-1), 1) := by decide +kernel
theorem d_MA_findParameter_73 : decode prog_8_method_10_code 73 = .ok (.ireturn, 1) := by decide +kernel
theorem d_MA_defaultStart_0 : decode prog_8_method_11_code 0 = .ok (.iload_n 1, 1) := by decide +kernel
theorem d_MA_defaultStart_1 : decode prog_8_method_11_code 1 = .ok (.bipush 6, 2) := by decide +kernel
theorem d_MA_defaultStart_3 : decode prog_8_method_11_code 3 = .ok (.imul, 1) := by decide +kernel
theorem d_MA_defaultStart_4 : decode prog_8_method_11_code 4 = .ok (.iload_n 2, 1) := by decide +kernel
theorem d_MA_defaultStart_5 : decode prog_8_method_11_code 5 = .ok (.iadd, 1) := by decide +kernel
theorem d_MA_defaultStart_6 : decode prog_8_method_11_code 6 = .ok (.istore_n 3, 1) := by decide +kernel
theorem d_MA_defaultStart_7 : decode prog_8_method_11_code 7 = .ok (.iload_n 3, 1) := by decide +kernel
theorem d_MA_defaultStart_8 : decode prog_8_method_11_code 8 = .ok (.ifCond .lt 21, 3) := by decide +kernel
theorem d_MA_defaultStart_11 : decode prog_8_method_11_code 11 = .ok (.iload_n 3, 1) := by decide +kernel
theorem d_MA_defaultStart_12 : decode prog_8_method_11_code 12 = .ok (.aload_n 0, 1) := by decide +kernel
theorem d_MA_defaultStart_13 : decode prog_8_method_11_code 13 = .ok (.getfield 30, 3) := by decide +kernel
theorem d_MA_defaultStart_16 : decode prog_8_method_11_code 16 = .ok (.arraylength, 1) := by decide +kernel
theorem d_MA_defaultStart_17 : decode prog_8_method_11_code 17 = .ok (.if_icmp .ge 12, 3) := by decide +kernel
theorem d_MA_defaultStart_20 : decode prog_8_method_11_code 20 = .ok (.aload_n 0, 1) := by decide +kernel
theorem d_MA_defaultStart_21 : decode prog_8_method_11_code 21 = .ok (.getfield 30, 3) := by decide +kernel
theorem d_MA_defaultStart_24 : decode prog_8_method_11_code 24 = .ok (.iload_n 3, 1) := by decide +kernel
theorem d_MA_defaultStart_25 : decode prog_8_method_11_code 25 = .ok (.iaload, 1) := by decide +kernel
theorem d_MA_defaultStart_26 : decode prog_8_method_11_code 26 = .ok (.goto 4, 3) := by decide +kernel
theorem d_MA_defaultStart_29 : decode prog_8_method_11_code 29 = .ok (.iconst (-1), 1) := by decide +kernel
theorem d_MA_defaultStart_30 : decode prog_8_method_11_code 30 = .ok (.ireturn, 1) := by decide +kernel
theorem d_MA_defaultStop_0 : decode prog_8_method_12_code 0 = .ok (.iload_n 1, 1) := by decide +kernel
theorem d_MA_defaultStop_1 : decode prog_8_method_12_code 1 = .ok (.bipush 6, 2) := by decide +kernel
theorem d_MA_defaultStop_3 : decode prog_8_method_12_code 3 = .ok (.imul, 1) := by decide +kernel
theorem d_MA_defaultStop_4 : decode prog_8_method_12_code 4 = .ok (.iload_n 2, 1) := by decide +kernel
theorem d_MA_defaultStop_5 : decode prog_8_method_12_code 5 = .ok (.iadd, 1) := by decide +kernel
theorem d_MA_defaultStop_6 : decode prog_8_method_12_code 6 = .ok (.istore_n 3, 1) := by decide +kernel
theorem d_MA_defaultStop_7 : decode prog_8_method_12_code 7 = .ok (.iload_n 3, 1) := by decide +kernel
theorem d_MA_defaultStop_8 : decode prog_8_method_12_code 8 = .ok (.ifCond .lt 21, 3) := by decide +kernel
theorem d_MA_defaultStop_11 : decode prog_8_method_12_code 11 = .ok (.iload_n 3, 1) := by decide +kernel
theorem d_MA_defaultStop_12 : decode prog_8_method_12_code 12 = .ok (.aload_n 0, 1) := by decide +kernel
theorem d_MA_defaultStop_13 : decode prog_8_method_12_code 13 = .ok (.getfield 33, 3) := by decide +kernel
theorem d_MA_defaultStop_16 : decode prog_8_method_12_code 16 = .ok (.arraylength, 1) := by decide +kernel
theorem d_MA_defaultStop_17 : decode prog_8_method_12_code 17 = .ok (.if_icmp .ge 12, 3) := by decide +kernel
theorem d_MA_defaultStop_20 : decode prog_8_method_12_code 20 = .ok (.aload_n 0, 1) := by decide +kernel
theorem d_MA_defaultStop_21 : decode prog_8_method_12_code 21 = .ok (.getfield 33, 3) := by decide +kernel
theorem d_MA_defaultStop_24 : decode prog_8_method_12_code 24 = .ok (.iload_n 3, 1) := by decide +kernel
theorem d_MA_defaultStop_25 : decode prog_8_method_12_code 25 = .ok (.iaload, 1) := by decide +kernel
theorem d_MA_defaultStop_26 : decode prog_8_method_12_code 26 = .ok (.goto 4, 3) := by decide +kernel
theorem d_MA_defaultStop_29 : decode prog_8_method_12_code 29 = .ok (.iconst (-1), 1) := by decide +kernel
theorem d_MA_defaultStop_30 : decode prog_8_method_12_code 30 = .ok (.ireturn, 1) := by decide +kernel
theorem d_MA_firstLineOf_0 : decode prog_8_method_8_code 0 = .ok (.iload_n 1, 1) := by decide +kernel
theorem d_MA_firstLineOf_1 : decode prog_8_method_8_code 1 = .ok (.ifCond .lt 20, 3) := by decide +kernel
theorem d_MA_firstLineOf_4 : decode prog_8_method_8_code 4 = .ok (.iload_n 1, 1) := by decide +kernel
theorem d_MA_firstLineOf_5 : decode prog_8_method_8_code 5 = .ok (.bipush 17, 2) := by decide +kernel
theorem d_MA_firstLineOf_7 : decode prog_8_method_8_code 7 = .ok (.if_icmp .ge 14, 3) := by decide +kernel
theorem d_MA_firstLineOf_10 : decode prog_8_method_8_code 10 = .ok (.aload_n 0, 1) := by decide +kernel
theorem d_MA_firstLineOf_11 : decode prog_8_method_8_code 11 = .ok (.getfield 18, 3) := by decide +kernel
theorem d_MA_firstLineOf_14 : decode prog_8_method_8_code 14 = .ok (.iload_n 1, 1) := by decide +kernel
theorem d_MA_firstLineOf_15 : decode prog_8_method_8_code 15 = .ok (.iaload, 1) := by decide +kernel
theorem d_MA_firstLineOf_16 : decode prog_8_method_8_code 16 = .ok (.iconst 1, 1) := by decide +kernel
theorem d_MA_firstLineOf_17 : decode prog_8_method_8_code 17 = .ok (.iadd, 1) := by decide +kernel
theorem d_MA_firstLineOf_18 : decode prog_8_method_8_code 18 = .ok (.goto 4, 3) := by decide +kernel
theorem d_MA_firstLineOf_21 : decode prog_8_method_8_code 21 = .ok (.iconst 0, 1) := by decide +kernel
theorem d_MA_firstLineOf_22 : decode prog_8_method_8_code 22 = .ok (.ireturn, 1) := by decide +kernel
theorem d_MA_linesOf_0 : decode prog_8_method_9_code 0 = .ok (.iload_n 1, 1) := by decide +kernel
theorem d_MA_linesOf_1 : decode prog_8_method_9_code 1 = .ok (.ifCond .lt 18, 3) := by decide +kernel
theorem d_MA_linesOf_4 : decode prog_8_method_9_code 4 = .ok (.iload_n 1, 1) := by decide +kernel
theorem d_MA_linesOf_5 : decode prog_8_method_9_code 5 = .ok (.bipush 17, 2) := by decide +kernel
theorem d_MA_linesOf_7 : decode prog_8_method_9_code 7 = .ok (.if_icmp .ge 12, 3) := by decide +kernel
theorem d_MA_linesOf_10 : decode prog_8_method_9_code 10 = .ok (.aload_n 0, 1) := by decide +kernel
theorem d_MA_linesOf_11 : decode prog_8_method_9_code 11 = .ok (.getfield 15, 3) := by decide +kernel
theorem d_MA_linesOf_14 : decode prog_8_method_9_code 14 = .ok (.iload_n 1, 1) := by decide +kernel
theorem d_MA_linesOf_15 : decode prog_8_method_9_code 15 = .ok (.iaload, 1) := by decide +kernel
theorem d_MA_linesOf_16 : decode prog_8_method_9_code 16 = .ok (.goto 4, 3) := by decide +kernel
theorem d_MA_linesOf_19 : decode prog_8_method_9_code 19 = .ok (.iconst 0, 1) := by decide +kernel
theorem d_MA_linesOf_20 : decode prog_8_method_9_code 20 = .ok (.ireturn, 1) := by decide +kernel
theorem d_MA_countCall_0 : decode prog_8_method_6_code 0 = .ok (.iload_n 1, 1) := by decide +kernel
theorem d_MA_countCall_1 : decode prog_8_method_6_code 1 = .ok (.ifCond .lt 19, 3) := by decide +kernel
theorem d_MA_countCall_4 : decode prog_8_method_6_code 4 = .ok (.iload_n 1, 1) := by decide +kernel
theorem d_MA_countCall_5 : decode prog_8_method_6_code 5 = .ok (.bipush 17, 2) := by decide +kernel
theorem d_MA_countCall_7 : decode prog_8_method_6_code 7 = .ok (.if_icmp .ge 13, 3) := by decide +kernel
theorem d_MA_countCall_10 : decode prog_8_method_6_code 10 = .ok (.aload_n 0, 1) := by decide +kernel
theorem d_MA_countCall_11 : decode prog_8_method_6_code 11 = .ok (.getfield 21, 3) := by decide +kernel
theorem d_MA_countCall_14 : decode prog_8_method_6_code 14 = .ok (.iload_n 1, 1) := by decide +kernel
theorem d_MA_countCall_15 : decode prog_8_method_6_code 15 = .ok (.dup2, 1) := by decide +kernel
theorem d_MA_countCall_16 : decode prog_8_method_6_code 16 = .ok (.iaload, 1) := by decide +kernel
theorem d_MA_countCall_17 : decode prog_8_method_6_code 17 = .ok (.iconst 1, 1) := by decide +kernel
theorem d_MA_countCall_18 : decode prog_8_method_6_code 18 = .ok (.iadd, 1) := by decide +kernel
theorem d_MA_countCall_19 : decode prog_8_method_6_code 19 = .ok (.iastore, 1) := by decide +kernel
theorem d_MA_countCall_20 : decode prog_8_method_6_code 20 = .ok (.return_, 1) := by decide +kernel
theorem d_MA_readParameter_0 : decode prog_8_method_3_code 0 = .ok (.iload_n 3, 1) := by decide +kernel
theorem d_MA_readParameter_1 : decode prog_8_method_3_code 1 = .ok (.ifCond .lt 19, 3) := by decide +kernel
theorem d_MA_readParameter_4 : decode prog_8_method_3_code 4 = .ok (.iload_n 3, 1) := by decide +kernel
theorem d_MA_readParameter_5 : decode prog_8_method_3_code 5 = .ok (.aload_n 0, 1) := by decide +kernel
theorem d_MA_readParameter_6 : decode prog_8_method_3_code 6 = .ok (.getfield 24, 3) := by decide +kernel
theorem d_MA_readParameter_9 : decode prog_8_method_3_code 9 = .ok (.arraylength, 1) := by decide +kernel
theorem d_MA_readParameter_10 : decode prog_8_method_3_code 10 = .ok (.if_icmp .ge 10, 3) := by decide +kernel
theorem d_MA_readParameter_13 : decode prog_8_method_3_code 13 = .ok (.aload_n 1, 1) := by decide +kernel
theorem d_MA_readParameter_14 : decode prog_8_method_3_code 14 = .ok (.invokevirtual 53, 3) := by decide +kernel
theorem d_MA_readParameter_17 : decode prog_8_method_3_code 17 = .ok (.ifCond .ne 5, 3) := by decide +kernel
theorem d_MA_readParameter_20 : decode prog_8_method_3_code 20 = .ok (.iconst 0, 1) := by decide +kernel
theorem d_MA_readParameter_21 : decode prog_8_method_3_code 21 = .ok (.ireturn, 1) := by decide +kernel
theorem d_MA_readParameter_22 : decode prog_8_method_3_code 22 = .ok (.aload_n 0, 1) := by decide +kernel
theorem d_MA_readParameter_23 : decode prog_8_method_3_code 23 = .ok (.iload_n 2, 1) := by decide +kernel
theorem d_MA_readParameter_24 : decode prog_8_method_3_code 24 = .ok (.aload_n 1, 1) := by decide +kernel
theorem d_MA_readParameter_25 : decode prog_8_method_3_code 25 = .ok (.getfield 59, 3) := by decide +kernel
theorem d_MA_readParameter_28 : decode prog_8_method_3_code 28 = .ok (.aload_n 1, 1) := by decide +kernel
theorem d_MA_readParameter_29 : decode prog_8_method_3_code 29 = .ok (.getfield 64, 3) := by decide +kernel
theorem d_MA_readParameter_32 : decode prog_8_method_3_code 32 = .ok (.invokevirtual 80, 3) := by decide +kernel
theorem d_MA_readParameter_35 : decode prog_8_method_3_code 35 = .ok (.iconst (-1), 1) := by decide +kernel
theorem d_MA_readParameter_36 : decode prog_8_method_3_code 36 = .ok (.if_icmp .eq 5, 3) := by decide +kernel
theorem d_MA_readParameter_39 : decode prog_8_method_3_code 39 = .ok (.iconst 0, 1) := by decide +kernel
theorem d_MA_readParameter_40 : decode prog_8_method_3_code 40 = .ok (.ireturn, 1) := by decide +kernel
theorem d_MA_readParameter_41 : decode prog_8_method_3_code 41 = .ok (.aload_n 0, 1) := by decide +kernel
theorem d_MA_readParameter_42 : decode prog_8_method_3_code 42 = .ok (.getfield 24, 3) := by decide +kernel
theorem d_MA_readParameter_45 : decode prog_8_method_3_code 45 = .ok (.iload_n 3, 1) := by decide +kernel
theorem d_MA_readParameter_46 : decode prog_8_method_3_code 46 = .ok (.aload_n 1, 1) := by decide +kernel
theorem d_MA_readParameter_47 : decode prog_8_method_3_code 47 = .ok (.getfield 59, 3) := by decide +kernel
theorem d_MA_readParameter_50 : decode prog_8_method_3_code 50 = .ok (.iastore, 1) := by decide +kernel
theorem d_MA_readParameter_51 : decode prog_8_method_3_code 51 = .ok (.aload_n 0, 1) := by decide +kernel
theorem d_MA_readParameter_52 : decode prog_8_method_3_code 52 = .ok (.getfield 27, 3) := by decide +kernel
theorem d_MA_readParameter_55 : decode prog_8_method_3_code 55 = .ok (.iload_n 3, 1) := by decide +kernel
theorem d_MA_readParameter_56 : decode prog_8_method_3_code 56 = .ok (.aload_n 1, 1) := by decide +kernel
theorem d_MA_readParameter_57 : decode prog_8_method_3_code 57 = .ok (.getfield 64, 3) := by decide +kernel
theorem d_MA_readParameter_60 : decode prog_8_method_3_code 60 = .ok (.iastore, 1) := by decide +kernel
theorem d_MA_readParameter_61 : decode prog_8_method_3_code 61 = .ok (.aload_n 0, 1) := by decide +kernel
theorem d_MA_readParameter_62 : decode prog_8_method_3_code 62 = .ok (.getfield 30, 3) := by decide +kernel
theorem d_MA_readParameter_65 : decode prog_8_method_3_code 65 = .ok (.iload_n 3, 1) := by decide +kernel
theorem d_MA_readParameter_66 : decode prog_8_method_3_code 66 = .ok (.iconst (-1), 1) := by decide +kernel
theorem d_MA_readParameter_67 : decode prog_8_method_3_code 67 = .ok (.iastore, 1) := by decide +kernel
theorem d_MA_readParameter_68 : decode prog_8_method_3_code 68 = .ok (.aload_n 0, 1) := by decide +kernel
theorem d_MA_readParameter_69 : decode prog_8_method_3_code 69 = .ok (.getfield 33, 3) := by decide +kernel
theorem d_MA_readParameter_72 : decode prog_8_method_3_code 72 = .ok (.iload_n 3, 1) := by decide +kernel
theorem d_MA_readParameter_73 : decode prog_8_method_3_code 73 = .ok (.iconst (-1), 1) := by decide +kernel
theorem d_MA_readParameter_74 : decode prog_8_method_3_code 74 = .ok (.iastore, 1) := by decide +kernel
theorem d_MA_readParameter_75 : decode prog_8_method_3_code 75 = .ok (.aload_n 1, 1) := by decide +kernel
theorem d_MA_readParameter_76 : decode prog_8_method_3_code 76 = .ok (.bipush 61, 2) := by decide +kernel
theorem d_MA_readParameter_78 : decode prog_8_method_3_code 78 = .ok (.invokevirtual 76, 3) := by decide +kernel
theorem d_MA_readParameter_81 : decode prog_8_method_3_code 81 = .ok (.ifCond .eq 68, 3) := by decide +kernel
theorem d_MA_readParameter_84 : decode prog_8_method_3_code 84 = .ok (.aload_n 0, 1) := by decide +kernel
theorem d_MA_readParameter_85 : decode prog_8_method_3_code 85 = .ok (.getfield 36, 3) := by decide +kernel
theorem d_MA_readParameter_88 : decode prog_8_method_3_code 88 = .ok (.bipush 44, 2) := by decide +kernel
theorem d_MA_readParameter_90 : decode prog_8_method_3_code 90 = .ok (.aload_n 1, 1) := by decide +kernel
theorem d_MA_readParameter_91 : decode prog_8_method_3_code 91 = .ok (.getfield 84, 3) := by decide +kernel
theorem d_MA_readParameter_94 : decode prog_8_method_3_code 94 = .ok (.aload_n 1, 1) := by decide +kernel
theorem d_MA_readParameter_95 : decode prog_8_method_3_code 95 = .ok (.getfield 87, 3) := by decide +kernel
theorem d_MA_readParameter_98 : decode prog_8_method_3_code 98 = .ok (.invokevirtual 90, 3) := by decide +kernel
theorem d_MA_readParameter_101 : decode prog_8_method_3_code 101 = .ok (.istore 4, 2) := by decide +kernel
theorem d_MA_readParameter_103 : decode prog_8_method_3_code 103 = .ok (.aload_n 0, 1) := by decide +kernel
theorem d_MA_readParameter_104 : decode prog_8_method_3_code 104 = .ok (.getfield 30, 3) := by decide +kernel
theorem d_MA_readParameter_107 : decode prog_8_method_3_code 107 = .ok (.iload_n 3, 1) := by decide +kernel
theorem d_MA_readParameter_108 : decode prog_8_method_3_code 108 = .ok (.aload_n 0, 1) := by decide +kernel
theorem d_MA_readParameter_109 : decode prog_8_method_3_code 109 = .ok (.getfield 36, 3) := by decide +kernel
theorem d_MA_readParameter_112 : decode prog_8_method_3_code 112 = .ok (.aload_n 1, 1) := by decide +kernel
theorem d_MA_readParameter_113 : decode prog_8_method_3_code 113 = .ok (.getfield 84, 3) := by decide +kernel
theorem d_MA_readParameter_116 : decode prog_8_method_3_code 116 = .ok (.iload 4, 2) := by decide +kernel
theorem d_MA_readParameter_118 : decode prog_8_method_3_code 118 = .ok (.invokevirtual 95, 3) := by decide +kernel
theorem d_MA_readParameter_121 : decode prog_8_method_3_code 121 = .ok (.iastore, 1) := by decide +kernel
theorem d_MA_readParameter_122 : decode prog_8_method_3_code 122 = .ok (.aload_n 0, 1) := by decide +kernel
theorem d_MA_readParameter_123 : decode prog_8_method_3_code 123 = .ok (.getfield 33, 3) := by decide +kernel
theorem d_MA_readParameter_126 : decode prog_8_method_3_code 126 = .ok (.iload_n 3, 1) := by decide +kernel
theorem d_MA_readParameter_127 : decode prog_8_method_3_code 127 = .ok (.aload_n 0, 1) := by decide +kernel
theorem d_MA_readParameter_128 : decode prog_8_method_3_code 128 = .ok (.getfield 36, 3) := by decide +kernel
theorem d_MA_readParameter_131 : decode prog_8_method_3_code 131 = .ok (.aload_n 0, 1) := by decide +kernel
theorem d_MA_readParameter_132 : decode prog_8_method_3_code 132 = .ok (.getfield 30, 3) := by decide +kernel
theorem d_MA_readParameter_135 : decode prog_8_method_3_code 135 = .ok (.iload_n 3, 1) := by decide +kernel
theorem d_MA_readParameter_136 : decode prog_8_method_3_code 136 = .ok (.iaload, 1) := by decide +kernel
theorem d_MA_readParameter_137 : decode prog_8_method_3_code 137 = .ok (.iload 4, 2) := by decide +kernel
theorem d_MA_readParameter_139 : decode prog_8_method_3_code 139 = .ok (.invokevirtual 99, 3) := by decide +kernel
theorem d_MA_readParameter_142 : decode prog_8_method_3_code 142 = .ok (.iastore, 1) := by decide +kernel
theorem d_MA_readParameter_143 : decode prog_8_method_3_code 143 = .ok (.aload_n 1, 1) := by decide +kernel
theorem d_MA_readParameter_144 : decode prog_8_method_3_code 144 = .ok (.iload 4, 2) := by decide +kernel
theorem d_MA_readParameter_146 : decode prog_8_method_3_code 146 = .ok (.putfield 84, 3) := by decide +kernel
theorem d_MA_readParameter_149 : decode prog_8_method_3_code 149 = .ok (.iconst 1, 1) := by decide +kernel
theorem d_MA_readParameter_150 : decode prog_8_method_3_code 150 = .ok (.ireturn, 1) := by decide +kernel
theorem d_MA_readHead_0 : decode prog_8_method_2_code 0 = .ok (.aload_n 0, 1) := by decide +kernel
theorem d_MA_readHead_1 : decode prog_8_method_2_code 1 = .ok (.getfield 45, 3) := by decide +kernel
theorem d_MA_readHead_4 : decode prog_8_method_2_code 4 = .ok (.getfield 49, 3) := by decide +kernel
theorem d_MA_readHead_7 : decode prog_8_method_2_code 7 = .ok (.istore_n 2, 1) := by decide +kernel
theorem d_MA_readHead_8 : decode prog_8_method_2_code 8 = .ok (.iload_n 2, 1) := by decide +kernel
theorem d_MA_readHead_9 : decode prog_8_method_2_code 9 = .ok (.ifCond .lt 16, 3) := by decide +kernel
theorem d_MA_readHead_12 : decode prog_8_method_2_code 12 = .ok (.iload_n 2, 1) := by decide +kernel
theorem d_MA_readHead_13 : decode prog_8_method_2_code 13 = .ok (.bipush 17, 2) := by decide +kernel
theorem d_MA_readHead_15 : decode prog_8_method_2_code 15 = .ok (.if_icmp .ge 10, 3) := by decide +kernel
theorem d_MA_readHead_18 : decode prog_8_method_2_code 18 = .ok (.aload_n 1, 1) := by decide +kernel
theorem d_MA_readHead_19 : decode prog_8_method_2_code 19 = .ok (.invokevirtual 53, 3) := by decide +kernel
theorem d_MA_readHead_22 : decode prog_8_method_2_code 22 = .ok (.ifCond .ne 5, 3) := by decide +kernel
theorem d_MA_readHead_25 : decode prog_8_method_2_code 25 = .ok (.iconst 0, 1) := by decide +kernel
theorem d_MA_readHead_26 : decode prog_8_method_2_code 26 = .ok (.ireturn, 1) := by decide +kernel
theorem d_MA_readHead_27 : decode prog_8_method_2_code 27 = .ok (.aload_n 0, 1) := by decide +kernel
theorem d_MA_readHead_28 : decode prog_8_method_2_code 28 = .ok (.aload_n 1, 1) := by decide +kernel
theorem d_MA_readHead_29 : decode prog_8_method_2_code 29 = .ok (.getfield 59, 3) := by decide +kernel
theorem d_MA_readHead_32 : decode prog_8_method_2_code 32 = .ok (.putfield 61, 3) := by decide +kernel
theorem d_MA_readHead_35 : decode prog_8_method_2_code 35 = .ok (.aload_n 0, 1) := by decide +kernel
theorem d_MA_readHead_36 : decode prog_8_method_2_code 36 = .ok (.aload_n 1, 1) := by decide +kernel
theorem d_MA_readHead_37 : decode prog_8_method_2_code 37 = .ok (.getfield 64, 3) := by decide +kernel
theorem d_MA_readHead_40 : decode prog_8_method_2_code 40 = .ok (.putfield 66, 3) := by decide +kernel
theorem d_MA_readHead_43 : decode prog_8_method_2_code 43 = .ok (.aload_n 0, 1) := by decide +kernel
theorem d_MA_readHead_44 : decode prog_8_method_2_code 44 = .ok (.getfield 11, 3) := by decide +kernel
theorem d_MA_readHead_47 : decode prog_8_method_2_code 47 = .ok (.iload_n 2, 1) := by decide +kernel
theorem d_MA_readHead_48 : decode prog_8_method_2_code 48 = .ok (.iconst 0, 1) := by decide +kernel
theorem d_MA_readHead_49 : decode prog_8_method_2_code 49 = .ok (.iastore, 1) := by decide +kernel
theorem d_MA_readHead_50 : decode prog_8_method_2_code 50 = .ok (.aload_n 1, 1) := by decide +kernel
theorem d_MA_readHead_51 : decode prog_8_method_2_code 51 = .ok (.invokevirtual 69, 3) := by decide +kernel
theorem d_MA_readHead_54 : decode prog_8_method_2_code 54 = .ok (.ifCond .eq 5, 3) := by decide +kernel
theorem d_MA_readHead_57 : decode prog_8_method_2_code 57 = .ok (.iconst 1, 1) := by decide +kernel
theorem d_MA_readHead_58 : decode prog_8_method_2_code 58 = .ok (.ireturn, 1) := by decide +kernel
theorem d_MA_readHead_59 : decode prog_8_method_2_code 59 = .ok (.iconst 0, 1) := by decide +kernel
theorem d_MA_readHead_60 : decode prog_8_method_2_code 60 = .ok (.istore_n 3, 1) := by decide +kernel
theorem d_MA_readHead_61 : decode prog_8_method_2_code 61 = .ok (.iload_n 3, 1) := by decide +kernel
theorem d_MA_readHead_62 : decode prog_8_method_2_code 62 = .ok (.bipush 6, 2) := by decide +kernel
theorem d_MA_readHead_64 : decode prog_8_method_2_code 64 = .ok (.if_icmp .ge 55, 3) := by decide +kernel
theorem d_MA_readHead_67 : decode prog_8_method_2_code 67 = .ok (.aload_n 0, 1) := by decide +kernel
theorem d_MA_readHead_68 : decode prog_8_method_2_code 68 = .ok (.aload_n 1, 1) := by decide +kernel
theorem d_MA_readHead_69 : decode prog_8_method_2_code 69 = .ok (.iload_n 2, 1) := by decide +kernel
theorem d_MA_readHead_70 : decode prog_8_method_2_code 70 = .ok (.iload_n 2, 1) := by decide +kernel
theorem d_MA_readHead_71 : decode prog_8_method_2_code 71 = .ok (.bipush 6, 2) := by decide +kernel
theorem d_MA_readHead_73 : decode prog_8_method_2_code 73 = .ok (.imul, 1) := by decide +kernel
theorem d_MA_readHead_74 : decode prog_8_method_2_code 74 = .ok (.iload_n 3, 1) := by decide +kernel
theorem d_MA_readHead_75 : decode prog_8_method_2_code 75 = .ok (.iadd, 1) := by decide +kernel
theorem d_MA_readHead_76 : decode prog_8_method_2_code 76 = .ok (.invokevirtual 72, 3) := by decide +kernel
theorem d_MA_readHead_79 : decode prog_8_method_2_code 79 = .ok (.ifCond .ne 5, 3) := by decide +kernel
theorem d_MA_readHead_82 : decode prog_8_method_2_code 82 = .ok (.iconst 0, 1) := by decide +kernel
theorem d_MA_readHead_83 : decode prog_8_method_2_code 83 = .ok (.ireturn, 1) := by decide +kernel
theorem d_MA_readHead_84 : decode prog_8_method_2_code 84 = .ok (.aload_n 0, 1) := by decide +kernel
theorem d_MA_readHead_85 : decode prog_8_method_2_code 85 = .ok (.getfield 11, 3) := by decide +kernel
theorem d_MA_readHead_88 : decode prog_8_method_2_code 88 = .ok (.iload_n 2, 1) := by decide +kernel
theorem d_MA_readHead_89 : decode prog_8_method_2_code 89 = .ok (.iload_n 3, 1) := by decide +kernel
theorem d_MA_readHead_90 : decode prog_8_method_2_code 90 = .ok (.iconst 1, 1) := by decide +kernel
theorem d_MA_readHead_91 : decode prog_8_method_2_code 91 = .ok (.iadd, 1) := by decide +kernel
theorem d_MA_readHead_92 : decode prog_8_method_2_code 92 = .ok (.iastore, 1) := by decide +kernel
theorem d_MA_readHead_93 : decode prog_8_method_2_code 93 = .ok (.aload_n 1, 1) := by decide +kernel
theorem d_MA_readHead_94 : decode prog_8_method_2_code 94 = .ok (.invokevirtual 69, 3) := by decide +kernel
theorem d_MA_readHead_97 : decode prog_8_method_2_code 97 = .ok (.ifCond .eq 5, 3) := by decide +kernel
theorem d_MA_readHead_100 : decode prog_8_method_2_code 100 = .ok (.iconst 1, 1) := by decide +kernel
theorem d_MA_readHead_101 : decode prog_8_method_2_code 101 = .ok (.ireturn, 1) := by decide +kernel
theorem d_MA_readHead_102 : decode prog_8_method_2_code 102 = .ok (.aload_n 1, 1) := by decide +kernel
theorem d_MA_readHead_103 : decode prog_8_method_2_code 103 = .ok (.bipush 44, 2) := by decide +kernel
theorem d_MA_readHead_105 : decode prog_8_method_2_code 105 = .ok (.invokevirtual 76, 3) := by decide +kernel
theorem d_MA_readHead_108 : decode prog_8_method_2_code 108 = .ok (.ifCond .ne 5, 3) := by decide +kernel
theorem d_MA_readHead_111 : decode prog_8_method_2_code 111 = .ok (.iconst 0, 1) := by decide +kernel
theorem d_MA_readHead_112 : decode prog_8_method_2_code 112 = .ok (.ireturn, 1) := by decide +kernel
theorem d_MA_readHead_113 : decode prog_8_method_2_code 113 = .ok (.iinc 3 1, 3) := by decide +kernel
theorem d_MA_readHead_116 : decode prog_8_method_2_code 116 = .ok (.goto (-55), 3) := by decide +kernel
theorem d_MA_readHead_119 : decode prog_8_method_2_code 119 = .ok (.iconst 0, 1) := by decide +kernel
theorem d_MA_readHead_120 : decode prog_8_method_2_code 120 = .ok (.ireturn, 1) := by decide +kernel
theorem d_MA_isHeadTold_0 : decode prog_8_method_4_code 0 = .ok (.aload_n 0, 1) := by decide +kernel
theorem d_MA_isHeadTold_1 : decode prog_8_method_4_code 1 = .ok (.getfield 45, 3) := by decide +kernel
theorem d_MA_isHeadTold_4 : decode prog_8_method_4_code 4 = .ok (.aload_n 0, 1) := by decide +kernel
theorem d_MA_isHeadTold_5 : decode prog_8_method_4_code 5 = .ok (.getfield 61, 3) := by decide +kernel
theorem d_MA_isHeadTold_8 : decode prog_8_method_4_code 8 = .ok (.aload_n 0, 1) := by decide +kernel
theorem d_MA_isHeadTold_9 : decode prog_8_method_4_code 9 = .ok (.getfield 66, 3) := by decide +kernel
theorem d_MA_isHeadTold_12 : decode prog_8_method_4_code 12 = .ok (.invokevirtual 102, 3) := by decide +kernel
theorem d_MA_isHeadTold_15 : decode prog_8_method_4_code 15 = .ok (.iconst (-1), 1) := by decide +kernel
theorem d_MA_isHeadTold_16 : decode prog_8_method_4_code 16 = .ok (.if_icmp .eq 7, 3) := by decide +kernel
theorem d_MA_isHeadTold_19 : decode prog_8_method_4_code 19 = .ok (.iconst 1, 1) := by decide +kernel
theorem d_MA_isHeadTold_20 : decode prog_8_method_4_code 20 = .ok (.goto 4, 3) := by decide +kernel
theorem d_MA_isHeadTold_23 : decode prog_8_method_4_code 23 = .ok (.iconst 0, 1) := by decide +kernel
theorem d_MA_isHeadTold_24 : decode prog_8_method_4_code 24 = .ok (.ireturn, 1) := by decide +kernel
theorem d_MA_add_0 : decode prog_8_method_5_code 0 = .ok (.aload_n 0, 1) := by decide +kernel
theorem d_MA_add_1 : decode prog_8_method_5_code 1 = .ok (.getfield 45, 3) := by decide +kernel
theorem d_MA_add_4 : decode prog_8_method_5_code 4 = .ok (.getfield 49, 3) := by decide +kernel
theorem d_MA_add_7 : decode prog_8_method_5_code 7 = .ok (.istore_n 3, 1) := by decide +kernel
theorem d_MA_add_8 : decode prog_8_method_5_code 8 = .ok (.aload_n 0, 1) := by decide +kernel
theorem d_MA_add_9 : decode prog_8_method_5_code 9 = .ok (.getfield 45, 3) := by decide +kernel
theorem d_MA_add_12 : decode prog_8_method_5_code 12 = .ok (.invokevirtual 104, 3) := by decide +kernel
theorem d_MA_add_15 : decode prog_8_method_5_code 15 = .ok (.ifCond .ne 13, 3) := by decide +kernel
theorem d_MA_add_18 : decode prog_8_method_5_code 18 = .ok (.iload_n 3, 1) := by decide +kernel
theorem d_MA_add_19 : decode prog_8_method_5_code 19 = .ok (.ifCond .lt 9, 3) := by decide +kernel
theorem d_MA_add_22 : decode prog_8_method_5_code 22 = .ok (.iload_n 3, 1) := by decide +kernel
theorem d_MA_add_23 : decode prog_8_method_5_code 23 = .ok (.bipush 17, 2) := by decide +kernel
theorem d_MA_add_25 : decode prog_8_method_5_code 25 = .ok (.if_icmp .lt 5, 3) := by decide +kernel
theorem d_MA_add_28 : decode prog_8_method_5_code 28 = .ok (.iconst 0, 1) := by decide +kernel
theorem d_MA_add_29 : decode prog_8_method_5_code 29 = .ok (.ireturn, 1) := by decide +kernel
theorem d_MA_add_30 : decode prog_8_method_5_code 30 = .ok (.aload_n 0, 1) := by decide +kernel
theorem d_MA_add_31 : decode prog_8_method_5_code 31 = .ok (.getfield 45, 3) := by decide +kernel
theorem d_MA_add_34 : decode prog_8_method_5_code 34 = .ok (.aload_n 0, 1) := by decide +kernel
theorem d_MA_add_35 : decode prog_8_method_5_code 35 = .ok (.getfield 61, 3) := by decide +kernel
theorem d_MA_add_38 : decode prog_8_method_5_code 38 = .ok (.aload_n 0, 1) := by decide +kernel
theorem d_MA_add_39 : decode prog_8_method_5_code 39 = .ok (.getfield 66, 3) := by decide +kernel
theorem d_MA_add_42 : decode prog_8_method_5_code 42 = .ok (.invokevirtual 107, 3) := by decide +kernel
theorem d_MA_add_45 : decode prog_8_method_5_code 45 = .ok (.aload_n 0, 1) := by decide +kernel
theorem d_MA_add_46 : decode prog_8_method_5_code 46 = .ok (.getfield 18, 3) := by decide +kernel
theorem d_MA_add_49 : decode prog_8_method_5_code 49 = .ok (.iload_n 3, 1) := by decide +kernel
theorem d_MA_add_50 : decode prog_8_method_5_code 50 = .ok (.iload_n 1, 1) := by decide +kernel
theorem d_MA_add_51 : decode prog_8_method_5_code 51 = .ok (.iastore, 1) := by decide +kernel
theorem d_MA_add_52 : decode prog_8_method_5_code 52 = .ok (.aload_n 0, 1) := by decide +kernel
theorem d_MA_add_53 : decode prog_8_method_5_code 53 = .ok (.getfield 15, 3) := by decide +kernel
theorem d_MA_add_56 : decode prog_8_method_5_code 56 = .ok (.iload_n 3, 1) := by decide +kernel
theorem d_MA_add_57 : decode prog_8_method_5_code 57 = .ok (.iload_n 2, 1) := by decide +kernel
theorem d_MA_add_58 : decode prog_8_method_5_code 58 = .ok (.iastore, 1) := by decide +kernel
theorem d_MA_add_59 : decode prog_8_method_5_code 59 = .ok (.aload_n 0, 1) := by decide +kernel
theorem d_MA_add_60 : decode prog_8_method_5_code 60 = .ok (.getfield 21, 3) := by decide +kernel
theorem d_MA_add_63 : decode prog_8_method_5_code 63 = .ok (.iload_n 3, 1) := by decide +kernel
theorem d_MA_add_64 : decode prog_8_method_5_code 64 = .ok (.iconst 0, 1) := by decide +kernel
theorem d_MA_add_65 : decode prog_8_method_5_code 65 = .ok (.iastore, 1) := by decide +kernel
theorem d_MA_add_66 : decode prog_8_method_5_code 66 = .ok (.iconst 1, 1) := by decide +kernel
theorem d_MA_add_67 : decode prog_8_method_5_code 67 = .ok (.ireturn, 1) := by decide +kernel
theorem d_MA_tell_0 : decode prog_8_method_13_code 0 = .ok (.iload_n 1, 1) := by decide +kernel
theorem d_MA_tell_1 : decode prog_8_method_13_code 1 = .ok (.ifCond .lt 9, 3) := by decide +kernel
theorem d_MA_tell_4 : decode prog_8_method_13_code 4 = .ok (.iload_n 1, 1) := by decide +kernel
theorem d_MA_tell_5 : decode prog_8_method_13_code 5 = .ok (.bipush 17, 2) := by decide +kernel
theorem d_MA_tell_7 : decode prog_8_method_13_code 7 = .ok (.if_icmp .lt 5, 3) := by decide +kernel
theorem d_MA_tell_10 : decode prog_8_method_13_code 10 = .ok (.iconst (-1), 1) := by decide +kernel
theorem d_MA_tell_11 : decode prog_8_method_13_code 11 = .ok (.ireturn, 1) := by decide +kernel
theorem d_MA_tell_12 : decode prog_8_method_13_code 12 = .ok (.iload_n 2, 1) := by decide +kernel
theorem d_MA_tell_13 : decode prog_8_method_13_code 13 = .ok (.tableswitch 59 0 3 #[31, 38, 45, 52], 31) := by decide +kernel
theorem d_MA_tell_44 : decode prog_8_method_13_code 44 = .ok (.aload_n 0, 1) := by decide +kernel
theorem d_MA_tell_45 : decode prog_8_method_13_code 45 = .ok (.getfield 11, 3) := by decide +kernel
theorem d_MA_tell_48 : decode prog_8_method_13_code 48 = .ok (.iload_n 1, 1) := by decide +kernel
theorem d_MA_tell_49 : decode prog_8_method_13_code 49 = .ok (.iaload, 1) := by decide +kernel
theorem d_MA_tell_50 : decode prog_8_method_13_code 50 = .ok (.ireturn, 1) := by decide +kernel
theorem d_MA_tell_51 : decode prog_8_method_13_code 51 = .ok (.aload_n 0, 1) := by decide +kernel
theorem d_MA_tell_52 : decode prog_8_method_13_code 52 = .ok (.getfield 15, 3) := by decide +kernel
theorem d_MA_tell_55 : decode prog_8_method_13_code 55 = .ok (.iload_n 1, 1) := by decide +kernel
theorem d_MA_tell_56 : decode prog_8_method_13_code 56 = .ok (.iaload, 1) := by decide +kernel
theorem d_MA_tell_57 : decode prog_8_method_13_code 57 = .ok (.ireturn, 1) := by decide +kernel
theorem d_MA_tell_58 : decode prog_8_method_13_code 58 = .ok (.aload_n 0, 1) := by decide +kernel
theorem d_MA_tell_59 : decode prog_8_method_13_code 59 = .ok (.getfield 18, 3) := by decide +kernel
theorem d_MA_tell_62 : decode prog_8_method_13_code 62 = .ok (.iload_n 1, 1) := by decide +kernel
theorem d_MA_tell_63 : decode prog_8_method_13_code 63 = .ok (.iaload, 1) := by decide +kernel
theorem d_MA_tell_64 : decode prog_8_method_13_code 64 = .ok (.ireturn, 1) := by decide +kernel
theorem d_MA_tell_65 : decode prog_8_method_13_code 65 = .ok (.aload_n 0, 1) := by decide +kernel
theorem d_MA_tell_66 : decode prog_8_method_13_code 66 = .ok (.getfield 21, 3) := by decide +kernel
theorem d_MA_tell_69 : decode prog_8_method_13_code 69 = .ok (.iload_n 1, 1) := by decide +kernel
theorem d_MA_tell_70 : decode prog_8_method_13_code 70 = .ok (.iaload, 1) := by decide +kernel
theorem d_MA_tell_71 : decode prog_8_method_13_code 71 = .ok (.ireturn, 1) := by decide +kernel
theorem d_MA_tell_72 : decode prog_8_method_13_code 72 = .ok (.aload_n 0, 1) := by decide +kernel
theorem d_MA_tell_73 : decode prog_8_method_13_code 73 = .ok (.getfield 45, 3) := by decide +kernel
theorem d_MA_tell_76 : decode prog_8_method_13_code 76 = .ok (.iload_n 1, 1) := by decide +kernel
theorem d_MA_tell_77 : decode prog_8_method_13_code 77 = .ok (.iload_n 2, 1) := by decide +kernel
theorem d_MA_tell_78 : decode prog_8_method_13_code 78 = .ok (.iconst 4, 1) := by decide +kernel
theorem d_MA_tell_79 : decode prog_8_method_13_code 79 = .ok (.isub, 1) := by decide +kernel
theorem d_MA_tell_80 : decode prog_8_method_13_code 80 = .ok (.invokevirtual 119, 3) := by decide +kernel
theorem d_MA_tell_83 : decode prog_8_method_13_code 83 = .ok (.ireturn, 1) := by decide +kernel
theorem hm_MA_parametersOf : y_MA_parametersOf.cls ≠ "java/lang/invoke/MethodHandle" ∧ y_MA_parametersOf.cls ≠ "java/lang/invoke/VarHandle" ∧ (parseMethodDescriptor y_MA_parametersOf.desc).map (fun d => d.parameters.length) = some 1 := by decide +kernel
theorem hm_MA_findParameter : y_MA_findParameter.cls ≠ "java/lang/invoke/MethodHandle" ∧ y_MA_findParameter.cls ≠ "java/lang/invoke/VarHandle" ∧ (parseMethodDescriptor y_MA_findParameter.desc).map (fun d => d.parameters.length) = some 3 := by decide +kernel
theorem hm_MA_defaultStart : y_MA_defaultStart.cls ≠ "java/lang/invoke/MethodHandle" ∧ y_MA_defaultStart.cls ≠ "java/lang/invoke/VarHandle" ∧ (parseMethodDescriptor y_MA_defaultStart.desc).map (fun d => d.parameters.length) = some 2 := by decide +kernel
theorem hm_MA_defaultStop : y_MA_defaultStop.cls ≠ "java/lang/invoke/MethodHandle" ∧ y_MA_defaultStop.cls ≠ "java/lang/invoke/VarHandle" ∧ (parseMethodDescriptor y_MA_defaultStop.desc).map (fun d => d.parameters.length) = some 2 := by decide +kernel
theorem hm_MA_firstLineOf : y_MA_firstLineOf.cls ≠ "java/lang/invoke/MethodHandle" ∧ y_MA_firstLineOf.cls ≠ "java/lang/invoke/VarHandle" ∧ (parseMethodDescriptor y_MA_firstLineOf.desc).map (fun d => d.parameters.length) = some 1 := by decide +kernel
theorem hm_MA_linesOf : y_MA_linesOf.cls ≠ "java/lang/invoke/MethodHandle" ∧ y_MA_linesOf.cls ≠ "java/lang/invoke/VarHandle" ∧ (parseMethodDescriptor y_MA_linesOf.desc).map (fun d => d.parameters.length) = some 1 := by decide +kernel
theorem hm_MA_countCall : y_MA_countCall.cls ≠ "java/lang/invoke/MethodHandle" ∧ y_MA_countCall.cls ≠ "java/lang/invoke/VarHandle" ∧ (parseMethodDescriptor y_MA_countCall.desc).map (fun d => d.parameters.length) = some 1 := by decide +kernel
theorem hm_MA_readParameter : y_MA_readParameter.cls ≠ "java/lang/invoke/MethodHandle" ∧ y_MA_readParameter.cls ≠ "java/lang/invoke/VarHandle" ∧ (parseMethodDescriptor y_MA_readParameter.desc).map (fun d => d.parameters.length) = some 3 := by decide +kernel
theorem hm_MA_readHead : y_MA_readHead.cls ≠ "java/lang/invoke/MethodHandle" ∧ y_MA_readHead.cls ≠ "java/lang/invoke/VarHandle" ∧ (parseMethodDescriptor y_MA_readHead.desc).map (fun d => d.parameters.length) = some 1 := by decide +kernel
theorem hm_MA_isHeadTold : y_MA_isHeadTold.cls ≠ "java/lang/invoke/MethodHandle" ∧ y_MA_isHeadTold.cls ≠ "java/lang/invoke/VarHandle" ∧ (parseMethodDescriptor y_MA_isHeadTold.desc).map (fun d => d.parameters.length) = some 0 := by decide +kernel
theorem hm_MA_add : y_MA_add.cls ≠ "java/lang/invoke/MethodHandle" ∧ y_MA_add.cls ≠ "java/lang/invoke/VarHandle" ∧ (parseMethodDescriptor y_MA_add.desc).map (fun d => d.parameters.length) = some 2 := by decide +kernel
theorem hm_MA_tell : y_MA_tell.cls ≠ "java/lang/invoke/MethodHandle" ∧ y_MA_tell.cls ≠ "java/lang/invoke/VarHandle" ∧ (parseMethodDescriptor y_MA_tell.desc).map (fun d => d.parameters.length) = some 2 := by decide +kernel
