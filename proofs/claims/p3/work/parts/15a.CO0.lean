theorem d_CO_isAny_0 : decode prog_3_method_2_code 0 = .ok (.aload_n 0, 1) := by decide +kernel
theorem d_CO_isAny_1 : decode prog_3_method_2_code 1 = .ok (.getfield 28, 3) := by decide +kernel
theorem d_CO_isAny_4 : decode prog_3_method_2_code 4 = .ok (.ifCond .le 16, 3) := by decide +kernel
theorem d_CO_isAny_7 : decode prog_3_method_2_code 7 = .ok (.aload_n 0, 1) := by decide +kernel
theorem d_CO_isAny_8 : decode prog_3_method_2_code 8 = .ok (.getfield 28, 3) := by decide +kernel
theorem d_CO_isAny_11 : decode prog_3_method_2_code 11 = .ok (.bipush 8, 2) := by decide +kernel
theorem d_CO_isAny_13 : decode prog_3_method_2_code 13 = .ok (.if_icmp .gt 7, 3) := by decide +kernel
theorem d_CO_isAny_16 : decode prog_3_method_2_code 16 = .ok (.iconst 1, 1) := by decide +kernel
theorem d_CO_isAny_17 : decode prog_3_method_2_code 17 = .ok (.goto 4, 3) := by decide +kernel
theorem d_CO_isAny_20 : decode prog_3_method_2_code 20 = .ok (.iconst 0, 1) := by decide +kernel
theorem d_CO_isAny_21 : decode prog_3_method_2_code 21 = .ok (.ireturn, 1) := by decide +kernel
theorem d_CO_lineOfInnermost_0 : decode prog_3_method_5_code 0 = .ok (.aload_n 0, 1) := by decide +kernel
theorem d_CO_lineOfInnermost_1 : decode prog_3_method_5_code 1 = .ok (.invokevirtual 32, 3) := by decide +kernel
theorem d_CO_lineOfInnermost_4 : decode prog_3_method_5_code 4 = .ok (.ifCond .eq 17, 3) := by decide +kernel
theorem d_CO_lineOfInnermost_7 : decode prog_3_method_5_code 7 = .ok (.aload_n 0, 1) := by decide +kernel
theorem d_CO_lineOfInnermost_8 : decode prog_3_method_5_code 8 = .ok (.getfield 24, 3) := by decide +kernel
theorem d_CO_lineOfInnermost_11 : decode prog_3_method_5_code 11 = .ok (.aload_n 0, 1) := by decide +kernel
theorem d_CO_lineOfInnermost_12 : decode prog_3_method_5_code 12 = .ok (.getfield 28, 3) := by decide +kernel
theorem d_CO_lineOfInnermost_15 : decode prog_3_method_5_code 15 = .ok (.iconst 1, 1) := by decide +kernel
theorem d_CO_lineOfInnermost_16 : decode prog_3_method_5_code 16 = .ok (.isub, 1) := by decide +kernel
theorem d_CO_lineOfInnermost_17 : decode prog_3_method_5_code 17 = .ok (.iaload, 1) := by decide +kernel
theorem d_CO_lineOfInnermost_18 : decode prog_3_method_5_code 18 = .ok (.goto 4, 3) := by decide +kernel
theorem d_CO_lineOfInnermost_21 : decode prog_3_method_5_code 21 = .ok (.iconst (-1), 1) := by decide +kernel
theorem d_CO_lineOfInnermost_22 : decode prog_3_method_5_code 22 = .ok (.ireturn, 1) := by decide +kernel
theorem d_CO_live_0 : decode prog_3_method_3_code 0 = .ok (.aload_n 0, 1) := by decide +kernel
theorem d_CO_live_1 : decode prog_3_method_3_code 1 = .ok (.invokevirtual 32, 3) := by decide +kernel
theorem d_CO_live_4 : decode prog_3_method_3_code 4 = .ok (.ifCond .eq 17, 3) := by decide +kernel
theorem d_CO_live_7 : decode prog_3_method_3_code 7 = .ok (.aload_n 0, 1) := by decide +kernel
theorem d_CO_live_8 : decode prog_3_method_3_code 8 = .ok (.getfield 15, 3) := by decide +kernel
theorem d_CO_live_11 : decode prog_3_method_3_code 11 = .ok (.aload_n 0, 1) := by decide +kernel
theorem d_CO_live_12 : decode prog_3_method_3_code 12 = .ok (.getfield 28, 3) := by decide +kernel
theorem d_CO_live_15 : decode prog_3_method_3_code 15 = .ok (.iconst 1, 1) := by decide +kernel
theorem d_CO_live_16 : decode prog_3_method_3_code 16 = .ok (.isub, 1) := by decide +kernel
theorem d_CO_live_17 : decode prog_3_method_3_code 17 = .ok (.baload, 1) := by decide +kernel
theorem d_CO_live_18 : decode prog_3_method_3_code 18 = .ok (.ifCond .eq 7, 3) := by decide +kernel
theorem d_CO_live_21 : decode prog_3_method_3_code 21 = .ok (.iconst 1, 1) := by decide +kernel
theorem d_CO_live_22 : decode prog_3_method_3_code 22 = .ok (.goto 4, 3) := by decide +kernel
theorem d_CO_live_25 : decode prog_3_method_3_code 25 = .ok (.iconst 0, 1) := by decide +kernel
theorem d_CO_live_26 : decode prog_3_method_3_code 26 = .ok (.ireturn, 1) := by decide +kernel
theorem d_CO_waits_0 : decode prog_3_method_7_code 0 = .ok (.aload_n 0, 1) := by decide +kernel
theorem d_CO_waits_1 : decode prog_3_method_7_code 1 = .ok (.invokevirtual 32, 3) := by decide +kernel
theorem d_CO_waits_4 : decode prog_3_method_7_code 4 = .ok (.ifCond .eq 35, 3) := by decide +kernel
theorem d_CO_waits_7 : decode prog_3_method_7_code 7 = .ok (.aload_n 0, 1) := by decide +kernel
theorem d_CO_waits_8 : decode prog_3_method_7_code 8 = .ok (.getfield 9, 3) := by decide +kernel
theorem d_CO_waits_11 : decode prog_3_method_7_code 11 = .ok (.aload_n 0, 1) := by decide +kernel
theorem d_CO_waits_12 : decode prog_3_method_7_code 12 = .ok (.getfield 28, 3) := by decide +kernel
theorem d_CO_waits_15 : decode prog_3_method_7_code 15 = .ok (.iconst 1, 1) := by decide +kernel
theorem d_CO_waits_16 : decode prog_3_method_7_code 16 = .ok (.isub, 1) := by decide +kernel
theorem d_CO_waits_17 : decode prog_3_method_7_code 17 = .ok (.baload, 1) := by decide +kernel
theorem d_CO_waits_18 : decode prog_3_method_7_code 18 = .ok (.ifCond .eq 21, 3) := by decide +kernel
theorem d_CO_waits_21 : decode prog_3_method_7_code 21 = .ok (.aload_n 0, 1) := by decide +kernel
theorem d_CO_waits_22 : decode prog_3_method_7_code 22 = .ok (.getfield 18, 3) := by decide +kernel
theorem d_CO_waits_25 : decode prog_3_method_7_code 25 = .ok (.aload_n 0, 1) := by decide +kernel
theorem d_CO_waits_26 : decode prog_3_method_7_code 26 = .ok (.getfield 28, 3) := by decide +kernel
theorem d_CO_waits_29 : decode prog_3_method_7_code 29 = .ok (.iconst 1, 1) := by decide +kernel
theorem d_CO_waits_30 : decode prog_3_method_7_code 30 = .ok (.isub, 1) := by decide +kernel
theorem d_CO_waits_31 : decode prog_3_method_7_code 31 = .ok (.baload, 1) := by decide +kernel
theorem d_CO_waits_32 : decode prog_3_method_7_code 32 = .ok (.ifCond .ne 7, 3) := by decide +kernel
theorem d_CO_waits_35 : decode prog_3_method_7_code 35 = .ok (.iconst 1, 1) := by decide +kernel
theorem d_CO_waits_36 : decode prog_3_method_7_code 36 = .ok (.goto 4, 3) := by decide +kernel
theorem d_CO_waits_39 : decode prog_3_method_7_code 39 = .ok (.iconst 0, 1) := by decide +kernel
theorem d_CO_waits_40 : decode prog_3_method_7_code 40 = .ok (.ireturn, 1) := by decide +kernel
theorem d_CO_open_0 : decode prog_3_method_4_code 0 = .ok (.aload_n 0, 1) := by decide +kernel
theorem d_CO_open_1 : decode prog_3_method_4_code 1 = .ok (.getfield 28, 3) := by decide +kernel
theorem d_CO_open_4 : decode prog_3_method_4_code 4 = .ok (.ifCond .lt 12, 3) := by decide +kernel
theorem d_CO_open_7 : decode prog_3_method_4_code 7 = .ok (.aload_n 0, 1) := by decide +kernel
theorem d_CO_open_8 : decode prog_3_method_4_code 8 = .ok (.getfield 28, 3) := by decide +kernel
theorem d_CO_open_11 : decode prog_3_method_4_code 11 = .ok (.bipush 8, 2) := by decide +kernel
theorem d_CO_open_13 : decode prog_3_method_4_code 13 = .ok (.if_icmp .lt 5, 3) := by decide +kernel
theorem d_CO_open_16 : decode prog_3_method_4_code 16 = .ok (.iconst 0, 1) := by decide +kernel
theorem d_CO_open_17 : decode prog_3_method_4_code 17 = .ok (.ireturn, 1) := by decide +kernel
theorem d_CO_open_18 : decode prog_3_method_4_code 18 = .ok (.aload_n 0, 1) := by decide +kernel
theorem d_CO_open_19 : decode prog_3_method_4_code 19 = .ok (.getfield 9, 3) := by decide +kernel
theorem d_CO_open_22 : decode prog_3_method_4_code 22 = .ok (.aload_n 0, 1) := by decide +kernel
theorem d_CO_open_23 : decode prog_3_method_4_code 23 = .ok (.getfield 28, 3) := by decide +kernel
theorem d_CO_open_26 : decode prog_3_method_4_code 26 = .ok (.iload_n 1, 1) := by decide +kernel
theorem d_CO_open_27 : decode prog_3_method_4_code 27 = .ok (.bastore, 1) := by decide +kernel
theorem d_CO_open_28 : decode prog_3_method_4_code 28 = .ok (.aload_n 0, 1) := by decide +kernel
theorem d_CO_open_29 : decode prog_3_method_4_code 29 = .ok (.getfield 15, 3) := by decide +kernel
theorem d_CO_open_32 : decode prog_3_method_4_code 32 = .ok (.aload_n 0, 1) := by decide +kernel
theorem d_CO_open_33 : decode prog_3_method_4_code 33 = .ok (.getfield 28, 3) := by decide +kernel
theorem d_CO_open_36 : decode prog_3_method_4_code 36 = .ok (.iload_n 1, 1) := by decide +kernel
theorem d_CO_open_37 : decode prog_3_method_4_code 37 = .ok (.ifCond .eq 11, 3) := by decide +kernel
theorem d_CO_open_40 : decode prog_3_method_4_code 40 = .ok (.iload_n 2, 1) := by decide +kernel
theorem d_CO_open_41 : decode prog_3_method_4_code 41 = .ok (.ifCond .eq 7, 3) := by decide +kernel
theorem d_CO_open_44 : decode prog_3_method_4_code 44 = .ok (.iconst 1, 1) := by decide +kernel
theorem d_CO_open_45 : decode prog_3_method_4_code 45 = .ok (.goto 4, 3) := by decide +kernel
theorem d_CO_open_48 : decode prog_3_method_4_code 48 = .ok (.iconst 0, 1) := by decide +kernel
theorem d_CO_open_49 : decode prog_3_method_4_code 49 = .ok (.bastore, 1) := by decide +kernel
theorem d_CO_open_50 : decode prog_3_method_4_code 50 = .ok (.aload_n 0, 1) := by decide +kernel
theorem d_CO_open_51 : decode prog_3_method_4_code 51 = .ok (.getfield 18, 3) := by decide +kernel
theorem d_CO_open_54 : decode prog_3_method_4_code 54 = .ok (.aload_n 0, 1) := by decide +kernel
theorem d_CO_open_55 : decode prog_3_method_4_code 55 = .ok (.getfield 28, 3) := by decide +kernel
theorem d_CO_open_58 : decode prog_3_method_4_code 58 = .ok (.iload_n 1, 1) := by decide +kernel
theorem d_CO_open_59 : decode prog_3_method_4_code 59 = .ok (.ifCond .eq 11, 3) := by decide +kernel
theorem d_CO_open_62 : decode prog_3_method_4_code 62 = .ok (.iload_n 2, 1) := by decide +kernel
theorem d_CO_open_63 : decode prog_3_method_4_code 63 = .ok (.ifCond .eq 7, 3) := by decide +kernel
theorem d_CO_open_66 : decode prog_3_method_4_code 66 = .ok (.iconst 1, 1) := by decide +kernel
theorem d_CO_open_67 : decode prog_3_method_4_code 67 = .ok (.goto 4, 3) := by decide +kernel
theorem d_CO_open_70 : decode prog_3_method_4_code 70 = .ok (.iconst 0, 1) := by decide +kernel
theorem d_CO_open_71 : decode prog_3_method_4_code 71 = .ok (.bastore, 1) := by decide +kernel
theorem d_CO_open_72 : decode prog_3_method_4_code 72 = .ok (.aload_n 0, 1) := by decide +kernel
theorem d_CO_open_73 : decode prog_3_method_4_code 73 = .ok (.getfield 21, 3) := by decide +kernel
theorem d_CO_open_76 : decode prog_3_method_4_code 76 = .ok (.aload_n 0, 1) := by decide +kernel
theorem d_CO_open_77 : decode prog_3_method_4_code 77 = .ok (.getfield 28, 3) := by decide +kernel
theorem d_CO_open_80 : decode prog_3_method_4_code 80 = .ok (.iconst 0, 1) := by decide +kernel
theorem d_CO_open_81 : decode prog_3_method_4_code 81 = .ok (.bastore, 1) := by decide +kernel
theorem d_CO_open_82 : decode prog_3_method_4_code 82 = .ok (.aload_n 0, 1) := by decide +kernel
theorem d_CO_open_83 : decode prog_3_method_4_code 83 = .ok (.getfield 24, 3) := by decide +kernel
theorem d_CO_open_86 : decode prog_3_method_4_code 86 = .ok (.aload_n 0, 1) := by decide +kernel
theorem d_CO_open_87 : decode prog_3_method_4_code 87 = .ok (.getfield 28, 3) := by decide +kernel
theorem d_CO_open_90 : decode prog_3_method_4_code 90 = .ok (.iload_n 3, 1) := by decide +kernel
theorem d_CO_open_91 : decode prog_3_method_4_code 91 = .ok (.iastore, 1) := by decide +kernel
theorem d_CO_open_92 : decode prog_3_method_4_code 92 = .ok (.aload_n 0, 1) := by decide +kernel
theorem d_CO_open_93 : decode prog_3_method_4_code 93 = .ok (.dup, 1) := by decide +kernel
theorem d_CO_open_94 : decode prog_3_method_4_code 94 = .ok (.getfield 28, 3) := by decide +kernel
theorem d_CO_open_97 : decode prog_3_method_4_code 97 = .ok (.iconst 1, 1) := by decide +kernel
theorem d_CO_open_98 : decode prog_3_method_4_code 98 = .ok (.iadd, 1) := by decide +kernel
theorem d_CO_open_99 : decode prog_3_method_4_code 99 = .ok (.putfield 28, 3) := by decide +kernel
theorem d_CO_open_102 : decode prog_3_method_4_code 102 = .ok (.iconst 1, 1) := by decide +kernel
theorem d_CO_open_103 : decode prog_3_method_4_code 103 = .ok (.ireturn, 1) := by decide +kernel
theorem d_CO_isBehindElse_0 : decode prog_3_method_6_code 0 = .ok (.aload_n 0, 1) := by decide +kernel
theorem d_CO_isBehindElse_1 : decode prog_3_method_6_code 1 = .ok (.invokevirtual 32, 3) := by decide +kernel
theorem d_CO_isBehindElse_4 : decode prog_3_method_6_code 4 = .ok (.ifCond .eq 21, 3) := by decide +kernel
theorem d_CO_isBehindElse_7 : decode prog_3_method_6_code 7 = .ok (.aload_n 0, 1) := by decide +kernel
theorem d_CO_isBehindElse_8 : decode prog_3_method_6_code 8 = .ok (.getfield 21, 3) := by decide +kernel
theorem d_CO_isBehindElse_11 : decode prog_3_method_6_code 11 = .ok (.aload_n 0, 1) := by decide +kernel
theorem d_CO_isBehindElse_12 : decode prog_3_method_6_code 12 = .ok (.getfield 28, 3) := by decide +kernel
theorem d_CO_isBehindElse_15 : decode prog_3_method_6_code 15 = .ok (.iconst 1, 1) := by decide +kernel
theorem d_CO_isBehindElse_16 : decode prog_3_method_6_code 16 = .ok (.isub, 1) := by decide +kernel
theorem d_CO_isBehindElse_17 : decode prog_3_method_6_code 17 = .ok (.baload, 1) := by decide +kernel
theorem d_CO_isBehindElse_18 : decode prog_3_method_6_code 18 = .ok (.ifCond .eq 7, 3) := by decide +kernel
theorem d_CO_isBehindElse_21 : decode prog_3_method_6_code 21 = .ok (.iconst 1, 1) := by decide +kernel
theorem d_CO_isBehindElse_22 : decode prog_3_method_6_code 22 = .ok (.goto 4, 3) := by decide +kernel
theorem d_CO_isBehindElse_25 : decode prog_3_method_6_code 25 = .ok (.iconst 0, 1) := by decide +kernel
theorem d_CO_isBehindElse_26 : decode prog_3_method_6_code 26 = .ok (.ireturn, 1) := by decide +kernel
theorem d_CO_nextPart_0 : decode prog_3_method_8_code 0 = .ok (.aload_n 0, 1) := by decide +kernel
theorem d_CO_nextPart_1 : decode prog_3_method_8_code 1 = .ok (.invokevirtual 32, 3) := by decide +kernel
theorem d_CO_nextPart_4 : decode prog_3_method_8_code 4 = .ok (.ifCond .eq 74, 3) := by decide +kernel
theorem d_CO_nextPart_7 : decode prog_3_method_8_code 7 = .ok (.aload_n 0, 1) := by decide +kernel
theorem d_CO_nextPart_8 : decode prog_3_method_8_code 8 = .ok (.getfield 15, 3) := by decide +kernel
theorem d_CO_nextPart_11 : decode prog_3_method_8_code 11 = .ok (.aload_n 0, 1) := by decide +kernel
theorem d_CO_nextPart_12 : decode prog_3_method_8_code 12 = .ok (.getfield 28, 3) := by decide +kernel
theorem d_CO_nextPart_15 : decode prog_3_method_8_code 15 = .ok (.iconst 1, 1) := by decide +kernel
theorem d_CO_nextPart_16 : decode prog_3_method_8_code 16 = .ok (.isub, 1) := by decide +kernel
theorem d_CO_nextPart_17 : decode prog_3_method_8_code 17 = .ok (.iload_n 1, 1) := by decide +kernel
theorem d_CO_nextPart_18 : decode prog_3_method_8_code 18 = .ok (.ifCond .eq 14, 3) := by decide +kernel
theorem d_CO_nextPart_21 : decode prog_3_method_8_code 21 = .ok (.aload_n 0, 1) := by decide +kernel
theorem d_CO_nextPart_22 : decode prog_3_method_8_code 22 = .ok (.invokevirtual 36, 3) := by decide +kernel
theorem d_CO_nextPart_25 : decode prog_3_method_8_code 25 = .ok (.ifCond .eq 7, 3) := by decide +kernel
theorem d_CO_nextPart_28 : decode prog_3_method_8_code 28 = .ok (.iconst 1, 1) := by decide +kernel
theorem d_CO_nextPart_29 : decode prog_3_method_8_code 29 = .ok (.goto 4, 3) := by decide +kernel
theorem d_CO_nextPart_32 : decode prog_3_method_8_code 32 = .ok (.iconst 0, 1) := by decide +kernel
theorem d_CO_nextPart_33 : decode prog_3_method_8_code 33 = .ok (.bastore, 1) := by decide +kernel
theorem d_CO_nextPart_34 : decode prog_3_method_8_code 34 = .ok (.aload_n 0, 1) := by decide +kernel
theorem d_CO_nextPart_35 : decode prog_3_method_8_code 35 = .ok (.getfield 18, 3) := by decide +kernel
theorem d_CO_nextPart_38 : decode prog_3_method_8_code 38 = .ok (.aload_n 0, 1) := by decide +kernel
theorem d_CO_nextPart_39 : decode prog_3_method_8_code 39 = .ok (.getfield 28, 3) := by decide +kernel
theorem d_CO_nextPart_42 : decode prog_3_method_8_code 42 = .ok (.iconst 1, 1) := by decide +kernel
theorem d_CO_nextPart_43 : decode prog_3_method_8_code 43 = .ok (.isub, 1) := by decide +kernel
theorem d_CO_nextPart_44 : decode prog_3_method_8_code 44 = .ok (.aload_n 0, 1) := by decide +kernel
theorem d_CO_nextPart_45 : decode prog_3_method_8_code 45 = .ok (.getfield 18, 3) := by decide +kernel
theorem d_CO_nextPart_48 : decode prog_3_method_8_code 48 = .ok (.aload_n 0, 1) := by decide +kernel
theorem d_CO_nextPart_49 : decode prog_3_method_8_code 49 = .ok (.getfield 28, 3) := by decide +kernel
theorem d_CO_nextPart_52 : decode prog_3_method_8_code 52 = .ok (.iconst 1, 1) := by decide +kernel
theorem d_CO_nextPart_53 : decode prog_3_method_8_code 53 = .ok (.isub, 1) := by decide +kernel
theorem d_CO_nextPart_54 : decode prog_3_method_8_code 54 = .ok (.baload, 1) := by decide +kernel
theorem d_CO_nextPart_55 : decode prog_3_method_8_code 55 = .ok (.ifCond .ne 17, 3) := by decide +kernel
theorem d_CO_nextPart_58 : decode prog_3_method_8_code 58 = .ok (.aload_n 0, 1) := by decide +kernel
theorem d_CO_nextPart_59 : decode prog_3_method_8_code 59 = .ok (.getfield 15, 3) := by decide +kernel
theorem d_CO_nextPart_62 : decode prog_3_method_8_code 62 = .ok (.aload_n 0, 1) := by decide +kernel
theorem d_CO_nextPart_63 : decode prog_3_method_8_code 63 = .ok (.getfield 28, 3) := by decide +kernel
theorem d_CO_nextPart_66 : decode prog_3_method_8_code 66 = .ok (.iconst 1, 1) := by decide +kernel
theorem d_CO_nextPart_67 : decode prog_3_method_8_code 67 = .ok (.isub, 1) := by decide +kernel
theorem d_CO_nextPart_68 : decode prog_3_method_8_code 68 = .ok (.baload, 1) := by decide +kernel
theorem d_CO_nextPart_69 : decode prog_3_method_8_code 69 = .ok (.ifCond .eq 7, 3) := by decide +kernel
theorem d_CO_nextPart_72 : decode prog_3_method_8_code 72 = .ok (.iconst 1, 1) := by decide +kernel
theorem d_CO_nextPart_73 : decode prog_3_method_8_code 73 = .ok (.goto 4, 3) := by decide +kernel
theorem d_CO_nextPart_76 : decode prog_3_method_8_code 76 = .ok (.iconst 0, 1) := by decide +kernel
theorem d_CO_nextPart_77 : decode prog_3_method_8_code 77 = .ok (.bastore, 1) := by decide +kernel
theorem d_CO_nextPart_78 : decode prog_3_method_8_code 78 = .ok (.return_, 1) := by decide +kernel
theorem d_CO_lastPart_0 : decode prog_3_method_9_code 0 = .ok (.aload_n 0, 1) := by decide +kernel
theorem d_CO_lastPart_1 : decode prog_3_method_9_code 1 = .ok (.iconst 1, 1) := by decide +kernel
theorem d_CO_lastPart_2 : decode prog_3_method_9_code 2 = .ok (.invokevirtual 39, 3) := by decide +kernel
theorem d_CO_lastPart_5 : decode prog_3_method_9_code 5 = .ok (.aload_n 0, 1) := by decide +kernel
theorem d_CO_lastPart_6 : decode prog_3_method_9_code 6 = .ok (.invokevirtual 32, 3) := by decide +kernel
theorem d_CO_lastPart_9 : decode prog_3_method_9_code 9 = .ok (.ifCond .eq 15, 3) := by decide +kernel
theorem d_CO_lastPart_12 : decode prog_3_method_9_code 12 = .ok (.aload_n 0, 1) := by decide +kernel
theorem d_CO_lastPart_13 : decode prog_3_method_9_code 13 = .ok (.getfield 21, 3) := by decide +kernel
theorem d_CO_lastPart_16 : decode prog_3_method_9_code 16 = .ok (.aload_n 0, 1) := by decide +kernel
theorem d_CO_lastPart_17 : decode prog_3_method_9_code 17 = .ok (.getfield 28, 3) := by decide +kernel
theorem d_CO_lastPart_20 : decode prog_3_method_9_code 20 = .ok (.iconst 1, 1) := by decide +kernel
theorem d_CO_lastPart_21 : decode prog_3_method_9_code 21 = .ok (.isub, 1) := by decide +kernel
theorem d_CO_lastPart_22 : decode prog_3_method_9_code 22 = .ok (.iconst 1, 1) := by decide +kernel
theorem d_CO_lastPart_23 : decode prog_3_method_9_code 23 = .ok (.bastore, 1) := by decide +kernel
theorem d_CO_lastPart_24 : decode prog_3_method_9_code 24 = .ok (.return_, 1) := by decide +kernel
theorem hm_CO_isAny : y_CO_isAny.cls ≠ "java/lang/invoke/MethodHandle" ∧ y_CO_isAny.cls ≠ "java/lang/invoke/VarHandle" ∧ (parseMethodDescriptor y_CO_isAny.desc).map (fun d => d.parameters.length) = some 0 := by decide +kernel
theorem hm_CO_lineOfInnermost : y_CO_lineOfInnermost.cls ≠ "java/lang/invoke/MethodHandle" ∧ y_CO_lineOfInnermost.cls ≠ "java/lang/invoke/VarHandle" ∧ (parseMethodDescriptor y_CO_lineOfInnermost.desc).map (fun d => d.parameters.length) = some 0 := by decide +kernel
theorem hm_CO_live : y_CO_live.cls ≠ "java/lang/invoke/MethodHandle" ∧ y_CO_live.cls ≠ "java/lang/invoke/VarHandle" ∧ (parseMethodDescriptor y_CO_live.desc).map (fun d => d.parameters.length) = some 0 := by decide +kernel
theorem hm_CO_waits : y_CO_waits.cls ≠ "java/lang/invoke/MethodHandle" ∧ y_CO_waits.cls ≠ "java/lang/invoke/VarHandle" ∧ (parseMethodDescriptor y_CO_waits.desc).map (fun d => d.parameters.length) = some 0 := by decide +kernel
theorem hm_CO_open : y_CO_open.cls ≠ "java/lang/invoke/MethodHandle" ∧ y_CO_open.cls ≠ "java/lang/invoke/VarHandle" ∧ (parseMethodDescriptor y_CO_open.desc).map (fun d => d.parameters.length) = some 3 := by decide +kernel
theorem hm_CO_isBehindElse : y_CO_isBehindElse.cls ≠ "java/lang/invoke/MethodHandle" ∧ y_CO_isBehindElse.cls ≠ "java/lang/invoke/VarHandle" ∧ (parseMethodDescriptor y_CO_isBehindElse.desc).map (fun d => d.parameters.length) = some 0 := by decide +kernel
theorem hm_CO_nextPart : y_CO_nextPart.cls ≠ "java/lang/invoke/MethodHandle" ∧ y_CO_nextPart.cls ≠ "java/lang/invoke/VarHandle" ∧ (parseMethodDescriptor y_CO_nextPart.desc).map (fun d => d.parameters.length) = some 1 := by decide +kernel
theorem hm_CO_lastPart : y_CO_lastPart.cls ≠ "java/lang/invoke/MethodHandle" ∧ y_CO_lastPart.cls ≠ "java/lang/invoke/VarHandle" ∧ (parseMethodDescriptor y_CO_lastPart.desc).map (fun d => d.parameters.length) = some 0 := by decide +kernel
