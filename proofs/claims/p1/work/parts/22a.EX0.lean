theorem d_EX_startAnew_0 : decode prog_6_method_3_code 0 = .ok (.aload_n 0, 1) := by decide +kernel
theorem d_EX_startAnew_1 : decode prog_6_method_3_code 1 = .ok (.getfield 38, 3) := by decide +kernel
theorem d_EX_startAnew_4 : decode prog_6_method_3_code 4 = .ok (.invokevirtual 115, 3) := by decide +kernel
theorem d_EX_startAnew_7 : decode prog_6_method_3_code 7 = .ok (.aload_n 0, 1) := by decide +kernel
theorem d_EX_startAnew_8 : decode prog_6_method_3_code 8 = .ok (.getfield 72, 3) := by decide +kernel
theorem d_EX_startAnew_11 : decode prog_6_method_3_code 11 = .ok (.invokevirtual 120, 3) := by decide +kernel
theorem d_EX_startAnew_14 : decode prog_6_method_3_code 14 = .ok (.aload_n 0, 1) := by decide +kernel
theorem d_EX_startAnew_15 : decode prog_6_method_3_code 15 = .ok (.getfield 21, 3) := by decide +kernel
theorem d_EX_startAnew_18 : decode prog_6_method_3_code 18 = .ok (.invokevirtual 121, 3) := by decide +kernel
theorem d_EX_startAnew_21 : decode prog_6_method_3_code 21 = .ok (.aload_n 0, 1) := by decide +kernel
theorem d_EX_startAnew_22 : decode prog_6_method_3_code 22 = .ok (.getfield 47, 3) := by decide +kernel
theorem d_EX_startAnew_25 : decode prog_6_method_3_code 25 = .ok (.getfield 124, 3) := by decide +kernel
theorem d_EX_startAnew_28 : decode prog_6_method_3_code 28 = .ok (.iconst 0, 1) := by decide +kernel
theorem d_EX_startAnew_29 : decode prog_6_method_3_code 29 = .ok (.putfield 128, 3) := by decide +kernel
theorem d_EX_startAnew_32 : decode prog_6_method_3_code 32 = .ok (.aload_n 0, 1) := by decide +kernel
theorem d_EX_startAnew_33 : decode prog_6_method_3_code 33 = .ok (.getfield 63, 3) := by decide +kernel
theorem d_EX_startAnew_36 : decode prog_6_method_3_code 36 = .ok (.getfield 133, 3) := by decide +kernel
theorem d_EX_startAnew_39 : decode prog_6_method_3_code 39 = .ok (.iconst 0, 1) := by decide +kernel
theorem d_EX_startAnew_40 : decode prog_6_method_3_code 40 = .ok (.putfield 128, 3) := by decide +kernel
theorem d_EX_startAnew_43 : decode prog_6_method_3_code 43 = .ok (.aload_n 0, 1) := by decide +kernel
theorem d_EX_startAnew_44 : decode prog_6_method_3_code 44 = .ok (.getfield 12, 3) := by decide +kernel
theorem d_EX_startAnew_47 : decode prog_6_method_3_code 47 = .ok (.iconst 0, 1) := by decide +kernel
theorem d_EX_startAnew_48 : decode prog_6_method_3_code 48 = .ok (.putfield 134, 3) := by decide +kernel
theorem d_EX_startAnew_51 : decode prog_6_method_3_code 51 = .ok (.aload_n 0, 1) := by decide +kernel
theorem d_EX_startAnew_52 : decode prog_6_method_3_code 52 = .ok (.iconst 0, 1) := by decide +kernel
theorem d_EX_startAnew_53 : decode prog_6_method_3_code 53 = .ok (.putfield 80, 3) := by decide +kernel
theorem d_EX_startAnew_56 : decode prog_6_method_3_code 56 = .ok (.aload_n 0, 1) := by decide +kernel
theorem d_EX_startAnew_57 : decode prog_6_method_3_code 57 = .ok (.iconst (-1), 1) := by decide +kernel
theorem d_EX_startAnew_58 : decode prog_6_method_3_code 58 = .ok (.putfield 25, 3) := by decide +kernel
theorem d_EX_startAnew_61 : decode prog_6_method_3_code 61 = .ok (.aload_n 0, 1) := by decide +kernel
theorem d_EX_startAnew_62 : decode prog_6_method_3_code 62 = .ok (.iconst 0, 1) := by decide +kernel
theorem d_EX_startAnew_63 : decode prog_6_method_3_code 63 = .ok (.putfield 135, 3) := by decide +kernel
theorem d_EX_startAnew_66 : decode prog_6_method_3_code 66 = .ok (.aload_n 0, 1) := by decide +kernel
theorem d_EX_startAnew_67 : decode prog_6_method_3_code 67 = .ok (.iconst 0, 1) := by decide +kernel
theorem d_EX_startAnew_68 : decode prog_6_method_3_code 68 = .ok (.putfield 138, 3) := by decide +kernel
theorem d_EX_startAnew_71 : decode prog_6_method_3_code 71 = .ok (.return_, 1) := by decide +kernel
theorem d_EX_endRange_0 : decode prog_6_method_7_code 0 = .ok (.aload_n 0, 1) := by decide +kernel
theorem d_EX_endRange_1 : decode prog_6_method_7_code 1 = .ok (.getfield 12, 3) := by decide +kernel
theorem d_EX_endRange_4 : decode prog_6_method_7_code 4 = .ok (.getfield 134, 3) := by decide +kernel
theorem d_EX_endRange_7 : decode prog_6_method_7_code 7 = .ok (.aload_n 1, 1) := by decide +kernel
theorem d_EX_endRange_8 : decode prog_6_method_7_code 8 = .ok (.getfield 158, 3) := by decide +kernel
theorem d_EX_endRange_11 : decode prog_6_method_7_code 11 = .ok (.if_icmp .le 21, 3) := by decide +kernel
theorem d_EX_endRange_14 : decode prog_6_method_7_code 14 = .ok (.aload_n 0, 1) := by decide +kernel
theorem d_EX_endRange_15 : decode prog_6_method_7_code 15 = .ok (.iconst 5, 1) := by decide +kernel
theorem d_EX_endRange_16 : decode prog_6_method_7_code 16 = .ok (.putfield 80, 3) := by decide +kernel
theorem d_EX_endRange_19 : decode prog_6_method_7_code 19 = .ok (.aload_n 0, 1) := by decide +kernel
theorem d_EX_endRange_20 : decode prog_6_method_7_code 20 = .ok (.aload_n 0, 1) := by decide +kernel
theorem d_EX_endRange_21 : decode prog_6_method_7_code 21 = .ok (.getfield 12, 3) := by decide +kernel
theorem d_EX_endRange_24 : decode prog_6_method_7_code 24 = .ok (.invokevirtual 160, 3) := by decide +kernel
theorem d_EX_endRange_27 : decode prog_6_method_7_code 27 = .ok (.putfield 25, 3) := by decide +kernel
theorem d_EX_endRange_30 : decode prog_6_method_7_code 30 = .ok (.iconst 0, 1) := by decide +kernel
theorem d_EX_endRange_31 : decode prog_6_method_7_code 31 = .ok (.ireturn, 1) := by decide +kernel
theorem d_EX_endRange_32 : decode prog_6_method_7_code 32 = .ok (.aload_n 0, 1) := by decide +kernel
theorem d_EX_endRange_33 : decode prog_6_method_7_code 33 = .ok (.getfield 72, 3) := by decide +kernel
theorem d_EX_endRange_36 : decode prog_6_method_7_code 36 = .ok (.getfield 141, 3) := by decide +kernel
theorem d_EX_endRange_39 : decode prog_6_method_7_code 39 = .ok (.ifCond .ne 5, 3) := by decide +kernel
theorem d_EX_endRange_42 : decode prog_6_method_7_code 42 = .ok (.iconst 0, 1) := by decide +kernel
theorem d_EX_endRange_43 : decode prog_6_method_7_code 43 = .ok (.ireturn, 1) := by decide +kernel
theorem d_EX_endRange_44 : decode prog_6_method_7_code 44 = .ok (.aload_n 0, 1) := by decide +kernel
theorem d_EX_endRange_45 : decode prog_6_method_7_code 45 = .ok (.getfield 72, 3) := by decide +kernel
theorem d_EX_endRange_48 : decode prog_6_method_7_code 48 = .ok (.invokevirtual 163, 3) := by decide +kernel
theorem d_EX_endRange_51 : decode prog_6_method_7_code 51 = .ok (.iconst 1, 1) := by decide +kernel
theorem d_EX_endRange_52 : decode prog_6_method_7_code 52 = .ok (.ireturn, 1) := by decide +kernel
theorem d_EX_toldLine_0 : decode prog_6_method_4_code 0 = .ok (.aload_n 0, 1) := by decide +kernel
theorem d_EX_toldLine_1 : decode prog_6_method_4_code 1 = .ok (.getfield 72, 3) := by decide +kernel
theorem d_EX_toldLine_4 : decode prog_6_method_4_code 4 = .ok (.getfield 141, 3) := by decide +kernel
theorem d_EX_toldLine_7 : decode prog_6_method_4_code 7 = .ok (.ifCond .ne 10, 3) := by decide +kernel
theorem d_EX_toldLine_10 : decode prog_6_method_4_code 10 = .ok (.aload_n 0, 1) := by decide +kernel
theorem d_EX_toldLine_11 : decode prog_6_method_4_code 11 = .ok (.getfield 144, 3) := by decide +kernel
theorem d_EX_toldLine_14 : decode prog_6_method_4_code 14 = .ok (.goto 10, 3) := by decide +kernel
theorem d_EX_toldLine_17 : decode prog_6_method_4_code 17 = .ok (.aload_n 0, 1) := by decide +kernel
theorem d_EX_toldLine_18 : decode prog_6_method_4_code 18 = .ok (.getfield 72, 3) := by decide +kernel
theorem d_EX_toldLine_21 : decode prog_6_method_4_code 21 = .ok (.getfield 147, 3) := by decide +kernel
theorem d_EX_toldLine_24 : decode prog_6_method_4_code 24 = .ok (.ireturn, 1) := by decide +kernel
theorem d_EX_fail_0 : decode prog_6_method_5_code 0 = .ok (.aload_n 0, 1) := by decide +kernel
theorem d_EX_fail_1 : decode prog_6_method_5_code 1 = .ok (.iload_n 1, 1) := by decide +kernel
theorem d_EX_fail_2 : decode prog_6_method_5_code 2 = .ok (.putfield 80, 3) := by decide +kernel
theorem d_EX_fail_5 : decode prog_6_method_5_code 5 = .ok (.aload_n 0, 1) := by decide +kernel
theorem d_EX_fail_6 : decode prog_6_method_5_code 6 = .ok (.aload_n 0, 1) := by decide +kernel
theorem d_EX_fail_7 : decode prog_6_method_5_code 7 = .ok (.invokevirtual 150, 3) := by decide +kernel
theorem d_EX_fail_10 : decode prog_6_method_5_code 10 = .ok (.putfield 25, 3) := by decide +kernel
theorem d_EX_fail_13 : decode prog_6_method_5_code 13 = .ok (.iconst 0, 1) := by decide +kernel
theorem d_EX_fail_14 : decode prog_6_method_5_code 14 = .ok (.ireturn, 1) := by decide +kernel
theorem d_EX_look_0 : decode prog_6_method_6_code 0 = .ok (.aload_n 0, 1) := by decide +kernel
theorem d_EX_look_1 : decode prog_6_method_6_code 1 = .ok (.aload_n 1, 1) := by decide +kernel
theorem d_EX_look_2 : decode prog_6_method_6_code 2 = .ok (.getfield 87, 3) := by decide +kernel
theorem d_EX_look_5 : decode prog_6_method_6_code 5 = .ok (.putfield 144, 3) := by decide +kernel
theorem d_EX_look_8 : decode prog_6_method_6_code 8 = .ok (.aload_n 0, 1) := by decide +kernel
theorem d_EX_look_9 : decode prog_6_method_6_code 9 = .ok (.getfield 135, 3) := by decide +kernel
theorem d_EX_look_12 : decode prog_6_method_6_code 12 = .ok (.sipush 4000, 3) := by decide +kernel
theorem d_EX_look_15 : decode prog_6_method_6_code 15 = .ok (.if_icmp .lt 10, 3) := by decide +kernel
theorem d_EX_look_18 : decode prog_6_method_6_code 18 = .ok (.aload_n 0, 1) := by decide +kernel
theorem d_EX_look_19 : decode prog_6_method_6_code 19 = .ok (.bipush 6, 2) := by decide +kernel
theorem d_EX_look_21 : decode prog_6_method_6_code 21 = .ok (.invokevirtual 154, 3) := by decide +kernel
theorem d_EX_look_24 : decode prog_6_method_6_code 24 = .ok (.ireturn, 1) := by decide +kernel
theorem d_EX_look_25 : decode prog_6_method_6_code 25 = .ok (.aload_n 0, 1) := by decide +kernel
theorem d_EX_look_26 : decode prog_6_method_6_code 26 = .ok (.dup, 1) := by decide +kernel
theorem d_EX_look_27 : decode prog_6_method_6_code 27 = .ok (.getfield 135, 3) := by decide +kernel
theorem d_EX_look_30 : decode prog_6_method_6_code 30 = .ok (.iconst 1, 1) := by decide +kernel
theorem d_EX_look_31 : decode prog_6_method_6_code 31 = .ok (.iadd, 1) := by decide +kernel
theorem d_EX_look_32 : decode prog_6_method_6_code 32 = .ok (.putfield 135, 3) := by decide +kernel
theorem d_EX_look_35 : decode prog_6_method_6_code 35 = .ok (.aload_n 1, 1) := by decide +kernel
theorem d_EX_look_36 : decode prog_6_method_6_code 36 = .ok (.dup, 1) := by decide +kernel
theorem d_EX_look_37 : decode prog_6_method_6_code 37 = .ok (.getfield 87, 3) := by decide +kernel
theorem d_EX_look_40 : decode prog_6_method_6_code 40 = .ok (.iconst 1, 1) := by decide +kernel
theorem d_EX_look_41 : decode prog_6_method_6_code 41 = .ok (.iadd, 1) := by decide +kernel
theorem d_EX_look_42 : decode prog_6_method_6_code 42 = .ok (.putfield 87, 3) := by decide +kernel
theorem d_EX_look_45 : decode prog_6_method_6_code 45 = .ok (.iconst 1, 1) := by decide +kernel
theorem d_EX_look_46 : decode prog_6_method_6_code 46 = .ok (.ireturn, 1) := by decide +kernel
theorem d_EX_takeLine_0 : decode prog_6_method_8_code 0 = .ok (.aload_n 0, 1) := by decide +kernel
theorem d_EX_takeLine_1 : decode prog_6_method_8_code 1 = .ok (.getfield 12, 3) := by decide +kernel
theorem d_EX_takeLine_4 : decode prog_6_method_8_code 4 = .ok (.invokevirtual 106, 3) := by decide +kernel
theorem d_EX_takeLine_7 : decode prog_6_method_8_code 7 = .ok (.istore_n 1, 1) := by decide +kernel
theorem d_EX_takeLine_8 : decode prog_6_method_8_code 8 = .ok (.aload_n 0, 1) := by decide +kernel
theorem d_EX_takeLine_9 : decode prog_6_method_8_code 9 = .ok (.aload_n 0, 1) := by decide +kernel
theorem d_EX_takeLine_10 : decode prog_6_method_8_code 10 = .ok (.getfield 38, 3) := by decide +kernel
theorem d_EX_takeLine_13 : decode prog_6_method_8_code 13 = .ok (.aload_n 0, 1) := by decide +kernel
theorem d_EX_takeLine_14 : decode prog_6_method_8_code 14 = .ok (.getfield 144, 3) := by decide +kernel
theorem d_EX_takeLine_17 : decode prog_6_method_8_code 17 = .ok (.invokevirtual 166, 3) := by decide +kernel
theorem d_EX_takeLine_20 : decode prog_6_method_8_code 20 = .ok (.putfield 170, 3) := by decide +kernel
theorem d_EX_takeLine_23 : decode prog_6_method_8_code 23 = .ok (.aload_n 0, 1) := by decide +kernel
theorem d_EX_takeLine_24 : decode prog_6_method_8_code 24 = .ok (.aload_n 0, 1) := by decide +kernel
theorem d_EX_takeLine_25 : decode prog_6_method_8_code 25 = .ok (.getfield 38, 3) := by decide +kernel
theorem d_EX_takeLine_28 : decode prog_6_method_8_code 28 = .ok (.aload_n 0, 1) := by decide +kernel
theorem d_EX_takeLine_29 : decode prog_6_method_8_code 29 = .ok (.getfield 144, 3) := by decide +kernel
theorem d_EX_takeLine_32 : decode prog_6_method_8_code 32 = .ok (.invokevirtual 173, 3) := by decide +kernel
theorem d_EX_takeLine_35 : decode prog_6_method_8_code 35 = .ok (.putfield 176, 3) := by decide +kernel
theorem d_EX_takeLine_38 : decode prog_6_method_8_code 38 = .ok (.aload_n 0, 1) := by decide +kernel
theorem d_EX_takeLine_39 : decode prog_6_method_8_code 39 = .ok (.aload_n 0, 1) := by decide +kernel
theorem d_EX_takeLine_40 : decode prog_6_method_8_code 40 = .ok (.getfield 38, 3) := by decide +kernel
theorem d_EX_takeLine_43 : decode prog_6_method_8_code 43 = .ok (.aload_n 0, 1) := by decide +kernel
theorem d_EX_takeLine_44 : decode prog_6_method_8_code 44 = .ok (.getfield 170, 3) := by decide +kernel
theorem d_EX_takeLine_47 : decode prog_6_method_8_code 47 = .ok (.aload_n 0, 1) := by decide +kernel
theorem d_EX_takeLine_48 : decode prog_6_method_8_code 48 = .ok (.getfield 176, 3) := by decide +kernel
theorem d_EX_takeLine_51 : decode prog_6_method_8_code 51 = .ok (.invokestatic 177, 3) := by decide +kernel
theorem d_EX_takeLine_54 : decode prog_6_method_8_code 54 = .ok (.putfield 35, 3) := by decide +kernel
theorem d_EX_takeLine_57 : decode prog_6_method_8_code 57 = .ok (.iload_n 1, 1) := by decide +kernel
theorem d_EX_takeLine_58 : decode prog_6_method_8_code 58 = .ok (.ifCond .ne 23, 3) := by decide +kernel
theorem d_EX_takeLine_61 : decode prog_6_method_8_code 61 = .ok (.aload_n 0, 1) := by decide +kernel
theorem d_EX_takeLine_62 : decode prog_6_method_8_code 62 = .ok (.getfield 35, 3) := by decide +kernel
theorem d_EX_takeLine_65 : decode prog_6_method_8_code 65 = .ok (.getstatic 181, 3) := by decide +kernel
theorem d_EX_takeLine_68 : decode prog_6_method_8_code 68 = .ok (.if_acmp .ne 17, 3) := by decide +kernel
theorem d_EX_takeLine_71 : decode prog_6_method_8_code 71 = .ok (.aload_n 0, 1) := by decide +kernel
theorem d_EX_takeLine_72 : decode prog_6_method_8_code 72 = .ok (.getfield 12, 3) := by decide +kernel
theorem d_EX_takeLine_75 : decode prog_6_method_8_code 75 = .ok (.invokevirtual 184, 3) := by decide +kernel
theorem d_EX_takeLine_78 : decode prog_6_method_8_code 78 = .ok (.ifCond .eq 7, 3) := by decide +kernel
theorem d_EX_takeLine_81 : decode prog_6_method_8_code 81 = .ok (.iconst 1, 1) := by decide +kernel
theorem d_EX_takeLine_82 : decode prog_6_method_8_code 82 = .ok (.goto 4, 3) := by decide +kernel
theorem d_EX_takeLine_85 : decode prog_6_method_8_code 85 = .ok (.iconst 0, 1) := by decide +kernel
theorem d_EX_takeLine_86 : decode prog_6_method_8_code 86 = .ok (.istore_n 2, 1) := by decide +kernel
theorem d_EX_takeLine_87 : decode prog_6_method_8_code 87 = .ok (.aload_n 0, 1) := by decide +kernel
theorem d_EX_takeLine_88 : decode prog_6_method_8_code 88 = .ok (.getfield 72, 3) := by decide +kernel
theorem d_EX_takeLine_91 : decode prog_6_method_8_code 91 = .ok (.getfield 141, 3) := by decide +kernel
theorem d_EX_takeLine_94 : decode prog_6_method_8_code 94 = .ok (.ifCond .eq 7, 3) := by decide +kernel
theorem d_EX_takeLine_97 : decode prog_6_method_8_code 97 = .ok (.iload_n 2, 1) := by decide +kernel
theorem d_EX_takeLine_98 : decode prog_6_method_8_code 98 = .ok (.ifCond .ne 5, 3) := by decide +kernel
theorem d_EX_takeLine_101 : decode prog_6_method_8_code 101 = .ok (.iconst 1, 1) := by decide +kernel
theorem d_EX_takeLine_102 : decode prog_6_method_8_code 102 = .ok (.ireturn, 1) := by decide +kernel
theorem d_EX_takeLine_103 : decode prog_6_method_8_code 103 = .ok (.aload_n 0, 1) := by decide +kernel
theorem d_EX_takeLine_104 : decode prog_6_method_8_code 104 = .ok (.getfield 72, 3) := by decide +kernel
theorem d_EX_takeLine_107 : decode prog_6_method_8_code 107 = .ok (.aload_n 0, 1) := by decide +kernel
theorem d_EX_takeLine_108 : decode prog_6_method_8_code 108 = .ok (.getfield 170, 3) := by decide +kernel
theorem d_EX_takeLine_111 : decode prog_6_method_8_code 111 = .ok (.aload_n 0, 1) := by decide +kernel
theorem d_EX_takeLine_112 : decode prog_6_method_8_code 112 = .ok (.getfield 176, 3) := by decide +kernel
theorem d_EX_takeLine_115 : decode prog_6_method_8_code 115 = .ok (.invokevirtual 187, 3) := by decide +kernel
theorem d_EX_takeLine_118 : decode prog_6_method_8_code 118 = .ok (.istore_n 3, 1) := by decide +kernel
theorem d_EX_takeLine_119 : decode prog_6_method_8_code 119 = .ok (.iload_n 3, 1) := by decide +kernel
theorem d_EX_takeLine_120 : decode prog_6_method_8_code 120 = .ok (.ifCond .eq 9, 3) := by decide +kernel
theorem d_EX_takeLine_123 : decode prog_6_method_8_code 123 = .ok (.aload_n 0, 1) := by decide +kernel
theorem d_EX_takeLine_124 : decode prog_6_method_8_code 124 = .ok (.iload_n 3, 1) := by decide +kernel
theorem d_EX_takeLine_125 : decode prog_6_method_8_code 125 = .ok (.invokevirtual 154, 3) := by decide +kernel
theorem d_EX_takeLine_128 : decode prog_6_method_8_code 128 = .ok (.ireturn, 1) := by decide +kernel
theorem d_EX_takeLine_129 : decode prog_6_method_8_code 129 = .ok (.aload_n 0, 1) := by decide +kernel
theorem d_EX_takeLine_130 : decode prog_6_method_8_code 130 = .ok (.aload_n 0, 1) := by decide +kernel
theorem d_EX_takeLine_131 : decode prog_6_method_8_code 131 = .ok (.getfield 38, 3) := by decide +kernel
theorem d_EX_takeLine_134 : decode prog_6_method_8_code 134 = .ok (.aload_n 0, 1) := by decide +kernel
theorem d_EX_takeLine_135 : decode prog_6_method_8_code 135 = .ok (.getfield 72, 3) := by decide +kernel
theorem d_EX_takeLine_138 : decode prog_6_method_8_code 138 = .ok (.getfield 191, 3) := by decide +kernel
theorem d_EX_takeLine_141 : decode prog_6_method_8_code 141 = .ok (.aload_n 0, 1) := by decide +kernel
theorem d_EX_takeLine_142 : decode prog_6_method_8_code 142 = .ok (.getfield 72, 3) := by decide +kernel
theorem d_EX_takeLine_145 : decode prog_6_method_8_code 145 = .ok (.getfield 194, 3) := by decide +kernel
theorem d_EX_takeLine_148 : decode prog_6_method_8_code 148 = .ok (.invokevirtual 197, 3) := by decide +kernel
theorem d_EX_takeLine_151 : decode prog_6_method_8_code 151 = .ok (.putfield 170, 3) := by decide +kernel
theorem d_EX_takeLine_154 : decode prog_6_method_8_code 154 = .ok (.aload_n 0, 1) := by decide +kernel
theorem d_EX_takeLine_155 : decode prog_6_method_8_code 155 = .ok (.aload_n 0, 1) := by decide +kernel
theorem d_EX_takeLine_156 : decode prog_6_method_8_code 156 = .ok (.getfield 38, 3) := by decide +kernel
theorem d_EX_takeLine_159 : decode prog_6_method_8_code 159 = .ok (.aload_n 0, 1) := by decide +kernel
theorem d_EX_takeLine_160 : decode prog_6_method_8_code 160 = .ok (.getfield 170, 3) := by decide +kernel
theorem d_EX_takeLine_163 : decode prog_6_method_8_code 163 = .ok (.aload_n 0, 1) := by decide +kernel
theorem d_EX_takeLine_164 : decode prog_6_method_8_code 164 = .ok (.getfield 72, 3) := by decide +kernel
theorem d_EX_takeLine_167 : decode prog_6_method_8_code 167 = .ok (.getfield 194, 3) := by decide +kernel
theorem d_EX_takeLine_170 : decode prog_6_method_8_code 170 = .ok (.invokevirtual 200, 3) := by decide +kernel
theorem d_EX_takeLine_173 : decode prog_6_method_8_code 173 = .ok (.putfield 176, 3) := by decide +kernel
theorem d_EX_takeLine_176 : decode prog_6_method_8_code 176 = .ok (.iload_n 1, 1) := by decide +kernel
theorem d_EX_takeLine_177 : decode prog_6_method_8_code 177 = .ok (.ifCond .eq 22, 3) := by decide +kernel
theorem d_EX_takeLine_180 : decode prog_6_method_8_code 180 = .ok (.aload_n 0, 1) := by decide +kernel
theorem d_EX_takeLine_181 : decode prog_6_method_8_code 181 = .ok (.aload_n 0, 1) := by decide +kernel
theorem d_EX_takeLine_182 : decode prog_6_method_8_code 182 = .ok (.getfield 38, 3) := by decide +kernel
theorem d_EX_takeLine_185 : decode prog_6_method_8_code 185 = .ok (.aload_n 0, 1) := by decide +kernel
theorem d_EX_takeLine_186 : decode prog_6_method_8_code 186 = .ok (.getfield 170, 3) := by decide +kernel
theorem d_EX_takeLine_189 : decode prog_6_method_8_code 189 = .ok (.aload_n 0, 1) := by decide +kernel
theorem d_EX_takeLine_190 : decode prog_6_method_8_code 190 = .ok (.getfield 176, 3) := by decide +kernel
theorem d_EX_takeLine_193 : decode prog_6_method_8_code 193 = .ok (.invokestatic 177, 3) := by decide +kernel
theorem d_EX_takeLine_196 : decode prog_6_method_8_code 196 = .ok (.putfield 35, 3) := by decide +kernel
theorem d_EX_takeLine_199 : decode prog_6_method_8_code 199 = .ok (.iconst 1, 1) := by decide +kernel
theorem d_EX_takeLine_200 : decode prog_6_method_8_code 200 = .ok (.ireturn, 1) := by decide +kernel
theorem d_EX_openMacro_0 : decode prog_6_method_12_code 0 = .ok (.aload_n 0, 1) := by decide +kernel
theorem d_EX_openMacro_1 : decode prog_6_method_12_code 1 = .ok (.getfield 72, 3) := by decide +kernel
theorem d_EX_openMacro_4 : decode prog_6_method_12_code 4 = .ok (.invokevirtual 276, 3) := by decide +kernel
theorem d_EX_openMacro_7 : decode prog_6_method_12_code 7 = .ok (.astore_n 2, 1) := by decide +kernel
theorem d_EX_openMacro_8 : decode prog_6_method_12_code 8 = .ok (.aload_n 0, 1) := by decide +kernel
theorem d_EX_openMacro_9 : decode prog_6_method_12_code 9 = .ok (.getfield 63, 3) := by decide +kernel
theorem d_EX_openMacro_12 : decode prog_6_method_12_code 12 = .ok (.iload_n 1, 1) := by decide +kernel
theorem d_EX_openMacro_13 : decode prog_6_method_12_code 13 = .ok (.invokevirtual 279, 3) := by decide +kernel
theorem d_EX_openMacro_16 : decode prog_6_method_12_code 16 = .ok (.istore_n 3, 1) := by decide +kernel
theorem d_EX_openMacro_17 : decode prog_6_method_12_code 17 = .ok (.aload_n 2, 1) := by decide +kernel
theorem d_EX_openMacro_18 : decode prog_6_method_12_code 18 = .ok (.getstatic 282, 3) := by decide +kernel
theorem d_EX_openMacro_21 : decode prog_6_method_12_code 21 = .ok (.iload_n 3, 1) := by decide +kernel
theorem d_EX_openMacro_22 : decode prog_6_method_12_code 22 = .ok (.iload_n 3, 1) := by decide +kernel
theorem d_EX_openMacro_23 : decode prog_6_method_12_code 23 = .ok (.aload_n 0, 1) := by decide +kernel
theorem d_EX_openMacro_24 : decode prog_6_method_12_code 24 = .ok (.getfield 63, 3) := by decide +kernel
theorem d_EX_openMacro_27 : decode prog_6_method_12_code 27 = .ok (.iload_n 1, 1) := by decide +kernel
theorem d_EX_openMacro_28 : decode prog_6_method_12_code 28 = .ok (.invokevirtual 285, 3) := by decide +kernel
theorem d_EX_openMacro_31 : decode prog_6_method_12_code 31 = .ok (.iadd, 1) := by decide +kernel
theorem d_EX_openMacro_32 : decode prog_6_method_12_code 32 = .ok (.iconst 1, 1) := by decide +kernel
theorem d_EX_openMacro_33 : decode prog_6_method_12_code 33 = .ok (.aload_n 0, 1) := by decide +kernel
theorem d_EX_openMacro_34 : decode prog_6_method_12_code 34 = .ok (.getfield 12, 3) := by decide +kernel
theorem d_EX_openMacro_37 : decode prog_6_method_12_code 37 = .ok (.getfield 134, 3) := by decide +kernel
theorem d_EX_openMacro_40 : decode prog_6_method_12_code 40 = .ok (.invokevirtual 288, 3) := by decide +kernel
theorem d_EX_openMacro_43 : decode prog_6_method_12_code 43 = .ok (.aload_n 2, 1) := by decide +kernel
theorem d_EX_openMacro_44 : decode prog_6_method_12_code 44 = .ok (.iload_n 1, 1) := by decide +kernel
theorem d_EX_openMacro_45 : decode prog_6_method_12_code 45 = .ok (.putfield 291, 3) := by decide +kernel
theorem d_EX_openMacro_48 : decode prog_6_method_12_code 48 = .ok (.aload_n 2, 1) := by decide +kernel
theorem d_EX_openMacro_49 : decode prog_6_method_12_code 49 = .ok (.aload_n 0, 1) := by decide +kernel
theorem d_EX_openMacro_50 : decode prog_6_method_12_code 50 = .ok (.getfield 138, 3) := by decide +kernel
theorem d_EX_openMacro_53 : decode prog_6_method_12_code 53 = .ok (.putfield 294, 3) := by decide +kernel
theorem d_EX_openMacro_56 : decode prog_6_method_12_code 56 = .ok (.aload_n 0, 1) := by decide +kernel
theorem d_EX_openMacro_57 : decode prog_6_method_12_code 57 = .ok (.getfield 72, 3) := by decide +kernel
theorem d_EX_openMacro_60 : decode prog_6_method_12_code 60 = .ok (.aload_n 0, 1) := by decide +kernel
theorem d_EX_openMacro_61 : decode prog_6_method_12_code 61 = .ok (.getfield 144, 3) := by decide +kernel
theorem d_EX_openMacro_64 : decode prog_6_method_12_code 64 = .ok (.invokevirtual 297, 3) := by decide +kernel
theorem d_EX_openMacro_67 : decode prog_6_method_12_code 67 = .ok (.ifCond .ne 11, 3) := by decide +kernel
theorem d_EX_openMacro_70 : decode prog_6_method_12_code 70 = .ok (.aload_n 0, 1) := by decide +kernel
theorem d_EX_openMacro_71 : decode prog_6_method_12_code 71 = .ok (.bipush 6, 2) := by decide +kernel
theorem d_EX_openMacro_73 : decode prog_6_method_12_code 73 = .ok (.invokevirtual 154, 3) := by decide +kernel
theorem d_EX_openMacro_76 : decode prog_6_method_12_code 76 = .ok (.pop, 1) := by decide +kernel
theorem d_EX_openMacro_77 : decode prog_6_method_12_code 77 = .ok (.return_, 1) := by decide +kernel
theorem d_EX_openMacro_78 : decode prog_6_method_12_code 78 = .ok (.aload_n 0, 1) := by decide +kernel
theorem d_EX_openMacro_79 : decode prog_6_method_12_code 79 = .ok (.dup, 1) := by decide +kernel
theorem d_EX_openMacro_80 : decode prog_6_method_12_code 80 = .ok (.getfield 138, 3) := by decide +kernel
theorem d_EX_openMacro_83 : decode prog_6_method_12_code 83 = .ok (.iconst 1, 1) := by decide +kernel
theorem d_EX_openMacro_84 : decode prog_6_method_12_code 84 = .ok (.iadd, 1) := by decide +kernel
theorem d_EX_openMacro_85 : decode prog_6_method_12_code 85 = .ok (.putfield 138, 3) := by decide +kernel
theorem d_EX_openMacro_88 : decode prog_6_method_12_code 88 = .ok (.aload_n 0, 1) := by decide +kernel
theorem d_EX_openMacro_89 : decode prog_6_method_12_code 89 = .ok (.getfield 63, 3) := by decide +kernel
theorem d_EX_openMacro_92 : decode prog_6_method_12_code 92 = .ok (.iload_n 1, 1) := by decide +kernel
theorem d_EX_openMacro_93 : decode prog_6_method_12_code 93 = .ok (.invokevirtual 300, 3) := by decide +kernel
theorem d_EX_openMacro_96 : decode prog_6_method_12_code 96 = .ok (.return_, 1) := by decide +kernel
theorem d_EX_callOrGiveOut_0 : decode prog_6_method_11_code 0 = .ok (.aload_n 0, 1) := by decide +kernel
theorem d_EX_callOrGiveOut_1 : decode prog_6_method_11_code 1 = .ok (.getfield 170, 3) := by decide +kernel
theorem d_EX_callOrGiveOut_4 : decode prog_6_method_11_code 4 = .ok (.aload_n 0, 1) := by decide +kernel
theorem d_EX_callOrGiveOut_5 : decode prog_6_method_11_code 5 = .ok (.getfield 176, 3) := by decide +kernel
theorem d_EX_callOrGiveOut_8 : decode prog_6_method_11_code 8 = .ok (.if_icmp .lt 4, 3) := by decide +kernel
theorem d_EX_callOrGiveOut_11 : decode prog_6_method_11_code 11 = .ok (.return_, 1) := by decide +kernel
theorem d_EX_callOrGiveOut_12 : decode prog_6_method_11_code 12 = .ok (.aload_n 0, 1) := by decide +kernel
theorem d_EX_callOrGiveOut_13 : decode prog_6_method_11_code 13 = .ok (.getfield 38, 3) := by decide +kernel
theorem d_EX_callOrGiveOut_16 : decode prog_6_method_11_code 16 = .ok (.aload_n 0, 1) := by decide +kernel
theorem d_EX_callOrGiveOut_17 : decode prog_6_method_11_code 17 = .ok (.getfield 170, 3) := by decide +kernel
theorem d_EX_callOrGiveOut_20 : decode prog_6_method_11_code 20 = .ok (.aload_n 0, 1) := by decide +kernel
theorem d_EX_callOrGiveOut_21 : decode prog_6_method_11_code 21 = .ok (.getfield 176, 3) := by decide +kernel
theorem d_EX_callOrGiveOut_24 : decode prog_6_method_11_code 24 = .ok (.invokevirtual 258, 3) := by decide +kernel
theorem d_EX_callOrGiveOut_27 : decode prog_6_method_11_code 27 = .ok (.istore_n 1, 1) := by decide +kernel
theorem d_EX_callOrGiveOut_28 : decode prog_6_method_11_code 28 = .ok (.aload_n 0, 1) := by decide +kernel
theorem d_EX_callOrGiveOut_29 : decode prog_6_method_11_code 29 = .ok (.getfield 63, 3) := by decide +kernel
theorem d_EX_callOrGiveOut_32 : decode prog_6_method_11_code 32 = .ok (.getfield 133, 3) := by decide +kernel
theorem d_EX_callOrGiveOut_35 : decode prog_6_method_11_code 35 = .ok (.aload_n 0, 1) := by decide +kernel
theorem d_EX_callOrGiveOut_36 : decode prog_6_method_11_code 36 = .ok (.getfield 170, 3) := by decide +kernel
theorem d_EX_callOrGiveOut_39 : decode prog_6_method_11_code 39 = .ok (.iload_n 1, 1) := by decide +kernel
theorem d_EX_callOrGiveOut_40 : decode prog_6_method_11_code 40 = .ok (.invokevirtual 261, 3) := by decide +kernel
theorem d_EX_callOrGiveOut_43 : decode prog_6_method_11_code 43 = .ok (.istore_n 2, 1) := by decide +kernel
theorem d_EX_callOrGiveOut_44 : decode prog_6_method_11_code 44 = .ok (.iload_n 2, 1) := by decide +kernel
theorem d_EX_callOrGiveOut_45 : decode prog_6_method_11_code 45 = .ok (.iconst (-1), 1) := by decide +kernel
theorem d_EX_callOrGiveOut_46 : decode prog_6_method_11_code 46 = .ok (.if_icmp .ne 46, 3) := by decide +kernel
theorem d_EX_callOrGiveOut_49 : decode prog_6_method_11_code 49 = .ok (.aload_n 0, 1) := by decide +kernel
theorem d_EX_callOrGiveOut_50 : decode prog_6_method_11_code 50 = .ok (.getfield 21, 3) := by decide +kernel
theorem d_EX_callOrGiveOut_53 : decode prog_6_method_11_code 53 = .ok (.aload_n 0, 1) := by decide +kernel
theorem d_EX_callOrGiveOut_54 : decode prog_6_method_11_code 54 = .ok (.getfield 38, 3) := by decide +kernel
theorem d_EX_callOrGiveOut_57 : decode prog_6_method_11_code 57 = .ok (.aload_n 0, 1) := by decide +kernel
theorem d_EX_callOrGiveOut_58 : decode prog_6_method_11_code 58 = .ok (.getfield 170, 3) := by decide +kernel
theorem d_EX_callOrGiveOut_61 : decode prog_6_method_11_code 61 = .ok (.aload_n 0, 1) := by decide +kernel
theorem d_EX_callOrGiveOut_62 : decode prog_6_method_11_code 62 = .ok (.getfield 176, 3) := by decide +kernel
theorem d_EX_callOrGiveOut_65 : decode prog_6_method_11_code 65 = .ok (.aload_n 0, 1) := by decide +kernel
theorem d_EX_callOrGiveOut_66 : decode prog_6_method_11_code 66 = .ok (.invokevirtual 150, 3) := by decide +kernel
theorem d_EX_callOrGiveOut_69 : decode prog_6_method_11_code 69 = .ok (.aload_n 0, 1) := by decide +kernel
theorem d_EX_callOrGiveOut_70 : decode prog_6_method_11_code 70 = .ok (.getfield 72, 3) := by decide +kernel
theorem d_EX_callOrGiveOut_73 : decode prog_6_method_11_code 73 = .ok (.getfield 141, 3) := by decide +kernel
theorem d_EX_callOrGiveOut_76 : decode prog_6_method_11_code 76 = .ok (.invokevirtual 264, 3) := by decide +kernel
theorem d_EX_callOrGiveOut_79 : decode prog_6_method_11_code 79 = .ok (.ifCond .ne 43, 3) := by decide +kernel
theorem d_EX_callOrGiveOut_82 : decode prog_6_method_11_code 82 = .ok (.aload_n 0, 1) := by decide +kernel
theorem d_EX_callOrGiveOut_83 : decode prog_6_method_11_code 83 = .ok (.bipush 6, 2) := by decide +kernel
theorem d_EX_callOrGiveOut_85 : decode prog_6_method_11_code 85 = .ok (.invokevirtual 154, 3) := by decide +kernel
theorem d_EX_callOrGiveOut_88 : decode prog_6_method_11_code 88 = .ok (.pop, 1) := by decide +kernel
theorem d_EX_callOrGiveOut_89 : decode prog_6_method_11_code 89 = .ok (.goto 33, 3) := by decide +kernel
theorem d_EX_callOrGiveOut_92 : decode prog_6_method_11_code 92 = .ok (.aload_n 0, 1) := by decide +kernel
theorem d_EX_callOrGiveOut_93 : decode prog_6_method_11_code 93 = .ok (.getfield 72, 3) := by decide +kernel
theorem d_EX_callOrGiveOut_96 : decode prog_6_method_11_code 96 = .ok (.iload_n 2, 1) := by decide +kernel
theorem d_EX_callOrGiveOut_97 : decode prog_6_method_11_code 97 = .ok (.iload_n 1, 1) := by decide +kernel
theorem d_EX_callOrGiveOut_98 : decode prog_6_method_11_code 98 = .ok (.aload_n 0, 1) := by decide +kernel
theorem d_EX_callOrGiveOut_99 : decode prog_6_method_11_code 99 = .ok (.getfield 176, 3) := by decide +kernel
theorem d_EX_callOrGiveOut_102 : decode prog_6_method_11_code 102 = .ok (.invokevirtual 268, 3) := by decide +kernel
theorem d_EX_callOrGiveOut_105 : decode prog_6_method_11_code 105 = .ok (.ifCond .ne 12, 3) := by decide +kernel
theorem d_EX_callOrGiveOut_108 : decode prog_6_method_11_code 108 = .ok (.aload_n 0, 1) := by decide +kernel
theorem d_EX_callOrGiveOut_109 : decode prog_6_method_11_code 109 = .ok (.iconst 1, 1) := by decide +kernel
theorem d_EX_callOrGiveOut_110 : decode prog_6_method_11_code 110 = .ok (.invokevirtual 154, 3) := by decide +kernel
theorem d_EX_callOrGiveOut_113 : decode prog_6_method_11_code 113 = .ok (.pop, 1) := by decide +kernel
theorem d_EX_callOrGiveOut_114 : decode prog_6_method_11_code 114 = .ok (.goto 8, 3) := by decide +kernel
theorem d_EX_callOrGiveOut_117 : decode prog_6_method_11_code 117 = .ok (.aload_n 0, 1) := by decide +kernel
theorem d_EX_callOrGiveOut_118 : decode prog_6_method_11_code 118 = .ok (.iload_n 2, 1) := by decide +kernel
theorem d_EX_callOrGiveOut_119 : decode prog_6_method_11_code 119 = .ok (.invokevirtual 272, 3) := by decide +kernel
theorem d_EX_callOrGiveOut_122 : decode prog_6_method_11_code 122 = .ok (.return_, 1) := by decide +kernel
theorem d_EX_isValueGood_0 : decode prog_6_method_13_code 0 = .ok (.aload_n 0, 1) := by decide +kernel
theorem d_EX_isValueGood_1 : decode prog_6_method_13_code 1 = .ok (.getfield 56, 3) := by decide +kernel
theorem d_EX_isValueGood_4 : decode prog_6_method_13_code 4 = .ok (.getfield 303, 3) := by decide +kernel
theorem d_EX_isValueGood_7 : decode prog_6_method_13_code 7 = .ok (.ifCond .ne 13, 3) := by decide +kernel
theorem d_EX_isValueGood_10 : decode prog_6_method_13_code 10 = .ok (.aload_n 0, 1) := by decide +kernel
theorem d_EX_isValueGood_11 : decode prog_6_method_13_code 11 = .ok (.getfield 56, 3) := by decide +kernel
theorem d_EX_isValueGood_14 : decode prog_6_method_13_code 14 = .ok (.invokevirtual 307, 3) := by decide +kernel
theorem d_EX_isValueGood_17 : decode prog_6_method_13_code 17 = .ok (.ifCond .ne 9, 3) := by decide +kernel
theorem d_EX_isValueGood_20 : decode prog_6_method_13_code 20 = .ok (.aload_n 0, 1) := by decide +kernel
theorem d_EX_isValueGood_21 : decode prog_6_method_13_code 21 = .ok (.iconst 1, 1) := by decide +kernel
theorem d_EX_isValueGood_22 : decode prog_6_method_13_code 22 = .ok (.invokevirtual 154, 3) := by decide +kernel
theorem d_EX_isValueGood_25 : decode prog_6_method_13_code 25 = .ok (.ireturn, 1) := by decide +kernel
theorem d_EX_isValueGood_26 : decode prog_6_method_13_code 26 = .ok (.aload_n 0, 1) := by decide +kernel
theorem d_EX_isValueGood_27 : decode prog_6_method_13_code 27 = .ok (.getfield 56, 3) := by decide +kernel
theorem d_EX_isValueGood_30 : decode prog_6_method_13_code 30 = .ok (.getfield 310, 3) := by decide +kernel
theorem d_EX_isValueGood_33 : decode prog_6_method_13_code 33 = .ok (.ifCond .eq 17, 3) := by decide +kernel
theorem d_EX_isValueGood_36 : decode prog_6_method_13_code 36 = .ok (.aload_n 0, 1) := by decide +kernel
theorem d_EX_isValueGood_37 : decode prog_6_method_13_code 37 = .ok (.aload_n 0, 1) := by decide +kernel
theorem d_EX_isValueGood_38 : decode prog_6_method_13_code 38 = .ok (.getfield 56, 3) := by decide +kernel
theorem d_EX_isValueGood_41 : decode prog_6_method_13_code 41 = .ok (.getfield 310, 3) := by decide +kernel
theorem d_EX_isValueGood_44 : decode prog_6_method_13_code 44 = .ok (.invokevirtual 154, 3) := by decide +kernel
theorem d_EX_isValueGood_47 : decode prog_6_method_13_code 47 = .ok (.ifCond .eq 7, 3) := by decide +kernel
theorem d_EX_isValueGood_50 : decode prog_6_method_13_code 50 = .ok (.iconst 1, 1) := by decide +kernel
theorem d_EX_isValueGood_51 : decode prog_6_method_13_code 51 = .ok (.goto 4, 3) := by decide +kernel
theorem d_EX_isValueGood_54 : decode prog_6_method_13_code 54 = .ok (.iconst 0, 1) := by decide +kernel
theorem d_EX_isValueGood_55 : decode prog_6_method_13_code 55 = .ok (.ireturn, 1) := by decide +kernel
theorem d_EX_setConstant_0 : decode prog_6_method_14_code 0 = .ok (.aload_n 0, 1) := by decide +kernel
theorem d_EX_setConstant_1 : decode prog_6_method_14_code 1 = .ok (.getfield 56, 3) := by decide +kernel
theorem d_EX_setConstant_4 : decode prog_6_method_14_code 4 = .ok (.invokevirtual 313, 3) := by decide +kernel
theorem d_EX_setConstant_7 : decode prog_6_method_14_code 7 = .ok (.ifCond .eq 15, 3) := by decide +kernel
theorem d_EX_setConstant_10 : decode prog_6_method_14_code 10 = .ok (.aload_n 0, 1) := by decide +kernel
theorem d_EX_setConstant_11 : decode prog_6_method_14_code 11 = .ok (.getfield 56, 3) := by decide +kernel
theorem d_EX_setConstant_14 : decode prog_6_method_14_code 14 = .ok (.bipush 44, 2) := by decide +kernel
theorem d_EX_setConstant_16 : decode prog_6_method_14_code 16 = .ok (.invokevirtual 316, 3) := by decide +kernel
theorem d_EX_setConstant_19 : decode prog_6_method_14_code 19 = .ok (.ifCond .ne 10, 3) := by decide +kernel
theorem d_EX_setConstant_22 : decode prog_6_method_14_code 22 = .ok (.aload_n 0, 1) := by decide +kernel
theorem d_EX_setConstant_23 : decode prog_6_method_14_code 23 = .ok (.iconst 1, 1) := by decide +kernel
theorem d_EX_setConstant_24 : decode prog_6_method_14_code 24 = .ok (.invokevirtual 154, 3) := by decide +kernel
theorem d_EX_setConstant_27 : decode prog_6_method_14_code 27 = .ok (.pop, 1) := by decide +kernel
theorem d_EX_setConstant_28 : decode prog_6_method_14_code 28 = .ok (.return_, 1) := by decide +kernel
theorem d_EX_setConstant_29 : decode prog_6_method_14_code 29 = .ok (.aload_n 0, 1) := by decide +kernel
theorem d_EX_setConstant_30 : decode prog_6_method_14_code 30 = .ok (.getfield 56, 3) := by decide +kernel
theorem d_EX_setConstant_33 : decode prog_6_method_14_code 33 = .ok (.getfield 319, 3) := by decide +kernel
theorem d_EX_setConstant_36 : decode prog_6_method_14_code 36 = .ok (.istore_n 1, 1) := by decide +kernel
theorem d_EX_setConstant_37 : decode prog_6_method_14_code 37 = .ok (.aload_n 0, 1) := by decide +kernel
theorem d_EX_setConstant_38 : decode prog_6_method_14_code 38 = .ok (.getfield 56, 3) := by decide +kernel
theorem d_EX_setConstant_41 : decode prog_6_method_14_code 41 = .ok (.getfield 322, 3) := by decide +kernel
theorem d_EX_setConstant_44 : decode prog_6_method_14_code 44 = .ok (.istore_n 2, 1) := by decide +kernel
theorem d_EX_setConstant_45 : decode prog_6_method_14_code 45 = .ok (.aload_n 0, 1) := by decide +kernel
theorem d_EX_setConstant_46 : decode prog_6_method_14_code 46 = .ok (.getfield 56, 3) := by decide +kernel
theorem d_EX_setConstant_49 : decode prog_6_method_14_code 49 = .ok (.iconst 0, 1) := by decide +kernel
theorem d_EX_setConstant_50 : decode prog_6_method_14_code 50 = .ok (.invokevirtual 325, 3) := by decide +kernel
theorem d_EX_setConstant_53 : decode prog_6_method_14_code 53 = .ok (.istore_n 3, 1) := by decide +kernel
theorem d_EX_setConstant_54 : decode prog_6_method_14_code 54 = .ok (.aload_n 0, 1) := by decide +kernel
theorem d_EX_setConstant_55 : decode prog_6_method_14_code 55 = .ok (.invokevirtual 328, 3) := by decide +kernel
theorem d_EX_setConstant_58 : decode prog_6_method_14_code 58 = .ok (.ifCond .eq 23, 3) := by decide +kernel
theorem d_EX_setConstant_61 : decode prog_6_method_14_code 61 = .ok (.aload_n 0, 1) := by decide +kernel
theorem d_EX_setConstant_62 : decode prog_6_method_14_code 62 = .ok (.getfield 47, 3) := by decide +kernel
theorem d_EX_setConstant_65 : decode prog_6_method_14_code 65 = .ok (.iload_n 1, 1) := by decide +kernel
theorem d_EX_setConstant_66 : decode prog_6_method_14_code 66 = .ok (.iload_n 2, 1) := by decide +kernel
theorem d_EX_setConstant_67 : decode prog_6_method_14_code 67 = .ok (.iload_n 3, 1) := by decide +kernel
theorem d_EX_setConstant_68 : decode prog_6_method_14_code 68 = .ok (.invokevirtual 331, 3) := by decide +kernel
theorem d_EX_setConstant_71 : decode prog_6_method_14_code 71 = .ok (.ifCond .ne 10, 3) := by decide +kernel
theorem d_EX_setConstant_74 : decode prog_6_method_14_code 74 = .ok (.aload_n 0, 1) := by decide +kernel
theorem d_EX_setConstant_75 : decode prog_6_method_14_code 75 = .ok (.bipush 6, 2) := by decide +kernel
theorem d_EX_setConstant_77 : decode prog_6_method_14_code 77 = .ok (.invokevirtual 154, 3) := by decide +kernel
theorem d_EX_setConstant_80 : decode prog_6_method_14_code 80 = .ok (.pop, 1) := by decide +kernel
theorem d_EX_setConstant_81 : decode prog_6_method_14_code 81 = .ok (.return_, 1) := by decide +kernel
theorem d_EX_forgetConstant_0 : decode prog_6_method_15_code 0 = .ok (.aload_n 0, 1) := by decide +kernel
theorem d_EX_forgetConstant_1 : decode prog_6_method_15_code 1 = .ok (.getfield 56, 3) := by decide +kernel
theorem d_EX_forgetConstant_4 : decode prog_6_method_15_code 4 = .ok (.invokevirtual 313, 3) := by decide +kernel
theorem d_EX_forgetConstant_7 : decode prog_6_method_15_code 7 = .ok (.ifCond .eq 13, 3) := by decide +kernel
theorem d_EX_forgetConstant_10 : decode prog_6_method_15_code 10 = .ok (.aload_n 0, 1) := by decide +kernel
theorem d_EX_forgetConstant_11 : decode prog_6_method_15_code 11 = .ok (.getfield 56, 3) := by decide +kernel
theorem d_EX_forgetConstant_14 : decode prog_6_method_15_code 14 = .ok (.invokevirtual 307, 3) := by decide +kernel
theorem d_EX_forgetConstant_17 : decode prog_6_method_15_code 17 = .ok (.ifCond .ne 12, 3) := by decide +kernel
theorem d_EX_forgetConstant_20 : decode prog_6_method_15_code 20 = .ok (.aload_n 0, 1) := by decide +kernel
theorem d_EX_forgetConstant_21 : decode prog_6_method_15_code 21 = .ok (.iconst 1, 1) := by decide +kernel
theorem d_EX_forgetConstant_22 : decode prog_6_method_15_code 22 = .ok (.invokevirtual 154, 3) := by decide +kernel
theorem d_EX_forgetConstant_25 : decode prog_6_method_15_code 25 = .ok (.pop, 1) := by decide +kernel
theorem d_EX_forgetConstant_26 : decode prog_6_method_15_code 26 = .ok (.goto 33, 3) := by decide +kernel
theorem d_EX_forgetConstant_29 : decode prog_6_method_15_code 29 = .ok (.aload_n 0, 1) := by decide +kernel
theorem d_EX_forgetConstant_30 : decode prog_6_method_15_code 30 = .ok (.getfield 47, 3) := by decide +kernel
theorem d_EX_forgetConstant_33 : decode prog_6_method_15_code 33 = .ok (.aload_n 0, 1) := by decide +kernel
theorem d_EX_forgetConstant_34 : decode prog_6_method_15_code 34 = .ok (.getfield 56, 3) := by decide +kernel
theorem d_EX_forgetConstant_37 : decode prog_6_method_15_code 37 = .ok (.getfield 319, 3) := by decide +kernel
theorem d_EX_forgetConstant_40 : decode prog_6_method_15_code 40 = .ok (.aload_n 0, 1) := by decide +kernel
theorem d_EX_forgetConstant_41 : decode prog_6_method_15_code 41 = .ok (.getfield 56, 3) := by decide +kernel
theorem d_EX_forgetConstant_44 : decode prog_6_method_15_code 44 = .ok (.getfield 322, 3) := by decide +kernel
theorem d_EX_forgetConstant_47 : decode prog_6_method_15_code 47 = .ok (.invokevirtual 334, 3) := by decide +kernel
theorem d_EX_forgetConstant_50 : decode prog_6_method_15_code 50 = .ok (.ifCond .ne 9, 3) := by decide +kernel
theorem d_EX_forgetConstant_53 : decode prog_6_method_15_code 53 = .ok (.aload_n 0, 1) := by decide +kernel
theorem d_EX_forgetConstant_54 : decode prog_6_method_15_code 54 = .ok (.iconst 3, 1) := by decide +kernel
theorem d_EX_forgetConstant_55 : decode prog_6_method_15_code 55 = .ok (.invokevirtual 154, 3) := by decide +kernel
theorem d_EX_forgetConstant_58 : decode prog_6_method_15_code 58 = .ok (.pop, 1) := by decide +kernel
theorem d_EX_forgetConstant_59 : decode prog_6_method_15_code 59 = .ok (.return_, 1) := by decide +kernel
theorem d_EX_openCondition_0 : decode prog_6_method_18_code 0 = .ok (.aload_n 0, 1) := by decide +kernel
theorem d_EX_openCondition_1 : decode prog_6_method_18_code 1 = .ok (.getfield 12, 3) := by decide +kernel
theorem d_EX_openCondition_4 : decode prog_6_method_18_code 4 = .ok (.iload_n 1, 1) := by decide +kernel
theorem d_EX_openCondition_5 : decode prog_6_method_18_code 5 = .ok (.iload_n 2, 1) := by decide +kernel
theorem d_EX_openCondition_6 : decode prog_6_method_18_code 6 = .ok (.aload_n 0, 1) := by decide +kernel
theorem d_EX_openCondition_7 : decode prog_6_method_18_code 7 = .ok (.invokevirtual 150, 3) := by decide +kernel
theorem d_EX_openCondition_10 : decode prog_6_method_18_code 10 = .ok (.invokevirtual 348, 3) := by decide +kernel
theorem d_EX_openCondition_13 : decode prog_6_method_18_code 13 = .ok (.ifCond .ne 10, 3) := by decide +kernel
theorem d_EX_openCondition_16 : decode prog_6_method_18_code 16 = .ok (.aload_n 0, 1) := by decide +kernel
theorem d_EX_openCondition_17 : decode prog_6_method_18_code 17 = .ok (.bipush 6, 2) := by decide +kernel
theorem d_EX_openCondition_19 : decode prog_6_method_18_code 19 = .ok (.invokevirtual 154, 3) := by decide +kernel
theorem d_EX_openCondition_22 : decode prog_6_method_18_code 22 = .ok (.pop, 1) := by decide +kernel
theorem d_EX_openCondition_23 : decode prog_6_method_18_code 23 = .ok (.return_, 1) := by decide +kernel
theorem d_EX_openIf_0 : decode prog_6_method_16_code 0 = .ok (.aload_n 0, 1) := by decide +kernel
theorem d_EX_openIf_1 : decode prog_6_method_16_code 1 = .ok (.getfield 56, 3) := by decide +kernel
theorem d_EX_openIf_4 : decode prog_6_method_16_code 4 = .ok (.iconst 0, 1) := by decide +kernel
theorem d_EX_openIf_5 : decode prog_6_method_16_code 5 = .ok (.invokevirtual 325, 3) := by decide +kernel
theorem d_EX_openIf_8 : decode prog_6_method_16_code 8 = .ok (.istore_n 1, 1) := by decide +kernel
theorem d_EX_openIf_9 : decode prog_6_method_16_code 9 = .ok (.aload_n 0, 1) := by decide +kernel
theorem d_EX_openIf_10 : decode prog_6_method_16_code 10 = .ok (.invokevirtual 328, 3) := by decide +kernel
theorem d_EX_openIf_13 : decode prog_6_method_16_code 13 = .ok (.ifCond .eq 17, 3) := by decide +kernel
theorem d_EX_openIf_16 : decode prog_6_method_16_code 16 = .ok (.aload_n 0, 1) := by decide +kernel
theorem d_EX_openIf_17 : decode prog_6_method_16_code 17 = .ok (.iconst 1, 1) := by decide +kernel
theorem d_EX_openIf_18 : decode prog_6_method_16_code 18 = .ok (.iload_n 1, 1) := by decide +kernel
theorem d_EX_openIf_19 : decode prog_6_method_16_code 19 = .ok (.ifCond .eq 7, 3) := by decide +kernel
theorem d_EX_openIf_22 : decode prog_6_method_16_code 22 = .ok (.iconst 1, 1) := by decide +kernel
theorem d_EX_openIf_23 : decode prog_6_method_16_code 23 = .ok (.goto 4, 3) := by decide +kernel
theorem d_EX_openIf_26 : decode prog_6_method_16_code 26 = .ok (.iconst 0, 1) := by decide +kernel
theorem d_EX_openIf_27 : decode prog_6_method_16_code 27 = .ok (.invokevirtual 254, 3) := by decide +kernel
theorem d_EX_openIf_30 : decode prog_6_method_16_code 30 = .ok (.return_, 1) := by decide +kernel
theorem d_EX_openIfSame_0 : decode prog_6_method_17_code 0 = .ok (.aload_n 0, 1) := by decide +kernel
theorem d_EX_openIfSame_1 : decode prog_6_method_17_code 1 = .ok (.getfield 38, 3) := by decide +kernel
theorem d_EX_openIfSame_4 : decode prog_6_method_17_code 4 = .ok (.bipush 44, 2) := by decide +kernel
theorem d_EX_openIfSame_6 : decode prog_6_method_17_code 6 = .ok (.aload_n 0, 1) := by decide +kernel
theorem d_EX_openIfSame_7 : decode prog_6_method_17_code 7 = .ok (.getfield 56, 3) := by decide +kernel
theorem d_EX_openIfSame_10 : decode prog_6_method_17_code 10 = .ok (.getfield 338, 3) := by decide +kernel
theorem d_EX_openIfSame_13 : decode prog_6_method_17_code 13 = .ok (.aload_n 0, 1) := by decide +kernel
theorem d_EX_openIfSame_14 : decode prog_6_method_17_code 14 = .ok (.getfield 176, 3) := by decide +kernel
theorem d_EX_openIfSame_17 : decode prog_6_method_17_code 17 = .ok (.invokevirtual 341, 3) := by decide +kernel
theorem d_EX_openIfSame_20 : decode prog_6_method_17_code 20 = .ok (.istore_n 1, 1) := by decide +kernel
theorem d_EX_openIfSame_21 : decode prog_6_method_17_code 21 = .ok (.iload_n 1, 1) := by decide +kernel
theorem d_EX_openIfSame_22 : decode prog_6_method_17_code 22 = .ok (.aload_n 0, 1) := by decide +kernel
theorem d_EX_openIfSame_23 : decode prog_6_method_17_code 23 = .ok (.getfield 176, 3) := by decide +kernel
theorem d_EX_openIfSame_26 : decode prog_6_method_17_code 26 = .ok (.if_icmp .lt 10, 3) := by decide +kernel
theorem d_EX_openIfSame_29 : decode prog_6_method_17_code 29 = .ok (.aload_n 0, 1) := by decide +kernel
theorem d_EX_openIfSame_30 : decode prog_6_method_17_code 30 = .ok (.iconst 1, 1) := by decide +kernel
theorem d_EX_openIfSame_31 : decode prog_6_method_17_code 31 = .ok (.invokevirtual 154, 3) := by decide +kernel
theorem d_EX_openIfSame_34 : decode prog_6_method_17_code 34 = .ok (.pop, 1) := by decide +kernel
theorem d_EX_openIfSame_35 : decode prog_6_method_17_code 35 = .ok (.return_, 1) := by decide +kernel
theorem d_EX_openIfSame_36 : decode prog_6_method_17_code 36 = .ok (.aload_n 0, 1) := by decide +kernel
theorem d_EX_openIfSame_37 : decode prog_6_method_17_code 37 = .ok (.getfield 38, 3) := by decide +kernel
theorem d_EX_openIfSame_40 : decode prog_6_method_17_code 40 = .ok (.aload_n 0, 1) := by decide +kernel
theorem d_EX_openIfSame_41 : decode prog_6_method_17_code 41 = .ok (.getfield 56, 3) := by decide +kernel
theorem d_EX_openIfSame_44 : decode prog_6_method_17_code 44 = .ok (.getfield 338, 3) := by decide +kernel
theorem d_EX_openIfSame_47 : decode prog_6_method_17_code 47 = .ok (.iload_n 1, 1) := by decide +kernel
theorem d_EX_openIfSame_48 : decode prog_6_method_17_code 48 = .ok (.invokevirtual 197, 3) := by decide +kernel
theorem d_EX_openIfSame_51 : decode prog_6_method_17_code 51 = .ok (.istore_n 2, 1) := by decide +kernel
theorem d_EX_openIfSame_52 : decode prog_6_method_17_code 52 = .ok (.aload_n 0, 1) := by decide +kernel
theorem d_EX_openIfSame_53 : decode prog_6_method_17_code 53 = .ok (.getfield 38, 3) := by decide +kernel
theorem d_EX_openIfSame_56 : decode prog_6_method_17_code 56 = .ok (.iload_n 2, 1) := by decide +kernel
theorem d_EX_openIfSame_57 : decode prog_6_method_17_code 57 = .ok (.iload_n 1, 1) := by decide +kernel
theorem d_EX_openIfSame_58 : decode prog_6_method_17_code 58 = .ok (.invokevirtual 200, 3) := by decide +kernel
theorem d_EX_openIfSame_61 : decode prog_6_method_17_code 61 = .ok (.istore_n 3, 1) := by decide +kernel
theorem d_EX_openIfSame_62 : decode prog_6_method_17_code 62 = .ok (.aload_n 0, 1) := by decide +kernel
theorem d_EX_openIfSame_63 : decode prog_6_method_17_code 63 = .ok (.getfield 38, 3) := by decide +kernel
theorem d_EX_openIfSame_66 : decode prog_6_method_17_code 66 = .ok (.iload_n 1, 1) := by decide +kernel
theorem d_EX_openIfSame_67 : decode prog_6_method_17_code 67 = .ok (.iconst 1, 1) := by decide +kernel
theorem d_EX_openIfSame_68 : decode prog_6_method_17_code 68 = .ok (.iadd, 1) := by decide +kernel
theorem d_EX_openIfSame_69 : decode prog_6_method_17_code 69 = .ok (.aload_n 0, 1) := by decide +kernel
theorem d_EX_openIfSame_70 : decode prog_6_method_17_code 70 = .ok (.getfield 176, 3) := by decide +kernel
theorem d_EX_openIfSame_73 : decode prog_6_method_17_code 73 = .ok (.invokevirtual 197, 3) := by decide +kernel
theorem d_EX_openIfSame_76 : decode prog_6_method_17_code 76 = .ok (.istore 4, 2) := by decide +kernel
theorem d_EX_openIfSame_78 : decode prog_6_method_17_code 78 = .ok (.aload_n 0, 1) := by decide +kernel
theorem d_EX_openIfSame_79 : decode prog_6_method_17_code 79 = .ok (.iconst 1, 1) := by decide +kernel
theorem d_EX_openIfSame_80 : decode prog_6_method_17_code 80 = .ok (.aload_n 0, 1) := by decide +kernel
theorem d_EX_openIfSame_81 : decode prog_6_method_17_code 81 = .ok (.getfield 38, 3) := by decide +kernel
theorem d_EX_openIfSame_84 : decode prog_6_method_17_code 84 = .ok (.iload_n 2, 1) := by decide +kernel
theorem d_EX_openIfSame_85 : decode prog_6_method_17_code 85 = .ok (.iload_n 3, 1) := by decide +kernel
theorem d_EX_openIfSame_86 : decode prog_6_method_17_code 86 = .ok (.iload 4, 2) := by decide +kernel
theorem d_EX_openIfSame_88 : decode prog_6_method_17_code 88 = .ok (.aload_n 0, 1) := by decide +kernel
theorem d_EX_openIfSame_89 : decode prog_6_method_17_code 89 = .ok (.getfield 176, 3) := by decide +kernel
theorem d_EX_openIfSame_92 : decode prog_6_method_17_code 92 = .ok (.invokevirtual 344, 3) := by decide +kernel
theorem d_EX_openIfSame_95 : decode prog_6_method_17_code 95 = .ok (.invokevirtual 254, 3) := by decide +kernel
theorem d_EX_openIfSame_98 : decode prog_6_method_17_code 98 = .ok (.return_, 1) := by decide +kernel
theorem d_EX_changeCondition_0 : decode prog_6_method_19_code 0 = .ok (.aload_n 0, 1) := by decide +kernel
theorem d_EX_changeCondition_1 : decode prog_6_method_19_code 1 = .ok (.getfield 12, 3) := by decide +kernel
theorem d_EX_changeCondition_4 : decode prog_6_method_19_code 4 = .ok (.getfield 134, 3) := by decide +kernel
theorem d_EX_changeCondition_7 : decode prog_6_method_19_code 7 = .ok (.aload_n 0, 1) := by decide +kernel
theorem d_EX_changeCondition_8 : decode prog_6_method_19_code 8 = .ok (.getfield 72, 3) := by decide +kernel
theorem d_EX_changeCondition_11 : decode prog_6_method_19_code 11 = .ok (.invokevirtual 83, 3) := by decide +kernel
theorem d_EX_changeCondition_14 : decode prog_6_method_19_code 14 = .ok (.getfield 158, 3) := by decide +kernel
theorem d_EX_changeCondition_17 : decode prog_6_method_19_code 17 = .ok (.if_icmp .gt 12, 3) := by decide +kernel
theorem d_EX_changeCondition_20 : decode prog_6_method_19_code 20 = .ok (.aload_n 0, 1) := by decide +kernel
theorem d_EX_changeCondition_21 : decode prog_6_method_19_code 21 = .ok (.iconst 5, 1) := by decide +kernel
theorem d_EX_changeCondition_22 : decode prog_6_method_19_code 22 = .ok (.invokevirtual 154, 3) := by decide +kernel
theorem d_EX_changeCondition_25 : decode prog_6_method_19_code 25 = .ok (.pop, 1) := by decide +kernel
theorem d_EX_changeCondition_26 : decode prog_6_method_19_code 26 = .ok (.goto 121, 3) := by decide +kernel
theorem d_EX_changeCondition_29 : decode prog_6_method_19_code 29 = .ok (.aload_n 0, 1) := by decide +kernel
theorem d_EX_changeCondition_30 : decode prog_6_method_19_code 30 = .ok (.getfield 35, 3) := by decide +kernel
theorem d_EX_changeCondition_33 : decode prog_6_method_19_code 33 = .ok (.getstatic 351, 3) := by decide +kernel
theorem d_EX_changeCondition_36 : decode prog_6_method_19_code 36 = .ok (.if_acmp .ne 19, 3) := by decide +kernel
theorem d_EX_changeCondition_39 : decode prog_6_method_19_code 39 = .ok (.aload_n 0, 1) := by decide +kernel
theorem d_EX_changeCondition_40 : decode prog_6_method_19_code 40 = .ok (.getfield 12, 3) := by decide +kernel
theorem d_EX_changeCondition_43 : decode prog_6_method_19_code 43 = .ok (.dup, 1) := by decide +kernel
theorem d_EX_changeCondition_44 : decode prog_6_method_19_code 44 = .ok (.getfield 134, 3) := by decide +kernel
theorem d_EX_changeCondition_47 : decode prog_6_method_19_code 47 = .ok (.iconst 1, 1) := by decide +kernel
theorem d_EX_changeCondition_48 : decode prog_6_method_19_code 48 = .ok (.isub, 1) := by decide +kernel
theorem d_EX_changeCondition_49 : decode prog_6_method_19_code 49 = .ok (.putfield 134, 3) := by decide +kernel
theorem d_EX_changeCondition_52 : decode prog_6_method_19_code 52 = .ok (.goto 95, 3) := by decide +kernel
theorem d_EX_changeCondition_55 : decode prog_6_method_19_code 55 = .ok (.aload_n 0, 1) := by decide +kernel
theorem d_EX_changeCondition_56 : decode prog_6_method_19_code 56 = .ok (.getfield 12, 3) := by decide +kernel
theorem d_EX_changeCondition_59 : decode prog_6_method_19_code 59 = .ok (.invokevirtual 354, 3) := by decide +kernel
theorem d_EX_changeCondition_62 : decode prog_6_method_19_code 62 = .ok (.ifCond .eq 12, 3) := by decide +kernel
theorem d_EX_changeCondition_65 : decode prog_6_method_19_code 65 = .ok (.aload_n 0, 1) := by decide +kernel
theorem d_EX_changeCondition_66 : decode prog_6_method_19_code 66 = .ok (.iconst 5, 1) := by decide +kernel
theorem d_EX_changeCondition_67 : decode prog_6_method_19_code 67 = .ok (.invokevirtual 154, 3) := by decide +kernel
theorem d_EX_changeCondition_70 : decode prog_6_method_19_code 70 = .ok (.pop, 1) := by decide +kernel
theorem d_EX_changeCondition_71 : decode prog_6_method_19_code 71 = .ok (.goto 76, 3) := by decide +kernel
theorem d_EX_changeCondition_74 : decode prog_6_method_19_code 74 = .ok (.aload_n 0, 1) := by decide +kernel
theorem d_EX_changeCondition_75 : decode prog_6_method_19_code 75 = .ok (.getfield 35, 3) := by decide +kernel
theorem d_EX_changeCondition_78 : decode prog_6_method_19_code 78 = .ok (.getstatic 357, 3) := by decide +kernel
theorem d_EX_changeCondition_81 : decode prog_6_method_19_code 81 = .ok (.if_acmp .ne 13, 3) := by decide +kernel
theorem d_EX_changeCondition_84 : decode prog_6_method_19_code 84 = .ok (.aload_n 0, 1) := by decide +kernel
theorem d_EX_changeCondition_85 : decode prog_6_method_19_code 85 = .ok (.getfield 12, 3) := by decide +kernel
theorem d_EX_changeCondition_88 : decode prog_6_method_19_code 88 = .ok (.invokevirtual 360, 3) := by decide +kernel
theorem d_EX_changeCondition_91 : decode prog_6_method_19_code 91 = .ok (.goto 56, 3) := by decide +kernel
theorem d_EX_changeCondition_94 : decode prog_6_method_19_code 94 = .ok (.aload_n 0, 1) := by decide +kernel
theorem d_EX_changeCondition_95 : decode prog_6_method_19_code 95 = .ok (.getfield 12, 3) := by decide +kernel
theorem d_EX_changeCondition_98 : decode prog_6_method_19_code 98 = .ok (.invokevirtual 184, 3) := by decide +kernel
theorem d_EX_changeCondition_101 : decode prog_6_method_19_code 101 = .ok (.ifCond .ne 14, 3) := by decide +kernel
theorem d_EX_changeCondition_104 : decode prog_6_method_19_code 104 = .ok (.aload_n 0, 1) := by decide +kernel
theorem d_EX_changeCondition_105 : decode prog_6_method_19_code 105 = .ok (.getfield 12, 3) := by decide +kernel
theorem d_EX_changeCondition_108 : decode prog_6_method_19_code 108 = .ok (.iconst 0, 1) := by decide +kernel
theorem d_EX_changeCondition_109 : decode prog_6_method_19_code 109 = .ok (.invokevirtual 363, 3) := by decide +kernel
theorem d_EX_changeCondition_112 : decode prog_6_method_19_code 112 = .ok (.goto 35, 3) := by decide +kernel
theorem d_EX_changeCondition_115 : decode prog_6_method_19_code 115 = .ok (.aload_n 0, 1) := by decide +kernel
theorem d_EX_changeCondition_116 : decode prog_6_method_19_code 116 = .ok (.getfield 56, 3) := by decide +kernel
theorem d_EX_changeCondition_119 : decode prog_6_method_19_code 119 = .ok (.iconst 0, 1) := by decide +kernel
theorem d_EX_changeCondition_120 : decode prog_6_method_19_code 120 = .ok (.invokevirtual 325, 3) := by decide +kernel
theorem d_EX_changeCondition_123 : decode prog_6_method_19_code 123 = .ok (.istore_n 1, 1) := by decide +kernel
theorem d_EX_changeCondition_124 : decode prog_6_method_19_code 124 = .ok (.aload_n 0, 1) := by decide +kernel
theorem d_EX_changeCondition_125 : decode prog_6_method_19_code 125 = .ok (.invokevirtual 328, 3) := by decide +kernel
theorem d_EX_changeCondition_128 : decode prog_6_method_19_code 128 = .ok (.ifCond .eq 19, 3) := by decide +kernel
theorem d_EX_changeCondition_131 : decode prog_6_method_19_code 131 = .ok (.aload_n 0, 1) := by decide +kernel
theorem d_EX_changeCondition_132 : decode prog_6_method_19_code 132 = .ok (.getfield 12, 3) := by decide +kernel
theorem d_EX_changeCondition_135 : decode prog_6_method_19_code 135 = .ok (.iload_n 1, 1) := by decide +kernel
theorem d_EX_changeCondition_136 : decode prog_6_method_19_code 136 = .ok (.ifCond .eq 7, 3) := by decide +kernel
theorem d_EX_changeCondition_139 : decode prog_6_method_19_code 139 = .ok (.iconst 1, 1) := by decide +kernel
theorem d_EX_changeCondition_140 : decode prog_6_method_19_code 140 = .ok (.goto 4, 3) := by decide +kernel
theorem d_EX_changeCondition_143 : decode prog_6_method_19_code 143 = .ok (.iconst 0, 1) := by decide +kernel
theorem d_EX_changeCondition_144 : decode prog_6_method_19_code 144 = .ok (.invokevirtual 363, 3) := by decide +kernel
theorem d_EX_changeCondition_147 : decode prog_6_method_19_code 147 = .ok (.return_, 1) := by decide +kernel
theorem d_EX_keepUpToEndm_0 : decode prog_6_method_21_code 0 = .ok (.aload_n 0, 1) := by decide +kernel
theorem d_EX_keepUpToEndm_1 : decode prog_6_method_21_code 1 = .ok (.getfield 144, 3) := by decide +kernel
theorem d_EX_keepUpToEndm_4 : decode prog_6_method_21_code 4 = .ok (.istore_n 1, 1) := by decide +kernel
theorem d_EX_keepUpToEndm_5 : decode prog_6_method_21_code 5 = .ok (.aload_n 0, 1) := by decide +kernel
theorem d_EX_keepUpToEndm_6 : decode prog_6_method_21_code 6 = .ok (.getfield 72, 3) := by decide +kernel
theorem d_EX_keepUpToEndm_9 : decode prog_6_method_21_code 9 = .ok (.invokevirtual 83, 3) := by decide +kernel
theorem d_EX_keepUpToEndm_12 : decode prog_6_method_21_code 12 = .ok (.astore_n 2, 1) := by decide +kernel
theorem d_EX_keepUpToEndm_13 : decode prog_6_method_21_code 13 = .ok (.aload_n 2, 1) := by decide +kernel
theorem d_EX_keepUpToEndm_14 : decode prog_6_method_21_code 14 = .ok (.getfield 87, 3) := by decide +kernel
theorem d_EX_keepUpToEndm_17 : decode prog_6_method_21_code 17 = .ok (.istore_n 3, 1) := by decide +kernel
theorem d_EX_keepUpToEndm_18 : decode prog_6_method_21_code 18 = .ok (.iload_n 3, 1) := by decide +kernel
theorem d_EX_keepUpToEndm_19 : decode prog_6_method_21_code 19 = .ok (.aload_n 2, 1) := by decide +kernel
theorem d_EX_keepUpToEndm_20 : decode prog_6_method_21_code 20 = .ok (.getfield 92, 3) := by decide +kernel
theorem d_EX_keepUpToEndm_23 : decode prog_6_method_21_code 23 = .ok (.if_icmp .ge 68, 3) := by decide +kernel
theorem d_EX_keepUpToEndm_26 : decode prog_6_method_21_code 26 = .ok (.aload_n 0, 1) := by decide +kernel
theorem d_EX_keepUpToEndm_27 : decode prog_6_method_21_code 27 = .ok (.aload_n 2, 1) := by decide +kernel
theorem d_EX_keepUpToEndm_28 : decode prog_6_method_21_code 28 = .ok (.invokevirtual 99, 3) := by decide +kernel
theorem d_EX_keepUpToEndm_31 : decode prog_6_method_21_code 31 = .ok (.ifCond .ne 5, 3) := by decide +kernel
theorem d_EX_keepUpToEndm_34 : decode prog_6_method_21_code 34 = .ok (.iconst 0, 1) := by decide +kernel
theorem d_EX_keepUpToEndm_35 : decode prog_6_method_21_code 35 = .ok (.ireturn, 1) := by decide +kernel
theorem d_EX_keepUpToEndm_36 : decode prog_6_method_21_code 36 = .ok (.aload_n 0, 1) := by decide +kernel
theorem d_EX_keepUpToEndm_37 : decode prog_6_method_21_code 37 = .ok (.getfield 38, 3) := by decide +kernel
theorem d_EX_keepUpToEndm_40 : decode prog_6_method_21_code 40 = .ok (.aload_n 0, 1) := by decide +kernel
theorem d_EX_keepUpToEndm_41 : decode prog_6_method_21_code 41 = .ok (.getfield 38, 3) := by decide +kernel
theorem d_EX_keepUpToEndm_44 : decode prog_6_method_21_code 44 = .ok (.iload_n 3, 1) := by decide +kernel
theorem d_EX_keepUpToEndm_45 : decode prog_6_method_21_code 45 = .ok (.invokevirtual 166, 3) := by decide +kernel
theorem d_EX_keepUpToEndm_48 : decode prog_6_method_21_code 48 = .ok (.aload_n 0, 1) := by decide +kernel
theorem d_EX_keepUpToEndm_49 : decode prog_6_method_21_code 49 = .ok (.getfield 38, 3) := by decide +kernel
theorem d_EX_keepUpToEndm_52 : decode prog_6_method_21_code 52 = .ok (.iload_n 3, 1) := by decide +kernel
theorem d_EX_keepUpToEndm_53 : decode prog_6_method_21_code 53 = .ok (.invokevirtual 173, 3) := by decide +kernel
theorem d_EX_keepUpToEndm_56 : decode prog_6_method_21_code 56 = .ok (.invokestatic 177, 3) := by decide +kernel
theorem d_EX_keepUpToEndm_59 : decode prog_6_method_21_code 59 = .ok (.astore 4, 2) := by decide +kernel
theorem d_EX_keepUpToEndm_61 : decode prog_6_method_21_code 61 = .ok (.aload 4, 2) := by decide +kernel
theorem d_EX_keepUpToEndm_63 : decode prog_6_method_21_code 63 = .ok (.getstatic 282, 3) := by decide +kernel
theorem d_EX_keepUpToEndm_66 : decode prog_6_method_21_code 66 = .ok (.if_acmp .ne 9, 3) := by decide +kernel
theorem d_EX_keepUpToEndm_69 : decode prog_6_method_21_code 69 = .ok (.aload_n 0, 1) := by decide +kernel
theorem d_EX_keepUpToEndm_70 : decode prog_6_method_21_code 70 = .ok (.iconst 5, 1) := by decide +kernel
theorem d_EX_keepUpToEndm_71 : decode prog_6_method_21_code 71 = .ok (.invokevirtual 154, 3) := by decide +kernel
theorem d_EX_keepUpToEndm_74 : decode prog_6_method_21_code 74 = .ok (.ireturn, 1) := by decide +kernel
theorem d_EX_keepUpToEndm_75 : decode prog_6_method_21_code 75 = .ok (.aload 4, 2) := by decide +kernel
theorem d_EX_keepUpToEndm_77 : decode prog_6_method_21_code 77 = .ok (.getstatic 374, 3) := by decide +kernel
theorem d_EX_keepUpToEndm_80 : decode prog_6_method_21_code 80 = .ok (.if_acmp .ne 5, 3) := by decide +kernel
theorem d_EX_keepUpToEndm_83 : decode prog_6_method_21_code 83 = .ok (.iconst 1, 1) := by decide +kernel
theorem d_EX_keepUpToEndm_84 : decode prog_6_method_21_code 84 = .ok (.ireturn, 1) := by decide +kernel
theorem d_EX_keepUpToEndm_85 : decode prog_6_method_21_code 85 = .ok (.iinc 3 1, 3) := by decide +kernel
theorem d_EX_keepUpToEndm_88 : decode prog_6_method_21_code 88 = .ok (.goto (-70), 3) := by decide +kernel
theorem d_EX_keepUpToEndm_91 : decode prog_6_method_21_code 91 = .ok (.aload_n 0, 1) := by decide +kernel
theorem d_EX_keepUpToEndm_92 : decode prog_6_method_21_code 92 = .ok (.iload_n 1, 1) := by decide +kernel
theorem d_EX_keepUpToEndm_93 : decode prog_6_method_21_code 93 = .ok (.putfield 144, 3) := by decide +kernel
theorem d_EX_keepUpToEndm_96 : decode prog_6_method_21_code 96 = .ok (.aload_n 0, 1) := by decide +kernel
theorem d_EX_keepUpToEndm_97 : decode prog_6_method_21_code 97 = .ok (.iconst 5, 1) := by decide +kernel
theorem d_EX_keepUpToEndm_98 : decode prog_6_method_21_code 98 = .ok (.invokevirtual 154, 3) := by decide +kernel
theorem d_EX_keepUpToEndm_101 : decode prog_6_method_21_code 101 = .ok (.ireturn, 1) := by decide +kernel
theorem d_EX_defineMacro_0 : decode prog_6_method_20_code 0 = .ok (.aload_n 0, 1) := by decide +kernel
theorem d_EX_defineMacro_1 : decode prog_6_method_20_code 1 = .ok (.getfield 144, 3) := by decide +kernel
theorem d_EX_defineMacro_4 : decode prog_6_method_20_code 4 = .ok (.istore_n 2, 1) := by decide +kernel
theorem d_EX_defineMacro_5 : decode prog_6_method_20_code 5 = .ok (.iload_n 1, 1) := by decide +kernel
theorem d_EX_defineMacro_6 : decode prog_6_method_20_code 6 = .ok (.ifCond .ne 12, 3) := by decide +kernel
theorem d_EX_defineMacro_9 : decode prog_6_method_20_code 9 = .ok (.aload_n 0, 1) := by decide +kernel
theorem d_EX_defineMacro_10 : decode prog_6_method_20_code 10 = .ok (.iconst 1, 1) := by decide +kernel
theorem d_EX_defineMacro_11 : decode prog_6_method_20_code 11 = .ok (.invokevirtual 154, 3) := by decide +kernel
theorem d_EX_defineMacro_14 : decode prog_6_method_20_code 14 = .ok (.pop, 1) := by decide +kernel
theorem d_EX_defineMacro_15 : decode prog_6_method_20_code 15 = .ok (.goto 81, 3) := by decide +kernel
theorem d_EX_defineMacro_18 : decode prog_6_method_20_code 18 = .ok (.aload_n 0, 1) := by decide +kernel
theorem d_EX_defineMacro_19 : decode prog_6_method_20_code 19 = .ok (.getfield 63, 3) := by decide +kernel
theorem d_EX_defineMacro_22 : decode prog_6_method_20_code 22 = .ok (.invokevirtual 366, 3) := by decide +kernel
theorem d_EX_defineMacro_25 : decode prog_6_method_20_code 25 = .ok (.ifCond .eq 12, 3) := by decide +kernel
theorem d_EX_defineMacro_28 : decode prog_6_method_20_code 28 = .ok (.aload_n 0, 1) := by decide +kernel
theorem d_EX_defineMacro_29 : decode prog_6_method_20_code 29 = .ok (.iconst 2, 1) := by decide +kernel
theorem d_EX_defineMacro_30 : decode prog_6_method_20_code 30 = .ok (.invokevirtual 154, 3) := by decide +kernel
theorem d_EX_defineMacro_33 : decode prog_6_method_20_code 33 = .ok (.pop, 1) := by decide +kernel
theorem d_EX_defineMacro_34 : decode prog_6_method_20_code 34 = .ok (.goto 62, 3) := by decide +kernel
theorem d_EX_defineMacro_37 : decode prog_6_method_20_code 37 = .ok (.aload_n 0, 1) := by decide +kernel
theorem d_EX_defineMacro_38 : decode prog_6_method_20_code 38 = .ok (.getfield 72, 3) := by decide +kernel
theorem d_EX_defineMacro_41 : decode prog_6_method_20_code 41 = .ok (.getfield 141, 3) := by decide +kernel
theorem d_EX_defineMacro_44 : decode prog_6_method_20_code 44 = .ok (.ifCond .le 12, 3) := by decide +kernel
theorem d_EX_defineMacro_47 : decode prog_6_method_20_code 47 = .ok (.aload_n 0, 1) := by decide +kernel
theorem d_EX_defineMacro_48 : decode prog_6_method_20_code 48 = .ok (.iconst 5, 1) := by decide +kernel
theorem d_EX_defineMacro_49 : decode prog_6_method_20_code 49 = .ok (.invokevirtual 154, 3) := by decide +kernel
theorem d_EX_defineMacro_52 : decode prog_6_method_20_code 52 = .ok (.pop, 1) := by decide +kernel
theorem d_EX_defineMacro_53 : decode prog_6_method_20_code 53 = .ok (.goto 43, 3) := by decide +kernel
theorem d_EX_defineMacro_56 : decode prog_6_method_20_code 56 = .ok (.aload_n 0, 1) := by decide +kernel
theorem d_EX_defineMacro_57 : decode prog_6_method_20_code 57 = .ok (.invokevirtual 369, 3) := by decide +kernel
theorem d_EX_defineMacro_60 : decode prog_6_method_20_code 60 = .ok (.ifCond .eq 36, 3) := by decide +kernel
theorem d_EX_defineMacro_63 : decode prog_6_method_20_code 63 = .ok (.aload_n 0, 1) := by decide +kernel
theorem d_EX_defineMacro_64 : decode prog_6_method_20_code 64 = .ok (.getfield 144, 3) := by decide +kernel
theorem d_EX_defineMacro_67 : decode prog_6_method_20_code 67 = .ok (.iload_n 2, 1) := by decide +kernel
theorem d_EX_defineMacro_68 : decode prog_6_method_20_code 68 = .ok (.isub, 1) := by decide +kernel
theorem d_EX_defineMacro_69 : decode prog_6_method_20_code 69 = .ok (.iconst 1, 1) := by decide +kernel
theorem d_EX_defineMacro_70 : decode prog_6_method_20_code 70 = .ok (.isub, 1) := by decide +kernel
theorem d_EX_defineMacro_71 : decode prog_6_method_20_code 71 = .ok (.istore_n 3, 1) := by decide +kernel
theorem d_EX_defineMacro_72 : decode prog_6_method_20_code 72 = .ok (.aload_n 0, 1) := by decide +kernel
theorem d_EX_defineMacro_73 : decode prog_6_method_20_code 73 = .ok (.iload_n 2, 1) := by decide +kernel
theorem d_EX_defineMacro_74 : decode prog_6_method_20_code 74 = .ok (.putfield 144, 3) := by decide +kernel
theorem d_EX_defineMacro_77 : decode prog_6_method_20_code 77 = .ok (.aload_n 0, 1) := by decide +kernel
theorem d_EX_defineMacro_78 : decode prog_6_method_20_code 78 = .ok (.getfield 63, 3) := by decide +kernel
theorem d_EX_defineMacro_81 : decode prog_6_method_20_code 81 = .ok (.iload_n 2, 1) := by decide +kernel
theorem d_EX_defineMacro_82 : decode prog_6_method_20_code 82 = .ok (.iload_n 3, 1) := by decide +kernel
theorem d_EX_defineMacro_83 : decode prog_6_method_20_code 83 = .ok (.invokevirtual 372, 3) := by decide +kernel
theorem d_EX_defineMacro_86 : decode prog_6_method_20_code 86 = .ok (.ifCond .ne 10, 3) := by decide +kernel
theorem d_EX_defineMacro_89 : decode prog_6_method_20_code 89 = .ok (.aload_n 0, 1) := by decide +kernel
theorem d_EX_defineMacro_90 : decode prog_6_method_20_code 90 = .ok (.bipush 6, 2) := by decide +kernel
theorem d_EX_defineMacro_92 : decode prog_6_method_20_code 92 = .ok (.invokevirtual 154, 3) := by decide +kernel
theorem d_EX_defineMacro_95 : decode prog_6_method_20_code 95 = .ok (.pop, 1) := by decide +kernel
theorem d_EX_defineMacro_96 : decode prog_6_method_20_code 96 = .ok (.return_, 1) := by decide +kernel
theorem d_EX_keepUpToEndr_0 : decode prog_6_method_22_code 0 = .ok (.aload_n 0, 1) := by decide +kernel
theorem d_EX_keepUpToEndr_1 : decode prog_6_method_22_code 1 = .ok (.getfield 144, 3) := by decide +kernel
theorem d_EX_keepUpToEndr_4 : decode prog_6_method_22_code 4 = .ok (.istore_n 1, 1) := by decide +kernel
theorem d_EX_keepUpToEndr_5 : decode prog_6_method_22_code 5 = .ok (.aload_n 0, 1) := by decide +kernel
theorem d_EX_keepUpToEndr_6 : decode prog_6_method_22_code 6 = .ok (.getfield 72, 3) := by decide +kernel
theorem d_EX_keepUpToEndr_9 : decode prog_6_method_22_code 9 = .ok (.invokevirtual 83, 3) := by decide +kernel
theorem d_EX_keepUpToEndr_12 : decode prog_6_method_22_code 12 = .ok (.astore_n 2, 1) := by decide +kernel
theorem d_EX_keepUpToEndr_13 : decode prog_6_method_22_code 13 = .ok (.iconst 1, 1) := by decide +kernel
theorem d_EX_keepUpToEndr_14 : decode prog_6_method_22_code 14 = .ok (.istore_n 3, 1) := by decide +kernel
theorem d_EX_keepUpToEndr_15 : decode prog_6_method_22_code 15 = .ok (.aload_n 2, 1) := by decide +kernel
theorem d_EX_keepUpToEndr_16 : decode prog_6_method_22_code 16 = .ok (.getfield 87, 3) := by decide +kernel
theorem d_EX_keepUpToEndr_19 : decode prog_6_method_22_code 19 = .ok (.istore 4, 2) := by decide +kernel
theorem d_EX_keepUpToEndr_21 : decode prog_6_method_22_code 21 = .ok (.iload 4, 2) := by decide +kernel
theorem d_EX_keepUpToEndr_23 : decode prog_6_method_22_code 23 = .ok (.aload_n 2, 1) := by decide +kernel
theorem d_EX_keepUpToEndr_24 : decode prog_6_method_22_code 24 = .ok (.getfield 92, 3) := by decide +kernel
theorem d_EX_keepUpToEndr_27 : decode prog_6_method_22_code 27 = .ok (.if_icmp .ge 85, 3) := by decide +kernel
theorem d_EX_keepUpToEndr_30 : decode prog_6_method_22_code 30 = .ok (.aload_n 0, 1) := by decide +kernel
theorem d_EX_keepUpToEndr_31 : decode prog_6_method_22_code 31 = .ok (.aload_n 2, 1) := by decide +kernel
theorem d_EX_keepUpToEndr_32 : decode prog_6_method_22_code 32 = .ok (.invokevirtual 99, 3) := by decide +kernel
theorem d_EX_keepUpToEndr_35 : decode prog_6_method_22_code 35 = .ok (.ifCond .ne 5, 3) := by decide +kernel
theorem d_EX_keepUpToEndr_38 : decode prog_6_method_22_code 38 = .ok (.iconst 0, 1) := by decide +kernel
theorem d_EX_keepUpToEndr_39 : decode prog_6_method_22_code 39 = .ok (.ireturn, 1) := by decide +kernel
theorem d_EX_keepUpToEndr_40 : decode prog_6_method_22_code 40 = .ok (.aload_n 0, 1) := by decide +kernel
theorem d_EX_keepUpToEndr_41 : decode prog_6_method_22_code 41 = .ok (.getfield 38, 3) := by decide +kernel
theorem d_EX_keepUpToEndr_44 : decode prog_6_method_22_code 44 = .ok (.aload_n 0, 1) := by decide +kernel
theorem d_EX_keepUpToEndr_45 : decode prog_6_method_22_code 45 = .ok (.getfield 38, 3) := by decide +kernel
theorem d_EX_keepUpToEndr_48 : decode prog_6_method_22_code 48 = .ok (.iload 4, 2) := by decide +kernel
theorem d_EX_keepUpToEndr_50 : decode prog_6_method_22_code 50 = .ok (.invokevirtual 166, 3) := by decide +kernel
theorem d_EX_keepUpToEndr_53 : decode prog_6_method_22_code 53 = .ok (.aload_n 0, 1) := by decide +kernel
theorem d_EX_keepUpToEndr_54 : decode prog_6_method_22_code 54 = .ok (.getfield 38, 3) := by decide +kernel
theorem d_EX_keepUpToEndr_57 : decode prog_6_method_22_code 57 = .ok (.iload 4, 2) := by decide +kernel
theorem d_EX_keepUpToEndr_59 : decode prog_6_method_22_code 59 = .ok (.invokevirtual 173, 3) := by decide +kernel
theorem d_EX_keepUpToEndr_62 : decode prog_6_method_22_code 62 = .ok (.invokestatic 177, 3) := by decide +kernel
theorem d_EX_keepUpToEndr_65 : decode prog_6_method_22_code 65 = .ok (.astore 5, 2) := by decide +kernel
theorem d_EX_keepUpToEndr_67 : decode prog_6_method_22_code 67 = .ok (.aload 5, 2) := by decide +kernel
theorem d_EX_keepUpToEndr_69 : decode prog_6_method_22_code 69 = .ok (.getstatic 377, 3) := by decide +kernel
theorem d_EX_keepUpToEndr_72 : decode prog_6_method_22_code 72 = .ok (.if_acmp .eq 11, 3) := by decide +kernel
theorem d_EX_keepUpToEndr_75 : decode prog_6_method_22_code 75 = .ok (.aload 5, 2) := by decide +kernel
theorem d_EX_keepUpToEndr_77 : decode prog_6_method_22_code 77 = .ok (.getstatic 380, 3) := by decide +kernel
theorem d_EX_keepUpToEndr_80 : decode prog_6_method_22_code 80 = .ok (.if_acmp .ne 9, 3) := by decide +kernel
theorem d_EX_keepUpToEndr_83 : decode prog_6_method_22_code 83 = .ok (.iinc 3 1, 3) := by decide +kernel
theorem d_EX_keepUpToEndr_86 : decode prog_6_method_22_code 86 = .ok (.goto 14, 3) := by decide +kernel
theorem d_EX_keepUpToEndr_89 : decode prog_6_method_22_code 89 = .ok (.aload 5, 2) := by decide +kernel
theorem d_EX_keepUpToEndr_91 : decode prog_6_method_22_code 91 = .ok (.getstatic 383, 3) := by decide +kernel
theorem d_EX_keepUpToEndr_94 : decode prog_6_method_22_code 94 = .ok (.if_acmp .ne 6, 3) := by decide +kernel
theorem d_EX_keepUpToEndr_97 : decode prog_6_method_22_code 97 = .ok (.iinc 3 (-1), 3) := by decide +kernel
theorem d_EX_keepUpToEndr_100 : decode prog_6_method_22_code 100 = .ok (.iload_n 3, 1) := by decide +kernel
theorem d_EX_keepUpToEndr_101 : decode prog_6_method_22_code 101 = .ok (.ifCond .ne 5, 3) := by decide +kernel
theorem d_EX_keepUpToEndr_104 : decode prog_6_method_22_code 104 = .ok (.iconst 1, 1) := by decide +kernel
theorem d_EX_keepUpToEndr_105 : decode prog_6_method_22_code 105 = .ok (.ireturn, 1) := by decide +kernel
theorem d_EX_keepUpToEndr_106 : decode prog_6_method_22_code 106 = .ok (.iinc 4 1, 3) := by decide +kernel
theorem d_EX_keepUpToEndr_109 : decode prog_6_method_22_code 109 = .ok (.goto (-88), 3) := by decide +kernel
theorem d_EX_keepUpToEndr_112 : decode prog_6_method_22_code 112 = .ok (.aload_n 0, 1) := by decide +kernel
theorem d_EX_keepUpToEndr_113 : decode prog_6_method_22_code 113 = .ok (.iload_n 1, 1) := by decide +kernel
theorem d_EX_keepUpToEndr_114 : decode prog_6_method_22_code 114 = .ok (.putfield 144, 3) := by decide +kernel
theorem d_EX_keepUpToEndr_117 : decode prog_6_method_22_code 117 = .ok (.aload_n 0, 1) := by decide +kernel
theorem d_EX_keepUpToEndr_118 : decode prog_6_method_22_code 118 = .ok (.iconst 5, 1) := by decide +kernel
theorem d_EX_keepUpToEndr_119 : decode prog_6_method_22_code 119 = .ok (.invokevirtual 154, 3) := by decide +kernel
theorem d_EX_keepUpToEndr_122 : decode prog_6_method_22_code 122 = .ok (.ireturn, 1) := by decide +kernel
theorem d_EX_openRepeated_0 : decode prog_6_method_25_code 0 = .ok (.aload_n 0, 1) := by decide +kernel
theorem d_EX_openRepeated_1 : decode prog_6_method_25_code 1 = .ok (.getfield 144, 3) := by decide +kernel
theorem d_EX_openRepeated_4 : decode prog_6_method_25_code 4 = .ok (.istore 4, 2) := by decide +kernel
theorem d_EX_openRepeated_6 : decode prog_6_method_25_code 6 = .ok (.aload_n 0, 1) := by decide +kernel
theorem d_EX_openRepeated_7 : decode prog_6_method_25_code 7 = .ok (.iload_n 2, 1) := by decide +kernel
theorem d_EX_openRepeated_8 : decode prog_6_method_25_code 8 = .ok (.putfield 144, 3) := by decide +kernel
theorem d_EX_openRepeated_11 : decode prog_6_method_25_code 11 = .ok (.iload_n 3, 1) := by decide +kernel
theorem d_EX_openRepeated_12 : decode prog_6_method_25_code 12 = .ok (.ifCond .ne 4, 3) := by decide +kernel
theorem d_EX_openRepeated_15 : decode prog_6_method_25_code 15 = .ok (.return_, 1) := by decide +kernel
theorem d_EX_openRepeated_16 : decode prog_6_method_25_code 16 = .ok (.aload_n 0, 1) := by decide +kernel
theorem d_EX_openRepeated_17 : decode prog_6_method_25_code 17 = .ok (.getfield 72, 3) := by decide +kernel
theorem d_EX_openRepeated_20 : decode prog_6_method_25_code 20 = .ok (.invokevirtual 276, 3) := by decide +kernel
theorem d_EX_openRepeated_23 : decode prog_6_method_25_code 23 = .ok (.aload_n 1, 1) := by decide +kernel
theorem d_EX_openRepeated_24 : decode prog_6_method_25_code 24 = .ok (.iload_n 2, 1) := by decide +kernel
theorem d_EX_openRepeated_25 : decode prog_6_method_25_code 25 = .ok (.iconst 1, 1) := by decide +kernel
theorem d_EX_openRepeated_26 : decode prog_6_method_25_code 26 = .ok (.iadd, 1) := by decide +kernel
theorem d_EX_openRepeated_27 : decode prog_6_method_25_code 27 = .ok (.iload 4, 2) := by decide +kernel
theorem d_EX_openRepeated_29 : decode prog_6_method_25_code 29 = .ok (.iload_n 3, 1) := by decide +kernel
theorem d_EX_openRepeated_30 : decode prog_6_method_25_code 30 = .ok (.aload_n 0, 1) := by decide +kernel
theorem d_EX_openRepeated_31 : decode prog_6_method_25_code 31 = .ok (.getfield 12, 3) := by decide +kernel
theorem d_EX_openRepeated_34 : decode prog_6_method_25_code 34 = .ok (.getfield 134, 3) := by decide +kernel
theorem d_EX_openRepeated_37 : decode prog_6_method_25_code 37 = .ok (.invokevirtual 288, 3) := by decide +kernel
theorem d_EX_openRepeated_40 : decode prog_6_method_25_code 40 = .ok (.aload_n 0, 1) := by decide +kernel
theorem d_EX_openRepeated_41 : decode prog_6_method_25_code 41 = .ok (.getfield 72, 3) := by decide +kernel
theorem d_EX_openRepeated_44 : decode prog_6_method_25_code 44 = .ok (.iload_n 2, 1) := by decide +kernel
theorem d_EX_openRepeated_45 : decode prog_6_method_25_code 45 = .ok (.invokevirtual 297, 3) := by decide +kernel
theorem d_EX_openRepeated_48 : decode prog_6_method_25_code 48 = .ok (.ifCond .ne 10, 3) := by decide +kernel
theorem d_EX_openRepeated_51 : decode prog_6_method_25_code 51 = .ok (.aload_n 0, 1) := by decide +kernel
theorem d_EX_openRepeated_52 : decode prog_6_method_25_code 52 = .ok (.bipush 6, 2) := by decide +kernel
theorem d_EX_openRepeated_54 : decode prog_6_method_25_code 54 = .ok (.invokevirtual 154, 3) := by decide +kernel
theorem d_EX_openRepeated_57 : decode prog_6_method_25_code 57 = .ok (.pop, 1) := by decide +kernel
theorem d_EX_openRepeated_58 : decode prog_6_method_25_code 58 = .ok (.return_, 1) := by decide +kernel
theorem d_EX_openRept_0 : decode prog_6_method_23_code 0 = .ok (.aload_n 0, 1) := by decide +kernel
theorem d_EX_openRept_1 : decode prog_6_method_23_code 1 = .ok (.getfield 144, 3) := by decide +kernel
theorem d_EX_openRept_4 : decode prog_6_method_23_code 4 = .ok (.istore_n 1, 1) := by decide +kernel
theorem d_EX_openRept_5 : decode prog_6_method_23_code 5 = .ok (.aload_n 0, 1) := by decide +kernel
theorem d_EX_openRept_6 : decode prog_6_method_23_code 6 = .ok (.getfield 56, 3) := by decide +kernel
theorem d_EX_openRept_9 : decode prog_6_method_23_code 9 = .ok (.iconst 0, 1) := by decide +kernel
theorem d_EX_openRept_10 : decode prog_6_method_23_code 10 = .ok (.invokevirtual 325, 3) := by decide +kernel
theorem d_EX_openRept_13 : decode prog_6_method_23_code 13 = .ok (.istore_n 2, 1) := by decide +kernel
theorem d_EX_openRept_14 : decode prog_6_method_23_code 14 = .ok (.aload_n 0, 1) := by decide +kernel
theorem d_EX_openRept_15 : decode prog_6_method_23_code 15 = .ok (.invokevirtual 328, 3) := by decide +kernel
theorem d_EX_openRept_18 : decode prog_6_method_23_code 18 = .ok (.ifCond .ne 4, 3) := by decide +kernel
theorem d_EX_openRept_21 : decode prog_6_method_23_code 21 = .ok (.return_, 1) := by decide +kernel
theorem d_EX_openRept_22 : decode prog_6_method_23_code 22 = .ok (.iload_n 2, 1) := by decide +kernel
theorem d_EX_openRept_23 : decode prog_6_method_23_code 23 = .ok (.ifCond .lt 9, 3) := by decide +kernel
theorem d_EX_openRept_26 : decode prog_6_method_23_code 26 = .ok (.iload_n 2, 1) := by decide +kernel
theorem d_EX_openRept_27 : decode prog_6_method_23_code 27 = .ok (.bipush 100, 2) := by decide +kernel
theorem d_EX_openRept_29 : decode prog_6_method_23_code 29 = .ok (.if_icmp .le 12, 3) := by decide +kernel
theorem d_EX_openRept_32 : decode prog_6_method_23_code 32 = .ok (.aload_n 0, 1) := by decide +kernel
theorem d_EX_openRept_33 : decode prog_6_method_23_code 33 = .ok (.iconst 4, 1) := by decide +kernel
theorem d_EX_openRept_34 : decode prog_6_method_23_code 34 = .ok (.invokevirtual 154, 3) := by decide +kernel
theorem d_EX_openRept_37 : decode prog_6_method_23_code 37 = .ok (.pop, 1) := by decide +kernel
theorem d_EX_openRept_38 : decode prog_6_method_23_code 38 = .ok (.goto 19, 3) := by decide +kernel
theorem d_EX_openRept_41 : decode prog_6_method_23_code 41 = .ok (.aload_n 0, 1) := by decide +kernel
theorem d_EX_openRept_42 : decode prog_6_method_23_code 42 = .ok (.invokevirtual 386, 3) := by decide +kernel
theorem d_EX_openRept_45 : decode prog_6_method_23_code 45 = .ok (.ifCond .eq 12, 3) := by decide +kernel
theorem d_EX_openRept_48 : decode prog_6_method_23_code 48 = .ok (.aload_n 0, 1) := by decide +kernel
theorem d_EX_openRept_49 : decode prog_6_method_23_code 49 = .ok (.getstatic 377, 3) := by decide +kernel
theorem d_EX_openRept_52 : decode prog_6_method_23_code 52 = .ok (.iload_n 1, 1) := by decide +kernel
theorem d_EX_openRept_53 : decode prog_6_method_23_code 53 = .ok (.iload_n 2, 1) := by decide +kernel
theorem d_EX_openRept_54 : decode prog_6_method_23_code 54 = .ok (.invokevirtual 389, 3) := by decide +kernel
theorem d_EX_openRept_57 : decode prog_6_method_23_code 57 = .ok (.return_, 1) := by decide +kernel
theorem d_EX_openEach_0 : decode prog_6_method_24_code 0 = .ok (.aload_n 0, 1) := by decide +kernel
theorem d_EX_openEach_1 : decode prog_6_method_24_code 1 = .ok (.getfield 144, 3) := by decide +kernel
theorem d_EX_openEach_4 : decode prog_6_method_24_code 4 = .ok (.istore_n 1, 1) := by decide +kernel
theorem d_EX_openEach_5 : decode prog_6_method_24_code 5 = .ok (.aload_n 0, 1) := by decide +kernel
theorem d_EX_openEach_6 : decode prog_6_method_24_code 6 = .ok (.getfield 56, 3) := by decide +kernel
theorem d_EX_openEach_9 : decode prog_6_method_24_code 9 = .ok (.invokevirtual 313, 3) := by decide +kernel
theorem d_EX_openEach_12 : decode prog_6_method_24_code 12 = .ok (.ifCond .eq 15, 3) := by decide +kernel
theorem d_EX_openEach_15 : decode prog_6_method_24_code 15 = .ok (.aload_n 0, 1) := by decide +kernel
theorem d_EX_openEach_16 : decode prog_6_method_24_code 16 = .ok (.getfield 56, 3) := by decide +kernel
theorem d_EX_openEach_19 : decode prog_6_method_24_code 19 = .ok (.bipush 44, 2) := by decide +kernel
theorem d_EX_openEach_21 : decode prog_6_method_24_code 21 = .ok (.invokevirtual 316, 3) := by decide +kernel
theorem d_EX_openEach_24 : decode prog_6_method_24_code 24 = .ok (.ifCond .ne 10, 3) := by decide +kernel
theorem d_EX_openEach_27 : decode prog_6_method_24_code 27 = .ok (.aload_n 0, 1) := by decide +kernel
theorem d_EX_openEach_28 : decode prog_6_method_24_code 28 = .ok (.iconst 1, 1) := by decide +kernel
theorem d_EX_openEach_29 : decode prog_6_method_24_code 29 = .ok (.invokevirtual 154, 3) := by decide +kernel
theorem d_EX_openEach_32 : decode prog_6_method_24_code 32 = .ok (.pop, 1) := by decide +kernel
theorem d_EX_openEach_33 : decode prog_6_method_24_code 33 = .ok (.return_, 1) := by decide +kernel
theorem d_EX_openEach_34 : decode prog_6_method_24_code 34 = .ok (.aload_n 0, 1) := by decide +kernel
theorem d_EX_openEach_35 : decode prog_6_method_24_code 35 = .ok (.getfield 72, 3) := by decide +kernel
theorem d_EX_openEach_38 : decode prog_6_method_24_code 38 = .ok (.aload_n 0, 1) := by decide +kernel
theorem d_EX_openEach_39 : decode prog_6_method_24_code 39 = .ok (.getfield 56, 3) := by decide +kernel
theorem d_EX_openEach_42 : decode prog_6_method_24_code 42 = .ok (.getfield 338, 3) := by decide +kernel
theorem d_EX_openEach_45 : decode prog_6_method_24_code 45 = .ok (.aload_n 0, 1) := by decide +kernel
theorem d_EX_openEach_46 : decode prog_6_method_24_code 46 = .ok (.getfield 176, 3) := by decide +kernel
theorem d_EX_openEach_49 : decode prog_6_method_24_code 49 = .ok (.invokevirtual 393, 3) := by decide +kernel
theorem d_EX_openEach_52 : decode prog_6_method_24_code 52 = .ok (.istore_n 2, 1) := by decide +kernel
theorem d_EX_openEach_53 : decode prog_6_method_24_code 53 = .ok (.iload_n 2, 1) := by decide +kernel
theorem d_EX_openEach_54 : decode prog_6_method_24_code 54 = .ok (.iconst (-1), 1) := by decide +kernel
theorem d_EX_openEach_55 : decode prog_6_method_24_code 55 = .ok (.if_icmp .ne 10, 3) := by decide +kernel
theorem d_EX_openEach_58 : decode prog_6_method_24_code 58 = .ok (.aload_n 0, 1) := by decide +kernel
theorem d_EX_openEach_59 : decode prog_6_method_24_code 59 = .ok (.iconst 1, 1) := by decide +kernel
theorem d_EX_openEach_60 : decode prog_6_method_24_code 60 = .ok (.invokevirtual 154, 3) := by decide +kernel
theorem d_EX_openEach_63 : decode prog_6_method_24_code 63 = .ok (.pop, 1) := by decide +kernel
theorem d_EX_openEach_64 : decode prog_6_method_24_code 64 = .ok (.return_, 1) := by decide +kernel
theorem d_EX_openEach_65 : decode prog_6_method_24_code 65 = .ok (.aload_n 0, 1) := by decide +kernel
theorem d_EX_openEach_66 : decode prog_6_method_24_code 66 = .ok (.getfield 72, 3) := by decide +kernel
theorem d_EX_openEach_69 : decode prog_6_method_24_code 69 = .ok (.invokevirtual 276, 3) := by decide +kernel
theorem d_EX_openEach_72 : decode prog_6_method_24_code 72 = .ok (.astore_n 3, 1) := by decide +kernel
theorem d_EX_openEach_73 : decode prog_6_method_24_code 73 = .ok (.aload_n 3, 1) := by decide +kernel
theorem d_EX_openEach_74 : decode prog_6_method_24_code 74 = .ok (.aload_n 0, 1) := by decide +kernel
theorem d_EX_openEach_75 : decode prog_6_method_24_code 75 = .ok (.getfield 56, 3) := by decide +kernel
theorem d_EX_openEach_78 : decode prog_6_method_24_code 78 = .ok (.getfield 319, 3) := by decide +kernel
theorem d_EX_openEach_81 : decode prog_6_method_24_code 81 = .ok (.putfield 396, 3) := by decide +kernel
theorem d_EX_openEach_84 : decode prog_6_method_24_code 84 = .ok (.aload_n 3, 1) := by decide +kernel
theorem d_EX_openEach_85 : decode prog_6_method_24_code 85 = .ok (.aload_n 0, 1) := by decide +kernel
theorem d_EX_openEach_86 : decode prog_6_method_24_code 86 = .ok (.getfield 56, 3) := by decide +kernel
theorem d_EX_openEach_89 : decode prog_6_method_24_code 89 = .ok (.getfield 322, 3) := by decide +kernel
theorem d_EX_openEach_92 : decode prog_6_method_24_code 92 = .ok (.putfield 397, 3) := by decide +kernel
theorem d_EX_openEach_95 : decode prog_6_method_24_code 95 = .ok (.aload_n 0, 1) := by decide +kernel
theorem d_EX_openEach_96 : decode prog_6_method_24_code 96 = .ok (.invokevirtual 386, 3) := by decide +kernel
theorem d_EX_openEach_99 : decode prog_6_method_24_code 99 = .ok (.ifCond .eq 12, 3) := by decide +kernel
theorem d_EX_openEach_102 : decode prog_6_method_24_code 102 = .ok (.aload_n 0, 1) := by decide +kernel
theorem d_EX_openEach_103 : decode prog_6_method_24_code 103 = .ok (.getstatic 380, 3) := by decide +kernel
theorem d_EX_openEach_106 : decode prog_6_method_24_code 106 = .ok (.iload_n 1, 1) := by decide +kernel
theorem d_EX_openEach_107 : decode prog_6_method_24_code 107 = .ok (.iload_n 2, 1) := by decide +kernel
theorem d_EX_openEach_108 : decode prog_6_method_24_code 108 = .ok (.invokevirtual 389, 3) := by decide +kernel
theorem d_EX_openEach_111 : decode prog_6_method_24_code 111 = .ok (.return_, 1) := by decide +kernel
theorem d_EX_leaveMacro_0 : decode prog_6_method_26_code 0 = .ok (.aload_n 0, 1) := by decide +kernel
theorem d_EX_leaveMacro_1 : decode prog_6_method_26_code 1 = .ok (.getfield 56, 3) := by decide +kernel
theorem d_EX_leaveMacro_4 : decode prog_6_method_26_code 4 = .ok (.invokevirtual 307, 3) := by decide +kernel
theorem d_EX_leaveMacro_7 : decode prog_6_method_26_code 7 = .ok (.ifCond .ne 10, 3) := by decide +kernel
theorem d_EX_leaveMacro_10 : decode prog_6_method_26_code 10 = .ok (.aload_n 0, 1) := by decide +kernel
theorem d_EX_leaveMacro_11 : decode prog_6_method_26_code 11 = .ok (.iconst 1, 1) := by decide +kernel
theorem d_EX_leaveMacro_12 : decode prog_6_method_26_code 12 = .ok (.invokevirtual 154, 3) := by decide +kernel
theorem d_EX_leaveMacro_15 : decode prog_6_method_26_code 15 = .ok (.pop, 1) := by decide +kernel
theorem d_EX_leaveMacro_16 : decode prog_6_method_26_code 16 = .ok (.return_, 1) := by decide +kernel
theorem d_EX_leaveMacro_17 : decode prog_6_method_26_code 17 = .ok (.aload_n 0, 1) := by decide +kernel
theorem d_EX_leaveMacro_18 : decode prog_6_method_26_code 18 = .ok (.getfield 72, 3) := by decide +kernel
theorem d_EX_leaveMacro_21 : decode prog_6_method_26_code 21 = .ok (.invokevirtual 398, 3) := by decide +kernel
theorem d_EX_leaveMacro_24 : decode prog_6_method_26_code 24 = .ok (.istore_n 1, 1) := by decide +kernel
theorem d_EX_leaveMacro_25 : decode prog_6_method_26_code 25 = .ok (.iload_n 1, 1) := by decide +kernel
theorem d_EX_leaveMacro_26 : decode prog_6_method_26_code 26 = .ok (.ifCond .ne 10, 3) := by decide +kernel
theorem d_EX_leaveMacro_29 : decode prog_6_method_26_code 29 = .ok (.aload_n 0, 1) := by decide +kernel
theorem d_EX_leaveMacro_30 : decode prog_6_method_26_code 30 = .ok (.iconst 5, 1) := by decide +kernel
theorem d_EX_leaveMacro_31 : decode prog_6_method_26_code 31 = .ok (.invokevirtual 154, 3) := by decide +kernel
theorem d_EX_leaveMacro_34 : decode prog_6_method_26_code 34 = .ok (.pop, 1) := by decide +kernel
theorem d_EX_leaveMacro_35 : decode prog_6_method_26_code 35 = .ok (.return_, 1) := by decide +kernel
theorem d_EX_leaveMacro_36 : decode prog_6_method_26_code 36 = .ok (.aload_n 0, 1) := by decide +kernel
theorem d_EX_leaveMacro_37 : decode prog_6_method_26_code 37 = .ok (.getfield 12, 3) := by decide +kernel
theorem d_EX_leaveMacro_40 : decode prog_6_method_26_code 40 = .ok (.aload_n 0, 1) := by decide +kernel
theorem d_EX_leaveMacro_41 : decode prog_6_method_26_code 41 = .ok (.getfield 72, 3) := by decide +kernel
theorem d_EX_leaveMacro_44 : decode prog_6_method_26_code 44 = .ok (.iload_n 1, 1) := by decide +kernel
theorem d_EX_leaveMacro_45 : decode prog_6_method_26_code 45 = .ok (.invokevirtual 401, 3) := by decide +kernel
theorem d_EX_leaveMacro_48 : decode prog_6_method_26_code 48 = .ok (.getfield 158, 3) := by decide +kernel
theorem d_EX_leaveMacro_51 : decode prog_6_method_26_code 51 = .ok (.putfield 134, 3) := by decide +kernel
theorem d_EX_leaveMacro_54 : decode prog_6_method_26_code 54 = .ok (.aload_n 0, 1) := by decide +kernel
theorem d_EX_leaveMacro_55 : decode prog_6_method_26_code 55 = .ok (.getfield 72, 3) := by decide +kernel
theorem d_EX_leaveMacro_58 : decode prog_6_method_26_code 58 = .ok (.iload_n 1, 1) := by decide +kernel
theorem d_EX_leaveMacro_59 : decode prog_6_method_26_code 59 = .ok (.iconst 1, 1) := by decide +kernel
theorem d_EX_leaveMacro_60 : decode prog_6_method_26_code 60 = .ok (.isub, 1) := by decide +kernel
theorem d_EX_leaveMacro_61 : decode prog_6_method_26_code 61 = .ok (.putfield 141, 3) := by decide +kernel
theorem d_EX_leaveMacro_64 : decode prog_6_method_26_code 64 = .ok (.return_, 1) := by decide +kernel
theorem d_EX_come_0 : decode prog_6_method_9_code 0 = .ok (.aload_n 0, 1) := by decide +kernel
theorem d_EX_come_1 : decode prog_6_method_9_code 1 = .ok (.getfield 56, 3) := by decide +kernel
theorem d_EX_come_4 : decode prog_6_method_9_code 4 = .ok (.aload_n 0, 1) := by decide +kernel
theorem d_EX_come_5 : decode prog_6_method_9_code 5 = .ok (.getfield 35, 3) := by decide +kernel
theorem d_EX_come_8 : decode prog_6_method_9_code 8 = .ok (.aload_n 0, 1) := by decide +kernel
theorem d_EX_come_9 : decode prog_6_method_9_code 9 = .ok (.getfield 170, 3) := by decide +kernel
theorem d_EX_come_12 : decode prog_6_method_9_code 12 = .ok (.invokevirtual 203, 3) := by decide +kernel
theorem d_EX_come_15 : decode prog_6_method_9_code 15 = .ok (.aload_n 0, 1) := by decide +kernel
theorem d_EX_come_16 : decode prog_6_method_9_code 16 = .ok (.getfield 176, 3) := by decide +kernel
theorem d_EX_come_19 : decode prog_6_method_9_code 19 = .ok (.invokevirtual 206, 3) := by decide +kernel
theorem d_EX_come_22 : decode prog_6_method_9_code 22 = .ok (.getstatic 210, 3) := by decide +kernel
theorem d_EX_come_25 : decode prog_6_method_9_code 25 = .ok (.aload_n 0, 1) := by decide +kernel
theorem d_EX_come_26 : decode prog_6_method_9_code 26 = .ok (.getfield 35, 3) := by decide +kernel
theorem d_EX_come_29 : decode prog_6_method_9_code 29 = .ok (.invokevirtual 216, 3) := by decide +kernel
theorem d_EX_come_32 : decode prog_6_method_9_code 32 = .ok (.iaload, 1) := by decide +kernel
theorem d_EX_come_33 : decode prog_6_method_9_code 33 = .ok (.tableswitch 175 1 15 #[75, 82, 89, 96, 103, 110, 110, 110, 117, 135, 142, 149, 156, 166, 166], 75) := by decide +kernel
theorem d_EX_come_108 : decode prog_6_method_9_code 108 = .ok (.aload_n 0, 1) := by decide +kernel
theorem d_EX_come_109 : decode prog_6_method_9_code 109 = .ok (.invokevirtual 219, 3) := by decide +kernel
theorem d_EX_come_112 : decode prog_6_method_9_code 112 = .ok (.goto 102, 3) := by decide +kernel
theorem d_EX_come_115 : decode prog_6_method_9_code 115 = .ok (.aload_n 0, 1) := by decide +kernel
theorem d_EX_come_116 : decode prog_6_method_9_code 116 = .ok (.invokevirtual 222, 3) := by decide +kernel
theorem d_EX_come_119 : decode prog_6_method_9_code 119 = .ok (.goto 95, 3) := by decide +kernel
theorem d_EX_come_122 : decode prog_6_method_9_code 122 = .ok (.aload_n 0, 1) := by decide +kernel
theorem d_EX_come_123 : decode prog_6_method_9_code 123 = .ok (.invokevirtual 225, 3) := by decide +kernel
theorem d_EX_come_126 : decode prog_6_method_9_code 126 = .ok (.goto 88, 3) := by decide +kernel
theorem d_EX_come_129 : decode prog_6_method_9_code 129 = .ok (.aload_n 0, 1) := by decide +kernel
theorem d_EX_come_130 : decode prog_6_method_9_code 130 = .ok (.invokevirtual 228, 3) := by decide +kernel
theorem d_EX_come_133 : decode prog_6_method_9_code 133 = .ok (.goto 81, 3) := by decide +kernel
theorem d_EX_come_136 : decode prog_6_method_9_code 136 = .ok (.aload_n 0, 1) := by decide +kernel
theorem d_EX_come_137 : decode prog_6_method_9_code 137 = .ok (.invokevirtual 231, 3) := by decide +kernel
theorem d_EX_come_140 : decode prog_6_method_9_code 140 = .ok (.goto 74, 3) := by decide +kernel
theorem d_EX_come_143 : decode prog_6_method_9_code 143 = .ok (.aload_n 0, 1) := by decide +kernel
theorem d_EX_come_144 : decode prog_6_method_9_code 144 = .ok (.invokevirtual 234, 3) := by decide +kernel
theorem d_EX_come_147 : decode prog_6_method_9_code 147 = .ok (.goto 67, 3) := by decide +kernel
theorem d_EX_come_150 : decode prog_6_method_9_code 150 = .ok (.aload_n 0, 1) := by decide +kernel
theorem d_EX_come_151 : decode prog_6_method_9_code 151 = .ok (.aload_n 0, 1) := by decide +kernel
theorem d_EX_come_152 : decode prog_6_method_9_code 152 = .ok (.getfield 63, 3) := by decide +kernel
theorem d_EX_come_155 : decode prog_6_method_9_code 155 = .ok (.aload_n 0, 1) := by decide +kernel
theorem d_EX_come_156 : decode prog_6_method_9_code 156 = .ok (.getfield 56, 3) := by decide +kernel
theorem d_EX_come_159 : decode prog_6_method_9_code 159 = .ok (.invokevirtual 237, 3) := by decide +kernel
theorem d_EX_come_162 : decode prog_6_method_9_code 162 = .ok (.invokevirtual 241, 3) := by decide +kernel
theorem d_EX_come_165 : decode prog_6_method_9_code 165 = .ok (.goto 49, 3) := by decide +kernel
theorem d_EX_come_168 : decode prog_6_method_9_code 168 = .ok (.aload_n 0, 1) := by decide +kernel
theorem d_EX_come_169 : decode prog_6_method_9_code 169 = .ok (.invokevirtual 245, 3) := by decide +kernel
theorem d_EX_come_172 : decode prog_6_method_9_code 172 = .ok (.goto 42, 3) := by decide +kernel
theorem d_EX_come_175 : decode prog_6_method_9_code 175 = .ok (.aload_n 0, 1) := by decide +kernel
theorem d_EX_come_176 : decode prog_6_method_9_code 176 = .ok (.invokevirtual 248, 3) := by decide +kernel
theorem d_EX_come_179 : decode prog_6_method_9_code 179 = .ok (.goto 35, 3) := by decide +kernel
theorem d_EX_come_182 : decode prog_6_method_9_code 182 = .ok (.aload_n 0, 1) := by decide +kernel
theorem d_EX_come_183 : decode prog_6_method_9_code 183 = .ok (.invokevirtual 251, 3) := by decide +kernel
theorem d_EX_come_186 : decode prog_6_method_9_code 186 = .ok (.goto 28, 3) := by decide +kernel
theorem d_EX_come_189 : decode prog_6_method_9_code 189 = .ok (.aload_n 0, 1) := by decide +kernel
theorem d_EX_come_190 : decode prog_6_method_9_code 190 = .ok (.bipush 7, 2) := by decide +kernel
theorem d_EX_come_192 : decode prog_6_method_9_code 192 = .ok (.invokevirtual 154, 3) := by decide +kernel
theorem d_EX_come_195 : decode prog_6_method_9_code 195 = .ok (.pop, 1) := by decide +kernel
theorem d_EX_come_196 : decode prog_6_method_9_code 196 = .ok (.goto 18, 3) := by decide +kernel
theorem d_EX_come_199 : decode prog_6_method_9_code 199 = .ok (.aload_n 0, 1) := by decide +kernel
theorem d_EX_come_200 : decode prog_6_method_9_code 200 = .ok (.iconst 5, 1) := by decide +kernel
theorem d_EX_come_201 : decode prog_6_method_9_code 201 = .ok (.invokevirtual 154, 3) := by decide +kernel
theorem d_EX_come_204 : decode prog_6_method_9_code 204 = .ok (.pop, 1) := by decide +kernel
theorem d_EX_come_205 : decode prog_6_method_9_code 205 = .ok (.goto 9, 3) := by decide +kernel
theorem d_EX_come_208 : decode prog_6_method_9_code 208 = .ok (.aload_n 0, 1) := by decide +kernel
theorem d_EX_come_209 : decode prog_6_method_9_code 209 = .ok (.iconst 1, 1) := by decide +kernel
theorem d_EX_come_210 : decode prog_6_method_9_code 210 = .ok (.invokevirtual 154, 3) := by decide +kernel
theorem d_EX_come_213 : decode prog_6_method_9_code 213 = .ok (.pop, 1) := by decide +kernel
theorem d_EX_come_214 : decode prog_6_method_9_code 214 = .ok (.return_, 1) := by decide +kernel
theorem d_EX_pass_0 : decode prog_6_method_10_code 0 = .ok (.aload_n 0, 1) := by decide +kernel
theorem d_EX_pass_1 : decode prog_6_method_10_code 1 = .ok (.getfield 56, 3) := by decide +kernel
theorem d_EX_pass_4 : decode prog_6_method_10_code 4 = .ok (.aload_n 0, 1) := by decide +kernel
theorem d_EX_pass_5 : decode prog_6_method_10_code 5 = .ok (.getfield 35, 3) := by decide +kernel
theorem d_EX_pass_8 : decode prog_6_method_10_code 8 = .ok (.aload_n 0, 1) := by decide +kernel
theorem d_EX_pass_9 : decode prog_6_method_10_code 9 = .ok (.getfield 170, 3) := by decide +kernel
theorem d_EX_pass_12 : decode prog_6_method_10_code 12 = .ok (.invokevirtual 203, 3) := by decide +kernel
theorem d_EX_pass_15 : decode prog_6_method_10_code 15 = .ok (.aload_n 0, 1) := by decide +kernel
theorem d_EX_pass_16 : decode prog_6_method_10_code 16 = .ok (.getfield 176, 3) := by decide +kernel
theorem d_EX_pass_19 : decode prog_6_method_10_code 19 = .ok (.invokevirtual 206, 3) := by decide +kernel
theorem d_EX_pass_22 : decode prog_6_method_10_code 22 = .ok (.getstatic 210, 3) := by decide +kernel
theorem d_EX_pass_25 : decode prog_6_method_10_code 25 = .ok (.aload_n 0, 1) := by decide +kernel
theorem d_EX_pass_26 : decode prog_6_method_10_code 26 = .ok (.getfield 35, 3) := by decide +kernel
theorem d_EX_pass_29 : decode prog_6_method_10_code 29 = .ok (.invokevirtual 216, 3) := by decide +kernel
theorem d_EX_pass_32 : decode prog_6_method_10_code 32 = .ok (.iaload, 1) := by decide +kernel
theorem d_EX_pass_33 : decode prog_6_method_10_code 33 = .ok (.tableswitch 51 4 8 #[35, 35, 44, 44, 44], 35) := by decide +kernel
theorem d_EX_pass_68 : decode prog_6_method_10_code 68 = .ok (.aload_n 0, 1) := by decide +kernel
theorem d_EX_pass_69 : decode prog_6_method_10_code 69 = .ok (.iconst 0, 1) := by decide +kernel
theorem d_EX_pass_70 : decode prog_6_method_10_code 70 = .ok (.iconst 0, 1) := by decide +kernel
theorem d_EX_pass_71 : decode prog_6_method_10_code 71 = .ok (.invokevirtual 254, 3) := by decide +kernel
theorem d_EX_pass_74 : decode prog_6_method_10_code 74 = .ok (.goto 10, 3) := by decide +kernel
theorem d_EX_pass_77 : decode prog_6_method_10_code 77 = .ok (.aload_n 0, 1) := by decide +kernel
theorem d_EX_pass_78 : decode prog_6_method_10_code 78 = .ok (.invokevirtual 234, 3) := by decide +kernel
theorem d_EX_pass_81 : decode prog_6_method_10_code 81 = .ok (.goto 3, 3) := by decide +kernel
theorem d_EX_pass_84 : decode prog_6_method_10_code 84 = .ok (.return_, 1) := by decide +kernel
theorem d_EX_run_0 : decode prog_6_method_2_code 0 = .ok (.aload_n 0, 1) := by decide +kernel
theorem d_EX_run_1 : decode prog_6_method_2_code 1 = .ok (.invokevirtual 76, 3) := by decide +kernel
theorem d_EX_run_4 : decode prog_6_method_2_code 4 = .ok (.iconst 0, 1) := by decide +kernel
theorem d_EX_run_5 : decode prog_6_method_2_code 5 = .ok (.istore_n 1, 1) := by decide +kernel
theorem d_EX_run_6 : decode prog_6_method_2_code 6 = .ok (.iload_n 1, 1) := by decide +kernel
theorem d_EX_run_7 : decode prog_6_method_2_code 7 = .ok (.ldc 79, 2) := by decide +kernel
theorem d_EX_run_9 : decode prog_6_method_2_code 9 = .ok (.if_icmp .ge 80, 3) := by decide +kernel
theorem d_EX_run_12 : decode prog_6_method_2_code 12 = .ok (.aload_n 0, 1) := by decide +kernel
theorem d_EX_run_13 : decode prog_6_method_2_code 13 = .ok (.getfield 80, 3) := by decide +kernel
theorem d_EX_run_16 : decode prog_6_method_2_code 16 = .ok (.ifCond .ne 73, 3) := by decide +kernel
theorem d_EX_run_19 : decode prog_6_method_2_code 19 = .ok (.aload_n 0, 1) := by decide +kernel
theorem d_EX_run_20 : decode prog_6_method_2_code 20 = .ok (.getfield 72, 3) := by decide +kernel
theorem d_EX_run_23 : decode prog_6_method_2_code 23 = .ok (.invokevirtual 83, 3) := by decide +kernel
theorem d_EX_run_26 : decode prog_6_method_2_code 26 = .ok (.astore_n 2, 1) := by decide +kernel
theorem d_EX_run_27 : decode prog_6_method_2_code 27 = .ok (.aload_n 2, 1) := by decide +kernel
theorem d_EX_run_28 : decode prog_6_method_2_code 28 = .ok (.getfield 87, 3) := by decide +kernel
theorem d_EX_run_31 : decode prog_6_method_2_code 31 = .ok (.aload_n 2, 1) := by decide +kernel
theorem d_EX_run_32 : decode prog_6_method_2_code 32 = .ok (.getfield 92, 3) := by decide +kernel
theorem d_EX_run_35 : decode prog_6_method_2_code 35 = .ok (.if_icmp .lt 12, 3) := by decide +kernel
theorem d_EX_run_38 : decode prog_6_method_2_code 38 = .ok (.aload_n 0, 1) := by decide +kernel
theorem d_EX_run_39 : decode prog_6_method_2_code 39 = .ok (.aload_n 2, 1) := by decide +kernel
theorem d_EX_run_40 : decode prog_6_method_2_code 40 = .ok (.invokevirtual 95, 3) := by decide +kernel
theorem d_EX_run_43 : decode prog_6_method_2_code 43 = .ok (.ifCond .ne 40, 3) := by decide +kernel
theorem d_EX_run_46 : decode prog_6_method_2_code 46 = .ok (.return_, 1) := by decide +kernel
theorem d_EX_run_47 : decode prog_6_method_2_code 47 = .ok (.aload_n 0, 1) := by decide +kernel
theorem d_EX_run_48 : decode prog_6_method_2_code 48 = .ok (.aload_n 2, 1) := by decide +kernel
theorem d_EX_run_49 : decode prog_6_method_2_code 49 = .ok (.invokevirtual 99, 3) := by decide +kernel
theorem d_EX_run_52 : decode prog_6_method_2_code 52 = .ok (.ifCond .eq 31, 3) := by decide +kernel
theorem d_EX_run_55 : decode prog_6_method_2_code 55 = .ok (.aload_n 0, 1) := by decide +kernel
theorem d_EX_run_56 : decode prog_6_method_2_code 56 = .ok (.invokevirtual 102, 3) := by decide +kernel
theorem d_EX_run_59 : decode prog_6_method_2_code 59 = .ok (.ifCond .eq 24, 3) := by decide +kernel
theorem d_EX_run_62 : decode prog_6_method_2_code 62 = .ok (.aload_n 0, 1) := by decide +kernel
theorem d_EX_run_63 : decode prog_6_method_2_code 63 = .ok (.getfield 12, 3) := by decide +kernel
theorem d_EX_run_66 : decode prog_6_method_2_code 66 = .ok (.invokevirtual 106, 3) := by decide +kernel
theorem d_EX_run_69 : decode prog_6_method_2_code 69 = .ok (.ifCond .eq 10, 3) := by decide +kernel
theorem d_EX_run_72 : decode prog_6_method_2_code 72 = .ok (.aload_n 0, 1) := by decide +kernel
theorem d_EX_run_73 : decode prog_6_method_2_code 73 = .ok (.invokevirtual 109, 3) := by decide +kernel
theorem d_EX_run_76 : decode prog_6_method_2_code 76 = .ok (.goto 7, 3) := by decide +kernel
theorem d_EX_run_79 : decode prog_6_method_2_code 79 = .ok (.aload_n 0, 1) := by decide +kernel
theorem d_EX_run_80 : decode prog_6_method_2_code 80 = .ok (.invokevirtual 112, 3) := by decide +kernel
theorem d_EX_run_83 : decode prog_6_method_2_code 83 = .ok (.iinc 1 1, 3) := by decide +kernel
theorem d_EX_run_86 : decode prog_6_method_2_code 86 = .ok (.goto (-80), 3) := by decide +kernel
theorem d_EX_run_89 : decode prog_6_method_2_code 89 = .ok (.return_, 1) := by decide +kernel
theorem hm_EX_startAnew : y_EX_startAnew.cls ≠ "java/lang/invoke/MethodHandle" ∧ y_EX_startAnew.cls ≠ "java/lang/invoke/VarHandle" ∧ (parseMethodDescriptor y_EX_startAnew.desc).map (fun d => d.parameters.length) = some 0 := by decide +kernel
theorem hm_EX_endRange : y_EX_endRange.cls ≠ "java/lang/invoke/MethodHandle" ∧ y_EX_endRange.cls ≠ "java/lang/invoke/VarHandle" ∧ (parseMethodDescriptor y_EX_endRange.desc).map (fun d => d.parameters.length) = some 1 := by decide +kernel
theorem hm_EX_toldLine : y_EX_toldLine.cls ≠ "java/lang/invoke/MethodHandle" ∧ y_EX_toldLine.cls ≠ "java/lang/invoke/VarHandle" ∧ (parseMethodDescriptor y_EX_toldLine.desc).map (fun d => d.parameters.length) = some 0 := by decide +kernel
theorem hm_EX_fail : y_EX_fail.cls ≠ "java/lang/invoke/MethodHandle" ∧ y_EX_fail.cls ≠ "java/lang/invoke/VarHandle" ∧ (parseMethodDescriptor y_EX_fail.desc).map (fun d => d.parameters.length) = some 1 := by decide +kernel
theorem hm_EX_look : y_EX_look.cls ≠ "java/lang/invoke/MethodHandle" ∧ y_EX_look.cls ≠ "java/lang/invoke/VarHandle" ∧ (parseMethodDescriptor y_EX_look.desc).map (fun d => d.parameters.length) = some 1 := by decide +kernel
theorem hm_EX_takeLine : y_EX_takeLine.cls ≠ "java/lang/invoke/MethodHandle" ∧ y_EX_takeLine.cls ≠ "java/lang/invoke/VarHandle" ∧ (parseMethodDescriptor y_EX_takeLine.desc).map (fun d => d.parameters.length) = some 0 := by decide +kernel
theorem hm_EX_openMacro : y_EX_openMacro.cls ≠ "java/lang/invoke/MethodHandle" ∧ y_EX_openMacro.cls ≠ "java/lang/invoke/VarHandle" ∧ (parseMethodDescriptor y_EX_openMacro.desc).map (fun d => d.parameters.length) = some 1 := by decide +kernel
theorem hm_EX_callOrGiveOut : y_EX_callOrGiveOut.cls ≠ "java/lang/invoke/MethodHandle" ∧ y_EX_callOrGiveOut.cls ≠ "java/lang/invoke/VarHandle" ∧ (parseMethodDescriptor y_EX_callOrGiveOut.desc).map (fun d => d.parameters.length) = some 0 := by decide +kernel
theorem hm_EX_isValueGood : y_EX_isValueGood.cls ≠ "java/lang/invoke/MethodHandle" ∧ y_EX_isValueGood.cls ≠ "java/lang/invoke/VarHandle" ∧ (parseMethodDescriptor y_EX_isValueGood.desc).map (fun d => d.parameters.length) = some 0 := by decide +kernel
theorem hm_EX_setConstant : y_EX_setConstant.cls ≠ "java/lang/invoke/MethodHandle" ∧ y_EX_setConstant.cls ≠ "java/lang/invoke/VarHandle" ∧ (parseMethodDescriptor y_EX_setConstant.desc).map (fun d => d.parameters.length) = some 0 := by decide +kernel
theorem hm_EX_forgetConstant : y_EX_forgetConstant.cls ≠ "java/lang/invoke/MethodHandle" ∧ y_EX_forgetConstant.cls ≠ "java/lang/invoke/VarHandle" ∧ (parseMethodDescriptor y_EX_forgetConstant.desc).map (fun d => d.parameters.length) = some 0 := by decide +kernel
theorem hm_EX_openCondition : y_EX_openCondition.cls ≠ "java/lang/invoke/MethodHandle" ∧ y_EX_openCondition.cls ≠ "java/lang/invoke/VarHandle" ∧ (parseMethodDescriptor y_EX_openCondition.desc).map (fun d => d.parameters.length) = some 2 := by decide +kernel
theorem hm_EX_openIf : y_EX_openIf.cls ≠ "java/lang/invoke/MethodHandle" ∧ y_EX_openIf.cls ≠ "java/lang/invoke/VarHandle" ∧ (parseMethodDescriptor y_EX_openIf.desc).map (fun d => d.parameters.length) = some 0 := by decide +kernel
theorem hm_EX_openIfSame : y_EX_openIfSame.cls ≠ "java/lang/invoke/MethodHandle" ∧ y_EX_openIfSame.cls ≠ "java/lang/invoke/VarHandle" ∧ (parseMethodDescriptor y_EX_openIfSame.desc).map (fun d => d.parameters.length) = some 0 := by decide +kernel
theorem hm_EX_changeCondition : y_EX_changeCondition.cls ≠ "java/lang/invoke/MethodHandle" ∧ y_EX_changeCondition.cls ≠ "java/lang/invoke/VarHandle" ∧ (parseMethodDescriptor y_EX_changeCondition.desc).map (fun d => d.parameters.length) = some 0 := by decide +kernel
theorem hm_EX_keepUpToEndm : y_EX_keepUpToEndm.cls ≠ "java/lang/invoke/MethodHandle" ∧ y_EX_keepUpToEndm.cls ≠ "java/lang/invoke/VarHandle" ∧ (parseMethodDescriptor y_EX_keepUpToEndm.desc).map (fun d => d.parameters.length) = some 0 := by decide +kernel
theorem hm_EX_defineMacro : y_EX_defineMacro.cls ≠ "java/lang/invoke/MethodHandle" ∧ y_EX_defineMacro.cls ≠ "java/lang/invoke/VarHandle" ∧ (parseMethodDescriptor y_EX_defineMacro.desc).map (fun d => d.parameters.length) = some 1 := by decide +kernel
theorem hm_EX_keepUpToEndr : y_EX_keepUpToEndr.cls ≠ "java/lang/invoke/MethodHandle" ∧ y_EX_keepUpToEndr.cls ≠ "java/lang/invoke/VarHandle" ∧ (parseMethodDescriptor y_EX_keepUpToEndr.desc).map (fun d => d.parameters.length) = some 0 := by decide +kernel
theorem hm_EX_openRepeated : y_EX_openRepeated.cls ≠ "java/lang/invoke/MethodHandle" ∧ y_EX_openRepeated.cls ≠ "java/lang/invoke/VarHandle" ∧ (parseMethodDescriptor y_EX_openRepeated.desc).map (fun d => d.parameters.length) = some 3 := by decide +kernel
theorem hm_EX_openRept : y_EX_openRept.cls ≠ "java/lang/invoke/MethodHandle" ∧ y_EX_openRept.cls ≠ "java/lang/invoke/VarHandle" ∧ (parseMethodDescriptor y_EX_openRept.desc).map (fun d => d.parameters.length) = some 0 := by decide +kernel
theorem hm_EX_openEach : y_EX_openEach.cls ≠ "java/lang/invoke/MethodHandle" ∧ y_EX_openEach.cls ≠ "java/lang/invoke/VarHandle" ∧ (parseMethodDescriptor y_EX_openEach.desc).map (fun d => d.parameters.length) = some 0 := by decide +kernel
theorem hm_EX_leaveMacro : y_EX_leaveMacro.cls ≠ "java/lang/invoke/MethodHandle" ∧ y_EX_leaveMacro.cls ≠ "java/lang/invoke/VarHandle" ∧ (parseMethodDescriptor y_EX_leaveMacro.desc).map (fun d => d.parameters.length) = some 0 := by decide +kernel
theorem hm_EX_come : y_EX_come.cls ≠ "java/lang/invoke/MethodHandle" ∧ y_EX_come.cls ≠ "java/lang/invoke/VarHandle" ∧ (parseMethodDescriptor y_EX_come.desc).map (fun d => d.parameters.length) = some 0 := by decide +kernel
theorem hm_EX_pass : y_EX_pass.cls ≠ "java/lang/invoke/MethodHandle" ∧ y_EX_pass.cls ≠ "java/lang/invoke/VarHandle" ∧ (parseMethodDescriptor y_EX_pass.desc).map (fun d => d.parameters.length) = some 0 := by decide +kernel
theorem hm_EX_run : y_EX_run.cls ≠ "java/lang/invoke/MethodHandle" ∧ y_EX_run.cls ≠ "java/lang/invoke/VarHandle" ∧ (parseMethodDescriptor y_EX_run.desc).map (fun d => d.parameters.length) = some 0 := by decide +kernel
