theorem d_MH_expand_0 : decode prog_1_method_4_code 0 = .ok (.aload_n 0, 1) := by decide +kernel
theorem d_MH_expand_1 : decode prog_1_method_4_code 1 = .ok (.getfield 21, 3) := by decide +kernel
theorem d_MH_expand_4 : decode prog_1_method_4_code 4 = .ok (.invokevirtual 51, 3) := by decide +kernel
theorem d_MH_expand_7 : decode prog_1_method_4_code 7 = .ok (.aload_n 0, 1) := by decide +kernel
theorem d_MH_expand_8 : decode prog_1_method_4_code 8 = .ok (.getfield 21, 3) := by decide +kernel
theorem d_MH_expand_11 : decode prog_1_method_4_code 11 = .ok (.getfield 54, 3) := by decide +kernel
theorem d_MH_expand_14 : decode prog_1_method_4_code 14 = .ok (.ifCond .ne 16, 3) := by decide +kernel
theorem d_MH_expand_17 : decode prog_1_method_4_code 17 = .ok (.aload_n 0, 1) := by decide +kernel
theorem d_MH_expand_18 : decode prog_1_method_4_code 18 = .ok (.getfield 21, 3) := by decide +kernel
theorem d_MH_expand_21 : decode prog_1_method_4_code 21 = .ok (.getfield 57, 3) := by decide +kernel
theorem d_MH_expand_24 : decode prog_1_method_4_code 24 = .ok (.getfield 61, 3) := by decide +kernel
theorem d_MH_expand_27 : decode prog_1_method_4_code 27 = .ok (.goto 4, 3) := by decide +kernel
theorem d_MH_expand_30 : decode prog_1_method_4_code 30 = .ok (.iconst (-1), 1) := by decide +kernel
theorem d_MH_expand_31 : decode prog_1_method_4_code 31 = .ok (.ireturn, 1) := by decide +kernel
theorem d_MH_put_0 : decode prog_1_method_2_code 0 = .ok (.iconst 0, 1) := by decide +kernel
theorem d_MH_put_1 : decode prog_1_method_2_code 1 = .ok (.istore_n 2, 1) := by decide +kernel
theorem d_MH_put_2 : decode prog_1_method_2_code 2 = .ok (.iconst 0, 1) := by decide +kernel
theorem d_MH_put_3 : decode prog_1_method_2_code 3 = .ok (.istore_n 3, 1) := by decide +kernel
theorem d_MH_put_4 : decode prog_1_method_2_code 4 = .ok (.iload_n 3, 1) := by decide +kernel
theorem d_MH_put_5 : decode prog_1_method_2_code 5 = .ok (.bipush 32, 2) := by decide +kernel
theorem d_MH_put_7 : decode prog_1_method_2_code 7 = .ok (.if_icmp .ge 54, 3) := by decide +kernel
theorem d_MH_put_10 : decode prog_1_method_2_code 10 = .ok (.iload_n 1, 1) := by decide +kernel
theorem d_MH_put_11 : decode prog_1_method_2_code 11 = .ok (.iload_n 3, 1) := by decide +kernel
theorem d_MH_put_12 : decode prog_1_method_2_code 12 = .ok (.iushr, 1) := by decide +kernel
theorem d_MH_put_13 : decode prog_1_method_2_code 13 = .ok (.sipush 255, 3) := by decide +kernel
theorem d_MH_put_16 : decode prog_1_method_2_code 16 = .ok (.iand, 1) := by decide +kernel
theorem d_MH_put_17 : decode prog_1_method_2_code 17 = .ok (.istore 4, 2) := by decide +kernel
theorem d_MH_put_19 : decode prog_1_method_2_code 19 = .ok (.iload 4, 2) := by decide +kernel
theorem d_MH_put_21 : decode prog_1_method_2_code 21 = .ok (.ifCond .eq 21, 3) := by decide +kernel
theorem d_MH_put_24 : decode prog_1_method_2_code 24 = .ok (.iload 4, 2) := by decide +kernel
theorem d_MH_put_26 : decode prog_1_method_2_code 26 = .ok (.invokestatic 25, 3) := by decide +kernel
theorem d_MH_put_29 : decode prog_1_method_2_code 29 = .ok (.ifCond .ne 13, 3) := by decide +kernel
theorem d_MH_put_32 : decode prog_1_method_2_code 32 = .ok (.new 29, 3) := by decide +kernel
theorem d_MH_put_35 : decode prog_1_method_2_code 35 = .ok (.dup, 1) := by decide +kernel
theorem d_MH_put_36 : decode prog_1_method_2_code 36 = .ok (.ldc 31, 2) := by decide +kernel
theorem d_MH_put_38 : decode prog_1_method_2_code 38 = .ok (.invokespecial 33, 3) := by decide +kernel
theorem d_MH_put_41 : decode prog_1_method_2_code 41 = .ok (.athrow, 1) := by decide +kernel
theorem d_MH_put_42 : decode prog_1_method_2_code 42 = .ok (.iload_n 2, 1) := by decide +kernel
theorem d_MH_put_43 : decode prog_1_method_2_code 43 = .ok (.iload 4, 2) := by decide +kernel
theorem d_MH_put_45 : decode prog_1_method_2_code 45 = .ok (.ifCond .ne 7, 3) := by decide +kernel
theorem d_MH_put_48 : decode prog_1_method_2_code 48 = .ok (.iconst 0, 1) := by decide +kernel
theorem d_MH_put_49 : decode prog_1_method_2_code 49 = .ok (.goto 4, 3) := by decide +kernel
theorem d_MH_put_52 : decode prog_1_method_2_code 52 = .ok (.iconst 1, 1) := by decide +kernel
theorem d_MH_put_53 : decode prog_1_method_2_code 53 = .ok (.iadd, 1) := by decide +kernel
theorem d_MH_put_54 : decode prog_1_method_2_code 54 = .ok (.istore_n 2, 1) := by decide +kernel
theorem d_MH_put_55 : decode prog_1_method_2_code 55 = .ok (.iinc 3 8, 3) := by decide +kernel
theorem d_MH_put_58 : decode prog_1_method_2_code 58 = .ok (.goto (-54), 3) := by decide +kernel
theorem d_MH_put_61 : decode prog_1_method_2_code 61 = .ok (.aload_n 0, 1) := by decide +kernel
theorem d_MH_put_62 : decode prog_1_method_2_code 62 = .ok (.getfield 10, 3) := by decide +kernel
theorem d_MH_put_65 : decode prog_1_method_2_code 65 = .ok (.getfield 36, 3) := by decide +kernel
theorem d_MH_put_68 : decode prog_1_method_2_code 68 = .ok (.iload_n 2, 1) := by decide +kernel
theorem d_MH_put_69 : decode prog_1_method_2_code 69 = .ok (.iadd, 1) := by decide +kernel
theorem d_MH_put_70 : decode prog_1_method_2_code 70 = .ok (.sipush 3000, 3) := by decide +kernel
theorem d_MH_put_73 : decode prog_1_method_2_code 73 = .ok (.if_icmp .le 13, 3) := by decide +kernel
theorem d_MH_put_76 : decode prog_1_method_2_code 76 = .ok (.new 40, 3) := by decide +kernel
theorem d_MH_put_79 : decode prog_1_method_2_code 79 = .ok (.dup, 1) := by decide +kernel
theorem d_MH_put_80 : decode prog_1_method_2_code 80 = .ok (.ldc 42, 2) := by decide +kernel
theorem d_MH_put_82 : decode prog_1_method_2_code 82 = .ok (.invokespecial 44, 3) := by decide +kernel
theorem d_MH_put_85 : decode prog_1_method_2_code 85 = .ok (.athrow, 1) := by decide +kernel
theorem d_MH_put_86 : decode prog_1_method_2_code 86 = .ok (.iconst 0, 1) := by decide +kernel
theorem d_MH_put_87 : decode prog_1_method_2_code 87 = .ok (.istore_n 3, 1) := by decide +kernel
theorem d_MH_put_88 : decode prog_1_method_2_code 88 = .ok (.iload_n 3, 1) := by decide +kernel
theorem d_MH_put_89 : decode prog_1_method_2_code 89 = .ok (.bipush 32, 2) := by decide +kernel
theorem d_MH_put_91 : decode prog_1_method_2_code 91 = .ok (.if_icmp .ge 52, 3) := by decide +kernel
theorem d_MH_put_94 : decode prog_1_method_2_code 94 = .ok (.iload_n 1, 1) := by decide +kernel
theorem d_MH_put_95 : decode prog_1_method_2_code 95 = .ok (.iload_n 3, 1) := by decide +kernel
theorem d_MH_put_96 : decode prog_1_method_2_code 96 = .ok (.iushr, 1) := by decide +kernel
theorem d_MH_put_97 : decode prog_1_method_2_code 97 = .ok (.sipush 255, 3) := by decide +kernel
theorem d_MH_put_100 : decode prog_1_method_2_code 100 = .ok (.iand, 1) := by decide +kernel
theorem d_MH_put_101 : decode prog_1_method_2_code 101 = .ok (.istore 4, 2) := by decide +kernel
theorem d_MH_put_103 : decode prog_1_method_2_code 103 = .ok (.iload 4, 2) := by decide +kernel
theorem d_MH_put_105 : decode prog_1_method_2_code 105 = .ok (.ifCond .eq 32, 3) := by decide +kernel
theorem d_MH_put_108 : decode prog_1_method_2_code 108 = .ok (.aload_n 0, 1) := by decide +kernel
theorem d_MH_put_109 : decode prog_1_method_2_code 109 = .ok (.getfield 10, 3) := by decide +kernel
theorem d_MH_put_112 : decode prog_1_method_2_code 112 = .ok (.aload_n 0, 1) := by decide +kernel
theorem d_MH_put_113 : decode prog_1_method_2_code 113 = .ok (.getfield 10, 3) := by decide +kernel
theorem d_MH_put_116 : decode prog_1_method_2_code 116 = .ok (.getfield 36, 3) := by decide +kernel
theorem d_MH_put_119 : decode prog_1_method_2_code 119 = .ok (.iload 4, 2) := by decide +kernel
theorem d_MH_put_121 : decode prog_1_method_2_code 121 = .ok (.invokevirtual 45, 3) := by decide +kernel
theorem d_MH_put_124 : decode prog_1_method_2_code 124 = .ok (.aload_n 0, 1) := by decide +kernel
theorem d_MH_put_125 : decode prog_1_method_2_code 125 = .ok (.getfield 10, 3) := by decide +kernel
theorem d_MH_put_128 : decode prog_1_method_2_code 128 = .ok (.dup, 1) := by decide +kernel
theorem d_MH_put_129 : decode prog_1_method_2_code 129 = .ok (.getfield 36, 3) := by decide +kernel
theorem d_MH_put_132 : decode prog_1_method_2_code 132 = .ok (.iconst 1, 1) := by decide +kernel
theorem d_MH_put_133 : decode prog_1_method_2_code 133 = .ok (.iadd, 1) := by decide +kernel
theorem d_MH_put_134 : decode prog_1_method_2_code 134 = .ok (.putfield 36, 3) := by decide +kernel
theorem d_MH_put_137 : decode prog_1_method_2_code 137 = .ok (.iinc 3 8, 3) := by decide +kernel
theorem d_MH_put_140 : decode prog_1_method_2_code 140 = .ok (.goto (-52), 3) := by decide +kernel
theorem d_MH_put_143 : decode prog_1_method_2_code 143 = .ok (.aload_n 0, 1) := by decide +kernel
theorem d_MH_put_144 : decode prog_1_method_2_code 144 = .ok (.getfield 10, 3) := by decide +kernel
theorem d_MH_put_147 : decode prog_1_method_2_code 147 = .ok (.getfield 36, 3) := by decide +kernel
theorem d_MH_put_150 : decode prog_1_method_2_code 150 = .ok (.ireturn, 1) := by decide +kernel
theorem d_MH_end_0 : decode prog_1_method_3_code 0 = .ok (.iload_n 1, 1) := by decide +kernel
theorem d_MH_end_1 : decode prog_1_method_3_code 1 = .ok (.ifCond .lt 14, 3) := by decide +kernel
theorem d_MH_end_4 : decode prog_1_method_3_code 4 = .ok (.iload_n 1, 1) := by decide +kernel
theorem d_MH_end_5 : decode prog_1_method_3_code 5 = .ok (.aload_n 0, 1) := by decide +kernel
theorem d_MH_end_6 : decode prog_1_method_3_code 6 = .ok (.getfield 10, 3) := by decide +kernel
theorem d_MH_end_9 : decode prog_1_method_3_code 9 = .ok (.getfield 36, 3) := by decide +kernel
theorem d_MH_end_12 : decode prog_1_method_3_code 12 = .ok (.if_icmp .le 13, 3) := by decide +kernel
theorem d_MH_end_15 : decode prog_1_method_3_code 15 = .ok (.new 29, 3) := by decide +kernel
theorem d_MH_end_18 : decode prog_1_method_3_code 18 = .ok (.dup, 1) := by decide +kernel
theorem d_MH_end_19 : decode prog_1_method_3_code 19 = .ok (.ldc 49, 2) := by decide +kernel
theorem d_MH_end_21 : decode prog_1_method_3_code 21 = .ok (.invokespecial 33, 3) := by decide +kernel
theorem d_MH_end_24 : decode prog_1_method_3_code 24 = .ok (.athrow, 1) := by decide +kernel
theorem d_MH_end_25 : decode prog_1_method_3_code 25 = .ok (.aload_n 0, 1) := by decide +kernel
theorem d_MH_end_26 : decode prog_1_method_3_code 26 = .ok (.getfield 10, 3) := by decide +kernel
theorem d_MH_end_29 : decode prog_1_method_3_code 29 = .ok (.iload_n 1, 1) := by decide +kernel
theorem d_MH_end_30 : decode prog_1_method_3_code 30 = .ok (.putfield 36, 3) := by decide +kernel
theorem d_MH_end_33 : decode prog_1_method_3_code 33 = .ok (.return_, 1) := by decide +kernel
theorem d_MH_about_0 : decode prog_1_method_5_code 0 = .ok (.iload_n 1, 1) := by decide +kernel
theorem d_MH_about_1 : decode prog_1_method_5_code 1 = .ok (.tableswitch 144 0 8 #[51, 59, 67, 75, 83, 97, 111, 122, 133], 51) := by decide +kernel
theorem d_MH_about_52 : decode prog_1_method_5_code 52 = .ok (.aload_n 0, 1) := by decide +kernel
theorem d_MH_about_53 : decode prog_1_method_5_code 53 = .ok (.getfield 21, 3) := by decide +kernel
theorem d_MH_about_56 : decode prog_1_method_5_code 56 = .ok (.getfield 54, 3) := by decide +kernel
theorem d_MH_about_59 : decode prog_1_method_5_code 59 = .ok (.ireturn, 1) := by decide +kernel
theorem d_MH_about_60 : decode prog_1_method_5_code 60 = .ok (.aload_n 0, 1) := by decide +kernel
theorem d_MH_about_61 : decode prog_1_method_5_code 61 = .ok (.getfield 21, 3) := by decide +kernel
theorem d_MH_about_64 : decode prog_1_method_5_code 64 = .ok (.getfield 66, 3) := by decide +kernel
theorem d_MH_about_67 : decode prog_1_method_5_code 67 = .ok (.ireturn, 1) := by decide +kernel
theorem d_MH_about_68 : decode prog_1_method_5_code 68 = .ok (.aload_n 0, 1) := by decide +kernel
theorem d_MH_about_69 : decode prog_1_method_5_code 69 = .ok (.getfield 21, 3) := by decide +kernel
theorem d_MH_about_72 : decode prog_1_method_5_code 72 = .ok (.getfield 69, 3) := by decide +kernel
theorem d_MH_about_75 : decode prog_1_method_5_code 75 = .ok (.ireturn, 1) := by decide +kernel
theorem d_MH_about_76 : decode prog_1_method_5_code 76 = .ok (.aload_n 0, 1) := by decide +kernel
theorem d_MH_about_77 : decode prog_1_method_5_code 77 = .ok (.getfield 21, 3) := by decide +kernel
theorem d_MH_about_80 : decode prog_1_method_5_code 80 = .ok (.getfield 72, 3) := by decide +kernel
theorem d_MH_about_83 : decode prog_1_method_5_code 83 = .ok (.ireturn, 1) := by decide +kernel
theorem d_MH_about_84 : decode prog_1_method_5_code 84 = .ok (.aload_n 0, 1) := by decide +kernel
theorem d_MH_about_85 : decode prog_1_method_5_code 85 = .ok (.getfield 21, 3) := by decide +kernel
theorem d_MH_about_88 : decode prog_1_method_5_code 88 = .ok (.getfield 75, 3) := by decide +kernel
theorem d_MH_about_91 : decode prog_1_method_5_code 91 = .ok (.getfield 79, 3) := by decide +kernel
theorem d_MH_about_94 : decode prog_1_method_5_code 94 = .ok (.getfield 85, 3) := by decide +kernel
theorem d_MH_about_97 : decode prog_1_method_5_code 97 = .ok (.ireturn, 1) := by decide +kernel
theorem d_MH_about_98 : decode prog_1_method_5_code 98 = .ok (.aload_n 0, 1) := by decide +kernel
theorem d_MH_about_99 : decode prog_1_method_5_code 99 = .ok (.getfield 21, 3) := by decide +kernel
theorem d_MH_about_102 : decode prog_1_method_5_code 102 = .ok (.getfield 88, 3) := by decide +kernel
theorem d_MH_about_105 : decode prog_1_method_5_code 105 = .ok (.getfield 92, 3) := by decide +kernel
theorem d_MH_about_108 : decode prog_1_method_5_code 108 = .ok (.getfield 85, 3) := by decide +kernel
theorem d_MH_about_111 : decode prog_1_method_5_code 111 = .ok (.ireturn, 1) := by decide +kernel
theorem d_MH_about_112 : decode prog_1_method_5_code 112 = .ok (.aload_n 0, 1) := by decide +kernel
theorem d_MH_about_113 : decode prog_1_method_5_code 113 = .ok (.getfield 21, 3) := by decide +kernel
theorem d_MH_about_116 : decode prog_1_method_5_code 116 = .ok (.getfield 57, 3) := by decide +kernel
theorem d_MH_about_119 : decode prog_1_method_5_code 119 = .ok (.getfield 61, 3) := by decide +kernel
theorem d_MH_about_122 : decode prog_1_method_5_code 122 = .ok (.ireturn, 1) := by decide +kernel
theorem d_MH_about_123 : decode prog_1_method_5_code 123 = .ok (.aload_n 0, 1) := by decide +kernel
theorem d_MH_about_124 : decode prog_1_method_5_code 124 = .ok (.getfield 21, 3) := by decide +kernel
theorem d_MH_about_127 : decode prog_1_method_5_code 127 = .ok (.getfield 57, 3) := by decide +kernel
theorem d_MH_about_130 : decode prog_1_method_5_code 130 = .ok (.getfield 95, 3) := by decide +kernel
theorem d_MH_about_133 : decode prog_1_method_5_code 133 = .ok (.ireturn, 1) := by decide +kernel
theorem d_MH_about_134 : decode prog_1_method_5_code 134 = .ok (.aload_n 0, 1) := by decide +kernel
theorem d_MH_about_135 : decode prog_1_method_5_code 135 = .ok (.getfield 21, 3) := by decide +kernel
theorem d_MH_about_138 : decode prog_1_method_5_code 138 = .ok (.getfield 96, 3) := by decide +kernel
theorem d_MH_about_141 : decode prog_1_method_5_code 141 = .ok (.getfield 100, 3) := by decide +kernel
theorem d_MH_about_144 : decode prog_1_method_5_code 144 = .ok (.ireturn, 1) := by decide +kernel
theorem d_MH_about_145 : decode prog_1_method_5_code 145 = .ok (.new 29, 3) := by decide +kernel
theorem d_MH_about_148 : decode prog_1_method_5_code 148 = .ok (.dup, 1) := by decide +kernel
theorem d_MH_about_149 : decode prog_1_method_5_code 149 = .ok (.ldc 105, 2) := by decide +kernel
theorem d_MH_about_151 : decode prog_1_method_5_code 151 = .ok (.invokespecial 33, 3) := by decide +kernel
theorem d_MH_about_154 : decode prog_1_method_5_code 154 = .ok (.athrow, 1) := by decide +kernel
theorem d_MH_line_0 : decode prog_1_method_6_code 0 = .ok (.iload_n 1, 1) := by decide +kernel
theorem d_MH_line_1 : decode prog_1_method_6_code 1 = .ok (.ifCond .lt 17, 3) := by decide +kernel
theorem d_MH_line_4 : decode prog_1_method_6_code 4 = .ok (.iload_n 1, 1) := by decide +kernel
theorem d_MH_line_5 : decode prog_1_method_6_code 5 = .ok (.aload_n 0, 1) := by decide +kernel
theorem d_MH_line_6 : decode prog_1_method_6_code 6 = .ok (.getfield 21, 3) := by decide +kernel
theorem d_MH_line_9 : decode prog_1_method_6_code 9 = .ok (.getfield 57, 3) := by decide +kernel
theorem d_MH_line_12 : decode prog_1_method_6_code 12 = .ok (.getfield 61, 3) := by decide +kernel
theorem d_MH_line_15 : decode prog_1_method_6_code 15 = .ok (.if_icmp .lt 13, 3) := by decide +kernel
theorem d_MH_line_18 : decode prog_1_method_6_code 18 = .ok (.new 107, 3) := by decide +kernel
theorem d_MH_line_21 : decode prog_1_method_6_code 21 = .ok (.dup, 1) := by decide +kernel
theorem d_MH_line_22 : decode prog_1_method_6_code 22 = .ok (.ldc 109, 2) := by decide +kernel
theorem d_MH_line_24 : decode prog_1_method_6_code 24 = .ok (.invokespecial 111, 3) := by decide +kernel
theorem d_MH_line_27 : decode prog_1_method_6_code 27 = .ok (.athrow, 1) := by decide +kernel
theorem d_MH_line_28 : decode prog_1_method_6_code 28 = .ok (.iload_n 2, 1) := by decide +kernel
theorem d_MH_line_29 : decode prog_1_method_6_code 29 = .ok (.ifCond .ge 13, 3) := by decide +kernel
theorem d_MH_line_32 : decode prog_1_method_6_code 32 = .ok (.new 29, 3) := by decide +kernel
theorem d_MH_line_35 : decode prog_1_method_6_code 35 = .ok (.dup, 1) := by decide +kernel
theorem d_MH_line_36 : decode prog_1_method_6_code 36 = .ok (.ldc 112, 2) := by decide +kernel
theorem d_MH_line_38 : decode prog_1_method_6_code 38 = .ok (.invokespecial 33, 3) := by decide +kernel
theorem d_MH_line_41 : decode prog_1_method_6_code 41 = .ok (.athrow, 1) := by decide +kernel
theorem d_MH_line_42 : decode prog_1_method_6_code 42 = .ok (.aload_n 0, 1) := by decide +kernel
theorem d_MH_line_43 : decode prog_1_method_6_code 43 = .ok (.getfield 21, 3) := by decide +kernel
theorem d_MH_line_46 : decode prog_1_method_6_code 46 = .ok (.getfield 57, 3) := by decide +kernel
theorem d_MH_line_49 : decode prog_1_method_6_code 49 = .ok (.iload_n 1, 1) := by decide +kernel
theorem d_MH_line_50 : decode prog_1_method_6_code 50 = .ok (.iload_n 2, 1) := by decide +kernel
theorem d_MH_line_51 : decode prog_1_method_6_code 51 = .ok (.invokevirtual 114, 3) := by decide +kernel
theorem d_MH_line_54 : decode prog_1_method_6_code 54 = .ok (.ireturn, 1) := by decide +kernel
theorem d_MH_constant_0 : decode prog_1_method_7_code 0 = .ok (.iload_n 1, 1) := by decide +kernel
theorem d_MH_constant_1 : decode prog_1_method_7_code 1 = .ok (.ifCond .lt 20, 3) := by decide +kernel
theorem d_MH_constant_4 : decode prog_1_method_7_code 4 = .ok (.iload_n 1, 1) := by decide +kernel
theorem d_MH_constant_5 : decode prog_1_method_7_code 5 = .ok (.aload_n 0, 1) := by decide +kernel
theorem d_MH_constant_6 : decode prog_1_method_7_code 6 = .ok (.getfield 21, 3) := by decide +kernel
theorem d_MH_constant_9 : decode prog_1_method_7_code 9 = .ok (.getfield 88, 3) := by decide +kernel
theorem d_MH_constant_12 : decode prog_1_method_7_code 12 = .ok (.getfield 92, 3) := by decide +kernel
theorem d_MH_constant_15 : decode prog_1_method_7_code 15 = .ok (.getfield 85, 3) := by decide +kernel
theorem d_MH_constant_18 : decode prog_1_method_7_code 18 = .ok (.if_icmp .lt 13, 3) := by decide +kernel
theorem d_MH_constant_21 : decode prog_1_method_7_code 21 = .ok (.new 107, 3) := by decide +kernel
theorem d_MH_constant_24 : decode prog_1_method_7_code 24 = .ok (.dup, 1) := by decide +kernel
theorem d_MH_constant_25 : decode prog_1_method_7_code 25 = .ok (.ldc 118, 2) := by decide +kernel
theorem d_MH_constant_27 : decode prog_1_method_7_code 27 = .ok (.invokespecial 111, 3) := by decide +kernel
theorem d_MH_constant_30 : decode prog_1_method_7_code 30 = .ok (.athrow, 1) := by decide +kernel
theorem d_MH_constant_31 : decode prog_1_method_7_code 31 = .ok (.iload_n 2, 1) := by decide +kernel
theorem d_MH_constant_32 : decode prog_1_method_7_code 32 = .ok (.ifCond .ge 13, 3) := by decide +kernel
theorem d_MH_constant_35 : decode prog_1_method_7_code 35 = .ok (.new 29, 3) := by decide +kernel
theorem d_MH_constant_38 : decode prog_1_method_7_code 38 = .ok (.dup, 1) := by decide +kernel
theorem d_MH_constant_39 : decode prog_1_method_7_code 39 = .ok (.ldc 112, 2) := by decide +kernel
theorem d_MH_constant_41 : decode prog_1_method_7_code 41 = .ok (.invokespecial 33, 3) := by decide +kernel
theorem d_MH_constant_44 : decode prog_1_method_7_code 44 = .ok (.athrow, 1) := by decide +kernel
theorem d_MH_constant_45 : decode prog_1_method_7_code 45 = .ok (.iload_n 2, 1) := by decide +kernel
theorem d_MH_constant_46 : decode prog_1_method_7_code 46 = .ok (.ifCond .ne 17, 3) := by decide +kernel
theorem d_MH_constant_49 : decode prog_1_method_7_code 49 = .ok (.aload_n 0, 1) := by decide +kernel
theorem d_MH_constant_50 : decode prog_1_method_7_code 50 = .ok (.getfield 21, 3) := by decide +kernel
theorem d_MH_constant_53 : decode prog_1_method_7_code 53 = .ok (.getfield 88, 3) := by decide +kernel
theorem d_MH_constant_56 : decode prog_1_method_7_code 56 = .ok (.iload_n 1, 1) := by decide +kernel
theorem d_MH_constant_57 : decode prog_1_method_7_code 57 = .ok (.invokevirtual 120, 3) := by decide +kernel
theorem d_MH_constant_60 : decode prog_1_method_7_code 60 = .ok (.goto 20, 3) := by decide +kernel
theorem d_MH_constant_63 : decode prog_1_method_7_code 63 = .ok (.aload_n 0, 1) := by decide +kernel
theorem d_MH_constant_64 : decode prog_1_method_7_code 64 = .ok (.getfield 21, 3) := by decide +kernel
theorem d_MH_constant_67 : decode prog_1_method_7_code 67 = .ok (.getfield 88, 3) := by decide +kernel
theorem d_MH_constant_70 : decode prog_1_method_7_code 70 = .ok (.getfield 92, 3) := by decide +kernel
theorem d_MH_constant_73 : decode prog_1_method_7_code 73 = .ok (.iload_n 1, 1) := by decide +kernel
theorem d_MH_constant_74 : decode prog_1_method_7_code 74 = .ok (.iload_n 2, 1) := by decide +kernel
theorem d_MH_constant_75 : decode prog_1_method_7_code 75 = .ok (.iconst 1, 1) := by decide +kernel
theorem d_MH_constant_76 : decode prog_1_method_7_code 76 = .ok (.isub, 1) := by decide +kernel
theorem d_MH_constant_77 : decode prog_1_method_7_code 77 = .ok (.invokevirtual 124, 3) := by decide +kernel
theorem d_MH_constant_80 : decode prog_1_method_7_code 80 = .ok (.ireturn, 1) := by decide +kernel
theorem d_MH_macro_0 : decode prog_1_method_8_code 0 = .ok (.iload_n 1, 1) := by decide +kernel
theorem d_MH_macro_1 : decode prog_1_method_8_code 1 = .ok (.ifCond .lt 20, 3) := by decide +kernel
theorem d_MH_macro_4 : decode prog_1_method_8_code 4 = .ok (.iload_n 1, 1) := by decide +kernel
theorem d_MH_macro_5 : decode prog_1_method_8_code 5 = .ok (.aload_n 0, 1) := by decide +kernel
theorem d_MH_macro_6 : decode prog_1_method_8_code 6 = .ok (.getfield 21, 3) := by decide +kernel
theorem d_MH_macro_9 : decode prog_1_method_8_code 9 = .ok (.getfield 75, 3) := by decide +kernel
theorem d_MH_macro_12 : decode prog_1_method_8_code 12 = .ok (.getfield 79, 3) := by decide +kernel
theorem d_MH_macro_15 : decode prog_1_method_8_code 15 = .ok (.getfield 85, 3) := by decide +kernel
theorem d_MH_macro_18 : decode prog_1_method_8_code 18 = .ok (.if_icmp .lt 13, 3) := by decide +kernel
theorem d_MH_macro_21 : decode prog_1_method_8_code 21 = .ok (.new 107, 3) := by decide +kernel
theorem d_MH_macro_24 : decode prog_1_method_8_code 24 = .ok (.dup, 1) := by decide +kernel
theorem d_MH_macro_25 : decode prog_1_method_8_code 25 = .ok (.ldc 127, 2) := by decide +kernel
theorem d_MH_macro_27 : decode prog_1_method_8_code 27 = .ok (.invokespecial 111, 3) := by decide +kernel
theorem d_MH_macro_30 : decode prog_1_method_8_code 30 = .ok (.athrow, 1) := by decide +kernel
theorem d_MH_macro_31 : decode prog_1_method_8_code 31 = .ok (.iload_n 2, 1) := by decide +kernel
theorem d_MH_macro_32 : decode prog_1_method_8_code 32 = .ok (.ifCond .ge 13, 3) := by decide +kernel
theorem d_MH_macro_35 : decode prog_1_method_8_code 35 = .ok (.new 29, 3) := by decide +kernel
theorem d_MH_macro_38 : decode prog_1_method_8_code 38 = .ok (.dup, 1) := by decide +kernel
theorem d_MH_macro_39 : decode prog_1_method_8_code 39 = .ok (.ldc 112, 2) := by decide +kernel
theorem d_MH_macro_41 : decode prog_1_method_8_code 41 = .ok (.invokespecial 33, 3) := by decide +kernel
theorem d_MH_macro_44 : decode prog_1_method_8_code 44 = .ok (.athrow, 1) := by decide +kernel
theorem d_MH_macro_45 : decode prog_1_method_8_code 45 = .ok (.aload_n 0, 1) := by decide +kernel
theorem d_MH_macro_46 : decode prog_1_method_8_code 46 = .ok (.getfield 21, 3) := by decide +kernel
theorem d_MH_macro_49 : decode prog_1_method_8_code 49 = .ok (.getfield 75, 3) := by decide +kernel
theorem d_MH_macro_52 : decode prog_1_method_8_code 52 = .ok (.iload_n 1, 1) := by decide +kernel
theorem d_MH_macro_53 : decode prog_1_method_8_code 53 = .ok (.iload_n 2, 1) := by decide +kernel
theorem d_MH_macro_54 : decode prog_1_method_8_code 54 = .ok (.invokevirtual 129, 3) := by decide +kernel
theorem d_MH_macro_57 : decode prog_1_method_8_code 57 = .ok (.ireturn, 1) := by decide +kernel
theorem hm_MH_expand : y_MH_expand.cls ≠ "java/lang/invoke/MethodHandle" ∧ y_MH_expand.cls ≠ "java/lang/invoke/VarHandle" ∧ (parseMethodDescriptor y_MH_expand.desc).map (fun d => d.parameters.length) = some 0 := by decide +kernel
theorem hm_MH_put : y_MH_put.cls ≠ "java/lang/invoke/MethodHandle" ∧ y_MH_put.cls ≠ "java/lang/invoke/VarHandle" ∧ (parseMethodDescriptor y_MH_put.desc).map (fun d => d.parameters.length) = some 1 := by decide +kernel
theorem hm_MH_end : y_MH_end.cls ≠ "java/lang/invoke/MethodHandle" ∧ y_MH_end.cls ≠ "java/lang/invoke/VarHandle" ∧ (parseMethodDescriptor y_MH_end.desc).map (fun d => d.parameters.length) = some 1 := by decide +kernel
theorem hm_MH_about : y_MH_about.cls ≠ "java/lang/invoke/MethodHandle" ∧ y_MH_about.cls ≠ "java/lang/invoke/VarHandle" ∧ (parseMethodDescriptor y_MH_about.desc).map (fun d => d.parameters.length) = some 1 := by decide +kernel
theorem hm_MH_line : y_MH_line.cls ≠ "java/lang/invoke/MethodHandle" ∧ y_MH_line.cls ≠ "java/lang/invoke/VarHandle" ∧ (parseMethodDescriptor y_MH_line.desc).map (fun d => d.parameters.length) = some 2 := by decide +kernel
theorem hm_MH_constant : y_MH_constant.cls ≠ "java/lang/invoke/MethodHandle" ∧ y_MH_constant.cls ≠ "java/lang/invoke/VarHandle" ∧ (parseMethodDescriptor y_MH_constant.desc).map (fun d => d.parameters.length) = some 2 := by decide +kernel
theorem hm_MH_macro : y_MH_macro.cls ≠ "java/lang/invoke/MethodHandle" ∧ y_MH_macro.cls ≠ "java/lang/invoke/VarHandle" ∧ (parseMethodDescriptor y_MH_macro.desc).map (fun d => d.parameters.length) = some 2 := by decide +kernel
