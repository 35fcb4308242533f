theorem d_MO_thrown_0 : decode prog_15_method_2_code 0 = .ok (.aload_n 0, 1) := by decide +kernel
theorem d_MO_thrown_1 : decode prog_15_method_2_code 1 = .ok (.getfield 179, 3) := by decide +kernel
theorem d_MO_thrown_4 : decode prog_15_method_2_code 4 = .ok (.ireturn, 1) := by decide +kernel
theorem d_MO_in_0 : decode prog_15_method_4_code 0 = .ok (.iload_n 0, 1) := by decide +kernel
theorem d_MO_in_1 : decode prog_15_method_4_code 1 = .ok (.iload_n 1, 1) := by decide +kernel
theorem d_MO_in_2 : decode prog_15_method_4_code 2 = .ok (.if_icmp .lt 12, 3) := by decide +kernel
theorem d_MO_in_5 : decode prog_15_method_4_code 5 = .ok (.iload_n 0, 1) := by decide +kernel
theorem d_MO_in_6 : decode prog_15_method_4_code 6 = .ok (.iload_n 2, 1) := by decide +kernel
theorem d_MO_in_7 : decode prog_15_method_4_code 7 = .ok (.if_icmp .gt 7, 3) := by decide +kernel
theorem d_MO_in_10 : decode prog_15_method_4_code 10 = .ok (.iconst 1, 1) := by decide +kernel
theorem d_MO_in_11 : decode prog_15_method_4_code 11 = .ok (.goto 4, 3) := by decide +kernel
theorem d_MO_in_14 : decode prog_15_method_4_code 14 = .ok (.iconst 0, 1) := by decide +kernel
theorem d_MO_in_15 : decode prog_15_method_4_code 15 = .ok (.ireturn, 1) := by decide +kernel
theorem d_MO_refuse_0 : decode prog_15_method_3_code 0 = .ok (.aload_n 0, 1) := by decide +kernel
theorem d_MO_refuse_1 : decode prog_15_method_3_code 1 = .ok (.iload_n 1, 1) := by decide +kernel
theorem d_MO_refuse_2 : decode prog_15_method_3_code 2 = .ok (.ifCond .eq 7, 3) := by decide +kernel
theorem d_MO_refuse_5 : decode prog_15_method_3_code 5 = .ok (.iconst 1, 1) := by decide +kernel
theorem d_MO_refuse_6 : decode prog_15_method_3_code 6 = .ok (.goto 12, 3) := by decide +kernel
theorem d_MO_refuse_9 : decode prog_15_method_3_code 9 = .ok (.iload_n 2, 1) := by decide +kernel
theorem d_MO_refuse_10 : decode prog_15_method_3_code 10 = .ok (.ifCond .eq 7, 3) := by decide +kernel
theorem d_MO_refuse_13 : decode prog_15_method_3_code 13 = .ok (.iconst 2, 1) := by decide +kernel
theorem d_MO_refuse_14 : decode prog_15_method_3_code 14 = .ok (.goto 4, 3) := by decide +kernel
theorem d_MO_refuse_17 : decode prog_15_method_3_code 17 = .ok (.iconst 0, 1) := by decide +kernel
theorem d_MO_refuse_18 : decode prog_15_method_3_code 18 = .ok (.putfield 179, 3) := by decide +kernel
theorem d_MO_refuse_21 : decode prog_15_method_3_code 21 = .ok (.aload_n 0, 1) := by decide +kernel
theorem d_MO_refuse_22 : decode prog_15_method_3_code 22 = .ok (.getfield 179, 3) := by decide +kernel
theorem d_MO_refuse_25 : decode prog_15_method_3_code 25 = .ok (.ifCond .le 7, 3) := by decide +kernel
theorem d_MO_refuse_28 : decode prog_15_method_3_code 28 = .ok (.iconst 1, 1) := by decide +kernel
theorem d_MO_refuse_29 : decode prog_15_method_3_code 29 = .ok (.goto 4, 3) := by decide +kernel
theorem d_MO_refuse_32 : decode prog_15_method_3_code 32 = .ok (.iconst 0, 1) := by decide +kernel
theorem d_MO_refuse_33 : decode prog_15_method_3_code 33 = .ok (.ireturn, 1) := by decide +kernel
theorem d_MO_put_0 : decode prog_15_method_5_code 0 = .ok (.iconst 0, 1) := by decide +kernel
theorem d_MO_put_1 : decode prog_15_method_5_code 1 = .ok (.istore_n 2, 1) := by decide +kernel
theorem d_MO_put_2 : decode prog_15_method_5_code 2 = .ok (.iconst 1, 1) := by decide +kernel
theorem d_MO_put_3 : decode prog_15_method_5_code 3 = .ok (.istore_n 3, 1) := by decide +kernel
theorem d_MO_put_4 : decode prog_15_method_5_code 4 = .ok (.iconst 0, 1) := by decide +kernel
theorem d_MO_put_5 : decode prog_15_method_5_code 5 = .ok (.istore 4, 2) := by decide +kernel
theorem d_MO_put_7 : decode prog_15_method_5_code 7 = .ok (.iload 4, 2) := by decide +kernel
theorem d_MO_put_9 : decode prog_15_method_5_code 9 = .ok (.bipush 32, 2) := by decide +kernel
theorem d_MO_put_11 : decode prog_15_method_5_code 11 = .ok (.if_icmp .ge 66, 3) := by decide +kernel
theorem d_MO_put_14 : decode prog_15_method_5_code 14 = .ok (.iload_n 1, 1) := by decide +kernel
theorem d_MO_put_15 : decode prog_15_method_5_code 15 = .ok (.iload 4, 2) := by decide +kernel
theorem d_MO_put_17 : decode prog_15_method_5_code 17 = .ok (.ishr, 1) := by decide +kernel
theorem d_MO_put_18 : decode prog_15_method_5_code 18 = .ok (.sipush 255, 3) := by decide +kernel
theorem d_MO_put_21 : decode prog_15_method_5_code 21 = .ok (.iand, 1) := by decide +kernel
theorem d_MO_put_22 : decode prog_15_method_5_code 22 = .ok (.istore 5, 2) := by decide +kernel
theorem d_MO_put_24 : decode prog_15_method_5_code 24 = .ok (.iload_n 3, 1) := by decide +kernel
theorem d_MO_put_25 : decode prog_15_method_5_code 25 = .ok (.ifCond .eq 31, 3) := by decide +kernel
theorem d_MO_put_28 : decode prog_15_method_5_code 28 = .ok (.iload 5, 2) := by decide +kernel
theorem d_MO_put_30 : decode prog_15_method_5_code 30 = .ok (.ifCond .eq 22, 3) := by decide +kernel
theorem d_MO_put_33 : decode prog_15_method_5_code 33 = .ok (.iload 5, 2) := by decide +kernel
theorem d_MO_put_35 : decode prog_15_method_5_code 35 = .ok (.bipush 10, 2) := by decide +kernel
theorem d_MO_put_37 : decode prog_15_method_5_code 37 = .ok (.if_icmp .eq 15, 3) := by decide +kernel
theorem d_MO_put_40 : decode prog_15_method_5_code 40 = .ok (.iload 5, 2) := by decide +kernel
theorem d_MO_put_42 : decode prog_15_method_5_code 42 = .ok (.bipush 32, 2) := by decide +kernel
theorem d_MO_put_44 : decode prog_15_method_5_code 44 = .ok (.bipush 126, 2) := by decide +kernel
theorem d_MO_put_46 : decode prog_15_method_5_code 46 = .ok (.invokestatic 182, 3) := by decide +kernel
theorem d_MO_put_49 : decode prog_15_method_5_code 49 = .ok (.ifCond .eq 7, 3) := by decide +kernel
theorem d_MO_put_52 : decode prog_15_method_5_code 52 = .ok (.iconst 1, 1) := by decide +kernel
theorem d_MO_put_53 : decode prog_15_method_5_code 53 = .ok (.goto 4, 3) := by decide +kernel
theorem d_MO_put_56 : decode prog_15_method_5_code 56 = .ok (.iconst 0, 1) := by decide +kernel
theorem d_MO_put_57 : decode prog_15_method_5_code 57 = .ok (.istore_n 3, 1) := by decide +kernel
theorem d_MO_put_58 : decode prog_15_method_5_code 58 = .ok (.iload 5, 2) := by decide +kernel
theorem d_MO_put_60 : decode prog_15_method_5_code 60 = .ok (.ifCond .le 9, 3) := by decide +kernel
theorem d_MO_put_63 : decode prog_15_method_5_code 63 = .ok (.iload_n 2, 1) := by decide +kernel
theorem d_MO_put_64 : decode prog_15_method_5_code 64 = .ok (.iconst 1, 1) := by decide +kernel
theorem d_MO_put_65 : decode prog_15_method_5_code 65 = .ok (.iadd, 1) := by decide +kernel
theorem d_MO_put_66 : decode prog_15_method_5_code 66 = .ok (.goto 4, 3) := by decide +kernel
theorem d_MO_put_69 : decode prog_15_method_5_code 69 = .ok (.iload_n 2, 1) := by decide +kernel
theorem d_MO_put_70 : decode prog_15_method_5_code 70 = .ok (.istore_n 2, 1) := by decide +kernel
theorem d_MO_put_71 : decode prog_15_method_5_code 71 = .ok (.iinc 4 8, 3) := by decide +kernel
theorem d_MO_put_74 : decode prog_15_method_5_code 74 = .ok (.goto (-67), 3) := by decide +kernel
theorem d_MO_put_77 : decode prog_15_method_5_code 77 = .ok (.aload_n 0, 1) := by decide +kernel
theorem d_MO_put_78 : decode prog_15_method_5_code 78 = .ok (.iload_n 3, 1) := by decide +kernel
theorem d_MO_put_79 : decode prog_15_method_5_code 79 = .ok (.ifCond .ne 7, 3) := by decide +kernel
theorem d_MO_put_82 : decode prog_15_method_5_code 82 = .ok (.iconst 1, 1) := by decide +kernel
theorem d_MO_put_83 : decode prog_15_method_5_code 83 = .ok (.goto 4, 3) := by decide +kernel
theorem d_MO_put_86 : decode prog_15_method_5_code 86 = .ok (.iconst 0, 1) := by decide +kernel
theorem d_MO_put_87 : decode prog_15_method_5_code 87 = .ok (.iload_n 3, 1) := by decide +kernel
theorem d_MO_put_88 : decode prog_15_method_5_code 88 = .ok (.ifCond .eq 19, 3) := by decide +kernel
theorem d_MO_put_91 : decode prog_15_method_5_code 91 = .ok (.aload_n 0, 1) := by decide +kernel
theorem d_MO_put_92 : decode prog_15_method_5_code 92 = .ok (.getfield 186, 3) := by decide +kernel
theorem d_MO_put_95 : decode prog_15_method_5_code 95 = .ok (.iload_n 2, 1) := by decide +kernel
theorem d_MO_put_96 : decode prog_15_method_5_code 96 = .ok (.iadd, 1) := by decide +kernel
theorem d_MO_put_97 : decode prog_15_method_5_code 97 = .ok (.sipush 3000, 3) := by decide +kernel
theorem d_MO_put_100 : decode prog_15_method_5_code 100 = .ok (.if_icmp .le 7, 3) := by decide +kernel
theorem d_MO_put_103 : decode prog_15_method_5_code 103 = .ok (.iconst 1, 1) := by decide +kernel
theorem d_MO_put_104 : decode prog_15_method_5_code 104 = .ok (.goto 4, 3) := by decide +kernel
theorem d_MO_put_107 : decode prog_15_method_5_code 107 = .ok (.iconst 0, 1) := by decide +kernel
theorem d_MO_put_108 : decode prog_15_method_5_code 108 = .ok (.invokevirtual 189, 3) := by decide +kernel
theorem d_MO_put_111 : decode prog_15_method_5_code 111 = .ok (.ifCond .eq 5, 3) := by decide +kernel
theorem d_MO_put_114 : decode prog_15_method_5_code 114 = .ok (.iconst 0, 1) := by decide +kernel
theorem d_MO_put_115 : decode prog_15_method_5_code 115 = .ok (.ireturn, 1) := by decide +kernel
theorem d_MO_put_116 : decode prog_15_method_5_code 116 = .ok (.iconst 0, 1) := by decide +kernel
theorem d_MO_put_117 : decode prog_15_method_5_code 117 = .ok (.istore 4, 2) := by decide +kernel
theorem d_MO_put_119 : decode prog_15_method_5_code 119 = .ok (.iload 4, 2) := by decide +kernel
theorem d_MO_put_121 : decode prog_15_method_5_code 121 = .ok (.bipush 32, 2) := by decide +kernel
theorem d_MO_put_123 : decode prog_15_method_5_code 123 = .ok (.if_icmp .ge 45, 3) := by decide +kernel
theorem d_MO_put_126 : decode prog_15_method_5_code 126 = .ok (.iload_n 1, 1) := by decide +kernel
theorem d_MO_put_127 : decode prog_15_method_5_code 127 = .ok (.iload 4, 2) := by decide +kernel
theorem d_MO_put_129 : decode prog_15_method_5_code 129 = .ok (.ishr, 1) := by decide +kernel
theorem d_MO_put_130 : decode prog_15_method_5_code 130 = .ok (.sipush 255, 3) := by decide +kernel
theorem d_MO_put_133 : decode prog_15_method_5_code 133 = .ok (.iand, 1) := by decide +kernel
theorem d_MO_put_134 : decode prog_15_method_5_code 134 = .ok (.istore 5, 2) := by decide +kernel
theorem d_MO_put_136 : decode prog_15_method_5_code 136 = .ok (.iload 5, 2) := by decide +kernel
theorem d_MO_put_138 : decode prog_15_method_5_code 138 = .ok (.ifCond .le 24, 3) := by decide +kernel
theorem d_MO_put_141 : decode prog_15_method_5_code 141 = .ok (.aload_n 0, 1) := by decide +kernel
theorem d_MO_put_142 : decode prog_15_method_5_code 142 = .ok (.getfield 7, 3) := by decide +kernel
theorem d_MO_put_145 : decode prog_15_method_5_code 145 = .ok (.aload_n 0, 1) := by decide +kernel
theorem d_MO_put_146 : decode prog_15_method_5_code 146 = .ok (.getfield 186, 3) := by decide +kernel
theorem d_MO_put_149 : decode prog_15_method_5_code 149 = .ok (.iload 5, 2) := by decide +kernel
theorem d_MO_put_151 : decode prog_15_method_5_code 151 = .ok (.iastore, 1) := by decide +kernel
theorem d_MO_put_152 : decode prog_15_method_5_code 152 = .ok (.aload_n 0, 1) := by decide +kernel
theorem d_MO_put_153 : decode prog_15_method_5_code 153 = .ok (.dup, 1) := by decide +kernel
theorem d_MO_put_154 : decode prog_15_method_5_code 154 = .ok (.getfield 186, 3) := by decide +kernel
theorem d_MO_put_157 : decode prog_15_method_5_code 157 = .ok (.iconst 1, 1) := by decide +kernel
theorem d_MO_put_158 : decode prog_15_method_5_code 158 = .ok (.iadd, 1) := by decide +kernel
theorem d_MO_put_159 : decode prog_15_method_5_code 159 = .ok (.putfield 186, 3) := by decide +kernel
theorem d_MO_put_162 : decode prog_15_method_5_code 162 = .ok (.iinc 4 8, 3) := by decide +kernel
theorem d_MO_put_165 : decode prog_15_method_5_code 165 = .ok (.goto (-46), 3) := by decide +kernel
theorem d_MO_put_168 : decode prog_15_method_5_code 168 = .ok (.aload_n 0, 1) := by decide +kernel
theorem d_MO_put_169 : decode prog_15_method_5_code 169 = .ok (.getfield 186, 3) := by decide +kernel
theorem d_MO_put_172 : decode prog_15_method_5_code 172 = .ok (.ireturn, 1) := by decide +kernel
theorem d_MO_end_0 : decode prog_15_method_6_code 0 = .ok (.aload_n 0, 1) := by decide +kernel
theorem d_MO_end_1 : decode prog_15_method_6_code 1 = .ok (.iload_n 1, 1) := by decide +kernel
theorem d_MO_end_2 : decode prog_15_method_6_code 2 = .ok (.iconst 0, 1) := by decide +kernel
theorem d_MO_end_3 : decode prog_15_method_6_code 3 = .ok (.aload_n 0, 1) := by decide +kernel
theorem d_MO_end_4 : decode prog_15_method_6_code 4 = .ok (.getfield 186, 3) := by decide +kernel
theorem d_MO_end_7 : decode prog_15_method_6_code 7 = .ok (.invokestatic 182, 3) := by decide +kernel
theorem d_MO_end_10 : decode prog_15_method_6_code 10 = .ok (.ifCond .ne 7, 3) := by decide +kernel
theorem d_MO_end_13 : decode prog_15_method_6_code 13 = .ok (.iconst 1, 1) := by decide +kernel
theorem d_MO_end_14 : decode prog_15_method_6_code 14 = .ok (.goto 4, 3) := by decide +kernel
theorem d_MO_end_17 : decode prog_15_method_6_code 17 = .ok (.iconst 0, 1) := by decide +kernel
theorem d_MO_end_18 : decode prog_15_method_6_code 18 = .ok (.iconst 0, 1) := by decide +kernel
theorem d_MO_end_19 : decode prog_15_method_6_code 19 = .ok (.invokevirtual 189, 3) := by decide +kernel
theorem d_MO_end_22 : decode prog_15_method_6_code 22 = .ok (.ifCond .ne 8, 3) := by decide +kernel
theorem d_MO_end_25 : decode prog_15_method_6_code 25 = .ok (.aload_n 0, 1) := by decide +kernel
theorem d_MO_end_26 : decode prog_15_method_6_code 26 = .ok (.iload_n 1, 1) := by decide +kernel
theorem d_MO_end_27 : decode prog_15_method_6_code 27 = .ok (.putfield 186, 3) := by decide +kernel
theorem d_MO_end_30 : decode prog_15_method_6_code 30 = .ok (.return_, 1) := by decide +kernel
theorem d_MO_findLines_0 : decode prog_15_method_7_code 0 = .ok (.aload_n 0, 1) := by decide +kernel
theorem d_MO_findLines_1 : decode prog_15_method_7_code 1 = .ok (.iconst 0, 1) := by decide +kernel
theorem d_MO_findLines_2 : decode prog_15_method_7_code 2 = .ok (.putfield 193, 3) := by decide +kernel
theorem d_MO_findLines_5 : decode prog_15_method_7_code 5 = .ok (.iconst 0, 1) := by decide +kernel
theorem d_MO_findLines_6 : decode prog_15_method_7_code 6 = .ok (.istore_n 1, 1) := by decide +kernel
theorem d_MO_findLines_7 : decode prog_15_method_7_code 7 = .ok (.iconst 0, 1) := by decide +kernel
theorem d_MO_findLines_8 : decode prog_15_method_7_code 8 = .ok (.istore_n 2, 1) := by decide +kernel
theorem d_MO_findLines_9 : decode prog_15_method_7_code 9 = .ok (.iload_n 2, 1) := by decide +kernel
theorem d_MO_findLines_10 : decode prog_15_method_7_code 10 = .ok (.aload_n 0, 1) := by decide +kernel
theorem d_MO_findLines_11 : decode prog_15_method_7_code 11 = .ok (.getfield 186, 3) := by decide +kernel
theorem d_MO_findLines_14 : decode prog_15_method_7_code 14 = .ok (.if_icmp .gt 144, 3) := by decide +kernel
theorem d_MO_findLines_17 : decode prog_15_method_7_code 17 = .ok (.iload_n 2, 1) := by decide +kernel
theorem d_MO_findLines_18 : decode prog_15_method_7_code 18 = .ok (.aload_n 0, 1) := by decide +kernel
theorem d_MO_findLines_19 : decode prog_15_method_7_code 19 = .ok (.getfield 186, 3) := by decide +kernel
theorem d_MO_findLines_22 : decode prog_15_method_7_code 22 = .ok (.if_icmp .ge 17, 3) := by decide +kernel
theorem d_MO_findLines_25 : decode prog_15_method_7_code 25 = .ok (.aload_n 0, 1) := by decide +kernel
theorem d_MO_findLines_26 : decode prog_15_method_7_code 26 = .ok (.getfield 7, 3) := by decide +kernel
theorem d_MO_findLines_29 : decode prog_15_method_7_code 29 = .ok (.iload_n 2, 1) := by decide +kernel
theorem d_MO_findLines_30 : decode prog_15_method_7_code 30 = .ok (.iaload, 1) := by decide +kernel
theorem d_MO_findLines_31 : decode prog_15_method_7_code 31 = .ok (.bipush 10, 2) := by decide +kernel
theorem d_MO_findLines_33 : decode prog_15_method_7_code 33 = .ok (.if_icmp .eq 6, 3) := by decide +kernel
theorem d_MO_findLines_36 : decode prog_15_method_7_code 36 = .ok (.goto 116, 3) := by decide +kernel
theorem d_MO_findLines_39 : decode prog_15_method_7_code 39 = .ok (.iload_n 1, 1) := by decide +kernel
theorem d_MO_findLines_40 : decode prog_15_method_7_code 40 = .ok (.istore_n 3, 1) := by decide +kernel
theorem d_MO_findLines_41 : decode prog_15_method_7_code 41 = .ok (.iload_n 1, 1) := by decide +kernel
theorem d_MO_findLines_42 : decode prog_15_method_7_code 42 = .ok (.istore 4, 2) := by decide +kernel
theorem d_MO_findLines_44 : decode prog_15_method_7_code 44 = .ok (.iload 4, 2) := by decide +kernel
theorem d_MO_findLines_46 : decode prog_15_method_7_code 46 = .ok (.iload_n 2, 1) := by decide +kernel
theorem d_MO_findLines_47 : decode prog_15_method_7_code 47 = .ok (.if_icmp .ge 21, 3) := by decide +kernel
theorem d_MO_findLines_50 : decode prog_15_method_7_code 50 = .ok (.aload_n 0, 1) := by decide +kernel
theorem d_MO_findLines_51 : decode prog_15_method_7_code 51 = .ok (.getfield 7, 3) := by decide +kernel
theorem d_MO_findLines_54 : decode prog_15_method_7_code 54 = .ok (.iload 4, 2) := by decide +kernel
theorem d_MO_findLines_56 : decode prog_15_method_7_code 56 = .ok (.iaload, 1) := by decide +kernel
theorem d_MO_findLines_57 : decode prog_15_method_7_code 57 = .ok (.bipush 35, 2) := by decide +kernel
theorem d_MO_findLines_59 : decode prog_15_method_7_code 59 = .ok (.if_icmp .eq 9, 3) := by decide +kernel
theorem d_MO_findLines_62 : decode prog_15_method_7_code 62 = .ok (.iinc 4 1, 3) := by decide +kernel
theorem d_MO_findLines_65 : decode prog_15_method_7_code 65 = .ok (.goto (-21), 3) := by decide +kernel
theorem d_MO_findLines_68 : decode prog_15_method_7_code 68 = .ok (.iload_n 3, 1) := by decide +kernel
theorem d_MO_findLines_69 : decode prog_15_method_7_code 69 = .ok (.iload 4, 2) := by decide +kernel
theorem d_MO_findLines_71 : decode prog_15_method_7_code 71 = .ok (.if_icmp .ge 20, 3) := by decide +kernel
theorem d_MO_findLines_74 : decode prog_15_method_7_code 74 = .ok (.aload_n 0, 1) := by decide +kernel
theorem d_MO_findLines_75 : decode prog_15_method_7_code 75 = .ok (.getfield 7, 3) := by decide +kernel
theorem d_MO_findLines_78 : decode prog_15_method_7_code 78 = .ok (.iload_n 3, 1) := by decide +kernel
theorem d_MO_findLines_79 : decode prog_15_method_7_code 79 = .ok (.iaload, 1) := by decide +kernel
theorem d_MO_findLines_80 : decode prog_15_method_7_code 80 = .ok (.bipush 32, 2) := by decide +kernel
theorem d_MO_findLines_82 : decode prog_15_method_7_code 82 = .ok (.if_icmp .ne 9, 3) := by decide +kernel
theorem d_MO_findLines_85 : decode prog_15_method_7_code 85 = .ok (.iinc 3 1, 3) := by decide +kernel
theorem d_MO_findLines_88 : decode prog_15_method_7_code 88 = .ok (.goto (-20), 3) := by decide +kernel
theorem d_MO_findLines_91 : decode prog_15_method_7_code 91 = .ok (.iload_n 3, 1) := by decide +kernel
theorem d_MO_findLines_92 : decode prog_15_method_7_code 92 = .ok (.iload 4, 2) := by decide +kernel
theorem d_MO_findLines_94 : decode prog_15_method_7_code 94 = .ok (.if_icmp .ge 23, 3) := by decide +kernel
theorem d_MO_findLines_97 : decode prog_15_method_7_code 97 = .ok (.aload_n 0, 1) := by decide +kernel
theorem d_MO_findLines_98 : decode prog_15_method_7_code 98 = .ok (.getfield 7, 3) := by decide +kernel
theorem d_MO_findLines_101 : decode prog_15_method_7_code 101 = .ok (.iload 4, 2) := by decide +kernel
theorem d_MO_findLines_103 : decode prog_15_method_7_code 103 = .ok (.iconst 1, 1) := by decide +kernel
theorem d_MO_findLines_104 : decode prog_15_method_7_code 104 = .ok (.isub, 1) := by decide +kernel
theorem d_MO_findLines_105 : decode prog_15_method_7_code 105 = .ok (.iaload, 1) := by decide +kernel
theorem d_MO_findLines_106 : decode prog_15_method_7_code 106 = .ok (.bipush 32, 2) := by decide +kernel
theorem d_MO_findLines_108 : decode prog_15_method_7_code 108 = .ok (.if_icmp .ne 9, 3) := by decide +kernel
theorem d_MO_findLines_111 : decode prog_15_method_7_code 111 = .ok (.iinc 4 (-1), 3) := by decide +kernel
theorem d_MO_findLines_114 : decode prog_15_method_7_code 114 = .ok (.goto (-23), 3) := by decide +kernel
theorem d_MO_findLines_117 : decode prog_15_method_7_code 117 = .ok (.aload_n 0, 1) := by decide +kernel
theorem d_MO_findLines_118 : decode prog_15_method_7_code 118 = .ok (.getfield 13, 3) := by decide +kernel
theorem d_MO_findLines_121 : decode prog_15_method_7_code 121 = .ok (.aload_n 0, 1) := by decide +kernel
theorem d_MO_findLines_122 : decode prog_15_method_7_code 122 = .ok (.getfield 193, 3) := by decide +kernel
theorem d_MO_findLines_125 : decode prog_15_method_7_code 125 = .ok (.iload_n 3, 1) := by decide +kernel
theorem d_MO_findLines_126 : decode prog_15_method_7_code 126 = .ok (.iastore, 1) := by decide +kernel
theorem d_MO_findLines_127 : decode prog_15_method_7_code 127 = .ok (.aload_n 0, 1) := by decide +kernel
theorem d_MO_findLines_128 : decode prog_15_method_7_code 128 = .ok (.getfield 16, 3) := by decide +kernel
theorem d_MO_findLines_131 : decode prog_15_method_7_code 131 = .ok (.aload_n 0, 1) := by decide +kernel
theorem d_MO_findLines_132 : decode prog_15_method_7_code 132 = .ok (.getfield 193, 3) := by decide +kernel
theorem d_MO_findLines_135 : decode prog_15_method_7_code 135 = .ok (.iload 4, 2) := by decide +kernel
theorem d_MO_findLines_137 : decode prog_15_method_7_code 137 = .ok (.iastore, 1) := by decide +kernel
theorem d_MO_findLines_138 : decode prog_15_method_7_code 138 = .ok (.aload_n 0, 1) := by decide +kernel
theorem d_MO_findLines_139 : decode prog_15_method_7_code 139 = .ok (.dup, 1) := by decide +kernel
theorem d_MO_findLines_140 : decode prog_15_method_7_code 140 = .ok (.getfield 193, 3) := by decide +kernel
theorem d_MO_findLines_143 : decode prog_15_method_7_code 143 = .ok (.iconst 1, 1) := by decide +kernel
theorem d_MO_findLines_144 : decode prog_15_method_7_code 144 = .ok (.iadd, 1) := by decide +kernel
theorem d_MO_findLines_145 : decode prog_15_method_7_code 145 = .ok (.putfield 193, 3) := by decide +kernel
theorem d_MO_findLines_148 : decode prog_15_method_7_code 148 = .ok (.iload_n 2, 1) := by decide +kernel
theorem d_MO_findLines_149 : decode prog_15_method_7_code 149 = .ok (.iconst 1, 1) := by decide +kernel
theorem d_MO_findLines_150 : decode prog_15_method_7_code 150 = .ok (.iadd, 1) := by decide +kernel
theorem d_MO_findLines_151 : decode prog_15_method_7_code 151 = .ok (.istore_n 1, 1) := by decide +kernel
theorem d_MO_findLines_152 : decode prog_15_method_7_code 152 = .ok (.iinc 2 1, 3) := by decide +kernel
theorem d_MO_findLines_155 : decode prog_15_method_7_code 155 = .ok (.goto (-146), 3) := by decide +kernel
theorem d_MO_findLines_158 : decode prog_15_method_7_code 158 = .ok (.return_, 1) := by decide +kernel
theorem d_MO_beginFrame_0 : decode prog_15_method_40_code 0 = .ok (.aload_n 0, 1) := by decide +kernel
theorem d_MO_beginFrame_1 : decode prog_15_method_40_code 1 = .ok (.getfield 78, 3) := by decide +kernel
theorem d_MO_beginFrame_4 : decode prog_15_method_40_code 4 = .ok (.aload_n 0, 1) := by decide +kernel
theorem d_MO_beginFrame_5 : decode prog_15_method_40_code 5 = .ok (.getfield 244, 3) := by decide +kernel
theorem d_MO_beginFrame_8 : decode prog_15_method_40_code 8 = .ok (.iload_n 1, 1) := by decide +kernel
theorem d_MO_beginFrame_9 : decode prog_15_method_40_code 9 = .ok (.iastore, 1) := by decide +kernel
theorem d_MO_beginFrame_10 : decode prog_15_method_40_code 10 = .ok (.aload_n 0, 1) := by decide +kernel
theorem d_MO_beginFrame_11 : decode prog_15_method_40_code 11 = .ok (.getfield 81, 3) := by decide +kernel
theorem d_MO_beginFrame_14 : decode prog_15_method_40_code 14 = .ok (.aload_n 0, 1) := by decide +kernel
theorem d_MO_beginFrame_15 : decode prog_15_method_40_code 15 = .ok (.getfield 244, 3) := by decide +kernel
theorem d_MO_beginFrame_18 : decode prog_15_method_40_code 18 = .ok (.iload_n 2, 1) := by decide +kernel
theorem d_MO_beginFrame_19 : decode prog_15_method_40_code 19 = .ok (.iastore, 1) := by decide +kernel
theorem d_MO_beginFrame_20 : decode prog_15_method_40_code 20 = .ok (.aload_n 0, 1) := by decide +kernel
theorem d_MO_beginFrame_21 : decode prog_15_method_40_code 21 = .ok (.getfield 84, 3) := by decide +kernel
theorem d_MO_beginFrame_24 : decode prog_15_method_40_code 24 = .ok (.aload_n 0, 1) := by decide +kernel
theorem d_MO_beginFrame_25 : decode prog_15_method_40_code 25 = .ok (.getfield 244, 3) := by decide +kernel
theorem d_MO_beginFrame_28 : decode prog_15_method_40_code 28 = .ok (.iload_n 3, 1) := by decide +kernel
theorem d_MO_beginFrame_29 : decode prog_15_method_40_code 29 = .ok (.iastore, 1) := by decide +kernel
theorem d_MO_beginFrame_30 : decode prog_15_method_40_code 30 = .ok (.aload_n 0, 1) := by decide +kernel
theorem d_MO_beginFrame_31 : decode prog_15_method_40_code 31 = .ok (.getfield 87, 3) := by decide +kernel
theorem d_MO_beginFrame_34 : decode prog_15_method_40_code 34 = .ok (.aload_n 0, 1) := by decide +kernel
theorem d_MO_beginFrame_35 : decode prog_15_method_40_code 35 = .ok (.getfield 244, 3) := by decide +kernel
theorem d_MO_beginFrame_38 : decode prog_15_method_40_code 38 = .ok (.iload_n 2, 1) := by decide +kernel
theorem d_MO_beginFrame_39 : decode prog_15_method_40_code 39 = .ok (.iastore, 1) := by decide +kernel
theorem d_MO_beginFrame_40 : decode prog_15_method_40_code 40 = .ok (.aload_n 0, 1) := by decide +kernel
theorem d_MO_beginFrame_41 : decode prog_15_method_40_code 41 = .ok (.getfield 90, 3) := by decide +kernel
theorem d_MO_beginFrame_44 : decode prog_15_method_40_code 44 = .ok (.aload_n 0, 1) := by decide +kernel
theorem d_MO_beginFrame_45 : decode prog_15_method_40_code 45 = .ok (.getfield 244, 3) := by decide +kernel
theorem d_MO_beginFrame_48 : decode prog_15_method_40_code 48 = .ok (.iload 4, 2) := by decide +kernel
theorem d_MO_beginFrame_50 : decode prog_15_method_40_code 50 = .ok (.iastore, 1) := by decide +kernel
theorem d_MO_beginFrame_51 : decode prog_15_method_40_code 51 = .ok (.aload_n 0, 1) := by decide +kernel
theorem d_MO_beginFrame_52 : decode prog_15_method_40_code 52 = .ok (.getfield 93, 3) := by decide +kernel
theorem d_MO_beginFrame_55 : decode prog_15_method_40_code 55 = .ok (.aload_n 0, 1) := by decide +kernel
theorem d_MO_beginFrame_56 : decode prog_15_method_40_code 56 = .ok (.getfield 244, 3) := by decide +kernel
theorem d_MO_beginFrame_59 : decode prog_15_method_40_code 59 = .ok (.iconst 0, 1) := by decide +kernel
theorem d_MO_beginFrame_60 : decode prog_15_method_40_code 60 = .ok (.iastore, 1) := by decide +kernel
theorem d_MO_beginFrame_61 : decode prog_15_method_40_code 61 = .ok (.aload_n 0, 1) := by decide +kernel
theorem d_MO_beginFrame_62 : decode prog_15_method_40_code 62 = .ok (.getfield 102, 3) := by decide +kernel
theorem d_MO_beginFrame_65 : decode prog_15_method_40_code 65 = .ok (.aload_n 0, 1) := by decide +kernel
theorem d_MO_beginFrame_66 : decode prog_15_method_40_code 66 = .ok (.getfield 244, 3) := by decide +kernel
theorem d_MO_beginFrame_69 : decode prog_15_method_40_code 69 = .ok (.aload_n 0, 1) := by decide +kernel
theorem d_MO_beginFrame_70 : decode prog_15_method_40_code 70 = .ok (.getfield 358, 3) := by decide +kernel
theorem d_MO_beginFrame_73 : decode prog_15_method_40_code 73 = .ok (.iastore, 1) := by decide +kernel
theorem d_MO_beginFrame_74 : decode prog_15_method_40_code 74 = .ok (.aload_n 0, 1) := by decide +kernel
theorem d_MO_beginFrame_75 : decode prog_15_method_40_code 75 = .ok (.getfield 105, 3) := by decide +kernel
theorem d_MO_beginFrame_78 : decode prog_15_method_40_code 78 = .ok (.aload_n 0, 1) := by decide +kernel
theorem d_MO_beginFrame_79 : decode prog_15_method_40_code 79 = .ok (.getfield 244, 3) := by decide +kernel
theorem d_MO_beginFrame_82 : decode prog_15_method_40_code 82 = .ok (.iload 5, 2) := by decide +kernel
theorem d_MO_beginFrame_84 : decode prog_15_method_40_code 84 = .ok (.iastore, 1) := by decide +kernel
theorem d_MO_beginFrame_85 : decode prog_15_method_40_code 85 = .ok (.aload_n 0, 1) := by decide +kernel
theorem d_MO_beginFrame_86 : decode prog_15_method_40_code 86 = .ok (.getfield 108, 3) := by decide +kernel
theorem d_MO_beginFrame_89 : decode prog_15_method_40_code 89 = .ok (.aload_n 0, 1) := by decide +kernel
theorem d_MO_beginFrame_90 : decode prog_15_method_40_code 90 = .ok (.getfield 244, 3) := by decide +kernel
theorem d_MO_beginFrame_93 : decode prog_15_method_40_code 93 = .ok (.iload 6, 2) := by decide +kernel
theorem d_MO_beginFrame_95 : decode prog_15_method_40_code 95 = .ok (.iastore, 1) := by decide +kernel
theorem d_MO_beginFrame_96 : decode prog_15_method_40_code 96 = .ok (.aload_n 0, 1) := by decide +kernel
theorem d_MO_beginFrame_97 : decode prog_15_method_40_code 97 = .ok (.dup, 1) := by decide +kernel
theorem d_MO_beginFrame_98 : decode prog_15_method_40_code 98 = .ok (.getfield 244, 3) := by decide +kernel
theorem d_MO_beginFrame_101 : decode prog_15_method_40_code 101 = .ok (.iconst 1, 1) := by decide +kernel
theorem d_MO_beginFrame_102 : decode prog_15_method_40_code 102 = .ok (.iadd, 1) := by decide +kernel
theorem d_MO_beginFrame_103 : decode prog_15_method_40_code 103 = .ok (.putfield 244, 3) := by decide +kernel
theorem d_MO_beginFrame_106 : decode prog_15_method_40_code 106 = .ok (.aload_n 0, 1) := by decide +kernel
theorem d_MO_beginFrame_107 : decode prog_15_method_40_code 107 = .ok (.aload_n 0, 1) := by decide +kernel
theorem d_MO_beginFrame_108 : decode prog_15_method_40_code 108 = .ok (.getfield 244, 3) := by decide +kernel
theorem d_MO_beginFrame_111 : decode prog_15_method_40_code 111 = .ok (.iconst 1, 1) := by decide +kernel
theorem d_MO_beginFrame_112 : decode prog_15_method_40_code 112 = .ok (.isub, 1) := by decide +kernel
theorem d_MO_beginFrame_113 : decode prog_15_method_40_code 113 = .ok (.aload_n 0, 1) := by decide +kernel
theorem d_MO_beginFrame_114 : decode prog_15_method_40_code 114 = .ok (.getfield 361, 3) := by decide +kernel
theorem d_MO_beginFrame_117 : decode prog_15_method_40_code 117 = .ok (.if_icmp .le 12, 3) := by decide +kernel
theorem d_MO_beginFrame_120 : decode prog_15_method_40_code 120 = .ok (.aload_n 0, 1) := by decide +kernel
theorem d_MO_beginFrame_121 : decode prog_15_method_40_code 121 = .ok (.getfield 244, 3) := by decide +kernel
theorem d_MO_beginFrame_124 : decode prog_15_method_40_code 124 = .ok (.iconst 1, 1) := by decide +kernel
theorem d_MO_beginFrame_125 : decode prog_15_method_40_code 125 = .ok (.isub, 1) := by decide +kernel
theorem d_MO_beginFrame_126 : decode prog_15_method_40_code 126 = .ok (.goto 7, 3) := by decide +kernel
theorem d_MO_beginFrame_129 : decode prog_15_method_40_code 129 = .ok (.aload_n 0, 1) := by decide +kernel
theorem d_MO_beginFrame_130 : decode prog_15_method_40_code 130 = .ok (.getfield 361, 3) := by decide +kernel
theorem d_MO_beginFrame_133 : decode prog_15_method_40_code 133 = .ok (.putfield 361, 3) := by decide +kernel
theorem d_MO_beginFrame_136 : decode prog_15_method_40_code 136 = .ok (.return_, 1) := by decide +kernel
theorem d_MO_fail_0 : decode prog_15_method_8_code 0 = .ok (.aload_n 0, 1) := by decide +kernel
theorem d_MO_fail_1 : decode prog_15_method_8_code 1 = .ok (.getfield 196, 3) := by decide +kernel
theorem d_MO_fail_4 : decode prog_15_method_8_code 4 = .ok (.ifCond .ne 13, 3) := by decide +kernel
theorem d_MO_fail_7 : decode prog_15_method_8_code 7 = .ok (.aload_n 0, 1) := by decide +kernel
theorem d_MO_fail_8 : decode prog_15_method_8_code 8 = .ok (.iload_n 1, 1) := by decide +kernel
theorem d_MO_fail_9 : decode prog_15_method_8_code 9 = .ok (.putfield 196, 3) := by decide +kernel
theorem d_MO_fail_12 : decode prog_15_method_8_code 12 = .ok (.aload_n 0, 1) := by decide +kernel
theorem d_MO_fail_13 : decode prog_15_method_8_code 13 = .ok (.iload_n 2, 1) := by decide +kernel
theorem d_MO_fail_14 : decode prog_15_method_8_code 14 = .ok (.putfield 19, 3) := by decide +kernel
theorem d_MO_fail_17 : decode prog_15_method_8_code 17 = .ok (.return_, 1) := by decide +kernel
theorem d_MO_endFrame_0 : decode prog_15_method_41_code 0 = .ok (.aload_n 0, 1) := by decide +kernel
theorem d_MO_endFrame_1 : decode prog_15_method_41_code 1 = .ok (.dup, 1) := by decide +kernel
theorem d_MO_endFrame_2 : decode prog_15_method_41_code 2 = .ok (.getfield 244, 3) := by decide +kernel
theorem d_MO_endFrame_5 : decode prog_15_method_41_code 5 = .ok (.iconst 1, 1) := by decide +kernel
theorem d_MO_endFrame_6 : decode prog_15_method_41_code 6 = .ok (.isub, 1) := by decide +kernel
theorem d_MO_endFrame_7 : decode prog_15_method_41_code 7 = .ok (.putfield 244, 3) := by decide +kernel
theorem d_MO_endFrame_10 : decode prog_15_method_41_code 10 = .ok (.aload_n 0, 1) := by decide +kernel
theorem d_MO_endFrame_11 : decode prog_15_method_41_code 11 = .ok (.aload_n 0, 1) := by decide +kernel
theorem d_MO_endFrame_12 : decode prog_15_method_41_code 12 = .ok (.getfield 105, 3) := by decide +kernel
theorem d_MO_endFrame_15 : decode prog_15_method_41_code 15 = .ok (.aload_n 0, 1) := by decide +kernel
theorem d_MO_endFrame_16 : decode prog_15_method_41_code 16 = .ok (.getfield 244, 3) := by decide +kernel
theorem d_MO_endFrame_19 : decode prog_15_method_41_code 19 = .ok (.iaload, 1) := by decide +kernel
theorem d_MO_endFrame_20 : decode prog_15_method_41_code 20 = .ok (.putfield 349, 3) := by decide +kernel
theorem d_MO_endFrame_23 : decode prog_15_method_41_code 23 = .ok (.aload_n 0, 1) := by decide +kernel
theorem d_MO_endFrame_24 : decode prog_15_method_41_code 24 = .ok (.aload_n 0, 1) := by decide +kernel
theorem d_MO_endFrame_25 : decode prog_15_method_41_code 25 = .ok (.getfield 108, 3) := by decide +kernel
theorem d_MO_endFrame_28 : decode prog_15_method_41_code 28 = .ok (.aload_n 0, 1) := by decide +kernel
theorem d_MO_endFrame_29 : decode prog_15_method_41_code 29 = .ok (.getfield 244, 3) := by decide +kernel
theorem d_MO_endFrame_32 : decode prog_15_method_41_code 32 = .ok (.iaload, 1) := by decide +kernel
theorem d_MO_endFrame_33 : decode prog_15_method_41_code 33 = .ok (.putfield 352, 3) := by decide +kernel
theorem d_MO_endFrame_36 : decode prog_15_method_41_code 36 = .ok (.return_, 1) := by decide +kernel
theorem d_MO_atEnd_0 : decode prog_15_method_42_code 0 = .ok (.aload_n 0, 1) := by decide +kernel
theorem d_MO_atEnd_1 : decode prog_15_method_42_code 1 = .ok (.getfield 358, 3) := by decide +kernel
theorem d_MO_atEnd_4 : decode prog_15_method_42_code 4 = .ok (.aload_n 0, 1) := by decide +kernel
theorem d_MO_atEnd_5 : decode prog_15_method_42_code 5 = .ok (.getfield 102, 3) := by decide +kernel
theorem d_MO_atEnd_8 : decode prog_15_method_42_code 8 = .ok (.iload_n 1, 1) := by decide +kernel
theorem d_MO_atEnd_9 : decode prog_15_method_42_code 9 = .ok (.iaload, 1) := by decide +kernel
theorem d_MO_atEnd_10 : decode prog_15_method_42_code 10 = .ok (.if_icmp .eq 20, 3) := by decide +kernel
theorem d_MO_atEnd_13 : decode prog_15_method_42_code 13 = .ok (.aload_n 0, 1) := by decide +kernel
theorem d_MO_atEnd_14 : decode prog_15_method_42_code 14 = .ok (.iconst 5, 1) := by decide +kernel
theorem d_MO_atEnd_15 : decode prog_15_method_42_code 15 = .ok (.aload_n 0, 1) := by decide +kernel
theorem d_MO_atEnd_16 : decode prog_15_method_42_code 16 = .ok (.getfield 140, 3) := by decide +kernel
theorem d_MO_atEnd_19 : decode prog_15_method_42_code 19 = .ok (.aload_n 0, 1) := by decide +kernel
theorem d_MO_atEnd_20 : decode prog_15_method_42_code 20 = .ok (.getfield 358, 3) := by decide +kernel
theorem d_MO_atEnd_23 : decode prog_15_method_42_code 23 = .ok (.iconst 1, 1) := by decide +kernel
theorem d_MO_atEnd_24 : decode prog_15_method_42_code 24 = .ok (.isub, 1) := by decide +kernel
theorem d_MO_atEnd_25 : decode prog_15_method_42_code 25 = .ok (.iaload, 1) := by decide +kernel
theorem d_MO_atEnd_26 : decode prog_15_method_42_code 26 = .ok (.invokevirtual 250, 3) := by decide +kernel
theorem d_MO_atEnd_29 : decode prog_15_method_42_code 29 = .ok (.return_, 1) := by decide +kernel
theorem d_MO_atEnd_30 : decode prog_15_method_42_code 30 = .ok (.aload_n 0, 1) := by decide +kernel
theorem d_MO_atEnd_31 : decode prog_15_method_42_code 31 = .ok (.getfield 90, 3) := by decide +kernel
theorem d_MO_atEnd_34 : decode prog_15_method_42_code 34 = .ok (.iload_n 1, 1) := by decide +kernel
theorem d_MO_atEnd_35 : decode prog_15_method_42_code 35 = .ok (.dup2, 1) := by decide +kernel
theorem d_MO_atEnd_36 : decode prog_15_method_42_code 36 = .ok (.iaload, 1) := by decide +kernel
theorem d_MO_atEnd_37 : decode prog_15_method_42_code 37 = .ok (.iconst 1, 1) := by decide +kernel
theorem d_MO_atEnd_38 : decode prog_15_method_42_code 38 = .ok (.isub, 1) := by decide +kernel
theorem d_MO_atEnd_39 : decode prog_15_method_42_code 39 = .ok (.iastore, 1) := by decide +kernel
theorem d_MO_atEnd_40 : decode prog_15_method_42_code 40 = .ok (.aload_n 0, 1) := by decide +kernel
theorem d_MO_atEnd_41 : decode prog_15_method_42_code 41 = .ok (.getfield 93, 3) := by decide +kernel
theorem d_MO_atEnd_44 : decode prog_15_method_42_code 44 = .ok (.iload_n 1, 1) := by decide +kernel
theorem d_MO_atEnd_45 : decode prog_15_method_42_code 45 = .ok (.dup2, 1) := by decide +kernel
theorem d_MO_atEnd_46 : decode prog_15_method_42_code 46 = .ok (.iaload, 1) := by decide +kernel
theorem d_MO_atEnd_47 : decode prog_15_method_42_code 47 = .ok (.iconst 1, 1) := by decide +kernel
theorem d_MO_atEnd_48 : decode prog_15_method_42_code 48 = .ok (.iadd, 1) := by decide +kernel
theorem d_MO_atEnd_49 : decode prog_15_method_42_code 49 = .ok (.iastore, 1) := by decide +kernel
theorem d_MO_atEnd_50 : decode prog_15_method_42_code 50 = .ok (.aload_n 0, 1) := by decide +kernel
theorem d_MO_atEnd_51 : decode prog_15_method_42_code 51 = .ok (.getfield 87, 3) := by decide +kernel
theorem d_MO_atEnd_54 : decode prog_15_method_42_code 54 = .ok (.iload_n 1, 1) := by decide +kernel
theorem d_MO_atEnd_55 : decode prog_15_method_42_code 55 = .ok (.aload_n 0, 1) := by decide +kernel
theorem d_MO_atEnd_56 : decode prog_15_method_42_code 56 = .ok (.getfield 81, 3) := by decide +kernel
theorem d_MO_atEnd_59 : decode prog_15_method_42_code 59 = .ok (.iload_n 1, 1) := by decide +kernel
theorem d_MO_atEnd_60 : decode prog_15_method_42_code 60 = .ok (.iaload, 1) := by decide +kernel
theorem d_MO_atEnd_61 : decode prog_15_method_42_code 61 = .ok (.iastore, 1) := by decide +kernel
theorem d_MO_atEnd_62 : decode prog_15_method_42_code 62 = .ok (.aload_n 0, 1) := by decide +kernel
theorem d_MO_atEnd_63 : decode prog_15_method_42_code 63 = .ok (.getfield 90, 3) := by decide +kernel
theorem d_MO_atEnd_66 : decode prog_15_method_42_code 66 = .ok (.iload_n 1, 1) := by decide +kernel
theorem d_MO_atEnd_67 : decode prog_15_method_42_code 67 = .ok (.iaload, 1) := by decide +kernel
theorem d_MO_atEnd_68 : decode prog_15_method_42_code 68 = .ok (.ifCond .gt 7, 3) := by decide +kernel
theorem d_MO_atEnd_71 : decode prog_15_method_42_code 71 = .ok (.aload_n 0, 1) := by decide +kernel
theorem d_MO_atEnd_72 : decode prog_15_method_42_code 72 = .ok (.invokevirtual 364, 3) := by decide +kernel
theorem d_MO_atEnd_75 : decode prog_15_method_42_code 75 = .ok (.return_, 1) := by decide +kernel
theorem d_MO_look_0 : decode prog_15_method_14_code 0 = .ok (.aload_n 0, 1) := by decide +kernel
theorem d_MO_look_1 : decode prog_15_method_14_code 1 = .ok (.dup, 1) := by decide +kernel
theorem d_MO_look_2 : decode prog_15_method_14_code 2 = .ok (.getfield 241, 3) := by decide +kernel
theorem d_MO_look_5 : decode prog_15_method_14_code 5 = .ok (.iconst 1, 1) := by decide +kernel
theorem d_MO_look_6 : decode prog_15_method_14_code 6 = .ok (.iadd, 1) := by decide +kernel
theorem d_MO_look_7 : decode prog_15_method_14_code 7 = .ok (.putfield 241, 3) := by decide +kernel
theorem d_MO_look_10 : decode prog_15_method_14_code 10 = .ok (.aload_n 0, 1) := by decide +kernel
theorem d_MO_look_11 : decode prog_15_method_14_code 11 = .ok (.getfield 241, 3) := by decide +kernel
theorem d_MO_look_14 : decode prog_15_method_14_code 14 = .ok (.sipush 4000, 3) := by decide +kernel
theorem d_MO_look_17 : decode prog_15_method_14_code 17 = .ok (.if_icmp .le 32, 3) := by decide +kernel
theorem d_MO_look_20 : decode prog_15_method_14_code 20 = .ok (.aload_n 0, 1) := by decide +kernel
theorem d_MO_look_21 : decode prog_15_method_14_code 21 = .ok (.sipush 4000, 3) := by decide +kernel
theorem d_MO_look_24 : decode prog_15_method_14_code 24 = .ok (.putfield 241, 3) := by decide +kernel
theorem d_MO_look_27 : decode prog_15_method_14_code 27 = .ok (.aload_n 0, 1) := by decide +kernel
theorem d_MO_look_28 : decode prog_15_method_14_code 28 = .ok (.bipush 6, 2) := by decide +kernel
theorem d_MO_look_30 : decode prog_15_method_14_code 30 = .ok (.aload_n 0, 1) := by decide +kernel
theorem d_MO_look_31 : decode prog_15_method_14_code 31 = .ok (.getfield 244, 3) := by decide +kernel
theorem d_MO_look_34 : decode prog_15_method_14_code 34 = .ok (.iconst 1, 1) := by decide +kernel
theorem d_MO_look_35 : decode prog_15_method_14_code 35 = .ok (.if_icmp .ne 7, 3) := by decide +kernel
theorem d_MO_look_38 : decode prog_15_method_14_code 38 = .ok (.iload_n 1, 1) := by decide +kernel
theorem d_MO_look_39 : decode prog_15_method_14_code 39 = .ok (.goto 7, 3) := by decide +kernel
theorem d_MO_look_42 : decode prog_15_method_14_code 42 = .ok (.aload_n 0, 1) := by decide +kernel
theorem d_MO_look_43 : decode prog_15_method_14_code 43 = .ok (.getfield 247, 3) := by decide +kernel
theorem d_MO_look_46 : decode prog_15_method_14_code 46 = .ok (.invokevirtual 250, 3) := by decide +kernel
theorem d_MO_look_49 : decode prog_15_method_14_code 49 = .ok (.return_, 1) := by decide +kernel
theorem d_MO_isBegin_0 : decode prog_15_method_9_code 0 = .ok (.iload_n 0, 1) := by decide +kernel
theorem d_MO_isBegin_1 : decode prog_15_method_9_code 1 = .ok (.bipush 97, 2) := by decide +kernel
theorem d_MO_isBegin_3 : decode prog_15_method_9_code 3 = .ok (.if_icmp .lt 9, 3) := by decide +kernel
theorem d_MO_isBegin_6 : decode prog_15_method_9_code 6 = .ok (.iload_n 0, 1) := by decide +kernel
theorem d_MO_isBegin_7 : decode prog_15_method_9_code 7 = .ok (.bipush 122, 2) := by decide +kernel
theorem d_MO_isBegin_9 : decode prog_15_method_9_code 9 = .ok (.if_icmp .le 9, 3) := by decide +kernel
theorem d_MO_isBegin_12 : decode prog_15_method_9_code 12 = .ok (.iload_n 0, 1) := by decide +kernel
theorem d_MO_isBegin_13 : decode prog_15_method_9_code 13 = .ok (.bipush 95, 2) := by decide +kernel
theorem d_MO_isBegin_15 : decode prog_15_method_9_code 15 = .ok (.if_icmp .ne 7, 3) := by decide +kernel
theorem d_MO_isBegin_18 : decode prog_15_method_9_code 18 = .ok (.iconst 1, 1) := by decide +kernel
theorem d_MO_isBegin_19 : decode prog_15_method_9_code 19 = .ok (.goto 4, 3) := by decide +kernel
theorem d_MO_isBegin_22 : decode prog_15_method_9_code 22 = .ok (.iconst 0, 1) := by decide +kernel
theorem d_MO_isBegin_23 : decode prog_15_method_9_code 23 = .ok (.ireturn, 1) := by decide +kernel
theorem d_MO_isDigit_0 : decode prog_15_method_10_code 0 = .ok (.iload_n 0, 1) := by decide +kernel
theorem d_MO_isDigit_1 : decode prog_15_method_10_code 1 = .ok (.bipush 48, 2) := by decide +kernel
theorem d_MO_isDigit_3 : decode prog_15_method_10_code 3 = .ok (.if_icmp .lt 13, 3) := by decide +kernel
theorem d_MO_isDigit_6 : decode prog_15_method_10_code 6 = .ok (.iload_n 0, 1) := by decide +kernel
theorem d_MO_isDigit_7 : decode prog_15_method_10_code 7 = .ok (.bipush 57, 2) := by decide +kernel
theorem d_MO_isDigit_9 : decode prog_15_method_10_code 9 = .ok (.if_icmp .gt 7, 3) := by decide +kernel
theorem d_MO_isDigit_12 : decode prog_15_method_10_code 12 = .ok (.iconst 1, 1) := by decide +kernel
theorem d_MO_isDigit_13 : decode prog_15_method_10_code 13 = .ok (.goto 4, 3) := by decide +kernel
theorem d_MO_isDigit_16 : decode prog_15_method_10_code 16 = .ok (.iconst 0, 1) := by decide +kernel
theorem d_MO_isDigit_17 : decode prog_15_method_10_code 17 = .ok (.ireturn, 1) := by decide +kernel
theorem d_MO_isWordSign_0 : decode prog_15_method_11_code 0 = .ok (.iload_n 0, 1) := by decide +kernel
theorem d_MO_isWordSign_1 : decode prog_15_method_11_code 1 = .ok (.invokestatic 199, 3) := by decide +kernel
theorem d_MO_isWordSign_4 : decode prog_15_method_11_code 4 = .ok (.ifCond .ne 10, 3) := by decide +kernel
theorem d_MO_isWordSign_7 : decode prog_15_method_11_code 7 = .ok (.iload_n 0, 1) := by decide +kernel
theorem d_MO_isWordSign_8 : decode prog_15_method_11_code 8 = .ok (.invokestatic 203, 3) := by decide +kernel
theorem d_MO_isWordSign_11 : decode prog_15_method_11_code 11 = .ok (.ifCond .eq 7, 3) := by decide +kernel
theorem d_MO_isWordSign_14 : decode prog_15_method_11_code 14 = .ok (.iconst 1, 1) := by decide +kernel
theorem d_MO_isWordSign_15 : decode prog_15_method_11_code 15 = .ok (.goto 4, 3) := by decide +kernel
theorem d_MO_isWordSign_18 : decode prog_15_method_11_code 18 = .ok (.iconst 0, 1) := by decide +kernel
theorem d_MO_isWordSign_19 : decode prog_15_method_11_code 19 = .ok (.ireturn, 1) := by decide +kernel
theorem d_MO_directiveOf_0 : decode prog_15_method_12_code 0 = .ok (.lload_n 0, 1) := by decide +kernel
theorem d_MO_directiveOf_1 : decode prog_15_method_12_code 1 = .ok (.ldc2_w 206, 3) := by decide +kernel
theorem d_MO_directiveOf_4 : decode prog_15_method_12_code 4 = .ok (.lcmp, 1) := by decide +kernel
theorem d_MO_directiveOf_5 : decode prog_15_method_12_code 5 = .ok (.ifCond .ne 5, 3) := by decide +kernel
theorem d_MO_directiveOf_8 : decode prog_15_method_12_code 8 = .ok (.iconst 1, 1) := by decide +kernel
theorem d_MO_directiveOf_9 : decode prog_15_method_12_code 9 = .ok (.ireturn, 1) := by decide +kernel
theorem d_MO_directiveOf_10 : decode prog_15_method_12_code 10 = .ok (.lload_n 0, 1) := by decide +kernel
theorem d_MO_directiveOf_11 : decode prog_15_method_12_code 11 = .ok (.ldc2_w 208, 3) := by decide +kernel
theorem d_MO_directiveOf_14 : decode prog_15_method_12_code 14 = .ok (.lcmp, 1) := by decide +kernel
theorem d_MO_directiveOf_15 : decode prog_15_method_12_code 15 = .ok (.ifCond .ne 5, 3) := by decide +kernel
theorem d_MO_directiveOf_18 : decode prog_15_method_12_code 18 = .ok (.iconst 2, 1) := by decide +kernel
theorem d_MO_directiveOf_19 : decode prog_15_method_12_code 19 = .ok (.ireturn, 1) := by decide +kernel
theorem d_MO_directiveOf_20 : decode prog_15_method_12_code 20 = .ok (.lload_n 0, 1) := by decide +kernel
theorem d_MO_directiveOf_21 : decode prog_15_method_12_code 21 = .ok (.ldc2_w 210, 3) := by decide +kernel
theorem d_MO_directiveOf_24 : decode prog_15_method_12_code 24 = .ok (.lcmp, 1) := by decide +kernel
theorem d_MO_directiveOf_25 : decode prog_15_method_12_code 25 = .ok (.ifCond .ne 5, 3) := by decide +kernel
theorem d_MO_directiveOf_28 : decode prog_15_method_12_code 28 = .ok (.iconst 3, 1) := by decide +kernel
theorem d_MO_directiveOf_29 : decode prog_15_method_12_code 29 = .ok (.ireturn, 1) := by decide +kernel
theorem d_MO_directiveOf_30 : decode prog_15_method_12_code 30 = .ok (.lload_n 0, 1) := by decide +kernel
theorem d_MO_directiveOf_31 : decode prog_15_method_12_code 31 = .ok (.ldc2_w 212, 3) := by decide +kernel
theorem d_MO_directiveOf_34 : decode prog_15_method_12_code 34 = .ok (.lcmp, 1) := by decide +kernel
theorem d_MO_directiveOf_35 : decode prog_15_method_12_code 35 = .ok (.ifCond .ne 5, 3) := by decide +kernel
theorem d_MO_directiveOf_38 : decode prog_15_method_12_code 38 = .ok (.iconst 4, 1) := by decide +kernel
theorem d_MO_directiveOf_39 : decode prog_15_method_12_code 39 = .ok (.ireturn, 1) := by decide +kernel
theorem d_MO_directiveOf_40 : decode prog_15_method_12_code 40 = .ok (.lload_n 0, 1) := by decide +kernel
theorem d_MO_directiveOf_41 : decode prog_15_method_12_code 41 = .ok (.ldc2_w 214, 3) := by decide +kernel
theorem d_MO_directiveOf_44 : decode prog_15_method_12_code 44 = .ok (.lcmp, 1) := by decide +kernel
theorem d_MO_directiveOf_45 : decode prog_15_method_12_code 45 = .ok (.ifCond .ne 5, 3) := by decide +kernel
theorem d_MO_directiveOf_48 : decode prog_15_method_12_code 48 = .ok (.iconst 5, 1) := by decide +kernel
theorem d_MO_directiveOf_49 : decode prog_15_method_12_code 49 = .ok (.ireturn, 1) := by decide +kernel
theorem d_MO_directiveOf_50 : decode prog_15_method_12_code 50 = .ok (.lload_n 0, 1) := by decide +kernel
theorem d_MO_directiveOf_51 : decode prog_15_method_12_code 51 = .ok (.ldc2_w 216, 3) := by decide +kernel
theorem d_MO_directiveOf_54 : decode prog_15_method_12_code 54 = .ok (.lcmp, 1) := by decide +kernel
theorem d_MO_directiveOf_55 : decode prog_15_method_12_code 55 = .ok (.ifCond .ne 6, 3) := by decide +kernel
theorem d_MO_directiveOf_58 : decode prog_15_method_12_code 58 = .ok (.bipush 6, 2) := by decide +kernel
theorem d_MO_directiveOf_60 : decode prog_15_method_12_code 60 = .ok (.ireturn, 1) := by decide +kernel
theorem d_MO_directiveOf_61 : decode prog_15_method_12_code 61 = .ok (.lload_n 0, 1) := by decide +kernel
theorem d_MO_directiveOf_62 : decode prog_15_method_12_code 62 = .ok (.ldc2_w 218, 3) := by decide +kernel
theorem d_MO_directiveOf_65 : decode prog_15_method_12_code 65 = .ok (.lcmp, 1) := by decide +kernel
theorem d_MO_directiveOf_66 : decode prog_15_method_12_code 66 = .ok (.ifCond .ne 6, 3) := by decide +kernel
theorem d_MO_directiveOf_69 : decode prog_15_method_12_code 69 = .ok (.bipush 7, 2) := by decide +kernel
theorem d_MO_directiveOf_71 : decode prog_15_method_12_code 71 = .ok (.ireturn, 1) := by decide +kernel
theorem d_MO_directiveOf_72 : decode prog_15_method_12_code 72 = .ok (.lload_n 0, 1) := by decide +kernel
theorem d_MO_directiveOf_73 : decode prog_15_method_12_code 73 = .ok (.ldc2_w 220, 3) := by decide +kernel
theorem d_MO_directiveOf_76 : decode prog_15_method_12_code 76 = .ok (.lcmp, 1) := by decide +kernel
theorem d_MO_directiveOf_77 : decode prog_15_method_12_code 77 = .ok (.ifCond .ne 6, 3) := by decide +kernel
theorem d_MO_directiveOf_80 : decode prog_15_method_12_code 80 = .ok (.bipush 8, 2) := by decide +kernel
theorem d_MO_directiveOf_82 : decode prog_15_method_12_code 82 = .ok (.ireturn, 1) := by decide +kernel
theorem d_MO_directiveOf_83 : decode prog_15_method_12_code 83 = .ok (.lload_n 0, 1) := by decide +kernel
theorem d_MO_directiveOf_84 : decode prog_15_method_12_code 84 = .ok (.ldc2_w 222, 3) := by decide +kernel
theorem d_MO_directiveOf_87 : decode prog_15_method_12_code 87 = .ok (.lcmp, 1) := by decide +kernel
theorem d_MO_directiveOf_88 : decode prog_15_method_12_code 88 = .ok (.ifCond .ne 6, 3) := by decide +kernel
theorem d_MO_directiveOf_91 : decode prog_15_method_12_code 91 = .ok (.bipush 9, 2) := by decide +kernel
theorem d_MO_directiveOf_93 : decode prog_15_method_12_code 93 = .ok (.ireturn, 1) := by decide +kernel
theorem d_MO_directiveOf_94 : decode prog_15_method_12_code 94 = .ok (.lload_n 0, 1) := by decide +kernel
theorem d_MO_directiveOf_95 : decode prog_15_method_12_code 95 = .ok (.ldc2_w 224, 3) := by decide +kernel
theorem d_MO_directiveOf_98 : decode prog_15_method_12_code 98 = .ok (.lcmp, 1) := by decide +kernel
theorem d_MO_directiveOf_99 : decode prog_15_method_12_code 99 = .ok (.ifCond .ne 6, 3) := by decide +kernel
theorem d_MO_directiveOf_102 : decode prog_15_method_12_code 102 = .ok (.bipush 10, 2) := by decide +kernel
theorem d_MO_directiveOf_104 : decode prog_15_method_12_code 104 = .ok (.ireturn, 1) := by decide +kernel
theorem d_MO_directiveOf_105 : decode prog_15_method_12_code 105 = .ok (.lload_n 0, 1) := by decide +kernel
theorem d_MO_directiveOf_106 : decode prog_15_method_12_code 106 = .ok (.ldc2_w 226, 3) := by decide +kernel
theorem d_MO_directiveOf_109 : decode prog_15_method_12_code 109 = .ok (.lcmp, 1) := by decide +kernel
theorem d_MO_directiveOf_110 : decode prog_15_method_12_code 110 = .ok (.ifCond .ne 6, 3) := by decide +kernel
theorem d_MO_directiveOf_113 : decode prog_15_method_12_code 113 = .ok (.bipush 11, 2) := by decide +kernel
theorem d_MO_directiveOf_115 : decode prog_15_method_12_code 115 = .ok (.ireturn, 1) := by decide +kernel
theorem d_MO_directiveOf_116 : decode prog_15_method_12_code 116 = .ok (.lload_n 0, 1) := by decide +kernel
theorem d_MO_directiveOf_117 : decode prog_15_method_12_code 117 = .ok (.ldc2_w 228, 3) := by decide +kernel
theorem d_MO_directiveOf_120 : decode prog_15_method_12_code 120 = .ok (.lcmp, 1) := by decide +kernel
theorem d_MO_directiveOf_121 : decode prog_15_method_12_code 121 = .ok (.ifCond .ne 6, 3) := by decide +kernel
theorem d_MO_directiveOf_124 : decode prog_15_method_12_code 124 = .ok (.bipush 12, 2) := by decide +kernel
theorem d_MO_directiveOf_126 : decode prog_15_method_12_code 126 = .ok (.ireturn, 1) := by decide +kernel
theorem d_MO_directiveOf_127 : decode prog_15_method_12_code 127 = .ok (.lload_n 0, 1) := by decide +kernel
theorem d_MO_directiveOf_128 : decode prog_15_method_12_code 128 = .ok (.ldc2_w 230, 3) := by decide +kernel
theorem d_MO_directiveOf_131 : decode prog_15_method_12_code 131 = .ok (.lcmp, 1) := by decide +kernel
theorem d_MO_directiveOf_132 : decode prog_15_method_12_code 132 = .ok (.ifCond .ne 6, 3) := by decide +kernel
theorem d_MO_directiveOf_135 : decode prog_15_method_12_code 135 = .ok (.bipush 13, 2) := by decide +kernel
theorem d_MO_directiveOf_137 : decode prog_15_method_12_code 137 = .ok (.ireturn, 1) := by decide +kernel
theorem d_MO_directiveOf_138 : decode prog_15_method_12_code 138 = .ok (.lload_n 0, 1) := by decide +kernel
theorem d_MO_directiveOf_139 : decode prog_15_method_12_code 139 = .ok (.ldc2_w 232, 3) := by decide +kernel
theorem d_MO_directiveOf_142 : decode prog_15_method_12_code 142 = .ok (.lcmp, 1) := by decide +kernel
theorem d_MO_directiveOf_143 : decode prog_15_method_12_code 143 = .ok (.ifCond .ne 6, 3) := by decide +kernel
theorem d_MO_directiveOf_146 : decode prog_15_method_12_code 146 = .ok (.bipush 14, 2) := by decide +kernel
theorem d_MO_directiveOf_148 : decode prog_15_method_12_code 148 = .ok (.ireturn, 1) := by decide +kernel
theorem d_MO_directiveOf_149 : decode prog_15_method_12_code 149 = .ok (.iconst 0, 1) := by decide +kernel
theorem d_MO_directiveOf_150 : decode prog_15_method_12_code 150 = .ok (.ireturn, 1) := by decide +kernel
theorem d_MO_firstOf_0 : decode prog_15_method_13_code 0 = .ok (.aload_n 0, 1) := by decide +kernel
theorem d_MO_firstOf_1 : decode prog_15_method_13_code 1 = .ok (.getfield 13, 3) := by decide +kernel
theorem d_MO_firstOf_4 : decode prog_15_method_13_code 4 = .ok (.iload_n 1, 1) := by decide +kernel
theorem d_MO_firstOf_5 : decode prog_15_method_13_code 5 = .ok (.iaload, 1) := by decide +kernel
theorem d_MO_firstOf_6 : decode prog_15_method_13_code 6 = .ok (.istore_n 2, 1) := by decide +kernel
theorem d_MO_firstOf_7 : decode prog_15_method_13_code 7 = .ok (.iload_n 2, 1) := by decide +kernel
theorem d_MO_firstOf_8 : decode prog_15_method_13_code 8 = .ok (.aload_n 0, 1) := by decide +kernel
theorem d_MO_firstOf_9 : decode prog_15_method_13_code 9 = .ok (.getfield 16, 3) := by decide +kernel
theorem d_MO_firstOf_12 : decode prog_15_method_13_code 12 = .ok (.iload_n 1, 1) := by decide +kernel
theorem d_MO_firstOf_13 : decode prog_15_method_13_code 13 = .ok (.iaload, 1) := by decide +kernel
theorem d_MO_firstOf_14 : decode prog_15_method_13_code 14 = .ok (.if_icmp .eq 14, 3) := by decide +kernel
theorem d_MO_firstOf_17 : decode prog_15_method_13_code 17 = .ok (.aload_n 0, 1) := by decide +kernel
theorem d_MO_firstOf_18 : decode prog_15_method_13_code 18 = .ok (.getfield 7, 3) := by decide +kernel
theorem d_MO_firstOf_21 : decode prog_15_method_13_code 21 = .ok (.iload_n 2, 1) := by decide +kernel
theorem d_MO_firstOf_22 : decode prog_15_method_13_code 22 = .ok (.iaload, 1) := by decide +kernel
theorem d_MO_firstOf_23 : decode prog_15_method_13_code 23 = .ok (.bipush 46, 2) := by decide +kernel
theorem d_MO_firstOf_25 : decode prog_15_method_13_code 25 = .ok (.if_icmp .eq 5, 3) := by decide +kernel
theorem d_MO_firstOf_28 : decode prog_15_method_13_code 28 = .ok (.iconst 0, 1) := by decide +kernel
theorem d_MO_firstOf_29 : decode prog_15_method_13_code 29 = .ok (.ireturn, 1) := by decide +kernel
theorem d_MO_firstOf_30 : decode prog_15_method_13_code 30 = .ok (.lconst 0, 1) := by decide +kernel
theorem d_MO_firstOf_31 : decode prog_15_method_13_code 31 = .ok (.lstore_n 3, 1) := by decide +kernel
theorem d_MO_firstOf_32 : decode prog_15_method_13_code 32 = .ok (.iconst 0, 1) := by decide +kernel
theorem d_MO_firstOf_33 : decode prog_15_method_13_code 33 = .ok (.istore 5, 2) := by decide +kernel
theorem d_MO_firstOf_35 : decode prog_15_method_13_code 35 = .ok (.iinc 2 1, 3) := by decide +kernel
theorem d_MO_firstOf_38 : decode prog_15_method_13_code 38 = .ok (.iload_n 2, 1) := by decide +kernel
theorem d_MO_firstOf_39 : decode prog_15_method_13_code 39 = .ok (.aload_n 0, 1) := by decide +kernel
theorem d_MO_firstOf_40 : decode prog_15_method_13_code 40 = .ok (.getfield 16, 3) := by decide +kernel
theorem d_MO_firstOf_43 : decode prog_15_method_13_code 43 = .ok (.iload_n 1, 1) := by decide +kernel
theorem d_MO_firstOf_44 : decode prog_15_method_13_code 44 = .ok (.iaload, 1) := by decide +kernel
theorem d_MO_firstOf_45 : decode prog_15_method_13_code 45 = .ok (.if_icmp .ge 71, 3) := by decide +kernel
theorem d_MO_firstOf_48 : decode prog_15_method_13_code 48 = .ok (.iload 5, 2) := by decide +kernel
theorem d_MO_firstOf_50 : decode prog_15_method_13_code 50 = .ok (.ifCond .ne 18, 3) := by decide +kernel
theorem d_MO_firstOf_53 : decode prog_15_method_13_code 53 = .ok (.aload_n 0, 1) := by decide +kernel
theorem d_MO_firstOf_54 : decode prog_15_method_13_code 54 = .ok (.getfield 7, 3) := by decide +kernel
theorem d_MO_firstOf_57 : decode prog_15_method_13_code 57 = .ok (.iload_n 2, 1) := by decide +kernel
theorem d_MO_firstOf_58 : decode prog_15_method_13_code 58 = .ok (.iaload, 1) := by decide +kernel
theorem d_MO_firstOf_59 : decode prog_15_method_13_code 59 = .ok (.invokestatic 199, 3) := by decide +kernel
theorem d_MO_firstOf_62 : decode prog_15_method_13_code 62 = .ok (.ifCond .eq 54, 3) := by decide +kernel
theorem d_MO_firstOf_65 : decode prog_15_method_13_code 65 = .ok (.goto 15, 3) := by decide +kernel
theorem d_MO_firstOf_68 : decode prog_15_method_13_code 68 = .ok (.aload_n 0, 1) := by decide +kernel
theorem d_MO_firstOf_69 : decode prog_15_method_13_code 69 = .ok (.getfield 7, 3) := by decide +kernel
theorem d_MO_firstOf_72 : decode prog_15_method_13_code 72 = .ok (.iload_n 2, 1) := by decide +kernel
theorem d_MO_firstOf_73 : decode prog_15_method_13_code 73 = .ok (.iaload, 1) := by decide +kernel
theorem d_MO_firstOf_74 : decode prog_15_method_13_code 74 = .ok (.invokestatic 234, 3) := by decide +kernel
theorem d_MO_firstOf_77 : decode prog_15_method_13_code 77 = .ok (.ifCond .eq 39, 3) := by decide +kernel
theorem d_MO_firstOf_80 : decode prog_15_method_13_code 80 = .ok (.iload 5, 2) := by decide +kernel
theorem d_MO_firstOf_82 : decode prog_15_method_13_code 82 = .ok (.bipush 8, 2) := by decide +kernel
theorem d_MO_firstOf_84 : decode prog_15_method_13_code 84 = .ok (.if_icmp .ge 21, 3) := by decide +kernel
theorem d_MO_firstOf_87 : decode prog_15_method_13_code 87 = .ok (.lload_n 3, 1) := by decide +kernel
theorem d_MO_firstOf_88 : decode prog_15_method_13_code 88 = .ok (.aload_n 0, 1) := by decide +kernel
theorem d_MO_firstOf_89 : decode prog_15_method_13_code 89 = .ok (.getfield 7, 3) := by decide +kernel
theorem d_MO_firstOf_92 : decode prog_15_method_13_code 92 = .ok (.iload_n 2, 1) := by decide +kernel
theorem d_MO_firstOf_93 : decode prog_15_method_13_code 93 = .ok (.iaload, 1) := by decide +kernel
theorem d_MO_firstOf_94 : decode prog_15_method_13_code 94 = .ok (.i2l, 1) := by decide +kernel
theorem d_MO_firstOf_95 : decode prog_15_method_13_code 95 = .ok (.bipush 8, 2) := by decide +kernel
theorem d_MO_firstOf_97 : decode prog_15_method_13_code 97 = .ok (.iload 5, 2) := by decide +kernel
theorem d_MO_firstOf_99 : decode prog_15_method_13_code 99 = .ok (.imul, 1) := by decide +kernel
theorem d_MO_firstOf_100 : decode prog_15_method_13_code 100 = .ok (.lshl, 1) := by decide +kernel
theorem d_MO_firstOf_101 : decode prog_15_method_13_code 101 = .ok (.lor, 1) := by decide +kernel
theorem d_MO_firstOf_102 : decode prog_15_method_13_code 102 = .ok (.goto 4, 3) := by decide +kernel
theorem d_MO_firstOf_105 : decode prog_15_method_13_code 105 = .ok (.lload_n 3, 1) := by decide +kernel
theorem d_MO_firstOf_106 : decode prog_15_method_13_code 106 = .ok (.lstore_n 3, 1) := by decide +kernel
theorem d_MO_firstOf_107 : decode prog_15_method_13_code 107 = .ok (.iinc 5 1, 3) := by decide +kernel
theorem d_MO_firstOf_110 : decode prog_15_method_13_code 110 = .ok (.iinc 2 1, 3) := by decide +kernel
theorem d_MO_firstOf_113 : decode prog_15_method_13_code 113 = .ok (.goto (-75), 3) := by decide +kernel
theorem d_MO_firstOf_116 : decode prog_15_method_13_code 116 = .ok (.iload 5, 2) := by decide +kernel
theorem d_MO_firstOf_118 : decode prog_15_method_13_code 118 = .ok (.bipush 8, 2) := by decide +kernel
theorem d_MO_firstOf_120 : decode prog_15_method_13_code 120 = .ok (.if_icmp .le 7, 3) := by decide +kernel
theorem d_MO_firstOf_123 : decode prog_15_method_13_code 123 = .ok (.iconst 0, 1) := by decide +kernel
theorem d_MO_firstOf_124 : decode prog_15_method_13_code 124 = .ok (.goto 7, 3) := by decide +kernel
theorem d_MO_firstOf_127 : decode prog_15_method_13_code 127 = .ok (.lload_n 3, 1) := by decide +kernel
theorem d_MO_firstOf_128 : decode prog_15_method_13_code 128 = .ok (.invokestatic 237, 3) := by decide +kernel
theorem d_MO_firstOf_131 : decode prog_15_method_13_code 131 = .ok (.ireturn, 1) := by decide +kernel
theorem d_MO_openIf_0 : decode prog_15_method_51_code 0 = .ok (.aload_n 0, 1) := by decide +kernel
theorem d_MO_openIf_1 : decode prog_15_method_51_code 1 = .ok (.getfield 358, 3) := by decide +kernel
theorem d_MO_openIf_4 : decode prog_15_method_51_code 4 = .ok (.bipush 8, 2) := by decide +kernel
theorem d_MO_openIf_6 : decode prog_15_method_51_code 6 = .ok (.if_icmp .ne 14, 3) := by decide +kernel
theorem d_MO_openIf_9 : decode prog_15_method_51_code 9 = .ok (.aload_n 0, 1) := by decide +kernel
theorem d_MO_openIf_10 : decode prog_15_method_51_code 10 = .ok (.bipush 6, 2) := by decide +kernel
theorem d_MO_openIf_12 : decode prog_15_method_51_code 12 = .ok (.aload_n 0, 1) := by decide +kernel
theorem d_MO_openIf_13 : decode prog_15_method_51_code 13 = .ok (.getfield 247, 3) := by decide +kernel
theorem d_MO_openIf_16 : decode prog_15_method_51_code 16 = .ok (.invokevirtual 250, 3) := by decide +kernel
theorem d_MO_openIf_19 : decode prog_15_method_51_code 19 = .ok (.return_, 1) := by decide +kernel
theorem d_MO_openIf_20 : decode prog_15_method_51_code 20 = .ok (.aload_n 0, 1) := by decide +kernel
theorem d_MO_openIf_21 : decode prog_15_method_51_code 21 = .ok (.getfield 127, 3) := by decide +kernel
theorem d_MO_openIf_24 : decode prog_15_method_51_code 24 = .ok (.aload_n 0, 1) := by decide +kernel
theorem d_MO_openIf_25 : decode prog_15_method_51_code 25 = .ok (.getfield 358, 3) := by decide +kernel
theorem d_MO_openIf_28 : decode prog_15_method_51_code 28 = .ok (.iload_n 1, 1) := by decide +kernel
theorem d_MO_openIf_29 : decode prog_15_method_51_code 29 = .ok (.bastore, 1) := by decide +kernel
theorem d_MO_openIf_30 : decode prog_15_method_51_code 30 = .ok (.aload_n 0, 1) := by decide +kernel
theorem d_MO_openIf_31 : decode prog_15_method_51_code 31 = .ok (.getfield 131, 3) := by decide +kernel
theorem d_MO_openIf_34 : decode prog_15_method_51_code 34 = .ok (.aload_n 0, 1) := by decide +kernel
theorem d_MO_openIf_35 : decode prog_15_method_51_code 35 = .ok (.getfield 358, 3) := by decide +kernel
theorem d_MO_openIf_38 : decode prog_15_method_51_code 38 = .ok (.iload_n 1, 1) := by decide +kernel
theorem d_MO_openIf_39 : decode prog_15_method_51_code 39 = .ok (.bastore, 1) := by decide +kernel
theorem d_MO_openIf_40 : decode prog_15_method_51_code 40 = .ok (.aload_n 0, 1) := by decide +kernel
theorem d_MO_openIf_41 : decode prog_15_method_51_code 41 = .ok (.getfield 134, 3) := by decide +kernel
theorem d_MO_openIf_44 : decode prog_15_method_51_code 44 = .ok (.aload_n 0, 1) := by decide +kernel
theorem d_MO_openIf_45 : decode prog_15_method_51_code 45 = .ok (.getfield 358, 3) := by decide +kernel
theorem d_MO_openIf_48 : decode prog_15_method_51_code 48 = .ok (.iload_n 2, 1) := by decide +kernel
theorem d_MO_openIf_49 : decode prog_15_method_51_code 49 = .ok (.bastore, 1) := by decide +kernel
theorem d_MO_openIf_50 : decode prog_15_method_51_code 50 = .ok (.aload_n 0, 1) := by decide +kernel
theorem d_MO_openIf_51 : decode prog_15_method_51_code 51 = .ok (.getfield 137, 3) := by decide +kernel
theorem d_MO_openIf_54 : decode prog_15_method_51_code 54 = .ok (.aload_n 0, 1) := by decide +kernel
theorem d_MO_openIf_55 : decode prog_15_method_51_code 55 = .ok (.getfield 358, 3) := by decide +kernel
theorem d_MO_openIf_58 : decode prog_15_method_51_code 58 = .ok (.iconst 0, 1) := by decide +kernel
theorem d_MO_openIf_59 : decode prog_15_method_51_code 59 = .ok (.bastore, 1) := by decide +kernel
theorem d_MO_openIf_60 : decode prog_15_method_51_code 60 = .ok (.aload_n 0, 1) := by decide +kernel
theorem d_MO_openIf_61 : decode prog_15_method_51_code 61 = .ok (.getfield 140, 3) := by decide +kernel
theorem d_MO_openIf_64 : decode prog_15_method_51_code 64 = .ok (.aload_n 0, 1) := by decide +kernel
theorem d_MO_openIf_65 : decode prog_15_method_51_code 65 = .ok (.getfield 358, 3) := by decide +kernel
theorem d_MO_openIf_68 : decode prog_15_method_51_code 68 = .ok (.aload_n 0, 1) := by decide +kernel
theorem d_MO_openIf_69 : decode prog_15_method_51_code 69 = .ok (.getfield 247, 3) := by decide +kernel
theorem d_MO_openIf_72 : decode prog_15_method_51_code 72 = .ok (.iastore, 1) := by decide +kernel
theorem d_MO_openIf_73 : decode prog_15_method_51_code 73 = .ok (.aload_n 0, 1) := by decide +kernel
theorem d_MO_openIf_74 : decode prog_15_method_51_code 74 = .ok (.dup, 1) := by decide +kernel
theorem d_MO_openIf_75 : decode prog_15_method_51_code 75 = .ok (.getfield 358, 3) := by decide +kernel
theorem d_MO_openIf_78 : decode prog_15_method_51_code 78 = .ok (.iconst 1, 1) := by decide +kernel
theorem d_MO_openIf_79 : decode prog_15_method_51_code 79 = .ok (.iadd, 1) := by decide +kernel
theorem d_MO_openIf_80 : decode prog_15_method_51_code 80 = .ok (.putfield 358, 3) := by decide +kernel
theorem d_MO_openIf_83 : decode prog_15_method_51_code 83 = .ok (.return_, 1) := by decide +kernel
theorem d_MO_add_0 : decode prog_15_method_15_code 0 = .ok (.aload_n 0, 1) := by decide +kernel
theorem d_MO_add_1 : decode prog_15_method_15_code 1 = .ok (.getfield 254, 3) := by decide +kernel
theorem d_MO_add_4 : decode prog_15_method_15_code 4 = .ok (.sipush 6000, 3) := by decide +kernel
theorem d_MO_add_7 : decode prog_15_method_15_code 7 = .ok (.if_icmp .ge 23, 3) := by decide +kernel
theorem d_MO_add_10 : decode prog_15_method_15_code 10 = .ok (.aload_n 0, 1) := by decide +kernel
theorem d_MO_add_11 : decode prog_15_method_15_code 11 = .ok (.getfield 143, 3) := by decide +kernel
theorem d_MO_add_14 : decode prog_15_method_15_code 14 = .ok (.aload_n 0, 1) := by decide +kernel
theorem d_MO_add_15 : decode prog_15_method_15_code 15 = .ok (.getfield 254, 3) := by decide +kernel
theorem d_MO_add_18 : decode prog_15_method_15_code 18 = .ok (.iload_n 1, 1) := by decide +kernel
theorem d_MO_add_19 : decode prog_15_method_15_code 19 = .ok (.iastore, 1) := by decide +kernel
theorem d_MO_add_20 : decode prog_15_method_15_code 20 = .ok (.aload_n 0, 1) := by decide +kernel
theorem d_MO_add_21 : decode prog_15_method_15_code 21 = .ok (.dup, 1) := by decide +kernel
theorem d_MO_add_22 : decode prog_15_method_15_code 22 = .ok (.getfield 254, 3) := by decide +kernel
theorem d_MO_add_25 : decode prog_15_method_15_code 25 = .ok (.iconst 1, 1) := by decide +kernel
theorem d_MO_add_26 : decode prog_15_method_15_code 26 = .ok (.iadd, 1) := by decide +kernel
theorem d_MO_add_27 : decode prog_15_method_15_code 27 = .ok (.putfield 254, 3) := by decide +kernel
theorem d_MO_add_30 : decode prog_15_method_15_code 30 = .ok (.return_, 1) := by decide +kernel
theorem d_MO_macroFrame_0 : decode prog_15_method_18_code 0 = .ok (.aload_n 0, 1) := by decide +kernel
theorem d_MO_macroFrame_1 : decode prog_15_method_18_code 1 = .ok (.getfield 244, 3) := by decide +kernel
theorem d_MO_macroFrame_4 : decode prog_15_method_18_code 4 = .ok (.iconst 1, 1) := by decide +kernel
theorem d_MO_macroFrame_5 : decode prog_15_method_18_code 5 = .ok (.isub, 1) := by decide +kernel
theorem d_MO_macroFrame_6 : decode prog_15_method_18_code 6 = .ok (.istore_n 1, 1) := by decide +kernel
theorem d_MO_macroFrame_7 : decode prog_15_method_18_code 7 = .ok (.iload_n 1, 1) := by decide +kernel
theorem d_MO_macroFrame_8 : decode prog_15_method_18_code 8 = .ok (.ifCond .le 19, 3) := by decide +kernel
theorem d_MO_macroFrame_11 : decode prog_15_method_18_code 11 = .ok (.aload_n 0, 1) := by decide +kernel
theorem d_MO_macroFrame_12 : decode prog_15_method_18_code 12 = .ok (.getfield 78, 3) := by decide +kernel
theorem d_MO_macroFrame_15 : decode prog_15_method_18_code 15 = .ok (.iload_n 1, 1) := by decide +kernel
theorem d_MO_macroFrame_16 : decode prog_15_method_18_code 16 = .ok (.iaload, 1) := by decide +kernel
theorem d_MO_macroFrame_17 : decode prog_15_method_18_code 17 = .ok (.iconst 1, 1) := by decide +kernel
theorem d_MO_macroFrame_18 : decode prog_15_method_18_code 18 = .ok (.if_icmp .eq 9, 3) := by decide +kernel
theorem d_MO_macroFrame_21 : decode prog_15_method_18_code 21 = .ok (.iinc 1 (-1), 3) := by decide +kernel
theorem d_MO_macroFrame_24 : decode prog_15_method_18_code 24 = .ok (.goto (-17), 3) := by decide +kernel
theorem d_MO_macroFrame_27 : decode prog_15_method_18_code 27 = .ok (.iload_n 1, 1) := by decide +kernel
theorem d_MO_macroFrame_28 : decode prog_15_method_18_code 28 = .ok (.ifCond .le 7, 3) := by decide +kernel
theorem d_MO_macroFrame_31 : decode prog_15_method_18_code 31 = .ok (.iload_n 1, 1) := by decide +kernel
theorem d_MO_macroFrame_32 : decode prog_15_method_18_code 32 = .ok (.goto 4, 3) := by decide +kernel
theorem d_MO_macroFrame_35 : decode prog_15_method_18_code 35 = .ok (.iconst (-1), 1) := by decide +kernel
theorem d_MO_macroFrame_36 : decode prog_15_method_18_code 36 = .ok (.ireturn, 1) := by decide +kernel
theorem d_MO_givingFrame_0 : decode prog_15_method_19_code 0 = .ok (.aload_n 0, 1) := by decide +kernel
theorem d_MO_givingFrame_1 : decode prog_15_method_19_code 1 = .ok (.getfield 244, 3) := by decide +kernel
theorem d_MO_givingFrame_4 : decode prog_15_method_19_code 4 = .ok (.iconst 1, 1) := by decide +kernel
theorem d_MO_givingFrame_5 : decode prog_15_method_19_code 5 = .ok (.isub, 1) := by decide +kernel
theorem d_MO_givingFrame_6 : decode prog_15_method_19_code 6 = .ok (.istore_n 1, 1) := by decide +kernel
theorem d_MO_givingFrame_7 : decode prog_15_method_19_code 7 = .ok (.iload_n 1, 1) := by decide +kernel
theorem d_MO_givingFrame_8 : decode prog_15_method_19_code 8 = .ok (.ifCond .le 17, 3) := by decide +kernel
theorem d_MO_givingFrame_11 : decode prog_15_method_19_code 11 = .ok (.aload_n 0, 1) := by decide +kernel
theorem d_MO_givingFrame_12 : decode prog_15_method_19_code 12 = .ok (.getfield 78, 3) := by decide +kernel
theorem d_MO_givingFrame_15 : decode prog_15_method_19_code 15 = .ok (.iload_n 1, 1) := by decide +kernel
theorem d_MO_givingFrame_16 : decode prog_15_method_19_code 16 = .ok (.iaload, 1) := by decide +kernel
theorem d_MO_givingFrame_17 : decode prog_15_method_19_code 17 = .ok (.iconst 1, 1) := by decide +kernel
theorem d_MO_givingFrame_18 : decode prog_15_method_19_code 18 = .ok (.if_icmp .eq 7, 3) := by decide +kernel
theorem d_MO_givingFrame_21 : decode prog_15_method_19_code 21 = .ok (.iload_n 1, 1) := by decide +kernel
theorem d_MO_givingFrame_22 : decode prog_15_method_19_code 22 = .ok (.goto 4, 3) := by decide +kernel
theorem d_MO_givingFrame_25 : decode prog_15_method_19_code 25 = .ok (.iconst (-1), 1) := by decide +kernel
theorem d_MO_givingFrame_26 : decode prog_15_method_19_code 26 = .ok (.ireturn, 1) := by decide +kernel
theorem d_MO_addNumber_0 : decode prog_15_method_16_code 0 = .ok (.sipush 10000, 3) := by decide +kernel
theorem d_MO_addNumber_3 : decode prog_15_method_16_code 3 = .ok (.istore_n 2, 1) := by decide +kernel
theorem d_MO_addNumber_4 : decode prog_15_method_16_code 4 = .ok (.iload_n 2, 1) := by decide +kernel
theorem d_MO_addNumber_5 : decode prog_15_method_16_code 5 = .ok (.ifCond .le 34, 3) := by decide +kernel
theorem d_MO_addNumber_8 : decode prog_15_method_16_code 8 = .ok (.iload_n 1, 1) := by decide +kernel
theorem d_MO_addNumber_9 : decode prog_15_method_16_code 9 = .ok (.iload_n 2, 1) := by decide +kernel
theorem d_MO_addNumber_10 : decode prog_15_method_16_code 10 = .ok (.if_icmp .ge 8, 3) := by decide +kernel
theorem d_MO_addNumber_13 : decode prog_15_method_16_code 13 = .ok (.iload_n 2, 1) := by decide +kernel
theorem d_MO_addNumber_14 : decode prog_15_method_16_code 14 = .ok (.iconst 1, 1) := by decide +kernel
theorem d_MO_addNumber_15 : decode prog_15_method_16_code 15 = .ok (.if_icmp .ne 16, 3) := by decide +kernel
theorem d_MO_addNumber_18 : decode prog_15_method_16_code 18 = .ok (.aload_n 0, 1) := by decide +kernel
theorem d_MO_addNumber_19 : decode prog_15_method_16_code 19 = .ok (.bipush 48, 2) := by decide +kernel
theorem d_MO_addNumber_21 : decode prog_15_method_16_code 21 = .ok (.iload_n 1, 1) := by decide +kernel
theorem d_MO_addNumber_22 : decode prog_15_method_16_code 22 = .ok (.iload_n 2, 1) := by decide +kernel
theorem d_MO_addNumber_23 : decode prog_15_method_16_code 23 = .ok (.idiv, 1) := by decide +kernel
theorem d_MO_addNumber_24 : decode prog_15_method_16_code 24 = .ok (.bipush 10, 2) := by decide +kernel
theorem d_MO_addNumber_26 : decode prog_15_method_16_code 26 = .ok (.irem, 1) := by decide +kernel
theorem d_MO_addNumber_27 : decode prog_15_method_16_code 27 = .ok (.iadd, 1) := by decide +kernel
theorem d_MO_addNumber_28 : decode prog_15_method_16_code 28 = .ok (.invokevirtual 257, 3) := by decide +kernel
theorem d_MO_addNumber_31 : decode prog_15_method_16_code 31 = .ok (.iload_n 2, 1) := by decide +kernel
theorem d_MO_addNumber_32 : decode prog_15_method_16_code 32 = .ok (.bipush 10, 2) := by decide +kernel
theorem d_MO_addNumber_34 : decode prog_15_method_16_code 34 = .ok (.idiv, 1) := by decide +kernel
theorem d_MO_addNumber_35 : decode prog_15_method_16_code 35 = .ok (.istore_n 2, 1) := by decide +kernel
theorem d_MO_addNumber_36 : decode prog_15_method_16_code 36 = .ok (.goto (-32), 3) := by decide +kernel
theorem d_MO_addNumber_39 : decode prog_15_method_16_code 39 = .ok (.return_, 1) := by decide +kernel
theorem d_MO_addHeld_0 : decode prog_15_method_17_code 0 = .ok (.aload_n 0, 1) := by decide +kernel
theorem d_MO_addHeld_1 : decode prog_15_method_17_code 1 = .ok (.getfield 117, 3) := by decide +kernel
theorem d_MO_addHeld_4 : decode prog_15_method_17_code 4 = .ok (.iload_n 1, 1) := by decide +kernel
theorem d_MO_addHeld_5 : decode prog_15_method_17_code 5 = .ok (.iaload, 1) := by decide +kernel
theorem d_MO_addHeld_6 : decode prog_15_method_17_code 6 = .ok (.istore_n 2, 1) := by decide +kernel
theorem d_MO_addHeld_7 : decode prog_15_method_17_code 7 = .ok (.iload_n 2, 1) := by decide +kernel
theorem d_MO_addHeld_8 : decode prog_15_method_17_code 8 = .ok (.aload_n 0, 1) := by decide +kernel
theorem d_MO_addHeld_9 : decode prog_15_method_17_code 9 = .ok (.getfield 120, 3) := by decide +kernel
theorem d_MO_addHeld_12 : decode prog_15_method_17_code 12 = .ok (.iload_n 1, 1) := by decide +kernel
theorem d_MO_addHeld_13 : decode prog_15_method_17_code 13 = .ok (.iaload, 1) := by decide +kernel
theorem d_MO_addHeld_14 : decode prog_15_method_17_code 14 = .ok (.if_icmp .ge 19, 3) := by decide +kernel
theorem d_MO_addHeld_17 : decode prog_15_method_17_code 17 = .ok (.aload_n 0, 1) := by decide +kernel
theorem d_MO_addHeld_18 : decode prog_15_method_17_code 18 = .ok (.aload_n 0, 1) := by decide +kernel
theorem d_MO_addHeld_19 : decode prog_15_method_17_code 19 = .ok (.getfield 124, 3) := by decide +kernel
theorem d_MO_addHeld_22 : decode prog_15_method_17_code 22 = .ok (.iload_n 2, 1) := by decide +kernel
theorem d_MO_addHeld_23 : decode prog_15_method_17_code 23 = .ok (.iaload, 1) := by decide +kernel
theorem d_MO_addHeld_24 : decode prog_15_method_17_code 24 = .ok (.invokevirtual 257, 3) := by decide +kernel
theorem d_MO_addHeld_27 : decode prog_15_method_17_code 27 = .ok (.iinc 2 1, 3) := by decide +kernel
theorem d_MO_addHeld_30 : decode prog_15_method_17_code 30 = .ok (.goto (-23), 3) := by decide +kernel
theorem d_MO_addHeld_33 : decode prog_15_method_17_code 33 = .ok (.return_, 1) := by decide +kernel
theorem d_MO_addWord_0 : decode prog_15_method_20_code 0 = .ok (.aload_n 0, 1) := by decide +kernel
theorem d_MO_addWord_1 : decode prog_15_method_20_code 1 = .ok (.getfield 244, 3) := by decide +kernel
theorem d_MO_addWord_4 : decode prog_15_method_20_code 4 = .ok (.iconst 1, 1) := by decide +kernel
theorem d_MO_addWord_5 : decode prog_15_method_20_code 5 = .ok (.isub, 1) := by decide +kernel
theorem d_MO_addWord_6 : decode prog_15_method_20_code 6 = .ok (.istore 5, 2) := by decide +kernel
theorem d_MO_addWord_8 : decode prog_15_method_20_code 8 = .ok (.iload 5, 2) := by decide +kernel
theorem d_MO_addWord_10 : decode prog_15_method_20_code 10 = .ok (.ifCond .le 163, 3) := by decide +kernel
theorem d_MO_addWord_13 : decode prog_15_method_20_code 13 = .ok (.aload_n 0, 1) := by decide +kernel
theorem d_MO_addWord_14 : decode prog_15_method_20_code 14 = .ok (.getfield 78, 3) := by decide +kernel
theorem d_MO_addWord_17 : decode prog_15_method_20_code 17 = .ok (.iload 5, 2) := by decide +kernel
theorem d_MO_addWord_19 : decode prog_15_method_20_code 19 = .ok (.iaload, 1) := by decide +kernel
theorem d_MO_addWord_20 : decode prog_15_method_20_code 20 = .ok (.iconst 3, 1) := by decide +kernel
theorem d_MO_addWord_21 : decode prog_15_method_20_code 21 = .ok (.if_icmp .ne 48, 3) := by decide +kernel
theorem d_MO_addWord_24 : decode prog_15_method_20_code 24 = .ok (.aload_n 0, 1) := by decide +kernel
theorem d_MO_addWord_25 : decode prog_15_method_20_code 25 = .ok (.getfield 111, 3) := by decide +kernel
theorem d_MO_addWord_28 : decode prog_15_method_20_code 28 = .ok (.iload 5, 2) := by decide +kernel
theorem d_MO_addWord_30 : decode prog_15_method_20_code 30 = .ok (.laload, 1) := by decide +kernel
theorem d_MO_addWord_31 : decode prog_15_method_20_code 31 = .ok (.lload_n 1, 1) := by decide +kernel
theorem d_MO_addWord_32 : decode prog_15_method_20_code 32 = .ok (.lcmp, 1) := by decide +kernel
theorem d_MO_addWord_33 : decode prog_15_method_20_code 33 = .ok (.ifCond .ne 36, 3) := by decide +kernel
theorem d_MO_addWord_36 : decode prog_15_method_20_code 36 = .ok (.aload_n 0, 1) := by decide +kernel
theorem d_MO_addWord_37 : decode prog_15_method_20_code 37 = .ok (.getfield 114, 3) := by decide +kernel
theorem d_MO_addWord_40 : decode prog_15_method_20_code 40 = .ok (.iload 5, 2) := by decide +kernel
theorem d_MO_addWord_42 : decode prog_15_method_20_code 42 = .ok (.laload, 1) := by decide +kernel
theorem d_MO_addWord_43 : decode prog_15_method_20_code 43 = .ok (.lload_n 3, 1) := by decide +kernel
theorem d_MO_addWord_44 : decode prog_15_method_20_code 44 = .ok (.lcmp, 1) := by decide +kernel
theorem d_MO_addWord_45 : decode prog_15_method_20_code 45 = .ok (.ifCond .ne 24, 3) := by decide +kernel
theorem d_MO_addWord_48 : decode prog_15_method_20_code 48 = .ok (.aload_n 0, 1) := by decide +kernel
theorem d_MO_addWord_49 : decode prog_15_method_20_code 49 = .ok (.aload_n 0, 1) := by decide +kernel
theorem d_MO_addWord_50 : decode prog_15_method_20_code 50 = .ok (.getfield 105, 3) := by decide +kernel
theorem d_MO_addWord_53 : decode prog_15_method_20_code 53 = .ok (.iload 5, 2) := by decide +kernel
theorem d_MO_addWord_55 : decode prog_15_method_20_code 55 = .ok (.iaload, 1) := by decide +kernel
theorem d_MO_addWord_56 : decode prog_15_method_20_code 56 = .ok (.aload_n 0, 1) := by decide +kernel
theorem d_MO_addWord_57 : decode prog_15_method_20_code 57 = .ok (.getfield 93, 3) := by decide +kernel
theorem d_MO_addWord_60 : decode prog_15_method_20_code 60 = .ok (.iload 5, 2) := by decide +kernel
theorem d_MO_addWord_62 : decode prog_15_method_20_code 62 = .ok (.iaload, 1) := by decide +kernel
theorem d_MO_addWord_63 : decode prog_15_method_20_code 63 = .ok (.iadd, 1) := by decide +kernel
theorem d_MO_addWord_64 : decode prog_15_method_20_code 64 = .ok (.invokevirtual 261, 3) := by decide +kernel
theorem d_MO_addWord_67 : decode prog_15_method_20_code 67 = .ok (.iconst 1, 1) := by decide +kernel
theorem d_MO_addWord_68 : decode prog_15_method_20_code 68 = .ok (.ireturn, 1) := by decide +kernel
theorem d_MO_addWord_69 : decode prog_15_method_20_code 69 = .ok (.aload_n 0, 1) := by decide +kernel
theorem d_MO_addWord_70 : decode prog_15_method_20_code 70 = .ok (.getfield 78, 3) := by decide +kernel
theorem d_MO_addWord_73 : decode prog_15_method_20_code 73 = .ok (.iload 5, 2) := by decide +kernel
theorem d_MO_addWord_75 : decode prog_15_method_20_code 75 = .ok (.iaload, 1) := by decide +kernel
theorem d_MO_addWord_76 : decode prog_15_method_20_code 76 = .ok (.iconst 1, 1) := by decide +kernel
theorem d_MO_addWord_77 : decode prog_15_method_20_code 77 = .ok (.if_icmp .eq 6, 3) := by decide +kernel
theorem d_MO_addWord_80 : decode prog_15_method_20_code 80 = .ok (.goto 87, 3) := by decide +kernel
theorem d_MO_addWord_83 : decode prog_15_method_20_code 83 = .ok (.aload_n 0, 1) := by decide +kernel
theorem d_MO_addWord_84 : decode prog_15_method_20_code 84 = .ok (.getfield 96, 3) := by decide +kernel
theorem d_MO_addWord_87 : decode prog_15_method_20_code 87 = .ok (.iload 5, 2) := by decide +kernel
theorem d_MO_addWord_89 : decode prog_15_method_20_code 89 = .ok (.iaload, 1) := by decide +kernel
theorem d_MO_addWord_90 : decode prog_15_method_20_code 90 = .ok (.istore 6, 2) := by decide +kernel
theorem d_MO_addWord_92 : decode prog_15_method_20_code 92 = .ok (.iconst 0, 1) := by decide +kernel
theorem d_MO_addWord_93 : decode prog_15_method_20_code 93 = .ok (.istore 7, 2) := by decide +kernel
theorem d_MO_addWord_95 : decode prog_15_method_20_code 95 = .ok (.iload 7, 2) := by decide +kernel
theorem d_MO_addWord_97 : decode prog_15_method_20_code 97 = .ok (.aload_n 0, 1) := by decide +kernel
theorem d_MO_addWord_98 : decode prog_15_method_20_code 98 = .ok (.getfield 42, 3) := by decide +kernel
theorem d_MO_addWord_101 : decode prog_15_method_20_code 101 = .ok (.iload 6, 2) := by decide +kernel
theorem d_MO_addWord_103 : decode prog_15_method_20_code 103 = .ok (.iaload, 1) := by decide +kernel
theorem d_MO_addWord_104 : decode prog_15_method_20_code 104 = .ok (.if_icmp .ge 61, 3) := by decide +kernel
theorem d_MO_addWord_107 : decode prog_15_method_20_code 107 = .ok (.aload_n 0, 1) := by decide +kernel
theorem d_MO_addWord_108 : decode prog_15_method_20_code 108 = .ok (.getfield 45, 3) := by decide +kernel
theorem d_MO_addWord_111 : decode prog_15_method_20_code 111 = .ok (.bipush 6, 2) := by decide +kernel
theorem d_MO_addWord_113 : decode prog_15_method_20_code 113 = .ok (.iload 6, 2) := by decide +kernel
theorem d_MO_addWord_115 : decode prog_15_method_20_code 115 = .ok (.imul, 1) := by decide +kernel
theorem d_MO_addWord_116 : decode prog_15_method_20_code 116 = .ok (.iload 7, 2) := by decide +kernel
theorem d_MO_addWord_118 : decode prog_15_method_20_code 118 = .ok (.iadd, 1) := by decide +kernel
theorem d_MO_addWord_119 : decode prog_15_method_20_code 119 = .ok (.laload, 1) := by decide +kernel
theorem d_MO_addWord_120 : decode prog_15_method_20_code 120 = .ok (.lload_n 1, 1) := by decide +kernel
theorem d_MO_addWord_121 : decode prog_15_method_20_code 121 = .ok (.lcmp, 1) := by decide +kernel
theorem d_MO_addWord_122 : decode prog_15_method_20_code 122 = .ok (.ifCond .ne 37, 3) := by decide +kernel
theorem d_MO_addWord_125 : decode prog_15_method_20_code 125 = .ok (.aload_n 0, 1) := by decide +kernel
theorem d_MO_addWord_126 : decode prog_15_method_20_code 126 = .ok (.getfield 48, 3) := by decide +kernel
theorem d_MO_addWord_129 : decode prog_15_method_20_code 129 = .ok (.bipush 6, 2) := by decide +kernel
theorem d_MO_addWord_131 : decode prog_15_method_20_code 131 = .ok (.iload 6, 2) := by decide +kernel
theorem d_MO_addWord_133 : decode prog_15_method_20_code 133 = .ok (.imul, 1) := by decide +kernel
theorem d_MO_addWord_134 : decode prog_15_method_20_code 134 = .ok (.iload 7, 2) := by decide +kernel
theorem d_MO_addWord_136 : decode prog_15_method_20_code 136 = .ok (.iadd, 1) := by decide +kernel
theorem d_MO_addWord_137 : decode prog_15_method_20_code 137 = .ok (.laload, 1) := by decide +kernel
theorem d_MO_addWord_138 : decode prog_15_method_20_code 138 = .ok (.lload_n 3, 1) := by decide +kernel
theorem d_MO_addWord_139 : decode prog_15_method_20_code 139 = .ok (.lcmp, 1) := by decide +kernel
theorem d_MO_addWord_140 : decode prog_15_method_20_code 140 = .ok (.ifCond .ne 19, 3) := by decide +kernel
theorem d_MO_addWord_143 : decode prog_15_method_20_code 143 = .ok (.aload_n 0, 1) := by decide +kernel
theorem d_MO_addWord_144 : decode prog_15_method_20_code 144 = .ok (.aload_n 0, 1) := by decide +kernel
theorem d_MO_addWord_145 : decode prog_15_method_20_code 145 = .ok (.getfield 105, 3) := by decide +kernel
theorem d_MO_addWord_148 : decode prog_15_method_20_code 148 = .ok (.iload 5, 2) := by decide +kernel
theorem d_MO_addWord_150 : decode prog_15_method_20_code 150 = .ok (.iaload, 1) := by decide +kernel
theorem d_MO_addWord_151 : decode prog_15_method_20_code 151 = .ok (.iload 7, 2) := by decide +kernel
theorem d_MO_addWord_153 : decode prog_15_method_20_code 153 = .ok (.iadd, 1) := by decide +kernel
theorem d_MO_addWord_154 : decode prog_15_method_20_code 154 = .ok (.invokevirtual 261, 3) := by decide +kernel
theorem d_MO_addWord_157 : decode prog_15_method_20_code 157 = .ok (.iconst 1, 1) := by decide +kernel
theorem d_MO_addWord_158 : decode prog_15_method_20_code 158 = .ok (.ireturn, 1) := by decide +kernel
theorem d_MO_addWord_159 : decode prog_15_method_20_code 159 = .ok (.iinc 7 1, 3) := by decide +kernel
theorem d_MO_addWord_162 : decode prog_15_method_20_code 162 = .ok (.goto (-67), 3) := by decide +kernel
theorem d_MO_addWord_165 : decode prog_15_method_20_code 165 = .ok (.iconst 0, 1) := by decide +kernel
theorem d_MO_addWord_166 : decode prog_15_method_20_code 166 = .ok (.ireturn, 1) := by decide +kernel
theorem d_MO_addWord_167 : decode prog_15_method_20_code 167 = .ok (.iinc 5 (-1), 3) := by decide +kernel
theorem d_MO_addWord_170 : decode prog_15_method_20_code 170 = .ok (.goto (-162), 3) := by decide +kernel
theorem d_MO_addWord_173 : decode prog_15_method_20_code 173 = .ok (.iconst 0, 1) := by decide +kernel
theorem d_MO_addWord_174 : decode prog_15_method_20_code 174 = .ok (.ireturn, 1) := by decide +kernel
theorem d_MO_takeLine_0 : decode prog_15_method_21_code 0 = .ok (.aload_n 0, 1) := by decide +kernel
theorem d_MO_takeLine_1 : decode prog_15_method_21_code 1 = .ok (.iconst 0, 1) := by decide +kernel
theorem d_MO_takeLine_2 : decode prog_15_method_21_code 2 = .ok (.putfield 254, 3) := by decide +kernel
theorem d_MO_takeLine_5 : decode prog_15_method_21_code 5 = .ok (.iconst 1, 1) := by decide +kernel
theorem d_MO_takeLine_6 : decode prog_15_method_21_code 6 = .ok (.istore_n 2, 1) := by decide +kernel
theorem d_MO_takeLine_7 : decode prog_15_method_21_code 7 = .ok (.aload_n 0, 1) := by decide +kernel
theorem d_MO_takeLine_8 : decode prog_15_method_21_code 8 = .ok (.getfield 13, 3) := by decide +kernel
theorem d_MO_takeLine_11 : decode prog_15_method_21_code 11 = .ok (.iload_n 1, 1) := by decide +kernel
theorem d_MO_takeLine_12 : decode prog_15_method_21_code 12 = .ok (.iaload, 1) := by decide +kernel
theorem d_MO_takeLine_13 : decode prog_15_method_21_code 13 = .ok (.istore_n 3, 1) := by decide +kernel
theorem d_MO_takeLine_14 : decode prog_15_method_21_code 14 = .ok (.iload_n 3, 1) := by decide +kernel
theorem d_MO_takeLine_15 : decode prog_15_method_21_code 15 = .ok (.aload_n 0, 1) := by decide +kernel
theorem d_MO_takeLine_16 : decode prog_15_method_21_code 16 = .ok (.getfield 16, 3) := by decide +kernel
theorem d_MO_takeLine_19 : decode prog_15_method_21_code 19 = .ok (.iload_n 1, 1) := by decide +kernel
theorem d_MO_takeLine_20 : decode prog_15_method_21_code 20 = .ok (.iaload, 1) := by decide +kernel
theorem d_MO_takeLine_21 : decode prog_15_method_21_code 21 = .ok (.if_icmp .ge 313, 3) := by decide +kernel
theorem d_MO_takeLine_24 : decode prog_15_method_21_code 24 = .ok (.aload_n 0, 1) := by decide +kernel
theorem d_MO_takeLine_25 : decode prog_15_method_21_code 25 = .ok (.getfield 7, 3) := by decide +kernel
theorem d_MO_takeLine_28 : decode prog_15_method_21_code 28 = .ok (.iload_n 3, 1) := by decide +kernel
theorem d_MO_takeLine_29 : decode prog_15_method_21_code 29 = .ok (.iaload, 1) := by decide +kernel
theorem d_MO_takeLine_30 : decode prog_15_method_21_code 30 = .ok (.istore 4, 2) := by decide +kernel
theorem d_MO_takeLine_32 : decode prog_15_method_21_code 32 = .ok (.iinc 3 1, 3) := by decide +kernel
theorem d_MO_takeLine_35 : decode prog_15_method_21_code 35 = .ok (.iload 4, 2) := by decide +kernel
theorem d_MO_takeLine_37 : decode prog_15_method_21_code 37 = .ok (.bipush 92, 2) := by decide +kernel
theorem d_MO_takeLine_39 : decode prog_15_method_21_code 39 = .ok (.if_icmp .ne 11, 3) := by decide +kernel
theorem d_MO_takeLine_42 : decode prog_15_method_21_code 42 = .ok (.aload_n 0, 1) := by decide +kernel
theorem d_MO_takeLine_43 : decode prog_15_method_21_code 43 = .ok (.getfield 244, 3) := by decide +kernel
theorem d_MO_takeLine_46 : decode prog_15_method_21_code 46 = .ok (.iconst 1, 1) := by decide +kernel
theorem d_MO_takeLine_47 : decode prog_15_method_21_code 47 = .ok (.if_icmp .ne 12, 3) := by decide +kernel
theorem d_MO_takeLine_50 : decode prog_15_method_21_code 50 = .ok (.aload_n 0, 1) := by decide +kernel
theorem d_MO_takeLine_51 : decode prog_15_method_21_code 51 = .ok (.iload 4, 2) := by decide +kernel
theorem d_MO_takeLine_53 : decode prog_15_method_21_code 53 = .ok (.invokevirtual 257, 3) := by decide +kernel
theorem d_MO_takeLine_56 : decode prog_15_method_21_code 56 = .ok (.goto (-42), 3) := by decide +kernel
theorem d_MO_takeLine_59 : decode prog_15_method_21_code 59 = .ok (.iload_n 3, 1) := by decide +kernel
theorem d_MO_takeLine_60 : decode prog_15_method_21_code 60 = .ok (.aload_n 0, 1) := by decide +kernel
theorem d_MO_takeLine_61 : decode prog_15_method_21_code 61 = .ok (.getfield 16, 3) := by decide +kernel
theorem d_MO_takeLine_64 : decode prog_15_method_21_code 64 = .ok (.iload_n 1, 1) := by decide +kernel
theorem d_MO_takeLine_65 : decode prog_15_method_21_code 65 = .ok (.iaload, 1) := by decide +kernel
theorem d_MO_takeLine_66 : decode prog_15_method_21_code 66 = .ok (.if_icmp .ge 12, 3) := by decide +kernel
theorem d_MO_takeLine_69 : decode prog_15_method_21_code 69 = .ok (.aload_n 0, 1) := by decide +kernel
theorem d_MO_takeLine_70 : decode prog_15_method_21_code 70 = .ok (.getfield 7, 3) := by decide +kernel
theorem d_MO_takeLine_73 : decode prog_15_method_21_code 73 = .ok (.iload_n 3, 1) := by decide +kernel
theorem d_MO_takeLine_74 : decode prog_15_method_21_code 74 = .ok (.iaload, 1) := by decide +kernel
theorem d_MO_takeLine_75 : decode prog_15_method_21_code 75 = .ok (.goto 4, 3) := by decide +kernel
theorem d_MO_takeLine_78 : decode prog_15_method_21_code 78 = .ok (.iconst (-1), 1) := by decide +kernel
theorem d_MO_takeLine_79 : decode prog_15_method_21_code 79 = .ok (.istore 5, 2) := by decide +kernel
theorem d_MO_takeLine_81 : decode prog_15_method_21_code 81 = .ok (.iload 5, 2) := by decide +kernel
theorem d_MO_takeLine_83 : decode prog_15_method_21_code 83 = .ok (.bipush 64, 2) := by decide +kernel
theorem d_MO_takeLine_85 : decode prog_15_method_21_code 85 = .ok (.if_icmp .ne 10, 3) := by decide +kernel
theorem d_MO_takeLine_88 : decode prog_15_method_21_code 88 = .ok (.aload_n 0, 1) := by decide +kernel
theorem d_MO_takeLine_89 : decode prog_15_method_21_code 89 = .ok (.invokevirtual 264, 3) := by decide +kernel
theorem d_MO_takeLine_92 : decode prog_15_method_21_code 92 = .ok (.goto 7, 3) := by decide +kernel
theorem d_MO_takeLine_95 : decode prog_15_method_21_code 95 = .ok (.aload_n 0, 1) := by decide +kernel
theorem d_MO_takeLine_96 : decode prog_15_method_21_code 96 = .ok (.invokevirtual 268, 3) := by decide +kernel
theorem d_MO_takeLine_99 : decode prog_15_method_21_code 99 = .ok (.istore 6, 2) := by decide +kernel
theorem d_MO_takeLine_101 : decode prog_15_method_21_code 101 = .ok (.iload 5, 2) := by decide +kernel
theorem d_MO_takeLine_103 : decode prog_15_method_21_code 103 = .ok (.bipush 64, 2) := by decide +kernel
theorem d_MO_takeLine_105 : decode prog_15_method_21_code 105 = .ok (.if_icmp .eq 10, 3) := by decide +kernel
theorem d_MO_takeLine_108 : decode prog_15_method_21_code 108 = .ok (.iload 5, 2) := by decide +kernel
theorem d_MO_takeLine_110 : decode prog_15_method_21_code 110 = .ok (.bipush 63, 2) := by decide +kernel
theorem d_MO_takeLine_112 : decode prog_15_method_21_code 112 = .ok (.if_icmp .ne 57, 3) := by decide +kernel
theorem d_MO_takeLine_115 : decode prog_15_method_21_code 115 = .ok (.iload_n 2, 1) := by decide +kernel
theorem d_MO_takeLine_116 : decode prog_15_method_21_code 116 = .ok (.ifCond .eq 12, 3) := by decide +kernel
theorem d_MO_takeLine_119 : decode prog_15_method_21_code 119 = .ok (.iload 6, 2) := by decide +kernel
theorem d_MO_takeLine_121 : decode prog_15_method_21_code 121 = .ok (.ifCond .lt 7, 3) := by decide +kernel
theorem d_MO_takeLine_124 : decode prog_15_method_21_code 124 = .ok (.iconst 1, 1) := by decide +kernel
theorem d_MO_takeLine_125 : decode prog_15_method_21_code 125 = .ok (.goto 4, 3) := by decide +kernel
theorem d_MO_takeLine_128 : decode prog_15_method_21_code 128 = .ok (.iconst 0, 1) := by decide +kernel
theorem d_MO_takeLine_129 : decode prog_15_method_21_code 129 = .ok (.istore_n 2, 1) := by decide +kernel
theorem d_MO_takeLine_130 : decode prog_15_method_21_code 130 = .ok (.iload 6, 2) := by decide +kernel
theorem d_MO_takeLine_132 : decode prog_15_method_21_code 132 = .ok (.ifCond .lt 31, 3) := by decide +kernel
theorem d_MO_takeLine_135 : decode prog_15_method_21_code 135 = .ok (.aload_n 0, 1) := by decide +kernel
theorem d_MO_takeLine_136 : decode prog_15_method_21_code 136 = .ok (.iload 5, 2) := by decide +kernel
theorem d_MO_takeLine_138 : decode prog_15_method_21_code 138 = .ok (.bipush 64, 2) := by decide +kernel
theorem d_MO_takeLine_140 : decode prog_15_method_21_code 140 = .ok (.if_icmp .ne 13, 3) := by decide +kernel
theorem d_MO_takeLine_143 : decode prog_15_method_21_code 143 = .ok (.aload_n 0, 1) := by decide +kernel
theorem d_MO_takeLine_144 : decode prog_15_method_21_code 144 = .ok (.getfield 99, 3) := by decide +kernel
theorem d_MO_takeLine_147 : decode prog_15_method_21_code 147 = .ok (.iload 6, 2) := by decide +kernel
theorem d_MO_takeLine_149 : decode prog_15_method_21_code 149 = .ok (.iaload, 1) := by decide +kernel
theorem d_MO_takeLine_150 : decode prog_15_method_21_code 150 = .ok (.goto 10, 3) := by decide +kernel
theorem d_MO_takeLine_153 : decode prog_15_method_21_code 153 = .ok (.aload_n 0, 1) := by decide +kernel
theorem d_MO_takeLine_154 : decode prog_15_method_21_code 154 = .ok (.getfield 93, 3) := by decide +kernel
theorem d_MO_takeLine_157 : decode prog_15_method_21_code 157 = .ok (.iload 6, 2) := by decide +kernel
theorem d_MO_takeLine_159 : decode prog_15_method_21_code 159 = .ok (.iaload, 1) := by decide +kernel
theorem d_MO_takeLine_160 : decode prog_15_method_21_code 160 = .ok (.invokevirtual 271, 3) := by decide +kernel
theorem d_MO_takeLine_163 : decode prog_15_method_21_code 163 = .ok (.iinc 3 1, 3) := by decide +kernel
theorem d_MO_takeLine_166 : decode prog_15_method_21_code 166 = .ok (.goto (-152), 3) := by decide +kernel
theorem d_MO_takeLine_169 : decode prog_15_method_21_code 169 = .ok (.lconst 0, 1) := by decide +kernel
theorem d_MO_takeLine_170 : decode prog_15_method_21_code 170 = .ok (.lstore 7, 2) := by decide +kernel
theorem d_MO_takeLine_172 : decode prog_15_method_21_code 172 = .ok (.lconst 0, 1) := by decide +kernel
theorem d_MO_takeLine_173 : decode prog_15_method_21_code 173 = .ok (.lstore 9, 2) := by decide +kernel
theorem d_MO_takeLine_175 : decode prog_15_method_21_code 175 = .ok (.iconst 0, 1) := by decide +kernel
theorem d_MO_takeLine_176 : decode prog_15_method_21_code 176 = .ok (.istore 11, 2) := by decide +kernel
theorem d_MO_takeLine_178 : decode prog_15_method_21_code 178 = .ok (.iload_n 3, 1) := by decide +kernel
theorem d_MO_takeLine_179 : decode prog_15_method_21_code 179 = .ok (.aload_n 0, 1) := by decide +kernel
theorem d_MO_takeLine_180 : decode prog_15_method_21_code 180 = .ok (.getfield 16, 3) := by decide +kernel
theorem d_MO_takeLine_183 : decode prog_15_method_21_code 183 = .ok (.iload_n 1, 1) := by decide +kernel
theorem d_MO_takeLine_184 : decode prog_15_method_21_code 184 = .ok (.iaload, 1) := by decide +kernel
theorem d_MO_takeLine_185 : decode prog_15_method_21_code 185 = .ok (.if_icmp .ge 114, 3) := by decide +kernel
theorem d_MO_takeLine_188 : decode prog_15_method_21_code 188 = .ok (.iload 11, 2) := by decide +kernel
theorem d_MO_takeLine_190 : decode prog_15_method_21_code 190 = .ok (.ifCond .ne 18, 3) := by decide +kernel
theorem d_MO_takeLine_193 : decode prog_15_method_21_code 193 = .ok (.aload_n 0, 1) := by decide +kernel
theorem d_MO_takeLine_194 : decode prog_15_method_21_code 194 = .ok (.getfield 7, 3) := by decide +kernel
theorem d_MO_takeLine_197 : decode prog_15_method_21_code 197 = .ok (.iload_n 3, 1) := by decide +kernel
theorem d_MO_takeLine_198 : decode prog_15_method_21_code 198 = .ok (.iaload, 1) := by decide +kernel
theorem d_MO_takeLine_199 : decode prog_15_method_21_code 199 = .ok (.invokestatic 199, 3) := by decide +kernel
theorem d_MO_takeLine_202 : decode prog_15_method_21_code 202 = .ok (.ifCond .eq 97, 3) := by decide +kernel
theorem d_MO_takeLine_205 : decode prog_15_method_21_code 205 = .ok (.goto 15, 3) := by decide +kernel
theorem d_MO_takeLine_208 : decode prog_15_method_21_code 208 = .ok (.aload_n 0, 1) := by decide +kernel
theorem d_MO_takeLine_209 : decode prog_15_method_21_code 209 = .ok (.getfield 7, 3) := by decide +kernel
theorem d_MO_takeLine_212 : decode prog_15_method_21_code 212 = .ok (.iload_n 3, 1) := by decide +kernel
theorem d_MO_takeLine_213 : decode prog_15_method_21_code 213 = .ok (.iaload, 1) := by decide +kernel
theorem d_MO_takeLine_214 : decode prog_15_method_21_code 214 = .ok (.invokestatic 234, 3) := by decide +kernel
theorem d_MO_takeLine_217 : decode prog_15_method_21_code 217 = .ok (.ifCond .eq 82, 3) := by decide +kernel
theorem d_MO_takeLine_220 : decode prog_15_method_21_code 220 = .ok (.iload 11, 2) := by decide +kernel
theorem d_MO_takeLine_222 : decode prog_15_method_21_code 222 = .ok (.bipush 8, 2) := by decide +kernel
theorem d_MO_takeLine_224 : decode prog_15_method_21_code 224 = .ok (.if_icmp .ge 22, 3) := by decide +kernel
theorem d_MO_takeLine_227 : decode prog_15_method_21_code 227 = .ok (.lload 7, 2) := by decide +kernel
theorem d_MO_takeLine_229 : decode prog_15_method_21_code 229 = .ok (.aload_n 0, 1) := by decide +kernel
theorem d_MO_takeLine_230 : decode prog_15_method_21_code 230 = .ok (.getfield 7, 3) := by decide +kernel
theorem d_MO_takeLine_233 : decode prog_15_method_21_code 233 = .ok (.iload_n 3, 1) := by decide +kernel
theorem d_MO_takeLine_234 : decode prog_15_method_21_code 234 = .ok (.iaload, 1) := by decide +kernel
theorem d_MO_takeLine_235 : decode prog_15_method_21_code 235 = .ok (.i2l, 1) := by decide +kernel
theorem d_MO_takeLine_236 : decode prog_15_method_21_code 236 = .ok (.bipush 8, 2) := by decide +kernel
theorem d_MO_takeLine_238 : decode prog_15_method_21_code 238 = .ok (.iload 11, 2) := by decide +kernel
theorem d_MO_takeLine_240 : decode prog_15_method_21_code 240 = .ok (.imul, 1) := by decide +kernel
theorem d_MO_takeLine_241 : decode prog_15_method_21_code 241 = .ok (.lshl, 1) := by decide +kernel
theorem d_MO_takeLine_242 : decode prog_15_method_21_code 242 = .ok (.lor, 1) := by decide +kernel
theorem d_MO_takeLine_243 : decode prog_15_method_21_code 243 = .ok (.goto 5, 3) := by decide +kernel
theorem d_MO_takeLine_246 : decode prog_15_method_21_code 246 = .ok (.lload 7, 2) := by decide +kernel
theorem d_MO_takeLine_248 : decode prog_15_method_21_code 248 = .ok (.lstore 7, 2) := by decide +kernel
theorem d_MO_takeLine_250 : decode prog_15_method_21_code 250 = .ok (.iload 11, 2) := by decide +kernel
theorem d_MO_takeLine_252 : decode prog_15_method_21_code 252 = .ok (.bipush 8, 2) := by decide +kernel
theorem d_MO_takeLine_254 : decode prog_15_method_21_code 254 = .ok (.if_icmp .lt 32, 3) := by decide +kernel
theorem d_MO_takeLine_257 : decode prog_15_method_21_code 257 = .ok (.iload 11, 2) := by decide +kernel
theorem d_MO_takeLine_259 : decode prog_15_method_21_code 259 = .ok (.bipush 12, 2) := by decide +kernel
theorem d_MO_takeLine_261 : decode prog_15_method_21_code 261 = .ok (.if_icmp .ge 25, 3) := by decide +kernel
theorem d_MO_takeLine_264 : decode prog_15_method_21_code 264 = .ok (.lload 9, 2) := by decide +kernel
theorem d_MO_takeLine_266 : decode prog_15_method_21_code 266 = .ok (.aload_n 0, 1) := by decide +kernel
theorem d_MO_takeLine_267 : decode prog_15_method_21_code 267 = .ok (.getfield 7, 3) := by decide +kernel
theorem d_MO_takeLine_270 : decode prog_15_method_21_code 270 = .ok (.iload_n 3, 1) := by decide +kernel
theorem d_MO_takeLine_271 : decode prog_15_method_21_code 271 = .ok (.iaload, 1) := by decide +kernel
theorem d_MO_takeLine_272 : decode prog_15_method_21_code 272 = .ok (.i2l, 1) := by decide +kernel
theorem d_MO_takeLine_273 : decode prog_15_method_21_code 273 = .ok (.bipush 8, 2) := by decide +kernel
theorem d_MO_takeLine_275 : decode prog_15_method_21_code 275 = .ok (.iload 11, 2) := by decide +kernel
theorem d_MO_takeLine_277 : decode prog_15_method_21_code 277 = .ok (.bipush 8, 2) := by decide +kernel
theorem d_MO_takeLine_279 : decode prog_15_method_21_code 279 = .ok (.isub, 1) := by decide +kernel
theorem d_MO_takeLine_280 : decode prog_15_method_21_code 280 = .ok (.imul, 1) := by decide +kernel
theorem d_MO_takeLine_281 : decode prog_15_method_21_code 281 = .ok (.lshl, 1) := by decide +kernel
theorem d_MO_takeLine_282 : decode prog_15_method_21_code 282 = .ok (.lor, 1) := by decide +kernel
theorem d_MO_takeLine_283 : decode prog_15_method_21_code 283 = .ok (.goto 5, 3) := by decide +kernel
theorem d_MO_takeLine_286 : decode prog_15_method_21_code 286 = .ok (.lload 9, 2) := by decide +kernel
theorem d_MO_takeLine_288 : decode prog_15_method_21_code 288 = .ok (.lstore 9, 2) := by decide +kernel
theorem d_MO_takeLine_290 : decode prog_15_method_21_code 290 = .ok (.iinc 11 1, 3) := by decide +kernel
theorem d_MO_takeLine_293 : decode prog_15_method_21_code 293 = .ok (.iinc 3 1, 3) := by decide +kernel
theorem d_MO_takeLine_296 : decode prog_15_method_21_code 296 = .ok (.goto (-118), 3) := by decide +kernel
theorem d_MO_takeLine_299 : decode prog_15_method_21_code 299 = .ok (.iload 11, 2) := by decide +kernel
theorem d_MO_takeLine_301 : decode prog_15_method_21_code 301 = .ok (.iconst 1, 1) := by decide +kernel
theorem d_MO_takeLine_302 : decode prog_15_method_21_code 302 = .ok (.bipush 12, 2) := by decide +kernel
theorem d_MO_takeLine_304 : decode prog_15_method_21_code 304 = .ok (.invokestatic 182, 3) := by decide +kernel
theorem d_MO_takeLine_307 : decode prog_15_method_21_code 307 = .ok (.ifCond .eq 22, 3) := by decide +kernel
theorem d_MO_takeLine_310 : decode prog_15_method_21_code 310 = .ok (.aload_n 0, 1) := by decide +kernel
theorem d_MO_takeLine_311 : decode prog_15_method_21_code 311 = .ok (.lload 7, 2) := by decide +kernel
theorem d_MO_takeLine_313 : decode prog_15_method_21_code 313 = .ok (.lload 9, 2) := by decide +kernel
theorem d_MO_takeLine_315 : decode prog_15_method_21_code 315 = .ok (.invokevirtual 274, 3) := by decide +kernel
theorem d_MO_takeLine_318 : decode prog_15_method_21_code 318 = .ok (.ifCond .eq 11, 3) := by decide +kernel
theorem d_MO_takeLine_321 : decode prog_15_method_21_code 321 = .ok (.iload_n 2, 1) := by decide +kernel
theorem d_MO_takeLine_322 : decode prog_15_method_21_code 322 = .ok (.ifCond .eq 7, 3) := by decide +kernel
theorem d_MO_takeLine_325 : decode prog_15_method_21_code 325 = .ok (.iconst 1, 1) := by decide +kernel
theorem d_MO_takeLine_326 : decode prog_15_method_21_code 326 = .ok (.goto 4, 3) := by decide +kernel
theorem d_MO_takeLine_329 : decode prog_15_method_21_code 329 = .ok (.iconst 0, 1) := by decide +kernel
theorem d_MO_takeLine_330 : decode prog_15_method_21_code 330 = .ok (.istore_n 2, 1) := by decide +kernel
theorem d_MO_takeLine_331 : decode prog_15_method_21_code 331 = .ok (.goto (-317), 3) := by decide +kernel
theorem d_MO_takeLine_334 : decode prog_15_method_21_code 334 = .ok (.iload_n 2, 1) := by decide +kernel
theorem d_MO_takeLine_335 : decode prog_15_method_21_code 335 = .ok (.ifCond .eq 30, 3) := by decide +kernel
theorem d_MO_takeLine_338 : decode prog_15_method_21_code 338 = .ok (.aload_n 0, 1) := by decide +kernel
theorem d_MO_takeLine_339 : decode prog_15_method_21_code 339 = .ok (.getfield 244, 3) := by decide +kernel
theorem d_MO_takeLine_342 : decode prog_15_method_21_code 342 = .ok (.iconst 1, 1) := by decide +kernel
theorem d_MO_takeLine_343 : decode prog_15_method_21_code 343 = .ok (.if_icmp .le 18, 3) := by decide +kernel
theorem d_MO_takeLine_346 : decode prog_15_method_21_code 346 = .ok (.aload_n 0, 1) := by decide +kernel
theorem d_MO_takeLine_347 : decode prog_15_method_21_code 347 = .ok (.getfield 254, 3) := by decide +kernel
theorem d_MO_takeLine_350 : decode prog_15_method_21_code 350 = .ok (.sipush 300, 3) := by decide +kernel
theorem d_MO_takeLine_353 : decode prog_15_method_21_code 353 = .ok (.if_icmp .le 8, 3) := by decide +kernel
theorem d_MO_takeLine_356 : decode prog_15_method_21_code 356 = .ok (.bipush 6, 2) := by decide +kernel
theorem d_MO_takeLine_358 : decode prog_15_method_21_code 358 = .ok (.goto 8, 3) := by decide +kernel
theorem d_MO_takeLine_361 : decode prog_15_method_21_code 361 = .ok (.iconst 0, 1) := by decide +kernel
theorem d_MO_takeLine_362 : decode prog_15_method_21_code 362 = .ok (.goto 4, 3) := by decide +kernel
theorem d_MO_takeLine_365 : decode prog_15_method_21_code 365 = .ok (.iconst 1, 1) := by decide +kernel
theorem d_MO_takeLine_366 : decode prog_15_method_21_code 366 = .ok (.ireturn, 1) := by decide +kernel
theorem d_MO_here_0 : decode prog_15_method_22_code 0 = .ok (.aload_n 0, 1) := by decide +kernel
theorem d_MO_here_1 : decode prog_15_method_22_code 1 = .ok (.getfield 278, 3) := by decide +kernel
theorem d_MO_here_4 : decode prog_15_method_22_code 4 = .ok (.aload_n 0, 1) := by decide +kernel
theorem d_MO_here_5 : decode prog_15_method_22_code 5 = .ok (.getfield 254, 3) := by decide +kernel
theorem d_MO_here_8 : decode prog_15_method_22_code 8 = .ok (.if_icmp .ge 15, 3) := by decide +kernel
theorem d_MO_here_11 : decode prog_15_method_22_code 11 = .ok (.aload_n 0, 1) := by decide +kernel
theorem d_MO_here_12 : decode prog_15_method_22_code 12 = .ok (.getfield 143, 3) := by decide +kernel
theorem d_MO_here_15 : decode prog_15_method_22_code 15 = .ok (.aload_n 0, 1) := by decide +kernel
theorem d_MO_here_16 : decode prog_15_method_22_code 16 = .ok (.getfield 278, 3) := by decide +kernel
theorem d_MO_here_19 : decode prog_15_method_22_code 19 = .ok (.iaload, 1) := by decide +kernel
theorem d_MO_here_20 : decode prog_15_method_22_code 20 = .ok (.goto 4, 3) := by decide +kernel
theorem d_MO_here_23 : decode prog_15_method_22_code 23 = .ok (.iconst (-1), 1) := by decide +kernel
theorem d_MO_here_24 : decode prog_15_method_22_code 24 = .ok (.ireturn, 1) := by decide +kernel
theorem d_MO_blanks_0 : decode prog_15_method_23_code 0 = .ok (.aload_n 0, 1) := by decide +kernel
theorem d_MO_blanks_1 : decode prog_15_method_23_code 1 = .ok (.invokevirtual 281, 3) := by decide +kernel
theorem d_MO_blanks_4 : decode prog_15_method_23_code 4 = .ok (.bipush 32, 2) := by decide +kernel
theorem d_MO_blanks_6 : decode prog_15_method_23_code 6 = .ok (.if_icmp .ne 16, 3) := by decide +kernel
theorem d_MO_blanks_9 : decode prog_15_method_23_code 9 = .ok (.aload_n 0, 1) := by decide +kernel
theorem d_MO_blanks_10 : decode prog_15_method_23_code 10 = .ok (.dup, 1) := by decide +kernel
theorem d_MO_blanks_11 : decode prog_15_method_23_code 11 = .ok (.getfield 278, 3) := by decide +kernel
theorem d_MO_blanks_14 : decode prog_15_method_23_code 14 = .ok (.iconst 1, 1) := by decide +kernel
theorem d_MO_blanks_15 : decode prog_15_method_23_code 15 = .ok (.iadd, 1) := by decide +kernel
theorem d_MO_blanks_16 : decode prog_15_method_23_code 16 = .ok (.putfield 278, 3) := by decide +kernel
theorem d_MO_blanks_19 : decode prog_15_method_23_code 19 = .ok (.goto (-19), 3) := by decide +kernel
theorem d_MO_blanks_22 : decode prog_15_method_23_code 22 = .ok (.return_, 1) := by decide +kernel
theorem d_MO_beginLine_0 : decode prog_15_method_59_code 0 = .ok (.aload_n 0, 1) := by decide +kernel
theorem d_MO_beginLine_1 : decode prog_15_method_59_code 1 = .ok (.getfield 254, 3) := by decide +kernel
theorem d_MO_beginLine_4 : decode prog_15_method_59_code 4 = .ok (.ifCond .le 32, 3) := by decide +kernel
theorem d_MO_beginLine_7 : decode prog_15_method_59_code 7 = .ok (.aload_n 0, 1) := by decide +kernel
theorem d_MO_beginLine_8 : decode prog_15_method_59_code 8 = .ok (.getfield 143, 3) := by decide +kernel
theorem d_MO_beginLine_11 : decode prog_15_method_59_code 11 = .ok (.aload_n 0, 1) := by decide +kernel
theorem d_MO_beginLine_12 : decode prog_15_method_59_code 12 = .ok (.getfield 254, 3) := by decide +kernel
theorem d_MO_beginLine_15 : decode prog_15_method_59_code 15 = .ok (.iconst 1, 1) := by decide +kernel
theorem d_MO_beginLine_16 : decode prog_15_method_59_code 16 = .ok (.isub, 1) := by decide +kernel
theorem d_MO_beginLine_17 : decode prog_15_method_59_code 17 = .ok (.iaload, 1) := by decide +kernel
theorem d_MO_beginLine_18 : decode prog_15_method_59_code 18 = .ok (.bipush 32, 2) := by decide +kernel
theorem d_MO_beginLine_20 : decode prog_15_method_59_code 20 = .ok (.if_icmp .ne 16, 3) := by decide +kernel
theorem d_MO_beginLine_23 : decode prog_15_method_59_code 23 = .ok (.aload_n 0, 1) := by decide +kernel
theorem d_MO_beginLine_24 : decode prog_15_method_59_code 24 = .ok (.dup, 1) := by decide +kernel
theorem d_MO_beginLine_25 : decode prog_15_method_59_code 25 = .ok (.getfield 254, 3) := by decide +kernel
theorem d_MO_beginLine_28 : decode prog_15_method_59_code 28 = .ok (.iconst 1, 1) := by decide +kernel
theorem d_MO_beginLine_29 : decode prog_15_method_59_code 29 = .ok (.isub, 1) := by decide +kernel
theorem d_MO_beginLine_30 : decode prog_15_method_59_code 30 = .ok (.putfield 254, 3) := by decide +kernel
theorem d_MO_beginLine_33 : decode prog_15_method_59_code 33 = .ok (.goto (-33), 3) := by decide +kernel
theorem d_MO_beginLine_36 : decode prog_15_method_59_code 36 = .ok (.aload_n 0, 1) := by decide +kernel
theorem d_MO_beginLine_37 : decode prog_15_method_59_code 37 = .ok (.iconst 0, 1) := by decide +kernel
theorem d_MO_beginLine_38 : decode prog_15_method_59_code 38 = .ok (.putfield 278, 3) := by decide +kernel
theorem d_MO_beginLine_41 : decode prog_15_method_59_code 41 = .ok (.aload_n 0, 1) := by decide +kernel
theorem d_MO_beginLine_42 : decode prog_15_method_59_code 42 = .ok (.iconst 1, 1) := by decide +kernel
theorem d_MO_beginLine_43 : decode prog_15_method_59_code 43 = .ok (.putfield 287, 3) := by decide +kernel
theorem d_MO_beginLine_46 : decode prog_15_method_59_code 46 = .ok (.aload_n 0, 1) := by decide +kernel
theorem d_MO_beginLine_47 : decode prog_15_method_59_code 47 = .ok (.invokevirtual 284, 3) := by decide +kernel
theorem d_MO_beginLine_50 : decode prog_15_method_59_code 50 = .ok (.aload_n 0, 1) := by decide +kernel
theorem d_MO_beginLine_51 : decode prog_15_method_59_code 51 = .ok (.getfield 278, 3) := by decide +kernel
theorem d_MO_beginLine_54 : decode prog_15_method_59_code 54 = .ok (.istore_n 1, 1) := by decide +kernel
theorem d_MO_beginLine_55 : decode prog_15_method_59_code 55 = .ok (.iload_n 1, 1) := by decide +kernel
theorem d_MO_beginLine_56 : decode prog_15_method_59_code 56 = .ok (.istore_n 2, 1) := by decide +kernel
theorem d_MO_beginLine_57 : decode prog_15_method_59_code 57 = .ok (.iload_n 2, 1) := by decide +kernel
theorem d_MO_beginLine_58 : decode prog_15_method_59_code 58 = .ok (.aload_n 0, 1) := by decide +kernel
theorem d_MO_beginLine_59 : decode prog_15_method_59_code 59 = .ok (.getfield 254, 3) := by decide +kernel
theorem d_MO_beginLine_62 : decode prog_15_method_59_code 62 = .ok (.if_icmp .ge 23, 3) := by decide +kernel
