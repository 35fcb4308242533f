theorem d_MO_beginLine_65 : decode prog_15_method_59_code 65 = .ok (.aload_n 0, 1) := by decide +kernel
theorem d_MO_beginLine_66 : decode prog_15_method_59_code 66 = .ok (.getfield 143, 3) := by decide +kernel
theorem d_MO_beginLine_69 : decode prog_15_method_59_code 69 = .ok (.iload_n 2, 1) := by decide +kernel
theorem d_MO_beginLine_70 : decode prog_15_method_59_code 70 = .ok (.iload_n 1, 1) := by decide +kernel
theorem d_MO_beginLine_71 : decode prog_15_method_59_code 71 = .ok (.isub, 1) := by decide +kernel
theorem d_MO_beginLine_72 : decode prog_15_method_59_code 72 = .ok (.aload_n 0, 1) := by decide +kernel
theorem d_MO_beginLine_73 : decode prog_15_method_59_code 73 = .ok (.getfield 143, 3) := by decide +kernel
theorem d_MO_beginLine_76 : decode prog_15_method_59_code 76 = .ok (.iload_n 2, 1) := by decide +kernel
theorem d_MO_beginLine_77 : decode prog_15_method_59_code 77 = .ok (.iaload, 1) := by decide +kernel
theorem d_MO_beginLine_78 : decode prog_15_method_59_code 78 = .ok (.iastore, 1) := by decide +kernel
theorem d_MO_beginLine_79 : decode prog_15_method_59_code 79 = .ok (.iinc 2 1, 3) := by decide +kernel
theorem d_MO_beginLine_82 : decode prog_15_method_59_code 82 = .ok (.goto (-25), 3) := by decide +kernel
theorem d_MO_beginLine_85 : decode prog_15_method_59_code 85 = .ok (.aload_n 0, 1) := by decide +kernel
theorem d_MO_beginLine_86 : decode prog_15_method_59_code 86 = .ok (.aload_n 0, 1) := by decide +kernel
theorem d_MO_beginLine_87 : decode prog_15_method_59_code 87 = .ok (.getfield 254, 3) := by decide +kernel
theorem d_MO_beginLine_90 : decode prog_15_method_59_code 90 = .ok (.iload_n 1, 1) := by decide +kernel
theorem d_MO_beginLine_91 : decode prog_15_method_59_code 91 = .ok (.isub, 1) := by decide +kernel
theorem d_MO_beginLine_92 : decode prog_15_method_59_code 92 = .ok (.putfield 254, 3) := by decide +kernel
theorem d_MO_beginLine_95 : decode prog_15_method_59_code 95 = .ok (.aload_n 0, 1) := by decide +kernel
theorem d_MO_beginLine_96 : decode prog_15_method_59_code 96 = .ok (.iconst 0, 1) := by decide +kernel
theorem d_MO_beginLine_97 : decode prog_15_method_59_code 97 = .ok (.putfield 278, 3) := by decide +kernel
theorem d_MO_beginLine_100 : decode prog_15_method_59_code 100 = .ok (.return_, 1) := by decide +kernel
theorem d_MO_word_0 : decode prog_15_method_25_code 0 = .ok (.aload_n 0, 1) := by decide +kernel
theorem d_MO_word_1 : decode prog_15_method_25_code 1 = .ok (.invokevirtual 284, 3) := by decide +kernel
theorem d_MO_word_4 : decode prog_15_method_25_code 4 = .ok (.aload_n 0, 1) := by decide +kernel
theorem d_MO_word_5 : decode prog_15_method_25_code 5 = .ok (.lconst 0, 1) := by decide +kernel
theorem d_MO_word_6 : decode prog_15_method_25_code 6 = .ok (.putfield 291, 3) := by decide +kernel
theorem d_MO_word_9 : decode prog_15_method_25_code 9 = .ok (.aload_n 0, 1) := by decide +kernel
theorem d_MO_word_10 : decode prog_15_method_25_code 10 = .ok (.lconst 0, 1) := by decide +kernel
theorem d_MO_word_11 : decode prog_15_method_25_code 11 = .ok (.putfield 295, 3) := by decide +kernel
theorem d_MO_word_14 : decode prog_15_method_25_code 14 = .ok (.iconst 0, 1) := by decide +kernel
theorem d_MO_word_15 : decode prog_15_method_25_code 15 = .ok (.istore_n 1, 1) := by decide +kernel
theorem d_MO_word_16 : decode prog_15_method_25_code 16 = .ok (.iload_n 1, 1) := by decide +kernel
theorem d_MO_word_17 : decode prog_15_method_25_code 17 = .ok (.ifCond .ne 16, 3) := by decide +kernel
theorem d_MO_word_20 : decode prog_15_method_25_code 20 = .ok (.aload_n 0, 1) := by decide +kernel
theorem d_MO_word_21 : decode prog_15_method_25_code 21 = .ok (.invokevirtual 281, 3) := by decide +kernel
theorem d_MO_word_24 : decode prog_15_method_25_code 24 = .ok (.invokestatic 199, 3) := by decide +kernel
theorem d_MO_word_27 : decode prog_15_method_25_code 27 = .ok (.ifCond .eq 105, 3) := by decide +kernel
theorem d_MO_word_30 : decode prog_15_method_25_code 30 = .ok (.goto 13, 3) := by decide +kernel
theorem d_MO_word_33 : decode prog_15_method_25_code 33 = .ok (.aload_n 0, 1) := by decide +kernel
theorem d_MO_word_34 : decode prog_15_method_25_code 34 = .ok (.invokevirtual 281, 3) := by decide +kernel
theorem d_MO_word_37 : decode prog_15_method_25_code 37 = .ok (.invokestatic 234, 3) := by decide +kernel
theorem d_MO_word_40 : decode prog_15_method_25_code 40 = .ok (.ifCond .eq 92, 3) := by decide +kernel
theorem d_MO_word_43 : decode prog_15_method_25_code 43 = .ok (.aload_n 0, 1) := by decide +kernel
theorem d_MO_word_44 : decode prog_15_method_25_code 44 = .ok (.iload_n 1, 1) := by decide +kernel
theorem d_MO_word_45 : decode prog_15_method_25_code 45 = .ok (.bipush 8, 2) := by decide +kernel
theorem d_MO_word_47 : decode prog_15_method_25_code 47 = .ok (.if_icmp .ge 21, 3) := by decide +kernel
theorem d_MO_word_50 : decode prog_15_method_25_code 50 = .ok (.aload_n 0, 1) := by decide +kernel
theorem d_MO_word_51 : decode prog_15_method_25_code 51 = .ok (.getfield 291, 3) := by decide +kernel
theorem d_MO_word_54 : decode prog_15_method_25_code 54 = .ok (.aload_n 0, 1) := by decide +kernel
theorem d_MO_word_55 : decode prog_15_method_25_code 55 = .ok (.invokevirtual 281, 3) := by decide +kernel
theorem d_MO_word_58 : decode prog_15_method_25_code 58 = .ok (.i2l, 1) := by decide +kernel
theorem d_MO_word_59 : decode prog_15_method_25_code 59 = .ok (.bipush 8, 2) := by decide +kernel
theorem d_MO_word_61 : decode prog_15_method_25_code 61 = .ok (.iload_n 1, 1) := by decide +kernel
theorem d_MO_word_62 : decode prog_15_method_25_code 62 = .ok (.imul, 1) := by decide +kernel
theorem d_MO_word_63 : decode prog_15_method_25_code 63 = .ok (.lshl, 1) := by decide +kernel
theorem d_MO_word_64 : decode prog_15_method_25_code 64 = .ok (.lor, 1) := by decide +kernel
theorem d_MO_word_65 : decode prog_15_method_25_code 65 = .ok (.goto 7, 3) := by decide +kernel
theorem d_MO_word_68 : decode prog_15_method_25_code 68 = .ok (.aload_n 0, 1) := by decide +kernel
theorem d_MO_word_69 : decode prog_15_method_25_code 69 = .ok (.getfield 291, 3) := by decide +kernel
theorem d_MO_word_72 : decode prog_15_method_25_code 72 = .ok (.putfield 291, 3) := by decide +kernel
theorem d_MO_word_75 : decode prog_15_method_25_code 75 = .ok (.aload_n 0, 1) := by decide +kernel
theorem d_MO_word_76 : decode prog_15_method_25_code 76 = .ok (.iload_n 1, 1) := by decide +kernel
theorem d_MO_word_77 : decode prog_15_method_25_code 77 = .ok (.bipush 8, 2) := by decide +kernel
theorem d_MO_word_79 : decode prog_15_method_25_code 79 = .ok (.if_icmp .lt 30, 3) := by decide +kernel
theorem d_MO_word_82 : decode prog_15_method_25_code 82 = .ok (.iload_n 1, 1) := by decide +kernel
theorem d_MO_word_83 : decode prog_15_method_25_code 83 = .ok (.bipush 12, 2) := by decide +kernel
theorem d_MO_word_85 : decode prog_15_method_25_code 85 = .ok (.if_icmp .ge 24, 3) := by decide +kernel
theorem d_MO_word_88 : decode prog_15_method_25_code 88 = .ok (.aload_n 0, 1) := by decide +kernel
theorem d_MO_word_89 : decode prog_15_method_25_code 89 = .ok (.getfield 295, 3) := by decide +kernel
theorem d_MO_word_92 : decode prog_15_method_25_code 92 = .ok (.aload_n 0, 1) := by decide +kernel
theorem d_MO_word_93 : decode prog_15_method_25_code 93 = .ok (.invokevirtual 281, 3) := by decide +kernel
theorem d_MO_word_96 : decode prog_15_method_25_code 96 = .ok (.i2l, 1) := by decide +kernel
theorem d_MO_word_97 : decode prog_15_method_25_code 97 = .ok (.bipush 8, 2) := by decide +kernel
theorem d_MO_word_99 : decode prog_15_method_25_code 99 = .ok (.iload_n 1, 1) := by decide +kernel
theorem d_MO_word_100 : decode prog_15_method_25_code 100 = .ok (.bipush 8, 2) := by decide +kernel
theorem d_MO_word_102 : decode prog_15_method_25_code 102 = .ok (.isub, 1) := by decide +kernel
theorem d_MO_word_103 : decode prog_15_method_25_code 103 = .ok (.imul, 1) := by decide +kernel
theorem d_MO_word_104 : decode prog_15_method_25_code 104 = .ok (.lshl, 1) := by decide +kernel
theorem d_MO_word_105 : decode prog_15_method_25_code 105 = .ok (.lor, 1) := by decide +kernel
theorem d_MO_word_106 : decode prog_15_method_25_code 106 = .ok (.goto 7, 3) := by decide +kernel
theorem d_MO_word_109 : decode prog_15_method_25_code 109 = .ok (.aload_n 0, 1) := by decide +kernel
theorem d_MO_word_110 : decode prog_15_method_25_code 110 = .ok (.getfield 295, 3) := by decide +kernel
theorem d_MO_word_113 : decode prog_15_method_25_code 113 = .ok (.putfield 295, 3) := by decide +kernel
theorem d_MO_word_116 : decode prog_15_method_25_code 116 = .ok (.iinc 1 1, 3) := by decide +kernel
theorem d_MO_word_119 : decode prog_15_method_25_code 119 = .ok (.aload_n 0, 1) := by decide +kernel
theorem d_MO_word_120 : decode prog_15_method_25_code 120 = .ok (.dup, 1) := by decide +kernel
theorem d_MO_word_121 : decode prog_15_method_25_code 121 = .ok (.getfield 278, 3) := by decide +kernel
theorem d_MO_word_124 : decode prog_15_method_25_code 124 = .ok (.iconst 1, 1) := by decide +kernel
theorem d_MO_word_125 : decode prog_15_method_25_code 125 = .ok (.iadd, 1) := by decide +kernel
theorem d_MO_word_126 : decode prog_15_method_25_code 126 = .ok (.putfield 278, 3) := by decide +kernel
theorem d_MO_word_129 : decode prog_15_method_25_code 129 = .ok (.goto (-113), 3) := by decide +kernel
theorem d_MO_word_132 : decode prog_15_method_25_code 132 = .ok (.aload_n 0, 1) := by decide +kernel
theorem d_MO_word_133 : decode prog_15_method_25_code 133 = .ok (.aload_n 0, 1) := by decide +kernel
theorem d_MO_word_134 : decode prog_15_method_25_code 134 = .ok (.getfield 287, 3) := by decide +kernel
theorem d_MO_word_137 : decode prog_15_method_25_code 137 = .ok (.ifCond .eq 17, 3) := by decide +kernel
theorem d_MO_word_140 : decode prog_15_method_25_code 140 = .ok (.iload_n 1, 1) := by decide +kernel
theorem d_MO_word_141 : decode prog_15_method_25_code 141 = .ok (.iconst 1, 1) := by decide +kernel
theorem d_MO_word_142 : decode prog_15_method_25_code 142 = .ok (.bipush 12, 2) := by decide +kernel
theorem d_MO_word_144 : decode prog_15_method_25_code 144 = .ok (.invokestatic 182, 3) := by decide +kernel
theorem d_MO_word_147 : decode prog_15_method_25_code 147 = .ok (.ifCond .eq 7, 3) := by decide +kernel
theorem d_MO_word_150 : decode prog_15_method_25_code 150 = .ok (.iconst 1, 1) := by decide +kernel
theorem d_MO_word_151 : decode prog_15_method_25_code 151 = .ok (.goto 4, 3) := by decide +kernel
theorem d_MO_word_154 : decode prog_15_method_25_code 154 = .ok (.iconst 0, 1) := by decide +kernel
theorem d_MO_word_155 : decode prog_15_method_25_code 155 = .ok (.putfield 287, 3) := by decide +kernel
theorem d_MO_word_158 : decode prog_15_method_25_code 158 = .ok (.return_, 1) := by decide +kernel
theorem d_MO_opens_0 : decode prog_15_method_28_code 0 = .ok (.aload_n 0, 1) := by decide +kernel
theorem d_MO_opens_1 : decode prog_15_method_28_code 1 = .ok (.getfield 146, 3) := by decide +kernel
theorem d_MO_opens_4 : decode prog_15_method_28_code 4 = .ok (.aload_n 0, 1) := by decide +kernel
theorem d_MO_opens_5 : decode prog_15_method_28_code 5 = .ok (.getfield 301, 3) := by decide +kernel
theorem d_MO_opens_8 : decode prog_15_method_28_code 8 = .ok (.iload_n 1, 1) := by decide +kernel
theorem d_MO_opens_9 : decode prog_15_method_28_code 9 = .ok (.iastore, 1) := by decide +kernel
theorem d_MO_opens_10 : decode prog_15_method_28_code 10 = .ok (.aload_n 0, 1) := by decide +kernel
theorem d_MO_opens_11 : decode prog_15_method_28_code 11 = .ok (.getfield 149, 3) := by decide +kernel
theorem d_MO_opens_14 : decode prog_15_method_28_code 14 = .ok (.aload_n 0, 1) := by decide +kernel
theorem d_MO_opens_15 : decode prog_15_method_28_code 15 = .ok (.getfield 301, 3) := by decide +kernel
theorem d_MO_opens_18 : decode prog_15_method_28_code 18 = .ok (.iconst 0, 1) := by decide +kernel
theorem d_MO_opens_19 : decode prog_15_method_28_code 19 = .ok (.iastore, 1) := by decide +kernel
theorem d_MO_opens_20 : decode prog_15_method_28_code 20 = .ok (.aload_n 0, 1) := by decide +kernel
theorem d_MO_opens_21 : decode prog_15_method_28_code 21 = .ok (.getfield 152, 3) := by decide +kernel
theorem d_MO_opens_24 : decode prog_15_method_28_code 24 = .ok (.aload_n 0, 1) := by decide +kernel
theorem d_MO_opens_25 : decode prog_15_method_28_code 25 = .ok (.getfield 301, 3) := by decide +kernel
theorem d_MO_opens_28 : decode prog_15_method_28_code 28 = .ok (.iconst 0, 1) := by decide +kernel
theorem d_MO_opens_29 : decode prog_15_method_28_code 29 = .ok (.iastore, 1) := by decide +kernel
theorem d_MO_opens_30 : decode prog_15_method_28_code 30 = .ok (.aload_n 0, 1) := by decide +kernel
theorem d_MO_opens_31 : decode prog_15_method_28_code 31 = .ok (.getfield 155, 3) := by decide +kernel
theorem d_MO_opens_34 : decode prog_15_method_28_code 34 = .ok (.aload_n 0, 1) := by decide +kernel
theorem d_MO_opens_35 : decode prog_15_method_28_code 35 = .ok (.getfield 301, 3) := by decide +kernel
theorem d_MO_opens_38 : decode prog_15_method_28_code 38 = .ok (.iconst 0, 1) := by decide +kernel
theorem d_MO_opens_39 : decode prog_15_method_28_code 39 = .ok (.iastore, 1) := by decide +kernel
theorem d_MO_opens_40 : decode prog_15_method_28_code 40 = .ok (.aload_n 0, 1) := by decide +kernel
theorem d_MO_opens_41 : decode prog_15_method_28_code 41 = .ok (.dup, 1) := by decide +kernel
theorem d_MO_opens_42 : decode prog_15_method_28_code 42 = .ok (.getfield 301, 3) := by decide +kernel
theorem d_MO_opens_45 : decode prog_15_method_28_code 45 = .ok (.iconst 1, 1) := by decide +kernel
theorem d_MO_opens_46 : decode prog_15_method_28_code 46 = .ok (.iadd, 1) := by decide +kernel
theorem d_MO_opens_47 : decode prog_15_method_28_code 47 = .ok (.putfield 301, 3) := by decide +kernel
theorem d_MO_opens_50 : decode prog_15_method_28_code 50 = .ok (.return_, 1) := by decide +kernel
theorem d_MO_numberHere_0 : decode prog_15_method_30_code 0 = .ok (.iconst 0, 1) := by decide +kernel
theorem d_MO_numberHere_1 : decode prog_15_method_30_code 1 = .ok (.istore_n 1, 1) := by decide +kernel
theorem d_MO_numberHere_2 : decode prog_15_method_30_code 2 = .ok (.iconst 0, 1) := by decide +kernel
theorem d_MO_numberHere_3 : decode prog_15_method_30_code 3 = .ok (.istore_n 2, 1) := by decide +kernel
theorem d_MO_numberHere_4 : decode prog_15_method_30_code 4 = .ok (.aload_n 0, 1) := by decide +kernel
theorem d_MO_numberHere_5 : decode prog_15_method_30_code 5 = .ok (.invokevirtual 281, 3) := by decide +kernel
theorem d_MO_numberHere_8 : decode prog_15_method_30_code 8 = .ok (.invokestatic 203, 3) := by decide +kernel
theorem d_MO_numberHere_11 : decode prog_15_method_30_code 11 = .ok (.ifCond .eq 42, 3) := by decide +kernel
theorem d_MO_numberHere_14 : decode prog_15_method_30_code 14 = .ok (.iload_n 2, 1) := by decide +kernel
theorem d_MO_numberHere_15 : decode prog_15_method_30_code 15 = .ok (.bipush 9, 2) := by decide +kernel
theorem d_MO_numberHere_17 : decode prog_15_method_30_code 17 = .ok (.if_icmp .ge 18, 3) := by decide +kernel
theorem d_MO_numberHere_20 : decode prog_15_method_30_code 20 = .ok (.bipush 10, 2) := by decide +kernel
theorem d_MO_numberHere_22 : decode prog_15_method_30_code 22 = .ok (.iload_n 1, 1) := by decide +kernel
theorem d_MO_numberHere_23 : decode prog_15_method_30_code 23 = .ok (.imul, 1) := by decide +kernel
theorem d_MO_numberHere_24 : decode prog_15_method_30_code 24 = .ok (.aload_n 0, 1) := by decide +kernel
theorem d_MO_numberHere_25 : decode prog_15_method_30_code 25 = .ok (.invokevirtual 281, 3) := by decide +kernel
theorem d_MO_numberHere_28 : decode prog_15_method_30_code 28 = .ok (.iadd, 1) := by decide +kernel
theorem d_MO_numberHere_29 : decode prog_15_method_30_code 29 = .ok (.bipush 48, 2) := by decide +kernel
theorem d_MO_numberHere_31 : decode prog_15_method_30_code 31 = .ok (.isub, 1) := by decide +kernel
theorem d_MO_numberHere_32 : decode prog_15_method_30_code 32 = .ok (.goto 4, 3) := by decide +kernel
theorem d_MO_numberHere_35 : decode prog_15_method_30_code 35 = .ok (.iload_n 1, 1) := by decide +kernel
theorem d_MO_numberHere_36 : decode prog_15_method_30_code 36 = .ok (.istore_n 1, 1) := by decide +kernel
theorem d_MO_numberHere_37 : decode prog_15_method_30_code 37 = .ok (.iinc 2 1, 3) := by decide +kernel
theorem d_MO_numberHere_40 : decode prog_15_method_30_code 40 = .ok (.aload_n 0, 1) := by decide +kernel
theorem d_MO_numberHere_41 : decode prog_15_method_30_code 41 = .ok (.dup, 1) := by decide +kernel
theorem d_MO_numberHere_42 : decode prog_15_method_30_code 42 = .ok (.getfield 278, 3) := by decide +kernel
theorem d_MO_numberHere_45 : decode prog_15_method_30_code 45 = .ok (.iconst 1, 1) := by decide +kernel
theorem d_MO_numberHere_46 : decode prog_15_method_30_code 46 = .ok (.iadd, 1) := by decide +kernel
theorem d_MO_numberHere_47 : decode prog_15_method_30_code 47 = .ok (.putfield 278, 3) := by decide +kernel
theorem d_MO_numberHere_50 : decode prog_15_method_30_code 50 = .ok (.goto (-46), 3) := by decide +kernel
theorem d_MO_numberHere_53 : decode prog_15_method_30_code 53 = .ok (.aload_n 0, 1) := by decide +kernel
theorem d_MO_numberHere_54 : decode prog_15_method_30_code 54 = .ok (.aload_n 0, 1) := by decide +kernel
theorem d_MO_numberHere_55 : decode prog_15_method_30_code 55 = .ok (.getfield 287, 3) := by decide +kernel
theorem d_MO_numberHere_58 : decode prog_15_method_30_code 58 = .ok (.ifCond .eq 23, 3) := by decide +kernel
theorem d_MO_numberHere_61 : decode prog_15_method_30_code 61 = .ok (.iload_n 2, 1) := by decide +kernel
theorem d_MO_numberHere_62 : decode prog_15_method_30_code 62 = .ok (.bipush 10, 2) := by decide +kernel
theorem d_MO_numberHere_64 : decode prog_15_method_30_code 64 = .ok (.if_icmp .ge 17, 3) := by decide +kernel
theorem d_MO_numberHere_67 : decode prog_15_method_30_code 67 = .ok (.aload_n 0, 1) := by decide +kernel
theorem d_MO_numberHere_68 : decode prog_15_method_30_code 68 = .ok (.invokevirtual 281, 3) := by decide +kernel
theorem d_MO_numberHere_71 : decode prog_15_method_30_code 71 = .ok (.invokestatic 234, 3) := by decide +kernel
theorem d_MO_numberHere_74 : decode prog_15_method_30_code 74 = .ok (.ifCond .ne 7, 3) := by decide +kernel
theorem d_MO_numberHere_77 : decode prog_15_method_30_code 77 = .ok (.iconst 1, 1) := by decide +kernel
theorem d_MO_numberHere_78 : decode prog_15_method_30_code 78 = .ok (.goto 4, 3) := by decide +kernel
theorem d_MO_numberHere_81 : decode prog_15_method_30_code 81 = .ok (.iconst 0, 1) := by decide +kernel
theorem d_MO_numberHere_82 : decode prog_15_method_30_code 82 = .ok (.putfield 287, 3) := by decide +kernel
theorem d_MO_numberHere_85 : decode prog_15_method_30_code 85 = .ok (.iload_n 1, 1) := by decide +kernel
theorem d_MO_numberHere_86 : decode prog_15_method_30_code 86 = .ok (.ireturn, 1) := by decide +kernel
theorem d_MO_constantOf_0 : decode prog_15_method_27_code 0 = .ok (.iconst (-1), 1) := by decide +kernel
theorem d_MO_constantOf_1 : decode prog_15_method_27_code 1 = .ok (.istore 5, 2) := by decide +kernel
theorem d_MO_constantOf_3 : decode prog_15_method_27_code 3 = .ok (.iconst 0, 1) := by decide +kernel
theorem d_MO_constantOf_4 : decode prog_15_method_27_code 4 = .ok (.istore 6, 2) := by decide +kernel
theorem d_MO_constantOf_6 : decode prog_15_method_27_code 6 = .ok (.iload 6, 2) := by decide +kernel
theorem d_MO_constantOf_8 : decode prog_15_method_27_code 8 = .ok (.aload_n 0, 1) := by decide +kernel
theorem d_MO_constantOf_9 : decode prog_15_method_27_code 9 = .ok (.getfield 298, 3) := by decide +kernel
theorem d_MO_constantOf_12 : decode prog_15_method_27_code 12 = .ok (.if_icmp .ge 42, 3) := by decide +kernel
theorem d_MO_constantOf_15 : decode prog_15_method_27_code 15 = .ok (.aload_n 0, 1) := by decide +kernel
theorem d_MO_constantOf_16 : decode prog_15_method_27_code 16 = .ok (.getfield 57, 3) := by decide +kernel
theorem d_MO_constantOf_19 : decode prog_15_method_27_code 19 = .ok (.iload 6, 2) := by decide +kernel
theorem d_MO_constantOf_21 : decode prog_15_method_27_code 21 = .ok (.laload, 1) := by decide +kernel
theorem d_MO_constantOf_22 : decode prog_15_method_27_code 22 = .ok (.lload_n 1, 1) := by decide +kernel
theorem d_MO_constantOf_23 : decode prog_15_method_27_code 23 = .ok (.lcmp, 1) := by decide +kernel
theorem d_MO_constantOf_24 : decode prog_15_method_27_code 24 = .ok (.ifCond .ne 20, 3) := by decide +kernel
theorem d_MO_constantOf_27 : decode prog_15_method_27_code 27 = .ok (.aload_n 0, 1) := by decide +kernel
theorem d_MO_constantOf_28 : decode prog_15_method_27_code 28 = .ok (.getfield 60, 3) := by decide +kernel
theorem d_MO_constantOf_31 : decode prog_15_method_27_code 31 = .ok (.iload 6, 2) := by decide +kernel
theorem d_MO_constantOf_33 : decode prog_15_method_27_code 33 = .ok (.laload, 1) := by decide +kernel
theorem d_MO_constantOf_34 : decode prog_15_method_27_code 34 = .ok (.lload_n 3, 1) := by decide +kernel
theorem d_MO_constantOf_35 : decode prog_15_method_27_code 35 = .ok (.lcmp, 1) := by decide +kernel
theorem d_MO_constantOf_36 : decode prog_15_method_27_code 36 = .ok (.ifCond .ne 8, 3) := by decide +kernel
theorem d_MO_constantOf_39 : decode prog_15_method_27_code 39 = .ok (.iload 6, 2) := by decide +kernel
theorem d_MO_constantOf_41 : decode prog_15_method_27_code 41 = .ok (.goto 5, 3) := by decide +kernel
theorem d_MO_constantOf_44 : decode prog_15_method_27_code 44 = .ok (.iload 5, 2) := by decide +kernel
theorem d_MO_constantOf_46 : decode prog_15_method_27_code 46 = .ok (.istore 5, 2) := by decide +kernel
theorem d_MO_constantOf_48 : decode prog_15_method_27_code 48 = .ok (.iinc 6 1, 3) := by decide +kernel
theorem d_MO_constantOf_51 : decode prog_15_method_27_code 51 = .ok (.goto (-45), 3) := by decide +kernel
theorem d_MO_constantOf_54 : decode prog_15_method_27_code 54 = .ok (.iload 5, 2) := by decide +kernel
theorem d_MO_constantOf_56 : decode prog_15_method_27_code 56 = .ok (.ireturn, 1) := by decide +kernel
theorem d_MO_met_0 : decode prog_15_method_29_code 0 = .ok (.aload_n 0, 1) := by decide +kernel
theorem d_MO_met_1 : decode prog_15_method_29_code 1 = .ok (.aload_n 0, 1) := by decide +kernel
theorem d_MO_met_2 : decode prog_15_method_29_code 2 = .ok (.getfield 304, 3) := by decide +kernel
theorem d_MO_met_5 : decode prog_15_method_29_code 5 = .ok (.ifCond .ne 7, 3) := by decide +kernel
theorem d_MO_met_8 : decode prog_15_method_29_code 8 = .ok (.iload_n 1, 1) := by decide +kernel
theorem d_MO_met_9 : decode prog_15_method_29_code 9 = .ok (.goto 7, 3) := by decide +kernel
theorem d_MO_met_12 : decode prog_15_method_29_code 12 = .ok (.aload_n 0, 1) := by decide +kernel
theorem d_MO_met_13 : decode prog_15_method_29_code 13 = .ok (.getfield 304, 3) := by decide +kernel
theorem d_MO_met_16 : decode prog_15_method_29_code 16 = .ok (.putfield 304, 3) := by decide +kernel
theorem d_MO_met_19 : decode prog_15_method_29_code 19 = .ok (.return_, 1) := by decide +kernel
theorem d_MO_divided_0 : decode prog_15_method_31_code 0 = .ok (.iload_n 2, 1) := by decide +kernel
theorem d_MO_divided_1 : decode prog_15_method_31_code 1 = .ok (.ifCond .ne 10, 3) := by decide +kernel
theorem d_MO_divided_4 : decode prog_15_method_31_code 4 = .ok (.aload_n 0, 1) := by decide +kernel
theorem d_MO_divided_5 : decode prog_15_method_31_code 5 = .ok (.iconst 4, 1) := by decide +kernel
theorem d_MO_divided_6 : decode prog_15_method_31_code 6 = .ok (.invokevirtual 307, 3) := by decide +kernel
theorem d_MO_divided_9 : decode prog_15_method_31_code 9 = .ok (.iconst 0, 1) := by decide +kernel
theorem d_MO_divided_10 : decode prog_15_method_31_code 10 = .ok (.ireturn, 1) := by decide +kernel
theorem d_MO_divided_11 : decode prog_15_method_31_code 11 = .ok (.iload_n 3, 1) := by decide +kernel
theorem d_MO_divided_12 : decode prog_15_method_31_code 12 = .ok (.ifCond .eq 12, 3) := by decide +kernel
theorem d_MO_divided_15 : decode prog_15_method_31_code 15 = .ok (.iload_n 1, 1) := by decide +kernel
theorem d_MO_divided_16 : decode prog_15_method_31_code 16 = .ok (.i2l, 1) := by decide +kernel
theorem d_MO_divided_17 : decode prog_15_method_31_code 17 = .ok (.iload_n 2, 1) := by decide +kernel
theorem d_MO_divided_18 : decode prog_15_method_31_code 18 = .ok (.i2l, 1) := by decide +kernel
theorem d_MO_divided_19 : decode prog_15_method_31_code 19 = .ok (.lrem, 1) := by decide +kernel
theorem d_MO_divided_20 : decode prog_15_method_31_code 20 = .ok (.l2i, 1) := by decide +kernel
theorem d_MO_divided_21 : decode prog_15_method_31_code 21 = .ok (.goto 9, 3) := by decide +kernel
theorem d_MO_divided_24 : decode prog_15_method_31_code 24 = .ok (.iload_n 1, 1) := by decide +kernel
theorem d_MO_divided_25 : decode prog_15_method_31_code 25 = .ok (.i2l, 1) := by decide +kernel
theorem d_MO_divided_26 : decode prog_15_method_31_code 26 = .ok (.iload_n 2, 1) := by decide +kernel
theorem d_MO_divided_27 : decode prog_15_method_31_code 27 = .ok (.i2l, 1) := by decide +kernel
theorem d_MO_divided_28 : decode prog_15_method_31_code 28 = .ok (.ldiv, 1) := by decide +kernel
theorem d_MO_divided_29 : decode prog_15_method_31_code 29 = .ok (.l2i, 1) := by decide +kernel
theorem d_MO_divided_30 : decode prog_15_method_31_code 30 = .ok (.ireturn, 1) := by decide +kernel
theorem d_MO_product_0 : decode prog_15_method_32_code 0 = .ok (.aload_n 0, 1) := by decide +kernel
theorem d_MO_product_1 : decode prog_15_method_32_code 1 = .ok (.getfield 164, 3) := by decide +kernel
theorem d_MO_product_4 : decode prog_15_method_32_code 4 = .ok (.iload_n 1, 1) := by decide +kernel
theorem d_MO_product_5 : decode prog_15_method_32_code 5 = .ok (.iaload, 1) := by decide +kernel
theorem d_MO_product_6 : decode prog_15_method_32_code 6 = .ok (.istore_n 3, 1) := by decide +kernel
theorem d_MO_product_7 : decode prog_15_method_32_code 7 = .ok (.aload_n 0, 1) := by decide +kernel
theorem d_MO_product_8 : decode prog_15_method_32_code 8 = .ok (.getfield 155, 3) := by decide +kernel
theorem d_MO_product_11 : decode prog_15_method_32_code 11 = .ok (.iload_n 1, 1) := by decide +kernel
theorem d_MO_product_12 : decode prog_15_method_32_code 12 = .ok (.iaload, 1) := by decide +kernel
theorem d_MO_product_13 : decode prog_15_method_32_code 13 = .ok (.bipush 42, 2) := by decide +kernel
theorem d_MO_product_15 : decode prog_15_method_32_code 15 = .ok (.if_icmp .ne 9, 3) := by decide +kernel
theorem d_MO_product_18 : decode prog_15_method_32_code 18 = .ok (.iload_n 3, 1) := by decide +kernel
theorem d_MO_product_19 : decode prog_15_method_32_code 19 = .ok (.iload_n 2, 1) := by decide +kernel
theorem d_MO_product_20 : decode prog_15_method_32_code 20 = .ok (.imul, 1) := by decide +kernel
theorem d_MO_product_21 : decode prog_15_method_32_code 21 = .ok (.goto 46, 3) := by decide +kernel
theorem d_MO_product_24 : decode prog_15_method_32_code 24 = .ok (.aload_n 0, 1) := by decide +kernel
theorem d_MO_product_25 : decode prog_15_method_32_code 25 = .ok (.getfield 155, 3) := by decide +kernel
theorem d_MO_product_28 : decode prog_15_method_32_code 28 = .ok (.iload_n 1, 1) := by decide +kernel
theorem d_MO_product_29 : decode prog_15_method_32_code 29 = .ok (.iaload, 1) := by decide +kernel
theorem d_MO_product_30 : decode prog_15_method_32_code 30 = .ok (.bipush 47, 2) := by decide +kernel
theorem d_MO_product_32 : decode prog_15_method_32_code 32 = .ok (.if_icmp .ne 13, 3) := by decide +kernel
theorem d_MO_product_35 : decode prog_15_method_32_code 35 = .ok (.aload_n 0, 1) := by decide +kernel
theorem d_MO_product_36 : decode prog_15_method_32_code 36 = .ok (.iload_n 3, 1) := by decide +kernel
theorem d_MO_product_37 : decode prog_15_method_32_code 37 = .ok (.iload_n 2, 1) := by decide +kernel
theorem d_MO_product_38 : decode prog_15_method_32_code 38 = .ok (.iconst 0, 1) := by decide +kernel
theorem d_MO_product_39 : decode prog_15_method_32_code 39 = .ok (.invokevirtual 310, 3) := by decide +kernel
theorem d_MO_product_42 : decode prog_15_method_32_code 42 = .ok (.goto 25, 3) := by decide +kernel
theorem d_MO_product_45 : decode prog_15_method_32_code 45 = .ok (.aload_n 0, 1) := by decide +kernel
theorem d_MO_product_46 : decode prog_15_method_32_code 46 = .ok (.getfield 155, 3) := by decide +kernel
theorem d_MO_product_49 : decode prog_15_method_32_code 49 = .ok (.iload_n 1, 1) := by decide +kernel
theorem d_MO_product_50 : decode prog_15_method_32_code 50 = .ok (.iaload, 1) := by decide +kernel
theorem d_MO_product_51 : decode prog_15_method_32_code 51 = .ok (.bipush 37, 2) := by decide +kernel
theorem d_MO_product_53 : decode prog_15_method_32_code 53 = .ok (.if_icmp .ne 13, 3) := by decide +kernel
theorem d_MO_product_56 : decode prog_15_method_32_code 56 = .ok (.aload_n 0, 1) := by decide +kernel
theorem d_MO_product_57 : decode prog_15_method_32_code 57 = .ok (.iload_n 3, 1) := by decide +kernel
theorem d_MO_product_58 : decode prog_15_method_32_code 58 = .ok (.iload_n 2, 1) := by decide +kernel
theorem d_MO_product_59 : decode prog_15_method_32_code 59 = .ok (.iconst 1, 1) := by decide +kernel
theorem d_MO_product_60 : decode prog_15_method_32_code 60 = .ok (.invokevirtual 310, 3) := by decide +kernel
theorem d_MO_product_63 : decode prog_15_method_32_code 63 = .ok (.goto 4, 3) := by decide +kernel
theorem d_MO_product_66 : decode prog_15_method_32_code 66 = .ok (.iload_n 2, 1) := by decide +kernel
theorem d_MO_product_67 : decode prog_15_method_32_code 67 = .ok (.ireturn, 1) := by decide +kernel
theorem d_MO_sum_0 : decode prog_15_method_33_code 0 = .ok (.aload_n 0, 1) := by decide +kernel
theorem d_MO_sum_1 : decode prog_15_method_33_code 1 = .ok (.getfield 152, 3) := by decide +kernel
theorem d_MO_sum_4 : decode prog_15_method_33_code 4 = .ok (.iload_n 1, 1) := by decide +kernel
theorem d_MO_sum_5 : decode prog_15_method_33_code 5 = .ok (.iaload, 1) := by decide +kernel
theorem d_MO_sum_6 : decode prog_15_method_33_code 6 = .ok (.bipush 43, 2) := by decide +kernel
theorem d_MO_sum_8 : decode prog_15_method_33_code 8 = .ok (.if_icmp .ne 14, 3) := by decide +kernel
theorem d_MO_sum_11 : decode prog_15_method_33_code 11 = .ok (.aload_n 0, 1) := by decide +kernel
theorem d_MO_sum_12 : decode prog_15_method_33_code 12 = .ok (.getfield 161, 3) := by decide +kernel
theorem d_MO_sum_15 : decode prog_15_method_33_code 15 = .ok (.iload_n 1, 1) := by decide +kernel
theorem d_MO_sum_16 : decode prog_15_method_33_code 16 = .ok (.iaload, 1) := by decide +kernel
theorem d_MO_sum_17 : decode prog_15_method_33_code 17 = .ok (.iload_n 2, 1) := by decide +kernel
theorem d_MO_sum_18 : decode prog_15_method_33_code 18 = .ok (.iadd, 1) := by decide +kernel
theorem d_MO_sum_19 : decode prog_15_method_33_code 19 = .ok (.goto 26, 3) := by decide +kernel
theorem d_MO_sum_22 : decode prog_15_method_33_code 22 = .ok (.aload_n 0, 1) := by decide +kernel
theorem d_MO_sum_23 : decode prog_15_method_33_code 23 = .ok (.getfield 152, 3) := by decide +kernel
theorem d_MO_sum_26 : decode prog_15_method_33_code 26 = .ok (.iload_n 1, 1) := by decide +kernel
theorem d_MO_sum_27 : decode prog_15_method_33_code 27 = .ok (.iaload, 1) := by decide +kernel
theorem d_MO_sum_28 : decode prog_15_method_33_code 28 = .ok (.bipush 45, 2) := by decide +kernel
theorem d_MO_sum_30 : decode prog_15_method_33_code 30 = .ok (.if_icmp .ne 14, 3) := by decide +kernel
theorem d_MO_sum_33 : decode prog_15_method_33_code 33 = .ok (.aload_n 0, 1) := by decide +kernel
theorem d_MO_sum_34 : decode prog_15_method_33_code 34 = .ok (.getfield 161, 3) := by decide +kernel
theorem d_MO_sum_37 : decode prog_15_method_33_code 37 = .ok (.iload_n 1, 1) := by decide +kernel
theorem d_MO_sum_38 : decode prog_15_method_33_code 38 = .ok (.iaload, 1) := by decide +kernel
theorem d_MO_sum_39 : decode prog_15_method_33_code 39 = .ok (.iload_n 2, 1) := by decide +kernel
theorem d_MO_sum_40 : decode prog_15_method_33_code 40 = .ok (.isub, 1) := by decide +kernel
theorem d_MO_sum_41 : decode prog_15_method_33_code 41 = .ok (.goto 4, 3) := by decide +kernel
theorem d_MO_sum_44 : decode prog_15_method_33_code 44 = .ok (.iload_n 2, 1) := by decide +kernel
theorem d_MO_sum_45 : decode prog_15_method_33_code 45 = .ok (.ireturn, 1) := by decide +kernel
theorem d_MO_comparison_0 : decode prog_15_method_35_code 0 = .ok (.aload_n 0, 1) := by decide +kernel
theorem d_MO_comparison_1 : decode prog_15_method_35_code 1 = .ok (.invokevirtual 284, 3) := by decide +kernel
theorem d_MO_comparison_4 : decode prog_15_method_35_code 4 = .ok (.aload_n 0, 1) := by decide +kernel
theorem d_MO_comparison_5 : decode prog_15_method_35_code 5 = .ok (.invokevirtual 281, 3) := by decide +kernel
theorem d_MO_comparison_8 : decode prog_15_method_35_code 8 = .ok (.istore_n 1, 1) := by decide +kernel
theorem d_MO_comparison_9 : decode prog_15_method_35_code 9 = .ok (.aload_n 0, 1) := by decide +kernel
theorem d_MO_comparison_10 : decode prog_15_method_35_code 10 = .ok (.getfield 278, 3) := by decide +kernel
theorem d_MO_comparison_13 : decode prog_15_method_35_code 13 = .ok (.iconst 1, 1) := by decide +kernel
theorem d_MO_comparison_14 : decode prog_15_method_35_code 14 = .ok (.iadd, 1) := by decide +kernel
theorem d_MO_comparison_15 : decode prog_15_method_35_code 15 = .ok (.aload_n 0, 1) := by decide +kernel
theorem d_MO_comparison_16 : decode prog_15_method_35_code 16 = .ok (.getfield 254, 3) := by decide +kernel
theorem d_MO_comparison_19 : decode prog_15_method_35_code 19 = .ok (.if_icmp .ge 17, 3) := by decide +kernel
theorem d_MO_comparison_22 : decode prog_15_method_35_code 22 = .ok (.aload_n 0, 1) := by decide +kernel
theorem d_MO_comparison_23 : decode prog_15_method_35_code 23 = .ok (.getfield 143, 3) := by decide +kernel
theorem d_MO_comparison_26 : decode prog_15_method_35_code 26 = .ok (.aload_n 0, 1) := by decide +kernel
theorem d_MO_comparison_27 : decode prog_15_method_35_code 27 = .ok (.getfield 278, 3) := by decide +kernel
theorem d_MO_comparison_30 : decode prog_15_method_35_code 30 = .ok (.iconst 1, 1) := by decide +kernel
theorem d_MO_comparison_31 : decode prog_15_method_35_code 31 = .ok (.iadd, 1) := by decide +kernel
theorem d_MO_comparison_32 : decode prog_15_method_35_code 32 = .ok (.iaload, 1) := by decide +kernel
theorem d_MO_comparison_33 : decode prog_15_method_35_code 33 = .ok (.goto 4, 3) := by decide +kernel
theorem d_MO_comparison_36 : decode prog_15_method_35_code 36 = .ok (.iconst (-1), 1) := by decide +kernel
theorem d_MO_comparison_37 : decode prog_15_method_35_code 37 = .ok (.istore_n 2, 1) := by decide +kernel
theorem d_MO_comparison_38 : decode prog_15_method_35_code 38 = .ok (.iload_n 1, 1) := by decide +kernel
theorem d_MO_comparison_39 : decode prog_15_method_35_code 39 = .ok (.bipush 61, 2) := by decide +kernel
theorem d_MO_comparison_41 : decode prog_15_method_35_code 41 = .ok (.if_icmp .ne 13, 3) := by decide +kernel
theorem d_MO_comparison_44 : decode prog_15_method_35_code 44 = .ok (.iload_n 2, 1) := by decide +kernel
theorem d_MO_comparison_45 : decode prog_15_method_35_code 45 = .ok (.bipush 61, 2) := by decide +kernel
theorem d_MO_comparison_47 : decode prog_15_method_35_code 47 = .ok (.if_icmp .ne 7, 3) := by decide +kernel
theorem d_MO_comparison_50 : decode prog_15_method_35_code 50 = .ok (.iconst 1, 1) := by decide +kernel
theorem d_MO_comparison_51 : decode prog_15_method_35_code 51 = .ok (.goto 40, 3) := by decide +kernel
theorem d_MO_comparison_54 : decode prog_15_method_35_code 54 = .ok (.iload_n 1, 1) := by decide +kernel
theorem d_MO_comparison_55 : decode prog_15_method_35_code 55 = .ok (.bipush 33, 2) := by decide +kernel
theorem d_MO_comparison_57 : decode prog_15_method_35_code 57 = .ok (.if_icmp .ne 13, 3) := by decide +kernel
theorem d_MO_comparison_60 : decode prog_15_method_35_code 60 = .ok (.iload_n 2, 1) := by decide +kernel
theorem d_MO_comparison_61 : decode prog_15_method_35_code 61 = .ok (.bipush 61, 2) := by decide +kernel
theorem d_MO_comparison_63 : decode prog_15_method_35_code 63 = .ok (.if_icmp .ne 7, 3) := by decide +kernel
theorem d_MO_comparison_66 : decode prog_15_method_35_code 66 = .ok (.iconst 2, 1) := by decide +kernel
theorem d_MO_comparison_67 : decode prog_15_method_35_code 67 = .ok (.goto 24, 3) := by decide +kernel
theorem d_MO_comparison_70 : decode prog_15_method_35_code 70 = .ok (.iload_n 1, 1) := by decide +kernel
theorem d_MO_comparison_71 : decode prog_15_method_35_code 71 = .ok (.bipush 60, 2) := by decide +kernel
theorem d_MO_comparison_73 : decode prog_15_method_35_code 73 = .ok (.if_icmp .ne 17, 3) := by decide +kernel
theorem d_MO_comparison_76 : decode prog_15_method_35_code 76 = .ok (.iload_n 2, 1) := by decide +kernel
theorem d_MO_comparison_77 : decode prog_15_method_35_code 77 = .ok (.bipush 61, 2) := by decide +kernel
theorem d_MO_comparison_79 : decode prog_15_method_35_code 79 = .ok (.if_icmp .ne 7, 3) := by decide +kernel
theorem d_MO_comparison_82 : decode prog_15_method_35_code 82 = .ok (.iconst 4, 1) := by decide +kernel
theorem d_MO_comparison_83 : decode prog_15_method_35_code 83 = .ok (.goto 8, 3) := by decide +kernel
theorem d_MO_comparison_86 : decode prog_15_method_35_code 86 = .ok (.iconst 3, 1) := by decide +kernel
theorem d_MO_comparison_87 : decode prog_15_method_35_code 87 = .ok (.goto 4, 3) := by decide +kernel
theorem d_MO_comparison_90 : decode prog_15_method_35_code 90 = .ok (.iconst 0, 1) := by decide +kernel
theorem d_MO_comparison_91 : decode prog_15_method_35_code 91 = .ok (.istore_n 3, 1) := by decide +kernel
theorem d_MO_comparison_92 : decode prog_15_method_35_code 92 = .ok (.aload_n 0, 1) := by decide +kernel
theorem d_MO_comparison_93 : decode prog_15_method_35_code 93 = .ok (.iload_n 3, 1) := by decide +kernel
theorem d_MO_comparison_94 : decode prog_15_method_35_code 94 = .ok (.ifCond .ne 10, 3) := by decide +kernel
theorem d_MO_comparison_97 : decode prog_15_method_35_code 97 = .ok (.aload_n 0, 1) := by decide +kernel
theorem d_MO_comparison_98 : decode prog_15_method_35_code 98 = .ok (.getfield 278, 3) := by decide +kernel
theorem d_MO_comparison_101 : decode prog_15_method_35_code 101 = .ok (.goto 23, 3) := by decide +kernel
theorem d_MO_comparison_104 : decode prog_15_method_35_code 104 = .ok (.iload_n 3, 1) := by decide +kernel
theorem d_MO_comparison_105 : decode prog_15_method_35_code 105 = .ok (.iconst 3, 1) := by decide +kernel
theorem d_MO_comparison_106 : decode prog_15_method_35_code 106 = .ok (.if_icmp .ne 12, 3) := by decide +kernel
theorem d_MO_comparison_109 : decode prog_15_method_35_code 109 = .ok (.aload_n 0, 1) := by decide +kernel
theorem d_MO_comparison_110 : decode prog_15_method_35_code 110 = .ok (.getfield 278, 3) := by decide +kernel
theorem d_MO_comparison_113 : decode prog_15_method_35_code 113 = .ok (.iconst 1, 1) := by decide +kernel
theorem d_MO_comparison_114 : decode prog_15_method_35_code 114 = .ok (.iadd, 1) := by decide +kernel
theorem d_MO_comparison_115 : decode prog_15_method_35_code 115 = .ok (.goto 9, 3) := by decide +kernel
theorem d_MO_comparison_118 : decode prog_15_method_35_code 118 = .ok (.aload_n 0, 1) := by decide +kernel
theorem d_MO_comparison_119 : decode prog_15_method_35_code 119 = .ok (.getfield 278, 3) := by decide +kernel
theorem d_MO_comparison_122 : decode prog_15_method_35_code 122 = .ok (.iconst 2, 1) := by decide +kernel
theorem d_MO_comparison_123 : decode prog_15_method_35_code 123 = .ok (.iadd, 1) := by decide +kernel
theorem d_MO_comparison_124 : decode prog_15_method_35_code 124 = .ok (.putfield 278, 3) := by decide +kernel
theorem d_MO_comparison_127 : decode prog_15_method_35_code 127 = .ok (.iload_n 3, 1) := by decide +kernel
theorem d_MO_comparison_128 : decode prog_15_method_35_code 128 = .ok (.ireturn, 1) := by decide +kernel
theorem d_MO_compared_0 : decode prog_15_method_34_code 0 = .ok (.iload_n 0, 1) := by decide +kernel
theorem d_MO_compared_1 : decode prog_15_method_34_code 1 = .ok (.iconst 1, 1) := by decide +kernel
theorem d_MO_compared_2 : decode prog_15_method_34_code 2 = .ok (.if_icmp .ne 16, 3) := by decide +kernel
theorem d_MO_compared_5 : decode prog_15_method_34_code 5 = .ok (.iload_n 1, 1) := by decide +kernel
theorem d_MO_compared_6 : decode prog_15_method_34_code 6 = .ok (.iload_n 2, 1) := by decide +kernel
theorem d_MO_compared_7 : decode prog_15_method_34_code 7 = .ok (.if_icmp .ne 7, 3) := by decide +kernel
theorem d_MO_compared_10 : decode prog_15_method_34_code 10 = .ok (.iconst 1, 1) := by decide +kernel
theorem d_MO_compared_11 : decode prog_15_method_34_code 11 = .ok (.goto 53, 3) := by decide +kernel
theorem d_MO_compared_14 : decode prog_15_method_34_code 14 = .ok (.iconst 0, 1) := by decide +kernel
theorem d_MO_compared_15 : decode prog_15_method_34_code 15 = .ok (.goto 49, 3) := by decide +kernel
theorem d_MO_compared_18 : decode prog_15_method_34_code 18 = .ok (.iload_n 0, 1) := by decide +kernel
theorem d_MO_compared_19 : decode prog_15_method_34_code 19 = .ok (.iconst 2, 1) := by decide +kernel
theorem d_MO_compared_20 : decode prog_15_method_34_code 20 = .ok (.if_icmp .ne 16, 3) := by decide +kernel
theorem d_MO_compared_23 : decode prog_15_method_34_code 23 = .ok (.iload_n 1, 1) := by decide +kernel
theorem d_MO_compared_24 : decode prog_15_method_34_code 24 = .ok (.iload_n 2, 1) := by decide +kernel
theorem d_MO_compared_25 : decode prog_15_method_34_code 25 = .ok (.if_icmp .eq 7, 3) := by decide +kernel
theorem d_MO_compared_28 : decode prog_15_method_34_code 28 = .ok (.iconst 1, 1) := by decide +kernel
theorem d_MO_compared_29 : decode prog_15_method_34_code 29 = .ok (.goto 35, 3) := by decide +kernel
theorem d_MO_compared_32 : decode prog_15_method_34_code 32 = .ok (.iconst 0, 1) := by decide +kernel
theorem d_MO_compared_33 : decode prog_15_method_34_code 33 = .ok (.goto 31, 3) := by decide +kernel
theorem d_MO_compared_36 : decode prog_15_method_34_code 36 = .ok (.iload_n 0, 1) := by decide +kernel
theorem d_MO_compared_37 : decode prog_15_method_34_code 37 = .ok (.iconst 3, 1) := by decide +kernel
theorem d_MO_compared_38 : decode prog_15_method_34_code 38 = .ok (.if_icmp .ne 16, 3) := by decide +kernel
theorem d_MO_compared_41 : decode prog_15_method_34_code 41 = .ok (.iload_n 1, 1) := by decide +kernel
theorem d_MO_compared_42 : decode prog_15_method_34_code 42 = .ok (.iload_n 2, 1) := by decide +kernel
theorem d_MO_compared_43 : decode prog_15_method_34_code 43 = .ok (.if_icmp .ge 7, 3) := by decide +kernel
theorem d_MO_compared_46 : decode prog_15_method_34_code 46 = .ok (.iconst 1, 1) := by decide +kernel
theorem d_MO_compared_47 : decode prog_15_method_34_code 47 = .ok (.goto 17, 3) := by decide +kernel
theorem d_MO_compared_50 : decode prog_15_method_34_code 50 = .ok (.iconst 0, 1) := by decide +kernel
theorem d_MO_compared_51 : decode prog_15_method_34_code 51 = .ok (.goto 13, 3) := by decide +kernel
theorem d_MO_compared_54 : decode prog_15_method_34_code 54 = .ok (.iload_n 1, 1) := by decide +kernel
theorem d_MO_compared_55 : decode prog_15_method_34_code 55 = .ok (.iload_n 2, 1) := by decide +kernel
theorem d_MO_compared_56 : decode prog_15_method_34_code 56 = .ok (.if_icmp .gt 7, 3) := by decide +kernel
theorem d_MO_compared_59 : decode prog_15_method_34_code 59 = .ok (.iconst 1, 1) := by decide +kernel
theorem d_MO_compared_60 : decode prog_15_method_34_code 60 = .ok (.goto 4, 3) := by decide +kernel
theorem d_MO_compared_63 : decode prog_15_method_34_code 63 = .ok (.iconst 0, 1) := by decide +kernel
theorem d_MO_compared_64 : decode prog_15_method_34_code 64 = .ok (.ireturn, 1) := by decide +kernel
theorem d_MO_sign_0 : decode prog_15_method_24_code 0 = .ok (.aload_n 0, 1) := by decide +kernel
theorem d_MO_sign_1 : decode prog_15_method_24_code 1 = .ok (.invokevirtual 284, 3) := by decide +kernel
theorem d_MO_sign_4 : decode prog_15_method_24_code 4 = .ok (.aload_n 0, 1) := by decide +kernel
theorem d_MO_sign_5 : decode prog_15_method_24_code 5 = .ok (.aload_n 0, 1) := by decide +kernel
theorem d_MO_sign_6 : decode prog_15_method_24_code 6 = .ok (.getfield 287, 3) := by decide +kernel
theorem d_MO_sign_9 : decode prog_15_method_24_code 9 = .ok (.ifCond .eq 15, 3) := by decide +kernel
theorem d_MO_sign_12 : decode prog_15_method_24_code 12 = .ok (.aload_n 0, 1) := by decide +kernel
theorem d_MO_sign_13 : decode prog_15_method_24_code 13 = .ok (.invokevirtual 281, 3) := by decide +kernel
theorem d_MO_sign_16 : decode prog_15_method_24_code 16 = .ok (.iload_n 1, 1) := by decide +kernel
theorem d_MO_sign_17 : decode prog_15_method_24_code 17 = .ok (.if_icmp .ne 7, 3) := by decide +kernel
theorem d_MO_sign_20 : decode prog_15_method_24_code 20 = .ok (.iconst 1, 1) := by decide +kernel
theorem d_MO_sign_21 : decode prog_15_method_24_code 21 = .ok (.goto 4, 3) := by decide +kernel
theorem d_MO_sign_24 : decode prog_15_method_24_code 24 = .ok (.iconst 0, 1) := by decide +kernel
theorem d_MO_sign_25 : decode prog_15_method_24_code 25 = .ok (.putfield 287, 3) := by decide +kernel
theorem d_MO_sign_28 : decode prog_15_method_24_code 28 = .ok (.aload_n 0, 1) := by decide +kernel
theorem d_MO_sign_29 : decode prog_15_method_24_code 29 = .ok (.dup, 1) := by decide +kernel
theorem d_MO_sign_30 : decode prog_15_method_24_code 30 = .ok (.getfield 278, 3) := by decide +kernel
theorem d_MO_sign_33 : decode prog_15_method_24_code 33 = .ok (.iconst 1, 1) := by decide +kernel
theorem d_MO_sign_34 : decode prog_15_method_24_code 34 = .ok (.iadd, 1) := by decide +kernel
theorem d_MO_sign_35 : decode prog_15_method_24_code 35 = .ok (.putfield 278, 3) := by decide +kernel
theorem d_MO_sign_38 : decode prog_15_method_24_code 38 = .ok (.return_, 1) := by decide +kernel
theorem d_MO_value_0 : decode prog_15_method_36_code 0 = .ok (.aload_n 0, 1) := by decide +kernel
theorem d_MO_value_1 : decode prog_15_method_36_code 1 = .ok (.iconst 0, 1) := by decide +kernel
theorem d_MO_value_2 : decode prog_15_method_36_code 2 = .ok (.putfield 301, 3) := by decide +kernel
theorem d_MO_value_5 : decode prog_15_method_36_code 5 = .ok (.aload_n 0, 1) := by decide +kernel
theorem d_MO_value_6 : decode prog_15_method_36_code 6 = .ok (.iconst 0, 1) := by decide +kernel
theorem d_MO_value_7 : decode prog_15_method_36_code 7 = .ok (.invokevirtual 314, 3) := by decide +kernel
theorem d_MO_value_10 : decode prog_15_method_36_code 10 = .ok (.aload_n 0, 1) := by decide +kernel
theorem d_MO_value_11 : decode prog_15_method_36_code 11 = .ok (.iconst 0, 1) := by decide +kernel
theorem d_MO_value_12 : decode prog_15_method_36_code 12 = .ok (.putfield 304, 3) := by decide +kernel
theorem d_MO_value_15 : decode prog_15_method_36_code 15 = .ok (.iconst 0, 1) := by decide +kernel
theorem d_MO_value_16 : decode prog_15_method_36_code 16 = .ok (.istore_n 1, 1) := by decide +kernel
theorem d_MO_value_17 : decode prog_15_method_36_code 17 = .ok (.iconst 0, 1) := by decide +kernel
theorem d_MO_value_18 : decode prog_15_method_36_code 18 = .ok (.istore_n 2, 1) := by decide +kernel
theorem d_MO_value_19 : decode prog_15_method_36_code 19 = .ok (.aload_n 0, 1) := by decide +kernel
theorem d_MO_value_20 : decode prog_15_method_36_code 20 = .ok (.getfield 287, 3) := by decide +kernel
theorem d_MO_value_23 : decode prog_15_method_36_code 23 = .ok (.ifCond .eq 502, 3) := by decide +kernel
theorem d_MO_value_26 : decode prog_15_method_36_code 26 = .ok (.aload_n 0, 1) := by decide +kernel
theorem d_MO_value_27 : decode prog_15_method_36_code 27 = .ok (.invokevirtual 284, 3) := by decide +kernel
theorem d_MO_value_30 : decode prog_15_method_36_code 30 = .ok (.aload_n 0, 1) := by decide +kernel
theorem d_MO_value_31 : decode prog_15_method_36_code 31 = .ok (.getfield 301, 3) := by decide +kernel
theorem d_MO_value_34 : decode prog_15_method_36_code 34 = .ok (.iconst 1, 1) := by decide +kernel
theorem d_MO_value_35 : decode prog_15_method_36_code 35 = .ok (.isub, 1) := by decide +kernel
theorem d_MO_value_36 : decode prog_15_method_36_code 36 = .ok (.istore_n 3, 1) := by decide +kernel
theorem d_MO_value_37 : decode prog_15_method_36_code 37 = .ok (.iload_n 1, 1) := by decide +kernel
theorem d_MO_value_38 : decode prog_15_method_36_code 38 = .ok (.ifCond .ne 222, 3) := by decide +kernel
theorem d_MO_value_41 : decode prog_15_method_36_code 41 = .ok (.aload_n 0, 1) := by decide +kernel
theorem d_MO_value_42 : decode prog_15_method_36_code 42 = .ok (.invokevirtual 281, 3) := by decide +kernel
theorem d_MO_value_45 : decode prog_15_method_36_code 45 = .ok (.istore 4, 2) := by decide +kernel
theorem d_MO_value_47 : decode prog_15_method_36_code 47 = .ok (.iload 4, 2) := by decide +kernel
theorem d_MO_value_49 : decode prog_15_method_36_code 49 = .ok (.bipush 40, 2) := by decide +kernel
theorem d_MO_value_51 : decode prog_15_method_36_code 51 = .ok (.if_icmp .eq 10, 3) := by decide +kernel
theorem d_MO_value_54 : decode prog_15_method_36_code 54 = .ok (.iload 4, 2) := by decide +kernel
theorem d_MO_value_56 : decode prog_15_method_36_code 56 = .ok (.bipush 45, 2) := by decide +kernel
theorem d_MO_value_58 : decode prog_15_method_36_code 58 = .ok (.if_icmp .ne 57, 3) := by decide +kernel
theorem d_MO_value_61 : decode prog_15_method_36_code 61 = .ok (.aload_n 0, 1) := by decide +kernel
theorem d_MO_value_62 : decode prog_15_method_36_code 62 = .ok (.aload_n 0, 1) := by decide +kernel
theorem d_MO_value_63 : decode prog_15_method_36_code 63 = .ok (.getfield 301, 3) := by decide +kernel
theorem d_MO_value_66 : decode prog_15_method_36_code 66 = .ok (.bipush 10, 2) := by decide +kernel
theorem d_MO_value_68 : decode prog_15_method_36_code 68 = .ok (.if_icmp .gt 7, 3) := by decide +kernel
theorem d_MO_value_71 : decode prog_15_method_36_code 71 = .ok (.iconst 1, 1) := by decide +kernel
theorem d_MO_value_72 : decode prog_15_method_36_code 72 = .ok (.goto 4, 3) := by decide +kernel
theorem d_MO_value_75 : decode prog_15_method_36_code 75 = .ok (.iconst 0, 1) := by decide +kernel
theorem d_MO_value_76 : decode prog_15_method_36_code 76 = .ok (.putfield 287, 3) := by decide +kernel
theorem d_MO_value_79 : decode prog_15_method_36_code 79 = .ok (.aload_n 0, 1) := by decide +kernel
theorem d_MO_value_80 : decode prog_15_method_36_code 80 = .ok (.dup, 1) := by decide +kernel
theorem d_MO_value_81 : decode prog_15_method_36_code 81 = .ok (.getfield 278, 3) := by decide +kernel
theorem d_MO_value_84 : decode prog_15_method_36_code 84 = .ok (.iconst 1, 1) := by decide +kernel
theorem d_MO_value_85 : decode prog_15_method_36_code 85 = .ok (.iadd, 1) := by decide +kernel
theorem d_MO_value_86 : decode prog_15_method_36_code 86 = .ok (.putfield 278, 3) := by decide +kernel
theorem d_MO_value_89 : decode prog_15_method_36_code 89 = .ok (.aload_n 0, 1) := by decide +kernel
theorem d_MO_value_90 : decode prog_15_method_36_code 90 = .ok (.getfield 287, 3) := by decide +kernel
theorem d_MO_value_93 : decode prog_15_method_36_code 93 = .ok (.ifCond .eq (-74), 3) := by decide +kernel
theorem d_MO_value_96 : decode prog_15_method_36_code 96 = .ok (.aload_n 0, 1) := by decide +kernel
theorem d_MO_value_97 : decode prog_15_method_36_code 97 = .ok (.iload 4, 2) := by decide +kernel
theorem d_MO_value_99 : decode prog_15_method_36_code 99 = .ok (.bipush 40, 2) := by decide +kernel
theorem d_MO_value_101 : decode prog_15_method_36_code 101 = .ok (.if_icmp .ne 7, 3) := by decide +kernel
theorem d_MO_value_104 : decode prog_15_method_36_code 104 = .ok (.iconst 1, 1) := by decide +kernel
theorem d_MO_value_105 : decode prog_15_method_36_code 105 = .ok (.goto 4, 3) := by decide +kernel
theorem d_MO_value_108 : decode prog_15_method_36_code 108 = .ok (.iconst 2, 1) := by decide +kernel
theorem d_MO_value_109 : decode prog_15_method_36_code 109 = .ok (.invokevirtual 314, 3) := by decide +kernel
theorem d_MO_value_112 : decode prog_15_method_36_code 112 = .ok (.goto (-93), 3) := by decide +kernel
theorem d_MO_value_115 : decode prog_15_method_36_code 115 = .ok (.iload 4, 2) := by decide +kernel
theorem d_MO_value_117 : decode prog_15_method_36_code 117 = .ok (.invokestatic 203, 3) := by decide +kernel
theorem d_MO_value_120 : decode prog_15_method_36_code 120 = .ok (.ifCond .eq 13, 3) := by decide +kernel
theorem d_MO_value_123 : decode prog_15_method_36_code 123 = .ok (.aload_n 0, 1) := by decide +kernel
theorem d_MO_value_124 : decode prog_15_method_36_code 124 = .ok (.invokevirtual 317, 3) := by decide +kernel
theorem d_MO_value_127 : decode prog_15_method_36_code 127 = .ok (.istore_n 2, 1) := by decide +kernel
theorem d_MO_value_128 : decode prog_15_method_36_code 128 = .ok (.iconst 1, 1) := by decide +kernel
theorem d_MO_value_129 : decode prog_15_method_36_code 129 = .ok (.istore_n 1, 1) := by decide +kernel
theorem d_MO_value_130 : decode prog_15_method_36_code 130 = .ok (.goto (-111), 3) := by decide +kernel
theorem d_MO_value_133 : decode prog_15_method_36_code 133 = .ok (.iload 4, 2) := by decide +kernel
theorem d_MO_value_135 : decode prog_15_method_36_code 135 = .ok (.bipush 63, 2) := by decide +kernel
theorem d_MO_value_137 : decode prog_15_method_36_code 137 = .ok (.if_icmp .ne 7, 3) := by decide +kernel
theorem d_MO_value_140 : decode prog_15_method_36_code 140 = .ok (.iconst 1, 1) := by decide +kernel
theorem d_MO_value_141 : decode prog_15_method_36_code 141 = .ok (.goto 4, 3) := by decide +kernel
theorem d_MO_value_144 : decode prog_15_method_36_code 144 = .ok (.iconst 0, 1) := by decide +kernel
theorem d_MO_value_145 : decode prog_15_method_36_code 145 = .ok (.istore 5, 2) := by decide +kernel
theorem d_MO_value_147 : decode prog_15_method_36_code 147 = .ok (.aload_n 0, 1) := by decide +kernel
theorem d_MO_value_148 : decode prog_15_method_36_code 148 = .ok (.iload 5, 2) := by decide +kernel
theorem d_MO_value_150 : decode prog_15_method_36_code 150 = .ok (.ifCond .eq 12, 3) := by decide +kernel
theorem d_MO_value_153 : decode prog_15_method_36_code 153 = .ok (.aload_n 0, 1) := by decide +kernel
theorem d_MO_value_154 : decode prog_15_method_36_code 154 = .ok (.getfield 278, 3) := by decide +kernel
theorem d_MO_value_157 : decode prog_15_method_36_code 157 = .ok (.iconst 1, 1) := by decide +kernel
theorem d_MO_value_158 : decode prog_15_method_36_code 158 = .ok (.iadd, 1) := by decide +kernel
theorem d_MO_value_159 : decode prog_15_method_36_code 159 = .ok (.goto 7, 3) := by decide +kernel
theorem d_MO_value_162 : decode prog_15_method_36_code 162 = .ok (.aload_n 0, 1) := by decide +kernel
theorem d_MO_value_163 : decode prog_15_method_36_code 163 = .ok (.getfield 278, 3) := by decide +kernel
theorem d_MO_value_166 : decode prog_15_method_36_code 166 = .ok (.putfield 278, 3) := by decide +kernel
theorem d_MO_value_169 : decode prog_15_method_36_code 169 = .ok (.aload_n 0, 1) := by decide +kernel
theorem d_MO_value_170 : decode prog_15_method_36_code 170 = .ok (.invokevirtual 320, 3) := by decide +kernel
theorem d_MO_value_173 : decode prog_15_method_36_code 173 = .ok (.aload_n 0, 1) := by decide +kernel
theorem d_MO_value_174 : decode prog_15_method_36_code 174 = .ok (.getfield 287, 3) := by decide +kernel
theorem d_MO_value_177 : decode prog_15_method_36_code 177 = .ok (.ifCond .eq 18, 3) := by decide +kernel
theorem d_MO_value_180 : decode prog_15_method_36_code 180 = .ok (.aload_n 0, 1) := by decide +kernel
theorem d_MO_value_181 : decode prog_15_method_36_code 181 = .ok (.aload_n 0, 1) := by decide +kernel
theorem d_MO_value_182 : decode prog_15_method_36_code 182 = .ok (.getfield 291, 3) := by decide +kernel
theorem d_MO_value_185 : decode prog_15_method_36_code 185 = .ok (.aload_n 0, 1) := by decide +kernel
theorem d_MO_value_186 : decode prog_15_method_36_code 186 = .ok (.getfield 295, 3) := by decide +kernel
theorem d_MO_value_189 : decode prog_15_method_36_code 189 = .ok (.invokevirtual 323, 3) := by decide +kernel
theorem d_MO_value_192 : decode prog_15_method_36_code 192 = .ok (.goto 4, 3) := by decide +kernel
theorem d_MO_value_195 : decode prog_15_method_36_code 195 = .ok (.iconst (-1), 1) := by decide +kernel
theorem d_MO_value_196 : decode prog_15_method_36_code 196 = .ok (.istore 6, 2) := by decide +kernel
theorem d_MO_value_198 : decode prog_15_method_36_code 198 = .ok (.iload 5, 2) := by decide +kernel
theorem d_MO_value_200 : decode prog_15_method_36_code 200 = .ok (.ifCond .ne 20, 3) := by decide +kernel
theorem d_MO_value_203 : decode prog_15_method_36_code 203 = .ok (.aload_n 0, 1) := by decide +kernel
theorem d_MO_value_204 : decode prog_15_method_36_code 204 = .ok (.getfield 287, 3) := by decide +kernel
theorem d_MO_value_207 : decode prog_15_method_36_code 207 = .ok (.ifCond .eq 13, 3) := by decide +kernel
theorem d_MO_value_210 : decode prog_15_method_36_code 210 = .ok (.iload 6, 2) := by decide +kernel
theorem d_MO_value_212 : decode prog_15_method_36_code 212 = .ok (.ifCond .ge 8, 3) := by decide +kernel
theorem d_MO_value_215 : decode prog_15_method_36_code 215 = .ok (.aload_n 0, 1) := by decide +kernel
theorem d_MO_value_216 : decode prog_15_method_36_code 216 = .ok (.iconst 3, 1) := by decide +kernel
theorem d_MO_value_217 : decode prog_15_method_36_code 217 = .ok (.invokevirtual 307, 3) := by decide +kernel
theorem d_MO_value_220 : decode prog_15_method_36_code 220 = .ok (.iload 5, 2) := by decide +kernel
theorem d_MO_value_222 : decode prog_15_method_36_code 222 = .ok (.ifCond .eq 16, 3) := by decide +kernel
theorem d_MO_value_225 : decode prog_15_method_36_code 225 = .ok (.iload 6, 2) := by decide +kernel
theorem d_MO_value_227 : decode prog_15_method_36_code 227 = .ok (.ifCond .ge 7, 3) := by decide +kernel
theorem d_MO_value_230 : decode prog_15_method_36_code 230 = .ok (.iconst 0, 1) := by decide +kernel
theorem d_MO_value_231 : decode prog_15_method_36_code 231 = .ok (.goto 23, 3) := by decide +kernel
theorem d_MO_value_234 : decode prog_15_method_36_code 234 = .ok (.iconst 1, 1) := by decide +kernel
theorem d_MO_value_235 : decode prog_15_method_36_code 235 = .ok (.goto 19, 3) := by decide +kernel
theorem d_MO_value_238 : decode prog_15_method_36_code 238 = .ok (.iload 6, 2) := by decide +kernel
theorem d_MO_value_240 : decode prog_15_method_36_code 240 = .ok (.ifCond .ge 7, 3) := by decide +kernel
theorem d_MO_value_243 : decode prog_15_method_36_code 243 = .ok (.iconst 0, 1) := by decide +kernel
theorem d_MO_value_244 : decode prog_15_method_36_code 244 = .ok (.goto 10, 3) := by decide +kernel
theorem d_MO_value_247 : decode prog_15_method_36_code 247 = .ok (.aload_n 0, 1) := by decide +kernel
theorem d_MO_value_248 : decode prog_15_method_36_code 248 = .ok (.getfield 63, 3) := by decide +kernel
theorem d_MO_value_251 : decode prog_15_method_36_code 251 = .ok (.iload 6, 2) := by decide +kernel
theorem d_MO_value_253 : decode prog_15_method_36_code 253 = .ok (.iaload, 1) := by decide +kernel
theorem d_MO_value_254 : decode prog_15_method_36_code 254 = .ok (.istore_n 2, 1) := by decide +kernel
theorem d_MO_value_255 : decode prog_15_method_36_code 255 = .ok (.iconst 1, 1) := by decide +kernel
theorem d_MO_value_256 : decode prog_15_method_36_code 256 = .ok (.istore_n 1, 1) := by decide +kernel
theorem d_MO_value_257 : decode prog_15_method_36_code 257 = .ok (.goto (-238), 3) := by decide +kernel
theorem d_MO_value_260 : decode prog_15_method_36_code 260 = .ok (.aload_n 0, 1) := by decide +kernel
theorem d_MO_value_261 : decode prog_15_method_36_code 261 = .ok (.getfield 146, 3) := by decide +kernel
theorem d_MO_value_264 : decode prog_15_method_36_code 264 = .ok (.iload_n 3, 1) := by decide +kernel
theorem d_MO_value_265 : decode prog_15_method_36_code 265 = .ok (.iaload, 1) := by decide +kernel
theorem d_MO_value_266 : decode prog_15_method_36_code 266 = .ok (.iconst 2, 1) := by decide +kernel
theorem d_MO_value_267 : decode prog_15_method_36_code 267 = .ok (.if_icmp .ne 19, 3) := by decide +kernel
theorem d_MO_value_270 : decode prog_15_method_36_code 270 = .ok (.aload_n 0, 1) := by decide +kernel
theorem d_MO_value_271 : decode prog_15_method_36_code 271 = .ok (.dup, 1) := by decide +kernel
theorem d_MO_value_272 : decode prog_15_method_36_code 272 = .ok (.getfield 301, 3) := by decide +kernel
theorem d_MO_value_275 : decode prog_15_method_36_code 275 = .ok (.iconst 1, 1) := by decide +kernel
theorem d_MO_value_276 : decode prog_15_method_36_code 276 = .ok (.isub, 1) := by decide +kernel
theorem d_MO_value_277 : decode prog_15_method_36_code 277 = .ok (.putfield 301, 3) := by decide +kernel
theorem d_MO_value_280 : decode prog_15_method_36_code 280 = .ok (.iload_n 2, 1) := by decide +kernel
theorem d_MO_value_281 : decode prog_15_method_36_code 281 = .ok (.ineg, 1) := by decide +kernel
theorem d_MO_value_282 : decode prog_15_method_36_code 282 = .ok (.istore_n 2, 1) := by decide +kernel
theorem d_MO_value_283 : decode prog_15_method_36_code 283 = .ok (.goto (-264), 3) := by decide +kernel
theorem d_MO_value_286 : decode prog_15_method_36_code 286 = .ok (.aload_n 0, 1) := by decide +kernel
theorem d_MO_value_287 : decode prog_15_method_36_code 287 = .ok (.iload_n 3, 1) := by decide +kernel
theorem d_MO_value_288 : decode prog_15_method_36_code 288 = .ok (.iload_n 2, 1) := by decide +kernel
theorem d_MO_value_289 : decode prog_15_method_36_code 289 = .ok (.invokevirtual 327, 3) := by decide +kernel
theorem d_MO_value_292 : decode prog_15_method_36_code 292 = .ok (.istore_n 2, 1) := by decide +kernel
theorem d_MO_value_293 : decode prog_15_method_36_code 293 = .ok (.aload_n 0, 1) := by decide +kernel
theorem d_MO_value_294 : decode prog_15_method_36_code 294 = .ok (.getfield 155, 3) := by decide +kernel
theorem d_MO_value_297 : decode prog_15_method_36_code 297 = .ok (.iload_n 3, 1) := by decide +kernel
theorem d_MO_value_298 : decode prog_15_method_36_code 298 = .ok (.iconst 0, 1) := by decide +kernel
theorem d_MO_value_299 : decode prog_15_method_36_code 299 = .ok (.iastore, 1) := by decide +kernel
theorem d_MO_value_300 : decode prog_15_method_36_code 300 = .ok (.aload_n 0, 1) := by decide +kernel
theorem d_MO_value_301 : decode prog_15_method_36_code 301 = .ok (.invokevirtual 281, 3) := by decide +kernel
theorem d_MO_value_304 : decode prog_15_method_36_code 304 = .ok (.istore 4, 2) := by decide +kernel
theorem d_MO_value_306 : decode prog_15_method_36_code 306 = .ok (.iload 4, 2) := by decide +kernel
theorem d_MO_value_308 : decode prog_15_method_36_code 308 = .ok (.bipush 42, 2) := by decide +kernel
theorem d_MO_value_310 : decode prog_15_method_36_code 310 = .ok (.if_icmp .eq 17, 3) := by decide +kernel
theorem d_MO_value_313 : decode prog_15_method_36_code 313 = .ok (.iload 4, 2) := by decide +kernel
theorem d_MO_value_315 : decode prog_15_method_36_code 315 = .ok (.bipush 47, 2) := by decide +kernel
theorem d_MO_value_317 : decode prog_15_method_36_code 317 = .ok (.if_icmp .eq 10, 3) := by decide +kernel
theorem d_MO_value_320 : decode prog_15_method_36_code 320 = .ok (.iload 4, 2) := by decide +kernel
theorem d_MO_value_322 : decode prog_15_method_36_code 322 = .ok (.bipush 37, 2) := by decide +kernel
theorem d_MO_value_324 : decode prog_15_method_36_code 324 = .ok (.if_icmp .ne 33, 3) := by decide +kernel
theorem d_MO_value_327 : decode prog_15_method_36_code 327 = .ok (.aload_n 0, 1) := by decide +kernel
theorem d_MO_value_328 : decode prog_15_method_36_code 328 = .ok (.getfield 164, 3) := by decide +kernel
theorem d_MO_value_331 : decode prog_15_method_36_code 331 = .ok (.iload_n 3, 1) := by decide +kernel
theorem d_MO_value_332 : decode prog_15_method_36_code 332 = .ok (.iload_n 2, 1) := by decide +kernel
theorem d_MO_value_333 : decode prog_15_method_36_code 333 = .ok (.iastore, 1) := by decide +kernel
theorem d_MO_value_334 : decode prog_15_method_36_code 334 = .ok (.aload_n 0, 1) := by decide +kernel
theorem d_MO_value_335 : decode prog_15_method_36_code 335 = .ok (.getfield 155, 3) := by decide +kernel
theorem d_MO_value_338 : decode prog_15_method_36_code 338 = .ok (.iload_n 3, 1) := by decide +kernel
theorem d_MO_value_339 : decode prog_15_method_36_code 339 = .ok (.iload 4, 2) := by decide +kernel
theorem d_MO_value_341 : decode prog_15_method_36_code 341 = .ok (.iastore, 1) := by decide +kernel
theorem d_MO_value_342 : decode prog_15_method_36_code 342 = .ok (.aload_n 0, 1) := by decide +kernel
theorem d_MO_value_343 : decode prog_15_method_36_code 343 = .ok (.dup, 1) := by decide +kernel
theorem d_MO_value_344 : decode prog_15_method_36_code 344 = .ok (.getfield 278, 3) := by decide +kernel
theorem d_MO_value_347 : decode prog_15_method_36_code 347 = .ok (.iconst 1, 1) := by decide +kernel
theorem d_MO_value_348 : decode prog_15_method_36_code 348 = .ok (.iadd, 1) := by decide +kernel
theorem d_MO_value_349 : decode prog_15_method_36_code 349 = .ok (.putfield 278, 3) := by decide +kernel
theorem d_MO_value_352 : decode prog_15_method_36_code 352 = .ok (.iconst 0, 1) := by decide +kernel
theorem d_MO_value_353 : decode prog_15_method_36_code 353 = .ok (.istore_n 1, 1) := by decide +kernel
theorem d_MO_value_354 : decode prog_15_method_36_code 354 = .ok (.goto (-335), 3) := by decide +kernel
theorem d_MO_value_357 : decode prog_15_method_36_code 357 = .ok (.aload_n 0, 1) := by decide +kernel
theorem d_MO_value_358 : decode prog_15_method_36_code 358 = .ok (.iload_n 3, 1) := by decide +kernel
theorem d_MO_value_359 : decode prog_15_method_36_code 359 = .ok (.iload_n 2, 1) := by decide +kernel
theorem d_MO_value_360 : decode prog_15_method_36_code 360 = .ok (.invokevirtual 331, 3) := by decide +kernel
theorem d_MO_value_363 : decode prog_15_method_36_code 363 = .ok (.istore_n 2, 1) := by decide +kernel
theorem d_MO_value_364 : decode prog_15_method_36_code 364 = .ok (.aload_n 0, 1) := by decide +kernel
theorem d_MO_value_365 : decode prog_15_method_36_code 365 = .ok (.getfield 152, 3) := by decide +kernel
theorem d_MO_value_368 : decode prog_15_method_36_code 368 = .ok (.iload_n 3, 1) := by decide +kernel
theorem d_MO_value_369 : decode prog_15_method_36_code 369 = .ok (.iconst 0, 1) := by decide +kernel
theorem d_MO_value_370 : decode prog_15_method_36_code 370 = .ok (.iastore, 1) := by decide +kernel
theorem d_MO_value_371 : decode prog_15_method_36_code 371 = .ok (.iload 4, 2) := by decide +kernel
theorem d_MO_value_373 : decode prog_15_method_36_code 373 = .ok (.bipush 43, 2) := by decide +kernel
theorem d_MO_value_375 : decode prog_15_method_36_code 375 = .ok (.if_icmp .eq 10, 3) := by decide +kernel
theorem d_MO_value_378 : decode prog_15_method_36_code 378 = .ok (.iload 4, 2) := by decide +kernel
theorem d_MO_value_380 : decode prog_15_method_36_code 380 = .ok (.bipush 45, 2) := by decide +kernel
theorem d_MO_value_382 : decode prog_15_method_36_code 382 = .ok (.if_icmp .ne 33, 3) := by decide +kernel
theorem d_MO_value_385 : decode prog_15_method_36_code 385 = .ok (.aload_n 0, 1) := by decide +kernel
theorem d_MO_value_386 : decode prog_15_method_36_code 386 = .ok (.getfield 161, 3) := by decide +kernel
theorem d_MO_value_389 : decode prog_15_method_36_code 389 = .ok (.iload_n 3, 1) := by decide +kernel
theorem d_MO_value_390 : decode prog_15_method_36_code 390 = .ok (.iload_n 2, 1) := by decide +kernel
theorem d_MO_value_391 : decode prog_15_method_36_code 391 = .ok (.iastore, 1) := by decide +kernel
theorem d_MO_value_392 : decode prog_15_method_36_code 392 = .ok (.aload_n 0, 1) := by decide +kernel
theorem d_MO_value_393 : decode prog_15_method_36_code 393 = .ok (.getfield 152, 3) := by decide +kernel
theorem d_MO_value_396 : decode prog_15_method_36_code 396 = .ok (.iload_n 3, 1) := by decide +kernel
theorem d_MO_value_397 : decode prog_15_method_36_code 397 = .ok (.iload 4, 2) := by decide +kernel
theorem d_MO_value_399 : decode prog_15_method_36_code 399 = .ok (.iastore, 1) := by decide +kernel
theorem d_MO_value_400 : decode prog_15_method_36_code 400 = .ok (.aload_n 0, 1) := by decide +kernel
theorem d_MO_value_401 : decode prog_15_method_36_code 401 = .ok (.dup, 1) := by decide +kernel
theorem d_MO_value_402 : decode prog_15_method_36_code 402 = .ok (.getfield 278, 3) := by decide +kernel
theorem d_MO_value_405 : decode prog_15_method_36_code 405 = .ok (.iconst 1, 1) := by decide +kernel
theorem d_MO_value_406 : decode prog_15_method_36_code 406 = .ok (.iadd, 1) := by decide +kernel
theorem d_MO_value_407 : decode prog_15_method_36_code 407 = .ok (.putfield 278, 3) := by decide +kernel
theorem d_MO_value_410 : decode prog_15_method_36_code 410 = .ok (.iconst 0, 1) := by decide +kernel
theorem d_MO_value_411 : decode prog_15_method_36_code 411 = .ok (.istore_n 1, 1) := by decide +kernel
theorem d_MO_value_412 : decode prog_15_method_36_code 412 = .ok (.goto (-393), 3) := by decide +kernel
theorem d_MO_value_415 : decode prog_15_method_36_code 415 = .ok (.aload_n 0, 1) := by decide +kernel
theorem d_MO_value_416 : decode prog_15_method_36_code 416 = .ok (.getfield 149, 3) := by decide +kernel
theorem d_MO_value_419 : decode prog_15_method_36_code 419 = .ok (.iload_n 3, 1) := by decide +kernel
theorem d_MO_value_420 : decode prog_15_method_36_code 420 = .ok (.iaload, 1) := by decide +kernel
theorem d_MO_value_421 : decode prog_15_method_36_code 421 = .ok (.ifCond .ne 10, 3) := by decide +kernel
theorem d_MO_value_424 : decode prog_15_method_36_code 424 = .ok (.aload_n 0, 1) := by decide +kernel
theorem d_MO_value_425 : decode prog_15_method_36_code 425 = .ok (.invokevirtual 334, 3) := by decide +kernel
theorem d_MO_value_428 : decode prog_15_method_36_code 428 = .ok (.goto 4, 3) := by decide +kernel
theorem d_MO_value_431 : decode prog_15_method_36_code 431 = .ok (.iconst 0, 1) := by decide +kernel
theorem d_MO_value_432 : decode prog_15_method_36_code 432 = .ok (.istore 5, 2) := by decide +kernel
theorem d_MO_value_434 : decode prog_15_method_36_code 434 = .ok (.iload 5, 2) := by decide +kernel
theorem d_MO_value_436 : decode prog_15_method_36_code 436 = .ok (.ifCond .le 23, 3) := by decide +kernel
theorem d_MO_value_439 : decode prog_15_method_36_code 439 = .ok (.aload_n 0, 1) := by decide +kernel
theorem d_MO_value_440 : decode prog_15_method_36_code 440 = .ok (.getfield 158, 3) := by decide +kernel
theorem d_MO_value_443 : decode prog_15_method_36_code 443 = .ok (.iload_n 3, 1) := by decide +kernel
theorem d_MO_value_444 : decode prog_15_method_36_code 444 = .ok (.iload_n 2, 1) := by decide +kernel
theorem d_MO_value_445 : decode prog_15_method_36_code 445 = .ok (.iastore, 1) := by decide +kernel
theorem d_MO_value_446 : decode prog_15_method_36_code 446 = .ok (.aload_n 0, 1) := by decide +kernel
theorem d_MO_value_447 : decode prog_15_method_36_code 447 = .ok (.getfield 149, 3) := by decide +kernel
theorem d_MO_value_450 : decode prog_15_method_36_code 450 = .ok (.iload_n 3, 1) := by decide +kernel
theorem d_MO_value_451 : decode prog_15_method_36_code 451 = .ok (.iload 5, 2) := by decide +kernel
theorem d_MO_value_453 : decode prog_15_method_36_code 453 = .ok (.iastore, 1) := by decide +kernel
theorem d_MO_value_454 : decode prog_15_method_36_code 454 = .ok (.iconst 0, 1) := by decide +kernel
theorem d_MO_value_455 : decode prog_15_method_36_code 455 = .ok (.istore_n 1, 1) := by decide +kernel
theorem d_MO_value_456 : decode prog_15_method_36_code 456 = .ok (.goto (-437), 3) := by decide +kernel
theorem d_MO_value_459 : decode prog_15_method_36_code 459 = .ok (.aload_n 0, 1) := by decide +kernel
theorem d_MO_value_460 : decode prog_15_method_36_code 460 = .ok (.getfield 149, 3) := by decide +kernel
theorem d_MO_value_463 : decode prog_15_method_36_code 463 = .ok (.iload_n 3, 1) := by decide +kernel
theorem d_MO_value_464 : decode prog_15_method_36_code 464 = .ok (.iaload, 1) := by decide +kernel
theorem d_MO_value_465 : decode prog_15_method_36_code 465 = .ok (.ifCond .le 30, 3) := by decide +kernel
theorem d_MO_value_468 : decode prog_15_method_36_code 468 = .ok (.aload_n 0, 1) := by decide +kernel
theorem d_MO_value_469 : decode prog_15_method_36_code 469 = .ok (.getfield 149, 3) := by decide +kernel
theorem d_MO_value_472 : decode prog_15_method_36_code 472 = .ok (.iload_n 3, 1) := by decide +kernel
theorem d_MO_value_473 : decode prog_15_method_36_code 473 = .ok (.iaload, 1) := by decide +kernel
theorem d_MO_value_474 : decode prog_15_method_36_code 474 = .ok (.aload_n 0, 1) := by decide +kernel
theorem d_MO_value_475 : decode prog_15_method_36_code 475 = .ok (.getfield 158, 3) := by decide +kernel
theorem d_MO_value_478 : decode prog_15_method_36_code 478 = .ok (.iload_n 3, 1) := by decide +kernel
theorem d_MO_value_479 : decode prog_15_method_36_code 479 = .ok (.iaload, 1) := by decide +kernel
theorem d_MO_value_480 : decode prog_15_method_36_code 480 = .ok (.iload_n 2, 1) := by decide +kernel
theorem d_MO_value_481 : decode prog_15_method_36_code 481 = .ok (.invokestatic 337, 3) := by decide +kernel
theorem d_MO_value_484 : decode prog_15_method_36_code 484 = .ok (.ifCond .eq 7, 3) := by decide +kernel
theorem d_MO_value_487 : decode prog_15_method_36_code 487 = .ok (.iconst 1, 1) := by decide +kernel
theorem d_MO_value_488 : decode prog_15_method_36_code 488 = .ok (.goto 8, 3) := by decide +kernel
theorem d_MO_value_491 : decode prog_15_method_36_code 491 = .ok (.iconst 0, 1) := by decide +kernel
theorem d_MO_value_492 : decode prog_15_method_36_code 492 = .ok (.goto 4, 3) := by decide +kernel
theorem d_MO_value_495 : decode prog_15_method_36_code 495 = .ok (.iload_n 2, 1) := by decide +kernel
theorem d_MO_value_496 : decode prog_15_method_36_code 496 = .ok (.istore_n 2, 1) := by decide +kernel
theorem d_MO_value_497 : decode prog_15_method_36_code 497 = .ok (.aload_n 0, 1) := by decide +kernel
theorem d_MO_value_498 : decode prog_15_method_36_code 498 = .ok (.dup, 1) := by decide +kernel
theorem d_MO_value_499 : decode prog_15_method_36_code 499 = .ok (.getfield 301, 3) := by decide +kernel
theorem d_MO_value_502 : decode prog_15_method_36_code 502 = .ok (.iconst 1, 1) := by decide +kernel
theorem d_MO_value_503 : decode prog_15_method_36_code 503 = .ok (.isub, 1) := by decide +kernel
theorem d_MO_value_504 : decode prog_15_method_36_code 504 = .ok (.putfield 301, 3) := by decide +kernel
theorem d_MO_value_507 : decode prog_15_method_36_code 507 = .ok (.aload_n 0, 1) := by decide +kernel
theorem d_MO_value_508 : decode prog_15_method_36_code 508 = .ok (.getfield 301, 3) := by decide +kernel
theorem d_MO_value_511 : decode prog_15_method_36_code 511 = .ok (.ifCond .ne 5, 3) := by decide +kernel
theorem d_MO_value_514 : decode prog_15_method_36_code 514 = .ok (.iload_n 2, 1) := by decide +kernel
theorem d_MO_value_515 : decode prog_15_method_36_code 515 = .ok (.ireturn, 1) := by decide +kernel
theorem d_MO_value_516 : decode prog_15_method_36_code 516 = .ok (.aload_n 0, 1) := by decide +kernel
theorem d_MO_value_517 : decode prog_15_method_36_code 517 = .ok (.bipush 41, 2) := by decide +kernel
theorem d_MO_value_519 : decode prog_15_method_36_code 519 = .ok (.invokevirtual 340, 3) := by decide +kernel
theorem d_MO_value_522 : decode prog_15_method_36_code 522 = .ok (.goto (-503), 3) := by decide +kernel
theorem d_MO_value_525 : decode prog_15_method_36_code 525 = .ok (.iconst 0, 1) := by decide +kernel
theorem d_MO_value_526 : decode prog_15_method_36_code 526 = .ok (.ireturn, 1) := by decide +kernel
theorem d_MO_lineEnds_0 : decode prog_15_method_26_code 0 = .ok (.aload_n 0, 1) := by decide +kernel
theorem d_MO_lineEnds_1 : decode prog_15_method_26_code 1 = .ok (.invokevirtual 284, 3) := by decide +kernel
theorem d_MO_lineEnds_4 : decode prog_15_method_26_code 4 = .ok (.aload_n 0, 1) := by decide +kernel
theorem d_MO_lineEnds_5 : decode prog_15_method_26_code 5 = .ok (.aload_n 0, 1) := by decide +kernel
theorem d_MO_lineEnds_6 : decode prog_15_method_26_code 6 = .ok (.getfield 287, 3) := by decide +kernel
theorem d_MO_lineEnds_9 : decode prog_15_method_26_code 9 = .ok (.ifCond .eq 18, 3) := by decide +kernel
theorem d_MO_lineEnds_12 : decode prog_15_method_26_code 12 = .ok (.aload_n 0, 1) := by decide +kernel
theorem d_MO_lineEnds_13 : decode prog_15_method_26_code 13 = .ok (.getfield 278, 3) := by decide +kernel
theorem d_MO_lineEnds_16 : decode prog_15_method_26_code 16 = .ok (.aload_n 0, 1) := by decide +kernel
theorem d_MO_lineEnds_17 : decode prog_15_method_26_code 17 = .ok (.getfield 254, 3) := by decide +kernel
theorem d_MO_lineEnds_20 : decode prog_15_method_26_code 20 = .ok (.if_icmp .lt 7, 3) := by decide +kernel
theorem d_MO_lineEnds_23 : decode prog_15_method_26_code 23 = .ok (.iconst 1, 1) := by decide +kernel
theorem d_MO_lineEnds_24 : decode prog_15_method_26_code 24 = .ok (.goto 4, 3) := by decide +kernel
theorem d_MO_lineEnds_27 : decode prog_15_method_26_code 27 = .ok (.iconst 0, 1) := by decide +kernel
theorem d_MO_lineEnds_28 : decode prog_15_method_26_code 28 = .ok (.putfield 287, 3) := by decide +kernel
theorem d_MO_lineEnds_31 : decode prog_15_method_26_code 31 = .ok (.return_, 1) := by decide +kernel
theorem d_MO_wholeValue_0 : decode prog_15_method_37_code 0 = .ok (.aload_n 0, 1) := by decide +kernel
theorem d_MO_wholeValue_1 : decode prog_15_method_37_code 1 = .ok (.invokevirtual 343, 3) := by decide +kernel
theorem d_MO_wholeValue_4 : decode prog_15_method_37_code 4 = .ok (.istore_n 1, 1) := by decide +kernel
theorem d_MO_wholeValue_5 : decode prog_15_method_37_code 5 = .ok (.aload_n 0, 1) := by decide +kernel
theorem d_MO_wholeValue_6 : decode prog_15_method_37_code 6 = .ok (.invokevirtual 346, 3) := by decide +kernel
theorem d_MO_wholeValue_9 : decode prog_15_method_37_code 9 = .ok (.aload_n 0, 1) := by decide +kernel
theorem d_MO_wholeValue_10 : decode prog_15_method_37_code 10 = .ok (.getfield 287, 3) := by decide +kernel
theorem d_MO_wholeValue_13 : decode prog_15_method_37_code 13 = .ok (.ifCond .ne 15, 3) := by decide +kernel
theorem d_MO_wholeValue_16 : decode prog_15_method_37_code 16 = .ok (.aload_n 0, 1) := by decide +kernel
theorem d_MO_wholeValue_17 : decode prog_15_method_37_code 17 = .ok (.iconst 1, 1) := by decide +kernel
theorem d_MO_wholeValue_18 : decode prog_15_method_37_code 18 = .ok (.aload_n 0, 1) := by decide +kernel
theorem d_MO_wholeValue_19 : decode prog_15_method_37_code 19 = .ok (.getfield 247, 3) := by decide +kernel
theorem d_MO_wholeValue_22 : decode prog_15_method_37_code 22 = .ok (.invokevirtual 250, 3) := by decide +kernel
theorem d_MO_wholeValue_25 : decode prog_15_method_37_code 25 = .ok (.goto 22, 3) := by decide +kernel
theorem d_MO_wholeValue_28 : decode prog_15_method_37_code 28 = .ok (.aload_n 0, 1) := by decide +kernel
theorem d_MO_wholeValue_29 : decode prog_15_method_37_code 29 = .ok (.getfield 304, 3) := by decide +kernel
theorem d_MO_wholeValue_32 : decode prog_15_method_37_code 32 = .ok (.ifCond .le 15, 3) := by decide +kernel
theorem d_MO_wholeValue_35 : decode prog_15_method_37_code 35 = .ok (.aload_n 0, 1) := by decide +kernel
theorem d_MO_wholeValue_36 : decode prog_15_method_37_code 36 = .ok (.aload_n 0, 1) := by decide +kernel
theorem d_MO_wholeValue_37 : decode prog_15_method_37_code 37 = .ok (.getfield 304, 3) := by decide +kernel
theorem d_MO_wholeValue_40 : decode prog_15_method_37_code 40 = .ok (.aload_n 0, 1) := by decide +kernel
theorem d_MO_wholeValue_41 : decode prog_15_method_37_code 41 = .ok (.getfield 247, 3) := by decide +kernel
theorem d_MO_wholeValue_44 : decode prog_15_method_37_code 44 = .ok (.invokevirtual 250, 3) := by decide +kernel
theorem d_MO_wholeValue_47 : decode prog_15_method_37_code 47 = .ok (.iload_n 1, 1) := by decide +kernel
theorem d_MO_wholeValue_48 : decode prog_15_method_37_code 48 = .ok (.ireturn, 1) := by decide +kernel
theorem d_MO_turn_0 : decode prog_15_method_53_code 0 = .ok (.aload_n 0, 1) := by decide +kernel
theorem d_MO_turn_1 : decode prog_15_method_53_code 1 = .ok (.getfield 358, 3) := by decide +kernel
theorem d_MO_turn_4 : decode prog_15_method_53_code 4 = .ok (.iconst 1, 1) := by decide +kernel
theorem d_MO_turn_5 : decode prog_15_method_53_code 5 = .ok (.isub, 1) := by decide +kernel
theorem d_MO_turn_6 : decode prog_15_method_53_code 6 = .ok (.istore_n 3, 1) := by decide +kernel
theorem d_MO_turn_7 : decode prog_15_method_53_code 7 = .ok (.aload_n 0, 1) := by decide +kernel
theorem d_MO_turn_8 : decode prog_15_method_53_code 8 = .ok (.getfield 358, 3) := by decide +kernel
theorem d_MO_turn_11 : decode prog_15_method_53_code 11 = .ok (.aload_n 0, 1) := by decide +kernel
theorem d_MO_turn_12 : decode prog_15_method_53_code 12 = .ok (.getfield 102, 3) := by decide +kernel
theorem d_MO_turn_15 : decode prog_15_method_53_code 15 = .ok (.aload_n 0, 1) := by decide +kernel
theorem d_MO_turn_16 : decode prog_15_method_53_code 16 = .ok (.getfield 244, 3) := by decide +kernel
theorem d_MO_turn_19 : decode prog_15_method_53_code 19 = .ok (.iconst 1, 1) := by decide +kernel
theorem d_MO_turn_20 : decode prog_15_method_53_code 20 = .ok (.isub, 1) := by decide +kernel
theorem d_MO_turn_21 : decode prog_15_method_53_code 21 = .ok (.iaload, 1) := by decide +kernel
theorem d_MO_turn_22 : decode prog_15_method_53_code 22 = .ok (.if_icmp .eq 18, 3) := by decide +kernel
theorem d_MO_turn_25 : decode prog_15_method_53_code 25 = .ok (.iload_n 1, 1) := by decide +kernel
theorem d_MO_turn_26 : decode prog_15_method_53_code 26 = .ok (.bipush 7, 2) := by decide +kernel
theorem d_MO_turn_28 : decode prog_15_method_53_code 28 = .ok (.if_icmp .eq 22, 3) := by decide +kernel
theorem d_MO_turn_31 : decode prog_15_method_53_code 31 = .ok (.aload_n 0, 1) := by decide +kernel
theorem d_MO_turn_32 : decode prog_15_method_53_code 32 = .ok (.getfield 137, 3) := by decide +kernel
theorem d_MO_turn_35 : decode prog_15_method_53_code 35 = .ok (.iload_n 3, 1) := by decide +kernel
theorem d_MO_turn_36 : decode prog_15_method_53_code 36 = .ok (.baload, 1) := by decide +kernel
theorem d_MO_turn_37 : decode prog_15_method_53_code 37 = .ok (.ifCond .eq 13, 3) := by decide +kernel
theorem d_MO_turn_40 : decode prog_15_method_53_code 40 = .ok (.aload_n 0, 1) := by decide +kernel
theorem d_MO_turn_41 : decode prog_15_method_53_code 41 = .ok (.iconst 5, 1) := by decide +kernel
theorem d_MO_turn_42 : decode prog_15_method_53_code 42 = .ok (.aload_n 0, 1) := by decide +kernel
theorem d_MO_turn_43 : decode prog_15_method_53_code 43 = .ok (.getfield 247, 3) := by decide +kernel
theorem d_MO_turn_46 : decode prog_15_method_53_code 46 = .ok (.invokevirtual 250, 3) := by decide +kernel
theorem d_MO_turn_49 : decode prog_15_method_53_code 49 = .ok (.return_, 1) := by decide +kernel
theorem d_MO_turn_50 : decode prog_15_method_53_code 50 = .ok (.iload_n 1, 1) := by decide +kernel
theorem d_MO_turn_51 : decode prog_15_method_53_code 51 = .ok (.bipush 7, 2) := by decide +kernel
theorem d_MO_turn_53 : decode prog_15_method_53_code 53 = .ok (.if_icmp .ne 14, 3) := by decide +kernel
theorem d_MO_turn_56 : decode prog_15_method_53_code 56 = .ok (.aload_n 0, 1) := by decide +kernel
theorem d_MO_turn_57 : decode prog_15_method_53_code 57 = .ok (.dup, 1) := by decide +kernel
theorem d_MO_turn_58 : decode prog_15_method_53_code 58 = .ok (.getfield 358, 3) := by decide +kernel
theorem d_MO_turn_61 : decode prog_15_method_53_code 61 = .ok (.iconst 1, 1) := by decide +kernel
theorem d_MO_turn_62 : decode prog_15_method_53_code 62 = .ok (.isub, 1) := by decide +kernel
theorem d_MO_turn_63 : decode prog_15_method_53_code 63 = .ok (.putfield 358, 3) := by decide +kernel
theorem d_MO_turn_66 : decode prog_15_method_53_code 66 = .ok (.return_, 1) := by decide +kernel
theorem d_MO_turn_67 : decode prog_15_method_53_code 67 = .ok (.aload_n 0, 1) := by decide +kernel
theorem d_MO_turn_68 : decode prog_15_method_53_code 68 = .ok (.getfield 134, 3) := by decide +kernel
theorem d_MO_turn_71 : decode prog_15_method_53_code 71 = .ok (.iload_n 3, 1) := by decide +kernel
theorem d_MO_turn_72 : decode prog_15_method_53_code 72 = .ok (.baload, 1) := by decide +kernel
theorem d_MO_turn_73 : decode prog_15_method_53_code 73 = .ok (.ifCond .ne 16, 3) := by decide +kernel
theorem d_MO_turn_76 : decode prog_15_method_53_code 76 = .ok (.aload_n 0, 1) := by decide +kernel
theorem d_MO_turn_77 : decode prog_15_method_53_code 77 = .ok (.getfield 131, 3) := by decide +kernel
theorem d_MO_turn_80 : decode prog_15_method_53_code 80 = .ok (.iload_n 3, 1) := by decide +kernel
theorem d_MO_turn_81 : decode prog_15_method_53_code 81 = .ok (.baload, 1) := by decide +kernel
theorem d_MO_turn_82 : decode prog_15_method_53_code 82 = .ok (.ifCond .ne 7, 3) := by decide +kernel
theorem d_MO_turn_85 : decode prog_15_method_53_code 85 = .ok (.iconst 1, 1) := by decide +kernel
theorem d_MO_turn_86 : decode prog_15_method_53_code 86 = .ok (.goto 4, 3) := by decide +kernel
theorem d_MO_turn_89 : decode prog_15_method_53_code 89 = .ok (.iconst 0, 1) := by decide +kernel
theorem d_MO_turn_90 : decode prog_15_method_53_code 90 = .ok (.istore 4, 2) := by decide +kernel
theorem d_MO_turn_92 : decode prog_15_method_53_code 92 = .ok (.iload_n 1, 1) := by decide +kernel
theorem d_MO_turn_93 : decode prog_15_method_53_code 93 = .ok (.iconst 5, 1) := by decide +kernel
theorem d_MO_turn_94 : decode prog_15_method_53_code 94 = .ok (.if_icmp .ne 26, 3) := by decide +kernel
theorem d_MO_turn_97 : decode prog_15_method_53_code 97 = .ok (.aload_n 0, 1) := by decide +kernel
theorem d_MO_turn_98 : decode prog_15_method_53_code 98 = .ok (.getfield 137, 3) := by decide +kernel
theorem d_MO_turn_101 : decode prog_15_method_53_code 101 = .ok (.iload_n 3, 1) := by decide +kernel
theorem d_MO_turn_102 : decode prog_15_method_53_code 102 = .ok (.iconst 1, 1) := by decide +kernel
theorem d_MO_turn_103 : decode prog_15_method_53_code 103 = .ok (.bastore, 1) := by decide +kernel
theorem d_MO_turn_104 : decode prog_15_method_53_code 104 = .ok (.aload_n 0, 1) := by decide +kernel
theorem d_MO_turn_105 : decode prog_15_method_53_code 105 = .ok (.getfield 127, 3) := by decide +kernel
theorem d_MO_turn_108 : decode prog_15_method_53_code 108 = .ok (.iload_n 3, 1) := by decide +kernel
theorem d_MO_turn_109 : decode prog_15_method_53_code 109 = .ok (.iload 4, 2) := by decide +kernel
theorem d_MO_turn_111 : decode prog_15_method_53_code 111 = .ok (.bastore, 1) := by decide +kernel
theorem d_MO_turn_112 : decode prog_15_method_53_code 112 = .ok (.aload_n 0, 1) := by decide +kernel
theorem d_MO_turn_113 : decode prog_15_method_53_code 113 = .ok (.getfield 131, 3) := by decide +kernel
theorem d_MO_turn_116 : decode prog_15_method_53_code 116 = .ok (.iload_n 3, 1) := by decide +kernel
theorem d_MO_turn_117 : decode prog_15_method_53_code 117 = .ok (.iconst 1, 1) := by decide +kernel
theorem d_MO_turn_118 : decode prog_15_method_53_code 118 = .ok (.bastore, 1) := by decide +kernel
theorem d_MO_turn_119 : decode prog_15_method_53_code 119 = .ok (.return_, 1) := by decide +kernel
theorem d_MO_turn_120 : decode prog_15_method_53_code 120 = .ok (.aload_n 0, 1) := by decide +kernel
theorem d_MO_turn_121 : decode prog_15_method_53_code 121 = .ok (.getfield 127, 3) := by decide +kernel
theorem d_MO_turn_124 : decode prog_15_method_53_code 124 = .ok (.iload_n 3, 1) := by decide +kernel
theorem d_MO_turn_125 : decode prog_15_method_53_code 125 = .ok (.iconst 0, 1) := by decide +kernel
theorem d_MO_turn_126 : decode prog_15_method_53_code 126 = .ok (.bastore, 1) := by decide +kernel
theorem d_MO_turn_127 : decode prog_15_method_53_code 127 = .ok (.iload 4, 2) := by decide +kernel
theorem d_MO_turn_129 : decode prog_15_method_53_code 129 = .ok (.ifCond .ne 4, 3) := by decide +kernel
theorem d_MO_turn_132 : decode prog_15_method_53_code 132 = .ok (.return_, 1) := by decide +kernel
theorem d_MO_turn_133 : decode prog_15_method_53_code 133 = .ok (.aload_n 0, 1) := by decide +kernel
theorem d_MO_turn_134 : decode prog_15_method_53_code 134 = .ok (.iload_n 2, 1) := by decide +kernel
theorem d_MO_turn_135 : decode prog_15_method_53_code 135 = .ok (.invokevirtual 409, 3) := by decide +kernel
theorem d_MO_turn_138 : decode prog_15_method_53_code 138 = .ok (.istore 5, 2) := by decide +kernel
theorem d_MO_turn_140 : decode prog_15_method_53_code 140 = .ok (.iload 5, 2) := by decide +kernel
theorem d_MO_turn_142 : decode prog_15_method_53_code 142 = .ok (.ifCond .le 14, 3) := by decide +kernel
theorem d_MO_turn_145 : decode prog_15_method_53_code 145 = .ok (.aload_n 0, 1) := by decide +kernel
theorem d_MO_turn_146 : decode prog_15_method_53_code 146 = .ok (.iload 5, 2) := by decide +kernel
theorem d_MO_turn_148 : decode prog_15_method_53_code 148 = .ok (.aload_n 0, 1) := by decide +kernel
theorem d_MO_turn_149 : decode prog_15_method_53_code 149 = .ok (.getfield 247, 3) := by decide +kernel
theorem d_MO_turn_152 : decode prog_15_method_53_code 152 = .ok (.invokevirtual 250, 3) := by decide +kernel
theorem d_MO_turn_155 : decode prog_15_method_53_code 155 = .ok (.return_, 1) := by decide +kernel
theorem d_MO_turn_156 : decode prog_15_method_53_code 156 = .ok (.aload_n 0, 1) := by decide +kernel
theorem d_MO_turn_157 : decode prog_15_method_53_code 157 = .ok (.invokevirtual 412, 3) := by decide +kernel
theorem d_MO_turn_160 : decode prog_15_method_53_code 160 = .ok (.aload_n 0, 1) := by decide +kernel
theorem d_MO_turn_161 : decode prog_15_method_53_code 161 = .ok (.dup, 1) := by decide +kernel
theorem d_MO_turn_162 : decode prog_15_method_53_code 162 = .ok (.getfield 278, 3) := by decide +kernel
theorem d_MO_turn_165 : decode prog_15_method_53_code 165 = .ok (.iconst 1, 1) := by decide +kernel
theorem d_MO_turn_166 : decode prog_15_method_53_code 166 = .ok (.iadd, 1) := by decide +kernel
theorem d_MO_turn_167 : decode prog_15_method_53_code 167 = .ok (.putfield 278, 3) := by decide +kernel
theorem d_MO_turn_170 : decode prog_15_method_53_code 170 = .ok (.aload_n 0, 1) := by decide +kernel
theorem d_MO_turn_171 : decode prog_15_method_53_code 171 = .ok (.invokevirtual 320, 3) := by decide +kernel
theorem d_MO_turn_174 : decode prog_15_method_53_code 174 = .ok (.aload_n 0, 1) := by decide +kernel
theorem d_MO_turn_175 : decode prog_15_method_53_code 175 = .ok (.invokevirtual 374, 3) := by decide +kernel
theorem d_MO_turn_178 : decode prog_15_method_53_code 178 = .ok (.istore 6, 2) := by decide +kernel
theorem d_MO_turn_180 : decode prog_15_method_53_code 180 = .ok (.aload_n 0, 1) := by decide +kernel
theorem d_MO_turn_181 : decode prog_15_method_53_code 181 = .ok (.getfield 127, 3) := by decide +kernel
theorem d_MO_turn_184 : decode prog_15_method_53_code 184 = .ok (.iload_n 3, 1) := by decide +kernel
theorem d_MO_turn_185 : decode prog_15_method_53_code 185 = .ok (.iload 6, 2) := by decide +kernel
theorem d_MO_turn_187 : decode prog_15_method_53_code 187 = .ok (.ifCond .eq 7, 3) := by decide +kernel
theorem d_MO_turn_190 : decode prog_15_method_53_code 190 = .ok (.iconst 1, 1) := by decide +kernel
theorem d_MO_turn_191 : decode prog_15_method_53_code 191 = .ok (.goto 4, 3) := by decide +kernel
theorem d_MO_turn_194 : decode prog_15_method_53_code 194 = .ok (.iconst 0, 1) := by decide +kernel
theorem d_MO_turn_195 : decode prog_15_method_53_code 195 = .ok (.bastore, 1) := by decide +kernel
theorem d_MO_turn_196 : decode prog_15_method_53_code 196 = .ok (.aload_n 0, 1) := by decide +kernel
theorem d_MO_turn_197 : decode prog_15_method_53_code 197 = .ok (.getfield 131, 3) := by decide +kernel
theorem d_MO_turn_200 : decode prog_15_method_53_code 200 = .ok (.iload_n 3, 1) := by decide +kernel
theorem d_MO_turn_201 : decode prog_15_method_53_code 201 = .ok (.iload 6, 2) := by decide +kernel
theorem d_MO_turn_203 : decode prog_15_method_53_code 203 = .ok (.ifCond .eq 7, 3) := by decide +kernel
theorem d_MO_turn_206 : decode prog_15_method_53_code 206 = .ok (.iconst 1, 1) := by decide +kernel
theorem d_MO_turn_207 : decode prog_15_method_53_code 207 = .ok (.goto 4, 3) := by decide +kernel
theorem d_MO_turn_210 : decode prog_15_method_53_code 210 = .ok (.iconst 0, 1) := by decide +kernel
theorem d_MO_turn_211 : decode prog_15_method_53_code 211 = .ok (.bastore, 1) := by decide +kernel
theorem d_MO_turn_212 : decode prog_15_method_53_code 212 = .ok (.return_, 1) := by decide +kernel
theorem d_MO_setConstant_0 : decode prog_15_method_55_code 0 = .ok (.aload_n 0, 1) := by decide +kernel
theorem d_MO_setConstant_1 : decode prog_15_method_55_code 1 = .ok (.invokevirtual 320, 3) := by decide +kernel
theorem d_MO_setConstant_4 : decode prog_15_method_55_code 4 = .ok (.aload_n 0, 1) := by decide +kernel
theorem d_MO_setConstant_5 : decode prog_15_method_55_code 5 = .ok (.getfield 291, 3) := by decide +kernel
theorem d_MO_setConstant_8 : decode prog_15_method_55_code 8 = .ok (.lstore_n 1, 1) := by decide +kernel
theorem d_MO_setConstant_9 : decode prog_15_method_55_code 9 = .ok (.aload_n 0, 1) := by decide +kernel
theorem d_MO_setConstant_10 : decode prog_15_method_55_code 10 = .ok (.getfield 295, 3) := by decide +kernel
theorem d_MO_setConstant_13 : decode prog_15_method_55_code 13 = .ok (.lstore_n 3, 1) := by decide +kernel
theorem d_MO_setConstant_14 : decode prog_15_method_55_code 14 = .ok (.aload_n 0, 1) := by decide +kernel
theorem d_MO_setConstant_15 : decode prog_15_method_55_code 15 = .ok (.bipush 44, 2) := by decide +kernel
theorem d_MO_setConstant_17 : decode prog_15_method_55_code 17 = .ok (.invokevirtual 340, 3) := by decide +kernel
theorem d_MO_setConstant_20 : decode prog_15_method_55_code 20 = .ok (.aload_n 0, 1) := by decide +kernel
theorem d_MO_setConstant_21 : decode prog_15_method_55_code 21 = .ok (.invokevirtual 374, 3) := by decide +kernel
theorem d_MO_setConstant_24 : decode prog_15_method_55_code 24 = .ok (.istore 5, 2) := by decide +kernel
theorem d_MO_setConstant_26 : decode prog_15_method_55_code 26 = .ok (.aload_n 0, 1) := by decide +kernel
theorem d_MO_setConstant_27 : decode prog_15_method_55_code 27 = .ok (.getfield 196, 3) := by decide +kernel
theorem d_MO_setConstant_30 : decode prog_15_method_55_code 30 = .ok (.ifCond .le 4, 3) := by decide +kernel
theorem d_MO_setConstant_33 : decode prog_15_method_55_code 33 = .ok (.return_, 1) := by decide +kernel
theorem d_MO_setConstant_34 : decode prog_15_method_55_code 34 = .ok (.aload_n 0, 1) := by decide +kernel
theorem d_MO_setConstant_35 : decode prog_15_method_55_code 35 = .ok (.lload_n 1, 1) := by decide +kernel
theorem d_MO_setConstant_36 : decode prog_15_method_55_code 36 = .ok (.lload_n 3, 1) := by decide +kernel
theorem d_MO_setConstant_37 : decode prog_15_method_55_code 37 = .ok (.invokevirtual 323, 3) := by decide +kernel
theorem d_MO_setConstant_40 : decode prog_15_method_55_code 40 = .ok (.istore 6, 2) := by decide +kernel
theorem d_MO_setConstant_42 : decode prog_15_method_55_code 42 = .ok (.iload 6, 2) := by decide +kernel
theorem d_MO_setConstant_44 : decode prog_15_method_55_code 44 = .ok (.ifCond .ge 23, 3) := by decide +kernel
theorem d_MO_setConstant_47 : decode prog_15_method_55_code 47 = .ok (.aload_n 0, 1) := by decide +kernel
theorem d_MO_setConstant_48 : decode prog_15_method_55_code 48 = .ok (.getfield 298, 3) := by decide +kernel
theorem d_MO_setConstant_51 : decode prog_15_method_55_code 51 = .ok (.bipush 64, 2) := by decide +kernel
theorem d_MO_setConstant_53 : decode prog_15_method_55_code 53 = .ok (.if_icmp .ne 14, 3) := by decide +kernel
theorem d_MO_setConstant_56 : decode prog_15_method_55_code 56 = .ok (.aload_n 0, 1) := by decide +kernel
theorem d_MO_setConstant_57 : decode prog_15_method_55_code 57 = .ok (.bipush 6, 2) := by decide +kernel
theorem d_MO_setConstant_59 : decode prog_15_method_55_code 59 = .ok (.aload_n 0, 1) := by decide +kernel
theorem d_MO_setConstant_60 : decode prog_15_method_55_code 60 = .ok (.getfield 247, 3) := by decide +kernel
theorem d_MO_setConstant_63 : decode prog_15_method_55_code 63 = .ok (.invokevirtual 250, 3) := by decide +kernel
theorem d_MO_setConstant_66 : decode prog_15_method_55_code 66 = .ok (.return_, 1) := by decide +kernel
theorem d_MO_setConstant_67 : decode prog_15_method_55_code 67 = .ok (.iload 6, 2) := by decide +kernel
theorem d_MO_setConstant_69 : decode prog_15_method_55_code 69 = .ok (.ifCond .ge 19, 3) := by decide +kernel
theorem d_MO_setConstant_72 : decode prog_15_method_55_code 72 = .ok (.aload_n 0, 1) := by decide +kernel
theorem d_MO_setConstant_73 : decode prog_15_method_55_code 73 = .ok (.getfield 298, 3) := by decide +kernel
theorem d_MO_setConstant_76 : decode prog_15_method_55_code 76 = .ok (.istore 6, 2) := by decide +kernel
theorem d_MO_setConstant_78 : decode prog_15_method_55_code 78 = .ok (.aload_n 0, 1) := by decide +kernel
theorem d_MO_setConstant_79 : decode prog_15_method_55_code 79 = .ok (.dup, 1) := by decide +kernel
theorem d_MO_setConstant_80 : decode prog_15_method_55_code 80 = .ok (.getfield 298, 3) := by decide +kernel
theorem d_MO_setConstant_83 : decode prog_15_method_55_code 83 = .ok (.iconst 1, 1) := by decide +kernel
theorem d_MO_setConstant_84 : decode prog_15_method_55_code 84 = .ok (.iadd, 1) := by decide +kernel
theorem d_MO_setConstant_85 : decode prog_15_method_55_code 85 = .ok (.putfield 298, 3) := by decide +kernel
theorem d_MO_setConstant_88 : decode prog_15_method_55_code 88 = .ok (.aload_n 0, 1) := by decide +kernel
theorem d_MO_setConstant_89 : decode prog_15_method_55_code 89 = .ok (.getfield 57, 3) := by decide +kernel
theorem d_MO_setConstant_92 : decode prog_15_method_55_code 92 = .ok (.iload 6, 2) := by decide +kernel
theorem d_MO_setConstant_94 : decode prog_15_method_55_code 94 = .ok (.lload_n 1, 1) := by decide +kernel
theorem d_MO_setConstant_95 : decode prog_15_method_55_code 95 = .ok (.lastore, 1) := by decide +kernel
theorem d_MO_setConstant_96 : decode prog_15_method_55_code 96 = .ok (.aload_n 0, 1) := by decide +kernel
theorem d_MO_setConstant_97 : decode prog_15_method_55_code 97 = .ok (.getfield 60, 3) := by decide +kernel
theorem d_MO_setConstant_100 : decode prog_15_method_55_code 100 = .ok (.iload 6, 2) := by decide +kernel
theorem d_MO_setConstant_102 : decode prog_15_method_55_code 102 = .ok (.lload_n 3, 1) := by decide +kernel
theorem d_MO_setConstant_103 : decode prog_15_method_55_code 103 = .ok (.lastore, 1) := by decide +kernel
theorem d_MO_setConstant_104 : decode prog_15_method_55_code 104 = .ok (.aload_n 0, 1) := by decide +kernel
theorem d_MO_setConstant_105 : decode prog_15_method_55_code 105 = .ok (.getfield 63, 3) := by decide +kernel
theorem d_MO_setConstant_108 : decode prog_15_method_55_code 108 = .ok (.iload 6, 2) := by decide +kernel
theorem d_MO_setConstant_110 : decode prog_15_method_55_code 110 = .ok (.iload 5, 2) := by decide +kernel
theorem d_MO_setConstant_112 : decode prog_15_method_55_code 112 = .ok (.iastore, 1) := by decide +kernel
theorem d_MO_setConstant_113 : decode prog_15_method_55_code 113 = .ok (.return_, 1) := by decide +kernel
theorem d_MO_forgetConstant_0 : decode prog_15_method_56_code 0 = .ok (.aload_n 0, 1) := by decide +kernel
theorem d_MO_forgetConstant_1 : decode prog_15_method_56_code 1 = .ok (.invokevirtual 320, 3) := by decide +kernel
theorem d_MO_forgetConstant_4 : decode prog_15_method_56_code 4 = .ok (.aload_n 0, 1) := by decide +kernel
theorem d_MO_forgetConstant_5 : decode prog_15_method_56_code 5 = .ok (.invokevirtual 346, 3) := by decide +kernel
theorem d_MO_forgetConstant_8 : decode prog_15_method_56_code 8 = .ok (.aload_n 0, 1) := by decide +kernel
theorem d_MO_forgetConstant_9 : decode prog_15_method_56_code 9 = .ok (.aload_n 0, 1) := by decide +kernel
theorem d_MO_forgetConstant_10 : decode prog_15_method_56_code 10 = .ok (.getfield 291, 3) := by decide +kernel
theorem d_MO_forgetConstant_13 : decode prog_15_method_56_code 13 = .ok (.aload_n 0, 1) := by decide +kernel
theorem d_MO_forgetConstant_14 : decode prog_15_method_56_code 14 = .ok (.getfield 295, 3) := by decide +kernel
theorem d_MO_forgetConstant_17 : decode prog_15_method_56_code 17 = .ok (.invokevirtual 323, 3) := by decide +kernel
theorem d_MO_forgetConstant_20 : decode prog_15_method_56_code 20 = .ok (.istore_n 1, 1) := by decide +kernel
theorem d_MO_forgetConstant_21 : decode prog_15_method_56_code 21 = .ok (.aload_n 0, 1) := by decide +kernel
theorem d_MO_forgetConstant_22 : decode prog_15_method_56_code 22 = .ok (.getfield 287, 3) := by decide +kernel
theorem d_MO_forgetConstant_25 : decode prog_15_method_56_code 25 = .ok (.ifCond .eq 7, 3) := by decide +kernel
theorem d_MO_forgetConstant_28 : decode prog_15_method_56_code 28 = .ok (.iload_n 1, 1) := by decide +kernel
theorem d_MO_forgetConstant_29 : decode prog_15_method_56_code 29 = .ok (.ifCond .ge 24, 3) := by decide +kernel
theorem d_MO_forgetConstant_32 : decode prog_15_method_56_code 32 = .ok (.aload_n 0, 1) := by decide +kernel
theorem d_MO_forgetConstant_33 : decode prog_15_method_56_code 33 = .ok (.aload_n 0, 1) := by decide +kernel
theorem d_MO_forgetConstant_34 : decode prog_15_method_56_code 34 = .ok (.getfield 287, 3) := by decide +kernel
theorem d_MO_forgetConstant_37 : decode prog_15_method_56_code 37 = .ok (.ifCond .eq 7, 3) := by decide +kernel
theorem d_MO_forgetConstant_40 : decode prog_15_method_56_code 40 = .ok (.iconst 3, 1) := by decide +kernel
theorem d_MO_forgetConstant_41 : decode prog_15_method_56_code 41 = .ok (.goto 4, 3) := by decide +kernel
theorem d_MO_forgetConstant_44 : decode prog_15_method_56_code 44 = .ok (.iconst 1, 1) := by decide +kernel
theorem d_MO_forgetConstant_45 : decode prog_15_method_56_code 45 = .ok (.aload_n 0, 1) := by decide +kernel
theorem d_MO_forgetConstant_46 : decode prog_15_method_56_code 46 = .ok (.getfield 247, 3) := by decide +kernel
theorem d_MO_forgetConstant_49 : decode prog_15_method_56_code 49 = .ok (.invokevirtual 250, 3) := by decide +kernel
theorem d_MO_forgetConstant_52 : decode prog_15_method_56_code 52 = .ok (.return_, 1) := by decide +kernel
theorem d_MO_forgetConstant_53 : decode prog_15_method_56_code 53 = .ok (.aload_n 0, 1) := by decide +kernel
theorem d_MO_forgetConstant_54 : decode prog_15_method_56_code 54 = .ok (.dup, 1) := by decide +kernel
theorem d_MO_forgetConstant_55 : decode prog_15_method_56_code 55 = .ok (.getfield 298, 3) := by decide +kernel
theorem d_MO_forgetConstant_58 : decode prog_15_method_56_code 58 = .ok (.iconst 1, 1) := by decide +kernel
theorem d_MO_forgetConstant_59 : decode prog_15_method_56_code 59 = .ok (.isub, 1) := by decide +kernel
theorem d_MO_forgetConstant_60 : decode prog_15_method_56_code 60 = .ok (.putfield 298, 3) := by decide +kernel
theorem d_MO_forgetConstant_63 : decode prog_15_method_56_code 63 = .ok (.iload_n 1, 1) := by decide +kernel
theorem d_MO_forgetConstant_64 : decode prog_15_method_56_code 64 = .ok (.istore_n 2, 1) := by decide +kernel
theorem d_MO_forgetConstant_65 : decode prog_15_method_56_code 65 = .ok (.iload_n 2, 1) := by decide +kernel
theorem d_MO_forgetConstant_66 : decode prog_15_method_56_code 66 = .ok (.aload_n 0, 1) := by decide +kernel
theorem d_MO_forgetConstant_67 : decode prog_15_method_56_code 67 = .ok (.getfield 298, 3) := by decide +kernel
theorem d_MO_forgetConstant_70 : decode prog_15_method_56_code 70 = .ok (.if_icmp .ge 51, 3) := by decide +kernel
theorem d_MO_forgetConstant_73 : decode prog_15_method_56_code 73 = .ok (.aload_n 0, 1) := by decide +kernel
theorem d_MO_forgetConstant_74 : decode prog_15_method_56_code 74 = .ok (.getfield 57, 3) := by decide +kernel
theorem d_MO_forgetConstant_77 : decode prog_15_method_56_code 77 = .ok (.iload_n 2, 1) := by decide +kernel
theorem d_MO_forgetConstant_78 : decode prog_15_method_56_code 78 = .ok (.aload_n 0, 1) := by decide +kernel
theorem d_MO_forgetConstant_79 : decode prog_15_method_56_code 79 = .ok (.getfield 57, 3) := by decide +kernel
theorem d_MO_forgetConstant_82 : decode prog_15_method_56_code 82 = .ok (.iload_n 2, 1) := by decide +kernel
theorem d_MO_forgetConstant_83 : decode prog_15_method_56_code 83 = .ok (.iconst 1, 1) := by decide +kernel
theorem d_MO_forgetConstant_84 : decode prog_15_method_56_code 84 = .ok (.iadd, 1) := by decide +kernel
theorem d_MO_forgetConstant_85 : decode prog_15_method_56_code 85 = .ok (.laload, 1) := by decide +kernel
theorem d_MO_forgetConstant_86 : decode prog_15_method_56_code 86 = .ok (.lastore, 1) := by decide +kernel
theorem d_MO_forgetConstant_87 : decode prog_15_method_56_code 87 = .ok (.aload_n 0, 1) := by decide +kernel
theorem d_MO_forgetConstant_88 : decode prog_15_method_56_code 88 = .ok (.getfield 60, 3) := by decide +kernel
theorem d_MO_forgetConstant_91 : decode prog_15_method_56_code 91 = .ok (.iload_n 2, 1) := by decide +kernel
theorem d_MO_forgetConstant_92 : decode prog_15_method_56_code 92 = .ok (.aload_n 0, 1) := by decide +kernel
theorem d_MO_forgetConstant_93 : decode prog_15_method_56_code 93 = .ok (.getfield 60, 3) := by decide +kernel
theorem d_MO_forgetConstant_96 : decode prog_15_method_56_code 96 = .ok (.iload_n 2, 1) := by decide +kernel
theorem d_MO_forgetConstant_97 : decode prog_15_method_56_code 97 = .ok (.iconst 1, 1) := by decide +kernel
theorem d_MO_forgetConstant_98 : decode prog_15_method_56_code 98 = .ok (.iadd, 1) := by decide +kernel
theorem d_MO_forgetConstant_99 : decode prog_15_method_56_code 99 = .ok (.laload, 1) := by decide +kernel
theorem d_MO_forgetConstant_100 : decode prog_15_method_56_code 100 = .ok (.lastore, 1) := by decide +kernel
theorem d_MO_forgetConstant_101 : decode prog_15_method_56_code 101 = .ok (.aload_n 0, 1) := by decide +kernel
theorem d_MO_forgetConstant_102 : decode prog_15_method_56_code 102 = .ok (.getfield 63, 3) := by decide +kernel
theorem d_MO_forgetConstant_105 : decode prog_15_method_56_code 105 = .ok (.iload_n 2, 1) := by decide +kernel
theorem d_MO_forgetConstant_106 : decode prog_15_method_56_code 106 = .ok (.aload_n 0, 1) := by decide +kernel
theorem d_MO_forgetConstant_107 : decode prog_15_method_56_code 107 = .ok (.getfield 63, 3) := by decide +kernel
theorem d_MO_forgetConstant_110 : decode prog_15_method_56_code 110 = .ok (.iload_n 2, 1) := by decide +kernel
theorem d_MO_forgetConstant_111 : decode prog_15_method_56_code 111 = .ok (.iconst 1, 1) := by decide +kernel
theorem d_MO_forgetConstant_112 : decode prog_15_method_56_code 112 = .ok (.iadd, 1) := by decide +kernel
theorem d_MO_forgetConstant_113 : decode prog_15_method_56_code 113 = .ok (.iaload, 1) := by decide +kernel
theorem d_MO_forgetConstant_114 : decode prog_15_method_56_code 114 = .ok (.iastore, 1) := by decide +kernel
theorem d_MO_forgetConstant_115 : decode prog_15_method_56_code 115 = .ok (.iinc 2 1, 3) := by decide +kernel
theorem d_MO_forgetConstant_118 : decode prog_15_method_56_code 118 = .ok (.goto (-53), 3) := by decide +kernel
theorem d_MO_forgetConstant_121 : decode prog_15_method_56_code 121 = .ok (.return_, 1) := by decide +kernel
theorem d_MO_hold_0 : decode prog_15_method_38_code 0 = .ok (.iload_n 1, 1) := by decide +kernel
theorem d_MO_hold_1 : decode prog_15_method_38_code 1 = .ok (.istore_n 3, 1) := by decide +kernel
theorem d_MO_hold_2 : decode prog_15_method_38_code 2 = .ok (.iload_n 2, 1) := by decide +kernel
theorem d_MO_hold_3 : decode prog_15_method_38_code 3 = .ok (.istore 4, 2) := by decide +kernel
theorem d_MO_hold_5 : decode prog_15_method_38_code 5 = .ok (.iload_n 3, 1) := by decide +kernel
theorem d_MO_hold_6 : decode prog_15_method_38_code 6 = .ok (.iload 4, 2) := by decide +kernel
theorem d_MO_hold_8 : decode prog_15_method_38_code 8 = .ok (.if_icmp .ge 20, 3) := by decide +kernel
theorem d_MO_hold_11 : decode prog_15_method_38_code 11 = .ok (.aload_n 0, 1) := by decide +kernel
theorem d_MO_hold_12 : decode prog_15_method_38_code 12 = .ok (.getfield 143, 3) := by decide +kernel
theorem d_MO_hold_15 : decode prog_15_method_38_code 15 = .ok (.iload_n 3, 1) := by decide +kernel
theorem d_MO_hold_16 : decode prog_15_method_38_code 16 = .ok (.iaload, 1) := by decide +kernel
theorem d_MO_hold_17 : decode prog_15_method_38_code 17 = .ok (.bipush 32, 2) := by decide +kernel
theorem d_MO_hold_19 : decode prog_15_method_38_code 19 = .ok (.if_icmp .ne 9, 3) := by decide +kernel
theorem d_MO_hold_22 : decode prog_15_method_38_code 22 = .ok (.iinc 3 1, 3) := by decide +kernel
theorem d_MO_hold_25 : decode prog_15_method_38_code 25 = .ok (.goto (-20), 3) := by decide +kernel
theorem d_MO_hold_28 : decode prog_15_method_38_code 28 = .ok (.iload_n 3, 1) := by decide +kernel
theorem d_MO_hold_29 : decode prog_15_method_38_code 29 = .ok (.iload 4, 2) := by decide +kernel
theorem d_MO_hold_31 : decode prog_15_method_38_code 31 = .ok (.if_icmp .ge 23, 3) := by decide +kernel
theorem d_MO_hold_34 : decode prog_15_method_38_code 34 = .ok (.aload_n 0, 1) := by decide +kernel
theorem d_MO_hold_35 : decode prog_15_method_38_code 35 = .ok (.getfield 143, 3) := by decide +kernel
theorem d_MO_hold_38 : decode prog_15_method_38_code 38 = .ok (.iload 4, 2) := by decide +kernel
theorem d_MO_hold_40 : decode prog_15_method_38_code 40 = .ok (.iconst 1, 1) := by decide +kernel
theorem d_MO_hold_41 : decode prog_15_method_38_code 41 = .ok (.isub, 1) := by decide +kernel
theorem d_MO_hold_42 : decode prog_15_method_38_code 42 = .ok (.iaload, 1) := by decide +kernel
theorem d_MO_hold_43 : decode prog_15_method_38_code 43 = .ok (.bipush 32, 2) := by decide +kernel
theorem d_MO_hold_45 : decode prog_15_method_38_code 45 = .ok (.if_icmp .ne 9, 3) := by decide +kernel
theorem d_MO_hold_48 : decode prog_15_method_38_code 48 = .ok (.iinc 4 (-1), 3) := by decide +kernel
theorem d_MO_hold_51 : decode prog_15_method_38_code 51 = .ok (.goto (-23), 3) := by decide +kernel
theorem d_MO_hold_54 : decode prog_15_method_38_code 54 = .ok (.aload_n 0, 1) := by decide +kernel
theorem d_MO_hold_55 : decode prog_15_method_38_code 55 = .ok (.getfield 117, 3) := by decide +kernel
theorem d_MO_hold_58 : decode prog_15_method_38_code 58 = .ok (.aload_n 0, 1) := by decide +kernel
theorem d_MO_hold_59 : decode prog_15_method_38_code 59 = .ok (.getfield 349, 3) := by decide +kernel
theorem d_MO_hold_62 : decode prog_15_method_38_code 62 = .ok (.aload_n 0, 1) := by decide +kernel
theorem d_MO_hold_63 : decode prog_15_method_38_code 63 = .ok (.getfield 352, 3) := by decide +kernel
theorem d_MO_hold_66 : decode prog_15_method_38_code 66 = .ok (.iastore, 1) := by decide +kernel
theorem d_MO_hold_67 : decode prog_15_method_38_code 67 = .ok (.iload_n 3, 1) := by decide +kernel
theorem d_MO_hold_68 : decode prog_15_method_38_code 68 = .ok (.istore 5, 2) := by decide +kernel
theorem d_MO_hold_70 : decode prog_15_method_38_code 70 = .ok (.iload 5, 2) := by decide +kernel
theorem d_MO_hold_72 : decode prog_15_method_38_code 72 = .ok (.iload 4, 2) := by decide +kernel
theorem d_MO_hold_74 : decode prog_15_method_38_code 74 = .ok (.if_icmp .ge 35, 3) := by decide +kernel
theorem d_MO_hold_77 : decode prog_15_method_38_code 77 = .ok (.aload_n 0, 1) := by decide +kernel
theorem d_MO_hold_78 : decode prog_15_method_38_code 78 = .ok (.getfield 124, 3) := by decide +kernel
theorem d_MO_hold_81 : decode prog_15_method_38_code 81 = .ok (.aload_n 0, 1) := by decide +kernel
theorem d_MO_hold_82 : decode prog_15_method_38_code 82 = .ok (.getfield 352, 3) := by decide +kernel
theorem d_MO_hold_85 : decode prog_15_method_38_code 85 = .ok (.aload_n 0, 1) := by decide +kernel
theorem d_MO_hold_86 : decode prog_15_method_38_code 86 = .ok (.getfield 143, 3) := by decide +kernel
theorem d_MO_hold_89 : decode prog_15_method_38_code 89 = .ok (.iload 5, 2) := by decide +kernel
theorem d_MO_hold_91 : decode prog_15_method_38_code 91 = .ok (.iaload, 1) := by decide +kernel
theorem d_MO_hold_92 : decode prog_15_method_38_code 92 = .ok (.iastore, 1) := by decide +kernel
theorem d_MO_hold_93 : decode prog_15_method_38_code 93 = .ok (.aload_n 0, 1) := by decide +kernel
theorem d_MO_hold_94 : decode prog_15_method_38_code 94 = .ok (.dup, 1) := by decide +kernel
theorem d_MO_hold_95 : decode prog_15_method_38_code 95 = .ok (.getfield 352, 3) := by decide +kernel
theorem d_MO_hold_98 : decode prog_15_method_38_code 98 = .ok (.iconst 1, 1) := by decide +kernel
theorem d_MO_hold_99 : decode prog_15_method_38_code 99 = .ok (.iadd, 1) := by decide +kernel
theorem d_MO_hold_100 : decode prog_15_method_38_code 100 = .ok (.putfield 352, 3) := by decide +kernel
theorem d_MO_hold_103 : decode prog_15_method_38_code 103 = .ok (.iinc 5 1, 3) := by decide +kernel
theorem d_MO_hold_106 : decode prog_15_method_38_code 106 = .ok (.goto (-36), 3) := by decide +kernel
theorem d_MO_hold_109 : decode prog_15_method_38_code 109 = .ok (.aload_n 0, 1) := by decide +kernel
theorem d_MO_hold_110 : decode prog_15_method_38_code 110 = .ok (.getfield 120, 3) := by decide +kernel
theorem d_MO_hold_113 : decode prog_15_method_38_code 113 = .ok (.aload_n 0, 1) := by decide +kernel
theorem d_MO_hold_114 : decode prog_15_method_38_code 114 = .ok (.getfield 349, 3) := by decide +kernel
theorem d_MO_hold_117 : decode prog_15_method_38_code 117 = .ok (.aload_n 0, 1) := by decide +kernel
theorem d_MO_hold_118 : decode prog_15_method_38_code 118 = .ok (.getfield 352, 3) := by decide +kernel
theorem d_MO_hold_121 : decode prog_15_method_38_code 121 = .ok (.iastore, 1) := by decide +kernel
theorem d_MO_hold_122 : decode prog_15_method_38_code 122 = .ok (.aload_n 0, 1) := by decide +kernel
theorem d_MO_hold_123 : decode prog_15_method_38_code 123 = .ok (.dup, 1) := by decide +kernel
theorem d_MO_hold_124 : decode prog_15_method_38_code 124 = .ok (.getfield 349, 3) := by decide +kernel
theorem d_MO_hold_127 : decode prog_15_method_38_code 127 = .ok (.iconst 1, 1) := by decide +kernel
