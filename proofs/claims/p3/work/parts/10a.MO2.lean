theorem d_MO_hold_128 : decode prog_15_method_38_code 128 = .ok (.iadd, 1) := by decide +kernel
theorem d_MO_hold_129 : decode prog_15_method_38_code 129 = .ok (.putfield 349, 3) := by decide +kernel
theorem d_MO_hold_132 : decode prog_15_method_38_code 132 = .ok (.return_, 1) := by decide +kernel
theorem d_MO_ifSame_0 : decode prog_15_method_52_code 0 = .ok (.aload_n 0, 1) := by decide +kernel
theorem d_MO_ifSame_1 : decode prog_15_method_52_code 1 = .ok (.getfield 278, 3) := by decide +kernel
theorem d_MO_ifSame_4 : decode prog_15_method_52_code 4 = .ok (.istore_n 1, 1) := by decide +kernel
theorem d_MO_ifSame_5 : decode prog_15_method_52_code 5 = .ok (.iload_n 1, 1) := by decide +kernel
theorem d_MO_ifSame_6 : decode prog_15_method_52_code 6 = .ok (.aload_n 0, 1) := by decide +kernel
theorem d_MO_ifSame_7 : decode prog_15_method_52_code 7 = .ok (.getfield 254, 3) := by decide +kernel
theorem d_MO_ifSame_10 : decode prog_15_method_52_code 10 = .ok (.if_icmp .ge 20, 3) := by decide +kernel
theorem d_MO_ifSame_13 : decode prog_15_method_52_code 13 = .ok (.aload_n 0, 1) := by decide +kernel
theorem d_MO_ifSame_14 : decode prog_15_method_52_code 14 = .ok (.getfield 143, 3) := by decide +kernel
theorem d_MO_ifSame_17 : decode prog_15_method_52_code 17 = .ok (.iload_n 1, 1) := by decide +kernel
theorem d_MO_ifSame_18 : decode prog_15_method_52_code 18 = .ok (.iaload, 1) := by decide +kernel
theorem d_MO_ifSame_19 : decode prog_15_method_52_code 19 = .ok (.bipush 44, 2) := by decide +kernel
theorem d_MO_ifSame_21 : decode prog_15_method_52_code 21 = .ok (.if_icmp .eq 9, 3) := by decide +kernel
theorem d_MO_ifSame_24 : decode prog_15_method_52_code 24 = .ok (.iinc 1 1, 3) := by decide +kernel
theorem d_MO_ifSame_27 : decode prog_15_method_52_code 27 = .ok (.goto (-22), 3) := by decide +kernel
theorem d_MO_ifSame_30 : decode prog_15_method_52_code 30 = .ok (.iload_n 1, 1) := by decide +kernel
theorem d_MO_ifSame_31 : decode prog_15_method_52_code 31 = .ok (.aload_n 0, 1) := by decide +kernel
theorem d_MO_ifSame_32 : decode prog_15_method_52_code 32 = .ok (.getfield 254, 3) := by decide +kernel
theorem d_MO_ifSame_35 : decode prog_15_method_52_code 35 = .ok (.if_icmp .ne 13, 3) := by decide +kernel
theorem d_MO_ifSame_38 : decode prog_15_method_52_code 38 = .ok (.aload_n 0, 1) := by decide +kernel
theorem d_MO_ifSame_39 : decode prog_15_method_52_code 39 = .ok (.iconst 1, 1) := by decide +kernel
theorem d_MO_ifSame_40 : decode prog_15_method_52_code 40 = .ok (.aload_n 0, 1) := by decide +kernel
theorem d_MO_ifSame_41 : decode prog_15_method_52_code 41 = .ok (.getfield 247, 3) := by decide +kernel
theorem d_MO_ifSame_44 : decode prog_15_method_52_code 44 = .ok (.invokevirtual 250, 3) := by decide +kernel
theorem d_MO_ifSame_47 : decode prog_15_method_52_code 47 = .ok (.return_, 1) := by decide +kernel
theorem d_MO_ifSame_48 : decode prog_15_method_52_code 48 = .ok (.aload_n 0, 1) := by decide +kernel
theorem d_MO_ifSame_49 : decode prog_15_method_52_code 49 = .ok (.getfield 349, 3) := by decide +kernel
theorem d_MO_ifSame_52 : decode prog_15_method_52_code 52 = .ok (.istore_n 2, 1) := by decide +kernel
theorem d_MO_ifSame_53 : decode prog_15_method_52_code 53 = .ok (.aload_n 0, 1) := by decide +kernel
theorem d_MO_ifSame_54 : decode prog_15_method_52_code 54 = .ok (.getfield 352, 3) := by decide +kernel
theorem d_MO_ifSame_57 : decode prog_15_method_52_code 57 = .ok (.istore_n 3, 1) := by decide +kernel
theorem d_MO_ifSame_58 : decode prog_15_method_52_code 58 = .ok (.aload_n 0, 1) := by decide +kernel
theorem d_MO_ifSame_59 : decode prog_15_method_52_code 59 = .ok (.aload_n 0, 1) := by decide +kernel
theorem d_MO_ifSame_60 : decode prog_15_method_52_code 60 = .ok (.getfield 278, 3) := by decide +kernel
theorem d_MO_ifSame_63 : decode prog_15_method_52_code 63 = .ok (.iload_n 1, 1) := by decide +kernel
theorem d_MO_ifSame_64 : decode prog_15_method_52_code 64 = .ok (.invokevirtual 355, 3) := by decide +kernel
theorem d_MO_ifSame_67 : decode prog_15_method_52_code 67 = .ok (.aload_n 0, 1) := by decide +kernel
theorem d_MO_ifSame_68 : decode prog_15_method_52_code 68 = .ok (.iload_n 1, 1) := by decide +kernel
theorem d_MO_ifSame_69 : decode prog_15_method_52_code 69 = .ok (.iconst 1, 1) := by decide +kernel
theorem d_MO_ifSame_70 : decode prog_15_method_52_code 70 = .ok (.iadd, 1) := by decide +kernel
theorem d_MO_ifSame_71 : decode prog_15_method_52_code 71 = .ok (.aload_n 0, 1) := by decide +kernel
theorem d_MO_ifSame_72 : decode prog_15_method_52_code 72 = .ok (.getfield 254, 3) := by decide +kernel
theorem d_MO_ifSame_75 : decode prog_15_method_52_code 75 = .ok (.invokevirtual 355, 3) := by decide +kernel
theorem d_MO_ifSame_78 : decode prog_15_method_52_code 78 = .ok (.aload_n 0, 1) := by decide +kernel
theorem d_MO_ifSame_79 : decode prog_15_method_52_code 79 = .ok (.getfield 120, 3) := by decide +kernel
theorem d_MO_ifSame_82 : decode prog_15_method_52_code 82 = .ok (.iload_n 2, 1) := by decide +kernel
theorem d_MO_ifSame_83 : decode prog_15_method_52_code 83 = .ok (.iaload, 1) := by decide +kernel
theorem d_MO_ifSame_84 : decode prog_15_method_52_code 84 = .ok (.aload_n 0, 1) := by decide +kernel
theorem d_MO_ifSame_85 : decode prog_15_method_52_code 85 = .ok (.getfield 117, 3) := by decide +kernel
theorem d_MO_ifSame_88 : decode prog_15_method_52_code 88 = .ok (.iload_n 2, 1) := by decide +kernel
theorem d_MO_ifSame_89 : decode prog_15_method_52_code 89 = .ok (.iaload, 1) := by decide +kernel
theorem d_MO_ifSame_90 : decode prog_15_method_52_code 90 = .ok (.isub, 1) := by decide +kernel
theorem d_MO_ifSame_91 : decode prog_15_method_52_code 91 = .ok (.istore 4, 2) := by decide +kernel
theorem d_MO_ifSame_93 : decode prog_15_method_52_code 93 = .ok (.iload 4, 2) := by decide +kernel
theorem d_MO_ifSame_95 : decode prog_15_method_52_code 95 = .ok (.aload_n 0, 1) := by decide +kernel
theorem d_MO_ifSame_96 : decode prog_15_method_52_code 96 = .ok (.getfield 120, 3) := by decide +kernel
theorem d_MO_ifSame_99 : decode prog_15_method_52_code 99 = .ok (.iload_n 2, 1) := by decide +kernel
theorem d_MO_ifSame_100 : decode prog_15_method_52_code 100 = .ok (.iconst 1, 1) := by decide +kernel
theorem d_MO_ifSame_101 : decode prog_15_method_52_code 101 = .ok (.iadd, 1) := by decide +kernel
theorem d_MO_ifSame_102 : decode prog_15_method_52_code 102 = .ok (.iaload, 1) := by decide +kernel
theorem d_MO_ifSame_103 : decode prog_15_method_52_code 103 = .ok (.aload_n 0, 1) := by decide +kernel
theorem d_MO_ifSame_104 : decode prog_15_method_52_code 104 = .ok (.getfield 117, 3) := by decide +kernel
theorem d_MO_ifSame_107 : decode prog_15_method_52_code 107 = .ok (.iload_n 2, 1) := by decide +kernel
theorem d_MO_ifSame_108 : decode prog_15_method_52_code 108 = .ok (.iconst 1, 1) := by decide +kernel
theorem d_MO_ifSame_109 : decode prog_15_method_52_code 109 = .ok (.iadd, 1) := by decide +kernel
theorem d_MO_ifSame_110 : decode prog_15_method_52_code 110 = .ok (.iaload, 1) := by decide +kernel
theorem d_MO_ifSame_111 : decode prog_15_method_52_code 111 = .ok (.isub, 1) := by decide +kernel
theorem d_MO_ifSame_112 : decode prog_15_method_52_code 112 = .ok (.if_icmp .ne 7, 3) := by decide +kernel
theorem d_MO_ifSame_115 : decode prog_15_method_52_code 115 = .ok (.iconst 1, 1) := by decide +kernel
theorem d_MO_ifSame_116 : decode prog_15_method_52_code 116 = .ok (.goto 4, 3) := by decide +kernel
theorem d_MO_ifSame_119 : decode prog_15_method_52_code 119 = .ok (.iconst 0, 1) := by decide +kernel
theorem d_MO_ifSame_120 : decode prog_15_method_52_code 120 = .ok (.istore 5, 2) := by decide +kernel
theorem d_MO_ifSame_122 : decode prog_15_method_52_code 122 = .ok (.iconst 0, 1) := by decide +kernel
theorem d_MO_ifSame_123 : decode prog_15_method_52_code 123 = .ok (.istore 6, 2) := by decide +kernel
theorem d_MO_ifSame_125 : decode prog_15_method_52_code 125 = .ok (.iload 6, 2) := by decide +kernel
theorem d_MO_ifSame_127 : decode prog_15_method_52_code 127 = .ok (.iload 4, 2) := by decide +kernel
theorem d_MO_ifSame_129 : decode prog_15_method_52_code 129 = .ok (.if_icmp .ge 54, 3) := by decide +kernel
theorem d_MO_ifSame_132 : decode prog_15_method_52_code 132 = .ok (.iload 5, 2) := by decide +kernel
theorem d_MO_ifSame_134 : decode prog_15_method_52_code 134 = .ok (.ifCond .eq 49, 3) := by decide +kernel
theorem d_MO_ifSame_137 : decode prog_15_method_52_code 137 = .ok (.aload_n 0, 1) := by decide +kernel
theorem d_MO_ifSame_138 : decode prog_15_method_52_code 138 = .ok (.getfield 124, 3) := by decide +kernel
theorem d_MO_ifSame_141 : decode prog_15_method_52_code 141 = .ok (.aload_n 0, 1) := by decide +kernel
theorem d_MO_ifSame_142 : decode prog_15_method_52_code 142 = .ok (.getfield 117, 3) := by decide +kernel
theorem d_MO_ifSame_145 : decode prog_15_method_52_code 145 = .ok (.iload_n 2, 1) := by decide +kernel
theorem d_MO_ifSame_146 : decode prog_15_method_52_code 146 = .ok (.iaload, 1) := by decide +kernel
theorem d_MO_ifSame_147 : decode prog_15_method_52_code 147 = .ok (.iload 6, 2) := by decide +kernel
theorem d_MO_ifSame_149 : decode prog_15_method_52_code 149 = .ok (.iadd, 1) := by decide +kernel
theorem d_MO_ifSame_150 : decode prog_15_method_52_code 150 = .ok (.iaload, 1) := by decide +kernel
theorem d_MO_ifSame_151 : decode prog_15_method_52_code 151 = .ok (.aload_n 0, 1) := by decide +kernel
theorem d_MO_ifSame_152 : decode prog_15_method_52_code 152 = .ok (.getfield 124, 3) := by decide +kernel
theorem d_MO_ifSame_155 : decode prog_15_method_52_code 155 = .ok (.aload_n 0, 1) := by decide +kernel
theorem d_MO_ifSame_156 : decode prog_15_method_52_code 156 = .ok (.getfield 117, 3) := by decide +kernel
theorem d_MO_ifSame_159 : decode prog_15_method_52_code 159 = .ok (.iload_n 2, 1) := by decide +kernel
theorem d_MO_ifSame_160 : decode prog_15_method_52_code 160 = .ok (.iconst 1, 1) := by decide +kernel
theorem d_MO_ifSame_161 : decode prog_15_method_52_code 161 = .ok (.iadd, 1) := by decide +kernel
theorem d_MO_ifSame_162 : decode prog_15_method_52_code 162 = .ok (.iaload, 1) := by decide +kernel
theorem d_MO_ifSame_163 : decode prog_15_method_52_code 163 = .ok (.iload 6, 2) := by decide +kernel
theorem d_MO_ifSame_165 : decode prog_15_method_52_code 165 = .ok (.iadd, 1) := by decide +kernel
theorem d_MO_ifSame_166 : decode prog_15_method_52_code 166 = .ok (.iaload, 1) := by decide +kernel
theorem d_MO_ifSame_167 : decode prog_15_method_52_code 167 = .ok (.if_icmp .ne 7, 3) := by decide +kernel
theorem d_MO_ifSame_170 : decode prog_15_method_52_code 170 = .ok (.iconst 1, 1) := by decide +kernel
theorem d_MO_ifSame_171 : decode prog_15_method_52_code 171 = .ok (.goto 4, 3) := by decide +kernel
theorem d_MO_ifSame_174 : decode prog_15_method_52_code 174 = .ok (.iconst 0, 1) := by decide +kernel
theorem d_MO_ifSame_175 : decode prog_15_method_52_code 175 = .ok (.istore 5, 2) := by decide +kernel
theorem d_MO_ifSame_177 : decode prog_15_method_52_code 177 = .ok (.iinc 6 1, 3) := by decide +kernel
theorem d_MO_ifSame_180 : decode prog_15_method_52_code 180 = .ok (.goto (-55), 3) := by decide +kernel
theorem d_MO_ifSame_183 : decode prog_15_method_52_code 183 = .ok (.aload_n 0, 1) := by decide +kernel
theorem d_MO_ifSame_184 : decode prog_15_method_52_code 184 = .ok (.iload_n 2, 1) := by decide +kernel
theorem d_MO_ifSame_185 : decode prog_15_method_52_code 185 = .ok (.putfield 349, 3) := by decide +kernel
theorem d_MO_ifSame_188 : decode prog_15_method_52_code 188 = .ok (.aload_n 0, 1) := by decide +kernel
theorem d_MO_ifSame_189 : decode prog_15_method_52_code 189 = .ok (.iload_n 3, 1) := by decide +kernel
theorem d_MO_ifSame_190 : decode prog_15_method_52_code 190 = .ok (.putfield 352, 3) := by decide +kernel
theorem d_MO_ifSame_193 : decode prog_15_method_52_code 193 = .ok (.aload_n 0, 1) := by decide +kernel
theorem d_MO_ifSame_194 : decode prog_15_method_52_code 194 = .ok (.iload 5, 2) := by decide +kernel
theorem d_MO_ifSame_196 : decode prog_15_method_52_code 196 = .ok (.iconst 0, 1) := by decide +kernel
theorem d_MO_ifSame_197 : decode prog_15_method_52_code 197 = .ok (.invokevirtual 405, 3) := by decide +kernel
theorem d_MO_ifSame_200 : decode prog_15_method_52_code 200 = .ok (.return_, 1) := by decide +kernel
theorem d_MO_readDefault_0 : decode prog_15_method_49_code 0 = .ok (.aload_n 0, 1) := by decide +kernel
theorem d_MO_readDefault_1 : decode prog_15_method_49_code 1 = .ok (.getfield 278, 3) := by decide +kernel
theorem d_MO_readDefault_4 : decode prog_15_method_49_code 4 = .ok (.istore_n 2, 1) := by decide +kernel
theorem d_MO_readDefault_5 : decode prog_15_method_49_code 5 = .ok (.aload_n 0, 1) := by decide +kernel
theorem d_MO_readDefault_6 : decode prog_15_method_49_code 6 = .ok (.getfield 278, 3) := by decide +kernel
theorem d_MO_readDefault_9 : decode prog_15_method_49_code 9 = .ok (.aload_n 0, 1) := by decide +kernel
theorem d_MO_readDefault_10 : decode prog_15_method_49_code 10 = .ok (.getfield 254, 3) := by decide +kernel
theorem d_MO_readDefault_13 : decode prog_15_method_49_code 13 = .ok (.if_icmp .ge 30, 3) := by decide +kernel
theorem d_MO_readDefault_16 : decode prog_15_method_49_code 16 = .ok (.aload_n 0, 1) := by decide +kernel
theorem d_MO_readDefault_17 : decode prog_15_method_49_code 17 = .ok (.getfield 143, 3) := by decide +kernel
theorem d_MO_readDefault_20 : decode prog_15_method_49_code 20 = .ok (.aload_n 0, 1) := by decide +kernel
theorem d_MO_readDefault_21 : decode prog_15_method_49_code 21 = .ok (.getfield 278, 3) := by decide +kernel
theorem d_MO_readDefault_24 : decode prog_15_method_49_code 24 = .ok (.iaload, 1) := by decide +kernel
theorem d_MO_readDefault_25 : decode prog_15_method_49_code 25 = .ok (.bipush 44, 2) := by decide +kernel
theorem d_MO_readDefault_27 : decode prog_15_method_49_code 27 = .ok (.if_icmp .eq 16, 3) := by decide +kernel
theorem d_MO_readDefault_30 : decode prog_15_method_49_code 30 = .ok (.aload_n 0, 1) := by decide +kernel
theorem d_MO_readDefault_31 : decode prog_15_method_49_code 31 = .ok (.dup, 1) := by decide +kernel
theorem d_MO_readDefault_32 : decode prog_15_method_49_code 32 = .ok (.getfield 278, 3) := by decide +kernel
theorem d_MO_readDefault_35 : decode prog_15_method_49_code 35 = .ok (.iconst 1, 1) := by decide +kernel
theorem d_MO_readDefault_36 : decode prog_15_method_49_code 36 = .ok (.iadd, 1) := by decide +kernel
theorem d_MO_readDefault_37 : decode prog_15_method_49_code 37 = .ok (.putfield 278, 3) := by decide +kernel
theorem d_MO_readDefault_40 : decode prog_15_method_49_code 40 = .ok (.goto (-35), 3) := by decide +kernel
theorem d_MO_readDefault_43 : decode prog_15_method_49_code 43 = .ok (.aload_n 0, 1) := by decide +kernel
theorem d_MO_readDefault_44 : decode prog_15_method_49_code 44 = .ok (.getfield 278, 3) := by decide +kernel
theorem d_MO_readDefault_47 : decode prog_15_method_49_code 47 = .ok (.istore_n 3, 1) := by decide +kernel
theorem d_MO_readDefault_48 : decode prog_15_method_49_code 48 = .ok (.iload_n 2, 1) := by decide +kernel
theorem d_MO_readDefault_49 : decode prog_15_method_49_code 49 = .ok (.iload_n 3, 1) := by decide +kernel
theorem d_MO_readDefault_50 : decode prog_15_method_49_code 50 = .ok (.if_icmp .ge 20, 3) := by decide +kernel
theorem d_MO_readDefault_53 : decode prog_15_method_49_code 53 = .ok (.aload_n 0, 1) := by decide +kernel
theorem d_MO_readDefault_54 : decode prog_15_method_49_code 54 = .ok (.getfield 143, 3) := by decide +kernel
theorem d_MO_readDefault_57 : decode prog_15_method_49_code 57 = .ok (.iload_n 2, 1) := by decide +kernel
theorem d_MO_readDefault_58 : decode prog_15_method_49_code 58 = .ok (.iaload, 1) := by decide +kernel
theorem d_MO_readDefault_59 : decode prog_15_method_49_code 59 = .ok (.bipush 32, 2) := by decide +kernel
theorem d_MO_readDefault_61 : decode prog_15_method_49_code 61 = .ok (.if_icmp .ne 9, 3) := by decide +kernel
theorem d_MO_readDefault_64 : decode prog_15_method_49_code 64 = .ok (.iinc 2 1, 3) := by decide +kernel
theorem d_MO_readDefault_67 : decode prog_15_method_49_code 67 = .ok (.goto (-19), 3) := by decide +kernel
theorem d_MO_readDefault_70 : decode prog_15_method_49_code 70 = .ok (.iload_n 2, 1) := by decide +kernel
theorem d_MO_readDefault_71 : decode prog_15_method_49_code 71 = .ok (.iload_n 3, 1) := by decide +kernel
theorem d_MO_readDefault_72 : decode prog_15_method_49_code 72 = .ok (.if_icmp .ge 22, 3) := by decide +kernel
theorem d_MO_readDefault_75 : decode prog_15_method_49_code 75 = .ok (.aload_n 0, 1) := by decide +kernel
theorem d_MO_readDefault_76 : decode prog_15_method_49_code 76 = .ok (.getfield 143, 3) := by decide +kernel
theorem d_MO_readDefault_79 : decode prog_15_method_49_code 79 = .ok (.iload_n 3, 1) := by decide +kernel
theorem d_MO_readDefault_80 : decode prog_15_method_49_code 80 = .ok (.iconst 1, 1) := by decide +kernel
theorem d_MO_readDefault_81 : decode prog_15_method_49_code 81 = .ok (.isub, 1) := by decide +kernel
theorem d_MO_readDefault_82 : decode prog_15_method_49_code 82 = .ok (.iaload, 1) := by decide +kernel
theorem d_MO_readDefault_83 : decode prog_15_method_49_code 83 = .ok (.bipush 32, 2) := by decide +kernel
theorem d_MO_readDefault_85 : decode prog_15_method_49_code 85 = .ok (.if_icmp .ne 9, 3) := by decide +kernel
theorem d_MO_readDefault_88 : decode prog_15_method_49_code 88 = .ok (.iinc 3 (-1), 3) := by decide +kernel
theorem d_MO_readDefault_91 : decode prog_15_method_49_code 91 = .ok (.goto (-21), 3) := by decide +kernel
theorem d_MO_readDefault_94 : decode prog_15_method_49_code 94 = .ok (.aload_n 0, 1) := by decide +kernel
theorem d_MO_readDefault_95 : decode prog_15_method_49_code 95 = .ok (.getfield 173, 3) := by decide +kernel
theorem d_MO_readDefault_98 : decode prog_15_method_49_code 98 = .ok (.aload_n 0, 1) := by decide +kernel
theorem d_MO_readDefault_99 : decode prog_15_method_49_code 99 = .ok (.getfield 393, 3) := by decide +kernel
theorem d_MO_readDefault_102 : decode prog_15_method_49_code 102 = .ok (.iload_n 2, 1) := by decide +kernel
theorem d_MO_readDefault_103 : decode prog_15_method_49_code 103 = .ok (.iload_n 1, 1) := by decide +kernel
theorem d_MO_readDefault_104 : decode prog_15_method_49_code 104 = .ok (.iadd, 1) := by decide +kernel
theorem d_MO_readDefault_105 : decode prog_15_method_49_code 105 = .ok (.iastore, 1) := by decide +kernel
theorem d_MO_readDefault_106 : decode prog_15_method_49_code 106 = .ok (.aload_n 0, 1) := by decide +kernel
theorem d_MO_readDefault_107 : decode prog_15_method_49_code 107 = .ok (.getfield 176, 3) := by decide +kernel
theorem d_MO_readDefault_110 : decode prog_15_method_49_code 110 = .ok (.aload_n 0, 1) := by decide +kernel
theorem d_MO_readDefault_111 : decode prog_15_method_49_code 111 = .ok (.getfield 393, 3) := by decide +kernel
theorem d_MO_readDefault_114 : decode prog_15_method_49_code 114 = .ok (.iload_n 3, 1) := by decide +kernel
theorem d_MO_readDefault_115 : decode prog_15_method_49_code 115 = .ok (.iload_n 1, 1) := by decide +kernel
theorem d_MO_readDefault_116 : decode prog_15_method_49_code 116 = .ok (.iadd, 1) := by decide +kernel
theorem d_MO_readDefault_117 : decode prog_15_method_49_code 117 = .ok (.iastore, 1) := by decide +kernel
theorem d_MO_readDefault_118 : decode prog_15_method_49_code 118 = .ok (.return_, 1) := by decide +kernel
theorem d_MO_readParameters_0 : decode prog_15_method_48_code 0 = .ok (.aload_n 0, 1) := by decide +kernel
theorem d_MO_readParameters_1 : decode prog_15_method_48_code 1 = .ok (.iconst 0, 1) := by decide +kernel
theorem d_MO_readParameters_2 : decode prog_15_method_48_code 2 = .ok (.putfield 393, 3) := by decide +kernel
theorem d_MO_readParameters_5 : decode prog_15_method_48_code 5 = .ok (.aload_n 0, 1) := by decide +kernel
theorem d_MO_readParameters_6 : decode prog_15_method_48_code 6 = .ok (.invokevirtual 284, 3) := by decide +kernel
theorem d_MO_readParameters_9 : decode prog_15_method_48_code 9 = .ok (.aload_n 0, 1) := by decide +kernel
theorem d_MO_readParameters_10 : decode prog_15_method_48_code 10 = .ok (.getfield 287, 3) := by decide +kernel
theorem d_MO_readParameters_13 : decode prog_15_method_48_code 13 = .ok (.ifCond .eq 215, 3) := by decide +kernel
theorem d_MO_readParameters_16 : decode prog_15_method_48_code 16 = .ok (.aload_n 0, 1) := by decide +kernel
theorem d_MO_readParameters_17 : decode prog_15_method_48_code 17 = .ok (.getfield 278, 3) := by decide +kernel
theorem d_MO_readParameters_20 : decode prog_15_method_48_code 20 = .ok (.aload_n 0, 1) := by decide +kernel
theorem d_MO_readParameters_21 : decode prog_15_method_48_code 21 = .ok (.getfield 254, 3) := by decide +kernel
theorem d_MO_readParameters_24 : decode prog_15_method_48_code 24 = .ok (.if_icmp .ge 204, 3) := by decide +kernel
theorem d_MO_readParameters_27 : decode prog_15_method_48_code 27 = .ok (.aload_n 0, 1) := by decide +kernel
theorem d_MO_readParameters_28 : decode prog_15_method_48_code 28 = .ok (.getfield 393, 3) := by decide +kernel
theorem d_MO_readParameters_31 : decode prog_15_method_48_code 31 = .ok (.ifCond .le 9, 3) := by decide +kernel
theorem d_MO_readParameters_34 : decode prog_15_method_48_code 34 = .ok (.aload_n 0, 1) := by decide +kernel
theorem d_MO_readParameters_35 : decode prog_15_method_48_code 35 = .ok (.bipush 44, 2) := by decide +kernel
theorem d_MO_readParameters_37 : decode prog_15_method_48_code 37 = .ok (.invokevirtual 340, 3) := by decide +kernel
theorem d_MO_readParameters_40 : decode prog_15_method_48_code 40 = .ok (.aload_n 0, 1) := by decide +kernel
theorem d_MO_readParameters_41 : decode prog_15_method_48_code 41 = .ok (.invokevirtual 320, 3) := by decide +kernel
theorem d_MO_readParameters_44 : decode prog_15_method_48_code 44 = .ok (.iconst 0, 1) := by decide +kernel
theorem d_MO_readParameters_45 : decode prog_15_method_48_code 45 = .ok (.istore_n 2, 1) := by decide +kernel
theorem d_MO_readParameters_46 : decode prog_15_method_48_code 46 = .ok (.iload_n 2, 1) := by decide +kernel
theorem d_MO_readParameters_47 : decode prog_15_method_48_code 47 = .ok (.aload_n 0, 1) := by decide +kernel
theorem d_MO_readParameters_48 : decode prog_15_method_48_code 48 = .ok (.getfield 393, 3) := by decide +kernel
theorem d_MO_readParameters_51 : decode prog_15_method_48_code 51 = .ok (.if_icmp .ge 53, 3) := by decide +kernel
theorem d_MO_readParameters_54 : decode prog_15_method_48_code 54 = .ok (.aload_n 0, 1) := by decide +kernel
theorem d_MO_readParameters_55 : decode prog_15_method_48_code 55 = .ok (.aload_n 0, 1) := by decide +kernel
theorem d_MO_readParameters_56 : decode prog_15_method_48_code 56 = .ok (.getfield 287, 3) := by decide +kernel
theorem d_MO_readParameters_59 : decode prog_15_method_48_code 59 = .ok (.ifCond .eq 35, 3) := by decide +kernel
theorem d_MO_readParameters_62 : decode prog_15_method_48_code 62 = .ok (.aload_n 0, 1) := by decide +kernel
theorem d_MO_readParameters_63 : decode prog_15_method_48_code 63 = .ok (.getfield 167, 3) := by decide +kernel
theorem d_MO_readParameters_66 : decode prog_15_method_48_code 66 = .ok (.iload_n 2, 1) := by decide +kernel
theorem d_MO_readParameters_67 : decode prog_15_method_48_code 67 = .ok (.laload, 1) := by decide +kernel
theorem d_MO_readParameters_68 : decode prog_15_method_48_code 68 = .ok (.aload_n 0, 1) := by decide +kernel
theorem d_MO_readParameters_69 : decode prog_15_method_48_code 69 = .ok (.getfield 291, 3) := by decide +kernel
theorem d_MO_readParameters_72 : decode prog_15_method_48_code 72 = .ok (.lcmp, 1) := by decide +kernel
theorem d_MO_readParameters_73 : decode prog_15_method_48_code 73 = .ok (.ifCond .ne 17, 3) := by decide +kernel
theorem d_MO_readParameters_76 : decode prog_15_method_48_code 76 = .ok (.aload_n 0, 1) := by decide +kernel
theorem d_MO_readParameters_77 : decode prog_15_method_48_code 77 = .ok (.getfield 170, 3) := by decide +kernel
theorem d_MO_readParameters_80 : decode prog_15_method_48_code 80 = .ok (.iload_n 2, 1) := by decide +kernel
theorem d_MO_readParameters_81 : decode prog_15_method_48_code 81 = .ok (.laload, 1) := by decide +kernel
theorem d_MO_readParameters_82 : decode prog_15_method_48_code 82 = .ok (.aload_n 0, 1) := by decide +kernel
theorem d_MO_readParameters_83 : decode prog_15_method_48_code 83 = .ok (.getfield 295, 3) := by decide +kernel
theorem d_MO_readParameters_86 : decode prog_15_method_48_code 86 = .ok (.lcmp, 1) := by decide +kernel
theorem d_MO_readParameters_87 : decode prog_15_method_48_code 87 = .ok (.ifCond .eq 7, 3) := by decide +kernel
theorem d_MO_readParameters_90 : decode prog_15_method_48_code 90 = .ok (.iconst 1, 1) := by decide +kernel
theorem d_MO_readParameters_91 : decode prog_15_method_48_code 91 = .ok (.goto 4, 3) := by decide +kernel
theorem d_MO_readParameters_94 : decode prog_15_method_48_code 94 = .ok (.iconst 0, 1) := by decide +kernel
theorem d_MO_readParameters_95 : decode prog_15_method_48_code 95 = .ok (.putfield 287, 3) := by decide +kernel
theorem d_MO_readParameters_98 : decode prog_15_method_48_code 98 = .ok (.iinc 2 1, 3) := by decide +kernel
theorem d_MO_readParameters_101 : decode prog_15_method_48_code 101 = .ok (.goto (-55), 3) := by decide +kernel
theorem d_MO_readParameters_104 : decode prog_15_method_48_code 104 = .ok (.aload_n 0, 1) := by decide +kernel
theorem d_MO_readParameters_105 : decode prog_15_method_48_code 105 = .ok (.aload_n 0, 1) := by decide +kernel
theorem d_MO_readParameters_106 : decode prog_15_method_48_code 106 = .ok (.getfield 287, 3) := by decide +kernel
theorem d_MO_readParameters_109 : decode prog_15_method_48_code 109 = .ok (.ifCond .eq 16, 3) := by decide +kernel
theorem d_MO_readParameters_112 : decode prog_15_method_48_code 112 = .ok (.aload_n 0, 1) := by decide +kernel
theorem d_MO_readParameters_113 : decode prog_15_method_48_code 113 = .ok (.getfield 393, 3) := by decide +kernel
theorem d_MO_readParameters_116 : decode prog_15_method_48_code 116 = .ok (.bipush 6, 2) := by decide +kernel
theorem d_MO_readParameters_118 : decode prog_15_method_48_code 118 = .ok (.if_icmp .ge 7, 3) := by decide +kernel
theorem d_MO_readParameters_121 : decode prog_15_method_48_code 121 = .ok (.iconst 1, 1) := by decide +kernel
theorem d_MO_readParameters_122 : decode prog_15_method_48_code 122 = .ok (.goto 4, 3) := by decide +kernel
theorem d_MO_readParameters_125 : decode prog_15_method_48_code 125 = .ok (.iconst 0, 1) := by decide +kernel
theorem d_MO_readParameters_126 : decode prog_15_method_48_code 126 = .ok (.putfield 287, 3) := by decide +kernel
theorem d_MO_readParameters_129 : decode prog_15_method_48_code 129 = .ok (.aload_n 0, 1) := by decide +kernel
theorem d_MO_readParameters_130 : decode prog_15_method_48_code 130 = .ok (.getfield 287, 3) := by decide +kernel
theorem d_MO_readParameters_133 : decode prog_15_method_48_code 133 = .ok (.ifCond .ne 4, 3) := by decide +kernel
theorem d_MO_readParameters_136 : decode prog_15_method_48_code 136 = .ok (.return_, 1) := by decide +kernel
theorem d_MO_readParameters_137 : decode prog_15_method_48_code 137 = .ok (.aload_n 0, 1) := by decide +kernel
theorem d_MO_readParameters_138 : decode prog_15_method_48_code 138 = .ok (.getfield 167, 3) := by decide +kernel
theorem d_MO_readParameters_141 : decode prog_15_method_48_code 141 = .ok (.aload_n 0, 1) := by decide +kernel
theorem d_MO_readParameters_142 : decode prog_15_method_48_code 142 = .ok (.getfield 393, 3) := by decide +kernel
theorem d_MO_readParameters_145 : decode prog_15_method_48_code 145 = .ok (.aload_n 0, 1) := by decide +kernel
theorem d_MO_readParameters_146 : decode prog_15_method_48_code 146 = .ok (.getfield 291, 3) := by decide +kernel
theorem d_MO_readParameters_149 : decode prog_15_method_48_code 149 = .ok (.lastore, 1) := by decide +kernel
theorem d_MO_readParameters_150 : decode prog_15_method_48_code 150 = .ok (.aload_n 0, 1) := by decide +kernel
theorem d_MO_readParameters_151 : decode prog_15_method_48_code 151 = .ok (.getfield 170, 3) := by decide +kernel
theorem d_MO_readParameters_154 : decode prog_15_method_48_code 154 = .ok (.aload_n 0, 1) := by decide +kernel
theorem d_MO_readParameters_155 : decode prog_15_method_48_code 155 = .ok (.getfield 393, 3) := by decide +kernel
theorem d_MO_readParameters_158 : decode prog_15_method_48_code 158 = .ok (.aload_n 0, 1) := by decide +kernel
theorem d_MO_readParameters_159 : decode prog_15_method_48_code 159 = .ok (.getfield 295, 3) := by decide +kernel
theorem d_MO_readParameters_162 : decode prog_15_method_48_code 162 = .ok (.lastore, 1) := by decide +kernel
theorem d_MO_readParameters_163 : decode prog_15_method_48_code 163 = .ok (.aload_n 0, 1) := by decide +kernel
theorem d_MO_readParameters_164 : decode prog_15_method_48_code 164 = .ok (.getfield 173, 3) := by decide +kernel
theorem d_MO_readParameters_167 : decode prog_15_method_48_code 167 = .ok (.aload_n 0, 1) := by decide +kernel
theorem d_MO_readParameters_168 : decode prog_15_method_48_code 168 = .ok (.getfield 393, 3) := by decide +kernel
theorem d_MO_readParameters_171 : decode prog_15_method_48_code 171 = .ok (.iconst (-1), 1) := by decide +kernel
theorem d_MO_readParameters_172 : decode prog_15_method_48_code 172 = .ok (.iastore, 1) := by decide +kernel
theorem d_MO_readParameters_173 : decode prog_15_method_48_code 173 = .ok (.aload_n 0, 1) := by decide +kernel
theorem d_MO_readParameters_174 : decode prog_15_method_48_code 174 = .ok (.getfield 176, 3) := by decide +kernel
theorem d_MO_readParameters_177 : decode prog_15_method_48_code 177 = .ok (.aload_n 0, 1) := by decide +kernel
theorem d_MO_readParameters_178 : decode prog_15_method_48_code 178 = .ok (.getfield 393, 3) := by decide +kernel
theorem d_MO_readParameters_181 : decode prog_15_method_48_code 181 = .ok (.iconst (-1), 1) := by decide +kernel
theorem d_MO_readParameters_182 : decode prog_15_method_48_code 182 = .ok (.iastore, 1) := by decide +kernel
theorem d_MO_readParameters_183 : decode prog_15_method_48_code 183 = .ok (.aload_n 0, 1) := by decide +kernel
theorem d_MO_readParameters_184 : decode prog_15_method_48_code 184 = .ok (.invokevirtual 284, 3) := by decide +kernel
theorem d_MO_readParameters_187 : decode prog_15_method_48_code 187 = .ok (.aload_n 0, 1) := by decide +kernel
theorem d_MO_readParameters_188 : decode prog_15_method_48_code 188 = .ok (.invokevirtual 281, 3) := by decide +kernel
theorem d_MO_readParameters_191 : decode prog_15_method_48_code 191 = .ok (.bipush 61, 2) := by decide +kernel
theorem d_MO_readParameters_193 : decode prog_15_method_48_code 193 = .ok (.if_icmp .ne 18, 3) := by decide +kernel
theorem d_MO_readParameters_196 : decode prog_15_method_48_code 196 = .ok (.aload_n 0, 1) := by decide +kernel
theorem d_MO_readParameters_197 : decode prog_15_method_48_code 197 = .ok (.dup, 1) := by decide +kernel
theorem d_MO_readParameters_198 : decode prog_15_method_48_code 198 = .ok (.getfield 278, 3) := by decide +kernel
theorem d_MO_readParameters_201 : decode prog_15_method_48_code 201 = .ok (.iconst 1, 1) := by decide +kernel
theorem d_MO_readParameters_202 : decode prog_15_method_48_code 202 = .ok (.iadd, 1) := by decide +kernel
theorem d_MO_readParameters_203 : decode prog_15_method_48_code 203 = .ok (.putfield 278, 3) := by decide +kernel
theorem d_MO_readParameters_206 : decode prog_15_method_48_code 206 = .ok (.aload_n 0, 1) := by decide +kernel
theorem d_MO_readParameters_207 : decode prog_15_method_48_code 207 = .ok (.iload_n 1, 1) := by decide +kernel
theorem d_MO_readParameters_208 : decode prog_15_method_48_code 208 = .ok (.invokevirtual 396, 3) := by decide +kernel
theorem d_MO_readParameters_211 : decode prog_15_method_48_code 211 = .ok (.aload_n 0, 1) := by decide +kernel
theorem d_MO_readParameters_212 : decode prog_15_method_48_code 212 = .ok (.dup, 1) := by decide +kernel
theorem d_MO_readParameters_213 : decode prog_15_method_48_code 213 = .ok (.getfield 393, 3) := by decide +kernel
theorem d_MO_readParameters_216 : decode prog_15_method_48_code 216 = .ok (.iconst 1, 1) := by decide +kernel
theorem d_MO_readParameters_217 : decode prog_15_method_48_code 217 = .ok (.iadd, 1) := by decide +kernel
theorem d_MO_readParameters_218 : decode prog_15_method_48_code 218 = .ok (.putfield 393, 3) := by decide +kernel
theorem d_MO_readParameters_221 : decode prog_15_method_48_code 221 = .ok (.aload_n 0, 1) := by decide +kernel
theorem d_MO_readParameters_222 : decode prog_15_method_48_code 222 = .ok (.invokevirtual 284, 3) := by decide +kernel
theorem d_MO_readParameters_225 : decode prog_15_method_48_code 225 = .ok (.goto (-216), 3) := by decide +kernel
theorem d_MO_readParameters_228 : decode prog_15_method_48_code 228 = .ok (.return_, 1) := by decide +kernel
theorem d_MO_macroOf_0 : decode prog_15_method_46_code 0 = .ok (.iconst (-1), 1) := by decide +kernel
theorem d_MO_macroOf_1 : decode prog_15_method_46_code 1 = .ok (.istore 5, 2) := by decide +kernel
theorem d_MO_macroOf_3 : decode prog_15_method_46_code 3 = .ok (.iconst 0, 1) := by decide +kernel
theorem d_MO_macroOf_4 : decode prog_15_method_46_code 4 = .ok (.istore 6, 2) := by decide +kernel
theorem d_MO_macroOf_6 : decode prog_15_method_46_code 6 = .ok (.iload 6, 2) := by decide +kernel
theorem d_MO_macroOf_8 : decode prog_15_method_46_code 8 = .ok (.aload_n 0, 1) := by decide +kernel
theorem d_MO_macroOf_9 : decode prog_15_method_46_code 9 = .ok (.getfield 387, 3) := by decide +kernel
theorem d_MO_macroOf_12 : decode prog_15_method_46_code 12 = .ok (.if_icmp .ge 42, 3) := by decide +kernel
theorem d_MO_macroOf_15 : decode prog_15_method_46_code 15 = .ok (.aload_n 0, 1) := by decide +kernel
theorem d_MO_macroOf_16 : decode prog_15_method_46_code 16 = .ok (.getfield 23, 3) := by decide +kernel
theorem d_MO_macroOf_19 : decode prog_15_method_46_code 19 = .ok (.iload 6, 2) := by decide +kernel
theorem d_MO_macroOf_21 : decode prog_15_method_46_code 21 = .ok (.laload, 1) := by decide +kernel
theorem d_MO_macroOf_22 : decode prog_15_method_46_code 22 = .ok (.lload_n 1, 1) := by decide +kernel
theorem d_MO_macroOf_23 : decode prog_15_method_46_code 23 = .ok (.lcmp, 1) := by decide +kernel
theorem d_MO_macroOf_24 : decode prog_15_method_46_code 24 = .ok (.ifCond .ne 20, 3) := by decide +kernel
theorem d_MO_macroOf_27 : decode prog_15_method_46_code 27 = .ok (.aload_n 0, 1) := by decide +kernel
theorem d_MO_macroOf_28 : decode prog_15_method_46_code 28 = .ok (.getfield 27, 3) := by decide +kernel
theorem d_MO_macroOf_31 : decode prog_15_method_46_code 31 = .ok (.iload 6, 2) := by decide +kernel
theorem d_MO_macroOf_33 : decode prog_15_method_46_code 33 = .ok (.laload, 1) := by decide +kernel
theorem d_MO_macroOf_34 : decode prog_15_method_46_code 34 = .ok (.lload_n 3, 1) := by decide +kernel
theorem d_MO_macroOf_35 : decode prog_15_method_46_code 35 = .ok (.lcmp, 1) := by decide +kernel
theorem d_MO_macroOf_36 : decode prog_15_method_46_code 36 = .ok (.ifCond .ne 8, 3) := by decide +kernel
theorem d_MO_macroOf_39 : decode prog_15_method_46_code 39 = .ok (.iload 6, 2) := by decide +kernel
theorem d_MO_macroOf_41 : decode prog_15_method_46_code 41 = .ok (.goto 5, 3) := by decide +kernel
theorem d_MO_macroOf_44 : decode prog_15_method_46_code 44 = .ok (.iload 5, 2) := by decide +kernel
theorem d_MO_macroOf_46 : decode prog_15_method_46_code 46 = .ok (.istore 5, 2) := by decide +kernel
theorem d_MO_macroOf_48 : decode prog_15_method_46_code 48 = .ok (.iinc 6 1, 3) := by decide +kernel
theorem d_MO_macroOf_51 : decode prog_15_method_46_code 51 = .ok (.goto (-45), 3) := by decide +kernel
theorem d_MO_macroOf_54 : decode prog_15_method_46_code 54 = .ok (.iload 5, 2) := by decide +kernel
theorem d_MO_macroOf_56 : decode prog_15_method_46_code 56 = .ok (.ireturn, 1) := by decide +kernel
theorem d_MO_define_0 : decode prog_15_method_50_code 0 = .ok (.aload_n 0, 1) := by decide +kernel
theorem d_MO_define_1 : decode prog_15_method_50_code 1 = .ok (.invokevirtual 320, 3) := by decide +kernel
theorem d_MO_define_4 : decode prog_15_method_50_code 4 = .ok (.aload_n 0, 1) := by decide +kernel
theorem d_MO_define_5 : decode prog_15_method_50_code 5 = .ok (.getfield 291, 3) := by decide +kernel
theorem d_MO_define_8 : decode prog_15_method_50_code 8 = .ok (.lstore_n 2, 1) := by decide +kernel
theorem d_MO_define_9 : decode prog_15_method_50_code 9 = .ok (.aload_n 0, 1) := by decide +kernel
theorem d_MO_define_10 : decode prog_15_method_50_code 10 = .ok (.getfield 295, 3) := by decide +kernel
theorem d_MO_define_13 : decode prog_15_method_50_code 13 = .ok (.lstore 4, 2) := by decide +kernel
theorem d_MO_define_15 : decode prog_15_method_50_code 15 = .ok (.aload_n 0, 1) := by decide +kernel
theorem d_MO_define_16 : decode prog_15_method_50_code 16 = .ok (.aload_n 0, 1) := by decide +kernel
theorem d_MO_define_17 : decode prog_15_method_50_code 17 = .ok (.getfield 244, 3) := by decide +kernel
theorem d_MO_define_20 : decode prog_15_method_50_code 20 = .ok (.iconst 1, 1) := by decide +kernel
theorem d_MO_define_21 : decode prog_15_method_50_code 21 = .ok (.if_icmp .ne 12, 3) := by decide +kernel
theorem d_MO_define_24 : decode prog_15_method_50_code 24 = .ok (.aload_n 0, 1) := by decide +kernel
theorem d_MO_define_25 : decode prog_15_method_50_code 25 = .ok (.getfield 13, 3) := by decide +kernel
theorem d_MO_define_28 : decode prog_15_method_50_code 28 = .ok (.iload_n 1, 1) := by decide +kernel
theorem d_MO_define_29 : decode prog_15_method_50_code 29 = .ok (.iaload, 1) := by decide +kernel
theorem d_MO_define_30 : decode prog_15_method_50_code 30 = .ok (.goto 4, 3) := by decide +kernel
theorem d_MO_define_33 : decode prog_15_method_50_code 33 = .ok (.iconst 0, 1) := by decide +kernel
theorem d_MO_define_34 : decode prog_15_method_50_code 34 = .ok (.invokevirtual 399, 3) := by decide +kernel
theorem d_MO_define_37 : decode prog_15_method_50_code 37 = .ok (.aload_n 0, 1) := by decide +kernel
theorem d_MO_define_38 : decode prog_15_method_50_code 38 = .ok (.invokevirtual 346, 3) := by decide +kernel
theorem d_MO_define_41 : decode prog_15_method_50_code 41 = .ok (.aload_n 0, 1) := by decide +kernel
theorem d_MO_define_42 : decode prog_15_method_50_code 42 = .ok (.getfield 287, 3) := by decide +kernel
theorem d_MO_define_45 : decode prog_15_method_50_code 45 = .ok (.ifCond .ne 13, 3) := by decide +kernel
theorem d_MO_define_48 : decode prog_15_method_50_code 48 = .ok (.aload_n 0, 1) := by decide +kernel
theorem d_MO_define_49 : decode prog_15_method_50_code 49 = .ok (.iconst 1, 1) := by decide +kernel
theorem d_MO_define_50 : decode prog_15_method_50_code 50 = .ok (.aload_n 0, 1) := by decide +kernel
theorem d_MO_define_51 : decode prog_15_method_50_code 51 = .ok (.getfield 247, 3) := by decide +kernel
theorem d_MO_define_54 : decode prog_15_method_50_code 54 = .ok (.invokevirtual 250, 3) := by decide +kernel
theorem d_MO_define_57 : decode prog_15_method_50_code 57 = .ok (.return_, 1) := by decide +kernel
theorem d_MO_define_58 : decode prog_15_method_50_code 58 = .ok (.aload_n 0, 1) := by decide +kernel
theorem d_MO_define_59 : decode prog_15_method_50_code 59 = .ok (.lload_n 2, 1) := by decide +kernel
theorem d_MO_define_60 : decode prog_15_method_50_code 60 = .ok (.lload 4, 2) := by decide +kernel
theorem d_MO_define_62 : decode prog_15_method_50_code 62 = .ok (.invokevirtual 402, 3) := by decide +kernel
theorem d_MO_define_65 : decode prog_15_method_50_code 65 = .ok (.ifCond .lt 13, 3) := by decide +kernel
theorem d_MO_define_68 : decode prog_15_method_50_code 68 = .ok (.aload_n 0, 1) := by decide +kernel
theorem d_MO_define_69 : decode prog_15_method_50_code 69 = .ok (.iconst 2, 1) := by decide +kernel
theorem d_MO_define_70 : decode prog_15_method_50_code 70 = .ok (.aload_n 0, 1) := by decide +kernel
theorem d_MO_define_71 : decode prog_15_method_50_code 71 = .ok (.getfield 247, 3) := by decide +kernel
theorem d_MO_define_74 : decode prog_15_method_50_code 74 = .ok (.invokevirtual 250, 3) := by decide +kernel
theorem d_MO_define_77 : decode prog_15_method_50_code 77 = .ok (.return_, 1) := by decide +kernel
theorem d_MO_define_78 : decode prog_15_method_50_code 78 = .ok (.aload_n 0, 1) := by decide +kernel
theorem d_MO_define_79 : decode prog_15_method_50_code 79 = .ok (.getfield 244, 3) := by decide +kernel
theorem d_MO_define_82 : decode prog_15_method_50_code 82 = .ok (.iconst 1, 1) := by decide +kernel
theorem d_MO_define_83 : decode prog_15_method_50_code 83 = .ok (.if_icmp .le 13, 3) := by decide +kernel
theorem d_MO_define_86 : decode prog_15_method_50_code 86 = .ok (.aload_n 0, 1) := by decide +kernel
theorem d_MO_define_87 : decode prog_15_method_50_code 87 = .ok (.iconst 5, 1) := by decide +kernel
theorem d_MO_define_88 : decode prog_15_method_50_code 88 = .ok (.aload_n 0, 1) := by decide +kernel
theorem d_MO_define_89 : decode prog_15_method_50_code 89 = .ok (.getfield 247, 3) := by decide +kernel
theorem d_MO_define_92 : decode prog_15_method_50_code 92 = .ok (.invokevirtual 250, 3) := by decide +kernel
theorem d_MO_define_95 : decode prog_15_method_50_code 95 = .ok (.return_, 1) := by decide +kernel
theorem d_MO_define_96 : decode prog_15_method_50_code 96 = .ok (.aload_n 0, 1) := by decide +kernel
theorem d_MO_define_97 : decode prog_15_method_50_code 97 = .ok (.getfield 87, 3) := by decide +kernel
theorem d_MO_define_100 : decode prog_15_method_50_code 100 = .ok (.iconst 0, 1) := by decide +kernel
theorem d_MO_define_101 : decode prog_15_method_50_code 101 = .ok (.iaload, 1) := by decide +kernel
theorem d_MO_define_102 : decode prog_15_method_50_code 102 = .ok (.istore 6, 2) := by decide +kernel
theorem d_MO_define_104 : decode prog_15_method_50_code 104 = .ok (.iload 6, 2) := by decide +kernel
theorem d_MO_define_106 : decode prog_15_method_50_code 106 = .ok (.istore 7, 2) := by decide +kernel
theorem d_MO_define_108 : decode prog_15_method_50_code 108 = .ok (.iconst 0, 1) := by decide +kernel
theorem d_MO_define_109 : decode prog_15_method_50_code 109 = .ok (.istore 8, 2) := by decide +kernel
theorem d_MO_define_111 : decode prog_15_method_50_code 111 = .ok (.iload 8, 2) := by decide +kernel
theorem d_MO_define_113 : decode prog_15_method_50_code 113 = .ok (.ifCond .ne 67, 3) := by decide +kernel
theorem d_MO_define_116 : decode prog_15_method_50_code 116 = .ok (.iload 7, 2) := by decide +kernel
theorem d_MO_define_118 : decode prog_15_method_50_code 118 = .ok (.aload_n 0, 1) := by decide +kernel
theorem d_MO_define_119 : decode prog_15_method_50_code 119 = .ok (.getfield 193, 3) := by decide +kernel
theorem d_MO_define_122 : decode prog_15_method_50_code 122 = .ok (.if_icmp .ge 58, 3) := by decide +kernel
theorem d_MO_define_125 : decode prog_15_method_50_code 125 = .ok (.aload_n 0, 1) := by decide +kernel
theorem d_MO_define_126 : decode prog_15_method_50_code 126 = .ok (.getfield 196, 3) := by decide +kernel
theorem d_MO_define_129 : decode prog_15_method_50_code 129 = .ok (.ifCond .ne 51, 3) := by decide +kernel
theorem d_MO_define_132 : decode prog_15_method_50_code 132 = .ok (.aload_n 0, 1) := by decide +kernel
theorem d_MO_define_133 : decode prog_15_method_50_code 133 = .ok (.iload 7, 2) := by decide +kernel
theorem d_MO_define_135 : decode prog_15_method_50_code 135 = .ok (.invokevirtual 367, 3) := by decide +kernel
theorem d_MO_define_138 : decode prog_15_method_50_code 138 = .ok (.aload_n 0, 1) := by decide +kernel
theorem d_MO_define_139 : decode prog_15_method_50_code 139 = .ok (.iload 7, 2) := by decide +kernel
theorem d_MO_define_141 : decode prog_15_method_50_code 141 = .ok (.invokevirtual 370, 3) := by decide +kernel
theorem d_MO_define_144 : decode prog_15_method_50_code 144 = .ok (.istore 9, 2) := by decide +kernel
theorem d_MO_define_146 : decode prog_15_method_50_code 146 = .ok (.iload 9, 2) := by decide +kernel
theorem d_MO_define_148 : decode prog_15_method_50_code 148 = .ok (.bipush 8, 2) := by decide +kernel
theorem d_MO_define_150 : decode prog_15_method_50_code 150 = .ok (.if_icmp .ne 10, 3) := by decide +kernel
theorem d_MO_define_153 : decode prog_15_method_50_code 153 = .ok (.aload_n 0, 1) := by decide +kernel
theorem d_MO_define_154 : decode prog_15_method_50_code 154 = .ok (.iconst 5, 1) := by decide +kernel
theorem d_MO_define_155 : decode prog_15_method_50_code 155 = .ok (.iload 7, 2) := by decide +kernel
theorem d_MO_define_157 : decode prog_15_method_50_code 157 = .ok (.invokevirtual 250, 3) := by decide +kernel
theorem d_MO_define_160 : decode prog_15_method_50_code 160 = .ok (.iload 9, 2) := by decide +kernel
theorem d_MO_define_162 : decode prog_15_method_50_code 162 = .ok (.bipush 9, 2) := by decide +kernel
theorem d_MO_define_164 : decode prog_15_method_50_code 164 = .ok (.if_icmp .ne 7, 3) := by decide +kernel
theorem d_MO_define_167 : decode prog_15_method_50_code 167 = .ok (.iconst 1, 1) := by decide +kernel
theorem d_MO_define_168 : decode prog_15_method_50_code 168 = .ok (.goto 4, 3) := by decide +kernel
theorem d_MO_define_171 : decode prog_15_method_50_code 171 = .ok (.iconst 0, 1) := by decide +kernel
theorem d_MO_define_172 : decode prog_15_method_50_code 172 = .ok (.istore 8, 2) := by decide +kernel
theorem d_MO_define_174 : decode prog_15_method_50_code 174 = .ok (.iinc 7 1, 3) := by decide +kernel
theorem d_MO_define_177 : decode prog_15_method_50_code 177 = .ok (.goto (-66), 3) := by decide +kernel
theorem d_MO_define_180 : decode prog_15_method_50_code 180 = .ok (.iload 8, 2) := by decide +kernel
theorem d_MO_define_182 : decode prog_15_method_50_code 182 = .ok (.ifCond .ne 12, 3) := by decide +kernel
theorem d_MO_define_185 : decode prog_15_method_50_code 185 = .ok (.aload_n 0, 1) := by decide +kernel
theorem d_MO_define_186 : decode prog_15_method_50_code 186 = .ok (.iconst 5, 1) := by decide +kernel
theorem d_MO_define_187 : decode prog_15_method_50_code 187 = .ok (.aload_n 0, 1) := by decide +kernel
theorem d_MO_define_188 : decode prog_15_method_50_code 188 = .ok (.getfield 247, 3) := by decide +kernel
theorem d_MO_define_191 : decode prog_15_method_50_code 191 = .ok (.invokevirtual 250, 3) := by decide +kernel
theorem d_MO_define_194 : decode prog_15_method_50_code 194 = .ok (.aload_n 0, 1) := by decide +kernel
theorem d_MO_define_195 : decode prog_15_method_50_code 195 = .ok (.getfield 196, 3) := by decide +kernel
theorem d_MO_define_198 : decode prog_15_method_50_code 198 = .ok (.ifCond .ne 22, 3) := by decide +kernel
theorem d_MO_define_201 : decode prog_15_method_50_code 201 = .ok (.aload_n 0, 1) := by decide +kernel
theorem d_MO_define_202 : decode prog_15_method_50_code 202 = .ok (.getfield 387, 3) := by decide +kernel
theorem d_MO_define_205 : decode prog_15_method_50_code 205 = .ok (.bipush 16, 2) := by decide +kernel
theorem d_MO_define_207 : decode prog_15_method_50_code 207 = .ok (.if_icmp .ne 13, 3) := by decide +kernel
theorem d_MO_define_210 : decode prog_15_method_50_code 210 = .ok (.aload_n 0, 1) := by decide +kernel
theorem d_MO_define_211 : decode prog_15_method_50_code 211 = .ok (.bipush 6, 2) := by decide +kernel
theorem d_MO_define_213 : decode prog_15_method_50_code 213 = .ok (.aload_n 0, 1) := by decide +kernel
theorem d_MO_define_214 : decode prog_15_method_50_code 214 = .ok (.getfield 247, 3) := by decide +kernel
theorem d_MO_define_217 : decode prog_15_method_50_code 217 = .ok (.invokevirtual 250, 3) := by decide +kernel
theorem d_MO_define_220 : decode prog_15_method_50_code 220 = .ok (.aload_n 0, 1) := by decide +kernel
theorem d_MO_define_221 : decode prog_15_method_50_code 221 = .ok (.getfield 196, 3) := by decide +kernel
theorem d_MO_define_224 : decode prog_15_method_50_code 224 = .ok (.ifCond .le 4, 3) := by decide +kernel
theorem d_MO_define_227 : decode prog_15_method_50_code 227 = .ok (.return_, 1) := by decide +kernel
theorem d_MO_define_228 : decode prog_15_method_50_code 228 = .ok (.aload_n 0, 1) := by decide +kernel
theorem d_MO_define_229 : decode prog_15_method_50_code 229 = .ok (.getfield 87, 3) := by decide +kernel
theorem d_MO_define_232 : decode prog_15_method_50_code 232 = .ok (.iconst 0, 1) := by decide +kernel
theorem d_MO_define_233 : decode prog_15_method_50_code 233 = .ok (.iload 7, 2) := by decide +kernel
theorem d_MO_define_235 : decode prog_15_method_50_code 235 = .ok (.iastore, 1) := by decide +kernel
theorem d_MO_define_236 : decode prog_15_method_50_code 236 = .ok (.aload_n 0, 1) := by decide +kernel
theorem d_MO_define_237 : decode prog_15_method_50_code 237 = .ok (.getfield 23, 3) := by decide +kernel
theorem d_MO_define_240 : decode prog_15_method_50_code 240 = .ok (.aload_n 0, 1) := by decide +kernel
theorem d_MO_define_241 : decode prog_15_method_50_code 241 = .ok (.getfield 387, 3) := by decide +kernel
theorem d_MO_define_244 : decode prog_15_method_50_code 244 = .ok (.lload_n 2, 1) := by decide +kernel
theorem d_MO_define_245 : decode prog_15_method_50_code 245 = .ok (.lastore, 1) := by decide +kernel
theorem d_MO_define_246 : decode prog_15_method_50_code 246 = .ok (.aload_n 0, 1) := by decide +kernel
theorem d_MO_define_247 : decode prog_15_method_50_code 247 = .ok (.getfield 27, 3) := by decide +kernel
theorem d_MO_define_250 : decode prog_15_method_50_code 250 = .ok (.aload_n 0, 1) := by decide +kernel
theorem d_MO_define_251 : decode prog_15_method_50_code 251 = .ok (.getfield 387, 3) := by decide +kernel
theorem d_MO_define_254 : decode prog_15_method_50_code 254 = .ok (.lload 4, 2) := by decide +kernel
theorem d_MO_define_256 : decode prog_15_method_50_code 256 = .ok (.lastore, 1) := by decide +kernel
theorem d_MO_define_257 : decode prog_15_method_50_code 257 = .ok (.aload_n 0, 1) := by decide +kernel
theorem d_MO_define_258 : decode prog_15_method_50_code 258 = .ok (.getfield 30, 3) := by decide +kernel
theorem d_MO_define_261 : decode prog_15_method_50_code 261 = .ok (.aload_n 0, 1) := by decide +kernel
theorem d_MO_define_262 : decode prog_15_method_50_code 262 = .ok (.getfield 387, 3) := by decide +kernel
theorem d_MO_define_265 : decode prog_15_method_50_code 265 = .ok (.iload 6, 2) := by decide +kernel
theorem d_MO_define_267 : decode prog_15_method_50_code 267 = .ok (.iastore, 1) := by decide +kernel
theorem d_MO_define_268 : decode prog_15_method_50_code 268 = .ok (.aload_n 0, 1) := by decide +kernel
theorem d_MO_define_269 : decode prog_15_method_50_code 269 = .ok (.getfield 33, 3) := by decide +kernel
theorem d_MO_define_272 : decode prog_15_method_50_code 272 = .ok (.aload_n 0, 1) := by decide +kernel
theorem d_MO_define_273 : decode prog_15_method_50_code 273 = .ok (.getfield 387, 3) := by decide +kernel
theorem d_MO_define_276 : decode prog_15_method_50_code 276 = .ok (.iload 7, 2) := by decide +kernel
theorem d_MO_define_278 : decode prog_15_method_50_code 278 = .ok (.iconst 1, 1) := by decide +kernel
theorem d_MO_define_279 : decode prog_15_method_50_code 279 = .ok (.isub, 1) := by decide +kernel
theorem d_MO_define_280 : decode prog_15_method_50_code 280 = .ok (.iastore, 1) := by decide +kernel
theorem d_MO_define_281 : decode prog_15_method_50_code 281 = .ok (.aload_n 0, 1) := by decide +kernel
theorem d_MO_define_282 : decode prog_15_method_50_code 282 = .ok (.getfield 36, 3) := by decide +kernel
theorem d_MO_define_285 : decode prog_15_method_50_code 285 = .ok (.aload_n 0, 1) := by decide +kernel
theorem d_MO_define_286 : decode prog_15_method_50_code 286 = .ok (.getfield 387, 3) := by decide +kernel
theorem d_MO_define_289 : decode prog_15_method_50_code 289 = .ok (.iload_n 1, 1) := by decide +kernel
theorem d_MO_define_290 : decode prog_15_method_50_code 290 = .ok (.iastore, 1) := by decide +kernel
theorem d_MO_define_291 : decode prog_15_method_50_code 291 = .ok (.aload_n 0, 1) := by decide +kernel
theorem d_MO_define_292 : decode prog_15_method_50_code 292 = .ok (.getfield 39, 3) := by decide +kernel
theorem d_MO_define_295 : decode prog_15_method_50_code 295 = .ok (.aload_n 0, 1) := by decide +kernel
theorem d_MO_define_296 : decode prog_15_method_50_code 296 = .ok (.getfield 387, 3) := by decide +kernel
theorem d_MO_define_299 : decode prog_15_method_50_code 299 = .ok (.iconst 0, 1) := by decide +kernel
theorem d_MO_define_300 : decode prog_15_method_50_code 300 = .ok (.iastore, 1) := by decide +kernel
theorem d_MO_define_301 : decode prog_15_method_50_code 301 = .ok (.aload_n 0, 1) := by decide +kernel
theorem d_MO_define_302 : decode prog_15_method_50_code 302 = .ok (.getfield 42, 3) := by decide +kernel
theorem d_MO_define_305 : decode prog_15_method_50_code 305 = .ok (.aload_n 0, 1) := by decide +kernel
theorem d_MO_define_306 : decode prog_15_method_50_code 306 = .ok (.getfield 387, 3) := by decide +kernel
theorem d_MO_define_309 : decode prog_15_method_50_code 309 = .ok (.aload_n 0, 1) := by decide +kernel
theorem d_MO_define_310 : decode prog_15_method_50_code 310 = .ok (.getfield 393, 3) := by decide +kernel
theorem d_MO_define_313 : decode prog_15_method_50_code 313 = .ok (.iastore, 1) := by decide +kernel
theorem d_MO_define_314 : decode prog_15_method_50_code 314 = .ok (.iconst 0, 1) := by decide +kernel
theorem d_MO_define_315 : decode prog_15_method_50_code 315 = .ok (.istore 9, 2) := by decide +kernel
theorem d_MO_define_317 : decode prog_15_method_50_code 317 = .ok (.iload 9, 2) := by decide +kernel
theorem d_MO_define_319 : decode prog_15_method_50_code 319 = .ok (.aload_n 0, 1) := by decide +kernel
theorem d_MO_define_320 : decode prog_15_method_50_code 320 = .ok (.getfield 393, 3) := by decide +kernel
theorem d_MO_define_323 : decode prog_15_method_50_code 323 = .ok (.if_icmp .ge 97, 3) := by decide +kernel
theorem d_MO_define_326 : decode prog_15_method_50_code 326 = .ok (.aload_n 0, 1) := by decide +kernel
theorem d_MO_define_327 : decode prog_15_method_50_code 327 = .ok (.getfield 45, 3) := by decide +kernel
theorem d_MO_define_330 : decode prog_15_method_50_code 330 = .ok (.bipush 6, 2) := by decide +kernel
theorem d_MO_define_332 : decode prog_15_method_50_code 332 = .ok (.aload_n 0, 1) := by decide +kernel
theorem d_MO_define_333 : decode prog_15_method_50_code 333 = .ok (.getfield 387, 3) := by decide +kernel
theorem d_MO_define_336 : decode prog_15_method_50_code 336 = .ok (.imul, 1) := by decide +kernel
theorem d_MO_define_337 : decode prog_15_method_50_code 337 = .ok (.iload 9, 2) := by decide +kernel
theorem d_MO_define_339 : decode prog_15_method_50_code 339 = .ok (.iadd, 1) := by decide +kernel
theorem d_MO_define_340 : decode prog_15_method_50_code 340 = .ok (.aload_n 0, 1) := by decide +kernel
theorem d_MO_define_341 : decode prog_15_method_50_code 341 = .ok (.getfield 167, 3) := by decide +kernel
theorem d_MO_define_344 : decode prog_15_method_50_code 344 = .ok (.iload 9, 2) := by decide +kernel
theorem d_MO_define_346 : decode prog_15_method_50_code 346 = .ok (.laload, 1) := by decide +kernel
theorem d_MO_define_347 : decode prog_15_method_50_code 347 = .ok (.lastore, 1) := by decide +kernel
theorem d_MO_define_348 : decode prog_15_method_50_code 348 = .ok (.aload_n 0, 1) := by decide +kernel
theorem d_MO_define_349 : decode prog_15_method_50_code 349 = .ok (.getfield 48, 3) := by decide +kernel
theorem d_MO_define_352 : decode prog_15_method_50_code 352 = .ok (.bipush 6, 2) := by decide +kernel
theorem d_MO_define_354 : decode prog_15_method_50_code 354 = .ok (.aload_n 0, 1) := by decide +kernel
theorem d_MO_define_355 : decode prog_15_method_50_code 355 = .ok (.getfield 387, 3) := by decide +kernel
theorem d_MO_define_358 : decode prog_15_method_50_code 358 = .ok (.imul, 1) := by decide +kernel
theorem d_MO_define_359 : decode prog_15_method_50_code 359 = .ok (.iload 9, 2) := by decide +kernel
theorem d_MO_define_361 : decode prog_15_method_50_code 361 = .ok (.iadd, 1) := by decide +kernel
theorem d_MO_define_362 : decode prog_15_method_50_code 362 = .ok (.aload_n 0, 1) := by decide +kernel
theorem d_MO_define_363 : decode prog_15_method_50_code 363 = .ok (.getfield 170, 3) := by decide +kernel
theorem d_MO_define_366 : decode prog_15_method_50_code 366 = .ok (.iload 9, 2) := by decide +kernel
theorem d_MO_define_368 : decode prog_15_method_50_code 368 = .ok (.laload, 1) := by decide +kernel
theorem d_MO_define_369 : decode prog_15_method_50_code 369 = .ok (.lastore, 1) := by decide +kernel
theorem d_MO_define_370 : decode prog_15_method_50_code 370 = .ok (.aload_n 0, 1) := by decide +kernel
theorem d_MO_define_371 : decode prog_15_method_50_code 371 = .ok (.getfield 51, 3) := by decide +kernel
theorem d_MO_define_374 : decode prog_15_method_50_code 374 = .ok (.bipush 6, 2) := by decide +kernel
theorem d_MO_define_376 : decode prog_15_method_50_code 376 = .ok (.aload_n 0, 1) := by decide +kernel
theorem d_MO_define_377 : decode prog_15_method_50_code 377 = .ok (.getfield 387, 3) := by decide +kernel
theorem d_MO_define_380 : decode prog_15_method_50_code 380 = .ok (.imul, 1) := by decide +kernel
theorem d_MO_define_381 : decode prog_15_method_50_code 381 = .ok (.iload 9, 2) := by decide +kernel
theorem d_MO_define_383 : decode prog_15_method_50_code 383 = .ok (.iadd, 1) := by decide +kernel
theorem d_MO_define_384 : decode prog_15_method_50_code 384 = .ok (.aload_n 0, 1) := by decide +kernel
theorem d_MO_define_385 : decode prog_15_method_50_code 385 = .ok (.getfield 173, 3) := by decide +kernel
theorem d_MO_define_388 : decode prog_15_method_50_code 388 = .ok (.iload 9, 2) := by decide +kernel
theorem d_MO_define_390 : decode prog_15_method_50_code 390 = .ok (.iaload, 1) := by decide +kernel
theorem d_MO_define_391 : decode prog_15_method_50_code 391 = .ok (.iastore, 1) := by decide +kernel
theorem d_MO_define_392 : decode prog_15_method_50_code 392 = .ok (.aload_n 0, 1) := by decide +kernel
theorem d_MO_define_393 : decode prog_15_method_50_code 393 = .ok (.getfield 54, 3) := by decide +kernel
theorem d_MO_define_396 : decode prog_15_method_50_code 396 = .ok (.bipush 6, 2) := by decide +kernel
theorem d_MO_define_398 : decode prog_15_method_50_code 398 = .ok (.aload_n 0, 1) := by decide +kernel
theorem d_MO_define_399 : decode prog_15_method_50_code 399 = .ok (.getfield 387, 3) := by decide +kernel
theorem d_MO_define_402 : decode prog_15_method_50_code 402 = .ok (.imul, 1) := by decide +kernel
theorem d_MO_define_403 : decode prog_15_method_50_code 403 = .ok (.iload 9, 2) := by decide +kernel
theorem d_MO_define_405 : decode prog_15_method_50_code 405 = .ok (.iadd, 1) := by decide +kernel
theorem d_MO_define_406 : decode prog_15_method_50_code 406 = .ok (.aload_n 0, 1) := by decide +kernel
theorem d_MO_define_407 : decode prog_15_method_50_code 407 = .ok (.getfield 176, 3) := by decide +kernel
theorem d_MO_define_410 : decode prog_15_method_50_code 410 = .ok (.iload 9, 2) := by decide +kernel
theorem d_MO_define_412 : decode prog_15_method_50_code 412 = .ok (.iaload, 1) := by decide +kernel
theorem d_MO_define_413 : decode prog_15_method_50_code 413 = .ok (.iastore, 1) := by decide +kernel
theorem d_MO_define_414 : decode prog_15_method_50_code 414 = .ok (.iinc 9 1, 3) := by decide +kernel
theorem d_MO_define_417 : decode prog_15_method_50_code 417 = .ok (.goto (-100), 3) := by decide +kernel
theorem d_MO_define_420 : decode prog_15_method_50_code 420 = .ok (.aload_n 0, 1) := by decide +kernel
theorem d_MO_define_421 : decode prog_15_method_50_code 421 = .ok (.dup, 1) := by decide +kernel
theorem d_MO_define_422 : decode prog_15_method_50_code 422 = .ok (.getfield 387, 3) := by decide +kernel
theorem d_MO_define_425 : decode prog_15_method_50_code 425 = .ok (.iconst 1, 1) := by decide +kernel
theorem d_MO_define_426 : decode prog_15_method_50_code 426 = .ok (.iadd, 1) := by decide +kernel
theorem d_MO_define_427 : decode prog_15_method_50_code 427 = .ok (.putfield 387, 3) := by decide +kernel
theorem d_MO_define_430 : decode prog_15_method_50_code 430 = .ok (.return_, 1) := by decide +kernel
theorem d_MO_bracketEnd_0 : decode prog_15_method_43_code 0 = .ok (.iconst 1, 1) := by decide +kernel
theorem d_MO_bracketEnd_1 : decode prog_15_method_43_code 1 = .ok (.istore_n 2, 1) := by decide +kernel
theorem d_MO_bracketEnd_2 : decode prog_15_method_43_code 2 = .ok (.aload_n 0, 1) := by decide +kernel
theorem d_MO_bracketEnd_3 : decode prog_15_method_43_code 3 = .ok (.getfield 87, 3) := by decide +kernel
theorem d_MO_bracketEnd_6 : decode prog_15_method_43_code 6 = .ok (.iload_n 1, 1) := by decide +kernel
theorem d_MO_bracketEnd_7 : decode prog_15_method_43_code 7 = .ok (.iaload, 1) := by decide +kernel
theorem d_MO_bracketEnd_8 : decode prog_15_method_43_code 8 = .ok (.istore_n 3, 1) := by decide +kernel
theorem d_MO_bracketEnd_9 : decode prog_15_method_43_code 9 = .ok (.iload_n 2, 1) := by decide +kernel
theorem d_MO_bracketEnd_10 : decode prog_15_method_43_code 10 = .ok (.ifCond .le 73, 3) := by decide +kernel
theorem d_MO_bracketEnd_13 : decode prog_15_method_43_code 13 = .ok (.iload_n 3, 1) := by decide +kernel
theorem d_MO_bracketEnd_14 : decode prog_15_method_43_code 14 = .ok (.aload_n 0, 1) := by decide +kernel
theorem d_MO_bracketEnd_15 : decode prog_15_method_43_code 15 = .ok (.getfield 84, 3) := by decide +kernel
theorem d_MO_bracketEnd_18 : decode prog_15_method_43_code 18 = .ok (.iload_n 1, 1) := by decide +kernel
theorem d_MO_bracketEnd_19 : decode prog_15_method_43_code 19 = .ok (.iaload, 1) := by decide +kernel
theorem d_MO_bracketEnd_20 : decode prog_15_method_43_code 20 = .ok (.if_icmp .ge 63, 3) := by decide +kernel
theorem d_MO_bracketEnd_23 : decode prog_15_method_43_code 23 = .ok (.aload_n 0, 1) := by decide +kernel
theorem d_MO_bracketEnd_24 : decode prog_15_method_43_code 24 = .ok (.getfield 196, 3) := by decide +kernel
theorem d_MO_bracketEnd_27 : decode prog_15_method_43_code 27 = .ok (.ifCond .ne 56, 3) := by decide +kernel
theorem d_MO_bracketEnd_30 : decode prog_15_method_43_code 30 = .ok (.aload_n 0, 1) := by decide +kernel
theorem d_MO_bracketEnd_31 : decode prog_15_method_43_code 31 = .ok (.iload_n 3, 1) := by decide +kernel
theorem d_MO_bracketEnd_32 : decode prog_15_method_43_code 32 = .ok (.invokevirtual 367, 3) := by decide +kernel
theorem d_MO_bracketEnd_35 : decode prog_15_method_43_code 35 = .ok (.aload_n 0, 1) := by decide +kernel
theorem d_MO_bracketEnd_36 : decode prog_15_method_43_code 36 = .ok (.iload_n 3, 1) := by decide +kernel
theorem d_MO_bracketEnd_37 : decode prog_15_method_43_code 37 = .ok (.invokevirtual 370, 3) := by decide +kernel
theorem d_MO_bracketEnd_40 : decode prog_15_method_43_code 40 = .ok (.istore 4, 2) := by decide +kernel
theorem d_MO_bracketEnd_42 : decode prog_15_method_43_code 42 = .ok (.iload 4, 2) := by decide +kernel
theorem d_MO_bracketEnd_44 : decode prog_15_method_43_code 44 = .ok (.bipush 10, 2) := by decide +kernel
theorem d_MO_bracketEnd_46 : decode prog_15_method_43_code 46 = .ok (.if_icmp .eq 10, 3) := by decide +kernel
theorem d_MO_bracketEnd_49 : decode prog_15_method_43_code 49 = .ok (.iload 4, 2) := by decide +kernel
theorem d_MO_bracketEnd_51 : decode prog_15_method_43_code 51 = .ok (.bipush 11, 2) := by decide +kernel
theorem d_MO_bracketEnd_53 : decode prog_15_method_43_code 53 = .ok (.if_icmp .ne 9, 3) := by decide +kernel
theorem d_MO_bracketEnd_56 : decode prog_15_method_43_code 56 = .ok (.iload_n 2, 1) := by decide +kernel
theorem d_MO_bracketEnd_57 : decode prog_15_method_43_code 57 = .ok (.iconst 1, 1) := by decide +kernel
theorem d_MO_bracketEnd_58 : decode prog_15_method_43_code 58 = .ok (.iadd, 1) := by decide +kernel
theorem d_MO_bracketEnd_59 : decode prog_15_method_43_code 59 = .ok (.goto 17, 3) := by decide +kernel
theorem d_MO_bracketEnd_62 : decode prog_15_method_43_code 62 = .ok (.iload 4, 2) := by decide +kernel
theorem d_MO_bracketEnd_64 : decode prog_15_method_43_code 64 = .ok (.bipush 12, 2) := by decide +kernel
theorem d_MO_bracketEnd_66 : decode prog_15_method_43_code 66 = .ok (.if_icmp .ne 9, 3) := by decide +kernel
theorem d_MO_bracketEnd_69 : decode prog_15_method_43_code 69 = .ok (.iload_n 2, 1) := by decide +kernel
theorem d_MO_bracketEnd_70 : decode prog_15_method_43_code 70 = .ok (.iconst 1, 1) := by decide +kernel
theorem d_MO_bracketEnd_71 : decode prog_15_method_43_code 71 = .ok (.isub, 1) := by decide +kernel
theorem d_MO_bracketEnd_72 : decode prog_15_method_43_code 72 = .ok (.goto 4, 3) := by decide +kernel
theorem d_MO_bracketEnd_75 : decode prog_15_method_43_code 75 = .ok (.iload_n 2, 1) := by decide +kernel
theorem d_MO_bracketEnd_76 : decode prog_15_method_43_code 76 = .ok (.istore_n 2, 1) := by decide +kernel
theorem d_MO_bracketEnd_77 : decode prog_15_method_43_code 77 = .ok (.iinc 3 1, 3) := by decide +kernel
theorem d_MO_bracketEnd_80 : decode prog_15_method_43_code 80 = .ok (.goto (-71), 3) := by decide +kernel
theorem d_MO_bracketEnd_83 : decode prog_15_method_43_code 83 = .ok (.aload_n 0, 1) := by decide +kernel
theorem d_MO_bracketEnd_84 : decode prog_15_method_43_code 84 = .ok (.getfield 196, 3) := by decide +kernel
theorem d_MO_bracketEnd_87 : decode prog_15_method_43_code 87 = .ok (.ifCond .le 5, 3) := by decide +kernel
theorem d_MO_bracketEnd_90 : decode prog_15_method_43_code 90 = .ok (.iconst (-1), 1) := by decide +kernel
theorem d_MO_bracketEnd_91 : decode prog_15_method_43_code 91 = .ok (.ireturn, 1) := by decide +kernel
theorem d_MO_bracketEnd_92 : decode prog_15_method_43_code 92 = .ok (.iload_n 2, 1) := by decide +kernel
theorem d_MO_bracketEnd_93 : decode prog_15_method_43_code 93 = .ok (.ifCond .le 14, 3) := by decide +kernel
theorem d_MO_bracketEnd_96 : decode prog_15_method_43_code 96 = .ok (.aload_n 0, 1) := by decide +kernel
theorem d_MO_bracketEnd_97 : decode prog_15_method_43_code 97 = .ok (.iconst 5, 1) := by decide +kernel
theorem d_MO_bracketEnd_98 : decode prog_15_method_43_code 98 = .ok (.aload_n 0, 1) := by decide +kernel
theorem d_MO_bracketEnd_99 : decode prog_15_method_43_code 99 = .ok (.getfield 247, 3) := by decide +kernel
theorem d_MO_bracketEnd_102 : decode prog_15_method_43_code 102 = .ok (.invokevirtual 250, 3) := by decide +kernel
theorem d_MO_bracketEnd_105 : decode prog_15_method_43_code 105 = .ok (.iconst (-1), 1) := by decide +kernel
theorem d_MO_bracketEnd_106 : decode prog_15_method_43_code 106 = .ok (.ireturn, 1) := by decide +kernel
theorem d_MO_bracketEnd_107 : decode prog_15_method_43_code 107 = .ok (.iload_n 3, 1) := by decide +kernel
theorem d_MO_bracketEnd_108 : decode prog_15_method_43_code 108 = .ok (.ireturn, 1) := by decide +kernel
theorem d_MO_repeat_0 : decode prog_15_method_44_code 0 = .ok (.aload_n 0, 1) := by decide +kernel
theorem d_MO_repeat_1 : decode prog_15_method_44_code 1 = .ok (.invokevirtual 374, 3) := by decide +kernel
theorem d_MO_repeat_4 : decode prog_15_method_44_code 4 = .ok (.istore_n 1, 1) := by decide +kernel
theorem d_MO_repeat_5 : decode prog_15_method_44_code 5 = .ok (.aload_n 0, 1) := by decide +kernel
theorem d_MO_repeat_6 : decode prog_15_method_44_code 6 = .ok (.getfield 196, 3) := by decide +kernel
theorem d_MO_repeat_9 : decode prog_15_method_44_code 9 = .ok (.ifCond .le 4, 3) := by decide +kernel
theorem d_MO_repeat_12 : decode prog_15_method_44_code 12 = .ok (.return_, 1) := by decide +kernel
theorem d_MO_repeat_13 : decode prog_15_method_44_code 13 = .ok (.iload_n 1, 1) := by decide +kernel
theorem d_MO_repeat_14 : decode prog_15_method_44_code 14 = .ok (.iconst 0, 1) := by decide +kernel
theorem d_MO_repeat_15 : decode prog_15_method_44_code 15 = .ok (.bipush 100, 2) := by decide +kernel
theorem d_MO_repeat_17 : decode prog_15_method_44_code 17 = .ok (.invokestatic 182, 3) := by decide +kernel
theorem d_MO_repeat_20 : decode prog_15_method_44_code 20 = .ok (.ifCond .ne 13, 3) := by decide +kernel
theorem d_MO_repeat_23 : decode prog_15_method_44_code 23 = .ok (.aload_n 0, 1) := by decide +kernel
theorem d_MO_repeat_24 : decode prog_15_method_44_code 24 = .ok (.iconst 4, 1) := by decide +kernel
theorem d_MO_repeat_25 : decode prog_15_method_44_code 25 = .ok (.aload_n 0, 1) := by decide +kernel
theorem d_MO_repeat_26 : decode prog_15_method_44_code 26 = .ok (.getfield 247, 3) := by decide +kernel
theorem d_MO_repeat_29 : decode prog_15_method_44_code 29 = .ok (.invokevirtual 250, 3) := by decide +kernel
theorem d_MO_repeat_32 : decode prog_15_method_44_code 32 = .ok (.return_, 1) := by decide +kernel
theorem d_MO_repeat_33 : decode prog_15_method_44_code 33 = .ok (.aload_n 0, 1) := by decide +kernel
theorem d_MO_repeat_34 : decode prog_15_method_44_code 34 = .ok (.getfield 244, 3) := by decide +kernel
theorem d_MO_repeat_37 : decode prog_15_method_44_code 37 = .ok (.iconst 1, 1) := by decide +kernel
theorem d_MO_repeat_38 : decode prog_15_method_44_code 38 = .ok (.isub, 1) := by decide +kernel
theorem d_MO_repeat_39 : decode prog_15_method_44_code 39 = .ok (.istore_n 2, 1) := by decide +kernel
theorem d_MO_repeat_40 : decode prog_15_method_44_code 40 = .ok (.aload_n 0, 1) := by decide +kernel
theorem d_MO_repeat_41 : decode prog_15_method_44_code 41 = .ok (.getfield 87, 3) := by decide +kernel
theorem d_MO_repeat_44 : decode prog_15_method_44_code 44 = .ok (.iload_n 2, 1) := by decide +kernel
theorem d_MO_repeat_45 : decode prog_15_method_44_code 45 = .ok (.iaload, 1) := by decide +kernel
theorem d_MO_repeat_46 : decode prog_15_method_44_code 46 = .ok (.istore_n 3, 1) := by decide +kernel
theorem d_MO_repeat_47 : decode prog_15_method_44_code 47 = .ok (.aload_n 0, 1) := by decide +kernel
theorem d_MO_repeat_48 : decode prog_15_method_44_code 48 = .ok (.iload_n 2, 1) := by decide +kernel
theorem d_MO_repeat_49 : decode prog_15_method_44_code 49 = .ok (.invokevirtual 377, 3) := by decide +kernel
theorem d_MO_repeat_52 : decode prog_15_method_44_code 52 = .ok (.istore 4, 2) := by decide +kernel
theorem d_MO_repeat_54 : decode prog_15_method_44_code 54 = .ok (.iload 4, 2) := by decide +kernel
theorem d_MO_repeat_56 : decode prog_15_method_44_code 56 = .ok (.ifCond .ge 4, 3) := by decide +kernel
theorem d_MO_repeat_59 : decode prog_15_method_44_code 59 = .ok (.return_, 1) := by decide +kernel
theorem d_MO_repeat_60 : decode prog_15_method_44_code 60 = .ok (.aload_n 0, 1) := by decide +kernel
theorem d_MO_repeat_61 : decode prog_15_method_44_code 61 = .ok (.getfield 87, 3) := by decide +kernel
theorem d_MO_repeat_64 : decode prog_15_method_44_code 64 = .ok (.iload_n 2, 1) := by decide +kernel
theorem d_MO_repeat_65 : decode prog_15_method_44_code 65 = .ok (.iload 4, 2) := by decide +kernel
theorem d_MO_repeat_67 : decode prog_15_method_44_code 67 = .ok (.iastore, 1) := by decide +kernel
theorem d_MO_repeat_68 : decode prog_15_method_44_code 68 = .ok (.iload_n 1, 1) := by decide +kernel
theorem d_MO_repeat_69 : decode prog_15_method_44_code 69 = .ok (.ifCond .le 25, 3) := by decide +kernel
theorem d_MO_repeat_72 : decode prog_15_method_44_code 72 = .ok (.aload_n 0, 1) := by decide +kernel
theorem d_MO_repeat_73 : decode prog_15_method_44_code 73 = .ok (.getfield 244, 3) := by decide +kernel
theorem d_MO_repeat_76 : decode prog_15_method_44_code 76 = .ok (.bipush 12, 2) := by decide +kernel
theorem d_MO_repeat_78 : decode prog_15_method_44_code 78 = .ok (.if_icmp .le 16, 3) := by decide +kernel
theorem d_MO_repeat_81 : decode prog_15_method_44_code 81 = .ok (.aload_n 0, 1) := by decide +kernel
theorem d_MO_repeat_82 : decode prog_15_method_44_code 82 = .ok (.bipush 6, 2) := by decide +kernel
theorem d_MO_repeat_84 : decode prog_15_method_44_code 84 = .ok (.aload_n 0, 1) := by decide +kernel
theorem d_MO_repeat_85 : decode prog_15_method_44_code 85 = .ok (.getfield 247, 3) := by decide +kernel
theorem d_MO_repeat_88 : decode prog_15_method_44_code 88 = .ok (.invokevirtual 250, 3) := by decide +kernel
theorem d_MO_repeat_91 : decode prog_15_method_44_code 91 = .ok (.goto 26, 3) := by decide +kernel
theorem d_MO_repeat_94 : decode prog_15_method_44_code 94 = .ok (.iload_n 1, 1) := by decide +kernel
theorem d_MO_repeat_95 : decode prog_15_method_44_code 95 = .ok (.ifCond .le 22, 3) := by decide +kernel
theorem d_MO_repeat_98 : decode prog_15_method_44_code 98 = .ok (.aload_n 0, 1) := by decide +kernel
theorem d_MO_repeat_99 : decode prog_15_method_44_code 99 = .ok (.iconst 2, 1) := by decide +kernel
theorem d_MO_repeat_100 : decode prog_15_method_44_code 100 = .ok (.iload_n 3, 1) := by decide +kernel
theorem d_MO_repeat_101 : decode prog_15_method_44_code 101 = .ok (.iload 4, 2) := by decide +kernel
theorem d_MO_repeat_103 : decode prog_15_method_44_code 103 = .ok (.iconst 1, 1) := by decide +kernel
theorem d_MO_repeat_104 : decode prog_15_method_44_code 104 = .ok (.isub, 1) := by decide +kernel
theorem d_MO_repeat_105 : decode prog_15_method_44_code 105 = .ok (.iload_n 1, 1) := by decide +kernel
theorem d_MO_repeat_106 : decode prog_15_method_44_code 106 = .ok (.aload_n 0, 1) := by decide +kernel
theorem d_MO_repeat_107 : decode prog_15_method_44_code 107 = .ok (.getfield 349, 3) := by decide +kernel
theorem d_MO_repeat_110 : decode prog_15_method_44_code 110 = .ok (.aload_n 0, 1) := by decide +kernel
theorem d_MO_repeat_111 : decode prog_15_method_44_code 111 = .ok (.getfield 352, 3) := by decide +kernel
theorem d_MO_repeat_114 : decode prog_15_method_44_code 114 = .ok (.invokevirtual 380, 3) := by decide +kernel
theorem d_MO_repeat_117 : decode prog_15_method_44_code 117 = .ok (.return_, 1) := by decide +kernel
theorem d_MO_readTexts_0 : decode prog_15_method_39_code 0 = .ok (.iconst 0, 1) := by decide +kernel
theorem d_MO_readTexts_1 : decode prog_15_method_39_code 1 = .ok (.istore_n 1, 1) := by decide +kernel
theorem d_MO_readTexts_2 : decode prog_15_method_39_code 2 = .ok (.iconst 0, 1) := by decide +kernel
theorem d_MO_readTexts_3 : decode prog_15_method_39_code 3 = .ok (.istore_n 2, 1) := by decide +kernel
theorem d_MO_readTexts_4 : decode prog_15_method_39_code 4 = .ok (.aload_n 0, 1) := by decide +kernel
theorem d_MO_readTexts_5 : decode prog_15_method_39_code 5 = .ok (.getfield 278, 3) := by decide +kernel
theorem d_MO_readTexts_8 : decode prog_15_method_39_code 8 = .ok (.istore_n 3, 1) := by decide +kernel
theorem d_MO_readTexts_9 : decode prog_15_method_39_code 9 = .ok (.aload_n 0, 1) := by decide +kernel
theorem d_MO_readTexts_10 : decode prog_15_method_39_code 10 = .ok (.getfield 278, 3) := by decide +kernel
theorem d_MO_readTexts_13 : decode prog_15_method_39_code 13 = .ok (.istore 4, 2) := by decide +kernel
theorem d_MO_readTexts_15 : decode prog_15_method_39_code 15 = .ok (.iload 4, 2) := by decide +kernel
theorem d_MO_readTexts_17 : decode prog_15_method_39_code 17 = .ok (.aload_n 0, 1) := by decide +kernel
theorem d_MO_readTexts_18 : decode prog_15_method_39_code 18 = .ok (.getfield 254, 3) := by decide +kernel
theorem d_MO_readTexts_21 : decode prog_15_method_39_code 21 = .ok (.if_icmp .gt 147, 3) := by decide +kernel
theorem d_MO_readTexts_24 : decode prog_15_method_39_code 24 = .ok (.iload 4, 2) := by decide +kernel
theorem d_MO_readTexts_26 : decode prog_15_method_39_code 26 = .ok (.aload_n 0, 1) := by decide +kernel
theorem d_MO_readTexts_27 : decode prog_15_method_39_code 27 = .ok (.getfield 254, 3) := by decide +kernel
theorem d_MO_readTexts_30 : decode prog_15_method_39_code 30 = .ok (.if_icmp .ge 13, 3) := by decide +kernel
theorem d_MO_readTexts_33 : decode prog_15_method_39_code 33 = .ok (.aload_n 0, 1) := by decide +kernel
theorem d_MO_readTexts_34 : decode prog_15_method_39_code 34 = .ok (.getfield 143, 3) := by decide +kernel
theorem d_MO_readTexts_37 : decode prog_15_method_39_code 37 = .ok (.iload 4, 2) := by decide +kernel
theorem d_MO_readTexts_39 : decode prog_15_method_39_code 39 = .ok (.iaload, 1) := by decide +kernel
theorem d_MO_readTexts_40 : decode prog_15_method_39_code 40 = .ok (.goto 5, 3) := by decide +kernel
theorem d_MO_readTexts_43 : decode prog_15_method_39_code 43 = .ok (.bipush 44, 2) := by decide +kernel
theorem d_MO_readTexts_45 : decode prog_15_method_39_code 45 = .ok (.istore 5, 2) := by decide +kernel
theorem d_MO_readTexts_47 : decode prog_15_method_39_code 47 = .ok (.iload 5, 2) := by decide +kernel
theorem d_MO_readTexts_49 : decode prog_15_method_39_code 49 = .ok (.bipush 44, 2) := by decide +kernel
theorem d_MO_readTexts_51 : decode prog_15_method_39_code 51 = .ok (.if_icmp .ne 20, 3) := by decide +kernel
theorem d_MO_readTexts_54 : decode prog_15_method_39_code 54 = .ok (.iload_n 2, 1) := by decide +kernel
theorem d_MO_readTexts_55 : decode prog_15_method_39_code 55 = .ok (.ifCond .eq 12, 3) := by decide +kernel
theorem d_MO_readTexts_58 : decode prog_15_method_39_code 58 = .ok (.iload 4, 2) := by decide +kernel
theorem d_MO_readTexts_60 : decode prog_15_method_39_code 60 = .ok (.aload_n 0, 1) := by decide +kernel
theorem d_MO_readTexts_61 : decode prog_15_method_39_code 61 = .ok (.getfield 254, 3) := by decide +kernel
theorem d_MO_readTexts_64 : decode prog_15_method_39_code 64 = .ok (.if_icmp .ne 7, 3) := by decide +kernel
theorem d_MO_readTexts_67 : decode prog_15_method_39_code 67 = .ok (.iconst 1, 1) := by decide +kernel
theorem d_MO_readTexts_68 : decode prog_15_method_39_code 68 = .ok (.goto 4, 3) := by decide +kernel
theorem d_MO_readTexts_71 : decode prog_15_method_39_code 71 = .ok (.iconst 0, 1) := by decide +kernel
theorem d_MO_readTexts_72 : decode prog_15_method_39_code 72 = .ok (.istore 6, 2) := by decide +kernel
theorem d_MO_readTexts_74 : decode prog_15_method_39_code 74 = .ok (.iload 6, 2) := by decide +kernel
theorem d_MO_readTexts_76 : decode prog_15_method_39_code 76 = .ok (.ifCond .eq 38, 3) := by decide +kernel
theorem d_MO_readTexts_79 : decode prog_15_method_39_code 79 = .ok (.aload_n 0, 1) := by decide +kernel
theorem d_MO_readTexts_80 : decode prog_15_method_39_code 80 = .ok (.aload_n 0, 1) := by decide +kernel
theorem d_MO_readTexts_81 : decode prog_15_method_39_code 81 = .ok (.getfield 287, 3) := by decide +kernel
theorem d_MO_readTexts_84 : decode prog_15_method_39_code 84 = .ok (.ifCond .eq 11, 3) := by decide +kernel
theorem d_MO_readTexts_87 : decode prog_15_method_39_code 87 = .ok (.iload_n 2, 1) := by decide +kernel
theorem d_MO_readTexts_88 : decode prog_15_method_39_code 88 = .ok (.ifCond .ne 7, 3) := by decide +kernel
theorem d_MO_readTexts_91 : decode prog_15_method_39_code 91 = .ok (.iconst 1, 1) := by decide +kernel
theorem d_MO_readTexts_92 : decode prog_15_method_39_code 92 = .ok (.goto 4, 3) := by decide +kernel
theorem d_MO_readTexts_95 : decode prog_15_method_39_code 95 = .ok (.iconst 0, 1) := by decide +kernel
theorem d_MO_readTexts_96 : decode prog_15_method_39_code 96 = .ok (.putfield 287, 3) := by decide +kernel
theorem d_MO_readTexts_99 : decode prog_15_method_39_code 99 = .ok (.aload_n 0, 1) := by decide +kernel
theorem d_MO_readTexts_100 : decode prog_15_method_39_code 100 = .ok (.iload_n 3, 1) := by decide +kernel
theorem d_MO_readTexts_101 : decode prog_15_method_39_code 101 = .ok (.iload 4, 2) := by decide +kernel
theorem d_MO_readTexts_103 : decode prog_15_method_39_code 103 = .ok (.invokevirtual 355, 3) := by decide +kernel
theorem d_MO_readTexts_106 : decode prog_15_method_39_code 106 = .ok (.iinc 1 1, 3) := by decide +kernel
theorem d_MO_readTexts_109 : decode prog_15_method_39_code 109 = .ok (.iload 4, 2) := by decide +kernel
theorem d_MO_readTexts_111 : decode prog_15_method_39_code 111 = .ok (.iconst 1, 1) := by decide +kernel
theorem d_MO_readTexts_112 : decode prog_15_method_39_code 112 = .ok (.iadd, 1) := by decide +kernel
theorem d_MO_readTexts_113 : decode prog_15_method_39_code 113 = .ok (.istore_n 3, 1) := by decide +kernel
theorem d_MO_readTexts_114 : decode prog_15_method_39_code 114 = .ok (.iload 5, 2) := by decide +kernel
theorem d_MO_readTexts_116 : decode prog_15_method_39_code 116 = .ok (.bipush 40, 2) := by decide +kernel
theorem d_MO_readTexts_118 : decode prog_15_method_39_code 118 = .ok (.if_icmp .ne 9, 3) := by decide +kernel
theorem d_MO_readTexts_121 : decode prog_15_method_39_code 121 = .ok (.iload_n 2, 1) := by decide +kernel
theorem d_MO_readTexts_122 : decode prog_15_method_39_code 122 = .ok (.iconst 1, 1) := by decide +kernel
theorem d_MO_readTexts_123 : decode prog_15_method_39_code 123 = .ok (.iadd, 1) := by decide +kernel
theorem d_MO_readTexts_124 : decode prog_15_method_39_code 124 = .ok (.goto 17, 3) := by decide +kernel
theorem d_MO_readTexts_127 : decode prog_15_method_39_code 127 = .ok (.iload 5, 2) := by decide +kernel
theorem d_MO_readTexts_129 : decode prog_15_method_39_code 129 = .ok (.bipush 41, 2) := by decide +kernel
theorem d_MO_readTexts_131 : decode prog_15_method_39_code 131 = .ok (.if_icmp .ne 9, 3) := by decide +kernel
theorem d_MO_readTexts_134 : decode prog_15_method_39_code 134 = .ok (.iload_n 2, 1) := by decide +kernel
theorem d_MO_readTexts_135 : decode prog_15_method_39_code 135 = .ok (.iconst 1, 1) := by decide +kernel
theorem d_MO_readTexts_136 : decode prog_15_method_39_code 136 = .ok (.isub, 1) := by decide +kernel
theorem d_MO_readTexts_137 : decode prog_15_method_39_code 137 = .ok (.goto 4, 3) := by decide +kernel
theorem d_MO_readTexts_140 : decode prog_15_method_39_code 140 = .ok (.iload_n 2, 1) := by decide +kernel
theorem d_MO_readTexts_141 : decode prog_15_method_39_code 141 = .ok (.istore_n 2, 1) := by decide +kernel
theorem d_MO_readTexts_142 : decode prog_15_method_39_code 142 = .ok (.aload_n 0, 1) := by decide +kernel
theorem d_MO_readTexts_143 : decode prog_15_method_39_code 143 = .ok (.aload_n 0, 1) := by decide +kernel
theorem d_MO_readTexts_144 : decode prog_15_method_39_code 144 = .ok (.getfield 287, 3) := by decide +kernel
theorem d_MO_readTexts_147 : decode prog_15_method_39_code 147 = .ok (.ifCond .eq 11, 3) := by decide +kernel
theorem d_MO_readTexts_150 : decode prog_15_method_39_code 150 = .ok (.iload_n 2, 1) := by decide +kernel
theorem d_MO_readTexts_151 : decode prog_15_method_39_code 151 = .ok (.ifCond .lt 7, 3) := by decide +kernel
theorem d_MO_readTexts_154 : decode prog_15_method_39_code 154 = .ok (.iconst 1, 1) := by decide +kernel
theorem d_MO_readTexts_155 : decode prog_15_method_39_code 155 = .ok (.goto 4, 3) := by decide +kernel
theorem d_MO_readTexts_158 : decode prog_15_method_39_code 158 = .ok (.iconst 0, 1) := by decide +kernel
theorem d_MO_readTexts_159 : decode prog_15_method_39_code 159 = .ok (.putfield 287, 3) := by decide +kernel
theorem d_MO_readTexts_162 : decode prog_15_method_39_code 162 = .ok (.iinc 4 1, 3) := by decide +kernel
theorem d_MO_readTexts_165 : decode prog_15_method_39_code 165 = .ok (.goto (-150), 3) := by decide +kernel
theorem d_MO_readTexts_168 : decode prog_15_method_39_code 168 = .ok (.aload_n 0, 1) := by decide +kernel
theorem d_MO_readTexts_169 : decode prog_15_method_39_code 169 = .ok (.aload_n 0, 1) := by decide +kernel
theorem d_MO_readTexts_170 : decode prog_15_method_39_code 170 = .ok (.getfield 254, 3) := by decide +kernel
theorem d_MO_readTexts_173 : decode prog_15_method_39_code 173 = .ok (.putfield 278, 3) := by decide +kernel
theorem d_MO_readTexts_176 : decode prog_15_method_39_code 176 = .ok (.iload_n 1, 1) := by decide +kernel
theorem d_MO_readTexts_177 : decode prog_15_method_39_code 177 = .ok (.ireturn, 1) := by decide +kernel
theorem d_MO_each_0 : decode prog_15_method_45_code 0 = .ok (.aload_n 0, 1) := by decide +kernel
theorem d_MO_each_1 : decode prog_15_method_45_code 1 = .ok (.invokevirtual 320, 3) := by decide +kernel
theorem d_MO_each_4 : decode prog_15_method_45_code 4 = .ok (.aload_n 0, 1) := by decide +kernel
theorem d_MO_each_5 : decode prog_15_method_45_code 5 = .ok (.getfield 291, 3) := by decide +kernel
theorem d_MO_each_8 : decode prog_15_method_45_code 8 = .ok (.lstore_n 1, 1) := by decide +kernel
theorem d_MO_each_9 : decode prog_15_method_45_code 9 = .ok (.aload_n 0, 1) := by decide +kernel
theorem d_MO_each_10 : decode prog_15_method_45_code 10 = .ok (.getfield 295, 3) := by decide +kernel
theorem d_MO_each_13 : decode prog_15_method_45_code 13 = .ok (.lstore_n 3, 1) := by decide +kernel
theorem d_MO_each_14 : decode prog_15_method_45_code 14 = .ok (.aload_n 0, 1) := by decide +kernel
theorem d_MO_each_15 : decode prog_15_method_45_code 15 = .ok (.bipush 44, 2) := by decide +kernel
theorem d_MO_each_17 : decode prog_15_method_45_code 17 = .ok (.invokevirtual 340, 3) := by decide +kernel
theorem d_MO_each_20 : decode prog_15_method_45_code 20 = .ok (.aload_n 0, 1) := by decide +kernel
theorem d_MO_each_21 : decode prog_15_method_45_code 21 = .ok (.getfield 349, 3) := by decide +kernel
theorem d_MO_each_24 : decode prog_15_method_45_code 24 = .ok (.istore 5, 2) := by decide +kernel
theorem d_MO_each_26 : decode prog_15_method_45_code 26 = .ok (.aload_n 0, 1) := by decide +kernel
theorem d_MO_each_27 : decode prog_15_method_45_code 27 = .ok (.getfield 352, 3) := by decide +kernel
theorem d_MO_each_30 : decode prog_15_method_45_code 30 = .ok (.istore 6, 2) := by decide +kernel
theorem d_MO_each_32 : decode prog_15_method_45_code 32 = .ok (.aload_n 0, 1) := by decide +kernel
theorem d_MO_each_33 : decode prog_15_method_45_code 33 = .ok (.getfield 287, 3) := by decide +kernel
theorem d_MO_each_36 : decode prog_15_method_45_code 36 = .ok (.ifCond .eq 10, 3) := by decide +kernel
theorem d_MO_each_39 : decode prog_15_method_45_code 39 = .ok (.aload_n 0, 1) := by decide +kernel
theorem d_MO_each_40 : decode prog_15_method_45_code 40 = .ok (.invokevirtual 384, 3) := by decide +kernel
theorem d_MO_each_43 : decode prog_15_method_45_code 43 = .ok (.goto 4, 3) := by decide +kernel
theorem d_MO_each_46 : decode prog_15_method_45_code 46 = .ok (.iconst 0, 1) := by decide +kernel
theorem d_MO_each_47 : decode prog_15_method_45_code 47 = .ok (.istore 7, 2) := by decide +kernel
theorem d_MO_each_49 : decode prog_15_method_45_code 49 = .ok (.aload_n 0, 1) := by decide +kernel
theorem d_MO_each_50 : decode prog_15_method_45_code 50 = .ok (.getfield 287, 3) := by decide +kernel
theorem d_MO_each_53 : decode prog_15_method_45_code 53 = .ok (.ifCond .ne 13, 3) := by decide +kernel
theorem d_MO_each_56 : decode prog_15_method_45_code 56 = .ok (.aload_n 0, 1) := by decide +kernel
theorem d_MO_each_57 : decode prog_15_method_45_code 57 = .ok (.iconst 1, 1) := by decide +kernel
theorem d_MO_each_58 : decode prog_15_method_45_code 58 = .ok (.aload_n 0, 1) := by decide +kernel
theorem d_MO_each_59 : decode prog_15_method_45_code 59 = .ok (.getfield 247, 3) := by decide +kernel
theorem d_MO_each_62 : decode prog_15_method_45_code 62 = .ok (.invokevirtual 250, 3) := by decide +kernel
theorem d_MO_each_65 : decode prog_15_method_45_code 65 = .ok (.return_, 1) := by decide +kernel
theorem d_MO_each_66 : decode prog_15_method_45_code 66 = .ok (.aload_n 0, 1) := by decide +kernel
theorem d_MO_each_67 : decode prog_15_method_45_code 67 = .ok (.getfield 244, 3) := by decide +kernel
theorem d_MO_each_70 : decode prog_15_method_45_code 70 = .ok (.iconst 1, 1) := by decide +kernel
theorem d_MO_each_71 : decode prog_15_method_45_code 71 = .ok (.isub, 1) := by decide +kernel
theorem d_MO_each_72 : decode prog_15_method_45_code 72 = .ok (.istore 8, 2) := by decide +kernel
theorem d_MO_each_74 : decode prog_15_method_45_code 74 = .ok (.aload_n 0, 1) := by decide +kernel
theorem d_MO_each_75 : decode prog_15_method_45_code 75 = .ok (.getfield 87, 3) := by decide +kernel
theorem d_MO_each_78 : decode prog_15_method_45_code 78 = .ok (.iload 8, 2) := by decide +kernel
theorem d_MO_each_80 : decode prog_15_method_45_code 80 = .ok (.iaload, 1) := by decide +kernel
theorem d_MO_each_81 : decode prog_15_method_45_code 81 = .ok (.istore 9, 2) := by decide +kernel
theorem d_MO_each_83 : decode prog_15_method_45_code 83 = .ok (.aload_n 0, 1) := by decide +kernel
theorem d_MO_each_84 : decode prog_15_method_45_code 84 = .ok (.iload 8, 2) := by decide +kernel
theorem d_MO_each_86 : decode prog_15_method_45_code 86 = .ok (.invokevirtual 377, 3) := by decide +kernel
theorem d_MO_each_89 : decode prog_15_method_45_code 89 = .ok (.istore 10, 2) := by decide +kernel
theorem d_MO_each_91 : decode prog_15_method_45_code 91 = .ok (.iload 10, 2) := by decide +kernel
theorem d_MO_each_93 : decode prog_15_method_45_code 93 = .ok (.ifCond .ge 4, 3) := by decide +kernel
theorem d_MO_each_96 : decode prog_15_method_45_code 96 = .ok (.return_, 1) := by decide +kernel
theorem d_MO_each_97 : decode prog_15_method_45_code 97 = .ok (.aload_n 0, 1) := by decide +kernel
theorem d_MO_each_98 : decode prog_15_method_45_code 98 = .ok (.getfield 87, 3) := by decide +kernel
theorem d_MO_each_101 : decode prog_15_method_45_code 101 = .ok (.iload 8, 2) := by decide +kernel
theorem d_MO_each_103 : decode prog_15_method_45_code 103 = .ok (.iload 10, 2) := by decide +kernel
theorem d_MO_each_105 : decode prog_15_method_45_code 105 = .ok (.iastore, 1) := by decide +kernel
theorem d_MO_each_106 : decode prog_15_method_45_code 106 = .ok (.aload_n 0, 1) := by decide +kernel
theorem d_MO_each_107 : decode prog_15_method_45_code 107 = .ok (.getfield 244, 3) := by decide +kernel
theorem d_MO_each_110 : decode prog_15_method_45_code 110 = .ok (.bipush 12, 2) := by decide +kernel
theorem d_MO_each_112 : decode prog_15_method_45_code 112 = .ok (.if_icmp .le 14, 3) := by decide +kernel
theorem d_MO_each_115 : decode prog_15_method_45_code 115 = .ok (.aload_n 0, 1) := by decide +kernel
theorem d_MO_each_116 : decode prog_15_method_45_code 116 = .ok (.bipush 6, 2) := by decide +kernel
theorem d_MO_each_118 : decode prog_15_method_45_code 118 = .ok (.aload_n 0, 1) := by decide +kernel
theorem d_MO_each_119 : decode prog_15_method_45_code 119 = .ok (.getfield 247, 3) := by decide +kernel
theorem d_MO_each_122 : decode prog_15_method_45_code 122 = .ok (.invokevirtual 250, 3) := by decide +kernel
theorem d_MO_each_125 : decode prog_15_method_45_code 125 = .ok (.return_, 1) := by decide +kernel
theorem d_MO_each_126 : decode prog_15_method_45_code 126 = .ok (.aload_n 0, 1) := by decide +kernel
theorem d_MO_each_127 : decode prog_15_method_45_code 127 = .ok (.getfield 111, 3) := by decide +kernel
theorem d_MO_each_130 : decode prog_15_method_45_code 130 = .ok (.aload_n 0, 1) := by decide +kernel
theorem d_MO_each_131 : decode prog_15_method_45_code 131 = .ok (.getfield 244, 3) := by decide +kernel
theorem d_MO_each_134 : decode prog_15_method_45_code 134 = .ok (.lload_n 1, 1) := by decide +kernel
theorem d_MO_each_135 : decode prog_15_method_45_code 135 = .ok (.lastore, 1) := by decide +kernel
theorem d_MO_each_136 : decode prog_15_method_45_code 136 = .ok (.aload_n 0, 1) := by decide +kernel
theorem d_MO_each_137 : decode prog_15_method_45_code 137 = .ok (.getfield 114, 3) := by decide +kernel
theorem d_MO_each_140 : decode prog_15_method_45_code 140 = .ok (.aload_n 0, 1) := by decide +kernel
theorem d_MO_each_141 : decode prog_15_method_45_code 141 = .ok (.getfield 244, 3) := by decide +kernel
theorem d_MO_each_144 : decode prog_15_method_45_code 144 = .ok (.lload_n 3, 1) := by decide +kernel
theorem d_MO_each_145 : decode prog_15_method_45_code 145 = .ok (.lastore, 1) := by decide +kernel
theorem d_MO_each_146 : decode prog_15_method_45_code 146 = .ok (.aload_n 0, 1) := by decide +kernel
theorem d_MO_each_147 : decode prog_15_method_45_code 147 = .ok (.iconst 3, 1) := by decide +kernel
theorem d_MO_each_148 : decode prog_15_method_45_code 148 = .ok (.iload 9, 2) := by decide +kernel
theorem d_MO_each_150 : decode prog_15_method_45_code 150 = .ok (.iload 10, 2) := by decide +kernel
theorem d_MO_each_152 : decode prog_15_method_45_code 152 = .ok (.iconst 1, 1) := by decide +kernel
theorem d_MO_each_153 : decode prog_15_method_45_code 153 = .ok (.isub, 1) := by decide +kernel
theorem d_MO_each_154 : decode prog_15_method_45_code 154 = .ok (.iload 7, 2) := by decide +kernel
theorem d_MO_each_156 : decode prog_15_method_45_code 156 = .ok (.iload 5, 2) := by decide +kernel
theorem d_MO_each_158 : decode prog_15_method_45_code 158 = .ok (.iload 6, 2) := by decide +kernel
theorem d_MO_each_160 : decode prog_15_method_45_code 160 = .ok (.invokevirtual 380, 3) := by decide +kernel
theorem d_MO_each_163 : decode prog_15_method_45_code 163 = .ok (.return_, 1) := by decide +kernel
theorem d_MO_leave_0 : decode prog_15_method_54_code 0 = .ok (.aload_n 0, 1) := by decide +kernel
theorem d_MO_leave_1 : decode prog_15_method_54_code 1 = .ok (.invokevirtual 264, 3) := by decide +kernel
theorem d_MO_leave_4 : decode prog_15_method_54_code 4 = .ok (.istore_n 1, 1) := by decide +kernel
theorem d_MO_leave_5 : decode prog_15_method_54_code 5 = .ok (.aload_n 0, 1) := by decide +kernel
theorem d_MO_leave_6 : decode prog_15_method_54_code 6 = .ok (.invokevirtual 346, 3) := by decide +kernel
theorem d_MO_leave_9 : decode prog_15_method_54_code 9 = .ok (.aload_n 0, 1) := by decide +kernel
theorem d_MO_leave_10 : decode prog_15_method_54_code 10 = .ok (.getfield 287, 3) := by decide +kernel
theorem d_MO_leave_13 : decode prog_15_method_54_code 13 = .ok (.ifCond .ne 13, 3) := by decide +kernel
theorem d_MO_leave_16 : decode prog_15_method_54_code 16 = .ok (.aload_n 0, 1) := by decide +kernel
theorem d_MO_leave_17 : decode prog_15_method_54_code 17 = .ok (.iconst 1, 1) := by decide +kernel
theorem d_MO_leave_18 : decode prog_15_method_54_code 18 = .ok (.aload_n 0, 1) := by decide +kernel
theorem d_MO_leave_19 : decode prog_15_method_54_code 19 = .ok (.getfield 247, 3) := by decide +kernel
theorem d_MO_leave_22 : decode prog_15_method_54_code 22 = .ok (.invokevirtual 250, 3) := by decide +kernel
theorem d_MO_leave_25 : decode prog_15_method_54_code 25 = .ok (.return_, 1) := by decide +kernel
theorem d_MO_leave_26 : decode prog_15_method_54_code 26 = .ok (.iload_n 1, 1) := by decide +kernel
theorem d_MO_leave_27 : decode prog_15_method_54_code 27 = .ok (.ifCond .ge 13, 3) := by decide +kernel
theorem d_MO_leave_30 : decode prog_15_method_54_code 30 = .ok (.aload_n 0, 1) := by decide +kernel
theorem d_MO_leave_31 : decode prog_15_method_54_code 31 = .ok (.iconst 5, 1) := by decide +kernel
theorem d_MO_leave_32 : decode prog_15_method_54_code 32 = .ok (.aload_n 0, 1) := by decide +kernel
theorem d_MO_leave_33 : decode prog_15_method_54_code 33 = .ok (.getfield 247, 3) := by decide +kernel
theorem d_MO_leave_36 : decode prog_15_method_54_code 36 = .ok (.invokevirtual 250, 3) := by decide +kernel
theorem d_MO_leave_39 : decode prog_15_method_54_code 39 = .ok (.return_, 1) := by decide +kernel
theorem d_MO_leave_40 : decode prog_15_method_54_code 40 = .ok (.aload_n 0, 1) := by decide +kernel
theorem d_MO_leave_41 : decode prog_15_method_54_code 41 = .ok (.aload_n 0, 1) := by decide +kernel
theorem d_MO_leave_42 : decode prog_15_method_54_code 42 = .ok (.getfield 102, 3) := by decide +kernel
theorem d_MO_leave_45 : decode prog_15_method_54_code 45 = .ok (.iload_n 1, 1) := by decide +kernel
theorem d_MO_leave_46 : decode prog_15_method_54_code 46 = .ok (.iaload, 1) := by decide +kernel
theorem d_MO_leave_47 : decode prog_15_method_54_code 47 = .ok (.putfield 358, 3) := by decide +kernel
theorem d_MO_leave_50 : decode prog_15_method_54_code 50 = .ok (.aload_n 0, 1) := by decide +kernel
theorem d_MO_leave_51 : decode prog_15_method_54_code 51 = .ok (.getfield 244, 3) := by decide +kernel
theorem d_MO_leave_54 : decode prog_15_method_54_code 54 = .ok (.iload_n 1, 1) := by decide +kernel
theorem d_MO_leave_55 : decode prog_15_method_54_code 55 = .ok (.if_icmp .le 10, 3) := by decide +kernel
theorem d_MO_leave_58 : decode prog_15_method_54_code 58 = .ok (.aload_n 0, 1) := by decide +kernel
theorem d_MO_leave_59 : decode prog_15_method_54_code 59 = .ok (.invokevirtual 364, 3) := by decide +kernel
theorem d_MO_leave_62 : decode prog_15_method_54_code 62 = .ok (.goto (-12), 3) := by decide +kernel
theorem d_MO_leave_65 : decode prog_15_method_54_code 65 = .ok (.return_, 1) := by decide +kernel
theorem d_MO_direct_0 : decode prog_15_method_58_code 0 = .ok (.iload_n 1, 1) := by decide +kernel
theorem d_MO_direct_1 : decode prog_15_method_58_code 1 = .ok (.tableswitch 163 1 14 #[71, 78, 85, 114, 163, 163, 163, 121, 163, 129, 136, 163, 143, 150], 71) := by decide +kernel
theorem d_MO_direct_72 : decode prog_15_method_58_code 72 = .ok (.aload_n 0, 1) := by decide +kernel
theorem d_MO_direct_73 : decode prog_15_method_58_code 73 = .ok (.invokevirtual 421, 3) := by decide +kernel
theorem d_MO_direct_76 : decode prog_15_method_58_code 76 = .ok (.goto 97, 3) := by decide +kernel
theorem d_MO_direct_79 : decode prog_15_method_58_code 79 = .ok (.aload_n 0, 1) := by decide +kernel
theorem d_MO_direct_80 : decode prog_15_method_58_code 80 = .ok (.invokevirtual 424, 3) := by decide +kernel
theorem d_MO_direct_83 : decode prog_15_method_58_code 83 = .ok (.goto 90, 3) := by decide +kernel
theorem d_MO_direct_86 : decode prog_15_method_58_code 86 = .ok (.aload_n 0, 1) := by decide +kernel
theorem d_MO_direct_87 : decode prog_15_method_58_code 87 = .ok (.invokevirtual 374, 3) := by decide +kernel
theorem d_MO_direct_90 : decode prog_15_method_58_code 90 = .ok (.istore_n 3, 1) := by decide +kernel
theorem d_MO_direct_91 : decode prog_15_method_58_code 91 = .ok (.aload_n 0, 1) := by decide +kernel
theorem d_MO_direct_92 : decode prog_15_method_58_code 92 = .ok (.getfield 196, 3) := by decide +kernel
theorem d_MO_direct_95 : decode prog_15_method_58_code 95 = .ok (.ifCond .ne 78, 3) := by decide +kernel
theorem d_MO_direct_98 : decode prog_15_method_58_code 98 = .ok (.aload_n 0, 1) := by decide +kernel
theorem d_MO_direct_99 : decode prog_15_method_58_code 99 = .ok (.iload_n 3, 1) := by decide +kernel
theorem d_MO_direct_100 : decode prog_15_method_58_code 100 = .ok (.ifCond .eq 7, 3) := by decide +kernel
theorem d_MO_direct_103 : decode prog_15_method_58_code 103 = .ok (.iconst 1, 1) := by decide +kernel
theorem d_MO_direct_104 : decode prog_15_method_58_code 104 = .ok (.goto 4, 3) := by decide +kernel
theorem d_MO_direct_107 : decode prog_15_method_58_code 107 = .ok (.iconst 0, 1) := by decide +kernel
theorem d_MO_direct_108 : decode prog_15_method_58_code 108 = .ok (.iconst 0, 1) := by decide +kernel
theorem d_MO_direct_109 : decode prog_15_method_58_code 109 = .ok (.invokevirtual 405, 3) := by decide +kernel
theorem d_MO_direct_112 : decode prog_15_method_58_code 112 = .ok (.goto 61, 3) := by decide +kernel
theorem d_MO_direct_115 : decode prog_15_method_58_code 115 = .ok (.aload_n 0, 1) := by decide +kernel
theorem d_MO_direct_116 : decode prog_15_method_58_code 116 = .ok (.invokevirtual 427, 3) := by decide +kernel
theorem d_MO_direct_119 : decode prog_15_method_58_code 119 = .ok (.goto 54, 3) := by decide +kernel
theorem d_MO_direct_122 : decode prog_15_method_58_code 122 = .ok (.aload_n 0, 1) := by decide +kernel
theorem d_MO_direct_123 : decode prog_15_method_58_code 123 = .ok (.iload_n 2, 1) := by decide +kernel
theorem d_MO_direct_124 : decode prog_15_method_58_code 124 = .ok (.invokevirtual 430, 3) := by decide +kernel
theorem d_MO_direct_127 : decode prog_15_method_58_code 127 = .ok (.goto 46, 3) := by decide +kernel
theorem d_MO_direct_130 : decode prog_15_method_58_code 130 = .ok (.aload_n 0, 1) := by decide +kernel
theorem d_MO_direct_131 : decode prog_15_method_58_code 131 = .ok (.invokevirtual 433, 3) := by decide +kernel
theorem d_MO_direct_134 : decode prog_15_method_58_code 134 = .ok (.goto 39, 3) := by decide +kernel
theorem d_MO_direct_137 : decode prog_15_method_58_code 137 = .ok (.aload_n 0, 1) := by decide +kernel
theorem d_MO_direct_138 : decode prog_15_method_58_code 138 = .ok (.invokevirtual 436, 3) := by decide +kernel
theorem d_MO_direct_141 : decode prog_15_method_58_code 141 = .ok (.goto 32, 3) := by decide +kernel
theorem d_MO_direct_144 : decode prog_15_method_58_code 144 = .ok (.aload_n 0, 1) := by decide +kernel
theorem d_MO_direct_145 : decode prog_15_method_58_code 145 = .ok (.invokevirtual 439, 3) := by decide +kernel
theorem d_MO_direct_148 : decode prog_15_method_58_code 148 = .ok (.goto 25, 3) := by decide +kernel
theorem d_MO_direct_151 : decode prog_15_method_58_code 151 = .ok (.aload_n 0, 1) := by decide +kernel
theorem d_MO_direct_152 : decode prog_15_method_58_code 152 = .ok (.bipush 7, 2) := by decide +kernel
theorem d_MO_direct_154 : decode prog_15_method_58_code 154 = .ok (.aload_n 0, 1) := by decide +kernel
theorem d_MO_direct_155 : decode prog_15_method_58_code 155 = .ok (.getfield 247, 3) := by decide +kernel
theorem d_MO_direct_158 : decode prog_15_method_58_code 158 = .ok (.invokevirtual 250, 3) := by decide +kernel
theorem d_MO_direct_161 : decode prog_15_method_58_code 161 = .ok (.goto 12, 3) := by decide +kernel
theorem d_MO_direct_164 : decode prog_15_method_58_code 164 = .ok (.aload_n 0, 1) := by decide +kernel
theorem d_MO_direct_165 : decode prog_15_method_58_code 165 = .ok (.iconst 5, 1) := by decide +kernel
theorem d_MO_direct_166 : decode prog_15_method_58_code 166 = .ok (.aload_n 0, 1) := by decide +kernel
theorem d_MO_direct_167 : decode prog_15_method_58_code 167 = .ok (.getfield 247, 3) := by decide +kernel
theorem d_MO_direct_170 : decode prog_15_method_58_code 170 = .ok (.invokevirtual 250, 3) := by decide +kernel
theorem d_MO_direct_173 : decode prog_15_method_58_code 173 = .ok (.return_, 1) := by decide +kernel
theorem d_MO_call_0 : decode prog_15_method_47_code 0 = .ok (.aload_n 0, 1) := by decide +kernel
theorem d_MO_call_1 : decode prog_15_method_47_code 1 = .ok (.getfield 349, 3) := by decide +kernel
theorem d_MO_call_4 : decode prog_15_method_47_code 4 = .ok (.istore_n 2, 1) := by decide +kernel
theorem d_MO_call_5 : decode prog_15_method_47_code 5 = .ok (.aload_n 0, 1) := by decide +kernel
theorem d_MO_call_6 : decode prog_15_method_47_code 6 = .ok (.getfield 352, 3) := by decide +kernel
theorem d_MO_call_9 : decode prog_15_method_47_code 9 = .ok (.istore_n 3, 1) := by decide +kernel
theorem d_MO_call_10 : decode prog_15_method_47_code 10 = .ok (.iconst 0, 1) := by decide +kernel
theorem d_MO_call_11 : decode prog_15_method_47_code 11 = .ok (.istore 4, 2) := by decide +kernel
theorem d_MO_call_13 : decode prog_15_method_47_code 13 = .ok (.aload_n 0, 1) := by decide +kernel
theorem d_MO_call_14 : decode prog_15_method_47_code 14 = .ok (.invokevirtual 284, 3) := by decide +kernel
theorem d_MO_call_17 : decode prog_15_method_47_code 17 = .ok (.aload_n 0, 1) := by decide +kernel
theorem d_MO_call_18 : decode prog_15_method_47_code 18 = .ok (.getfield 278, 3) := by decide +kernel
theorem d_MO_call_21 : decode prog_15_method_47_code 21 = .ok (.aload_n 0, 1) := by decide +kernel
theorem d_MO_call_22 : decode prog_15_method_47_code 22 = .ok (.getfield 254, 3) := by decide +kernel
theorem d_MO_call_25 : decode prog_15_method_47_code 25 = .ok (.if_icmp .ge 9, 3) := by decide +kernel
theorem d_MO_call_28 : decode prog_15_method_47_code 28 = .ok (.aload_n 0, 1) := by decide +kernel
theorem d_MO_call_29 : decode prog_15_method_47_code 29 = .ok (.invokevirtual 384, 3) := by decide +kernel
theorem d_MO_call_32 : decode prog_15_method_47_code 32 = .ok (.istore 4, 2) := by decide +kernel
theorem d_MO_call_34 : decode prog_15_method_47_code 34 = .ok (.aload_n 0, 1) := by decide +kernel
theorem d_MO_call_35 : decode prog_15_method_47_code 35 = .ok (.aload_n 0, 1) := by decide +kernel
theorem d_MO_call_36 : decode prog_15_method_47_code 36 = .ok (.getfield 287, 3) := by decide +kernel
theorem d_MO_call_39 : decode prog_15_method_47_code 39 = .ok (.ifCond .eq 18, 3) := by decide +kernel
theorem d_MO_call_42 : decode prog_15_method_47_code 42 = .ok (.iload 4, 2) := by decide +kernel
theorem d_MO_call_44 : decode prog_15_method_47_code 44 = .ok (.aload_n 0, 1) := by decide +kernel
theorem d_MO_call_45 : decode prog_15_method_47_code 45 = .ok (.getfield 42, 3) := by decide +kernel
theorem d_MO_call_48 : decode prog_15_method_47_code 48 = .ok (.iload_n 1, 1) := by decide +kernel
theorem d_MO_call_49 : decode prog_15_method_47_code 49 = .ok (.iaload, 1) := by decide +kernel
theorem d_MO_call_50 : decode prog_15_method_47_code 50 = .ok (.if_icmp .gt 7, 3) := by decide +kernel
theorem d_MO_call_53 : decode prog_15_method_47_code 53 = .ok (.iconst 1, 1) := by decide +kernel
theorem d_MO_call_54 : decode prog_15_method_47_code 54 = .ok (.goto 4, 3) := by decide +kernel
theorem d_MO_call_57 : decode prog_15_method_47_code 57 = .ok (.iconst 0, 1) := by decide +kernel
theorem d_MO_call_58 : decode prog_15_method_47_code 58 = .ok (.putfield 287, 3) := by decide +kernel
theorem d_MO_call_61 : decode prog_15_method_47_code 61 = .ok (.iconst 0, 1) := by decide +kernel
theorem d_MO_call_62 : decode prog_15_method_47_code 62 = .ok (.istore 5, 2) := by decide +kernel
theorem d_MO_call_64 : decode prog_15_method_47_code 64 = .ok (.iload 5, 2) := by decide +kernel
theorem d_MO_call_66 : decode prog_15_method_47_code 66 = .ok (.aload_n 0, 1) := by decide +kernel
theorem d_MO_call_67 : decode prog_15_method_47_code 67 = .ok (.getfield 42, 3) := by decide +kernel
theorem d_MO_call_70 : decode prog_15_method_47_code 70 = .ok (.iload_n 1, 1) := by decide +kernel
theorem d_MO_call_71 : decode prog_15_method_47_code 71 = .ok (.iaload, 1) := by decide +kernel
theorem d_MO_call_72 : decode prog_15_method_47_code 72 = .ok (.if_icmp .ge 175, 3) := by decide +kernel
theorem d_MO_call_75 : decode prog_15_method_47_code 75 = .ok (.aload_n 0, 1) := by decide +kernel
theorem d_MO_call_76 : decode prog_15_method_47_code 76 = .ok (.getfield 287, 3) := by decide +kernel
theorem d_MO_call_79 : decode prog_15_method_47_code 79 = .ok (.ifCond .eq 168, 3) := by decide +kernel
theorem d_MO_call_82 : decode prog_15_method_47_code 82 = .ok (.iload 5, 2) := by decide +kernel
theorem d_MO_call_84 : decode prog_15_method_47_code 84 = .ok (.iload 4, 2) := by decide +kernel
theorem d_MO_call_86 : decode prog_15_method_47_code 86 = .ok (.if_icmp .ge 24, 3) := by decide +kernel
theorem d_MO_call_89 : decode prog_15_method_47_code 89 = .ok (.aload_n 0, 1) := by decide +kernel
theorem d_MO_call_90 : decode prog_15_method_47_code 90 = .ok (.getfield 117, 3) := by decide +kernel
theorem d_MO_call_93 : decode prog_15_method_47_code 93 = .ok (.iload_n 2, 1) := by decide +kernel
theorem d_MO_call_94 : decode prog_15_method_47_code 94 = .ok (.iload 5, 2) := by decide +kernel
theorem d_MO_call_96 : decode prog_15_method_47_code 96 = .ok (.iadd, 1) := by decide +kernel
theorem d_MO_call_97 : decode prog_15_method_47_code 97 = .ok (.iaload, 1) := by decide +kernel
theorem d_MO_call_98 : decode prog_15_method_47_code 98 = .ok (.aload_n 0, 1) := by decide +kernel
theorem d_MO_call_99 : decode prog_15_method_47_code 99 = .ok (.getfield 120, 3) := by decide +kernel
theorem d_MO_call_102 : decode prog_15_method_47_code 102 = .ok (.iload_n 2, 1) := by decide +kernel
theorem d_MO_call_103 : decode prog_15_method_47_code 103 = .ok (.iload 5, 2) := by decide +kernel
theorem d_MO_call_105 : decode prog_15_method_47_code 105 = .ok (.iadd, 1) := by decide +kernel
theorem d_MO_call_106 : decode prog_15_method_47_code 106 = .ok (.iaload, 1) := by decide +kernel
theorem d_MO_call_107 : decode prog_15_method_47_code 107 = .ok (.if_icmp .ne 7, 3) := by decide +kernel
theorem d_MO_call_110 : decode prog_15_method_47_code 110 = .ok (.iconst 1, 1) := by decide +kernel
theorem d_MO_call_111 : decode prog_15_method_47_code 111 = .ok (.goto 4, 3) := by decide +kernel
theorem d_MO_call_114 : decode prog_15_method_47_code 114 = .ok (.iconst 0, 1) := by decide +kernel
theorem d_MO_call_115 : decode prog_15_method_47_code 115 = .ok (.istore 6, 2) := by decide +kernel
theorem d_MO_call_117 : decode prog_15_method_47_code 117 = .ok (.aload_n 0, 1) := by decide +kernel
theorem d_MO_call_118 : decode prog_15_method_47_code 118 = .ok (.getfield 51, 3) := by decide +kernel
theorem d_MO_call_121 : decode prog_15_method_47_code 121 = .ok (.bipush 6, 2) := by decide +kernel
theorem d_MO_call_123 : decode prog_15_method_47_code 123 = .ok (.iload_n 1, 1) := by decide +kernel
theorem d_MO_call_124 : decode prog_15_method_47_code 124 = .ok (.imul, 1) := by decide +kernel
theorem d_MO_call_125 : decode prog_15_method_47_code 125 = .ok (.iload 5, 2) := by decide +kernel
theorem d_MO_call_127 : decode prog_15_method_47_code 127 = .ok (.iadd, 1) := by decide +kernel
theorem d_MO_call_128 : decode prog_15_method_47_code 128 = .ok (.iaload, 1) := by decide +kernel
theorem d_MO_call_129 : decode prog_15_method_47_code 129 = .ok (.istore 7, 2) := by decide +kernel
theorem d_MO_call_131 : decode prog_15_method_47_code 131 = .ok (.aload_n 0, 1) := by decide +kernel
theorem d_MO_call_132 : decode prog_15_method_47_code 132 = .ok (.iload 6, 2) := by decide +kernel
theorem d_MO_call_134 : decode prog_15_method_47_code 134 = .ok (.ifCond .eq 8, 3) := by decide +kernel
theorem d_MO_call_137 : decode prog_15_method_47_code 137 = .ok (.iload 7, 2) := by decide +kernel
theorem d_MO_call_139 : decode prog_15_method_47_code 139 = .ok (.ifCond .lt 7, 3) := by decide +kernel
theorem d_MO_call_142 : decode prog_15_method_47_code 142 = .ok (.iconst 1, 1) := by decide +kernel
theorem d_MO_call_143 : decode prog_15_method_47_code 143 = .ok (.goto 4, 3) := by decide +kernel
theorem d_MO_call_146 : decode prog_15_method_47_code 146 = .ok (.iconst 0, 1) := by decide +kernel
theorem d_MO_call_147 : decode prog_15_method_47_code 147 = .ok (.putfield 287, 3) := by decide +kernel
theorem d_MO_call_150 : decode prog_15_method_47_code 150 = .ok (.iload 6, 2) := by decide +kernel
theorem d_MO_call_152 : decode prog_15_method_47_code 152 = .ok (.ifCond .eq 89, 3) := by decide +kernel
theorem d_MO_call_155 : decode prog_15_method_47_code 155 = .ok (.aload_n 0, 1) := by decide +kernel
theorem d_MO_call_156 : decode prog_15_method_47_code 156 = .ok (.getfield 287, 3) := by decide +kernel
theorem d_MO_call_159 : decode prog_15_method_47_code 159 = .ok (.ifCond .eq 82, 3) := by decide +kernel
theorem d_MO_call_162 : decode prog_15_method_47_code 162 = .ok (.aload_n 0, 1) := by decide +kernel
theorem d_MO_call_163 : decode prog_15_method_47_code 163 = .ok (.getfield 117, 3) := by decide +kernel
theorem d_MO_call_166 : decode prog_15_method_47_code 166 = .ok (.iload_n 2, 1) := by decide +kernel
theorem d_MO_call_167 : decode prog_15_method_47_code 167 = .ok (.iload 5, 2) := by decide +kernel
theorem d_MO_call_169 : decode prog_15_method_47_code 169 = .ok (.iadd, 1) := by decide +kernel
theorem d_MO_call_170 : decode prog_15_method_47_code 170 = .ok (.aload_n 0, 1) := by decide +kernel
theorem d_MO_call_171 : decode prog_15_method_47_code 171 = .ok (.getfield 352, 3) := by decide +kernel
theorem d_MO_call_174 : decode prog_15_method_47_code 174 = .ok (.iastore, 1) := by decide +kernel
theorem d_MO_call_175 : decode prog_15_method_47_code 175 = .ok (.iload 7, 2) := by decide +kernel
theorem d_MO_call_177 : decode prog_15_method_47_code 177 = .ok (.istore 8, 2) := by decide +kernel
theorem d_MO_call_179 : decode prog_15_method_47_code 179 = .ok (.iload 8, 2) := by decide +kernel
theorem d_MO_call_181 : decode prog_15_method_47_code 181 = .ok (.aload_n 0, 1) := by decide +kernel
theorem d_MO_call_182 : decode prog_15_method_47_code 182 = .ok (.getfield 54, 3) := by decide +kernel
theorem d_MO_call_185 : decode prog_15_method_47_code 185 = .ok (.bipush 6, 2) := by decide +kernel
theorem d_MO_call_187 : decode prog_15_method_47_code 187 = .ok (.iload_n 1, 1) := by decide +kernel
theorem d_MO_call_188 : decode prog_15_method_47_code 188 = .ok (.imul, 1) := by decide +kernel
theorem d_MO_call_189 : decode prog_15_method_47_code 189 = .ok (.iload 5, 2) := by decide +kernel
theorem d_MO_call_191 : decode prog_15_method_47_code 191 = .ok (.iadd, 1) := by decide +kernel
theorem d_MO_call_192 : decode prog_15_method_47_code 192 = .ok (.iaload, 1) := by decide +kernel
theorem d_MO_call_193 : decode prog_15_method_47_code 193 = .ok (.if_icmp .ge 35, 3) := by decide +kernel
theorem d_MO_call_196 : decode prog_15_method_47_code 196 = .ok (.aload_n 0, 1) := by decide +kernel
theorem d_MO_call_197 : decode prog_15_method_47_code 197 = .ok (.getfield 124, 3) := by decide +kernel
theorem d_MO_call_200 : decode prog_15_method_47_code 200 = .ok (.aload_n 0, 1) := by decide +kernel
theorem d_MO_call_201 : decode prog_15_method_47_code 201 = .ok (.getfield 352, 3) := by decide +kernel
theorem d_MO_call_204 : decode prog_15_method_47_code 204 = .ok (.aload_n 0, 1) := by decide +kernel
theorem d_MO_call_205 : decode prog_15_method_47_code 205 = .ok (.getfield 7, 3) := by decide +kernel
theorem d_MO_call_208 : decode prog_15_method_47_code 208 = .ok (.iload 8, 2) := by decide +kernel
theorem d_MO_call_210 : decode prog_15_method_47_code 210 = .ok (.iaload, 1) := by decide +kernel
theorem d_MO_call_211 : decode prog_15_method_47_code 211 = .ok (.iastore, 1) := by decide +kernel
theorem d_MO_call_212 : decode prog_15_method_47_code 212 = .ok (.aload_n 0, 1) := by decide +kernel
theorem d_MO_call_213 : decode prog_15_method_47_code 213 = .ok (.dup, 1) := by decide +kernel
theorem d_MO_call_214 : decode prog_15_method_47_code 214 = .ok (.getfield 352, 3) := by decide +kernel
theorem d_MO_call_217 : decode prog_15_method_47_code 217 = .ok (.iconst 1, 1) := by decide +kernel
theorem d_MO_call_218 : decode prog_15_method_47_code 218 = .ok (.iadd, 1) := by decide +kernel
theorem d_MO_call_219 : decode prog_15_method_47_code 219 = .ok (.putfield 352, 3) := by decide +kernel
theorem d_MO_call_222 : decode prog_15_method_47_code 222 = .ok (.iinc 8 1, 3) := by decide +kernel
theorem d_MO_call_225 : decode prog_15_method_47_code 225 = .ok (.goto (-46), 3) := by decide +kernel
theorem d_MO_call_228 : decode prog_15_method_47_code 228 = .ok (.aload_n 0, 1) := by decide +kernel
theorem d_MO_call_229 : decode prog_15_method_47_code 229 = .ok (.getfield 120, 3) := by decide +kernel
theorem d_MO_call_232 : decode prog_15_method_47_code 232 = .ok (.iload_n 2, 1) := by decide +kernel
theorem d_MO_call_233 : decode prog_15_method_47_code 233 = .ok (.iload 5, 2) := by decide +kernel
theorem d_MO_call_235 : decode prog_15_method_47_code 235 = .ok (.iadd, 1) := by decide +kernel
theorem d_MO_call_236 : decode prog_15_method_47_code 236 = .ok (.aload_n 0, 1) := by decide +kernel
theorem d_MO_call_237 : decode prog_15_method_47_code 237 = .ok (.getfield 352, 3) := by decide +kernel
theorem d_MO_call_240 : decode prog_15_method_47_code 240 = .ok (.iastore, 1) := by decide +kernel
theorem d_MO_call_241 : decode prog_15_method_47_code 241 = .ok (.iinc 5 1, 3) := by decide +kernel
theorem d_MO_call_244 : decode prog_15_method_47_code 244 = .ok (.goto (-180), 3) := by decide +kernel
