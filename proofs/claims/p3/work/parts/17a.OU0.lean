theorem d_OU_clear_0 : decode prog_10_method_2_code 0 = .ok (.aload_n 0, 1) := by decide +kernel
theorem d_OU_clear_1 : decode prog_10_method_2_code 1 = .ok (.iconst 0, 1) := by decide +kernel
theorem d_OU_clear_2 : decode prog_10_method_2_code 2 = .ok (.putfield 28, 3) := by decide +kernel
theorem d_OU_clear_5 : decode prog_10_method_2_code 5 = .ok (.aload_n 0, 1) := by decide +kernel
theorem d_OU_clear_6 : decode prog_10_method_2_code 6 = .ok (.iconst 0, 1) := by decide +kernel
theorem d_OU_clear_7 : decode prog_10_method_2_code 7 = .ok (.putfield 32, 3) := by decide +kernel
theorem d_OU_clear_10 : decode prog_10_method_2_code 10 = .ok (.return_, 1) := by decide +kernel
theorem d_OU_add_0 : decode prog_10_method_3_code 0 = .ok (.aload_n 0, 1) := by decide +kernel
theorem d_OU_add_1 : decode prog_10_method_3_code 1 = .ok (.getfield 28, 3) := by decide +kernel
theorem d_OU_add_4 : decode prog_10_method_3_code 4 = .ok (.ifCond .lt 27, 3) := by decide +kernel
theorem d_OU_add_7 : decode prog_10_method_3_code 7 = .ok (.aload_n 0, 1) := by decide +kernel
theorem d_OU_add_8 : decode prog_10_method_3_code 8 = .ok (.getfield 28, 3) := by decide +kernel
theorem d_OU_add_11 : decode prog_10_method_3_code 11 = .ok (.sipush 1000, 3) := by decide +kernel
theorem d_OU_add_14 : decode prog_10_method_3_code 14 = .ok (.if_icmp .ge 17, 3) := by decide +kernel
theorem d_OU_add_17 : decode prog_10_method_3_code 17 = .ok (.aload_n 0, 1) := by decide +kernel
theorem d_OU_add_18 : decode prog_10_method_3_code 18 = .ok (.getfield 32, 3) := by decide +kernel
theorem d_OU_add_21 : decode prog_10_method_3_code 21 = .ok (.iload_n 3, 1) := by decide +kernel
theorem d_OU_add_22 : decode prog_10_method_3_code 22 = .ok (.iload_n 2, 1) := by decide +kernel
theorem d_OU_add_23 : decode prog_10_method_3_code 23 = .ok (.isub, 1) := by decide +kernel
theorem d_OU_add_24 : decode prog_10_method_3_code 24 = .ok (.iadd, 1) := by decide +kernel
theorem d_OU_add_25 : decode prog_10_method_3_code 25 = .ok (.sipush 12000, 3) := by decide +kernel
theorem d_OU_add_28 : decode prog_10_method_3_code 28 = .ok (.if_icmp .le 5, 3) := by decide +kernel
theorem d_OU_add_31 : decode prog_10_method_3_code 31 = .ok (.iconst 0, 1) := by decide +kernel
theorem d_OU_add_32 : decode prog_10_method_3_code 32 = .ok (.ireturn, 1) := by decide +kernel
theorem d_OU_add_33 : decode prog_10_method_3_code 33 = .ok (.aload_n 0, 1) := by decide +kernel
theorem d_OU_add_34 : decode prog_10_method_3_code 34 = .ok (.getfield 15, 3) := by decide +kernel
theorem d_OU_add_37 : decode prog_10_method_3_code 37 = .ok (.aload_n 0, 1) := by decide +kernel
theorem d_OU_add_38 : decode prog_10_method_3_code 38 = .ok (.getfield 28, 3) := by decide +kernel
theorem d_OU_add_41 : decode prog_10_method_3_code 41 = .ok (.aload_n 0, 1) := by decide +kernel
theorem d_OU_add_42 : decode prog_10_method_3_code 42 = .ok (.getfield 32, 3) := by decide +kernel
theorem d_OU_add_45 : decode prog_10_method_3_code 45 = .ok (.iastore, 1) := by decide +kernel
theorem d_OU_add_46 : decode prog_10_method_3_code 46 = .ok (.iload_n 2, 1) := by decide +kernel
theorem d_OU_add_47 : decode prog_10_method_3_code 47 = .ok (.istore 6, 2) := by decide +kernel
theorem d_OU_add_49 : decode prog_10_method_3_code 49 = .ok (.iload 6, 2) := by decide +kernel
theorem d_OU_add_51 : decode prog_10_method_3_code 51 = .ok (.iload_n 3, 1) := by decide +kernel
theorem d_OU_add_52 : decode prog_10_method_3_code 52 = .ok (.if_icmp .ge 54, 3) := by decide +kernel
theorem d_OU_add_55 : decode prog_10_method_3_code 55 = .ok (.aload_n 0, 1) := by decide +kernel
theorem d_OU_add_56 : decode prog_10_method_3_code 56 = .ok (.getfield 32, 3) := by decide +kernel
theorem d_OU_add_59 : decode prog_10_method_3_code 59 = .ok (.ifCond .lt 47, 3) := by decide +kernel
theorem d_OU_add_62 : decode prog_10_method_3_code 62 = .ok (.aload_n 0, 1) := by decide +kernel
theorem d_OU_add_63 : decode prog_10_method_3_code 63 = .ok (.getfield 32, 3) := by decide +kernel
theorem d_OU_add_66 : decode prog_10_method_3_code 66 = .ok (.aload_n 0, 1) := by decide +kernel
theorem d_OU_add_67 : decode prog_10_method_3_code 67 = .ok (.getfield 9, 3) := by decide +kernel
theorem d_OU_add_70 : decode prog_10_method_3_code 70 = .ok (.arraylength, 1) := by decide +kernel
theorem d_OU_add_71 : decode prog_10_method_3_code 71 = .ok (.if_icmp .ge 35, 3) := by decide +kernel
theorem d_OU_add_74 : decode prog_10_method_3_code 74 = .ok (.aload_n 0, 1) := by decide +kernel
theorem d_OU_add_75 : decode prog_10_method_3_code 75 = .ok (.getfield 9, 3) := by decide +kernel
theorem d_OU_add_78 : decode prog_10_method_3_code 78 = .ok (.aload_n 0, 1) := by decide +kernel
theorem d_OU_add_79 : decode prog_10_method_3_code 79 = .ok (.getfield 32, 3) := by decide +kernel
theorem d_OU_add_82 : decode prog_10_method_3_code 82 = .ok (.aload_n 1, 1) := by decide +kernel
theorem d_OU_add_83 : decode prog_10_method_3_code 83 = .ok (.iload 6, 2) := by decide +kernel
theorem d_OU_add_85 : decode prog_10_method_3_code 85 = .ok (.invokevirtual 35, 3) := by decide +kernel
theorem d_OU_add_88 : decode prog_10_method_3_code 88 = .ok (.i2b, 1) := by decide +kernel
theorem d_OU_add_89 : decode prog_10_method_3_code 89 = .ok (.bastore, 1) := by decide +kernel
theorem d_OU_add_90 : decode prog_10_method_3_code 90 = .ok (.aload_n 0, 1) := by decide +kernel
theorem d_OU_add_91 : decode prog_10_method_3_code 91 = .ok (.dup, 1) := by decide +kernel
theorem d_OU_add_92 : decode prog_10_method_3_code 92 = .ok (.getfield 32, 3) := by decide +kernel
theorem d_OU_add_95 : decode prog_10_method_3_code 95 = .ok (.iconst 1, 1) := by decide +kernel
theorem d_OU_add_96 : decode prog_10_method_3_code 96 = .ok (.iadd, 1) := by decide +kernel
theorem d_OU_add_97 : decode prog_10_method_3_code 97 = .ok (.putfield 32, 3) := by decide +kernel
theorem d_OU_add_100 : decode prog_10_method_3_code 100 = .ok (.iinc 6 1, 3) := by decide +kernel
theorem d_OU_add_103 : decode prog_10_method_3_code 103 = .ok (.goto (-54), 3) := by decide +kernel
theorem d_OU_add_106 : decode prog_10_method_3_code 106 = .ok (.aload_n 0, 1) := by decide +kernel
theorem d_OU_add_107 : decode prog_10_method_3_code 107 = .ok (.getfield 19, 3) := by decide +kernel
theorem d_OU_add_110 : decode prog_10_method_3_code 110 = .ok (.aload_n 0, 1) := by decide +kernel
theorem d_OU_add_111 : decode prog_10_method_3_code 111 = .ok (.getfield 28, 3) := by decide +kernel
theorem d_OU_add_114 : decode prog_10_method_3_code 114 = .ok (.aload_n 0, 1) := by decide +kernel
theorem d_OU_add_115 : decode prog_10_method_3_code 115 = .ok (.getfield 32, 3) := by decide +kernel
theorem d_OU_add_118 : decode prog_10_method_3_code 118 = .ok (.iastore, 1) := by decide +kernel
theorem d_OU_add_119 : decode prog_10_method_3_code 119 = .ok (.aload_n 0, 1) := by decide +kernel
theorem d_OU_add_120 : decode prog_10_method_3_code 120 = .ok (.getfield 22, 3) := by decide +kernel
theorem d_OU_add_123 : decode prog_10_method_3_code 123 = .ok (.aload_n 0, 1) := by decide +kernel
theorem d_OU_add_124 : decode prog_10_method_3_code 124 = .ok (.getfield 28, 3) := by decide +kernel
theorem d_OU_add_127 : decode prog_10_method_3_code 127 = .ok (.iload 4, 2) := by decide +kernel
theorem d_OU_add_129 : decode prog_10_method_3_code 129 = .ok (.iastore, 1) := by decide +kernel
theorem d_OU_add_130 : decode prog_10_method_3_code 130 = .ok (.aload_n 0, 1) := by decide +kernel
theorem d_OU_add_131 : decode prog_10_method_3_code 131 = .ok (.getfield 25, 3) := by decide +kernel
theorem d_OU_add_134 : decode prog_10_method_3_code 134 = .ok (.aload_n 0, 1) := by decide +kernel
theorem d_OU_add_135 : decode prog_10_method_3_code 135 = .ok (.getfield 28, 3) := by decide +kernel
theorem d_OU_add_138 : decode prog_10_method_3_code 138 = .ok (.iload 5, 2) := by decide +kernel
theorem d_OU_add_140 : decode prog_10_method_3_code 140 = .ok (.iastore, 1) := by decide +kernel
theorem d_OU_add_141 : decode prog_10_method_3_code 141 = .ok (.aload_n 0, 1) := by decide +kernel
theorem d_OU_add_142 : decode prog_10_method_3_code 142 = .ok (.dup, 1) := by decide +kernel
theorem d_OU_add_143 : decode prog_10_method_3_code 143 = .ok (.getfield 28, 3) := by decide +kernel
theorem d_OU_add_146 : decode prog_10_method_3_code 146 = .ok (.iconst 1, 1) := by decide +kernel
theorem d_OU_add_147 : decode prog_10_method_3_code 147 = .ok (.iadd, 1) := by decide +kernel
theorem d_OU_add_148 : decode prog_10_method_3_code 148 = .ok (.putfield 28, 3) := by decide +kernel
theorem d_OU_add_151 : decode prog_10_method_3_code 151 = .ok (.iconst 1, 1) := by decide +kernel
theorem d_OU_add_152 : decode prog_10_method_3_code 152 = .ok (.ireturn, 1) := by decide +kernel
theorem d_OU_sign_0 : decode prog_10_method_5_code 0 = .ok (.iload_n 3, 1) := by decide +kernel
theorem d_OU_sign_1 : decode prog_10_method_5_code 1 = .ok (.ifCond .lt 25, 3) := by decide +kernel
theorem d_OU_sign_4 : decode prog_10_method_5_code 4 = .ok (.iload_n 3, 1) := by decide +kernel
theorem d_OU_sign_5 : decode prog_10_method_5_code 5 = .ok (.iload_n 2, 1) := by decide +kernel
theorem d_OU_sign_6 : decode prog_10_method_5_code 6 = .ok (.iload_n 1, 1) := by decide +kernel
theorem d_OU_sign_7 : decode prog_10_method_5_code 7 = .ok (.isub, 1) := by decide +kernel
theorem d_OU_sign_8 : decode prog_10_method_5_code 8 = .ok (.if_icmp .ge 18, 3) := by decide +kernel
theorem d_OU_sign_11 : decode prog_10_method_5_code 11 = .ok (.iload_n 1, 1) := by decide +kernel
theorem d_OU_sign_12 : decode prog_10_method_5_code 12 = .ok (.ifCond .lt 14, 3) := by decide +kernel
theorem d_OU_sign_15 : decode prog_10_method_5_code 15 = .ok (.iload_n 1, 1) := by decide +kernel
theorem d_OU_sign_16 : decode prog_10_method_5_code 16 = .ok (.iload_n 3, 1) := by decide +kernel
theorem d_OU_sign_17 : decode prog_10_method_5_code 17 = .ok (.iadd, 1) := by decide +kernel
theorem d_OU_sign_18 : decode prog_10_method_5_code 18 = .ok (.aload_n 0, 1) := by decide +kernel
theorem d_OU_sign_19 : decode prog_10_method_5_code 19 = .ok (.getfield 9, 3) := by decide +kernel
theorem d_OU_sign_22 : decode prog_10_method_5_code 22 = .ok (.arraylength, 1) := by decide +kernel
theorem d_OU_sign_23 : decode prog_10_method_5_code 23 = .ok (.if_icmp .lt 5, 3) := by decide +kernel
theorem d_OU_sign_26 : decode prog_10_method_5_code 26 = .ok (.iconst (-1), 1) := by decide +kernel
theorem d_OU_sign_27 : decode prog_10_method_5_code 27 = .ok (.ireturn, 1) := by decide +kernel
theorem d_OU_sign_28 : decode prog_10_method_5_code 28 = .ok (.aload_n 0, 1) := by decide +kernel
theorem d_OU_sign_29 : decode prog_10_method_5_code 29 = .ok (.getfield 9, 3) := by decide +kernel
theorem d_OU_sign_32 : decode prog_10_method_5_code 32 = .ok (.iload_n 1, 1) := by decide +kernel
theorem d_OU_sign_33 : decode prog_10_method_5_code 33 = .ok (.iload_n 3, 1) := by decide +kernel
theorem d_OU_sign_34 : decode prog_10_method_5_code 34 = .ok (.iadd, 1) := by decide +kernel
theorem d_OU_sign_35 : decode prog_10_method_5_code 35 = .ok (.baload, 1) := by decide +kernel
theorem d_OU_sign_36 : decode prog_10_method_5_code 36 = .ok (.ireturn, 1) := by decide +kernel
theorem d_OU_tell_0 : decode prog_10_method_4_code 0 = .ok (.iload_n 1, 1) := by decide +kernel
theorem d_OU_tell_1 : decode prog_10_method_4_code 1 = .ok (.ifCond .lt 10, 3) := by decide +kernel
theorem d_OU_tell_4 : decode prog_10_method_4_code 4 = .ok (.iload_n 1, 1) := by decide +kernel
theorem d_OU_tell_5 : decode prog_10_method_4_code 5 = .ok (.sipush 1000, 3) := by decide +kernel
theorem d_OU_tell_8 : decode prog_10_method_4_code 8 = .ok (.if_icmp .lt 5, 3) := by decide +kernel
theorem d_OU_tell_11 : decode prog_10_method_4_code 11 = .ok (.iconst (-1), 1) := by decide +kernel
theorem d_OU_tell_12 : decode prog_10_method_4_code 12 = .ok (.ireturn, 1) := by decide +kernel
theorem d_OU_tell_13 : decode prog_10_method_4_code 13 = .ok (.iload_n 2, 1) := by decide +kernel
theorem d_OU_tell_14 : decode prog_10_method_4_code 14 = .ok (.tableswitch 54 0 2 #[26, 40, 47], 26) := by decide +kernel
theorem d_OU_tell_40 : decode prog_10_method_4_code 40 = .ok (.aload_n 0, 1) := by decide +kernel
theorem d_OU_tell_41 : decode prog_10_method_4_code 41 = .ok (.getfield 19, 3) := by decide +kernel
theorem d_OU_tell_44 : decode prog_10_method_4_code 44 = .ok (.iload_n 1, 1) := by decide +kernel
theorem d_OU_tell_45 : decode prog_10_method_4_code 45 = .ok (.iaload, 1) := by decide +kernel
theorem d_OU_tell_46 : decode prog_10_method_4_code 46 = .ok (.aload_n 0, 1) := by decide +kernel
theorem d_OU_tell_47 : decode prog_10_method_4_code 47 = .ok (.getfield 15, 3) := by decide +kernel
theorem d_OU_tell_50 : decode prog_10_method_4_code 50 = .ok (.iload_n 1, 1) := by decide +kernel
theorem d_OU_tell_51 : decode prog_10_method_4_code 51 = .ok (.iaload, 1) := by decide +kernel
theorem d_OU_tell_52 : decode prog_10_method_4_code 52 = .ok (.isub, 1) := by decide +kernel
theorem d_OU_tell_53 : decode prog_10_method_4_code 53 = .ok (.ireturn, 1) := by decide +kernel
theorem d_OU_tell_54 : decode prog_10_method_4_code 54 = .ok (.aload_n 0, 1) := by decide +kernel
theorem d_OU_tell_55 : decode prog_10_method_4_code 55 = .ok (.getfield 22, 3) := by decide +kernel
theorem d_OU_tell_58 : decode prog_10_method_4_code 58 = .ok (.iload_n 1, 1) := by decide +kernel
theorem d_OU_tell_59 : decode prog_10_method_4_code 59 = .ok (.iaload, 1) := by decide +kernel
theorem d_OU_tell_60 : decode prog_10_method_4_code 60 = .ok (.ireturn, 1) := by decide +kernel
theorem d_OU_tell_61 : decode prog_10_method_4_code 61 = .ok (.aload_n 0, 1) := by decide +kernel
theorem d_OU_tell_62 : decode prog_10_method_4_code 62 = .ok (.getfield 25, 3) := by decide +kernel
theorem d_OU_tell_65 : decode prog_10_method_4_code 65 = .ok (.iload_n 1, 1) := by decide +kernel
theorem d_OU_tell_66 : decode prog_10_method_4_code 66 = .ok (.iaload, 1) := by decide +kernel
theorem d_OU_tell_67 : decode prog_10_method_4_code 67 = .ok (.ireturn, 1) := by decide +kernel
theorem d_OU_tell_68 : decode prog_10_method_4_code 68 = .ok (.aload_n 0, 1) := by decide +kernel
theorem d_OU_tell_69 : decode prog_10_method_4_code 69 = .ok (.aload_n 0, 1) := by decide +kernel
theorem d_OU_tell_70 : decode prog_10_method_4_code 70 = .ok (.getfield 15, 3) := by decide +kernel
theorem d_OU_tell_73 : decode prog_10_method_4_code 73 = .ok (.iload_n 1, 1) := by decide +kernel
theorem d_OU_tell_74 : decode prog_10_method_4_code 74 = .ok (.iaload, 1) := by decide +kernel
theorem d_OU_tell_75 : decode prog_10_method_4_code 75 = .ok (.aload_n 0, 1) := by decide +kernel
theorem d_OU_tell_76 : decode prog_10_method_4_code 76 = .ok (.getfield 19, 3) := by decide +kernel
theorem d_OU_tell_79 : decode prog_10_method_4_code 79 = .ok (.iload_n 1, 1) := by decide +kernel
theorem d_OU_tell_80 : decode prog_10_method_4_code 80 = .ok (.iaload, 1) := by decide +kernel
theorem d_OU_tell_81 : decode prog_10_method_4_code 81 = .ok (.iload_n 2, 1) := by decide +kernel
theorem d_OU_tell_82 : decode prog_10_method_4_code 82 = .ok (.iconst 3, 1) := by decide +kernel
theorem d_OU_tell_83 : decode prog_10_method_4_code 83 = .ok (.isub, 1) := by decide +kernel
theorem d_OU_tell_84 : decode prog_10_method_4_code 84 = .ok (.invokevirtual 41, 3) := by decide +kernel
theorem d_OU_tell_87 : decode prog_10_method_4_code 87 = .ok (.ireturn, 1) := by decide +kernel
theorem hm_OU_clear : y_OU_clear.cls ≠ "java/lang/invoke/MethodHandle" ∧ y_OU_clear.cls ≠ "java/lang/invoke/VarHandle" ∧ (parseMethodDescriptor y_OU_clear.desc).map (fun d => d.parameters.length) = some 0 := by decide +kernel
theorem hm_OU_add : y_OU_add.cls ≠ "java/lang/invoke/MethodHandle" ∧ y_OU_add.cls ≠ "java/lang/invoke/VarHandle" ∧ (parseMethodDescriptor y_OU_add.desc).map (fun d => d.parameters.length) = some 5 := by decide +kernel
theorem hm_OU_sign : y_OU_sign.cls ≠ "java/lang/invoke/MethodHandle" ∧ y_OU_sign.cls ≠ "java/lang/invoke/VarHandle" ∧ (parseMethodDescriptor y_OU_sign.desc).map (fun d => d.parameters.length) = some 3 := by decide +kernel
theorem hm_OU_tell : y_OU_tell.cls ≠ "java/lang/invoke/MethodHandle" ∧ y_OU_tell.cls ≠ "java/lang/invoke/VarHandle" ∧ (parseMethodDescriptor y_OU_tell.desc).map (fun d => d.parameters.length) = some 2 := by decide +kernel
