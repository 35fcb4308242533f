theorem d_EX_toldLine_0 : decode prog_6_method_4_code 0 = .ok (.aload_n 0, 1) := by decide +kernel
theorem d_EX_toldLine_1 : decode prog_6_method_4_code 1 = .ok (.getfield 72, 3) := by decide +kernel
theorem d_EX_toldLine_4 : decode prog_6_method_4_code 4 = .ok (.getfield 141, 3) := by decide +kernel
theorem d_EX_toldLine_7 : decode prog_6_method_4_code 7 = .ok (.ifCond .ne 10, 3) := by decide +kernel
theorem d_EX_toldLine_10 : decode prog_6_method_4_code 10 = .ok (.aload_n 0, 1) := by decide +kernel
theorem d_EX_toldLine_11 : decode prog_6_method_4_code 11 = .ok (.getfield 144, 3) := by decide +kernel
theorem d_EX_toldLine_14 : decode prog_6_method_4_code 14 = .ok (.goto 10, 3) := by decide +kernel
theorem d_EX_toldLine_17 : decode prog_6_method_4_code 17 = .ok (.aload_n 0, 1) := by decide +kernel
theorem d_EX_toldLine_18 : decode prog_6_method_4_code 18 = .ok (.getfield 72, 3) := by decide +kernel
theorem d_EX_toldLine_21 : decode prog_6_method_4_code 21 = .ok (.getfield 147, 3) := by decide +kernel
theorem d_EX_toldLine_24 : decode prog_6_method_4_code 24 = .ok (.ireturn, 1) := by decide +kernel
theorem d_EX_fail_0 : decode prog_6_method_5_code 0 = .ok (.aload_n 0, 1) := by decide +kernel
theorem d_EX_fail_1 : decode prog_6_method_5_code 1 = .ok (.iload_n 1, 1) := by decide +kernel
theorem d_EX_fail_2 : decode prog_6_method_5_code 2 = .ok (.putfield 80, 3) := by decide +kernel
theorem d_EX_fail_5 : decode prog_6_method_5_code 5 = .ok (.aload_n 0, 1) := by decide +kernel
theorem d_EX_fail_6 : decode prog_6_method_5_code 6 = .ok (.aload_n 0, 1) := by decide +kernel
theorem d_EX_fail_7 : decode prog_6_method_5_code 7 = .ok (.invokevirtual 150, 3) := by decide +kernel
theorem d_EX_fail_10 : decode prog_6_method_5_code 10 = .ok (.putfield 25, 3) := by decide +kernel
theorem d_EX_fail_13 : decode prog_6_method_5_code 13 = .ok (.iconst 0, 1) := by decide +kernel
theorem d_EX_fail_14 : decode prog_6_method_5_code 14 = .ok (.ireturn, 1) := by decide +kernel
theorem d_EX_look_0 : decode prog_6_method_6_code 0 = .ok (.aload_n 0, 1) := by decide +kernel
theorem d_EX_look_1 : decode prog_6_method_6_code 1 = .ok (.aload_n 1, 1) := by decide +kernel
theorem d_EX_look_2 : decode prog_6_method_6_code 2 = .ok (.getfield 87, 3) := by decide +kernel
theorem d_EX_look_5 : decode prog_6_method_6_code 5 = .ok (.putfield 144, 3) := by decide +kernel
theorem d_EX_look_8 : decode prog_6_method_6_code 8 = .ok (.aload_n 0, 1) := by decide +kernel
theorem d_EX_look_9 : decode prog_6_method_6_code 9 = .ok (.getfield 135, 3) := by decide +kernel
theorem d_EX_look_12 : decode prog_6_method_6_code 12 = .ok (.sipush 4000, 3) := by decide +kernel
theorem d_EX_look_15 : decode prog_6_method_6_code 15 = .ok (.if_icmp .lt 10, 3) := by decide +kernel
theorem d_EX_look_18 : decode prog_6_method_6_code 18 = .ok (.aload_n 0, 1) := by decide +kernel
theorem d_EX_look_19 : decode prog_6_method_6_code 19 = .ok (.bipush 6, 2) := by decide +kernel
theorem d_EX_look_21 : decode prog_6_method_6_code 21 = .ok (.invokevirtual 154, 3) := by decide +kernel
theorem d_EX_look_24 : decode prog_6_method_6_code 24 = .ok (.ireturn, 1) := by decide +kernel
theorem d_EX_look_25 : decode prog_6_method_6_code 25 = .ok (.aload_n 0, 1) := by decide +kernel
theorem d_EX_look_26 : decode prog_6_method_6_code 26 = .ok (.dup, 1) := by decide +kernel
theorem d_EX_look_27 : decode prog_6_method_6_code 27 = .ok (.getfield 135, 3) := by decide +kernel
theorem d_EX_look_30 : decode prog_6_method_6_code 30 = .ok (.iconst 1, 1) := by decide +kernel
theorem d_EX_look_31 : decode prog_6_method_6_code 31 = .ok (.iadd, 1) := by decide +kernel
theorem d_EX_look_32 : decode prog_6_method_6_code 32 = .ok (.putfield 135, 3) := by decide +kernel
theorem d_EX_look_35 : decode prog_6_method_6_code 35 = .ok (.aload_n 1, 1) := by decide +kernel
theorem d_EX_look_36 : decode prog_6_method_6_code 36 = .ok (.dup, 1) := by decide +kernel
theorem d_EX_look_37 : decode prog_6_method_6_code 37 = .ok (.getfield 87, 3) := by decide +kernel
theorem d_EX_look_40 : decode prog_6_method_6_code 40 = .ok (.iconst 1, 1) := by decide +kernel
theorem d_EX_look_41 : decode prog_6_method_6_code 41 = .ok (.iadd, 1) := by decide +kernel
theorem d_EX_look_42 : decode prog_6_method_6_code 42 = .ok (.putfield 87, 3) := by decide +kernel
theorem d_EX_look_45 : decode prog_6_method_6_code 45 = .ok (.iconst 1, 1) := by decide +kernel
theorem d_EX_look_46 : decode prog_6_method_6_code 46 = .ok (.ireturn, 1) := by decide +kernel
theorem d_EX_isValueGood_0 : decode prog_6_method_13_code 0 = .ok (.aload_n 0, 1) := by decide +kernel
theorem d_EX_isValueGood_1 : decode prog_6_method_13_code 1 = .ok (.getfield 56, 3) := by decide +kernel
theorem d_EX_isValueGood_4 : decode prog_6_method_13_code 4 = .ok (.getfield 298, 3) := by decide +kernel
theorem d_EX_isValueGood_7 : decode prog_6_method_13_code 7 = .ok (.ifCond .ne 13, 3) := by decide +kernel
theorem d_EX_isValueGood_10 : decode prog_6_method_13_code 10 = .ok (.aload_n 0, 1) := by decide +kernel
theorem d_EX_isValueGood_11 : decode prog_6_method_13_code 11 = .ok (.getfield 56, 3) := by decide +kernel
theorem d_EX_isValueGood_14 : decode prog_6_method_13_code 14 = .ok (.invokevirtual 302, 3) := by decide +kernel
theorem d_EX_isValueGood_17 : decode prog_6_method_13_code 17 = .ok (.ifCond .ne 9, 3) := by decide +kernel
theorem d_EX_isValueGood_20 : decode prog_6_method_13_code 20 = .ok (.aload_n 0, 1) := by decide +kernel
theorem d_EX_isValueGood_21 : decode prog_6_method_13_code 21 = .ok (.iconst 1, 1) := by decide +kernel
theorem d_EX_isValueGood_22 : decode prog_6_method_13_code 22 = .ok (.invokevirtual 154, 3) := by decide +kernel
theorem d_EX_isValueGood_25 : decode prog_6_method_13_code 25 = .ok (.ireturn, 1) := by decide +kernel
theorem d_EX_isValueGood_26 : decode prog_6_method_13_code 26 = .ok (.aload_n 0, 1) := by decide +kernel
theorem d_EX_isValueGood_27 : decode prog_6_method_13_code 27 = .ok (.getfield 56, 3) := by decide +kernel
theorem d_EX_isValueGood_30 : decode prog_6_method_13_code 30 = .ok (.getfield 305, 3) := by decide +kernel
theorem d_EX_isValueGood_33 : decode prog_6_method_13_code 33 = .ok (.ifCond .eq 17, 3) := by decide +kernel
theorem d_EX_isValueGood_36 : decode prog_6_method_13_code 36 = .ok (.aload_n 0, 1) := by decide +kernel
theorem d_EX_isValueGood_37 : decode prog_6_method_13_code 37 = .ok (.aload_n 0, 1) := by decide +kernel
theorem d_EX_isValueGood_38 : decode prog_6_method_13_code 38 = .ok (.getfield 56, 3) := by decide +kernel
theorem d_EX_isValueGood_41 : decode prog_6_method_13_code 41 = .ok (.getfield 305, 3) := by decide +kernel
theorem d_EX_isValueGood_44 : decode prog_6_method_13_code 44 = .ok (.invokevirtual 154, 3) := by decide +kernel
theorem d_EX_isValueGood_47 : decode prog_6_method_13_code 47 = .ok (.ifCond .eq 7, 3) := by decide +kernel
theorem d_EX_isValueGood_50 : decode prog_6_method_13_code 50 = .ok (.iconst 1, 1) := by decide +kernel
theorem d_EX_isValueGood_51 : decode prog_6_method_13_code 51 = .ok (.goto 4, 3) := by decide +kernel
theorem d_EX_isValueGood_54 : decode prog_6_method_13_code 54 = .ok (.iconst 0, 1) := by decide +kernel
theorem d_EX_isValueGood_55 : decode prog_6_method_13_code 55 = .ok (.ireturn, 1) := by decide +kernel
theorem d_EX_forgetConstant_0 : decode prog_6_method_15_code 0 = .ok (.aload_n 0, 1) := by decide +kernel
theorem d_EX_forgetConstant_1 : decode prog_6_method_15_code 1 = .ok (.getfield 56, 3) := by decide +kernel
theorem d_EX_forgetConstant_4 : decode prog_6_method_15_code 4 = .ok (.invokevirtual 308, 3) := by decide +kernel
theorem d_EX_forgetConstant_7 : decode prog_6_method_15_code 7 = .ok (.ifCond .eq 13, 3) := by decide +kernel
theorem d_EX_forgetConstant_10 : decode prog_6_method_15_code 10 = .ok (.aload_n 0, 1) := by decide +kernel
theorem d_EX_forgetConstant_11 : decode prog_6_method_15_code 11 = .ok (.getfield 56, 3) := by decide +kernel
theorem d_EX_forgetConstant_14 : decode prog_6_method_15_code 14 = .ok (.invokevirtual 302, 3) := by decide +kernel
theorem d_EX_forgetConstant_17 : decode prog_6_method_15_code 17 = .ok (.ifCond .ne 12, 3) := by decide +kernel
theorem d_EX_forgetConstant_20 : decode prog_6_method_15_code 20 = .ok (.aload_n 0, 1) := by decide +kernel
theorem d_EX_forgetConstant_21 : decode prog_6_method_15_code 21 = .ok (.iconst 1, 1) := by decide +kernel
theorem d_EX_forgetConstant_22 : decode prog_6_method_15_code 22 = .ok (.invokevirtual 154, 3) := by decide +kernel
theorem d_EX_forgetConstant_25 : decode prog_6_method_15_code 25 = .ok (.pop, 1) := by decide +kernel
theorem d_EX_forgetConstant_26 : decode prog_6_method_15_code 26 = .ok (.goto 33, 3) := by decide +kernel
theorem d_EX_forgetConstant_29 : decode prog_6_method_15_code 29 = .ok (.aload_n 0, 1) := by decide +kernel
theorem d_EX_forgetConstant_30 : decode prog_6_method_15_code 30 = .ok (.getfield 47, 3) := by decide +kernel
theorem d_EX_forgetConstant_33 : decode prog_6_method_15_code 33 = .ok (.aload_n 0, 1) := by decide +kernel
theorem d_EX_forgetConstant_34 : decode prog_6_method_15_code 34 = .ok (.getfield 56, 3) := by decide +kernel
theorem d_EX_forgetConstant_37 : decode prog_6_method_15_code 37 = .ok (.getfield 314, 3) := by decide +kernel
theorem d_EX_forgetConstant_40 : decode prog_6_method_15_code 40 = .ok (.aload_n 0, 1) := by decide +kernel
theorem d_EX_forgetConstant_41 : decode prog_6_method_15_code 41 = .ok (.getfield 56, 3) := by decide +kernel
theorem d_EX_forgetConstant_44 : decode prog_6_method_15_code 44 = .ok (.getfield 317, 3) := by decide +kernel
theorem d_EX_forgetConstant_47 : decode prog_6_method_15_code 47 = .ok (.invokevirtual 329, 3) := by decide +kernel
theorem d_EX_forgetConstant_50 : decode prog_6_method_15_code 50 = .ok (.ifCond .ne 9, 3) := by decide +kernel
theorem d_EX_forgetConstant_53 : decode prog_6_method_15_code 53 = .ok (.aload_n 0, 1) := by decide +kernel
theorem d_EX_forgetConstant_54 : decode prog_6_method_15_code 54 = .ok (.iconst 3, 1) := by decide +kernel
theorem d_EX_forgetConstant_55 : decode prog_6_method_15_code 55 = .ok (.invokevirtual 154, 3) := by decide +kernel
theorem d_EX_forgetConstant_58 : decode prog_6_method_15_code 58 = .ok (.pop, 1) := by decide +kernel
theorem d_EX_forgetConstant_59 : decode prog_6_method_15_code 59 = .ok (.return_, 1) := by decide +kernel
theorem d_EX_openCondition_0 : decode prog_6_method_18_code 0 = .ok (.aload_n 0, 1) := by decide +kernel
theorem d_EX_openCondition_1 : decode prog_6_method_18_code 1 = .ok (.getfield 12, 3) := by decide +kernel
theorem d_EX_openCondition_4 : decode prog_6_method_18_code 4 = .ok (.iload_n 1, 1) := by decide +kernel
theorem d_EX_openCondition_5 : decode prog_6_method_18_code 5 = .ok (.iload_n 2, 1) := by decide +kernel
theorem d_EX_openCondition_6 : decode prog_6_method_18_code 6 = .ok (.aload_n 0, 1) := by decide +kernel
theorem d_EX_openCondition_7 : decode prog_6_method_18_code 7 = .ok (.invokevirtual 150, 3) := by decide +kernel
theorem d_EX_openCondition_10 : decode prog_6_method_18_code 10 = .ok (.invokevirtual 343, 3) := by decide +kernel
theorem d_EX_openCondition_13 : decode prog_6_method_18_code 13 = .ok (.ifCond .ne 10, 3) := by decide +kernel
theorem d_EX_openCondition_16 : decode prog_6_method_18_code 16 = .ok (.aload_n 0, 1) := by decide +kernel
theorem d_EX_openCondition_17 : decode prog_6_method_18_code 17 = .ok (.bipush 6, 2) := by decide +kernel
theorem d_EX_openCondition_19 : decode prog_6_method_18_code 19 = .ok (.invokevirtual 154, 3) := by decide +kernel
theorem d_EX_openCondition_22 : decode prog_6_method_18_code 22 = .ok (.pop, 1) := by decide +kernel
theorem d_EX_openCondition_23 : decode prog_6_method_18_code 23 = .ok (.return_, 1) := by decide +kernel
theorem d_EX_openIfSame_0 : decode prog_6_method_17_code 0 = .ok (.aload_n 0, 1) := by decide +kernel
theorem d_EX_openIfSame_1 : decode prog_6_method_17_code 1 = .ok (.getfield 38, 3) := by decide +kernel
theorem d_EX_openIfSame_4 : decode prog_6_method_17_code 4 = .ok (.bipush 44, 2) := by decide +kernel
theorem d_EX_openIfSame_6 : decode prog_6_method_17_code 6 = .ok (.aload_n 0, 1) := by decide +kernel
theorem d_EX_openIfSame_7 : decode prog_6_method_17_code 7 = .ok (.getfield 56, 3) := by decide +kernel
theorem d_EX_openIfSame_10 : decode prog_6_method_17_code 10 = .ok (.getfield 333, 3) := by decide +kernel
theorem d_EX_openIfSame_13 : decode prog_6_method_17_code 13 = .ok (.aload_n 0, 1) := by decide +kernel
theorem d_EX_openIfSame_14 : decode prog_6_method_17_code 14 = .ok (.getfield 176, 3) := by decide +kernel
theorem d_EX_openIfSame_17 : decode prog_6_method_17_code 17 = .ok (.invokevirtual 336, 3) := by decide +kernel
theorem d_EX_openIfSame_20 : decode prog_6_method_17_code 20 = .ok (.istore_n 1, 1) := by decide +kernel
theorem d_EX_openIfSame_21 : decode prog_6_method_17_code 21 = .ok (.iload_n 1, 1) := by decide +kernel
theorem d_EX_openIfSame_22 : decode prog_6_method_17_code 22 = .ok (.aload_n 0, 1) := by decide +kernel
theorem d_EX_openIfSame_23 : decode prog_6_method_17_code 23 = .ok (.getfield 176, 3) := by decide +kernel
theorem d_EX_openIfSame_26 : decode prog_6_method_17_code 26 = .ok (.if_icmp .lt 10, 3) := by decide +kernel
theorem d_EX_openIfSame_29 : decode prog_6_method_17_code 29 = .ok (.aload_n 0, 1) := by decide +kernel
theorem d_EX_openIfSame_30 : decode prog_6_method_17_code 30 = .ok (.iconst 1, 1) := by decide +kernel
theorem d_EX_openIfSame_31 : decode prog_6_method_17_code 31 = .ok (.invokevirtual 154, 3) := by decide +kernel
theorem d_EX_openIfSame_34 : decode prog_6_method_17_code 34 = .ok (.pop, 1) := by decide +kernel
theorem d_EX_openIfSame_35 : decode prog_6_method_17_code 35 = .ok (.return_, 1) := by decide +kernel
theorem d_EX_openIfSame_36 : decode prog_6_method_17_code 36 = .ok (.aload_n 0, 1) := by decide +kernel
theorem d_EX_openIfSame_37 : decode prog_6_method_17_code 37 = .ok (.getfield 38, 3) := by decide +kernel
theorem d_EX_openIfSame_40 : decode prog_6_method_17_code 40 = .ok (.aload_n 0, 1) := by decide +kernel
theorem d_EX_openIfSame_41 : decode prog_6_method_17_code 41 = .ok (.getfield 56, 3) := by decide +kernel
theorem d_EX_openIfSame_44 : decode prog_6_method_17_code 44 = .ok (.getfield 333, 3) := by decide +kernel
theorem d_EX_openIfSame_47 : decode prog_6_method_17_code 47 = .ok (.iload_n 1, 1) := by decide +kernel
theorem d_EX_openIfSame_48 : decode prog_6_method_17_code 48 = .ok (.invokevirtual 197, 3) := by decide +kernel
theorem d_EX_openIfSame_51 : decode prog_6_method_17_code 51 = .ok (.istore_n 2, 1) := by decide +kernel
theorem d_EX_openIfSame_52 : decode prog_6_method_17_code 52 = .ok (.aload_n 0, 1) := by decide +kernel
theorem d_EX_openIfSame_53 : decode prog_6_method_17_code 53 = .ok (.getfield 38, 3) := by decide +kernel
theorem d_EX_openIfSame_56 : decode prog_6_method_17_code 56 = .ok (.iload_n 2, 1) := by decide +kernel
theorem d_EX_openIfSame_57 : decode prog_6_method_17_code 57 = .ok (.iload_n 1, 1) := by decide +kernel
theorem d_EX_openIfSame_58 : decode prog_6_method_17_code 58 = .ok (.invokevirtual 200, 3) := by decide +kernel
theorem d_EX_openIfSame_61 : decode prog_6_method_17_code 61 = .ok (.istore_n 3, 1) := by decide +kernel
theorem d_EX_openIfSame_62 : decode prog_6_method_17_code 62 = .ok (.aload_n 0, 1) := by decide +kernel
theorem d_EX_openIfSame_63 : decode prog_6_method_17_code 63 = .ok (.getfield 38, 3) := by decide +kernel
theorem d_EX_openIfSame_66 : decode prog_6_method_17_code 66 = .ok (.iload_n 1, 1) := by decide +kernel
theorem d_EX_openIfSame_67 : decode prog_6_method_17_code 67 = .ok (.iconst 1, 1) := by decide +kernel
theorem d_EX_openIfSame_68 : decode prog_6_method_17_code 68 = .ok (.iadd, 1) := by decide +kernel
theorem d_EX_openIfSame_69 : decode prog_6_method_17_code 69 = .ok (.aload_n 0, 1) := by decide +kernel
theorem d_EX_openIfSame_70 : decode prog_6_method_17_code 70 = .ok (.getfield 176, 3) := by decide +kernel
theorem d_EX_openIfSame_73 : decode prog_6_method_17_code 73 = .ok (.invokevirtual 197, 3) := by decide +kernel
theorem d_EX_openIfSame_76 : decode prog_6_method_17_code 76 = .ok (.istore 4, 2) := by decide +kernel
theorem d_EX_openIfSame_78 : decode prog_6_method_17_code 78 = .ok (.aload_n 0, 1) := by decide +kernel
theorem d_EX_openIfSame_79 : decode prog_6_method_17_code 79 = .ok (.iconst 1, 1) := by decide +kernel
theorem d_EX_openIfSame_80 : decode prog_6_method_17_code 80 = .ok (.aload_n 0, 1) := by decide +kernel
theorem d_EX_openIfSame_81 : decode prog_6_method_17_code 81 = .ok (.getfield 38, 3) := by decide +kernel
theorem d_EX_openIfSame_84 : decode prog_6_method_17_code 84 = .ok (.iload_n 2, 1) := by decide +kernel
theorem d_EX_openIfSame_85 : decode prog_6_method_17_code 85 = .ok (.iload_n 3, 1) := by decide +kernel
theorem d_EX_openIfSame_86 : decode prog_6_method_17_code 86 = .ok (.iload 4, 2) := by decide +kernel
theorem d_EX_openIfSame_88 : decode prog_6_method_17_code 88 = .ok (.aload_n 0, 1) := by decide +kernel
theorem d_EX_openIfSame_89 : decode prog_6_method_17_code 89 = .ok (.getfield 176, 3) := by decide +kernel
theorem d_EX_openIfSame_92 : decode prog_6_method_17_code 92 = .ok (.invokevirtual 339, 3) := by decide +kernel
theorem d_EX_openIfSame_95 : decode prog_6_method_17_code 95 = .ok (.invokevirtual 249, 3) := by decide +kernel
theorem d_EX_openIfSame_98 : decode prog_6_method_17_code 98 = .ok (.return_, 1) := by decide +kernel
theorem d_EX_openRepeated_0 : decode prog_6_method_25_code 0 = .ok (.aload_n 0, 1) := by decide +kernel
theorem d_EX_openRepeated_1 : decode prog_6_method_25_code 1 = .ok (.getfield 144, 3) := by decide +kernel
theorem d_EX_openRepeated_4 : decode prog_6_method_25_code 4 = .ok (.istore 4, 2) := by decide +kernel
theorem d_EX_openRepeated_6 : decode prog_6_method_25_code 6 = .ok (.aload_n 0, 1) := by decide +kernel
theorem d_EX_openRepeated_7 : decode prog_6_method_25_code 7 = .ok (.iload_n 2, 1) := by decide +kernel
theorem d_EX_openRepeated_8 : decode prog_6_method_25_code 8 = .ok (.putfield 144, 3) := by decide +kernel
theorem d_EX_openRepeated_11 : decode prog_6_method_25_code 11 = .ok (.iload_n 3, 1) := by decide +kernel
theorem d_EX_openRepeated_12 : decode prog_6_method_25_code 12 = .ok (.ifCond .ne 4, 3) := by decide +kernel
theorem d_EX_openRepeated_15 : decode prog_6_method_25_code 15 = .ok (.return_, 1) := by decide +kernel
theorem d_EX_openRepeated_16 : decode prog_6_method_25_code 16 = .ok (.aload_n 0, 1) := by decide +kernel
theorem d_EX_openRepeated_17 : decode prog_6_method_25_code 17 = .ok (.getfield 72, 3) := by decide +kernel
theorem d_EX_openRepeated_20 : decode prog_6_method_25_code 20 = .ok (.invokevirtual 271, 3) := by decide +kernel
theorem d_EX_openRepeated_23 : decode prog_6_method_25_code 23 = .ok (.aload_n 1, 1) := by decide +kernel
theorem d_EX_openRepeated_24 : decode prog_6_method_25_code 24 = .ok (.iload_n 2, 1) := by decide +kernel
theorem d_EX_openRepeated_25 : decode prog_6_method_25_code 25 = .ok (.iconst 1, 1) := by decide +kernel
theorem d_EX_openRepeated_26 : decode prog_6_method_25_code 26 = .ok (.iadd, 1) := by decide +kernel
theorem d_EX_openRepeated_27 : decode prog_6_method_25_code 27 = .ok (.iload 4, 2) := by decide +kernel
theorem d_EX_openRepeated_29 : decode prog_6_method_25_code 29 = .ok (.iload_n 3, 1) := by decide +kernel
theorem d_EX_openRepeated_30 : decode prog_6_method_25_code 30 = .ok (.aload_n 0, 1) := by decide +kernel
theorem d_EX_openRepeated_31 : decode prog_6_method_25_code 31 = .ok (.getfield 12, 3) := by decide +kernel
theorem d_EX_openRepeated_34 : decode prog_6_method_25_code 34 = .ok (.getfield 134, 3) := by decide +kernel
theorem d_EX_openRepeated_37 : decode prog_6_method_25_code 37 = .ok (.invokevirtual 283, 3) := by decide +kernel
theorem d_EX_openRepeated_40 : decode prog_6_method_25_code 40 = .ok (.aload_n 0, 1) := by decide +kernel
theorem d_EX_openRepeated_41 : decode prog_6_method_25_code 41 = .ok (.getfield 72, 3) := by decide +kernel
theorem d_EX_openRepeated_44 : decode prog_6_method_25_code 44 = .ok (.iload_n 2, 1) := by decide +kernel
theorem d_EX_openRepeated_45 : decode prog_6_method_25_code 45 = .ok (.invokevirtual 292, 3) := by decide +kernel
theorem d_EX_openRepeated_48 : decode prog_6_method_25_code 48 = .ok (.ifCond .ne 10, 3) := by decide +kernel
theorem d_EX_openRepeated_51 : decode prog_6_method_25_code 51 = .ok (.aload_n 0, 1) := by decide +kernel
theorem d_EX_openRepeated_52 : decode prog_6_method_25_code 52 = .ok (.bipush 6, 2) := by decide +kernel
theorem d_EX_openRepeated_54 : decode prog_6_method_25_code 54 = .ok (.invokevirtual 154, 3) := by decide +kernel
theorem d_EX_openRepeated_57 : decode prog_6_method_25_code 57 = .ok (.pop, 1) := by decide +kernel
theorem d_EX_openRepeated_58 : decode prog_6_method_25_code 58 = .ok (.return_, 1) := by decide +kernel
theorem hm_EX_toldLine : y_EX_toldLine.cls ≠ "java/lang/invoke/MethodHandle" ∧ y_EX_toldLine.cls ≠ "java/lang/invoke/VarHandle" ∧ (parseMethodDescriptor y_EX_toldLine.desc).map (fun d => d.parameters.length) = some 0 := by decide +kernel
theorem hm_EX_fail : y_EX_fail.cls ≠ "java/lang/invoke/MethodHandle" ∧ y_EX_fail.cls ≠ "java/lang/invoke/VarHandle" ∧ (parseMethodDescriptor y_EX_fail.desc).map (fun d => d.parameters.length) = some 1 := by decide +kernel
theorem hm_EX_look : y_EX_look.cls ≠ "java/lang/invoke/MethodHandle" ∧ y_EX_look.cls ≠ "java/lang/invoke/VarHandle" ∧ (parseMethodDescriptor y_EX_look.desc).map (fun d => d.parameters.length) = some 1 := by decide +kernel
theorem hm_EX_isValueGood : y_EX_isValueGood.cls ≠ "java/lang/invoke/MethodHandle" ∧ y_EX_isValueGood.cls ≠ "java/lang/invoke/VarHandle" ∧ (parseMethodDescriptor y_EX_isValueGood.desc).map (fun d => d.parameters.length) = some 0 := by decide +kernel
theorem hm_EX_forgetConstant : y_EX_forgetConstant.cls ≠ "java/lang/invoke/MethodHandle" ∧ y_EX_forgetConstant.cls ≠ "java/lang/invoke/VarHandle" ∧ (parseMethodDescriptor y_EX_forgetConstant.desc).map (fun d => d.parameters.length) = some 0 := by decide +kernel
theorem hm_EX_openCondition : y_EX_openCondition.cls ≠ "java/lang/invoke/MethodHandle" ∧ y_EX_openCondition.cls ≠ "java/lang/invoke/VarHandle" ∧ (parseMethodDescriptor y_EX_openCondition.desc).map (fun d => d.parameters.length) = some 2 := by decide +kernel
theorem hm_EX_openIfSame : y_EX_openIfSame.cls ≠ "java/lang/invoke/MethodHandle" ∧ y_EX_openIfSame.cls ≠ "java/lang/invoke/VarHandle" ∧ (parseMethodDescriptor y_EX_openIfSame.desc).map (fun d => d.parameters.length) = some 0 := by decide +kernel
theorem hm_EX_openRepeated : y_EX_openRepeated.cls ≠ "java/lang/invoke/MethodHandle" ∧ y_EX_openRepeated.cls ≠ "java/lang/invoke/VarHandle" ∧ (parseMethodDescriptor y_EX_openRepeated.desc).map (fun d => d.parameters.length) = some 3 := by decide +kernel
