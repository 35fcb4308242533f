theorem d_RE_begin_0 : decode prog_11_method_2_code 0 = .ok (.aload_n 0, 1) := by decide +kernel
theorem d_RE_begin_1 : decode prog_11_method_2_code 1 = .ok (.iload_n 1, 1) := by decide +kernel
theorem d_RE_begin_2 : decode prog_11_method_2_code 2 = .ok (.putfield 19, 3) := by decide +kernel
theorem d_RE_begin_5 : decode prog_11_method_2_code 5 = .ok (.aload_n 0, 1) := by decide +kernel
theorem d_RE_begin_6 : decode prog_11_method_2_code 6 = .ok (.iload_n 2, 1) := by decide +kernel
theorem d_RE_begin_7 : decode prog_11_method_2_code 7 = .ok (.putfield 23, 3) := by decide +kernel
theorem d_RE_begin_10 : decode prog_11_method_2_code 10 = .ok (.aload_n 0, 1) := by decide +kernel
theorem d_RE_begin_11 : decode prog_11_method_2_code 11 = .ok (.iconst 0, 1) := by decide +kernel
theorem d_RE_begin_12 : decode prog_11_method_2_code 12 = .ok (.putfield 26, 3) := by decide +kernel
theorem d_RE_begin_15 : decode prog_11_method_2_code 15 = .ok (.aload_n 0, 1) := by decide +kernel
theorem d_RE_begin_16 : decode prog_11_method_2_code 16 = .ok (.iconst 0, 1) := by decide +kernel
theorem d_RE_begin_17 : decode prog_11_method_2_code 17 = .ok (.putfield 30, 3) := by decide +kernel
theorem d_RE_begin_20 : decode prog_11_method_2_code 20 = .ok (.return_, 1) := by decide +kernel
theorem d_RE_takeWord_0 : decode prog_11_method_6_code 0 = .ok (.aload_n 0, 1) := by decide +kernel
theorem d_RE_takeWord_1 : decode prog_11_method_6_code 1 = .ok (.aload_n 0, 1) := by decide +kernel
theorem d_RE_takeWord_2 : decode prog_11_method_6_code 2 = .ok (.getfield 9, 3) := by decide +kernel
theorem d_RE_takeWord_5 : decode prog_11_method_6_code 5 = .ok (.aload_n 0, 1) := by decide +kernel
theorem d_RE_takeWord_6 : decode prog_11_method_6_code 6 = .ok (.getfield 19, 3) := by decide +kernel
theorem d_RE_takeWord_9 : decode prog_11_method_6_code 9 = .ok (.aload_n 0, 1) := by decide +kernel
theorem d_RE_takeWord_10 : decode prog_11_method_6_code 10 = .ok (.getfield 23, 3) := by decide +kernel
theorem d_RE_takeWord_13 : decode prog_11_method_6_code 13 = .ok (.invokevirtual 33, 3) := by decide +kernel
theorem d_RE_takeWord_16 : decode prog_11_method_6_code 16 = .ok (.putfield 19, 3) := by decide +kernel
theorem d_RE_takeWord_19 : decode prog_11_method_6_code 19 = .ok (.aload_n 0, 1) := by decide +kernel
theorem d_RE_takeWord_20 : decode prog_11_method_6_code 20 = .ok (.aload_n 0, 1) := by decide +kernel
theorem d_RE_takeWord_21 : decode prog_11_method_6_code 21 = .ok (.getfield 19, 3) := by decide +kernel
theorem d_RE_takeWord_24 : decode prog_11_method_6_code 24 = .ok (.putfield 46, 3) := by decide +kernel
theorem d_RE_takeWord_27 : decode prog_11_method_6_code 27 = .ok (.aload_n 0, 1) := by decide +kernel
theorem d_RE_takeWord_28 : decode prog_11_method_6_code 28 = .ok (.aload_n 0, 1) := by decide +kernel
theorem d_RE_takeWord_29 : decode prog_11_method_6_code 29 = .ok (.getfield 9, 3) := by decide +kernel
theorem d_RE_takeWord_32 : decode prog_11_method_6_code 32 = .ok (.aload_n 0, 1) := by decide +kernel
theorem d_RE_takeWord_33 : decode prog_11_method_6_code 33 = .ok (.getfield 19, 3) := by decide +kernel
theorem d_RE_takeWord_36 : decode prog_11_method_6_code 36 = .ok (.aload_n 0, 1) := by decide +kernel
theorem d_RE_takeWord_37 : decode prog_11_method_6_code 37 = .ok (.getfield 23, 3) := by decide +kernel
theorem d_RE_takeWord_40 : decode prog_11_method_6_code 40 = .ok (.invokevirtual 49, 3) := by decide +kernel
theorem d_RE_takeWord_43 : decode prog_11_method_6_code 43 = .ok (.putfield 52, 3) := by decide +kernel
theorem d_RE_takeWord_46 : decode prog_11_method_6_code 46 = .ok (.aload_n 0, 1) := by decide +kernel
theorem d_RE_takeWord_47 : decode prog_11_method_6_code 47 = .ok (.aload_n 0, 1) := by decide +kernel
theorem d_RE_takeWord_48 : decode prog_11_method_6_code 48 = .ok (.getfield 52, 3) := by decide +kernel
theorem d_RE_takeWord_51 : decode prog_11_method_6_code 51 = .ok (.putfield 19, 3) := by decide +kernel
theorem d_RE_takeWord_54 : decode prog_11_method_6_code 54 = .ok (.aload_n 0, 1) := by decide +kernel
theorem d_RE_takeWord_55 : decode prog_11_method_6_code 55 = .ok (.getfield 52, 3) := by decide +kernel
theorem d_RE_takeWord_58 : decode prog_11_method_6_code 58 = .ok (.aload_n 0, 1) := by decide +kernel
theorem d_RE_takeWord_59 : decode prog_11_method_6_code 59 = .ok (.getfield 46, 3) := by decide +kernel
theorem d_RE_takeWord_62 : decode prog_11_method_6_code 62 = .ok (.if_icmp .le 21, 3) := by decide +kernel
theorem d_RE_takeWord_65 : decode prog_11_method_6_code 65 = .ok (.aload_n 0, 1) := by decide +kernel
theorem d_RE_takeWord_66 : decode prog_11_method_6_code 66 = .ok (.getfield 52, 3) := by decide +kernel
theorem d_RE_takeWord_69 : decode prog_11_method_6_code 69 = .ok (.aload_n 0, 1) := by decide +kernel
theorem d_RE_takeWord_70 : decode prog_11_method_6_code 70 = .ok (.getfield 46, 3) := by decide +kernel
theorem d_RE_takeWord_73 : decode prog_11_method_6_code 73 = .ok (.isub, 1) := by decide +kernel
theorem d_RE_takeWord_74 : decode prog_11_method_6_code 74 = .ok (.bipush 12, 2) := by decide +kernel
theorem d_RE_takeWord_76 : decode prog_11_method_6_code 76 = .ok (.if_icmp .gt 7, 3) := by decide +kernel
theorem d_RE_takeWord_79 : decode prog_11_method_6_code 79 = .ok (.iconst 1, 1) := by decide +kernel
theorem d_RE_takeWord_80 : decode prog_11_method_6_code 80 = .ok (.goto 4, 3) := by decide +kernel
theorem d_RE_takeWord_83 : decode prog_11_method_6_code 83 = .ok (.iconst 0, 1) := by decide +kernel
theorem d_RE_takeWord_84 : decode prog_11_method_6_code 84 = .ok (.ireturn, 1) := by decide +kernel
theorem d_RE_take_0 : decode prog_11_method_5_code 0 = .ok (.aload_n 0, 1) := by decide +kernel
theorem d_RE_take_1 : decode prog_11_method_5_code 1 = .ok (.aload_n 0, 1) := by decide +kernel
theorem d_RE_take_2 : decode prog_11_method_5_code 2 = .ok (.getfield 9, 3) := by decide +kernel
theorem d_RE_take_5 : decode prog_11_method_5_code 5 = .ok (.aload_n 0, 1) := by decide +kernel
theorem d_RE_take_6 : decode prog_11_method_5_code 6 = .ok (.getfield 19, 3) := by decide +kernel
theorem d_RE_take_9 : decode prog_11_method_5_code 9 = .ok (.aload_n 0, 1) := by decide +kernel
theorem d_RE_take_10 : decode prog_11_method_5_code 10 = .ok (.getfield 23, 3) := by decide +kernel
theorem d_RE_take_13 : decode prog_11_method_5_code 13 = .ok (.invokevirtual 33, 3) := by decide +kernel
theorem d_RE_take_16 : decode prog_11_method_5_code 16 = .ok (.putfield 19, 3) := by decide +kernel
theorem d_RE_take_19 : decode prog_11_method_5_code 19 = .ok (.aload_n 0, 1) := by decide +kernel
theorem d_RE_take_20 : decode prog_11_method_5_code 20 = .ok (.getfield 19, 3) := by decide +kernel
theorem d_RE_take_23 : decode prog_11_method_5_code 23 = .ok (.aload_n 0, 1) := by decide +kernel
theorem d_RE_take_24 : decode prog_11_method_5_code 24 = .ok (.getfield 23, 3) := by decide +kernel
theorem d_RE_take_27 : decode prog_11_method_5_code 27 = .ok (.if_icmp .ge 18, 3) := by decide +kernel
theorem d_RE_take_30 : decode prog_11_method_5_code 30 = .ok (.aload_n 0, 1) := by decide +kernel
theorem d_RE_take_31 : decode prog_11_method_5_code 31 = .ok (.getfield 9, 3) := by decide +kernel
theorem d_RE_take_34 : decode prog_11_method_5_code 34 = .ok (.aload_n 0, 1) := by decide +kernel
theorem d_RE_take_35 : decode prog_11_method_5_code 35 = .ok (.getfield 19, 3) := by decide +kernel
theorem d_RE_take_38 : decode prog_11_method_5_code 38 = .ok (.invokevirtual 39, 3) := by decide +kernel
theorem d_RE_take_41 : decode prog_11_method_5_code 41 = .ok (.iload_n 1, 1) := by decide +kernel
theorem d_RE_take_42 : decode prog_11_method_5_code 42 = .ok (.if_icmp .eq 5, 3) := by decide +kernel
theorem d_RE_take_45 : decode prog_11_method_5_code 45 = .ok (.iconst 0, 1) := by decide +kernel
theorem d_RE_take_46 : decode prog_11_method_5_code 46 = .ok (.ireturn, 1) := by decide +kernel
theorem d_RE_take_47 : decode prog_11_method_5_code 47 = .ok (.aload_n 0, 1) := by decide +kernel
theorem d_RE_take_48 : decode prog_11_method_5_code 48 = .ok (.dup, 1) := by decide +kernel
theorem d_RE_take_49 : decode prog_11_method_5_code 49 = .ok (.getfield 19, 3) := by decide +kernel
theorem d_RE_take_52 : decode prog_11_method_5_code 52 = .ok (.iconst 1, 1) := by decide +kernel
theorem d_RE_take_53 : decode prog_11_method_5_code 53 = .ok (.iadd, 1) := by decide +kernel
theorem d_RE_take_54 : decode prog_11_method_5_code 54 = .ok (.putfield 19, 3) := by decide +kernel
theorem d_RE_take_57 : decode prog_11_method_5_code 57 = .ok (.iconst 1, 1) := by decide +kernel
theorem d_RE_take_58 : decode prog_11_method_5_code 58 = .ok (.ireturn, 1) := by decide +kernel
theorem d_RE_meet_0 : decode prog_11_method_15_code 0 = .ok (.aload_n 0, 1) := by decide +kernel
theorem d_RE_meet_1 : decode prog_11_method_15_code 1 = .ok (.getfield 30, 3) := by decide +kernel
theorem d_RE_meet_4 : decode prog_11_method_15_code 4 = .ok (.ifCond .ne 8, 3) := by decide +kernel
theorem d_RE_meet_7 : decode prog_11_method_15_code 7 = .ok (.aload_n 0, 1) := by decide +kernel
theorem d_RE_meet_8 : decode prog_11_method_15_code 8 = .ok (.iload_n 1, 1) := by decide +kernel
theorem d_RE_meet_9 : decode prog_11_method_15_code 9 = .ok (.putfield 30, 3) := by decide +kernel
theorem d_RE_meet_12 : decode prog_11_method_15_code 12 = .ok (.return_, 1) := by decide +kernel
theorem d_RE_divisor_0 : decode prog_11_method_11_code 0 = .ok (.iload_n 1, 1) := by decide +kernel
theorem d_RE_divisor_1 : decode prog_11_method_11_code 1 = .ok (.ifCond .ne 8, 3) := by decide +kernel
theorem d_RE_divisor_4 : decode prog_11_method_11_code 4 = .ok (.aload_n 0, 1) := by decide +kernel
theorem d_RE_divisor_5 : decode prog_11_method_11_code 5 = .ok (.iconst 4, 1) := by decide +kernel
theorem d_RE_divisor_6 : decode prog_11_method_11_code 6 = .ok (.invokevirtual 75, 3) := by decide +kernel
theorem d_RE_divisor_9 : decode prog_11_method_11_code 9 = .ok (.iload_n 1, 1) := by decide +kernel
theorem d_RE_divisor_10 : decode prog_11_method_11_code 10 = .ok (.ireturn, 1) := by decide +kernel
theorem d_RE_product_0 : decode prog_11_method_10_code 0 = .ok (.aload_n 0, 1) := by decide +kernel
theorem d_RE_product_1 : decode prog_11_method_10_code 1 = .ok (.iload_n 1, 1) := by decide +kernel
theorem d_RE_product_2 : decode prog_11_method_10_code 2 = .ok (.invokevirtual 69, 3) := by decide +kernel
theorem d_RE_product_5 : decode prog_11_method_10_code 5 = .ok (.istore_n 2, 1) := by decide +kernel
theorem d_RE_product_6 : decode prog_11_method_10_code 6 = .ok (.iconst 0, 1) := by decide +kernel
theorem d_RE_product_7 : decode prog_11_method_10_code 7 = .ok (.istore_n 3, 1) := by decide +kernel
theorem d_RE_product_8 : decode prog_11_method_10_code 8 = .ok (.iload_n 3, 1) := by decide +kernel
theorem d_RE_product_9 : decode prog_11_method_10_code 9 = .ok (.sipush 3000, 3) := by decide +kernel
theorem d_RE_product_12 : decode prog_11_method_10_code 12 = .ok (.if_icmp .ge 112, 3) := by decide +kernel
theorem d_RE_product_15 : decode prog_11_method_10_code 15 = .ok (.aload_n 0, 1) := by decide +kernel
theorem d_RE_product_16 : decode prog_11_method_10_code 16 = .ok (.getfield 26, 3) := by decide +kernel
theorem d_RE_product_19 : decode prog_11_method_10_code 19 = .ok (.ifCond .ne 105, 3) := by decide +kernel
theorem d_RE_product_22 : decode prog_11_method_10_code 22 = .ok (.aload_n 0, 1) := by decide +kernel
theorem d_RE_product_23 : decode prog_11_method_10_code 23 = .ok (.bipush 42, 2) := by decide +kernel
theorem d_RE_product_25 : decode prog_11_method_10_code 25 = .ok (.invokevirtual 62, 3) := by decide +kernel
theorem d_RE_product_28 : decode prog_11_method_10_code 28 = .ok (.ifCond .eq 14, 3) := by decide +kernel
theorem d_RE_product_31 : decode prog_11_method_10_code 31 = .ok (.iload_n 2, 1) := by decide +kernel
theorem d_RE_product_32 : decode prog_11_method_10_code 32 = .ok (.aload_n 0, 1) := by decide +kernel
theorem d_RE_product_33 : decode prog_11_method_10_code 33 = .ok (.iload_n 1, 1) := by decide +kernel
theorem d_RE_product_34 : decode prog_11_method_10_code 34 = .ok (.invokevirtual 69, 3) := by decide +kernel
theorem d_RE_product_37 : decode prog_11_method_10_code 37 = .ok (.imul, 1) := by decide +kernel
theorem d_RE_product_38 : decode prog_11_method_10_code 38 = .ok (.istore_n 2, 1) := by decide +kernel
theorem d_RE_product_39 : decode prog_11_method_10_code 39 = .ok (.goto 79, 3) := by decide +kernel
theorem d_RE_product_42 : decode prog_11_method_10_code 42 = .ok (.aload_n 0, 1) := by decide +kernel
theorem d_RE_product_43 : decode prog_11_method_10_code 43 = .ok (.bipush 47, 2) := by decide +kernel
theorem d_RE_product_45 : decode prog_11_method_10_code 45 = .ok (.invokevirtual 62, 3) := by decide +kernel
theorem d_RE_product_48 : decode prog_11_method_10_code 48 = .ok (.ifCond .eq 31, 3) := by decide +kernel
theorem d_RE_product_51 : decode prog_11_method_10_code 51 = .ok (.aload_n 0, 1) := by decide +kernel
theorem d_RE_product_52 : decode prog_11_method_10_code 52 = .ok (.aload_n 0, 1) := by decide +kernel
theorem d_RE_product_53 : decode prog_11_method_10_code 53 = .ok (.iload_n 1, 1) := by decide +kernel
theorem d_RE_product_54 : decode prog_11_method_10_code 54 = .ok (.invokevirtual 69, 3) := by decide +kernel
theorem d_RE_product_57 : decode prog_11_method_10_code 57 = .ok (.invokevirtual 72, 3) := by decide +kernel
theorem d_RE_product_60 : decode prog_11_method_10_code 60 = .ok (.istore 4, 2) := by decide +kernel
theorem d_RE_product_62 : decode prog_11_method_10_code 62 = .ok (.iload 4, 2) := by decide +kernel
theorem d_RE_product_64 : decode prog_11_method_10_code 64 = .ok (.ifCond .ne 7, 3) := by decide +kernel
theorem d_RE_product_67 : decode prog_11_method_10_code 67 = .ok (.iconst 0, 1) := by decide +kernel
theorem d_RE_product_68 : decode prog_11_method_10_code 68 = .ok (.goto 7, 3) := by decide +kernel
theorem d_RE_product_71 : decode prog_11_method_10_code 71 = .ok (.iload_n 2, 1) := by decide +kernel
theorem d_RE_product_72 : decode prog_11_method_10_code 72 = .ok (.iload 4, 2) := by decide +kernel
theorem d_RE_product_74 : decode prog_11_method_10_code 74 = .ok (.idiv, 1) := by decide +kernel
theorem d_RE_product_75 : decode prog_11_method_10_code 75 = .ok (.istore_n 2, 1) := by decide +kernel
theorem d_RE_product_76 : decode prog_11_method_10_code 76 = .ok (.goto 42, 3) := by decide +kernel
theorem d_RE_product_79 : decode prog_11_method_10_code 79 = .ok (.aload_n 0, 1) := by decide +kernel
theorem d_RE_product_80 : decode prog_11_method_10_code 80 = .ok (.bipush 37, 2) := by decide +kernel
theorem d_RE_product_82 : decode prog_11_method_10_code 82 = .ok (.invokevirtual 62, 3) := by decide +kernel
theorem d_RE_product_85 : decode prog_11_method_10_code 85 = .ok (.ifCond .eq 31, 3) := by decide +kernel
theorem d_RE_product_88 : decode prog_11_method_10_code 88 = .ok (.aload_n 0, 1) := by decide +kernel
theorem d_RE_product_89 : decode prog_11_method_10_code 89 = .ok (.aload_n 0, 1) := by decide +kernel
theorem d_RE_product_90 : decode prog_11_method_10_code 90 = .ok (.iload_n 1, 1) := by decide +kernel
theorem d_RE_product_91 : decode prog_11_method_10_code 91 = .ok (.invokevirtual 69, 3) := by decide +kernel
theorem d_RE_product_94 : decode prog_11_method_10_code 94 = .ok (.invokevirtual 72, 3) := by decide +kernel
theorem d_RE_product_97 : decode prog_11_method_10_code 97 = .ok (.istore 4, 2) := by decide +kernel
theorem d_RE_product_99 : decode prog_11_method_10_code 99 = .ok (.iload 4, 2) := by decide +kernel
theorem d_RE_product_101 : decode prog_11_method_10_code 101 = .ok (.ifCond .ne 7, 3) := by decide +kernel
theorem d_RE_product_104 : decode prog_11_method_10_code 104 = .ok (.iconst 0, 1) := by decide +kernel
theorem d_RE_product_105 : decode prog_11_method_10_code 105 = .ok (.goto 7, 3) := by decide +kernel
theorem d_RE_product_108 : decode prog_11_method_10_code 108 = .ok (.iload_n 2, 1) := by decide +kernel
theorem d_RE_product_109 : decode prog_11_method_10_code 109 = .ok (.iload 4, 2) := by decide +kernel
theorem d_RE_product_111 : decode prog_11_method_10_code 111 = .ok (.irem, 1) := by decide +kernel
theorem d_RE_product_112 : decode prog_11_method_10_code 112 = .ok (.istore_n 2, 1) := by decide +kernel
theorem d_RE_product_113 : decode prog_11_method_10_code 113 = .ok (.goto 5, 3) := by decide +kernel
theorem d_RE_product_116 : decode prog_11_method_10_code 116 = .ok (.iload_n 2, 1) := by decide +kernel
theorem d_RE_product_117 : decode prog_11_method_10_code 117 = .ok (.ireturn, 1) := by decide +kernel
theorem d_RE_product_118 : decode prog_11_method_10_code 118 = .ok (.iinc 3 1, 3) := by decide +kernel
theorem d_RE_product_121 : decode prog_11_method_10_code 121 = .ok (.goto (-113), 3) := by decide +kernel
theorem d_RE_product_124 : decode prog_11_method_10_code 124 = .ok (.iload_n 2, 1) := by decide +kernel
theorem d_RE_product_125 : decode prog_11_method_10_code 125 = .ok (.ireturn, 1) := by decide +kernel
theorem d_RE_sum_0 : decode prog_11_method_9_code 0 = .ok (.aload_n 0, 1) := by decide +kernel
theorem d_RE_sum_1 : decode prog_11_method_9_code 1 = .ok (.iload_n 1, 1) := by decide +kernel
theorem d_RE_sum_2 : decode prog_11_method_9_code 2 = .ok (.invokevirtual 66, 3) := by decide +kernel
theorem d_RE_sum_5 : decode prog_11_method_9_code 5 = .ok (.istore_n 2, 1) := by decide +kernel
theorem d_RE_sum_6 : decode prog_11_method_9_code 6 = .ok (.iconst 0, 1) := by decide +kernel
theorem d_RE_sum_7 : decode prog_11_method_9_code 7 = .ok (.istore_n 3, 1) := by decide +kernel
theorem d_RE_sum_8 : decode prog_11_method_9_code 8 = .ok (.iload_n 3, 1) := by decide +kernel
theorem d_RE_sum_9 : decode prog_11_method_9_code 9 = .ok (.sipush 3000, 3) := by decide +kernel
theorem d_RE_sum_12 : decode prog_11_method_9_code 12 = .ok (.if_icmp .ge 58, 3) := by decide +kernel
theorem d_RE_sum_15 : decode prog_11_method_9_code 15 = .ok (.aload_n 0, 1) := by decide +kernel
theorem d_RE_sum_16 : decode prog_11_method_9_code 16 = .ok (.getfield 26, 3) := by decide +kernel
theorem d_RE_sum_19 : decode prog_11_method_9_code 19 = .ok (.ifCond .ne 51, 3) := by decide +kernel
theorem d_RE_sum_22 : decode prog_11_method_9_code 22 = .ok (.aload_n 0, 1) := by decide +kernel
theorem d_RE_sum_23 : decode prog_11_method_9_code 23 = .ok (.bipush 43, 2) := by decide +kernel
theorem d_RE_sum_25 : decode prog_11_method_9_code 25 = .ok (.invokevirtual 62, 3) := by decide +kernel
theorem d_RE_sum_28 : decode prog_11_method_9_code 28 = .ok (.ifCond .eq 14, 3) := by decide +kernel
theorem d_RE_sum_31 : decode prog_11_method_9_code 31 = .ok (.iload_n 2, 1) := by decide +kernel
theorem d_RE_sum_32 : decode prog_11_method_9_code 32 = .ok (.aload_n 0, 1) := by decide +kernel
theorem d_RE_sum_33 : decode prog_11_method_9_code 33 = .ok (.iload_n 1, 1) := by decide +kernel
theorem d_RE_sum_34 : decode prog_11_method_9_code 34 = .ok (.invokevirtual 66, 3) := by decide +kernel
theorem d_RE_sum_37 : decode prog_11_method_9_code 37 = .ok (.iadd, 1) := by decide +kernel
theorem d_RE_sum_38 : decode prog_11_method_9_code 38 = .ok (.istore_n 2, 1) := by decide +kernel
theorem d_RE_sum_39 : decode prog_11_method_9_code 39 = .ok (.goto 25, 3) := by decide +kernel
theorem d_RE_sum_42 : decode prog_11_method_9_code 42 = .ok (.aload_n 0, 1) := by decide +kernel
theorem d_RE_sum_43 : decode prog_11_method_9_code 43 = .ok (.bipush 45, 2) := by decide +kernel
theorem d_RE_sum_45 : decode prog_11_method_9_code 45 = .ok (.invokevirtual 62, 3) := by decide +kernel
theorem d_RE_sum_48 : decode prog_11_method_9_code 48 = .ok (.ifCond .eq 14, 3) := by decide +kernel
theorem d_RE_sum_51 : decode prog_11_method_9_code 51 = .ok (.iload_n 2, 1) := by decide +kernel
theorem d_RE_sum_52 : decode prog_11_method_9_code 52 = .ok (.aload_n 0, 1) := by decide +kernel
theorem d_RE_sum_53 : decode prog_11_method_9_code 53 = .ok (.iload_n 1, 1) := by decide +kernel
theorem d_RE_sum_54 : decode prog_11_method_9_code 54 = .ok (.invokevirtual 66, 3) := by decide +kernel
theorem d_RE_sum_57 : decode prog_11_method_9_code 57 = .ok (.isub, 1) := by decide +kernel
theorem d_RE_sum_58 : decode prog_11_method_9_code 58 = .ok (.istore_n 2, 1) := by decide +kernel
theorem d_RE_sum_59 : decode prog_11_method_9_code 59 = .ok (.goto 5, 3) := by decide +kernel
theorem d_RE_sum_62 : decode prog_11_method_9_code 62 = .ok (.iload_n 2, 1) := by decide +kernel
theorem d_RE_sum_63 : decode prog_11_method_9_code 63 = .ok (.ireturn, 1) := by decide +kernel
theorem d_RE_sum_64 : decode prog_11_method_9_code 64 = .ok (.iinc 3 1, 3) := by decide +kernel
theorem d_RE_sum_67 : decode prog_11_method_9_code 67 = .ok (.goto (-59), 3) := by decide +kernel
theorem d_RE_sum_70 : decode prog_11_method_9_code 70 = .ok (.iload_n 2, 1) := by decide +kernel
theorem d_RE_sum_71 : decode prog_11_method_9_code 71 = .ok (.ireturn, 1) := by decide +kernel
theorem d_RE_next_0 : decode prog_11_method_3_code 0 = .ok (.aload_n 0, 1) := by decide +kernel
theorem d_RE_next_1 : decode prog_11_method_3_code 1 = .ok (.aload_n 0, 1) := by decide +kernel
theorem d_RE_next_2 : decode prog_11_method_3_code 2 = .ok (.getfield 9, 3) := by decide +kernel
theorem d_RE_next_5 : decode prog_11_method_3_code 5 = .ok (.aload_n 0, 1) := by decide +kernel
theorem d_RE_next_6 : decode prog_11_method_3_code 6 = .ok (.getfield 19, 3) := by decide +kernel
theorem d_RE_next_9 : decode prog_11_method_3_code 9 = .ok (.aload_n 0, 1) := by decide +kernel
theorem d_RE_next_10 : decode prog_11_method_3_code 10 = .ok (.getfield 23, 3) := by decide +kernel
theorem d_RE_next_13 : decode prog_11_method_3_code 13 = .ok (.invokevirtual 33, 3) := by decide +kernel
theorem d_RE_next_16 : decode prog_11_method_3_code 16 = .ok (.putfield 19, 3) := by decide +kernel
theorem d_RE_next_19 : decode prog_11_method_3_code 19 = .ok (.aload_n 0, 1) := by decide +kernel
theorem d_RE_next_20 : decode prog_11_method_3_code 20 = .ok (.getfield 19, 3) := by decide +kernel
theorem d_RE_next_23 : decode prog_11_method_3_code 23 = .ok (.aload_n 0, 1) := by decide +kernel
theorem d_RE_next_24 : decode prog_11_method_3_code 24 = .ok (.getfield 23, 3) := by decide +kernel
theorem d_RE_next_27 : decode prog_11_method_3_code 27 = .ok (.if_icmp .ge 17, 3) := by decide +kernel
theorem d_RE_next_30 : decode prog_11_method_3_code 30 = .ok (.aload_n 0, 1) := by decide +kernel
theorem d_RE_next_31 : decode prog_11_method_3_code 31 = .ok (.getfield 9, 3) := by decide +kernel
theorem d_RE_next_34 : decode prog_11_method_3_code 34 = .ok (.aload_n 0, 1) := by decide +kernel
theorem d_RE_next_35 : decode prog_11_method_3_code 35 = .ok (.getfield 19, 3) := by decide +kernel
theorem d_RE_next_38 : decode prog_11_method_3_code 38 = .ok (.invokevirtual 39, 3) := by decide +kernel
theorem d_RE_next_41 : decode prog_11_method_3_code 41 = .ok (.goto 4, 3) := by decide +kernel
theorem d_RE_next_44 : decode prog_11_method_3_code 44 = .ok (.iconst (-1), 1) := by decide +kernel
theorem d_RE_next_45 : decode prog_11_method_3_code 45 = .ok (.ireturn, 1) := by decide +kernel
theorem d_RE_takePair_0 : decode prog_11_method_8_code 0 = .ok (.aload_n 0, 1) := by decide +kernel
theorem d_RE_takePair_1 : decode prog_11_method_8_code 1 = .ok (.invokevirtual 42, 3) := by decide +kernel
theorem d_RE_takePair_4 : decode prog_11_method_8_code 4 = .ok (.iload_n 1, 1) := by decide +kernel
theorem d_RE_takePair_5 : decode prog_11_method_8_code 5 = .ok (.if_icmp .ne 33, 3) := by decide +kernel
theorem d_RE_takePair_8 : decode prog_11_method_8_code 8 = .ok (.aload_n 0, 1) := by decide +kernel
theorem d_RE_takePair_9 : decode prog_11_method_8_code 9 = .ok (.getfield 19, 3) := by decide +kernel
theorem d_RE_takePair_12 : decode prog_11_method_8_code 12 = .ok (.iconst 1, 1) := by decide +kernel
theorem d_RE_takePair_13 : decode prog_11_method_8_code 13 = .ok (.iadd, 1) := by decide +kernel
theorem d_RE_takePair_14 : decode prog_11_method_8_code 14 = .ok (.aload_n 0, 1) := by decide +kernel
theorem d_RE_takePair_15 : decode prog_11_method_8_code 15 = .ok (.getfield 23, 3) := by decide +kernel
theorem d_RE_takePair_18 : decode prog_11_method_8_code 18 = .ok (.if_icmp .ge 20, 3) := by decide +kernel
theorem d_RE_takePair_21 : decode prog_11_method_8_code 21 = .ok (.aload_n 0, 1) := by decide +kernel
theorem d_RE_takePair_22 : decode prog_11_method_8_code 22 = .ok (.getfield 9, 3) := by decide +kernel
theorem d_RE_takePair_25 : decode prog_11_method_8_code 25 = .ok (.aload_n 0, 1) := by decide +kernel
theorem d_RE_takePair_26 : decode prog_11_method_8_code 26 = .ok (.getfield 19, 3) := by decide +kernel
theorem d_RE_takePair_29 : decode prog_11_method_8_code 29 = .ok (.iconst 1, 1) := by decide +kernel
theorem d_RE_takePair_30 : decode prog_11_method_8_code 30 = .ok (.iadd, 1) := by decide +kernel
theorem d_RE_takePair_31 : decode prog_11_method_8_code 31 = .ok (.invokevirtual 39, 3) := by decide +kernel
theorem d_RE_takePair_34 : decode prog_11_method_8_code 34 = .ok (.iload_n 2, 1) := by decide +kernel
theorem d_RE_takePair_35 : decode prog_11_method_8_code 35 = .ok (.if_icmp .eq 5, 3) := by decide +kernel
theorem d_RE_takePair_38 : decode prog_11_method_8_code 38 = .ok (.iconst 0, 1) := by decide +kernel
theorem d_RE_takePair_39 : decode prog_11_method_8_code 39 = .ok (.ireturn, 1) := by decide +kernel
theorem d_RE_takePair_40 : decode prog_11_method_8_code 40 = .ok (.aload_n 0, 1) := by decide +kernel
theorem d_RE_takePair_41 : decode prog_11_method_8_code 41 = .ok (.dup, 1) := by decide +kernel
theorem d_RE_takePair_42 : decode prog_11_method_8_code 42 = .ok (.getfield 19, 3) := by decide +kernel
theorem d_RE_takePair_45 : decode prog_11_method_8_code 45 = .ok (.iconst 2, 1) := by decide +kernel
theorem d_RE_takePair_46 : decode prog_11_method_8_code 46 = .ok (.iadd, 1) := by decide +kernel
theorem d_RE_takePair_47 : decode prog_11_method_8_code 47 = .ok (.putfield 19, 3) := by decide +kernel
theorem d_RE_takePair_50 : decode prog_11_method_8_code 50 = .ok (.iconst 1, 1) := by decide +kernel
theorem d_RE_takePair_51 : decode prog_11_method_8_code 51 = .ok (.ireturn, 1) := by decide +kernel
theorem d_RE_readValue_0 : decode prog_11_method_7_code 0 = .ok (.aload_n 0, 1) := by decide +kernel
theorem d_RE_readValue_1 : decode prog_11_method_7_code 1 = .ok (.iload_n 1, 1) := by decide +kernel
theorem d_RE_readValue_2 : decode prog_11_method_7_code 2 = .ok (.invokevirtual 55, 3) := by decide +kernel
theorem d_RE_readValue_5 : decode prog_11_method_7_code 5 = .ok (.istore_n 2, 1) := by decide +kernel
theorem d_RE_readValue_6 : decode prog_11_method_7_code 6 = .ok (.aload_n 0, 1) := by decide +kernel
theorem d_RE_readValue_7 : decode prog_11_method_7_code 7 = .ok (.bipush 61, 2) := by decide +kernel
theorem d_RE_readValue_9 : decode prog_11_method_7_code 9 = .ok (.bipush 61, 2) := by decide +kernel
theorem d_RE_readValue_11 : decode prog_11_method_7_code 11 = .ok (.invokevirtual 58, 3) := by decide +kernel
theorem d_RE_readValue_14 : decode prog_11_method_7_code 14 = .ok (.ifCond .eq 18, 3) := by decide +kernel
theorem d_RE_readValue_17 : decode prog_11_method_7_code 17 = .ok (.iload_n 2, 1) := by decide +kernel
theorem d_RE_readValue_18 : decode prog_11_method_7_code 18 = .ok (.aload_n 0, 1) := by decide +kernel
theorem d_RE_readValue_19 : decode prog_11_method_7_code 19 = .ok (.iload_n 1, 1) := by decide +kernel
theorem d_RE_readValue_20 : decode prog_11_method_7_code 20 = .ok (.invokevirtual 55, 3) := by decide +kernel
theorem d_RE_readValue_23 : decode prog_11_method_7_code 23 = .ok (.if_icmp .ne 7, 3) := by decide +kernel
theorem d_RE_readValue_26 : decode prog_11_method_7_code 26 = .ok (.iconst 1, 1) := by decide +kernel
theorem d_RE_readValue_27 : decode prog_11_method_7_code 27 = .ok (.goto 4, 3) := by decide +kernel
theorem d_RE_readValue_30 : decode prog_11_method_7_code 30 = .ok (.iconst 0, 1) := by decide +kernel
theorem d_RE_readValue_31 : decode prog_11_method_7_code 31 = .ok (.ireturn, 1) := by decide +kernel
theorem d_RE_readValue_32 : decode prog_11_method_7_code 32 = .ok (.aload_n 0, 1) := by decide +kernel
theorem d_RE_readValue_33 : decode prog_11_method_7_code 33 = .ok (.bipush 33, 2) := by decide +kernel
theorem d_RE_readValue_35 : decode prog_11_method_7_code 35 = .ok (.bipush 61, 2) := by decide +kernel
theorem d_RE_readValue_37 : decode prog_11_method_7_code 37 = .ok (.invokevirtual 58, 3) := by decide +kernel
theorem d_RE_readValue_40 : decode prog_11_method_7_code 40 = .ok (.ifCond .eq 18, 3) := by decide +kernel
theorem d_RE_readValue_43 : decode prog_11_method_7_code 43 = .ok (.iload_n 2, 1) := by decide +kernel
theorem d_RE_readValue_44 : decode prog_11_method_7_code 44 = .ok (.aload_n 0, 1) := by decide +kernel
theorem d_RE_readValue_45 : decode prog_11_method_7_code 45 = .ok (.iload_n 1, 1) := by decide +kernel
theorem d_RE_readValue_46 : decode prog_11_method_7_code 46 = .ok (.invokevirtual 55, 3) := by decide +kernel
theorem d_RE_readValue_49 : decode prog_11_method_7_code 49 = .ok (.if_icmp .eq 7, 3) := by decide +kernel
theorem d_RE_readValue_52 : decode prog_11_method_7_code 52 = .ok (.iconst 1, 1) := by decide +kernel
theorem d_RE_readValue_53 : decode prog_11_method_7_code 53 = .ok (.goto 4, 3) := by decide +kernel
theorem d_RE_readValue_56 : decode prog_11_method_7_code 56 = .ok (.iconst 0, 1) := by decide +kernel
theorem d_RE_readValue_57 : decode prog_11_method_7_code 57 = .ok (.ireturn, 1) := by decide +kernel
theorem d_RE_readValue_58 : decode prog_11_method_7_code 58 = .ok (.aload_n 0, 1) := by decide +kernel
theorem d_RE_readValue_59 : decode prog_11_method_7_code 59 = .ok (.bipush 60, 2) := by decide +kernel
theorem d_RE_readValue_61 : decode prog_11_method_7_code 61 = .ok (.bipush 61, 2) := by decide +kernel
theorem d_RE_readValue_63 : decode prog_11_method_7_code 63 = .ok (.invokevirtual 58, 3) := by decide +kernel
theorem d_RE_readValue_66 : decode prog_11_method_7_code 66 = .ok (.ifCond .eq 18, 3) := by decide +kernel
theorem d_RE_readValue_69 : decode prog_11_method_7_code 69 = .ok (.iload_n 2, 1) := by decide +kernel
theorem d_RE_readValue_70 : decode prog_11_method_7_code 70 = .ok (.aload_n 0, 1) := by decide +kernel
theorem d_RE_readValue_71 : decode prog_11_method_7_code 71 = .ok (.iload_n 1, 1) := by decide +kernel
theorem d_RE_readValue_72 : decode prog_11_method_7_code 72 = .ok (.invokevirtual 55, 3) := by decide +kernel
theorem d_RE_readValue_75 : decode prog_11_method_7_code 75 = .ok (.if_icmp .gt 7, 3) := by decide +kernel
theorem d_RE_readValue_78 : decode prog_11_method_7_code 78 = .ok (.iconst 1, 1) := by decide +kernel
theorem d_RE_readValue_79 : decode prog_11_method_7_code 79 = .ok (.goto 4, 3) := by decide +kernel
theorem d_RE_readValue_82 : decode prog_11_method_7_code 82 = .ok (.iconst 0, 1) := by decide +kernel
theorem d_RE_readValue_83 : decode prog_11_method_7_code 83 = .ok (.ireturn, 1) := by decide +kernel
theorem d_RE_readValue_84 : decode prog_11_method_7_code 84 = .ok (.aload_n 0, 1) := by decide +kernel
theorem d_RE_readValue_85 : decode prog_11_method_7_code 85 = .ok (.bipush 60, 2) := by decide +kernel
theorem d_RE_readValue_87 : decode prog_11_method_7_code 87 = .ok (.invokevirtual 62, 3) := by decide +kernel
theorem d_RE_readValue_90 : decode prog_11_method_7_code 90 = .ok (.ifCond .eq 18, 3) := by decide +kernel
theorem d_RE_readValue_93 : decode prog_11_method_7_code 93 = .ok (.iload_n 2, 1) := by decide +kernel
theorem d_RE_readValue_94 : decode prog_11_method_7_code 94 = .ok (.aload_n 0, 1) := by decide +kernel
theorem d_RE_readValue_95 : decode prog_11_method_7_code 95 = .ok (.iload_n 1, 1) := by decide +kernel
theorem d_RE_readValue_96 : decode prog_11_method_7_code 96 = .ok (.invokevirtual 55, 3) := by decide +kernel
theorem d_RE_readValue_99 : decode prog_11_method_7_code 99 = .ok (.if_icmp .ge 7, 3) := by decide +kernel
theorem d_RE_readValue_102 : decode prog_11_method_7_code 102 = .ok (.iconst 1, 1) := by decide +kernel
theorem d_RE_readValue_103 : decode prog_11_method_7_code 103 = .ok (.goto 4, 3) := by decide +kernel
theorem d_RE_readValue_106 : decode prog_11_method_7_code 106 = .ok (.iconst 0, 1) := by decide +kernel
theorem d_RE_readValue_107 : decode prog_11_method_7_code 107 = .ok (.ireturn, 1) := by decide +kernel
theorem d_RE_readValue_108 : decode prog_11_method_7_code 108 = .ok (.iload_n 2, 1) := by decide +kernel
theorem d_RE_readValue_109 : decode prog_11_method_7_code 109 = .ok (.ireturn, 1) := by decide +kernel
theorem d_RE_isDone_0 : decode prog_11_method_4_code 0 = .ok (.aload_n 0, 1) := by decide +kernel
theorem d_RE_isDone_1 : decode prog_11_method_4_code 1 = .ok (.invokevirtual 42, 3) := by decide +kernel
theorem d_RE_isDone_4 : decode prog_11_method_4_code 4 = .ok (.iconst (-1), 1) := by decide +kernel
theorem d_RE_isDone_5 : decode prog_11_method_4_code 5 = .ok (.if_icmp .ne 7, 3) := by decide +kernel
theorem d_RE_isDone_8 : decode prog_11_method_4_code 8 = .ok (.iconst 1, 1) := by decide +kernel
theorem d_RE_isDone_9 : decode prog_11_method_4_code 9 = .ok (.goto 4, 3) := by decide +kernel
theorem d_RE_isDone_12 : decode prog_11_method_4_code 12 = .ok (.iconst 0, 1) := by decide +kernel
theorem d_RE_isDone_13 : decode prog_11_method_4_code 13 = .ok (.ireturn, 1) := by decide +kernel
theorem d_RE_refuse_0 : decode prog_11_method_16_code 0 = .ok (.aload_n 0, 1) := by decide +kernel
theorem d_RE_refuse_1 : decode prog_11_method_16_code 1 = .ok (.iconst 1, 1) := by decide +kernel
theorem d_RE_refuse_2 : decode prog_11_method_16_code 2 = .ok (.putfield 26, 3) := by decide +kernel
theorem d_RE_refuse_5 : decode prog_11_method_16_code 5 = .ok (.iconst 0, 1) := by decide +kernel
theorem d_RE_refuse_6 : decode prog_11_method_16_code 6 = .ok (.ireturn, 1) := by decide +kernel
theorem d_RE_bracketed_0 : decode prog_11_method_13_code 0 = .ok (.aload_n 0, 1) := by decide +kernel
theorem d_RE_bracketed_1 : decode prog_11_method_13_code 1 = .ok (.iload_n 1, 1) := by decide +kernel
theorem d_RE_bracketed_2 : decode prog_11_method_13_code 2 = .ok (.invokevirtual 109, 3) := by decide +kernel
theorem d_RE_bracketed_5 : decode prog_11_method_13_code 5 = .ok (.istore_n 2, 1) := by decide +kernel
theorem d_RE_bracketed_6 : decode prog_11_method_13_code 6 = .ok (.aload_n 0, 1) := by decide +kernel
theorem d_RE_bracketed_7 : decode prog_11_method_13_code 7 = .ok (.bipush 41, 2) := by decide +kernel
theorem d_RE_bracketed_9 : decode prog_11_method_13_code 9 = .ok (.invokevirtual 62, 3) := by decide +kernel
theorem d_RE_bracketed_12 : decode prog_11_method_13_code 12 = .ok (.ifCond .eq 7, 3) := by decide +kernel
theorem d_RE_bracketed_15 : decode prog_11_method_13_code 15 = .ok (.iload_n 2, 1) := by decide +kernel
theorem d_RE_bracketed_16 : decode prog_11_method_13_code 16 = .ok (.goto 7, 3) := by decide +kernel
theorem d_RE_bracketed_19 : decode prog_11_method_13_code 19 = .ok (.aload_n 0, 1) := by decide +kernel
theorem d_RE_bracketed_20 : decode prog_11_method_13_code 20 = .ok (.invokevirtual 79, 3) := by decide +kernel
theorem d_RE_bracketed_23 : decode prog_11_method_13_code 23 = .ok (.ireturn, 1) := by decide +kernel
theorem d_RE_number_0 : decode prog_11_method_14_code 0 = .ok (.iconst 0, 1) := by decide +kernel
theorem d_RE_number_1 : decode prog_11_method_14_code 1 = .ok (.istore_n 1, 1) := by decide +kernel
theorem d_RE_number_2 : decode prog_11_method_14_code 2 = .ok (.iconst 0, 1) := by decide +kernel
theorem d_RE_number_3 : decode prog_11_method_14_code 3 = .ok (.istore_n 2, 1) := by decide +kernel
theorem d_RE_number_4 : decode prog_11_method_14_code 4 = .ok (.aload_n 0, 1) := by decide +kernel
theorem d_RE_number_5 : decode prog_11_method_14_code 5 = .ok (.getfield 19, 3) := by decide +kernel
theorem d_RE_number_8 : decode prog_11_method_14_code 8 = .ok (.aload_n 0, 1) := by decide +kernel
theorem d_RE_number_9 : decode prog_11_method_14_code 9 = .ok (.getfield 23, 3) := by decide +kernel
theorem d_RE_number_12 : decode prog_11_method_14_code 12 = .ok (.if_icmp .ge 56, 3) := by decide +kernel
theorem d_RE_number_15 : decode prog_11_method_14_code 15 = .ok (.aload_n 0, 1) := by decide +kernel
theorem d_RE_number_16 : decode prog_11_method_14_code 16 = .ok (.getfield 9, 3) := by decide +kernel
theorem d_RE_number_19 : decode prog_11_method_14_code 19 = .ok (.aload_n 0, 1) := by decide +kernel
theorem d_RE_number_20 : decode prog_11_method_14_code 20 = .ok (.getfield 19, 3) := by decide +kernel
theorem d_RE_number_23 : decode prog_11_method_14_code 23 = .ok (.invokevirtual 39, 3) := by decide +kernel
theorem d_RE_number_26 : decode prog_11_method_14_code 26 = .ok (.invokestatic 85, 3) := by decide +kernel
theorem d_RE_number_29 : decode prog_11_method_14_code 29 = .ok (.ifCond .eq 39, 3) := by decide +kernel
theorem d_RE_number_32 : decode prog_11_method_14_code 32 = .ok (.iload_n 1, 1) := by decide +kernel
theorem d_RE_number_33 : decode prog_11_method_14_code 33 = .ok (.bipush 10, 2) := by decide +kernel
theorem d_RE_number_35 : decode prog_11_method_14_code 35 = .ok (.imul, 1) := by decide +kernel
theorem d_RE_number_36 : decode prog_11_method_14_code 36 = .ok (.aload_n 0, 1) := by decide +kernel
theorem d_RE_number_37 : decode prog_11_method_14_code 37 = .ok (.getfield 9, 3) := by decide +kernel
theorem d_RE_number_40 : decode prog_11_method_14_code 40 = .ok (.aload_n 0, 1) := by decide +kernel
theorem d_RE_number_41 : decode prog_11_method_14_code 41 = .ok (.getfield 19, 3) := by decide +kernel
theorem d_RE_number_44 : decode prog_11_method_14_code 44 = .ok (.invokevirtual 39, 3) := by decide +kernel
theorem d_RE_number_47 : decode prog_11_method_14_code 47 = .ok (.bipush 48, 2) := by decide +kernel
theorem d_RE_number_49 : decode prog_11_method_14_code 49 = .ok (.isub, 1) := by decide +kernel
theorem d_RE_number_50 : decode prog_11_method_14_code 50 = .ok (.iadd, 1) := by decide +kernel
theorem d_RE_number_51 : decode prog_11_method_14_code 51 = .ok (.istore_n 1, 1) := by decide +kernel
theorem d_RE_number_52 : decode prog_11_method_14_code 52 = .ok (.iinc 2 1, 3) := by decide +kernel
theorem d_RE_number_55 : decode prog_11_method_14_code 55 = .ok (.aload_n 0, 1) := by decide +kernel
theorem d_RE_number_56 : decode prog_11_method_14_code 56 = .ok (.dup, 1) := by decide +kernel
theorem d_RE_number_57 : decode prog_11_method_14_code 57 = .ok (.getfield 19, 3) := by decide +kernel
theorem d_RE_number_60 : decode prog_11_method_14_code 60 = .ok (.iconst 1, 1) := by decide +kernel
theorem d_RE_number_61 : decode prog_11_method_14_code 61 = .ok (.iadd, 1) := by decide +kernel
theorem d_RE_number_62 : decode prog_11_method_14_code 62 = .ok (.putfield 19, 3) := by decide +kernel
theorem d_RE_number_65 : decode prog_11_method_14_code 65 = .ok (.goto (-61), 3) := by decide +kernel
theorem d_RE_number_68 : decode prog_11_method_14_code 68 = .ok (.aload_n 0, 1) := by decide +kernel
theorem d_RE_number_69 : decode prog_11_method_14_code 69 = .ok (.getfield 19, 3) := by decide +kernel
theorem d_RE_number_72 : decode prog_11_method_14_code 72 = .ok (.aload_n 0, 1) := by decide +kernel
theorem d_RE_number_73 : decode prog_11_method_14_code 73 = .ok (.getfield 23, 3) := by decide +kernel
theorem d_RE_number_76 : decode prog_11_method_14_code 76 = .ok (.if_icmp .ge 24, 3) := by decide +kernel
theorem d_RE_number_79 : decode prog_11_method_14_code 79 = .ok (.aload_n 0, 1) := by decide +kernel
theorem d_RE_number_80 : decode prog_11_method_14_code 80 = .ok (.getfield 9, 3) := by decide +kernel
theorem d_RE_number_83 : decode prog_11_method_14_code 83 = .ok (.aload_n 0, 1) := by decide +kernel
theorem d_RE_number_84 : decode prog_11_method_14_code 84 = .ok (.getfield 19, 3) := by decide +kernel
theorem d_RE_number_87 : decode prog_11_method_14_code 87 = .ok (.invokevirtual 39, 3) := by decide +kernel
theorem d_RE_number_90 : decode prog_11_method_14_code 90 = .ok (.invokestatic 112, 3) := by decide +kernel
theorem d_RE_number_93 : decode prog_11_method_14_code 93 = .ok (.ifCond .eq 7, 3) := by decide +kernel
theorem d_RE_number_96 : decode prog_11_method_14_code 96 = .ok (.iconst 1, 1) := by decide +kernel
theorem d_RE_number_97 : decode prog_11_method_14_code 97 = .ok (.goto 4, 3) := by decide +kernel
theorem d_RE_number_100 : decode prog_11_method_14_code 100 = .ok (.iconst 0, 1) := by decide +kernel
theorem d_RE_number_101 : decode prog_11_method_14_code 101 = .ok (.istore_n 3, 1) := by decide +kernel
theorem d_RE_number_102 : decode prog_11_method_14_code 102 = .ok (.iload_n 3, 1) := by decide +kernel
theorem d_RE_number_103 : decode prog_11_method_14_code 103 = .ok (.ifCond .ne 9, 3) := by decide +kernel
theorem d_RE_number_106 : decode prog_11_method_14_code 106 = .ok (.iload_n 2, 1) := by decide +kernel
theorem d_RE_number_107 : decode prog_11_method_14_code 107 = .ok (.bipush 9, 2) := by decide +kernel
theorem d_RE_number_109 : decode prog_11_method_14_code 109 = .ok (.if_icmp .le 10, 3) := by decide +kernel
theorem d_RE_number_112 : decode prog_11_method_14_code 112 = .ok (.aload_n 0, 1) := by decide +kernel
theorem d_RE_number_113 : decode prog_11_method_14_code 113 = .ok (.invokevirtual 79, 3) := by decide +kernel
theorem d_RE_number_116 : decode prog_11_method_14_code 116 = .ok (.goto 4, 3) := by decide +kernel
theorem d_RE_number_119 : decode prog_11_method_14_code 119 = .ok (.iload_n 1, 1) := by decide +kernel
theorem d_RE_number_120 : decode prog_11_method_14_code 120 = .ok (.ireturn, 1) := by decide +kernel
theorem d_RE_factor_0 : decode prog_11_method_12_code 0 = .ok (.aload_n 0, 1) := by decide +kernel
theorem d_RE_factor_1 : decode prog_11_method_12_code 1 = .ok (.invokevirtual 42, 3) := by decide +kernel
theorem d_RE_factor_4 : decode prog_11_method_12_code 4 = .ok (.istore_n 2, 1) := by decide +kernel
theorem d_RE_factor_5 : decode prog_11_method_12_code 5 = .ok (.iload_n 2, 1) := by decide +kernel
theorem d_RE_factor_6 : decode prog_11_method_12_code 6 = .ok (.bipush 45, 2) := by decide +kernel
theorem d_RE_factor_8 : decode prog_11_method_12_code 8 = .ok (.if_icmp .eq 9, 3) := by decide +kernel
theorem d_RE_factor_11 : decode prog_11_method_12_code 11 = .ok (.iload_n 2, 1) := by decide +kernel
theorem d_RE_factor_12 : decode prog_11_method_12_code 12 = .ok (.bipush 40, 2) := by decide +kernel
theorem d_RE_factor_14 : decode prog_11_method_12_code 14 = .ok (.if_icmp .ne 49, 3) := by decide +kernel
theorem d_RE_factor_17 : decode prog_11_method_12_code 17 = .ok (.iload_n 1, 1) := by decide +kernel
theorem d_RE_factor_18 : decode prog_11_method_12_code 18 = .ok (.bipush 10, 2) := by decide +kernel
theorem d_RE_factor_20 : decode prog_11_method_12_code 20 = .ok (.if_icmp .lt 8, 3) := by decide +kernel
theorem d_RE_factor_23 : decode prog_11_method_12_code 23 = .ok (.aload_n 0, 1) := by decide +kernel
theorem d_RE_factor_24 : decode prog_11_method_12_code 24 = .ok (.invokevirtual 79, 3) := by decide +kernel
theorem d_RE_factor_27 : decode prog_11_method_12_code 27 = .ok (.ireturn, 1) := by decide +kernel
theorem d_RE_factor_28 : decode prog_11_method_12_code 28 = .ok (.aload_n 0, 1) := by decide +kernel
theorem d_RE_factor_29 : decode prog_11_method_12_code 29 = .ok (.dup, 1) := by decide +kernel
theorem d_RE_factor_30 : decode prog_11_method_12_code 30 = .ok (.getfield 19, 3) := by decide +kernel
theorem d_RE_factor_33 : decode prog_11_method_12_code 33 = .ok (.iconst 1, 1) := by decide +kernel
theorem d_RE_factor_34 : decode prog_11_method_12_code 34 = .ok (.iadd, 1) := by decide +kernel
theorem d_RE_factor_35 : decode prog_11_method_12_code 35 = .ok (.putfield 19, 3) := by decide +kernel
theorem d_RE_factor_38 : decode prog_11_method_12_code 38 = .ok (.iload_n 2, 1) := by decide +kernel
theorem d_RE_factor_39 : decode prog_11_method_12_code 39 = .ok (.bipush 45, 2) := by decide +kernel
theorem d_RE_factor_41 : decode prog_11_method_12_code 41 = .ok (.if_icmp .ne 14, 3) := by decide +kernel
theorem d_RE_factor_44 : decode prog_11_method_12_code 44 = .ok (.aload_n 0, 1) := by decide +kernel
theorem d_RE_factor_45 : decode prog_11_method_12_code 45 = .ok (.iload_n 1, 1) := by decide +kernel
theorem d_RE_factor_46 : decode prog_11_method_12_code 46 = .ok (.iconst 1, 1) := by decide +kernel
theorem d_RE_factor_47 : decode prog_11_method_12_code 47 = .ok (.iadd, 1) := by decide +kernel
theorem d_RE_factor_48 : decode prog_11_method_12_code 48 = .ok (.invokevirtual 69, 3) := by decide +kernel
theorem d_RE_factor_51 : decode prog_11_method_12_code 51 = .ok (.ineg, 1) := by decide +kernel
theorem d_RE_factor_52 : decode prog_11_method_12_code 52 = .ok (.goto 10, 3) := by decide +kernel
theorem d_RE_factor_55 : decode prog_11_method_12_code 55 = .ok (.aload_n 0, 1) := by decide +kernel
theorem d_RE_factor_56 : decode prog_11_method_12_code 56 = .ok (.iload_n 1, 1) := by decide +kernel
theorem d_RE_factor_57 : decode prog_11_method_12_code 57 = .ok (.iconst 1, 1) := by decide +kernel
theorem d_RE_factor_58 : decode prog_11_method_12_code 58 = .ok (.iadd, 1) := by decide +kernel
theorem d_RE_factor_59 : decode prog_11_method_12_code 59 = .ok (.invokevirtual 82, 3) := by decide +kernel
theorem d_RE_factor_62 : decode prog_11_method_12_code 62 = .ok (.ireturn, 1) := by decide +kernel
theorem d_RE_factor_63 : decode prog_11_method_12_code 63 = .ok (.iload_n 2, 1) := by decide +kernel
theorem d_RE_factor_64 : decode prog_11_method_12_code 64 = .ok (.invokestatic 85, 3) := by decide +kernel
theorem d_RE_factor_67 : decode prog_11_method_12_code 67 = .ok (.ifCond .eq 8, 3) := by decide +kernel
theorem d_RE_factor_70 : decode prog_11_method_12_code 70 = .ok (.aload_n 0, 1) := by decide +kernel
theorem d_RE_factor_71 : decode prog_11_method_12_code 71 = .ok (.invokevirtual 88, 3) := by decide +kernel
theorem d_RE_factor_74 : decode prog_11_method_12_code 74 = .ok (.ireturn, 1) := by decide +kernel
theorem d_RE_factor_75 : decode prog_11_method_12_code 75 = .ok (.aload_n 0, 1) := by decide +kernel
theorem d_RE_factor_76 : decode prog_11_method_12_code 76 = .ok (.bipush 63, 2) := by decide +kernel
theorem d_RE_factor_78 : decode prog_11_method_12_code 78 = .ok (.invokevirtual 62, 3) := by decide +kernel
theorem d_RE_factor_81 : decode prog_11_method_12_code 81 = .ok (.istore_n 3, 1) := by decide +kernel
theorem d_RE_factor_82 : decode prog_11_method_12_code 82 = .ok (.aload_n 0, 1) := by decide +kernel
theorem d_RE_factor_83 : decode prog_11_method_12_code 83 = .ok (.invokevirtual 91, 3) := by decide +kernel
theorem d_RE_factor_86 : decode prog_11_method_12_code 86 = .ok (.ifCond .ne 8, 3) := by decide +kernel
theorem d_RE_factor_89 : decode prog_11_method_12_code 89 = .ok (.aload_n 0, 1) := by decide +kernel
theorem d_RE_factor_90 : decode prog_11_method_12_code 90 = .ok (.invokevirtual 79, 3) := by decide +kernel
theorem d_RE_factor_93 : decode prog_11_method_12_code 93 = .ok (.ireturn, 1) := by decide +kernel
theorem d_RE_factor_94 : decode prog_11_method_12_code 94 = .ok (.aload_n 0, 1) := by decide +kernel
theorem d_RE_factor_95 : decode prog_11_method_12_code 95 = .ok (.getfield 15, 3) := by decide +kernel
theorem d_RE_factor_98 : decode prog_11_method_12_code 98 = .ok (.getfield 95, 3) := by decide +kernel
theorem d_RE_factor_101 : decode prog_11_method_12_code 101 = .ok (.aload_n 0, 1) := by decide +kernel
theorem d_RE_factor_102 : decode prog_11_method_12_code 102 = .ok (.getfield 46, 3) := by decide +kernel
theorem d_RE_factor_105 : decode prog_11_method_12_code 105 = .ok (.aload_n 0, 1) := by decide +kernel
theorem d_RE_factor_106 : decode prog_11_method_12_code 106 = .ok (.getfield 52, 3) := by decide +kernel
theorem d_RE_factor_109 : decode prog_11_method_12_code 109 = .ok (.invokevirtual 101, 3) := by decide +kernel
theorem d_RE_factor_112 : decode prog_11_method_12_code 112 = .ok (.istore 4, 2) := by decide +kernel
theorem d_RE_factor_114 : decode prog_11_method_12_code 114 = .ok (.iload_n 3, 1) := by decide +kernel
theorem d_RE_factor_115 : decode prog_11_method_12_code 115 = .ok (.ifCond .eq 15, 3) := by decide +kernel
theorem d_RE_factor_118 : decode prog_11_method_12_code 118 = .ok (.iload 4, 2) := by decide +kernel
theorem d_RE_factor_120 : decode prog_11_method_12_code 120 = .ok (.iconst (-1), 1) := by decide +kernel
theorem d_RE_factor_121 : decode prog_11_method_12_code 121 = .ok (.if_icmp .ne 7, 3) := by decide +kernel
theorem d_RE_factor_124 : decode prog_11_method_12_code 124 = .ok (.iconst 0, 1) := by decide +kernel
theorem d_RE_factor_125 : decode prog_11_method_12_code 125 = .ok (.goto 4, 3) := by decide +kernel
theorem d_RE_factor_128 : decode prog_11_method_12_code 128 = .ok (.iconst 1, 1) := by decide +kernel
theorem d_RE_factor_129 : decode prog_11_method_12_code 129 = .ok (.ireturn, 1) := by decide +kernel
theorem d_RE_factor_130 : decode prog_11_method_12_code 130 = .ok (.iload 4, 2) := by decide +kernel
theorem d_RE_factor_132 : decode prog_11_method_12_code 132 = .ok (.iconst (-1), 1) := by decide +kernel
theorem d_RE_factor_133 : decode prog_11_method_12_code 133 = .ok (.if_icmp .ne 8, 3) := by decide +kernel
theorem d_RE_factor_136 : decode prog_11_method_12_code 136 = .ok (.aload_n 0, 1) := by decide +kernel
theorem d_RE_factor_137 : decode prog_11_method_12_code 137 = .ok (.iconst 3, 1) := by decide +kernel
theorem d_RE_factor_138 : decode prog_11_method_12_code 138 = .ok (.invokevirtual 75, 3) := by decide +kernel
theorem d_RE_factor_141 : decode prog_11_method_12_code 141 = .ok (.aload_n 0, 1) := by decide +kernel
theorem d_RE_factor_142 : decode prog_11_method_12_code 142 = .ok (.getfield 15, 3) := by decide +kernel
theorem d_RE_factor_145 : decode prog_11_method_12_code 145 = .ok (.iload 4, 2) := by decide +kernel
theorem d_RE_factor_147 : decode prog_11_method_12_code 147 = .ok (.invokevirtual 106, 3) := by decide +kernel
theorem d_RE_factor_150 : decode prog_11_method_12_code 150 = .ok (.ireturn, 1) := by decide +kernel
theorem hm_RE_begin : y_RE_begin.cls ≠ "java/lang/invoke/MethodHandle" ∧ y_RE_begin.cls ≠ "java/lang/invoke/VarHandle" ∧ (parseMethodDescriptor y_RE_begin.desc).map (fun d => d.parameters.length) = some 2 := by decide +kernel
theorem hm_RE_takeWord : y_RE_takeWord.cls ≠ "java/lang/invoke/MethodHandle" ∧ y_RE_takeWord.cls ≠ "java/lang/invoke/VarHandle" ∧ (parseMethodDescriptor y_RE_takeWord.desc).map (fun d => d.parameters.length) = some 0 := by decide +kernel
theorem hm_RE_take : y_RE_take.cls ≠ "java/lang/invoke/MethodHandle" ∧ y_RE_take.cls ≠ "java/lang/invoke/VarHandle" ∧ (parseMethodDescriptor y_RE_take.desc).map (fun d => d.parameters.length) = some 1 := by decide +kernel
theorem hm_RE_meet : y_RE_meet.cls ≠ "java/lang/invoke/MethodHandle" ∧ y_RE_meet.cls ≠ "java/lang/invoke/VarHandle" ∧ (parseMethodDescriptor y_RE_meet.desc).map (fun d => d.parameters.length) = some 1 := by decide +kernel
theorem hm_RE_divisor : y_RE_divisor.cls ≠ "java/lang/invoke/MethodHandle" ∧ y_RE_divisor.cls ≠ "java/lang/invoke/VarHandle" ∧ (parseMethodDescriptor y_RE_divisor.desc).map (fun d => d.parameters.length) = some 1 := by decide +kernel
theorem hm_RE_product : y_RE_product.cls ≠ "java/lang/invoke/MethodHandle" ∧ y_RE_product.cls ≠ "java/lang/invoke/VarHandle" ∧ (parseMethodDescriptor y_RE_product.desc).map (fun d => d.parameters.length) = some 1 := by decide +kernel
theorem hm_RE_sum : y_RE_sum.cls ≠ "java/lang/invoke/MethodHandle" ∧ y_RE_sum.cls ≠ "java/lang/invoke/VarHandle" ∧ (parseMethodDescriptor y_RE_sum.desc).map (fun d => d.parameters.length) = some 1 := by decide +kernel
theorem hm_RE_next : y_RE_next.cls ≠ "java/lang/invoke/MethodHandle" ∧ y_RE_next.cls ≠ "java/lang/invoke/VarHandle" ∧ (parseMethodDescriptor y_RE_next.desc).map (fun d => d.parameters.length) = some 0 := by decide +kernel
theorem hm_RE_takePair : y_RE_takePair.cls ≠ "java/lang/invoke/MethodHandle" ∧ y_RE_takePair.cls ≠ "java/lang/invoke/VarHandle" ∧ (parseMethodDescriptor y_RE_takePair.desc).map (fun d => d.parameters.length) = some 2 := by decide +kernel
theorem hm_RE_readValue : y_RE_readValue.cls ≠ "java/lang/invoke/MethodHandle" ∧ y_RE_readValue.cls ≠ "java/lang/invoke/VarHandle" ∧ (parseMethodDescriptor y_RE_readValue.desc).map (fun d => d.parameters.length) = some 1 := by decide +kernel
theorem hm_RE_isDone : y_RE_isDone.cls ≠ "java/lang/invoke/MethodHandle" ∧ y_RE_isDone.cls ≠ "java/lang/invoke/VarHandle" ∧ (parseMethodDescriptor y_RE_isDone.desc).map (fun d => d.parameters.length) = some 0 := by decide +kernel
theorem hm_RE_refuse : y_RE_refuse.cls ≠ "java/lang/invoke/MethodHandle" ∧ y_RE_refuse.cls ≠ "java/lang/invoke/VarHandle" ∧ (parseMethodDescriptor y_RE_refuse.desc).map (fun d => d.parameters.length) = some 0 := by decide +kernel
theorem hm_RE_bracketed : y_RE_bracketed.cls ≠ "java/lang/invoke/MethodHandle" ∧ y_RE_bracketed.cls ≠ "java/lang/invoke/VarHandle" ∧ (parseMethodDescriptor y_RE_bracketed.desc).map (fun d => d.parameters.length) = some 1 := by decide +kernel
theorem hm_RE_number : y_RE_number.cls ≠ "java/lang/invoke/MethodHandle" ∧ y_RE_number.cls ≠ "java/lang/invoke/VarHandle" ∧ (parseMethodDescriptor y_RE_number.desc).map (fun d => d.parameters.length) = some 0 := by decide +kernel
theorem hm_RE_factor : y_RE_factor.cls ≠ "java/lang/invoke/MethodHandle" ∧ y_RE_factor.cls ≠ "java/lang/invoke/VarHandle" ∧ (parseMethodDescriptor y_RE_factor.desc).map (fun d => d.parameters.length) = some 1 := by decide +kernel
