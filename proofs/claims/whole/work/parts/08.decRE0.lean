theorem d_RE_begin_0 : decode prog_11_method_2_code 0 = .ok (.aload_n 0, 1) := by decide +kernel
theorem d_RE_begin_1 : decode prog_11_method_2_code 1 = .ok (.iload_n 1, 1) := by decide +kernel
theorem d_RE_begin_2 : decode prog_11_method_2_code 2 = .ok (.putfield 19, 3) := by decide +kernel
theorem d_RE_begin_5 : decode prog_11_method_2_code 5 = .ok (.aload_n 0, 1) := by decide +kernel
theorem d_RE_begin_6 : decode prog_11_method_2_code 6 = .ok (.iload_n 2, 1) := by decide +kernel
theorem d_RE_begin_7 : decode prog_11_method_2_code 7 = .ok (.putfield 23, 3) := by decide +kernel
theorem d_RE_begin_10 : decode prog_11_method_2_code 10 = .ok (.aload_n 0, 1) := by decide +kernel
theorem d_RE_begin_11 : decode prog_11_method_2_code 11 = .ok (.iconst 0, 1) := by decide +kernel
theorem d_RE_begin_12 : decode prog_11_method_2_code 12 = .ok (.putfield 26, 3) := by decide +kernel
theorem d_RE_begin_15 : decode prog_11_method_2_code 15 = .ok (.aload_n 0, 1) := by decide +kernel
theorem d_RE_begin_16 : decode prog_11_method_2_code 16 = .ok (.iconst 0, 1) := by decide +kernel
theorem d_RE_begin_17 : decode prog_11_method_2_code 17 = .ok (.putfield 30, 3) := by decide +kernel
theorem d_RE_begin_20 : decode prog_11_method_2_code 20 = .ok (.return_, 1) := by decide +kernel
theorem d_RE_takeWord_0 : decode prog_11_method_6_code 0 = .ok (.aload_n 0, 1) := by decide +kernel
theorem d_RE_takeWord_1 : decode prog_11_method_6_code 1 = .ok (.aload_n 0, 1) := by decide +kernel
theorem d_RE_takeWord_2 : decode prog_11_method_6_code 2 = .ok (.getfield 9, 3) := by decide +kernel
theorem d_RE_takeWord_5 : decode prog_11_method_6_code 5 = .ok (.aload_n 0, 1) := by decide +kernel
theorem d_RE_takeWord_6 : decode prog_11_method_6_code 6 = .ok (.getfield 19, 3) := by decide +kernel
theorem d_RE_takeWord_9 : decode prog_11_method_6_code 9 = .ok (.aload_n 0, 1) := by decide +kernel
theorem d_RE_takeWord_10 : decode prog_11_method_6_code 10 = .ok (.getfield 23, 3) := by decide +kernel
theorem d_RE_takeWord_13 : decode prog_11_method_6_code 13 = .ok (.invokevirtual 33, 3) := by decide +kernel
theorem d_RE_takeWord_16 : decode prog_11_method_6_code 16 = .ok (.putfield 19, 3) := by decide +kernel
theorem d_RE_takeWord_19 : decode prog_11_method_6_code 19 = .ok (.aload_n 0, 1) := by decide +kernel
theorem d_RE_takeWord_20 : decode prog_11_method_6_code 20 = .ok (.aload_n 0, 1) := by decide +kernel
theorem d_RE_takeWord_21 : decode prog_11_method_6_code 21 = .ok (.getfield 19, 3) := by decide +kernel
theorem d_RE_takeWord_24 : decode prog_11_method_6_code 24 = .ok (.putfield 46, 3) := by decide +kernel
theorem d_RE_takeWord_27 : decode prog_11_method_6_code 27 = .ok (.aload_n 0, 1) := by decide +kernel
theorem d_RE_takeWord_28 : decode prog_11_method_6_code 28 = .ok (.aload_n 0, 1) := by decide +kernel
theorem d_RE_takeWord_29 : decode prog_11_method_6_code 29 = .ok (.getfield 9, 3) := by decide +kernel
theorem d_RE_takeWord_32 : decode prog_11_method_6_code 32 = .ok (.aload_n 0, 1) := by decide +kernel
theorem d_RE_takeWord_33 : decode prog_11_method_6_code 33 = .ok (.getfield 19, 3) := by decide +kernel
theorem d_RE_takeWord_36 : decode prog_11_method_6_code 36 = .ok (.aload_n 0, 1) := by decide +kernel
theorem d_RE_takeWord_37 : decode prog_11_method_6_code 37 = .ok (.getfield 23, 3) := by decide +kernel
theorem d_RE_takeWord_40 : decode prog_11_method_6_code 40 = .ok (.invokevirtual 49, 3) := by decide +kernel
theorem d_RE_takeWord_43 : decode prog_11_method_6_code 43 = .ok (.putfield 52, 3) := by decide +kernel
theorem d_RE_takeWord_46 : decode prog_11_method_6_code 46 = .ok (.aload_n 0, 1) := by decide +kernel
theorem d_RE_takeWord_47 : decode prog_11_method_6_code 47 = .ok (.aload_n 0, 1) := by decide +kernel
theorem d_RE_takeWord_48 : decode prog_11_method_6_code 48 = .ok (.getfield 52, 3) := by decide +kernel
theorem d_RE_takeWord_51 : decode prog_11_method_6_code 51 = .ok (.putfield 19, 3) := by decide +kernel
theorem d_RE_takeWord_54 : decode prog_11_method_6_code 54 = .ok (.aload_n 0, 1) := by decide +kernel
theorem d_RE_takeWord_55 : decode prog_11_method_6_code 55 = .ok (.getfield 52, 3) := by decide +kernel
theorem d_RE_takeWord_58 : decode prog_11_method_6_code 58 = .ok (.aload_n 0, 1) := by decide +kernel
theorem d_RE_takeWord_59 : decode prog_11_method_6_code 59 = .ok (.getfield 46, 3) := by decide +kernel
theorem d_RE_takeWord_62 : decode prog_11_method_6_code 62 = .ok (.if_icmp .le 21, 3) := by decide +kernel
theorem d_RE_takeWord_65 : decode prog_11_method_6_code 65 = .ok (.aload_n 0, 1) := by decide +kernel
theorem d_RE_takeWord_66 : decode prog_11_method_6_code 66 = .ok (.getfield 52, 3) := by decide +kernel
theorem d_RE_takeWord_69 : decode prog_11_method_6_code 69 = .ok (.aload_n 0, 1) := by decide +kernel
theorem d_RE_takeWord_70 : decode prog_11_method_6_code 70 = .ok (.getfield 46, 3) := by decide +kernel
theorem d_RE_takeWord_73 : decode prog_11_method_6_code 73 = .ok (.isub, 1) := by decide +kernel
theorem d_RE_takeWord_74 : decode prog_11_method_6_code 74 = .ok (.bipush 12, 2) := by decide +kernel
theorem d_RE_takeWord_76 : decode prog_11_method_6_code 76 = .ok (.if_icmp .gt 7, 3) := by decide +kernel
theorem d_RE_takeWord_79 : decode prog_11_method_6_code 79 = .ok (.iconst 1, 1) := by decide +kernel
theorem d_RE_takeWord_80 : decode prog_11_method_6_code 80 = .ok (.goto 4, 3) := by decide +kernel
theorem d_RE_takeWord_83 : decode prog_11_method_6_code 83 = .ok (.iconst 0, 1) := by decide +kernel
theorem d_RE_takeWord_84 : decode prog_11_method_6_code 84 = .ok (.ireturn, 1) := by decide +kernel
theorem d_RE_take_0 : decode prog_11_method_5_code 0 = .ok (.aload_n 0, 1) := by decide +kernel
theorem d_RE_take_1 : decode prog_11_method_5_code 1 = .ok (.aload_n 0, 1) := by decide +kernel
theorem d_RE_take_2 : decode prog_11_method_5_code 2 = .ok (.getfield 9, 3) := by decide +kernel
theorem d_RE_take_5 : decode prog_11_method_5_code 5 = .ok (.aload_n 0, 1) := by decide +kernel
theorem d_RE_take_6 : decode prog_11_method_5_code 6 = .ok (.getfield 19, 3) := by decide +kernel
theorem d_RE_take_9 : decode prog_11_method_5_code 9 = .ok (.aload_n 0, 1) := by decide +kernel
theorem d_RE_take_10 : decode prog_11_method_5_code 10 = .ok (.getfield 23, 3) := by decide +kernel
theorem d_RE_take_13 : decode prog_11_method_5_code 13 = .ok (.invokevirtual 33, 3) := by decide +kernel
theorem d_RE_take_16 : decode prog_11_method_5_code 16 = .ok (.putfield 19, 3) := by decide +kernel
theorem d_RE_take_19 : decode prog_11_method_5_code 19 = .ok (.aload_n 0, 1) := by decide +kernel
theorem d_RE_take_20 : decode prog_11_method_5_code 20 = .ok (.getfield 19, 3) := by decide +kernel
theorem d_RE_take_23 : decode prog_11_method_5_code 23 = .ok (.aload_n 0, 1) := by decide +kernel
theorem d_RE_take_24 : decode prog_11_method_5_code 24 = .ok (.getfield 23, 3) := by decide +kernel
theorem d_RE_take_27 : decode prog_11_method_5_code 27 = .ok (.if_icmp .ge 18, 3) := by decide +kernel
theorem d_RE_take_30 : decode prog_11_method_5_code 30 = .ok (.aload_n 0, 1) := by decide +kernel
theorem d_RE_take_31 : decode prog_11_method_5_code 31 = .ok (.getfield 9, 3) := by decide +kernel
theorem d_RE_take_34 : decode prog_11_method_5_code 34 = .ok (.aload_n 0, 1) := by decide +kernel
theorem d_RE_take_35 : decode prog_11_method_5_code 35 = .ok (.getfield 19, 3) := by decide +kernel
theorem d_RE_take_38 : decode prog_11_method_5_code 38 = .ok (.invokevirtual 39, 3) := by decide +kernel
theorem d_RE_take_41 : decode prog_11_method_5_code 41 = .ok (.iload_n 1, 1) := by decide +kernel
theorem d_RE_take_42 : decode prog_11_method_5_code 42 = .ok (.if_icmp .eq 5, 3) := by decide +kernel
theorem d_RE_take_45 : decode prog_11_method_5_code 45 = .ok (.iconst 0, 1) := by decide +kernel
theorem d_RE_take_46 : decode prog_11_method_5_code 46 = .ok (.ireturn, 1) := by decide +kernel
theorem d_RE_take_47 : decode prog_11_method_5_code 47 = .ok (.aload_n 0, 1) := by decide +kernel
theorem d_RE_take_48 : decode prog_11_method_5_code 48 = .ok (.dup, 1) := by decide +kernel
theorem d_RE_take_49 : decode prog_11_method_5_code 49 = .ok (.getfield 19, 3) := by decide +kernel
theorem d_RE_take_52 : decode prog_11_method_5_code 52 = .ok (.iconst 1, 1) := by decide +kernel
theorem d_RE_take_53 : decode prog_11_method_5_code 53 = .ok (.iadd, 1) := by decide +kernel
theorem d_RE_take_54 : decode prog_11_method_5_code 54 = .ok (.putfield 19, 3) := by decide +kernel
theorem d_RE_take_57 : decode prog_11_method_5_code 57 = .ok (.iconst 1, 1) := by decide +kernel
theorem d_RE_take_58 : decode prog_11_method_5_code 58 = .ok (.ireturn, 1) := by decide +kernel
theorem d_RE_next_0 : decode prog_11_method_3_code 0 = .ok (.aload_n 0, 1) := by decide +kernel
theorem d_RE_next_1 : decode prog_11_method_3_code 1 = .ok (.aload_n 0, 1) := by decide +kernel
theorem d_RE_next_2 : decode prog_11_method_3_code 2 = .ok (.getfield 9, 3) := by decide +kernel
theorem d_RE_next_5 : decode prog_11_method_3_code 5 = .ok (.aload_n 0, 1) := by decide +kernel
theorem d_RE_next_6 : decode prog_11_method_3_code 6 = .ok (.getfield 19, 3) := by decide +kernel
theorem d_RE_next_9 : decode prog_11_method_3_code 9 = .ok (.aload_n 0, 1) := by decide +kernel
theorem d_RE_next_10 : decode prog_11_method_3_code 10 = .ok (.getfield 23, 3) := by decide +kernel
theorem d_RE_next_13 : decode prog_11_method_3_code 13 = .ok (.invokevirtual 33, 3) := by decide +kernel
theorem d_RE_next_16 : decode prog_11_method_3_code 16 = .ok (.putfield 19, 3) := by decide +kernel
theorem d_RE_next_19 : decode prog_11_method_3_code 19 = .ok (.aload_n 0, 1) := by decide +kernel
theorem d_RE_next_20 : decode prog_11_method_3_code 20 = .ok (.getfield 19, 3) := by decide +kernel
theorem d_RE_next_23 : decode prog_11_method_3_code 23 = .ok (.aload_n 0, 1) := by decide +kernel
theorem d_RE_next_24 : decode prog_11_method_3_code 24 = .ok (.getfield 23, 3) := by decide +kernel
theorem d_RE_next_27 : decode prog_11_method_3_code 27 = .ok (.if_icmp .ge 17, 3) := by decide +kernel
theorem d_RE_next_30 : decode prog_11_method_3_code 30 = .ok (.aload_n 0, 1) := by decide +kernel
theorem d_RE_next_31 : decode prog_11_method_3_code 31 = .ok (.getfield 9, 3) := by decide +kernel
theorem d_RE_next_34 : decode prog_11_method_3_code 34 = .ok (.aload_n 0, 1) := by decide +kernel
theorem d_RE_next_35 : decode prog_11_method_3_code 35 = .ok (.getfield 19, 3) := by decide +kernel
theorem d_RE_next_38 : decode prog_11_method_3_code 38 = .ok (.invokevirtual 39, 3) := by decide +kernel
theorem d_RE_next_41 : decode prog_11_method_3_code 41 = .ok (.goto 4, 3) := by decide +kernel
theorem d_RE_next_44 : decode prog_11_method_3_code 44 = .ok (.iconst (-1), 1) := by decide +kernel
theorem d_RE_next_45 : decode prog_11_method_3_code 45 = .ok (.ireturn, 1) := by decide +kernel
theorem d_RE_refuse_0 : decode prog_11_method_16_code 0 = .ok (.aload_n 0, 1) := by decide +kernel
theorem d_RE_refuse_1 : decode prog_11_method_16_code 1 = .ok (.iconst 1, 1) := by decide +kernel
theorem d_RE_refuse_2 : decode prog_11_method_16_code 2 = .ok (.putfield 26, 3) := by decide +kernel
theorem d_RE_refuse_5 : decode prog_11_method_16_code 5 = .ok (.iconst 0, 1) := by decide +kernel
theorem d_RE_refuse_6 : decode prog_11_method_16_code 6 = .ok (.ireturn, 1) := by decide +kernel
theorem d_RE_number_0 : decode prog_11_method_14_code 0 = .ok (.iconst 0, 1) := by decide +kernel
theorem d_RE_number_1 : decode prog_11_method_14_code 1 = .ok (.istore_n 1, 1) := by decide +kernel
theorem d_RE_number_2 : decode prog_11_method_14_code 2 = .ok (.iconst 0, 1) := by decide +kernel
theorem d_RE_number_3 : decode prog_11_method_14_code 3 = .ok (.istore_n 2, 1) := by decide +kernel
theorem d_RE_number_4 : decode prog_11_method_14_code 4 = .ok (.aload_n 0, 1) := by decide +kernel
theorem d_RE_number_5 : decode prog_11_method_14_code 5 = .ok (.getfield 19, 3) := by decide +kernel
theorem d_RE_number_8 : decode prog_11_method_14_code 8 = .ok (.aload_n 0, 1) := by decide +kernel
theorem d_RE_number_9 : decode prog_11_method_14_code 9 = .ok (.getfield 23, 3) := by decide +kernel
theorem d_RE_number_12 : decode prog_11_method_14_code 12 = .ok (.if_icmp .ge 56, 3) := by decide +kernel
theorem d_RE_number_15 : decode prog_11_method_14_code 15 = .ok (.aload_n 0, 1) := by decide +kernel
theorem d_RE_number_16 : decode prog_11_method_14_code 16 = .ok (.getfield 9, 3) := by decide +kernel
theorem d_RE_number_19 : decode prog_11_method_14_code 19 = .ok (.aload_n 0, 1) := by decide +kernel
theorem d_RE_number_20 : decode prog_11_method_14_code 20 = .ok (.getfield 19, 3) := by decide +kernel
theorem d_RE_number_23 : decode prog_11_method_14_code 23 = .ok (.invokevirtual 39, 3) := by decide +kernel
theorem d_RE_number_26 : decode prog_11_method_14_code 26 = .ok (.invokestatic 85, 3) := by decide +kernel
theorem d_RE_number_29 : decode prog_11_method_14_code 29 = .ok (.ifCond .eq 39, 3) := by decide +kernel
theorem d_RE_number_32 : decode prog_11_method_14_code 32 = .ok (.iload_n 1, 1) := by decide +kernel
theorem d_RE_number_33 : decode prog_11_method_14_code 33 = .ok (.bipush 10, 2) := by decide +kernel
theorem d_RE_number_35 : decode prog_11_method_14_code 35 = .ok (.imul, 1) := by decide +kernel
theorem d_RE_number_36 : decode prog_11_method_14_code 36 = .ok (.aload_n 0, 1) := by decide +kernel
theorem d_RE_number_37 : decode prog_11_method_14_code 37 = .ok (.getfield 9, 3) := by decide +kernel
theorem d_RE_number_40 : decode prog_11_method_14_code 40 = .ok (.aload_n 0, 1) := by decide +kernel
theorem d_RE_number_41 : decode prog_11_method_14_code 41 = .ok (.getfield 19, 3) := by decide +kernel
theorem d_RE_number_44 : decode prog_11_method_14_code 44 = .ok (.invokevirtual 39, 3) := by decide +kernel
theorem d_RE_number_47 : decode prog_11_method_14_code 47 = .ok (.bipush 48, 2) := by decide +kernel
theorem d_RE_number_49 : decode prog_11_method_14_code 49 = .ok (.isub, 1) := by decide +kernel
theorem d_RE_number_50 : decode prog_11_method_14_code 50 = .ok (.iadd, 1) := by decide +kernel
theorem d_RE_number_51 : decode prog_11_method_14_code 51 = .ok (.istore_n 1, 1) := by decide +kernel
theorem d_RE_number_52 : decode prog_11_method_14_code 52 = .ok (.iinc 2 1, 3) := by decide +kernel
theorem d_RE_number_55 : decode prog_11_method_14_code 55 = .ok (.aload_n 0, 1) := by decide +kernel
theorem d_RE_number_56 : decode prog_11_method_14_code 56 = .ok (.dup, 1) := by decide +kernel
theorem d_RE_number_57 : decode prog_11_method_14_code 57 = .ok (.getfield 19, 3) := by decide +kernel
theorem d_RE_number_60 : decode prog_11_method_14_code 60 = .ok (.iconst 1, 1) := by decide +kernel
theorem d_RE_number_61 : decode prog_11_method_14_code 61 = .ok (.iadd, 1) := by decide +kernel
theorem d_RE_number_62 : decode prog_11_method_14_code 62 = .ok (.putfield 19, 3) := by decide +kernel
theorem d_RE_number_65 : decode prog_11_method_14_code 65 = .ok (.goto (-61), 3) := by decide +kernel
theorem d_RE_number_68 : decode prog_11_method_14_code 68 = .ok (.aload_n 0, 1) := by decide +kernel
theorem d_RE_number_69 : decode prog_11_method_14_code 69 = .ok (.getfield 19, 3) := by decide +kernel
theorem d_RE_number_72 : decode prog_11_method_14_code 72 = .ok (.aload_n 0, 1) := by decide +kernel
theorem d_RE_number_73 : decode prog_11_method_14_code 73 = .ok (.getfield 23, 3) := by decide +kernel
theorem d_RE_number_76 : decode prog_11_method_14_code 76 = .ok (.if_icmp .ge 24, 3) := by decide +kernel
theorem d_RE_number_79 : decode prog_11_method_14_code 79 = .ok (.aload_n 0, 1) := by decide +kernel
theorem d_RE_number_80 : decode prog_11_method_14_code 80 = .ok (.getfield 9, 3) := by decide +kernel
theorem d_RE_number_83 : decode prog_11_method_14_code 83 = .ok (.aload_n 0, 1) := by decide +kernel
theorem d_RE_number_84 : decode prog_11_method_14_code 84 = .ok (.getfield 19, 3) := by decide +kernel
theorem d_RE_number_87 : decode prog_11_method_14_code 87 = .ok (.invokevirtual 39, 3) := by decide +kernel
theorem d_RE_number_90 : decode prog_11_method_14_code 90 = .ok (.invokestatic 112, 3) := by decide +kernel
theorem d_RE_number_93 : decode prog_11_method_14_code 93 = .ok (.ifCond .eq 7, 3) := by decide +kernel
theorem d_RE_number_96 : decode prog_11_method_14_code 96 = .ok (.iconst 1, 1) := by decide +kernel
theorem d_RE_number_97 : decode prog_11_method_14_code 97 = .ok (.goto 4, 3) := by decide +kernel
theorem d_RE_number_100 : decode prog_11_method_14_code 100 = .ok (.iconst 0, 1) := by decide +kernel
theorem d_RE_number_101 : decode prog_11_method_14_code 101 = .ok (.istore_n 3, 1) := by decide +kernel
theorem d_RE_number_102 : decode prog_11_method_14_code 102 = .ok (.iload_n 3, 1) := by decide +kernel
theorem d_RE_number_103 : decode prog_11_method_14_code 103 = .ok (.ifCond .ne 9, 3) := by decide +kernel
theorem d_RE_number_106 : decode prog_11_method_14_code 106 = .ok (.iload_n 2, 1) := by decide +kernel
theorem d_RE_number_107 : decode prog_11_method_14_code 107 = .ok (.bipush 9, 2) := by decide +kernel
theorem d_RE_number_109 : decode prog_11_method_14_code 109 = .ok (.if_icmp .le 10, 3) := by decide +kernel
theorem d_RE_number_112 : decode prog_11_method_14_code 112 = .ok (.aload_n 0, 1) := by decide +kernel
theorem d_RE_number_113 : decode prog_11_method_14_code 113 = .ok (.invokevirtual 79, 3) := by decide +kernel
theorem d_RE_number_116 : decode prog_11_method_14_code 116 = .ok (.goto 4, 3) := by decide +kernel
theorem d_RE_number_119 : decode prog_11_method_14_code 119 = .ok (.iload_n 1, 1) := by decide +kernel
theorem d_RE_number_120 : decode prog_11_method_14_code 120 = .ok (.ireturn, 1) := by decide +kernel
theorem d_RE_meet_0 : decode prog_11_method_15_code 0 = .ok (.aload_n 0, 1) := by decide +kernel
theorem d_RE_meet_1 : decode prog_11_method_15_code 1 = .ok (.getfield 30, 3) := by decide +kernel
theorem d_RE_meet_4 : decode prog_11_method_15_code 4 = .ok (.ifCond .ne 8, 3) := by decide +kernel
theorem d_RE_meet_7 : decode prog_11_method_15_code 7 = .ok (.aload_n 0, 1) := by decide +kernel
theorem d_RE_meet_8 : decode prog_11_method_15_code 8 = .ok (.iload_n 1, 1) := by decide +kernel
theorem d_RE_meet_9 : decode prog_11_method_15_code 9 = .ok (.putfield 30, 3) := by decide +kernel
theorem d_RE_meet_12 : decode prog_11_method_15_code 12 = .ok (.return_, 1) := by decide +kernel
theorem d_RE_divisor_0 : decode prog_11_method_11_code 0 = .ok (.iload_n 1, 1) := by decide +kernel
theorem d_RE_divisor_1 : decode prog_11_method_11_code 1 = .ok (.ifCond .ne 8, 3) := by decide +kernel
theorem d_RE_divisor_4 : decode prog_11_method_11_code 4 = .ok (.aload_n 0, 1) := by decide +kernel
theorem d_RE_divisor_5 : decode prog_11_method_11_code 5 = .ok (.iconst 4, 1) := by decide +kernel
theorem d_RE_divisor_6 : decode prog_11_method_11_code 6 = .ok (.invokevirtual 75, 3) := by decide +kernel
theorem d_RE_divisor_9 : decode prog_11_method_11_code 9 = .ok (.iload_n 1, 1) := by decide +kernel
theorem d_RE_divisor_10 : decode prog_11_method_11_code 10 = .ok (.ireturn, 1) := by decide +kernel
theorem d_RE_takePair_0 : decode prog_11_method_8_code 0 = .ok (.aload_n 0, 1) := by decide +kernel
theorem d_RE_takePair_1 : decode prog_11_method_8_code 1 = .ok (.invokevirtual 42, 3) := by decide +kernel
theorem d_RE_takePair_4 : decode prog_11_method_8_code 4 = .ok (.iload_n 1, 1) := by decide +kernel
theorem d_RE_takePair_5 : decode prog_11_method_8_code 5 = .ok (.if_icmp .ne 33, 3) := by decide +kernel
theorem d_RE_takePair_8 : decode prog_11_method_8_code 8 = .ok (.aload_n 0, 1) := by decide +kernel
theorem d_RE_takePair_9 : decode prog_11_method_8_code 9 = .ok (.getfield 19, 3) := by decide +kernel
theorem d_RE_takePair_12 : decode prog_11_method_8_code 12 = .ok (.iconst 1, 1) := by decide +kernel
theorem d_RE_takePair_13 : decode prog_11_method_8_code 13 = .ok (.iadd, 1) := by decide +kernel
theorem d_RE_takePair_14 : decode prog_11_method_8_code 14 = .ok (.aload_n 0, 1) := by decide +kernel
theorem d_RE_takePair_15 : decode prog_11_method_8_code 15 = .ok (.getfield 23, 3) := by decide +kernel
theorem d_RE_takePair_18 : decode prog_11_method_8_code 18 = .ok (.if_icmp .ge 20, 3) := by decide +kernel
theorem d_RE_takePair_21 : decode prog_11_method_8_code 21 = .ok (.aload_n 0, 1) := by decide +kernel
theorem d_RE_takePair_22 : decode prog_11_method_8_code 22 = .ok (.getfield 9, 3) := by decide +kernel
theorem d_RE_takePair_25 : decode prog_11_method_8_code 25 = .ok (.aload_n 0, 1) := by decide +kernel
theorem d_RE_takePair_26 : decode prog_11_method_8_code 26 = .ok (.getfield 19, 3) := by decide +kernel
theorem d_RE_takePair_29 : decode prog_11_method_8_code 29 = .ok (.iconst 1, 1) := by decide +kernel
theorem d_RE_takePair_30 : decode prog_11_method_8_code 30 = .ok (.iadd, 1) := by decide +kernel
theorem d_RE_takePair_31 : decode prog_11_method_8_code 31 = .ok (.invokevirtual 39, 3) := by decide +kernel
theorem d_RE_takePair_34 : decode prog_11_method_8_code 34 = .ok (.iload_n 2, 1) := by decide +kernel
theorem d_RE_takePair_35 : decode prog_11_method_8_code 35 = .ok (.if_icmp .eq 5, 3) := by decide +kernel
theorem d_RE_takePair_38 : decode prog_11_method_8_code 38 = .ok (.iconst 0, 1) := by decide +kernel
theorem d_RE_takePair_39 : decode prog_11_method_8_code 39 = .ok (.ireturn, 1) := by decide +kernel
theorem d_RE_takePair_40 : decode prog_11_method_8_code 40 = .ok (.aload_n 0, 1) := by decide +kernel
theorem d_RE_takePair_41 : decode prog_11_method_8_code 41 = .ok (.dup, 1) := by decide +kernel
theorem d_RE_takePair_42 : decode prog_11_method_8_code 42 = .ok (.getfield 19, 3) := by decide +kernel
theorem d_RE_takePair_45 : decode prog_11_method_8_code 45 = .ok (.iconst 2, 1) := by decide +kernel
theorem d_RE_takePair_46 : decode prog_11_method_8_code 46 = .ok (.iadd, 1) := by decide +kernel
theorem d_RE_takePair_47 : decode prog_11_method_8_code 47 = .ok (.putfield 19, 3) := by decide +kernel
theorem d_RE_takePair_50 : decode prog_11_method_8_code 50 = .ok (.iconst 1, 1) := by decide +kernel
theorem d_RE_takePair_51 : decode prog_11_method_8_code 51 = .ok (.ireturn, 1) := by decide +kernel
theorem d_RE_isDone_0 : decode prog_11_method_4_code 0 = .ok (.aload_n 0, 1) := by decide +kernel
theorem d_RE_isDone_1 : decode prog_11_method_4_code 1 = .ok (.invokevirtual 42, 3) := by decide +kernel
theorem d_RE_isDone_4 : decode prog_11_method_4_code 4 = .ok (.iconst (-1), 1) := by decide +kernel
theorem d_RE_isDone_5 : decode prog_11_method_4_code 5 = .ok (.if_icmp .ne 7, 3) := by decide +kernel
theorem d_RE_isDone_8 : decode prog_11_method_4_code 8 = .ok (.iconst 1, 1) := by decide +kernel
theorem d_RE_isDone_9 : decode prog_11_method_4_code 9 = .ok (.goto 4, 3) := by decide +kernel
theorem d_RE_isDone_12 : decode prog_11_method_4_code 12 = .ok (.iconst 0, 1) := by decide +kernel
theorem d_RE_isDone_13 : decode prog_11_method_4_code 13 = .ok (.ireturn, 1) := by decide +kernel
theorem hm_RE_begin : y_RE_begin.cls ≠ "java/lang/invoke/MethodHandle" ∧ y_RE_begin.cls ≠ "java/lang/invoke/VarHandle" ∧ (parseMethodDescriptor y_RE_begin.desc).map (fun d => d.parameters.length) = some 2 := by decide +kernel
theorem hm_RE_takeWord : y_RE_takeWord.cls ≠ "java/lang/invoke/MethodHandle" ∧ y_RE_takeWord.cls ≠ "java/lang/invoke/VarHandle" ∧ (parseMethodDescriptor y_RE_takeWord.desc).map (fun d => d.parameters.length) = some 0 := by decide +kernel
theorem hm_RE_take : y_RE_take.cls ≠ "java/lang/invoke/MethodHandle" ∧ y_RE_take.cls ≠ "java/lang/invoke/VarHandle" ∧ (parseMethodDescriptor y_RE_take.desc).map (fun d => d.parameters.length) = some 1 := by decide +kernel
theorem hm_RE_next : y_RE_next.cls ≠ "java/lang/invoke/MethodHandle" ∧ y_RE_next.cls ≠ "java/lang/invoke/VarHandle" ∧ (parseMethodDescriptor y_RE_next.desc).map (fun d => d.parameters.length) = some 0 := by decide +kernel
theorem hm_RE_refuse : y_RE_refuse.cls ≠ "java/lang/invoke/MethodHandle" ∧ y_RE_refuse.cls ≠ "java/lang/invoke/VarHandle" ∧ (parseMethodDescriptor y_RE_refuse.desc).map (fun d => d.parameters.length) = some 0 := by decide +kernel
theorem hm_RE_number : y_RE_number.cls ≠ "java/lang/invoke/MethodHandle" ∧ y_RE_number.cls ≠ "java/lang/invoke/VarHandle" ∧ (parseMethodDescriptor y_RE_number.desc).map (fun d => d.parameters.length) = some 0 := by decide +kernel
theorem hm_RE_meet : y_RE_meet.cls ≠ "java/lang/invoke/MethodHandle" ∧ y_RE_meet.cls ≠ "java/lang/invoke/VarHandle" ∧ (parseMethodDescriptor y_RE_meet.desc).map (fun d => d.parameters.length) = some 1 := by decide +kernel
theorem hm_RE_divisor : y_RE_divisor.cls ≠ "java/lang/invoke/MethodHandle" ∧ y_RE_divisor.cls ≠ "java/lang/invoke/VarHandle" ∧ (parseMethodDescriptor y_RE_divisor.desc).map (fun d => d.parameters.length) = some 1 := by decide +kernel
theorem hm_RE_takePair : y_RE_takePair.cls ≠ "java/lang/invoke/MethodHandle" ∧ y_RE_takePair.cls ≠ "java/lang/invoke/VarHandle" ∧ (parseMethodDescriptor y_RE_takePair.desc).map (fun d => d.parameters.length) = some 2 := by decide +kernel
theorem hm_RE_isDone : y_RE_isDone.cls ≠ "java/lang/invoke/MethodHandle" ∧ y_RE_isDone.cls ≠ "java/lang/invoke/VarHandle" ∧ (parseMethodDescriptor y_RE_isDone.desc).map (fun d => d.parameters.length) = some 0 := by decide +kernel
