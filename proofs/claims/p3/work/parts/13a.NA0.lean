theorem d_NA_lengthOf_0 : decode prog_9_method_7_code 0 = .ok (.iload_n 1, 1) := by decide +kernel
theorem d_NA_lengthOf_1 : decode prog_9_method_7_code 1 = .ok (.ifCond .lt 29, 3) := by decide +kernel
theorem d_NA_lengthOf_4 : decode prog_9_method_7_code 4 = .ok (.iload_n 1, 1) := by decide +kernel
theorem d_NA_lengthOf_5 : decode prog_9_method_7_code 5 = .ok (.aload_n 0, 1) := by decide +kernel
theorem d_NA_lengthOf_6 : decode prog_9_method_7_code 6 = .ok (.getfield 33, 3) := by decide +kernel
theorem d_NA_lengthOf_9 : decode prog_9_method_7_code 9 = .ok (.if_icmp .ge 21, 3) := by decide +kernel
theorem d_NA_lengthOf_12 : decode prog_9_method_7_code 12 = .ok (.iload_n 1, 1) := by decide +kernel
theorem d_NA_lengthOf_13 : decode prog_9_method_7_code 13 = .ok (.aload_n 0, 1) := by decide +kernel
theorem d_NA_lengthOf_14 : decode prog_9_method_7_code 14 = .ok (.getfield 29, 3) := by decide +kernel
theorem d_NA_lengthOf_17 : decode prog_9_method_7_code 17 = .ok (.arraylength, 1) := by decide +kernel
theorem d_NA_lengthOf_18 : decode prog_9_method_7_code 18 = .ok (.if_icmp .ge 12, 3) := by decide +kernel
theorem d_NA_lengthOf_21 : decode prog_9_method_7_code 21 = .ok (.aload_n 0, 1) := by decide +kernel
theorem d_NA_lengthOf_22 : decode prog_9_method_7_code 22 = .ok (.getfield 29, 3) := by decide +kernel
theorem d_NA_lengthOf_25 : decode prog_9_method_7_code 25 = .ok (.iload_n 1, 1) := by decide +kernel
theorem d_NA_lengthOf_26 : decode prog_9_method_7_code 26 = .ok (.iaload, 1) := by decide +kernel
theorem d_NA_lengthOf_27 : decode prog_9_method_7_code 27 = .ok (.goto 4, 3) := by decide +kernel
theorem d_NA_lengthOf_30 : decode prog_9_method_7_code 30 = .ok (.iconst 0, 1) := by decide +kernel
theorem d_NA_lengthOf_31 : decode prog_9_method_7_code 31 = .ok (.ireturn, 1) := by decide +kernel
theorem d_NA_is_0 : decode prog_9_method_4_code 0 = .ok (.iload_n 1, 1) := by decide +kernel
theorem d_NA_is_1 : decode prog_9_method_4_code 1 = .ok (.bipush 12, 2) := by decide +kernel
theorem d_NA_is_3 : decode prog_9_method_4_code 3 = .ok (.imul, 1) := by decide +kernel
theorem d_NA_is_4 : decode prog_9_method_4_code 4 = .ok (.istore 4, 2) := by decide +kernel
theorem d_NA_is_6 : decode prog_9_method_4_code 6 = .ok (.iload_n 3, 1) := by decide +kernel
theorem d_NA_is_7 : decode prog_9_method_4_code 7 = .ok (.iload_n 2, 1) := by decide +kernel
theorem d_NA_is_8 : decode prog_9_method_4_code 8 = .ok (.isub, 1) := by decide +kernel
theorem d_NA_is_9 : decode prog_9_method_4_code 9 = .ok (.istore 5, 2) := by decide +kernel
theorem d_NA_is_11 : decode prog_9_method_4_code 11 = .ok (.aload_n 0, 1) := by decide +kernel
theorem d_NA_is_12 : decode prog_9_method_4_code 12 = .ok (.iload_n 1, 1) := by decide +kernel
theorem d_NA_is_13 : decode prog_9_method_4_code 13 = .ok (.invokevirtual 40, 3) := by decide +kernel
theorem d_NA_is_16 : decode prog_9_method_4_code 16 = .ok (.iload 5, 2) := by decide +kernel
theorem d_NA_is_18 : decode prog_9_method_4_code 18 = .ok (.if_icmp .ne 21, 3) := by decide +kernel
theorem d_NA_is_21 : decode prog_9_method_4_code 21 = .ok (.iload 4, 2) := by decide +kernel
theorem d_NA_is_23 : decode prog_9_method_4_code 23 = .ok (.ifCond .lt 16, 3) := by decide +kernel
theorem d_NA_is_26 : decode prog_9_method_4_code 26 = .ok (.iload 4, 2) := by decide +kernel
theorem d_NA_is_28 : decode prog_9_method_4_code 28 = .ok (.iload 5, 2) := by decide +kernel
theorem d_NA_is_30 : decode prog_9_method_4_code 30 = .ok (.iadd, 1) := by decide +kernel
theorem d_NA_is_31 : decode prog_9_method_4_code 31 = .ok (.aload_n 0, 1) := by decide +kernel
theorem d_NA_is_32 : decode prog_9_method_4_code 32 = .ok (.getfield 25, 3) := by decide +kernel
theorem d_NA_is_35 : decode prog_9_method_4_code 35 = .ok (.arraylength, 1) := by decide +kernel
theorem d_NA_is_36 : decode prog_9_method_4_code 36 = .ok (.if_icmp .le 5, 3) := by decide +kernel
theorem d_NA_is_39 : decode prog_9_method_4_code 39 = .ok (.iconst 0, 1) := by decide +kernel
theorem d_NA_is_40 : decode prog_9_method_4_code 40 = .ok (.ireturn, 1) := by decide +kernel
theorem d_NA_is_41 : decode prog_9_method_4_code 41 = .ok (.iconst 0, 1) := by decide +kernel
theorem d_NA_is_42 : decode prog_9_method_4_code 42 = .ok (.istore 6, 2) := by decide +kernel
theorem d_NA_is_44 : decode prog_9_method_4_code 44 = .ok (.iload 6, 2) := by decide +kernel
theorem d_NA_is_46 : decode prog_9_method_4_code 46 = .ok (.iload 5, 2) := by decide +kernel
theorem d_NA_is_48 : decode prog_9_method_4_code 48 = .ok (.if_icmp .ge 35, 3) := by decide +kernel
theorem d_NA_is_51 : decode prog_9_method_4_code 51 = .ok (.aload_n 0, 1) := by decide +kernel
theorem d_NA_is_52 : decode prog_9_method_4_code 52 = .ok (.getfield 25, 3) := by decide +kernel
theorem d_NA_is_55 : decode prog_9_method_4_code 55 = .ok (.iload 4, 2) := by decide +kernel
theorem d_NA_is_57 : decode prog_9_method_4_code 57 = .ok (.iload 6, 2) := by decide +kernel
theorem d_NA_is_59 : decode prog_9_method_4_code 59 = .ok (.iadd, 1) := by decide +kernel
theorem d_NA_is_60 : decode prog_9_method_4_code 60 = .ok (.baload, 1) := by decide +kernel
theorem d_NA_is_61 : decode prog_9_method_4_code 61 = .ok (.aload_n 0, 1) := by decide +kernel
theorem d_NA_is_62 : decode prog_9_method_4_code 62 = .ok (.getfield 9, 3) := by decide +kernel
theorem d_NA_is_65 : decode prog_9_method_4_code 65 = .ok (.iload_n 2, 1) := by decide +kernel
theorem d_NA_is_66 : decode prog_9_method_4_code 66 = .ok (.iload 6, 2) := by decide +kernel
theorem d_NA_is_68 : decode prog_9_method_4_code 68 = .ok (.iadd, 1) := by decide +kernel
theorem d_NA_is_69 : decode prog_9_method_4_code 69 = .ok (.invokevirtual 44, 3) := by decide +kernel
theorem d_NA_is_72 : decode prog_9_method_4_code 72 = .ok (.if_icmp .eq 5, 3) := by decide +kernel
theorem d_NA_is_75 : decode prog_9_method_4_code 75 = .ok (.iconst 0, 1) := by decide +kernel
theorem d_NA_is_76 : decode prog_9_method_4_code 76 = .ok (.ireturn, 1) := by decide +kernel
theorem d_NA_is_77 : decode prog_9_method_4_code 77 = .ok (.iinc 6 1, 3) := by decide +kernel
theorem d_NA_is_80 : decode prog_9_method_4_code 80 = .ok (.goto (-36), 3) := by decide +kernel
theorem d_NA_is_83 : decode prog_9_method_4_code 83 = .ok (.iconst 1, 1) := by decide +kernel
theorem d_NA_is_84 : decode prog_9_method_4_code 84 = .ok (.ireturn, 1) := by decide +kernel
theorem d_NA_find_0 : decode prog_9_method_3_code 0 = .ok (.iconst 0, 1) := by decide +kernel
theorem d_NA_find_1 : decode prog_9_method_3_code 1 = .ok (.istore_n 3, 1) := by decide +kernel
theorem d_NA_find_2 : decode prog_9_method_3_code 2 = .ok (.iload_n 3, 1) := by decide +kernel
theorem d_NA_find_3 : decode prog_9_method_3_code 3 = .ok (.aload_n 0, 1) := by decide +kernel
theorem d_NA_find_4 : decode prog_9_method_3_code 4 = .ok (.getfield 33, 3) := by decide +kernel
theorem d_NA_find_7 : decode prog_9_method_3_code 7 = .ok (.if_icmp .ge 21, 3) := by decide +kernel
theorem d_NA_find_10 : decode prog_9_method_3_code 10 = .ok (.aload_n 0, 1) := by decide +kernel
theorem d_NA_find_11 : decode prog_9_method_3_code 11 = .ok (.iload_n 3, 1) := by decide +kernel
theorem d_NA_find_12 : decode prog_9_method_3_code 12 = .ok (.iload_n 1, 1) := by decide +kernel
theorem d_NA_find_13 : decode prog_9_method_3_code 13 = .ok (.iload_n 2, 1) := by decide +kernel
theorem d_NA_find_14 : decode prog_9_method_3_code 14 = .ok (.invokevirtual 36, 3) := by decide +kernel
theorem d_NA_find_17 : decode prog_9_method_3_code 17 = .ok (.ifCond .eq 5, 3) := by decide +kernel
theorem d_NA_find_20 : decode prog_9_method_3_code 20 = .ok (.iload_n 3, 1) := by decide +kernel
theorem d_NA_find_21 : decode prog_9_method_3_code 21 = .ok (.ireturn, 1) := by decide +kernel
theorem d_NA_find_22 : decode prog_9_method_3_code 22 = .ok (.iinc 3 1, 3) := by decide +kernel
theorem d_NA_find_25 : decode prog_9_method_3_code 25 = .ok (.goto (-23), 3) := by decide +kernel
theorem d_NA_find_28 : decode prog_9_method_3_code 28 = .ok (.iconst (-1), 1) := by decide +kernel
theorem d_NA_find_29 : decode prog_9_method_3_code 29 = .ok (.ireturn, 1) := by decide +kernel
theorem d_NA_isFull_0 : decode prog_9_method_2_code 0 = .ok (.aload_n 0, 1) := by decide +kernel
theorem d_NA_isFull_1 : decode prog_9_method_2_code 1 = .ok (.getfield 33, 3) := by decide +kernel
theorem d_NA_isFull_4 : decode prog_9_method_2_code 4 = .ok (.aload_n 0, 1) := by decide +kernel
theorem d_NA_isFull_5 : decode prog_9_method_2_code 5 = .ok (.getfield 21, 3) := by decide +kernel
theorem d_NA_isFull_8 : decode prog_9_method_2_code 8 = .ok (.if_icmp .lt 7, 3) := by decide +kernel
theorem d_NA_isFull_11 : decode prog_9_method_2_code 11 = .ok (.iconst 1, 1) := by decide +kernel
theorem d_NA_isFull_12 : decode prog_9_method_2_code 12 = .ok (.goto 4, 3) := by decide +kernel
theorem d_NA_isFull_15 : decode prog_9_method_2_code 15 = .ok (.iconst 0, 1) := by decide +kernel
theorem d_NA_isFull_16 : decode prog_9_method_2_code 16 = .ok (.ireturn, 1) := by decide +kernel
theorem d_NA_write_0 : decode prog_9_method_9_code 0 = .ok (.iload_n 1, 1) := by decide +kernel
theorem d_NA_write_1 : decode prog_9_method_9_code 1 = .ok (.bipush 12, 2) := by decide +kernel
theorem d_NA_write_3 : decode prog_9_method_9_code 3 = .ok (.imul, 1) := by decide +kernel
theorem d_NA_write_4 : decode prog_9_method_9_code 4 = .ok (.iload_n 2, 1) := by decide +kernel
theorem d_NA_write_5 : decode prog_9_method_9_code 5 = .ok (.iadd, 1) := by decide +kernel
theorem d_NA_write_6 : decode prog_9_method_9_code 6 = .ok (.istore 4, 2) := by decide +kernel
theorem d_NA_write_8 : decode prog_9_method_9_code 8 = .ok (.iload 4, 2) := by decide +kernel
theorem d_NA_write_10 : decode prog_9_method_9_code 10 = .ok (.ifCond .lt 22, 3) := by decide +kernel
theorem d_NA_write_13 : decode prog_9_method_9_code 13 = .ok (.iload 4, 2) := by decide +kernel
theorem d_NA_write_15 : decode prog_9_method_9_code 15 = .ok (.aload_n 0, 1) := by decide +kernel
theorem d_NA_write_16 : decode prog_9_method_9_code 16 = .ok (.getfield 25, 3) := by decide +kernel
theorem d_NA_write_19 : decode prog_9_method_9_code 19 = .ok (.arraylength, 1) := by decide +kernel
theorem d_NA_write_20 : decode prog_9_method_9_code 20 = .ok (.if_icmp .ge 12, 3) := by decide +kernel
theorem d_NA_write_23 : decode prog_9_method_9_code 23 = .ok (.aload_n 0, 1) := by decide +kernel
theorem d_NA_write_24 : decode prog_9_method_9_code 24 = .ok (.getfield 25, 3) := by decide +kernel
theorem d_NA_write_27 : decode prog_9_method_9_code 27 = .ok (.iload 4, 2) := by decide +kernel
theorem d_NA_write_29 : decode prog_9_method_9_code 29 = .ok (.iload_n 3, 1) := by decide +kernel
theorem d_NA_write_30 : decode prog_9_method_9_code 30 = .ok (.i2b, 1) := by decide +kernel
theorem d_NA_write_31 : decode prog_9_method_9_code 31 = .ok (.bastore, 1) := by decide +kernel
theorem d_NA_write_32 : decode prog_9_method_9_code 32 = .ok (.return_, 1) := by decide +kernel
theorem d_NA_add_0 : decode prog_9_method_5_code 0 = .ok (.aload_n 0, 1) := by decide +kernel
theorem d_NA_add_1 : decode prog_9_method_5_code 1 = .ok (.invokevirtual 49, 3) := by decide +kernel
theorem d_NA_add_4 : decode prog_9_method_5_code 4 = .ok (.ifCond .ne 15, 3) := by decide +kernel
theorem d_NA_add_7 : decode prog_9_method_5_code 7 = .ok (.aload_n 0, 1) := by decide +kernel
theorem d_NA_add_8 : decode prog_9_method_5_code 8 = .ok (.getfield 33, 3) := by decide +kernel
theorem d_NA_add_11 : decode prog_9_method_5_code 11 = .ok (.aload_n 0, 1) := by decide +kernel
theorem d_NA_add_12 : decode prog_9_method_5_code 12 = .ok (.getfield 29, 3) := by decide +kernel
theorem d_NA_add_15 : decode prog_9_method_5_code 15 = .ok (.arraylength, 1) := by decide +kernel
theorem d_NA_add_16 : decode prog_9_method_5_code 16 = .ok (.if_icmp .lt 4, 3) := by decide +kernel
theorem d_NA_add_19 : decode prog_9_method_5_code 19 = .ok (.return_, 1) := by decide +kernel
theorem d_NA_add_20 : decode prog_9_method_5_code 20 = .ok (.iload_n 2, 1) := by decide +kernel
theorem d_NA_add_21 : decode prog_9_method_5_code 21 = .ok (.iload_n 1, 1) := by decide +kernel
theorem d_NA_add_22 : decode prog_9_method_5_code 22 = .ok (.isub, 1) := by decide +kernel
theorem d_NA_add_23 : decode prog_9_method_5_code 23 = .ok (.bipush 12, 2) := by decide +kernel
theorem d_NA_add_25 : decode prog_9_method_5_code 25 = .ok (.invokestatic 53, 3) := by decide +kernel
theorem d_NA_add_28 : decode prog_9_method_5_code 28 = .ok (.istore_n 3, 1) := by decide +kernel
theorem d_NA_add_29 : decode prog_9_method_5_code 29 = .ok (.aload_n 0, 1) := by decide +kernel
theorem d_NA_add_30 : decode prog_9_method_5_code 30 = .ok (.getfield 29, 3) := by decide +kernel
theorem d_NA_add_33 : decode prog_9_method_5_code 33 = .ok (.aload_n 0, 1) := by decide +kernel
theorem d_NA_add_34 : decode prog_9_method_5_code 34 = .ok (.getfield 33, 3) := by decide +kernel
theorem d_NA_add_37 : decode prog_9_method_5_code 37 = .ok (.iload_n 3, 1) := by decide +kernel
theorem d_NA_add_38 : decode prog_9_method_5_code 38 = .ok (.iastore, 1) := by decide +kernel
theorem d_NA_add_39 : decode prog_9_method_5_code 39 = .ok (.iconst 0, 1) := by decide +kernel
theorem d_NA_add_40 : decode prog_9_method_5_code 40 = .ok (.istore 4, 2) := by decide +kernel
theorem d_NA_add_42 : decode prog_9_method_5_code 42 = .ok (.iload 4, 2) := by decide +kernel
theorem d_NA_add_44 : decode prog_9_method_5_code 44 = .ok (.iload_n 3, 1) := by decide +kernel
theorem d_NA_add_45 : decode prog_9_method_5_code 45 = .ok (.if_icmp .ge 30, 3) := by decide +kernel
theorem d_NA_add_48 : decode prog_9_method_5_code 48 = .ok (.aload_n 0, 1) := by decide +kernel
theorem d_NA_add_49 : decode prog_9_method_5_code 49 = .ok (.aload_n 0, 1) := by decide +kernel
theorem d_NA_add_50 : decode prog_9_method_5_code 50 = .ok (.getfield 33, 3) := by decide +kernel
theorem d_NA_add_53 : decode prog_9_method_5_code 53 = .ok (.iload 4, 2) := by decide +kernel
theorem d_NA_add_55 : decode prog_9_method_5_code 55 = .ok (.aload_n 0, 1) := by decide +kernel
theorem d_NA_add_56 : decode prog_9_method_5_code 56 = .ok (.getfield 9, 3) := by decide +kernel
theorem d_NA_add_59 : decode prog_9_method_5_code 59 = .ok (.iload_n 1, 1) := by decide +kernel
theorem d_NA_add_60 : decode prog_9_method_5_code 60 = .ok (.iload 4, 2) := by decide +kernel
theorem d_NA_add_62 : decode prog_9_method_5_code 62 = .ok (.iadd, 1) := by decide +kernel
theorem d_NA_add_63 : decode prog_9_method_5_code 63 = .ok (.invokevirtual 44, 3) := by decide +kernel
theorem d_NA_add_66 : decode prog_9_method_5_code 66 = .ok (.invokevirtual 56, 3) := by decide +kernel
theorem d_NA_add_69 : decode prog_9_method_5_code 69 = .ok (.iinc 4 1, 3) := by decide +kernel
theorem d_NA_add_72 : decode prog_9_method_5_code 72 = .ok (.goto (-30), 3) := by decide +kernel
theorem d_NA_add_75 : decode prog_9_method_5_code 75 = .ok (.aload_n 0, 1) := by decide +kernel
theorem d_NA_add_76 : decode prog_9_method_5_code 76 = .ok (.dup, 1) := by decide +kernel
theorem d_NA_add_77 : decode prog_9_method_5_code 77 = .ok (.getfield 33, 3) := by decide +kernel
theorem d_NA_add_80 : decode prog_9_method_5_code 80 = .ok (.iconst 1, 1) := by decide +kernel
theorem d_NA_add_81 : decode prog_9_method_5_code 81 = .ok (.iadd, 1) := by decide +kernel
theorem d_NA_add_82 : decode prog_9_method_5_code 82 = .ok (.putfield 33, 3) := by decide +kernel
theorem d_NA_add_85 : decode prog_9_method_5_code 85 = .ok (.return_, 1) := by decide +kernel
theorem d_NA_sign_0 : decode prog_9_method_8_code 0 = .ok (.iload_n 2, 1) := by decide +kernel
theorem d_NA_sign_1 : decode prog_9_method_8_code 1 = .ok (.ifCond .lt 12, 3) := by decide +kernel
theorem d_NA_sign_4 : decode prog_9_method_8_code 4 = .ok (.iload_n 2, 1) := by decide +kernel
theorem d_NA_sign_5 : decode prog_9_method_8_code 5 = .ok (.aload_n 0, 1) := by decide +kernel
theorem d_NA_sign_6 : decode prog_9_method_8_code 6 = .ok (.iload_n 1, 1) := by decide +kernel
theorem d_NA_sign_7 : decode prog_9_method_8_code 7 = .ok (.invokevirtual 40, 3) := by decide +kernel
theorem d_NA_sign_10 : decode prog_9_method_8_code 10 = .ok (.if_icmp .lt 5, 3) := by decide +kernel
theorem d_NA_sign_13 : decode prog_9_method_8_code 13 = .ok (.iconst (-1), 1) := by decide +kernel
theorem d_NA_sign_14 : decode prog_9_method_8_code 14 = .ok (.ireturn, 1) := by decide +kernel
theorem d_NA_sign_15 : decode prog_9_method_8_code 15 = .ok (.iload_n 1, 1) := by decide +kernel
theorem d_NA_sign_16 : decode prog_9_method_8_code 16 = .ok (.bipush 12, 2) := by decide +kernel
theorem d_NA_sign_18 : decode prog_9_method_8_code 18 = .ok (.imul, 1) := by decide +kernel
theorem d_NA_sign_19 : decode prog_9_method_8_code 19 = .ok (.iload_n 2, 1) := by decide +kernel
theorem d_NA_sign_20 : decode prog_9_method_8_code 20 = .ok (.iadd, 1) := by decide +kernel
theorem d_NA_sign_21 : decode prog_9_method_8_code 21 = .ok (.istore_n 3, 1) := by decide +kernel
theorem d_NA_sign_22 : decode prog_9_method_8_code 22 = .ok (.iload_n 3, 1) := by decide +kernel
theorem d_NA_sign_23 : decode prog_9_method_8_code 23 = .ok (.ifCond .lt 21, 3) := by decide +kernel
theorem d_NA_sign_26 : decode prog_9_method_8_code 26 = .ok (.iload_n 3, 1) := by decide +kernel
theorem d_NA_sign_27 : decode prog_9_method_8_code 27 = .ok (.aload_n 0, 1) := by decide +kernel
theorem d_NA_sign_28 : decode prog_9_method_8_code 28 = .ok (.getfield 25, 3) := by decide +kernel
theorem d_NA_sign_31 : decode prog_9_method_8_code 31 = .ok (.arraylength, 1) := by decide +kernel
theorem d_NA_sign_32 : decode prog_9_method_8_code 32 = .ok (.if_icmp .ge 12, 3) := by decide +kernel
theorem d_NA_sign_35 : decode prog_9_method_8_code 35 = .ok (.aload_n 0, 1) := by decide +kernel
theorem d_NA_sign_36 : decode prog_9_method_8_code 36 = .ok (.getfield 25, 3) := by decide +kernel
theorem d_NA_sign_39 : decode prog_9_method_8_code 39 = .ok (.iload_n 3, 1) := by decide +kernel
theorem d_NA_sign_40 : decode prog_9_method_8_code 40 = .ok (.baload, 1) := by decide +kernel
theorem d_NA_sign_41 : decode prog_9_method_8_code 41 = .ok (.goto 4, 3) := by decide +kernel
theorem d_NA_sign_44 : decode prog_9_method_8_code 44 = .ok (.iconst (-1), 1) := by decide +kernel
theorem d_NA_sign_45 : decode prog_9_method_8_code 45 = .ok (.ireturn, 1) := by decide +kernel
theorem d_NA_remove_0 : decode prog_9_method_6_code 0 = .ok (.iload_n 1, 1) := by decide +kernel
theorem d_NA_remove_1 : decode prog_9_method_6_code 1 = .ok (.istore_n 2, 1) := by decide +kernel
theorem d_NA_remove_2 : decode prog_9_method_6_code 2 = .ok (.iload_n 2, 1) := by decide +kernel
theorem d_NA_remove_3 : decode prog_9_method_6_code 3 = .ok (.iconst 1, 1) := by decide +kernel
theorem d_NA_remove_4 : decode prog_9_method_6_code 4 = .ok (.iadd, 1) := by decide +kernel
theorem d_NA_remove_5 : decode prog_9_method_6_code 5 = .ok (.aload_n 0, 1) := by decide +kernel
theorem d_NA_remove_6 : decode prog_9_method_6_code 6 = .ok (.getfield 33, 3) := by decide +kernel
theorem d_NA_remove_9 : decode prog_9_method_6_code 9 = .ok (.if_icmp .ge 70, 3) := by decide +kernel
theorem d_NA_remove_12 : decode prog_9_method_6_code 12 = .ok (.iload_n 2, 1) := by decide +kernel
theorem d_NA_remove_13 : decode prog_9_method_6_code 13 = .ok (.ifCond .lt 66, 3) := by decide +kernel
theorem d_NA_remove_16 : decode prog_9_method_6_code 16 = .ok (.iload_n 2, 1) := by decide +kernel
theorem d_NA_remove_17 : decode prog_9_method_6_code 17 = .ok (.iconst 1, 1) := by decide +kernel
theorem d_NA_remove_18 : decode prog_9_method_6_code 18 = .ok (.iadd, 1) := by decide +kernel
theorem d_NA_remove_19 : decode prog_9_method_6_code 19 = .ok (.aload_n 0, 1) := by decide +kernel
theorem d_NA_remove_20 : decode prog_9_method_6_code 20 = .ok (.getfield 29, 3) := by decide +kernel
theorem d_NA_remove_23 : decode prog_9_method_6_code 23 = .ok (.arraylength, 1) := by decide +kernel
theorem d_NA_remove_24 : decode prog_9_method_6_code 24 = .ok (.if_icmp .ge 55, 3) := by decide +kernel
theorem d_NA_remove_27 : decode prog_9_method_6_code 27 = .ok (.aload_n 0, 1) := by decide +kernel
theorem d_NA_remove_28 : decode prog_9_method_6_code 28 = .ok (.getfield 29, 3) := by decide +kernel
theorem d_NA_remove_31 : decode prog_9_method_6_code 31 = .ok (.iload_n 2, 1) := by decide +kernel
theorem d_NA_remove_32 : decode prog_9_method_6_code 32 = .ok (.aload_n 0, 1) := by decide +kernel
theorem d_NA_remove_33 : decode prog_9_method_6_code 33 = .ok (.getfield 29, 3) := by decide +kernel
theorem d_NA_remove_36 : decode prog_9_method_6_code 36 = .ok (.iload_n 2, 1) := by decide +kernel
theorem d_NA_remove_37 : decode prog_9_method_6_code 37 = .ok (.iconst 1, 1) := by decide +kernel
theorem d_NA_remove_38 : decode prog_9_method_6_code 38 = .ok (.iadd, 1) := by decide +kernel
theorem d_NA_remove_39 : decode prog_9_method_6_code 39 = .ok (.iaload, 1) := by decide +kernel
theorem d_NA_remove_40 : decode prog_9_method_6_code 40 = .ok (.iastore, 1) := by decide +kernel
theorem d_NA_remove_41 : decode prog_9_method_6_code 41 = .ok (.iconst 0, 1) := by decide +kernel
theorem d_NA_remove_42 : decode prog_9_method_6_code 42 = .ok (.istore_n 3, 1) := by decide +kernel
theorem d_NA_remove_43 : decode prog_9_method_6_code 43 = .ok (.iload_n 3, 1) := by decide +kernel
theorem d_NA_remove_44 : decode prog_9_method_6_code 44 = .ok (.aload_n 0, 1) := by decide +kernel
theorem d_NA_remove_45 : decode prog_9_method_6_code 45 = .ok (.getfield 29, 3) := by decide +kernel
theorem d_NA_remove_48 : decode prog_9_method_6_code 48 = .ok (.iload_n 2, 1) := by decide +kernel
theorem d_NA_remove_49 : decode prog_9_method_6_code 49 = .ok (.iaload, 1) := by decide +kernel
theorem d_NA_remove_50 : decode prog_9_method_6_code 50 = .ok (.if_icmp .ge 23, 3) := by decide +kernel
theorem d_NA_remove_53 : decode prog_9_method_6_code 53 = .ok (.aload_n 0, 1) := by decide +kernel
theorem d_NA_remove_54 : decode prog_9_method_6_code 54 = .ok (.iload_n 2, 1) := by decide +kernel
theorem d_NA_remove_55 : decode prog_9_method_6_code 55 = .ok (.iload_n 3, 1) := by decide +kernel
theorem d_NA_remove_56 : decode prog_9_method_6_code 56 = .ok (.aload_n 0, 1) := by decide +kernel
theorem d_NA_remove_57 : decode prog_9_method_6_code 57 = .ok (.iload_n 2, 1) := by decide +kernel
theorem d_NA_remove_58 : decode prog_9_method_6_code 58 = .ok (.iconst 1, 1) := by decide +kernel
theorem d_NA_remove_59 : decode prog_9_method_6_code 59 = .ok (.iadd, 1) := by decide +kernel
theorem d_NA_remove_60 : decode prog_9_method_6_code 60 = .ok (.iload_n 3, 1) := by decide +kernel
theorem d_NA_remove_61 : decode prog_9_method_6_code 61 = .ok (.invokevirtual 60, 3) := by decide +kernel
theorem d_NA_remove_64 : decode prog_9_method_6_code 64 = .ok (.invokevirtual 56, 3) := by decide +kernel
theorem d_NA_remove_67 : decode prog_9_method_6_code 67 = .ok (.iinc 3 1, 3) := by decide +kernel
theorem d_NA_remove_70 : decode prog_9_method_6_code 70 = .ok (.goto (-27), 3) := by decide +kernel
theorem d_NA_remove_73 : decode prog_9_method_6_code 73 = .ok (.iinc 2 1, 3) := by decide +kernel
theorem d_NA_remove_76 : decode prog_9_method_6_code 76 = .ok (.goto (-74), 3) := by decide +kernel
theorem d_NA_remove_79 : decode prog_9_method_6_code 79 = .ok (.aload_n 0, 1) := by decide +kernel
theorem d_NA_remove_80 : decode prog_9_method_6_code 80 = .ok (.iconst 0, 1) := by decide +kernel
theorem d_NA_remove_81 : decode prog_9_method_6_code 81 = .ok (.aload_n 0, 1) := by decide +kernel
theorem d_NA_remove_82 : decode prog_9_method_6_code 82 = .ok (.getfield 33, 3) := by decide +kernel
theorem d_NA_remove_85 : decode prog_9_method_6_code 85 = .ok (.iconst 1, 1) := by decide +kernel
theorem d_NA_remove_86 : decode prog_9_method_6_code 86 = .ok (.isub, 1) := by decide +kernel
theorem d_NA_remove_87 : decode prog_9_method_6_code 87 = .ok (.invokestatic 15, 3) := by decide +kernel
theorem d_NA_remove_90 : decode prog_9_method_6_code 90 = .ok (.putfield 33, 3) := by decide +kernel
theorem d_NA_remove_93 : decode prog_9_method_6_code 93 = .ok (.return_, 1) := by decide +kernel
theorem hm_NA_lengthOf : y_NA_lengthOf.cls ≠ "java/lang/invoke/MethodHandle" ∧ y_NA_lengthOf.cls ≠ "java/lang/invoke/VarHandle" ∧ (parseMethodDescriptor y_NA_lengthOf.desc).map (fun d => d.parameters.length) = some 1 := by decide +kernel
theorem hm_NA_is : y_NA_is.cls ≠ "java/lang/invoke/MethodHandle" ∧ y_NA_is.cls ≠ "java/lang/invoke/VarHandle" ∧ (parseMethodDescriptor y_NA_is.desc).map (fun d => d.parameters.length) = some 3 := by decide +kernel
theorem hm_NA_find : y_NA_find.cls ≠ "java/lang/invoke/MethodHandle" ∧ y_NA_find.cls ≠ "java/lang/invoke/VarHandle" ∧ (parseMethodDescriptor y_NA_find.desc).map (fun d => d.parameters.length) = some 2 := by decide +kernel
theorem hm_NA_isFull : y_NA_isFull.cls ≠ "java/lang/invoke/MethodHandle" ∧ y_NA_isFull.cls ≠ "java/lang/invoke/VarHandle" ∧ (parseMethodDescriptor y_NA_isFull.desc).map (fun d => d.parameters.length) = some 0 := by decide +kernel
theorem hm_NA_write : y_NA_write.cls ≠ "java/lang/invoke/MethodHandle" ∧ y_NA_write.cls ≠ "java/lang/invoke/VarHandle" ∧ (parseMethodDescriptor y_NA_write.desc).map (fun d => d.parameters.length) = some 3 := by decide +kernel
theorem hm_NA_add : y_NA_add.cls ≠ "java/lang/invoke/MethodHandle" ∧ y_NA_add.cls ≠ "java/lang/invoke/VarHandle" ∧ (parseMethodDescriptor y_NA_add.desc).map (fun d => d.parameters.length) = some 2 := by decide +kernel
theorem hm_NA_sign : y_NA_sign.cls ≠ "java/lang/invoke/MethodHandle" ∧ y_NA_sign.cls ≠ "java/lang/invoke/VarHandle" ∧ (parseMethodDescriptor y_NA_sign.desc).map (fun d => d.parameters.length) = some 2 := by decide +kernel
theorem hm_NA_remove : y_NA_remove.cls ≠ "java/lang/invoke/MethodHandle" ∧ y_NA_remove.cls ≠ "java/lang/invoke/VarHandle" ∧ (parseMethodDescriptor y_NA_remove.desc).map (fun d => d.parameters.length) = some 1 := by decide +kernel
