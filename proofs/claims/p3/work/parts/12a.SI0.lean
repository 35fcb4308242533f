theorem d_SI_at_0 : decode prog_12_method_5_code 0 = .ok (.iload_n 1, 1) := by decide +kernel
theorem d_SI_at_1 : decode prog_12_method_5_code 1 = .ok (.ifCond .lt 21, 3) := by decide +kernel
theorem d_SI_at_4 : decode prog_12_method_5_code 4 = .ok (.iload_n 1, 1) := by decide +kernel
theorem d_SI_at_5 : decode prog_12_method_5_code 5 = .ok (.aload_n 0, 1) := by decide +kernel
theorem d_SI_at_6 : decode prog_12_method_5_code 6 = .ok (.getfield 9, 3) := by decide +kernel
theorem d_SI_at_9 : decode prog_12_method_5_code 9 = .ok (.arraylength, 1) := by decide +kernel
theorem d_SI_at_10 : decode prog_12_method_5_code 10 = .ok (.if_icmp .ge 12, 3) := by decide +kernel
theorem d_SI_at_13 : decode prog_12_method_5_code 13 = .ok (.aload_n 0, 1) := by decide +kernel
theorem d_SI_at_14 : decode prog_12_method_5_code 14 = .ok (.getfield 9, 3) := by decide +kernel
theorem d_SI_at_17 : decode prog_12_method_5_code 17 = .ok (.iload_n 1, 1) := by decide +kernel
theorem d_SI_at_18 : decode prog_12_method_5_code 18 = .ok (.baload, 1) := by decide +kernel
theorem d_SI_at_19 : decode prog_12_method_5_code 19 = .ok (.goto 4, 3) := by decide +kernel
theorem d_SI_at_22 : decode prog_12_method_5_code 22 = .ok (.iconst (-1), 1) := by decide +kernel
theorem d_SI_at_23 : decode prog_12_method_5_code 23 = .ok (.ireturn, 1) := by decide +kernel
theorem d_SI_find_0 : decode prog_12_method_10_code 0 = .ok (.iload_n 2, 1) := by decide +kernel
theorem d_SI_find_1 : decode prog_12_method_10_code 1 = .ok (.istore 4, 2) := by decide +kernel
theorem d_SI_find_3 : decode prog_12_method_10_code 3 = .ok (.iload 4, 2) := by decide +kernel
theorem d_SI_find_5 : decode prog_12_method_10_code 5 = .ok (.iload_n 3, 1) := by decide +kernel
theorem d_SI_find_6 : decode prog_12_method_10_code 6 = .ok (.if_icmp .ge 19, 3) := by decide +kernel
theorem d_SI_find_9 : decode prog_12_method_10_code 9 = .ok (.aload_n 0, 1) := by decide +kernel
theorem d_SI_find_10 : decode prog_12_method_10_code 10 = .ok (.iload 4, 2) := by decide +kernel
theorem d_SI_find_12 : decode prog_12_method_10_code 12 = .ok (.invokevirtual 22, 3) := by decide +kernel
theorem d_SI_find_15 : decode prog_12_method_10_code 15 = .ok (.iload_n 1, 1) := by decide +kernel
theorem d_SI_find_16 : decode prog_12_method_10_code 16 = .ok (.if_icmp .eq 9, 3) := by decide +kernel
theorem d_SI_find_19 : decode prog_12_method_10_code 19 = .ok (.iinc 4 1, 3) := by decide +kernel
theorem d_SI_find_22 : decode prog_12_method_10_code 22 = .ok (.goto (-19), 3) := by decide +kernel
theorem d_SI_find_25 : decode prog_12_method_10_code 25 = .ok (.iload 4, 2) := by decide +kernel
theorem d_SI_find_27 : decode prog_12_method_10_code 27 = .ok (.ireturn, 1) := by decide +kernel
theorem d_SI_behindBlanks_0 : decode prog_12_method_8_code 0 = .ok (.iload_n 1, 1) := by decide +kernel
theorem d_SI_behindBlanks_1 : decode prog_12_method_8_code 1 = .ok (.istore_n 3, 1) := by decide +kernel
theorem d_SI_behindBlanks_2 : decode prog_12_method_8_code 2 = .ok (.iload_n 3, 1) := by decide +kernel
theorem d_SI_behindBlanks_3 : decode prog_12_method_8_code 3 = .ok (.iload_n 2, 1) := by decide +kernel
theorem d_SI_behindBlanks_4 : decode prog_12_method_8_code 4 = .ok (.if_icmp .ge 33, 3) := by decide +kernel
theorem d_SI_behindBlanks_7 : decode prog_12_method_8_code 7 = .ok (.iload_n 3, 1) := by decide +kernel
theorem d_SI_behindBlanks_8 : decode prog_12_method_8_code 8 = .ok (.ifCond .lt 29, 3) := by decide +kernel
theorem d_SI_behindBlanks_11 : decode prog_12_method_8_code 11 = .ok (.iload_n 3, 1) := by decide +kernel
theorem d_SI_behindBlanks_12 : decode prog_12_method_8_code 12 = .ok (.aload_n 0, 1) := by decide +kernel
theorem d_SI_behindBlanks_13 : decode prog_12_method_8_code 13 = .ok (.getfield 9, 3) := by decide +kernel
theorem d_SI_behindBlanks_16 : decode prog_12_method_8_code 16 = .ok (.arraylength, 1) := by decide +kernel
theorem d_SI_behindBlanks_17 : decode prog_12_method_8_code 17 = .ok (.if_icmp .ge 20, 3) := by decide +kernel
theorem d_SI_behindBlanks_20 : decode prog_12_method_8_code 20 = .ok (.aload_n 0, 1) := by decide +kernel
theorem d_SI_behindBlanks_21 : decode prog_12_method_8_code 21 = .ok (.getfield 9, 3) := by decide +kernel
theorem d_SI_behindBlanks_24 : decode prog_12_method_8_code 24 = .ok (.iload_n 3, 1) := by decide +kernel
theorem d_SI_behindBlanks_25 : decode prog_12_method_8_code 25 = .ok (.baload, 1) := by decide +kernel
theorem d_SI_behindBlanks_26 : decode prog_12_method_8_code 26 = .ok (.bipush 32, 2) := by decide +kernel
theorem d_SI_behindBlanks_28 : decode prog_12_method_8_code 28 = .ok (.if_icmp .ne 9, 3) := by decide +kernel
theorem d_SI_behindBlanks_31 : decode prog_12_method_8_code 31 = .ok (.iinc 3 1, 3) := by decide +kernel
theorem d_SI_behindBlanks_34 : decode prog_12_method_8_code 34 = .ok (.goto (-32), 3) := by decide +kernel
theorem d_SI_behindBlanks_37 : decode prog_12_method_8_code 37 = .ok (.iload_n 3, 1) := by decide +kernel
theorem d_SI_behindBlanks_38 : decode prog_12_method_8_code 38 = .ok (.ireturn, 1) := by decide +kernel
theorem d_SI_aheadOfBlanks_0 : decode prog_12_method_9_code 0 = .ok (.iload_n 2, 1) := by decide +kernel
theorem d_SI_aheadOfBlanks_1 : decode prog_12_method_9_code 1 = .ok (.istore_n 3, 1) := by decide +kernel
theorem d_SI_aheadOfBlanks_2 : decode prog_12_method_9_code 2 = .ok (.iload_n 3, 1) := by decide +kernel
theorem d_SI_aheadOfBlanks_3 : decode prog_12_method_9_code 3 = .ok (.iload_n 1, 1) := by decide +kernel
theorem d_SI_aheadOfBlanks_4 : decode prog_12_method_9_code 4 = .ok (.if_icmp .le 35, 3) := by decide +kernel
theorem d_SI_aheadOfBlanks_7 : decode prog_12_method_9_code 7 = .ok (.iload_n 3, 1) := by decide +kernel
theorem d_SI_aheadOfBlanks_8 : decode prog_12_method_9_code 8 = .ok (.ifCond .le 31, 3) := by decide +kernel
theorem d_SI_aheadOfBlanks_11 : decode prog_12_method_9_code 11 = .ok (.iload_n 3, 1) := by decide +kernel
theorem d_SI_aheadOfBlanks_12 : decode prog_12_method_9_code 12 = .ok (.aload_n 0, 1) := by decide +kernel
theorem d_SI_aheadOfBlanks_13 : decode prog_12_method_9_code 13 = .ok (.getfield 9, 3) := by decide +kernel
theorem d_SI_aheadOfBlanks_16 : decode prog_12_method_9_code 16 = .ok (.arraylength, 1) := by decide +kernel
theorem d_SI_aheadOfBlanks_17 : decode prog_12_method_9_code 17 = .ok (.if_icmp .gt 22, 3) := by decide +kernel
theorem d_SI_aheadOfBlanks_20 : decode prog_12_method_9_code 20 = .ok (.aload_n 0, 1) := by decide +kernel
theorem d_SI_aheadOfBlanks_21 : decode prog_12_method_9_code 21 = .ok (.getfield 9, 3) := by decide +kernel
theorem d_SI_aheadOfBlanks_24 : decode prog_12_method_9_code 24 = .ok (.iload_n 3, 1) := by decide +kernel
theorem d_SI_aheadOfBlanks_25 : decode prog_12_method_9_code 25 = .ok (.iconst 1, 1) := by decide +kernel
theorem d_SI_aheadOfBlanks_26 : decode prog_12_method_9_code 26 = .ok (.isub, 1) := by decide +kernel
theorem d_SI_aheadOfBlanks_27 : decode prog_12_method_9_code 27 = .ok (.baload, 1) := by decide +kernel
theorem d_SI_aheadOfBlanks_28 : decode prog_12_method_9_code 28 = .ok (.bipush 32, 2) := by decide +kernel
theorem d_SI_aheadOfBlanks_30 : decode prog_12_method_9_code 30 = .ok (.if_icmp .ne 9, 3) := by decide +kernel
theorem d_SI_aheadOfBlanks_33 : decode prog_12_method_9_code 33 = .ok (.iinc 3 (-1), 3) := by decide +kernel
theorem d_SI_aheadOfBlanks_36 : decode prog_12_method_9_code 36 = .ok (.goto (-34), 3) := by decide +kernel
theorem d_SI_aheadOfBlanks_39 : decode prog_12_method_9_code 39 = .ok (.iload_n 3, 1) := by decide +kernel
theorem d_SI_aheadOfBlanks_40 : decode prog_12_method_9_code 40 = .ok (.ireturn, 1) := by decide +kernel
theorem d_SI_keepRange_0 : decode prog_12_method_15_code 0 = .ok (.aload_n 0, 1) := by decide +kernel
theorem d_SI_keepRange_1 : decode prog_12_method_15_code 1 = .ok (.getfield 43, 3) := by decide +kernel
theorem d_SI_keepRange_4 : decode prog_12_method_15_code 4 = .ok (.aload_n 0, 1) := by decide +kernel
theorem d_SI_keepRange_5 : decode prog_12_method_15_code 5 = .ok (.getfield 15, 3) := by decide +kernel
theorem d_SI_keepRange_8 : decode prog_12_method_15_code 8 = .ok (.arraylength, 1) := by decide +kernel
theorem d_SI_keepRange_9 : decode prog_12_method_15_code 9 = .ok (.if_icmp .ge 15, 3) := by decide +kernel
theorem d_SI_keepRange_12 : decode prog_12_method_15_code 12 = .ok (.aload_n 0, 1) := by decide +kernel
theorem d_SI_keepRange_13 : decode prog_12_method_15_code 13 = .ok (.getfield 43, 3) := by decide +kernel
theorem d_SI_keepRange_16 : decode prog_12_method_15_code 16 = .ok (.aload_n 0, 1) := by decide +kernel
theorem d_SI_keepRange_17 : decode prog_12_method_15_code 17 = .ok (.getfield 19, 3) := by decide +kernel
theorem d_SI_keepRange_20 : decode prog_12_method_15_code 20 = .ok (.arraylength, 1) := by decide +kernel
theorem d_SI_keepRange_21 : decode prog_12_method_15_code 21 = .ok (.if_icmp .lt 4, 3) := by decide +kernel
theorem d_SI_keepRange_24 : decode prog_12_method_15_code 24 = .ok (.return_, 1) := by decide +kernel
theorem d_SI_keepRange_25 : decode prog_12_method_15_code 25 = .ok (.aload_n 0, 1) := by decide +kernel
theorem d_SI_keepRange_26 : decode prog_12_method_15_code 26 = .ok (.bipush 35, 2) := by decide +kernel
theorem d_SI_keepRange_28 : decode prog_12_method_15_code 28 = .ok (.iload_n 1, 1) := by decide +kernel
theorem d_SI_keepRange_29 : decode prog_12_method_15_code 29 = .ok (.iload_n 2, 1) := by decide +kernel
theorem d_SI_keepRange_30 : decode prog_12_method_15_code 30 = .ok (.invokevirtual 53, 3) := by decide +kernel
theorem d_SI_keepRange_33 : decode prog_12_method_15_code 33 = .ok (.istore_n 3, 1) := by decide +kernel
theorem d_SI_keepRange_34 : decode prog_12_method_15_code 34 = .ok (.aload_n 0, 1) := by decide +kernel
theorem d_SI_keepRange_35 : decode prog_12_method_15_code 35 = .ok (.iload_n 1, 1) := by decide +kernel
theorem d_SI_keepRange_36 : decode prog_12_method_15_code 36 = .ok (.iload_n 3, 1) := by decide +kernel
theorem d_SI_keepRange_37 : decode prog_12_method_15_code 37 = .ok (.invokevirtual 57, 3) := by decide +kernel
theorem d_SI_keepRange_40 : decode prog_12_method_15_code 40 = .ok (.istore 4, 2) := by decide +kernel
theorem d_SI_keepRange_42 : decode prog_12_method_15_code 42 = .ok (.aload_n 0, 1) := by decide +kernel
theorem d_SI_keepRange_43 : decode prog_12_method_15_code 43 = .ok (.getfield 15, 3) := by decide +kernel
theorem d_SI_keepRange_46 : decode prog_12_method_15_code 46 = .ok (.aload_n 0, 1) := by decide +kernel
theorem d_SI_keepRange_47 : decode prog_12_method_15_code 47 = .ok (.getfield 43, 3) := by decide +kernel
theorem d_SI_keepRange_50 : decode prog_12_method_15_code 50 = .ok (.iload 4, 2) := by decide +kernel
theorem d_SI_keepRange_52 : decode prog_12_method_15_code 52 = .ok (.iastore, 1) := by decide +kernel
theorem d_SI_keepRange_53 : decode prog_12_method_15_code 53 = .ok (.aload_n 0, 1) := by decide +kernel
theorem d_SI_keepRange_54 : decode prog_12_method_15_code 54 = .ok (.getfield 19, 3) := by decide +kernel
theorem d_SI_keepRange_57 : decode prog_12_method_15_code 57 = .ok (.aload_n 0, 1) := by decide +kernel
theorem d_SI_keepRange_58 : decode prog_12_method_15_code 58 = .ok (.getfield 43, 3) := by decide +kernel
theorem d_SI_keepRange_61 : decode prog_12_method_15_code 61 = .ok (.aload_n 0, 1) := by decide +kernel
theorem d_SI_keepRange_62 : decode prog_12_method_15_code 62 = .ok (.iload 4, 2) := by decide +kernel
theorem d_SI_keepRange_64 : decode prog_12_method_15_code 64 = .ok (.iload_n 3, 1) := by decide +kernel
theorem d_SI_keepRange_65 : decode prog_12_method_15_code 65 = .ok (.invokevirtual 61, 3) := by decide +kernel
theorem d_SI_keepRange_68 : decode prog_12_method_15_code 68 = .ok (.iastore, 1) := by decide +kernel
theorem d_SI_keepRange_69 : decode prog_12_method_15_code 69 = .ok (.aload_n 0, 1) := by decide +kernel
theorem d_SI_keepRange_70 : decode prog_12_method_15_code 70 = .ok (.dup, 1) := by decide +kernel
theorem d_SI_keepRange_71 : decode prog_12_method_15_code 71 = .ok (.getfield 43, 3) := by decide +kernel
theorem d_SI_keepRange_74 : decode prog_12_method_15_code 74 = .ok (.iconst 1, 1) := by decide +kernel
theorem d_SI_keepRange_75 : decode prog_12_method_15_code 75 = .ok (.iadd, 1) := by decide +kernel
theorem d_SI_keepRange_76 : decode prog_12_method_15_code 76 = .ok (.putfield 43, 3) := by decide +kernel
theorem d_SI_keepRange_79 : decode prog_12_method_15_code 79 = .ok (.return_, 1) := by decide +kernel
theorem d_SI_partIntoLines_0 : decode prog_12_method_14_code 0 = .ok (.aload_n 0, 1) := by decide +kernel
theorem d_SI_partIntoLines_1 : decode prog_12_method_14_code 1 = .ok (.iconst 0, 1) := by decide +kernel
theorem d_SI_partIntoLines_2 : decode prog_12_method_14_code 2 = .ok (.putfield 43, 3) := by decide +kernel
theorem d_SI_partIntoLines_5 : decode prog_12_method_14_code 5 = .ok (.iconst 0, 1) := by decide +kernel
theorem d_SI_partIntoLines_6 : decode prog_12_method_14_code 6 = .ok (.istore_n 1, 1) := by decide +kernel
theorem d_SI_partIntoLines_7 : decode prog_12_method_14_code 7 = .ok (.iconst 0, 1) := by decide +kernel
theorem d_SI_partIntoLines_8 : decode prog_12_method_14_code 8 = .ok (.istore_n 2, 1) := by decide +kernel
theorem d_SI_partIntoLines_9 : decode prog_12_method_14_code 9 = .ok (.iload_n 2, 1) := by decide +kernel
theorem d_SI_partIntoLines_10 : decode prog_12_method_14_code 10 = .ok (.aload_n 0, 1) := by decide +kernel
theorem d_SI_partIntoLines_11 : decode prog_12_method_14_code 11 = .ok (.getfield 47, 3) := by decide +kernel
theorem d_SI_partIntoLines_14 : decode prog_12_method_14_code 14 = .ok (.if_icmp .gt 37, 3) := by decide +kernel
theorem d_SI_partIntoLines_17 : decode prog_12_method_14_code 17 = .ok (.iload_n 2, 1) := by decide +kernel
theorem d_SI_partIntoLines_18 : decode prog_12_method_14_code 18 = .ok (.aload_n 0, 1) := by decide +kernel
theorem d_SI_partIntoLines_19 : decode prog_12_method_14_code 19 = .ok (.getfield 47, 3) := by decide +kernel
theorem d_SI_partIntoLines_22 : decode prog_12_method_14_code 22 = .ok (.if_icmp .eq 13, 3) := by decide +kernel
theorem d_SI_partIntoLines_25 : decode prog_12_method_14_code 25 = .ok (.aload_n 0, 1) := by decide +kernel
theorem d_SI_partIntoLines_26 : decode prog_12_method_14_code 26 = .ok (.iload_n 2, 1) := by decide +kernel
theorem d_SI_partIntoLines_27 : decode prog_12_method_14_code 27 = .ok (.invokevirtual 22, 3) := by decide +kernel
theorem d_SI_partIntoLines_30 : decode prog_12_method_14_code 30 = .ok (.bipush 10, 2) := by decide +kernel
theorem d_SI_partIntoLines_32 : decode prog_12_method_14_code 32 = .ok (.if_icmp .ne 13, 3) := by decide +kernel
theorem d_SI_partIntoLines_35 : decode prog_12_method_14_code 35 = .ok (.aload_n 0, 1) := by decide +kernel
theorem d_SI_partIntoLines_36 : decode prog_12_method_14_code 36 = .ok (.iload_n 1, 1) := by decide +kernel
theorem d_SI_partIntoLines_37 : decode prog_12_method_14_code 37 = .ok (.iload_n 2, 1) := by decide +kernel
theorem d_SI_partIntoLines_38 : decode prog_12_method_14_code 38 = .ok (.invokevirtual 49, 3) := by decide +kernel
theorem d_SI_partIntoLines_41 : decode prog_12_method_14_code 41 = .ok (.iload_n 2, 1) := by decide +kernel
theorem d_SI_partIntoLines_42 : decode prog_12_method_14_code 42 = .ok (.iconst 1, 1) := by decide +kernel
theorem d_SI_partIntoLines_43 : decode prog_12_method_14_code 43 = .ok (.iadd, 1) := by decide +kernel
theorem d_SI_partIntoLines_44 : decode prog_12_method_14_code 44 = .ok (.istore_n 1, 1) := by decide +kernel
theorem d_SI_partIntoLines_45 : decode prog_12_method_14_code 45 = .ok (.iinc 2 1, 3) := by decide +kernel
theorem d_SI_partIntoLines_48 : decode prog_12_method_14_code 48 = .ok (.goto (-39), 3) := by decide +kernel
theorem d_SI_partIntoLines_51 : decode prog_12_method_14_code 51 = .ok (.return_, 1) := by decide +kernel
theorem d_SI_argumentEnd_0 : decode prog_12_method_11_code 0 = .ok (.iconst 0, 1) := by decide +kernel
theorem d_SI_argumentEnd_1 : decode prog_12_method_11_code 1 = .ok (.istore_n 3, 1) := by decide +kernel
theorem d_SI_argumentEnd_2 : decode prog_12_method_11_code 2 = .ok (.iload_n 1, 1) := by decide +kernel
theorem d_SI_argumentEnd_3 : decode prog_12_method_11_code 3 = .ok (.istore 4, 2) := by decide +kernel
theorem d_SI_argumentEnd_5 : decode prog_12_method_11_code 5 = .ok (.iload 4, 2) := by decide +kernel
theorem d_SI_argumentEnd_7 : decode prog_12_method_11_code 7 = .ok (.iload_n 2, 1) := by decide +kernel
theorem d_SI_argumentEnd_8 : decode prog_12_method_11_code 8 = .ok (.if_icmp .ge 57, 3) := by decide +kernel
theorem d_SI_argumentEnd_11 : decode prog_12_method_11_code 11 = .ok (.aload_n 0, 1) := by decide +kernel
theorem d_SI_argumentEnd_12 : decode prog_12_method_11_code 12 = .ok (.iload 4, 2) := by decide +kernel
theorem d_SI_argumentEnd_14 : decode prog_12_method_11_code 14 = .ok (.invokevirtual 22, 3) := by decide +kernel
theorem d_SI_argumentEnd_17 : decode prog_12_method_11_code 17 = .ok (.istore 5, 2) := by decide +kernel
theorem d_SI_argumentEnd_19 : decode prog_12_method_11_code 19 = .ok (.iload 5, 2) := by decide +kernel
theorem d_SI_argumentEnd_21 : decode prog_12_method_11_code 21 = .ok (.bipush 44, 2) := by decide +kernel
theorem d_SI_argumentEnd_23 : decode prog_12_method_11_code 23 = .ok (.if_icmp .ne 10, 3) := by decide +kernel
theorem d_SI_argumentEnd_26 : decode prog_12_method_11_code 26 = .ok (.iload_n 3, 1) := by decide +kernel
theorem d_SI_argumentEnd_27 : decode prog_12_method_11_code 27 = .ok (.ifCond .ne 6, 3) := by decide +kernel
theorem d_SI_argumentEnd_30 : decode prog_12_method_11_code 30 = .ok (.iload 4, 2) := by decide +kernel
theorem d_SI_argumentEnd_32 : decode prog_12_method_11_code 32 = .ok (.ireturn, 1) := by decide +kernel
theorem d_SI_argumentEnd_33 : decode prog_12_method_11_code 33 = .ok (.iload 5, 2) := by decide +kernel
theorem d_SI_argumentEnd_35 : decode prog_12_method_11_code 35 = .ok (.bipush 40, 2) := by decide +kernel
theorem d_SI_argumentEnd_37 : decode prog_12_method_11_code 37 = .ok (.if_icmp .ne 6, 3) := by decide +kernel
theorem d_SI_argumentEnd_40 : decode prog_12_method_11_code 40 = .ok (.iinc 3 1, 3) := by decide +kernel
theorem d_SI_argumentEnd_43 : decode prog_12_method_11_code 43 = .ok (.iload 5, 2) := by decide +kernel
theorem d_SI_argumentEnd_45 : decode prog_12_method_11_code 45 = .ok (.bipush 41, 2) := by decide +kernel
theorem d_SI_argumentEnd_47 : decode prog_12_method_11_code 47 = .ok (.if_icmp .ne 6, 3) := by decide +kernel
theorem d_SI_argumentEnd_50 : decode prog_12_method_11_code 50 = .ok (.iinc 3 (-1), 3) := by decide +kernel
theorem d_SI_argumentEnd_53 : decode prog_12_method_11_code 53 = .ok (.iload_n 3, 1) := by decide +kernel
theorem d_SI_argumentEnd_54 : decode prog_12_method_11_code 54 = .ok (.ifCond .ge 5, 3) := by decide +kernel
theorem d_SI_argumentEnd_57 : decode prog_12_method_11_code 57 = .ok (.iconst (-1), 1) := by decide +kernel
theorem d_SI_argumentEnd_58 : decode prog_12_method_11_code 58 = .ok (.ireturn, 1) := by decide +kernel
theorem d_SI_argumentEnd_59 : decode prog_12_method_11_code 59 = .ok (.iinc 4 1, 3) := by decide +kernel
theorem d_SI_argumentEnd_62 : decode prog_12_method_11_code 62 = .ok (.goto (-57), 3) := by decide +kernel
theorem d_SI_argumentEnd_65 : decode prog_12_method_11_code 65 = .ok (.iload_n 3, 1) := by decide +kernel
theorem d_SI_argumentEnd_66 : decode prog_12_method_11_code 66 = .ok (.ifCond .ne 7, 3) := by decide +kernel
theorem d_SI_argumentEnd_69 : decode prog_12_method_11_code 69 = .ok (.iload_n 2, 1) := by decide +kernel
theorem d_SI_argumentEnd_70 : decode prog_12_method_11_code 70 = .ok (.goto 4, 3) := by decide +kernel
theorem d_SI_argumentEnd_73 : decode prog_12_method_11_code 73 = .ok (.iconst (-1), 1) := by decide +kernel
theorem d_SI_argumentEnd_74 : decode prog_12_method_11_code 74 = .ok (.ireturn, 1) := by decide +kernel
theorem d_SI_startOf_0 : decode prog_12_method_16_code 0 = .ok (.iload_n 1, 1) := by decide +kernel
theorem d_SI_startOf_1 : decode prog_12_method_16_code 1 = .ok (.ifCond .lt 21, 3) := by decide +kernel
theorem d_SI_startOf_4 : decode prog_12_method_16_code 4 = .ok (.iload_n 1, 1) := by decide +kernel
theorem d_SI_startOf_5 : decode prog_12_method_16_code 5 = .ok (.aload_n 0, 1) := by decide +kernel
theorem d_SI_startOf_6 : decode prog_12_method_16_code 6 = .ok (.getfield 15, 3) := by decide +kernel
theorem d_SI_startOf_9 : decode prog_12_method_16_code 9 = .ok (.arraylength, 1) := by decide +kernel
theorem d_SI_startOf_10 : decode prog_12_method_16_code 10 = .ok (.if_icmp .ge 12, 3) := by decide +kernel
theorem d_SI_startOf_13 : decode prog_12_method_16_code 13 = .ok (.aload_n 0, 1) := by decide +kernel
theorem d_SI_startOf_14 : decode prog_12_method_16_code 14 = .ok (.getfield 15, 3) := by decide +kernel
theorem d_SI_startOf_17 : decode prog_12_method_16_code 17 = .ok (.iload_n 1, 1) := by decide +kernel
theorem d_SI_startOf_18 : decode prog_12_method_16_code 18 = .ok (.iaload, 1) := by decide +kernel
theorem d_SI_startOf_19 : decode prog_12_method_16_code 19 = .ok (.goto 4, 3) := by decide +kernel
theorem d_SI_startOf_22 : decode prog_12_method_16_code 22 = .ok (.iconst 0, 1) := by decide +kernel
theorem d_SI_startOf_23 : decode prog_12_method_16_code 23 = .ok (.ireturn, 1) := by decide +kernel
theorem d_SI_stopOf_0 : decode prog_12_method_17_code 0 = .ok (.iload_n 1, 1) := by decide +kernel
theorem d_SI_stopOf_1 : decode prog_12_method_17_code 1 = .ok (.ifCond .lt 21, 3) := by decide +kernel
theorem d_SI_stopOf_4 : decode prog_12_method_17_code 4 = .ok (.iload_n 1, 1) := by decide +kernel
theorem d_SI_stopOf_5 : decode prog_12_method_17_code 5 = .ok (.aload_n 0, 1) := by decide +kernel
theorem d_SI_stopOf_6 : decode prog_12_method_17_code 6 = .ok (.getfield 19, 3) := by decide +kernel
theorem d_SI_stopOf_9 : decode prog_12_method_17_code 9 = .ok (.arraylength, 1) := by decide +kernel
theorem d_SI_stopOf_10 : decode prog_12_method_17_code 10 = .ok (.if_icmp .ge 12, 3) := by decide +kernel
theorem d_SI_stopOf_13 : decode prog_12_method_17_code 13 = .ok (.aload_n 0, 1) := by decide +kernel
theorem d_SI_stopOf_14 : decode prog_12_method_17_code 14 = .ok (.getfield 19, 3) := by decide +kernel
theorem d_SI_stopOf_17 : decode prog_12_method_17_code 17 = .ok (.iload_n 1, 1) := by decide +kernel
theorem d_SI_stopOf_18 : decode prog_12_method_17_code 18 = .ok (.iaload, 1) := by decide +kernel
theorem d_SI_stopOf_19 : decode prog_12_method_17_code 19 = .ok (.goto 4, 3) := by decide +kernel
theorem d_SI_stopOf_22 : decode prog_12_method_17_code 22 = .ok (.iconst 0, 1) := by decide +kernel
theorem d_SI_stopOf_23 : decode prog_12_method_17_code 23 = .ok (.ireturn, 1) := by decide +kernel
theorem d_SI_beginsWord_0 : decode prog_12_method_4_code 0 = .ok (.iload_n 0, 1) := by decide +kernel
theorem d_SI_beginsWord_1 : decode prog_12_method_4_code 1 = .ok (.bipush 97, 2) := by decide +kernel
theorem d_SI_beginsWord_3 : decode prog_12_method_4_code 3 = .ok (.if_icmp .lt 9, 3) := by decide +kernel
theorem d_SI_beginsWord_6 : decode prog_12_method_4_code 6 = .ok (.iload_n 0, 1) := by decide +kernel
theorem d_SI_beginsWord_7 : decode prog_12_method_4_code 7 = .ok (.bipush 122, 2) := by decide +kernel
theorem d_SI_beginsWord_9 : decode prog_12_method_4_code 9 = .ok (.if_icmp .le 9, 3) := by decide +kernel
theorem d_SI_beginsWord_12 : decode prog_12_method_4_code 12 = .ok (.iload_n 0, 1) := by decide +kernel
theorem d_SI_beginsWord_13 : decode prog_12_method_4_code 13 = .ok (.bipush 95, 2) := by decide +kernel
theorem d_SI_beginsWord_15 : decode prog_12_method_4_code 15 = .ok (.if_icmp .ne 7, 3) := by decide +kernel
theorem d_SI_beginsWord_18 : decode prog_12_method_4_code 18 = .ok (.iconst 1, 1) := by decide +kernel
theorem d_SI_beginsWord_19 : decode prog_12_method_4_code 19 = .ok (.goto 4, 3) := by decide +kernel
theorem d_SI_beginsWord_22 : decode prog_12_method_4_code 22 = .ok (.iconst 0, 1) := by decide +kernel
theorem d_SI_beginsWord_23 : decode prog_12_method_4_code 23 = .ok (.ireturn, 1) := by decide +kernel
theorem d_SI_isDigit_0 : decode prog_12_method_3_code 0 = .ok (.iload_n 0, 1) := by decide +kernel
theorem d_SI_isDigit_1 : decode prog_12_method_3_code 1 = .ok (.bipush 48, 2) := by decide +kernel
theorem d_SI_isDigit_3 : decode prog_12_method_3_code 3 = .ok (.if_icmp .lt 13, 3) := by decide +kernel
theorem d_SI_isDigit_6 : decode prog_12_method_3_code 6 = .ok (.iload_n 0, 1) := by decide +kernel
theorem d_SI_isDigit_7 : decode prog_12_method_3_code 7 = .ok (.bipush 57, 2) := by decide +kernel
theorem d_SI_isDigit_9 : decode prog_12_method_3_code 9 = .ok (.if_icmp .gt 7, 3) := by decide +kernel
theorem d_SI_isDigit_12 : decode prog_12_method_3_code 12 = .ok (.iconst 1, 1) := by decide +kernel
theorem d_SI_isDigit_13 : decode prog_12_method_3_code 13 = .ok (.goto 4, 3) := by decide +kernel
theorem d_SI_isDigit_16 : decode prog_12_method_3_code 16 = .ok (.iconst 0, 1) := by decide +kernel
theorem d_SI_isDigit_17 : decode prog_12_method_3_code 17 = .ok (.ireturn, 1) := by decide +kernel
theorem d_SI_wordEnd_0 : decode prog_12_method_7_code 0 = .ok (.iload_n 1, 1) := by decide +kernel
theorem d_SI_wordEnd_1 : decode prog_12_method_7_code 1 = .ok (.iload_n 2, 1) := by decide +kernel
theorem d_SI_wordEnd_2 : decode prog_12_method_7_code 2 = .ok (.if_icmp .ge 14, 3) := by decide +kernel
theorem d_SI_wordEnd_5 : decode prog_12_method_7_code 5 = .ok (.aload_n 0, 1) := by decide +kernel
theorem d_SI_wordEnd_6 : decode prog_12_method_7_code 6 = .ok (.iload_n 1, 1) := by decide +kernel
theorem d_SI_wordEnd_7 : decode prog_12_method_7_code 7 = .ok (.invokevirtual 22, 3) := by decide +kernel
theorem d_SI_wordEnd_10 : decode prog_12_method_7_code 10 = .ok (.invokestatic 26, 3) := by decide +kernel
theorem d_SI_wordEnd_13 : decode prog_12_method_7_code 13 = .ok (.ifCond .ne 5, 3) := by decide +kernel
theorem d_SI_wordEnd_16 : decode prog_12_method_7_code 16 = .ok (.iload_n 1, 1) := by decide +kernel
theorem d_SI_wordEnd_17 : decode prog_12_method_7_code 17 = .ok (.ireturn, 1) := by decide +kernel
theorem d_SI_wordEnd_18 : decode prog_12_method_7_code 18 = .ok (.iload_n 1, 1) := by decide +kernel
theorem d_SI_wordEnd_19 : decode prog_12_method_7_code 19 = .ok (.iconst 1, 1) := by decide +kernel
theorem d_SI_wordEnd_20 : decode prog_12_method_7_code 20 = .ok (.iadd, 1) := by decide +kernel
theorem d_SI_wordEnd_21 : decode prog_12_method_7_code 21 = .ok (.istore_n 3, 1) := by decide +kernel
theorem d_SI_wordEnd_22 : decode prog_12_method_7_code 22 = .ok (.iload_n 3, 1) := by decide +kernel
theorem d_SI_wordEnd_23 : decode prog_12_method_7_code 23 = .ok (.iload_n 2, 1) := by decide +kernel
theorem d_SI_wordEnd_24 : decode prog_12_method_7_code 24 = .ok (.if_icmp .ge 31, 3) := by decide +kernel
theorem d_SI_wordEnd_27 : decode prog_12_method_7_code 27 = .ok (.aload_n 0, 1) := by decide +kernel
theorem d_SI_wordEnd_28 : decode prog_12_method_7_code 28 = .ok (.iload_n 3, 1) := by decide +kernel
theorem d_SI_wordEnd_29 : decode prog_12_method_7_code 29 = .ok (.invokevirtual 22, 3) := by decide +kernel
theorem d_SI_wordEnd_32 : decode prog_12_method_7_code 32 = .ok (.invokestatic 26, 3) := by decide +kernel
theorem d_SI_wordEnd_35 : decode prog_12_method_7_code 35 = .ok (.ifCond .ne 14, 3) := by decide +kernel
theorem d_SI_wordEnd_38 : decode prog_12_method_7_code 38 = .ok (.aload_n 0, 1) := by decide +kernel
theorem d_SI_wordEnd_39 : decode prog_12_method_7_code 39 = .ok (.iload_n 3, 1) := by decide +kernel
theorem d_SI_wordEnd_40 : decode prog_12_method_7_code 40 = .ok (.invokevirtual 22, 3) := by decide +kernel
theorem d_SI_wordEnd_43 : decode prog_12_method_7_code 43 = .ok (.invokestatic 30, 3) := by decide +kernel
theorem d_SI_wordEnd_46 : decode prog_12_method_7_code 46 = .ok (.ifCond .eq 9, 3) := by decide +kernel
theorem d_SI_wordEnd_49 : decode prog_12_method_7_code 49 = .ok (.iinc 3 1, 3) := by decide +kernel
theorem d_SI_wordEnd_52 : decode prog_12_method_7_code 52 = .ok (.goto (-30), 3) := by decide +kernel
theorem d_SI_wordEnd_55 : decode prog_12_method_7_code 55 = .ok (.iload_n 3, 1) := by decide +kernel
theorem d_SI_wordEnd_56 : decode prog_12_method_7_code 56 = .ok (.ireturn, 1) := by decide +kernel
theorem d_SI_spells_0 : decode prog_12_method_13_code 0 = .ok (.iload_n 2, 1) := by decide +kernel
theorem d_SI_spells_1 : decode prog_12_method_13_code 1 = .ok (.iload_n 1, 1) := by decide +kernel
theorem d_SI_spells_2 : decode prog_12_method_13_code 2 = .ok (.isub, 1) := by decide +kernel
theorem d_SI_spells_3 : decode prog_12_method_13_code 3 = .ok (.aload_n 3, 1) := by decide +kernel
theorem d_SI_spells_4 : decode prog_12_method_13_code 4 = .ok (.invokevirtual 33, 3) := by decide +kernel
theorem d_SI_spells_7 : decode prog_12_method_13_code 7 = .ok (.if_icmp .eq 5, 3) := by decide +kernel
theorem d_SI_spells_10 : decode prog_12_method_13_code 10 = .ok (.iconst 0, 1) := by decide +kernel
theorem d_SI_spells_11 : decode prog_12_method_13_code 11 = .ok (.ireturn, 1) := by decide +kernel
theorem d_SI_spells_12 : decode prog_12_method_13_code 12 = .ok (.iconst 0, 1) := by decide +kernel
theorem d_SI_spells_13 : decode prog_12_method_13_code 13 = .ok (.istore 4, 2) := by decide +kernel
theorem d_SI_spells_15 : decode prog_12_method_13_code 15 = .ok (.iload 4, 2) := by decide +kernel
theorem d_SI_spells_17 : decode prog_12_method_13_code 17 = .ok (.aload_n 3, 1) := by decide +kernel
theorem d_SI_spells_18 : decode prog_12_method_13_code 18 = .ok (.invokevirtual 33, 3) := by decide +kernel
theorem d_SI_spells_21 : decode prog_12_method_13_code 21 = .ok (.if_icmp .ge 28, 3) := by decide +kernel
theorem d_SI_spells_24 : decode prog_12_method_13_code 24 = .ok (.aload_n 0, 1) := by decide +kernel
theorem d_SI_spells_25 : decode prog_12_method_13_code 25 = .ok (.iload_n 1, 1) := by decide +kernel
theorem d_SI_spells_26 : decode prog_12_method_13_code 26 = .ok (.iload 4, 2) := by decide +kernel
theorem d_SI_spells_28 : decode prog_12_method_13_code 28 = .ok (.iadd, 1) := by decide +kernel
theorem d_SI_spells_29 : decode prog_12_method_13_code 29 = .ok (.invokevirtual 22, 3) := by decide +kernel
theorem d_SI_spells_32 : decode prog_12_method_13_code 32 = .ok (.aload_n 3, 1) := by decide +kernel
theorem d_SI_spells_33 : decode prog_12_method_13_code 33 = .ok (.iload 4, 2) := by decide +kernel
theorem d_SI_spells_35 : decode prog_12_method_13_code 35 = .ok (.invokevirtual 39, 3) := by decide +kernel
theorem d_SI_spells_38 : decode prog_12_method_13_code 38 = .ok (.if_icmp .eq 5, 3) := by decide +kernel
theorem d_SI_spells_41 : decode prog_12_method_13_code 41 = .ok (.iconst 0, 1) := by decide +kernel
theorem d_SI_spells_42 : decode prog_12_method_13_code 42 = .ok (.ireturn, 1) := by decide +kernel
theorem d_SI_spells_43 : decode prog_12_method_13_code 43 = .ok (.iinc 4 1, 3) := by decide +kernel
theorem d_SI_spells_46 : decode prog_12_method_13_code 46 = .ok (.goto (-31), 3) := by decide +kernel
theorem d_SI_spells_49 : decode prog_12_method_13_code 49 = .ok (.iconst 1, 1) := by decide +kernel
theorem d_SI_spells_50 : decode prog_12_method_13_code 50 = .ok (.ireturn, 1) := by decide +kernel
theorem d_SI_write_0 : decode prog_12_method_6_code 0 = .ok (.iload_n 1, 1) := by decide +kernel
theorem d_SI_write_1 : decode prog_12_method_6_code 1 = .ok (.ifCond .lt 20, 3) := by decide +kernel
theorem d_SI_write_4 : decode prog_12_method_6_code 4 = .ok (.iload_n 1, 1) := by decide +kernel
theorem d_SI_write_5 : decode prog_12_method_6_code 5 = .ok (.aload_n 0, 1) := by decide +kernel
theorem d_SI_write_6 : decode prog_12_method_6_code 6 = .ok (.getfield 9, 3) := by decide +kernel
theorem d_SI_write_9 : decode prog_12_method_6_code 9 = .ok (.arraylength, 1) := by decide +kernel
theorem d_SI_write_10 : decode prog_12_method_6_code 10 = .ok (.if_icmp .ge 11, 3) := by decide +kernel
theorem d_SI_write_13 : decode prog_12_method_6_code 13 = .ok (.aload_n 0, 1) := by decide +kernel
theorem d_SI_write_14 : decode prog_12_method_6_code 14 = .ok (.getfield 9, 3) := by decide +kernel
theorem d_SI_write_17 : decode prog_12_method_6_code 17 = .ok (.iload_n 1, 1) := by decide +kernel
theorem d_SI_write_18 : decode prog_12_method_6_code 18 = .ok (.iload_n 2, 1) := by decide +kernel
theorem d_SI_write_19 : decode prog_12_method_6_code 19 = .ok (.i2b, 1) := by decide +kernel
theorem d_SI_write_20 : decode prog_12_method_6_code 20 = .ok (.bastore, 1) := by decide +kernel
theorem d_SI_write_21 : decode prog_12_method_6_code 21 = .ok (.return_, 1) := by decide +kernel
theorem d_SI_same_0 : decode prog_12_method_12_code 0 = .ok (.iload_n 2, 1) := by decide +kernel
theorem d_SI_same_1 : decode prog_12_method_12_code 1 = .ok (.iload_n 1, 1) := by decide +kernel
theorem d_SI_same_2 : decode prog_12_method_12_code 2 = .ok (.isub, 1) := by decide +kernel
theorem d_SI_same_3 : decode prog_12_method_12_code 3 = .ok (.iload 4, 2) := by decide +kernel
theorem d_SI_same_5 : decode prog_12_method_12_code 5 = .ok (.iload_n 3, 1) := by decide +kernel
theorem d_SI_same_6 : decode prog_12_method_12_code 6 = .ok (.isub, 1) := by decide +kernel
theorem d_SI_same_7 : decode prog_12_method_12_code 7 = .ok (.if_icmp .ne 30, 3) := by decide +kernel
theorem d_SI_same_10 : decode prog_12_method_12_code 10 = .ok (.iload_n 1, 1) := by decide +kernel
theorem d_SI_same_11 : decode prog_12_method_12_code 11 = .ok (.ifCond .lt 26, 3) := by decide +kernel
theorem d_SI_same_14 : decode prog_12_method_12_code 14 = .ok (.iload_n 3, 1) := by decide +kernel
theorem d_SI_same_15 : decode prog_12_method_12_code 15 = .ok (.ifCond .lt 22, 3) := by decide +kernel
theorem d_SI_same_18 : decode prog_12_method_12_code 18 = .ok (.iload_n 2, 1) := by decide +kernel
theorem d_SI_same_19 : decode prog_12_method_12_code 19 = .ok (.aload_n 0, 1) := by decide +kernel
theorem d_SI_same_20 : decode prog_12_method_12_code 20 = .ok (.getfield 9, 3) := by decide +kernel
theorem d_SI_same_23 : decode prog_12_method_12_code 23 = .ok (.arraylength, 1) := by decide +kernel
theorem d_SI_same_24 : decode prog_12_method_12_code 24 = .ok (.if_icmp .gt 13, 3) := by decide +kernel
theorem d_SI_same_27 : decode prog_12_method_12_code 27 = .ok (.iload 4, 2) := by decide +kernel
theorem d_SI_same_29 : decode prog_12_method_12_code 29 = .ok (.aload_n 0, 1) := by decide +kernel
theorem d_SI_same_30 : decode prog_12_method_12_code 30 = .ok (.getfield 9, 3) := by decide +kernel
theorem d_SI_same_33 : decode prog_12_method_12_code 33 = .ok (.arraylength, 1) := by decide +kernel
theorem d_SI_same_34 : decode prog_12_method_12_code 34 = .ok (.if_icmp .le 5, 3) := by decide +kernel
theorem d_SI_same_37 : decode prog_12_method_12_code 37 = .ok (.iconst 0, 1) := by decide +kernel
theorem d_SI_same_38 : decode prog_12_method_12_code 38 = .ok (.ireturn, 1) := by decide +kernel
theorem d_SI_same_39 : decode prog_12_method_12_code 39 = .ok (.iconst 0, 1) := by decide +kernel
theorem d_SI_same_40 : decode prog_12_method_12_code 40 = .ok (.istore 5, 2) := by decide +kernel
theorem d_SI_same_42 : decode prog_12_method_12_code 42 = .ok (.iload 5, 2) := by decide +kernel
theorem d_SI_same_44 : decode prog_12_method_12_code 44 = .ok (.iload_n 2, 1) := by decide +kernel
theorem d_SI_same_45 : decode prog_12_method_12_code 45 = .ok (.iload_n 1, 1) := by decide +kernel
theorem d_SI_same_46 : decode prog_12_method_12_code 46 = .ok (.isub, 1) := by decide +kernel
theorem d_SI_same_47 : decode prog_12_method_12_code 47 = .ok (.if_icmp .ge 32, 3) := by decide +kernel
theorem d_SI_same_50 : decode prog_12_method_12_code 50 = .ok (.aload_n 0, 1) := by decide +kernel
theorem d_SI_same_51 : decode prog_12_method_12_code 51 = .ok (.getfield 9, 3) := by decide +kernel
theorem d_SI_same_54 : decode prog_12_method_12_code 54 = .ok (.iload_n 1, 1) := by decide +kernel
theorem d_SI_same_55 : decode prog_12_method_12_code 55 = .ok (.iload 5, 2) := by decide +kernel
theorem d_SI_same_57 : decode prog_12_method_12_code 57 = .ok (.iadd, 1) := by decide +kernel
theorem d_SI_same_58 : decode prog_12_method_12_code 58 = .ok (.baload, 1) := by decide +kernel
theorem d_SI_same_59 : decode prog_12_method_12_code 59 = .ok (.aload_n 0, 1) := by decide +kernel
theorem d_SI_same_60 : decode prog_12_method_12_code 60 = .ok (.getfield 9, 3) := by decide +kernel
theorem d_SI_same_63 : decode prog_12_method_12_code 63 = .ok (.iload_n 3, 1) := by decide +kernel
theorem d_SI_same_64 : decode prog_12_method_12_code 64 = .ok (.iload 5, 2) := by decide +kernel
theorem d_SI_same_66 : decode prog_12_method_12_code 66 = .ok (.iadd, 1) := by decide +kernel
theorem d_SI_same_67 : decode prog_12_method_12_code 67 = .ok (.baload, 1) := by decide +kernel
theorem d_SI_same_68 : decode prog_12_method_12_code 68 = .ok (.if_icmp .eq 5, 3) := by decide +kernel
theorem d_SI_same_71 : decode prog_12_method_12_code 71 = .ok (.iconst 0, 1) := by decide +kernel
theorem d_SI_same_72 : decode prog_12_method_12_code 72 = .ok (.ireturn, 1) := by decide +kernel
theorem d_SI_same_73 : decode prog_12_method_12_code 73 = .ok (.iinc 5 1, 3) := by decide +kernel
theorem d_SI_same_76 : decode prog_12_method_12_code 76 = .ok (.goto (-34), 3) := by decide +kernel
theorem d_SI_same_79 : decode prog_12_method_12_code 79 = .ok (.iconst 1, 1) := by decide +kernel
theorem d_SI_same_80 : decode prog_12_method_12_code 80 = .ok (.ireturn, 1) := by decide +kernel
theorem d_SI_mayStand_0 : decode prog_12_method_2_code 0 = .ok (.iload_n 0, 1) := by decide +kernel
theorem d_SI_mayStand_1 : decode prog_12_method_2_code 1 = .ok (.bipush 10, 2) := by decide +kernel
theorem d_SI_mayStand_3 : decode prog_12_method_2_code 3 = .ok (.if_icmp .eq 15, 3) := by decide +kernel
theorem d_SI_mayStand_6 : decode prog_12_method_2_code 6 = .ok (.iload_n 0, 1) := by decide +kernel
theorem d_SI_mayStand_7 : decode prog_12_method_2_code 7 = .ok (.bipush 32, 2) := by decide +kernel
theorem d_SI_mayStand_9 : decode prog_12_method_2_code 9 = .ok (.if_icmp .lt 13, 3) := by decide +kernel
theorem d_SI_mayStand_12 : decode prog_12_method_2_code 12 = .ok (.iload_n 0, 1) := by decide +kernel
theorem d_SI_mayStand_13 : decode prog_12_method_2_code 13 = .ok (.bipush 126, 2) := by decide +kernel
theorem d_SI_mayStand_15 : decode prog_12_method_2_code 15 = .ok (.if_icmp .gt 7, 3) := by decide +kernel
theorem d_SI_mayStand_18 : decode prog_12_method_2_code 18 = .ok (.iconst 1, 1) := by decide +kernel
theorem d_SI_mayStand_19 : decode prog_12_method_2_code 19 = .ok (.goto 4, 3) := by decide +kernel
theorem d_SI_mayStand_22 : decode prog_12_method_2_code 22 = .ok (.iconst 0, 1) := by decide +kernel
theorem d_SI_mayStand_23 : decode prog_12_method_2_code 23 = .ok (.ireturn, 1) := by decide +kernel
theorem hm_SI_at : y_SI_at.cls ≠ "java/lang/invoke/MethodHandle" ∧ y_SI_at.cls ≠ "java/lang/invoke/VarHandle" ∧ (parseMethodDescriptor y_SI_at.desc).map (fun d => d.parameters.length) = some 1 := by decide +kernel
theorem hm_SI_find : y_SI_find.cls ≠ "java/lang/invoke/MethodHandle" ∧ y_SI_find.cls ≠ "java/lang/invoke/VarHandle" ∧ (parseMethodDescriptor y_SI_find.desc).map (fun d => d.parameters.length) = some 3 := by decide +kernel
theorem hm_SI_behindBlanks : y_SI_behindBlanks.cls ≠ "java/lang/invoke/MethodHandle" ∧ y_SI_behindBlanks.cls ≠ "java/lang/invoke/VarHandle" ∧ (parseMethodDescriptor y_SI_behindBlanks.desc).map (fun d => d.parameters.length) = some 2 := by decide +kernel
theorem hm_SI_aheadOfBlanks : y_SI_aheadOfBlanks.cls ≠ "java/lang/invoke/MethodHandle" ∧ y_SI_aheadOfBlanks.cls ≠ "java/lang/invoke/VarHandle" ∧ (parseMethodDescriptor y_SI_aheadOfBlanks.desc).map (fun d => d.parameters.length) = some 2 := by decide +kernel
theorem hm_SI_keepRange : y_SI_keepRange.cls ≠ "java/lang/invoke/MethodHandle" ∧ y_SI_keepRange.cls ≠ "java/lang/invoke/VarHandle" ∧ (parseMethodDescriptor y_SI_keepRange.desc).map (fun d => d.parameters.length) = some 2 := by decide +kernel
theorem hm_SI_partIntoLines : y_SI_partIntoLines.cls ≠ "java/lang/invoke/MethodHandle" ∧ y_SI_partIntoLines.cls ≠ "java/lang/invoke/VarHandle" ∧ (parseMethodDescriptor y_SI_partIntoLines.desc).map (fun d => d.parameters.length) = some 0 := by decide +kernel
theorem hm_SI_argumentEnd : y_SI_argumentEnd.cls ≠ "java/lang/invoke/MethodHandle" ∧ y_SI_argumentEnd.cls ≠ "java/lang/invoke/VarHandle" ∧ (parseMethodDescriptor y_SI_argumentEnd.desc).map (fun d => d.parameters.length) = some 2 := by decide +kernel
theorem hm_SI_startOf : y_SI_startOf.cls ≠ "java/lang/invoke/MethodHandle" ∧ y_SI_startOf.cls ≠ "java/lang/invoke/VarHandle" ∧ (parseMethodDescriptor y_SI_startOf.desc).map (fun d => d.parameters.length) = some 1 := by decide +kernel
theorem hm_SI_stopOf : y_SI_stopOf.cls ≠ "java/lang/invoke/MethodHandle" ∧ y_SI_stopOf.cls ≠ "java/lang/invoke/VarHandle" ∧ (parseMethodDescriptor y_SI_stopOf.desc).map (fun d => d.parameters.length) = some 1 := by decide +kernel
theorem hm_SI_beginsWord : y_SI_beginsWord.cls ≠ "java/lang/invoke/MethodHandle" ∧ y_SI_beginsWord.cls ≠ "java/lang/invoke/VarHandle" ∧ (parseMethodDescriptor y_SI_beginsWord.desc).map (fun d => d.parameters.length) = some 1 := by decide +kernel
theorem hm_SI_isDigit : y_SI_isDigit.cls ≠ "java/lang/invoke/MethodHandle" ∧ y_SI_isDigit.cls ≠ "java/lang/invoke/VarHandle" ∧ (parseMethodDescriptor y_SI_isDigit.desc).map (fun d => d.parameters.length) = some 1 := by decide +kernel
theorem hm_SI_wordEnd : y_SI_wordEnd.cls ≠ "java/lang/invoke/MethodHandle" ∧ y_SI_wordEnd.cls ≠ "java/lang/invoke/VarHandle" ∧ (parseMethodDescriptor y_SI_wordEnd.desc).map (fun d => d.parameters.length) = some 2 := by decide +kernel
theorem hm_SI_spells : y_SI_spells.cls ≠ "java/lang/invoke/MethodHandle" ∧ y_SI_spells.cls ≠ "java/lang/invoke/VarHandle" ∧ (parseMethodDescriptor y_SI_spells.desc).map (fun d => d.parameters.length) = some 3 := by decide +kernel
theorem hm_SI_write : y_SI_write.cls ≠ "java/lang/invoke/MethodHandle" ∧ y_SI_write.cls ≠ "java/lang/invoke/VarHandle" ∧ (parseMethodDescriptor y_SI_write.desc).map (fun d => d.parameters.length) = some 2 := by decide +kernel
theorem hm_SI_same : y_SI_same.cls ≠ "java/lang/invoke/MethodHandle" ∧ y_SI_same.cls ≠ "java/lang/invoke/VarHandle" ∧ (parseMethodDescriptor y_SI_same.desc).map (fun d => d.parameters.length) = some 4 := by decide +kernel
theorem hm_SI_mayStand : y_SI_mayStand.cls ≠ "java/lang/invoke/MethodHandle" ∧ y_SI_mayStand.cls ≠ "java/lang/invoke/VarHandle" ∧ (parseMethodDescriptor y_SI_mayStand.desc).map (fun d => d.parameters.length) = some 1 := by decide +kernel
