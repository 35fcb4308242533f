theorem d_CN_set_0 : decode prog_4_method_3_code 0 = .ok (.aload_n 0, 1) := by decide +kernel
theorem d_CN_set_1 : decode prog_4_method_3_code 1 = .ok (.getfield 20, 3) := by decide +kernel
theorem d_CN_set_4 : decode prog_4_method_3_code 4 = .ok (.iload_n 1, 1) := by decide +kernel
theorem d_CN_set_5 : decode prog_4_method_3_code 5 = .ok (.iload_n 2, 1) := by decide +kernel
theorem d_CN_set_6 : decode prog_4_method_3_code 6 = .ok (.invokevirtual 28, 3) := by decide +kernel
theorem d_CN_set_9 : decode prog_4_method_3_code 9 = .ok (.istore 4, 2) := by decide +kernel
theorem d_CN_set_11 : decode prog_4_method_3_code 11 = .ok (.iload 4, 2) := by decide +kernel
theorem d_CN_set_13 : decode prog_4_method_3_code 13 = .ok (.iconst (-1), 1) := by decide +kernel
theorem d_CN_set_14 : decode prog_4_method_3_code 14 = .ok (.if_icmp .ne 33, 3) := by decide +kernel
theorem d_CN_set_17 : decode prog_4_method_3_code 17 = .ok (.aload_n 0, 1) := by decide +kernel
theorem d_CN_set_18 : decode prog_4_method_3_code 18 = .ok (.getfield 20, 3) := by decide +kernel
theorem d_CN_set_21 : decode prog_4_method_3_code 21 = .ok (.invokevirtual 32, 3) := by decide +kernel
theorem d_CN_set_24 : decode prog_4_method_3_code 24 = .ok (.ifCond .eq 5, 3) := by decide +kernel
theorem d_CN_set_27 : decode prog_4_method_3_code 27 = .ok (.iconst 0, 1) := by decide +kernel
theorem d_CN_set_28 : decode prog_4_method_3_code 28 = .ok (.ireturn, 1) := by decide +kernel
theorem d_CN_set_29 : decode prog_4_method_3_code 29 = .ok (.aload_n 0, 1) := by decide +kernel
theorem d_CN_set_30 : decode prog_4_method_3_code 30 = .ok (.getfield 20, 3) := by decide +kernel
theorem d_CN_set_33 : decode prog_4_method_3_code 33 = .ok (.getfield 24, 3) := by decide +kernel
theorem d_CN_set_36 : decode prog_4_method_3_code 36 = .ok (.istore 4, 2) := by decide +kernel
theorem d_CN_set_38 : decode prog_4_method_3_code 38 = .ok (.aload_n 0, 1) := by decide +kernel
theorem d_CN_set_39 : decode prog_4_method_3_code 39 = .ok (.getfield 20, 3) := by decide +kernel
theorem d_CN_set_42 : decode prog_4_method_3_code 42 = .ok (.iload_n 1, 1) := by decide +kernel
theorem d_CN_set_43 : decode prog_4_method_3_code 43 = .ok (.iload_n 2, 1) := by decide +kernel
theorem d_CN_set_44 : decode prog_4_method_3_code 44 = .ok (.invokevirtual 36, 3) := by decide +kernel
theorem d_CN_set_47 : decode prog_4_method_3_code 47 = .ok (.iload 4, 2) := by decide +kernel
theorem d_CN_set_49 : decode prog_4_method_3_code 49 = .ok (.ifCond .lt 21, 3) := by decide +kernel
theorem d_CN_set_52 : decode prog_4_method_3_code 52 = .ok (.iload 4, 2) := by decide +kernel
theorem d_CN_set_54 : decode prog_4_method_3_code 54 = .ok (.aload_n 0, 1) := by decide +kernel
theorem d_CN_set_55 : decode prog_4_method_3_code 55 = .ok (.getfield 9, 3) := by decide +kernel
theorem d_CN_set_58 : decode prog_4_method_3_code 58 = .ok (.arraylength, 1) := by decide +kernel
theorem d_CN_set_59 : decode prog_4_method_3_code 59 = .ok (.if_icmp .ge 11, 3) := by decide +kernel
theorem d_CN_set_62 : decode prog_4_method_3_code 62 = .ok (.aload_n 0, 1) := by decide +kernel
theorem d_CN_set_63 : decode prog_4_method_3_code 63 = .ok (.getfield 9, 3) := by decide +kernel
theorem d_CN_set_66 : decode prog_4_method_3_code 66 = .ok (.iload 4, 2) := by decide +kernel
theorem d_CN_set_68 : decode prog_4_method_3_code 68 = .ok (.iload_n 3, 1) := by decide +kernel
theorem d_CN_set_69 : decode prog_4_method_3_code 69 = .ok (.iastore, 1) := by decide +kernel
theorem d_CN_set_70 : decode prog_4_method_3_code 70 = .ok (.iconst 1, 1) := by decide +kernel
theorem d_CN_set_71 : decode prog_4_method_3_code 71 = .ok (.ireturn, 1) := by decide +kernel
theorem d_CN_forget_0 : decode prog_4_method_4_code 0 = .ok (.aload_n 0, 1) := by decide +kernel
theorem d_CN_forget_1 : decode prog_4_method_4_code 1 = .ok (.getfield 20, 3) := by decide +kernel
theorem d_CN_forget_4 : decode prog_4_method_4_code 4 = .ok (.iload_n 1, 1) := by decide +kernel
theorem d_CN_forget_5 : decode prog_4_method_4_code 5 = .ok (.iload_n 2, 1) := by decide +kernel
theorem d_CN_forget_6 : decode prog_4_method_4_code 6 = .ok (.invokevirtual 28, 3) := by decide +kernel
theorem d_CN_forget_9 : decode prog_4_method_4_code 9 = .ok (.istore_n 3, 1) := by decide +kernel
theorem d_CN_forget_10 : decode prog_4_method_4_code 10 = .ok (.iload_n 3, 1) := by decide +kernel
theorem d_CN_forget_11 : decode prog_4_method_4_code 11 = .ok (.iconst (-1), 1) := by decide +kernel
theorem d_CN_forget_12 : decode prog_4_method_4_code 12 = .ok (.if_icmp .ne 5, 3) := by decide +kernel
theorem d_CN_forget_15 : decode prog_4_method_4_code 15 = .ok (.iconst 0, 1) := by decide +kernel
theorem d_CN_forget_16 : decode prog_4_method_4_code 16 = .ok (.ireturn, 1) := by decide +kernel
theorem d_CN_forget_17 : decode prog_4_method_4_code 17 = .ok (.aload_n 0, 1) := by decide +kernel
theorem d_CN_forget_18 : decode prog_4_method_4_code 18 = .ok (.getfield 20, 3) := by decide +kernel
theorem d_CN_forget_21 : decode prog_4_method_4_code 21 = .ok (.iload_n 3, 1) := by decide +kernel
theorem d_CN_forget_22 : decode prog_4_method_4_code 22 = .ok (.invokevirtual 40, 3) := by decide +kernel
theorem d_CN_forget_25 : decode prog_4_method_4_code 25 = .ok (.iload_n 3, 1) := by decide +kernel
theorem d_CN_forget_26 : decode prog_4_method_4_code 26 = .ok (.istore 4, 2) := by decide +kernel
theorem d_CN_forget_28 : decode prog_4_method_4_code 28 = .ok (.iload 4, 2) := by decide +kernel
theorem d_CN_forget_30 : decode prog_4_method_4_code 30 = .ok (.aload_n 0, 1) := by decide +kernel
theorem d_CN_forget_31 : decode prog_4_method_4_code 31 = .ok (.getfield 20, 3) := by decide +kernel
theorem d_CN_forget_34 : decode prog_4_method_4_code 34 = .ok (.getfield 24, 3) := by decide +kernel
theorem d_CN_forget_37 : decode prog_4_method_4_code 37 = .ok (.if_icmp .ge 42, 3) := by decide +kernel
theorem d_CN_forget_40 : decode prog_4_method_4_code 40 = .ok (.iload 4, 2) := by decide +kernel
theorem d_CN_forget_42 : decode prog_4_method_4_code 42 = .ok (.ifCond .lt 37, 3) := by decide +kernel
theorem d_CN_forget_45 : decode prog_4_method_4_code 45 = .ok (.iload 4, 2) := by decide +kernel
theorem d_CN_forget_47 : decode prog_4_method_4_code 47 = .ok (.iconst 1, 1) := by decide +kernel
theorem d_CN_forget_48 : decode prog_4_method_4_code 48 = .ok (.iadd, 1) := by decide +kernel
theorem d_CN_forget_49 : decode prog_4_method_4_code 49 = .ok (.aload_n 0, 1) := by decide +kernel
theorem d_CN_forget_50 : decode prog_4_method_4_code 50 = .ok (.getfield 9, 3) := by decide +kernel
theorem d_CN_forget_53 : decode prog_4_method_4_code 53 = .ok (.arraylength, 1) := by decide +kernel
theorem d_CN_forget_54 : decode prog_4_method_4_code 54 = .ok (.if_icmp .ge 25, 3) := by decide +kernel
theorem d_CN_forget_57 : decode prog_4_method_4_code 57 = .ok (.aload_n 0, 1) := by decide +kernel
theorem d_CN_forget_58 : decode prog_4_method_4_code 58 = .ok (.getfield 9, 3) := by decide +kernel
theorem d_CN_forget_61 : decode prog_4_method_4_code 61 = .ok (.iload 4, 2) := by decide +kernel
theorem d_CN_forget_63 : decode prog_4_method_4_code 63 = .ok (.aload_n 0, 1) := by decide +kernel
theorem d_CN_forget_64 : decode prog_4_method_4_code 64 = .ok (.getfield 9, 3) := by decide +kernel
theorem d_CN_forget_67 : decode prog_4_method_4_code 67 = .ok (.iload 4, 2) := by decide +kernel
theorem d_CN_forget_69 : decode prog_4_method_4_code 69 = .ok (.iconst 1, 1) := by decide +kernel
theorem d_CN_forget_70 : decode prog_4_method_4_code 70 = .ok (.iadd, 1) := by decide +kernel
theorem d_CN_forget_71 : decode prog_4_method_4_code 71 = .ok (.iaload, 1) := by decide +kernel
theorem d_CN_forget_72 : decode prog_4_method_4_code 72 = .ok (.iastore, 1) := by decide +kernel
theorem d_CN_forget_73 : decode prog_4_method_4_code 73 = .ok (.iinc 4 1, 3) := by decide +kernel
theorem d_CN_forget_76 : decode prog_4_method_4_code 76 = .ok (.goto (-48), 3) := by decide +kernel
theorem d_CN_forget_79 : decode prog_4_method_4_code 79 = .ok (.iconst 1, 1) := by decide +kernel
theorem d_CN_forget_80 : decode prog_4_method_4_code 80 = .ok (.ireturn, 1) := by decide +kernel
theorem d_CN_numberOf_0 : decode prog_4_method_2_code 0 = .ok (.iload_n 1, 1) := by decide +kernel
theorem d_CN_numberOf_1 : decode prog_4_method_2_code 1 = .ok (.ifCond .lt 32, 3) := by decide +kernel
theorem d_CN_numberOf_4 : decode prog_4_method_2_code 4 = .ok (.iload_n 1, 1) := by decide +kernel
theorem d_CN_numberOf_5 : decode prog_4_method_2_code 5 = .ok (.aload_n 0, 1) := by decide +kernel
theorem d_CN_numberOf_6 : decode prog_4_method_2_code 6 = .ok (.getfield 20, 3) := by decide +kernel
theorem d_CN_numberOf_9 : decode prog_4_method_2_code 9 = .ok (.getfield 24, 3) := by decide +kernel
theorem d_CN_numberOf_12 : decode prog_4_method_2_code 12 = .ok (.if_icmp .ge 21, 3) := by decide +kernel
theorem d_CN_numberOf_15 : decode prog_4_method_2_code 15 = .ok (.iload_n 1, 1) := by decide +kernel
theorem d_CN_numberOf_16 : decode prog_4_method_2_code 16 = .ok (.aload_n 0, 1) := by decide +kernel
theorem d_CN_numberOf_17 : decode prog_4_method_2_code 17 = .ok (.getfield 9, 3) := by decide +kernel
theorem d_CN_numberOf_20 : decode prog_4_method_2_code 20 = .ok (.arraylength, 1) := by decide +kernel
theorem d_CN_numberOf_21 : decode prog_4_method_2_code 21 = .ok (.if_icmp .ge 12, 3) := by decide +kernel
theorem d_CN_numberOf_24 : decode prog_4_method_2_code 24 = .ok (.aload_n 0, 1) := by decide +kernel
theorem d_CN_numberOf_25 : decode prog_4_method_2_code 25 = .ok (.getfield 9, 3) := by decide +kernel
theorem d_CN_numberOf_28 : decode prog_4_method_2_code 28 = .ok (.iload_n 1, 1) := by decide +kernel
theorem d_CN_numberOf_29 : decode prog_4_method_2_code 29 = .ok (.iaload, 1) := by decide +kernel
theorem d_CN_numberOf_30 : decode prog_4_method_2_code 30 = .ok (.goto 4, 3) := by decide +kernel
theorem d_CN_numberOf_33 : decode prog_4_method_2_code 33 = .ok (.iconst 0, 1) := by decide +kernel
theorem d_CN_numberOf_34 : decode prog_4_method_2_code 34 = .ok (.ireturn, 1) := by decide +kernel
theorem hm_CN_set : y_CN_set.cls ≠ "java/lang/invoke/MethodHandle" ∧ y_CN_set.cls ≠ "java/lang/invoke/VarHandle" ∧ (parseMethodDescriptor y_CN_set.desc).map (fun d => d.parameters.length) = some 3 := by decide +kernel
theorem hm_CN_forget : y_CN_forget.cls ≠ "java/lang/invoke/MethodHandle" ∧ y_CN_forget.cls ≠ "java/lang/invoke/VarHandle" ∧ (parseMethodDescriptor y_CN_forget.desc).map (fun d => d.parameters.length) = some 2 := by decide +kernel
theorem hm_CN_numberOf : y_CN_numberOf.cls ≠ "java/lang/invoke/MethodHandle" ∧ y_CN_numberOf.cls ≠ "java/lang/invoke/VarHandle" ∧ (parseMethodDescriptor y_CN_numberOf.desc).map (fun d => d.parameters.length) = some 1 := by decide +kernel
