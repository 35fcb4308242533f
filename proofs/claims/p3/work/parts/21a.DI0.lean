theorem d_DI_of_0 : decode prog_5_method_4_code 0 = .ok (.iload_n 1, 1) := by decide +kernel
theorem d_DI_of_1 : decode prog_5_method_4_code 1 = .ok (.iload_n 2, 1) := by decide +kernel
theorem d_DI_of_2 : decode prog_5_method_4_code 2 = .ok (.if_icmp .ge 13, 3) := by decide +kernel
theorem d_DI_of_5 : decode prog_5_method_4_code 5 = .ok (.aload_n 0, 1) := by decide +kernel
theorem d_DI_of_6 : decode prog_5_method_4_code 6 = .ok (.iload_n 1, 1) := by decide +kernel
theorem d_DI_of_7 : decode prog_5_method_4_code 7 = .ok (.invokevirtual 75, 3) := by decide +kernel
theorem d_DI_of_10 : decode prog_5_method_4_code 10 = .ok (.bipush 46, 2) := by decide +kernel
theorem d_DI_of_12 : decode prog_5_method_4_code 12 = .ok (.if_icmp .eq 7, 3) := by decide +kernel
theorem d_DI_of_15 : decode prog_5_method_4_code 15 = .ok (.getstatic 3, 3) := by decide +kernel
theorem d_DI_of_18 : decode prog_5_method_4_code 18 = .ok (.areturn, 1) := by decide +kernel
theorem d_DI_of_19 : decode prog_5_method_4_code 19 = .ok (.aload_n 0, 1) := by decide +kernel
theorem d_DI_of_20 : decode prog_5_method_4_code 20 = .ok (.iload_n 1, 1) := by decide +kernel
theorem d_DI_of_21 : decode prog_5_method_4_code 21 = .ok (.iconst 1, 1) := by decide +kernel
theorem d_DI_of_22 : decode prog_5_method_4_code 22 = .ok (.iadd, 1) := by decide +kernel
theorem d_DI_of_23 : decode prog_5_method_4_code 23 = .ok (.iload_n 2, 1) := by decide +kernel
theorem d_DI_of_24 : decode prog_5_method_4_code 24 = .ok (.invokevirtual 81, 3) := by decide +kernel
theorem d_DI_of_27 : decode prog_5_method_4_code 27 = .ok (.istore_n 3, 1) := by decide +kernel
theorem d_DI_of_28 : decode prog_5_method_4_code 28 = .ok (.iload_n 3, 1) := by decide +kernel
theorem d_DI_of_29 : decode prog_5_method_4_code 29 = .ok (.iload_n 1, 1) := by decide +kernel
theorem d_DI_of_30 : decode prog_5_method_4_code 30 = .ok (.iconst 1, 1) := by decide +kernel
theorem d_DI_of_31 : decode prog_5_method_4_code 31 = .ok (.iadd, 1) := by decide +kernel
theorem d_DI_of_32 : decode prog_5_method_4_code 32 = .ok (.if_icmp .le 48, 3) := by decide +kernel
theorem d_DI_of_35 : decode prog_5_method_4_code 35 = .ok (.iconst 0, 1) := by decide +kernel
theorem d_DI_of_36 : decode prog_5_method_4_code 36 = .ok (.istore 4, 2) := by decide +kernel
theorem d_DI_of_38 : decode prog_5_method_4_code 38 = .ok (.iload 4, 2) := by decide +kernel
theorem d_DI_of_40 : decode prog_5_method_4_code 40 = .ok (.getstatic 85, 3) := by decide +kernel
theorem d_DI_of_43 : decode prog_5_method_4_code 43 = .ok (.arraylength, 1) := by decide +kernel
theorem d_DI_of_44 : decode prog_5_method_4_code 44 = .ok (.if_icmp .ge 36, 3) := by decide +kernel
theorem d_DI_of_47 : decode prog_5_method_4_code 47 = .ok (.aload_n 0, 1) := by decide +kernel
theorem d_DI_of_48 : decode prog_5_method_4_code 48 = .ok (.iload_n 1, 1) := by decide +kernel
theorem d_DI_of_49 : decode prog_5_method_4_code 49 = .ok (.iconst 1, 1) := by decide +kernel
theorem d_DI_of_50 : decode prog_5_method_4_code 50 = .ok (.iadd, 1) := by decide +kernel
theorem d_DI_of_51 : decode prog_5_method_4_code 51 = .ok (.iload_n 3, 1) := by decide +kernel
theorem d_DI_of_52 : decode prog_5_method_4_code 52 = .ok (.getstatic 85, 3) := by decide +kernel
theorem d_DI_of_55 : decode prog_5_method_4_code 55 = .ok (.iload 4, 2) := by decide +kernel
theorem d_DI_of_57 : decode prog_5_method_4_code 57 = .ok (.aaload, 1) := by decide +kernel
theorem d_DI_of_58 : decode prog_5_method_4_code 58 = .ok (.getfield 71, 3) := by decide +kernel
theorem d_DI_of_61 : decode prog_5_method_4_code 61 = .ok (.invokevirtual 88, 3) := by decide +kernel
theorem d_DI_of_64 : decode prog_5_method_4_code 64 = .ok (.ifCond .eq 10, 3) := by decide +kernel
theorem d_DI_of_67 : decode prog_5_method_4_code 67 = .ok (.getstatic 85, 3) := by decide +kernel
theorem d_DI_of_70 : decode prog_5_method_4_code 70 = .ok (.iload 4, 2) := by decide +kernel
theorem d_DI_of_72 : decode prog_5_method_4_code 72 = .ok (.aaload, 1) := by decide +kernel
theorem d_DI_of_73 : decode prog_5_method_4_code 73 = .ok (.areturn, 1) := by decide +kernel
theorem d_DI_of_74 : decode prog_5_method_4_code 74 = .ok (.iinc 4 1, 3) := by decide +kernel
theorem d_DI_of_77 : decode prog_5_method_4_code 77 = .ok (.goto (-39), 3) := by decide +kernel
theorem d_DI_of_80 : decode prog_5_method_4_code 80 = .ok (.getstatic 7, 3) := by decide +kernel
theorem d_DI_of_83 : decode prog_5_method_4_code 83 = .ok (.areturn, 1) := by decide +kernel
theorem d_DI_behind_0 : decode prog_5_method_5_code 0 = .ok (.iload_n 1, 1) := by decide +kernel
theorem d_DI_behind_1 : decode prog_5_method_5_code 1 = .ok (.iconst 1, 1) := by decide +kernel
theorem d_DI_behind_2 : decode prog_5_method_5_code 2 = .ok (.iadd, 1) := by decide +kernel
theorem d_DI_behind_3 : decode prog_5_method_5_code 3 = .ok (.aload_n 0, 1) := by decide +kernel
theorem d_DI_behind_4 : decode prog_5_method_5_code 4 = .ok (.getfield 71, 3) := by decide +kernel
theorem d_DI_behind_7 : decode prog_5_method_5_code 7 = .ok (.invokevirtual 92, 3) := by decide +kernel
theorem d_DI_behind_10 : decode prog_5_method_5_code 10 = .ok (.iadd, 1) := by decide +kernel
theorem d_DI_behind_11 : decode prog_5_method_5_code 11 = .ok (.ireturn, 1) := by decide +kernel
theorem hm_DI_of : y_DI_of.cls ≠ "java/lang/invoke/MethodHandle" ∧ y_DI_of.cls ≠ "java/lang/invoke/VarHandle" ∧ (parseMethodDescriptor y_DI_of.desc).map (fun d => d.parameters.length) = some 3 := by decide +kernel
theorem hm_DI_behind : y_DI_behind.cls ≠ "java/lang/invoke/MethodHandle" ∧ y_DI_behind.cls ≠ "java/lang/invoke/VarHandle" ∧ (parseMethodDescriptor y_DI_behind.desc).map (fun d => d.parameters.length) = some 1 := by decide +kernel
