theorem d_MH_expand_0 : decode prog_1_method_4_code 0 = .ok (.aload_n 0, 1) := by decide +kernel
theorem d_MH_expand_1 : decode prog_1_method_4_code 1 = .ok (.getfield 21, 3) := by decide +kernel
theorem d_MH_expand_4 : decode prog_1_method_4_code 4 = .ok (.invokevirtual 51, 3) := by decide +kernel
theorem d_MH_expand_7 : decode prog_1_method_4_code 7 = .ok (.aload_n 0, 1) := by decide +kernel
theorem d_MH_expand_8 : decode prog_1_method_4_code 8 = .ok (.getfield 21, 3) := by decide +kernel
theorem d_MH_expand_11 : decode prog_1_method_4_code 11 = .ok (.getfield 54, 3) := by decide +kernel
theorem d_MH_expand_14 : decode prog_1_method_4_code 14 = .ok (.ifCond .ne 16, 3) := by decide +kernel
theorem d_MH_expand_17 : decode prog_1_method_4_code 17 = .ok (.aload_n 0, 1) := by decide +kernel
theorem d_MH_expand_18 : decode prog_1_method_4_code 18 = .ok (.getfield 21, 3) := by decide +kernel
theorem d_MH_expand_21 : decode prog_1_method_4_code 21 = .ok (.getfield 57, 3) := by decide +kernel
theorem d_MH_expand_24 : decode prog_1_method_4_code 24 = .ok (.getfield 61, 3) := by decide +kernel
theorem d_MH_expand_27 : decode prog_1_method_4_code 27 = .ok (.goto 4, 3) := by decide +kernel
theorem d_MH_expand_30 : decode prog_1_method_4_code 30 = .ok (.iconst (-1), 1) := by decide +kernel
theorem d_MH_expand_31 : decode prog_1_method_4_code 31 = .ok (.ireturn, 1) := by decide +kernel
theorem hm_MH_expand : y_MH_expand.cls ≠ "java/lang/invoke/MethodHandle" ∧ y_MH_expand.cls ≠ "java/lang/invoke/VarHandle" ∧ (parseMethodDescriptor y_MH_expand.desc).map (fun d => d.parameters.length) = some 0 := by decide +kernel
