theorem d_FR_begin_0 : decode prog_7_method_2_code 0 = .ok (.aload_n 0, 1) := by decide +kernel
theorem d_FR_begin_1 : decode prog_7_method_2_code 1 = .ok (.aload_n 1, 1) := by decide +kernel
theorem d_FR_begin_2 : decode prog_7_method_2_code 2 = .ok (.putfield 15, 3) := by decide +kernel
theorem d_FR_begin_5 : decode prog_7_method_2_code 5 = .ok (.aload_n 0, 1) := by decide +kernel
theorem d_FR_begin_6 : decode prog_7_method_2_code 6 = .ok (.iload_n 2, 1) := by decide +kernel
theorem d_FR_begin_7 : decode prog_7_method_2_code 7 = .ok (.putfield 27, 3) := by decide +kernel
theorem d_FR_begin_10 : decode prog_7_method_2_code 10 = .ok (.aload_n 0, 1) := by decide +kernel
theorem d_FR_begin_11 : decode prog_7_method_2_code 11 = .ok (.iload_n 3, 1) := by decide +kernel
theorem d_FR_begin_12 : decode prog_7_method_2_code 12 = .ok (.putfield 31, 3) := by decide +kernel
theorem d_FR_begin_15 : decode prog_7_method_2_code 15 = .ok (.aload_n 0, 1) := by decide +kernel
theorem d_FR_begin_16 : decode prog_7_method_2_code 16 = .ok (.iload_n 2, 1) := by decide +kernel
theorem d_FR_begin_17 : decode prog_7_method_2_code 17 = .ok (.putfield 34, 3) := by decide +kernel
theorem d_FR_begin_20 : decode prog_7_method_2_code 20 = .ok (.aload_n 0, 1) := by decide +kernel
theorem d_FR_begin_21 : decode prog_7_method_2_code 21 = .ok (.iload 4, 2) := by decide +kernel
theorem d_FR_begin_23 : decode prog_7_method_2_code 23 = .ok (.putfield 37, 3) := by decide +kernel
theorem d_FR_begin_26 : decode prog_7_method_2_code 26 = .ok (.aload_n 0, 1) := by decide +kernel
theorem d_FR_begin_27 : decode prog_7_method_2_code 27 = .ok (.iconst 0, 1) := by decide +kernel
theorem d_FR_begin_28 : decode prog_7_method_2_code 28 = .ok (.putfield 40, 3) := by decide +kernel
theorem d_FR_begin_31 : decode prog_7_method_2_code 31 = .ok (.aload_n 0, 1) := by decide +kernel
theorem d_FR_begin_32 : decode prog_7_method_2_code 32 = .ok (.iload 5, 2) := by decide +kernel
theorem d_FR_begin_34 : decode prog_7_method_2_code 34 = .ok (.putfield 43, 3) := by decide +kernel
theorem d_FR_begin_37 : decode prog_7_method_2_code 37 = .ok (.return_, 1) := by decide +kernel
theorem d_FR_setArgument_0 : decode prog_7_method_3_code 0 = .ok (.iload_n 1, 1) := by decide +kernel
theorem d_FR_setArgument_1 : decode prog_7_method_3_code 1 = .ok (.ifCond .lt 35, 3) := by decide +kernel
theorem d_FR_setArgument_4 : decode prog_7_method_3_code 4 = .ok (.iload_n 1, 1) := by decide +kernel
theorem d_FR_setArgument_5 : decode prog_7_method_3_code 5 = .ok (.aload_n 0, 1) := by decide +kernel
theorem d_FR_setArgument_6 : decode prog_7_method_3_code 6 = .ok (.getfield 20, 3) := by decide +kernel
theorem d_FR_setArgument_9 : decode prog_7_method_3_code 9 = .ok (.arraylength, 1) := by decide +kernel
theorem d_FR_setArgument_10 : decode prog_7_method_3_code 10 = .ok (.if_icmp .ge 26, 3) := by decide +kernel
theorem d_FR_setArgument_13 : decode prog_7_method_3_code 13 = .ok (.iload_n 1, 1) := by decide +kernel
theorem d_FR_setArgument_14 : decode prog_7_method_3_code 14 = .ok (.aload_n 0, 1) := by decide +kernel
theorem d_FR_setArgument_15 : decode prog_7_method_3_code 15 = .ok (.getfield 24, 3) := by decide +kernel
theorem d_FR_setArgument_18 : decode prog_7_method_3_code 18 = .ok (.arraylength, 1) := by decide +kernel
theorem d_FR_setArgument_19 : decode prog_7_method_3_code 19 = .ok (.if_icmp .ge 17, 3) := by decide +kernel
theorem d_FR_setArgument_22 : decode prog_7_method_3_code 22 = .ok (.aload_n 0, 1) := by decide +kernel
theorem d_FR_setArgument_23 : decode prog_7_method_3_code 23 = .ok (.getfield 20, 3) := by decide +kernel
theorem d_FR_setArgument_26 : decode prog_7_method_3_code 26 = .ok (.iload_n 1, 1) := by decide +kernel
theorem d_FR_setArgument_27 : decode prog_7_method_3_code 27 = .ok (.iload_n 2, 1) := by decide +kernel
theorem d_FR_setArgument_28 : decode prog_7_method_3_code 28 = .ok (.iastore, 1) := by decide +kernel
theorem d_FR_setArgument_29 : decode prog_7_method_3_code 29 = .ok (.aload_n 0, 1) := by decide +kernel
theorem d_FR_setArgument_30 : decode prog_7_method_3_code 30 = .ok (.getfield 24, 3) := by decide +kernel
theorem d_FR_setArgument_33 : decode prog_7_method_3_code 33 = .ok (.iload_n 1, 1) := by decide +kernel
theorem d_FR_setArgument_34 : decode prog_7_method_3_code 34 = .ok (.iload_n 3, 1) := by decide +kernel
theorem d_FR_setArgument_35 : decode prog_7_method_3_code 35 = .ok (.iastore, 1) := by decide +kernel
theorem d_FR_setArgument_36 : decode prog_7_method_3_code 36 = .ok (.return_, 1) := by decide +kernel
theorem d_FR_repeats_0 : decode prog_7_method_6_code 0 = .ok (.aload_n 0, 1) := by decide +kernel
theorem d_FR_repeats_1 : decode prog_7_method_6_code 1 = .ok (.getfield 15, 3) := by decide +kernel
theorem d_FR_repeats_4 : decode prog_7_method_6_code 4 = .ok (.getstatic 46, 3) := by decide +kernel
theorem d_FR_repeats_7 : decode prog_7_method_6_code 7 = .ok (.if_acmp .eq 13, 3) := by decide +kernel
theorem d_FR_repeats_10 : decode prog_7_method_6_code 10 = .ok (.aload_n 0, 1) := by decide +kernel
theorem d_FR_repeats_11 : decode prog_7_method_6_code 11 = .ok (.getfield 15, 3) := by decide +kernel
theorem d_FR_repeats_14 : decode prog_7_method_6_code 14 = .ok (.getstatic 49, 3) := by decide +kernel
theorem d_FR_repeats_17 : decode prog_7_method_6_code 17 = .ok (.if_acmp .ne 7, 3) := by decide +kernel
theorem d_FR_repeats_20 : decode prog_7_method_6_code 20 = .ok (.iconst 1, 1) := by decide +kernel
theorem d_FR_repeats_21 : decode prog_7_method_6_code 21 = .ok (.goto 4, 3) := by decide +kernel
theorem d_FR_repeats_24 : decode prog_7_method_6_code 24 = .ok (.iconst 0, 1) := by decide +kernel
theorem d_FR_repeats_25 : decode prog_7_method_6_code 25 = .ok (.ireturn, 1) := by decide +kernel
theorem d_FR_argumentStart_0 : decode prog_7_method_4_code 0 = .ok (.iload_n 1, 1) := by decide +kernel
theorem d_FR_argumentStart_1 : decode prog_7_method_4_code 1 = .ok (.ifCond .lt 21, 3) := by decide +kernel
theorem d_FR_argumentStart_4 : decode prog_7_method_4_code 4 = .ok (.iload_n 1, 1) := by decide +kernel
theorem d_FR_argumentStart_5 : decode prog_7_method_4_code 5 = .ok (.aload_n 0, 1) := by decide +kernel
theorem d_FR_argumentStart_6 : decode prog_7_method_4_code 6 = .ok (.getfield 20, 3) := by decide +kernel
theorem d_FR_argumentStart_9 : decode prog_7_method_4_code 9 = .ok (.arraylength, 1) := by decide +kernel
theorem d_FR_argumentStart_10 : decode prog_7_method_4_code 10 = .ok (.if_icmp .ge 12, 3) := by decide +kernel
theorem d_FR_argumentStart_13 : decode prog_7_method_4_code 13 = .ok (.aload_n 0, 1) := by decide +kernel
theorem d_FR_argumentStart_14 : decode prog_7_method_4_code 14 = .ok (.getfield 20, 3) := by decide +kernel
theorem d_FR_argumentStart_17 : decode prog_7_method_4_code 17 = .ok (.iload_n 1, 1) := by decide +kernel
theorem d_FR_argumentStart_18 : decode prog_7_method_4_code 18 = .ok (.iaload, 1) := by decide +kernel
theorem d_FR_argumentStart_19 : decode prog_7_method_4_code 19 = .ok (.goto 4, 3) := by decide +kernel
theorem d_FR_argumentStart_22 : decode prog_7_method_4_code 22 = .ok (.iconst 0, 1) := by decide +kernel
theorem d_FR_argumentStart_23 : decode prog_7_method_4_code 23 = .ok (.ireturn, 1) := by decide +kernel
theorem d_FR_argumentStop_0 : decode prog_7_method_5_code 0 = .ok (.iload_n 1, 1) := by decide +kernel
theorem d_FR_argumentStop_1 : decode prog_7_method_5_code 1 = .ok (.ifCond .lt 21, 3) := by decide +kernel
theorem d_FR_argumentStop_4 : decode prog_7_method_5_code 4 = .ok (.iload_n 1, 1) := by decide +kernel
theorem d_FR_argumentStop_5 : decode prog_7_method_5_code 5 = .ok (.aload_n 0, 1) := by decide +kernel
theorem d_FR_argumentStop_6 : decode prog_7_method_5_code 6 = .ok (.getfield 24, 3) := by decide +kernel
theorem d_FR_argumentStop_9 : decode prog_7_method_5_code 9 = .ok (.arraylength, 1) := by decide +kernel
theorem d_FR_argumentStop_10 : decode prog_7_method_5_code 10 = .ok (.if_icmp .ge 12, 3) := by decide +kernel
theorem d_FR_argumentStop_13 : decode prog_7_method_5_code 13 = .ok (.aload_n 0, 1) := by decide +kernel
theorem d_FR_argumentStop_14 : decode prog_7_method_5_code 14 = .ok (.getfield 24, 3) := by decide +kernel
theorem d_FR_argumentStop_17 : decode prog_7_method_5_code 17 = .ok (.iload_n 1, 1) := by decide +kernel
theorem d_FR_argumentStop_18 : decode prog_7_method_5_code 18 = .ok (.iaload, 1) := by decide +kernel
theorem d_FR_argumentStop_19 : decode prog_7_method_5_code 19 = .ok (.goto 4, 3) := by decide +kernel
theorem d_FR_argumentStop_22 : decode prog_7_method_5_code 22 = .ok (.iconst 0, 1) := by decide +kernel
theorem d_FR_argumentStop_23 : decode prog_7_method_5_code 23 = .ok (.ireturn, 1) := by decide +kernel
theorem hm_FR_begin : y_FR_begin.cls ≠ "java/lang/invoke/MethodHandle" ∧ y_FR_begin.cls ≠ "java/lang/invoke/VarHandle" ∧ (parseMethodDescriptor y_FR_begin.desc).map (fun d => d.parameters.length) = some 5 := by decide +kernel
theorem hm_FR_setArgument : y_FR_setArgument.cls ≠ "java/lang/invoke/MethodHandle" ∧ y_FR_setArgument.cls ≠ "java/lang/invoke/VarHandle" ∧ (parseMethodDescriptor y_FR_setArgument.desc).map (fun d => d.parameters.length) = some 3 := by decide +kernel
theorem hm_FR_repeats : y_FR_repeats.cls ≠ "java/lang/invoke/MethodHandle" ∧ y_FR_repeats.cls ≠ "java/lang/invoke/VarHandle" ∧ (parseMethodDescriptor y_FR_repeats.desc).map (fun d => d.parameters.length) = some 0 := by decide +kernel
theorem hm_FR_argumentStart : y_FR_argumentStart.cls ≠ "java/lang/invoke/MethodHandle" ∧ y_FR_argumentStart.cls ≠ "java/lang/invoke/VarHandle" ∧ (parseMethodDescriptor y_FR_argumentStart.desc).map (fun d => d.parameters.length) = some 1 := by decide +kernel
theorem hm_FR_argumentStop : y_FR_argumentStop.cls ≠ "java/lang/invoke/MethodHandle" ∧ y_FR_argumentStop.cls ≠ "java/lang/invoke/VarHandle" ∧ (parseMethodDescriptor y_FR_argumentStop.desc).map (fun d => d.parameters.length) = some 1 := by decide +kernel
