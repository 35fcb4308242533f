theorem d_MO_call_247 : decode prog_15_method_47_code 247 = .ok (.aload_n 0, 1) := by decide +kernel
theorem d_MO_call_248 : decode prog_15_method_47_code 248 = .ok (.getfield 287, 3) := by decide +kernel
theorem d_MO_call_251 : decode prog_15_method_47_code 251 = .ok (.ifCond .ne 13, 3) := by decide +kernel
theorem d_MO_call_254 : decode prog_15_method_47_code 254 = .ok (.aload_n 0, 1) := by decide +kernel
theorem d_MO_call_255 : decode prog_15_method_47_code 255 = .ok (.iconst 1, 1) := by decide +kernel
theorem d_MO_call_256 : decode prog_15_method_47_code 256 = .ok (.aload_n 0, 1) := by decide +kernel
theorem d_MO_call_257 : decode prog_15_method_47_code 257 = .ok (.getfield 247, 3) := by decide +kernel
theorem d_MO_call_260 : decode prog_15_method_47_code 260 = .ok (.invokevirtual 250, 3) := by decide +kernel
theorem d_MO_call_263 : decode prog_15_method_47_code 263 = .ok (.return_, 1) := by decide +kernel
theorem d_MO_call_264 : decode prog_15_method_47_code 264 = .ok (.aload_n 0, 1) := by decide +kernel
theorem d_MO_call_265 : decode prog_15_method_47_code 265 = .ok (.iload_n 2, 1) := by decide +kernel
theorem d_MO_call_266 : decode prog_15_method_47_code 266 = .ok (.aload_n 0, 1) := by decide +kernel
theorem d_MO_call_267 : decode prog_15_method_47_code 267 = .ok (.getfield 42, 3) := by decide +kernel
theorem d_MO_call_270 : decode prog_15_method_47_code 270 = .ok (.iload_n 1, 1) := by decide +kernel
theorem d_MO_call_271 : decode prog_15_method_47_code 271 = .ok (.iaload, 1) := by decide +kernel
theorem d_MO_call_272 : decode prog_15_method_47_code 272 = .ok (.iadd, 1) := by decide +kernel
theorem d_MO_call_273 : decode prog_15_method_47_code 273 = .ok (.putfield 349, 3) := by decide +kernel
theorem d_MO_call_276 : decode prog_15_method_47_code 276 = .ok (.aload_n 0, 1) := by decide +kernel
theorem d_MO_call_277 : decode prog_15_method_47_code 277 = .ok (.getfield 244, 3) := by decide +kernel
theorem d_MO_call_280 : decode prog_15_method_47_code 280 = .ok (.bipush 12, 2) := by decide +kernel
theorem d_MO_call_282 : decode prog_15_method_47_code 282 = .ok (.if_icmp .le 14, 3) := by decide +kernel
theorem d_MO_call_285 : decode prog_15_method_47_code 285 = .ok (.aload_n 0, 1) := by decide +kernel
theorem d_MO_call_286 : decode prog_15_method_47_code 286 = .ok (.bipush 6, 2) := by decide +kernel
theorem d_MO_call_288 : decode prog_15_method_47_code 288 = .ok (.aload_n 0, 1) := by decide +kernel
theorem d_MO_call_289 : decode prog_15_method_47_code 289 = .ok (.getfield 247, 3) := by decide +kernel
theorem d_MO_call_292 : decode prog_15_method_47_code 292 = .ok (.invokevirtual 250, 3) := by decide +kernel
theorem d_MO_call_295 : decode prog_15_method_47_code 295 = .ok (.return_, 1) := by decide +kernel
theorem d_MO_call_296 : decode prog_15_method_47_code 296 = .ok (.aload_n 0, 1) := by decide +kernel
theorem d_MO_call_297 : decode prog_15_method_47_code 297 = .ok (.getfield 96, 3) := by decide +kernel
theorem d_MO_call_300 : decode prog_15_method_47_code 300 = .ok (.aload_n 0, 1) := by decide +kernel
theorem d_MO_call_301 : decode prog_15_method_47_code 301 = .ok (.getfield 244, 3) := by decide +kernel
theorem d_MO_call_304 : decode prog_15_method_47_code 304 = .ok (.iload_n 1, 1) := by decide +kernel
theorem d_MO_call_305 : decode prog_15_method_47_code 305 = .ok (.iastore, 1) := by decide +kernel
theorem d_MO_call_306 : decode prog_15_method_47_code 306 = .ok (.aload_n 0, 1) := by decide +kernel
theorem d_MO_call_307 : decode prog_15_method_47_code 307 = .ok (.getfield 99, 3) := by decide +kernel
theorem d_MO_call_310 : decode prog_15_method_47_code 310 = .ok (.aload_n 0, 1) := by decide +kernel
theorem d_MO_call_311 : decode prog_15_method_47_code 311 = .ok (.getfield 244, 3) := by decide +kernel
theorem d_MO_call_314 : decode prog_15_method_47_code 314 = .ok (.aload_n 0, 1) := by decide +kernel
theorem d_MO_call_315 : decode prog_15_method_47_code 315 = .ok (.getfield 390, 3) := by decide +kernel
theorem d_MO_call_318 : decode prog_15_method_47_code 318 = .ok (.iastore, 1) := by decide +kernel
theorem d_MO_call_319 : decode prog_15_method_47_code 319 = .ok (.aload_n 0, 1) := by decide +kernel
theorem d_MO_call_320 : decode prog_15_method_47_code 320 = .ok (.iconst 1, 1) := by decide +kernel
theorem d_MO_call_321 : decode prog_15_method_47_code 321 = .ok (.aload_n 0, 1) := by decide +kernel
theorem d_MO_call_322 : decode prog_15_method_47_code 322 = .ok (.getfield 30, 3) := by decide +kernel
theorem d_MO_call_325 : decode prog_15_method_47_code 325 = .ok (.iload_n 1, 1) := by decide +kernel
theorem d_MO_call_326 : decode prog_15_method_47_code 326 = .ok (.iaload, 1) := by decide +kernel
theorem d_MO_call_327 : decode prog_15_method_47_code 327 = .ok (.aload_n 0, 1) := by decide +kernel
theorem d_MO_call_328 : decode prog_15_method_47_code 328 = .ok (.getfield 33, 3) := by decide +kernel
theorem d_MO_call_331 : decode prog_15_method_47_code 331 = .ok (.iload_n 1, 1) := by decide +kernel
theorem d_MO_call_332 : decode prog_15_method_47_code 332 = .ok (.iaload, 1) := by decide +kernel
theorem d_MO_call_333 : decode prog_15_method_47_code 333 = .ok (.iconst 1, 1) := by decide +kernel
theorem d_MO_call_334 : decode prog_15_method_47_code 334 = .ok (.iload_n 2, 1) := by decide +kernel
theorem d_MO_call_335 : decode prog_15_method_47_code 335 = .ok (.iload_n 3, 1) := by decide +kernel
theorem d_MO_call_336 : decode prog_15_method_47_code 336 = .ok (.invokevirtual 380, 3) := by decide +kernel
theorem d_MO_call_339 : decode prog_15_method_47_code 339 = .ok (.aload_n 0, 1) := by decide +kernel
theorem d_MO_call_340 : decode prog_15_method_47_code 340 = .ok (.getfield 39, 3) := by decide +kernel
theorem d_MO_call_343 : decode prog_15_method_47_code 343 = .ok (.iload_n 1, 1) := by decide +kernel
theorem d_MO_call_344 : decode prog_15_method_47_code 344 = .ok (.dup2, 1) := by decide +kernel
theorem d_MO_call_345 : decode prog_15_method_47_code 345 = .ok (.iaload, 1) := by decide +kernel
theorem d_MO_call_346 : decode prog_15_method_47_code 346 = .ok (.iconst 1, 1) := by decide +kernel
theorem d_MO_call_347 : decode prog_15_method_47_code 347 = .ok (.iadd, 1) := by decide +kernel
theorem d_MO_call_348 : decode prog_15_method_47_code 348 = .ok (.iastore, 1) := by decide +kernel
theorem d_MO_call_349 : decode prog_15_method_47_code 349 = .ok (.aload_n 0, 1) := by decide +kernel
theorem d_MO_call_350 : decode prog_15_method_47_code 350 = .ok (.dup, 1) := by decide +kernel
theorem d_MO_call_351 : decode prog_15_method_47_code 351 = .ok (.getfield 390, 3) := by decide +kernel
theorem d_MO_call_354 : decode prog_15_method_47_code 354 = .ok (.iconst 1, 1) := by decide +kernel
theorem d_MO_call_355 : decode prog_15_method_47_code 355 = .ok (.iadd, 1) := by decide +kernel
theorem d_MO_call_356 : decode prog_15_method_47_code 356 = .ok (.putfield 390, 3) := by decide +kernel
theorem d_MO_call_359 : decode prog_15_method_47_code 359 = .ok (.return_, 1) := by decide +kernel
theorem d_MO_goOut_0 : decode prog_15_method_57_code 0 = .ok (.aload_n 0, 1) := by decide +kernel
theorem d_MO_goOut_1 : decode prog_15_method_57_code 1 = .ok (.getfield 415, 3) := by decide +kernel
theorem d_MO_goOut_4 : decode prog_15_method_57_code 4 = .ok (.sipush 1000, 3) := by decide +kernel
theorem d_MO_goOut_7 : decode prog_15_method_57_code 7 = .ok (.if_icmp .eq 18, 3) := by decide +kernel
theorem d_MO_goOut_10 : decode prog_15_method_57_code 10 = .ok (.aload_n 0, 1) := by decide +kernel
theorem d_MO_goOut_11 : decode prog_15_method_57_code 11 = .ok (.getfield 418, 3) := by decide +kernel
theorem d_MO_goOut_14 : decode prog_15_method_57_code 14 = .ok (.aload_n 0, 1) := by decide +kernel
theorem d_MO_goOut_15 : decode prog_15_method_57_code 15 = .ok (.getfield 254, 3) := by decide +kernel
theorem d_MO_goOut_18 : decode prog_15_method_57_code 18 = .ok (.iadd, 1) := by decide +kernel
theorem d_MO_goOut_19 : decode prog_15_method_57_code 19 = .ok (.sipush 12000, 3) := by decide +kernel
theorem d_MO_goOut_22 : decode prog_15_method_57_code 22 = .ok (.if_icmp .le 14, 3) := by decide +kernel
theorem d_MO_goOut_25 : decode prog_15_method_57_code 25 = .ok (.aload_n 0, 1) := by decide +kernel
theorem d_MO_goOut_26 : decode prog_15_method_57_code 26 = .ok (.bipush 6, 2) := by decide +kernel
theorem d_MO_goOut_28 : decode prog_15_method_57_code 28 = .ok (.aload_n 0, 1) := by decide +kernel
theorem d_MO_goOut_29 : decode prog_15_method_57_code 29 = .ok (.getfield 247, 3) := by decide +kernel
theorem d_MO_goOut_32 : decode prog_15_method_57_code 32 = .ok (.invokevirtual 250, 3) := by decide +kernel
theorem d_MO_goOut_35 : decode prog_15_method_57_code 35 = .ok (.return_, 1) := by decide +kernel
theorem d_MO_goOut_36 : decode prog_15_method_57_code 36 = .ok (.aload_n 0, 1) := by decide +kernel
theorem d_MO_goOut_37 : decode prog_15_method_57_code 37 = .ok (.getfield 66, 3) := by decide +kernel
theorem d_MO_goOut_40 : decode prog_15_method_57_code 40 = .ok (.aload_n 0, 1) := by decide +kernel
theorem d_MO_goOut_41 : decode prog_15_method_57_code 41 = .ok (.getfield 415, 3) := by decide +kernel
theorem d_MO_goOut_44 : decode prog_15_method_57_code 44 = .ok (.aload_n 0, 1) := by decide +kernel
theorem d_MO_goOut_45 : decode prog_15_method_57_code 45 = .ok (.getfield 418, 3) := by decide +kernel
theorem d_MO_goOut_48 : decode prog_15_method_57_code 48 = .ok (.iastore, 1) := by decide +kernel
theorem d_MO_goOut_49 : decode prog_15_method_57_code 49 = .ok (.aload_n 0, 1) := by decide +kernel
theorem d_MO_goOut_50 : decode prog_15_method_57_code 50 = .ok (.getfield 69, 3) := by decide +kernel
theorem d_MO_goOut_53 : decode prog_15_method_57_code 53 = .ok (.aload_n 0, 1) := by decide +kernel
theorem d_MO_goOut_54 : decode prog_15_method_57_code 54 = .ok (.getfield 415, 3) := by decide +kernel
theorem d_MO_goOut_57 : decode prog_15_method_57_code 57 = .ok (.aload_n 0, 1) := by decide +kernel
theorem d_MO_goOut_58 : decode prog_15_method_57_code 58 = .ok (.getfield 247, 3) := by decide +kernel
theorem d_MO_goOut_61 : decode prog_15_method_57_code 61 = .ok (.iastore, 1) := by decide +kernel
theorem d_MO_goOut_62 : decode prog_15_method_57_code 62 = .ok (.aload_n 0, 1) := by decide +kernel
theorem d_MO_goOut_63 : decode prog_15_method_57_code 63 = .ok (.getfield 72, 3) := by decide +kernel
theorem d_MO_goOut_66 : decode prog_15_method_57_code 66 = .ok (.aload_n 0, 1) := by decide +kernel
theorem d_MO_goOut_67 : decode prog_15_method_57_code 67 = .ok (.getfield 415, 3) := by decide +kernel
theorem d_MO_goOut_70 : decode prog_15_method_57_code 70 = .ok (.aload_n 0, 1) := by decide +kernel
theorem d_MO_goOut_71 : decode prog_15_method_57_code 71 = .ok (.getfield 244, 3) := by decide +kernel
theorem d_MO_goOut_74 : decode prog_15_method_57_code 74 = .ok (.iconst 1, 1) := by decide +kernel
theorem d_MO_goOut_75 : decode prog_15_method_57_code 75 = .ok (.isub, 1) := by decide +kernel
theorem d_MO_goOut_76 : decode prog_15_method_57_code 76 = .ok (.iastore, 1) := by decide +kernel
theorem d_MO_goOut_77 : decode prog_15_method_57_code 77 = .ok (.iconst 0, 1) := by decide +kernel
theorem d_MO_goOut_78 : decode prog_15_method_57_code 78 = .ok (.istore_n 1, 1) := by decide +kernel
theorem d_MO_goOut_79 : decode prog_15_method_57_code 79 = .ok (.iload_n 1, 1) := by decide +kernel
theorem d_MO_goOut_80 : decode prog_15_method_57_code 80 = .ok (.aload_n 0, 1) := by decide +kernel
theorem d_MO_goOut_81 : decode prog_15_method_57_code 81 = .ok (.getfield 254, 3) := by decide +kernel
theorem d_MO_goOut_84 : decode prog_15_method_57_code 84 = .ok (.if_icmp .ge 34, 3) := by decide +kernel
theorem d_MO_goOut_87 : decode prog_15_method_57_code 87 = .ok (.aload_n 0, 1) := by decide +kernel
theorem d_MO_goOut_88 : decode prog_15_method_57_code 88 = .ok (.getfield 75, 3) := by decide +kernel
theorem d_MO_goOut_91 : decode prog_15_method_57_code 91 = .ok (.aload_n 0, 1) := by decide +kernel
theorem d_MO_goOut_92 : decode prog_15_method_57_code 92 = .ok (.getfield 418, 3) := by decide +kernel
theorem d_MO_goOut_95 : decode prog_15_method_57_code 95 = .ok (.aload_n 0, 1) := by decide +kernel
theorem d_MO_goOut_96 : decode prog_15_method_57_code 96 = .ok (.getfield 143, 3) := by decide +kernel
theorem d_MO_goOut_99 : decode prog_15_method_57_code 99 = .ok (.iload_n 1, 1) := by decide +kernel
theorem d_MO_goOut_100 : decode prog_15_method_57_code 100 = .ok (.iaload, 1) := by decide +kernel
theorem d_MO_goOut_101 : decode prog_15_method_57_code 101 = .ok (.iastore, 1) := by decide +kernel
theorem d_MO_goOut_102 : decode prog_15_method_57_code 102 = .ok (.aload_n 0, 1) := by decide +kernel
theorem d_MO_goOut_103 : decode prog_15_method_57_code 103 = .ok (.dup, 1) := by decide +kernel
theorem d_MO_goOut_104 : decode prog_15_method_57_code 104 = .ok (.getfield 418, 3) := by decide +kernel
theorem d_MO_goOut_107 : decode prog_15_method_57_code 107 = .ok (.iconst 1, 1) := by decide +kernel
theorem d_MO_goOut_108 : decode prog_15_method_57_code 108 = .ok (.iadd, 1) := by decide +kernel
theorem d_MO_goOut_109 : decode prog_15_method_57_code 109 = .ok (.putfield 418, 3) := by decide +kernel
theorem d_MO_goOut_112 : decode prog_15_method_57_code 112 = .ok (.iinc 1 1, 3) := by decide +kernel
theorem d_MO_goOut_115 : decode prog_15_method_57_code 115 = .ok (.goto (-36), 3) := by decide +kernel
theorem d_MO_goOut_118 : decode prog_15_method_57_code 118 = .ok (.aload_n 0, 1) := by decide +kernel
theorem d_MO_goOut_119 : decode prog_15_method_57_code 119 = .ok (.dup, 1) := by decide +kernel
theorem d_MO_goOut_120 : decode prog_15_method_57_code 120 = .ok (.getfield 415, 3) := by decide +kernel
theorem d_MO_goOut_123 : decode prog_15_method_57_code 123 = .ok (.iconst 1, 1) := by decide +kernel
theorem d_MO_goOut_124 : decode prog_15_method_57_code 124 = .ok (.iadd, 1) := by decide +kernel
theorem d_MO_goOut_125 : decode prog_15_method_57_code 125 = .ok (.putfield 415, 3) := by decide +kernel
theorem d_MO_goOut_128 : decode prog_15_method_57_code 128 = .ok (.aload_n 0, 1) := by decide +kernel
theorem d_MO_goOut_129 : decode prog_15_method_57_code 129 = .ok (.getfield 66, 3) := by decide +kernel
theorem d_MO_goOut_132 : decode prog_15_method_57_code 132 = .ok (.aload_n 0, 1) := by decide +kernel
theorem d_MO_goOut_133 : decode prog_15_method_57_code 133 = .ok (.getfield 415, 3) := by decide +kernel
theorem d_MO_goOut_136 : decode prog_15_method_57_code 136 = .ok (.aload_n 0, 1) := by decide +kernel
theorem d_MO_goOut_137 : decode prog_15_method_57_code 137 = .ok (.getfield 418, 3) := by decide +kernel
theorem d_MO_goOut_140 : decode prog_15_method_57_code 140 = .ok (.iastore, 1) := by decide +kernel
theorem d_MO_goOut_141 : decode prog_15_method_57_code 141 = .ok (.return_, 1) := by decide +kernel
theorem d_MO_doLine_0 : decode prog_15_method_60_code 0 = .ok (.aload_n 0, 1) := by decide +kernel
theorem d_MO_doLine_1 : decode prog_15_method_60_code 1 = .ok (.iload_n 1, 1) := by decide +kernel
theorem d_MO_doLine_2 : decode prog_15_method_60_code 2 = .ok (.invokevirtual 409, 3) := by decide +kernel
theorem d_MO_doLine_5 : decode prog_15_method_60_code 5 = .ok (.istore_n 2, 1) := by decide +kernel
theorem d_MO_doLine_6 : decode prog_15_method_60_code 6 = .ok (.iload_n 2, 1) := by decide +kernel
theorem d_MO_doLine_7 : decode prog_15_method_60_code 7 = .ok (.ifCond .le 13, 3) := by decide +kernel
theorem d_MO_doLine_10 : decode prog_15_method_60_code 10 = .ok (.aload_n 0, 1) := by decide +kernel
theorem d_MO_doLine_11 : decode prog_15_method_60_code 11 = .ok (.iload_n 2, 1) := by decide +kernel
theorem d_MO_doLine_12 : decode prog_15_method_60_code 12 = .ok (.aload_n 0, 1) := by decide +kernel
theorem d_MO_doLine_13 : decode prog_15_method_60_code 13 = .ok (.getfield 247, 3) := by decide +kernel
theorem d_MO_doLine_16 : decode prog_15_method_60_code 16 = .ok (.invokevirtual 250, 3) := by decide +kernel
theorem d_MO_doLine_19 : decode prog_15_method_60_code 19 = .ok (.return_, 1) := by decide +kernel
theorem d_MO_doLine_20 : decode prog_15_method_60_code 20 = .ok (.aload_n 0, 1) := by decide +kernel
theorem d_MO_doLine_21 : decode prog_15_method_60_code 21 = .ok (.invokevirtual 412, 3) := by decide +kernel
theorem d_MO_doLine_24 : decode prog_15_method_60_code 24 = .ok (.aload_n 0, 1) := by decide +kernel
theorem d_MO_doLine_25 : decode prog_15_method_60_code 25 = .ok (.getfield 254, 3) := by decide +kernel
theorem d_MO_doLine_28 : decode prog_15_method_60_code 28 = .ok (.ifCond .ne 4, 3) := by decide +kernel
theorem d_MO_doLine_31 : decode prog_15_method_60_code 31 = .ok (.return_, 1) := by decide +kernel
theorem d_MO_doLine_32 : decode prog_15_method_60_code 32 = .ok (.aload_n 0, 1) := by decide +kernel
theorem d_MO_doLine_33 : decode prog_15_method_60_code 33 = .ok (.getfield 143, 3) := by decide +kernel
theorem d_MO_doLine_36 : decode prog_15_method_60_code 36 = .ok (.iconst 0, 1) := by decide +kernel
theorem d_MO_doLine_37 : decode prog_15_method_60_code 37 = .ok (.iaload, 1) := by decide +kernel
theorem d_MO_doLine_38 : decode prog_15_method_60_code 38 = .ok (.bipush 46, 2) := by decide +kernel
theorem d_MO_doLine_40 : decode prog_15_method_60_code 40 = .ok (.if_icmp .ne 100, 3) := by decide +kernel
theorem d_MO_doLine_43 : decode prog_15_method_60_code 43 = .ok (.aload_n 0, 1) := by decide +kernel
theorem d_MO_doLine_44 : decode prog_15_method_60_code 44 = .ok (.iconst 1, 1) := by decide +kernel
theorem d_MO_doLine_45 : decode prog_15_method_60_code 45 = .ok (.putfield 278, 3) := by decide +kernel
theorem d_MO_doLine_48 : decode prog_15_method_60_code 48 = .ok (.aload_n 0, 1) := by decide +kernel
theorem d_MO_doLine_49 : decode prog_15_method_60_code 49 = .ok (.aload_n 0, 1) := by decide +kernel
theorem d_MO_doLine_50 : decode prog_15_method_60_code 50 = .ok (.invokevirtual 281, 3) := by decide +kernel
theorem d_MO_doLine_53 : decode prog_15_method_60_code 53 = .ok (.invokestatic 199, 3) := by decide +kernel
theorem d_MO_doLine_56 : decode prog_15_method_60_code 56 = .ok (.putfield 287, 3) := by decide +kernel
theorem d_MO_doLine_59 : decode prog_15_method_60_code 59 = .ok (.aload_n 0, 1) := by decide +kernel
theorem d_MO_doLine_60 : decode prog_15_method_60_code 60 = .ok (.invokevirtual 320, 3) := by decide +kernel
theorem d_MO_doLine_63 : decode prog_15_method_60_code 63 = .ok (.aload_n 0, 1) := by decide +kernel
theorem d_MO_doLine_64 : decode prog_15_method_60_code 64 = .ok (.getfield 287, 3) := by decide +kernel
theorem d_MO_doLine_67 : decode prog_15_method_60_code 67 = .ok (.ifCond .eq 22, 3) := by decide +kernel
theorem d_MO_doLine_70 : decode prog_15_method_60_code 70 = .ok (.aload_n 0, 1) := by decide +kernel
theorem d_MO_doLine_71 : decode prog_15_method_60_code 71 = .ok (.getfield 295, 3) := by decide +kernel
theorem d_MO_doLine_74 : decode prog_15_method_60_code 74 = .ok (.lconst 0, 1) := by decide +kernel
theorem d_MO_doLine_75 : decode prog_15_method_60_code 75 = .ok (.lcmp, 1) := by decide +kernel
theorem d_MO_doLine_76 : decode prog_15_method_60_code 76 = .ok (.ifCond .ne 13, 3) := by decide +kernel
theorem d_MO_doLine_79 : decode prog_15_method_60_code 79 = .ok (.aload_n 0, 1) := by decide +kernel
theorem d_MO_doLine_80 : decode prog_15_method_60_code 80 = .ok (.getfield 291, 3) := by decide +kernel
theorem d_MO_doLine_83 : decode prog_15_method_60_code 83 = .ok (.invokestatic 237, 3) := by decide +kernel
theorem d_MO_doLine_86 : decode prog_15_method_60_code 86 = .ok (.goto 4, 3) := by decide +kernel
theorem d_MO_doLine_89 : decode prog_15_method_60_code 89 = .ok (.iconst 0, 1) := by decide +kernel
theorem d_MO_doLine_90 : decode prog_15_method_60_code 90 = .ok (.istore_n 3, 1) := by decide +kernel
theorem d_MO_doLine_91 : decode prog_15_method_60_code 91 = .ok (.iload_n 3, 1) := by decide +kernel
theorem d_MO_doLine_92 : decode prog_15_method_60_code 92 = .ok (.ifCond .ne 15, 3) := by decide +kernel
theorem d_MO_doLine_95 : decode prog_15_method_60_code 95 = .ok (.aload_n 0, 1) := by decide +kernel
theorem d_MO_doLine_96 : decode prog_15_method_60_code 96 = .ok (.iconst 1, 1) := by decide +kernel
theorem d_MO_doLine_97 : decode prog_15_method_60_code 97 = .ok (.aload_n 0, 1) := by decide +kernel
theorem d_MO_doLine_98 : decode prog_15_method_60_code 98 = .ok (.getfield 247, 3) := by decide +kernel
theorem d_MO_doLine_101 : decode prog_15_method_60_code 101 = .ok (.invokevirtual 250, 3) := by decide +kernel
theorem d_MO_doLine_104 : decode prog_15_method_60_code 104 = .ok (.goto 35, 3) := by decide +kernel
theorem d_MO_doLine_107 : decode prog_15_method_60_code 107 = .ok (.iload_n 3, 1) := by decide +kernel
theorem d_MO_doLine_108 : decode prog_15_method_60_code 108 = .ok (.iconst 5, 1) := by decide +kernel
theorem d_MO_doLine_109 : decode prog_15_method_60_code 109 = .ok (.if_icmp .eq 15, 3) := by decide +kernel
theorem d_MO_doLine_112 : decode prog_15_method_60_code 112 = .ok (.iload_n 3, 1) := by decide +kernel
theorem d_MO_doLine_113 : decode prog_15_method_60_code 113 = .ok (.bipush 6, 2) := by decide +kernel
theorem d_MO_doLine_115 : decode prog_15_method_60_code 115 = .ok (.if_icmp .eq 9, 3) := by decide +kernel
theorem d_MO_doLine_118 : decode prog_15_method_60_code 118 = .ok (.iload_n 3, 1) := by decide +kernel
theorem d_MO_doLine_119 : decode prog_15_method_60_code 119 = .ok (.bipush 7, 2) := by decide +kernel
theorem d_MO_doLine_121 : decode prog_15_method_60_code 121 = .ok (.if_icmp .ne 12, 3) := by decide +kernel
theorem d_MO_doLine_124 : decode prog_15_method_60_code 124 = .ok (.aload_n 0, 1) := by decide +kernel
theorem d_MO_doLine_125 : decode prog_15_method_60_code 125 = .ok (.iload_n 3, 1) := by decide +kernel
theorem d_MO_doLine_126 : decode prog_15_method_60_code 126 = .ok (.iload_n 1, 1) := by decide +kernel
theorem d_MO_doLine_127 : decode prog_15_method_60_code 127 = .ok (.invokevirtual 442, 3) := by decide +kernel
theorem d_MO_doLine_130 : decode prog_15_method_60_code 130 = .ok (.goto 9, 3) := by decide +kernel
theorem d_MO_doLine_133 : decode prog_15_method_60_code 133 = .ok (.aload_n 0, 1) := by decide +kernel
theorem d_MO_doLine_134 : decode prog_15_method_60_code 134 = .ok (.iload_n 3, 1) := by decide +kernel
theorem d_MO_doLine_135 : decode prog_15_method_60_code 135 = .ok (.iload_n 1, 1) := by decide +kernel
theorem d_MO_doLine_136 : decode prog_15_method_60_code 136 = .ok (.invokevirtual 445, 3) := by decide +kernel
theorem d_MO_doLine_139 : decode prog_15_method_60_code 139 = .ok (.return_, 1) := by decide +kernel
theorem d_MO_doLine_140 : decode prog_15_method_60_code 140 = .ok (.aload_n 0, 1) := by decide +kernel
theorem d_MO_doLine_141 : decode prog_15_method_60_code 141 = .ok (.getfield 143, 3) := by decide +kernel
theorem d_MO_doLine_144 : decode prog_15_method_60_code 144 = .ok (.iconst 0, 1) := by decide +kernel
theorem d_MO_doLine_145 : decode prog_15_method_60_code 145 = .ok (.iaload, 1) := by decide +kernel
theorem d_MO_doLine_146 : decode prog_15_method_60_code 146 = .ok (.invokestatic 199, 3) := by decide +kernel
theorem d_MO_doLine_149 : decode prog_15_method_60_code 149 = .ok (.ifCond .eq 41, 3) := by decide +kernel
theorem d_MO_doLine_152 : decode prog_15_method_60_code 152 = .ok (.aload_n 0, 1) := by decide +kernel
theorem d_MO_doLine_153 : decode prog_15_method_60_code 153 = .ok (.invokevirtual 320, 3) := by decide +kernel
theorem d_MO_doLine_156 : decode prog_15_method_60_code 156 = .ok (.aload_n 0, 1) := by decide +kernel
theorem d_MO_doLine_157 : decode prog_15_method_60_code 157 = .ok (.getfield 287, 3) := by decide +kernel
theorem d_MO_doLine_160 : decode prog_15_method_60_code 160 = .ok (.ifCond .eq 18, 3) := by decide +kernel
theorem d_MO_doLine_163 : decode prog_15_method_60_code 163 = .ok (.aload_n 0, 1) := by decide +kernel
theorem d_MO_doLine_164 : decode prog_15_method_60_code 164 = .ok (.aload_n 0, 1) := by decide +kernel
theorem d_MO_doLine_165 : decode prog_15_method_60_code 165 = .ok (.getfield 291, 3) := by decide +kernel
theorem d_MO_doLine_168 : decode prog_15_method_60_code 168 = .ok (.aload_n 0, 1) := by decide +kernel
theorem d_MO_doLine_169 : decode prog_15_method_60_code 169 = .ok (.getfield 295, 3) := by decide +kernel
theorem d_MO_doLine_172 : decode prog_15_method_60_code 172 = .ok (.invokevirtual 402, 3) := by decide +kernel
theorem d_MO_doLine_175 : decode prog_15_method_60_code 175 = .ok (.goto 4, 3) := by decide +kernel
theorem d_MO_doLine_178 : decode prog_15_method_60_code 178 = .ok (.iconst (-1), 1) := by decide +kernel
theorem d_MO_doLine_179 : decode prog_15_method_60_code 179 = .ok (.istore_n 3, 1) := by decide +kernel
theorem d_MO_doLine_180 : decode prog_15_method_60_code 180 = .ok (.iload_n 3, 1) := by decide +kernel
theorem d_MO_doLine_181 : decode prog_15_method_60_code 181 = .ok (.ifCond .lt 9, 3) := by decide +kernel
theorem d_MO_doLine_184 : decode prog_15_method_60_code 184 = .ok (.aload_n 0, 1) := by decide +kernel
theorem d_MO_doLine_185 : decode prog_15_method_60_code 185 = .ok (.iload_n 3, 1) := by decide +kernel
theorem d_MO_doLine_186 : decode prog_15_method_60_code 186 = .ok (.invokevirtual 448, 3) := by decide +kernel
theorem d_MO_doLine_189 : decode prog_15_method_60_code 189 = .ok (.return_, 1) := by decide +kernel
theorem d_MO_doLine_190 : decode prog_15_method_60_code 190 = .ok (.aload_n 0, 1) := by decide +kernel
theorem d_MO_doLine_191 : decode prog_15_method_60_code 191 = .ok (.invokevirtual 451, 3) := by decide +kernel
theorem d_MO_doLine_194 : decode prog_15_method_60_code 194 = .ok (.return_, 1) := by decide +kernel
theorem d_MO_next_0 : decode prog_15_method_61_code 0 = .ok (.aload_n 0, 1) := by decide +kernel
theorem d_MO_next_1 : decode prog_15_method_61_code 1 = .ok (.getfield 244, 3) := by decide +kernel
theorem d_MO_next_4 : decode prog_15_method_61_code 4 = .ok (.iconst 1, 1) := by decide +kernel
theorem d_MO_next_5 : decode prog_15_method_61_code 5 = .ok (.isub, 1) := by decide +kernel
theorem d_MO_next_6 : decode prog_15_method_61_code 6 = .ok (.istore_n 1, 1) := by decide +kernel
theorem d_MO_next_7 : decode prog_15_method_61_code 7 = .ok (.aload_n 0, 1) := by decide +kernel
theorem d_MO_next_8 : decode prog_15_method_61_code 8 = .ok (.getfield 87, 3) := by decide +kernel
theorem d_MO_next_11 : decode prog_15_method_61_code 11 = .ok (.iload_n 1, 1) := by decide +kernel
theorem d_MO_next_12 : decode prog_15_method_61_code 12 = .ok (.iaload, 1) := by decide +kernel
theorem d_MO_next_13 : decode prog_15_method_61_code 13 = .ok (.aload_n 0, 1) := by decide +kernel
theorem d_MO_next_14 : decode prog_15_method_61_code 14 = .ok (.getfield 84, 3) := by decide +kernel
theorem d_MO_next_17 : decode prog_15_method_61_code 17 = .ok (.iload_n 1, 1) := by decide +kernel
theorem d_MO_next_18 : decode prog_15_method_61_code 18 = .ok (.iaload, 1) := by decide +kernel
theorem d_MO_next_19 : decode prog_15_method_61_code 19 = .ok (.if_icmp .ne 9, 3) := by decide +kernel
theorem d_MO_next_22 : decode prog_15_method_61_code 22 = .ok (.aload_n 0, 1) := by decide +kernel
theorem d_MO_next_23 : decode prog_15_method_61_code 23 = .ok (.iload_n 1, 1) := by decide +kernel
theorem d_MO_next_24 : decode prog_15_method_61_code 24 = .ok (.invokevirtual 454, 3) := by decide +kernel
theorem d_MO_next_27 : decode prog_15_method_61_code 27 = .ok (.return_, 1) := by decide +kernel
theorem d_MO_next_28 : decode prog_15_method_61_code 28 = .ok (.aload_n 0, 1) := by decide +kernel
theorem d_MO_next_29 : decode prog_15_method_61_code 29 = .ok (.getfield 87, 3) := by decide +kernel
theorem d_MO_next_32 : decode prog_15_method_61_code 32 = .ok (.iload_n 1, 1) := by decide +kernel
theorem d_MO_next_33 : decode prog_15_method_61_code 33 = .ok (.iaload, 1) := by decide +kernel
theorem d_MO_next_34 : decode prog_15_method_61_code 34 = .ok (.istore_n 2, 1) := by decide +kernel
theorem d_MO_next_35 : decode prog_15_method_61_code 35 = .ok (.aload_n 0, 1) := by decide +kernel
theorem d_MO_next_36 : decode prog_15_method_61_code 36 = .ok (.getfield 87, 3) := by decide +kernel
theorem d_MO_next_39 : decode prog_15_method_61_code 39 = .ok (.iload_n 1, 1) := by decide +kernel
theorem d_MO_next_40 : decode prog_15_method_61_code 40 = .ok (.dup2, 1) := by decide +kernel
theorem d_MO_next_41 : decode prog_15_method_61_code 41 = .ok (.iaload, 1) := by decide +kernel
theorem d_MO_next_42 : decode prog_15_method_61_code 42 = .ok (.iconst 1, 1) := by decide +kernel
theorem d_MO_next_43 : decode prog_15_method_61_code 43 = .ok (.iadd, 1) := by decide +kernel
theorem d_MO_next_44 : decode prog_15_method_61_code 44 = .ok (.iastore, 1) := by decide +kernel
theorem d_MO_next_45 : decode prog_15_method_61_code 45 = .ok (.aload_n 0, 1) := by decide +kernel
theorem d_MO_next_46 : decode prog_15_method_61_code 46 = .ok (.iload_n 1, 1) := by decide +kernel
theorem d_MO_next_47 : decode prog_15_method_61_code 47 = .ok (.ifCond .ne 7, 3) := by decide +kernel
theorem d_MO_next_50 : decode prog_15_method_61_code 50 = .ok (.iload_n 2, 1) := by decide +kernel
theorem d_MO_next_51 : decode prog_15_method_61_code 51 = .ok (.goto 7, 3) := by decide +kernel
theorem d_MO_next_54 : decode prog_15_method_61_code 54 = .ok (.aload_n 0, 1) := by decide +kernel
theorem d_MO_next_55 : decode prog_15_method_61_code 55 = .ok (.getfield 247, 3) := by decide +kernel
theorem d_MO_next_58 : decode prog_15_method_61_code 58 = .ok (.putfield 247, 3) := by decide +kernel
theorem d_MO_next_61 : decode prog_15_method_61_code 61 = .ok (.aload_n 0, 1) := by decide +kernel
theorem d_MO_next_62 : decode prog_15_method_61_code 62 = .ok (.iload_n 2, 1) := by decide +kernel
theorem d_MO_next_63 : decode prog_15_method_61_code 63 = .ok (.invokevirtual 367, 3) := by decide +kernel
theorem d_MO_next_66 : decode prog_15_method_61_code 66 = .ok (.aload_n 0, 1) := by decide +kernel
theorem d_MO_next_67 : decode prog_15_method_61_code 67 = .ok (.getfield 196, 3) := by decide +kernel
theorem d_MO_next_70 : decode prog_15_method_61_code 70 = .ok (.ifCond .le 4, 3) := by decide +kernel
theorem d_MO_next_73 : decode prog_15_method_61_code 73 = .ok (.return_, 1) := by decide +kernel
theorem d_MO_next_74 : decode prog_15_method_61_code 74 = .ok (.aload_n 0, 1) := by decide +kernel
theorem d_MO_next_75 : decode prog_15_method_61_code 75 = .ok (.iload_n 2, 1) := by decide +kernel
theorem d_MO_next_76 : decode prog_15_method_61_code 76 = .ok (.invokevirtual 370, 3) := by decide +kernel
theorem d_MO_next_79 : decode prog_15_method_61_code 79 = .ok (.istore_n 3, 1) := by decide +kernel
theorem d_MO_next_80 : decode prog_15_method_61_code 80 = .ok (.aload_n 0, 1) := by decide +kernel
theorem d_MO_next_81 : decode prog_15_method_61_code 81 = .ok (.getfield 358, 3) := by decide +kernel
theorem d_MO_next_84 : decode prog_15_method_61_code 84 = .ok (.ifCond .eq 17, 3) := by decide +kernel
theorem d_MO_next_87 : decode prog_15_method_61_code 87 = .ok (.aload_n 0, 1) := by decide +kernel
theorem d_MO_next_88 : decode prog_15_method_61_code 88 = .ok (.getfield 127, 3) := by decide +kernel
theorem d_MO_next_91 : decode prog_15_method_61_code 91 = .ok (.aload_n 0, 1) := by decide +kernel
theorem d_MO_next_92 : decode prog_15_method_61_code 92 = .ok (.getfield 358, 3) := by decide +kernel
theorem d_MO_next_95 : decode prog_15_method_61_code 95 = .ok (.iconst 1, 1) := by decide +kernel
theorem d_MO_next_96 : decode prog_15_method_61_code 96 = .ok (.isub, 1) := by decide +kernel
theorem d_MO_next_97 : decode prog_15_method_61_code 97 = .ok (.baload, 1) := by decide +kernel
theorem d_MO_next_98 : decode prog_15_method_61_code 98 = .ok (.ifCond .eq 7, 3) := by decide +kernel
theorem d_MO_next_101 : decode prog_15_method_61_code 101 = .ok (.iconst 1, 1) := by decide +kernel
theorem d_MO_next_102 : decode prog_15_method_61_code 102 = .ok (.goto 4, 3) := by decide +kernel
theorem d_MO_next_105 : decode prog_15_method_61_code 105 = .ok (.iconst 0, 1) := by decide +kernel
theorem d_MO_next_106 : decode prog_15_method_61_code 106 = .ok (.istore 4, 2) := by decide +kernel
theorem d_MO_next_108 : decode prog_15_method_61_code 108 = .ok (.iload 4, 2) := by decide +kernel
theorem d_MO_next_110 : decode prog_15_method_61_code 110 = .ok (.ifCond .eq 15, 3) := by decide +kernel
theorem d_MO_next_113 : decode prog_15_method_61_code 113 = .ok (.aload_n 0, 1) := by decide +kernel
theorem d_MO_next_114 : decode prog_15_method_61_code 114 = .ok (.getfield 244, 3) := by decide +kernel
theorem d_MO_next_117 : decode prog_15_method_61_code 117 = .ok (.iconst 1, 1) := by decide +kernel
theorem d_MO_next_118 : decode prog_15_method_61_code 118 = .ok (.if_icmp .le 7, 3) := by decide +kernel
theorem d_MO_next_121 : decode prog_15_method_61_code 121 = .ok (.iconst 0, 1) := by decide +kernel
theorem d_MO_next_122 : decode prog_15_method_61_code 122 = .ok (.goto 4, 3) := by decide +kernel
theorem d_MO_next_125 : decode prog_15_method_61_code 125 = .ok (.iload_n 3, 1) := by decide +kernel
theorem d_MO_next_126 : decode prog_15_method_61_code 126 = .ok (.istore_n 3, 1) := by decide +kernel
theorem d_MO_next_127 : decode prog_15_method_61_code 127 = .ok (.iload 4, 2) := by decide +kernel
theorem d_MO_next_129 : decode prog_15_method_61_code 129 = .ok (.ifCond .ne 48, 3) := by decide +kernel
theorem d_MO_next_132 : decode prog_15_method_61_code 132 = .ok (.iload_n 3, 1) := by decide +kernel
theorem d_MO_next_133 : decode prog_15_method_61_code 133 = .ok (.iconst 3, 1) := by decide +kernel
theorem d_MO_next_134 : decode prog_15_method_61_code 134 = .ok (.if_icmp .eq 8, 3) := by decide +kernel
theorem d_MO_next_137 : decode prog_15_method_61_code 137 = .ok (.iload_n 3, 1) := by decide +kernel
theorem d_MO_next_138 : decode prog_15_method_61_code 138 = .ok (.iconst 4, 1) := by decide +kernel
theorem d_MO_next_139 : decode prog_15_method_61_code 139 = .ok (.if_icmp .ne 12, 3) := by decide +kernel
theorem d_MO_next_142 : decode prog_15_method_61_code 142 = .ok (.aload_n 0, 1) := by decide +kernel
theorem d_MO_next_143 : decode prog_15_method_61_code 143 = .ok (.iconst 0, 1) := by decide +kernel
theorem d_MO_next_144 : decode prog_15_method_61_code 144 = .ok (.iconst 1, 1) := by decide +kernel
theorem d_MO_next_145 : decode prog_15_method_61_code 145 = .ok (.invokevirtual 405, 3) := by decide +kernel
theorem d_MO_next_148 : decode prog_15_method_61_code 148 = .ok (.goto 84, 3) := by decide +kernel
theorem d_MO_next_151 : decode prog_15_method_61_code 151 = .ok (.iload_n 3, 1) := by decide +kernel
theorem d_MO_next_152 : decode prog_15_method_61_code 152 = .ok (.iconst 5, 1) := by decide +kernel
theorem d_MO_next_153 : decode prog_15_method_61_code 153 = .ok (.if_icmp .eq 15, 3) := by decide +kernel
theorem d_MO_next_156 : decode prog_15_method_61_code 156 = .ok (.iload_n 3, 1) := by decide +kernel
theorem d_MO_next_157 : decode prog_15_method_61_code 157 = .ok (.bipush 6, 2) := by decide +kernel
theorem d_MO_next_159 : decode prog_15_method_61_code 159 = .ok (.if_icmp .eq 9, 3) := by decide +kernel
theorem d_MO_next_162 : decode prog_15_method_61_code 162 = .ok (.iload_n 3, 1) := by decide +kernel
theorem d_MO_next_163 : decode prog_15_method_61_code 163 = .ok (.bipush 7, 2) := by decide +kernel
theorem d_MO_next_165 : decode prog_15_method_61_code 165 = .ok (.if_icmp .ne 67, 3) := by decide +kernel
theorem d_MO_next_168 : decode prog_15_method_61_code 168 = .ok (.aload_n 0, 1) := by decide +kernel
theorem d_MO_next_169 : decode prog_15_method_61_code 169 = .ok (.iload_n 3, 1) := by decide +kernel
theorem d_MO_next_170 : decode prog_15_method_61_code 170 = .ok (.iload_n 2, 1) := by decide +kernel
theorem d_MO_next_171 : decode prog_15_method_61_code 171 = .ok (.invokevirtual 442, 3) := by decide +kernel
theorem d_MO_next_174 : decode prog_15_method_61_code 174 = .ok (.goto 58, 3) := by decide +kernel
theorem d_MO_next_177 : decode prog_15_method_61_code 177 = .ok (.iload_n 3, 1) := by decide +kernel
theorem d_MO_next_178 : decode prog_15_method_61_code 178 = .ok (.iconst 5, 1) := by decide +kernel
theorem d_MO_next_179 : decode prog_15_method_61_code 179 = .ok (.if_icmp .eq 15, 3) := by decide +kernel
theorem d_MO_next_182 : decode prog_15_method_61_code 182 = .ok (.iload_n 3, 1) := by decide +kernel
theorem d_MO_next_183 : decode prog_15_method_61_code 183 = .ok (.bipush 6, 2) := by decide +kernel
theorem d_MO_next_185 : decode prog_15_method_61_code 185 = .ok (.if_icmp .eq 9, 3) := by decide +kernel
theorem d_MO_next_188 : decode prog_15_method_61_code 188 = .ok (.iload_n 3, 1) := by decide +kernel
theorem d_MO_next_189 : decode prog_15_method_61_code 189 = .ok (.bipush 7, 2) := by decide +kernel
theorem d_MO_next_191 : decode prog_15_method_61_code 191 = .ok (.if_icmp .ne 12, 3) := by decide +kernel
theorem d_MO_next_194 : decode prog_15_method_61_code 194 = .ok (.aload_n 0, 1) := by decide +kernel
theorem d_MO_next_195 : decode prog_15_method_61_code 195 = .ok (.iload_n 3, 1) := by decide +kernel
theorem d_MO_next_196 : decode prog_15_method_61_code 196 = .ok (.iload_n 2, 1) := by decide +kernel
theorem d_MO_next_197 : decode prog_15_method_61_code 197 = .ok (.invokevirtual 442, 3) := by decide +kernel
theorem d_MO_next_200 : decode prog_15_method_61_code 200 = .ok (.goto 32, 3) := by decide +kernel
theorem d_MO_next_203 : decode prog_15_method_61_code 203 = .ok (.iload_n 3, 1) := by decide +kernel
theorem d_MO_next_204 : decode prog_15_method_61_code 204 = .ok (.bipush 9, 2) := by decide +kernel
theorem d_MO_next_206 : decode prog_15_method_61_code 206 = .ok (.if_icmp .eq 9, 3) := by decide +kernel
theorem d_MO_next_209 : decode prog_15_method_61_code 209 = .ok (.iload_n 3, 1) := by decide +kernel
theorem d_MO_next_210 : decode prog_15_method_61_code 210 = .ok (.bipush 12, 2) := by decide +kernel
theorem d_MO_next_212 : decode prog_15_method_61_code 212 = .ok (.if_icmp .ne 15, 3) := by decide +kernel
theorem d_MO_next_215 : decode prog_15_method_61_code 215 = .ok (.aload_n 0, 1) := by decide +kernel
theorem d_MO_next_216 : decode prog_15_method_61_code 216 = .ok (.iconst 5, 1) := by decide +kernel
theorem d_MO_next_217 : decode prog_15_method_61_code 217 = .ok (.aload_n 0, 1) := by decide +kernel
theorem d_MO_next_218 : decode prog_15_method_61_code 218 = .ok (.getfield 247, 3) := by decide +kernel
theorem d_MO_next_221 : decode prog_15_method_61_code 221 = .ok (.invokevirtual 250, 3) := by decide +kernel
theorem d_MO_next_224 : decode prog_15_method_61_code 224 = .ok (.goto 8, 3) := by decide +kernel
theorem d_MO_next_227 : decode prog_15_method_61_code 227 = .ok (.aload_n 0, 1) := by decide +kernel
theorem d_MO_next_228 : decode prog_15_method_61_code 228 = .ok (.iload_n 2, 1) := by decide +kernel
theorem d_MO_next_229 : decode prog_15_method_61_code 229 = .ok (.invokevirtual 457, 3) := by decide +kernel
theorem d_MO_next_232 : decode prog_15_method_61_code 232 = .ok (.return_, 1) := by decide +kernel
theorem d_MO_expand_0 : decode prog_15_method_62_code 0 = .ok (.aload_n 0, 1) := by decide +kernel
theorem d_MO_expand_1 : decode prog_15_method_62_code 1 = .ok (.iconst 0, 1) := by decide +kernel
theorem d_MO_expand_2 : decode prog_15_method_62_code 2 = .ok (.putfield 179, 3) := by decide +kernel
theorem d_MO_expand_5 : decode prog_15_method_62_code 5 = .ok (.aload_n 0, 1) := by decide +kernel
theorem d_MO_expand_6 : decode prog_15_method_62_code 6 = .ok (.invokevirtual 460, 3) := by decide +kernel
theorem d_MO_expand_9 : decode prog_15_method_62_code 9 = .ok (.aload_n 0, 1) := by decide +kernel
theorem d_MO_expand_10 : decode prog_15_method_62_code 10 = .ok (.iconst 0, 1) := by decide +kernel
theorem d_MO_expand_11 : decode prog_15_method_62_code 11 = .ok (.putfield 196, 3) := by decide +kernel
theorem d_MO_expand_14 : decode prog_15_method_62_code 14 = .ok (.aload_n 0, 1) := by decide +kernel
theorem d_MO_expand_15 : decode prog_15_method_62_code 15 = .ok (.iconst (-1), 1) := by decide +kernel
theorem d_MO_expand_16 : decode prog_15_method_62_code 16 = .ok (.putfield 19, 3) := by decide +kernel
theorem d_MO_expand_19 : decode prog_15_method_62_code 19 = .ok (.aload_n 0, 1) := by decide +kernel
theorem d_MO_expand_20 : decode prog_15_method_62_code 20 = .ok (.iconst 0, 1) := by decide +kernel
theorem d_MO_expand_21 : decode prog_15_method_62_code 21 = .ok (.putfield 241, 3) := by decide +kernel
theorem d_MO_expand_24 : decode prog_15_method_62_code 24 = .ok (.aload_n 0, 1) := by decide +kernel
theorem d_MO_expand_25 : decode prog_15_method_62_code 25 = .ok (.iconst 0, 1) := by decide +kernel
theorem d_MO_expand_26 : decode prog_15_method_62_code 26 = .ok (.putfield 390, 3) := by decide +kernel
theorem d_MO_expand_29 : decode prog_15_method_62_code 29 = .ok (.aload_n 0, 1) := by decide +kernel
theorem d_MO_expand_30 : decode prog_15_method_62_code 30 = .ok (.iconst 0, 1) := by decide +kernel
theorem d_MO_expand_31 : decode prog_15_method_62_code 31 = .ok (.putfield 361, 3) := by decide +kernel
theorem d_MO_expand_34 : decode prog_15_method_62_code 34 = .ok (.aload_n 0, 1) := by decide +kernel
theorem d_MO_expand_35 : decode prog_15_method_62_code 35 = .ok (.iconst 0, 1) := by decide +kernel
theorem d_MO_expand_36 : decode prog_15_method_62_code 36 = .ok (.putfield 387, 3) := by decide +kernel
theorem d_MO_expand_39 : decode prog_15_method_62_code 39 = .ok (.aload_n 0, 1) := by decide +kernel
theorem d_MO_expand_40 : decode prog_15_method_62_code 40 = .ok (.iconst 0, 1) := by decide +kernel
theorem d_MO_expand_41 : decode prog_15_method_62_code 41 = .ok (.putfield 298, 3) := by decide +kernel
theorem d_MO_expand_44 : decode prog_15_method_62_code 44 = .ok (.aload_n 0, 1) := by decide +kernel
theorem d_MO_expand_45 : decode prog_15_method_62_code 45 = .ok (.iconst 0, 1) := by decide +kernel
theorem d_MO_expand_46 : decode prog_15_method_62_code 46 = .ok (.putfield 415, 3) := by decide +kernel
theorem d_MO_expand_49 : decode prog_15_method_62_code 49 = .ok (.aload_n 0, 1) := by decide +kernel
theorem d_MO_expand_50 : decode prog_15_method_62_code 50 = .ok (.iconst 0, 1) := by decide +kernel
theorem d_MO_expand_51 : decode prog_15_method_62_code 51 = .ok (.putfield 418, 3) := by decide +kernel
theorem d_MO_expand_54 : decode prog_15_method_62_code 54 = .ok (.aload_n 0, 1) := by decide +kernel
theorem d_MO_expand_55 : decode prog_15_method_62_code 55 = .ok (.iconst 0, 1) := by decide +kernel
theorem d_MO_expand_56 : decode prog_15_method_62_code 56 = .ok (.putfield 358, 3) := by decide +kernel
theorem d_MO_expand_59 : decode prog_15_method_62_code 59 = .ok (.aload_n 0, 1) := by decide +kernel
theorem d_MO_expand_60 : decode prog_15_method_62_code 60 = .ok (.iconst 0, 1) := by decide +kernel
theorem d_MO_expand_61 : decode prog_15_method_62_code 61 = .ok (.putfield 244, 3) := by decide +kernel
theorem d_MO_expand_64 : decode prog_15_method_62_code 64 = .ok (.aload_n 0, 1) := by decide +kernel
theorem d_MO_expand_65 : decode prog_15_method_62_code 65 = .ok (.iconst 0, 1) := by decide +kernel
theorem d_MO_expand_66 : decode prog_15_method_62_code 66 = .ok (.putfield 349, 3) := by decide +kernel
theorem d_MO_expand_69 : decode prog_15_method_62_code 69 = .ok (.aload_n 0, 1) := by decide +kernel
theorem d_MO_expand_70 : decode prog_15_method_62_code 70 = .ok (.iconst 0, 1) := by decide +kernel
theorem d_MO_expand_71 : decode prog_15_method_62_code 71 = .ok (.putfield 352, 3) := by decide +kernel
theorem d_MO_expand_74 : decode prog_15_method_62_code 74 = .ok (.aload_n 0, 1) := by decide +kernel
theorem d_MO_expand_75 : decode prog_15_method_62_code 75 = .ok (.iconst 0, 1) := by decide +kernel
theorem d_MO_expand_76 : decode prog_15_method_62_code 76 = .ok (.putfield 247, 3) := by decide +kernel
theorem d_MO_expand_79 : decode prog_15_method_62_code 79 = .ok (.aload_n 0, 1) := by decide +kernel
theorem d_MO_expand_80 : decode prog_15_method_62_code 80 = .ok (.iconst 0, 1) := by decide +kernel
theorem d_MO_expand_81 : decode prog_15_method_62_code 81 = .ok (.iconst 0, 1) := by decide +kernel
theorem d_MO_expand_82 : decode prog_15_method_62_code 82 = .ok (.aload_n 0, 1) := by decide +kernel
theorem d_MO_expand_83 : decode prog_15_method_62_code 83 = .ok (.getfield 193, 3) := by decide +kernel
theorem d_MO_expand_86 : decode prog_15_method_62_code 86 = .ok (.iconst 1, 1) := by decide +kernel
theorem d_MO_expand_87 : decode prog_15_method_62_code 87 = .ok (.iconst 0, 1) := by decide +kernel
theorem d_MO_expand_88 : decode prog_15_method_62_code 88 = .ok (.iconst 0, 1) := by decide +kernel
theorem d_MO_expand_89 : decode prog_15_method_62_code 89 = .ok (.invokevirtual 380, 3) := by decide +kernel
theorem d_MO_expand_92 : decode prog_15_method_62_code 92 = .ok (.aload_n 0, 1) := by decide +kernel
theorem d_MO_expand_93 : decode prog_15_method_62_code 93 = .ok (.getfield 244, 3) := by decide +kernel
theorem d_MO_expand_96 : decode prog_15_method_62_code 96 = .ok (.ifCond .le 17, 3) := by decide +kernel
theorem d_MO_expand_99 : decode prog_15_method_62_code 99 = .ok (.aload_n 0, 1) := by decide +kernel
theorem d_MO_expand_100 : decode prog_15_method_62_code 100 = .ok (.getfield 196, 3) := by decide +kernel
theorem d_MO_expand_103 : decode prog_15_method_62_code 103 = .ok (.ifCond .ne 10, 3) := by decide +kernel
theorem d_MO_expand_106 : decode prog_15_method_62_code 106 = .ok (.aload_n 0, 1) := by decide +kernel
theorem d_MO_expand_107 : decode prog_15_method_62_code 107 = .ok (.invokevirtual 463, 3) := by decide +kernel
theorem d_MO_expand_110 : decode prog_15_method_62_code 110 = .ok (.goto (-18), 3) := by decide +kernel
theorem d_MO_expand_113 : decode prog_15_method_62_code 113 = .ok (.aload_n 0, 1) := by decide +kernel
theorem d_MO_expand_114 : decode prog_15_method_62_code 114 = .ok (.iconst 1, 1) := by decide +kernel
theorem d_MO_expand_115 : decode prog_15_method_62_code 115 = .ok (.putfield 466, 3) := by decide +kernel
theorem d_MO_expand_118 : decode prog_15_method_62_code 118 = .ok (.aload_n 0, 1) := by decide +kernel
theorem d_MO_expand_119 : decode prog_15_method_62_code 119 = .ok (.getfield 196, 3) := by decide +kernel
theorem d_MO_expand_122 : decode prog_15_method_62_code 122 = .ok (.ifCond .le 7, 3) := by decide +kernel
theorem d_MO_expand_125 : decode prog_15_method_62_code 125 = .ok (.iconst (-1), 1) := by decide +kernel
theorem d_MO_expand_126 : decode prog_15_method_62_code 126 = .ok (.goto 7, 3) := by decide +kernel
theorem d_MO_expand_129 : decode prog_15_method_62_code 129 = .ok (.aload_n 0, 1) := by decide +kernel
theorem d_MO_expand_130 : decode prog_15_method_62_code 130 = .ok (.getfield 415, 3) := by decide +kernel
theorem d_MO_expand_133 : decode prog_15_method_62_code 133 = .ok (.ireturn, 1) := by decide +kernel
theorem d_MO_about_0 : decode prog_15_method_63_code 0 = .ok (.aload_n 0, 1) := by decide +kernel
theorem d_MO_about_1 : decode prog_15_method_63_code 1 = .ok (.iload_n 1, 1) := by decide +kernel
theorem d_MO_about_2 : decode prog_15_method_63_code 2 = .ok (.iconst 0, 1) := by decide +kernel
theorem d_MO_about_3 : decode prog_15_method_63_code 3 = .ok (.bipush 8, 2) := by decide +kernel
theorem d_MO_about_5 : decode prog_15_method_63_code 5 = .ok (.invokestatic 182, 3) := by decide +kernel
theorem d_MO_about_8 : decode prog_15_method_63_code 8 = .ok (.ifCond .ne 7, 3) := by decide +kernel
theorem d_MO_about_11 : decode prog_15_method_63_code 11 = .ok (.iconst 1, 1) := by decide +kernel
theorem d_MO_about_12 : decode prog_15_method_63_code 12 = .ok (.goto 4, 3) := by decide +kernel
theorem d_MO_about_15 : decode prog_15_method_63_code 15 = .ok (.iconst 0, 1) := by decide +kernel
theorem d_MO_about_16 : decode prog_15_method_63_code 16 = .ok (.iconst 0, 1) := by decide +kernel
theorem d_MO_about_17 : decode prog_15_method_63_code 17 = .ok (.invokevirtual 189, 3) := by decide +kernel
theorem d_MO_about_20 : decode prog_15_method_63_code 20 = .ok (.ifCond .eq 5, 3) := by decide +kernel
theorem d_MO_about_23 : decode prog_15_method_63_code 23 = .ok (.iconst 0, 1) := by decide +kernel
theorem d_MO_about_24 : decode prog_15_method_63_code 24 = .ok (.ireturn, 1) := by decide +kernel
theorem d_MO_about_25 : decode prog_15_method_63_code 25 = .ok (.iload_n 1, 1) := by decide +kernel
theorem d_MO_about_26 : decode prog_15_method_63_code 26 = .ok (.tableswitch 86 0 7 #[46, 51, 56, 61, 66, 71, 76, 81], 46) := by decide +kernel
theorem d_MO_about_72 : decode prog_15_method_63_code 72 = .ok (.aload_n 0, 1) := by decide +kernel
theorem d_MO_about_73 : decode prog_15_method_63_code 73 = .ok (.getfield 196, 3) := by decide +kernel
theorem d_MO_about_76 : decode prog_15_method_63_code 76 = .ok (.ireturn, 1) := by decide +kernel
theorem d_MO_about_77 : decode prog_15_method_63_code 77 = .ok (.aload_n 0, 1) := by decide +kernel
theorem d_MO_about_78 : decode prog_15_method_63_code 78 = .ok (.getfield 19, 3) := by decide +kernel
theorem d_MO_about_81 : decode prog_15_method_63_code 81 = .ok (.ireturn, 1) := by decide +kernel
theorem d_MO_about_82 : decode prog_15_method_63_code 82 = .ok (.aload_n 0, 1) := by decide +kernel
theorem d_MO_about_83 : decode prog_15_method_63_code 83 = .ok (.getfield 241, 3) := by decide +kernel
theorem d_MO_about_86 : decode prog_15_method_63_code 86 = .ok (.ireturn, 1) := by decide +kernel
theorem d_MO_about_87 : decode prog_15_method_63_code 87 = .ok (.aload_n 0, 1) := by decide +kernel
theorem d_MO_about_88 : decode prog_15_method_63_code 88 = .ok (.getfield 390, 3) := by decide +kernel
theorem d_MO_about_91 : decode prog_15_method_63_code 91 = .ok (.ireturn, 1) := by decide +kernel
theorem d_MO_about_92 : decode prog_15_method_63_code 92 = .ok (.aload_n 0, 1) := by decide +kernel
theorem d_MO_about_93 : decode prog_15_method_63_code 93 = .ok (.getfield 387, 3) := by decide +kernel
theorem d_MO_about_96 : decode prog_15_method_63_code 96 = .ok (.ireturn, 1) := by decide +kernel
theorem d_MO_about_97 : decode prog_15_method_63_code 97 = .ok (.aload_n 0, 1) := by decide +kernel
theorem d_MO_about_98 : decode prog_15_method_63_code 98 = .ok (.getfield 298, 3) := by decide +kernel
theorem d_MO_about_101 : decode prog_15_method_63_code 101 = .ok (.ireturn, 1) := by decide +kernel
theorem d_MO_about_102 : decode prog_15_method_63_code 102 = .ok (.aload_n 0, 1) := by decide +kernel
theorem d_MO_about_103 : decode prog_15_method_63_code 103 = .ok (.getfield 415, 3) := by decide +kernel
theorem d_MO_about_106 : decode prog_15_method_63_code 106 = .ok (.ireturn, 1) := by decide +kernel
theorem d_MO_about_107 : decode prog_15_method_63_code 107 = .ok (.aload_n 0, 1) := by decide +kernel
theorem d_MO_about_108 : decode prog_15_method_63_code 108 = .ok (.getfield 418, 3) := by decide +kernel
theorem d_MO_about_111 : decode prog_15_method_63_code 111 = .ok (.ireturn, 1) := by decide +kernel
theorem d_MO_about_112 : decode prog_15_method_63_code 112 = .ok (.aload_n 0, 1) := by decide +kernel
theorem d_MO_about_113 : decode prog_15_method_63_code 113 = .ok (.getfield 361, 3) := by decide +kernel
theorem d_MO_about_116 : decode prog_15_method_63_code 116 = .ok (.ireturn, 1) := by decide +kernel
theorem d_MO_line_0 : decode prog_15_method_64_code 0 = .ok (.iload_n 1, 1) := by decide +kernel
theorem d_MO_line_1 : decode prog_15_method_64_code 1 = .ok (.iconst 0, 1) := by decide +kernel
theorem d_MO_line_2 : decode prog_15_method_64_code 2 = .ok (.aload_n 0, 1) := by decide +kernel
theorem d_MO_line_3 : decode prog_15_method_64_code 3 = .ok (.getfield 415, 3) := by decide +kernel
theorem d_MO_line_6 : decode prog_15_method_64_code 6 = .ok (.iconst 1, 1) := by decide +kernel
theorem d_MO_line_7 : decode prog_15_method_64_code 7 = .ok (.isub, 1) := by decide +kernel
theorem d_MO_line_8 : decode prog_15_method_64_code 8 = .ok (.invokestatic 182, 3) := by decide +kernel
theorem d_MO_line_11 : decode prog_15_method_64_code 11 = .ok (.istore_n 3, 1) := by decide +kernel
theorem d_MO_line_12 : decode prog_15_method_64_code 12 = .ok (.aload_n 0, 1) := by decide +kernel
theorem d_MO_line_13 : decode prog_15_method_64_code 13 = .ok (.iload_n 3, 1) := by decide +kernel
theorem d_MO_line_14 : decode prog_15_method_64_code 14 = .ok (.ifCond .ne 7, 3) := by decide +kernel
theorem d_MO_line_17 : decode prog_15_method_64_code 17 = .ok (.iconst 1, 1) := by decide +kernel
theorem d_MO_line_18 : decode prog_15_method_64_code 18 = .ok (.goto 4, 3) := by decide +kernel
theorem d_MO_line_21 : decode prog_15_method_64_code 21 = .ok (.iconst 0, 1) := by decide +kernel
theorem d_MO_line_22 : decode prog_15_method_64_code 22 = .ok (.iload_n 3, 1) := by decide +kernel
theorem d_MO_line_23 : decode prog_15_method_64_code 23 = .ok (.ifCond .eq 11, 3) := by decide +kernel
theorem d_MO_line_26 : decode prog_15_method_64_code 26 = .ok (.iload_n 2, 1) := by decide +kernel
theorem d_MO_line_27 : decode prog_15_method_64_code 27 = .ok (.ifCond .ge 7, 3) := by decide +kernel
theorem d_MO_line_30 : decode prog_15_method_64_code 30 = .ok (.iconst 1, 1) := by decide +kernel
theorem d_MO_line_31 : decode prog_15_method_64_code 31 = .ok (.goto 4, 3) := by decide +kernel
theorem d_MO_line_34 : decode prog_15_method_64_code 34 = .ok (.iconst 0, 1) := by decide +kernel
theorem d_MO_line_35 : decode prog_15_method_64_code 35 = .ok (.invokevirtual 189, 3) := by decide +kernel
theorem d_MO_line_38 : decode prog_15_method_64_code 38 = .ok (.ifCond .eq 5, 3) := by decide +kernel
theorem d_MO_line_41 : decode prog_15_method_64_code 41 = .ok (.iconst 0, 1) := by decide +kernel
theorem d_MO_line_42 : decode prog_15_method_64_code 42 = .ok (.ireturn, 1) := by decide +kernel
theorem d_MO_line_43 : decode prog_15_method_64_code 43 = .ok (.aload_n 0, 1) := by decide +kernel
theorem d_MO_line_44 : decode prog_15_method_64_code 44 = .ok (.getfield 66, 3) := by decide +kernel
theorem d_MO_line_47 : decode prog_15_method_64_code 47 = .ok (.iload_n 1, 1) := by decide +kernel
theorem d_MO_line_48 : decode prog_15_method_64_code 48 = .ok (.iconst 1, 1) := by decide +kernel
theorem d_MO_line_49 : decode prog_15_method_64_code 49 = .ok (.iadd, 1) := by decide +kernel
theorem d_MO_line_50 : decode prog_15_method_64_code 50 = .ok (.iaload, 1) := by decide +kernel
theorem d_MO_line_51 : decode prog_15_method_64_code 51 = .ok (.aload_n 0, 1) := by decide +kernel
theorem d_MO_line_52 : decode prog_15_method_64_code 52 = .ok (.getfield 66, 3) := by decide +kernel
theorem d_MO_line_55 : decode prog_15_method_64_code 55 = .ok (.iload_n 1, 1) := by decide +kernel
theorem d_MO_line_56 : decode prog_15_method_64_code 56 = .ok (.iaload, 1) := by decide +kernel
theorem d_MO_line_57 : decode prog_15_method_64_code 57 = .ok (.isub, 1) := by decide +kernel
theorem d_MO_line_58 : decode prog_15_method_64_code 58 = .ok (.istore 4, 2) := by decide +kernel
theorem d_MO_line_60 : decode prog_15_method_64_code 60 = .ok (.iload_n 2, 1) := by decide +kernel
theorem d_MO_line_61 : decode prog_15_method_64_code 61 = .ok (.tableswitch 44 0 2 #[27, 30, 37], 27) := by decide +kernel
theorem d_MO_line_88 : decode prog_15_method_64_code 88 = .ok (.iload 4, 2) := by decide +kernel
theorem d_MO_line_90 : decode prog_15_method_64_code 90 = .ok (.ireturn, 1) := by decide +kernel
theorem d_MO_line_91 : decode prog_15_method_64_code 91 = .ok (.aload_n 0, 1) := by decide +kernel
theorem d_MO_line_92 : decode prog_15_method_64_code 92 = .ok (.getfield 69, 3) := by decide +kernel
theorem d_MO_line_95 : decode prog_15_method_64_code 95 = .ok (.iload_n 1, 1) := by decide +kernel
theorem d_MO_line_96 : decode prog_15_method_64_code 96 = .ok (.iaload, 1) := by decide +kernel
theorem d_MO_line_97 : decode prog_15_method_64_code 97 = .ok (.ireturn, 1) := by decide +kernel
theorem d_MO_line_98 : decode prog_15_method_64_code 98 = .ok (.aload_n 0, 1) := by decide +kernel
theorem d_MO_line_99 : decode prog_15_method_64_code 99 = .ok (.getfield 72, 3) := by decide +kernel
theorem d_MO_line_102 : decode prog_15_method_64_code 102 = .ok (.iload_n 1, 1) := by decide +kernel
theorem d_MO_line_103 : decode prog_15_method_64_code 103 = .ok (.iaload, 1) := by decide +kernel
theorem d_MO_line_104 : decode prog_15_method_64_code 104 = .ok (.ireturn, 1) := by decide +kernel
theorem d_MO_line_105 : decode prog_15_method_64_code 105 = .ok (.iload_n 2, 1) := by decide +kernel
theorem d_MO_line_106 : decode prog_15_method_64_code 106 = .ok (.iconst 3, 1) := by decide +kernel
theorem d_MO_line_107 : decode prog_15_method_64_code 107 = .ok (.isub, 1) := by decide +kernel
theorem d_MO_line_108 : decode prog_15_method_64_code 108 = .ok (.iload 4, 2) := by decide +kernel
theorem d_MO_line_110 : decode prog_15_method_64_code 110 = .ok (.if_icmp .ge 21, 3) := by decide +kernel
theorem d_MO_line_113 : decode prog_15_method_64_code 113 = .ok (.aload_n 0, 1) := by decide +kernel
theorem d_MO_line_114 : decode prog_15_method_64_code 114 = .ok (.getfield 75, 3) := by decide +kernel
theorem d_MO_line_117 : decode prog_15_method_64_code 117 = .ok (.aload_n 0, 1) := by decide +kernel
theorem d_MO_line_118 : decode prog_15_method_64_code 118 = .ok (.getfield 66, 3) := by decide +kernel
theorem d_MO_line_121 : decode prog_15_method_64_code 121 = .ok (.iload_n 1, 1) := by decide +kernel
theorem d_MO_line_122 : decode prog_15_method_64_code 122 = .ok (.iaload, 1) := by decide +kernel
theorem d_MO_line_123 : decode prog_15_method_64_code 123 = .ok (.iload_n 2, 1) := by decide +kernel
theorem d_MO_line_124 : decode prog_15_method_64_code 124 = .ok (.iadd, 1) := by decide +kernel
theorem d_MO_line_125 : decode prog_15_method_64_code 125 = .ok (.iconst 3, 1) := by decide +kernel
theorem d_MO_line_126 : decode prog_15_method_64_code 126 = .ok (.isub, 1) := by decide +kernel
theorem d_MO_line_127 : decode prog_15_method_64_code 127 = .ok (.iaload, 1) := by decide +kernel
theorem d_MO_line_128 : decode prog_15_method_64_code 128 = .ok (.goto 4, 3) := by decide +kernel
theorem d_MO_line_131 : decode prog_15_method_64_code 131 = .ok (.iconst (-1), 1) := by decide +kernel
theorem d_MO_line_132 : decode prog_15_method_64_code 132 = .ok (.ireturn, 1) := by decide +kernel
theorem d_MO_signOf_0 : decode prog_15_method_65_code 0 = .ok (.iload 4, 2) := by decide +kernel
theorem d_MO_signOf_2 : decode prog_15_method_65_code 2 = .ok (.iconst 0, 1) := by decide +kernel
theorem d_MO_signOf_3 : decode prog_15_method_65_code 3 = .ok (.bipush 11, 2) := by decide +kernel
theorem d_MO_signOf_5 : decode prog_15_method_65_code 5 = .ok (.invokestatic 182, 3) := by decide +kernel
theorem d_MO_signOf_8 : decode prog_15_method_65_code 8 = .ok (.ifCond .ne 5, 3) := by decide +kernel
theorem d_MO_signOf_11 : decode prog_15_method_65_code 11 = .ok (.iconst (-1), 1) := by decide +kernel
theorem d_MO_signOf_12 : decode prog_15_method_65_code 12 = .ok (.ireturn, 1) := by decide +kernel
theorem d_MO_signOf_13 : decode prog_15_method_65_code 13 = .ok (.iload 4, 2) := by decide +kernel
theorem d_MO_signOf_15 : decode prog_15_method_65_code 15 = .ok (.bipush 8, 2) := by decide +kernel
theorem d_MO_signOf_17 : decode prog_15_method_65_code 17 = .ok (.if_icmp .ge 7, 3) := by decide +kernel
theorem d_MO_signOf_20 : decode prog_15_method_65_code 20 = .ok (.lload_n 0, 1) := by decide +kernel
theorem d_MO_signOf_21 : decode prog_15_method_65_code 21 = .ok (.goto 4, 3) := by decide +kernel
theorem d_MO_signOf_24 : decode prog_15_method_65_code 24 = .ok (.lload_n 2, 1) := by decide +kernel
theorem d_MO_signOf_25 : decode prog_15_method_65_code 25 = .ok (.bipush 8, 2) := by decide +kernel
theorem d_MO_signOf_27 : decode prog_15_method_65_code 27 = .ok (.iload 4, 2) := by decide +kernel
theorem d_MO_signOf_29 : decode prog_15_method_65_code 29 = .ok (.bipush 8, 2) := by decide +kernel
theorem d_MO_signOf_31 : decode prog_15_method_65_code 31 = .ok (.irem, 1) := by decide +kernel
theorem d_MO_signOf_32 : decode prog_15_method_65_code 32 = .ok (.imul, 1) := by decide +kernel
theorem d_MO_signOf_33 : decode prog_15_method_65_code 33 = .ok (.lshr, 1) := by decide +kernel
theorem d_MO_signOf_34 : decode prog_15_method_65_code 34 = .ok (.ldc2_w 469, 3) := by decide +kernel
theorem d_MO_signOf_37 : decode prog_15_method_65_code 37 = .ok (.land, 1) := by decide +kernel
theorem d_MO_signOf_38 : decode prog_15_method_65_code 38 = .ok (.l2i, 1) := by decide +kernel
theorem d_MO_signOf_39 : decode prog_15_method_65_code 39 = .ok (.istore 5, 2) := by decide +kernel
theorem d_MO_signOf_41 : decode prog_15_method_65_code 41 = .ok (.iload 5, 2) := by decide +kernel
theorem d_MO_signOf_43 : decode prog_15_method_65_code 43 = .ok (.ifCond .ne 7, 3) := by decide +kernel
theorem d_MO_signOf_46 : decode prog_15_method_65_code 46 = .ok (.iconst (-1), 1) := by decide +kernel
theorem d_MO_signOf_47 : decode prog_15_method_65_code 47 = .ok (.goto 5, 3) := by decide +kernel
theorem d_MO_signOf_50 : decode prog_15_method_65_code 50 = .ok (.iload 5, 2) := by decide +kernel
theorem d_MO_signOf_52 : decode prog_15_method_65_code 52 = .ok (.ireturn, 1) := by decide +kernel
theorem d_MO_constant_0 : decode prog_15_method_66_code 0 = .ok (.iload_n 1, 1) := by decide +kernel
theorem d_MO_constant_1 : decode prog_15_method_66_code 1 = .ok (.iconst 0, 1) := by decide +kernel
theorem d_MO_constant_2 : decode prog_15_method_66_code 2 = .ok (.aload_n 0, 1) := by decide +kernel
theorem d_MO_constant_3 : decode prog_15_method_66_code 3 = .ok (.getfield 298, 3) := by decide +kernel
theorem d_MO_constant_6 : decode prog_15_method_66_code 6 = .ok (.iconst 1, 1) := by decide +kernel
theorem d_MO_constant_7 : decode prog_15_method_66_code 7 = .ok (.isub, 1) := by decide +kernel
theorem d_MO_constant_8 : decode prog_15_method_66_code 8 = .ok (.invokestatic 182, 3) := by decide +kernel
theorem d_MO_constant_11 : decode prog_15_method_66_code 11 = .ok (.istore_n 3, 1) := by decide +kernel
theorem d_MO_constant_12 : decode prog_15_method_66_code 12 = .ok (.aload_n 0, 1) := by decide +kernel
theorem d_MO_constant_13 : decode prog_15_method_66_code 13 = .ok (.iload_n 3, 1) := by decide +kernel
theorem d_MO_constant_14 : decode prog_15_method_66_code 14 = .ok (.ifCond .ne 7, 3) := by decide +kernel
theorem d_MO_constant_17 : decode prog_15_method_66_code 17 = .ok (.iconst 1, 1) := by decide +kernel
theorem d_MO_constant_18 : decode prog_15_method_66_code 18 = .ok (.goto 4, 3) := by decide +kernel
theorem d_MO_constant_21 : decode prog_15_method_66_code 21 = .ok (.iconst 0, 1) := by decide +kernel
theorem d_MO_constant_22 : decode prog_15_method_66_code 22 = .ok (.iload_n 3, 1) := by decide +kernel
theorem d_MO_constant_23 : decode prog_15_method_66_code 23 = .ok (.ifCond .eq 11, 3) := by decide +kernel
theorem d_MO_constant_26 : decode prog_15_method_66_code 26 = .ok (.iload_n 2, 1) := by decide +kernel
theorem d_MO_constant_27 : decode prog_15_method_66_code 27 = .ok (.ifCond .ge 7, 3) := by decide +kernel
theorem d_MO_constant_30 : decode prog_15_method_66_code 30 = .ok (.iconst 1, 1) := by decide +kernel
theorem d_MO_constant_31 : decode prog_15_method_66_code 31 = .ok (.goto 4, 3) := by decide +kernel
theorem d_MO_constant_34 : decode prog_15_method_66_code 34 = .ok (.iconst 0, 1) := by decide +kernel
theorem d_MO_constant_35 : decode prog_15_method_66_code 35 = .ok (.invokevirtual 189, 3) := by decide +kernel
theorem d_MO_constant_38 : decode prog_15_method_66_code 38 = .ok (.ifCond .eq 5, 3) := by decide +kernel
theorem d_MO_constant_41 : decode prog_15_method_66_code 41 = .ok (.iconst 0, 1) := by decide +kernel
theorem d_MO_constant_42 : decode prog_15_method_66_code 42 = .ok (.ireturn, 1) := by decide +kernel
theorem d_MO_constant_43 : decode prog_15_method_66_code 43 = .ok (.iload_n 2, 1) := by decide +kernel
theorem d_MO_constant_44 : decode prog_15_method_66_code 44 = .ok (.ifCond .ne 12, 3) := by decide +kernel
theorem d_MO_constant_47 : decode prog_15_method_66_code 47 = .ok (.aload_n 0, 1) := by decide +kernel
theorem d_MO_constant_48 : decode prog_15_method_66_code 48 = .ok (.getfield 63, 3) := by decide +kernel
theorem d_MO_constant_51 : decode prog_15_method_66_code 51 = .ok (.iload_n 1, 1) := by decide +kernel
theorem d_MO_constant_52 : decode prog_15_method_66_code 52 = .ok (.iaload, 1) := by decide +kernel
theorem d_MO_constant_53 : decode prog_15_method_66_code 53 = .ok (.goto 21, 3) := by decide +kernel
theorem d_MO_constant_56 : decode prog_15_method_66_code 56 = .ok (.aload_n 0, 1) := by decide +kernel
theorem d_MO_constant_57 : decode prog_15_method_66_code 57 = .ok (.getfield 57, 3) := by decide +kernel
theorem d_MO_constant_60 : decode prog_15_method_66_code 60 = .ok (.iload_n 1, 1) := by decide +kernel
theorem d_MO_constant_61 : decode prog_15_method_66_code 61 = .ok (.laload, 1) := by decide +kernel
theorem d_MO_constant_62 : decode prog_15_method_66_code 62 = .ok (.aload_n 0, 1) := by decide +kernel
theorem d_MO_constant_63 : decode prog_15_method_66_code 63 = .ok (.getfield 60, 3) := by decide +kernel
theorem d_MO_constant_66 : decode prog_15_method_66_code 66 = .ok (.iload_n 1, 1) := by decide +kernel
theorem d_MO_constant_67 : decode prog_15_method_66_code 67 = .ok (.laload, 1) := by decide +kernel
theorem d_MO_constant_68 : decode prog_15_method_66_code 68 = .ok (.iload_n 2, 1) := by decide +kernel
theorem d_MO_constant_69 : decode prog_15_method_66_code 69 = .ok (.iconst 1, 1) := by decide +kernel
theorem d_MO_constant_70 : decode prog_15_method_66_code 70 = .ok (.isub, 1) := by decide +kernel
theorem d_MO_constant_71 : decode prog_15_method_66_code 71 = .ok (.invokestatic 471, 3) := by decide +kernel
theorem d_MO_constant_74 : decode prog_15_method_66_code 74 = .ok (.ireturn, 1) := by decide +kernel
theorem d_MO_macro_0 : decode prog_15_method_67_code 0 = .ok (.iload_n 1, 1) := by decide +kernel
theorem d_MO_macro_1 : decode prog_15_method_67_code 1 = .ok (.iconst 0, 1) := by decide +kernel
theorem d_MO_macro_2 : decode prog_15_method_67_code 2 = .ok (.aload_n 0, 1) := by decide +kernel
theorem d_MO_macro_3 : decode prog_15_method_67_code 3 = .ok (.getfield 387, 3) := by decide +kernel
theorem d_MO_macro_6 : decode prog_15_method_67_code 6 = .ok (.iconst 1, 1) := by decide +kernel
theorem d_MO_macro_7 : decode prog_15_method_67_code 7 = .ok (.isub, 1) := by decide +kernel
theorem d_MO_macro_8 : decode prog_15_method_67_code 8 = .ok (.invokestatic 182, 3) := by decide +kernel
theorem d_MO_macro_11 : decode prog_15_method_67_code 11 = .ok (.istore_n 3, 1) := by decide +kernel
theorem d_MO_macro_12 : decode prog_15_method_67_code 12 = .ok (.aload_n 0, 1) := by decide +kernel
theorem d_MO_macro_13 : decode prog_15_method_67_code 13 = .ok (.iload_n 3, 1) := by decide +kernel
theorem d_MO_macro_14 : decode prog_15_method_67_code 14 = .ok (.ifCond .ne 7, 3) := by decide +kernel
theorem d_MO_macro_17 : decode prog_15_method_67_code 17 = .ok (.iconst 1, 1) := by decide +kernel
theorem d_MO_macro_18 : decode prog_15_method_67_code 18 = .ok (.goto 4, 3) := by decide +kernel
theorem d_MO_macro_21 : decode prog_15_method_67_code 21 = .ok (.iconst 0, 1) := by decide +kernel
theorem d_MO_macro_22 : decode prog_15_method_67_code 22 = .ok (.iload_n 3, 1) := by decide +kernel
theorem d_MO_macro_23 : decode prog_15_method_67_code 23 = .ok (.ifCond .eq 11, 3) := by decide +kernel
theorem d_MO_macro_26 : decode prog_15_method_67_code 26 = .ok (.iload_n 2, 1) := by decide +kernel
theorem d_MO_macro_27 : decode prog_15_method_67_code 27 = .ok (.ifCond .ge 7, 3) := by decide +kernel
theorem d_MO_macro_30 : decode prog_15_method_67_code 30 = .ok (.iconst 1, 1) := by decide +kernel
theorem d_MO_macro_31 : decode prog_15_method_67_code 31 = .ok (.goto 4, 3) := by decide +kernel
theorem d_MO_macro_34 : decode prog_15_method_67_code 34 = .ok (.iconst 0, 1) := by decide +kernel
theorem d_MO_macro_35 : decode prog_15_method_67_code 35 = .ok (.invokevirtual 189, 3) := by decide +kernel
theorem d_MO_macro_38 : decode prog_15_method_67_code 38 = .ok (.ifCond .eq 5, 3) := by decide +kernel
theorem d_MO_macro_41 : decode prog_15_method_67_code 41 = .ok (.iconst 0, 1) := by decide +kernel
theorem d_MO_macro_42 : decode prog_15_method_67_code 42 = .ok (.ireturn, 1) := by decide +kernel
theorem d_MO_macro_43 : decode prog_15_method_67_code 43 = .ok (.iload_n 2, 1) := by decide +kernel
theorem d_MO_macro_44 : decode prog_15_method_67_code 44 = .ok (.tableswitch 67 0 3 #[32, 39, 53, 60], 32) := by decide +kernel
theorem d_MO_macro_76 : decode prog_15_method_67_code 76 = .ok (.aload_n 0, 1) := by decide +kernel
theorem d_MO_macro_77 : decode prog_15_method_67_code 77 = .ok (.getfield 42, 3) := by decide +kernel
theorem d_MO_macro_80 : decode prog_15_method_67_code 80 = .ok (.iload_n 1, 1) := by decide +kernel
theorem d_MO_macro_81 : decode prog_15_method_67_code 81 = .ok (.iaload, 1) := by decide +kernel
theorem d_MO_macro_82 : decode prog_15_method_67_code 82 = .ok (.ireturn, 1) := by decide +kernel
theorem d_MO_macro_83 : decode prog_15_method_67_code 83 = .ok (.aload_n 0, 1) := by decide +kernel
theorem d_MO_macro_84 : decode prog_15_method_67_code 84 = .ok (.getfield 33, 3) := by decide +kernel
theorem d_MO_macro_87 : decode prog_15_method_67_code 87 = .ok (.iload_n 1, 1) := by decide +kernel
theorem d_MO_macro_88 : decode prog_15_method_67_code 88 = .ok (.iaload, 1) := by decide +kernel
theorem d_MO_macro_89 : decode prog_15_method_67_code 89 = .ok (.aload_n 0, 1) := by decide +kernel
theorem d_MO_macro_90 : decode prog_15_method_67_code 90 = .ok (.getfield 30, 3) := by decide +kernel
theorem d_MO_macro_93 : decode prog_15_method_67_code 93 = .ok (.iload_n 1, 1) := by decide +kernel
theorem d_MO_macro_94 : decode prog_15_method_67_code 94 = .ok (.iaload, 1) := by decide +kernel
theorem d_MO_macro_95 : decode prog_15_method_67_code 95 = .ok (.isub, 1) := by decide +kernel
theorem d_MO_macro_96 : decode prog_15_method_67_code 96 = .ok (.ireturn, 1) := by decide +kernel
theorem d_MO_macro_97 : decode prog_15_method_67_code 97 = .ok (.aload_n 0, 1) := by decide +kernel
theorem d_MO_macro_98 : decode prog_15_method_67_code 98 = .ok (.getfield 36, 3) := by decide +kernel
theorem d_MO_macro_101 : decode prog_15_method_67_code 101 = .ok (.iload_n 1, 1) := by decide +kernel
theorem d_MO_macro_102 : decode prog_15_method_67_code 102 = .ok (.iaload, 1) := by decide +kernel
theorem d_MO_macro_103 : decode prog_15_method_67_code 103 = .ok (.ireturn, 1) := by decide +kernel
theorem d_MO_macro_104 : decode prog_15_method_67_code 104 = .ok (.aload_n 0, 1) := by decide +kernel
theorem d_MO_macro_105 : decode prog_15_method_67_code 105 = .ok (.getfield 39, 3) := by decide +kernel
theorem d_MO_macro_108 : decode prog_15_method_67_code 108 = .ok (.iload_n 1, 1) := by decide +kernel
theorem d_MO_macro_109 : decode prog_15_method_67_code 109 = .ok (.iaload, 1) := by decide +kernel
theorem d_MO_macro_110 : decode prog_15_method_67_code 110 = .ok (.ireturn, 1) := by decide +kernel
theorem d_MO_macro_111 : decode prog_15_method_67_code 111 = .ok (.aload_n 0, 1) := by decide +kernel
theorem d_MO_macro_112 : decode prog_15_method_67_code 112 = .ok (.getfield 23, 3) := by decide +kernel
theorem d_MO_macro_115 : decode prog_15_method_67_code 115 = .ok (.iload_n 1, 1) := by decide +kernel
theorem d_MO_macro_116 : decode prog_15_method_67_code 116 = .ok (.laload, 1) := by decide +kernel
theorem d_MO_macro_117 : decode prog_15_method_67_code 117 = .ok (.aload_n 0, 1) := by decide +kernel
theorem d_MO_macro_118 : decode prog_15_method_67_code 118 = .ok (.getfield 27, 3) := by decide +kernel
theorem d_MO_macro_121 : decode prog_15_method_67_code 121 = .ok (.iload_n 1, 1) := by decide +kernel
theorem d_MO_macro_122 : decode prog_15_method_67_code 122 = .ok (.laload, 1) := by decide +kernel
theorem d_MO_macro_123 : decode prog_15_method_67_code 123 = .ok (.iload_n 2, 1) := by decide +kernel
theorem d_MO_macro_124 : decode prog_15_method_67_code 124 = .ok (.iconst 4, 1) := by decide +kernel
theorem d_MO_macro_125 : decode prog_15_method_67_code 125 = .ok (.isub, 1) := by decide +kernel
theorem d_MO_macro_126 : decode prog_15_method_67_code 126 = .ok (.invokestatic 471, 3) := by decide +kernel
theorem d_MO_macro_129 : decode prog_15_method_67_code 129 = .ok (.ireturn, 1) := by decide +kernel
theorem hm_MO_thrown : y_MO_thrown.cls ≠ "java/lang/invoke/MethodHandle" ∧ y_MO_thrown.cls ≠ "java/lang/invoke/VarHandle" ∧ (parseMethodDescriptor y_MO_thrown.desc).map (fun d => d.parameters.length) = some 0 := by decide +kernel
theorem hm_MO_in : y_MO_in.cls ≠ "java/lang/invoke/MethodHandle" ∧ y_MO_in.cls ≠ "java/lang/invoke/VarHandle" ∧ (parseMethodDescriptor y_MO_in.desc).map (fun d => d.parameters.length) = some 3 := by decide +kernel
theorem hm_MO_refuse : y_MO_refuse.cls ≠ "java/lang/invoke/MethodHandle" ∧ y_MO_refuse.cls ≠ "java/lang/invoke/VarHandle" ∧ (parseMethodDescriptor y_MO_refuse.desc).map (fun d => d.parameters.length) = some 2 := by decide +kernel
theorem hm_MO_put : y_MO_put.cls ≠ "java/lang/invoke/MethodHandle" ∧ y_MO_put.cls ≠ "java/lang/invoke/VarHandle" ∧ (parseMethodDescriptor y_MO_put.desc).map (fun d => d.parameters.length) = some 1 := by decide +kernel
theorem hm_MO_end : y_MO_end.cls ≠ "java/lang/invoke/MethodHandle" ∧ y_MO_end.cls ≠ "java/lang/invoke/VarHandle" ∧ (parseMethodDescriptor y_MO_end.desc).map (fun d => d.parameters.length) = some 1 := by decide +kernel
theorem hm_MO_findLines : y_MO_findLines.cls ≠ "java/lang/invoke/MethodHandle" ∧ y_MO_findLines.cls ≠ "java/lang/invoke/VarHandle" ∧ (parseMethodDescriptor y_MO_findLines.desc).map (fun d => d.parameters.length) = some 0 := by decide +kernel
theorem hm_MO_beginFrame : y_MO_beginFrame.cls ≠ "java/lang/invoke/MethodHandle" ∧ y_MO_beginFrame.cls ≠ "java/lang/invoke/VarHandle" ∧ (parseMethodDescriptor y_MO_beginFrame.desc).map (fun d => d.parameters.length) = some 6 := by decide +kernel
theorem hm_MO_fail : y_MO_fail.cls ≠ "java/lang/invoke/MethodHandle" ∧ y_MO_fail.cls ≠ "java/lang/invoke/VarHandle" ∧ (parseMethodDescriptor y_MO_fail.desc).map (fun d => d.parameters.length) = some 2 := by decide +kernel
theorem hm_MO_endFrame : y_MO_endFrame.cls ≠ "java/lang/invoke/MethodHandle" ∧ y_MO_endFrame.cls ≠ "java/lang/invoke/VarHandle" ∧ (parseMethodDescriptor y_MO_endFrame.desc).map (fun d => d.parameters.length) = some 0 := by decide +kernel
theorem hm_MO_atEnd : y_MO_atEnd.cls ≠ "java/lang/invoke/MethodHandle" ∧ y_MO_atEnd.cls ≠ "java/lang/invoke/VarHandle" ∧ (parseMethodDescriptor y_MO_atEnd.desc).map (fun d => d.parameters.length) = some 1 := by decide +kernel
theorem hm_MO_look : y_MO_look.cls ≠ "java/lang/invoke/MethodHandle" ∧ y_MO_look.cls ≠ "java/lang/invoke/VarHandle" ∧ (parseMethodDescriptor y_MO_look.desc).map (fun d => d.parameters.length) = some 1 := by decide +kernel
theorem hm_MO_isBegin : y_MO_isBegin.cls ≠ "java/lang/invoke/MethodHandle" ∧ y_MO_isBegin.cls ≠ "java/lang/invoke/VarHandle" ∧ (parseMethodDescriptor y_MO_isBegin.desc).map (fun d => d.parameters.length) = some 1 := by decide +kernel
theorem hm_MO_isDigit : y_MO_isDigit.cls ≠ "java/lang/invoke/MethodHandle" ∧ y_MO_isDigit.cls ≠ "java/lang/invoke/VarHandle" ∧ (parseMethodDescriptor y_MO_isDigit.desc).map (fun d => d.parameters.length) = some 1 := by decide +kernel
theorem hm_MO_isWordSign : y_MO_isWordSign.cls ≠ "java/lang/invoke/MethodHandle" ∧ y_MO_isWordSign.cls ≠ "java/lang/invoke/VarHandle" ∧ (parseMethodDescriptor y_MO_isWordSign.desc).map (fun d => d.parameters.length) = some 1 := by decide +kernel
theorem hm_MO_directiveOf : y_MO_directiveOf.cls ≠ "java/lang/invoke/MethodHandle" ∧ y_MO_directiveOf.cls ≠ "java/lang/invoke/VarHandle" ∧ (parseMethodDescriptor y_MO_directiveOf.desc).map (fun d => d.parameters.length) = some 1 := by decide +kernel
theorem hm_MO_firstOf : y_MO_firstOf.cls ≠ "java/lang/invoke/MethodHandle" ∧ y_MO_firstOf.cls ≠ "java/lang/invoke/VarHandle" ∧ (parseMethodDescriptor y_MO_firstOf.desc).map (fun d => d.parameters.length) = some 1 := by decide +kernel
theorem hm_MO_openIf : y_MO_openIf.cls ≠ "java/lang/invoke/MethodHandle" ∧ y_MO_openIf.cls ≠ "java/lang/invoke/VarHandle" ∧ (parseMethodDescriptor y_MO_openIf.desc).map (fun d => d.parameters.length) = some 2 := by decide +kernel
theorem hm_MO_add : y_MO_add.cls ≠ "java/lang/invoke/MethodHandle" ∧ y_MO_add.cls ≠ "java/lang/invoke/VarHandle" ∧ (parseMethodDescriptor y_MO_add.desc).map (fun d => d.parameters.length) = some 1 := by decide +kernel
theorem hm_MO_macroFrame : y_MO_macroFrame.cls ≠ "java/lang/invoke/MethodHandle" ∧ y_MO_macroFrame.cls ≠ "java/lang/invoke/VarHandle" ∧ (parseMethodDescriptor y_MO_macroFrame.desc).map (fun d => d.parameters.length) = some 0 := by decide +kernel
theorem hm_MO_givingFrame : y_MO_givingFrame.cls ≠ "java/lang/invoke/MethodHandle" ∧ y_MO_givingFrame.cls ≠ "java/lang/invoke/VarHandle" ∧ (parseMethodDescriptor y_MO_givingFrame.desc).map (fun d => d.parameters.length) = some 0 := by decide +kernel
theorem hm_MO_addNumber : y_MO_addNumber.cls ≠ "java/lang/invoke/MethodHandle" ∧ y_MO_addNumber.cls ≠ "java/lang/invoke/VarHandle" ∧ (parseMethodDescriptor y_MO_addNumber.desc).map (fun d => d.parameters.length) = some 1 := by decide +kernel
theorem hm_MO_addHeld : y_MO_addHeld.cls ≠ "java/lang/invoke/MethodHandle" ∧ y_MO_addHeld.cls ≠ "java/lang/invoke/VarHandle" ∧ (parseMethodDescriptor y_MO_addHeld.desc).map (fun d => d.parameters.length) = some 1 := by decide +kernel
theorem hm_MO_addWord : y_MO_addWord.cls ≠ "java/lang/invoke/MethodHandle" ∧ y_MO_addWord.cls ≠ "java/lang/invoke/VarHandle" ∧ (parseMethodDescriptor y_MO_addWord.desc).map (fun d => d.parameters.length) = some 2 := by decide +kernel
theorem hm_MO_takeLine : y_MO_takeLine.cls ≠ "java/lang/invoke/MethodHandle" ∧ y_MO_takeLine.cls ≠ "java/lang/invoke/VarHandle" ∧ (parseMethodDescriptor y_MO_takeLine.desc).map (fun d => d.parameters.length) = some 1 := by decide +kernel
theorem hm_MO_here : y_MO_here.cls ≠ "java/lang/invoke/MethodHandle" ∧ y_MO_here.cls ≠ "java/lang/invoke/VarHandle" ∧ (parseMethodDescriptor y_MO_here.desc).map (fun d => d.parameters.length) = some 0 := by decide +kernel
theorem hm_MO_blanks : y_MO_blanks.cls ≠ "java/lang/invoke/MethodHandle" ∧ y_MO_blanks.cls ≠ "java/lang/invoke/VarHandle" ∧ (parseMethodDescriptor y_MO_blanks.desc).map (fun d => d.parameters.length) = some 0 := by decide +kernel
theorem hm_MO_beginLine : y_MO_beginLine.cls ≠ "java/lang/invoke/MethodHandle" ∧ y_MO_beginLine.cls ≠ "java/lang/invoke/VarHandle" ∧ (parseMethodDescriptor y_MO_beginLine.desc).map (fun d => d.parameters.length) = some 0 := by decide +kernel
theorem hm_MO_word : y_MO_word.cls ≠ "java/lang/invoke/MethodHandle" ∧ y_MO_word.cls ≠ "java/lang/invoke/VarHandle" ∧ (parseMethodDescriptor y_MO_word.desc).map (fun d => d.parameters.length) = some 0 := by decide +kernel
theorem hm_MO_opens : y_MO_opens.cls ≠ "java/lang/invoke/MethodHandle" ∧ y_MO_opens.cls ≠ "java/lang/invoke/VarHandle" ∧ (parseMethodDescriptor y_MO_opens.desc).map (fun d => d.parameters.length) = some 1 := by decide +kernel
theorem hm_MO_numberHere : y_MO_numberHere.cls ≠ "java/lang/invoke/MethodHandle" ∧ y_MO_numberHere.cls ≠ "java/lang/invoke/VarHandle" ∧ (parseMethodDescriptor y_MO_numberHere.desc).map (fun d => d.parameters.length) = some 0 := by decide +kernel
theorem hm_MO_constantOf : y_MO_constantOf.cls ≠ "java/lang/invoke/MethodHandle" ∧ y_MO_constantOf.cls ≠ "java/lang/invoke/VarHandle" ∧ (parseMethodDescriptor y_MO_constantOf.desc).map (fun d => d.parameters.length) = some 2 := by decide +kernel
theorem hm_MO_met : y_MO_met.cls ≠ "java/lang/invoke/MethodHandle" ∧ y_MO_met.cls ≠ "java/lang/invoke/VarHandle" ∧ (parseMethodDescriptor y_MO_met.desc).map (fun d => d.parameters.length) = some 1 := by decide +kernel
theorem hm_MO_divided : y_MO_divided.cls ≠ "java/lang/invoke/MethodHandle" ∧ y_MO_divided.cls ≠ "java/lang/invoke/VarHandle" ∧ (parseMethodDescriptor y_MO_divided.desc).map (fun d => d.parameters.length) = some 3 := by decide +kernel
theorem hm_MO_product : y_MO_product.cls ≠ "java/lang/invoke/MethodHandle" ∧ y_MO_product.cls ≠ "java/lang/invoke/VarHandle" ∧ (parseMethodDescriptor y_MO_product.desc).map (fun d => d.parameters.length) = some 2 := by decide +kernel
theorem hm_MO_sum : y_MO_sum.cls ≠ "java/lang/invoke/MethodHandle" ∧ y_MO_sum.cls ≠ "java/lang/invoke/VarHandle" ∧ (parseMethodDescriptor y_MO_sum.desc).map (fun d => d.parameters.length) = some 2 := by decide +kernel
theorem hm_MO_comparison : y_MO_comparison.cls ≠ "java/lang/invoke/MethodHandle" ∧ y_MO_comparison.cls ≠ "java/lang/invoke/VarHandle" ∧ (parseMethodDescriptor y_MO_comparison.desc).map (fun d => d.parameters.length) = some 0 := by decide +kernel
theorem hm_MO_compared : y_MO_compared.cls ≠ "java/lang/invoke/MethodHandle" ∧ y_MO_compared.cls ≠ "java/lang/invoke/VarHandle" ∧ (parseMethodDescriptor y_MO_compared.desc).map (fun d => d.parameters.length) = some 3 := by decide +kernel
theorem hm_MO_sign : y_MO_sign.cls ≠ "java/lang/invoke/MethodHandle" ∧ y_MO_sign.cls ≠ "java/lang/invoke/VarHandle" ∧ (parseMethodDescriptor y_MO_sign.desc).map (fun d => d.parameters.length) = some 1 := by decide +kernel
theorem hm_MO_value : y_MO_value.cls ≠ "java/lang/invoke/MethodHandle" ∧ y_MO_value.cls ≠ "java/lang/invoke/VarHandle" ∧ (parseMethodDescriptor y_MO_value.desc).map (fun d => d.parameters.length) = some 0 := by decide +kernel
theorem hm_MO_lineEnds : y_MO_lineEnds.cls ≠ "java/lang/invoke/MethodHandle" ∧ y_MO_lineEnds.cls ≠ "java/lang/invoke/VarHandle" ∧ (parseMethodDescriptor y_MO_lineEnds.desc).map (fun d => d.parameters.length) = some 0 := by decide +kernel
theorem hm_MO_wholeValue : y_MO_wholeValue.cls ≠ "java/lang/invoke/MethodHandle" ∧ y_MO_wholeValue.cls ≠ "java/lang/invoke/VarHandle" ∧ (parseMethodDescriptor y_MO_wholeValue.desc).map (fun d => d.parameters.length) = some 0 := by decide +kernel
theorem hm_MO_turn : y_MO_turn.cls ≠ "java/lang/invoke/MethodHandle" ∧ y_MO_turn.cls ≠ "java/lang/invoke/VarHandle" ∧ (parseMethodDescriptor y_MO_turn.desc).map (fun d => d.parameters.length) = some 2 := by decide +kernel
theorem hm_MO_setConstant : y_MO_setConstant.cls ≠ "java/lang/invoke/MethodHandle" ∧ y_MO_setConstant.cls ≠ "java/lang/invoke/VarHandle" ∧ (parseMethodDescriptor y_MO_setConstant.desc).map (fun d => d.parameters.length) = some 0 := by decide +kernel
theorem hm_MO_forgetConstant : y_MO_forgetConstant.cls ≠ "java/lang/invoke/MethodHandle" ∧ y_MO_forgetConstant.cls ≠ "java/lang/invoke/VarHandle" ∧ (parseMethodDescriptor y_MO_forgetConstant.desc).map (fun d => d.parameters.length) = some 0 := by decide +kernel
theorem hm_MO_hold : y_MO_hold.cls ≠ "java/lang/invoke/MethodHandle" ∧ y_MO_hold.cls ≠ "java/lang/invoke/VarHandle" ∧ (parseMethodDescriptor y_MO_hold.desc).map (fun d => d.parameters.length) = some 2 := by decide +kernel
theorem hm_MO_ifSame : y_MO_ifSame.cls ≠ "java/lang/invoke/MethodHandle" ∧ y_MO_ifSame.cls ≠ "java/lang/invoke/VarHandle" ∧ (parseMethodDescriptor y_MO_ifSame.desc).map (fun d => d.parameters.length) = some 0 := by decide +kernel
theorem hm_MO_readDefault : y_MO_readDefault.cls ≠ "java/lang/invoke/MethodHandle" ∧ y_MO_readDefault.cls ≠ "java/lang/invoke/VarHandle" ∧ (parseMethodDescriptor y_MO_readDefault.desc).map (fun d => d.parameters.length) = some 1 := by decide +kernel
theorem hm_MO_readParameters : y_MO_readParameters.cls ≠ "java/lang/invoke/MethodHandle" ∧ y_MO_readParameters.cls ≠ "java/lang/invoke/VarHandle" ∧ (parseMethodDescriptor y_MO_readParameters.desc).map (fun d => d.parameters.length) = some 1 := by decide +kernel
theorem hm_MO_macroOf : y_MO_macroOf.cls ≠ "java/lang/invoke/MethodHandle" ∧ y_MO_macroOf.cls ≠ "java/lang/invoke/VarHandle" ∧ (parseMethodDescriptor y_MO_macroOf.desc).map (fun d => d.parameters.length) = some 2 := by decide +kernel
theorem hm_MO_define : y_MO_define.cls ≠ "java/lang/invoke/MethodHandle" ∧ y_MO_define.cls ≠ "java/lang/invoke/VarHandle" ∧ (parseMethodDescriptor y_MO_define.desc).map (fun d => d.parameters.length) = some 1 := by decide +kernel
theorem hm_MO_bracketEnd : y_MO_bracketEnd.cls ≠ "java/lang/invoke/MethodHandle" ∧ y_MO_bracketEnd.cls ≠ "java/lang/invoke/VarHandle" ∧ (parseMethodDescriptor y_MO_bracketEnd.desc).map (fun d => d.parameters.length) = some 1 := by decide +kernel
theorem hm_MO_repeat : y_MO_repeat.cls ≠ "java/lang/invoke/MethodHandle" ∧ y_MO_repeat.cls ≠ "java/lang/invoke/VarHandle" ∧ (parseMethodDescriptor y_MO_repeat.desc).map (fun d => d.parameters.length) = some 0 := by decide +kernel
theorem hm_MO_readTexts : y_MO_readTexts.cls ≠ "java/lang/invoke/MethodHandle" ∧ y_MO_readTexts.cls ≠ "java/lang/invoke/VarHandle" ∧ (parseMethodDescriptor y_MO_readTexts.desc).map (fun d => d.parameters.length) = some 0 := by decide +kernel
theorem hm_MO_each : y_MO_each.cls ≠ "java/lang/invoke/MethodHandle" ∧ y_MO_each.cls ≠ "java/lang/invoke/VarHandle" ∧ (parseMethodDescriptor y_MO_each.desc).map (fun d => d.parameters.length) = some 0 := by decide +kernel
theorem hm_MO_leave : y_MO_leave.cls ≠ "java/lang/invoke/MethodHandle" ∧ y_MO_leave.cls ≠ "java/lang/invoke/VarHandle" ∧ (parseMethodDescriptor y_MO_leave.desc).map (fun d => d.parameters.length) = some 0 := by decide +kernel
theorem hm_MO_direct : y_MO_direct.cls ≠ "java/lang/invoke/MethodHandle" ∧ y_MO_direct.cls ≠ "java/lang/invoke/VarHandle" ∧ (parseMethodDescriptor y_MO_direct.desc).map (fun d => d.parameters.length) = some 2 := by decide +kernel
theorem hm_MO_call : y_MO_call.cls ≠ "java/lang/invoke/MethodHandle" ∧ y_MO_call.cls ≠ "java/lang/invoke/VarHandle" ∧ (parseMethodDescriptor y_MO_call.desc).map (fun d => d.parameters.length) = some 1 := by decide +kernel
theorem hm_MO_goOut : y_MO_goOut.cls ≠ "java/lang/invoke/MethodHandle" ∧ y_MO_goOut.cls ≠ "java/lang/invoke/VarHandle" ∧ (parseMethodDescriptor y_MO_goOut.desc).map (fun d => d.parameters.length) = some 0 := by decide +kernel
theorem hm_MO_doLine : y_MO_doLine.cls ≠ "java/lang/invoke/MethodHandle" ∧ y_MO_doLine.cls ≠ "java/lang/invoke/VarHandle" ∧ (parseMethodDescriptor y_MO_doLine.desc).map (fun d => d.parameters.length) = some 1 := by decide +kernel
theorem hm_MO_next : y_MO_next.cls ≠ "java/lang/invoke/MethodHandle" ∧ y_MO_next.cls ≠ "java/lang/invoke/VarHandle" ∧ (parseMethodDescriptor y_MO_next.desc).map (fun d => d.parameters.length) = some 0 := by decide +kernel
theorem hm_MO_expand : y_MO_expand.cls ≠ "java/lang/invoke/MethodHandle" ∧ y_MO_expand.cls ≠ "java/lang/invoke/VarHandle" ∧ (parseMethodDescriptor y_MO_expand.desc).map (fun d => d.parameters.length) = some 0 := by decide +kernel
theorem hm_MO_about : y_MO_about.cls ≠ "java/lang/invoke/MethodHandle" ∧ y_MO_about.cls ≠ "java/lang/invoke/VarHandle" ∧ (parseMethodDescriptor y_MO_about.desc).map (fun d => d.parameters.length) = some 1 := by decide +kernel
theorem hm_MO_line : y_MO_line.cls ≠ "java/lang/invoke/MethodHandle" ∧ y_MO_line.cls ≠ "java/lang/invoke/VarHandle" ∧ (parseMethodDescriptor y_MO_line.desc).map (fun d => d.parameters.length) = some 2 := by decide +kernel
theorem hm_MO_signOf : y_MO_signOf.cls ≠ "java/lang/invoke/MethodHandle" ∧ y_MO_signOf.cls ≠ "java/lang/invoke/VarHandle" ∧ (parseMethodDescriptor y_MO_signOf.desc).map (fun d => d.parameters.length) = some 3 := by decide +kernel
theorem hm_MO_constant : y_MO_constant.cls ≠ "java/lang/invoke/MethodHandle" ∧ y_MO_constant.cls ≠ "java/lang/invoke/VarHandle" ∧ (parseMethodDescriptor y_MO_constant.desc).map (fun d => d.parameters.length) = some 2 := by decide +kernel
theorem hm_MO_macro : y_MO_macro.cls ≠ "java/lang/invoke/MethodHandle" ∧ y_MO_macro.cls ≠ "java/lang/invoke/VarHandle" ∧ (parseMethodDescriptor y_MO_macro.desc).map (fun d => d.parameters.length) = some 2 := by decide +kernel
