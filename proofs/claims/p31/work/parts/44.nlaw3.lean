theorem dL_areAlike_323 : decode cL_areAlike 323 = .ok (.iconst 3, 1) := by decide +kernel
theorem dL_areAlike_324 : decode cL_areAlike 324 = .ok (.iload 4, 2) := by decide +kernel
theorem dL_areAlike_326 : decode cL_areAlike 326 = .ok (.invokestatic 101, 3) := by decide +kernel
theorem dL_areAlike_329 : decode cL_areAlike 329 = .ok (.aload_n 1, 1) := by decide +kernel
theorem dL_areAlike_330 : decode cL_areAlike 330 = .ok (.iconst 3, 1) := by decide +kernel
theorem dL_areAlike_331 : decode cL_areAlike 331 = .ok (.iload 4, 2) := by decide +kernel
theorem dL_areAlike_333 : decode cL_areAlike 333 = .ok (.invokestatic 101, 3) := by decide +kernel
theorem dL_areAlike_336 : decode cL_areAlike 336 = .ok (.if_icmp .ne 7, 3) := by decide +kernel
theorem dL_areAlike_339 : decode cL_areAlike 339 = .ok (.iconst 1, 1) := by decide +kernel
theorem dL_areAlike_340 : decode cL_areAlike 340 = .ok (.goto 4, 3) := by decide +kernel
theorem dL_areAlike_343 : decode cL_areAlike 343 = .ok (.iconst 0, 1) := by decide +kernel
theorem dL_areAlike_344 : decode cL_areAlike 344 = .ok (.istore_n 3, 1) := by decide +kernel
theorem dL_areAlike_345 : decode cL_areAlike 345 = .ok (.iinc 4 1, 3) := by decide +kernel
theorem dL_areAlike_348 : decode cL_areAlike 348 = .ok (.goto (-36), 3) := by decide +kernel
theorem dL_areAlike_351 : decode cL_areAlike 351 = .ok (.iload_n 3, 1) := by decide +kernel
theorem dL_areAlike_352 : decode cL_areAlike 352 = .ok (.ireturn, 1) := by decide +kernel
theorem dL_law_0 : decode cL_law 0 = .ok (.new 9, 3) := by decide +kernel
theorem dL_law_3 : decode cL_law 3 = .ok (.dup, 1) := by decide +kernel
theorem dL_law_4 : decode cL_law 4 = .ok (.invokespecial 107, 3) := by decide +kernel
theorem dL_law_7 : decode cL_law 7 = .ok (.astore_n 1, 1) := by decide +kernel
theorem dL_law_8 : decode cL_law 8 = .ok (.new 9, 3) := by decide +kernel
theorem dL_law_11 : decode cL_law 11 = .ok (.dup, 1) := by decide +kernel
theorem dL_law_12 : decode cL_law 12 = .ok (.invokespecial 107, 3) := by decide +kernel
theorem dL_law_15 : decode cL_law 15 = .ok (.astore_n 2, 1) := by decide +kernel
theorem dL_law_16 : decode cL_law 16 = .ok (.aload_n 0, 1) := by decide +kernel
theorem dL_law_17 : decode cL_law 17 = .ok (.iconst 0, 1) := by decide +kernel
theorem dL_law_18 : decode cL_law 18 = .ok (.invokestatic 108, 3) := by decide +kernel
theorem dL_law_21 : decode cL_law 21 = .ok (.bipush 22, 2) := by decide +kernel
theorem dL_law_23 : decode cL_law 23 = .ok (.irem, 1) := by decide +kernel
theorem dL_law_24 : decode cL_law 24 = .ok (.istore_n 3, 1) := by decide +kernel
theorem dL_law_25 : decode cL_law 25 = .ok (.aload_n 1, 1) := by decide +kernel
theorem dL_law_26 : decode cL_law 26 = .ok (.iconst 2, 1) := by decide +kernel
theorem dL_law_27 : decode cL_law 27 = .ok (.aload_n 0, 1) := by decide +kernel
theorem dL_law_28 : decode cL_law 28 = .ok (.iconst 1, 1) := by decide +kernel
theorem dL_law_29 : decode cL_law 29 = .ok (.invokestatic 108, 3) := by decide +kernel
theorem dL_law_32 : decode cL_law 32 = .ok (.iconst 3, 1) := by decide +kernel
theorem dL_law_33 : decode cL_law 33 = .ok (.irem, 1) := by decide +kernel
theorem dL_law_34 : decode cL_law 34 = .ok (.iadd, 1) := by decide +kernel
theorem dL_law_35 : decode cL_law 35 = .ok (.invokestatic 112, 3) := by decide +kernel
theorem dL_law_38 : decode cL_law 38 = .ok (.ifCond .eq 23, 3) := by decide +kernel
theorem dL_law_41 : decode cL_law 41 = .ok (.aload_n 2, 1) := by decide +kernel
theorem dL_law_42 : decode cL_law 42 = .ok (.iconst 2, 1) := by decide +kernel
theorem dL_law_43 : decode cL_law 43 = .ok (.aload_n 0, 1) := by decide +kernel
theorem dL_law_44 : decode cL_law 44 = .ok (.iconst 1, 1) := by decide +kernel
theorem dL_law_45 : decode cL_law 45 = .ok (.invokestatic 108, 3) := by decide +kernel
theorem dL_law_48 : decode cL_law 48 = .ok (.iconst 3, 1) := by decide +kernel
theorem dL_law_49 : decode cL_law 49 = .ok (.irem, 1) := by decide +kernel
theorem dL_law_50 : decode cL_law 50 = .ok (.iadd, 1) := by decide +kernel
theorem dL_law_51 : decode cL_law 51 = .ok (.invokestatic 112, 3) := by decide +kernel
theorem dL_law_54 : decode cL_law 54 = .ok (.ifCond .eq 7, 3) := by decide +kernel
theorem dL_law_57 : decode cL_law 57 = .ok (.iconst 1, 1) := by decide +kernel
theorem dL_law_58 : decode cL_law 58 = .ok (.goto 4, 3) := by decide +kernel
theorem dL_law_61 : decode cL_law 61 = .ok (.iconst 0, 1) := by decide +kernel
theorem dL_law_62 : decode cL_law 62 = .ok (.istore 4, 2) := by decide +kernel
theorem dL_law_64 : decode cL_law 64 = .ok (.iconst 2, 1) := by decide +kernel
theorem dL_law_65 : decode cL_law 65 = .ok (.istore 5, 2) := by decide +kernel
theorem dL_law_67 : decode cL_law 67 = .ok (.iload 5, 2) := by decide +kernel
theorem dL_law_69 : decode cL_law 69 = .ok (.sipush 180, 3) := by decide +kernel
theorem dL_law_72 : decode cL_law 72 = .ok (.if_icmp .ge 364, 3) := by decide +kernel
theorem dL_law_75 : decode cL_law 75 = .ok (.iload 4, 2) := by decide +kernel
theorem dL_law_77 : decode cL_law 77 = .ok (.ifCond .eq 359, 3) := by decide +kernel
theorem dL_law_80 : decode cL_law 80 = .ok (.aload_n 0, 1) := by decide +kernel
theorem dL_law_81 : decode cL_law 81 = .ok (.iload 5, 2) := by decide +kernel
theorem dL_law_83 : decode cL_law 83 = .ok (.bipush 60, 2) := by decide +kernel
theorem dL_law_85 : decode cL_law 85 = .ok (.irem, 1) := by decide +kernel
theorem dL_law_86 : decode cL_law 86 = .ok (.invokestatic 108, 3) := by decide +kernel
theorem dL_law_89 : decode cL_law 89 = .ok (.iconst 1, 1) := by decide +kernel
theorem dL_law_90 : decode cL_law 90 = .ok (.iload 5, 2) := by decide +kernel
theorem dL_law_92 : decode cL_law 92 = .ok (.bipush 60, 2) := by decide +kernel
theorem dL_law_94 : decode cL_law 94 = .ok (.idiv, 1) := by decide +kernel
theorem dL_law_95 : decode cL_law 95 = .ok (.iadd, 1) := by decide +kernel
theorem dL_law_96 : decode cL_law 96 = .ok (.idiv, 1) := by decide +kernel
theorem dL_law_97 : decode cL_law 97 = .ok (.iconst 3, 1) := by decide +kernel
theorem dL_law_98 : decode cL_law 98 = .ok (.iload 5, 2) := by decide +kernel
theorem dL_law_100 : decode cL_law 100 = .ok (.bipush 60, 2) := by decide +kernel
theorem dL_law_102 : decode cL_law 102 = .ok (.idiv, 1) := by decide +kernel
theorem dL_law_103 : decode cL_law 103 = .ok (.imul, 1) := by decide +kernel
theorem dL_law_104 : decode cL_law 104 = .ok (.iadd, 1) := by decide +kernel
theorem dL_law_105 : decode cL_law 105 = .ok (.istore 6, 2) := by decide +kernel
theorem dL_law_107 : decode cL_law 107 = .ok (.iload 6, 2) := by decide +kernel
theorem dL_law_109 : decode cL_law 109 = .ok (.bipush 12, 2) := by decide +kernel
theorem dL_law_111 : decode cL_law 111 = .ok (.irem, 1) := by decide +kernel
theorem dL_law_112 : decode cL_law 112 = .ok (.istore 7, 2) := by decide +kernel
theorem dL_law_114 : decode cL_law 114 = .ok (.iload 6, 2) := by decide +kernel
theorem dL_law_116 : decode cL_law 116 = .ok (.bipush 12, 2) := by decide +kernel
