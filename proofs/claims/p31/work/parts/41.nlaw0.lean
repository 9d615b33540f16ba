theorem dL_drawn_0 : decode cL_drawn 0 = .ok (.iload_n 1, 1) := by decide +kernel
theorem dL_drawn_1 : decode cL_drawn 1 = .ok (.aload_n 0, 1) := by decide +kernel
theorem dL_drawn_2 : decode cL_drawn 2 = .ok (.arraylength, 1) := by decide +kernel
theorem dL_drawn_3 : decode cL_drawn 3 = .ok (.if_icmp .ge 9, 3) := by decide +kernel
theorem dL_drawn_6 : decode cL_drawn 6 = .ok (.aload_n 0, 1) := by decide +kernel
theorem dL_drawn_7 : decode cL_drawn 7 = .ok (.iload_n 1, 1) := by decide +kernel
theorem dL_drawn_8 : decode cL_drawn 8 = .ok (.iaload, 1) := by decide +kernel
theorem dL_drawn_9 : decode cL_drawn 9 = .ok (.goto 12, 3) := by decide +kernel
theorem dL_drawn_12 : decode cL_drawn 12 = .ok (.sipush 11071, 3) := by decide +kernel
theorem dL_drawn_15 : decode cL_drawn 15 = .ok (.iload_n 1, 1) := by decide +kernel
theorem dL_drawn_16 : decode cL_drawn 16 = .ok (.imul, 1) := by decide +kernel
theorem dL_drawn_17 : decode cL_drawn 17 = .ok (.sipush 2027, 3) := by decide +kernel
theorem dL_drawn_20 : decode cL_drawn 20 = .ok (.iadd, 1) := by decide +kernel
theorem dL_drawn_21 : decode cL_drawn 21 = .ok (.istore_n 2, 1) := by decide +kernel
theorem dL_drawn_22 : decode cL_drawn 22 = .ok (.iload_n 2, 1) := by decide +kernel
theorem dL_drawn_23 : decode cL_drawn 23 = .ok (.ldc 7, 2) := by decide +kernel
theorem dL_drawn_25 : decode cL_drawn 25 = .ok (.iand, 1) := by decide +kernel
theorem dL_drawn_26 : decode cL_drawn 26 = .ok (.ireturn, 1) := by decide +kernel
theorem dL_with_0 : decode cL_with 0 = .ok (.iload_n 1, 1) := by decide +kernel
theorem dL_with_1 : decode cL_with 1 = .ok (.ifCond .eq 11, 3) := by decide +kernel
theorem dL_with_4 : decode cL_with 4 = .ok (.aload_n 0, 1) := by decide +kernel
theorem dL_with_5 : decode cL_with 5 = .ok (.iload_n 2, 1) := by decide +kernel
theorem dL_with_6 : decode cL_with 6 = .ok (.invokevirtual 8, 3) := by decide +kernel
theorem dL_with_9 : decode cL_with 9 = .ok (.goto 8, 3) := by decide +kernel
theorem dL_with_12 : decode cL_with 12 = .ok (.aload_n 0, 1) := by decide +kernel
theorem dL_with_13 : decode cL_with 13 = .ok (.iload_n 2, 1) := by decide +kernel
theorem dL_with_14 : decode cL_with 14 = .ok (.invokevirtual 14, 3) := by decide +kernel
theorem dL_with_17 : decode cL_with 17 = .ok (.ireturn, 1) := by decide +kernel
theorem dL_with_18 : decode cL_with 18 = .ok (.astore_n 3, 1) := by decide +kernel
theorem dL_with_19 : decode cL_with 19 = .ok (.bipush (-5), 2) := by decide +kernel
theorem dL_with_21 : decode cL_with 21 = .ok (.ireturn, 1) := by decide +kernel
theorem dL_with_22 : decode cL_with 22 = .ok (.astore_n 3, 1) := by decide +kernel
theorem dL_with_23 : decode cL_with 23 = .ok (.bipush (-5), 2) := by decide +kernel
theorem dL_with_25 : decode cL_with 25 = .ok (.ireturn, 1) := by decide +kernel
theorem dL_does_0 : decode cL_does 0 = .ok (.iload_n 1, 1) := by decide +kernel
theorem dL_does_1 : decode cL_does 1 = .ok (.ifCond .ne 10, 3) := by decide +kernel
theorem dL_does_4 : decode cL_does 4 = .ok (.aload_n 0, 1) := by decide +kernel
theorem dL_does_5 : decode cL_does 5 = .ok (.invokevirtual 21, 3) := by decide +kernel
theorem dL_does_8 : decode cL_does 8 = .ok (.goto 19, 3) := by decide +kernel
theorem dL_does_11 : decode cL_does 11 = .ok (.iload_n 1, 1) := by decide +kernel
theorem dL_does_12 : decode cL_does 12 = .ok (.iconst 1, 1) := by decide +kernel
theorem dL_does_13 : decode cL_does 13 = .ok (.if_icmp .ne 10, 3) := by decide +kernel
theorem dL_does_16 : decode cL_does 16 = .ok (.aload_n 0, 1) := by decide +kernel
theorem dL_does_17 : decode cL_does 17 = .ok (.invokevirtual 25, 3) := by decide +kernel
theorem dL_does_20 : decode cL_does 20 = .ok (.goto 7, 3) := by decide +kernel
theorem dL_does_23 : decode cL_does 23 = .ok (.aload_n 0, 1) := by decide +kernel
theorem dL_does_24 : decode cL_does 24 = .ok (.invokevirtual 28, 3) := by decide +kernel
theorem dL_does_27 : decode cL_does 27 = .ok (.ireturn, 1) := by decide +kernel
theorem dL_does_28 : decode cL_does 28 = .ok (.astore_n 2, 1) := by decide +kernel
theorem dL_does_29 : decode cL_does 29 = .ok (.bipush (-5), 2) := by decide +kernel
theorem dL_does_31 : decode cL_does 31 = .ok (.ireturn, 1) := by decide +kernel
theorem dL_does_32 : decode cL_does 32 = .ok (.astore_n 2, 1) := by decide +kernel
theorem dL_does_33 : decode cL_does 33 = .ok (.bipush (-5), 2) := by decide +kernel
theorem dL_does_35 : decode cL_does 35 = .ok (.ireturn, 1) := by decide +kernel
theorem dL_at_0 : decode cL_at 0 = .ok (.iload_n 1, 1) := by decide +kernel
theorem dL_at_1 : decode cL_at 1 = .ok (.ifCond .ne 11, 3) := by decide +kernel
theorem dL_at_4 : decode cL_at 4 = .ok (.aload_n 0, 1) := by decide +kernel
theorem dL_at_5 : decode cL_at 5 = .ok (.iload_n 2, 1) := by decide +kernel
theorem dL_at_6 : decode cL_at 6 = .ok (.invokevirtual 31, 3) := by decide +kernel
theorem dL_at_9 : decode cL_at 9 = .ok (.goto 34, 3) := by decide +kernel
theorem dL_at_12 : decode cL_at 12 = .ok (.iload_n 1, 1) := by decide +kernel
theorem dL_at_13 : decode cL_at 13 = .ok (.iconst 1, 1) := by decide +kernel
theorem dL_at_14 : decode cL_at 14 = .ok (.if_icmp .ne 11, 3) := by decide +kernel
theorem dL_at_17 : decode cL_at 17 = .ok (.aload_n 0, 1) := by decide +kernel
theorem dL_at_18 : decode cL_at 18 = .ok (.iload_n 2, 1) := by decide +kernel
theorem dL_at_19 : decode cL_at 19 = .ok (.invokevirtual 34, 3) := by decide +kernel
theorem dL_at_22 : decode cL_at 22 = .ok (.goto 21, 3) := by decide +kernel
theorem dL_at_25 : decode cL_at 25 = .ok (.iload_n 1, 1) := by decide +kernel
theorem dL_at_26 : decode cL_at 26 = .ok (.iconst 2, 1) := by decide +kernel
theorem dL_at_27 : decode cL_at 27 = .ok (.if_icmp .ne 11, 3) := by decide +kernel
theorem dL_at_30 : decode cL_at 30 = .ok (.aload_n 0, 1) := by decide +kernel
theorem dL_at_31 : decode cL_at 31 = .ok (.iload_n 2, 1) := by decide +kernel
theorem dL_at_32 : decode cL_at 32 = .ok (.invokevirtual 37, 3) := by decide +kernel
theorem dL_at_35 : decode cL_at 35 = .ok (.goto 8, 3) := by decide +kernel
theorem dL_at_38 : decode cL_at 38 = .ok (.aload_n 0, 1) := by decide +kernel
theorem dL_at_39 : decode cL_at 39 = .ok (.iload_n 2, 1) := by decide +kernel
theorem dL_at_40 : decode cL_at 40 = .ok (.invokevirtual 40, 3) := by decide +kernel
theorem dL_at_43 : decode cL_at 43 = .ok (.ireturn, 1) := by decide +kernel
theorem dL_at_44 : decode cL_at 44 = .ok (.astore_n 3, 1) := by decide +kernel
theorem dL_at_45 : decode cL_at 45 = .ok (.bipush (-5), 2) := by decide +kernel
theorem dL_at_47 : decode cL_at 47 = .ok (.ireturn, 1) := by decide +kernel
theorem dL_least_0 : decode cL_least 0 = .ok (.aload_n 0, 1) := by decide +kernel
theorem dL_least_1 : decode cL_least 1 = .ok (.iload_n 1, 1) := by decide +kernel
theorem dL_least_2 : decode cL_least 2 = .ok (.invokevirtual 45, 3) := by decide +kernel
theorem dL_least_5 : decode cL_least 5 = .ok (.ireturn, 1) := by decide +kernel
