theorem dL_write_0 : decode cL_write 0 = .ok (.aload_n 2, 1) := by decide +kernel
theorem dL_write_1 : decode cL_write 1 = .ok (.iconst 0, 1) := by decide +kernel
theorem dL_write_2 : decode cL_write 2 = .ok (.aload_n 0, 1) := by decide +kernel
theorem dL_write_3 : decode cL_write 3 = .ok (.iload_n 1, 1) := by decide +kernel
theorem dL_write_4 : decode cL_write 4 = .ok (.invokevirtual 7, 3) := by decide +kernel
theorem dL_write_7 : decode cL_write 7 = .ok (.i2l, 1) := by decide +kernel
theorem dL_write_8 : decode cL_write 8 = .ok (.lastore, 1) := by decide +kernel
theorem dL_write_9 : decode cL_write 9 = .ok (.goto 9, 3) := by decide +kernel
theorem dL_write_12 : decode cL_write 12 = .ok (.astore_n 3, 1) := by decide +kernel
theorem dL_write_13 : decode cL_write 13 = .ok (.iconst 1, 1) := by decide +kernel
theorem dL_write_14 : decode cL_write 14 = .ok (.ireturn, 1) := by decide +kernel
theorem dL_write_15 : decode cL_write 15 = .ok (.astore_n 3, 1) := by decide +kernel
theorem dL_write_16 : decode cL_write 16 = .ok (.iconst 2, 1) := by decide +kernel
theorem dL_write_17 : decode cL_write 17 = .ok (.ireturn, 1) := by decide +kernel
theorem dL_write_18 : decode cL_write 18 = .ok (.iconst 0, 1) := by decide +kernel
theorem dL_write_19 : decode cL_write 19 = .ok (.ireturn, 1) := by decide +kernel
theorem dL_slipAt_0 : decode cL_slipAt 0 = .ok (.aload_n 2, 1) := by decide +kernel
theorem dL_slipAt_1 : decode cL_slipAt 1 = .ok (.iconst 0, 1) := by decide +kernel
theorem dL_slipAt_2 : decode cL_slipAt 2 = .ok (.aload_n 0, 1) := by decide +kernel
theorem dL_slipAt_3 : decode cL_slipAt 3 = .ok (.iload_n 1, 1) := by decide +kernel
theorem dL_slipAt_4 : decode cL_slipAt 4 = .ok (.invokevirtual 17, 3) := by decide +kernel
theorem dL_slipAt_7 : decode cL_slipAt 7 = .ok (.i2l, 1) := by decide +kernel
theorem dL_slipAt_8 : decode cL_slipAt 8 = .ok (.lastore, 1) := by decide +kernel
theorem dL_slipAt_9 : decode cL_slipAt 9 = .ok (.goto 6, 3) := by decide +kernel
theorem dL_slipAt_12 : decode cL_slipAt 12 = .ok (.astore_n 3, 1) := by decide +kernel
theorem dL_slipAt_13 : decode cL_slipAt 13 = .ok (.iconst 1, 1) := by decide +kernel
theorem dL_slipAt_14 : decode cL_slipAt 14 = .ok (.ireturn, 1) := by decide +kernel
theorem dL_slipAt_15 : decode cL_slipAt 15 = .ok (.iconst 0, 1) := by decide +kernel
theorem dL_slipAt_16 : decode cL_slipAt 16 = .ok (.ireturn, 1) := by decide +kernel
theorem dL_addWord_0 : decode cL_addWord 0 = .ok (.aload_n 1, 1) := by decide +kernel
theorem dL_addWord_1 : decode cL_addWord 1 = .ok (.iconst 0, 1) := by decide +kernel
theorem dL_addWord_2 : decode cL_addWord 2 = .ok (.aload_n 0, 1) := by decide +kernel
theorem dL_addWord_3 : decode cL_addWord 3 = .ok (.invokevirtual 22, 3) := by decide +kernel
theorem dL_addWord_6 : decode cL_addWord 6 = .ok (.i2l, 1) := by decide +kernel
theorem dL_addWord_7 : decode cL_addWord 7 = .ok (.lastore, 1) := by decide +kernel
theorem dL_addWord_8 : decode cL_addWord 8 = .ok (.goto 9, 3) := by decide +kernel
theorem dL_addWord_11 : decode cL_addWord 11 = .ok (.astore_n 2, 1) := by decide +kernel
theorem dL_addWord_12 : decode cL_addWord 12 = .ok (.iconst 1, 1) := by decide +kernel
theorem dL_addWord_13 : decode cL_addWord 13 = .ok (.ireturn, 1) := by decide +kernel
theorem dL_addWord_14 : decode cL_addWord 14 = .ok (.astore_n 2, 1) := by decide +kernel
theorem dL_addWord_15 : decode cL_addWord 15 = .ok (.iconst 2, 1) := by decide +kernel
theorem dL_addWord_16 : decode cL_addWord 16 = .ok (.ireturn, 1) := by decide +kernel
theorem dL_addWord_17 : decode cL_addWord 17 = .ok (.iconst 0, 1) := by decide +kernel
theorem dL_addWord_18 : decode cL_addWord 18 = .ok (.ireturn, 1) := by decide +kernel
theorem dL_removeWord_0 : decode cL_removeWord 0 = .ok (.aload_n 1, 1) := by decide +kernel
theorem dL_removeWord_1 : decode cL_removeWord 1 = .ok (.iconst 0, 1) := by decide +kernel
theorem dL_removeWord_2 : decode cL_removeWord 2 = .ok (.aload_n 0, 1) := by decide +kernel
theorem dL_removeWord_3 : decode cL_removeWord 3 = .ok (.invokevirtual 26, 3) := by decide +kernel
theorem dL_removeWord_6 : decode cL_removeWord 6 = .ok (.i2l, 1) := by decide +kernel
theorem dL_removeWord_7 : decode cL_removeWord 7 = .ok (.lastore, 1) := by decide +kernel
theorem dL_removeWord_8 : decode cL_removeWord 8 = .ok (.goto 6, 3) := by decide +kernel
theorem dL_removeWord_11 : decode cL_removeWord 11 = .ok (.astore_n 2, 1) := by decide +kernel
theorem dL_removeWord_12 : decode cL_removeWord 12 = .ok (.iconst 1, 1) := by decide +kernel
theorem dL_removeWord_13 : decode cL_removeWord 13 = .ok (.ireturn, 1) := by decide +kernel
theorem dL_removeWord_14 : decode cL_removeWord 14 = .ok (.iconst 0, 1) := by decide +kernel
theorem dL_removeWord_15 : decode cL_removeWord 15 = .ok (.ireturn, 1) := by decide +kernel
theorem dL_copyWord_0 : decode cL_copyWord 0 = .ok (.aload_n 2, 1) := by decide +kernel
theorem dL_copyWord_1 : decode cL_copyWord 1 = .ok (.iconst 0, 1) := by decide +kernel
theorem dL_copyWord_2 : decode cL_copyWord 2 = .ok (.aload_n 0, 1) := by decide +kernel
theorem dL_copyWord_3 : decode cL_copyWord 3 = .ok (.iload_n 1, 1) := by decide +kernel
theorem dL_copyWord_4 : decode cL_copyWord 4 = .ok (.invokevirtual 29, 3) := by decide +kernel
theorem dL_copyWord_7 : decode cL_copyWord 7 = .ok (.i2l, 1) := by decide +kernel
theorem dL_copyWord_8 : decode cL_copyWord 8 = .ok (.lastore, 1) := by decide +kernel
theorem dL_copyWord_9 : decode cL_copyWord 9 = .ok (.goto 6, 3) := by decide +kernel
theorem dL_copyWord_12 : decode cL_copyWord 12 = .ok (.astore_n 3, 1) := by decide +kernel
theorem dL_copyWord_13 : decode cL_copyWord 13 = .ok (.iconst 1, 1) := by decide +kernel
theorem dL_copyWord_14 : decode cL_copyWord 14 = .ok (.ireturn, 1) := by decide +kernel
theorem dL_copyWord_15 : decode cL_copyWord 15 = .ok (.iconst 0, 1) := by decide +kernel
theorem dL_copyWord_16 : decode cL_copyWord 16 = .ok (.ireturn, 1) := by decide +kernel
theorem dL_setLeastLength_0 : decode cL_setLeastLength 0 = .ok (.aload_n 2, 1) := by decide +kernel
theorem dL_setLeastLength_1 : decode cL_setLeastLength 1 = .ok (.iconst 0, 1) := by decide +kernel
theorem dL_setLeastLength_2 : decode cL_setLeastLength 2 = .ok (.aload_n 0, 1) := by decide +kernel
theorem dL_setLeastLength_3 : decode cL_setLeastLength 3 = .ok (.iload_n 1, 1) := by decide +kernel
theorem dL_setLeastLength_4 : decode cL_setLeastLength 4 = .ok (.invokevirtual 32, 3) := by decide +kernel
theorem dL_setLeastLength_7 : decode cL_setLeastLength 7 = .ok (.i2l, 1) := by decide +kernel
theorem dL_setLeastLength_8 : decode cL_setLeastLength 8 = .ok (.lastore, 1) := by decide +kernel
theorem dL_setLeastLength_9 : decode cL_setLeastLength 9 = .ok (.goto 6, 3) := by decide +kernel
theorem dL_setLeastLength_12 : decode cL_setLeastLength 12 = .ok (.astore_n 3, 1) := by decide +kernel
theorem dL_setLeastLength_13 : decode cL_setLeastLength 13 = .ok (.iconst 1, 1) := by decide +kernel
theorem dL_setLeastLength_14 : decode cL_setLeastLength 14 = .ok (.ireturn, 1) := by decide +kernel
theorem dL_setLeastLength_15 : decode cL_setLeastLength 15 = .ok (.iconst 0, 1) := by decide +kernel
theorem dL_setLeastLength_16 : decode cL_setLeastLength 16 = .ok (.ireturn, 1) := by decide +kernel
theorem dL_start_0 : decode cL_start 0 = .ok (.aload_n 0, 1) := by decide +kernel
theorem dL_start_1 : decode cL_start 1 = .ok (.iload_n 1, 1) := by decide +kernel
theorem dL_start_2 : decode cL_start 2 = .ok (.invokevirtual 35, 3) := by decide +kernel
theorem dL_start_5 : decode cL_start 5 = .ok (.goto 6, 3) := by decide +kernel
theorem dL_start_8 : decode cL_start 8 = .ok (.astore_n 2, 1) := by decide +kernel
theorem dL_start_9 : decode cL_start 9 = .ok (.iconst 1, 1) := by decide +kernel
theorem dL_start_10 : decode cL_start 10 = .ok (.ireturn, 1) := by decide +kernel
theorem dL_start_11 : decode cL_start 11 = .ok (.iconst 0, 1) := by decide +kernel
theorem dL_start_12 : decode cL_start 12 = .ok (.ireturn, 1) := by decide +kernel
theorem dL_play_0 : decode cL_play 0 = .ok (.aload_n 2, 1) := by decide +kernel
theorem dL_play_1 : decode cL_play 1 = .ok (.iconst 0, 1) := by decide +kernel
theorem dL_play_2 : decode cL_play 2 = .ok (.aload_n 0, 1) := by decide +kernel
theorem dL_play_3 : decode cL_play 3 = .ok (.iload_n 1, 1) := by decide +kernel
theorem dL_play_4 : decode cL_play 4 = .ok (.invokevirtual 39, 3) := by decide +kernel
theorem dL_play_7 : decode cL_play 7 = .ok (.i2l, 1) := by decide +kernel
theorem dL_play_8 : decode cL_play 8 = .ok (.lastore, 1) := by decide +kernel
theorem dL_play_9 : decode cL_play 9 = .ok (.goto 9, 3) := by decide +kernel
theorem dL_play_12 : decode cL_play 12 = .ok (.astore_n 3, 1) := by decide +kernel
theorem dL_play_13 : decode cL_play 13 = .ok (.iconst 1, 1) := by decide +kernel
theorem dL_play_14 : decode cL_play 14 = .ok (.ireturn, 1) := by decide +kernel
theorem dL_play_15 : decode cL_play 15 = .ok (.astore_n 3, 1) := by decide +kernel
theorem dL_play_16 : decode cL_play 16 = .ok (.iconst 2, 1) := by decide +kernel
theorem dL_play_17 : decode cL_play 17 = .ok (.ireturn, 1) := by decide +kernel
