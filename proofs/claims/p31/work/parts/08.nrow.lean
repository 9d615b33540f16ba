theorem dX2_lengthOf_0 : decode cX2_lengthOf 0 = .ok (.lload_n 0, 1) := by decide +kernel
theorem dX2_lengthOf_1 : decode cX2_lengthOf 1 = .ok (.bipush 50, 2) := by decide +kernel
theorem dX2_lengthOf_3 : decode cX2_lengthOf 3 = .ok (.lushr, 1) := by decide +kernel
theorem dX2_lengthOf_4 : decode cX2_lengthOf 4 = .ok (.l2i, 1) := by decide +kernel
theorem dX2_lengthOf_5 : decode cX2_lengthOf 5 = .ok (.ireturn, 1) := by decide +kernel
set_option maxRecDepth 20000 in
theorem ggX2_isFull_X2_lengthOf : GoodIn wsX2_isFull wsX2_lengthOf := goodIn_r _ [4] (by decide +kernel) (by decide +kernel)
set_option maxRecDepth 20000 in
theorem gX2_isFull_X2_lengthOf : GoodIn wsX2_isFull (va_wsS RX2 11 yX2_lengthOf wsX2_lengthOf) := goodIn_app (goodIn_of _ (by decide +kernel)) ggX2_isFull_X2_lengthOf
theorem dX2_isFull_0 : decode cX2_isFull 0 = .ok (.lload_n 0, 1) := by decide +kernel
theorem dX2_isFull_1 : decode cX2_isFull 1 = .ok (.invokestatic 11, 3) := by decide +kernel
theorem dX2_isFull_4 : decode cX2_isFull 4 = .ok (.bipush 10, 2) := by decide +kernel
theorem dX2_isFull_6 : decode cX2_isFull 6 = .ok (.if_icmp .lt 7, 3) := by decide +kernel
theorem dX2_isFull_9 : decode cX2_isFull 9 = .ok (.iconst 1, 1) := by decide +kernel
theorem dX2_isFull_10 : decode cX2_isFull 10 = .ok (.goto 4, 3) := by decide +kernel
theorem dX2_isFull_13 : decode cX2_isFull 13 = .ok (.iconst 0, 1) := by decide +kernel
theorem dX2_isFull_14 : decode cX2_isFull 14 = .ok (.ireturn, 1) := by decide +kernel
set_option maxRecDepth 20000 in
theorem ggX2_letterAt_X2_lengthOf : GoodIn wsX2_letterAt wsX2_lengthOf := goodIn_r _ [4] (by decide +kernel) (by decide +kernel)
set_option maxRecDepth 20000 in
theorem gX2_letterAt_X2_lengthOf : GoodIn wsX2_letterAt (va_wsS RX2 11 yX2_lengthOf wsX2_lengthOf) := goodIn_app (goodIn_of _ (by decide +kernel)) ggX2_letterAt_X2_lengthOf
theorem dX2_letterAt_0 : decode cX2_letterAt 0 = .ok (.lload_n 0, 1) := by decide +kernel
theorem dX2_letterAt_1 : decode cX2_letterAt 1 = .ok (.invokestatic 11, 3) := by decide +kernel
theorem dX2_letterAt_4 : decode cX2_letterAt 4 = .ok (.istore_n 3, 1) := by decide +kernel
theorem dX2_letterAt_5 : decode cX2_letterAt 5 = .ok (.iload_n 2, 1) := by decide +kernel
theorem dX2_letterAt_6 : decode cX2_letterAt 6 = .ok (.ifCond .lt 8, 3) := by decide +kernel
theorem dX2_letterAt_9 : decode cX2_letterAt 9 = .ok (.iload_n 2, 1) := by decide +kernel
theorem dX2_letterAt_10 : decode cX2_letterAt 10 = .ok (.iload_n 3, 1) := by decide +kernel
theorem dX2_letterAt_11 : decode cX2_letterAt 11 = .ok (.if_icmp .lt 5, 3) := by decide +kernel
theorem dX2_letterAt_14 : decode cX2_letterAt 14 = .ok (.iconst (-1), 1) := by decide +kernel
theorem dX2_letterAt_15 : decode cX2_letterAt 15 = .ok (.ireturn, 1) := by decide +kernel
theorem dX2_letterAt_16 : decode cX2_letterAt 16 = .ok (.lload_n 0, 1) := by decide +kernel
theorem dX2_letterAt_17 : decode cX2_letterAt 17 = .ok (.iconst 5, 1) := by decide +kernel
theorem dX2_letterAt_18 : decode cX2_letterAt 18 = .ok (.iload_n 3, 1) := by decide +kernel
theorem dX2_letterAt_19 : decode cX2_letterAt 19 = .ok (.iconst 1, 1) := by decide +kernel
theorem dX2_letterAt_20 : decode cX2_letterAt 20 = .ok (.isub, 1) := by decide +kernel
theorem dX2_letterAt_21 : decode cX2_letterAt 21 = .ok (.iload_n 2, 1) := by decide +kernel
theorem dX2_letterAt_22 : decode cX2_letterAt 22 = .ok (.isub, 1) := by decide +kernel
theorem dX2_letterAt_23 : decode cX2_letterAt 23 = .ok (.imul, 1) := by decide +kernel
theorem dX2_letterAt_24 : decode cX2_letterAt 24 = .ok (.lushr, 1) := by decide +kernel
theorem dX2_letterAt_25 : decode cX2_letterAt 25 = .ok (.l2i, 1) := by decide +kernel
theorem dX2_letterAt_26 : decode cX2_letterAt 26 = .ok (.bipush 31, 2) := by decide +kernel
theorem dX2_letterAt_28 : decode cX2_letterAt 28 = .ok (.iand, 1) := by decide +kernel
theorem dX2_letterAt_29 : decode cX2_letterAt 29 = .ok (.ireturn, 1) := by decide +kernel
set_option maxRecDepth 20000 in
theorem ggX2_with_X2_lengthOf : GoodIn wsX2_with wsX2_lengthOf := goodIn_r _ [5] (by decide +kernel) (by decide +kernel)
set_option maxRecDepth 20000 in
theorem gX2_with_X2_lengthOf : GoodIn wsX2_with (va_wsS RX2 11 yX2_lengthOf wsX2_lengthOf) := goodIn_app (goodIn_of _ (by decide +kernel)) ggX2_with_X2_lengthOf
set_option maxRecDepth 20000 in
theorem ggX2_with_X2_pack : GoodIn wsX2_with wsX2_pack := goodIn_r _ [8] (by decide +kernel) (by decide +kernel)
set_option maxRecDepth 20000 in
theorem gX2_with_X2_pack : GoodIn wsX2_with (va_wsS RX2 17 yX2_pack wsX2_pack) := goodIn_app (goodIn_of _ (by decide +kernel)) ggX2_with_X2_pack
theorem dX2_with_0 : decode cX2_with 0 = .ok (.lload_n 0, 1) := by decide +kernel
theorem dX2_with_1 : decode cX2_with 1 = .ok (.invokestatic 11, 3) := by decide +kernel
theorem dX2_with_4 : decode cX2_with 4 = .ok (.iconst 1, 1) := by decide +kernel
theorem dX2_with_5 : decode cX2_with 5 = .ok (.iadd, 1) := by decide +kernel
theorem dX2_with_6 : decode cX2_with 6 = .ok (.lload_n 0, 1) := by decide +kernel
theorem dX2_with_7 : decode cX2_with 7 = .ok (.ldc2_w 15, 3) := by decide +kernel
theorem dX2_with_10 : decode cX2_with 10 = .ok (.land, 1) := by decide +kernel
theorem dX2_with_11 : decode cX2_with 11 = .ok (.iconst 5, 1) := by decide +kernel
theorem dX2_with_12 : decode cX2_with 12 = .ok (.lshl, 1) := by decide +kernel
theorem dX2_with_13 : decode cX2_with 13 = .ok (.iload_n 2, 1) := by decide +kernel
theorem dX2_with_14 : decode cX2_with 14 = .ok (.i2l, 1) := by decide +kernel
theorem dX2_with_15 : decode cX2_with 15 = .ok (.lor, 1) := by decide +kernel
theorem dX2_with_16 : decode cX2_with 16 = .ok (.invokestatic 17, 3) := by decide +kernel
theorem dX2_with_19 : decode cX2_with 19 = .ok (.lreturn, 1) := by decide +kernel
set_option maxRecDepth 20000 in
theorem ggX2_beginning_X2_lengthOf : GoodIn wsX2_beginning wsX2_lengthOf := goodIn_r _ [5] (by decide +kernel) (by decide +kernel)
set_option maxRecDepth 20000 in
theorem gX2_beginning_X2_lengthOf : GoodIn wsX2_beginning (va_wsS RX2 11 yX2_lengthOf wsX2_lengthOf) := goodIn_app (goodIn_of _ (by decide +kernel)) ggX2_beginning_X2_lengthOf
set_option maxRecDepth 20000 in
theorem ggX2_beginning_X2_pack : GoodIn wsX2_beginning wsX2_pack := goodIn_r _ [8] (by decide +kernel) (by decide +kernel)
set_option maxRecDepth 20000 in
theorem gX2_beginning_X2_pack : GoodIn wsX2_beginning (va_wsS RX2 17 yX2_pack wsX2_pack) := goodIn_app (goodIn_of _ (by decide +kernel)) ggX2_beginning_X2_pack
theorem dX2_beginning_0 : decode cX2_beginning 0 = .ok (.lload_n 0, 1) := by decide +kernel
theorem dX2_beginning_1 : decode cX2_beginning 1 = .ok (.invokestatic 11, 3) := by decide +kernel
theorem dX2_beginning_4 : decode cX2_beginning 4 = .ok (.iload_n 2, 1) := by decide +kernel
theorem dX2_beginning_5 : decode cX2_beginning 5 = .ok (.isub, 1) := by decide +kernel
theorem dX2_beginning_6 : decode cX2_beginning 6 = .ok (.istore_n 3, 1) := by decide +kernel
theorem dX2_beginning_7 : decode cX2_beginning 7 = .ok (.iload_n 2, 1) := by decide +kernel
theorem dX2_beginning_8 : decode cX2_beginning 8 = .ok (.lload_n 0, 1) := by decide +kernel
theorem dX2_beginning_9 : decode cX2_beginning 9 = .ok (.ldc2_w 15, 3) := by decide +kernel
theorem dX2_beginning_12 : decode cX2_beginning 12 = .ok (.land, 1) := by decide +kernel
theorem dX2_beginning_13 : decode cX2_beginning 13 = .ok (.iconst 5, 1) := by decide +kernel
theorem dX2_beginning_14 : decode cX2_beginning 14 = .ok (.iload_n 3, 1) := by decide +kernel
theorem dX2_beginning_15 : decode cX2_beginning 15 = .ok (.imul, 1) := by decide +kernel
theorem dX2_beginning_16 : decode cX2_beginning 16 = .ok (.lushr, 1) := by decide +kernel
theorem dX2_beginning_17 : decode cX2_beginning 17 = .ok (.invokestatic 17, 3) := by decide +kernel
theorem dX2_beginning_20 : decode cX2_beginning 20 = .ok (.lreturn, 1) := by decide +kernel
set_option maxRecDepth 20000 in
theorem ggX2_beginsWith_X2_lengthOf : GoodIn wsX2_beginsWith wsX2_lengthOf := goodIn_r _ [5] (by decide +kernel) (by decide +kernel)
set_option maxRecDepth 20000 in
theorem gX2_beginsWith_X2_lengthOf : GoodIn wsX2_beginsWith (va_wsS RX2 11 yX2_lengthOf wsX2_lengthOf) := goodIn_app (goodIn_of _ (by decide +kernel)) ggX2_beginsWith_X2_lengthOf
theorem dX2_beginsWith_0 : decode cX2_beginsWith 0 = .ok (.lload_n 0, 1) := by decide +kernel
theorem dX2_beginsWith_1 : decode cX2_beginsWith 1 = .ok (.invokestatic 11, 3) := by decide +kernel
theorem dX2_beginsWith_4 : decode cX2_beginsWith 4 = .ok (.lload_n 2, 1) := by decide +kernel
theorem dX2_beginsWith_5 : decode cX2_beginsWith 5 = .ok (.invokestatic 11, 3) := by decide +kernel
theorem dX2_beginsWith_8 : decode cX2_beginsWith 8 = .ok (.isub, 1) := by decide +kernel
theorem dX2_beginsWith_9 : decode cX2_beginsWith 9 = .ok (.istore 4, 2) := by decide +kernel
theorem dX2_beginsWith_11 : decode cX2_beginsWith 11 = .ok (.iload 4, 2) := by decide +kernel
theorem dX2_beginsWith_13 : decode cX2_beginsWith 13 = .ok (.ifCond .lt 26, 3) := by decide +kernel
theorem dX2_beginsWith_16 : decode cX2_beginsWith 16 = .ok (.lload_n 0, 1) := by decide +kernel
theorem dX2_beginsWith_17 : decode cX2_beginsWith 17 = .ok (.ldc2_w 15, 3) := by decide +kernel
theorem dX2_beginsWith_20 : decode cX2_beginsWith 20 = .ok (.land, 1) := by decide +kernel
theorem dX2_beginsWith_21 : decode cX2_beginsWith 21 = .ok (.iconst 5, 1) := by decide +kernel
theorem dX2_beginsWith_22 : decode cX2_beginsWith 22 = .ok (.iload 4, 2) := by decide +kernel
theorem dX2_beginsWith_24 : decode cX2_beginsWith 24 = .ok (.imul, 1) := by decide +kernel
theorem dX2_beginsWith_25 : decode cX2_beginsWith 25 = .ok (.lushr, 1) := by decide +kernel
theorem dX2_beginsWith_26 : decode cX2_beginsWith 26 = .ok (.lload_n 2, 1) := by decide +kernel
theorem dX2_beginsWith_27 : decode cX2_beginsWith 27 = .ok (.ldc2_w 15, 3) := by decide +kernel
theorem dX2_beginsWith_30 : decode cX2_beginsWith 30 = .ok (.land, 1) := by decide +kernel
theorem dX2_beginsWith_31 : decode cX2_beginsWith 31 = .ok (.lcmp, 1) := by decide +kernel
theorem dX2_beginsWith_32 : decode cX2_beginsWith 32 = .ok (.ifCond .ne 7, 3) := by decide +kernel
theorem dX2_beginsWith_35 : decode cX2_beginsWith 35 = .ok (.iconst 1, 1) := by decide +kernel
theorem dX2_beginsWith_36 : decode cX2_beginsWith 36 = .ok (.goto 4, 3) := by decide +kernel
theorem dX2_beginsWith_39 : decode cX2_beginsWith 39 = .ok (.iconst 0, 1) := by decide +kernel
theorem dX2_beginsWith_40 : decode cX2_beginsWith 40 = .ok (.ireturn, 1) := by decide +kernel
set_option maxRecDepth 20000 in
theorem ggX2_lengthShared_X2_lengthOf : GoodIn wsX2_lengthShared wsX2_lengthOf := goodIn_r _ [8] (by decide +kernel) (by decide +kernel)
set_option maxRecDepth 20000 in
theorem gX2_lengthShared_X2_lengthOf : GoodIn wsX2_lengthShared (va_wsS RX2 11 yX2_lengthOf wsX2_lengthOf) := goodIn_app (goodIn_of _ (by decide +kernel)) ggX2_lengthShared_X2_lengthOf
set_option maxRecDepth 20000 in
theorem ggX2_lengthShared_X2_beginning : GoodIn wsX2_lengthShared wsX2_beginning := goodIn_r _ [11, 12, 5, 6, 7, 8, 13, 14, 15] (by decide +kernel) (by decide +kernel)
set_option maxRecDepth 20000 in
theorem gX2_lengthShared_X2_beginning : GoodIn wsX2_lengthShared (va_wsS RX2 27 yX2_beginning wsX2_beginning) := goodIn_app (goodIn_of _ (by decide +kernel)) ggX2_lengthShared_X2_beginning
theorem dX2_lengthShared_0 : decode cX2_lengthShared 0 = .ok (.lload_n 0, 1) := by decide +kernel
theorem dX2_lengthShared_1 : decode cX2_lengthShared 1 = .ok (.invokestatic 11, 3) := by decide +kernel
theorem dX2_lengthShared_4 : decode cX2_lengthShared 4 = .ok (.lload_n 2, 1) := by decide +kernel
theorem dX2_lengthShared_5 : decode cX2_lengthShared 5 = .ok (.invokestatic 11, 3) := by decide +kernel
theorem dX2_lengthShared_8 : decode cX2_lengthShared 8 = .ok (.invokestatic 21, 3) := by decide +kernel
theorem dX2_lengthShared_11 : decode cX2_lengthShared 11 = .ok (.istore 4, 2) := by decide +kernel
theorem dX2_lengthShared_13 : decode cX2_lengthShared 13 = .ok (.iload 4, 2) := by decide +kernel
theorem dX2_lengthShared_15 : decode cX2_lengthShared 15 = .ok (.ifCond .le 25, 3) := by decide +kernel
theorem dX2_lengthShared_18 : decode cX2_lengthShared 18 = .ok (.lload_n 0, 1) := by decide +kernel
theorem dX2_lengthShared_19 : decode cX2_lengthShared 19 = .ok (.iload 4, 2) := by decide +kernel
theorem dX2_lengthShared_21 : decode cX2_lengthShared 21 = .ok (.invokestatic 27, 3) := by decide +kernel
theorem dX2_lengthShared_24 : decode cX2_lengthShared 24 = .ok (.lload_n 2, 1) := by decide +kernel
theorem dX2_lengthShared_25 : decode cX2_lengthShared 25 = .ok (.iload 4, 2) := by decide +kernel
theorem dX2_lengthShared_27 : decode cX2_lengthShared 27 = .ok (.invokestatic 27, 3) := by decide +kernel
theorem dX2_lengthShared_30 : decode cX2_lengthShared 30 = .ok (.lcmp, 1) := by decide +kernel
theorem dX2_lengthShared_31 : decode cX2_lengthShared 31 = .ok (.ifCond .eq 9, 3) := by decide +kernel
theorem dX2_lengthShared_34 : decode cX2_lengthShared 34 = .ok (.iinc 4 (-1), 3) := by decide +kernel
theorem dX2_lengthShared_37 : decode cX2_lengthShared 37 = .ok (.goto (-24), 3) := by decide +kernel
theorem dX2_lengthShared_40 : decode cX2_lengthShared 40 = .ok (.iload 4, 2) := by decide +kernel
theorem dX2_lengthShared_42 : decode cX2_lengthShared 42 = .ok (.ireturn, 1) := by decide +kernel
theorem dX2_pack_0 : decode cX2_pack 0 = .ok (.iload_n 0, 1) := by decide +kernel
theorem dX2_pack_1 : decode cX2_pack 1 = .ok (.i2l, 1) := by decide +kernel
theorem dX2_pack_2 : decode cX2_pack 2 = .ok (.bipush 50, 2) := by decide +kernel
theorem dX2_pack_4 : decode cX2_pack 4 = .ok (.lshl, 1) := by decide +kernel
theorem dX2_pack_5 : decode cX2_pack 5 = .ok (.lload_n 1, 1) := by decide +kernel
theorem dX2_pack_6 : decode cX2_pack 6 = .ok (.lor, 1) := by decide +kernel
theorem dX2_pack_7 : decode cX2_pack 7 = .ok (.lreturn, 1) := by decide +kernel
