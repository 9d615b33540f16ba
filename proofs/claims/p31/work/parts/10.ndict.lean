theorem dX0_init_0 : decode cX0_init 0 = .ok (.aload_n 0, 1) := by decide +kernel
theorem dX0_init_1 : decode cX0_init 1 = .ok (.invokespecial 3, 3) := by decide +kernel
theorem dX0_init_4 : decode cX0_init 4 = .ok (.aload_n 0, 1) := by decide +kernel
theorem dX0_init_5 : decode cX0_init 5 = .ok (.bipush 50, 2) := by decide +kernel
theorem dX0_init_7 : decode cX0_init 7 = .ok (.newarray .long, 2) := by decide +kernel
theorem dX0_init_9 : decode cX0_init 9 = .ok (.putfield 9, 3) := by decide +kernel
theorem dX0_init_12 : decode cX0_init 12 = .ok (.aload_n 0, 1) := by decide +kernel
theorem dX0_init_13 : decode cX0_init 13 = .ok (.iconst 0, 1) := by decide +kernel
theorem dX0_init_14 : decode cX0_init 14 = .ok (.putfield 15, 3) := by decide +kernel
theorem dX0_init_17 : decode cX0_init 17 = .ok (.aload_n 0, 1) := by decide +kernel
theorem dX0_init_18 : decode cX0_init 18 = .ok (.iconst 3, 1) := by decide +kernel
theorem dX0_init_19 : decode cX0_init 19 = .ok (.putfield 19, 3) := by decide +kernel
theorem dX0_init_22 : decode cX0_init 22 = .ok (.return_, 1) := by decide +kernel
theorem dX0_size_0 : decode cX0_size 0 = .ok (.aload_n 0, 1) := by decide +kernel
theorem dX0_size_1 : decode cX0_size 1 = .ok (.getfield 15, 3) := by decide +kernel
theorem dX0_size_4 : decode cX0_size 4 = .ok (.ireturn, 1) := by decide +kernel
set_option maxRecDepth 20000 in
theorem ggX0_has_X0_placeOf : GoodIn wsX0_has wsX0_placeOf := goodIn_r _ [5, 6, 7, 8, 9, 10] (by decide +kernel) (by decide +kernel)
set_option maxRecDepth 20000 in
theorem gX0_has_X0_placeOf : GoodIn wsX0_has (wsV RX0 22 RX0 yX0_placeOf wsX0_placeOf) := goodIn_app (goodIn_of _ (by decide +kernel)) ggX0_has_X0_placeOf
theorem dX0_has_0 : decode cX0_has 0 = .ok (.aload_n 0, 1) := by decide +kernel
theorem dX0_has_1 : decode cX0_has 1 = .ok (.lload_n 1, 1) := by decide +kernel
theorem dX0_has_2 : decode cX0_has 2 = .ok (.invokevirtual 22, 3) := by decide +kernel
theorem dX0_has_5 : decode cX0_has 5 = .ok (.iconst (-1), 1) := by decide +kernel
theorem dX0_has_6 : decode cX0_has 6 = .ok (.if_icmp .eq 7, 3) := by decide +kernel
theorem dX0_has_9 : decode cX0_has 9 = .ok (.iconst 1, 1) := by decide +kernel
theorem dX0_has_10 : decode cX0_has 10 = .ok (.goto 4, 3) := by decide +kernel
theorem dX0_has_13 : decode cX0_has 13 = .ok (.iconst 0, 1) := by decide +kernel
theorem dX0_has_14 : decode cX0_has 14 = .ok (.ireturn, 1) := by decide +kernel
theorem dX0_wordAt_0 : decode cX0_wordAt 0 = .ok (.iload_n 1, 1) := by decide +kernel
theorem dX0_wordAt_1 : decode cX0_wordAt 1 = .ok (.ifCond .lt 20, 3) := by decide +kernel
theorem dX0_wordAt_4 : decode cX0_wordAt 4 = .ok (.iload_n 1, 1) := by decide +kernel
theorem dX0_wordAt_5 : decode cX0_wordAt 5 = .ok (.aload_n 0, 1) := by decide +kernel
theorem dX0_wordAt_6 : decode cX0_wordAt 6 = .ok (.getfield 15, 3) := by decide +kernel
theorem dX0_wordAt_9 : decode cX0_wordAt 9 = .ok (.if_icmp .ge 12, 3) := by decide +kernel
theorem dX0_wordAt_12 : decode cX0_wordAt 12 = .ok (.aload_n 0, 1) := by decide +kernel
theorem dX0_wordAt_13 : decode cX0_wordAt 13 = .ok (.getfield 9, 3) := by decide +kernel
theorem dX0_wordAt_16 : decode cX0_wordAt 16 = .ok (.iload_n 1, 1) := by decide +kernel
theorem dX0_wordAt_17 : decode cX0_wordAt 17 = .ok (.laload, 1) := by decide +kernel
theorem dX0_wordAt_18 : decode cX0_wordAt 18 = .ok (.goto 4, 3) := by decide +kernel
theorem dX0_wordAt_21 : decode cX0_wordAt 21 = .ok (.lconst 0, 1) := by decide +kernel
theorem dX0_wordAt_22 : decode cX0_wordAt 22 = .ok (.lreturn, 1) := by decide +kernel
set_option maxRecDepth 20000 in
theorem ggX0_add_X0_has : GoodIn wsX0_add wsX0_has := goodIn_r _ [7, 8, 9, 10, 6, 11, 1, 2, 12, 13, 14] (by decide +kernel) (by decide +kernel)
set_option maxRecDepth 20000 in
theorem gX0_add_X0_has : GoodIn wsX0_add (wsV RX0 28 RX0 yX0_has wsX0_has) := goodIn_app (goodIn_of _ (by decide +kernel)) ggX0_add_X0_has
theorem dX0_add_0 : decode cX0_add 0 = .ok (.aload_n 0, 1) := by decide +kernel
theorem dX0_add_1 : decode cX0_add 1 = .ok (.getfield 15, 3) := by decide +kernel
theorem dX0_add_4 : decode cX0_add 4 = .ok (.aload_n 0, 1) := by decide +kernel
theorem dX0_add_5 : decode cX0_add 5 = .ok (.getfield 9, 3) := by decide +kernel
theorem dX0_add_8 : decode cX0_add 8 = .ok (.arraylength, 1) := by decide +kernel
theorem dX0_add_9 : decode cX0_add 9 = .ok (.if_icmp .ge 11, 3) := by decide +kernel
theorem dX0_add_12 : decode cX0_add 12 = .ok (.aload_n 0, 1) := by decide +kernel
theorem dX0_add_13 : decode cX0_add 13 = .ok (.lload_n 1, 1) := by decide +kernel
theorem dX0_add_14 : decode cX0_add 14 = .ok (.invokevirtual 28, 3) := by decide +kernel
theorem dX0_add_17 : decode cX0_add 17 = .ok (.ifCond .eq 5, 3) := by decide +kernel
theorem dX0_add_20 : decode cX0_add 20 = .ok (.iconst 0, 1) := by decide +kernel
theorem dX0_add_21 : decode cX0_add 21 = .ok (.ireturn, 1) := by decide +kernel
theorem dX0_add_22 : decode cX0_add 22 = .ok (.aload_n 0, 1) := by decide +kernel
theorem dX0_add_23 : decode cX0_add 23 = .ok (.getfield 15, 3) := by decide +kernel
theorem dX0_add_26 : decode cX0_add 26 = .ok (.istore_n 3, 1) := by decide +kernel
theorem dX0_add_27 : decode cX0_add 27 = .ok (.iload_n 3, 1) := by decide +kernel
theorem dX0_add_28 : decode cX0_add 28 = .ok (.ifCond .le 36, 3) := by decide +kernel
theorem dX0_add_31 : decode cX0_add 31 = .ok (.aload_n 0, 1) := by decide +kernel
theorem dX0_add_32 : decode cX0_add 32 = .ok (.getfield 9, 3) := by decide +kernel
theorem dX0_add_35 : decode cX0_add 35 = .ok (.iload_n 3, 1) := by decide +kernel
theorem dX0_add_36 : decode cX0_add 36 = .ok (.iconst 1, 1) := by decide +kernel
theorem dX0_add_37 : decode cX0_add 37 = .ok (.isub, 1) := by decide +kernel
theorem dX0_add_38 : decode cX0_add 38 = .ok (.laload, 1) := by decide +kernel
theorem dX0_add_39 : decode cX0_add 39 = .ok (.lload_n 1, 1) := by decide +kernel
theorem dX0_add_40 : decode cX0_add 40 = .ok (.lcmp, 1) := by decide +kernel
theorem dX0_add_41 : decode cX0_add 41 = .ok (.ifCond .le 23, 3) := by decide +kernel
theorem dX0_add_44 : decode cX0_add 44 = .ok (.aload_n 0, 1) := by decide +kernel
theorem dX0_add_45 : decode cX0_add 45 = .ok (.getfield 9, 3) := by decide +kernel
theorem dX0_add_48 : decode cX0_add 48 = .ok (.iload_n 3, 1) := by decide +kernel
theorem dX0_add_49 : decode cX0_add 49 = .ok (.aload_n 0, 1) := by decide +kernel
theorem dX0_add_50 : decode cX0_add 50 = .ok (.getfield 9, 3) := by decide +kernel
theorem dX0_add_53 : decode cX0_add 53 = .ok (.iload_n 3, 1) := by decide +kernel
theorem dX0_add_54 : decode cX0_add 54 = .ok (.iconst 1, 1) := by decide +kernel
theorem dX0_add_55 : decode cX0_add 55 = .ok (.isub, 1) := by decide +kernel
theorem dX0_add_56 : decode cX0_add 56 = .ok (.laload, 1) := by decide +kernel
theorem dX0_add_57 : decode cX0_add 57 = .ok (.lastore, 1) := by decide +kernel
theorem dX0_add_58 : decode cX0_add 58 = .ok (.iinc 3 (-1), 3) := by decide +kernel
theorem dX0_add_61 : decode cX0_add 61 = .ok (.goto (-34), 3) := by decide +kernel
theorem dX0_add_64 : decode cX0_add 64 = .ok (.aload_n 0, 1) := by decide +kernel
theorem dX0_add_65 : decode cX0_add 65 = .ok (.getfield 9, 3) := by decide +kernel
theorem dX0_add_68 : decode cX0_add 68 = .ok (.iload_n 3, 1) := by decide +kernel
theorem dX0_add_69 : decode cX0_add 69 = .ok (.lload_n 1, 1) := by decide +kernel
theorem dX0_add_70 : decode cX0_add 70 = .ok (.lastore, 1) := by decide +kernel
theorem dX0_add_71 : decode cX0_add 71 = .ok (.aload_n 0, 1) := by decide +kernel
theorem dX0_add_72 : decode cX0_add 72 = .ok (.dup, 1) := by decide +kernel
theorem dX0_add_73 : decode cX0_add 73 = .ok (.getfield 15, 3) := by decide +kernel
theorem dX0_add_76 : decode cX0_add 76 = .ok (.iconst 1, 1) := by decide +kernel
theorem dX0_add_77 : decode cX0_add 77 = .ok (.iadd, 1) := by decide +kernel
theorem dX0_add_78 : decode cX0_add 78 = .ok (.putfield 15, 3) := by decide +kernel
theorem dX0_add_81 : decode cX0_add 81 = .ok (.iconst 1, 1) := by decide +kernel
theorem dX0_add_82 : decode cX0_add 82 = .ok (.ireturn, 1) := by decide +kernel
set_option maxRecDepth 20000 in
theorem ggX0_remove_X0_placeOf : GoodIn wsX0_remove wsX0_placeOf := goodIn_r _ [7, 1, 2, 8, 9, 10] (by decide +kernel) (by decide +kernel)
set_option maxRecDepth 20000 in
theorem gX0_remove_X0_placeOf : GoodIn wsX0_remove (wsV RX0 22 RX0 yX0_placeOf wsX0_placeOf) := goodIn_app (goodIn_of _ (by decide +kernel)) ggX0_remove_X0_placeOf
theorem dX0_remove_0 : decode cX0_remove 0 = .ok (.aload_n 0, 1) := by decide +kernel
theorem dX0_remove_1 : decode cX0_remove 1 = .ok (.lload_n 1, 1) := by decide +kernel
theorem dX0_remove_2 : decode cX0_remove 2 = .ok (.invokevirtual 22, 3) := by decide +kernel
theorem dX0_remove_5 : decode cX0_remove 5 = .ok (.istore_n 3, 1) := by decide +kernel
theorem dX0_remove_6 : decode cX0_remove 6 = .ok (.iload_n 3, 1) := by decide +kernel
theorem dX0_remove_7 : decode cX0_remove 7 = .ok (.iconst (-1), 1) := by decide +kernel
theorem dX0_remove_8 : decode cX0_remove 8 = .ok (.if_icmp .ne 5, 3) := by decide +kernel
theorem dX0_remove_11 : decode cX0_remove 11 = .ok (.iconst 0, 1) := by decide +kernel
theorem dX0_remove_12 : decode cX0_remove 12 = .ok (.ireturn, 1) := by decide +kernel
theorem dX0_remove_13 : decode cX0_remove 13 = .ok (.aload_n 0, 1) := by decide +kernel
theorem dX0_remove_14 : decode cX0_remove 14 = .ok (.dup, 1) := by decide +kernel
theorem dX0_remove_15 : decode cX0_remove 15 = .ok (.getfield 15, 3) := by decide +kernel
theorem dX0_remove_18 : decode cX0_remove 18 = .ok (.iconst 1, 1) := by decide +kernel
theorem dX0_remove_19 : decode cX0_remove 19 = .ok (.isub, 1) := by decide +kernel
theorem dX0_remove_20 : decode cX0_remove 20 = .ok (.putfield 15, 3) := by decide +kernel
theorem dX0_remove_23 : decode cX0_remove 23 = .ok (.iload_n 3, 1) := by decide +kernel
theorem dX0_remove_24 : decode cX0_remove 24 = .ok (.istore 4, 2) := by decide +kernel
theorem dX0_remove_26 : decode cX0_remove 26 = .ok (.iload 4, 2) := by decide +kernel
theorem dX0_remove_28 : decode cX0_remove 28 = .ok (.aload_n 0, 1) := by decide +kernel
theorem dX0_remove_29 : decode cX0_remove 29 = .ok (.getfield 15, 3) := by decide +kernel
theorem dX0_remove_32 : decode cX0_remove 32 = .ok (.if_icmp .ge 25, 3) := by decide +kernel
theorem dX0_remove_35 : decode cX0_remove 35 = .ok (.aload_n 0, 1) := by decide +kernel
theorem dX0_remove_36 : decode cX0_remove 36 = .ok (.getfield 9, 3) := by decide +kernel
theorem dX0_remove_39 : decode cX0_remove 39 = .ok (.iload 4, 2) := by decide +kernel
theorem dX0_remove_41 : decode cX0_remove 41 = .ok (.aload_n 0, 1) := by decide +kernel
theorem dX0_remove_42 : decode cX0_remove 42 = .ok (.getfield 9, 3) := by decide +kernel
theorem dX0_remove_45 : decode cX0_remove 45 = .ok (.iload 4, 2) := by decide +kernel
theorem dX0_remove_47 : decode cX0_remove 47 = .ok (.iconst 1, 1) := by decide +kernel
theorem dX0_remove_48 : decode cX0_remove 48 = .ok (.iadd, 1) := by decide +kernel
theorem dX0_remove_49 : decode cX0_remove 49 = .ok (.laload, 1) := by decide +kernel
theorem dX0_remove_50 : decode cX0_remove 50 = .ok (.lastore, 1) := by decide +kernel
theorem dX0_remove_51 : decode cX0_remove 51 = .ok (.iinc 4 1, 3) := by decide +kernel
theorem dX0_remove_54 : decode cX0_remove 54 = .ok (.goto (-28), 3) := by decide +kernel
theorem dX0_remove_57 : decode cX0_remove 57 = .ok (.iconst 1, 1) := by decide +kernel
theorem dX0_remove_58 : decode cX0_remove 58 = .ok (.ireturn, 1) := by decide +kernel
set_option maxRecDepth 20000 in
theorem ggX0_countFrom_X2_beginsWith : GoodIn wsX0_countFrom wsX2_beginsWith := goodIn_r _ [6, 7, 8, 9, 5, 10] (by decide +kernel) (by decide +kernel)
set_option maxRecDepth 20000 in
theorem gX0_countFrom_X2_beginsWith : GoodIn wsX0_countFrom (va_wsS RX0 32 yX2_beginsWith wsX2_beginsWith) := goodIn_app (goodIn_of _ (by decide +kernel)) ggX0_countFrom_X2_beginsWith
theorem dX0_countFrom_0 : decode cX0_countFrom 0 = .ok (.iconst 0, 1) := by decide +kernel
theorem dX0_countFrom_1 : decode cX0_countFrom 1 = .ok (.istore_n 3, 1) := by decide +kernel
theorem dX0_countFrom_2 : decode cX0_countFrom 2 = .ok (.iconst 0, 1) := by decide +kernel
theorem dX0_countFrom_3 : decode cX0_countFrom 3 = .ok (.istore 4, 2) := by decide +kernel
theorem dX0_countFrom_5 : decode cX0_countFrom 5 = .ok (.iload 4, 2) := by decide +kernel
theorem dX0_countFrom_7 : decode cX0_countFrom 7 = .ok (.aload_n 0, 1) := by decide +kernel
theorem dX0_countFrom_8 : decode cX0_countFrom 8 = .ok (.getfield 15, 3) := by decide +kernel
theorem dX0_countFrom_11 : decode cX0_countFrom 11 = .ok (.if_icmp .ge 26, 3) := by decide +kernel
theorem dX0_countFrom_14 : decode cX0_countFrom 14 = .ok (.aload_n 0, 1) := by decide +kernel
theorem dX0_countFrom_15 : decode cX0_countFrom 15 = .ok (.getfield 9, 3) := by decide +kernel
theorem dX0_countFrom_18 : decode cX0_countFrom 18 = .ok (.iload 4, 2) := by decide +kernel
theorem dX0_countFrom_20 : decode cX0_countFrom 20 = .ok (.laload, 1) := by decide +kernel
theorem dX0_countFrom_21 : decode cX0_countFrom 21 = .ok (.lload_n 1, 1) := by decide +kernel
theorem dX0_countFrom_22 : decode cX0_countFrom 22 = .ok (.invokestatic 32, 3) := by decide +kernel
theorem dX0_countFrom_25 : decode cX0_countFrom 25 = .ok (.ifCond .eq 6, 3) := by decide +kernel
theorem dX0_countFrom_28 : decode cX0_countFrom 28 = .ok (.iinc 3 1, 3) := by decide +kernel
theorem dX0_countFrom_31 : decode cX0_countFrom 31 = .ok (.iinc 4 1, 3) := by decide +kernel
theorem dX0_countFrom_34 : decode cX0_countFrom 34 = .ok (.goto (-29), 3) := by decide +kernel
theorem dX0_countFrom_37 : decode cX0_countFrom 37 = .ok (.iload_n 3, 1) := by decide +kernel
theorem dX0_countFrom_38 : decode cX0_countFrom 38 = .ok (.ireturn, 1) := by decide +kernel
set_option maxRecDepth 20000 in
theorem ggX0_countBeginnings_X2_lengthOf : GoodIn wsX0_countBeginnings wsX2_lengthOf := goodIn_r _ [6] (by decide +kernel) (by decide +kernel)
set_option maxRecDepth 20000 in
theorem gX0_countBeginnings_X2_lengthOf : GoodIn wsX0_countBeginnings (va_wsS RX0 36 yX2_lengthOf wsX2_lengthOf) := goodIn_app (goodIn_of _ (by decide +kernel)) ggX0_countBeginnings_X2_lengthOf
set_option maxRecDepth 20000 in
theorem ggX0_countBeginnings_X0_lengthSharedBefore : GoodIn wsX0_countBeginnings wsX0_lengthSharedBefore := goodIn_r _ [11, 2, 12, 13, 14, 15, 16, 17, 5, 18, 19, 20, 21, 22, 4, 6, 23, 24, 25, 26, 27, 28, 29, 30, 31, 32] (by decide +kernel) (by decide +kernel)
set_option maxRecDepth 20000 in
theorem gX0_countBeginnings_X0_lengthSharedBefore : GoodIn wsX0_countBeginnings (wsV RX0 39 RX0 yX0_lengthSharedBefore wsX0_lengthSharedBefore) := goodIn_app (goodIn_of _ (by decide +kernel)) ggX0_countBeginnings_X0_lengthSharedBefore
theorem dX0_countBeginnings_0 : decode cX0_countBeginnings 0 = .ok (.iconst 1, 1) := by decide +kernel
theorem dX0_countBeginnings_1 : decode cX0_countBeginnings 1 = .ok (.istore_n 1, 1) := by decide +kernel
theorem dX0_countBeginnings_2 : decode cX0_countBeginnings 2 = .ok (.iconst 0, 1) := by decide +kernel
theorem dX0_countBeginnings_3 : decode cX0_countBeginnings 3 = .ok (.istore_n 2, 1) := by decide +kernel
theorem dX0_countBeginnings_4 : decode cX0_countBeginnings 4 = .ok (.iload_n 2, 1) := by decide +kernel
theorem dX0_countBeginnings_5 : decode cX0_countBeginnings 5 = .ok (.aload_n 0, 1) := by decide +kernel
theorem dX0_countBeginnings_6 : decode cX0_countBeginnings 6 = .ok (.getfield 15, 3) := by decide +kernel
theorem dX0_countBeginnings_9 : decode cX0_countBeginnings 9 = .ok (.if_icmp .ge 27, 3) := by decide +kernel
theorem dX0_countBeginnings_12 : decode cX0_countBeginnings 12 = .ok (.iload_n 1, 1) := by decide +kernel
theorem dX0_countBeginnings_13 : decode cX0_countBeginnings 13 = .ok (.aload_n 0, 1) := by decide +kernel
theorem dX0_countBeginnings_14 : decode cX0_countBeginnings 14 = .ok (.getfield 9, 3) := by decide +kernel
theorem dX0_countBeginnings_17 : decode cX0_countBeginnings 17 = .ok (.iload_n 2, 1) := by decide +kernel
theorem dX0_countBeginnings_18 : decode cX0_countBeginnings 18 = .ok (.laload, 1) := by decide +kernel
theorem dX0_countBeginnings_19 : decode cX0_countBeginnings 19 = .ok (.invokestatic 36, 3) := by decide +kernel
theorem dX0_countBeginnings_22 : decode cX0_countBeginnings 22 = .ok (.aload_n 0, 1) := by decide +kernel
theorem dX0_countBeginnings_23 : decode cX0_countBeginnings 23 = .ok (.iload_n 2, 1) := by decide +kernel
theorem dX0_countBeginnings_24 : decode cX0_countBeginnings 24 = .ok (.invokevirtual 39, 3) := by decide +kernel
theorem dX0_countBeginnings_27 : decode cX0_countBeginnings 27 = .ok (.isub, 1) := by decide +kernel
theorem dX0_countBeginnings_28 : decode cX0_countBeginnings 28 = .ok (.iadd, 1) := by decide +kernel
theorem dX0_countBeginnings_29 : decode cX0_countBeginnings 29 = .ok (.istore_n 1, 1) := by decide +kernel
theorem dX0_countBeginnings_30 : decode cX0_countBeginnings 30 = .ok (.iinc 2 1, 3) := by decide +kernel
theorem dX0_countBeginnings_33 : decode cX0_countBeginnings 33 = .ok (.goto (-29), 3) := by decide +kernel
theorem dX0_countBeginnings_36 : decode cX0_countBeginnings 36 = .ok (.iload_n 1, 1) := by decide +kernel
theorem dX0_countBeginnings_37 : decode cX0_countBeginnings 37 = .ok (.ireturn, 1) := by decide +kernel
theorem dX0_changeLeastLength_0 : decode cX0_changeLeastLength 0 = .ok (.aload_n 0, 1) := by decide +kernel
theorem dX0_changeLeastLength_1 : decode cX0_changeLeastLength 1 = .ok (.getfield 19, 3) := by decide +kernel
theorem dX0_changeLeastLength_4 : decode cX0_changeLeastLength 4 = .ok (.istore_n 2, 1) := by decide +kernel
theorem dX0_changeLeastLength_5 : decode cX0_changeLeastLength 5 = .ok (.aload_n 0, 1) := by decide +kernel
theorem dX0_changeLeastLength_6 : decode cX0_changeLeastLength 6 = .ok (.iload_n 1, 1) := by decide +kernel
theorem dX0_changeLeastLength_7 : decode cX0_changeLeastLength 7 = .ok (.putfield 19, 3) := by decide +kernel
theorem dX0_changeLeastLength_10 : decode cX0_changeLeastLength 10 = .ok (.iload_n 2, 1) := by decide +kernel
theorem dX0_changeLeastLength_11 : decode cX0_changeLeastLength 11 = .ok (.ireturn, 1) := by decide +kernel
set_option maxRecDepth 20000 in
theorem ggX0_isLongEnough_X2_lengthOf : GoodIn wsX0_isLongEnough wsX2_lengthOf := goodIn_r _ [5] (by decide +kernel) (by decide +kernel)
set_option maxRecDepth 20000 in
theorem gX0_isLongEnough_X2_lengthOf : GoodIn wsX0_isLongEnough (va_wsS RX0 36 yX2_lengthOf wsX2_lengthOf) := goodIn_app (goodIn_of _ (by decide +kernel)) ggX0_isLongEnough_X2_lengthOf
theorem dX0_isLongEnough_0 : decode cX0_isLongEnough 0 = .ok (.lload_n 1, 1) := by decide +kernel
theorem dX0_isLongEnough_1 : decode cX0_isLongEnough 1 = .ok (.invokestatic 36, 3) := by decide +kernel
theorem dX0_isLongEnough_4 : decode cX0_isLongEnough 4 = .ok (.aload_n 0, 1) := by decide +kernel
theorem dX0_isLongEnough_5 : decode cX0_isLongEnough 5 = .ok (.getfield 19, 3) := by decide +kernel
theorem dX0_isLongEnough_8 : decode cX0_isLongEnough 8 = .ok (.if_icmp .lt 7, 3) := by decide +kernel
theorem dX0_isLongEnough_11 : decode cX0_isLongEnough 11 = .ok (.iconst 1, 1) := by decide +kernel
theorem dX0_isLongEnough_12 : decode cX0_isLongEnough 12 = .ok (.goto 4, 3) := by decide +kernel
theorem dX0_isLongEnough_15 : decode cX0_isLongEnough 15 = .ok (.iconst 0, 1) := by decide +kernel
theorem dX0_isLongEnough_16 : decode cX0_isLongEnough 16 = .ok (.ireturn, 1) := by decide +kernel
set_option maxRecDepth 20000 in
theorem ggX0_hasCounting_X0_isLongEnough : GoodIn wsX0_hasCounting wsX0_isLongEnough := goodIn_r _ [5, 6, 7, 8, 9, 10, 21, 22, 23] (by decide +kernel) (by decide +kernel)
set_option maxRecDepth 20000 in
theorem gX0_hasCounting_X0_isLongEnough : GoodIn wsX0_hasCounting (wsV RX0 43 RX0 yX0_isLongEnough wsX0_isLongEnough) := goodIn_app (goodIn_of _ (by decide +kernel)) ggX0_hasCounting_X0_isLongEnough
set_option maxRecDepth 20000 in
theorem ggX0_hasCounting_X0_has : GoodIn wsX0_hasCounting wsX0_has := goodIn_r _ [14, 15, 16, 17, 4, 18, 19, 20, 21, 22, 23] (by decide +kernel) (by decide +kernel)
set_option maxRecDepth 20000 in
theorem gX0_hasCounting_X0_has : GoodIn wsX0_hasCounting (wsV RX0 28 RX0 yX0_has wsX0_has) := goodIn_app (goodIn_of _ (by decide +kernel)) ggX0_hasCounting_X0_has
theorem dX0_hasCounting_0 : decode cX0_hasCounting 0 = .ok (.aload_n 0, 1) := by decide +kernel
theorem dX0_hasCounting_1 : decode cX0_hasCounting 1 = .ok (.lload_n 1, 1) := by decide +kernel
theorem dX0_hasCounting_2 : decode cX0_hasCounting 2 = .ok (.invokevirtual 43, 3) := by decide +kernel
theorem dX0_hasCounting_5 : decode cX0_hasCounting 5 = .ok (.ifCond .eq 15, 3) := by decide +kernel
theorem dX0_hasCounting_8 : decode cX0_hasCounting 8 = .ok (.aload_n 0, 1) := by decide +kernel
theorem dX0_hasCounting_9 : decode cX0_hasCounting 9 = .ok (.lload_n 1, 1) := by decide +kernel
theorem dX0_hasCounting_10 : decode cX0_hasCounting 10 = .ok (.invokevirtual 28, 3) := by decide +kernel
theorem dX0_hasCounting_13 : decode cX0_hasCounting 13 = .ok (.ifCond .eq 7, 3) := by decide +kernel
theorem dX0_hasCounting_16 : decode cX0_hasCounting 16 = .ok (.iconst 1, 1) := by decide +kernel
theorem dX0_hasCounting_17 : decode cX0_hasCounting 17 = .ok (.goto 4, 3) := by decide +kernel
theorem dX0_hasCounting_20 : decode cX0_hasCounting 20 = .ok (.iconst 0, 1) := by decide +kernel
theorem dX0_hasCounting_21 : decode cX0_hasCounting 21 = .ok (.ireturn, 1) := by decide +kernel
set_option maxRecDepth 20000 in
theorem ggX0_hasCountingFrom_X0_isLongEnough : GoodIn wsX0_hasCountingFrom wsX0_isLongEnough := goodIn_r _ [7, 8, 9, 10, 11, 12, 18, 19, 20] (by decide +kernel) (by decide +kernel)
set_option maxRecDepth 20000 in
theorem gX0_hasCountingFrom_X0_isLongEnough : GoodIn wsX0_hasCountingFrom (wsV RX0 43 RX0 yX0_isLongEnough wsX0_isLongEnough) := goodIn_app (goodIn_of _ (by decide +kernel)) ggX0_hasCountingFrom_X0_isLongEnough
set_option maxRecDepth 20000 in
theorem ggX0_hasCountingFrom_X2_beginsWith : GoodIn wsX0_hasCountingFrom wsX2_beginsWith := goodIn_r _ [15, 16, 17, 10, 11, 12] (by decide +kernel) (by decide +kernel)
set_option maxRecDepth 20000 in
theorem gX0_hasCountingFrom_X2_beginsWith : GoodIn wsX0_hasCountingFrom (va_wsS RX0 32 yX2_beginsWith wsX2_beginsWith) := goodIn_app (goodIn_of _ (by decide +kernel)) ggX0_hasCountingFrom_X2_beginsWith
theorem dX0_hasCountingFrom_0 : decode cX0_hasCountingFrom 0 = .ok (.iconst 0, 1) := by decide +kernel
theorem dX0_hasCountingFrom_1 : decode cX0_hasCountingFrom 1 = .ok (.istore_n 3, 1) := by decide +kernel
theorem dX0_hasCountingFrom_2 : decode cX0_hasCountingFrom 2 = .ok (.iload_n 3, 1) := by decide +kernel
theorem dX0_hasCountingFrom_3 : decode cX0_hasCountingFrom 3 = .ok (.aload_n 0, 1) := by decide +kernel
theorem dX0_hasCountingFrom_4 : decode cX0_hasCountingFrom 4 = .ok (.getfield 15, 3) := by decide +kernel
theorem dX0_hasCountingFrom_7 : decode cX0_hasCountingFrom 7 = .ok (.if_icmp .ge 37, 3) := by decide +kernel
theorem dX0_hasCountingFrom_10 : decode cX0_hasCountingFrom 10 = .ok (.aload_n 0, 1) := by decide +kernel
theorem dX0_hasCountingFrom_11 : decode cX0_hasCountingFrom 11 = .ok (.aload_n 0, 1) := by decide +kernel
theorem dX0_hasCountingFrom_12 : decode cX0_hasCountingFrom 12 = .ok (.getfield 9, 3) := by decide +kernel
theorem dX0_hasCountingFrom_15 : decode cX0_hasCountingFrom 15 = .ok (.iload_n 3, 1) := by decide +kernel
theorem dX0_hasCountingFrom_16 : decode cX0_hasCountingFrom 16 = .ok (.laload, 1) := by decide +kernel
theorem dX0_hasCountingFrom_17 : decode cX0_hasCountingFrom 17 = .ok (.invokevirtual 43, 3) := by decide +kernel
theorem dX0_hasCountingFrom_20 : decode cX0_hasCountingFrom 20 = .ok (.ifCond .eq 18, 3) := by decide +kernel
theorem dX0_hasCountingFrom_23 : decode cX0_hasCountingFrom 23 = .ok (.aload_n 0, 1) := by decide +kernel
theorem dX0_hasCountingFrom_24 : decode cX0_hasCountingFrom 24 = .ok (.getfield 9, 3) := by decide +kernel
theorem dX0_hasCountingFrom_27 : decode cX0_hasCountingFrom 27 = .ok (.iload_n 3, 1) := by decide +kernel
theorem dX0_hasCountingFrom_28 : decode cX0_hasCountingFrom 28 = .ok (.laload, 1) := by decide +kernel
theorem dX0_hasCountingFrom_29 : decode cX0_hasCountingFrom 29 = .ok (.lload_n 1, 1) := by decide +kernel
theorem dX0_hasCountingFrom_30 : decode cX0_hasCountingFrom 30 = .ok (.invokestatic 32, 3) := by decide +kernel
theorem dX0_hasCountingFrom_33 : decode cX0_hasCountingFrom 33 = .ok (.ifCond .eq 5, 3) := by decide +kernel
theorem dX0_hasCountingFrom_36 : decode cX0_hasCountingFrom 36 = .ok (.iconst 1, 1) := by decide +kernel
theorem dX0_hasCountingFrom_37 : decode cX0_hasCountingFrom 37 = .ok (.ireturn, 1) := by decide +kernel
theorem dX0_hasCountingFrom_38 : decode cX0_hasCountingFrom 38 = .ok (.iinc 3 1, 3) := by decide +kernel
theorem dX0_hasCountingFrom_41 : decode cX0_hasCountingFrom 41 = .ok (.goto (-39), 3) := by decide +kernel
theorem dX0_hasCountingFrom_44 : decode cX0_hasCountingFrom 44 = .ok (.iconst 0, 1) := by decide +kernel
theorem dX0_hasCountingFrom_45 : decode cX0_hasCountingFrom 45 = .ok (.ireturn, 1) := by decide +kernel
theorem dX0_placeOf_0 : decode cX0_placeOf 0 = .ok (.iconst 0, 1) := by decide +kernel
theorem dX0_placeOf_1 : decode cX0_placeOf 1 = .ok (.istore_n 3, 1) := by decide +kernel
theorem dX0_placeOf_2 : decode cX0_placeOf 2 = .ok (.iload_n 3, 1) := by decide +kernel
theorem dX0_placeOf_3 : decode cX0_placeOf 3 = .ok (.aload_n 0, 1) := by decide +kernel
theorem dX0_placeOf_4 : decode cX0_placeOf 4 = .ok (.getfield 15, 3) := by decide +kernel
theorem dX0_placeOf_7 : decode cX0_placeOf 7 = .ok (.if_icmp .ge 22, 3) := by decide +kernel
theorem dX0_placeOf_10 : decode cX0_placeOf 10 = .ok (.aload_n 0, 1) := by decide +kernel
theorem dX0_placeOf_11 : decode cX0_placeOf 11 = .ok (.getfield 9, 3) := by decide +kernel
theorem dX0_placeOf_14 : decode cX0_placeOf 14 = .ok (.iload_n 3, 1) := by decide +kernel
theorem dX0_placeOf_15 : decode cX0_placeOf 15 = .ok (.laload, 1) := by decide +kernel
theorem dX0_placeOf_16 : decode cX0_placeOf 16 = .ok (.lload_n 1, 1) := by decide +kernel
theorem dX0_placeOf_17 : decode cX0_placeOf 17 = .ok (.lcmp, 1) := by decide +kernel
theorem dX0_placeOf_18 : decode cX0_placeOf 18 = .ok (.ifCond .ne 5, 3) := by decide +kernel
theorem dX0_placeOf_21 : decode cX0_placeOf 21 = .ok (.iload_n 3, 1) := by decide +kernel
theorem dX0_placeOf_22 : decode cX0_placeOf 22 = .ok (.ireturn, 1) := by decide +kernel
theorem dX0_placeOf_23 : decode cX0_placeOf 23 = .ok (.iinc 3 1, 3) := by decide +kernel
theorem dX0_placeOf_26 : decode cX0_placeOf 26 = .ok (.goto (-24), 3) := by decide +kernel
theorem dX0_placeOf_29 : decode cX0_placeOf 29 = .ok (.iconst (-1), 1) := by decide +kernel
theorem dX0_placeOf_30 : decode cX0_placeOf 30 = .ok (.ireturn, 1) := by decide +kernel
set_option maxRecDepth 20000 in
theorem ggX0_lengthSharedBefore_X2_lengthShared : GoodIn wsX0_lengthSharedBefore wsX2_lengthShared := goodIn_r _ [9, 10, 11, 4, 12, 13, 14, 8, 15, 16, 17, 18, 19, 20, 21, 22] (by decide +kernel) (by decide +kernel)
set_option maxRecDepth 20000 in
theorem gX0_lengthSharedBefore_X2_lengthShared : GoodIn wsX0_lengthSharedBefore (va_wsS RX0 46 yX2_lengthShared wsX2_lengthShared) := goodIn_app (goodIn_of _ (by decide +kernel)) ggX0_lengthSharedBefore_X2_lengthShared
theorem dX0_lengthSharedBefore_0 : decode cX0_lengthSharedBefore 0 = .ok (.iconst 0, 1) := by decide +kernel
theorem dX0_lengthSharedBefore_1 : decode cX0_lengthSharedBefore 1 = .ok (.istore_n 2, 1) := by decide +kernel
theorem dX0_lengthSharedBefore_2 : decode cX0_lengthSharedBefore 2 = .ok (.iconst 0, 1) := by decide +kernel
theorem dX0_lengthSharedBefore_3 : decode cX0_lengthSharedBefore 3 = .ok (.istore_n 3, 1) := by decide +kernel
theorem dX0_lengthSharedBefore_4 : decode cX0_lengthSharedBefore 4 = .ok (.iload_n 3, 1) := by decide +kernel
theorem dX0_lengthSharedBefore_5 : decode cX0_lengthSharedBefore 5 = .ok (.iload_n 1, 1) := by decide +kernel
theorem dX0_lengthSharedBefore_6 : decode cX0_lengthSharedBefore 6 = .ok (.if_icmp .ge 29, 3) := by decide +kernel
theorem dX0_lengthSharedBefore_9 : decode cX0_lengthSharedBefore 9 = .ok (.iload_n 2, 1) := by decide +kernel
theorem dX0_lengthSharedBefore_10 : decode cX0_lengthSharedBefore 10 = .ok (.aload_n 0, 1) := by decide +kernel
theorem dX0_lengthSharedBefore_11 : decode cX0_lengthSharedBefore 11 = .ok (.getfield 9, 3) := by decide +kernel
theorem dX0_lengthSharedBefore_14 : decode cX0_lengthSharedBefore 14 = .ok (.iload_n 3, 1) := by decide +kernel
theorem dX0_lengthSharedBefore_15 : decode cX0_lengthSharedBefore 15 = .ok (.laload, 1) := by decide +kernel
theorem dX0_lengthSharedBefore_16 : decode cX0_lengthSharedBefore 16 = .ok (.aload_n 0, 1) := by decide +kernel
theorem dX0_lengthSharedBefore_17 : decode cX0_lengthSharedBefore 17 = .ok (.getfield 9, 3) := by decide +kernel
theorem dX0_lengthSharedBefore_20 : decode cX0_lengthSharedBefore 20 = .ok (.iload_n 1, 1) := by decide +kernel
theorem dX0_lengthSharedBefore_21 : decode cX0_lengthSharedBefore 21 = .ok (.laload, 1) := by decide +kernel
theorem dX0_lengthSharedBefore_22 : decode cX0_lengthSharedBefore 22 = .ok (.invokestatic 46, 3) := by decide +kernel
theorem dX0_lengthSharedBefore_25 : decode cX0_lengthSharedBefore 25 = .ok (.invokestatic 50, 3) := by decide +kernel
theorem dX0_lengthSharedBefore_28 : decode cX0_lengthSharedBefore 28 = .ok (.istore_n 2, 1) := by decide +kernel
theorem dX0_lengthSharedBefore_29 : decode cX0_lengthSharedBefore 29 = .ok (.iinc 3 1, 3) := by decide +kernel
theorem dX0_lengthSharedBefore_32 : decode cX0_lengthSharedBefore 32 = .ok (.goto (-28), 3) := by decide +kernel
theorem dX0_lengthSharedBefore_35 : decode cX0_lengthSharedBefore 35 = .ok (.iload_n 2, 1) := by decide +kernel
theorem dX0_lengthSharedBefore_36 : decode cX0_lengthSharedBefore 36 = .ok (.ireturn, 1) := by decide +kernel
