theorem dX6_setShift_13 : decode cX6_setShift 13 = .ok (.aload_n 0, 1) := by decide +kernel
theorem dX6_setShift_14 : decode cX6_setShift 14 = .ok (.getfield 94, 3) := by decide +kernel
theorem dX6_setShift_17 : decode cX6_setShift 17 = .ok (.istore_n 2, 1) := by decide +kernel
theorem dX6_setShift_18 : decode cX6_setShift 18 = .ok (.aload_n 0, 1) := by decide +kernel
theorem dX6_setShift_19 : decode cX6_setShift 19 = .ok (.iload_n 1, 1) := by decide +kernel
theorem dX6_setShift_20 : decode cX6_setShift 20 = .ok (.putfield 94, 3) := by decide +kernel
theorem dX6_setShift_23 : decode cX6_setShift 23 = .ok (.iload_n 2, 1) := by decide +kernel
theorem dX6_setShift_24 : decode cX6_setShift 24 = .ok (.ireturn, 1) := by decide +kernel
set_option maxRecDepth 20000 in
theorem ggX6_setBudget_X6_in : GoodIn wsX6_setBudget wsX6_in := goodIn_r _ [5] (by decide +kernel) (by decide +kernel)
set_option maxRecDepth 20000 in
theorem gX6_setBudget_X6_in : GoodIn wsX6_setBudget (va_wsS RX6 73 yX6_in wsX6_in) := goodIn_app (goodIn_of _ (by decide +kernel)) ggX6_setBudget_X6_in
theorem dX6_setBudget_0 : decode cX6_setBudget 0 = .ok (.iload_n 1, 1) := by decide +kernel
theorem dX6_setBudget_1 : decode cX6_setBudget 1 = .ok (.iconst 1, 1) := by decide +kernel
theorem dX6_setBudget_2 : decode cX6_setBudget 2 = .ok (.sipush 999, 3) := by decide +kernel
theorem dX6_setBudget_5 : decode cX6_setBudget 5 = .ok (.invokestatic 73, 3) := by decide +kernel
theorem dX6_setBudget_8 : decode cX6_setBudget 8 = .ok (.ifCond .ne 6, 3) := by decide +kernel
theorem dX6_setBudget_11 : decode cX6_setBudget 11 = .ok (.bipush (-11), 2) := by decide +kernel
theorem dX6_setBudget_13 : decode cX6_setBudget 13 = .ok (.ireturn, 1) := by decide +kernel
theorem dX6_setBudget_14 : decode cX6_setBudget 14 = .ok (.aload_n 0, 1) := by decide +kernel
theorem dX6_setBudget_15 : decode cX6_setBudget 15 = .ok (.getfield 19, 3) := by decide +kernel
theorem dX6_setBudget_18 : decode cX6_setBudget 18 = .ok (.istore_n 2, 1) := by decide +kernel
theorem dX6_setBudget_19 : decode cX6_setBudget 19 = .ok (.aload_n 0, 1) := by decide +kernel
theorem dX6_setBudget_20 : decode cX6_setBudget 20 = .ok (.iload_n 1, 1) := by decide +kernel
theorem dX6_setBudget_21 : decode cX6_setBudget 21 = .ok (.putfield 19, 3) := by decide +kernel
theorem dX6_setBudget_24 : decode cX6_setBudget 24 = .ok (.iload_n 2, 1) := by decide +kernel
theorem dX6_setBudget_25 : decode cX6_setBudget 25 = .ok (.ireturn, 1) := by decide +kernel
set_option maxRecDepth 20000 in
theorem ggX6_setDefective_X6_in : GoodIn wsX6_setDefective wsX6_in := goodIn_r _ [6] (by decide +kernel) (by decide +kernel)
set_option maxRecDepth 20000 in
theorem gX6_setDefective_X6_in : GoodIn wsX6_setDefective (va_wsS RX6 73 yX6_in wsX6_in) := goodIn_app (goodIn_of _ (by decide +kernel)) ggX6_setDefective_X6_in
set_option maxRecDepth 20000 in
theorem ggX6_setDefective_X6_has : GoodIn wsX6_setDefective wsX6_has := goodIn_r _ [9] (by decide +kernel) (by decide +kernel)
set_option maxRecDepth 20000 in
theorem gX6_setDefective_X6_has : GoodIn wsX6_setDefective (va_wsS RX6 97 yX6_has wsX6_has) := goodIn_app (goodIn_of _ (by decide +kernel)) ggX6_setDefective_X6_has
theorem dX6_setDefective_0 : decode cX6_setDefective 0 = .ok (.iload_n 1, 1) := by decide +kernel
theorem dX6_setDefective_1 : decode cX6_setDefective 1 = .ok (.iconst 0, 1) := by decide +kernel
theorem dX6_setDefective_2 : decode cX6_setDefective 2 = .ok (.bipush 7, 2) := by decide +kernel
theorem dX6_setDefective_4 : decode cX6_setDefective 4 = .ok (.invokestatic 73, 3) := by decide +kernel
theorem dX6_setDefective_7 : decode cX6_setDefective 7 = .ok (.ifCond .eq 17, 3) := by decide +kernel
theorem dX6_setDefective_10 : decode cX6_setDefective 10 = .ok (.iload_n 2, 1) := by decide +kernel
theorem dX6_setDefective_11 : decode cX6_setDefective 11 = .ok (.iconst 0, 1) := by decide +kernel
theorem dX6_setDefective_12 : decode cX6_setDefective 12 = .ok (.aload_n 0, 1) := by decide +kernel
theorem dX6_setDefective_13 : decode cX6_setDefective 13 = .ok (.getfield 7, 3) := by decide +kernel
theorem dX6_setDefective_16 : decode cX6_setDefective 16 = .ok (.iconst 1, 1) := by decide +kernel
theorem dX6_setDefective_17 : decode cX6_setDefective 17 = .ok (.isub, 1) := by decide +kernel
theorem dX6_setDefective_18 : decode cX6_setDefective 18 = .ok (.invokestatic 73, 3) := by decide +kernel
theorem dX6_setDefective_21 : decode cX6_setDefective 21 = .ok (.ifCond .ne 6, 3) := by decide +kernel
theorem dX6_setDefective_24 : decode cX6_setDefective 24 = .ok (.bipush (-11), 2) := by decide +kernel
theorem dX6_setDefective_26 : decode cX6_setDefective 26 = .ok (.ireturn, 1) := by decide +kernel
theorem dX6_setDefective_27 : decode cX6_setDefective 27 = .ok (.aload_n 0, 1) := by decide +kernel
theorem dX6_setDefective_28 : decode cX6_setDefective 28 = .ok (.getfield 29, 3) := by decide +kernel
theorem dX6_setDefective_31 : decode cX6_setDefective 31 = .ok (.iload_n 2, 1) := by decide +kernel
theorem dX6_setDefective_32 : decode cX6_setDefective 32 = .ok (.iaload, 1) := by decide +kernel
theorem dX6_setDefective_33 : decode cX6_setDefective 33 = .ok (.iload_n 1, 1) := by decide +kernel
theorem dX6_setDefective_34 : decode cX6_setDefective 34 = .ok (.invokestatic 97, 3) := by decide +kernel
theorem dX6_setDefective_37 : decode cX6_setDefective 37 = .ok (.iload_n 3, 1) := by decide +kernel
theorem dX6_setDefective_38 : decode cX6_setDefective 38 = .ok (.if_icmp .ne 6, 3) := by decide +kernel
theorem dX6_setDefective_41 : decode cX6_setDefective 41 = .ok (.bipush (-12), 2) := by decide +kernel
theorem dX6_setDefective_43 : decode cX6_setDefective 43 = .ok (.ireturn, 1) := by decide +kernel
theorem dX6_setDefective_44 : decode cX6_setDefective 44 = .ok (.aload_n 0, 1) := by decide +kernel
theorem dX6_setDefective_45 : decode cX6_setDefective 45 = .ok (.getfield 29, 3) := by decide +kernel
theorem dX6_setDefective_48 : decode cX6_setDefective 48 = .ok (.iload_n 2, 1) := by decide +kernel
theorem dX6_setDefective_49 : decode cX6_setDefective 49 = .ok (.dup2, 1) := by decide +kernel
theorem dX6_setDefective_50 : decode cX6_setDefective 50 = .ok (.iaload, 1) := by decide +kernel
theorem dX6_setDefective_51 : decode cX6_setDefective 51 = .ok (.iconst 1, 1) := by decide +kernel
theorem dX6_setDefective_52 : decode cX6_setDefective 52 = .ok (.iload_n 1, 1) := by decide +kernel
theorem dX6_setDefective_53 : decode cX6_setDefective 53 = .ok (.ishl, 1) := by decide +kernel
theorem dX6_setDefective_54 : decode cX6_setDefective 54 = .ok (.ixor, 1) := by decide +kernel
theorem dX6_setDefective_55 : decode cX6_setDefective 55 = .ok (.iastore, 1) := by decide +kernel
theorem dX6_setDefective_56 : decode cX6_setDefective 56 = .ok (.iconst 0, 1) := by decide +kernel
theorem dX6_setDefective_57 : decode cX6_setDefective 57 = .ok (.istore 4, 2) := by decide +kernel
theorem dX6_setDefective_59 : decode cX6_setDefective 59 = .ok (.iconst 0, 1) := by decide +kernel
theorem dX6_setDefective_60 : decode cX6_setDefective 60 = .ok (.istore 5, 2) := by decide +kernel
theorem dX6_setDefective_62 : decode cX6_setDefective 62 = .ok (.iload 5, 2) := by decide +kernel
theorem dX6_setDefective_64 : decode cX6_setDefective 64 = .ok (.aload_n 0, 1) := by decide +kernel
theorem dX6_setDefective_65 : decode cX6_setDefective 65 = .ok (.getfield 7, 3) := by decide +kernel
theorem dX6_setDefective_68 : decode cX6_setDefective 68 = .ok (.if_icmp .ge 50, 3) := by decide +kernel
theorem dX6_setDefective_71 : decode cX6_setDefective 71 = .ok (.iconst 0, 1) := by decide +kernel
theorem dX6_setDefective_72 : decode cX6_setDefective 72 = .ok (.istore 6, 2) := by decide +kernel
theorem dX6_setDefective_74 : decode cX6_setDefective 74 = .ok (.iload 6, 2) := by decide +kernel
theorem dX6_setDefective_76 : decode cX6_setDefective 76 = .ok (.bipush 8, 2) := by decide +kernel
theorem dX6_setDefective_78 : decode cX6_setDefective 78 = .ok (.if_icmp .ge 34, 3) := by decide +kernel
theorem dX6_setDefective_81 : decode cX6_setDefective 81 = .ok (.iload 4, 2) := by decide +kernel
theorem dX6_setDefective_83 : decode cX6_setDefective 83 = .ok (.aload_n 0, 1) := by decide +kernel
theorem dX6_setDefective_84 : decode cX6_setDefective 84 = .ok (.getfield 29, 3) := by decide +kernel
theorem dX6_setDefective_87 : decode cX6_setDefective 87 = .ok (.iload 5, 2) := by decide +kernel
theorem dX6_setDefective_89 : decode cX6_setDefective 89 = .ok (.iaload, 1) := by decide +kernel
theorem dX6_setDefective_90 : decode cX6_setDefective 90 = .ok (.iload 6, 2) := by decide +kernel
theorem dX6_setDefective_92 : decode cX6_setDefective 92 = .ok (.invokestatic 97, 3) := by decide +kernel
theorem dX6_setDefective_95 : decode cX6_setDefective 95 = .ok (.ifCond .eq 7, 3) := by decide +kernel
theorem dX6_setDefective_98 : decode cX6_setDefective 98 = .ok (.iconst 1, 1) := by decide +kernel
theorem dX6_setDefective_99 : decode cX6_setDefective 99 = .ok (.goto 4, 3) := by decide +kernel
theorem dX6_setDefective_102 : decode cX6_setDefective 102 = .ok (.iconst 0, 1) := by decide +kernel
theorem dX6_setDefective_103 : decode cX6_setDefective 103 = .ok (.iadd, 1) := by decide +kernel
theorem dX6_setDefective_104 : decode cX6_setDefective 104 = .ok (.istore 4, 2) := by decide +kernel
theorem dX6_setDefective_106 : decode cX6_setDefective 106 = .ok (.iinc 6 1, 3) := by decide +kernel
theorem dX6_setDefective_109 : decode cX6_setDefective 109 = .ok (.goto (-35), 3) := by decide +kernel
theorem dX6_setDefective_112 : decode cX6_setDefective 112 = .ok (.iinc 5 1, 3) := by decide +kernel
theorem dX6_setDefective_115 : decode cX6_setDefective 115 = .ok (.goto (-53), 3) := by decide +kernel
theorem dX6_setDefective_118 : decode cX6_setDefective 118 = .ok (.iload 4, 2) := by decide +kernel
theorem dX6_setDefective_120 : decode cX6_setDefective 120 = .ok (.ireturn, 1) := by decide +kernel
set_option maxRecDepth 20000 in
theorem ggX6_tick_X6_in : GoodIn wsX6_tick wsX6_in := goodIn_r _ [7] (by decide +kernel) (by decide +kernel)
set_option maxRecDepth 20000 in
theorem gX6_tick_X6_in : GoodIn wsX6_tick (va_wsS RX6 73 yX6_in wsX6_in) := goodIn_app (goodIn_of _ (by decide +kernel)) ggX6_tick_X6_in
set_option maxRecDepth 20000 in
theorem ggX6_tick_X6_all : GoodIn wsX6_tick wsX6_all := goodIn_r _ [11, 12, 13, 14, 15, 6, 16, 17, 18, 19, 20, 21, 22, 23, 24, 25, 26, 27, 28, 29, 30, 31, 32, 33, 34, 35, 36, 37, 38, 39, 40, 41, 42, 43] (by decide +kernel) (by decide +kernel)
set_option maxRecDepth 20000 in
theorem gX6_tick_X6_all : GoodIn wsX6_tick (wsV RX6 60 RX6 yX6_all wsX6_all) := goodIn_app (goodIn_of _ (by decide +kernel)) ggX6_tick_X6_all
theorem dX6_tick_0 : decode cX6_tick 0 = .ok (.iload_n 1, 1) := by decide +kernel
theorem dX6_tick_1 : decode cX6_tick 1 = .ok (.iconst 0, 1) := by decide +kernel
theorem dX6_tick_2 : decode cX6_tick 2 = .ok (.sipush 9999, 3) := by decide +kernel
theorem dX6_tick_5 : decode cX6_tick 5 = .ok (.invokestatic 73, 3) := by decide +kernel
theorem dX6_tick_8 : decode cX6_tick 8 = .ok (.ifCond .ne 6, 3) := by decide +kernel
theorem dX6_tick_11 : decode cX6_tick 11 = .ok (.bipush (-11), 2) := by decide +kernel
theorem dX6_tick_13 : decode cX6_tick 13 = .ok (.ireturn, 1) := by decide +kernel
theorem dX6_tick_14 : decode cX6_tick 14 = .ok (.aload_n 0, 1) := by decide +kernel
theorem dX6_tick_15 : decode cX6_tick 15 = .ok (.getfield 91, 3) := by decide +kernel
theorem dX6_tick_18 : decode cX6_tick 18 = .ok (.iload_n 1, 1) := by decide +kernel
theorem dX6_tick_19 : decode cX6_tick 19 = .ok (.iadd, 1) := by decide +kernel
theorem dX6_tick_20 : decode cX6_tick 20 = .ok (.aload_n 0, 1) := by decide +kernel
theorem dX6_tick_21 : decode cX6_tick 21 = .ok (.getfield 16, 3) := by decide +kernel
theorem dX6_tick_24 : decode cX6_tick 24 = .ok (.idiv, 1) := by decide +kernel
theorem dX6_tick_25 : decode cX6_tick 25 = .ok (.istore_n 2, 1) := by decide +kernel
theorem dX6_tick_26 : decode cX6_tick 26 = .ok (.aload_n 0, 1) := by decide +kernel
theorem dX6_tick_27 : decode cX6_tick 27 = .ok (.aload_n 0, 1) := by decide +kernel
theorem dX6_tick_28 : decode cX6_tick 28 = .ok (.getfield 91, 3) := by decide +kernel
theorem dX6_tick_31 : decode cX6_tick 31 = .ok (.iload_n 1, 1) := by decide +kernel
theorem dX6_tick_32 : decode cX6_tick 32 = .ok (.iadd, 1) := by decide +kernel
theorem dX6_tick_33 : decode cX6_tick 33 = .ok (.aload_n 0, 1) := by decide +kernel
theorem dX6_tick_34 : decode cX6_tick 34 = .ok (.getfield 16, 3) := by decide +kernel
theorem dX6_tick_37 : decode cX6_tick 37 = .ok (.irem, 1) := by decide +kernel
theorem dX6_tick_38 : decode cX6_tick 38 = .ok (.putfield 91, 3) := by decide +kernel
theorem dX6_tick_41 : decode cX6_tick 41 = .ok (.aload_n 0, 1) := by decide +kernel
theorem dX6_tick_42 : decode cX6_tick 42 = .ok (.invokevirtual 60, 3) := by decide +kernel
theorem dX6_tick_45 : decode cX6_tick 45 = .ok (.istore_n 3, 1) := by decide +kernel
theorem dX6_tick_46 : decode cX6_tick 46 = .ok (.aload_n 0, 1) := by decide +kernel
theorem dX6_tick_47 : decode cX6_tick 47 = .ok (.iload_n 3, 1) := by decide +kernel
theorem dX6_tick_48 : decode cX6_tick 48 = .ok (.ifCond .ne 7, 3) := by decide +kernel
theorem dX6_tick_51 : decode cX6_tick 51 = .ok (.iconst 0, 1) := by decide +kernel
theorem dX6_tick_52 : decode cX6_tick 52 = .ok (.goto 11, 3) := by decide +kernel
theorem dX6_tick_55 : decode cX6_tick 55 = .ok (.aload_n 0, 1) := by decide +kernel
theorem dX6_tick_56 : decode cX6_tick 56 = .ok (.getfield 64, 3) := by decide +kernel
theorem dX6_tick_59 : decode cX6_tick 59 = .ok (.iload_n 2, 1) := by decide +kernel
theorem dX6_tick_60 : decode cX6_tick 60 = .ok (.iadd, 1) := by decide +kernel
theorem dX6_tick_61 : decode cX6_tick 61 = .ok (.iload_n 3, 1) := by decide +kernel
theorem dX6_tick_62 : decode cX6_tick 62 = .ok (.irem, 1) := by decide +kernel
theorem dX6_tick_63 : decode cX6_tick 63 = .ok (.putfield 64, 3) := by decide +kernel
theorem dX6_tick_66 : decode cX6_tick 66 = .ok (.aload_n 0, 1) := by decide +kernel
theorem dX6_tick_67 : decode cX6_tick 67 = .ok (.getfield 64, 3) := by decide +kernel
theorem dX6_tick_70 : decode cX6_tick 70 = .ok (.ireturn, 1) := by decide +kernel
theorem dX6_offset_0 : decode cX6_offset 0 = .ok (.aload_n 0, 1) := by decide +kernel
theorem dX6_offset_1 : decode cX6_offset 1 = .ok (.getfield 64, 3) := by decide +kernel
theorem dX6_offset_4 : decode cX6_offset 4 = .ok (.ireturn, 1) := by decide +kernel
set_option maxRecDepth 20000 in
theorem ggX6_stripLength_X6_all : GoodIn wsX6_stripLength wsX6_all := goodIn_r _ [5, 6, 7, 8, 9, 4, 10, 11, 12, 13, 14, 15, 16, 17, 18, 19, 20, 21, 22, 23, 24, 25, 26, 27, 28, 29, 30, 31, 32, 33, 34, 35, 36, 37] (by decide +kernel) (by decide +kernel)
set_option maxRecDepth 20000 in
theorem gX6_stripLength_X6_all : GoodIn wsX6_stripLength (wsV RX6 60 RX6 yX6_all wsX6_all) := goodIn_app (goodIn_of _ (by decide +kernel)) ggX6_stripLength_X6_all
theorem dX6_stripLength_0 : decode cX6_stripLength 0 = .ok (.aload_n 0, 1) := by decide +kernel
theorem dX6_stripLength_1 : decode cX6_stripLength 1 = .ok (.invokevirtual 60, 3) := by decide +kernel
theorem dX6_stripLength_4 : decode cX6_stripLength 4 = .ok (.ireturn, 1) := by decide +kernel
set_option maxRecDepth 20000 in
theorem ggX6_period_X6_all : GoodIn wsX6_period wsX6_all := goodIn_r _ [6, 7, 8, 9, 10, 5, 11, 12, 13, 14, 15, 16, 17, 18, 19, 20, 21, 22, 23, 24, 25, 26, 27, 28, 29, 30, 31, 32, 33, 34, 35, 36, 37, 38] (by decide +kernel) (by decide +kernel)
set_option maxRecDepth 20000 in
theorem gX6_period_X6_all : GoodIn wsX6_period (wsV RX6 60 RX6 yX6_all wsX6_all) := goodIn_app (goodIn_of _ (by decide +kernel)) ggX6_period_X6_all
theorem dX6_period_0 : decode cX6_period 0 = .ok (.aload_n 0, 1) := by decide +kernel
theorem dX6_period_1 : decode cX6_period 1 = .ok (.invokevirtual 60, 3) := by decide +kernel
theorem dX6_period_4 : decode cX6_period 4 = .ok (.aload_n 0, 1) := by decide +kernel
theorem dX6_period_5 : decode cX6_period 5 = .ok (.getfield 16, 3) := by decide +kernel
theorem dX6_period_8 : decode cX6_period 8 = .ok (.imul, 1) := by decide +kernel
theorem dX6_period_9 : decode cX6_period 9 = .ok (.ireturn, 1) := by decide +kernel
set_option maxRecDepth 20000 in
theorem ggX6_ticksUntilWhole_X6_isMessage : GoodIn wsX6_ticksUntilWhole wsX6_isMessage := goodIn_r _ [9, 10, 11, 12, 8, 13, 30, 31, 32, 33, 34, 35, 36, 37, 38, 39, 40, 41, 42, 43, 44, 45, 46, 47, 48] (by decide +kernel) (by decide +kernel)
set_option maxRecDepth 20000 in
theorem gX6_ticksUntilWhole_X6_isMessage : GoodIn wsX6_ticksUntilWhole (wsV RX6 87 RX6 yX6_isMessage wsX6_isMessage) := goodIn_app (goodIn_of _ (by decide +kernel)) ggX6_ticksUntilWhole_X6_isMessage
set_option maxRecDepth 20000 in
theorem ggX6_ticksUntilWhole_X6_widthOf : GoodIn wsX6_ticksUntilWhole wsX6_widthOf := goodIn_r _ [17, 18, 19, 20, 30, 31, 32, 33, 34, 35, 36, 37, 38, 39, 40, 41, 42, 43, 44, 45, 46, 47, 48] (by decide +kernel) (by decide +kernel)
set_option maxRecDepth 20000 in
theorem gX6_ticksUntilWhole_X6_widthOf : GoodIn wsX6_ticksUntilWhole (wsV RX6 50 RX6 yX6_widthOf wsX6_widthOf) := goodIn_app (goodIn_of _ (by decide +kernel)) ggX6_ticksUntilWhole_X6_widthOf
set_option maxRecDepth 20000 in
theorem ggX6_ticksUntilWhole_X6_all : GoodIn wsX6_ticksUntilWhole wsX6_all := goodIn_r _ [24, 10, 25, 26, 27, 8, 28, 29, 14, 15, 16, 17, 18, 19, 20, 30, 31, 32, 33, 34, 35, 36, 37, 38, 39, 40, 41, 42, 43, 44, 45, 46, 47, 48] (by decide +kernel) (by decide +kernel)
set_option maxRecDepth 20000 in
theorem gX6_ticksUntilWhole_X6_all : GoodIn wsX6_ticksUntilWhole (wsV RX6 60 RX6 yX6_all wsX6_all) := goodIn_app (goodIn_of _ (by decide +kernel)) ggX6_ticksUntilWhole_X6_all
set_option maxRecDepth 20000 in
theorem ggX6_ticksUntilWhole_X6_startOf : GoodIn wsX6_ticksUntilWhole wsX6_startOf := goodIn_r _ [28, 29, 14, 15, 16, 8, 17, 18, 19, 20, 30, 31, 32, 33, 34, 35, 36, 37, 38, 39, 40, 41, 42, 43, 44, 45, 46, 47, 48] (by decide +kernel) (by decide +kernel)
set_option maxRecDepth 20000 in
theorem gX6_ticksUntilWhole_X6_startOf : GoodIn wsX6_ticksUntilWhole (wsV RX6 57 RX6 yX6_startOf wsX6_startOf) := goodIn_app (goodIn_of _ (by decide +kernel)) ggX6_ticksUntilWhole_X6_startOf
theorem dX6_ticksUntilWhole_0 : decode cX6_ticksUntilWhole 0 = .ok (.aload_n 0, 1) := by decide +kernel
theorem dX6_ticksUntilWhole_1 : decode cX6_ticksUntilWhole 1 = .ok (.iload_n 1, 1) := by decide +kernel
theorem dX6_ticksUntilWhole_2 : decode cX6_ticksUntilWhole 2 = .ok (.invokevirtual 87, 3) := by decide +kernel
theorem dX6_ticksUntilWhole_5 : decode cX6_ticksUntilWhole 5 = .ok (.ifCond .ne 6, 3) := by decide +kernel
theorem dX6_ticksUntilWhole_8 : decode cX6_ticksUntilWhole 8 = .ok (.bipush (-11), 2) := by decide +kernel
theorem dX6_ticksUntilWhole_10 : decode cX6_ticksUntilWhole 10 = .ok (.ireturn, 1) := by decide +kernel
theorem dX6_ticksUntilWhole_11 : decode cX6_ticksUntilWhole 11 = .ok (.aload_n 0, 1) := by decide +kernel
theorem dX6_ticksUntilWhole_12 : decode cX6_ticksUntilWhole 12 = .ok (.iload_n 1, 1) := by decide +kernel
theorem dX6_ticksUntilWhole_13 : decode cX6_ticksUntilWhole 13 = .ok (.invokevirtual 50, 3) := by decide +kernel
theorem dX6_ticksUntilWhole_16 : decode cX6_ticksUntilWhole 16 = .ok (.istore_n 2, 1) := by decide +kernel
theorem dX6_ticksUntilWhole_17 : decode cX6_ticksUntilWhole 17 = .ok (.iload_n 2, 1) := by decide +kernel
theorem dX6_ticksUntilWhole_18 : decode cX6_ticksUntilWhole 18 = .ok (.aload_n 0, 1) := by decide +kernel
theorem dX6_ticksUntilWhole_19 : decode cX6_ticksUntilWhole 19 = .ok (.getfield 7, 3) := by decide +kernel
theorem dX6_ticksUntilWhole_22 : decode cX6_ticksUntilWhole 22 = .ok (.if_icmp .le 6, 3) := by decide +kernel
theorem dX6_ticksUntilWhole_25 : decode cX6_ticksUntilWhole 25 = .ok (.bipush (-14), 2) := by decide +kernel
theorem dX6_ticksUntilWhole_27 : decode cX6_ticksUntilWhole 27 = .ok (.ireturn, 1) := by decide +kernel
theorem dX6_ticksUntilWhole_28 : decode cX6_ticksUntilWhole 28 = .ok (.aload_n 0, 1) := by decide +kernel
theorem dX6_ticksUntilWhole_29 : decode cX6_ticksUntilWhole 29 = .ok (.invokevirtual 60, 3) := by decide +kernel
theorem dX6_ticksUntilWhole_32 : decode cX6_ticksUntilWhole 32 = .ok (.istore_n 3, 1) := by decide +kernel
theorem dX6_ticksUntilWhole_33 : decode cX6_ticksUntilWhole 33 = .ok (.aload_n 0, 1) := by decide +kernel
theorem dX6_ticksUntilWhole_34 : decode cX6_ticksUntilWhole 34 = .ok (.iload_n 1, 1) := by decide +kernel
theorem dX6_ticksUntilWhole_35 : decode cX6_ticksUntilWhole 35 = .ok (.invokevirtual 57, 3) := by decide +kernel
theorem dX6_ticksUntilWhole_38 : decode cX6_ticksUntilWhole 38 = .ok (.istore 4, 2) := by decide +kernel
theorem dX6_ticksUntilWhole_40 : decode cX6_ticksUntilWhole 40 = .ok (.iconst 0, 1) := by decide +kernel
theorem dX6_ticksUntilWhole_41 : decode cX6_ticksUntilWhole 41 = .ok (.istore 5, 2) := by decide +kernel
theorem dX6_ticksUntilWhole_43 : decode cX6_ticksUntilWhole 43 = .ok (.iload 5, 2) := by decide +kernel
theorem dX6_ticksUntilWhole_45 : decode cX6_ticksUntilWhole 45 = .ok (.iload_n 3, 1) := by decide +kernel
theorem dX6_ticksUntilWhole_46 : decode cX6_ticksUntilWhole 46 = .ok (.if_icmp .ge 68, 3) := by decide +kernel
theorem dX6_ticksUntilWhole_49 : decode cX6_ticksUntilWhole 49 = .ok (.iconst 0, 1) := by decide +kernel
theorem dX6_ticksUntilWhole_50 : decode cX6_ticksUntilWhole 50 = .ok (.istore 6, 2) := by decide +kernel
theorem dX6_ticksUntilWhole_52 : decode cX6_ticksUntilWhole 52 = .ok (.iload 6, 2) := by decide +kernel
theorem dX6_ticksUntilWhole_54 : decode cX6_ticksUntilWhole 54 = .ok (.iload_n 2, 1) := by decide +kernel
theorem dX6_ticksUntilWhole_55 : decode cX6_ticksUntilWhole 55 = .ok (.iadd, 1) := by decide +kernel
theorem dX6_ticksUntilWhole_56 : decode cX6_ticksUntilWhole 56 = .ok (.aload_n 0, 1) := by decide +kernel
theorem dX6_ticksUntilWhole_57 : decode cX6_ticksUntilWhole 57 = .ok (.getfield 7, 3) := by decide +kernel
theorem dX6_ticksUntilWhole_60 : decode cX6_ticksUntilWhole 60 = .ok (.if_icmp .gt 48, 3) := by decide +kernel
theorem dX6_ticksUntilWhole_63 : decode cX6_ticksUntilWhole 63 = .ok (.aload_n 0, 1) := by decide +kernel
theorem dX6_ticksUntilWhole_64 : decode cX6_ticksUntilWhole 64 = .ok (.getfield 64, 3) := by decide +kernel
theorem dX6_ticksUntilWhole_67 : decode cX6_ticksUntilWhole 67 = .ok (.iload 5, 2) := by decide +kernel
theorem dX6_ticksUntilWhole_69 : decode cX6_ticksUntilWhole 69 = .ok (.iadd, 1) := by decide +kernel
theorem dX6_ticksUntilWhole_70 : decode cX6_ticksUntilWhole 70 = .ok (.iload 6, 2) := by decide +kernel
theorem dX6_ticksUntilWhole_72 : decode cX6_ticksUntilWhole 72 = .ok (.iadd, 1) := by decide +kernel
theorem dX6_ticksUntilWhole_73 : decode cX6_ticksUntilWhole 73 = .ok (.iload_n 3, 1) := by decide +kernel
theorem dX6_ticksUntilWhole_74 : decode cX6_ticksUntilWhole 74 = .ok (.irem, 1) := by decide +kernel
theorem dX6_ticksUntilWhole_75 : decode cX6_ticksUntilWhole 75 = .ok (.iload 4, 2) := by decide +kernel
theorem dX6_ticksUntilWhole_77 : decode cX6_ticksUntilWhole 77 = .ok (.if_icmp .ne 25, 3) := by decide +kernel
theorem dX6_ticksUntilWhole_80 : decode cX6_ticksUntilWhole 80 = .ok (.iload 5, 2) := by decide +kernel
theorem dX6_ticksUntilWhole_82 : decode cX6_ticksUntilWhole 82 = .ok (.ifCond .ne 7, 3) := by decide +kernel
theorem dX6_ticksUntilWhole_85 : decode cX6_ticksUntilWhole 85 = .ok (.iconst 0, 1) := by decide +kernel
theorem dX6_ticksUntilWhole_86 : decode cX6_ticksUntilWhole 86 = .ok (.goto 15, 3) := by decide +kernel
theorem dX6_ticksUntilWhole_89 : decode cX6_ticksUntilWhole 89 = .ok (.iload 5, 2) := by decide +kernel
theorem dX6_ticksUntilWhole_91 : decode cX6_ticksUntilWhole 91 = .ok (.aload_n 0, 1) := by decide +kernel
theorem dX6_ticksUntilWhole_92 : decode cX6_ticksUntilWhole 92 = .ok (.getfield 16, 3) := by decide +kernel
theorem dX6_ticksUntilWhole_95 : decode cX6_ticksUntilWhole 95 = .ok (.imul, 1) := by decide +kernel
theorem dX6_ticksUntilWhole_96 : decode cX6_ticksUntilWhole 96 = .ok (.aload_n 0, 1) := by decide +kernel
theorem dX6_ticksUntilWhole_97 : decode cX6_ticksUntilWhole 97 = .ok (.getfield 91, 3) := by decide +kernel
theorem dX6_ticksUntilWhole_100 : decode cX6_ticksUntilWhole 100 = .ok (.isub, 1) := by decide +kernel
theorem dX6_ticksUntilWhole_101 : decode cX6_ticksUntilWhole 101 = .ok (.ireturn, 1) := by decide +kernel
theorem dX6_ticksUntilWhole_102 : decode cX6_ticksUntilWhole 102 = .ok (.iinc 6 1, 3) := by decide +kernel
theorem dX6_ticksUntilWhole_105 : decode cX6_ticksUntilWhole 105 = .ok (.goto (-53), 3) := by decide +kernel
theorem dX6_ticksUntilWhole_108 : decode cX6_ticksUntilWhole 108 = .ok (.iinc 5 1, 3) := by decide +kernel
theorem dX6_ticksUntilWhole_111 : decode cX6_ticksUntilWhole 111 = .ok (.goto (-68), 3) := by decide +kernel
theorem dX6_ticksUntilWhole_114 : decode cX6_ticksUntilWhole 114 = .ok (.bipush (-14), 2) := by decide +kernel
theorem dX6_ticksUntilWhole_116 : decode cX6_ticksUntilWhole 116 = .ok (.ireturn, 1) := by decide +kernel
set_option maxRecDepth 20000 in
theorem ggX6_active_X6_has : GoodIn wsX6_active wsX6_has := goodIn_r _ [8] (by decide +kernel) (by decide +kernel)
set_option maxRecDepth 20000 in
theorem gX6_active_X6_has : GoodIn wsX6_active (va_wsS RX6 97 yX6_has wsX6_has) := goodIn_app (goodIn_of _ (by decide +kernel)) ggX6_active_X6_has
theorem dX6_active_0 : decode cX6_active 0 = .ok (.aload_n 0, 1) := by decide +kernel
theorem dX6_active_1 : decode cX6_active 1 = .ok (.getfield 67, 3) := by decide +kernel
theorem dX6_active_4 : decode cX6_active 4 = .ok (.ifCond .ne 5, 3) := by decide +kernel
theorem dX6_active_7 : decode cX6_active 7 = .ok (.iconst 0, 1) := by decide +kernel
theorem dX6_active_8 : decode cX6_active 8 = .ok (.ireturn, 1) := by decide +kernel
theorem dX6_active_9 : decode cX6_active 9 = .ok (.iload_n 3, 1) := by decide +kernel
theorem dX6_active_10 : decode cX6_active 10 = .ok (.iload_n 2, 1) := by decide +kernel
theorem dX6_active_11 : decode cX6_active 11 = .ok (.iadd, 1) := by decide +kernel
theorem dX6_active_12 : decode cX6_active 12 = .ok (.aload_n 0, 1) := by decide +kernel
theorem dX6_active_13 : decode cX6_active 13 = .ok (.getfield 67, 3) := by decide +kernel
theorem dX6_active_16 : decode cX6_active 16 = .ok (.irem, 1) := by decide +kernel
theorem dX6_active_17 : decode cX6_active 17 = .ok (.istore 4, 2) := by decide +kernel
theorem dX6_active_19 : decode cX6_active 19 = .ok (.iload_n 1, 1) := by decide +kernel
theorem dX6_active_20 : decode cX6_active 20 = .ok (.aload_n 0, 1) := by decide +kernel
theorem dX6_active_21 : decode cX6_active 21 = .ok (.getfield 94, 3) := by decide +kernel
theorem dX6_active_24 : decode cX6_active 24 = .ok (.isub, 1) := by decide +kernel
theorem dX6_active_25 : decode cX6_active 25 = .ok (.bipush 8, 2) := by decide +kernel
theorem dX6_active_27 : decode cX6_active 27 = .ok (.if_icmp .ge 32, 3) := by decide +kernel
theorem dX6_active_30 : decode cX6_active 30 = .ok (.aload_n 0, 1) := by decide +kernel
theorem dX6_active_31 : decode cX6_active 31 = .ok (.getfield 44, 3) := by decide +kernel
theorem dX6_active_34 : decode cX6_active 34 = .ok (.iload 4, 2) := by decide +kernel
theorem dX6_active_36 : decode cX6_active 36 = .ok (.iaload, 1) := by decide +kernel
theorem dX6_active_37 : decode cX6_active 37 = .ok (.iload_n 1, 1) := by decide +kernel
theorem dX6_active_38 : decode cX6_active 38 = .ok (.aload_n 0, 1) := by decide +kernel
theorem dX6_active_39 : decode cX6_active 39 = .ok (.getfield 94, 3) := by decide +kernel
theorem dX6_active_42 : decode cX6_active 42 = .ok (.isub, 1) := by decide +kernel
theorem dX6_active_43 : decode cX6_active 43 = .ok (.invokestatic 97, 3) := by decide +kernel
theorem dX6_active_46 : decode cX6_active 46 = .ok (.ifCond .eq 13, 3) := by decide +kernel
theorem dX6_active_49 : decode cX6_active 49 = .ok (.aload_n 0, 1) := by decide +kernel
theorem dX6_active_50 : decode cX6_active 50 = .ok (.getfield 47, 3) := by decide +kernel
theorem dX6_active_53 : decode cX6_active 53 = .ok (.iload 4, 2) := by decide +kernel
theorem dX6_active_55 : decode cX6_active 55 = .ok (.iaload, 1) := by decide +kernel
theorem dX6_active_56 : decode cX6_active 56 = .ok (.goto 4, 3) := by decide +kernel
theorem dX6_active_59 : decode cX6_active 59 = .ok (.iconst 0, 1) := by decide +kernel
theorem dX6_active_60 : decode cX6_active 60 = .ok (.ireturn, 1) := by decide +kernel
set_option maxRecDepth 20000 in
theorem ggX6_loadAt_X6_has : GoodIn wsX6_loadAt wsX6_has := goodIn_r _ [6] (by decide +kernel) (by decide +kernel)
set_option maxRecDepth 20000 in
theorem gX6_loadAt_X6_has : GoodIn wsX6_loadAt (va_wsS RX6 97 yX6_has wsX6_has) := goodIn_app (goodIn_of _ (by decide +kernel)) ggX6_loadAt_X6_has
set_option maxRecDepth 20000 in
theorem ggX6_loadAt_X6_active : GoodIn wsX6_loadAt wsX6_active := goodIn_r _ [10, 11, 12, 13, 14, 3, 4, 5, 6, 15, 16, 17, 18, 19, 20, 21, 22, 23, 24, 25, 26, 27, 28, 29, 30, 31, 32, 33] (by decide +kernel) (by decide +kernel)
set_option maxRecDepth 20000 in
theorem gX6_loadAt_X6_active : GoodIn wsX6_loadAt (wsV RX6 101 RX6 yX6_active wsX6_active) := goodIn_app (goodIn_of _ (by decide +kernel)) ggX6_loadAt_X6_active
theorem dX6_loadAt_0 : decode cX6_loadAt 0 = .ok (.iconst 0, 1) := by decide +kernel
theorem dX6_loadAt_1 : decode cX6_loadAt 1 = .ok (.istore_n 2, 1) := by decide +kernel
theorem dX6_loadAt_2 : decode cX6_loadAt 2 = .ok (.iconst 0, 1) := by decide +kernel
theorem dX6_loadAt_3 : decode cX6_loadAt 3 = .ok (.istore_n 3, 1) := by decide +kernel
theorem dX6_loadAt_4 : decode cX6_loadAt 4 = .ok (.iload_n 3, 1) := by decide +kernel
theorem dX6_loadAt_5 : decode cX6_loadAt 5 = .ok (.aload_n 0, 1) := by decide +kernel
theorem dX6_loadAt_6 : decode cX6_loadAt 6 = .ok (.getfield 7, 3) := by decide +kernel
theorem dX6_loadAt_9 : decode cX6_loadAt 9 = .ok (.if_icmp .ge 76, 3) := by decide +kernel
theorem dX6_loadAt_12 : decode cX6_loadAt 12 = .ok (.iconst 0, 1) := by decide +kernel
theorem dX6_loadAt_13 : decode cX6_loadAt 13 = .ok (.istore 4, 2) := by decide +kernel
theorem dX6_loadAt_15 : decode cX6_loadAt 15 = .ok (.iload 4, 2) := by decide +kernel
theorem dX6_loadAt_17 : decode cX6_loadAt 17 = .ok (.bipush 8, 2) := by decide +kernel
theorem dX6_loadAt_19 : decode cX6_loadAt 19 = .ok (.if_icmp .ge 60, 3) := by decide +kernel
theorem dX6_loadAt_22 : decode cX6_loadAt 22 = .ok (.aload_n 0, 1) := by decide +kernel
theorem dX6_loadAt_23 : decode cX6_loadAt 23 = .ok (.getfield 29, 3) := by decide +kernel
theorem dX6_loadAt_26 : decode cX6_loadAt 26 = .ok (.iload_n 3, 1) := by decide +kernel
theorem dX6_loadAt_27 : decode cX6_loadAt 27 = .ok (.iaload, 1) := by decide +kernel
theorem dX6_loadAt_28 : decode cX6_loadAt 28 = .ok (.iload 4, 2) := by decide +kernel
theorem dX6_loadAt_30 : decode cX6_loadAt 30 = .ok (.invokestatic 97, 3) := by decide +kernel
theorem dX6_loadAt_33 : decode cX6_loadAt 33 = .ok (.ifCond .eq 7, 3) := by decide +kernel
theorem dX6_loadAt_36 : decode cX6_loadAt 36 = .ok (.iconst 0, 1) := by decide +kernel
theorem dX6_loadAt_37 : decode cX6_loadAt 37 = .ok (.goto 11, 3) := by decide +kernel
theorem dX6_loadAt_40 : decode cX6_loadAt 40 = .ok (.aload_n 0, 1) := by decide +kernel
theorem dX6_loadAt_41 : decode cX6_loadAt 41 = .ok (.iload 4, 2) := by decide +kernel
theorem dX6_loadAt_43 : decode cX6_loadAt 43 = .ok (.iload_n 3, 1) := by decide +kernel
theorem dX6_loadAt_44 : decode cX6_loadAt 44 = .ok (.iload_n 1, 1) := by decide +kernel
theorem dX6_loadAt_45 : decode cX6_loadAt 45 = .ok (.invokevirtual 101, 3) := by decide +kernel
theorem dX6_loadAt_48 : decode cX6_loadAt 48 = .ok (.istore 5, 2) := by decide +kernel
theorem dX6_loadAt_50 : decode cX6_loadAt 50 = .ok (.iload_n 2, 1) := by decide +kernel
theorem dX6_loadAt_51 : decode cX6_loadAt 51 = .ok (.iload 5, 2) := by decide +kernel
theorem dX6_loadAt_53 : decode cX6_loadAt 53 = .ok (.iconst 3, 1) := by decide +kernel
theorem dX6_loadAt_54 : decode cX6_loadAt 54 = .ok (.if_icmp .ne 7, 3) := by decide +kernel
theorem dX6_loadAt_57 : decode cX6_loadAt 57 = .ok (.iconst 2, 1) := by decide +kernel
theorem dX6_loadAt_58 : decode cX6_loadAt 58 = .ok (.goto 13, 3) := by decide +kernel
theorem dX6_loadAt_61 : decode cX6_loadAt 61 = .ok (.iload 5, 2) := by decide +kernel
theorem dX6_loadAt_63 : decode cX6_loadAt 63 = .ok (.ifCond .le 7, 3) := by decide +kernel
theorem dX6_loadAt_66 : decode cX6_loadAt 66 = .ok (.iconst 1, 1) := by decide +kernel
theorem dX6_loadAt_67 : decode cX6_loadAt 67 = .ok (.goto 4, 3) := by decide +kernel
theorem dX6_loadAt_70 : decode cX6_loadAt 70 = .ok (.iconst 0, 1) := by decide +kernel
theorem dX6_loadAt_71 : decode cX6_loadAt 71 = .ok (.iadd, 1) := by decide +kernel
theorem dX6_loadAt_72 : decode cX6_loadAt 72 = .ok (.istore_n 2, 1) := by decide +kernel
theorem dX6_loadAt_73 : decode cX6_loadAt 73 = .ok (.iinc 4 1, 3) := by decide +kernel
theorem dX6_loadAt_76 : decode cX6_loadAt 76 = .ok (.goto (-61), 3) := by decide +kernel
theorem dX6_loadAt_79 : decode cX6_loadAt 79 = .ok (.iinc 3 1, 3) := by decide +kernel
theorem dX6_loadAt_82 : decode cX6_loadAt 82 = .ok (.goto (-78), 3) := by decide +kernel
theorem dX6_loadAt_85 : decode cX6_loadAt 85 = .ok (.iload_n 2, 1) := by decide +kernel
theorem dX6_loadAt_86 : decode cX6_loadAt 86 = .ok (.ireturn, 1) := by decide +kernel
set_option maxRecDepth 20000 in
theorem ggX6_pixel_X6_in : GoodIn wsX6_pixel wsX6_in := goodIn_r _ [7] (by decide +kernel) (by decide +kernel)
set_option maxRecDepth 20000 in
theorem gX6_pixel_X6_in : GoodIn wsX6_pixel (va_wsS RX6 73 yX6_in wsX6_in) := goodIn_app (goodIn_of _ (by decide +kernel)) ggX6_pixel_X6_in
set_option maxRecDepth 20000 in
theorem ggX6_pixel_X6_draws : GoodIn wsX6_pixel wsX6_draws := goodIn_r _ [11, 12, 13, 14, 15, 16, 17, 18, 19, 20, 21, 22, 23, 24, 6, 25, 34, 35, 36, 37, 38, 39, 40, 41, 42, 43, 44, 45, 46, 47, 48, 49, 50, 51, 52] (by decide +kernel) (by decide +kernel)
set_option maxRecDepth 20000 in
theorem gX6_pixel_X6_draws : GoodIn wsX6_pixel (wsV RX6 105 RX6 yX6_draws wsX6_draws) := goodIn_app (goodIn_of _ (by decide +kernel)) ggX6_pixel_X6_draws
set_option maxRecDepth 20000 in
theorem ggX6_pixel_X6_has : GoodIn wsX6_pixel wsX6_has := goodIn_r _ [28] (by decide +kernel) (by decide +kernel)
set_option maxRecDepth 20000 in
theorem gX6_pixel_X6_has : GoodIn wsX6_pixel (va_wsS RX6 97 yX6_has wsX6_has) := goodIn_app (goodIn_of _ (by decide +kernel)) ggX6_pixel_X6_has
set_option maxRecDepth 20000 in
theorem ggX6_pixel_X6_active : GoodIn wsX6_pixel wsX6_active := goodIn_r _ [32, 12, 33, 17, 19, 26, 27, 6, 28, 34, 35, 36, 37, 38, 39, 40, 41, 42, 43, 44, 45, 46, 47, 48, 49, 50, 51, 52] (by decide +kernel) (by decide +kernel)
set_option maxRecDepth 20000 in
theorem gX6_pixel_X6_active : GoodIn wsX6_pixel (wsV RX6 101 RX6 yX6_active wsX6_active) := goodIn_app (goodIn_of _ (by decide +kernel)) ggX6_pixel_X6_active
theorem dX6_pixel_0 : decode cX6_pixel 0 = .ok (.iload_n 1, 1) := by decide +kernel
theorem dX6_pixel_1 : decode cX6_pixel 1 = .ok (.iconst 0, 1) := by decide +kernel
theorem dX6_pixel_2 : decode cX6_pixel 2 = .ok (.bipush 7, 2) := by decide +kernel
theorem dX6_pixel_4 : decode cX6_pixel 4 = .ok (.invokestatic 73, 3) := by decide +kernel
theorem dX6_pixel_7 : decode cX6_pixel 7 = .ok (.ifCond .eq 17, 3) := by decide +kernel
theorem dX6_pixel_10 : decode cX6_pixel 10 = .ok (.iload_n 2, 1) := by decide +kernel
theorem dX6_pixel_11 : decode cX6_pixel 11 = .ok (.iconst 0, 1) := by decide +kernel
theorem dX6_pixel_12 : decode cX6_pixel 12 = .ok (.aload_n 0, 1) := by decide +kernel
theorem dX6_pixel_13 : decode cX6_pixel 13 = .ok (.getfield 7, 3) := by decide +kernel
theorem dX6_pixel_16 : decode cX6_pixel 16 = .ok (.iconst 1, 1) := by decide +kernel
theorem dX6_pixel_17 : decode cX6_pixel 17 = .ok (.isub, 1) := by decide +kernel
theorem dX6_pixel_18 : decode cX6_pixel 18 = .ok (.invokestatic 73, 3) := by decide +kernel
theorem dX6_pixel_21 : decode cX6_pixel 21 = .ok (.ifCond .ne 6, 3) := by decide +kernel
theorem dX6_pixel_24 : decode cX6_pixel 24 = .ok (.bipush (-11), 2) := by decide +kernel
theorem dX6_pixel_26 : decode cX6_pixel 26 = .ok (.ireturn, 1) := by decide +kernel
theorem dX6_pixel_27 : decode cX6_pixel 27 = .ok (.aload_n 0, 1) := by decide +kernel
theorem dX6_pixel_28 : decode cX6_pixel 28 = .ok (.invokevirtual 105, 3) := by decide +kernel
theorem dX6_pixel_31 : decode cX6_pixel 31 = .ok (.aload_n 0, 1) := by decide +kernel
theorem dX6_pixel_32 : decode cX6_pixel 32 = .ok (.getfield 29, 3) := by decide +kernel
theorem dX6_pixel_35 : decode cX6_pixel 35 = .ok (.iload_n 2, 1) := by decide +kernel
theorem dX6_pixel_36 : decode cX6_pixel 36 = .ok (.iaload, 1) := by decide +kernel
theorem dX6_pixel_37 : decode cX6_pixel 37 = .ok (.iload_n 1, 1) := by decide +kernel
theorem dX6_pixel_38 : decode cX6_pixel 38 = .ok (.invokestatic 97, 3) := by decide +kernel
theorem dX6_pixel_41 : decode cX6_pixel 41 = .ok (.ifCond .eq 7, 3) := by decide +kernel
theorem dX6_pixel_44 : decode cX6_pixel 44 = .ok (.iconst 0, 1) := by decide +kernel
theorem dX6_pixel_45 : decode cX6_pixel 45 = .ok (.goto 13, 3) := by decide +kernel
theorem dX6_pixel_48 : decode cX6_pixel 48 = .ok (.aload_n 0, 1) := by decide +kernel
theorem dX6_pixel_49 : decode cX6_pixel 49 = .ok (.iload_n 1, 1) := by decide +kernel
theorem dX6_pixel_50 : decode cX6_pixel 50 = .ok (.iload_n 2, 1) := by decide +kernel
theorem dX6_pixel_51 : decode cX6_pixel 51 = .ok (.aload_n 0, 1) := by decide +kernel
theorem dX6_pixel_52 : decode cX6_pixel 52 = .ok (.getfield 64, 3) := by decide +kernel
theorem dX6_pixel_55 : decode cX6_pixel 55 = .ok (.invokevirtual 101, 3) := by decide +kernel
theorem dX6_pixel_58 : decode cX6_pixel 58 = .ok (.ireturn, 1) := by decide +kernel
set_option maxRecDepth 20000 in
theorem ggX6_load_X6_draws : GoodIn wsX6_load wsX6_draws := goodIn_r _ [6, 7, 8, 9, 10, 11, 12, 13, 14, 15, 16, 17, 18, 19, 5, 20, 35, 36, 37, 38, 39, 40, 41, 42, 43, 44, 45, 46, 47, 48, 49, 50, 51, 52, 53] (by decide +kernel) (by decide +kernel)
set_option maxRecDepth 20000 in
theorem gX6_load_X6_draws : GoodIn wsX6_load (wsV RX6 105 RX6 yX6_draws wsX6_draws) := goodIn_app (goodIn_of _ (by decide +kernel)) ggX6_load_X6_draws
set_option maxRecDepth 20000 in
theorem ggX6_load_X6_loadAt : GoodIn wsX6_load wsX6_loadAt := goodIn_r _ [24, 25, 26, 27, 28, 5, 29, 30, 31, 32, 33, 7, 34, 12, 14, 35, 36, 37, 38, 39, 40, 41, 42, 43, 44, 45, 46, 47, 48, 49, 50, 51, 52, 53] (by decide +kernel) (by decide +kernel)
set_option maxRecDepth 20000 in
theorem gX6_load_X6_loadAt : GoodIn wsX6_load (wsV RX6 108 RX6 yX6_loadAt wsX6_loadAt) := goodIn_app (goodIn_of _ (by decide +kernel)) ggX6_load_X6_loadAt
theorem dX6_load_0 : decode cX6_load 0 = .ok (.aload_n 0, 1) := by decide +kernel
theorem dX6_load_1 : decode cX6_load 1 = .ok (.invokevirtual 105, 3) := by decide +kernel
theorem dX6_load_4 : decode cX6_load 4 = .ok (.aload_n 0, 1) := by decide +kernel
theorem dX6_load_5 : decode cX6_load 5 = .ok (.aload_n 0, 1) := by decide +kernel
theorem dX6_load_6 : decode cX6_load 6 = .ok (.getfield 64, 3) := by decide +kernel
theorem dX6_load_9 : decode cX6_load 9 = .ok (.invokevirtual 108, 3) := by decide +kernel
theorem dX6_load_12 : decode cX6_load 12 = .ok (.ireturn, 1) := by decide +kernel
set_option maxRecDepth 20000 in
theorem ggX6_brightness_X6_load : GoodIn wsX6_brightness wsX6_load := goodIn_r _ [6, 7, 8, 9, 10, 5, 11, 12, 13, 14, 15, 16, 17, 18, 19, 20, 21, 22, 23, 24, 25, 26, 27, 28, 29, 30, 31, 32, 33, 34, 35, 36, 37, 38, 39, 40, 41, 42, 43, 44, 45, 46, 47, 48, 49, 50, 51, 52, 53, 54, 55, 56, 57, 58] (by decide +kernel) (by decide +kernel)
set_option maxRecDepth 20000 in
theorem gX6_brightness_X6_load : GoodIn wsX6_brightness (wsV RX6 111 RX6 yX6_load wsX6_load) := goodIn_app (goodIn_of _ (by decide +kernel)) ggX6_brightness_X6_load
theorem dX6_brightness_0 : decode cX6_brightness 0 = .ok (.aload_n 0, 1) := by decide +kernel
theorem dX6_brightness_1 : decode cX6_brightness 1 = .ok (.invokevirtual 111, 3) := by decide +kernel
theorem dX6_brightness_4 : decode cX6_brightness 4 = .ok (.istore_n 1, 1) := by decide +kernel
theorem dX6_brightness_5 : decode cX6_brightness 5 = .ok (.iload_n 1, 1) := by decide +kernel
theorem dX6_brightness_6 : decode cX6_brightness 6 = .ok (.aload_n 0, 1) := by decide +kernel
theorem dX6_brightness_7 : decode cX6_brightness 7 = .ok (.getfield 19, 3) := by decide +kernel
theorem dX6_brightness_10 : decode cX6_brightness 10 = .ok (.if_icmp .gt 8, 3) := by decide +kernel
theorem dX6_brightness_13 : decode cX6_brightness 13 = .ok (.bipush 15, 2) := by decide +kernel
theorem dX6_brightness_15 : decode cX6_brightness 15 = .ok (.goto 12, 3) := by decide +kernel
theorem dX6_brightness_18 : decode cX6_brightness 18 = .ok (.bipush 15, 2) := by decide +kernel
theorem dX6_brightness_20 : decode cX6_brightness 20 = .ok (.aload_n 0, 1) := by decide +kernel
theorem dX6_brightness_21 : decode cX6_brightness 21 = .ok (.getfield 19, 3) := by decide +kernel
theorem dX6_brightness_24 : decode cX6_brightness 24 = .ok (.imul, 1) := by decide +kernel
theorem dX6_brightness_25 : decode cX6_brightness 25 = .ok (.iload_n 1, 1) := by decide +kernel
theorem dX6_brightness_26 : decode cX6_brightness 26 = .ok (.idiv, 1) := by decide +kernel
theorem dX6_brightness_27 : decode cX6_brightness 27 = .ok (.ireturn, 1) := by decide +kernel
set_option maxRecDepth 20000 in
theorem ggX6_peakLoad_X6_draws : GoodIn wsX6_peakLoad wsX6_draws := goodIn_r _ [6, 1, 7, 8, 9, 10, 11, 12, 13, 14, 15, 16, 17, 18, 5, 19, 34, 35, 36, 37, 38, 39, 40, 41, 42, 43, 44, 45, 46, 47, 48, 49, 50, 51, 52] (by decide +kernel) (by decide +kernel)
set_option maxRecDepth 20000 in
theorem gX6_peakLoad_X6_draws : GoodIn wsX6_peakLoad (wsV RX6 105 RX6 yX6_draws wsX6_draws) := goodIn_app (goodIn_of _ (by decide +kernel)) ggX6_peakLoad_X6_draws
set_option maxRecDepth 20000 in
theorem ggX6_peakLoad_X6_loadAt : GoodIn wsX6_peakLoad wsX6_loadAt := goodIn_r _ [23, 24, 25, 26, 27, 5, 28, 29, 30, 31, 32, 1, 33, 11, 13, 34, 35, 36, 37, 38, 39, 40, 41, 42, 43, 44, 45, 46, 47, 48, 49, 50, 51, 52] (by decide +kernel) (by decide +kernel)
set_option maxRecDepth 20000 in
theorem gX6_peakLoad_X6_loadAt : GoodIn wsX6_peakLoad (wsV RX6 108 RX6 yX6_loadAt wsX6_loadAt) := goodIn_app (goodIn_of _ (by decide +kernel)) ggX6_peakLoad_X6_loadAt
theorem dX6_peakLoad_0 : decode cX6_peakLoad 0 = .ok (.aload_n 0, 1) := by decide +kernel
theorem dX6_peakLoad_1 : decode cX6_peakLoad 1 = .ok (.invokevirtual 105, 3) := by decide +kernel
theorem dX6_peakLoad_4 : decode cX6_peakLoad 4 = .ok (.iconst 0, 1) := by decide +kernel
theorem dX6_peakLoad_5 : decode cX6_peakLoad 5 = .ok (.istore_n 1, 1) := by decide +kernel
theorem dX6_peakLoad_6 : decode cX6_peakLoad 6 = .ok (.iconst 0, 1) := by decide +kernel
theorem dX6_peakLoad_7 : decode cX6_peakLoad 7 = .ok (.istore_n 2, 1) := by decide +kernel
theorem dX6_peakLoad_8 : decode cX6_peakLoad 8 = .ok (.iload_n 2, 1) := by decide +kernel
theorem dX6_peakLoad_9 : decode cX6_peakLoad 9 = .ok (.aload_n 0, 1) := by decide +kernel
theorem dX6_peakLoad_10 : decode cX6_peakLoad 10 = .ok (.getfield 67, 3) := by decide +kernel
theorem dX6_peakLoad_13 : decode cX6_peakLoad 13 = .ok (.if_icmp .ge 26, 3) := by decide +kernel
theorem dX6_peakLoad_16 : decode cX6_peakLoad 16 = .ok (.aload_n 0, 1) := by decide +kernel
theorem dX6_peakLoad_17 : decode cX6_peakLoad 17 = .ok (.iload_n 2, 1) := by decide +kernel
theorem dX6_peakLoad_18 : decode cX6_peakLoad 18 = .ok (.invokevirtual 108, 3) := by decide +kernel
theorem dX6_peakLoad_21 : decode cX6_peakLoad 21 = .ok (.istore_n 3, 1) := by decide +kernel
theorem dX6_peakLoad_22 : decode cX6_peakLoad 22 = .ok (.iload_n 3, 1) := by decide +kernel
theorem dX6_peakLoad_23 : decode cX6_peakLoad 23 = .ok (.iload_n 1, 1) := by decide +kernel
theorem dX6_peakLoad_24 : decode cX6_peakLoad 24 = .ok (.if_icmp .le 7, 3) := by decide +kernel
theorem dX6_peakLoad_27 : decode cX6_peakLoad 27 = .ok (.iload_n 3, 1) := by decide +kernel
theorem dX6_peakLoad_28 : decode cX6_peakLoad 28 = .ok (.goto 4, 3) := by decide +kernel
theorem dX6_peakLoad_31 : decode cX6_peakLoad 31 = .ok (.iload_n 1, 1) := by decide +kernel
theorem dX6_peakLoad_32 : decode cX6_peakLoad 32 = .ok (.istore_n 1, 1) := by decide +kernel
theorem dX6_peakLoad_33 : decode cX6_peakLoad 33 = .ok (.iinc 2 1, 3) := by decide +kernel
theorem dX6_peakLoad_36 : decode cX6_peakLoad 36 = .ok (.goto (-28), 3) := by decide +kernel
theorem dX6_peakLoad_39 : decode cX6_peakLoad 39 = .ok (.iload_n 1, 1) := by decide +kernel
theorem dX6_peakLoad_40 : decode cX6_peakLoad 40 = .ok (.ireturn, 1) := by decide +kernel
set_option maxRecDepth 20000 in
theorem ggX6_peakOffset_X6_peakLoad : GoodIn wsX6_peakOffset wsX6_peakLoad := goodIn_r _ [6, 1, 7, 8, 9, 5, 10, 11, 12, 13, 14, 15, 16, 17, 18, 19, 20, 21, 22, 23, 24, 25, 26, 27, 28, 29, 30, 31, 32, 33, 34, 35, 36, 37, 38, 39, 40, 41, 42, 43, 44, 45, 46, 47, 48, 49, 50, 51, 52, 53, 54, 55, 56] (by decide +kernel) (by decide +kernel)
set_option maxRecDepth 20000 in
theorem gX6_peakOffset_X6_peakLoad : GoodIn wsX6_peakOffset (wsV RX6 114 RX6 yX6_peakLoad wsX6_peakLoad) := goodIn_app (goodIn_of _ (by decide +kernel)) ggX6_peakOffset_X6_peakLoad
set_option maxRecDepth 20000 in
theorem ggX6_peakOffset_X6_loadAt : GoodIn wsX6_peakOffset wsX6_loadAt := goodIn_r _ [27, 28, 29, 30, 31, 5, 32, 33, 34, 35, 36, 1, 37, 15, 17, 38, 39, 40, 41, 42, 43, 44, 45, 46, 47, 48, 49, 50, 51, 52, 53, 54, 55, 56] (by decide +kernel) (by decide +kernel)
set_option maxRecDepth 20000 in
theorem gX6_peakOffset_X6_loadAt : GoodIn wsX6_peakOffset (wsV RX6 108 RX6 yX6_loadAt wsX6_loadAt) := goodIn_app (goodIn_of _ (by decide +kernel)) ggX6_peakOffset_X6_loadAt
theorem dX6_peakOffset_0 : decode cX6_peakOffset 0 = .ok (.aload_n 0, 1) := by decide +kernel
theorem dX6_peakOffset_1 : decode cX6_peakOffset 1 = .ok (.invokevirtual 114, 3) := by decide +kernel
theorem dX6_peakOffset_4 : decode cX6_peakOffset 4 = .ok (.istore_n 1, 1) := by decide +kernel
theorem dX6_peakOffset_5 : decode cX6_peakOffset 5 = .ok (.iconst 0, 1) := by decide +kernel
theorem dX6_peakOffset_6 : decode cX6_peakOffset 6 = .ok (.istore_n 2, 1) := by decide +kernel
theorem dX6_peakOffset_7 : decode cX6_peakOffset 7 = .ok (.iload_n 2, 1) := by decide +kernel
theorem dX6_peakOffset_8 : decode cX6_peakOffset 8 = .ok (.aload_n 0, 1) := by decide +kernel
theorem dX6_peakOffset_9 : decode cX6_peakOffset 9 = .ok (.getfield 67, 3) := by decide +kernel
theorem dX6_peakOffset_12 : decode cX6_peakOffset 12 = .ok (.if_icmp .ge 20, 3) := by decide +kernel
theorem dX6_peakOffset_15 : decode cX6_peakOffset 15 = .ok (.aload_n 0, 1) := by decide +kernel
theorem dX6_peakOffset_16 : decode cX6_peakOffset 16 = .ok (.iload_n 2, 1) := by decide +kernel
theorem dX6_peakOffset_17 : decode cX6_peakOffset 17 = .ok (.invokevirtual 108, 3) := by decide +kernel
theorem dX6_peakOffset_20 : decode cX6_peakOffset 20 = .ok (.iload_n 1, 1) := by decide +kernel
theorem dX6_peakOffset_21 : decode cX6_peakOffset 21 = .ok (.if_icmp .ne 5, 3) := by decide +kernel
theorem dX6_peakOffset_24 : decode cX6_peakOffset 24 = .ok (.iload_n 2, 1) := by decide +kernel
theorem dX6_peakOffset_25 : decode cX6_peakOffset 25 = .ok (.ireturn, 1) := by decide +kernel
theorem dX6_peakOffset_26 : decode cX6_peakOffset 26 = .ok (.iinc 2 1, 3) := by decide +kernel
theorem dX6_peakOffset_29 : decode cX6_peakOffset 29 = .ok (.goto (-22), 3) := by decide +kernel
theorem dX6_peakOffset_32 : decode cX6_peakOffset 32 = .ok (.bipush (-14), 2) := by decide +kernel
theorem dX6_peakOffset_34 : decode cX6_peakOffset 34 = .ok (.ireturn, 1) := by decide +kernel
set_option maxRecDepth 20000 in
theorem ggX6_damageBy_X6_draws : GoodIn wsX6_damageBy wsX6_draws := goodIn_r _ [10, 2, 11, 12, 13, 14, 3, 15, 16, 17, 18, 19, 20, 21, 9, 22, 29, 30, 31, 32, 33, 34, 35, 36, 37, 38, 39, 40, 41, 42, 43, 44, 45, 46, 47] (by decide +kernel) (by decide +kernel)
set_option maxRecDepth 20000 in
theorem gX6_damageBy_X6_draws : GoodIn wsX6_damageBy (wsV RX6 105 RX6 yX6_draws wsX6_draws) := goodIn_app (goodIn_of _ (by decide +kernel)) ggX6_damageBy_X6_draws
set_option maxRecDepth 20000 in
theorem ggX6_damageBy_X6_in : GoodIn wsX6_damageBy wsX6_in := goodIn_r _ [25] (by decide +kernel) (by decide +kernel)
set_option maxRecDepth 20000 in
theorem gX6_damageBy_X6_in : GoodIn wsX6_damageBy (va_wsS RX6 73 yX6_in wsX6_in) := goodIn_app (goodIn_of _ (by decide +kernel)) ggX6_damageBy_X6_in
set_option maxRecDepth 20000 in
theorem ggX6_damageBy_X6_has : GoodIn wsX6_damageBy wsX6_has := goodIn_r _ [28] (by decide +kernel) (by decide +kernel)
set_option maxRecDepth 20000 in
theorem gX6_damageBy_X6_has : GoodIn wsX6_damageBy (va_wsS RX6 97 yX6_has wsX6_has) := goodIn_app (goodIn_of _ (by decide +kernel)) ggX6_damageBy_X6_has
theorem dX6_damageBy_0 : decode cX6_damageBy 0 = .ok (.aload_n 0, 1) := by decide +kernel
theorem dX6_damageBy_1 : decode cX6_damageBy 1 = .ok (.invokevirtual 105, 3) := by decide +kernel
theorem dX6_damageBy_4 : decode cX6_damageBy 4 = .ok (.iconst 0, 1) := by decide +kernel
theorem dX6_damageBy_5 : decode cX6_damageBy 5 = .ok (.istore_n 2, 1) := by decide +kernel
theorem dX6_damageBy_6 : decode cX6_damageBy 6 = .ok (.iconst 0, 1) := by decide +kernel
theorem dX6_damageBy_7 : decode cX6_damageBy 7 = .ok (.istore_n 3, 1) := by decide +kernel
theorem dX6_damageBy_8 : decode cX6_damageBy 8 = .ok (.iload_n 3, 1) := by decide +kernel
theorem dX6_damageBy_9 : decode cX6_damageBy 9 = .ok (.aload_n 0, 1) := by decide +kernel
theorem dX6_damageBy_10 : decode cX6_damageBy 10 = .ok (.getfield 7, 3) := by decide +kernel
theorem dX6_damageBy_13 : decode cX6_damageBy 13 = .ok (.if_icmp .ge 111, 3) := by decide +kernel
theorem dX6_damageBy_16 : decode cX6_damageBy 16 = .ok (.aload_n 0, 1) := by decide +kernel
theorem dX6_damageBy_17 : decode cX6_damageBy 17 = .ok (.getfield 67, 3) := by decide +kernel
theorem dX6_damageBy_20 : decode cX6_damageBy 20 = .ok (.ifCond .le 104, 3) := by decide +kernel
theorem dX6_damageBy_23 : decode cX6_damageBy 23 = .ok (.aload_n 0, 1) := by decide +kernel
theorem dX6_damageBy_24 : decode cX6_damageBy 24 = .ok (.getfield 44, 3) := by decide +kernel
theorem dX6_damageBy_27 : decode cX6_damageBy 27 = .ok (.aload_n 0, 1) := by decide +kernel
theorem dX6_damageBy_28 : decode cX6_damageBy 28 = .ok (.getfield 64, 3) := by decide +kernel
theorem dX6_damageBy_31 : decode cX6_damageBy 31 = .ok (.iload_n 3, 1) := by decide +kernel
theorem dX6_damageBy_32 : decode cX6_damageBy 32 = .ok (.iadd, 1) := by decide +kernel
theorem dX6_damageBy_33 : decode cX6_damageBy 33 = .ok (.aload_n 0, 1) := by decide +kernel
theorem dX6_damageBy_34 : decode cX6_damageBy 34 = .ok (.getfield 67, 3) := by decide +kernel
theorem dX6_damageBy_37 : decode cX6_damageBy 37 = .ok (.irem, 1) := by decide +kernel
theorem dX6_damageBy_38 : decode cX6_damageBy 38 = .ok (.iaload, 1) := by decide +kernel
theorem dX6_damageBy_39 : decode cX6_damageBy 39 = .ok (.istore 4, 2) := by decide +kernel
theorem dX6_damageBy_41 : decode cX6_damageBy 41 = .ok (.iconst 0, 1) := by decide +kernel
theorem dX6_damageBy_42 : decode cX6_damageBy 42 = .ok (.istore 5, 2) := by decide +kernel
theorem dX6_damageBy_44 : decode cX6_damageBy 44 = .ok (.iload 5, 2) := by decide +kernel
theorem dX6_damageBy_46 : decode cX6_damageBy 46 = .ok (.bipush 8, 2) := by decide +kernel
theorem dX6_damageBy_48 : decode cX6_damageBy 48 = .ok (.if_icmp .ge 70, 3) := by decide +kernel
theorem dX6_damageBy_51 : decode cX6_damageBy 51 = .ok (.iload 5, 2) := by decide +kernel
theorem dX6_damageBy_53 : decode cX6_damageBy 53 = .ok (.iload_n 1, 1) := by decide +kernel
theorem dX6_damageBy_54 : decode cX6_damageBy 54 = .ok (.iadd, 1) := by decide +kernel
theorem dX6_damageBy_55 : decode cX6_damageBy 55 = .ok (.istore 6, 2) := by decide +kernel
theorem dX6_damageBy_57 : decode cX6_damageBy 57 = .ok (.iload 6, 2) := by decide +kernel
theorem dX6_damageBy_59 : decode cX6_damageBy 59 = .ok (.iconst 0, 1) := by decide +kernel
theorem dX6_damageBy_60 : decode cX6_damageBy 60 = .ok (.bipush 7, 2) := by decide +kernel
theorem dX6_damageBy_62 : decode cX6_damageBy 62 = .ok (.invokestatic 73, 3) := by decide +kernel
theorem dX6_damageBy_65 : decode cX6_damageBy 65 = .ok (.ifCond .eq 17, 3) := by decide +kernel
theorem dX6_damageBy_68 : decode cX6_damageBy 68 = .ok (.aload_n 0, 1) := by decide +kernel
theorem dX6_damageBy_69 : decode cX6_damageBy 69 = .ok (.getfield 29, 3) := by decide +kernel
theorem dX6_damageBy_72 : decode cX6_damageBy 72 = .ok (.iload_n 3, 1) := by decide +kernel
theorem dX6_damageBy_73 : decode cX6_damageBy 73 = .ok (.iaload, 1) := by decide +kernel
theorem dX6_damageBy_74 : decode cX6_damageBy 74 = .ok (.iload 6, 2) := by decide +kernel
theorem dX6_damageBy_76 : decode cX6_damageBy 76 = .ok (.invokestatic 97, 3) := by decide +kernel
theorem dX6_damageBy_79 : decode cX6_damageBy 79 = .ok (.ifCond .eq 7, 3) := by decide +kernel
theorem dX6_damageBy_82 : decode cX6_damageBy 82 = .ok (.iconst 1, 1) := by decide +kernel
theorem dX6_damageBy_83 : decode cX6_damageBy 83 = .ok (.goto 4, 3) := by decide +kernel
theorem dX6_damageBy_86 : decode cX6_damageBy 86 = .ok (.iconst 0, 1) := by decide +kernel
theorem dX6_damageBy_87 : decode cX6_damageBy 87 = .ok (.istore 7, 2) := by decide +kernel
theorem dX6_damageBy_89 : decode cX6_damageBy 89 = .ok (.iload_n 2, 1) := by decide +kernel
theorem dX6_damageBy_90 : decode cX6_damageBy 90 = .ok (.iload 4, 2) := by decide +kernel
theorem dX6_damageBy_92 : decode cX6_damageBy 92 = .ok (.iload 5, 2) := by decide +kernel
theorem dX6_damageBy_94 : decode cX6_damageBy 94 = .ok (.invokestatic 97, 3) := by decide +kernel
theorem dX6_damageBy_97 : decode cX6_damageBy 97 = .ok (.ifCond .eq 12, 3) := by decide +kernel
theorem dX6_damageBy_100 : decode cX6_damageBy 100 = .ok (.iload 7, 2) := by decide +kernel
theorem dX6_damageBy_102 : decode cX6_damageBy 102 = .ok (.ifCond .eq 7, 3) := by decide +kernel
theorem dX6_damageBy_105 : decode cX6_damageBy 105 = .ok (.iconst 1, 1) := by decide +kernel
theorem dX6_damageBy_106 : decode cX6_damageBy 106 = .ok (.goto 4, 3) := by decide +kernel
theorem dX6_damageBy_109 : decode cX6_damageBy 109 = .ok (.iconst 0, 1) := by decide +kernel
theorem dX6_damageBy_110 : decode cX6_damageBy 110 = .ok (.iadd, 1) := by decide +kernel
theorem dX6_damageBy_111 : decode cX6_damageBy 111 = .ok (.istore_n 2, 1) := by decide +kernel
theorem dX6_damageBy_112 : decode cX6_damageBy 112 = .ok (.iinc 5 1, 3) := by decide +kernel
theorem dX6_damageBy_115 : decode cX6_damageBy 115 = .ok (.goto (-71), 3) := by decide +kernel
theorem dX6_damageBy_118 : decode cX6_damageBy 118 = .ok (.iinc 3 1, 3) := by decide +kernel
theorem dX6_damageBy_121 : decode cX6_damageBy 121 = .ok (.goto (-113), 3) := by decide +kernel
theorem dX6_damageBy_124 : decode cX6_damageBy 124 = .ok (.iload_n 2, 1) := by decide +kernel
theorem dX6_damageBy_125 : decode cX6_damageBy 125 = .ok (.ireturn, 1) := by decide +kernel
set_option maxRecDepth 20000 in
theorem ggX6_damage_X6_in : GoodIn wsX6_damage wsX6_in := goodIn_r _ [4] (by decide +kernel) (by decide +kernel)
set_option maxRecDepth 20000 in
theorem gX6_damage_X6_in : GoodIn wsX6_damage (va_wsS RX6 73 yX6_in wsX6_in) := goodIn_app (goodIn_of _ (by decide +kernel)) ggX6_damage_X6_in
set_option maxRecDepth 20000 in
theorem ggX6_damage_X6_damageBy : GoodIn wsX6_damage wsX6_damageBy := goodIn_r _ [8, 9, 10, 11, 12, 13, 14, 15, 16, 3, 17, 18, 19, 20, 21, 22, 23, 24, 25, 26, 27, 28, 29, 1, 2, 4, 30, 31, 32, 33, 34, 35, 36, 37, 38, 39, 40, 41, 42, 43, 44, 45, 46, 47, 48, 49, 50, 51] (by decide +kernel) (by decide +kernel)
set_option maxRecDepth 20000 in
theorem gX6_damage_X6_damageBy : GoodIn wsX6_damage (wsV RX6 117 RX6 yX6_damageBy wsX6_damageBy) := goodIn_app (goodIn_of _ (by decide +kernel)) ggX6_damage_X6_damageBy
theorem dX6_damage_0 : decode cX6_damage 0 = .ok (.iload_n 1, 1) := by decide +kernel
theorem dX6_damage_1 : decode cX6_damage 1 = .ok (.bipush (-2), 2) := by decide +kernel
theorem dX6_damage_3 : decode cX6_damage 3 = .ok (.iconst 2, 1) := by decide +kernel
theorem dX6_damage_4 : decode cX6_damage 4 = .ok (.invokestatic 73, 3) := by decide +kernel
theorem dX6_damage_7 : decode cX6_damage 7 = .ok (.ifCond .eq 11, 3) := by decide +kernel
theorem dX6_damage_10 : decode cX6_damage 10 = .ok (.aload_n 0, 1) := by decide +kernel
theorem dX6_damage_11 : decode cX6_damage 11 = .ok (.iload_n 1, 1) := by decide +kernel
theorem dX6_damage_12 : decode cX6_damage 12 = .ok (.invokevirtual 117, 3) := by decide +kernel
theorem dX6_damage_15 : decode cX6_damage 15 = .ok (.goto 5, 3) := by decide +kernel
theorem dX6_damage_18 : decode cX6_damage 18 = .ok (.bipush (-11), 2) := by decide +kernel
theorem dX6_damage_20 : decode cX6_damage 20 = .ok (.ireturn, 1) := by decide +kernel
set_option maxRecDepth 20000 in
theorem ggX6_adoptBestShift_X6_damageBy : GoodIn wsX6_adoptBestShift wsX6_damageBy := goodIn_r _ [6, 7, 8, 9, 10, 11, 12, 13, 14, 5, 15, 16, 17, 18, 19, 20, 21, 22, 23, 24, 25, 26, 27, 28, 29, 30, 31, 32, 33, 34, 35, 36, 37, 38, 39, 40, 41, 42, 43, 44, 45, 46, 47, 48, 49, 50, 51, 52] (by decide +kernel) (by decide +kernel)
set_option maxRecDepth 20000 in
theorem gX6_adoptBestShift_X6_damageBy : GoodIn wsX6_adoptBestShift (wsV RX6 117 RX6 yX6_damageBy wsX6_damageBy) := goodIn_app (goodIn_of _ (by decide +kernel)) ggX6_adoptBestShift_X6_damageBy
theorem dX6_adoptBestShift_0 : decode cX6_adoptBestShift 0 = .ok (.iconst 0, 1) := by decide +kernel
theorem dX6_adoptBestShift_1 : decode cX6_adoptBestShift 1 = .ok (.istore_n 1, 1) := by decide +kernel
theorem dX6_adoptBestShift_2 : decode cX6_adoptBestShift 2 = .ok (.iconst 1, 1) := by decide +kernel
theorem dX6_adoptBestShift_3 : decode cX6_adoptBestShift 3 = .ok (.istore_n 2, 1) := by decide +kernel
theorem dX6_adoptBestShift_4 : decode cX6_adoptBestShift 4 = .ok (.iload_n 2, 1) := by decide +kernel
theorem dX6_adoptBestShift_5 : decode cX6_adoptBestShift 5 = .ok (.iconst 3, 1) := by decide +kernel
theorem dX6_adoptBestShift_6 : decode cX6_adoptBestShift 6 = .ok (.if_icmp .ge 49, 3) := by decide +kernel
theorem dX6_adoptBestShift_9 : decode cX6_adoptBestShift 9 = .ok (.aload_n 0, 1) := by decide +kernel
theorem dX6_adoptBestShift_10 : decode cX6_adoptBestShift 10 = .ok (.iload_n 2, 1) := by decide +kernel
theorem dX6_adoptBestShift_11 : decode cX6_adoptBestShift 11 = .ok (.ineg, 1) := by decide +kernel
theorem dX6_adoptBestShift_12 : decode cX6_adoptBestShift 12 = .ok (.invokevirtual 117, 3) := by decide +kernel
theorem dX6_adoptBestShift_15 : decode cX6_adoptBestShift 15 = .ok (.aload_n 0, 1) := by decide +kernel
theorem dX6_adoptBestShift_16 : decode cX6_adoptBestShift 16 = .ok (.iload_n 1, 1) := by decide +kernel
theorem dX6_adoptBestShift_17 : decode cX6_adoptBestShift 17 = .ok (.invokevirtual 117, 3) := by decide +kernel
theorem dX6_adoptBestShift_20 : decode cX6_adoptBestShift 20 = .ok (.if_icmp .ge 8, 3) := by decide +kernel
theorem dX6_adoptBestShift_23 : decode cX6_adoptBestShift 23 = .ok (.iload_n 2, 1) := by decide +kernel
theorem dX6_adoptBestShift_24 : decode cX6_adoptBestShift 24 = .ok (.ineg, 1) := by decide +kernel
theorem dX6_adoptBestShift_25 : decode cX6_adoptBestShift 25 = .ok (.goto 4, 3) := by decide +kernel
theorem dX6_adoptBestShift_28 : decode cX6_adoptBestShift 28 = .ok (.iload_n 1, 1) := by decide +kernel
theorem dX6_adoptBestShift_29 : decode cX6_adoptBestShift 29 = .ok (.istore_n 1, 1) := by decide +kernel
theorem dX6_adoptBestShift_30 : decode cX6_adoptBestShift 30 = .ok (.aload_n 0, 1) := by decide +kernel
theorem dX6_adoptBestShift_31 : decode cX6_adoptBestShift 31 = .ok (.iload_n 2, 1) := by decide +kernel
theorem dX6_adoptBestShift_32 : decode cX6_adoptBestShift 32 = .ok (.invokevirtual 117, 3) := by decide +kernel
theorem dX6_adoptBestShift_35 : decode cX6_adoptBestShift 35 = .ok (.aload_n 0, 1) := by decide +kernel
theorem dX6_adoptBestShift_36 : decode cX6_adoptBestShift 36 = .ok (.iload_n 1, 1) := by decide +kernel
theorem dX6_adoptBestShift_37 : decode cX6_adoptBestShift 37 = .ok (.invokevirtual 117, 3) := by decide +kernel
theorem dX6_adoptBestShift_40 : decode cX6_adoptBestShift 40 = .ok (.if_icmp .ge 7, 3) := by decide +kernel
theorem dX6_adoptBestShift_43 : decode cX6_adoptBestShift 43 = .ok (.iload_n 2, 1) := by decide +kernel
theorem dX6_adoptBestShift_44 : decode cX6_adoptBestShift 44 = .ok (.goto 4, 3) := by decide +kernel
theorem dX6_adoptBestShift_47 : decode cX6_adoptBestShift 47 = .ok (.iload_n 1, 1) := by decide +kernel
theorem dX6_adoptBestShift_48 : decode cX6_adoptBestShift 48 = .ok (.istore_n 1, 1) := by decide +kernel
theorem dX6_adoptBestShift_49 : decode cX6_adoptBestShift 49 = .ok (.iinc 2 1, 3) := by decide +kernel
theorem dX6_adoptBestShift_52 : decode cX6_adoptBestShift 52 = .ok (.goto (-48), 3) := by decide +kernel
theorem dX6_adoptBestShift_55 : decode cX6_adoptBestShift 55 = .ok (.aload_n 0, 1) := by decide +kernel
theorem dX6_adoptBestShift_56 : decode cX6_adoptBestShift 56 = .ok (.iload_n 1, 1) := by decide +kernel
theorem dX6_adoptBestShift_57 : decode cX6_adoptBestShift 57 = .ok (.putfield 94, 3) := by decide +kernel
theorem dX6_adoptBestShift_60 : decode cX6_adoptBestShift 60 = .ok (.aload_n 0, 1) := by decide +kernel
theorem dX6_adoptBestShift_61 : decode cX6_adoptBestShift 61 = .ok (.iload_n 1, 1) := by decide +kernel
theorem dX6_adoptBestShift_62 : decode cX6_adoptBestShift 62 = .ok (.invokevirtual 117, 3) := by decide +kernel
theorem dX6_adoptBestShift_65 : decode cX6_adoptBestShift 65 = .ok (.ireturn, 1) := by decide +kernel
theorem dJ6_bitCount_0f7a4_0 : decode cJ6_bitCount_0f7a4 0 = .ok (.iload_n 0, 1) := by decide +kernel
theorem dJ6_bitCount_0f7a4_1 : decode cJ6_bitCount_0f7a4 1 = .ok (.iload_n 0, 1) := by decide +kernel
theorem dJ6_bitCount_0f7a4_2 : decode cJ6_bitCount_0f7a4 2 = .ok (.iconst 1, 1) := by decide +kernel
theorem dJ6_bitCount_0f7a4_3 : decode cJ6_bitCount_0f7a4 3 = .ok (.iushr, 1) := by decide +kernel
theorem dJ6_bitCount_0f7a4_4 : decode cJ6_bitCount_0f7a4 4 = .ok (.ldc_w 265, 3) := by decide +kernel
theorem dJ6_bitCount_0f7a4_7 : decode cJ6_bitCount_0f7a4 7 = .ok (.iand, 1) := by decide +kernel
theorem dJ6_bitCount_0f7a4_8 : decode cJ6_bitCount_0f7a4 8 = .ok (.isub, 1) := by decide +kernel
theorem dJ6_bitCount_0f7a4_9 : decode cJ6_bitCount_0f7a4 9 = .ok (.istore_n 0, 1) := by decide +kernel
theorem dJ6_bitCount_0f7a4_10 : decode cJ6_bitCount_0f7a4 10 = .ok (.iload_n 0, 1) := by decide +kernel
theorem dJ6_bitCount_0f7a4_11 : decode cJ6_bitCount_0f7a4 11 = .ok (.ldc_w 266, 3) := by decide +kernel
theorem dJ6_bitCount_0f7a4_14 : decode cJ6_bitCount_0f7a4 14 = .ok (.iand, 1) := by decide +kernel
theorem dJ6_bitCount_0f7a4_15 : decode cJ6_bitCount_0f7a4 15 = .ok (.iload_n 0, 1) := by decide +kernel
theorem dJ6_bitCount_0f7a4_16 : decode cJ6_bitCount_0f7a4 16 = .ok (.iconst 2, 1) := by decide +kernel
theorem dJ6_bitCount_0f7a4_17 : decode cJ6_bitCount_0f7a4 17 = .ok (.iushr, 1) := by decide +kernel
theorem dJ6_bitCount_0f7a4_18 : decode cJ6_bitCount_0f7a4 18 = .ok (.ldc_w 266, 3) := by decide +kernel
theorem dJ6_bitCount_0f7a4_21 : decode cJ6_bitCount_0f7a4 21 = .ok (.iand, 1) := by decide +kernel
theorem dJ6_bitCount_0f7a4_22 : decode cJ6_bitCount_0f7a4 22 = .ok (.iadd, 1) := by decide +kernel
theorem dJ6_bitCount_0f7a4_23 : decode cJ6_bitCount_0f7a4 23 = .ok (.istore_n 0, 1) := by decide +kernel
theorem dJ6_bitCount_0f7a4_24 : decode cJ6_bitCount_0f7a4 24 = .ok (.iload_n 0, 1) := by decide +kernel
theorem dJ6_bitCount_0f7a4_25 : decode cJ6_bitCount_0f7a4 25 = .ok (.iload_n 0, 1) := by decide +kernel
theorem dJ6_bitCount_0f7a4_26 : decode cJ6_bitCount_0f7a4 26 = .ok (.iconst 4, 1) := by decide +kernel
theorem dJ6_bitCount_0f7a4_27 : decode cJ6_bitCount_0f7a4 27 = .ok (.iushr, 1) := by decide +kernel
theorem dJ6_bitCount_0f7a4_28 : decode cJ6_bitCount_0f7a4 28 = .ok (.iadd, 1) := by decide +kernel
theorem dJ6_bitCount_0f7a4_29 : decode cJ6_bitCount_0f7a4 29 = .ok (.ldc_w 267, 3) := by decide +kernel
theorem dJ6_bitCount_0f7a4_32 : decode cJ6_bitCount_0f7a4 32 = .ok (.iand, 1) := by decide +kernel
theorem dJ6_bitCount_0f7a4_33 : decode cJ6_bitCount_0f7a4 33 = .ok (.istore_n 0, 1) := by decide +kernel
theorem dJ6_bitCount_0f7a4_34 : decode cJ6_bitCount_0f7a4 34 = .ok (.iload_n 0, 1) := by decide +kernel
theorem dJ6_bitCount_0f7a4_35 : decode cJ6_bitCount_0f7a4 35 = .ok (.iload_n 0, 1) := by decide +kernel
theorem dJ6_bitCount_0f7a4_36 : decode cJ6_bitCount_0f7a4 36 = .ok (.bipush 8, 2) := by decide +kernel
theorem dJ6_bitCount_0f7a4_38 : decode cJ6_bitCount_0f7a4 38 = .ok (.iushr, 1) := by decide +kernel
theorem dJ6_bitCount_0f7a4_39 : decode cJ6_bitCount_0f7a4 39 = .ok (.iadd, 1) := by decide +kernel
theorem dJ6_bitCount_0f7a4_40 : decode cJ6_bitCount_0f7a4 40 = .ok (.istore_n 0, 1) := by decide +kernel
theorem dJ6_bitCount_0f7a4_41 : decode cJ6_bitCount_0f7a4 41 = .ok (.iload_n 0, 1) := by decide +kernel
theorem dJ6_bitCount_0f7a4_42 : decode cJ6_bitCount_0f7a4 42 = .ok (.iload_n 0, 1) := by decide +kernel
theorem dJ6_bitCount_0f7a4_43 : decode cJ6_bitCount_0f7a4 43 = .ok (.bipush 16, 2) := by decide +kernel
theorem dJ6_bitCount_0f7a4_45 : decode cJ6_bitCount_0f7a4 45 = .ok (.iushr, 1) := by decide +kernel
theorem dJ6_bitCount_0f7a4_46 : decode cJ6_bitCount_0f7a4 46 = .ok (.iadd, 1) := by decide +kernel
theorem dJ6_bitCount_0f7a4_47 : decode cJ6_bitCount_0f7a4 47 = .ok (.istore_n 0, 1) := by decide +kernel
theorem dJ6_bitCount_0f7a4_48 : decode cJ6_bitCount_0f7a4 48 = .ok (.iload_n 0, 1) := by decide +kernel
theorem dJ6_bitCount_0f7a4_49 : decode cJ6_bitCount_0f7a4 49 = .ok (.bipush 63, 2) := by decide +kernel
theorem dJ6_bitCount_0f7a4_51 : decode cJ6_bitCount_0f7a4 51 = .ok (.iand, 1) := by decide +kernel
theorem dJ6_bitCount_0f7a4_52 : decode cJ6_bitCount_0f7a4 52 = .ok (.ireturn, 1) := by decide +kernel
theorem dJ9_floorMod_7cf53_0 : decode cJ9_floorMod_7cf53 0 = .ok (.iload_n 0, 1) := by decide +kernel
theorem dJ9_floorMod_7cf53_1 : decode cJ9_floorMod_7cf53 1 = .ok (.iload_n 1, 1) := by decide +kernel
theorem dJ9_floorMod_7cf53_2 : decode cJ9_floorMod_7cf53 2 = .ok (.irem, 1) := by decide +kernel
theorem dJ9_floorMod_7cf53_3 : decode cJ9_floorMod_7cf53 3 = .ok (.istore_n 2, 1) := by decide +kernel
theorem dJ9_floorMod_7cf53_4 : decode cJ9_floorMod_7cf53 4 = .ok (.iload_n 0, 1) := by decide +kernel
theorem dJ9_floorMod_7cf53_5 : decode cJ9_floorMod_7cf53 5 = .ok (.iload_n 1, 1) := by decide +kernel
theorem dJ9_floorMod_7cf53_6 : decode cJ9_floorMod_7cf53 6 = .ok (.ixor, 1) := by decide +kernel
theorem dJ9_floorMod_7cf53_7 : decode cJ9_floorMod_7cf53 7 = .ok (.ifCond .ge 11, 3) := by decide +kernel
theorem dJ9_floorMod_7cf53_10 : decode cJ9_floorMod_7cf53 10 = .ok (.iload_n 2, 1) := by decide +kernel
theorem dJ9_floorMod_7cf53_11 : decode cJ9_floorMod_7cf53 11 = .ok (.ifCond .eq 7, 3) := by decide +kernel
theorem dJ9_floorMod_7cf53_14 : decode cJ9_floorMod_7cf53 14 = .ok (.iload_n 2, 1) := by decide +kernel
theorem dJ9_floorMod_7cf53_15 : decode cJ9_floorMod_7cf53 15 = .ok (.iload_n 1, 1) := by decide +kernel
theorem dJ9_floorMod_7cf53_16 : decode cJ9_floorMod_7cf53 16 = .ok (.iadd, 1) := by decide +kernel
theorem dJ9_floorMod_7cf53_17 : decode cJ9_floorMod_7cf53 17 = .ok (.ireturn, 1) := by decide +kernel
theorem dJ9_floorMod_7cf53_18 : decode cJ9_floorMod_7cf53 18 = .ok (.iload_n 2, 1) := by decide +kernel
theorem dJ9_floorMod_7cf53_19 : decode cJ9_floorMod_7cf53 19 = .ok (.ireturn, 1) := by decide +kernel
theorem dJ9_min_7cf53_0 : decode cJ9_min_7cf53 0 = .ok (.iload_n 0, 1) := by decide +kernel
theorem dJ9_min_7cf53_1 : decode cJ9_min_7cf53 1 = .ok (.iload_n 1, 1) := by decide +kernel
theorem dJ9_min_7cf53_2 : decode cJ9_min_7cf53 2 = .ok (.if_icmp .gt 7, 3) := by decide +kernel
theorem dJ9_min_7cf53_5 : decode cJ9_min_7cf53 5 = .ok (.iload_n 0, 1) := by decide +kernel
theorem dJ9_min_7cf53_6 : decode cJ9_min_7cf53 6 = .ok (.goto 4, 3) := by decide +kernel
theorem dJ9_min_7cf53_9 : decode cJ9_min_7cf53 9 = .ok (.iload_n 1, 1) := by decide +kernel
theorem dJ9_min_7cf53_10 : decode cJ9_min_7cf53 10 = .ok (.ireturn, 1) := by decide +kernel
set_option maxRecDepth 20000 in
theorem ggL_law_X5_init : GoodIn wsL_law wsX5_init := goodIn_r _ [8, 9, 10, 11, 12, 13, 14, 15, 16, 17, 18, 19, 20, 21, 22, 23, 24, 25, 26, 27, 28, 29, 30, 31, 32, 33, 34, 35, 36, 37, 38, 39, 40, 41, 42, 43, 44, 45, 46, 47, 48, 49, 50, 51, 52, 53, 54, 55, 56, 57, 58, 59, 60, 61, 62, 63, 64, 561, 562, 530, 531, 532, 533, 534, 535, 536, 537, 538, 539, 540, 541, 563, 564, 565, 566, 567, 568, 569, 570, 571, 572, 573] (by decide +kernel) (by decide +kernel)
set_option maxRecDepth 20000 in
theorem gL_law_X5_init : GoodIn wsL_law (wsX5_init) := ggL_law_X5_init
set_option maxRecDepth 20000 in
theorem ggL_law_X6_init : GoodIn wsL_law wsX6_init := goodIn_r _ [67, 68, 10, 11, 69, 70, 71, 72, 28, 73, 74, 75, 76, 77, 78, 79, 80, 81, 542, 543, 544, 545, 546, 547, 548, 549, 550, 551, 552, 553, 554, 555, 556, 557, 558, 559, 560] (by decide +kernel) (by decide +kernel)
set_option maxRecDepth 20000 in
theorem gL_law_X6_init : GoodIn wsL_law (wsX6_init) := ggL_law_X6_init
set_option maxRecDepth 20000 in
theorem ggL_law_X5_setGlyphWidth : GoodIn wsL_law wsX5_setGlyphWidth := goodIn_r _ [85, 15, 86, 87, 2, 88, 89, 90, 91, 92, 93, 94, 14, 95, 41, 96, 97, 98, 99, 42, 100, 101, 102, 103, 27, 23, 31, 35, 104, 105, 106, 26, 107, 108, 109, 110, 111, 22, 112, 52, 113, 114, 115, 116, 117, 118, 119, 120, 121, 122, 123, 124, 125, 126, 127, 128, 129, 130, 131, 132, 133, 63, 64, 134, 135, 136, 18, 137, 46, 138, 139, 140, 141, 142, 143, 144, 145, 146, 530, 531, 532, 533, 534, 535, 536, 537, 538, 539, 540, 541, 561, 562, 567, 568, 569, 565, 566, 570, 571, 572, 573, 563, 564] (by decide +kernel) (by decide +kernel)
set_option maxRecDepth 20000 in
theorem gL_law_X5_setGlyphWidth : GoodIn wsL_law (wsV RL 13 RX5 yX5_setGlyphWidth wsX5_setGlyphWidth) := goodIn_app (goodIn_of _ (by decide +kernel)) ggL_law_X5_setGlyphWidth
set_option maxRecDepth 20000 in
theorem ggL_law_X6_setGlyphWidth : GoodIn wsL_law wsX6_setGlyphWidth := goodIn_r _ [150, 73, 74, 151, 152, 5, 153, 154, 155, 156, 157, 158, 159, 160, 161, 162, 163, 164, 165, 166, 167, 70, 168, 169, 170, 171, 77, 79, 542, 543, 544, 545, 546, 547, 548, 549, 550, 551, 552, 553, 554, 555, 556, 557, 558, 559, 560] (by decide +kernel) (by decide +kernel)
set_option maxRecDepth 20000 in
theorem gL_law_X6_setGlyphWidth : GoodIn wsL_law (wsV RL 17 RX6 yX6_setGlyphWidth wsX6_setGlyphWidth) := goodIn_app (goodIn_of _ (by decide +kernel)) ggL_law_X6_setGlyphWidth
set_option maxRecDepth 20000 in
theorem ggL_law_X5_setGlyphColumn : GoodIn wsL_law wsX5_setGlyphColumn := goodIn_r _ [175, 15, 86, 87, 2, 88, 89, 90, 91, 176, 177, 178, 14, 179, 180, 93, 94, 95, 41, 181, 144, 145, 146, 42, 182, 183, 184, 185, 186, 100, 101, 102, 103, 27, 23, 31, 35, 104, 105, 106, 26, 107, 108, 109, 110, 111, 22, 112, 52, 113, 114, 115, 116, 117, 118, 119, 120, 121, 122, 123, 124, 125, 126, 127, 128, 129, 130, 131, 132, 133, 63, 64, 134, 135, 136, 18, 137, 46, 138, 139, 140, 141, 142, 143, 530, 531, 532, 533, 534, 535, 536, 537, 538, 539, 540, 541, 561, 562, 567, 568, 569, 565, 566, 570, 571, 572, 573, 563, 564] (by decide +kernel) (by decide +kernel)
set_option maxRecDepth 20000 in
theorem gL_law_X5_setGlyphColumn : GoodIn wsL_law (wsV RL 18 RX5 yX5_setGlyphColumn wsX5_setGlyphColumn) := goodIn_app (goodIn_of _ (by decide +kernel)) ggL_law_X5_setGlyphColumn
set_option maxRecDepth 20000 in
theorem ggL_law_X6_setGlyphColumn : GoodIn wsL_law wsX6_setGlyphColumn := goodIn_r _ [190, 73, 74, 151, 152, 5, 153, 542, 543, 544, 545, 546, 547, 548, 549, 550, 551, 552, 553, 554, 555, 556, 557, 558, 559, 560] (by decide +kernel) (by decide +kernel)
set_option maxRecDepth 20000 in
theorem gL_law_X6_setGlyphColumn : GoodIn wsL_law (wsV RL 22 RX6 yX6_setGlyphColumn wsX6_setGlyphColumn) := goodIn_app (goodIn_of _ (by decide +kernel)) ggL_law_X6_setGlyphColumn
set_option maxRecDepth 20000 in
theorem ggL_law_X5_glyphColumn : GoodIn wsL_law wsX5_glyphColumn := goodIn_r _ [194, 15, 86, 87, 2, 88, 89, 90, 91, 176, 177, 178, 14, 179, 180, 93, 94, 95, 41, 181, 144, 145, 146, 42, 530, 531, 532, 533, 534, 535, 536, 537, 538, 539, 540, 541, 561, 562] (by decide +kernel) (by decide +kernel)
set_option maxRecDepth 20000 in
theorem gL_law_X5_glyphColumn : GoodIn wsL_law (wsV RL 23 RX5 yX5_glyphColumn wsX5_glyphColumn) := goodIn_app (goodIn_of _ (by decide +kernel)) ggL_law_X5_glyphColumn
set_option maxRecDepth 20000 in
theorem ggL_law_X6_glyphColumn : GoodIn wsL_law wsX6_glyphColumn := goodIn_r _ [198, 73, 74, 151, 152, 5, 153, 542, 543, 544, 545, 546, 547, 548, 549, 550, 551, 552, 553, 554, 555, 556, 557, 558, 559, 560] (by decide +kernel) (by decide +kernel)
set_option maxRecDepth 20000 in
theorem gL_law_X6_glyphColumn : GoodIn wsL_law (wsV RL 26 RX6 yX6_glyphColumn wsX6_glyphColumn) := goodIn_app (goodIn_of _ (by decide +kernel)) ggL_law_X6_glyphColumn
set_option maxRecDepth 20000 in
theorem ggL_law_X5_append : GoodIn wsL_law wsX5_append := goodIn_r _ [202, 19, 86, 87, 2, 88, 89, 90, 91, 203, 204, 205, 18, 206, 207, 46, 530, 531, 532, 533, 534, 535, 536, 537, 538, 539, 540, 541, 563, 564] (by decide +kernel) (by decide +kernel)
set_option maxRecDepth 20000 in
theorem gL_law_X5_append : GoodIn wsL_law (wsV RL 27 RX5 yX5_append wsX5_append) := goodIn_app (goodIn_of _ (by decide +kernel)) ggL_law_X5_append
set_option maxRecDepth 20000 in
theorem ggL_law_X6_append : GoodIn wsL_law wsX6_append := goodIn_r _ [211, 212, 76, 151, 152, 5, 153, 542, 543, 544, 545, 546, 547, 548, 549, 550, 551, 552, 553, 554, 555, 556, 557, 558, 559, 560] (by decide +kernel) (by decide +kernel)
set_option maxRecDepth 20000 in
theorem gL_law_X6_append : GoodIn wsL_law (wsV RL 31 RX6 yX6_append wsX6_append) := goodIn_app (goodIn_of _ (by decide +kernel)) ggL_law_X6_append
set_option maxRecDepth 20000 in
theorem ggL_law_X5_clearText : GoodIn wsL_law wsX5_clearText := goodIn_r _ [216, 19, 217, 218, 219, 18, 220, 207, 530, 531, 532, 533, 534, 535, 536, 537, 538, 539, 540, 541, 563, 564] (by decide +kernel) (by decide +kernel)
set_option maxRecDepth 20000 in
theorem gL_law_X5_clearText : GoodIn wsL_law (wsV RL 32 RX5 yX5_clearText wsX5_clearText) := goodIn_app (goodIn_of _ (by decide +kernel)) ggL_law_X5_clearText
set_option maxRecDepth 20000 in
theorem ggL_law_X6_clearText : GoodIn wsL_law wsX6_clearText := goodIn_r _ [224, 212, 542, 543, 544, 545, 546, 547, 548, 549, 550, 551, 552, 553, 554, 555, 556, 557, 558, 559, 560] (by decide +kernel) (by decide +kernel)
set_option maxRecDepth 20000 in
theorem gL_law_X6_clearText : GoodIn wsL_law (wsV RL 36 RX6 yX6_clearText wsX6_clearText) := goodIn_app (goodIn_of _ (by decide +kernel)) ggL_law_X6_clearText
set_option maxRecDepth 20000 in
theorem ggL_law_X5_insertMessage : GoodIn wsL_law wsX5_insertMessage := goodIn_r _ [228, 23, 19, 27, 89, 90, 2, 91, 229, 230, 231, 232, 233, 234, 22, 235, 117, 52, 236, 237, 238, 18, 239, 46, 207, 240, 135, 136, 137, 100, 101, 102, 103, 15, 31, 35, 104, 105, 106, 26, 107, 108, 109, 110, 111, 112, 113, 114, 115, 116, 118, 119, 120, 121, 122, 123, 124, 125, 126, 127, 128, 129, 130, 131, 132, 133, 63, 64, 134, 138, 139, 140, 141, 142, 93, 94, 14, 95, 41, 143, 144, 145, 146, 42, 530, 531, 532, 533, 534, 535, 536, 537, 538, 539, 540, 541, 565, 566, 563, 564, 567, 568, 569, 570, 571, 572, 573, 561, 562] (by decide +kernel) (by decide +kernel)
set_option maxRecDepth 20000 in
theorem gL_law_X5_insertMessage : GoodIn wsL_law (wsV RL 37 RX5 yX5_insertMessage wsX5_insertMessage) := goodIn_app (goodIn_of _ (by decide +kernel)) ggL_law_X5_insertMessage
set_option maxRecDepth 20000 in
theorem ggL_law_X6_insertMessage : GoodIn wsL_law wsX6_insertMessage := goodIn_r _ [244, 163, 212, 77, 78, 79, 76, 151, 152, 5, 153, 245, 246, 247, 248, 154, 155, 156, 157, 158, 159, 160, 161, 162, 164, 165, 166, 167, 70, 168, 169, 170, 171, 73, 542, 543, 544, 545, 546, 547, 548, 549, 550, 551, 552, 553, 554, 555, 556, 557, 558, 559, 560] (by decide +kernel) (by decide +kernel)
set_option maxRecDepth 20000 in
theorem gL_law_X6_insertMessage : GoodIn wsL_law (wsV RL 40 RX6 yX6_insertMessage wsX6_insertMessage) := goodIn_app (goodIn_of _ (by decide +kernel)) ggL_law_X6_insertMessage
set_option maxRecDepth 20000 in
theorem ggL_law_X5_removeMessage : GoodIn wsL_law wsX5_removeMessage := goodIn_r _ [252, 23, 27, 253, 110, 111, 22, 112, 52, 113, 114, 115, 116, 117, 118, 119, 120, 121, 90, 2, 91, 254, 255, 256, 257, 258, 100, 101, 102, 103, 15, 31, 35, 104, 105, 106, 26, 107, 108, 109, 122, 123, 124, 125, 126, 127, 128, 129, 130, 131, 132, 133, 63, 64, 134, 135, 136, 18, 137, 46, 138, 139, 140, 141, 142, 93, 94, 14, 95, 41, 143, 144, 145, 146, 42, 530, 531, 532, 533, 534, 535, 536, 537, 538, 539, 540, 541, 567, 568, 569, 565, 566, 570, 571, 572, 573, 563, 564, 561, 562] (by decide +kernel) (by decide +kernel)
set_option maxRecDepth 20000 in
theorem gL_law_X5_removeMessage : GoodIn wsL_law (wsV RL 41 RX5 yX5_removeMessage wsX5_removeMessage) := goodIn_app (goodIn_of _ (by decide +kernel)) ggL_law_X5_removeMessage
set_option maxRecDepth 20000 in
theorem ggL_law_X6_removeMessage : GoodIn wsL_law wsX6_removeMessage := goodIn_r _ [262, 163, 263, 264, 265, 5, 266, 151, 152, 153, 245, 246, 247, 248, 77, 78, 79, 154, 155, 156, 157, 158, 159, 160, 161, 162, 164, 165, 166, 167, 70, 168, 169, 170, 171, 73, 542, 543, 544, 545, 546, 547, 548, 549, 550, 551, 552, 553, 554, 555, 556, 557, 558, 559, 560] (by decide +kernel) (by decide +kernel)
set_option maxRecDepth 20000 in
theorem gL_law_X6_removeMessage : GoodIn wsL_law (wsV RL 44 RX6 yX6_removeMessage wsX6_removeMessage) := goodIn_app (goodIn_of _ (by decide +kernel)) ggL_law_X6_removeMessage
set_option maxRecDepth 20000 in
theorem ggL_law_X5_setColor : GoodIn wsL_law wsX5_setColor := goodIn_r _ [270, 23, 253, 110, 111, 22, 112, 52, 113, 114, 115, 116, 117, 118, 119, 120, 121, 90, 2, 91, 229, 230, 231, 89, 100, 101, 102, 103, 27, 15, 31, 35, 104, 105, 106, 26, 107, 108, 109, 122, 123, 124, 125, 126, 127, 128, 129, 130, 131, 132, 133, 63, 64, 134, 135, 136, 18, 137, 46, 138, 139, 140, 141, 142, 93, 94, 14, 95, 41, 143, 144, 145, 146, 42, 530, 531, 532, 533, 534, 535, 536, 537, 538, 539, 540, 541, 570, 571, 572, 573, 565, 566, 567, 568, 569, 563, 564, 561, 562] (by decide +kernel) (by decide +kernel)
set_option maxRecDepth 20000 in
theorem gL_law_X5_setColor : GoodIn wsL_law (wsV RL 45 RX5 yX5_setColor wsX5_setColor) := goodIn_app (goodIn_of _ (by decide +kernel)) ggL_law_X5_setColor
set_option maxRecDepth 20000 in
theorem ggL_law_X6_setColor : GoodIn wsL_law wsX6_setColor := goodIn_r _ [274, 78, 263, 264, 265, 5, 266, 163, 151, 152, 153, 542, 543, 544, 545, 546, 547, 548, 549, 550, 551, 552, 553, 554, 555, 556, 557, 558, 559, 560] (by decide +kernel) (by decide +kernel)
set_option maxRecDepth 20000 in
theorem gL_law_X6_setColor : GoodIn wsL_law (wsV RL 48 RX6 yX6_setColor wsX6_setColor) := goodIn_app (goodIn_of _ (by decide +kernel)) ggL_law_X6_setColor
set_option maxRecDepth 20000 in
theorem ggL_law_X5_messageWidth : GoodIn wsL_law wsX5_messageWidth := goodIn_r _ [278, 23, 253, 110, 111, 22, 112, 52, 113, 114, 115, 116, 117, 118, 119, 120, 121, 90, 2, 91, 530, 531, 532, 533, 534, 535, 536, 537, 538, 539, 540, 541, 570, 571, 572, 573, 565, 566] (by decide +kernel) (by decide +kernel)
set_option maxRecDepth 20000 in
theorem gL_law_X5_messageWidth : GoodIn wsL_law (wsV RL 49 RX5 yX5_messageWidth wsX5_messageWidth) := goodIn_app (goodIn_of _ (by decide +kernel)) ggL_law_X5_messageWidth
set_option maxRecDepth 20000 in
theorem ggL_law_X6_messageWidth : GoodIn wsL_law wsX6_messageWidth := goodIn_r _ [282, 263, 264, 265, 5, 266, 163, 151, 152, 153, 168, 169, 170, 171, 77, 73, 79, 542, 543, 544, 545, 546, 547, 548, 549, 550, 551, 552, 553, 554, 555, 556, 557, 558, 559, 560] (by decide +kernel) (by decide +kernel)
set_option maxRecDepth 20000 in
theorem gL_law_X6_messageWidth : GoodIn wsL_law (wsV RL 52 RX6 yX6_messageWidth wsX6_messageWidth) := goodIn_app (goodIn_of _ (by decide +kernel)) ggL_law_X6_messageWidth
set_option maxRecDepth 20000 in
theorem ggL_law_X5_messageStart : GoodIn wsL_law wsX5_messageStart := goodIn_r _ [286, 23, 253, 110, 111, 22, 112, 52, 113, 114, 115, 116, 117, 118, 119, 120, 121, 90, 2, 91, 530, 531, 532, 533, 534, 535, 536, 537, 538, 539, 540, 541, 570, 571, 572, 573, 565, 566] (by decide +kernel) (by decide +kernel)
set_option maxRecDepth 20000 in
theorem gL_law_X5_messageStart : GoodIn wsL_law (wsV RL 53 RX5 yX5_messageStart wsX5_messageStart) := goodIn_app (goodIn_of _ (by decide +kernel)) ggL_law_X5_messageStart
set_option maxRecDepth 20000 in
theorem ggL_law_X6_messageStart : GoodIn wsL_law wsX6_messageStart := goodIn_r _ [290, 263, 264, 265, 5, 266, 163, 151, 152, 153, 164, 165, 166, 167, 70, 168, 169, 170, 171, 77, 73, 79, 542, 543, 544, 545, 546, 547, 548, 549, 550, 551, 552, 553, 554, 555, 556, 557, 558, 559, 560] (by decide +kernel) (by decide +kernel)
set_option maxRecDepth 20000 in
theorem gL_law_X6_messageStart : GoodIn wsL_law (wsV RL 56 RX6 yX6_messageStart wsX6_messageStart) := goodIn_app (goodIn_of _ (by decide +kernel)) ggL_law_X6_messageStart
set_option maxRecDepth 20000 in
theorem ggL_law_X5_setColumns : GoodIn wsL_law wsX5_setColumns := goodIn_r _ [294, 30, 29, 89, 90, 2, 91, 530, 531, 532, 533, 534, 535, 536, 537, 538, 539, 540, 541] (by decide +kernel) (by decide +kernel)
set_option maxRecDepth 20000 in
theorem gL_law_X5_setColumns : GoodIn wsL_law (wsV RL 57 RX5 yX5_setColumns wsX5_setColumns) := goodIn_app (goodIn_of _ (by decide +kernel)) ggL_law_X5_setColumns
set_option maxRecDepth 20000 in
theorem ggL_law_X6_setColumns : GoodIn wsL_law wsX6_setColumns := goodIn_r _ [298, 69, 75, 151, 152, 5, 153, 542, 543, 544, 545, 546, 547, 548, 549, 550, 551, 552, 553, 554, 555, 556, 557, 558, 559, 560] (by decide +kernel) (by decide +kernel)
set_option maxRecDepth 20000 in
theorem gL_law_X6_setColumns : GoodIn wsL_law (wsV RL 60 RX6 yX6_setColumns wsX6_setColumns) := goodIn_app (goodIn_of _ (by decide +kernel)) ggL_law_X6_setColumns
set_option maxRecDepth 20000 in
theorem ggL_law_X5_setGap : GoodIn wsL_law wsX5_setGap := goodIn_r _ [302, 31, 89, 90, 2, 91, 100, 101, 102, 103, 27, 23, 15, 35, 104, 105, 106, 26, 107, 108, 109, 110, 111, 22, 112, 52, 113, 114, 115, 116, 117, 118, 119, 120, 121, 122, 123, 124, 125, 126, 127, 128, 129, 130, 131, 132, 133, 63, 64, 134, 135, 136, 18, 137, 46, 138, 139, 140, 141, 142, 93, 94, 14, 95, 41, 143, 144, 145, 146, 42, 530, 531, 532, 533, 534, 535, 536, 537, 538, 539, 540, 541, 567, 568, 569, 565, 566, 570, 571, 572, 573, 563, 564, 561, 562] (by decide +kernel) (by decide +kernel)
set_option maxRecDepth 20000 in
theorem gL_law_X5_setGap : GoodIn wsL_law (wsV RL 61 RX5 yX5_setGap wsX5_setGap) := goodIn_app (goodIn_of _ (by decide +kernel)) ggL_law_X5_setGap
set_option maxRecDepth 20000 in
theorem ggL_law_X6_setGap : GoodIn wsL_law wsX6_setGap := goodIn_r _ [306, 70, 151, 152, 5, 153, 154, 155, 156, 157, 158, 159, 160, 161, 162, 163, 164, 165, 166, 167, 168, 169, 170, 171, 77, 73, 79, 542, 543, 544, 545, 546, 547, 548, 549, 550, 551, 552, 553, 554, 555, 556, 557, 558, 559, 560] (by decide +kernel) (by decide +kernel)
set_option maxRecDepth 20000 in
theorem gL_law_X6_setGap : GoodIn wsL_law (wsV RL 64 RX6 yX6_setGap wsX6_setGap) := goodIn_app (goodIn_of _ (by decide +kernel)) ggL_law_X6_setGap
set_option maxRecDepth 20000 in
theorem ggL_law_X5_setSpeed : GoodIn wsL_law wsX5_setSpeed := goodIn_r _ [310, 32, 36, 89, 90, 2, 91, 530, 531, 532, 533, 534, 535, 536, 537, 538, 539, 540, 541] (by decide +kernel) (by decide +kernel)
set_option maxRecDepth 20000 in
theorem gL_law_X5_setSpeed : GoodIn wsL_law (wsV RL 65 RX5 yX5_setSpeed wsX5_setSpeed) := goodIn_app (goodIn_of _ (by decide +kernel)) ggL_law_X5_setSpeed
set_option maxRecDepth 20000 in
theorem ggL_law_X6_setSpeed : GoodIn wsL_law wsX6_setSpeed := goodIn_r _ [314, 71, 315, 151, 152, 5, 153, 542, 543, 544, 545, 546, 547, 548, 549, 550, 551, 552, 553, 554, 555, 556, 557, 558, 559, 560] (by decide +kernel) (by decide +kernel)
set_option maxRecDepth 20000 in
theorem gL_law_X6_setSpeed : GoodIn wsL_law (wsV RL 68 RX6 yX6_setSpeed wsX6_setSpeed) := goodIn_app (goodIn_of _ (by decide +kernel)) ggL_law_X6_setSpeed
set_option maxRecDepth 20000 in
theorem ggL_law_X5_setShift : GoodIn wsL_law wsX5_setShift := goodIn_r _ [319, 33, 320, 321, 2, 322, 89, 90, 91, 530, 531, 532, 533, 534, 535, 536, 537, 538, 539, 540, 541] (by decide +kernel) (by decide +kernel)
set_option maxRecDepth 20000 in
theorem gL_law_X5_setShift : GoodIn wsL_law (wsV RL 69 RX5 yX5_setShift wsX5_setShift) := goodIn_app (goodIn_of _ (by decide +kernel)) ggL_law_X5_setShift
set_option maxRecDepth 20000 in
theorem ggL_law_X6_setShift : GoodIn wsL_law wsX6_setShift := goodIn_r _ [326, 327, 151, 152, 5, 153, 542, 543, 544, 545, 546, 547, 548, 549, 550, 551, 552, 553, 554, 555, 556, 557, 558, 559, 560] (by decide +kernel) (by decide +kernel)
set_option maxRecDepth 20000 in
theorem gL_law_X6_setShift : GoodIn wsL_law (wsV RL 72 RX6 yX6_setShift wsX6_setShift) := goodIn_app (goodIn_of _ (by decide +kernel)) ggL_law_X6_setShift
set_option maxRecDepth 20000 in
theorem ggL_law_X5_setBudget : GoodIn wsL_law wsX5_setBudget := goodIn_r _ [331, 34, 89, 90, 2, 91, 530, 531, 532, 533, 534, 535, 536, 537, 538, 539, 540, 541] (by decide +kernel) (by decide +kernel)
set_option maxRecDepth 20000 in
theorem gL_law_X5_setBudget : GoodIn wsL_law (wsV RL 73 RX5 yX5_setBudget wsX5_setBudget) := goodIn_app (goodIn_of _ (by decide +kernel)) ggL_law_X5_setBudget
set_option maxRecDepth 20000 in
theorem ggL_law_X6_setBudget : GoodIn wsL_law wsX6_setBudget := goodIn_r _ [335, 72, 151, 152, 5, 153, 542, 543, 544, 545, 546, 547, 548, 549, 550, 551, 552, 553, 554, 555, 556, 557, 558, 559, 560] (by decide +kernel) (by decide +kernel)
set_option maxRecDepth 20000 in
theorem gL_law_X6_setBudget : GoodIn wsL_law (wsV RL 76 RX6 yX6_setBudget wsX6_setBudget) := goodIn_app (goodIn_of _ (by decide +kernel)) ggL_law_X6_setBudget
set_option maxRecDepth 20000 in
theorem ggL_law_X5_setDefective : GoodIn wsL_law wsX5_setDefective := goodIn_r _ [339, 340, 341, 342, 2, 343, 30, 89, 90, 91, 344, 345, 346, 347, 348, 349, 350, 351, 29, 352, 353, 354, 355, 356, 357, 358, 359, 360, 361, 362, 363, 364, 365, 366, 530, 531, 532, 533, 534, 535, 536, 537, 538, 539, 540, 541] (by decide +kernel) (by decide +kernel)
set_option maxRecDepth 20000 in
theorem gL_law_X5_setDefective : GoodIn wsL_law (wsV RL 77 RX5 yX5_setDefective wsX5_setDefective) := goodIn_app (goodIn_of _ (by decide +kernel)) ggL_law_X5_setDefective
set_option maxRecDepth 20000 in
theorem ggL_law_X6_setDefective : GoodIn wsL_law wsX6_setDefective := goodIn_r _ [370, 69, 75, 151, 152, 5, 153, 371, 372, 373, 542, 543, 544, 545, 546, 547, 548, 549, 550, 551, 552, 553, 554, 555, 556, 557, 558, 559, 560] (by decide +kernel) (by decide +kernel)
set_option maxRecDepth 20000 in
theorem gL_law_X6_setDefective : GoodIn wsL_law (wsV RL 81 RX6 yX6_setDefective wsX6_setDefective) := goodIn_app (goodIn_of _ (by decide +kernel)) ggL_law_X6_setDefective
set_option maxRecDepth 20000 in
theorem ggL_law_X5_tick : GoodIn wsL_law wsX5_tick := goodIn_r _ [377, 32, 36, 27, 35, 89, 90, 2, 91, 378, 379, 380, 26, 381, 108, 382, 383, 384, 385, 530, 531, 532, 533, 534, 535, 536, 537, 538, 539, 540, 541, 567, 568, 569] (by decide +kernel) (by decide +kernel)
set_option maxRecDepth 20000 in
theorem gL_law_X5_tick : GoodIn wsL_law (wsV RL 82 RX5 yX5_tick wsX5_tick) := goodIn_app (goodIn_of _ (by decide +kernel)) ggL_law_X5_tick
set_option maxRecDepth 20000 in
theorem ggL_law_X6_tick : GoodIn wsL_law wsX6_tick := goodIn_r _ [389, 315, 71, 158, 151, 152, 5, 153, 159, 160, 161, 162, 163, 164, 165, 166, 167, 70, 168, 169, 170, 171, 77, 73, 79, 542, 543, 544, 545, 546, 547, 548, 549, 550, 551, 552, 553, 554, 555, 556, 557, 558, 559, 560] (by decide +kernel) (by decide +kernel)
set_option maxRecDepth 20000 in
theorem gL_law_X6_tick : GoodIn wsL_law (wsV RL 85 RX6 yX6_tick wsX6_tick) := goodIn_app (goodIn_of _ (by decide +kernel)) ggL_law_X6_tick
set_option maxRecDepth 20000 in
theorem ggL_law_X5_offset : GoodIn wsL_law wsX5_offset := goodIn_r _ [393, 35, 530, 531, 532, 533, 534, 535, 536, 537, 538, 539, 540, 541] (by decide +kernel) (by decide +kernel)
set_option maxRecDepth 20000 in
theorem gL_law_X5_offset : GoodIn wsL_law (wsV RL 86 RX5 yX5_offset wsX5_offset) := goodIn_app (goodIn_of _ (by decide +kernel)) ggL_law_X5_offset
set_option maxRecDepth 20000 in
theorem ggL_law_X6_offset : GoodIn wsL_law wsX6_offset := goodIn_r _ [397, 158, 542, 543, 544, 545, 546, 547, 548, 549, 550, 551, 552, 553, 554, 555, 556, 557, 558, 559, 560] (by decide +kernel) (by decide +kernel)
set_option maxRecDepth 20000 in
theorem gL_law_X6_offset : GoodIn wsL_law (wsV RL 89 RX6 yX6_offset wsX6_offset) := goodIn_app (goodIn_of _ (by decide +kernel)) ggL_law_X6_offset
set_option maxRecDepth 20000 in
theorem ggL_law_X5_stripLength : GoodIn wsL_law wsX5_stripLength := goodIn_r _ [401, 27, 530, 531, 532, 533, 534, 535, 536, 537, 538, 539, 540, 541, 567, 568, 569] (by decide +kernel) (by decide +kernel)
set_option maxRecDepth 20000 in
theorem gL_law_X5_stripLength : GoodIn wsL_law (wsV RL 90 RX5 yX5_stripLength wsX5_stripLength) := goodIn_app (goodIn_of _ (by decide +kernel)) ggL_law_X5_stripLength
set_option maxRecDepth 20000 in
theorem ggL_law_X6_stripLength : GoodIn wsL_law wsX6_stripLength := goodIn_r _ [405, 159, 160, 161, 5, 162, 163, 164, 165, 166, 167, 70, 168, 169, 170, 171, 77, 73, 79, 542, 543, 544, 545, 546, 547, 548, 549, 550, 551, 552, 553, 554, 555, 556, 557, 558, 559, 560] (by decide +kernel) (by decide +kernel)
set_option maxRecDepth 20000 in
theorem gL_law_X6_stripLength : GoodIn wsL_law (wsV RL 93 RX6 yX6_stripLength wsX6_stripLength) := goodIn_app (goodIn_of _ (by decide +kernel)) ggL_law_X6_stripLength
set_option maxRecDepth 20000 in
theorem ggL_law_X5_period : GoodIn wsL_law wsX5_period := goodIn_r _ [409, 27, 32, 530, 531, 532, 533, 534, 535, 536, 537, 538, 539, 540, 541, 567, 568, 569] (by decide +kernel) (by decide +kernel)
set_option maxRecDepth 20000 in
theorem gL_law_X5_period : GoodIn wsL_law (wsV RL 94 RX5 yX5_period wsX5_period) := goodIn_app (goodIn_of _ (by decide +kernel)) ggL_law_X5_period
set_option maxRecDepth 20000 in
theorem ggL_law_X6_period : GoodIn wsL_law wsX6_period := goodIn_r _ [413, 71, 159, 160, 161, 5, 162, 163, 164, 165, 166, 167, 70, 168, 169, 170, 171, 77, 73, 79, 542, 543, 544, 545, 546, 547, 548, 549, 550, 551, 552, 553, 554, 555, 556, 557, 558, 559, 560] (by decide +kernel) (by decide +kernel)
set_option maxRecDepth 20000 in
theorem gL_law_X6_period : GoodIn wsL_law (wsV RL 97 RX6 yX6_period wsX6_period) := goodIn_app (goodIn_of _ (by decide +kernel)) ggL_law_X6_period
set_option maxRecDepth 20000 in
theorem ggL_law_X5_ticksUntilWhole : GoodIn wsL_law wsX5_ticksUntilWhole := goodIn_r _ [417, 23, 30, 27, 35, 32, 36, 253, 110, 111, 22, 112, 52, 113, 114, 115, 116, 117, 118, 119, 120, 121, 90, 2, 91, 378, 379, 380, 26, 381, 108, 382, 383, 384, 385, 530, 531, 532, 533, 534, 535, 536, 537, 538, 539, 540, 541, 570, 571, 572, 573, 565, 566, 567, 568, 569] (by decide +kernel) (by decide +kernel)
set_option maxRecDepth 20000 in
theorem gL_law_X5_ticksUntilWhole : GoodIn wsL_law (wsV RL 98 RX5 yX5_ticksUntilWhole wsX5_ticksUntilWhole) := goodIn_app (goodIn_of _ (by decide +kernel)) ggL_law_X5_ticksUntilWhole
set_option maxRecDepth 20000 in
theorem ggL_law_X6_ticksUntilWhole : GoodIn wsL_law wsX6_ticksUntilWhole := goodIn_r _ [421, 69, 158, 71, 315, 263, 264, 265, 5, 266, 163, 151, 152, 153, 168, 169, 170, 171, 77, 73, 79, 159, 160, 161, 162, 164, 165, 166, 167, 70, 542, 543, 544, 545, 546, 547, 548, 549, 550, 551, 552, 553, 554, 555, 556, 557, 558, 559, 560] (by decide +kernel) (by decide +kernel)
set_option maxRecDepth 20000 in
theorem gL_law_X6_ticksUntilWhole : GoodIn wsL_law (wsV RL 101 RX6 yX6_ticksUntilWhole wsX6_ticksUntilWhole) := goodIn_app (goodIn_of _ (by decide +kernel)) ggL_law_X6_ticksUntilWhole
set_option maxRecDepth 20000 in
theorem ggL_law_X5_pixel : GoodIn wsL_law wsX5_pixel := goodIn_r _ [425, 35, 27, 340, 341, 342, 2, 343, 30, 89, 90, 91, 426, 427, 428, 429, 33, 430, 431, 432, 26, 433, 108, 63, 434, 379, 380, 381, 382, 383, 384, 385, 435, 436, 437, 348, 349, 350, 351, 29, 438, 439, 440, 441, 64, 530, 531, 532, 533, 534, 535, 536, 537, 538, 539, 540, 541, 567, 568, 569] (by decide +kernel) (by decide +kernel)
set_option maxRecDepth 20000 in
theorem gL_law_X5_pixel : GoodIn wsL_law (wsV RL 102 RX5 yX5_pixel wsX5_pixel) := goodIn_app (goodIn_of _ (by decide +kernel)) ggL_law_X5_pixel
set_option maxRecDepth 20000 in
theorem ggL_law_X6_pixel : GoodIn wsL_law wsX6_pixel := goodIn_r _ [445, 69, 75, 158, 151, 152, 5, 153, 446, 447, 448, 449, 450, 163, 77, 79, 73, 80, 74, 81, 78, 70, 451, 452, 453, 454, 371, 372, 373, 455, 456, 457, 458, 327, 542, 543, 544, 545, 546, 547, 548, 549, 550, 551, 552, 553, 554, 555, 556, 557, 558, 559, 560] (by decide +kernel) (by decide +kernel)
set_option maxRecDepth 20000 in
theorem gL_law_X6_pixel : GoodIn wsL_law (wsV RL 105 RX6 yX6_pixel wsX6_pixel) := goodIn_app (goodIn_of _ (by decide +kernel)) ggL_law_X6_pixel
set_option maxRecDepth 20000 in
theorem ggL_law_X5_load : GoodIn wsL_law wsX5_load := goodIn_r _ [462, 35, 463, 464, 465, 2, 466, 30, 27, 438, 439, 440, 26, 441, 108, 64, 434, 379, 380, 381, 382, 383, 384, 385, 426, 427, 428, 429, 33, 430, 431, 432, 433, 63, 435, 436, 437, 348, 349, 350, 351, 29, 89, 90, 91, 360, 361, 362, 363, 364, 365, 366, 530, 531, 532, 533, 534, 535, 536, 537, 538, 539, 540, 541, 567, 568, 569] (by decide +kernel) (by decide +kernel)
set_option maxRecDepth 20000 in
theorem gL_law_X5_load : GoodIn wsL_law (wsV RL 106 RX5 yX5_load wsX5_load) := goodIn_app (goodIn_of _ (by decide +kernel)) ggL_law_X5_load
set_option maxRecDepth 20000 in
theorem ggL_law_X6_load : GoodIn wsL_law wsX6_load := goodIn_r _ [470, 158, 446, 447, 448, 5, 449, 450, 163, 77, 79, 73, 80, 74, 81, 78, 70, 451, 452, 453, 454, 471, 472, 473, 474, 69, 75, 371, 372, 373, 455, 456, 457, 458, 327, 542, 543, 544, 545, 546, 547, 548, 549, 550, 551, 552, 553, 554, 555, 556, 557, 558, 559, 560] (by decide +kernel) (by decide +kernel)
set_option maxRecDepth 20000 in
theorem gL_law_X6_load : GoodIn wsL_law (wsV RL 109 RX6 yX6_load wsX6_load) := goodIn_app (goodIn_of _ (by decide +kernel)) ggL_law_X6_load
set_option maxRecDepth 20000 in
theorem ggL_law_X5_brightness : GoodIn wsL_law wsX5_brightness := goodIn_r _ [478, 35, 34, 463, 464, 465, 2, 466, 30, 27, 438, 439, 440, 26, 441, 108, 64, 434, 379, 380, 381, 382, 383, 384, 385, 426, 427, 428, 429, 33, 430, 431, 432, 433, 63, 435, 436, 437, 348, 349, 350, 351, 29, 89, 90, 91, 360, 361, 362, 363, 364, 365, 366, 530, 531, 532, 533, 534, 535, 536, 537, 538, 539, 540, 541, 567, 568, 569] (by decide +kernel) (by decide +kernel)
set_option maxRecDepth 20000 in
theorem gL_law_X5_brightness : GoodIn wsL_law (wsV RL 110 RX5 yX5_brightness wsX5_brightness) := goodIn_app (goodIn_of _ (by decide +kernel)) ggL_law_X5_brightness
set_option maxRecDepth 20000 in
theorem ggL_law_X6_brightness : GoodIn wsL_law wsX6_brightness := goodIn_r _ [482, 72, 483, 468, 469, 5, 470, 158, 446, 447, 448, 449, 450, 163, 77, 79, 73, 80, 74, 81, 78, 70, 451, 452, 453, 454, 471, 472, 473, 474, 69, 75, 371, 372, 373, 455, 456, 457, 458, 327, 542, 543, 544, 545, 546, 547, 548, 549, 550, 551, 552, 553, 554, 555, 556, 557, 558, 559, 560] (by decide +kernel) (by decide +kernel)
set_option maxRecDepth 20000 in
theorem gL_law_X6_brightness : GoodIn wsL_law (wsV RL 113 RX6 yX6_brightness wsX6_brightness) := goodIn_app (goodIn_of _ (by decide +kernel)) ggL_law_X6_brightness
set_option maxRecDepth 20000 in
theorem ggL_law_X5_peakLoad : GoodIn wsL_law wsX5_peakLoad := goodIn_r _ [487, 488, 489, 490, 2, 491, 27, 463, 464, 465, 466, 30, 438, 439, 440, 26, 441, 108, 64, 434, 379, 380, 381, 382, 383, 384, 385, 426, 427, 428, 429, 33, 430, 431, 432, 433, 63, 435, 436, 437, 348, 349, 350, 351, 29, 89, 90, 91, 360, 361, 362, 363, 364, 365, 366, 530, 531, 532, 533, 534, 535, 536, 537, 538, 539, 540, 541, 567, 568, 569] (by decide +kernel) (by decide +kernel)
