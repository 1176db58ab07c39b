set_option maxRecDepth 20000 in
theorem ggX10_init_X2_init : GoodIn wsX10_init wsX2_init := goodIn_r _ [38, 39, 2, 3, 40, 41, 42, 43, 44, 45, 46, 47, 48, 49, 50, 51, 52, 53, 54, 92, 93, 94, 95, 96, 97, 98, 99, 129, 130, 131] (by decide +kernel) (by decide +kernel)
set_option maxRecDepth 20000 in
theorem gX10_init_X2_init : GoodIn wsX10_init (wsX2_init) := ggX10_init_X2_init
set_option maxRecDepth 20000 in
theorem ggX10_init_X4_init : GoodIn wsX10_init wsX4_init := goodIn_r _ [57, 58, 2, 3, 40, 59, 110, 111] (by decide +kernel) (by decide +kernel)
set_option maxRecDepth 20000 in
theorem gX10_init_X4_init : GoodIn wsX10_init (wsX4_init) := ggX10_init_X4_init
set_option maxRecDepth 20000 in
theorem ggX10_init_X9_init : GoodIn wsX10_init wsX9_init := goodIn_r _ [62, 63, 2, 3, 64, 5, 6, 65, 40, 66, 67, 37, 38, 39, 41, 42, 43, 44, 45, 46, 47, 48, 49, 50, 51, 52, 53, 54, 92, 93, 94, 95, 96, 97, 98, 99, 112, 113, 114, 115, 116, 117, 129, 130, 131] (by decide +kernel) (by decide +kernel)
set_option maxRecDepth 20000 in
theorem gX10_init_X9_init : GoodIn wsX10_init (wsX9_init) := ggX10_init_X9_init
set_option maxRecDepth 20000 in
theorem ggX10_init_X7_init : GoodIn wsX10_init wsX7_init := goodIn_r _ [70, 71, 2, 3, 40, 72, 73, 74, 118, 119, 120] (by decide +kernel) (by decide +kernel)
set_option maxRecDepth 20000 in
theorem gX10_init_X7_init : GoodIn wsX10_init (wsX7_init) := ggX10_init_X7_init
set_option maxRecDepth 20000 in
theorem ggX10_init_X0_init : GoodIn wsX10_init wsX0_init := goodIn_r _ [77, 78, 2, 3, 40, 79, 121, 122, 123] (by decide +kernel) (by decide +kernel)
set_option maxRecDepth 20000 in
theorem gX10_init_X0_init : GoodIn wsX10_init (wsX0_init) := ggX10_init_X0_init
set_option maxRecDepth 20000 in
theorem ggX10_init_X6_init : GoodIn wsX10_init wsX6_init := goodIn_r _ [82, 83, 2, 3, 10, 84, 124] (by decide +kernel) (by decide +kernel)
set_option maxRecDepth 20000 in
theorem gX10_init_X6_init : GoodIn wsX10_init (wsX6_init) := ggX10_init_X6_init
set_option maxRecDepth 20000 in
theorem ggX10_init_X8_init : GoodIn wsX10_init wsX8_init := goodIn_r _ [87, 88, 2, 3, 89, 90, 91, 125, 126, 127, 128] (by decide +kernel) (by decide +kernel)
set_option maxRecDepth 20000 in
theorem gX10_init_X8_init : GoodIn wsX10_init (wsX8_init) := ggX10_init_X8_init
theorem dX10_init_0 : decode cX10_init 0 = .ok (.aload_n 0, 1) := by decide +kernel
theorem dX10_init_1 : decode cX10_init 1 = .ok (.invokespecial 1, 3) := by decide +kernel
theorem dX10_init_4 : decode cX10_init 4 = .ok (.aload_n 0, 1) := by decide +kernel
theorem dX10_init_5 : decode cX10_init 5 = .ok (.new 7, 3) := by decide +kernel
theorem dX10_init_8 : decode cX10_init 8 = .ok (.dup, 1) := by decide +kernel
theorem dX10_init_9 : decode cX10_init 9 = .ok (.invokespecial 9, 3) := by decide +kernel
theorem dX10_init_12 : decode cX10_init 12 = .ok (.putfield 10, 3) := by decide +kernel
theorem dX10_init_15 : decode cX10_init 15 = .ok (.aload_n 0, 1) := by decide +kernel
theorem dX10_init_16 : decode cX10_init 16 = .ok (.new 7, 3) := by decide +kernel
theorem dX10_init_19 : decode cX10_init 19 = .ok (.dup, 1) := by decide +kernel
theorem dX10_init_20 : decode cX10_init 20 = .ok (.invokespecial 9, 3) := by decide +kernel
theorem dX10_init_23 : decode cX10_init 23 = .ok (.putfield 16, 3) := by decide +kernel
theorem dX10_init_26 : decode cX10_init 26 = .ok (.aload_n 0, 1) := by decide +kernel
theorem dX10_init_27 : decode cX10_init 27 = .ok (.new 7, 3) := by decide +kernel
theorem dX10_init_30 : decode cX10_init 30 = .ok (.dup, 1) := by decide +kernel
theorem dX10_init_31 : decode cX10_init 31 = .ok (.invokespecial 9, 3) := by decide +kernel
theorem dX10_init_34 : decode cX10_init 34 = .ok (.putfield 19, 3) := by decide +kernel
theorem dX10_init_37 : decode cX10_init 37 = .ok (.aload_n 0, 1) := by decide +kernel
theorem dX10_init_38 : decode cX10_init 38 = .ok (.iconst 2, 1) := by decide +kernel
theorem dX10_init_39 : decode cX10_init 39 = .ok (.newarray .boolean, 2) := by decide +kernel
theorem dX10_init_41 : decode cX10_init 41 = .ok (.putfield 22, 3) := by decide +kernel
theorem dX10_init_44 : decode cX10_init 44 = .ok (.aload_n 0, 1) := by decide +kernel
theorem dX10_init_45 : decode cX10_init 45 = .ok (.new 26, 3) := by decide +kernel
theorem dX10_init_48 : decode cX10_init 48 = .ok (.dup, 1) := by decide +kernel
theorem dX10_init_49 : decode cX10_init 49 = .ok (.invokespecial 28, 3) := by decide +kernel
theorem dX10_init_52 : decode cX10_init 52 = .ok (.putfield 29, 3) := by decide +kernel
theorem dX10_init_55 : decode cX10_init 55 = .ok (.aload_n 0, 1) := by decide +kernel
theorem dX10_init_56 : decode cX10_init 56 = .ok (.new 33, 3) := by decide +kernel
theorem dX10_init_59 : decode cX10_init 59 = .ok (.dup, 1) := by decide +kernel
theorem dX10_init_60 : decode cX10_init 60 = .ok (.invokespecial 35, 3) := by decide +kernel
theorem dX10_init_63 : decode cX10_init 63 = .ok (.putfield 36, 3) := by decide +kernel
theorem dX10_init_66 : decode cX10_init 66 = .ok (.aload_n 0, 1) := by decide +kernel
theorem dX10_init_67 : decode cX10_init 67 = .ok (.new 40, 3) := by decide +kernel
theorem dX10_init_70 : decode cX10_init 70 = .ok (.dup, 1) := by decide +kernel
theorem dX10_init_71 : decode cX10_init 71 = .ok (.invokespecial 42, 3) := by decide +kernel
theorem dX10_init_74 : decode cX10_init 74 = .ok (.putfield 43, 3) := by decide +kernel
theorem dX10_init_77 : decode cX10_init 77 = .ok (.aload_n 0, 1) := by decide +kernel
theorem dX10_init_78 : decode cX10_init 78 = .ok (.new 47, 3) := by decide +kernel
theorem dX10_init_81 : decode cX10_init 81 = .ok (.dup, 1) := by decide +kernel
theorem dX10_init_82 : decode cX10_init 82 = .ok (.invokespecial 49, 3) := by decide +kernel
theorem dX10_init_85 : decode cX10_init 85 = .ok (.putfield 50, 3) := by decide +kernel
theorem dX10_init_88 : decode cX10_init 88 = .ok (.aload_n 0, 1) := by decide +kernel
theorem dX10_init_89 : decode cX10_init 89 = .ok (.new 54, 3) := by decide +kernel
theorem dX10_init_92 : decode cX10_init 92 = .ok (.dup, 1) := by decide +kernel
theorem dX10_init_93 : decode cX10_init 93 = .ok (.invokespecial 56, 3) := by decide +kernel
theorem dX10_init_96 : decode cX10_init 96 = .ok (.putfield 57, 3) := by decide +kernel
theorem dX10_init_99 : decode cX10_init 99 = .ok (.aload_n 0, 1) := by decide +kernel
theorem dX10_init_100 : decode cX10_init 100 = .ok (.new 61, 3) := by decide +kernel
theorem dX10_init_103 : decode cX10_init 103 = .ok (.dup, 1) := by decide +kernel
theorem dX10_init_104 : decode cX10_init 104 = .ok (.invokespecial 63, 3) := by decide +kernel
theorem dX10_init_107 : decode cX10_init 107 = .ok (.putfield 64, 3) := by decide +kernel
theorem dX10_init_110 : decode cX10_init 110 = .ok (.return_, 1) := by decide +kernel
set_option maxRecDepth 20000 in
theorem ggX10_one_X10_isWithin : GoodIn wsX10_one wsX10_isWithin := goodIn_r _ [5] (by decide +kernel) (by decide +kernel)
set_option maxRecDepth 20000 in
theorem gX10_one_X10_isWithin : GoodIn wsX10_one (va_wsS RX10 68 yX10_isWithin wsX10_isWithin) := goodIn_app (goodIn_of _ (by decide +kernel)) ggX10_one_X10_isWithin
set_option maxRecDepth 20000 in
theorem ggX10_one_X2_settle : GoodIn wsX10_one wsX2_settle := goodIn_r _ [10, 11, 12, 13, 14, 15, 16, 9, 17, 18, 19, 20, 21, 22, 23, 24, 25, 26, 48, 49, 50, 51, 52, 53, 54, 55] (by decide +kernel) (by decide +kernel)
set_option maxRecDepth 20000 in
theorem gX10_one_X2_settle : GoodIn wsX10_one (wsV RX10 72 RX2 yX2_settle wsX2_settle) := goodIn_app (goodIn_of _ (by decide +kernel)) ggX10_one_X2_settle
set_option maxRecDepth 20000 in
theorem ggX10_one_X2_heads : GoodIn wsX10_one wsX2_heads := goodIn_r _ [30, 11, 31, 32, 33, 34, 35, 36, 37, 48, 49, 50, 51, 52, 53, 54, 55] (by decide +kernel) (by decide +kernel)
set_option maxRecDepth 20000 in
theorem gX10_one_X2_heads : GoodIn wsX10_one (wsV RX10 76 RX2 yX2_heads wsX2_heads) := goodIn_app (goodIn_of _ (by decide +kernel)) ggX10_one_X2_heads
theorem dX10_one_0 : decode cX10_one 0 = .ok (.iload_n 1, 1) := by decide +kernel
theorem dX10_one_1 : decode cX10_one 1 = .ok (.iconst 0, 1) := by decide +kernel
theorem dX10_one_2 : decode cX10_one 2 = .ok (.bipush 8, 2) := by decide +kernel
theorem dX10_one_4 : decode cX10_one 4 = .ok (.invokestatic 68, 3) := by decide +kernel
theorem dX10_one_7 : decode cX10_one 7 = .ok (.ifCond .ne 5, 3) := by decide +kernel
theorem dX10_one_10 : decode cX10_one 10 = .ok (.iconst (-1), 1) := by decide +kernel
theorem dX10_one_11 : decode cX10_one 11 = .ok (.ireturn, 1) := by decide +kernel
theorem dX10_one_12 : decode cX10_one 12 = .ok (.iload_n 2, 1) := by decide +kernel
theorem dX10_one_13 : decode cX10_one 13 = .ok (.iconst 0, 1) := by decide +kernel
theorem dX10_one_14 : decode cX10_one 14 = .ok (.sipush 179, 3) := by decide +kernel
theorem dX10_one_17 : decode cX10_one 17 = .ok (.invokestatic 68, 3) := by decide +kernel
theorem dX10_one_20 : decode cX10_one 20 = .ok (.ifCond .eq 14, 3) := by decide +kernel
theorem dX10_one_23 : decode cX10_one 23 = .ok (.iload_n 3, 1) := by decide +kernel
theorem dX10_one_24 : decode cX10_one 24 = .ok (.bipush (-9), 2) := by decide +kernel
theorem dX10_one_26 : decode cX10_one 26 = .ok (.bipush 9, 2) := by decide +kernel
theorem dX10_one_28 : decode cX10_one 28 = .ok (.invokestatic 68, 3) := by decide +kernel
theorem dX10_one_31 : decode cX10_one 31 = .ok (.ifCond .ne 6, 3) := by decide +kernel
theorem dX10_one_34 : decode cX10_one 34 = .ok (.bipush (-2), 2) := by decide +kernel
theorem dX10_one_36 : decode cX10_one 36 = .ok (.ireturn, 1) := by decide +kernel
theorem dX10_one_37 : decode cX10_one 37 = .ok (.aload_n 0, 1) := by decide +kernel
theorem dX10_one_38 : decode cX10_one 38 = .ok (.getfield 10, 3) := by decide +kernel
theorem dX10_one_41 : decode cX10_one 41 = .ok (.iload_n 1, 1) := by decide +kernel
theorem dX10_one_42 : decode cX10_one 42 = .ok (.iload_n 2, 1) := by decide +kernel
theorem dX10_one_43 : decode cX10_one 43 = .ok (.iload_n 3, 1) := by decide +kernel
theorem dX10_one_44 : decode cX10_one 44 = .ok (.invokevirtual 72, 3) := by decide +kernel
theorem dX10_one_47 : decode cX10_one 47 = .ok (.aload_n 0, 1) := by decide +kernel
theorem dX10_one_48 : decode cX10_one 48 = .ok (.getfield 10, 3) := by decide +kernel
theorem dX10_one_51 : decode cX10_one 51 = .ok (.invokevirtual 76, 3) := by decide +kernel
theorem dX10_one_54 : decode cX10_one 54 = .ok (.ireturn, 1) := by decide +kernel
set_option maxRecDepth 20000 in
theorem ggX10_pair_X2_isThere : GoodIn wsX10_pair wsX2_isThere := goodIn_r _ [6, 7, 37, 38, 39, 40, 41, 42, 43, 44] (by decide +kernel) (by decide +kernel)
set_option maxRecDepth 20000 in
theorem gX10_pair_X2_isThere : GoodIn wsX10_pair (wsV RX10 80 RX2 yX2_isThere wsX2_isThere) := goodIn_app (goodIn_of _ (by decide +kernel)) ggX10_pair_X2_isThere
set_option maxRecDepth 20000 in
theorem ggX10_pair_X2_mateOf : GoodIn wsX10_pair wsX2_mateOf := goodIn_r _ [11, 12, 13, 3, 4, 5, 6, 7, 37, 38, 39, 40, 41, 42, 43, 44] (by decide +kernel) (by decide +kernel)
set_option maxRecDepth 20000 in
theorem gX10_pair_X2_mateOf : GoodIn wsX10_pair (wsV RX10 84 RX2 yX2_mateOf wsX2_mateOf) := goodIn_app (goodIn_of _ (by decide +kernel)) ggX10_pair_X2_mateOf
set_option maxRecDepth 20000 in
theorem ggX10_pair_X2_seat : GoodIn wsX10_pair wsX2_seat := goodIn_r _ [17, 12, 13, 3, 4, 5, 6, 7, 37, 38, 39, 40, 41, 42, 43, 44] (by decide +kernel) (by decide +kernel)
set_option maxRecDepth 20000 in
theorem gX10_pair_X2_seat : GoodIn wsX10_pair (wsV RX10 88 RX2 yX2_seat wsX2_seat) := goodIn_app (goodIn_of _ (by decide +kernel)) ggX10_pair_X2_seat
set_option maxRecDepth 20000 in
theorem ggX10_pair_X2_separate : GoodIn wsX10_pair wsX2_separate := goodIn_r _ [21, 12, 22, 9, 10, 5, 11, 13, 3, 4, 6, 7, 37, 38, 39, 40, 41, 42, 43, 44] (by decide +kernel) (by decide +kernel)
set_option maxRecDepth 20000 in
theorem gX10_pair_X2_separate : GoodIn wsX10_pair (wsV RX10 92 RX2 yX2_separate wsX2_separate) := goodIn_app (goodIn_of _ (by decide +kernel)) ggX10_pair_X2_separate
set_option maxRecDepth 20000 in
theorem ggX10_pair_X2_pairsSitting : GoodIn wsX10_pair wsX2_pairsSitting := goodIn_r _ [26, 22, 9, 10, 5, 11, 12, 13, 3, 4, 6, 7, 37, 38, 39, 40, 41, 42, 43, 44] (by decide +kernel) (by decide +kernel)
set_option maxRecDepth 20000 in
theorem gX10_pair_X2_pairsSitting : GoodIn wsX10_pair (wsV RX10 96 RX2 yX2_pairsSitting wsX2_pairsSitting) := goodIn_app (goodIn_of _ (by decide +kernel)) ggX10_pair_X2_pairsSitting
theorem dX10_pair_0 : decode cX10_pair 0 = .ok (.aload_n 0, 1) := by decide +kernel
theorem dX10_pair_1 : decode cX10_pair 1 = .ok (.getfield 10, 3) := by decide +kernel
theorem dX10_pair_4 : decode cX10_pair 4 = .ok (.iload_n 1, 1) := by decide +kernel
theorem dX10_pair_5 : decode cX10_pair 5 = .ok (.invokevirtual 80, 3) := by decide +kernel
theorem dX10_pair_8 : decode cX10_pair 8 = .ok (.ifCond .eq 19, 3) := by decide +kernel
theorem dX10_pair_11 : decode cX10_pair 11 = .ok (.aload_n 0, 1) := by decide +kernel
theorem dX10_pair_12 : decode cX10_pair 12 = .ok (.getfield 10, 3) := by decide +kernel
theorem dX10_pair_15 : decode cX10_pair 15 = .ok (.iload_n 2, 1) := by decide +kernel
theorem dX10_pair_16 : decode cX10_pair 16 = .ok (.invokevirtual 80, 3) := by decide +kernel
theorem dX10_pair_19 : decode cX10_pair 19 = .ok (.ifCond .eq 8, 3) := by decide +kernel
theorem dX10_pair_22 : decode cX10_pair 22 = .ok (.iload_n 1, 1) := by decide +kernel
theorem dX10_pair_23 : decode cX10_pair 23 = .ok (.iload_n 2, 1) := by decide +kernel
theorem dX10_pair_24 : decode cX10_pair 24 = .ok (.if_icmp .ne 5, 3) := by decide +kernel
theorem dX10_pair_27 : decode cX10_pair 27 = .ok (.iconst (-1), 1) := by decide +kernel
theorem dX10_pair_28 : decode cX10_pair 28 = .ok (.ireturn, 1) := by decide +kernel
theorem dX10_pair_29 : decode cX10_pair 29 = .ok (.iload_n 3, 1) := by decide +kernel
theorem dX10_pair_30 : decode cX10_pair 30 = .ok (.ifCond .eq 44, 3) := by decide +kernel
theorem dX10_pair_33 : decode cX10_pair 33 = .ok (.aload_n 0, 1) := by decide +kernel
theorem dX10_pair_34 : decode cX10_pair 34 = .ok (.getfield 10, 3) := by decide +kernel
theorem dX10_pair_37 : decode cX10_pair 37 = .ok (.iload_n 1, 1) := by decide +kernel
theorem dX10_pair_38 : decode cX10_pair 38 = .ok (.invokevirtual 84, 3) := by decide +kernel
theorem dX10_pair_41 : decode cX10_pair 41 = .ok (.bipush (-6), 2) := by decide +kernel
theorem dX10_pair_43 : decode cX10_pair 43 = .ok (.if_icmp .ne 16, 3) := by decide +kernel
theorem dX10_pair_46 : decode cX10_pair 46 = .ok (.aload_n 0, 1) := by decide +kernel
theorem dX10_pair_47 : decode cX10_pair 47 = .ok (.getfield 10, 3) := by decide +kernel
theorem dX10_pair_50 : decode cX10_pair 50 = .ok (.iload_n 2, 1) := by decide +kernel
theorem dX10_pair_51 : decode cX10_pair 51 = .ok (.invokevirtual 84, 3) := by decide +kernel
theorem dX10_pair_54 : decode cX10_pair 54 = .ok (.bipush (-6), 2) := by decide +kernel
theorem dX10_pair_56 : decode cX10_pair 56 = .ok (.if_icmp .eq 6, 3) := by decide +kernel
theorem dX10_pair_59 : decode cX10_pair 59 = .ok (.bipush (-3), 2) := by decide +kernel
theorem dX10_pair_61 : decode cX10_pair 61 = .ok (.ireturn, 1) := by decide +kernel
theorem dX10_pair_62 : decode cX10_pair 62 = .ok (.aload_n 0, 1) := by decide +kernel
theorem dX10_pair_63 : decode cX10_pair 63 = .ok (.getfield 10, 3) := by decide +kernel
theorem dX10_pair_66 : decode cX10_pair 66 = .ok (.iload_n 1, 1) := by decide +kernel
theorem dX10_pair_67 : decode cX10_pair 67 = .ok (.iload_n 2, 1) := by decide +kernel
theorem dX10_pair_68 : decode cX10_pair 68 = .ok (.invokevirtual 88, 3) := by decide +kernel
theorem dX10_pair_71 : decode cX10_pair 71 = .ok (.goto 26, 3) := by decide +kernel
theorem dX10_pair_74 : decode cX10_pair 74 = .ok (.aload_n 0, 1) := by decide +kernel
theorem dX10_pair_75 : decode cX10_pair 75 = .ok (.getfield 10, 3) := by decide +kernel
theorem dX10_pair_78 : decode cX10_pair 78 = .ok (.iload_n 1, 1) := by decide +kernel
theorem dX10_pair_79 : decode cX10_pair 79 = .ok (.invokevirtual 84, 3) := by decide +kernel
theorem dX10_pair_82 : decode cX10_pair 82 = .ok (.iload_n 2, 1) := by decide +kernel
theorem dX10_pair_83 : decode cX10_pair 83 = .ok (.if_icmp .eq 6, 3) := by decide +kernel
theorem dX10_pair_86 : decode cX10_pair 86 = .ok (.bipush (-3), 2) := by decide +kernel
theorem dX10_pair_88 : decode cX10_pair 88 = .ok (.ireturn, 1) := by decide +kernel
theorem dX10_pair_89 : decode cX10_pair 89 = .ok (.aload_n 0, 1) := by decide +kernel
theorem dX10_pair_90 : decode cX10_pair 90 = .ok (.getfield 10, 3) := by decide +kernel
theorem dX10_pair_93 : decode cX10_pair 93 = .ok (.iload_n 1, 1) := by decide +kernel
theorem dX10_pair_94 : decode cX10_pair 94 = .ok (.invokevirtual 92, 3) := by decide +kernel
theorem dX10_pair_97 : decode cX10_pair 97 = .ok (.aload_n 0, 1) := by decide +kernel
theorem dX10_pair_98 : decode cX10_pair 98 = .ok (.getfield 10, 3) := by decide +kernel
theorem dX10_pair_101 : decode cX10_pair 101 = .ok (.invokevirtual 96, 3) := by decide +kernel
theorem dX10_pair_104 : decode cX10_pair 104 = .ok (.ireturn, 1) := by decide +kernel
set_option maxRecDepth 20000 in
theorem ggX10_horn_X10_isWithin : GoodIn wsX10_horn wsX10_isWithin := goodIn_r _ [6] (by decide +kernel) (by decide +kernel)
set_option maxRecDepth 20000 in
theorem gX10_horn_X10_isWithin : GoodIn wsX10_horn (va_wsS RX10 68 yX10_isWithin wsX10_isWithin) := goodIn_app (goodIn_of _ (by decide +kernel)) ggX10_horn_X10_isWithin
theorem dX10_horn_0 : decode cX10_horn 0 = .ok (.iload_n 1, 1) := by decide +kernel
theorem dX10_horn_1 : decode cX10_horn 1 = .ok (.iconst 0, 1) := by decide +kernel
theorem dX10_horn_2 : decode cX10_horn 2 = .ok (.bipush 9, 2) := by decide +kernel
theorem dX10_horn_4 : decode cX10_horn 4 = .ok (.invokestatic 68, 3) := by decide +kernel
theorem dX10_horn_7 : decode cX10_horn 7 = .ok (.ifCond .ne 6, 3) := by decide +kernel
theorem dX10_horn_10 : decode cX10_horn 10 = .ok (.bipush (-2), 2) := by decide +kernel
theorem dX10_horn_12 : decode cX10_horn 12 = .ok (.ireturn, 1) := by decide +kernel
theorem dX10_horn_13 : decode cX10_horn 13 = .ok (.aload_n 0, 1) := by decide +kernel
theorem dX10_horn_14 : decode cX10_horn 14 = .ok (.getfield 10, 3) := by decide +kernel
theorem dX10_horn_17 : decode cX10_horn 17 = .ok (.getfield 99, 3) := by decide +kernel
theorem dX10_horn_20 : decode cX10_horn 20 = .ok (.istore_n 2, 1) := by decide +kernel
theorem dX10_horn_21 : decode cX10_horn 21 = .ok (.aload_n 0, 1) := by decide +kernel
theorem dX10_horn_22 : decode cX10_horn 22 = .ok (.getfield 10, 3) := by decide +kernel
theorem dX10_horn_25 : decode cX10_horn 25 = .ok (.iload_n 1, 1) := by decide +kernel
theorem dX10_horn_26 : decode cX10_horn 26 = .ok (.putfield 99, 3) := by decide +kernel
theorem dX10_horn_29 : decode cX10_horn 29 = .ok (.iload_n 2, 1) := by decide +kernel
theorem dX10_horn_30 : decode cX10_horn 30 = .ok (.ireturn, 1) := by decide +kernel
set_option maxRecDepth 20000 in
theorem ggX10_say_X10_isWithin : GoodIn wsX10_say wsX10_isWithin := goodIn_r _ [6] (by decide +kernel) (by decide +kernel)
set_option maxRecDepth 20000 in
theorem gX10_say_X10_isWithin : GoodIn wsX10_say (va_wsS RX10 68 yX10_isWithin wsX10_isWithin) := goodIn_app (goodIn_of _ (by decide +kernel)) ggX10_say_X10_isWithin
set_option maxRecDepth 20000 in
theorem ggX10_say_X4_write : GoodIn wsX10_say wsX4_write := goodIn_r _ [11, 12, 13, 24, 25] (by decide +kernel) (by decide +kernel)
set_option maxRecDepth 20000 in
theorem gX10_say_X4_write : GoodIn wsX10_say (wsV RX10 103 RX4 yX4_write wsX4_write) := goodIn_app (goodIn_of _ (by decide +kernel)) ggX10_say_X4_write
theorem dX10_say_0 : decode cX10_say 0 = .ok (.iload_n 1, 1) := by decide +kernel
theorem dX10_say_1 : decode cX10_say 1 = .ok (.bipush 33, 2) := by decide +kernel
theorem dX10_say_3 : decode cX10_say 3 = .ok (.bipush 126, 2) := by decide +kernel
theorem dX10_say_5 : decode cX10_say 5 = .ok (.invokestatic 68, 3) := by decide +kernel
theorem dX10_say_8 : decode cX10_say 8 = .ok (.ifCond .ne 6, 3) := by decide +kernel
theorem dX10_say_11 : decode cX10_say 11 = .ok (.bipush (-2), 2) := by decide +kernel
theorem dX10_say_13 : decode cX10_say 13 = .ok (.ireturn, 1) := by decide +kernel
theorem dX10_say_14 : decode cX10_say 14 = .ok (.aload_n 0, 1) := by decide +kernel
theorem dX10_say_15 : decode cX10_say 15 = .ok (.getfield 29, 3) := by decide +kernel
theorem dX10_say_18 : decode cX10_say 18 = .ok (.iload_n 1, 1) := by decide +kernel
theorem dX10_say_19 : decode cX10_say 19 = .ok (.invokevirtual 103, 3) := by decide +kernel
theorem dX10_say_22 : decode cX10_say 22 = .ok (.ifCond .eq 13, 3) := by decide +kernel
theorem dX10_say_25 : decode cX10_say 25 = .ok (.aload_n 0, 1) := by decide +kernel
theorem dX10_say_26 : decode cX10_say 26 = .ok (.getfield 29, 3) := by decide +kernel
theorem dX10_say_29 : decode cX10_say 29 = .ok (.getfield 106, 3) := by decide +kernel
theorem dX10_say_32 : decode cX10_say 32 = .ok (.goto 5, 3) := by decide +kernel
theorem dX10_say_35 : decode cX10_say 35 = .ok (.bipush (-4), 2) := by decide +kernel
theorem dX10_say_37 : decode cX10_say 37 = .ok (.ireturn, 1) := by decide +kernel
theorem dX10_wipe_0 : decode cX10_wipe 0 = .ok (.aload_n 0, 1) := by decide +kernel
theorem dX10_wipe_1 : decode cX10_wipe 1 = .ok (.getfield 29, 3) := by decide +kernel
theorem dX10_wipe_4 : decode cX10_wipe 4 = .ok (.getfield 106, 3) := by decide +kernel
theorem dX10_wipe_7 : decode cX10_wipe 7 = .ok (.istore_n 1, 1) := by decide +kernel
theorem dX10_wipe_8 : decode cX10_wipe 8 = .ok (.aload_n 0, 1) := by decide +kernel
theorem dX10_wipe_9 : decode cX10_wipe 9 = .ok (.getfield 29, 3) := by decide +kernel
theorem dX10_wipe_12 : decode cX10_wipe 12 = .ok (.iconst 0, 1) := by decide +kernel
theorem dX10_wipe_13 : decode cX10_wipe 13 = .ok (.putfield 106, 3) := by decide +kernel
theorem dX10_wipe_16 : decode cX10_wipe 16 = .ok (.iload_n 1, 1) := by decide +kernel
theorem dX10_wipe_17 : decode cX10_wipe 17 = .ok (.ireturn, 1) := by decide +kernel
set_option maxRecDepth 20000 in
theorem ggX10_fault_X4_faultPlace : GoodIn wsX10_fault wsX4_faultPlace := goodIn_r _ [6, 7, 8, 9, 10, 5, 11, 12, 13, 14, 15, 16, 17, 18, 19, 20, 21, 22, 23, 24, 25, 26, 27, 28, 29, 30, 31, 32, 33, 34, 45, 46] (by decide +kernel) (by decide +kernel)
set_option maxRecDepth 20000 in
theorem gX10_fault_X4_faultPlace : GoodIn wsX10_fault (wsV RX10 109 RX4 yX4_faultPlace wsX4_faultPlace) := goodIn_app (goodIn_of _ (by decide +kernel)) ggX10_fault_X4_faultPlace
theorem dX10_fault_0 : decode cX10_fault 0 = .ok (.aload_n 0, 1) := by decide +kernel
theorem dX10_fault_1 : decode cX10_fault 1 = .ok (.getfield 29, 3) := by decide +kernel
theorem dX10_fault_4 : decode cX10_fault 4 = .ok (.invokevirtual 109, 3) := by decide +kernel
theorem dX10_fault_7 : decode cX10_fault 7 = .ok (.ireturn, 1) := by decide +kernel
set_option maxRecDepth 20000 in
theorem ggX10_judge_X10_isWithin : GoodIn wsX10_judge wsX10_isWithin := goodIn_r _ [9] (by decide +kernel) (by decide +kernel)
set_option maxRecDepth 20000 in
theorem gX10_judge_X10_isWithin : GoodIn wsX10_judge (va_wsS RX10 68 yX10_isWithin wsX10_isWithin) := goodIn_app (goodIn_of _ (by decide +kernel)) ggX10_judge_X10_isWithin
set_option maxRecDepth 20000 in
theorem ggX10_judge_X4_faultPlace : GoodIn wsX10_judge wsX4_faultPlace := goodIn_r _ [14, 15, 16, 17, 18, 13, 19, 20, 21, 22, 23, 24, 25, 26, 27, 28, 29, 30, 31, 32, 33, 34, 35, 36, 37, 38, 39, 40, 41, 42, 160, 161] (by decide +kernel) (by decide +kernel)
set_option maxRecDepth 20000 in
theorem gX10_judge_X4_faultPlace : GoodIn wsX10_judge (wsV RX10 109 RX4 yX4_faultPlace wsX4_faultPlace) := goodIn_app (goodIn_of _ (by decide +kernel)) ggX10_judge_X4_faultPlace
set_option maxRecDepth 20000 in
theorem ggX10_judge_X9_tell : GoodIn wsX10_judge wsX9_tell := goodIn_r _ [47, 48, 49, 50, 51, 52, 53, 54, 46, 55, 56, 57, 58, 59, 60, 61, 62, 63, 64, 65, 66, 67, 68, 69, 70, 71, 72, 73, 74, 75, 76, 77, 78, 79, 36, 37, 13, 38, 20, 21, 22, 23, 15, 24, 80, 81, 82, 83, 84, 85, 86, 87, 35, 88, 89, 90, 91, 92, 93, 94, 95, 96, 97, 98, 99, 100, 101, 102, 103, 104, 105, 106, 107, 108, 109, 110, 111, 112, 113, 114, 115, 116, 117, 118, 119, 120, 121, 122, 123, 124, 125, 126, 127, 128, 129, 130, 131, 132, 133, 134, 135, 136, 137, 138, 139, 140, 141, 142, 143, 32, 33, 34, 160, 161, 154, 155, 156, 157, 158, 159, 162, 163, 164, 165, 166, 167, 168, 169, 170, 171, 172] (by decide +kernel) (by decide +kernel)
set_option maxRecDepth 20000 in
theorem gX10_judge_X9_tell : GoodIn wsX10_judge (wsV RX10 112 RX9 yX9_tell wsX9_tell) := goodIn_app (goodIn_of _ (by decide +kernel)) ggX10_judge_X9_tell
theorem dX10_judge_0 : decode cX10_judge 0 = .ok (.iload_n 1, 1) := by decide +kernel
theorem dX10_judge_1 : decode cX10_judge 1 = .ok (.iconst 0, 1) := by decide +kernel
theorem dX10_judge_2 : decode cX10_judge 2 = .ok (.iconst 1, 1) := by decide +kernel
theorem dX10_judge_3 : decode cX10_judge 3 = .ok (.invokestatic 68, 3) := by decide +kernel
theorem dX10_judge_6 : decode cX10_judge 6 = .ok (.ifCond .ne 6, 3) := by decide +kernel
theorem dX10_judge_9 : decode cX10_judge 9 = .ok (.bipush (-2), 2) := by decide +kernel
theorem dX10_judge_11 : decode cX10_judge 11 = .ok (.ireturn, 1) := by decide +kernel
theorem dX10_judge_12 : decode cX10_judge 12 = .ok (.aload_n 0, 1) := by decide +kernel
theorem dX10_judge_13 : decode cX10_judge 13 = .ok (.getfield 29, 3) := by decide +kernel
theorem dX10_judge_16 : decode cX10_judge 16 = .ok (.invokevirtual 109, 3) := by decide +kernel
theorem dX10_judge_19 : decode cX10_judge 19 = .ok (.bipush (-6), 2) := by decide +kernel
theorem dX10_judge_21 : decode cX10_judge 21 = .ok (.if_icmp .eq 6, 3) := by decide +kernel
theorem dX10_judge_24 : decode cX10_judge 24 = .ok (.bipush (-5), 2) := by decide +kernel
theorem dX10_judge_26 : decode cX10_judge 26 = .ok (.ireturn, 1) := by decide +kernel
theorem dX10_judge_27 : decode cX10_judge 27 = .ok (.aload_n 0, 1) := by decide +kernel
theorem dX10_judge_28 : decode cX10_judge 28 = .ok (.getfield 36, 3) := by decide +kernel
theorem dX10_judge_31 : decode cX10_judge 31 = .ok (.aload_n 0, 1) := by decide +kernel
theorem dX10_judge_32 : decode cX10_judge 32 = .ok (.getfield 29, 3) := by decide +kernel
theorem dX10_judge_35 : decode cX10_judge 35 = .ok (.aload_n 0, 1) := by decide +kernel
theorem dX10_judge_36 : decode cX10_judge 36 = .ok (.getfield 10, 3) := by decide +kernel
theorem dX10_judge_39 : decode cX10_judge 39 = .ok (.invokevirtual 112, 3) := by decide +kernel
theorem dX10_judge_42 : decode cX10_judge 42 = .ok (.aload_n 0, 1) := by decide +kernel
theorem dX10_judge_43 : decode cX10_judge 43 = .ok (.getfield 36, 3) := by decide +kernel
theorem dX10_judge_46 : decode cX10_judge 46 = .ok (.getfield 116, 3) := by decide +kernel
theorem dX10_judge_49 : decode cX10_judge 49 = .ok (.ifCond .ne 6, 3) := by decide +kernel
theorem dX10_judge_52 : decode cX10_judge 52 = .ok (.bipush (-6), 2) := by decide +kernel
theorem dX10_judge_54 : decode cX10_judge 54 = .ok (.ireturn, 1) := by decide +kernel
theorem dX10_judge_55 : decode cX10_judge 55 = .ok (.iload_n 1, 1) := by decide +kernel
theorem dX10_judge_56 : decode cX10_judge 56 = .ok (.ifCond .ne 13, 3) := by decide +kernel
theorem dX10_judge_59 : decode cX10_judge 59 = .ok (.aload_n 0, 1) := by decide +kernel
theorem dX10_judge_60 : decode cX10_judge 60 = .ok (.getfield 36, 3) := by decide +kernel
theorem dX10_judge_63 : decode cX10_judge 63 = .ok (.getfield 119, 3) := by decide +kernel
theorem dX10_judge_66 : decode cX10_judge 66 = .ok (.goto 10, 3) := by decide +kernel
theorem dX10_judge_69 : decode cX10_judge 69 = .ok (.aload_n 0, 1) := by decide +kernel
theorem dX10_judge_70 : decode cX10_judge 70 = .ok (.getfield 36, 3) := by decide +kernel
theorem dX10_judge_73 : decode cX10_judge 73 = .ok (.getfield 116, 3) := by decide +kernel
theorem dX10_judge_76 : decode cX10_judge 76 = .ok (.ireturn, 1) := by decide +kernel
set_option maxRecDepth 20000 in
theorem ggX10_done_X10_yearsCanBe : GoodIn wsX10_done wsX10_yearsCanBe := goodIn_r _ [11, 4, 2, 1, 12, 13, 14, 15, 16, 17, 18, 19, 20, 21, 22, 23, 24, 25, 26, 27, 28, 29, 30, 31, 32, 33, 34, 35, 36, 37, 38, 39, 40, 41, 42, 43, 44, 45, 46, 47, 48, 49, 50, 51, 52, 53, 54, 55, 56, 57, 58, 59, 60, 61, 62, 63, 64, 65, 66, 67, 68, 69, 70, 71, 72, 73, 74, 75, 76, 77, 78, 79, 80, 81, 82, 83, 84, 85, 86, 87, 88, 89, 90, 91, 92, 93, 94, 95, 96, 97, 98, 99, 100, 101, 102, 103, 104, 105, 106, 107, 108, 109, 110, 111, 112, 113, 114, 115, 116, 117, 118, 119, 120, 121, 122, 123, 124, 125, 126, 127, 128, 129, 130, 131, 132, 133, 134, 135, 136, 137, 138, 139, 140, 141, 142, 143, 144, 145, 146, 148, 149, 150, 151, 152, 153, 154, 155, 156, 157, 158, 159, 160, 161, 162, 163, 164, 165, 166, 167, 168, 169, 170, 171, 172, 173, 174, 175, 176] (by decide +kernel) (by decide +kernel)
set_option maxRecDepth 20000 in
theorem gX10_done_X10_yearsCanBe : GoodIn wsX10_done (wsV RX10 122 RX10 yX10_yearsCanBe wsX10_yearsCanBe) := goodIn_app (goodIn_of _ (by decide +kernel)) ggX10_done_X10_yearsCanBe
set_option maxRecDepth 20000 in
theorem ggX10_done_X2_become : GoodIn wsX10_done wsX2_become := goodIn_r _ [66, 67, 68, 69, 70, 71, 72, 73, 74, 75, 76, 77, 78, 79, 80, 81, 166, 167, 168, 169, 170, 171, 172, 173, 174, 175, 176] (by decide +kernel) (by decide +kernel)
set_option maxRecDepth 20000 in
theorem gX10_done_X2_become : GoodIn wsX10_done (wsV RX10 129 RX2 yX2_become wsX2_become) := goodIn_app (goodIn_of _ (by decide +kernel)) ggX10_done_X2_become
theorem dX10_done_0 : decode cX10_done 0 = .ok (.aload_n 0, 1) := by decide +kernel
theorem dX10_done_1 : decode cX10_done 1 = .ok (.invokevirtual 122, 3) := by decide +kernel
theorem dX10_done_4 : decode cX10_done 4 = .ok (.ifCond .ne 6, 3) := by decide +kernel
theorem dX10_done_7 : decode cX10_done 7 = .ok (.bipush (-5), 2) := by decide +kernel
theorem dX10_done_9 : decode cX10_done 9 = .ok (.ireturn, 1) := by decide +kernel
theorem dX10_done_10 : decode cX10_done 10 = .ok (.aload_n 0, 1) := by decide +kernel
theorem dX10_done_11 : decode cX10_done 11 = .ok (.getfield 10, 3) := by decide +kernel
theorem dX10_done_14 : decode cX10_done 14 = .ok (.aload_n 0, 1) := by decide +kernel
theorem dX10_done_15 : decode cX10_done 15 = .ok (.getfield 36, 3) := by decide +kernel
theorem dX10_done_18 : decode cX10_done 18 = .ok (.getfield 126, 3) := by decide +kernel
theorem dX10_done_21 : decode cX10_done 21 = .ok (.invokevirtual 129, 3) := by decide +kernel
theorem dX10_done_24 : decode cX10_done 24 = .ok (.aload_n 0, 1) := by decide +kernel
theorem dX10_done_25 : decode cX10_done 25 = .ok (.getfield 29, 3) := by decide +kernel
theorem dX10_done_28 : decode cX10_done 28 = .ok (.iconst 0, 1) := by decide +kernel
theorem dX10_done_29 : decode cX10_done 29 = .ok (.putfield 106, 3) := by decide +kernel
theorem dX10_done_32 : decode cX10_done 32 = .ok (.aload_n 0, 1) := by decide +kernel
theorem dX10_done_33 : decode cX10_done 33 = .ok (.getfield 36, 3) := by decide +kernel
theorem dX10_done_36 : decode cX10_done 36 = .ok (.getfield 119, 3) := by decide +kernel
theorem dX10_done_39 : decode cX10_done 39 = .ok (.ireturn, 1) := by decide +kernel
set_option maxRecDepth 20000 in
theorem ggX10_behind_X2_isThere : GoodIn wsX10_behind wsX2_isThere := goodIn_r _ [8, 9, 171, 172, 173, 174, 175, 176, 177, 178] (by decide +kernel) (by decide +kernel)
set_option maxRecDepth 20000 in
theorem gX10_behind_X2_isThere : GoodIn wsX10_behind (wsV RX10 80 RX2 yX2_isThere wsX2_isThere) := goodIn_app (goodIn_of _ (by decide +kernel)) ggX10_behind_X2_isThere
set_option maxRecDepth 20000 in
theorem ggX10_behind_X10_isWithin : GoodIn wsX10_behind wsX10_isWithin := goodIn_r _ [13] (by decide +kernel) (by decide +kernel)
set_option maxRecDepth 20000 in
theorem gX10_behind_X10_isWithin : GoodIn wsX10_behind (va_wsS RX10 68 yX10_isWithin wsX10_isWithin) := goodIn_app (goodIn_of _ (by decide +kernel)) ggX10_behind_X10_isWithin
set_option maxRecDepth 20000 in
theorem ggX10_behind_X10_yearsCanBe : GoodIn wsX10_behind wsX10_yearsCanBe := goodIn_r _ [17, 18, 2, 1, 19, 20, 21, 22, 23, 24, 25, 26, 27, 28, 29, 30, 31, 32, 33, 34, 35, 36, 37, 38, 39, 40, 41, 42, 43, 44, 45, 46, 47, 48, 49, 50, 51, 52, 53, 54, 55, 56, 57, 58, 59, 60, 61, 62, 63, 64, 65, 66, 67, 68, 69, 70, 71, 7, 72, 73, 74, 75, 76, 9, 77, 78, 79, 80, 81, 82, 83, 84, 85, 86, 87, 88, 89, 90, 91, 92, 93, 94, 95, 96, 97, 98, 99, 100, 5, 6, 8, 101, 102, 103, 104, 105, 106, 107, 108, 109, 110, 111, 112, 113, 114, 115, 116, 117, 118, 119, 120, 121, 122, 123, 124, 125, 126, 127, 128, 129, 130, 131, 132, 133, 134, 135, 136, 137, 138, 139, 140, 141, 142, 143, 144, 145, 146, 147, 148, 155, 156, 157, 158, 159, 160, 161, 162, 163, 164, 165, 166, 167, 168, 169, 170, 179, 180, 171, 172, 173, 174, 175, 176, 177, 178, 181, 182, 183] (by decide +kernel) (by decide +kernel)
set_option maxRecDepth 20000 in
theorem gX10_behind_X10_yearsCanBe : GoodIn wsX10_behind (wsV RX10 122 RX10 yX10_yearsCanBe wsX10_yearsCanBe) := goodIn_app (goodIn_of _ (by decide +kernel)) ggX10_behind_X10_yearsCanBe
set_option maxRecDepth 20000 in
theorem ggX10_behind_X2_inclineOf : GoodIn wsX10_behind wsX2_inclineOf := goodIn_r _ [116, 73, 100, 5, 6, 7, 8, 9, 171, 172, 173, 174, 175, 176, 177, 178] (by decide +kernel) (by decide +kernel)
set_option maxRecDepth 20000 in
theorem gX10_behind_X2_inclineOf : GoodIn wsX10_behind (wsV RX10 133 RX2 yX2_inclineOf wsX2_inclineOf) := goodIn_app (goodIn_of _ (by decide +kernel)) ggX10_behind_X2_inclineOf
set_option maxRecDepth 20000 in
theorem ggX10_behind_X2_mateOf : GoodIn wsX10_behind wsX2_mateOf := goodIn_r _ [104, 75, 100, 5, 6, 7, 8, 9, 171, 172, 173, 174, 175, 176, 177, 178] (by decide +kernel) (by decide +kernel)
set_option maxRecDepth 20000 in
theorem gX10_behind_X2_mateOf : GoodIn wsX10_behind (wsV RX10 84 RX2 yX2_mateOf wsX2_mateOf) := goodIn_app (goodIn_of _ (by decide +kernel)) ggX10_behind_X2_mateOf
set_option maxRecDepth 20000 in
theorem ggX10_behind_X9_chalkOf : GoodIn wsX10_behind wsX9_chalkOf := goodIn_r _ [154, 68, 165, 166, 167, 168, 169, 170] (by decide +kernel) (by decide +kernel)
set_option maxRecDepth 20000 in
theorem gX10_behind_X9_chalkOf : GoodIn wsX10_behind (wsV RX10 136 RX9 yX9_chalkOf wsX9_chalkOf) := goodIn_app (goodIn_of _ (by decide +kernel)) ggX10_behind_X9_chalkOf
theorem dX10_behind_0 : decode cX10_behind 0 = .ok (.aload_n 0, 1) := by decide +kernel
theorem dX10_behind_1 : decode cX10_behind 1 = .ok (.getfield 10, 3) := by decide +kernel
theorem dX10_behind_4 : decode cX10_behind 4 = .ok (.iload_n 1, 1) := by decide +kernel
theorem dX10_behind_5 : decode cX10_behind 5 = .ok (.invokevirtual 80, 3) := by decide +kernel
theorem dX10_behind_8 : decode cX10_behind 8 = .ok (.ifCond .ne 5, 3) := by decide +kernel
theorem dX10_behind_11 : decode cX10_behind 11 = .ok (.iconst (-1), 1) := by decide +kernel
theorem dX10_behind_12 : decode cX10_behind 12 = .ok (.ireturn, 1) := by decide +kernel
theorem dX10_behind_13 : decode cX10_behind 13 = .ok (.iload_n 2, 1) := by decide +kernel
theorem dX10_behind_14 : decode cX10_behind 14 = .ok (.iconst 0, 1) := by decide +kernel
theorem dX10_behind_15 : decode cX10_behind 15 = .ok (.iconst 2, 1) := by decide +kernel
theorem dX10_behind_16 : decode cX10_behind 16 = .ok (.invokestatic 68, 3) := by decide +kernel
theorem dX10_behind_19 : decode cX10_behind 19 = .ok (.ifCond .ne 6, 3) := by decide +kernel
theorem dX10_behind_22 : decode cX10_behind 22 = .ok (.bipush (-2), 2) := by decide +kernel
theorem dX10_behind_24 : decode cX10_behind 24 = .ok (.ireturn, 1) := by decide +kernel
theorem dX10_behind_25 : decode cX10_behind 25 = .ok (.aload_n 0, 1) := by decide +kernel
theorem dX10_behind_26 : decode cX10_behind 26 = .ok (.invokevirtual 122, 3) := by decide +kernel
theorem dX10_behind_29 : decode cX10_behind 29 = .ok (.ifCond .ne 6, 3) := by decide +kernel
theorem dX10_behind_32 : decode cX10_behind 32 = .ok (.bipush (-5), 2) := by decide +kernel
theorem dX10_behind_34 : decode cX10_behind 34 = .ok (.ireturn, 1) := by decide +kernel
theorem dX10_behind_35 : decode cX10_behind 35 = .ok (.iload_n 2, 1) := by decide +kernel
theorem dX10_behind_36 : decode cX10_behind 36 = .ok (.ifCond .ne 15, 3) := by decide +kernel
theorem dX10_behind_39 : decode cX10_behind 39 = .ok (.aload_n 0, 1) := by decide +kernel
theorem dX10_behind_40 : decode cX10_behind 40 = .ok (.getfield 36, 3) := by decide +kernel
theorem dX10_behind_43 : decode cX10_behind 43 = .ok (.getfield 126, 3) := by decide +kernel
theorem dX10_behind_46 : decode cX10_behind 46 = .ok (.iload_n 1, 1) := by decide +kernel
theorem dX10_behind_47 : decode cX10_behind 47 = .ok (.invokevirtual 133, 3) := by decide +kernel
theorem dX10_behind_50 : decode cX10_behind 50 = .ok (.ireturn, 1) := by decide +kernel
theorem dX10_behind_51 : decode cX10_behind 51 = .ok (.iload_n 2, 1) := by decide +kernel
theorem dX10_behind_52 : decode cX10_behind 52 = .ok (.iconst 1, 1) := by decide +kernel
theorem dX10_behind_53 : decode cX10_behind 53 = .ok (.if_icmp .ne 17, 3) := by decide +kernel
theorem dX10_behind_56 : decode cX10_behind 56 = .ok (.aload_n 0, 1) := by decide +kernel
theorem dX10_behind_57 : decode cX10_behind 57 = .ok (.getfield 36, 3) := by decide +kernel
theorem dX10_behind_60 : decode cX10_behind 60 = .ok (.getfield 126, 3) := by decide +kernel
theorem dX10_behind_63 : decode cX10_behind 63 = .ok (.iload_n 1, 1) := by decide +kernel
theorem dX10_behind_64 : decode cX10_behind 64 = .ok (.invokevirtual 84, 3) := by decide +kernel
theorem dX10_behind_67 : decode cX10_behind 67 = .ok (.goto 11, 3) := by decide +kernel
theorem dX10_behind_70 : decode cX10_behind 70 = .ok (.aload_n 0, 1) := by decide +kernel
theorem dX10_behind_71 : decode cX10_behind 71 = .ok (.getfield 36, 3) := by decide +kernel
theorem dX10_behind_74 : decode cX10_behind 74 = .ok (.iload_n 1, 1) := by decide +kernel
theorem dX10_behind_75 : decode cX10_behind 75 = .ok (.invokevirtual 136, 3) := by decide +kernel
theorem dX10_behind_78 : decode cX10_behind 78 = .ok (.ireturn, 1) := by decide +kernel
set_option maxRecDepth 20000 in
theorem ggX10_then_X10_isWithin : GoodIn wsX10_then wsX10_isWithin := goodIn_r _ [10] (by decide +kernel) (by decide +kernel)
set_option maxRecDepth 20000 in
theorem gX10_then_X10_isWithin : GoodIn wsX10_then (va_wsS RX10 68 yX10_isWithin wsX10_isWithin) := goodIn_app (goodIn_of _ (by decide +kernel)) ggX10_then_X10_isWithin
set_option maxRecDepth 20000 in
theorem ggX10_then_X10_yearsCanBe : GoodIn wsX10_then wsX10_yearsCanBe := goodIn_r _ [14, 15, 1, 16, 17, 18, 19, 20, 21, 22, 23, 24, 25, 26, 27, 28, 29, 30, 31, 32, 33, 34, 35, 36, 37, 38, 39, 40, 41, 42, 43, 44, 45, 46, 47, 48, 49, 50, 51, 52, 53, 54, 55, 56, 57, 58, 59, 60, 61, 62, 63, 64, 65, 66, 67, 68, 69, 70, 71, 72, 73, 74, 75, 76, 77, 78, 79, 80, 81, 82, 83, 84, 85, 86, 87, 88, 89, 90, 91, 92, 93, 94, 95, 96, 97, 98, 99, 100, 101, 102, 103, 104, 105, 106, 107, 108, 109, 110, 111, 112, 113, 114, 115, 116, 117, 118, 119, 120, 121, 122, 123, 124, 125, 126, 127, 128, 129, 130, 131, 132, 133, 134, 135, 136, 137, 138, 139, 140, 141, 142, 143, 144, 145, 146, 147, 148, 149, 150, 151, 156, 157, 158, 159, 160, 161, 162, 163, 164, 165, 166, 167, 168, 169, 170, 171, 180, 181, 172, 173, 174, 175, 176, 177, 178, 179, 182, 183, 184] (by decide +kernel) (by decide +kernel)
set_option maxRecDepth 20000 in
theorem gX10_then_X10_yearsCanBe : GoodIn wsX10_then (wsV RX10 122 RX10 yX10_yearsCanBe wsX10_yearsCanBe) := goodIn_app (goodIn_of _ (by decide +kernel)) ggX10_then_X10_yearsCanBe
set_option maxRecDepth 20000 in
theorem ggX10_then_X2_pairsSitting : GoodIn wsX10_then wsX2_pairsSitting := goodIn_r _ [155, 104, 105, 106, 70, 107, 74, 100, 101, 102, 103, 76, 172, 173, 174, 175, 176, 177, 178, 179] (by decide +kernel) (by decide +kernel)
set_option maxRecDepth 20000 in
theorem gX10_then_X2_pairsSitting : GoodIn wsX10_then (wsV RX10 96 RX2 yX2_pairsSitting wsX2_pairsSitting) := goodIn_app (goodIn_of _ (by decide +kernel)) ggX10_then_X2_pairsSitting
theorem dX10_then_0 : decode cX10_then 0 = .ok (.iload_n 1, 1) := by decide +kernel
theorem dX10_then_1 : decode cX10_then 1 = .ok (.iconst 0, 1) := by decide +kernel
theorem dX10_then_2 : decode cX10_then 2 = .ok (.iconst 4, 1) := by decide +kernel
theorem dX10_then_3 : decode cX10_then 3 = .ok (.invokestatic 68, 3) := by decide +kernel
theorem dX10_then_6 : decode cX10_then 6 = .ok (.ifCond .ne 6, 3) := by decide +kernel
theorem dX10_then_9 : decode cX10_then 9 = .ok (.bipush (-2), 2) := by decide +kernel
theorem dX10_then_11 : decode cX10_then 11 = .ok (.ireturn, 1) := by decide +kernel
theorem dX10_then_12 : decode cX10_then 12 = .ok (.aload_n 0, 1) := by decide +kernel
theorem dX10_then_13 : decode cX10_then 13 = .ok (.invokevirtual 122, 3) := by decide +kernel
theorem dX10_then_16 : decode cX10_then 16 = .ok (.ifCond .ne 6, 3) := by decide +kernel
theorem dX10_then_19 : decode cX10_then 19 = .ok (.bipush (-5), 2) := by decide +kernel
theorem dX10_then_21 : decode cX10_then 21 = .ok (.ireturn, 1) := by decide +kernel
theorem dX10_then_22 : decode cX10_then 22 = .ok (.iload_n 1, 1) := by decide +kernel
theorem dX10_then_23 : decode cX10_then 23 = .ok (.tableswitch 70 0 3 #[29, 40, 51, 62], 29) := by decide +kernel
theorem dX10_then_52 : decode cX10_then 52 = .ok (.aload_n 0, 1) := by decide +kernel
theorem dX10_then_53 : decode cX10_then 53 = .ok (.getfield 36, 3) := by decide +kernel
theorem dX10_then_56 : decode cX10_then 56 = .ok (.getfield 126, 3) := by decide +kernel
theorem dX10_then_59 : decode cX10_then 59 = .ok (.getfield 99, 3) := by decide +kernel
theorem dX10_then_62 : decode cX10_then 62 = .ok (.ireturn, 1) := by decide +kernel
theorem dX10_then_63 : decode cX10_then 63 = .ok (.aload_n 0, 1) := by decide +kernel
theorem dX10_then_64 : decode cX10_then 64 = .ok (.getfield 36, 3) := by decide +kernel
theorem dX10_then_67 : decode cX10_then 67 = .ok (.getfield 126, 3) := by decide +kernel
theorem dX10_then_70 : decode cX10_then 70 = .ok (.getfield 139, 3) := by decide +kernel
theorem dX10_then_73 : decode cX10_then 73 = .ok (.ireturn, 1) := by decide +kernel
theorem dX10_then_74 : decode cX10_then 74 = .ok (.aload_n 0, 1) := by decide +kernel
theorem dX10_then_75 : decode cX10_then 75 = .ok (.getfield 36, 3) := by decide +kernel
theorem dX10_then_78 : decode cX10_then 78 = .ok (.getfield 126, 3) := by decide +kernel
theorem dX10_then_81 : decode cX10_then 81 = .ok (.invokevirtual 96, 3) := by decide +kernel
theorem dX10_then_84 : decode cX10_then 84 = .ok (.ireturn, 1) := by decide +kernel
theorem dX10_then_85 : decode cX10_then 85 = .ok (.aload_n 0, 1) := by decide +kernel
theorem dX10_then_86 : decode cX10_then 86 = .ok (.getfield 36, 3) := by decide +kernel
theorem dX10_then_89 : decode cX10_then 89 = .ok (.getfield 142, 3) := by decide +kernel
theorem dX10_then_92 : decode cX10_then 92 = .ok (.ireturn, 1) := by decide +kernel
theorem dX10_then_93 : decode cX10_then 93 = .ok (.aload_n 0, 1) := by decide +kernel
theorem dX10_then_94 : decode cX10_then 94 = .ok (.getfield 36, 3) := by decide +kernel
theorem dX10_then_97 : decode cX10_then 97 = .ok (.getfield 145, 3) := by decide +kernel
theorem dX10_then_100 : decode cX10_then 100 = .ok (.ireturn, 1) := by decide +kernel
set_option maxRecDepth 20000 in
theorem ggX10_apart_X2_isThere : GoodIn wsX10_apart wsX2_isThere := goodIn_r _ [6, 7, 39, 40, 41, 42, 43, 44, 45, 46] (by decide +kernel) (by decide +kernel)
set_option maxRecDepth 20000 in
theorem gX10_apart_X2_isThere : GoodIn wsX10_apart (wsV RX10 80 RX2 yX2_isThere wsX2_isThere) := goodIn_app (goodIn_of _ (by decide +kernel)) ggX10_apart_X2_isThere
set_option maxRecDepth 20000 in
theorem ggX10_apart_X2_between : GoodIn wsX10_apart wsX2_between := goodIn_r _ [11, 12, 13, 14, 5, 15, 16, 17, 3, 4, 6, 7, 18, 19, 20, 21, 22, 23, 24, 25, 26, 27, 28, 39, 40, 41, 42, 43, 44, 45, 46] (by decide +kernel) (by decide +kernel)
set_option maxRecDepth 20000 in
theorem gX10_apart_X2_between : GoodIn wsX10_apart (wsV RX10 148 RX2 yX2_between wsX2_between) := goodIn_app (goodIn_of _ (by decide +kernel)) ggX10_apart_X2_between
theorem dX10_apart_0 : decode cX10_apart 0 = .ok (.aload_n 0, 1) := by decide +kernel
theorem dX10_apart_1 : decode cX10_apart 1 = .ok (.getfield 10, 3) := by decide +kernel
theorem dX10_apart_4 : decode cX10_apart 4 = .ok (.iload_n 1, 1) := by decide +kernel
theorem dX10_apart_5 : decode cX10_apart 5 = .ok (.invokevirtual 80, 3) := by decide +kernel
theorem dX10_apart_8 : decode cX10_apart 8 = .ok (.ifCond .eq 14, 3) := by decide +kernel
theorem dX10_apart_11 : decode cX10_apart 11 = .ok (.aload_n 0, 1) := by decide +kernel
theorem dX10_apart_12 : decode cX10_apart 12 = .ok (.getfield 10, 3) := by decide +kernel
theorem dX10_apart_15 : decode cX10_apart 15 = .ok (.iload_n 2, 1) := by decide +kernel
theorem dX10_apart_16 : decode cX10_apart 16 = .ok (.invokevirtual 80, 3) := by decide +kernel
theorem dX10_apart_19 : decode cX10_apart 19 = .ok (.ifCond .ne 5, 3) := by decide +kernel
theorem dX10_apart_22 : decode cX10_apart 22 = .ok (.iconst (-1), 1) := by decide +kernel
theorem dX10_apart_23 : decode cX10_apart 23 = .ok (.ireturn, 1) := by decide +kernel
theorem dX10_apart_24 : decode cX10_apart 24 = .ok (.aload_n 0, 1) := by decide +kernel
theorem dX10_apart_25 : decode cX10_apart 25 = .ok (.getfield 10, 3) := by decide +kernel
theorem dX10_apart_28 : decode cX10_apart 28 = .ok (.iload_n 1, 1) := by decide +kernel
theorem dX10_apart_29 : decode cX10_apart 29 = .ok (.iload_n 2, 1) := by decide +kernel
theorem dX10_apart_30 : decode cX10_apart 30 = .ok (.invokevirtual 148, 3) := by decide +kernel
theorem dX10_apart_33 : decode cX10_apart 33 = .ok (.ireturn, 1) := by decide +kernel
set_option maxRecDepth 20000 in
theorem ggX10_triangles_X10_isWithin : GoodIn wsX10_triangles wsX10_isWithin := goodIn_r _ [5] (by decide +kernel) (by decide +kernel)
set_option maxRecDepth 20000 in
theorem gX10_triangles_X10_isWithin : GoodIn wsX10_triangles (va_wsS RX10 68 yX10_isWithin wsX10_isWithin) := goodIn_app (goodIn_of _ (by decide +kernel)) ggX10_triangles_X10_isWithin
set_option maxRecDepth 20000 in
theorem ggX10_triangles_X3_triangleCount : GoodIn wsX10_triangles wsX3_triangleCount := goodIn_r _ [9, 10, 11, 8, 12, 13, 14, 15, 16, 17, 18, 19, 20, 21, 22, 23, 24, 25, 26, 27, 28, 29, 30, 31, 32, 33, 34, 35, 36, 37, 38, 39, 40, 41, 42, 43, 44, 45, 46, 47, 48, 49, 63, 64, 65, 66, 67, 68, 69, 70] (by decide +kernel) (by decide +kernel)
set_option maxRecDepth 20000 in
theorem gX10_triangles_X3_triangleCount : GoodIn wsX10_triangles (va_wsS RX10 152 yX3_triangleCount wsX3_triangleCount) := goodIn_app (goodIn_of _ (by decide +kernel)) ggX10_triangles_X3_triangleCount
set_option maxRecDepth 20000 in
theorem ggX10_triangles_X3_firstTriangle : GoodIn wsX10_triangles wsX3_firstTriangle := goodIn_r _ [52, 10, 11, 8, 12, 13, 14, 15, 16, 17, 18, 19, 20, 21, 22, 23, 24, 25, 26, 27, 28, 29, 30, 31, 32, 33, 34, 35, 36, 37, 38, 39, 40, 41, 42, 43, 44, 45, 46, 47, 48, 49, 63, 64, 65, 66, 67, 68, 69, 70] (by decide +kernel) (by decide +kernel)
set_option maxRecDepth 20000 in
theorem gX10_triangles_X3_firstTriangle : GoodIn wsX10_triangles (va_wsS RX10 158 yX3_firstTriangle wsX3_firstTriangle) := goodIn_app (goodIn_of _ (by decide +kernel)) ggX10_triangles_X3_firstTriangle
theorem dX10_triangles_0 : decode cX10_triangles 0 = .ok (.iload_n 1, 1) := by decide +kernel
theorem dX10_triangles_1 : decode cX10_triangles 1 = .ok (.iconst 0, 1) := by decide +kernel
theorem dX10_triangles_2 : decode cX10_triangles 2 = .ok (.iconst 1, 1) := by decide +kernel
theorem dX10_triangles_3 : decode cX10_triangles 3 = .ok (.invokestatic 68, 3) := by decide +kernel
theorem dX10_triangles_6 : decode cX10_triangles 6 = .ok (.ifCond .ne 6, 3) := by decide +kernel
theorem dX10_triangles_9 : decode cX10_triangles 9 = .ok (.bipush (-2), 2) := by decide +kernel
theorem dX10_triangles_11 : decode cX10_triangles 11 = .ok (.ireturn, 1) := by decide +kernel
theorem dX10_triangles_12 : decode cX10_triangles 12 = .ok (.iload_n 1, 1) := by decide +kernel
theorem dX10_triangles_13 : decode cX10_triangles 13 = .ok (.ifCond .ne 13, 3) := by decide +kernel
theorem dX10_triangles_16 : decode cX10_triangles 16 = .ok (.aload_n 0, 1) := by decide +kernel
theorem dX10_triangles_17 : decode cX10_triangles 17 = .ok (.getfield 10, 3) := by decide +kernel
theorem dX10_triangles_20 : decode cX10_triangles 20 = .ok (.invokestatic 152, 3) := by decide +kernel
theorem dX10_triangles_23 : decode cX10_triangles 23 = .ok (.goto 10, 3) := by decide +kernel
theorem dX10_triangles_26 : decode cX10_triangles 26 = .ok (.aload_n 0, 1) := by decide +kernel
theorem dX10_triangles_27 : decode cX10_triangles 27 = .ok (.getfield 10, 3) := by decide +kernel
theorem dX10_triangles_30 : decode cX10_triangles 30 = .ok (.invokestatic 158, 3) := by decide +kernel
theorem dX10_triangles_33 : decode cX10_triangles 33 = .ok (.ireturn, 1) := by decide +kernel
set_option maxRecDepth 20000 in
theorem ggX10_bring_X2_isThere : GoodIn wsX10_bring wsX2_isThere := goodIn_r _ [7, 8, 54, 55, 56, 57, 58, 59, 60, 61] (by decide +kernel) (by decide +kernel)
set_option maxRecDepth 20000 in
theorem gX10_bring_X2_isThere : GoodIn wsX10_bring (wsV RX10 80 RX2 yX2_isThere wsX2_isThere) := goodIn_app (goodIn_of _ (by decide +kernel)) ggX10_bring_X2_isThere
set_option maxRecDepth 20000 in
theorem ggX10_bring_X10_isWithin : GoodIn wsX10_bring wsX10_isWithin := goodIn_r _ [12] (by decide +kernel) (by decide +kernel)
set_option maxRecDepth 20000 in
theorem gX10_bring_X10_isWithin : GoodIn wsX10_bring (va_wsS RX10 68 yX10_isWithin wsX10_isWithin) := goodIn_app (goodIn_of _ (by decide +kernel)) ggX10_bring_X10_isWithin
set_option maxRecDepth 20000 in
theorem ggX10_bring_X7_measureTo : GoodIn wsX10_bring wsX7_measureTo := goodIn_r _ [17, 18, 19, 20, 21, 22, 23, 16, 24, 25, 26, 27, 28, 29, 30, 31, 32, 62, 63, 64] (by decide +kernel) (by decide +kernel)
set_option maxRecDepth 20000 in
theorem gX10_bring_X7_measureTo : GoodIn wsX10_bring (wsV RX10 161 RX7 yX7_measureTo wsX7_measureTo) := goodIn_app (goodIn_of _ (by decide +kernel)) ggX10_bring_X7_measureTo
set_option maxRecDepth 20000 in
theorem ggX10_bring_X2_inclineOf : GoodIn wsX10_bring wsX2_inclineOf := goodIn_r _ [36, 37, 38, 4, 5, 6, 7, 8, 54, 55, 56, 57, 58, 59, 60, 61] (by decide +kernel) (by decide +kernel)
set_option maxRecDepth 20000 in
theorem gX10_bring_X2_inclineOf : GoodIn wsX10_bring (wsV RX10 133 RX2 yX2_inclineOf wsX2_inclineOf) := goodIn_app (goodIn_of _ (by decide +kernel)) ggX10_bring_X2_inclineOf
set_option maxRecDepth 20000 in
theorem ggX10_bring_X7_fewestFrom : GoodIn wsX10_bring wsX7_fewestFrom := goodIn_r _ [32, 18, 25, 26, 27, 28, 62, 63, 64] (by decide +kernel) (by decide +kernel)
set_option maxRecDepth 20000 in
theorem gX10_bring_X7_fewestFrom : GoodIn wsX10_bring (wsV RX10 165 RX7 yX7_fewestFrom wsX7_fewestFrom) := goodIn_app (goodIn_of _ (by decide +kernel)) ggX10_bring_X7_fewestFrom
set_option maxRecDepth 20000 in
theorem ggX10_bring_X7_firstFrom : GoodIn wsX10_bring wsX7_firstFrom := goodIn_r _ [43, 20, 29, 30, 31, 16, 32, 18, 25, 26, 27, 28, 62, 63, 64] (by decide +kernel) (by decide +kernel)
set_option maxRecDepth 20000 in
theorem gX10_bring_X7_firstFrom : GoodIn wsX10_bring (wsV RX10 168 RX7 yX7_firstFrom wsX7_firstFrom) := goodIn_app (goodIn_of _ (by decide +kernel)) ggX10_bring_X7_firstFrom
theorem dX10_bring_0 : decode cX10_bring 0 = .ok (.aload_n 0, 1) := by decide +kernel
theorem dX10_bring_1 : decode cX10_bring 1 = .ok (.getfield 10, 3) := by decide +kernel
theorem dX10_bring_4 : decode cX10_bring 4 = .ok (.iload_n 1, 1) := by decide +kernel
theorem dX10_bring_5 : decode cX10_bring 5 = .ok (.invokevirtual 80, 3) := by decide +kernel
theorem dX10_bring_8 : decode cX10_bring 8 = .ok (.ifCond .ne 5, 3) := by decide +kernel
theorem dX10_bring_11 : decode cX10_bring 11 = .ok (.iconst (-1), 1) := by decide +kernel
theorem dX10_bring_12 : decode cX10_bring 12 = .ok (.ireturn, 1) := by decide +kernel
theorem dX10_bring_13 : decode cX10_bring 13 = .ok (.iload_n 2, 1) := by decide +kernel
theorem dX10_bring_14 : decode cX10_bring 14 = .ok (.iconst 0, 1) := by decide +kernel
theorem dX10_bring_15 : decode cX10_bring 15 = .ok (.sipush 179, 3) := by decide +kernel
theorem dX10_bring_18 : decode cX10_bring 18 = .ok (.invokestatic 68, 3) := by decide +kernel
theorem dX10_bring_21 : decode cX10_bring 21 = .ok (.ifCond .eq 48, 3) := by decide +kernel
theorem dX10_bring_24 : decode cX10_bring 24 = .ok (.iload_n 3, 1) := by decide +kernel
theorem dX10_bring_25 : decode cX10_bring 25 = .ok (.iconst 1, 1) := by decide +kernel
theorem dX10_bring_26 : decode cX10_bring 26 = .ok (.sipush 179, 3) := by decide +kernel
theorem dX10_bring_29 : decode cX10_bring 29 = .ok (.invokestatic 68, 3) := by decide +kernel
theorem dX10_bring_32 : decode cX10_bring 32 = .ok (.ifCond .eq 37, 3) := by decide +kernel
theorem dX10_bring_35 : decode cX10_bring 35 = .ok (.iload 4, 2) := by decide +kernel
theorem dX10_bring_37 : decode cX10_bring 37 = .ok (.iconst 1, 1) := by decide +kernel
theorem dX10_bring_38 : decode cX10_bring 38 = .ok (.sipush 179, 3) := by decide +kernel
theorem dX10_bring_41 : decode cX10_bring 41 = .ok (.invokestatic 68, 3) := by decide +kernel
theorem dX10_bring_44 : decode cX10_bring 44 = .ok (.ifCond .eq 25, 3) := by decide +kernel
theorem dX10_bring_47 : decode cX10_bring 47 = .ok (.iload 5, 2) := by decide +kernel
theorem dX10_bring_49 : decode cX10_bring 49 = .ok (.iconst 1, 1) := by decide +kernel
theorem dX10_bring_50 : decode cX10_bring 50 = .ok (.sipush 179, 3) := by decide +kernel
theorem dX10_bring_53 : decode cX10_bring 53 = .ok (.invokestatic 68, 3) := by decide +kernel
theorem dX10_bring_56 : decode cX10_bring 56 = .ok (.ifCond .eq 13, 3) := by decide +kernel
theorem dX10_bring_59 : decode cX10_bring 59 = .ok (.iload 6, 2) := by decide +kernel
theorem dX10_bring_61 : decode cX10_bring 61 = .ok (.iconst 0, 1) := by decide +kernel
theorem dX10_bring_62 : decode cX10_bring 62 = .ok (.iconst 1, 1) := by decide +kernel
theorem dX10_bring_63 : decode cX10_bring 63 = .ok (.invokestatic 68, 3) := by decide +kernel
theorem dX10_bring_66 : decode cX10_bring 66 = .ok (.ifCond .ne 6, 3) := by decide +kernel
theorem dX10_bring_69 : decode cX10_bring 69 = .ok (.bipush (-2), 2) := by decide +kernel
theorem dX10_bring_71 : decode cX10_bring 71 = .ok (.ireturn, 1) := by decide +kernel
theorem dX10_bring_72 : decode cX10_bring 72 = .ok (.aload_n 0, 1) := by decide +kernel
theorem dX10_bring_73 : decode cX10_bring 73 = .ok (.getfield 43, 3) := by decide +kernel
theorem dX10_bring_76 : decode cX10_bring 76 = .ok (.iload_n 2, 1) := by decide +kernel
theorem dX10_bring_77 : decode cX10_bring 77 = .ok (.iload_n 3, 1) := by decide +kernel
theorem dX10_bring_78 : decode cX10_bring 78 = .ok (.iload 4, 2) := by decide +kernel
theorem dX10_bring_80 : decode cX10_bring 80 = .ok (.iload 5, 2) := by decide +kernel
theorem dX10_bring_82 : decode cX10_bring 82 = .ok (.invokevirtual 161, 3) := by decide +kernel
theorem dX10_bring_85 : decode cX10_bring 85 = .ok (.aload_n 0, 1) := by decide +kernel
theorem dX10_bring_86 : decode cX10_bring 86 = .ok (.getfield 10, 3) := by decide +kernel
theorem dX10_bring_89 : decode cX10_bring 89 = .ok (.iload_n 1, 1) := by decide +kernel
theorem dX10_bring_90 : decode cX10_bring 90 = .ok (.invokevirtual 133, 3) := by decide +kernel
theorem dX10_bring_93 : decode cX10_bring 93 = .ok (.istore 7, 2) := by decide +kernel
theorem dX10_bring_95 : decode cX10_bring 95 = .ok (.iload 6, 2) := by decide +kernel
theorem dX10_bring_97 : decode cX10_bring 97 = .ok (.ifCond .ne 15, 3) := by decide +kernel
theorem dX10_bring_100 : decode cX10_bring 100 = .ok (.aload_n 0, 1) := by decide +kernel
theorem dX10_bring_101 : decode cX10_bring 101 = .ok (.getfield 43, 3) := by decide +kernel
theorem dX10_bring_104 : decode cX10_bring 104 = .ok (.iload 7, 2) := by decide +kernel
theorem dX10_bring_106 : decode cX10_bring 106 = .ok (.invokevirtual 165, 3) := by decide +kernel
theorem dX10_bring_109 : decode cX10_bring 109 = .ok (.goto 12, 3) := by decide +kernel
theorem dX10_bring_112 : decode cX10_bring 112 = .ok (.aload_n 0, 1) := by decide +kernel
theorem dX10_bring_113 : decode cX10_bring 113 = .ok (.getfield 43, 3) := by decide +kernel
theorem dX10_bring_116 : decode cX10_bring 116 = .ok (.iload 7, 2) := by decide +kernel
theorem dX10_bring_118 : decode cX10_bring 118 = .ok (.invokevirtual 168, 3) := by decide +kernel
theorem dX10_bring_121 : decode cX10_bring 121 = .ok (.ireturn, 1) := by decide +kernel
set_option maxRecDepth 20000 in
theorem ggX10_lean_X10_isWithin : GoodIn wsX10_lean wsX10_isWithin := goodIn_r _ [5] (by decide +kernel) (by decide +kernel)
set_option maxRecDepth 20000 in
theorem gX10_lean_X10_isWithin : GoodIn wsX10_lean (va_wsS RX10 68 yX10_isWithin wsX10_isWithin) := goodIn_app (goodIn_of _ (by decide +kernel)) ggX10_lean_X10_isWithin
set_option maxRecDepth 20000 in
theorem ggX10_lean_X3_bestProposal : GoodIn wsX10_lean wsX3_bestProposal := goodIn_r _ [9, 10, 11, 8, 12, 13, 14, 15, 16, 17, 18, 19, 20, 21, 22, 23, 24, 25, 26, 27, 28, 29, 30, 31, 32, 33, 34, 35, 47, 48, 49, 50, 51, 52, 53, 54] (by decide +kernel) (by decide +kernel)
set_option maxRecDepth 20000 in
theorem gX10_lean_X3_bestProposal : GoodIn wsX10_lean (va_wsS RX10 171 yX3_bestProposal wsX3_bestProposal) := goodIn_app (goodIn_of _ (by decide +kernel)) ggX10_lean_X3_bestProposal
set_option maxRecDepth 20000 in
theorem ggX10_lean_X3_apartFrom : GoodIn wsX10_lean wsX3_apartFrom := goodIn_r _ [12, 13, 14, 15, 16, 17, 18, 19, 20, 21, 22, 23, 24, 25, 26, 27, 28, 29, 30, 31, 32, 33, 34, 35, 47, 48, 49, 50, 51, 52, 53, 54] (by decide +kernel) (by decide +kernel)
set_option maxRecDepth 20000 in
theorem gX10_lean_X3_apartFrom : GoodIn wsX10_lean (va_wsS RX10 174 yX3_apartFrom wsX3_apartFrom) := goodIn_app (goodIn_of _ (by decide +kernel)) ggX10_lean_X3_apartFrom
theorem dX10_lean_0 : decode cX10_lean 0 = .ok (.iload_n 1, 1) := by decide +kernel
theorem dX10_lean_1 : decode cX10_lean 1 = .ok (.iconst 0, 1) := by decide +kernel
theorem dX10_lean_2 : decode cX10_lean 2 = .ok (.iconst 1, 1) := by decide +kernel
theorem dX10_lean_3 : decode cX10_lean 3 = .ok (.invokestatic 68, 3) := by decide +kernel
theorem dX10_lean_6 : decode cX10_lean 6 = .ok (.ifCond .ne 6, 3) := by decide +kernel
theorem dX10_lean_9 : decode cX10_lean 9 = .ok (.bipush (-2), 2) := by decide +kernel
theorem dX10_lean_11 : decode cX10_lean 11 = .ok (.ireturn, 1) := by decide +kernel
theorem dX10_lean_12 : decode cX10_lean 12 = .ok (.aload_n 0, 1) := by decide +kernel
theorem dX10_lean_13 : decode cX10_lean 13 = .ok (.getfield 10, 3) := by decide +kernel
theorem dX10_lean_16 : decode cX10_lean 16 = .ok (.invokestatic 171, 3) := by decide +kernel
theorem dX10_lean_19 : decode cX10_lean 19 = .ok (.istore_n 2, 1) := by decide +kernel
theorem dX10_lean_20 : decode cX10_lean 20 = .ok (.iload_n 1, 1) := by decide +kernel
theorem dX10_lean_21 : decode cX10_lean 21 = .ok (.ifCond .ne 7, 3) := by decide +kernel
theorem dX10_lean_24 : decode cX10_lean 24 = .ok (.iload_n 2, 1) := by decide +kernel
theorem dX10_lean_25 : decode cX10_lean 25 = .ok (.goto 11, 3) := by decide +kernel
theorem dX10_lean_28 : decode cX10_lean 28 = .ok (.aload_n 0, 1) := by decide +kernel
theorem dX10_lean_29 : decode cX10_lean 29 = .ok (.getfield 10, 3) := by decide +kernel
theorem dX10_lean_32 : decode cX10_lean 32 = .ok (.iload_n 2, 1) := by decide +kernel
theorem dX10_lean_33 : decode cX10_lean 33 = .ok (.invokestatic 174, 3) := by decide +kernel
theorem dX10_lean_36 : decode cX10_lean 36 = .ok (.ireturn, 1) := by decide +kernel
set_option maxRecDepth 20000 in
theorem ggX10_bisect_X10_isWithin : GoodIn wsX10_bisect wsX10_isWithin := goodIn_r _ [5] (by decide +kernel) (by decide +kernel)
set_option maxRecDepth 20000 in
theorem gX10_bisect_X10_isWithin : GoodIn wsX10_bisect (va_wsS RX10 68 yX10_isWithin wsX10_isWithin) := goodIn_app (goodIn_of _ (by decide +kernel)) ggX10_bisect_X10_isWithin
set_option maxRecDepth 20000 in
theorem ggX10_bisect_X3_bestHalf : GoodIn wsX10_bisect wsX3_bestHalf := goodIn_r _ [9, 10, 11, 12, 8, 13, 14, 15, 16, 17, 18, 19, 20, 21, 22, 23, 24, 25, 26, 27, 28, 29, 30, 31, 32, 33, 34, 35, 36, 37, 38, 39, 40, 41, 42, 43, 44, 45, 46, 47, 48, 49, 50, 51, 52, 53, 54, 55, 67, 68, 69, 70, 71, 72, 73, 74] (by decide +kernel) (by decide +kernel)
set_option maxRecDepth 20000 in
theorem gX10_bisect_X3_bestHalf : GoodIn wsX10_bisect (va_wsS RX10 178 yX3_bestHalf wsX3_bestHalf) := goodIn_app (goodIn_of _ (by decide +kernel)) ggX10_bisect_X3_bestHalf
set_option maxRecDepth 20000 in
theorem ggX10_bisect_X3_apartInHalves : GoodIn wsX10_bisect wsX3_apartInHalves := goodIn_r _ [23, 10, 24, 25, 8, 26, 27, 28, 29, 30, 31, 32, 33, 34, 35, 36, 37, 38, 39, 40, 41, 42, 43, 44, 45, 46, 47, 48, 49, 50, 51, 52, 53, 54, 55, 67, 68, 69, 70, 71, 72, 73, 74] (by decide +kernel) (by decide +kernel)
set_option maxRecDepth 20000 in
theorem gX10_bisect_X3_apartInHalves : GoodIn wsX10_bisect (va_wsS RX10 181 yX3_apartInHalves wsX3_apartInHalves) := goodIn_app (goodIn_of _ (by decide +kernel)) ggX10_bisect_X3_apartInHalves
theorem dX10_bisect_0 : decode cX10_bisect 0 = .ok (.iload_n 1, 1) := by decide +kernel
theorem dX10_bisect_1 : decode cX10_bisect 1 = .ok (.iconst 0, 1) := by decide +kernel
theorem dX10_bisect_2 : decode cX10_bisect 2 = .ok (.iconst 1, 1) := by decide +kernel
theorem dX10_bisect_3 : decode cX10_bisect 3 = .ok (.invokestatic 68, 3) := by decide +kernel
theorem dX10_bisect_6 : decode cX10_bisect 6 = .ok (.ifCond .ne 6, 3) := by decide +kernel
theorem dX10_bisect_9 : decode cX10_bisect 9 = .ok (.bipush (-2), 2) := by decide +kernel
theorem dX10_bisect_11 : decode cX10_bisect 11 = .ok (.ireturn, 1) := by decide +kernel
theorem dX10_bisect_12 : decode cX10_bisect 12 = .ok (.aload_n 0, 1) := by decide +kernel
theorem dX10_bisect_13 : decode cX10_bisect 13 = .ok (.getfield 10, 3) := by decide +kernel
theorem dX10_bisect_16 : decode cX10_bisect 16 = .ok (.invokestatic 178, 3) := by decide +kernel
theorem dX10_bisect_19 : decode cX10_bisect 19 = .ok (.istore_n 2, 1) := by decide +kernel
theorem dX10_bisect_20 : decode cX10_bisect 20 = .ok (.iload_n 1, 1) := by decide +kernel
theorem dX10_bisect_21 : decode cX10_bisect 21 = .ok (.ifCond .ne 14, 3) := by decide +kernel
theorem dX10_bisect_24 : decode cX10_bisect 24 = .ok (.aload_n 0, 1) := by decide +kernel
theorem dX10_bisect_25 : decode cX10_bisect 25 = .ok (.getfield 10, 3) := by decide +kernel
theorem dX10_bisect_28 : decode cX10_bisect 28 = .ok (.iload_n 2, 1) := by decide +kernel
theorem dX10_bisect_29 : decode cX10_bisect 29 = .ok (.invokestatic 181, 3) := by decide +kernel
theorem dX10_bisect_32 : decode cX10_bisect 32 = .ok (.goto 4, 3) := by decide +kernel
theorem dX10_bisect_35 : decode cX10_bisect 35 = .ok (.iload_n 2, 1) := by decide +kernel
theorem dX10_bisect_36 : decode cX10_bisect 36 = .ok (.ireturn, 1) := by decide +kernel
set_option maxRecDepth 20000 in
theorem ggX10_meet_X2_isThere : GoodIn wsX10_meet wsX2_isThere := goodIn_r _ [6, 7, 37, 38, 39, 40, 41, 42, 43, 44] (by decide +kernel) (by decide +kernel)
set_option maxRecDepth 20000 in
theorem gX10_meet_X2_isThere : GoodIn wsX10_meet (wsV RX10 80 RX2 yX2_isThere wsX2_isThere) := goodIn_app (goodIn_of _ (by decide +kernel)) ggX10_meet_X2_isThere
set_option maxRecDepth 20000 in
theorem ggX10_meet_X3_yearsToMeet : GoodIn wsX10_meet wsX3_yearsToMeet := goodIn_r _ [11, 12, 13, 14, 5, 15, 16, 17, 3, 4, 6, 7, 18, 19, 20, 21, 22, 23, 24, 25, 26, 37, 38, 39, 40, 41, 42, 43, 44] (by decide +kernel) (by decide +kernel)
set_option maxRecDepth 20000 in
theorem gX10_meet_X3_yearsToMeet : GoodIn wsX10_meet (va_wsS RX10 184 yX3_yearsToMeet wsX3_yearsToMeet) := goodIn_app (goodIn_of _ (by decide +kernel)) ggX10_meet_X3_yearsToMeet
theorem dX10_meet_0 : decode cX10_meet 0 = .ok (.aload_n 0, 1) := by decide +kernel
theorem dX10_meet_1 : decode cX10_meet 1 = .ok (.getfield 10, 3) := by decide +kernel
theorem dX10_meet_4 : decode cX10_meet 4 = .ok (.iload_n 1, 1) := by decide +kernel
theorem dX10_meet_5 : decode cX10_meet 5 = .ok (.invokevirtual 80, 3) := by decide +kernel
theorem dX10_meet_8 : decode cX10_meet 8 = .ok (.ifCond .eq 14, 3) := by decide +kernel
theorem dX10_meet_11 : decode cX10_meet 11 = .ok (.aload_n 0, 1) := by decide +kernel
theorem dX10_meet_12 : decode cX10_meet 12 = .ok (.getfield 10, 3) := by decide +kernel
theorem dX10_meet_15 : decode cX10_meet 15 = .ok (.iload_n 2, 1) := by decide +kernel
theorem dX10_meet_16 : decode cX10_meet 16 = .ok (.invokevirtual 80, 3) := by decide +kernel
theorem dX10_meet_19 : decode cX10_meet 19 = .ok (.ifCond .ne 5, 3) := by decide +kernel
theorem dX10_meet_22 : decode cX10_meet 22 = .ok (.iconst (-1), 1) := by decide +kernel
theorem dX10_meet_23 : decode cX10_meet 23 = .ok (.ireturn, 1) := by decide +kernel
theorem dX10_meet_24 : decode cX10_meet 24 = .ok (.aload_n 0, 1) := by decide +kernel
theorem dX10_meet_25 : decode cX10_meet 25 = .ok (.getfield 10, 3) := by decide +kernel
theorem dX10_meet_28 : decode cX10_meet 28 = .ok (.iload_n 1, 1) := by decide +kernel
theorem dX10_meet_29 : decode cX10_meet 29 = .ok (.iload_n 2, 1) := by decide +kernel
theorem dX10_meet_30 : decode cX10_meet 30 = .ok (.invokestatic 184, 3) := by decide +kernel
theorem dX10_meet_33 : decode cX10_meet 33 = .ok (.ireturn, 1) := by decide +kernel
set_option maxRecDepth 20000 in
theorem ggX10_chalk_X10_isWithin : GoodIn wsX10_chalk wsX10_isWithin := goodIn_r _ [7] (by decide +kernel) (by decide +kernel)
set_option maxRecDepth 20000 in
theorem gX10_chalk_X10_isWithin : GoodIn wsX10_chalk (va_wsS RX10 68 yX10_isWithin wsX10_isWithin) := goodIn_app (goodIn_of _ (by decide +kernel)) ggX10_chalk_X10_isWithin
set_option maxRecDepth 20000 in
theorem ggX10_chalk_X1_put : GoodIn wsX10_chalk wsX1_put := goodIn_r _ [12, 13, 14, 15, 34, 35, 36] (by decide +kernel) (by decide +kernel)
set_option maxRecDepth 20000 in
theorem gX10_chalk_X1_put : GoodIn wsX10_chalk (wsV RX10 192 RX1 yX1_put wsX1_put) := goodIn_app (goodIn_of _ (by decide +kernel)) ggX10_chalk_X1_put
theorem dX10_chalk_0 : decode cX10_chalk 0 = .ok (.iload_n 1, 1) := by decide +kernel
theorem dX10_chalk_1 : decode cX10_chalk 1 = .ok (.iconst 0, 1) := by decide +kernel
theorem dX10_chalk_2 : decode cX10_chalk 2 = .ok (.bipush 60, 2) := by decide +kernel
theorem dX10_chalk_4 : decode cX10_chalk 4 = .ok (.invokestatic 68, 3) := by decide +kernel
theorem dX10_chalk_7 : decode cX10_chalk 7 = .ok (.ifCond .eq 14, 3) := by decide +kernel
theorem dX10_chalk_10 : decode cX10_chalk 10 = .ok (.iload_n 2, 1) := by decide +kernel
theorem dX10_chalk_11 : decode cX10_chalk 11 = .ok (.iconst 0, 1) := by decide +kernel
theorem dX10_chalk_12 : decode cX10_chalk 12 = .ok (.sipush 179, 3) := by decide +kernel
theorem dX10_chalk_15 : decode cX10_chalk 15 = .ok (.invokestatic 68, 3) := by decide +kernel
theorem dX10_chalk_18 : decode cX10_chalk 18 = .ok (.ifCond .ne 6, 3) := by decide +kernel
theorem dX10_chalk_21 : decode cX10_chalk 21 = .ok (.bipush (-2), 2) := by decide +kernel
theorem dX10_chalk_23 : decode cX10_chalk 23 = .ok (.ireturn, 1) := by decide +kernel
theorem dX10_chalk_24 : decode cX10_chalk 24 = .ok (.aload_n 0, 1) := by decide +kernel
theorem dX10_chalk_25 : decode cX10_chalk 25 = .ok (.getfield 10, 3) := by decide +kernel
theorem dX10_chalk_28 : decode cX10_chalk 28 = .ok (.getfield 188, 3) := by decide +kernel
theorem dX10_chalk_31 : decode cX10_chalk 31 = .ok (.iload_n 1, 1) := by decide +kernel
theorem dX10_chalk_32 : decode cX10_chalk 32 = .ok (.iload_n 2, 1) := by decide +kernel
theorem dX10_chalk_33 : decode cX10_chalk 33 = .ok (.invokevirtual 192, 3) := by decide +kernel
theorem dX10_chalk_36 : decode cX10_chalk 36 = .ok (.ifCond .eq 16, 3) := by decide +kernel
theorem dX10_chalk_39 : decode cX10_chalk 39 = .ok (.aload_n 0, 1) := by decide +kernel
theorem dX10_chalk_40 : decode cX10_chalk 40 = .ok (.getfield 10, 3) := by decide +kernel
theorem dX10_chalk_43 : decode cX10_chalk 43 = .ok (.getfield 188, 3) := by decide +kernel
theorem dX10_chalk_46 : decode cX10_chalk 46 = .ok (.getfield 198, 3) := by decide +kernel
theorem dX10_chalk_49 : decode cX10_chalk 49 = .ok (.goto 5, 3) := by decide +kernel
theorem dX10_chalk_52 : decode cX10_chalk 52 = .ok (.bipush (-4), 2) := by decide +kernel
theorem dX10_chalk_54 : decode cX10_chalk 54 = .ok (.ireturn, 1) := by decide +kernel
theorem dX10_forget_0 : decode cX10_forget 0 = .ok (.aload_n 0, 1) := by decide +kernel
theorem dX10_forget_1 : decode cX10_forget 1 = .ok (.getfield 10, 3) := by decide +kernel
theorem dX10_forget_4 : decode cX10_forget 4 = .ok (.getfield 188, 3) := by decide +kernel
theorem dX10_forget_7 : decode cX10_forget 7 = .ok (.getfield 198, 3) := by decide +kernel
theorem dX10_forget_10 : decode cX10_forget 10 = .ok (.istore_n 1, 1) := by decide +kernel
theorem dX10_forget_11 : decode cX10_forget 11 = .ok (.aload_n 0, 1) := by decide +kernel
theorem dX10_forget_12 : decode cX10_forget 12 = .ok (.getfield 10, 3) := by decide +kernel
theorem dX10_forget_15 : decode cX10_forget 15 = .ok (.getfield 188, 3) := by decide +kernel
theorem dX10_forget_18 : decode cX10_forget 18 = .ok (.iconst 0, 1) := by decide +kernel
theorem dX10_forget_19 : decode cX10_forget 19 = .ok (.putfield 198, 3) := by decide +kernel
theorem dX10_forget_22 : decode cX10_forget 22 = .ok (.iload_n 1, 1) := by decide +kernel
theorem dX10_forget_23 : decode cX10_forget 23 = .ok (.ireturn, 1) := by decide +kernel
set_option maxRecDepth 20000 in
theorem ggX10_was_X10_isWithin : GoodIn wsX10_was wsX10_isWithin := goodIn_r _ [6] (by decide +kernel) (by decide +kernel)
set_option maxRecDepth 20000 in
theorem gX10_was_X10_isWithin : GoodIn wsX10_was (va_wsS RX10 68 yX10_isWithin wsX10_isWithin) := goodIn_app (goodIn_of _ (by decide +kernel)) ggX10_was_X10_isWithin
set_option maxRecDepth 20000 in
theorem ggX10_was_X1_countFits : GoodIn wsX10_was wsX1_countFits := goodIn_r _ [11, 12, 13, 14, 10, 15, 16, 17, 18, 19, 20, 21, 22, 45, 46, 47] (by decide +kernel) (by decide +kernel)
set_option maxRecDepth 20000 in
theorem gX10_was_X1_countFits : GoodIn wsX10_was (wsV RX10 201 RX1 yX1_countFits wsX1_countFits) := goodIn_app (goodIn_of _ (by decide +kernel)) ggX10_was_X1_countFits
set_option maxRecDepth 20000 in
theorem ggX10_was_X1_fitAt : GoodIn wsX10_was wsX1_fitAt := goodIn_r _ [26, 12, 13, 14, 10, 15, 16, 17, 18, 19, 20, 21, 22, 45, 46, 47] (by decide +kernel) (by decide +kernel)
set_option maxRecDepth 20000 in
theorem gX10_was_X1_fitAt : GoodIn wsX10_was (wsV RX10 204 RX1 yX1_fitAt wsX1_fitAt) := goodIn_app (goodIn_of _ (by decide +kernel)) ggX10_was_X1_fitAt
theorem dX10_was_0 : decode cX10_was 0 = .ok (.iload_n 1, 1) := by decide +kernel
theorem dX10_was_1 : decode cX10_was 1 = .ok (.iconst 0, 1) := by decide +kernel
theorem dX10_was_2 : decode cX10_was 2 = .ok (.iconst 2, 1) := by decide +kernel
theorem dX10_was_3 : decode cX10_was 3 = .ok (.invokestatic 68, 3) := by decide +kernel
theorem dX10_was_6 : decode cX10_was 6 = .ok (.ifCond .ne 6, 3) := by decide +kernel
theorem dX10_was_9 : decode cX10_was 9 = .ok (.bipush (-2), 2) := by decide +kernel
theorem dX10_was_11 : decode cX10_was 11 = .ok (.ireturn, 1) := by decide +kernel
theorem dX10_was_12 : decode cX10_was 12 = .ok (.iload_n 2, 1) := by decide +kernel
theorem dX10_was_13 : decode cX10_was 13 = .ok (.iconst (-1), 1) := by decide +kernel
theorem dX10_was_14 : decode cX10_was 14 = .ok (.if_icmp .ne 17, 3) := by decide +kernel
theorem dX10_was_17 : decode cX10_was 17 = .ok (.aload_n 0, 1) := by decide +kernel
theorem dX10_was_18 : decode cX10_was 18 = .ok (.getfield 10, 3) := by decide +kernel
theorem dX10_was_21 : decode cX10_was 21 = .ok (.getfield 188, 3) := by decide +kernel
theorem dX10_was_24 : decode cX10_was 24 = .ok (.iload_n 1, 1) := by decide +kernel
theorem dX10_was_25 : decode cX10_was 25 = .ok (.invokevirtual 201, 3) := by decide +kernel
theorem dX10_was_28 : decode cX10_was 28 = .ok (.goto 15, 3) := by decide +kernel
theorem dX10_was_31 : decode cX10_was 31 = .ok (.aload_n 0, 1) := by decide +kernel
theorem dX10_was_32 : decode cX10_was 32 = .ok (.getfield 10, 3) := by decide +kernel
theorem dX10_was_35 : decode cX10_was 35 = .ok (.getfield 188, 3) := by decide +kernel
theorem dX10_was_38 : decode cX10_was 38 = .ok (.iload_n 1, 1) := by decide +kernel
theorem dX10_was_39 : decode cX10_was 39 = .ok (.iload_n 2, 1) := by decide +kernel
theorem dX10_was_40 : decode cX10_was 40 = .ok (.invokevirtual 204, 3) := by decide +kernel
theorem dX10_was_43 : decode cX10_was 43 = .ok (.ireturn, 1) := by decide +kernel
set_option maxRecDepth 20000 in
theorem ggX10_ask_X10_isWithin : GoodIn wsX10_ask wsX10_isWithin := goodIn_r _ [9] (by decide +kernel) (by decide +kernel)
set_option maxRecDepth 20000 in
theorem gX10_ask_X10_isWithin : GoodIn wsX10_ask (va_wsS RX10 68 yX10_isWithin wsX10_isWithin) := goodIn_app (goodIn_of _ (by decide +kernel)) ggX10_ask_X10_isWithin
set_option maxRecDepth 20000 in
theorem ggX10_ask_X0_weigh : GoodIn wsX10_ask wsX0_weigh := goodIn_r _ [14, 15, 16, 17, 18, 19, 20, 21, 22, 23, 24, 25, 26, 27, 28, 29, 30, 31, 32, 33, 34, 35, 13, 36, 37, 38, 39, 40, 41, 42, 43, 62, 63, 64, 65, 66, 67] (by decide +kernel) (by decide +kernel)
set_option maxRecDepth 20000 in
theorem gX10_ask_X0_weigh : GoodIn wsX10_ask (wsV RX10 207 RX0 yX0_weigh wsX0_weigh) := goodIn_app (goodIn_of _ (by decide +kernel)) ggX10_ask_X0_weigh
theorem dX10_ask_0 : decode cX10_ask 0 = .ok (.iload_n 1, 1) := by decide +kernel
theorem dX10_ask_1 : decode cX10_ask 1 = .ok (.iconst 0, 1) := by decide +kernel
theorem dX10_ask_2 : decode cX10_ask 2 = .ok (.iconst 1, 1) := by decide +kernel
theorem dX10_ask_3 : decode cX10_ask 3 = .ok (.invokestatic 68, 3) := by decide +kernel
theorem dX10_ask_6 : decode cX10_ask 6 = .ok (.ifCond .ne 6, 3) := by decide +kernel
theorem dX10_ask_9 : decode cX10_ask 9 = .ok (.bipush (-2), 2) := by decide +kernel
theorem dX10_ask_11 : decode cX10_ask 11 = .ok (.ireturn, 1) := by decide +kernel
theorem dX10_ask_12 : decode cX10_ask 12 = .ok (.aload_n 0, 1) := by decide +kernel
theorem dX10_ask_13 : decode cX10_ask 13 = .ok (.getfield 50, 3) := by decide +kernel
theorem dX10_ask_16 : decode cX10_ask 16 = .ok (.aload_n 0, 1) := by decide +kernel
theorem dX10_ask_17 : decode cX10_ask 17 = .ok (.getfield 10, 3) := by decide +kernel
theorem dX10_ask_20 : decode cX10_ask 20 = .ok (.getfield 188, 3) := by decide +kernel
theorem dX10_ask_23 : decode cX10_ask 23 = .ok (.invokevirtual 207, 3) := by decide +kernel
theorem dX10_ask_26 : decode cX10_ask 26 = .ok (.iload_n 1, 1) := by decide +kernel
theorem dX10_ask_27 : decode cX10_ask 27 = .ok (.ifCond .ne 13, 3) := by decide +kernel
theorem dX10_ask_30 : decode cX10_ask 30 = .ok (.aload_n 0, 1) := by decide +kernel
theorem dX10_ask_31 : decode cX10_ask 31 = .ok (.getfield 50, 3) := by decide +kernel
theorem dX10_ask_34 : decode cX10_ask 34 = .ok (.getfield 211, 3) := by decide +kernel
theorem dX10_ask_37 : decode cX10_ask 37 = .ok (.goto 10, 3) := by decide +kernel
theorem dX10_ask_40 : decode cX10_ask 40 = .ok (.aload_n 0, 1) := by decide +kernel
theorem dX10_ask_41 : decode cX10_ask 41 = .ok (.getfield 50, 3) := by decide +kernel
theorem dX10_ask_44 : decode cX10_ask 44 = .ok (.getfield 214, 3) := by decide +kernel
theorem dX10_ask_47 : decode cX10_ask 47 = .ok (.ireturn, 1) := by decide +kernel
set_option maxRecDepth 20000 in
theorem ggX10_take_X10_isWithin : GoodIn wsX10_take wsX10_isWithin := goodIn_r _ [5] (by decide +kernel) (by decide +kernel)
set_option maxRecDepth 20000 in
theorem gX10_take_X10_isWithin : GoodIn wsX10_take (va_wsS RX10 68 yX10_isWithin wsX10_isWithin) := goodIn_app (goodIn_of _ (by decide +kernel)) ggX10_take_X10_isWithin
set_option maxRecDepth 20000 in
theorem ggX10_take_X6_firstOf : GoodIn wsX10_take wsX6_firstOf := goodIn_r _ [10, 11, 12, 13, 14, 9, 15, 16, 17, 18, 19, 20, 21, 22, 23, 34] (by decide +kernel) (by decide +kernel)
set_option maxRecDepth 20000 in
theorem gX10_take_X6_firstOf : GoodIn wsX10_take (wsV RX10 217 RX6 yX6_firstOf wsX6_firstOf) := goodIn_app (goodIn_of _ (by decide +kernel)) ggX10_take_X6_firstOf
theorem dX10_take_0 : decode cX10_take 0 = .ok (.iload_n 1, 1) := by decide +kernel
theorem dX10_take_1 : decode cX10_take 1 = .ok (.iconst 0, 1) := by decide +kernel
theorem dX10_take_2 : decode cX10_take 2 = .ok (.sipush 179, 3) := by decide +kernel
theorem dX10_take_5 : decode cX10_take 5 = .ok (.invokestatic 68, 3) := by decide +kernel
theorem dX10_take_8 : decode cX10_take 8 = .ok (.ifCond .eq 12, 3) := by decide +kernel
theorem dX10_take_11 : decode cX10_take 11 = .ok (.iload_n 2, 1) := by decide +kernel
theorem dX10_take_12 : decode cX10_take 12 = .ok (.iconst 0, 1) := by decide +kernel
theorem dX10_take_13 : decode cX10_take 13 = .ok (.iconst 1, 1) := by decide +kernel
theorem dX10_take_14 : decode cX10_take 14 = .ok (.invokestatic 68, 3) := by decide +kernel
theorem dX10_take_17 : decode cX10_take 17 = .ok (.ifCond .ne 6, 3) := by decide +kernel
theorem dX10_take_20 : decode cX10_take 20 = .ok (.bipush (-2), 2) := by decide +kernel
theorem dX10_take_22 : decode cX10_take 22 = .ok (.ireturn, 1) := by decide +kernel
theorem dX10_take_23 : decode cX10_take 23 = .ok (.aload_n 0, 1) := by decide +kernel
theorem dX10_take_24 : decode cX10_take 24 = .ok (.getfield 57, 3) := by decide +kernel
theorem dX10_take_27 : decode cX10_take 27 = .ok (.iload_n 1, 1) := by decide +kernel
theorem dX10_take_28 : decode cX10_take 28 = .ok (.invokevirtual 217, 3) := by decide +kernel
theorem dX10_take_31 : decode cX10_take 31 = .ok (.istore_n 3, 1) := by decide +kernel
theorem dX10_take_32 : decode cX10_take 32 = .ok (.iload_n 2, 1) := by decide +kernel
theorem dX10_take_33 : decode cX10_take 33 = .ok (.ifCond .ne 15, 3) := by decide +kernel
theorem dX10_take_36 : decode cX10_take 36 = .ok (.iload_n 3, 1) := by decide +kernel
theorem dX10_take_37 : decode cX10_take 37 = .ok (.bipush (-6), 2) := by decide +kernel
theorem dX10_take_39 : decode cX10_take 39 = .ok (.if_icmp .ne 7, 3) := by decide +kernel
theorem dX10_take_42 : decode cX10_take 42 = .ok (.iconst 0, 1) := by decide +kernel
theorem dX10_take_43 : decode cX10_take 43 = .ok (.goto 4, 3) := by decide +kernel
theorem dX10_take_46 : decode cX10_take 46 = .ok (.iconst 1, 1) := by decide +kernel
theorem dX10_take_47 : decode cX10_take 47 = .ok (.ireturn, 1) := by decide +kernel
theorem dX10_take_48 : decode cX10_take 48 = .ok (.iload_n 3, 1) := by decide +kernel
theorem dX10_take_49 : decode cX10_take 49 = .ok (.ireturn, 1) := by decide +kernel
set_option maxRecDepth 20000 in
theorem ggX10_cock_X10_isWithin : GoodIn wsX10_cock wsX10_isWithin := goodIn_r _ [6] (by decide +kernel) (by decide +kernel)
set_option maxRecDepth 20000 in
theorem gX10_cock_X10_isWithin : GoodIn wsX10_cock (va_wsS RX10 68 yX10_isWithin wsX10_isWithin) := goodIn_app (goodIn_of _ (by decide +kernel)) ggX10_cock_X10_isWithin
set_option maxRecDepth 20000 in
theorem ggX10_cock_X8_start : GoodIn wsX10_cock wsX8_start := goodIn_r _ [11, 12, 13, 14, 15, 16, 17, 18, 19, 20, 21, 57, 58, 59, 60] (by decide +kernel) (by decide +kernel)
set_option maxRecDepth 20000 in
theorem gX10_cock_X8_start : GoodIn wsX10_cock (wsV RX10 222 RX8 yX8_start wsX8_start) := goodIn_app (goodIn_of _ (by decide +kernel)) ggX10_cock_X8_start
set_option maxRecDepth 20000 in
theorem ggX10_cock_X8_turn : GoodIn wsX10_cock wsX8_turn := goodIn_r _ [25, 19, 26, 21, 20, 27, 28, 29, 30, 10, 31, 57, 58, 59, 60] (by decide +kernel) (by decide +kernel)
set_option maxRecDepth 20000 in
theorem gX10_cock_X8_turn : GoodIn wsX10_cock (wsV RX10 225 RX8 yX8_turn wsX8_turn) := goodIn_app (goodIn_of _ (by decide +kernel)) ggX10_cock_X8_turn
set_option maxRecDepth 20000 in
theorem ggX10_cock_X8_upperAt : GoodIn wsX10_cock wsX8_upperAt := goodIn_r _ [35, 28, 29, 30, 10, 31, 19, 21, 36, 37, 38, 39, 20, 40, 41, 42, 57, 58, 59, 60] (by decide +kernel) (by decide +kernel)
set_option maxRecDepth 20000 in
theorem gX10_cock_X8_upperAt : GoodIn wsX10_cock (wsV RX10 228 RX8 yX8_upperAt wsX8_upperAt) := goodIn_app (goodIn_of _ (by decide +kernel)) ggX10_cock_X8_upperAt
set_option maxRecDepth 20000 in
theorem ggX10_cock_X8_lowerAt : GoodIn wsX10_cock wsX8_lowerAt := goodIn_r _ [46, 20, 36, 37, 38, 10, 39, 28, 29, 30, 31, 19, 21, 40, 41, 42, 57, 58, 59, 60] (by decide +kernel) (by decide +kernel)
set_option maxRecDepth 20000 in
theorem gX10_cock_X8_lowerAt : GoodIn wsX10_cock (wsV RX10 232 RX8 yX8_lowerAt wsX8_lowerAt) := goodIn_app (goodIn_of _ (by decide +kernel)) ggX10_cock_X8_lowerAt
theorem dX10_cock_0 : decode cX10_cock 0 = .ok (.iload_n 1, 1) := by decide +kernel
theorem dX10_cock_1 : decode cX10_cock 1 = .ok (.iconst 2, 1) := by decide +kernel
theorem dX10_cock_2 : decode cX10_cock 2 = .ok (.bipush 12, 2) := by decide +kernel
theorem dX10_cock_4 : decode cX10_cock 4 = .ok (.invokestatic 68, 3) := by decide +kernel
theorem dX10_cock_7 : decode cX10_cock 7 = .ok (.ifCond .eq 70, 3) := by decide +kernel
theorem dX10_cock_10 : decode cX10_cock 10 = .ok (.iload_n 2, 1) := by decide +kernel
theorem dX10_cock_11 : decode cX10_cock 11 = .ok (.iconst 0, 1) := by decide +kernel
theorem dX10_cock_12 : decode cX10_cock 12 = .ok (.iload_n 1, 1) := by decide +kernel
theorem dX10_cock_13 : decode cX10_cock 13 = .ok (.iconst 1, 1) := by decide +kernel
theorem dX10_cock_14 : decode cX10_cock 14 = .ok (.isub, 1) := by decide +kernel
theorem dX10_cock_15 : decode cX10_cock 15 = .ok (.invokestatic 68, 3) := by decide +kernel
theorem dX10_cock_18 : decode cX10_cock 18 = .ok (.ifCond .eq 59, 3) := by decide +kernel
theorem dX10_cock_21 : decode cX10_cock 21 = .ok (.iload 6, 2) := by decide +kernel
theorem dX10_cock_23 : decode cX10_cock 23 = .ok (.iconst 0, 1) := by decide +kernel
theorem dX10_cock_24 : decode cX10_cock 24 = .ok (.iload_n 1, 1) := by decide +kernel
theorem dX10_cock_25 : decode cX10_cock 25 = .ok (.iconst 1, 1) := by decide +kernel
theorem dX10_cock_26 : decode cX10_cock 26 = .ok (.isub, 1) := by decide +kernel
theorem dX10_cock_27 : decode cX10_cock 27 = .ok (.invokestatic 68, 3) := by decide +kernel
theorem dX10_cock_30 : decode cX10_cock 30 = .ok (.ifCond .eq 47, 3) := by decide +kernel
theorem dX10_cock_33 : decode cX10_cock 33 = .ok (.iload_n 3, 1) := by decide +kernel
theorem dX10_cock_34 : decode cX10_cock 34 = .ok (.iconst 0, 1) := by decide +kernel
theorem dX10_cock_35 : decode cX10_cock 35 = .ok (.bipush 10, 2) := by decide +kernel
theorem dX10_cock_37 : decode cX10_cock 37 = .ok (.invokestatic 68, 3) := by decide +kernel
theorem dX10_cock_40 : decode cX10_cock 40 = .ok (.ifCond .eq 37, 3) := by decide +kernel
theorem dX10_cock_43 : decode cX10_cock 43 = .ok (.iload 4, 2) := by decide +kernel
theorem dX10_cock_45 : decode cX10_cock 45 = .ok (.iconst 0, 1) := by decide +kernel
theorem dX10_cock_46 : decode cX10_cock 46 = .ok (.bipush 10, 2) := by decide +kernel
theorem dX10_cock_48 : decode cX10_cock 48 = .ok (.iload_n 3, 1) := by decide +kernel
theorem dX10_cock_49 : decode cX10_cock 49 = .ok (.isub, 1) := by decide +kernel
theorem dX10_cock_50 : decode cX10_cock 50 = .ok (.invokestatic 68, 3) := by decide +kernel
theorem dX10_cock_53 : decode cX10_cock 53 = .ok (.ifCond .eq 24, 3) := by decide +kernel
theorem dX10_cock_56 : decode cX10_cock 56 = .ok (.iload 5, 2) := by decide +kernel
theorem dX10_cock_58 : decode cX10_cock 58 = .ok (.iconst 0, 1) := by decide +kernel
theorem dX10_cock_59 : decode cX10_cock 59 = .ok (.bipush 16, 2) := by decide +kernel
theorem dX10_cock_61 : decode cX10_cock 61 = .ok (.invokestatic 68, 3) := by decide +kernel
theorem dX10_cock_64 : decode cX10_cock 64 = .ok (.ifCond .eq 13, 3) := by decide +kernel
theorem dX10_cock_67 : decode cX10_cock 67 = .ok (.iload 7, 2) := by decide +kernel
theorem dX10_cock_69 : decode cX10_cock 69 = .ok (.iconst 0, 1) := by decide +kernel
theorem dX10_cock_70 : decode cX10_cock 70 = .ok (.iconst 1, 1) := by decide +kernel
theorem dX10_cock_71 : decode cX10_cock 71 = .ok (.invokestatic 68, 3) := by decide +kernel
theorem dX10_cock_74 : decode cX10_cock 74 = .ok (.ifCond .ne 7, 3) := by decide +kernel
theorem dX10_cock_77 : decode cX10_cock 77 = .ok (.ldc2_w 220, 3) := by decide +kernel
theorem dX10_cock_80 : decode cX10_cock 80 = .ok (.lreturn, 1) := by decide +kernel
theorem dX10_cock_81 : decode cX10_cock 81 = .ok (.aload_n 0, 1) := by decide +kernel
theorem dX10_cock_82 : decode cX10_cock 82 = .ok (.getfield 64, 3) := by decide +kernel
theorem dX10_cock_85 : decode cX10_cock 85 = .ok (.iload_n 1, 1) := by decide +kernel
theorem dX10_cock_86 : decode cX10_cock 86 = .ok (.iload_n 2, 1) := by decide +kernel
theorem dX10_cock_87 : decode cX10_cock 87 = .ok (.invokevirtual 222, 3) := by decide +kernel
theorem dX10_cock_90 : decode cX10_cock 90 = .ok (.iconst 0, 1) := by decide +kernel
theorem dX10_cock_91 : decode cX10_cock 91 = .ok (.istore 8, 2) := by decide +kernel
theorem dX10_cock_93 : decode cX10_cock 93 = .ok (.iload 8, 2) := by decide +kernel
theorem dX10_cock_95 : decode cX10_cock 95 = .ok (.iload 5, 2) := by decide +kernel
theorem dX10_cock_97 : decode cX10_cock 97 = .ok (.if_icmp .ge 19, 3) := by decide +kernel
theorem dX10_cock_100 : decode cX10_cock 100 = .ok (.aload_n 0, 1) := by decide +kernel
theorem dX10_cock_101 : decode cX10_cock 101 = .ok (.getfield 64, 3) := by decide +kernel
theorem dX10_cock_104 : decode cX10_cock 104 = .ok (.iload_n 3, 1) := by decide +kernel
theorem dX10_cock_105 : decode cX10_cock 105 = .ok (.iload 4, 2) := by decide +kernel
theorem dX10_cock_107 : decode cX10_cock 107 = .ok (.invokevirtual 225, 3) := by decide +kernel
theorem dX10_cock_110 : decode cX10_cock 110 = .ok (.iinc 8 1, 3) := by decide +kernel
theorem dX10_cock_113 : decode cX10_cock 113 = .ok (.goto (-20), 3) := by decide +kernel
theorem dX10_cock_116 : decode cX10_cock 116 = .ok (.iload 7, 2) := by decide +kernel
theorem dX10_cock_118 : decode cX10_cock 118 = .ok (.ifCond .ne 15, 3) := by decide +kernel
theorem dX10_cock_121 : decode cX10_cock 121 = .ok (.aload_n 0, 1) := by decide +kernel
theorem dX10_cock_122 : decode cX10_cock 122 = .ok (.getfield 64, 3) := by decide +kernel
theorem dX10_cock_125 : decode cX10_cock 125 = .ok (.iload 6, 2) := by decide +kernel
theorem dX10_cock_127 : decode cX10_cock 127 = .ok (.invokevirtual 228, 3) := by decide +kernel
theorem dX10_cock_130 : decode cX10_cock 130 = .ok (.goto 12, 3) := by decide +kernel
theorem dX10_cock_133 : decode cX10_cock 133 = .ok (.aload_n 0, 1) := by decide +kernel
theorem dX10_cock_134 : decode cX10_cock 134 = .ok (.getfield 64, 3) := by decide +kernel
theorem dX10_cock_137 : decode cX10_cock 137 = .ok (.iload 6, 2) := by decide +kernel
theorem dX10_cock_139 : decode cX10_cock 139 = .ok (.invokevirtual 232, 3) := by decide +kernel
theorem dX10_cock_142 : decode cX10_cock 142 = .ok (.lreturn, 1) := by decide +kernel
set_option maxRecDepth 20000 in
theorem ggX10_book_X10_isWithin : GoodIn wsX10_book wsX10_isWithin := goodIn_r _ [7] (by decide +kernel) (by decide +kernel)
set_option maxRecDepth 20000 in
theorem gX10_book_X10_isWithin : GoodIn wsX10_book (va_wsS RX10 68 yX10_isWithin wsX10_isWithin) := goodIn_app (goodIn_of _ (by decide +kernel)) ggX10_book_X10_isWithin
set_option maxRecDepth 20000 in
theorem ggX10_book_X9_draw : GoodIn wsX10_book wsX9_draw := goodIn_r _ [12, 13, 14, 15, 16, 17, 11, 18, 19, 20, 21, 22, 23, 24, 25, 26, 27, 28, 29, 30, 31, 32, 33, 34, 35, 36, 37, 38, 39, 40, 41, 42, 43, 44, 45, 46, 47, 48, 49, 50, 51, 52, 53, 54, 55, 56, 57, 58, 59, 60, 61, 62, 63, 64, 65, 66, 67, 68, 69, 70, 71, 72, 73, 74, 75, 76, 77, 78, 79, 80, 81, 82, 83, 84, 85, 86, 87, 140, 141, 142, 143, 144, 145, 146, 147, 148, 149, 150, 151, 152, 153, 154, 155, 156] (by decide +kernel) (by decide +kernel)
set_option maxRecDepth 20000 in
theorem gX10_book_X9_draw : GoodIn wsX10_book (wsV RX10 235 RX9 yX9_draw wsX9_draw) := goodIn_app (goodIn_of _ (by decide +kernel)) ggX10_book_X9_draw
set_option maxRecDepth 20000 in
theorem ggX10_book_X2_inclinesAdded : GoodIn wsX10_book wsX2_inclinesAdded := goodIn_r _ [91, 92, 93, 94, 27, 95, 29, 51, 52, 53, 54, 33, 146, 147, 148, 149, 150, 151, 152, 153] (by decide +kernel) (by decide +kernel)
set_option maxRecDepth 20000 in
theorem gX10_book_X2_inclinesAdded : GoodIn wsX10_book (wsV RX10 239 RX2 yX2_inclinesAdded wsX2_inclinesAdded) := goodIn_app (goodIn_of _ (by decide +kernel)) ggX10_book_X2_inclinesAdded
set_option maxRecDepth 20000 in
theorem ggX10_book_X2_pairsSitting : GoodIn wsX10_book wsX2_pairsSitting := goodIn_r _ [99, 55, 56, 57, 27, 58, 31, 51, 52, 53, 54, 33, 146, 147, 148, 149, 150, 151, 152, 153] (by decide +kernel) (by decide +kernel)
set_option maxRecDepth 20000 in
theorem gX10_book_X2_pairsSitting : GoodIn wsX10_book (wsV RX10 96 RX2 yX2_pairsSitting wsX2_pairsSitting) := goodIn_app (goodIn_of _ (by decide +kernel)) ggX10_book_X2_pairsSitting
set_option maxRecDepth 20000 in
theorem ggX10_book_X3_triangleCount : GoodIn wsX10_book wsX3_triangleCount := goodIn_r _ [103, 104, 105, 102, 106, 107, 108, 109, 110, 111, 112, 113, 114, 115, 116, 117, 118, 119, 120, 27, 121, 92, 93, 94, 95, 29, 51, 52, 53, 54, 33, 122, 123, 69, 124, 125, 126, 127, 128, 129, 68, 70, 146, 147, 148, 149, 150, 151, 152, 153] (by decide +kernel) (by decide +kernel)
set_option maxRecDepth 20000 in
theorem gX10_book_X3_triangleCount : GoodIn wsX10_book (va_wsS RX10 152 yX3_triangleCount wsX3_triangleCount) := goodIn_app (goodIn_of _ (by decide +kernel)) ggX10_book_X3_triangleCount
theorem dX10_book_0 : decode cX10_book 0 = .ok (.iload_n 1, 1) := by decide +kernel
theorem dX10_book_1 : decode cX10_book 1 = .ok (.iconst 0, 1) := by decide +kernel
theorem dX10_book_2 : decode cX10_book 2 = .ok (.sipush 9999, 3) := by decide +kernel
theorem dX10_book_5 : decode cX10_book 5 = .ok (.invokestatic 68, 3) := by decide +kernel
theorem dX10_book_8 : decode cX10_book 8 = .ok (.ifCond .eq 22, 3) := by decide +kernel
theorem dX10_book_11 : decode cX10_book 11 = .ok (.iload_n 2, 1) := by decide +kernel
theorem dX10_book_12 : decode cX10_book 12 = .ok (.iconst 1, 1) := by decide +kernel
theorem dX10_book_13 : decode cX10_book 13 = .ok (.bipush 99, 2) := by decide +kernel
theorem dX10_book_15 : decode cX10_book 15 = .ok (.invokestatic 68, 3) := by decide +kernel
theorem dX10_book_18 : decode cX10_book 18 = .ok (.ifCond .eq 12, 3) := by decide +kernel
theorem dX10_book_21 : decode cX10_book 21 = .ok (.iload_n 3, 1) := by decide +kernel
theorem dX10_book_22 : decode cX10_book 22 = .ok (.iconst 0, 1) := by decide +kernel
theorem dX10_book_23 : decode cX10_book 23 = .ok (.iconst 2, 1) := by decide +kernel
theorem dX10_book_24 : decode cX10_book 24 = .ok (.invokestatic 68, 3) := by decide +kernel
theorem dX10_book_27 : decode cX10_book 27 = .ok (.ifCond .ne 6, 3) := by decide +kernel
theorem dX10_book_30 : decode cX10_book 30 = .ok (.bipush (-2), 2) := by decide +kernel
theorem dX10_book_32 : decode cX10_book 32 = .ok (.ireturn, 1) := by decide +kernel
theorem dX10_book_33 : decode cX10_book 33 = .ok (.aload_n 0, 1) := by decide +kernel
theorem dX10_book_34 : decode cX10_book 34 = .ok (.getfield 36, 3) := by decide +kernel
theorem dX10_book_37 : decode cX10_book 37 = .ok (.aload_n 0, 1) := by decide +kernel
theorem dX10_book_38 : decode cX10_book 38 = .ok (.getfield 10, 3) := by decide +kernel
theorem dX10_book_41 : decode cX10_book 41 = .ok (.iload_n 1, 1) := by decide +kernel
theorem dX10_book_42 : decode cX10_book 42 = .ok (.iload_n 2, 1) := by decide +kernel
theorem dX10_book_43 : decode cX10_book 43 = .ok (.invokevirtual 235, 3) := by decide +kernel
theorem dX10_book_46 : decode cX10_book 46 = .ok (.iload_n 3, 1) := by decide +kernel
theorem dX10_book_47 : decode cX10_book 47 = .ok (.lookupswitch 47 #[(0, 25), (1, 36)], 25) := by decide +kernel
theorem dX10_book_72 : decode cX10_book 72 = .ok (.aload_n 0, 1) := by decide +kernel
theorem dX10_book_73 : decode cX10_book 73 = .ok (.getfield 36, 3) := by decide +kernel
theorem dX10_book_76 : decode cX10_book 76 = .ok (.getfield 126, 3) := by decide +kernel
theorem dX10_book_79 : decode cX10_book 79 = .ok (.invokevirtual 239, 3) := by decide +kernel
theorem dX10_book_82 : decode cX10_book 82 = .ok (.ireturn, 1) := by decide +kernel
theorem dX10_book_83 : decode cX10_book 83 = .ok (.aload_n 0, 1) := by decide +kernel
theorem dX10_book_84 : decode cX10_book 84 = .ok (.getfield 36, 3) := by decide +kernel
theorem dX10_book_87 : decode cX10_book 87 = .ok (.getfield 126, 3) := by decide +kernel
theorem dX10_book_90 : decode cX10_book 90 = .ok (.invokevirtual 96, 3) := by decide +kernel
theorem dX10_book_93 : decode cX10_book 93 = .ok (.ireturn, 1) := by decide +kernel
theorem dX10_book_94 : decode cX10_book 94 = .ok (.aload_n 0, 1) := by decide +kernel
theorem dX10_book_95 : decode cX10_book 95 = .ok (.getfield 36, 3) := by decide +kernel
theorem dX10_book_98 : decode cX10_book 98 = .ok (.getfield 126, 3) := by decide +kernel
theorem dX10_book_101 : decode cX10_book 101 = .ok (.invokestatic 152, 3) := by decide +kernel
theorem dX10_book_104 : decode cX10_book 104 = .ok (.ireturn, 1) := by decide +kernel
set_option maxRecDepth 20000 in
theorem ggX10_image_X10_isWithin : GoodIn wsX10_image wsX10_isWithin := goodIn_r _ [6] (by decide +kernel) (by decide +kernel)
set_option maxRecDepth 20000 in
theorem gX10_image_X10_isWithin : GoodIn wsX10_image (va_wsS RX10 68 yX10_isWithin wsX10_isWithin) := goodIn_app (goodIn_of _ (by decide +kernel)) ggX10_image_X10_isWithin
set_option maxRecDepth 20000 in
theorem ggX10_image_X10_imageOf : GoodIn wsX10_image wsX10_imageOf := goodIn_r _ [10, 11, 12, 33, 34, 35, 36, 37, 38, 39, 40, 41, 42] (by decide +kernel) (by decide +kernel)
set_option maxRecDepth 20000 in
theorem gX10_image_X10_imageOf : GoodIn wsX10_image (wsV RX10 242 RX10 yX10_imageOf wsX10_imageOf) := goodIn_app (goodIn_of _ (by decide +kernel)) ggX10_image_X10_imageOf
set_option maxRecDepth 20000 in
theorem ggX10_image_X2_become : GoodIn wsX10_image wsX2_become := goodIn_r _ [17, 18, 19, 20, 21, 22, 23, 24, 25, 26, 27, 28, 29, 30, 31, 32, 43, 44, 45, 46, 47, 48, 49, 50, 51, 52, 53] (by decide +kernel) (by decide +kernel)
set_option maxRecDepth 20000 in
theorem gX10_image_X2_become : GoodIn wsX10_image (wsV RX10 129 RX2 yX2_become wsX2_become) := goodIn_app (goodIn_of _ (by decide +kernel)) ggX10_image_X2_become
theorem dX10_image_0 : decode cX10_image 0 = .ok (.iload_n 1, 1) := by decide +kernel
theorem dX10_image_1 : decode cX10_image 1 = .ok (.iconst 0, 1) := by decide +kernel
theorem dX10_image_2 : decode cX10_image 2 = .ok (.iconst 1, 1) := by decide +kernel
theorem dX10_image_3 : decode cX10_image 3 = .ok (.invokestatic 68, 3) := by decide +kernel
theorem dX10_image_6 : decode cX10_image 6 = .ok (.ifCond .ne 6, 3) := by decide +kernel
theorem dX10_image_9 : decode cX10_image 9 = .ok (.bipush (-2), 2) := by decide +kernel
theorem dX10_image_11 : decode cX10_image 11 = .ok (.ireturn, 1) := by decide +kernel
theorem dX10_image_12 : decode cX10_image 12 = .ok (.aload_n 0, 1) := by decide +kernel
theorem dX10_image_13 : decode cX10_image 13 = .ok (.iload_n 1, 1) := by decide +kernel
theorem dX10_image_14 : decode cX10_image 14 = .ok (.invokevirtual 242, 3) := by decide +kernel
theorem dX10_image_17 : decode cX10_image 17 = .ok (.aload_n 0, 1) := by decide +kernel
theorem dX10_image_18 : decode cX10_image 18 = .ok (.getfield 10, 3) := by decide +kernel
theorem dX10_image_21 : decode cX10_image 21 = .ok (.invokevirtual 129, 3) := by decide +kernel
theorem dX10_image_24 : decode cX10_image 24 = .ok (.aload_n 0, 1) := by decide +kernel
theorem dX10_image_25 : decode cX10_image 25 = .ok (.getfield 22, 3) := by decide +kernel
theorem dX10_image_28 : decode cX10_image 28 = .ok (.iload_n 1, 1) := by decide +kernel
theorem dX10_image_29 : decode cX10_image 29 = .ok (.iconst 1, 1) := by decide +kernel
theorem dX10_image_30 : decode cX10_image 30 = .ok (.bastore, 1) := by decide +kernel
theorem dX10_image_31 : decode cX10_image 31 = .ok (.iconst 1, 1) := by decide +kernel
theorem dX10_image_32 : decode cX10_image 32 = .ok (.ireturn, 1) := by decide +kernel
set_option maxRecDepth 20000 in
theorem ggX10_restore_X10_isWithin : GoodIn wsX10_restore wsX10_isWithin := goodIn_r _ [6] (by decide +kernel) (by decide +kernel)
set_option maxRecDepth 20000 in
theorem gX10_restore_X10_isWithin : GoodIn wsX10_restore (va_wsS RX10 68 yX10_isWithin wsX10_isWithin) := goodIn_app (goodIn_of _ (by decide +kernel)) ggX10_restore_X10_isWithin
set_option maxRecDepth 20000 in
theorem ggX10_restore_X10_imageOf : GoodIn wsX10_restore wsX10_imageOf := goodIn_r _ [10, 11, 12, 33, 34, 35, 36, 37, 38, 39, 40, 41, 42] (by decide +kernel) (by decide +kernel)
set_option maxRecDepth 20000 in
theorem gX10_restore_X10_imageOf : GoodIn wsX10_restore (wsV RX10 242 RX10 yX10_imageOf wsX10_imageOf) := goodIn_app (goodIn_of _ (by decide +kernel)) ggX10_restore_X10_imageOf
set_option maxRecDepth 20000 in
theorem ggX10_restore_X2_become : GoodIn wsX10_restore wsX2_become := goodIn_r _ [17, 18, 19, 20, 21, 22, 23, 24, 25, 26, 27, 28, 29, 30, 31, 32, 43, 44, 45, 46, 47, 48, 49, 50, 51, 52, 53] (by decide +kernel) (by decide +kernel)
set_option maxRecDepth 20000 in
theorem gX10_restore_X2_become : GoodIn wsX10_restore (wsV RX10 129 RX2 yX2_become wsX2_become) := goodIn_app (goodIn_of _ (by decide +kernel)) ggX10_restore_X2_become
theorem dX10_restore_0 : decode cX10_restore 0 = .ok (.iload_n 1, 1) := by decide +kernel
theorem dX10_restore_1 : decode cX10_restore 1 = .ok (.iconst 0, 1) := by decide +kernel
theorem dX10_restore_2 : decode cX10_restore 2 = .ok (.iconst 1, 1) := by decide +kernel
theorem dX10_restore_3 : decode cX10_restore 3 = .ok (.invokestatic 68, 3) := by decide +kernel
theorem dX10_restore_6 : decode cX10_restore 6 = .ok (.ifCond .ne 6, 3) := by decide +kernel
theorem dX10_restore_9 : decode cX10_restore 9 = .ok (.bipush (-2), 2) := by decide +kernel
theorem dX10_restore_11 : decode cX10_restore 11 = .ok (.ireturn, 1) := by decide +kernel
theorem dX10_restore_12 : decode cX10_restore 12 = .ok (.aload_n 0, 1) := by decide +kernel
theorem dX10_restore_13 : decode cX10_restore 13 = .ok (.getfield 22, 3) := by decide +kernel
theorem dX10_restore_16 : decode cX10_restore 16 = .ok (.iload_n 1, 1) := by decide +kernel
theorem dX10_restore_17 : decode cX10_restore 17 = .ok (.baload, 1) := by decide +kernel
theorem dX10_restore_18 : decode cX10_restore 18 = .ok (.ifCond .ne 6, 3) := by decide +kernel
theorem dX10_restore_21 : decode cX10_restore 21 = .ok (.bipush (-3), 2) := by decide +kernel
theorem dX10_restore_23 : decode cX10_restore 23 = .ok (.ireturn, 1) := by decide +kernel
theorem dX10_restore_24 : decode cX10_restore 24 = .ok (.aload_n 0, 1) := by decide +kernel
theorem dX10_restore_25 : decode cX10_restore 25 = .ok (.getfield 10, 3) := by decide +kernel
theorem dX10_restore_28 : decode cX10_restore 28 = .ok (.aload_n 0, 1) := by decide +kernel
theorem dX10_restore_29 : decode cX10_restore 29 = .ok (.iload_n 1, 1) := by decide +kernel
theorem dX10_restore_30 : decode cX10_restore 30 = .ok (.invokevirtual 242, 3) := by decide +kernel
theorem dX10_restore_33 : decode cX10_restore 33 = .ok (.invokevirtual 129, 3) := by decide +kernel
theorem dX10_restore_36 : decode cX10_restore 36 = .ok (.iconst 1, 1) := by decide +kernel
theorem dX10_restore_37 : decode cX10_restore 37 = .ok (.ireturn, 1) := by decide +kernel
set_option maxRecDepth 20000 in
theorem ggX10_told_X2_pairsSitting : GoodIn wsX10_told wsX2_pairsSitting := goodIn_r _ [13, 14, 15, 16, 12, 17, 18, 19, 20, 21, 22, 23, 53, 54, 55, 56, 57, 58, 59, 60] (by decide +kernel) (by decide +kernel)
set_option maxRecDepth 20000 in
theorem gX10_told_X2_pairsSitting : GoodIn wsX10_told (wsV RX10 96 RX2 yX2_pairsSitting wsX2_pairsSitting) := goodIn_app (goodIn_of _ (by decide +kernel)) ggX10_told_X2_pairsSitting
set_option maxRecDepth 20000 in
theorem ggX10_told_X10_toldOfOne : GoodIn wsX10_told wsX10_toldOfOne := goodIn_r _ [28, 3, 29, 20, 21, 12, 22, 23, 30, 31, 32, 33, 34, 19, 35, 36, 37, 38, 39, 40, 15, 16, 17, 18, 41, 42, 43, 44, 45, 46, 47, 48, 49, 50, 53, 54, 55, 56, 57, 58, 59, 60] (by decide +kernel) (by decide +kernel)
set_option maxRecDepth 20000 in
theorem gX10_told_X10_toldOfOne : GoodIn wsX10_told (wsV RX10 249 RX10 yX10_toldOfOne wsX10_toldOfOne) := goodIn_app (goodIn_of _ (by decide +kernel)) ggX10_told_X10_toldOfOne
theorem dX10_told_0 : decode cX10_told 0 = .ok (.iload_n 1, 1) := by decide +kernel
theorem dX10_told_1 : decode cX10_told 1 = .ok (.tableswitch 90 0 5 #[39, 47, 55, 63, 71, 82], 39) := by decide +kernel
theorem dX10_told_40 : decode cX10_told 40 = .ok (.aload_n 0, 1) := by decide +kernel
theorem dX10_told_41 : decode cX10_told 41 = .ok (.getfield 29, 3) := by decide +kernel
theorem dX10_told_44 : decode cX10_told 44 = .ok (.getfield 106, 3) := by decide +kernel
theorem dX10_told_47 : decode cX10_told 47 = .ok (.ireturn, 1) := by decide +kernel
theorem dX10_told_48 : decode cX10_told 48 = .ok (.aload_n 0, 1) := by decide +kernel
theorem dX10_told_49 : decode cX10_told 49 = .ok (.getfield 10, 3) := by decide +kernel
theorem dX10_told_52 : decode cX10_told 52 = .ok (.getfield 246, 3) := by decide +kernel
theorem dX10_told_55 : decode cX10_told 55 = .ok (.ireturn, 1) := by decide +kernel
theorem dX10_told_56 : decode cX10_told 56 = .ok (.aload_n 0, 1) := by decide +kernel
theorem dX10_told_57 : decode cX10_told 57 = .ok (.getfield 10, 3) := by decide +kernel
theorem dX10_told_60 : decode cX10_told 60 = .ok (.getfield 99, 3) := by decide +kernel
theorem dX10_told_63 : decode cX10_told 63 = .ok (.ireturn, 1) := by decide +kernel
theorem dX10_told_64 : decode cX10_told 64 = .ok (.aload_n 0, 1) := by decide +kernel
theorem dX10_told_65 : decode cX10_told 65 = .ok (.getfield 10, 3) := by decide +kernel
theorem dX10_told_68 : decode cX10_told 68 = .ok (.getfield 139, 3) := by decide +kernel
theorem dX10_told_71 : decode cX10_told 71 = .ok (.ireturn, 1) := by decide +kernel
theorem dX10_told_72 : decode cX10_told 72 = .ok (.aload_n 0, 1) := by decide +kernel
theorem dX10_told_73 : decode cX10_told 73 = .ok (.getfield 10, 3) := by decide +kernel
theorem dX10_told_76 : decode cX10_told 76 = .ok (.getfield 188, 3) := by decide +kernel
theorem dX10_told_79 : decode cX10_told 79 = .ok (.getfield 198, 3) := by decide +kernel
theorem dX10_told_82 : decode cX10_told 82 = .ok (.ireturn, 1) := by decide +kernel
theorem dX10_told_83 : decode cX10_told 83 = .ok (.aload_n 0, 1) := by decide +kernel
theorem dX10_told_84 : decode cX10_told 84 = .ok (.getfield 10, 3) := by decide +kernel
theorem dX10_told_87 : decode cX10_told 87 = .ok (.invokevirtual 96, 3) := by decide +kernel
theorem dX10_told_90 : decode cX10_told 90 = .ok (.ireturn, 1) := by decide +kernel
theorem dX10_told_91 : decode cX10_told 91 = .ok (.aload_n 0, 1) := by decide +kernel
theorem dX10_told_92 : decode cX10_told 92 = .ok (.iload_n 1, 1) := by decide +kernel
theorem dX10_told_93 : decode cX10_told 93 = .ok (.bipush 10, 2) := by decide +kernel
theorem dX10_told_95 : decode cX10_told 95 = .ok (.idiv, 1) := by decide +kernel
theorem dX10_told_96 : decode cX10_told 96 = .ok (.iconst 1, 1) := by decide +kernel
theorem dX10_told_97 : decode cX10_told 97 = .ok (.isub, 1) := by decide +kernel
theorem dX10_told_98 : decode cX10_told 98 = .ok (.iload_n 1, 1) := by decide +kernel
theorem dX10_told_99 : decode cX10_told 99 = .ok (.bipush 10, 2) := by decide +kernel
theorem dX10_told_101 : decode cX10_told 101 = .ok (.irem, 1) := by decide +kernel
theorem dX10_told_102 : decode cX10_told 102 = .ok (.invokevirtual 249, 3) := by decide +kernel
theorem dX10_told_105 : decode cX10_told 105 = .ok (.ireturn, 1) := by decide +kernel
set_option maxRecDepth 20000 in
theorem ggX10_toldOfOne_X2_isThere : GoodIn wsX10_toldOfOne wsX2_isThere := goodIn_r _ [6, 7, 34, 35, 36, 37, 38, 39, 40, 41] (by decide +kernel) (by decide +kernel)
set_option maxRecDepth 20000 in
theorem gX10_toldOfOne_X2_isThere : GoodIn wsX10_toldOfOne (wsV RX10 80 RX2 yX2_isThere wsX2_isThere) := goodIn_app (goodIn_of _ (by decide +kernel)) ggX10_toldOfOne_X2_isThere
set_option maxRecDepth 20000 in
theorem ggX10_toldOfOne_X2_inclineOf : GoodIn wsX10_toldOfOne wsX2_inclineOf := goodIn_r _ [11, 12, 13, 3, 4, 5, 6, 7, 34, 35, 36, 37, 38, 39, 40, 41] (by decide +kernel) (by decide +kernel)
set_option maxRecDepth 20000 in
theorem gX10_toldOfOne_X2_inclineOf : GoodIn wsX10_toldOfOne (wsV RX10 133 RX2 yX2_inclineOf wsX2_inclineOf) := goodIn_app (goodIn_of _ (by decide +kernel)) ggX10_toldOfOne_X2_inclineOf
set_option maxRecDepth 20000 in
theorem ggX10_toldOfOne_X2_driftOf : GoodIn wsX10_toldOfOne wsX2_driftOf := goodIn_r _ [17, 18, 13, 3, 4, 5, 6, 7, 34, 35, 36, 37, 38, 39, 40, 41] (by decide +kernel) (by decide +kernel)
set_option maxRecDepth 20000 in
theorem gX10_toldOfOne_X2_driftOf : GoodIn wsX10_toldOfOne (wsV RX10 252 RX2 yX2_driftOf wsX2_driftOf) := goodIn_app (goodIn_of _ (by decide +kernel)) ggX10_toldOfOne_X2_driftOf
set_option maxRecDepth 20000 in
theorem ggX10_toldOfOne_X2_mateOf : GoodIn wsX10_toldOfOne wsX2_mateOf := goodIn_r _ [22, 23, 13, 3, 4, 5, 6, 7, 34, 35, 36, 37, 38, 39, 40, 41] (by decide +kernel) (by decide +kernel)
set_option maxRecDepth 20000 in
theorem gX10_toldOfOne_X2_mateOf : GoodIn wsX10_toldOfOne (wsV RX10 84 RX2 yX2_mateOf wsX2_mateOf) := goodIn_app (goodIn_of _ (by decide +kernel)) ggX10_toldOfOne_X2_mateOf
theorem dX10_toldOfOne_0 : decode cX10_toldOfOne 0 = .ok (.aload_n 0, 1) := by decide +kernel
theorem dX10_toldOfOne_1 : decode cX10_toldOfOne 1 = .ok (.getfield 10, 3) := by decide +kernel
theorem dX10_toldOfOne_4 : decode cX10_toldOfOne 4 = .ok (.iload_n 1, 1) := by decide +kernel
theorem dX10_toldOfOne_5 : decode cX10_toldOfOne 5 = .ok (.invokevirtual 80, 3) := by decide +kernel
theorem dX10_toldOfOne_8 : decode cX10_toldOfOne 8 = .ok (.ifCond .ne 6, 3) := by decide +kernel
theorem dX10_toldOfOne_11 : decode cX10_toldOfOne 11 = .ok (.bipush (-2), 2) := by decide +kernel
theorem dX10_toldOfOne_13 : decode cX10_toldOfOne 13 = .ok (.ireturn, 1) := by decide +kernel
theorem dX10_toldOfOne_14 : decode cX10_toldOfOne 14 = .ok (.iload_n 2, 1) := by decide +kernel
theorem dX10_toldOfOne_15 : decode cX10_toldOfOne 15 = .ok (.tableswitch 55 0 2 #[25, 34, 46], 25) := by decide +kernel
theorem dX10_toldOfOne_40 : decode cX10_toldOfOne 40 = .ok (.aload_n 0, 1) := by decide +kernel
theorem dX10_toldOfOne_41 : decode cX10_toldOfOne 41 = .ok (.getfield 10, 3) := by decide +kernel
theorem dX10_toldOfOne_44 : decode cX10_toldOfOne 44 = .ok (.iload_n 1, 1) := by decide +kernel
theorem dX10_toldOfOne_45 : decode cX10_toldOfOne 45 = .ok (.invokevirtual 133, 3) := by decide +kernel
theorem dX10_toldOfOne_48 : decode cX10_toldOfOne 48 = .ok (.ireturn, 1) := by decide +kernel
theorem dX10_toldOfOne_49 : decode cX10_toldOfOne 49 = .ok (.aload_n 0, 1) := by decide +kernel
theorem dX10_toldOfOne_50 : decode cX10_toldOfOne 50 = .ok (.getfield 10, 3) := by decide +kernel
theorem dX10_toldOfOne_53 : decode cX10_toldOfOne 53 = .ok (.iload_n 1, 1) := by decide +kernel
theorem dX10_toldOfOne_54 : decode cX10_toldOfOne 54 = .ok (.invokevirtual 252, 3) := by decide +kernel
theorem dX10_toldOfOne_57 : decode cX10_toldOfOne 57 = .ok (.bipush 9, 2) := by decide +kernel
theorem dX10_toldOfOne_59 : decode cX10_toldOfOne 59 = .ok (.iadd, 1) := by decide +kernel
theorem dX10_toldOfOne_60 : decode cX10_toldOfOne 60 = .ok (.ireturn, 1) := by decide +kernel
theorem dX10_toldOfOne_61 : decode cX10_toldOfOne 61 = .ok (.aload_n 0, 1) := by decide +kernel
theorem dX10_toldOfOne_62 : decode cX10_toldOfOne 62 = .ok (.getfield 10, 3) := by decide +kernel
theorem dX10_toldOfOne_65 : decode cX10_toldOfOne 65 = .ok (.iload_n 1, 1) := by decide +kernel
theorem dX10_toldOfOne_66 : decode cX10_toldOfOne 66 = .ok (.invokevirtual 84, 3) := by decide +kernel
theorem dX10_toldOfOne_69 : decode cX10_toldOfOne 69 = .ok (.ireturn, 1) := by decide +kernel
theorem dX10_toldOfOne_70 : decode cX10_toldOfOne 70 = .ok (.bipush (-2), 2) := by decide +kernel
theorem dX10_toldOfOne_72 : decode cX10_toldOfOne 72 = .ok (.ireturn, 1) := by decide +kernel
theorem dX10_imageOf_0 : decode cX10_imageOf 0 = .ok (.iload_n 1, 1) := by decide +kernel
theorem dX10_imageOf_1 : decode cX10_imageOf 1 = .ok (.ifCond .ne 10, 3) := by decide +kernel
theorem dX10_imageOf_4 : decode cX10_imageOf 4 = .ok (.aload_n 0, 1) := by decide +kernel
theorem dX10_imageOf_5 : decode cX10_imageOf 5 = .ok (.getfield 16, 3) := by decide +kernel
theorem dX10_imageOf_8 : decode cX10_imageOf 8 = .ok (.goto 7, 3) := by decide +kernel
theorem dX10_imageOf_11 : decode cX10_imageOf 11 = .ok (.aload_n 0, 1) := by decide +kernel
theorem dX10_imageOf_12 : decode cX10_imageOf 12 = .ok (.getfield 19, 3) := by decide +kernel
theorem dX10_imageOf_15 : decode cX10_imageOf 15 = .ok (.areturn, 1) := by decide +kernel
set_option maxRecDepth 20000 in
theorem ggX10_yearsCanBe_X4_faultPlace : GoodIn wsX10_yearsCanBe wsX4_faultPlace := goodIn_r _ [9, 10, 11, 12, 13, 8, 14, 15, 16, 17, 18, 19, 20, 21, 22, 23, 24, 25, 26, 27, 28, 29, 30, 31, 32, 33, 34, 35, 36, 37, 155, 156] (by decide +kernel) (by decide +kernel)
set_option maxRecDepth 20000 in
theorem gX10_yearsCanBe_X4_faultPlace : GoodIn wsX10_yearsCanBe (wsV RX10 109 RX4 yX4_faultPlace wsX4_faultPlace) := goodIn_app (goodIn_of _ (by decide +kernel)) ggX10_yearsCanBe_X4_faultPlace
set_option maxRecDepth 20000 in
theorem ggX10_yearsCanBe_X9_tell : GoodIn wsX10_yearsCanBe wsX9_tell := goodIn_r _ [42, 43, 44, 45, 46, 47, 48, 49, 41, 50, 51, 52, 53, 54, 55, 56, 57, 58, 59, 60, 61, 62, 63, 64, 65, 66, 67, 68, 69, 70, 71, 72, 73, 74, 31, 32, 8, 33, 15, 16, 17, 18, 10, 19, 75, 76, 77, 78, 79, 80, 81, 82, 30, 83, 84, 85, 86, 87, 88, 89, 90, 91, 92, 93, 94, 95, 96, 97, 98, 99, 100, 101, 102, 103, 104, 105, 106, 107, 108, 109, 110, 111, 112, 113, 114, 115, 116, 117, 118, 119, 120, 121, 122, 123, 124, 125, 126, 127, 128, 129, 130, 131, 132, 133, 134, 135, 136, 137, 138, 27, 28, 29, 155, 156, 149, 150, 151, 152, 153, 154, 157, 158, 159, 160, 161, 162, 163, 164, 165, 166, 167] (by decide +kernel) (by decide +kernel)
set_option maxRecDepth 20000 in
theorem gX10_yearsCanBe_X9_tell : GoodIn wsX10_yearsCanBe (wsV RX10 112 RX9 yX9_tell wsX9_tell) := goodIn_app (goodIn_of _ (by decide +kernel)) ggX10_yearsCanBe_X9_tell
theorem dX10_yearsCanBe_0 : decode cX10_yearsCanBe 0 = .ok (.aload_n 0, 1) := by decide +kernel
theorem dX10_yearsCanBe_1 : decode cX10_yearsCanBe 1 = .ok (.getfield 29, 3) := by decide +kernel
theorem dX10_yearsCanBe_4 : decode cX10_yearsCanBe 4 = .ok (.invokevirtual 109, 3) := by decide +kernel
theorem dX10_yearsCanBe_7 : decode cX10_yearsCanBe 7 = .ok (.bipush (-6), 2) := by decide +kernel
theorem dX10_yearsCanBe_9 : decode cX10_yearsCanBe 9 = .ok (.if_icmp .eq 5, 3) := by decide +kernel
theorem dX10_yearsCanBe_12 : decode cX10_yearsCanBe 12 = .ok (.iconst 0, 1) := by decide +kernel
theorem dX10_yearsCanBe_13 : decode cX10_yearsCanBe 13 = .ok (.ireturn, 1) := by decide +kernel
theorem dX10_yearsCanBe_14 : decode cX10_yearsCanBe 14 = .ok (.aload_n 0, 1) := by decide +kernel
theorem dX10_yearsCanBe_15 : decode cX10_yearsCanBe 15 = .ok (.getfield 36, 3) := by decide +kernel
theorem dX10_yearsCanBe_18 : decode cX10_yearsCanBe 18 = .ok (.aload_n 0, 1) := by decide +kernel
theorem dX10_yearsCanBe_19 : decode cX10_yearsCanBe 19 = .ok (.getfield 29, 3) := by decide +kernel
theorem dX10_yearsCanBe_22 : decode cX10_yearsCanBe 22 = .ok (.aload_n 0, 1) := by decide +kernel
theorem dX10_yearsCanBe_23 : decode cX10_yearsCanBe 23 = .ok (.getfield 10, 3) := by decide +kernel
theorem dX10_yearsCanBe_26 : decode cX10_yearsCanBe 26 = .ok (.invokevirtual 112, 3) := by decide +kernel
theorem dX10_yearsCanBe_29 : decode cX10_yearsCanBe 29 = .ok (.aload_n 0, 1) := by decide +kernel
theorem dX10_yearsCanBe_30 : decode cX10_yearsCanBe 30 = .ok (.getfield 36, 3) := by decide +kernel
theorem dX10_yearsCanBe_33 : decode cX10_yearsCanBe 33 = .ok (.getfield 116, 3) := by decide +kernel
theorem dX10_yearsCanBe_36 : decode cX10_yearsCanBe 36 = .ok (.ifCond .ne 7, 3) := by decide +kernel
theorem dX10_yearsCanBe_39 : decode cX10_yearsCanBe 39 = .ok (.iconst 1, 1) := by decide +kernel
theorem dX10_yearsCanBe_40 : decode cX10_yearsCanBe 40 = .ok (.goto 4, 3) := by decide +kernel
theorem dX10_yearsCanBe_43 : decode cX10_yearsCanBe 43 = .ok (.iconst 0, 1) := by decide +kernel
theorem dX10_yearsCanBe_44 : decode cX10_yearsCanBe 44 = .ok (.ireturn, 1) := by decide +kernel
theorem dX10_isWithin_0 : decode cX10_isWithin 0 = .ok (.iload_n 0, 1) := by decide +kernel
theorem dX10_isWithin_1 : decode cX10_isWithin 1 = .ok (.iload_n 1, 1) := by decide +kernel
theorem dX10_isWithin_2 : decode cX10_isWithin 2 = .ok (.if_icmp .lt 12, 3) := by decide +kernel
theorem dX10_isWithin_5 : decode cX10_isWithin 5 = .ok (.iload_n 0, 1) := by decide +kernel
theorem dX10_isWithin_6 : decode cX10_isWithin 6 = .ok (.iload_n 2, 1) := by decide +kernel
theorem dX10_isWithin_7 : decode cX10_isWithin 7 = .ok (.if_icmp .gt 7, 3) := by decide +kernel
theorem dX10_isWithin_10 : decode cX10_isWithin 10 = .ok (.iconst 1, 1) := by decide +kernel
theorem dX10_isWithin_11 : decode cX10_isWithin 11 = .ok (.goto 4, 3) := by decide +kernel
theorem dX10_isWithin_14 : decode cX10_isWithin 14 = .ok (.iconst 0, 1) := by decide +kernel
theorem dX10_isWithin_15 : decode cX10_isWithin 15 = .ok (.ireturn, 1) := by decide +kernel
