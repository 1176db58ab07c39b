theorem dX0_init_0 : decode cX0_init 0 = .ok (.aload_n 0, 1) := by decide +kernel
theorem dX0_init_1 : decode cX0_init 1 = .ok (.invokespecial 3, 3) := by decide +kernel
theorem dX0_init_4 : decode cX0_init 4 = .ok (.aload_n 0, 1) := by decide +kernel
theorem dX0_init_5 : decode cX0_init 5 = .ok (.sipush 180, 3) := by decide +kernel
theorem dX0_init_8 : decode cX0_init 8 = .ok (.newarray .int, 2) := by decide +kernel
theorem dX0_init_10 : decode cX0_init 10 = .ok (.putfield 9, 3) := by decide +kernel
theorem dX0_init_13 : decode cX0_init 13 = .ok (.return_, 1) := by decide +kernel
set_option maxRecDepth 20000 in
theorem ggX0_weigh_X1_countFits : GoodIn wsX0_weigh wsX1_countFits := goodIn_r _ [7, 8, 9, 10, 6, 11, 12, 13, 14, 15, 16, 17, 18, 34, 35, 36] (by decide +kernel) (by decide +kernel)
set_option maxRecDepth 20000 in
theorem gX0_weigh_X1_countFits : GoodIn wsX0_weigh (wsV RX0 22 RX1 yX1_countFits wsX1_countFits) := goodIn_app (goodIn_of _ (by decide +kernel)) ggX0_weigh_X1_countFits
set_option maxRecDepth 20000 in
theorem ggX0_weigh_X0_mostAlike : GoodIn wsX0_weigh wsX0_mostAlike := goodIn_r _ [23, 24, 25, 26, 27, 28, 29, 9, 10, 6, 11, 12, 13, 14, 15, 16, 17, 18, 30, 31, 32, 33, 34, 35, 36] (by decide +kernel) (by decide +kernel)
set_option maxRecDepth 20000 in
theorem gX0_weigh_X0_mostAlike : GoodIn wsX0_weigh (wsV RX0 28 RX0 yX0_mostAlike wsX0_mostAlike) := goodIn_app (goodIn_of _ (by decide +kernel)) ggX0_weigh_X0_mostAlike
theorem dX0_weigh_0 : decode cX0_weigh 0 = .ok (.aload_n 0, 1) := by decide +kernel
theorem dX0_weigh_1 : decode cX0_weigh 1 = .ok (.bipush (-6), 2) := by decide +kernel
theorem dX0_weigh_3 : decode cX0_weigh 3 = .ok (.putfield 15, 3) := by decide +kernel
theorem dX0_weigh_6 : decode cX0_weigh 6 = .ok (.aload_n 0, 1) := by decide +kernel
theorem dX0_weigh_7 : decode cX0_weigh 7 = .ok (.bipush (-6), 2) := by decide +kernel
theorem dX0_weigh_9 : decode cX0_weigh 9 = .ok (.putfield 19, 3) := by decide +kernel
theorem dX0_weigh_12 : decode cX0_weigh 12 = .ok (.aload_n 1, 1) := by decide +kernel
theorem dX0_weigh_13 : decode cX0_weigh 13 = .ok (.iconst 0, 1) := by decide +kernel
theorem dX0_weigh_14 : decode cX0_weigh 14 = .ok (.invokevirtual 22, 3) := by decide +kernel
theorem dX0_weigh_17 : decode cX0_weigh 17 = .ok (.istore_n 2, 1) := by decide +kernel
theorem dX0_weigh_18 : decode cX0_weigh 18 = .ok (.iload_n 2, 1) := by decide +kernel
theorem dX0_weigh_19 : decode cX0_weigh 19 = .ok (.ifCond .ne 4, 3) := by decide +kernel
theorem dX0_weigh_22 : decode cX0_weigh 22 = .ok (.return_, 1) := by decide +kernel
theorem dX0_weigh_23 : decode cX0_weigh 23 = .ok (.iload_n 2, 1) := by decide +kernel
theorem dX0_weigh_24 : decode cX0_weigh 24 = .ok (.sipush 180, 3) := by decide +kernel
theorem dX0_weigh_27 : decode cX0_weigh 27 = .ok (.iadd, 1) := by decide +kernel
theorem dX0_weigh_28 : decode cX0_weigh 28 = .ok (.iconst 1, 1) := by decide +kernel
theorem dX0_weigh_29 : decode cX0_weigh 29 = .ok (.isub, 1) := by decide +kernel
theorem dX0_weigh_30 : decode cX0_weigh 30 = .ok (.sipush 180, 3) := by decide +kernel
theorem dX0_weigh_33 : decode cX0_weigh 33 = .ok (.idiv, 1) := by decide +kernel
theorem dX0_weigh_34 : decode cX0_weigh 34 = .ok (.istore_n 3, 1) := by decide +kernel
theorem dX0_weigh_35 : decode cX0_weigh 35 = .ok (.iconst 0, 1) := by decide +kernel
theorem dX0_weigh_36 : decode cX0_weigh 36 = .ok (.istore 4, 2) := by decide +kernel
theorem dX0_weigh_38 : decode cX0_weigh 38 = .ok (.iload 4, 2) := by decide +kernel
theorem dX0_weigh_40 : decode cX0_weigh 40 = .ok (.bipush 60, 2) := by decide +kernel
theorem dX0_weigh_42 : decode cX0_weigh 42 = .ok (.if_icmp .gt 57, 3) := by decide +kernel
theorem dX0_weigh_45 : decode cX0_weigh 45 = .ok (.aload_n 0, 1) := by decide +kernel
theorem dX0_weigh_46 : decode cX0_weigh 46 = .ok (.aload_n 1, 1) := by decide +kernel
theorem dX0_weigh_47 : decode cX0_weigh 47 = .ok (.iload 4, 2) := by decide +kernel
theorem dX0_weigh_49 : decode cX0_weigh 49 = .ok (.invokevirtual 28, 3) := by decide +kernel
theorem dX0_weigh_52 : decode cX0_weigh 52 = .ok (.istore 5, 2) := by decide +kernel
theorem dX0_weigh_54 : decode cX0_weigh 54 = .ok (.aload_n 0, 1) := by decide +kernel
theorem dX0_weigh_55 : decode cX0_weigh 55 = .ok (.getfield 19, 3) := by decide +kernel
theorem dX0_weigh_58 : decode cX0_weigh 58 = .ok (.bipush (-6), 2) := by decide +kernel
theorem dX0_weigh_60 : decode cX0_weigh 60 = .ok (.if_icmp .eq 12, 3) := by decide +kernel
theorem dX0_weigh_63 : decode cX0_weigh 63 = .ok (.iload 5, 2) := by decide +kernel
theorem dX0_weigh_65 : decode cX0_weigh 65 = .ok (.aload_n 0, 1) := by decide +kernel
theorem dX0_weigh_66 : decode cX0_weigh 66 = .ok (.getfield 19, 3) := by decide +kernel
theorem dX0_weigh_69 : decode cX0_weigh 69 = .ok (.if_icmp .ge 15, 3) := by decide +kernel
theorem dX0_weigh_72 : decode cX0_weigh 72 = .ok (.aload_n 0, 1) := by decide +kernel
theorem dX0_weigh_73 : decode cX0_weigh 73 = .ok (.iload 5, 2) := by decide +kernel
theorem dX0_weigh_75 : decode cX0_weigh 75 = .ok (.putfield 19, 3) := by decide +kernel
theorem dX0_weigh_78 : decode cX0_weigh 78 = .ok (.aload_n 0, 1) := by decide +kernel
theorem dX0_weigh_79 : decode cX0_weigh 79 = .ok (.iload 4, 2) := by decide +kernel
theorem dX0_weigh_81 : decode cX0_weigh 81 = .ok (.putfield 15, 3) := by decide +kernel
theorem dX0_weigh_84 : decode cX0_weigh 84 = .ok (.aload_n 0, 1) := by decide +kernel
theorem dX0_weigh_85 : decode cX0_weigh 85 = .ok (.getfield 19, 3) := by decide +kernel
theorem dX0_weigh_88 : decode cX0_weigh 88 = .ok (.iload_n 3, 1) := by decide +kernel
theorem dX0_weigh_89 : decode cX0_weigh 89 = .ok (.if_icmp .ne 4, 3) := by decide +kernel
theorem dX0_weigh_92 : decode cX0_weigh 92 = .ok (.return_, 1) := by decide +kernel
theorem dX0_weigh_93 : decode cX0_weigh 93 = .ok (.iinc 4 1, 3) := by decide +kernel
theorem dX0_weigh_96 : decode cX0_weigh 96 = .ok (.goto (-58), 3) := by decide +kernel
theorem dX0_weigh_99 : decode cX0_weigh 99 = .ok (.return_, 1) := by decide +kernel
set_option maxRecDepth 20000 in
theorem ggX0_mostAlike_X1_fit : GoodIn wsX0_mostAlike wsX1_fit := goodIn_r _ [10, 11, 12, 13, 14, 15, 16, 17, 22, 23, 24] (by decide +kernel) (by decide +kernel)
set_option maxRecDepth 20000 in
theorem gX0_mostAlike_X1_fit : GoodIn wsX0_mostAlike (wsV RX0 32 RX1 yX1_fit wsX1_fit) := goodIn_app (goodIn_of _ (by decide +kernel)) ggX0_mostAlike_X1_fit
set_option maxRecDepth 20000 in
theorem ggX0_mostAlike_X5_leftOver : GoodIn wsX0_mostAlike wsX5_leftOver := goodIn_r _ [17] (by decide +kernel) (by decide +kernel)
set_option maxRecDepth 20000 in
theorem gX0_mostAlike_X5_leftOver : GoodIn wsX0_mostAlike (va_wsS RX0 36 yX5_leftOver wsX5_leftOver) := goodIn_app (goodIn_of _ (by decide +kernel)) ggX0_mostAlike_X5_leftOver
theorem dX0_mostAlike_0 : decode cX0_mostAlike 0 = .ok (.iconst 0, 1) := by decide +kernel
theorem dX0_mostAlike_1 : decode cX0_mostAlike 1 = .ok (.istore_n 3, 1) := by decide +kernel
theorem dX0_mostAlike_2 : decode cX0_mostAlike 2 = .ok (.iload_n 3, 1) := by decide +kernel
theorem dX0_mostAlike_3 : decode cX0_mostAlike 3 = .ok (.sipush 180, 3) := by decide +kernel
theorem dX0_mostAlike_6 : decode cX0_mostAlike 6 = .ok (.if_icmp .ge 16, 3) := by decide +kernel
theorem dX0_mostAlike_9 : decode cX0_mostAlike 9 = .ok (.aload_n 0, 1) := by decide +kernel
theorem dX0_mostAlike_10 : decode cX0_mostAlike 10 = .ok (.getfield 9, 3) := by decide +kernel
theorem dX0_mostAlike_13 : decode cX0_mostAlike 13 = .ok (.iload_n 3, 1) := by decide +kernel
theorem dX0_mostAlike_14 : decode cX0_mostAlike 14 = .ok (.iconst 0, 1) := by decide +kernel
theorem dX0_mostAlike_15 : decode cX0_mostAlike 15 = .ok (.iastore, 1) := by decide +kernel
theorem dX0_mostAlike_16 : decode cX0_mostAlike 16 = .ok (.iinc 3 1, 3) := by decide +kernel
theorem dX0_mostAlike_19 : decode cX0_mostAlike 19 = .ok (.goto (-17), 3) := by decide +kernel
theorem dX0_mostAlike_22 : decode cX0_mostAlike 22 = .ok (.iconst 0, 1) := by decide +kernel
theorem dX0_mostAlike_23 : decode cX0_mostAlike 23 = .ok (.istore_n 3, 1) := by decide +kernel
theorem dX0_mostAlike_24 : decode cX0_mostAlike 24 = .ok (.iconst 0, 1) := by decide +kernel
theorem dX0_mostAlike_25 : decode cX0_mostAlike 25 = .ok (.istore 4, 2) := by decide +kernel
theorem dX0_mostAlike_27 : decode cX0_mostAlike 27 = .ok (.iload 4, 2) := by decide +kernel
theorem dX0_mostAlike_29 : decode cX0_mostAlike 29 = .ok (.sipush 180, 3) := by decide +kernel
theorem dX0_mostAlike_32 : decode cX0_mostAlike 32 = .ok (.if_icmp .ge 73, 3) := by decide +kernel
theorem dX0_mostAlike_35 : decode cX0_mostAlike 35 = .ok (.bipush (-9), 2) := by decide +kernel
theorem dX0_mostAlike_37 : decode cX0_mostAlike 37 = .ok (.istore 5, 2) := by decide +kernel
theorem dX0_mostAlike_39 : decode cX0_mostAlike 39 = .ok (.iload 5, 2) := by decide +kernel
theorem dX0_mostAlike_41 : decode cX0_mostAlike 41 = .ok (.bipush 9, 2) := by decide +kernel
theorem dX0_mostAlike_43 : decode cX0_mostAlike 43 = .ok (.if_icmp .gt 56, 3) := by decide +kernel
theorem dX0_mostAlike_46 : decode cX0_mostAlike 46 = .ok (.aload_n 1, 1) := by decide +kernel
theorem dX0_mostAlike_47 : decode cX0_mostAlike 47 = .ok (.iload 4, 2) := by decide +kernel
theorem dX0_mostAlike_49 : decode cX0_mostAlike 49 = .ok (.iload 5, 2) := by decide +kernel
theorem dX0_mostAlike_51 : decode cX0_mostAlike 51 = .ok (.iconst 0, 1) := by decide +kernel
theorem dX0_mostAlike_52 : decode cX0_mostAlike 52 = .ok (.invokevirtual 32, 3) := by decide +kernel
theorem dX0_mostAlike_55 : decode cX0_mostAlike 55 = .ok (.ifCond .eq 38, 3) := by decide +kernel
theorem dX0_mostAlike_58 : decode cX0_mostAlike 58 = .ok (.iload 4, 2) := by decide +kernel
theorem dX0_mostAlike_60 : decode cX0_mostAlike 60 = .ok (.iload 5, 2) := by decide +kernel
theorem dX0_mostAlike_62 : decode cX0_mostAlike 62 = .ok (.iload_n 2, 1) := by decide +kernel
theorem dX0_mostAlike_63 : decode cX0_mostAlike 63 = .ok (.imul, 1) := by decide +kernel
theorem dX0_mostAlike_64 : decode cX0_mostAlike 64 = .ok (.iadd, 1) := by decide +kernel
theorem dX0_mostAlike_65 : decode cX0_mostAlike 65 = .ok (.invokestatic 36, 3) := by decide +kernel
theorem dX0_mostAlike_68 : decode cX0_mostAlike 68 = .ok (.istore 6, 2) := by decide +kernel
theorem dX0_mostAlike_70 : decode cX0_mostAlike 70 = .ok (.aload_n 0, 1) := by decide +kernel
theorem dX0_mostAlike_71 : decode cX0_mostAlike 71 = .ok (.getfield 9, 3) := by decide +kernel
theorem dX0_mostAlike_74 : decode cX0_mostAlike 74 = .ok (.iload 6, 2) := by decide +kernel
theorem dX0_mostAlike_76 : decode cX0_mostAlike 76 = .ok (.dup2, 1) := by decide +kernel
theorem dX0_mostAlike_77 : decode cX0_mostAlike 77 = .ok (.iaload, 1) := by decide +kernel
theorem dX0_mostAlike_78 : decode cX0_mostAlike 78 = .ok (.iconst 1, 1) := by decide +kernel
theorem dX0_mostAlike_79 : decode cX0_mostAlike 79 = .ok (.iadd, 1) := by decide +kernel
theorem dX0_mostAlike_80 : decode cX0_mostAlike 80 = .ok (.iastore, 1) := by decide +kernel
theorem dX0_mostAlike_81 : decode cX0_mostAlike 81 = .ok (.iload_n 3, 1) := by decide +kernel
theorem dX0_mostAlike_82 : decode cX0_mostAlike 82 = .ok (.aload_n 0, 1) := by decide +kernel
theorem dX0_mostAlike_83 : decode cX0_mostAlike 83 = .ok (.getfield 9, 3) := by decide +kernel
theorem dX0_mostAlike_86 : decode cX0_mostAlike 86 = .ok (.iload 6, 2) := by decide +kernel
theorem dX0_mostAlike_88 : decode cX0_mostAlike 88 = .ok (.iaload, 1) := by decide +kernel
theorem dX0_mostAlike_89 : decode cX0_mostAlike 89 = .ok (.invokestatic 41, 3) := by decide +kernel
theorem dX0_mostAlike_92 : decode cX0_mostAlike 92 = .ok (.istore_n 3, 1) := by decide +kernel
theorem dX0_mostAlike_93 : decode cX0_mostAlike 93 = .ok (.iinc 5 1, 3) := by decide +kernel
theorem dX0_mostAlike_96 : decode cX0_mostAlike 96 = .ok (.goto (-57), 3) := by decide +kernel
theorem dX0_mostAlike_99 : decode cX0_mostAlike 99 = .ok (.iinc 4 1, 3) := by decide +kernel
theorem dX0_mostAlike_102 : decode cX0_mostAlike 102 = .ok (.goto (-75), 3) := by decide +kernel
theorem dX0_mostAlike_105 : decode cX0_mostAlike 105 = .ok (.iload_n 3, 1) := by decide +kernel
theorem dX0_mostAlike_106 : decode cX0_mostAlike 106 = .ok (.ireturn, 1) := by decide +kernel
theorem dX1_init_0 : decode cX1_init 0 = .ok (.aload_n 0, 1) := by decide +kernel
theorem dX1_init_1 : decode cX1_init 1 = .ok (.invokespecial 3, 3) := by decide +kernel
theorem dX1_init_4 : decode cX1_init 4 = .ok (.aload_n 0, 1) := by decide +kernel
theorem dX1_init_5 : decode cX1_init 5 = .ok (.bipush 8, 2) := by decide +kernel
theorem dX1_init_7 : decode cX1_init 7 = .ok (.newarray .int, 2) := by decide +kernel
theorem dX1_init_9 : decode cX1_init 9 = .ok (.putfield 9, 3) := by decide +kernel
theorem dX1_init_12 : decode cX1_init 12 = .ok (.aload_n 0, 1) := by decide +kernel
theorem dX1_init_13 : decode cX1_init 13 = .ok (.bipush 8, 2) := by decide +kernel
theorem dX1_init_15 : decode cX1_init 15 = .ok (.newarray .int, 2) := by decide +kernel
theorem dX1_init_17 : decode cX1_init 17 = .ok (.putfield 15, 3) := by decide +kernel
theorem dX1_init_20 : decode cX1_init 20 = .ok (.return_, 1) := by decide +kernel
theorem dX1_become_0 : decode cX1_become 0 = .ok (.iconst 0, 1) := by decide +kernel
theorem dX1_become_1 : decode cX1_become 1 = .ok (.istore_n 2, 1) := by decide +kernel
theorem dX1_become_2 : decode cX1_become 2 = .ok (.iload_n 2, 1) := by decide +kernel
theorem dX1_become_3 : decode cX1_become 3 = .ok (.bipush 8, 2) := by decide +kernel
theorem dX1_become_5 : decode cX1_become 5 = .ok (.if_icmp .ge 33, 3) := by decide +kernel
theorem dX1_become_8 : decode cX1_become 8 = .ok (.aload_n 0, 1) := by decide +kernel
theorem dX1_become_9 : decode cX1_become 9 = .ok (.getfield 9, 3) := by decide +kernel
theorem dX1_become_12 : decode cX1_become 12 = .ok (.iload_n 2, 1) := by decide +kernel
theorem dX1_become_13 : decode cX1_become 13 = .ok (.aload_n 1, 1) := by decide +kernel
theorem dX1_become_14 : decode cX1_become 14 = .ok (.getfield 9, 3) := by decide +kernel
theorem dX1_become_17 : decode cX1_become 17 = .ok (.iload_n 2, 1) := by decide +kernel
theorem dX1_become_18 : decode cX1_become 18 = .ok (.iaload, 1) := by decide +kernel
theorem dX1_become_19 : decode cX1_become 19 = .ok (.iastore, 1) := by decide +kernel
theorem dX1_become_20 : decode cX1_become 20 = .ok (.aload_n 0, 1) := by decide +kernel
theorem dX1_become_21 : decode cX1_become 21 = .ok (.getfield 15, 3) := by decide +kernel
theorem dX1_become_24 : decode cX1_become 24 = .ok (.iload_n 2, 1) := by decide +kernel
theorem dX1_become_25 : decode cX1_become 25 = .ok (.aload_n 1, 1) := by decide +kernel
theorem dX1_become_26 : decode cX1_become 26 = .ok (.getfield 15, 3) := by decide +kernel
theorem dX1_become_29 : decode cX1_become 29 = .ok (.iload_n 2, 1) := by decide +kernel
theorem dX1_become_30 : decode cX1_become 30 = .ok (.iaload, 1) := by decide +kernel
theorem dX1_become_31 : decode cX1_become 31 = .ok (.iastore, 1) := by decide +kernel
theorem dX1_become_32 : decode cX1_become 32 = .ok (.iinc 2 1, 3) := by decide +kernel
theorem dX1_become_35 : decode cX1_become 35 = .ok (.goto (-33), 3) := by decide +kernel
theorem dX1_become_38 : decode cX1_become 38 = .ok (.aload_n 0, 1) := by decide +kernel
theorem dX1_become_39 : decode cX1_become 39 = .ok (.aload_n 1, 1) := by decide +kernel
theorem dX1_become_40 : decode cX1_become 40 = .ok (.getfield 18, 3) := by decide +kernel
theorem dX1_become_43 : decode cX1_become 43 = .ok (.putfield 18, 3) := by decide +kernel
theorem dX1_become_46 : decode cX1_become 46 = .ok (.return_, 1) := by decide +kernel
theorem dX1_put_0 : decode cX1_put 0 = .ok (.aload_n 0, 1) := by decide +kernel
theorem dX1_put_1 : decode cX1_put 1 = .ok (.getfield 18, 3) := by decide +kernel
theorem dX1_put_4 : decode cX1_put 4 = .ok (.ifCond .lt 12, 3) := by decide +kernel
theorem dX1_put_7 : decode cX1_put 7 = .ok (.aload_n 0, 1) := by decide +kernel
theorem dX1_put_8 : decode cX1_put 8 = .ok (.getfield 18, 3) := by decide +kernel
theorem dX1_put_11 : decode cX1_put 11 = .ok (.bipush 8, 2) := by decide +kernel
theorem dX1_put_13 : decode cX1_put 13 = .ok (.if_icmp .lt 5, 3) := by decide +kernel
theorem dX1_put_16 : decode cX1_put 16 = .ok (.iconst 0, 1) := by decide +kernel
theorem dX1_put_17 : decode cX1_put 17 = .ok (.ireturn, 1) := by decide +kernel
theorem dX1_put_18 : decode cX1_put 18 = .ok (.aload_n 0, 1) := by decide +kernel
theorem dX1_put_19 : decode cX1_put 19 = .ok (.getfield 9, 3) := by decide +kernel
theorem dX1_put_22 : decode cX1_put 22 = .ok (.aload_n 0, 1) := by decide +kernel
theorem dX1_put_23 : decode cX1_put 23 = .ok (.getfield 18, 3) := by decide +kernel
theorem dX1_put_26 : decode cX1_put 26 = .ok (.iload_n 1, 1) := by decide +kernel
theorem dX1_put_27 : decode cX1_put 27 = .ok (.iastore, 1) := by decide +kernel
theorem dX1_put_28 : decode cX1_put 28 = .ok (.aload_n 0, 1) := by decide +kernel
theorem dX1_put_29 : decode cX1_put 29 = .ok (.getfield 15, 3) := by decide +kernel
theorem dX1_put_32 : decode cX1_put 32 = .ok (.aload_n 0, 1) := by decide +kernel
theorem dX1_put_33 : decode cX1_put 33 = .ok (.getfield 18, 3) := by decide +kernel
theorem dX1_put_36 : decode cX1_put 36 = .ok (.iload_n 2, 1) := by decide +kernel
theorem dX1_put_37 : decode cX1_put 37 = .ok (.iastore, 1) := by decide +kernel
theorem dX1_put_38 : decode cX1_put 38 = .ok (.aload_n 0, 1) := by decide +kernel
theorem dX1_put_39 : decode cX1_put 39 = .ok (.dup, 1) := by decide +kernel
theorem dX1_put_40 : decode cX1_put 40 = .ok (.getfield 18, 3) := by decide +kernel
theorem dX1_put_43 : decode cX1_put 43 = .ok (.iconst 1, 1) := by decide +kernel
theorem dX1_put_44 : decode cX1_put 44 = .ok (.iadd, 1) := by decide +kernel
theorem dX1_put_45 : decode cX1_put 45 = .ok (.putfield 18, 3) := by decide +kernel
theorem dX1_put_48 : decode cX1_put 48 = .ok (.iconst 1, 1) := by decide +kernel
theorem dX1_put_49 : decode cX1_put 49 = .ok (.ireturn, 1) := by decide +kernel
set_option maxRecDepth 20000 in
theorem ggX1_fit_X5_leftOver : GoodIn wsX1_fit wsX5_leftOver := goodIn_r _ [7] (by decide +kernel) (by decide +kernel)
set_option maxRecDepth 20000 in
theorem gX1_fit_X5_leftOver : GoodIn wsX1_fit (va_wsS RX1 22 yX5_leftOver wsX5_leftOver) := goodIn_app (goodIn_of _ (by decide +kernel)) ggX1_fit_X5_leftOver
theorem dX1_fit_0 : decode cX1_fit 0 = .ok (.iconst 0, 1) := by decide +kernel
theorem dX1_fit_1 : decode cX1_fit 1 = .ok (.istore 4, 2) := by decide +kernel
theorem dX1_fit_3 : decode cX1_fit 3 = .ok (.iconst 0, 1) := by decide +kernel
theorem dX1_fit_4 : decode cX1_fit 4 = .ok (.istore 5, 2) := by decide +kernel
theorem dX1_fit_6 : decode cX1_fit 6 = .ok (.iload 5, 2) := by decide +kernel
theorem dX1_fit_8 : decode cX1_fit 8 = .ok (.aload_n 0, 1) := by decide +kernel
theorem dX1_fit_9 : decode cX1_fit 9 = .ok (.getfield 18, 3) := by decide +kernel
theorem dX1_fit_12 : decode cX1_fit 12 = .ok (.if_icmp .ge 77, 3) := by decide +kernel
theorem dX1_fit_15 : decode cX1_fit 15 = .ok (.iload 5, 2) := by decide +kernel
theorem dX1_fit_17 : decode cX1_fit 17 = .ok (.bipush 8, 2) := by decide +kernel
theorem dX1_fit_19 : decode cX1_fit 19 = .ok (.if_icmp .ge 70, 3) := by decide +kernel
theorem dX1_fit_22 : decode cX1_fit 22 = .ok (.iload_n 1, 1) := by decide +kernel
theorem dX1_fit_23 : decode cX1_fit 23 = .ok (.iload_n 2, 1) := by decide +kernel
theorem dX1_fit_24 : decode cX1_fit 24 = .ok (.aload_n 0, 1) := by decide +kernel
theorem dX1_fit_25 : decode cX1_fit 25 = .ok (.getfield 9, 3) := by decide +kernel
theorem dX1_fit_28 : decode cX1_fit 28 = .ok (.iload 5, 2) := by decide +kernel
theorem dX1_fit_30 : decode cX1_fit 30 = .ok (.iaload, 1) := by decide +kernel
theorem dX1_fit_31 : decode cX1_fit 31 = .ok (.imul, 1) := by decide +kernel
theorem dX1_fit_32 : decode cX1_fit 32 = .ok (.iadd, 1) := by decide +kernel
theorem dX1_fit_33 : decode cX1_fit 33 = .ok (.invokestatic 22, 3) := by decide +kernel
theorem dX1_fit_36 : decode cX1_fit 36 = .ok (.istore 6, 2) := by decide +kernel
theorem dX1_fit_38 : decode cX1_fit 38 = .ok (.iload 6, 2) := by decide +kernel
theorem dX1_fit_40 : decode cX1_fit 40 = .ok (.aload_n 0, 1) := by decide +kernel
theorem dX1_fit_41 : decode cX1_fit 41 = .ok (.getfield 15, 3) := by decide +kernel
theorem dX1_fit_44 : decode cX1_fit 44 = .ok (.iload 5, 2) := by decide +kernel
theorem dX1_fit_46 : decode cX1_fit 46 = .ok (.iaload, 1) := by decide +kernel
theorem dX1_fit_47 : decode cX1_fit 47 = .ok (.if_icmp .ne 6, 3) := by decide +kernel
theorem dX1_fit_50 : decode cX1_fit 50 = .ok (.goto 33, 3) := by decide +kernel
theorem dX1_fit_53 : decode cX1_fit 53 = .ok (.iinc 4 1, 3) := by decide +kernel
theorem dX1_fit_56 : decode cX1_fit 56 = .ok (.iload 4, 2) := by decide +kernel
theorem dX1_fit_58 : decode cX1_fit 58 = .ok (.iload_n 3, 1) := by decide +kernel
theorem dX1_fit_59 : decode cX1_fit 59 = .ok (.if_icmp .gt 22, 3) := by decide +kernel
theorem dX1_fit_62 : decode cX1_fit 62 = .ok (.iload 6, 2) := by decide +kernel
theorem dX1_fit_64 : decode cX1_fit 64 = .ok (.sipush 180, 3) := by decide +kernel
theorem dX1_fit_67 : decode cX1_fit 67 = .ok (.aload_n 0, 1) := by decide +kernel
theorem dX1_fit_68 : decode cX1_fit 68 = .ok (.getfield 15, 3) := by decide +kernel
theorem dX1_fit_71 : decode cX1_fit 71 = .ok (.iload 5, 2) := by decide +kernel
theorem dX1_fit_73 : decode cX1_fit 73 = .ok (.iaload, 1) := by decide +kernel
theorem dX1_fit_74 : decode cX1_fit 74 = .ok (.isub, 1) := by decide +kernel
theorem dX1_fit_75 : decode cX1_fit 75 = .ok (.invokestatic 22, 3) := by decide +kernel
theorem dX1_fit_78 : decode cX1_fit 78 = .ok (.if_icmp .eq 5, 3) := by decide +kernel
theorem dX1_fit_81 : decode cX1_fit 81 = .ok (.iconst 0, 1) := by decide +kernel
theorem dX1_fit_82 : decode cX1_fit 82 = .ok (.ireturn, 1) := by decide +kernel
theorem dX1_fit_83 : decode cX1_fit 83 = .ok (.iinc 5 1, 3) := by decide +kernel
theorem dX1_fit_86 : decode cX1_fit 86 = .ok (.goto (-80), 3) := by decide +kernel
theorem dX1_fit_89 : decode cX1_fit 89 = .ok (.iconst 1, 1) := by decide +kernel
theorem dX1_fit_90 : decode cX1_fit 90 = .ok (.ireturn, 1) := by decide +kernel
set_option maxRecDepth 20000 in
theorem ggX1_countFits_X1_fit : GoodIn wsX1_countFits wsX1_fit := goodIn_r _ [5, 6, 7, 8, 9, 10, 11, 12, 13, 14, 15] (by decide +kernel) (by decide +kernel)
set_option maxRecDepth 20000 in
theorem gX1_countFits_X1_fit : GoodIn wsX1_countFits (wsV RX1 28 RX1 yX1_fit wsX1_fit) := goodIn_app (goodIn_of _ (by decide +kernel)) ggX1_countFits_X1_fit
theorem dX1_countFits_0 : decode cX1_countFits 0 = .ok (.iconst 0, 1) := by decide +kernel
theorem dX1_countFits_1 : decode cX1_countFits 1 = .ok (.istore_n 2, 1) := by decide +kernel
theorem dX1_countFits_2 : decode cX1_countFits 2 = .ok (.iconst 0, 1) := by decide +kernel
theorem dX1_countFits_3 : decode cX1_countFits 3 = .ok (.istore_n 3, 1) := by decide +kernel
theorem dX1_countFits_4 : decode cX1_countFits 4 = .ok (.iload_n 3, 1) := by decide +kernel
theorem dX1_countFits_5 : decode cX1_countFits 5 = .ok (.sipush 180, 3) := by decide +kernel
theorem dX1_countFits_8 : decode cX1_countFits 8 = .ok (.if_icmp .ge 40, 3) := by decide +kernel
theorem dX1_countFits_11 : decode cX1_countFits 11 = .ok (.bipush (-9), 2) := by decide +kernel
theorem dX1_countFits_13 : decode cX1_countFits 13 = .ok (.istore 4, 2) := by decide +kernel
theorem dX1_countFits_15 : decode cX1_countFits 15 = .ok (.iload 4, 2) := by decide +kernel
theorem dX1_countFits_17 : decode cX1_countFits 17 = .ok (.bipush 9, 2) := by decide +kernel
theorem dX1_countFits_19 : decode cX1_countFits 19 = .ok (.if_icmp .gt 23, 3) := by decide +kernel
theorem dX1_countFits_22 : decode cX1_countFits 22 = .ok (.aload_n 0, 1) := by decide +kernel
theorem dX1_countFits_23 : decode cX1_countFits 23 = .ok (.iload_n 3, 1) := by decide +kernel
theorem dX1_countFits_24 : decode cX1_countFits 24 = .ok (.iload 4, 2) := by decide +kernel
theorem dX1_countFits_26 : decode cX1_countFits 26 = .ok (.iload_n 1, 1) := by decide +kernel
theorem dX1_countFits_27 : decode cX1_countFits 27 = .ok (.invokevirtual 28, 3) := by decide +kernel
theorem dX1_countFits_30 : decode cX1_countFits 30 = .ok (.ifCond .eq 6, 3) := by decide +kernel
theorem dX1_countFits_33 : decode cX1_countFits 33 = .ok (.iinc 2 1, 3) := by decide +kernel
theorem dX1_countFits_36 : decode cX1_countFits 36 = .ok (.iinc 4 1, 3) := by decide +kernel
theorem dX1_countFits_39 : decode cX1_countFits 39 = .ok (.goto (-24), 3) := by decide +kernel
theorem dX1_countFits_42 : decode cX1_countFits 42 = .ok (.iinc 3 1, 3) := by decide +kernel
theorem dX1_countFits_45 : decode cX1_countFits 45 = .ok (.goto (-41), 3) := by decide +kernel
theorem dX1_countFits_48 : decode cX1_countFits 48 = .ok (.iload_n 2, 1) := by decide +kernel
theorem dX1_countFits_49 : decode cX1_countFits 49 = .ok (.ireturn, 1) := by decide +kernel
set_option maxRecDepth 20000 in
theorem ggX1_fitAt_X1_fit : GoodIn wsX1_fitAt wsX1_fit := goodIn_r _ [5, 6, 7, 8, 9, 10, 11, 12, 13, 14, 15] (by decide +kernel) (by decide +kernel)
set_option maxRecDepth 20000 in
theorem gX1_fitAt_X1_fit : GoodIn wsX1_fitAt (wsV RX1 28 RX1 yX1_fit wsX1_fit) := goodIn_app (goodIn_of _ (by decide +kernel)) ggX1_fitAt_X1_fit
theorem dX1_fitAt_0 : decode cX1_fitAt 0 = .ok (.iconst 0, 1) := by decide +kernel
theorem dX1_fitAt_1 : decode cX1_fitAt 1 = .ok (.istore_n 3, 1) := by decide +kernel
theorem dX1_fitAt_2 : decode cX1_fitAt 2 = .ok (.iconst 0, 1) := by decide +kernel
theorem dX1_fitAt_3 : decode cX1_fitAt 3 = .ok (.istore 4, 2) := by decide +kernel
theorem dX1_fitAt_5 : decode cX1_fitAt 5 = .ok (.iload 4, 2) := by decide +kernel
theorem dX1_fitAt_7 : decode cX1_fitAt 7 = .ok (.sipush 180, 3) := by decide +kernel
theorem dX1_fitAt_10 : decode cX1_fitAt 10 = .ok (.if_icmp .ge 61, 3) := by decide +kernel
theorem dX1_fitAt_13 : decode cX1_fitAt 13 = .ok (.bipush (-9), 2) := by decide +kernel
theorem dX1_fitAt_15 : decode cX1_fitAt 15 = .ok (.istore 5, 2) := by decide +kernel
theorem dX1_fitAt_17 : decode cX1_fitAt 17 = .ok (.iload 5, 2) := by decide +kernel
theorem dX1_fitAt_19 : decode cX1_fitAt 19 = .ok (.bipush 9, 2) := by decide +kernel
theorem dX1_fitAt_21 : decode cX1_fitAt 21 = .ok (.if_icmp .gt 44, 3) := by decide +kernel
theorem dX1_fitAt_24 : decode cX1_fitAt 24 = .ok (.aload_n 0, 1) := by decide +kernel
theorem dX1_fitAt_25 : decode cX1_fitAt 25 = .ok (.iload 4, 2) := by decide +kernel
theorem dX1_fitAt_27 : decode cX1_fitAt 27 = .ok (.iload 5, 2) := by decide +kernel
theorem dX1_fitAt_29 : decode cX1_fitAt 29 = .ok (.iload_n 1, 1) := by decide +kernel
theorem dX1_fitAt_30 : decode cX1_fitAt 30 = .ok (.invokevirtual 28, 3) := by decide +kernel
theorem dX1_fitAt_33 : decode cX1_fitAt 33 = .ok (.ifCond .ne 6, 3) := by decide +kernel
theorem dX1_fitAt_36 : decode cX1_fitAt 36 = .ok (.goto 23, 3) := by decide +kernel
theorem dX1_fitAt_39 : decode cX1_fitAt 39 = .ok (.iload_n 3, 1) := by decide +kernel
theorem dX1_fitAt_40 : decode cX1_fitAt 40 = .ok (.iload_n 2, 1) := by decide +kernel
theorem dX1_fitAt_41 : decode cX1_fitAt 41 = .ok (.if_icmp .ne 15, 3) := by decide +kernel
theorem dX1_fitAt_44 : decode cX1_fitAt 44 = .ok (.bipush 20, 2) := by decide +kernel
theorem dX1_fitAt_46 : decode cX1_fitAt 46 = .ok (.iload 4, 2) := by decide +kernel
theorem dX1_fitAt_48 : decode cX1_fitAt 48 = .ok (.imul, 1) := by decide +kernel
theorem dX1_fitAt_49 : decode cX1_fitAt 49 = .ok (.iload 5, 2) := by decide +kernel
theorem dX1_fitAt_51 : decode cX1_fitAt 51 = .ok (.iadd, 1) := by decide +kernel
theorem dX1_fitAt_52 : decode cX1_fitAt 52 = .ok (.bipush 9, 2) := by decide +kernel
theorem dX1_fitAt_54 : decode cX1_fitAt 54 = .ok (.iadd, 1) := by decide +kernel
theorem dX1_fitAt_55 : decode cX1_fitAt 55 = .ok (.ireturn, 1) := by decide +kernel
theorem dX1_fitAt_56 : decode cX1_fitAt 56 = .ok (.iinc 3 1, 3) := by decide +kernel
theorem dX1_fitAt_59 : decode cX1_fitAt 59 = .ok (.iinc 5 1, 3) := by decide +kernel
theorem dX1_fitAt_62 : decode cX1_fitAt 62 = .ok (.goto (-45), 3) := by decide +kernel
theorem dX1_fitAt_65 : decode cX1_fitAt 65 = .ok (.iinc 4 1, 3) := by decide +kernel
theorem dX1_fitAt_68 : decode cX1_fitAt 68 = .ok (.goto (-63), 3) := by decide +kernel
theorem dX1_fitAt_71 : decode cX1_fitAt 71 = .ok (.bipush (-6), 2) := by decide +kernel
theorem dX1_fitAt_73 : decode cX1_fitAt 73 = .ok (.ireturn, 1) := by decide +kernel
set_option maxRecDepth 20000 in
theorem ggX2_init_X1_init : GoodIn wsX2_init wsX1_init := goodIn_r _ [15, 16, 2, 3, 4, 17, 18, 27, 28, 29] (by decide +kernel) (by decide +kernel)
set_option maxRecDepth 20000 in
theorem gX2_init_X1_init : GoodIn wsX2_init (wsX1_init) := ggX2_init_X1_init
theorem dX2_init_0 : decode cX2_init 0 = .ok (.aload_n 0, 1) := by decide +kernel
theorem dX2_init_1 : decode cX2_init 1 = .ok (.invokespecial 3, 3) := by decide +kernel
theorem dX2_init_4 : decode cX2_init 4 = .ok (.aload_n 0, 1) := by decide +kernel
theorem dX2_init_5 : decode cX2_init 5 = .ok (.bipush 9, 2) := by decide +kernel
theorem dX2_init_7 : decode cX2_init 7 = .ok (.newarray .int, 2) := by decide +kernel
theorem dX2_init_9 : decode cX2_init 9 = .ok (.putfield 9, 3) := by decide +kernel
theorem dX2_init_12 : decode cX2_init 12 = .ok (.aload_n 0, 1) := by decide +kernel
theorem dX2_init_13 : decode cX2_init 13 = .ok (.bipush 9, 2) := by decide +kernel
theorem dX2_init_15 : decode cX2_init 15 = .ok (.newarray .int, 2) := by decide +kernel
theorem dX2_init_17 : decode cX2_init 17 = .ok (.putfield 15, 3) := by decide +kernel
theorem dX2_init_20 : decode cX2_init 20 = .ok (.aload_n 0, 1) := by decide +kernel
theorem dX2_init_21 : decode cX2_init 21 = .ok (.bipush 9, 2) := by decide +kernel
theorem dX2_init_23 : decode cX2_init 23 = .ok (.newarray .int, 2) := by decide +kernel
theorem dX2_init_25 : decode cX2_init 25 = .ok (.putfield 18, 3) := by decide +kernel
theorem dX2_init_28 : decode cX2_init 28 = .ok (.aload_n 0, 1) := by decide +kernel
theorem dX2_init_29 : decode cX2_init 29 = .ok (.bipush 9, 2) := by decide +kernel
theorem dX2_init_31 : decode cX2_init 31 = .ok (.newarray .int, 2) := by decide +kernel
theorem dX2_init_33 : decode cX2_init 33 = .ok (.putfield 21, 3) := by decide +kernel
theorem dX2_init_36 : decode cX2_init 36 = .ok (.aload_n 0, 1) := by decide +kernel
theorem dX2_init_37 : decode cX2_init 37 = .ok (.new 24, 3) := by decide +kernel
theorem dX2_init_40 : decode cX2_init 40 = .ok (.dup, 1) := by decide +kernel
theorem dX2_init_41 : decode cX2_init 41 = .ok (.invokespecial 26, 3) := by decide +kernel
theorem dX2_init_44 : decode cX2_init 44 = .ok (.putfield 27, 3) := by decide +kernel
theorem dX2_init_47 : decode cX2_init 47 = .ok (.iconst 0, 1) := by decide +kernel
theorem dX2_init_48 : decode cX2_init 48 = .ok (.istore_n 1, 1) := by decide +kernel
theorem dX2_init_49 : decode cX2_init 49 = .ok (.iload_n 1, 1) := by decide +kernel
theorem dX2_init_50 : decode cX2_init 50 = .ok (.bipush 9, 2) := by decide +kernel
theorem dX2_init_52 : decode cX2_init 52 = .ok (.if_icmp .ge 17, 3) := by decide +kernel
theorem dX2_init_55 : decode cX2_init 55 = .ok (.aload_n 0, 1) := by decide +kernel
theorem dX2_init_56 : decode cX2_init 56 = .ok (.getfield 18, 3) := by decide +kernel
theorem dX2_init_59 : decode cX2_init 59 = .ok (.iload_n 1, 1) := by decide +kernel
theorem dX2_init_60 : decode cX2_init 60 = .ok (.bipush (-6), 2) := by decide +kernel
theorem dX2_init_62 : decode cX2_init 62 = .ok (.iastore, 1) := by decide +kernel
theorem dX2_init_63 : decode cX2_init 63 = .ok (.iinc 1 1, 3) := by decide +kernel
theorem dX2_init_66 : decode cX2_init 66 = .ok (.goto (-17), 3) := by decide +kernel
theorem dX2_init_69 : decode cX2_init 69 = .ok (.return_, 1) := by decide +kernel
set_option maxRecDepth 20000 in
theorem ggX2_become_X1_become : GoodIn wsX2_become wsX1_become := goodIn_r _ [12, 13, 14, 15, 24, 25, 26] (by decide +kernel) (by decide +kernel)
set_option maxRecDepth 20000 in
theorem gX2_become_X1_become : GoodIn wsX2_become (wsV RX2 31 RX1 yX1_become wsX1_become) := goodIn_app (goodIn_of _ (by decide +kernel)) ggX2_become_X1_become
theorem dX2_become_0 : decode cX2_become 0 = .ok (.iconst 0, 1) := by decide +kernel
theorem dX2_become_1 : decode cX2_become 1 = .ok (.istore_n 2, 1) := by decide +kernel
theorem dX2_become_2 : decode cX2_become 2 = .ok (.iload_n 2, 1) := by decide +kernel
theorem dX2_become_3 : decode cX2_become 3 = .ok (.bipush 9, 2) := by decide +kernel
theorem dX2_become_5 : decode cX2_become 5 = .ok (.if_icmp .ge 45, 3) := by decide +kernel
theorem dX2_become_8 : decode cX2_become 8 = .ok (.aload_n 0, 1) := by decide +kernel
theorem dX2_become_9 : decode cX2_become 9 = .ok (.getfield 9, 3) := by decide +kernel
theorem dX2_become_12 : decode cX2_become 12 = .ok (.iload_n 2, 1) := by decide +kernel
theorem dX2_become_13 : decode cX2_become 13 = .ok (.aload_n 1, 1) := by decide +kernel
theorem dX2_become_14 : decode cX2_become 14 = .ok (.getfield 9, 3) := by decide +kernel
theorem dX2_become_17 : decode cX2_become 17 = .ok (.iload_n 2, 1) := by decide +kernel
theorem dX2_become_18 : decode cX2_become 18 = .ok (.iaload, 1) := by decide +kernel
theorem dX2_become_19 : decode cX2_become 19 = .ok (.iastore, 1) := by decide +kernel
theorem dX2_become_20 : decode cX2_become 20 = .ok (.aload_n 0, 1) := by decide +kernel
theorem dX2_become_21 : decode cX2_become 21 = .ok (.getfield 15, 3) := by decide +kernel
theorem dX2_become_24 : decode cX2_become 24 = .ok (.iload_n 2, 1) := by decide +kernel
theorem dX2_become_25 : decode cX2_become 25 = .ok (.aload_n 1, 1) := by decide +kernel
theorem dX2_become_26 : decode cX2_become 26 = .ok (.getfield 15, 3) := by decide +kernel
theorem dX2_become_29 : decode cX2_become 29 = .ok (.iload_n 2, 1) := by decide +kernel
theorem dX2_become_30 : decode cX2_become 30 = .ok (.iaload, 1) := by decide +kernel
theorem dX2_become_31 : decode cX2_become 31 = .ok (.iastore, 1) := by decide +kernel
theorem dX2_become_32 : decode cX2_become 32 = .ok (.aload_n 0, 1) := by decide +kernel
theorem dX2_become_33 : decode cX2_become 33 = .ok (.getfield 18, 3) := by decide +kernel
theorem dX2_become_36 : decode cX2_become 36 = .ok (.iload_n 2, 1) := by decide +kernel
theorem dX2_become_37 : decode cX2_become 37 = .ok (.aload_n 1, 1) := by decide +kernel
theorem dX2_become_38 : decode cX2_become 38 = .ok (.getfield 18, 3) := by decide +kernel
theorem dX2_become_41 : decode cX2_become 41 = .ok (.iload_n 2, 1) := by decide +kernel
theorem dX2_become_42 : decode cX2_become 42 = .ok (.iaload, 1) := by decide +kernel
theorem dX2_become_43 : decode cX2_become 43 = .ok (.iastore, 1) := by decide +kernel
theorem dX2_become_44 : decode cX2_become 44 = .ok (.iinc 2 1, 3) := by decide +kernel
theorem dX2_become_47 : decode cX2_become 47 = .ok (.goto (-45), 3) := by decide +kernel
theorem dX2_become_50 : decode cX2_become 50 = .ok (.aload_n 0, 1) := by decide +kernel
theorem dX2_become_51 : decode cX2_become 51 = .ok (.getfield 27, 3) := by decide +kernel
theorem dX2_become_54 : decode cX2_become 54 = .ok (.aload_n 1, 1) := by decide +kernel
theorem dX2_become_55 : decode cX2_become 55 = .ok (.getfield 27, 3) := by decide +kernel
theorem dX2_become_58 : decode cX2_become 58 = .ok (.invokevirtual 31, 3) := by decide +kernel
theorem dX2_become_61 : decode cX2_become 61 = .ok (.aload_n 0, 1) := by decide +kernel
theorem dX2_become_62 : decode cX2_become 62 = .ok (.aload_n 1, 1) := by decide +kernel
theorem dX2_become_63 : decode cX2_become 63 = .ok (.getfield 35, 3) := by decide +kernel
theorem dX2_become_66 : decode cX2_become 66 = .ok (.putfield 35, 3) := by decide +kernel
theorem dX2_become_69 : decode cX2_become 69 = .ok (.aload_n 0, 1) := by decide +kernel
theorem dX2_become_70 : decode cX2_become 70 = .ok (.aload_n 1, 1) := by decide +kernel
theorem dX2_become_71 : decode cX2_become 71 = .ok (.getfield 39, 3) := by decide +kernel
theorem dX2_become_74 : decode cX2_become 74 = .ok (.putfield 39, 3) := by decide +kernel
theorem dX2_become_77 : decode cX2_become 77 = .ok (.aload_n 0, 1) := by decide +kernel
theorem dX2_become_78 : decode cX2_become 78 = .ok (.aload_n 1, 1) := by decide +kernel
theorem dX2_become_79 : decode cX2_become 79 = .ok (.getfield 42, 3) := by decide +kernel
theorem dX2_become_82 : decode cX2_become 82 = .ok (.putfield 42, 3) := by decide +kernel
theorem dX2_become_85 : decode cX2_become 85 = .ok (.return_, 1) := by decide +kernel
theorem dX2_isThere_0 : decode cX2_isThere 0 = .ok (.iload_n 1, 1) := by decide +kernel
theorem dX2_isThere_1 : decode cX2_isThere 1 = .ok (.ifCond .lt 24, 3) := by decide +kernel
theorem dX2_isThere_4 : decode cX2_isThere 4 = .ok (.iload_n 1, 1) := by decide +kernel
theorem dX2_isThere_5 : decode cX2_isThere 5 = .ok (.bipush 9, 2) := by decide +kernel
theorem dX2_isThere_7 : decode cX2_isThere 7 = .ok (.if_icmp .ge 18, 3) := by decide +kernel
theorem dX2_isThere_10 : decode cX2_isThere 10 = .ok (.aload_n 0, 1) := by decide +kernel
theorem dX2_isThere_11 : decode cX2_isThere 11 = .ok (.getfield 35, 3) := by decide +kernel
theorem dX2_isThere_14 : decode cX2_isThere 14 = .ok (.iload_n 1, 1) := by decide +kernel
theorem dX2_isThere_15 : decode cX2_isThere 15 = .ok (.ishr, 1) := by decide +kernel
theorem dX2_isThere_16 : decode cX2_isThere 16 = .ok (.iconst 1, 1) := by decide +kernel
theorem dX2_isThere_17 : decode cX2_isThere 17 = .ok (.iand, 1) := by decide +kernel
theorem dX2_isThere_18 : decode cX2_isThere 18 = .ok (.ifCond .eq 7, 3) := by decide +kernel
theorem dX2_isThere_21 : decode cX2_isThere 21 = .ok (.iconst 1, 1) := by decide +kernel
theorem dX2_isThere_22 : decode cX2_isThere 22 = .ok (.goto 4, 3) := by decide +kernel
theorem dX2_isThere_25 : decode cX2_isThere 25 = .ok (.iconst 0, 1) := by decide +kernel
theorem dX2_isThere_26 : decode cX2_isThere 26 = .ok (.ireturn, 1) := by decide +kernel
set_option maxRecDepth 20000 in
theorem ggX2_inclineOf_X2_isThere : GoodIn wsX2_inclineOf wsX2_isThere := goodIn_r _ [6, 7, 8, 9, 10, 11, 12, 13, 14, 15] (by decide +kernel) (by decide +kernel)
set_option maxRecDepth 20000 in
theorem gX2_inclineOf_X2_isThere : GoodIn wsX2_inclineOf (wsV RX2 45 RX2 yX2_isThere wsX2_isThere) := goodIn_app (goodIn_of _ (by decide +kernel)) ggX2_inclineOf_X2_isThere
theorem dX2_inclineOf_0 : decode cX2_inclineOf 0 = .ok (.aload_n 0, 1) := by decide +kernel
theorem dX2_inclineOf_1 : decode cX2_inclineOf 1 = .ok (.iload_n 1, 1) := by decide +kernel
theorem dX2_inclineOf_2 : decode cX2_inclineOf 2 = .ok (.invokevirtual 45, 3) := by decide +kernel
theorem dX2_inclineOf_5 : decode cX2_inclineOf 5 = .ok (.ifCond .eq 12, 3) := by decide +kernel
theorem dX2_inclineOf_8 : decode cX2_inclineOf 8 = .ok (.aload_n 0, 1) := by decide +kernel
theorem dX2_inclineOf_9 : decode cX2_inclineOf 9 = .ok (.getfield 9, 3) := by decide +kernel
theorem dX2_inclineOf_12 : decode cX2_inclineOf 12 = .ok (.iload_n 1, 1) := by decide +kernel
theorem dX2_inclineOf_13 : decode cX2_inclineOf 13 = .ok (.iaload, 1) := by decide +kernel
theorem dX2_inclineOf_14 : decode cX2_inclineOf 14 = .ok (.goto 4, 3) := by decide +kernel
theorem dX2_inclineOf_17 : decode cX2_inclineOf 17 = .ok (.iconst 0, 1) := by decide +kernel
theorem dX2_inclineOf_18 : decode cX2_inclineOf 18 = .ok (.ireturn, 1) := by decide +kernel
set_option maxRecDepth 20000 in
theorem ggX2_driftOf_X2_isThere : GoodIn wsX2_driftOf wsX2_isThere := goodIn_r _ [6, 7, 8, 9, 10, 11, 12, 13, 14, 15] (by decide +kernel) (by decide +kernel)
set_option maxRecDepth 20000 in
theorem gX2_driftOf_X2_isThere : GoodIn wsX2_driftOf (wsV RX2 45 RX2 yX2_isThere wsX2_isThere) := goodIn_app (goodIn_of _ (by decide +kernel)) ggX2_driftOf_X2_isThere
theorem dX2_driftOf_0 : decode cX2_driftOf 0 = .ok (.aload_n 0, 1) := by decide +kernel
theorem dX2_driftOf_1 : decode cX2_driftOf 1 = .ok (.iload_n 1, 1) := by decide +kernel
theorem dX2_driftOf_2 : decode cX2_driftOf 2 = .ok (.invokevirtual 45, 3) := by decide +kernel
theorem dX2_driftOf_5 : decode cX2_driftOf 5 = .ok (.ifCond .eq 12, 3) := by decide +kernel
theorem dX2_driftOf_8 : decode cX2_driftOf 8 = .ok (.aload_n 0, 1) := by decide +kernel
theorem dX2_driftOf_9 : decode cX2_driftOf 9 = .ok (.getfield 15, 3) := by decide +kernel
theorem dX2_driftOf_12 : decode cX2_driftOf 12 = .ok (.iload_n 1, 1) := by decide +kernel
theorem dX2_driftOf_13 : decode cX2_driftOf 13 = .ok (.iaload, 1) := by decide +kernel
theorem dX2_driftOf_14 : decode cX2_driftOf 14 = .ok (.goto 4, 3) := by decide +kernel
theorem dX2_driftOf_17 : decode cX2_driftOf 17 = .ok (.iconst 0, 1) := by decide +kernel
theorem dX2_driftOf_18 : decode cX2_driftOf 18 = .ok (.ireturn, 1) := by decide +kernel
set_option maxRecDepth 20000 in
theorem ggX2_mateOf_X2_isThere : GoodIn wsX2_mateOf wsX2_isThere := goodIn_r _ [6, 7, 8, 9, 10, 11, 12, 13, 14, 15] (by decide +kernel) (by decide +kernel)
set_option maxRecDepth 20000 in
theorem gX2_mateOf_X2_isThere : GoodIn wsX2_mateOf (wsV RX2 45 RX2 yX2_isThere wsX2_isThere) := goodIn_app (goodIn_of _ (by decide +kernel)) ggX2_mateOf_X2_isThere
theorem dX2_mateOf_0 : decode cX2_mateOf 0 = .ok (.aload_n 0, 1) := by decide +kernel
theorem dX2_mateOf_1 : decode cX2_mateOf 1 = .ok (.iload_n 1, 1) := by decide +kernel
theorem dX2_mateOf_2 : decode cX2_mateOf 2 = .ok (.invokevirtual 45, 3) := by decide +kernel
theorem dX2_mateOf_5 : decode cX2_mateOf 5 = .ok (.ifCond .eq 12, 3) := by decide +kernel
theorem dX2_mateOf_8 : decode cX2_mateOf 8 = .ok (.aload_n 0, 1) := by decide +kernel
theorem dX2_mateOf_9 : decode cX2_mateOf 9 = .ok (.getfield 18, 3) := by decide +kernel
theorem dX2_mateOf_12 : decode cX2_mateOf 12 = .ok (.iload_n 1, 1) := by decide +kernel
theorem dX2_mateOf_13 : decode cX2_mateOf 13 = .ok (.iaload, 1) := by decide +kernel
theorem dX2_mateOf_14 : decode cX2_mateOf 14 = .ok (.goto 5, 3) := by decide +kernel
theorem dX2_mateOf_17 : decode cX2_mateOf 17 = .ok (.bipush (-6), 2) := by decide +kernel
theorem dX2_mateOf_19 : decode cX2_mateOf 19 = .ok (.ireturn, 1) := by decide +kernel
set_option maxRecDepth 20000 in
theorem ggX2_between_X2_inclineOf : GoodIn wsX2_between wsX2_inclineOf := goodIn_r _ [5, 6, 7, 8, 9, 4, 10, 11, 23, 24, 25, 26, 27, 28, 29, 30] (by decide +kernel) (by decide +kernel)
set_option maxRecDepth 20000 in
theorem gX2_between_X2_inclineOf : GoodIn wsX2_between (wsV RX2 49 RX2 yX2_inclineOf wsX2_inclineOf) := goodIn_app (goodIn_of _ (by decide +kernel)) ggX2_between_X2_inclineOf
set_option maxRecDepth 20000 in
theorem ggX2_between_X5_between : GoodIn wsX2_between wsX5_between := goodIn_r _ [15, 16, 17, 18, 19, 20, 21, 14, 22] (by decide +kernel) (by decide +kernel)
set_option maxRecDepth 20000 in
theorem gX2_between_X5_between : GoodIn wsX2_between (va_wsS RX2 53 yX5_between wsX5_between) := goodIn_app (goodIn_of _ (by decide +kernel)) ggX2_between_X5_between
theorem dX2_between_0 : decode cX2_between 0 = .ok (.aload_n 0, 1) := by decide +kernel
theorem dX2_between_1 : decode cX2_between 1 = .ok (.iload_n 1, 1) := by decide +kernel
theorem dX2_between_2 : decode cX2_between 2 = .ok (.invokevirtual 49, 3) := by decide +kernel
theorem dX2_between_5 : decode cX2_between 5 = .ok (.aload_n 0, 1) := by decide +kernel
theorem dX2_between_6 : decode cX2_between 6 = .ok (.iload_n 2, 1) := by decide +kernel
theorem dX2_between_7 : decode cX2_between 7 = .ok (.invokevirtual 49, 3) := by decide +kernel
theorem dX2_between_10 : decode cX2_between 10 = .ok (.invokestatic 53, 3) := by decide +kernel
theorem dX2_between_13 : decode cX2_between 13 = .ok (.ireturn, 1) := by decide +kernel
set_option maxRecDepth 20000 in
theorem ggX2_heads_J6_bitCount_0f7a4 : GoodIn wsX2_heads wsJ6_bitCount_0f7a4 := goodIn_r _ [5, 6, 7, 8] (by decide +kernel) (by decide +kernel)
set_option maxRecDepth 20000 in
theorem gX2_heads_J6_bitCount_0f7a4 : GoodIn wsX2_heads (va_wsS RX2 59 yJ6_bitCount_0f7a4 wsJ6_bitCount_0f7a4) := goodIn_app (goodIn_of _ (by decide +kernel)) ggX2_heads_J6_bitCount_0f7a4
theorem dX2_heads_0 : decode cX2_heads 0 = .ok (.aload_n 0, 1) := by decide +kernel
theorem dX2_heads_1 : decode cX2_heads 1 = .ok (.getfield 35, 3) := by decide +kernel
theorem dX2_heads_4 : decode cX2_heads 4 = .ok (.invokestatic 59, 3) := by decide +kernel
theorem dX2_heads_7 : decode cX2_heads 7 = .ok (.ireturn, 1) := by decide +kernel
set_option maxRecDepth 20000 in
theorem ggX2_pairsSitting_X2_mateOf : GoodIn wsX2_pairsSitting wsX2_mateOf := goodIn_r _ [5, 6, 7, 8, 9, 4, 10, 11, 12, 13, 14, 15, 16, 17, 18, 19] (by decide +kernel) (by decide +kernel)
set_option maxRecDepth 20000 in
theorem gX2_pairsSitting_X2_mateOf : GoodIn wsX2_pairsSitting (wsV RX2 64 RX2 yX2_mateOf wsX2_mateOf) := goodIn_app (goodIn_of _ (by decide +kernel)) ggX2_pairsSitting_X2_mateOf
theorem dX2_pairsSitting_0 : decode cX2_pairsSitting 0 = .ok (.iconst 0, 1) := by decide +kernel
theorem dX2_pairsSitting_1 : decode cX2_pairsSitting 1 = .ok (.istore_n 1, 1) := by decide +kernel
theorem dX2_pairsSitting_2 : decode cX2_pairsSitting 2 = .ok (.iconst 0, 1) := by decide +kernel
theorem dX2_pairsSitting_3 : decode cX2_pairsSitting 3 = .ok (.istore_n 2, 1) := by decide +kernel
theorem dX2_pairsSitting_4 : decode cX2_pairsSitting 4 = .ok (.iload_n 2, 1) := by decide +kernel
theorem dX2_pairsSitting_5 : decode cX2_pairsSitting 5 = .ok (.bipush 9, 2) := by decide +kernel
theorem dX2_pairsSitting_7 : decode cX2_pairsSitting 7 = .ok (.if_icmp .ge 21, 3) := by decide +kernel
theorem dX2_pairsSitting_10 : decode cX2_pairsSitting 10 = .ok (.aload_n 0, 1) := by decide +kernel
theorem dX2_pairsSitting_11 : decode cX2_pairsSitting 11 = .ok (.iload_n 2, 1) := by decide +kernel
theorem dX2_pairsSitting_12 : decode cX2_pairsSitting 12 = .ok (.invokevirtual 64, 3) := by decide +kernel
theorem dX2_pairsSitting_15 : decode cX2_pairsSitting 15 = .ok (.iload_n 2, 1) := by decide +kernel
theorem dX2_pairsSitting_16 : decode cX2_pairsSitting 16 = .ok (.if_icmp .le 6, 3) := by decide +kernel
theorem dX2_pairsSitting_19 : decode cX2_pairsSitting 19 = .ok (.iinc 1 1, 3) := by decide +kernel
theorem dX2_pairsSitting_22 : decode cX2_pairsSitting 22 = .ok (.iinc 2 1, 3) := by decide +kernel
theorem dX2_pairsSitting_25 : decode cX2_pairsSitting 25 = .ok (.goto (-21), 3) := by decide +kernel
theorem dX2_pairsSitting_28 : decode cX2_pairsSitting 28 = .ok (.iload_n 1, 1) := by decide +kernel
theorem dX2_pairsSitting_29 : decode cX2_pairsSitting 29 = .ok (.ireturn, 1) := by decide +kernel
set_option maxRecDepth 20000 in
theorem ggX2_inclinesAdded_X2_inclineOf : GoodIn wsX2_inclinesAdded wsX2_inclineOf := goodIn_r _ [5, 6, 7, 8, 9, 4, 10, 11, 12, 13, 14, 15, 16, 17, 18, 19] (by decide +kernel) (by decide +kernel)
set_option maxRecDepth 20000 in
theorem gX2_inclinesAdded_X2_inclineOf : GoodIn wsX2_inclinesAdded (wsV RX2 49 RX2 yX2_inclineOf wsX2_inclineOf) := goodIn_app (goodIn_of _ (by decide +kernel)) ggX2_inclinesAdded_X2_inclineOf
theorem dX2_inclinesAdded_0 : decode cX2_inclinesAdded 0 = .ok (.iconst 0, 1) := by decide +kernel
theorem dX2_inclinesAdded_1 : decode cX2_inclinesAdded 1 = .ok (.istore_n 1, 1) := by decide +kernel
theorem dX2_inclinesAdded_2 : decode cX2_inclinesAdded 2 = .ok (.iconst 0, 1) := by decide +kernel
theorem dX2_inclinesAdded_3 : decode cX2_inclinesAdded 3 = .ok (.istore_n 2, 1) := by decide +kernel
theorem dX2_inclinesAdded_4 : decode cX2_inclinesAdded 4 = .ok (.iload_n 2, 1) := by decide +kernel
theorem dX2_inclinesAdded_5 : decode cX2_inclinesAdded 5 = .ok (.bipush 9, 2) := by decide +kernel
theorem dX2_inclinesAdded_7 : decode cX2_inclinesAdded 7 = .ok (.if_icmp .ge 17, 3) := by decide +kernel
theorem dX2_inclinesAdded_10 : decode cX2_inclinesAdded 10 = .ok (.iload_n 1, 1) := by decide +kernel
theorem dX2_inclinesAdded_11 : decode cX2_inclinesAdded 11 = .ok (.aload_n 0, 1) := by decide +kernel
theorem dX2_inclinesAdded_12 : decode cX2_inclinesAdded 12 = .ok (.iload_n 2, 1) := by decide +kernel
theorem dX2_inclinesAdded_13 : decode cX2_inclinesAdded 13 = .ok (.invokevirtual 49, 3) := by decide +kernel
theorem dX2_inclinesAdded_16 : decode cX2_inclinesAdded 16 = .ok (.iadd, 1) := by decide +kernel
theorem dX2_inclinesAdded_17 : decode cX2_inclinesAdded 17 = .ok (.istore_n 1, 1) := by decide +kernel
theorem dX2_inclinesAdded_18 : decode cX2_inclinesAdded 18 = .ok (.iinc 2 1, 3) := by decide +kernel
theorem dX2_inclinesAdded_21 : decode cX2_inclinesAdded 21 = .ok (.goto (-17), 3) := by decide +kernel
theorem dX2_inclinesAdded_24 : decode cX2_inclinesAdded 24 = .ok (.iload_n 1, 1) := by decide +kernel
theorem dX2_inclinesAdded_25 : decode cX2_inclinesAdded 25 = .ok (.ireturn, 1) := by decide +kernel
set_option maxRecDepth 20000 in
theorem ggX2_settle_X2_separate : GoodIn wsX2_settle wsX2_separate := goodIn_r _ [8, 9, 10, 11, 12, 7, 13, 14, 15, 16, 17, 1, 18, 19, 20, 21, 22, 23, 24, 25] (by decide +kernel) (by decide +kernel)
set_option maxRecDepth 20000 in
theorem gX2_settle_X2_separate : GoodIn wsX2_settle (wsV RX2 67 RX2 yX2_separate wsX2_separate) := goodIn_app (goodIn_of _ (by decide +kernel)) ggX2_settle_X2_separate
theorem dX2_settle_0 : decode cX2_settle 0 = .ok (.iload_n 1, 1) := by decide +kernel
theorem dX2_settle_1 : decode cX2_settle 1 = .ok (.ifCond .lt 9, 3) := by decide +kernel
theorem dX2_settle_4 : decode cX2_settle 4 = .ok (.iload_n 1, 1) := by decide +kernel
theorem dX2_settle_5 : decode cX2_settle 5 = .ok (.bipush 9, 2) := by decide +kernel
theorem dX2_settle_7 : decode cX2_settle 7 = .ok (.if_icmp .lt 4, 3) := by decide +kernel
theorem dX2_settle_10 : decode cX2_settle 10 = .ok (.return_, 1) := by decide +kernel
theorem dX2_settle_11 : decode cX2_settle 11 = .ok (.aload_n 0, 1) := by decide +kernel
theorem dX2_settle_12 : decode cX2_settle 12 = .ok (.iload_n 1, 1) := by decide +kernel
theorem dX2_settle_13 : decode cX2_settle 13 = .ok (.invokevirtual 67, 3) := by decide +kernel
theorem dX2_settle_16 : decode cX2_settle 16 = .ok (.aload_n 0, 1) := by decide +kernel
theorem dX2_settle_17 : decode cX2_settle 17 = .ok (.dup, 1) := by decide +kernel
theorem dX2_settle_18 : decode cX2_settle 18 = .ok (.getfield 35, 3) := by decide +kernel
theorem dX2_settle_21 : decode cX2_settle 21 = .ok (.iconst 1, 1) := by decide +kernel
theorem dX2_settle_22 : decode cX2_settle 22 = .ok (.iload_n 1, 1) := by decide +kernel
theorem dX2_settle_23 : decode cX2_settle 23 = .ok (.ishl, 1) := by decide +kernel
theorem dX2_settle_24 : decode cX2_settle 24 = .ok (.ior, 1) := by decide +kernel
theorem dX2_settle_25 : decode cX2_settle 25 = .ok (.putfield 35, 3) := by decide +kernel
theorem dX2_settle_28 : decode cX2_settle 28 = .ok (.aload_n 0, 1) := by decide +kernel
theorem dX2_settle_29 : decode cX2_settle 29 = .ok (.getfield 9, 3) := by decide +kernel
theorem dX2_settle_32 : decode cX2_settle 32 = .ok (.iload_n 1, 1) := by decide +kernel
theorem dX2_settle_33 : decode cX2_settle 33 = .ok (.iload_n 2, 1) := by decide +kernel
theorem dX2_settle_34 : decode cX2_settle 34 = .ok (.iastore, 1) := by decide +kernel
theorem dX2_settle_35 : decode cX2_settle 35 = .ok (.aload_n 0, 1) := by decide +kernel
theorem dX2_settle_36 : decode cX2_settle 36 = .ok (.getfield 15, 3) := by decide +kernel
theorem dX2_settle_39 : decode cX2_settle 39 = .ok (.iload_n 1, 1) := by decide +kernel
theorem dX2_settle_40 : decode cX2_settle 40 = .ok (.iload_n 3, 1) := by decide +kernel
theorem dX2_settle_41 : decode cX2_settle 41 = .ok (.iastore, 1) := by decide +kernel
theorem dX2_settle_42 : decode cX2_settle 42 = .ok (.return_, 1) := by decide +kernel
set_option maxRecDepth 20000 in
theorem ggX2_seat_X2_isThere : GoodIn wsX2_seat wsX2_isThere := goodIn_r _ [6, 7, 8, 9, 10, 11, 12, 13, 14, 15] (by decide +kernel) (by decide +kernel)
set_option maxRecDepth 20000 in
theorem gX2_seat_X2_isThere : GoodIn wsX2_seat (wsV RX2 45 RX2 yX2_isThere wsX2_isThere) := goodIn_app (goodIn_of _ (by decide +kernel)) ggX2_seat_X2_isThere
theorem dX2_seat_0 : decode cX2_seat 0 = .ok (.aload_n 0, 1) := by decide +kernel
theorem dX2_seat_1 : decode cX2_seat 1 = .ok (.iload_n 1, 1) := by decide +kernel
theorem dX2_seat_2 : decode cX2_seat 2 = .ok (.invokevirtual 45, 3) := by decide +kernel
theorem dX2_seat_5 : decode cX2_seat 5 = .ok (.ifCond .eq 25, 3) := by decide +kernel
theorem dX2_seat_8 : decode cX2_seat 8 = .ok (.aload_n 0, 1) := by decide +kernel
theorem dX2_seat_9 : decode cX2_seat 9 = .ok (.iload_n 2, 1) := by decide +kernel
theorem dX2_seat_10 : decode cX2_seat 10 = .ok (.invokevirtual 45, 3) := by decide +kernel
theorem dX2_seat_13 : decode cX2_seat 13 = .ok (.ifCond .eq 17, 3) := by decide +kernel
theorem dX2_seat_16 : decode cX2_seat 16 = .ok (.aload_n 0, 1) := by decide +kernel
theorem dX2_seat_17 : decode cX2_seat 17 = .ok (.getfield 18, 3) := by decide +kernel
theorem dX2_seat_20 : decode cX2_seat 20 = .ok (.iload_n 1, 1) := by decide +kernel
theorem dX2_seat_21 : decode cX2_seat 21 = .ok (.iload_n 2, 1) := by decide +kernel
theorem dX2_seat_22 : decode cX2_seat 22 = .ok (.iastore, 1) := by decide +kernel
theorem dX2_seat_23 : decode cX2_seat 23 = .ok (.aload_n 0, 1) := by decide +kernel
theorem dX2_seat_24 : decode cX2_seat 24 = .ok (.getfield 18, 3) := by decide +kernel
theorem dX2_seat_27 : decode cX2_seat 27 = .ok (.iload_n 2, 1) := by decide +kernel
theorem dX2_seat_28 : decode cX2_seat 28 = .ok (.iload_n 1, 1) := by decide +kernel
theorem dX2_seat_29 : decode cX2_seat 29 = .ok (.iastore, 1) := by decide +kernel
theorem dX2_seat_30 : decode cX2_seat 30 = .ok (.return_, 1) := by decide +kernel
set_option maxRecDepth 20000 in
theorem ggX2_separate_X2_mateOf : GoodIn wsX2_separate wsX2_mateOf := goodIn_r _ [6, 1, 7, 8, 9, 5, 10, 11, 12, 13, 14, 15, 16, 17, 18, 19] (by decide +kernel) (by decide +kernel)
set_option maxRecDepth 20000 in
theorem gX2_separate_X2_mateOf : GoodIn wsX2_separate (wsV RX2 64 RX2 yX2_mateOf wsX2_mateOf) := goodIn_app (goodIn_of _ (by decide +kernel)) ggX2_separate_X2_mateOf
set_option maxRecDepth 20000 in
theorem ggX2_separate_X2_isThere : GoodIn wsX2_separate wsX2_isThere := goodIn_r _ [10, 11, 12, 13, 14, 15, 16, 17, 18, 19] (by decide +kernel) (by decide +kernel)
set_option maxRecDepth 20000 in
theorem gX2_separate_X2_isThere : GoodIn wsX2_separate (wsV RX2 45 RX2 yX2_isThere wsX2_isThere) := goodIn_app (goodIn_of _ (by decide +kernel)) ggX2_separate_X2_isThere
theorem dX2_separate_0 : decode cX2_separate 0 = .ok (.aload_n 0, 1) := by decide +kernel
theorem dX2_separate_1 : decode cX2_separate 1 = .ok (.iload_n 1, 1) := by decide +kernel
theorem dX2_separate_2 : decode cX2_separate 2 = .ok (.invokevirtual 64, 3) := by decide +kernel
theorem dX2_separate_5 : decode cX2_separate 5 = .ok (.istore_n 2, 1) := by decide +kernel
theorem dX2_separate_6 : decode cX2_separate 6 = .ok (.aload_n 0, 1) := by decide +kernel
theorem dX2_separate_7 : decode cX2_separate 7 = .ok (.iload_n 1, 1) := by decide +kernel
theorem dX2_separate_8 : decode cX2_separate 8 = .ok (.invokevirtual 45, 3) := by decide +kernel
theorem dX2_separate_11 : decode cX2_separate 11 = .ok (.ifCond .eq 27, 3) := by decide +kernel
theorem dX2_separate_14 : decode cX2_separate 14 = .ok (.aload_n 0, 1) := by decide +kernel
theorem dX2_separate_15 : decode cX2_separate 15 = .ok (.iload_n 2, 1) := by decide +kernel
theorem dX2_separate_16 : decode cX2_separate 16 = .ok (.invokevirtual 45, 3) := by decide +kernel
theorem dX2_separate_19 : decode cX2_separate 19 = .ok (.ifCond .eq 19, 3) := by decide +kernel
theorem dX2_separate_22 : decode cX2_separate 22 = .ok (.aload_n 0, 1) := by decide +kernel
theorem dX2_separate_23 : decode cX2_separate 23 = .ok (.getfield 18, 3) := by decide +kernel
theorem dX2_separate_26 : decode cX2_separate 26 = .ok (.iload_n 1, 1) := by decide +kernel
theorem dX2_separate_27 : decode cX2_separate 27 = .ok (.bipush (-6), 2) := by decide +kernel
theorem dX2_separate_29 : decode cX2_separate 29 = .ok (.iastore, 1) := by decide +kernel
theorem dX2_separate_30 : decode cX2_separate 30 = .ok (.aload_n 0, 1) := by decide +kernel
theorem dX2_separate_31 : decode cX2_separate 31 = .ok (.getfield 18, 3) := by decide +kernel
theorem dX2_separate_34 : decode cX2_separate 34 = .ok (.iload_n 2, 1) := by decide +kernel
theorem dX2_separate_35 : decode cX2_separate 35 = .ok (.bipush (-6), 2) := by decide +kernel
theorem dX2_separate_37 : decode cX2_separate 37 = .ok (.iastore, 1) := by decide +kernel
theorem dX2_separate_38 : decode cX2_separate 38 = .ok (.return_, 1) := by decide +kernel
set_option maxRecDepth 20000 in
theorem ggX2_whyNot_X2_isThere : GoodIn wsX2_whyNot wsX2_isThere := goodIn_r _ [6, 7, 13, 14, 15, 16, 17, 18, 19, 20] (by decide +kernel) (by decide +kernel)
set_option maxRecDepth 20000 in
theorem gX2_whyNot_X2_isThere : GoodIn wsX2_whyNot (wsV RX2 45 RX2 yX2_isThere wsX2_isThere) := goodIn_app (goodIn_of _ (by decide +kernel)) ggX2_whyNot_X2_isThere
set_option maxRecDepth 20000 in
theorem ggX2_whyNot_X2_mateOf : GoodIn wsX2_whyNot wsX2_mateOf := goodIn_r _ [11, 12, 2, 3, 4, 5, 6, 7, 13, 14, 15, 16, 17, 18, 19, 20] (by decide +kernel) (by decide +kernel)
set_option maxRecDepth 20000 in
theorem gX2_whyNot_X2_mateOf : GoodIn wsX2_whyNot (wsV RX2 64 RX2 yX2_mateOf wsX2_mateOf) := goodIn_app (goodIn_of _ (by decide +kernel)) ggX2_whyNot_X2_mateOf
theorem dX2_whyNot_0 : decode cX2_whyNot 0 = .ok (.iload_n 1, 1) := by decide +kernel
theorem dX2_whyNot_1 : decode cX2_whyNot 1 = .ok (.bipush 46, 2) := by decide +kernel
theorem dX2_whyNot_3 : decode cX2_whyNot 3 = .ok (.if_icmp .ne 19, 3) := by decide +kernel
theorem dX2_whyNot_6 : decode cX2_whyNot 6 = .ok (.aload_n 0, 1) := by decide +kernel
theorem dX2_whyNot_7 : decode cX2_whyNot 7 = .ok (.getfield 42, 3) := by decide +kernel
theorem dX2_whyNot_10 : decode cX2_whyNot 10 = .ok (.sipush 999, 3) := by decide +kernel
theorem dX2_whyNot_13 : decode cX2_whyNot 13 = .ok (.if_icmp .lt 7, 3) := by decide +kernel
theorem dX2_whyNot_16 : decode cX2_whyNot 16 = .ok (.iconst 4, 1) := by decide +kernel
theorem dX2_whyNot_17 : decode cX2_whyNot 17 = .ok (.goto 4, 3) := by decide +kernel
theorem dX2_whyNot_20 : decode cX2_whyNot 20 = .ok (.iconst 0, 1) := by decide +kernel
theorem dX2_whyNot_21 : decode cX2_whyNot 21 = .ok (.ireturn, 1) := by decide +kernel
theorem dX2_whyNot_22 : decode cX2_whyNot 22 = .ok (.aload_n 0, 1) := by decide +kernel
theorem dX2_whyNot_23 : decode cX2_whyNot 23 = .ok (.iload_n 2, 1) := by decide +kernel
theorem dX2_whyNot_24 : decode cX2_whyNot 24 = .ok (.invokevirtual 45, 3) := by decide +kernel
theorem dX2_whyNot_27 : decode cX2_whyNot 27 = .ok (.ifCond .eq 17, 3) := by decide +kernel
theorem dX2_whyNot_30 : decode cX2_whyNot 30 = .ok (.iload_n 1, 1) := by decide +kernel
theorem dX2_whyNot_31 : decode cX2_whyNot 31 = .ok (.bipush 38, 2) := by decide +kernel
theorem dX2_whyNot_33 : decode cX2_whyNot 33 = .ok (.if_icmp .ne 13, 3) := by decide +kernel
theorem dX2_whyNot_36 : decode cX2_whyNot 36 = .ok (.aload_n 0, 1) := by decide +kernel
theorem dX2_whyNot_37 : decode cX2_whyNot 37 = .ok (.iload_n 3, 1) := by decide +kernel
theorem dX2_whyNot_38 : decode cX2_whyNot 38 = .ok (.invokevirtual 45, 3) := by decide +kernel
theorem dX2_whyNot_41 : decode cX2_whyNot 41 = .ok (.ifCond .ne 5, 3) := by decide +kernel
theorem dX2_whyNot_44 : decode cX2_whyNot 44 = .ok (.iconst 1, 1) := by decide +kernel
theorem dX2_whyNot_45 : decode cX2_whyNot 45 = .ok (.ireturn, 1) := by decide +kernel
theorem dX2_whyNot_46 : decode cX2_whyNot 46 = .ok (.iload_n 1, 1) := by decide +kernel
theorem dX2_whyNot_47 : decode cX2_whyNot 47 = .ok (.bipush 38, 2) := by decide +kernel
theorem dX2_whyNot_49 : decode cX2_whyNot 49 = .ok (.if_icmp .ne 36, 3) := by decide +kernel
theorem dX2_whyNot_52 : decode cX2_whyNot 52 = .ok (.iload_n 2, 1) := by decide +kernel
theorem dX2_whyNot_53 : decode cX2_whyNot 53 = .ok (.iload_n 3, 1) := by decide +kernel
theorem dX2_whyNot_54 : decode cX2_whyNot 54 = .ok (.if_icmp .ne 5, 3) := by decide +kernel
theorem dX2_whyNot_57 : decode cX2_whyNot 57 = .ok (.iconst 2, 1) := by decide +kernel
theorem dX2_whyNot_58 : decode cX2_whyNot 58 = .ok (.ireturn, 1) := by decide +kernel
theorem dX2_whyNot_59 : decode cX2_whyNot 59 = .ok (.aload_n 0, 1) := by decide +kernel
theorem dX2_whyNot_60 : decode cX2_whyNot 60 = .ok (.iload_n 2, 1) := by decide +kernel
theorem dX2_whyNot_61 : decode cX2_whyNot 61 = .ok (.invokevirtual 64, 3) := by decide +kernel
theorem dX2_whyNot_64 : decode cX2_whyNot 64 = .ok (.bipush (-6), 2) := by decide +kernel
theorem dX2_whyNot_66 : decode cX2_whyNot 66 = .ok (.if_icmp .ne 13, 3) := by decide +kernel
theorem dX2_whyNot_69 : decode cX2_whyNot 69 = .ok (.aload_n 0, 1) := by decide +kernel
theorem dX2_whyNot_70 : decode cX2_whyNot 70 = .ok (.iload_n 3, 1) := by decide +kernel
theorem dX2_whyNot_71 : decode cX2_whyNot 71 = .ok (.invokevirtual 64, 3) := by decide +kernel
theorem dX2_whyNot_74 : decode cX2_whyNot 74 = .ok (.bipush (-6), 2) := by decide +kernel
theorem dX2_whyNot_76 : decode cX2_whyNot 76 = .ok (.if_icmp .eq 7, 3) := by decide +kernel
theorem dX2_whyNot_79 : decode cX2_whyNot 79 = .ok (.iconst 3, 1) := by decide +kernel
theorem dX2_whyNot_80 : decode cX2_whyNot 80 = .ok (.goto 4, 3) := by decide +kernel
theorem dX2_whyNot_83 : decode cX2_whyNot 83 = .ok (.iconst 0, 1) := by decide +kernel
theorem dX2_whyNot_84 : decode cX2_whyNot 84 = .ok (.ireturn, 1) := by decide +kernel
theorem dX2_whyNot_85 : decode cX2_whyNot 85 = .ok (.iload_n 1, 1) := by decide +kernel
theorem dX2_whyNot_86 : decode cX2_whyNot 86 = .ok (.bipush 47, 2) := by decide +kernel
theorem dX2_whyNot_88 : decode cX2_whyNot 88 = .ok (.if_icmp .ne 17, 3) := by decide +kernel
theorem dX2_whyNot_91 : decode cX2_whyNot 91 = .ok (.aload_n 0, 1) := by decide +kernel
theorem dX2_whyNot_92 : decode cX2_whyNot 92 = .ok (.iload_n 2, 1) := by decide +kernel
theorem dX2_whyNot_93 : decode cX2_whyNot 93 = .ok (.invokevirtual 64, 3) := by decide +kernel
theorem dX2_whyNot_96 : decode cX2_whyNot 96 = .ok (.bipush (-6), 2) := by decide +kernel
theorem dX2_whyNot_98 : decode cX2_whyNot 98 = .ok (.if_icmp .ne 7, 3) := by decide +kernel
theorem dX2_whyNot_101 : decode cX2_whyNot 101 = .ok (.iconst 3, 1) := by decide +kernel
theorem dX2_whyNot_102 : decode cX2_whyNot 102 = .ok (.goto 4, 3) := by decide +kernel
theorem dX2_whyNot_105 : decode cX2_whyNot 105 = .ok (.iconst 0, 1) := by decide +kernel
theorem dX2_whyNot_106 : decode cX2_whyNot 106 = .ok (.ireturn, 1) := by decide +kernel
set_option maxRecDepth 20000 in
theorem ggX2_act_X2_turnBy : GoodIn wsX2_act wsX2_turnBy := goodIn_r _ [5, 6, 7, 8, 9, 4, 10, 11, 12, 13, 14, 15, 41, 42, 43, 44, 45, 46, 47, 48] (by decide +kernel) (by decide +kernel)
set_option maxRecDepth 20000 in
theorem gX2_act_X2_turnBy : GoodIn wsX2_act (wsV RX2 71 RX2 yX2_turnBy wsX2_turnBy) := goodIn_app (goodIn_of _ (by decide +kernel)) ggX2_act_X2_turnBy
set_option maxRecDepth 20000 in
theorem ggX2_act_X2_seat : GoodIn wsX2_act wsX2_seat := goodIn_r _ [19, 20, 7, 8, 9, 4, 10, 11, 41, 42, 43, 44, 45, 46, 47, 48] (by decide +kernel) (by decide +kernel)
set_option maxRecDepth 20000 in
theorem gX2_act_X2_seat : GoodIn wsX2_act (wsV RX2 75 RX2 yX2_seat wsX2_seat) := goodIn_app (goodIn_of _ (by decide +kernel)) ggX2_act_X2_seat
set_option maxRecDepth 20000 in
theorem ggX2_act_X2_separate : GoodIn wsX2_act wsX2_separate := goodIn_r _ [24, 20, 25, 26, 27, 4, 28, 7, 8, 9, 10, 11, 41, 42, 43, 44, 45, 46, 47, 48] (by decide +kernel) (by decide +kernel)
set_option maxRecDepth 20000 in
theorem gX2_act_X2_separate : GoodIn wsX2_act (wsV RX2 67 RX2 yX2_separate wsX2_separate) := goodIn_app (goodIn_of _ (by decide +kernel)) ggX2_act_X2_separate
set_option maxRecDepth 20000 in
theorem ggX2_act_X2_passYear : GoodIn wsX2_act wsX2_passYear := goodIn_r _ [32, 33, 6, 34, 35, 36, 7, 8, 9, 4, 10, 11, 37, 38, 39, 40, 20, 12, 13, 14, 15, 41, 42, 43, 44, 45, 46, 47, 48] (by decide +kernel) (by decide +kernel)
set_option maxRecDepth 20000 in
theorem gX2_act_X2_passYear : GoodIn wsX2_act (wsV RX2 78 RX2 yX2_passYear wsX2_passYear) := goodIn_app (goodIn_of _ (by decide +kernel)) ggX2_act_X2_passYear
theorem dX2_act_0 : decode cX2_act 0 = .ok (.iload_n 1, 1) := by decide +kernel
theorem dX2_act_1 : decode cX2_act 1 = .ok (.tableswitch 98 38 47 #[74, 98, 98, 98, 98, 55, 98, 64, 91, 83], 55) := by decide +kernel
theorem dX2_act_56 : decode cX2_act 56 = .ok (.aload_n 0, 1) := by decide +kernel
theorem dX2_act_57 : decode cX2_act 57 = .ok (.iload_n 2, 1) := by decide +kernel
theorem dX2_act_58 : decode cX2_act 58 = .ok (.iload_n 3, 1) := by decide +kernel
theorem dX2_act_59 : decode cX2_act 59 = .ok (.invokevirtual 71, 3) := by decide +kernel
theorem dX2_act_62 : decode cX2_act 62 = .ok (.goto 37, 3) := by decide +kernel
theorem dX2_act_65 : decode cX2_act 65 = .ok (.aload_n 0, 1) := by decide +kernel
theorem dX2_act_66 : decode cX2_act 66 = .ok (.iload_n 2, 1) := by decide +kernel
theorem dX2_act_67 : decode cX2_act 67 = .ok (.iload_n 3, 1) := by decide +kernel
theorem dX2_act_68 : decode cX2_act 68 = .ok (.ineg, 1) := by decide +kernel
theorem dX2_act_69 : decode cX2_act 69 = .ok (.invokevirtual 71, 3) := by decide +kernel
theorem dX2_act_72 : decode cX2_act 72 = .ok (.goto 27, 3) := by decide +kernel
theorem dX2_act_75 : decode cX2_act 75 = .ok (.aload_n 0, 1) := by decide +kernel
theorem dX2_act_76 : decode cX2_act 76 = .ok (.iload_n 2, 1) := by decide +kernel
theorem dX2_act_77 : decode cX2_act 77 = .ok (.iload_n 3, 1) := by decide +kernel
theorem dX2_act_78 : decode cX2_act 78 = .ok (.invokevirtual 75, 3) := by decide +kernel
theorem dX2_act_81 : decode cX2_act 81 = .ok (.goto 18, 3) := by decide +kernel
theorem dX2_act_84 : decode cX2_act 84 = .ok (.aload_n 0, 1) := by decide +kernel
theorem dX2_act_85 : decode cX2_act 85 = .ok (.iload_n 2, 1) := by decide +kernel
theorem dX2_act_86 : decode cX2_act 86 = .ok (.invokevirtual 67, 3) := by decide +kernel
theorem dX2_act_89 : decode cX2_act 89 = .ok (.goto 10, 3) := by decide +kernel
theorem dX2_act_92 : decode cX2_act 92 = .ok (.aload_n 0, 1) := by decide +kernel
theorem dX2_act_93 : decode cX2_act 93 = .ok (.invokevirtual 78, 3) := by decide +kernel
theorem dX2_act_96 : decode cX2_act 96 = .ok (.goto 3, 3) := by decide +kernel
theorem dX2_act_99 : decode cX2_act 99 = .ok (.return_, 1) := by decide +kernel
set_option maxRecDepth 20000 in
theorem ggX2_chalkFor_X2_inclineOf : GoodIn wsX2_chalkFor wsX2_inclineOf := goodIn_r _ [6, 7, 8, 9, 10, 5, 11, 12, 17, 18, 19, 20, 21, 22, 23, 24] (by decide +kernel) (by decide +kernel)
set_option maxRecDepth 20000 in
theorem gX2_chalkFor_X2_inclineOf : GoodIn wsX2_chalkFor (wsV RX2 49 RX2 yX2_inclineOf wsX2_inclineOf) := goodIn_app (goodIn_of _ (by decide +kernel)) ggX2_chalkFor_X2_inclineOf
set_option maxRecDepth 20000 in
theorem ggX2_chalkFor_X5_leftOver : GoodIn wsX2_chalkFor wsX5_leftOver := goodIn_r _ [16] (by decide +kernel) (by decide +kernel)
set_option maxRecDepth 20000 in
theorem gX2_chalkFor_X5_leftOver : GoodIn wsX2_chalkFor (va_wsS RX2 81 yX5_leftOver wsX5_leftOver) := goodIn_app (goodIn_of _ (by decide +kernel)) ggX2_chalkFor_X5_leftOver
theorem dX2_chalkFor_0 : decode cX2_chalkFor 0 = .ok (.aload_n 0, 1) := by decide +kernel
theorem dX2_chalkFor_1 : decode cX2_chalkFor 1 = .ok (.iload_n 1, 1) := by decide +kernel
theorem dX2_chalkFor_2 : decode cX2_chalkFor 2 = .ok (.invokevirtual 49, 3) := by decide +kernel
theorem dX2_chalkFor_5 : decode cX2_chalkFor 5 = .ok (.aload_n 0, 1) := by decide +kernel
theorem dX2_chalkFor_6 : decode cX2_chalkFor 6 = .ok (.getfield 39, 3) := by decide +kernel
theorem dX2_chalkFor_9 : decode cX2_chalkFor 9 = .ok (.iadd, 1) := by decide +kernel
theorem dX2_chalkFor_10 : decode cX2_chalkFor 10 = .ok (.invokestatic 81, 3) := by decide +kernel
theorem dX2_chalkFor_13 : decode cX2_chalkFor 13 = .ok (.ireturn, 1) := by decide +kernel
set_option maxRecDepth 20000 in
theorem ggX2_turnBy_X2_isThere : GoodIn wsX2_turnBy wsX2_isThere := goodIn_r _ [6, 7, 12, 13, 14, 15, 16, 17, 18, 19] (by decide +kernel) (by decide +kernel)
set_option maxRecDepth 20000 in
theorem gX2_turnBy_X2_isThere : GoodIn wsX2_turnBy (wsV RX2 45 RX2 yX2_isThere wsX2_isThere) := goodIn_app (goodIn_of _ (by decide +kernel)) ggX2_turnBy_X2_isThere
set_option maxRecDepth 20000 in
theorem ggX2_turnBy_X5_leftOver : GoodIn wsX2_turnBy wsX5_leftOver := goodIn_r _ [11] (by decide +kernel) (by decide +kernel)
set_option maxRecDepth 20000 in
theorem gX2_turnBy_X5_leftOver : GoodIn wsX2_turnBy (va_wsS RX2 81 yX5_leftOver wsX5_leftOver) := goodIn_app (goodIn_of _ (by decide +kernel)) ggX2_turnBy_X5_leftOver
theorem dX2_turnBy_0 : decode cX2_turnBy 0 = .ok (.aload_n 0, 1) := by decide +kernel
theorem dX2_turnBy_1 : decode cX2_turnBy 1 = .ok (.iload_n 1, 1) := by decide +kernel
theorem dX2_turnBy_2 : decode cX2_turnBy 2 = .ok (.invokevirtual 45, 3) := by decide +kernel
theorem dX2_turnBy_5 : decode cX2_turnBy 5 = .ok (.ifCond .eq 20, 3) := by decide +kernel
theorem dX2_turnBy_8 : decode cX2_turnBy 8 = .ok (.aload_n 0, 1) := by decide +kernel
theorem dX2_turnBy_9 : decode cX2_turnBy 9 = .ok (.getfield 9, 3) := by decide +kernel
theorem dX2_turnBy_12 : decode cX2_turnBy 12 = .ok (.iload_n 1, 1) := by decide +kernel
theorem dX2_turnBy_13 : decode cX2_turnBy 13 = .ok (.aload_n 0, 1) := by decide +kernel
theorem dX2_turnBy_14 : decode cX2_turnBy 14 = .ok (.getfield 9, 3) := by decide +kernel
theorem dX2_turnBy_17 : decode cX2_turnBy 17 = .ok (.iload_n 1, 1) := by decide +kernel
theorem dX2_turnBy_18 : decode cX2_turnBy 18 = .ok (.iaload, 1) := by decide +kernel
theorem dX2_turnBy_19 : decode cX2_turnBy 19 = .ok (.iload_n 2, 1) := by decide +kernel
theorem dX2_turnBy_20 : decode cX2_turnBy 20 = .ok (.iadd, 1) := by decide +kernel
theorem dX2_turnBy_21 : decode cX2_turnBy 21 = .ok (.invokestatic 81, 3) := by decide +kernel
theorem dX2_turnBy_24 : decode cX2_turnBy 24 = .ok (.iastore, 1) := by decide +kernel
theorem dX2_turnBy_25 : decode cX2_turnBy 25 = .ok (.return_, 1) := by decide +kernel
set_option maxRecDepth 20000 in
theorem ggX2_passYear_X2_isThere : GoodIn wsX2_passYear wsX2_isThere := goodIn_r _ [10, 11, 21, 22, 23, 24, 25, 26, 27, 28] (by decide +kernel) (by decide +kernel)
set_option maxRecDepth 20000 in
theorem gX2_passYear_X2_isThere : GoodIn wsX2_passYear (wsV RX2 45 RX2 yX2_isThere wsX2_isThere) := goodIn_app (goodIn_of _ (by decide +kernel)) ggX2_passYear_X2_isThere
set_option maxRecDepth 20000 in
theorem ggX2_passYear_X2_drawOf : GoodIn wsX2_passYear wsX2_drawOf := goodIn_r _ [15, 16, 1, 6, 7, 8, 9, 10, 11, 17, 18, 19, 20, 21, 22, 23, 24, 25, 26, 27, 28] (by decide +kernel) (by decide +kernel)
set_option maxRecDepth 20000 in
theorem gX2_passYear_X2_drawOf : GoodIn wsX2_passYear (wsV RX2 84 RX2 yX2_drawOf wsX2_drawOf) := goodIn_app (goodIn_of _ (by decide +kernel)) ggX2_passYear_X2_drawOf
set_option maxRecDepth 20000 in
theorem ggX2_passYear_X5_leftOver : GoodIn wsX2_passYear wsX5_leftOver := goodIn_r _ [20] (by decide +kernel) (by decide +kernel)
set_option maxRecDepth 20000 in
theorem gX2_passYear_X5_leftOver : GoodIn wsX2_passYear (va_wsS RX2 81 yX5_leftOver wsX5_leftOver) := goodIn_app (goodIn_of _ (by decide +kernel)) ggX2_passYear_X5_leftOver
theorem dX2_passYear_0 : decode cX2_passYear 0 = .ok (.iconst 0, 1) := by decide +kernel
theorem dX2_passYear_1 : decode cX2_passYear 1 = .ok (.istore_n 1, 1) := by decide +kernel
theorem dX2_passYear_2 : decode cX2_passYear 2 = .ok (.iload_n 1, 1) := by decide +kernel
theorem dX2_passYear_3 : decode cX2_passYear 3 = .ok (.bipush 9, 2) := by decide +kernel
theorem dX2_passYear_5 : decode cX2_passYear 5 = .ok (.if_icmp .ge 21, 3) := by decide +kernel
theorem dX2_passYear_8 : decode cX2_passYear 8 = .ok (.aload_n 0, 1) := by decide +kernel
theorem dX2_passYear_9 : decode cX2_passYear 9 = .ok (.getfield 21, 3) := by decide +kernel
theorem dX2_passYear_12 : decode cX2_passYear 12 = .ok (.iload_n 1, 1) := by decide +kernel
theorem dX2_passYear_13 : decode cX2_passYear 13 = .ok (.aload_n 0, 1) := by decide +kernel
theorem dX2_passYear_14 : decode cX2_passYear 14 = .ok (.getfield 9, 3) := by decide +kernel
theorem dX2_passYear_17 : decode cX2_passYear 17 = .ok (.iload_n 1, 1) := by decide +kernel
theorem dX2_passYear_18 : decode cX2_passYear 18 = .ok (.iaload, 1) := by decide +kernel
theorem dX2_passYear_19 : decode cX2_passYear 19 = .ok (.iastore, 1) := by decide +kernel
theorem dX2_passYear_20 : decode cX2_passYear 20 = .ok (.iinc 1 1, 3) := by decide +kernel
theorem dX2_passYear_23 : decode cX2_passYear 23 = .ok (.goto (-21), 3) := by decide +kernel
theorem dX2_passYear_26 : decode cX2_passYear 26 = .ok (.iconst 0, 1) := by decide +kernel
theorem dX2_passYear_27 : decode cX2_passYear 27 = .ok (.istore_n 1, 1) := by decide +kernel
theorem dX2_passYear_28 : decode cX2_passYear 28 = .ok (.iload_n 1, 1) := by decide +kernel
theorem dX2_passYear_29 : decode cX2_passYear 29 = .ok (.bipush 9, 2) := by decide +kernel
theorem dX2_passYear_31 : decode cX2_passYear 31 = .ok (.if_icmp .ge 45, 3) := by decide +kernel
theorem dX2_passYear_34 : decode cX2_passYear 34 = .ok (.aload_n 0, 1) := by decide +kernel
theorem dX2_passYear_35 : decode cX2_passYear 35 = .ok (.iload_n 1, 1) := by decide +kernel
theorem dX2_passYear_36 : decode cX2_passYear 36 = .ok (.invokevirtual 45, 3) := by decide +kernel
theorem dX2_passYear_39 : decode cX2_passYear 39 = .ok (.ifCond .eq 31, 3) := by decide +kernel
theorem dX2_passYear_42 : decode cX2_passYear 42 = .ok (.aload_n 0, 1) := by decide +kernel
theorem dX2_passYear_43 : decode cX2_passYear 43 = .ok (.getfield 9, 3) := by decide +kernel
theorem dX2_passYear_46 : decode cX2_passYear 46 = .ok (.iload_n 1, 1) := by decide +kernel
theorem dX2_passYear_47 : decode cX2_passYear 47 = .ok (.aload_n 0, 1) := by decide +kernel
theorem dX2_passYear_48 : decode cX2_passYear 48 = .ok (.getfield 21, 3) := by decide +kernel
theorem dX2_passYear_51 : decode cX2_passYear 51 = .ok (.iload_n 1, 1) := by decide +kernel
theorem dX2_passYear_52 : decode cX2_passYear 52 = .ok (.iaload, 1) := by decide +kernel
theorem dX2_passYear_53 : decode cX2_passYear 53 = .ok (.aload_n 0, 1) := by decide +kernel
theorem dX2_passYear_54 : decode cX2_passYear 54 = .ok (.getfield 15, 3) := by decide +kernel
theorem dX2_passYear_57 : decode cX2_passYear 57 = .ok (.iload_n 1, 1) := by decide +kernel
theorem dX2_passYear_58 : decode cX2_passYear 58 = .ok (.iaload, 1) := by decide +kernel
theorem dX2_passYear_59 : decode cX2_passYear 59 = .ok (.iadd, 1) := by decide +kernel
theorem dX2_passYear_60 : decode cX2_passYear 60 = .ok (.aload_n 0, 1) := by decide +kernel
theorem dX2_passYear_61 : decode cX2_passYear 61 = .ok (.iload_n 1, 1) := by decide +kernel
theorem dX2_passYear_62 : decode cX2_passYear 62 = .ok (.invokevirtual 84, 3) := by decide +kernel
theorem dX2_passYear_65 : decode cX2_passYear 65 = .ok (.iadd, 1) := by decide +kernel
theorem dX2_passYear_66 : decode cX2_passYear 66 = .ok (.invokestatic 81, 3) := by decide +kernel
theorem dX2_passYear_69 : decode cX2_passYear 69 = .ok (.iastore, 1) := by decide +kernel
theorem dX2_passYear_70 : decode cX2_passYear 70 = .ok (.iinc 1 1, 3) := by decide +kernel
theorem dX2_passYear_73 : decode cX2_passYear 73 = .ok (.goto (-45), 3) := by decide +kernel
theorem dX2_passYear_76 : decode cX2_passYear 76 = .ok (.aload_n 0, 1) := by decide +kernel
theorem dX2_passYear_77 : decode cX2_passYear 77 = .ok (.dup, 1) := by decide +kernel
theorem dX2_passYear_78 : decode cX2_passYear 78 = .ok (.getfield 42, 3) := by decide +kernel
theorem dX2_passYear_81 : decode cX2_passYear 81 = .ok (.iconst 1, 1) := by decide +kernel
theorem dX2_passYear_82 : decode cX2_passYear 82 = .ok (.iadd, 1) := by decide +kernel
theorem dX2_passYear_83 : decode cX2_passYear 83 = .ok (.putfield 42, 3) := by decide +kernel
theorem dX2_passYear_86 : decode cX2_passYear 86 = .ok (.aload_n 0, 1) := by decide +kernel
theorem dX2_passYear_87 : decode cX2_passYear 87 = .ok (.getfield 42, 3) := by decide +kernel
theorem dX2_passYear_90 : decode cX2_passYear 90 = .ok (.iconst 2, 1) := by decide +kernel
theorem dX2_passYear_91 : decode cX2_passYear 91 = .ok (.irem, 1) := by decide +kernel
theorem dX2_passYear_92 : decode cX2_passYear 92 = .ok (.ifCond .ne 22, 3) := by decide +kernel
theorem dX2_passYear_95 : decode cX2_passYear 95 = .ok (.aload_n 0, 1) := by decide +kernel
theorem dX2_passYear_96 : decode cX2_passYear 96 = .ok (.getfield 39, 3) := by decide +kernel
theorem dX2_passYear_99 : decode cX2_passYear 99 = .ok (.bipush 9, 2) := by decide +kernel
theorem dX2_passYear_101 : decode cX2_passYear 101 = .ok (.if_icmp .ge 13, 3) := by decide +kernel
theorem dX2_passYear_104 : decode cX2_passYear 104 = .ok (.aload_n 0, 1) := by decide +kernel
theorem dX2_passYear_105 : decode cX2_passYear 105 = .ok (.dup, 1) := by decide +kernel
theorem dX2_passYear_106 : decode cX2_passYear 106 = .ok (.getfield 39, 3) := by decide +kernel
theorem dX2_passYear_109 : decode cX2_passYear 109 = .ok (.iconst 1, 1) := by decide +kernel
theorem dX2_passYear_110 : decode cX2_passYear 110 = .ok (.iadd, 1) := by decide +kernel
theorem dX2_passYear_111 : decode cX2_passYear 111 = .ok (.putfield 39, 3) := by decide +kernel
theorem dX2_passYear_114 : decode cX2_passYear 114 = .ok (.return_, 1) := by decide +kernel
set_option maxRecDepth 20000 in
theorem ggX2_drawOf_X2_isThere : GoodIn wsX2_drawOf wsX2_isThere := goodIn_r _ [7, 8, 13, 14, 15, 16, 17, 18, 19, 20] (by decide +kernel) (by decide +kernel)
set_option maxRecDepth 20000 in
theorem gX2_drawOf_X2_isThere : GoodIn wsX2_drawOf (wsV RX2 45 RX2 yX2_isThere wsX2_isThere) := goodIn_app (goodIn_of _ (by decide +kernel)) ggX2_drawOf_X2_isThere
set_option maxRecDepth 20000 in
theorem ggX2_drawOf_X5_leftOver : GoodIn wsX2_drawOf wsX5_leftOver := goodIn_r _ [12] (by decide +kernel) (by decide +kernel)
set_option maxRecDepth 20000 in
theorem gX2_drawOf_X5_leftOver : GoodIn wsX2_drawOf (va_wsS RX2 81 yX5_leftOver wsX5_leftOver) := goodIn_app (goodIn_of _ (by decide +kernel)) ggX2_drawOf_X5_leftOver
theorem dX2_drawOf_0 : decode cX2_drawOf 0 = .ok (.aload_n 0, 1) := by decide +kernel
theorem dX2_drawOf_1 : decode cX2_drawOf 1 = .ok (.iload_n 1, 1) := by decide +kernel
theorem dX2_drawOf_2 : decode cX2_drawOf 2 = .ok (.invokevirtual 45, 3) := by decide +kernel
theorem dX2_drawOf_5 : decode cX2_drawOf 5 = .ok (.ifCond .eq 16, 3) := by decide +kernel
theorem dX2_drawOf_8 : decode cX2_drawOf 8 = .ok (.aload_n 0, 1) := by decide +kernel
theorem dX2_drawOf_9 : decode cX2_drawOf 9 = .ok (.aload_n 0, 1) := by decide +kernel
theorem dX2_drawOf_10 : decode cX2_drawOf 10 = .ok (.getfield 18, 3) := by decide +kernel
theorem dX2_drawOf_13 : decode cX2_drawOf 13 = .ok (.iload_n 1, 1) := by decide +kernel
theorem dX2_drawOf_14 : decode cX2_drawOf 14 = .ok (.iaload, 1) := by decide +kernel
theorem dX2_drawOf_15 : decode cX2_drawOf 15 = .ok (.invokevirtual 45, 3) := by decide +kernel
theorem dX2_drawOf_18 : decode cX2_drawOf 18 = .ok (.ifCond .ne 5, 3) := by decide +kernel
theorem dX2_drawOf_21 : decode cX2_drawOf 21 = .ok (.iconst 0, 1) := by decide +kernel
theorem dX2_drawOf_22 : decode cX2_drawOf 22 = .ok (.ireturn, 1) := by decide +kernel
theorem dX2_drawOf_23 : decode cX2_drawOf 23 = .ok (.aload_n 0, 1) := by decide +kernel
theorem dX2_drawOf_24 : decode cX2_drawOf 24 = .ok (.getfield 21, 3) := by decide +kernel
theorem dX2_drawOf_27 : decode cX2_drawOf 27 = .ok (.aload_n 0, 1) := by decide +kernel
theorem dX2_drawOf_28 : decode cX2_drawOf 28 = .ok (.getfield 18, 3) := by decide +kernel
theorem dX2_drawOf_31 : decode cX2_drawOf 31 = .ok (.iload_n 1, 1) := by decide +kernel
theorem dX2_drawOf_32 : decode cX2_drawOf 32 = .ok (.iaload, 1) := by decide +kernel
theorem dX2_drawOf_33 : decode cX2_drawOf 33 = .ok (.iaload, 1) := by decide +kernel
theorem dX2_drawOf_34 : decode cX2_drawOf 34 = .ok (.aload_n 0, 1) := by decide +kernel
theorem dX2_drawOf_35 : decode cX2_drawOf 35 = .ok (.getfield 21, 3) := by decide +kernel
theorem dX2_drawOf_38 : decode cX2_drawOf 38 = .ok (.iload_n 1, 1) := by decide +kernel
theorem dX2_drawOf_39 : decode cX2_drawOf 39 = .ok (.iaload, 1) := by decide +kernel
theorem dX2_drawOf_40 : decode cX2_drawOf 40 = .ok (.isub, 1) := by decide +kernel
theorem dX2_drawOf_41 : decode cX2_drawOf 41 = .ok (.invokestatic 81, 3) := by decide +kernel
theorem dX2_drawOf_44 : decode cX2_drawOf 44 = .ok (.istore_n 2, 1) := by decide +kernel
theorem dX2_drawOf_45 : decode cX2_drawOf 45 = .ok (.iload_n 2, 1) := by decide +kernel
theorem dX2_drawOf_46 : decode cX2_drawOf 46 = .ok (.ifCond .ne 5, 3) := by decide +kernel
theorem dX2_drawOf_49 : decode cX2_drawOf 49 = .ok (.iconst 0, 1) := by decide +kernel
theorem dX2_drawOf_50 : decode cX2_drawOf 50 = .ok (.ireturn, 1) := by decide +kernel
theorem dX2_drawOf_51 : decode cX2_drawOf 51 = .ok (.iload_n 2, 1) := by decide +kernel
theorem dX2_drawOf_52 : decode cX2_drawOf 52 = .ok (.bipush 90, 2) := by decide +kernel
theorem dX2_drawOf_54 : decode cX2_drawOf 54 = .ok (.if_icmp .gt 7, 3) := by decide +kernel
theorem dX2_drawOf_57 : decode cX2_drawOf 57 = .ok (.iconst 1, 1) := by decide +kernel
theorem dX2_drawOf_58 : decode cX2_drawOf 58 = .ok (.goto 4, 3) := by decide +kernel
theorem dX2_drawOf_61 : decode cX2_drawOf 61 = .ok (.iconst (-1), 1) := by decide +kernel
theorem dX2_drawOf_62 : decode cX2_drawOf 62 = .ok (.ireturn, 1) := by decide +kernel
set_option maxRecDepth 20000 in
theorem ggX3_triangleCount_X3_isTriangle : GoodIn wsX3_triangleCount wsX3_isTriangle := goodIn_r _ [4, 5, 6, 7, 8, 9, 10, 11, 12, 13, 14, 3, 15, 16, 17, 18, 19, 20, 21, 22, 23, 24, 25, 26, 27, 28, 29, 30, 31, 32, 33, 34, 35, 36, 37, 38, 39, 40, 41, 42, 43, 44, 45, 46, 47, 48, 49] (by decide +kernel) (by decide +kernel)
set_option maxRecDepth 20000 in
theorem gX3_triangleCount_X3_isTriangle : GoodIn wsX3_triangleCount (va_wsS RX3 9 yX3_isTriangle wsX3_isTriangle) := goodIn_app (goodIn_of _ (by decide +kernel)) ggX3_triangleCount_X3_isTriangle
theorem dX3_triangleCount_0 : decode cX3_triangleCount 0 = .ok (.iconst 0, 1) := by decide +kernel
theorem dX3_triangleCount_1 : decode cX3_triangleCount 1 = .ok (.istore_n 1, 1) := by decide +kernel
theorem dX3_triangleCount_2 : decode cX3_triangleCount 2 = .ok (.iconst 0, 1) := by decide +kernel
theorem dX3_triangleCount_3 : decode cX3_triangleCount 3 = .ok (.istore_n 2, 1) := by decide +kernel
theorem dX3_triangleCount_4 : decode cX3_triangleCount 4 = .ok (.iload_n 2, 1) := by decide +kernel
theorem dX3_triangleCount_5 : decode cX3_triangleCount 5 = .ok (.sipush 512, 3) := by decide +kernel
theorem dX3_triangleCount_8 : decode cX3_triangleCount 8 = .ok (.if_icmp .ge 20, 3) := by decide +kernel
theorem dX3_triangleCount_11 : decode cX3_triangleCount 11 = .ok (.aload_n 0, 1) := by decide +kernel
theorem dX3_triangleCount_12 : decode cX3_triangleCount 12 = .ok (.iload_n 2, 1) := by decide +kernel
theorem dX3_triangleCount_13 : decode cX3_triangleCount 13 = .ok (.invokestatic 9, 3) := by decide +kernel
theorem dX3_triangleCount_16 : decode cX3_triangleCount 16 = .ok (.ifCond .eq 6, 3) := by decide +kernel
theorem dX3_triangleCount_19 : decode cX3_triangleCount 19 = .ok (.iinc 1 1, 3) := by decide +kernel
theorem dX3_triangleCount_22 : decode cX3_triangleCount 22 = .ok (.iinc 2 1, 3) := by decide +kernel
theorem dX3_triangleCount_25 : decode cX3_triangleCount 25 = .ok (.goto (-21), 3) := by decide +kernel
theorem dX3_triangleCount_28 : decode cX3_triangleCount 28 = .ok (.iload_n 1, 1) := by decide +kernel
theorem dX3_triangleCount_29 : decode cX3_triangleCount 29 = .ok (.ireturn, 1) := by decide +kernel
set_option maxRecDepth 20000 in
theorem ggX3_firstTriangle_X3_isTriangle : GoodIn wsX3_firstTriangle wsX3_isTriangle := goodIn_r _ [4, 5, 6, 7, 8, 9, 10, 11, 12, 13, 14, 3, 15, 16, 17, 18, 19, 20, 21, 22, 23, 24, 25, 26, 27, 28, 29, 30, 31, 32, 33, 34, 35, 36, 37, 38, 39, 40, 41, 42, 43, 44, 45, 46, 47, 48, 49] (by decide +kernel) (by decide +kernel)
set_option maxRecDepth 20000 in
theorem gX3_firstTriangle_X3_isTriangle : GoodIn wsX3_firstTriangle (va_wsS RX3 9 yX3_isTriangle wsX3_isTriangle) := goodIn_app (goodIn_of _ (by decide +kernel)) ggX3_firstTriangle_X3_isTriangle
theorem dX3_firstTriangle_0 : decode cX3_firstTriangle 0 = .ok (.iconst 0, 1) := by decide +kernel
theorem dX3_firstTriangle_1 : decode cX3_firstTriangle 1 = .ok (.istore_n 1, 1) := by decide +kernel
theorem dX3_firstTriangle_2 : decode cX3_firstTriangle 2 = .ok (.iload_n 1, 1) := by decide +kernel
theorem dX3_firstTriangle_3 : decode cX3_firstTriangle 3 = .ok (.sipush 512, 3) := by decide +kernel
theorem dX3_firstTriangle_6 : decode cX3_firstTriangle 6 = .ok (.if_icmp .ge 19, 3) := by decide +kernel
theorem dX3_firstTriangle_9 : decode cX3_firstTriangle 9 = .ok (.aload_n 0, 1) := by decide +kernel
theorem dX3_firstTriangle_10 : decode cX3_firstTriangle 10 = .ok (.iload_n 1, 1) := by decide +kernel
theorem dX3_firstTriangle_11 : decode cX3_firstTriangle 11 = .ok (.invokestatic 9, 3) := by decide +kernel
theorem dX3_firstTriangle_14 : decode cX3_firstTriangle 14 = .ok (.ifCond .eq 5, 3) := by decide +kernel
theorem dX3_firstTriangle_17 : decode cX3_firstTriangle 17 = .ok (.iload_n 1, 1) := by decide +kernel
theorem dX3_firstTriangle_18 : decode cX3_firstTriangle 18 = .ok (.ireturn, 1) := by decide +kernel
theorem dX3_firstTriangle_19 : decode cX3_firstTriangle 19 = .ok (.iinc 1 1, 3) := by decide +kernel
theorem dX3_firstTriangle_22 : decode cX3_firstTriangle 22 = .ok (.goto (-20), 3) := by decide +kernel
theorem dX3_firstTriangle_25 : decode cX3_firstTriangle 25 = .ok (.bipush (-6), 2) := by decide +kernel
theorem dX3_firstTriangle_27 : decode cX3_firstTriangle 27 = .ok (.ireturn, 1) := by decide +kernel
set_option maxRecDepth 20000 in
theorem ggX3_bestProposal_X3_apartFrom : GoodIn wsX3_bestProposal wsX3_apartFrom := goodIn_r _ [4, 5, 6, 7, 8, 9, 10, 11, 12, 13, 14, 15, 16, 17, 18, 19, 20, 21, 22, 23, 24, 25, 26, 27, 28, 29, 30, 31, 32, 33, 34, 35] (by decide +kernel) (by decide +kernel)
set_option maxRecDepth 20000 in
theorem gX3_bestProposal_X3_apartFrom : GoodIn wsX3_bestProposal (va_wsS RX3 15 yX3_apartFrom wsX3_apartFrom) := goodIn_app (goodIn_of _ (by decide +kernel)) ggX3_bestProposal_X3_apartFrom
theorem dX3_bestProposal_0 : decode cX3_bestProposal 0 = .ok (.iconst 0, 1) := by decide +kernel
theorem dX3_bestProposal_1 : decode cX3_bestProposal 1 = .ok (.istore_n 1, 1) := by decide +kernel
theorem dX3_bestProposal_2 : decode cX3_bestProposal 2 = .ok (.aload_n 0, 1) := by decide +kernel
theorem dX3_bestProposal_3 : decode cX3_bestProposal 3 = .ok (.iconst 0, 1) := by decide +kernel
theorem dX3_bestProposal_4 : decode cX3_bestProposal 4 = .ok (.invokestatic 15, 3) := by decide +kernel
theorem dX3_bestProposal_7 : decode cX3_bestProposal 7 = .ok (.istore_n 2, 1) := by decide +kernel
theorem dX3_bestProposal_8 : decode cX3_bestProposal 8 = .ok (.iconst 1, 1) := by decide +kernel
theorem dX3_bestProposal_9 : decode cX3_bestProposal 9 = .ok (.istore_n 3, 1) := by decide +kernel
theorem dX3_bestProposal_10 : decode cX3_bestProposal 10 = .ok (.iload_n 3, 1) := by decide +kernel
theorem dX3_bestProposal_11 : decode cX3_bestProposal 11 = .ok (.sipush 180, 3) := by decide +kernel
theorem dX3_bestProposal_14 : decode cX3_bestProposal 14 = .ok (.if_icmp .ge 27, 3) := by decide +kernel
theorem dX3_bestProposal_17 : decode cX3_bestProposal 17 = .ok (.aload_n 0, 1) := by decide +kernel
theorem dX3_bestProposal_18 : decode cX3_bestProposal 18 = .ok (.iload_n 3, 1) := by decide +kernel
theorem dX3_bestProposal_19 : decode cX3_bestProposal 19 = .ok (.invokestatic 15, 3) := by decide +kernel
theorem dX3_bestProposal_22 : decode cX3_bestProposal 22 = .ok (.istore 4, 2) := by decide +kernel
theorem dX3_bestProposal_24 : decode cX3_bestProposal 24 = .ok (.iload 4, 2) := by decide +kernel
theorem dX3_bestProposal_26 : decode cX3_bestProposal 26 = .ok (.iload_n 2, 1) := by decide +kernel
theorem dX3_bestProposal_27 : decode cX3_bestProposal 27 = .ok (.if_icmp .ge 8, 3) := by decide +kernel
theorem dX3_bestProposal_30 : decode cX3_bestProposal 30 = .ok (.iload 4, 2) := by decide +kernel
theorem dX3_bestProposal_32 : decode cX3_bestProposal 32 = .ok (.istore_n 2, 1) := by decide +kernel
theorem dX3_bestProposal_33 : decode cX3_bestProposal 33 = .ok (.iload_n 3, 1) := by decide +kernel
theorem dX3_bestProposal_34 : decode cX3_bestProposal 34 = .ok (.istore_n 1, 1) := by decide +kernel
theorem dX3_bestProposal_35 : decode cX3_bestProposal 35 = .ok (.iinc 3 1, 3) := by decide +kernel
theorem dX3_bestProposal_38 : decode cX3_bestProposal 38 = .ok (.goto (-28), 3) := by decide +kernel
theorem dX3_bestProposal_41 : decode cX3_bestProposal 41 = .ok (.iload_n 1, 1) := by decide +kernel
theorem dX3_bestProposal_42 : decode cX3_bestProposal 42 = .ok (.ireturn, 1) := by decide +kernel
set_option maxRecDepth 20000 in
theorem ggX3_apartFrom_X2_isThere : GoodIn wsX3_apartFrom wsX2_isThere := goodIn_r _ [5, 6, 24, 25, 26, 27, 28, 29, 30, 31] (by decide +kernel) (by decide +kernel)
set_option maxRecDepth 20000 in
theorem gX3_apartFrom_X2_isThere : GoodIn wsX3_apartFrom (wsV RX3 19 RX2 yX2_isThere wsX2_isThere) := goodIn_app (goodIn_of _ (by decide +kernel)) ggX3_apartFrom_X2_isThere
set_option maxRecDepth 20000 in
theorem ggX3_apartFrom_X2_inclineOf : GoodIn wsX3_apartFrom wsX2_inclineOf := goodIn_r _ [10, 11, 12, 2, 3, 4, 5, 6, 24, 25, 26, 27, 28, 29, 30, 31] (by decide +kernel) (by decide +kernel)
set_option maxRecDepth 20000 in
theorem gX3_apartFrom_X2_inclineOf : GoodIn wsX3_apartFrom (wsV RX3 25 RX2 yX2_inclineOf wsX2_inclineOf) := goodIn_app (goodIn_of _ (by decide +kernel)) ggX3_apartFrom_X2_inclineOf
set_option maxRecDepth 20000 in
theorem ggX3_apartFrom_X5_between : GoodIn wsX3_apartFrom wsX5_between := goodIn_r _ [16, 17, 18, 19, 20, 21, 22, 15, 23] (by decide +kernel) (by decide +kernel)
set_option maxRecDepth 20000 in
theorem gX3_apartFrom_X5_between : GoodIn wsX3_apartFrom (va_wsS RX3 29 yX5_between wsX5_between) := goodIn_app (goodIn_of _ (by decide +kernel)) ggX3_apartFrom_X5_between
theorem dX3_apartFrom_0 : decode cX3_apartFrom 0 = .ok (.iconst 0, 1) := by decide +kernel
theorem dX3_apartFrom_1 : decode cX3_apartFrom 1 = .ok (.istore_n 2, 1) := by decide +kernel
theorem dX3_apartFrom_2 : decode cX3_apartFrom 2 = .ok (.iconst 0, 1) := by decide +kernel
theorem dX3_apartFrom_3 : decode cX3_apartFrom 3 = .ok (.istore_n 3, 1) := by decide +kernel
theorem dX3_apartFrom_4 : decode cX3_apartFrom 4 = .ok (.iload_n 3, 1) := by decide +kernel
theorem dX3_apartFrom_5 : decode cX3_apartFrom 5 = .ok (.bipush 9, 2) := by decide +kernel
theorem dX3_apartFrom_7 : decode cX3_apartFrom 7 = .ok (.if_icmp .ge 29, 3) := by decide +kernel
theorem dX3_apartFrom_10 : decode cX3_apartFrom 10 = .ok (.aload_n 0, 1) := by decide +kernel
theorem dX3_apartFrom_11 : decode cX3_apartFrom 11 = .ok (.iload_n 3, 1) := by decide +kernel
theorem dX3_apartFrom_12 : decode cX3_apartFrom 12 = .ok (.invokevirtual 19, 3) := by decide +kernel
theorem dX3_apartFrom_15 : decode cX3_apartFrom 15 = .ok (.ifCond .eq 15, 3) := by decide +kernel
theorem dX3_apartFrom_18 : decode cX3_apartFrom 18 = .ok (.iload_n 2, 1) := by decide +kernel
theorem dX3_apartFrom_19 : decode cX3_apartFrom 19 = .ok (.aload_n 0, 1) := by decide +kernel
theorem dX3_apartFrom_20 : decode cX3_apartFrom 20 = .ok (.iload_n 3, 1) := by decide +kernel
theorem dX3_apartFrom_21 : decode cX3_apartFrom 21 = .ok (.invokevirtual 25, 3) := by decide +kernel
theorem dX3_apartFrom_24 : decode cX3_apartFrom 24 = .ok (.iload_n 1, 1) := by decide +kernel
theorem dX3_apartFrom_25 : decode cX3_apartFrom 25 = .ok (.invokestatic 29, 3) := by decide +kernel
theorem dX3_apartFrom_28 : decode cX3_apartFrom 28 = .ok (.iadd, 1) := by decide +kernel
theorem dX3_apartFrom_29 : decode cX3_apartFrom 29 = .ok (.istore_n 2, 1) := by decide +kernel
theorem dX3_apartFrom_30 : decode cX3_apartFrom 30 = .ok (.iinc 3 1, 3) := by decide +kernel
theorem dX3_apartFrom_33 : decode cX3_apartFrom 33 = .ok (.goto (-29), 3) := by decide +kernel
theorem dX3_apartFrom_36 : decode cX3_apartFrom 36 = .ok (.iload_n 2, 1) := by decide +kernel
theorem dX3_apartFrom_37 : decode cX3_apartFrom 37 = .ok (.ireturn, 1) := by decide +kernel
set_option maxRecDepth 20000 in
theorem ggX3_bestHalf_X3_isHalf : GoodIn wsX3_bestHalf wsX3_isHalf := goodIn_r _ [5, 6, 7, 8, 9, 10, 11, 12] (by decide +kernel) (by decide +kernel)
set_option maxRecDepth 20000 in
theorem gX3_bestHalf_X3_isHalf : GoodIn wsX3_bestHalf (va_wsS RX3 39 yX3_isHalf wsX3_isHalf) := goodIn_app (goodIn_of _ (by decide +kernel)) ggX3_bestHalf_X3_isHalf
set_option maxRecDepth 20000 in
theorem ggX3_bestHalf_X3_apartInHalves : GoodIn wsX3_bestHalf wsX3_apartInHalves := goodIn_r _ [15, 1, 16, 17, 4, 18, 19, 20, 21, 22, 23, 24, 25, 26, 27, 28, 29, 30, 31, 32, 33, 34, 35, 36, 37, 38, 39, 40, 41, 42, 43, 44, 45, 46, 47, 48, 49, 50, 51, 52, 53, 54, 55] (by decide +kernel) (by decide +kernel)
set_option maxRecDepth 20000 in
theorem gX3_bestHalf_X3_apartInHalves : GoodIn wsX3_bestHalf (va_wsS RX3 43 yX3_apartInHalves wsX3_apartInHalves) := goodIn_app (goodIn_of _ (by decide +kernel)) ggX3_bestHalf_X3_apartInHalves
theorem dX3_bestHalf_0 : decode cX3_bestHalf 0 = .ok (.aload_n 0, 1) := by decide +kernel
theorem dX3_bestHalf_1 : decode cX3_bestHalf 1 = .ok (.getfield 35, 3) := by decide +kernel
theorem dX3_bestHalf_4 : decode cX3_bestHalf 4 = .ok (.istore_n 1, 1) := by decide +kernel
theorem dX3_bestHalf_5 : decode cX3_bestHalf 5 = .ok (.iload_n 1, 1) := by decide +kernel
theorem dX3_bestHalf_6 : decode cX3_bestHalf 6 = .ok (.iload_n 1, 1) := by decide +kernel
theorem dX3_bestHalf_7 : decode cX3_bestHalf 7 = .ok (.ineg, 1) := by decide +kernel
theorem dX3_bestHalf_8 : decode cX3_bestHalf 8 = .ok (.iand, 1) := by decide +kernel
theorem dX3_bestHalf_9 : decode cX3_bestHalf 9 = .ok (.istore_n 2, 1) := by decide +kernel
theorem dX3_bestHalf_10 : decode cX3_bestHalf 10 = .ok (.iconst 0, 1) := by decide +kernel
theorem dX3_bestHalf_11 : decode cX3_bestHalf 11 = .ok (.istore_n 3, 1) := by decide +kernel
theorem dX3_bestHalf_12 : decode cX3_bestHalf 12 = .ok (.bipush (-6), 2) := by decide +kernel
theorem dX3_bestHalf_14 : decode cX3_bestHalf 14 = .ok (.istore 4, 2) := by decide +kernel
theorem dX3_bestHalf_16 : decode cX3_bestHalf 16 = .ok (.iconst 1, 1) := by decide +kernel
theorem dX3_bestHalf_17 : decode cX3_bestHalf 17 = .ok (.istore 5, 2) := by decide +kernel
theorem dX3_bestHalf_19 : decode cX3_bestHalf 19 = .ok (.iload 5, 2) := by decide +kernel
theorem dX3_bestHalf_21 : decode cX3_bestHalf 21 = .ok (.sipush 512, 3) := by decide +kernel
theorem dX3_bestHalf_24 : decode cX3_bestHalf 24 = .ok (.if_icmp .ge 66, 3) := by decide +kernel
theorem dX3_bestHalf_27 : decode cX3_bestHalf 27 = .ok (.iload 5, 2) := by decide +kernel
theorem dX3_bestHalf_29 : decode cX3_bestHalf 29 = .ok (.iload_n 1, 1) := by decide +kernel
theorem dX3_bestHalf_30 : decode cX3_bestHalf 30 = .ok (.iconst (-1), 1) := by decide +kernel
theorem dX3_bestHalf_31 : decode cX3_bestHalf 31 = .ok (.ixor, 1) := by decide +kernel
theorem dX3_bestHalf_32 : decode cX3_bestHalf 32 = .ok (.iand, 1) := by decide +kernel
theorem dX3_bestHalf_33 : decode cX3_bestHalf 33 = .ok (.ifCond .ne 51, 3) := by decide +kernel
theorem dX3_bestHalf_36 : decode cX3_bestHalf 36 = .ok (.iload 5, 2) := by decide +kernel
theorem dX3_bestHalf_38 : decode cX3_bestHalf 38 = .ok (.iload_n 2, 1) := by decide +kernel
theorem dX3_bestHalf_39 : decode cX3_bestHalf 39 = .ok (.iand, 1) := by decide +kernel
theorem dX3_bestHalf_40 : decode cX3_bestHalf 40 = .ok (.ifCond .eq 44, 3) := by decide +kernel
theorem dX3_bestHalf_43 : decode cX3_bestHalf 43 = .ok (.iload 5, 2) := by decide +kernel
theorem dX3_bestHalf_45 : decode cX3_bestHalf 45 = .ok (.iload_n 1, 1) := by decide +kernel
theorem dX3_bestHalf_46 : decode cX3_bestHalf 46 = .ok (.invokestatic 39, 3) := by decide +kernel
theorem dX3_bestHalf_49 : decode cX3_bestHalf 49 = .ok (.ifCond .ne 6, 3) := by decide +kernel
theorem dX3_bestHalf_52 : decode cX3_bestHalf 52 = .ok (.goto 32, 3) := by decide +kernel
theorem dX3_bestHalf_55 : decode cX3_bestHalf 55 = .ok (.aload_n 0, 1) := by decide +kernel
theorem dX3_bestHalf_56 : decode cX3_bestHalf 56 = .ok (.iload 5, 2) := by decide +kernel
theorem dX3_bestHalf_58 : decode cX3_bestHalf 58 = .ok (.invokestatic 43, 3) := by decide +kernel
theorem dX3_bestHalf_61 : decode cX3_bestHalf 61 = .ok (.istore 6, 2) := by decide +kernel
theorem dX3_bestHalf_63 : decode cX3_bestHalf 63 = .ok (.iload 4, 2) := by decide +kernel
theorem dX3_bestHalf_65 : decode cX3_bestHalf 65 = .ok (.bipush (-6), 2) := by decide +kernel
theorem dX3_bestHalf_67 : decode cX3_bestHalf 67 = .ok (.if_icmp .eq 10, 3) := by decide +kernel
theorem dX3_bestHalf_70 : decode cX3_bestHalf 70 = .ok (.iload 6, 2) := by decide +kernel
theorem dX3_bestHalf_72 : decode cX3_bestHalf 72 = .ok (.iload 4, 2) := by decide +kernel
theorem dX3_bestHalf_74 : decode cX3_bestHalf 74 = .ok (.if_icmp .ge 10, 3) := by decide +kernel
theorem dX3_bestHalf_77 : decode cX3_bestHalf 77 = .ok (.iload 6, 2) := by decide +kernel
theorem dX3_bestHalf_79 : decode cX3_bestHalf 79 = .ok (.istore 4, 2) := by decide +kernel
theorem dX3_bestHalf_81 : decode cX3_bestHalf 81 = .ok (.iload 5, 2) := by decide +kernel
theorem dX3_bestHalf_83 : decode cX3_bestHalf 83 = .ok (.istore_n 3, 1) := by decide +kernel
theorem dX3_bestHalf_84 : decode cX3_bestHalf 84 = .ok (.iinc 5 1, 3) := by decide +kernel
theorem dX3_bestHalf_87 : decode cX3_bestHalf 87 = .ok (.goto (-68), 3) := by decide +kernel
theorem dX3_bestHalf_90 : decode cX3_bestHalf 90 = .ok (.iload_n 3, 1) := by decide +kernel
theorem dX3_bestHalf_91 : decode cX3_bestHalf 91 = .ok (.ireturn, 1) := by decide +kernel
set_option maxRecDepth 20000 in
theorem ggX3_apartInHalves_X3_apartWithin : GoodIn wsX3_apartInHalves wsX3_apartWithin := goodIn_r _ [5, 6, 7, 4, 8, 9, 10, 11, 12, 13, 14, 15, 16, 17, 18, 19, 20, 21, 22, 23, 24, 25, 26, 27, 28, 29, 30, 31, 32, 33, 34, 35, 36, 37, 38, 39, 40, 41, 42] (by decide +kernel) (by decide +kernel)
set_option maxRecDepth 20000 in
theorem gX3_apartInHalves_X3_apartWithin : GoodIn wsX3_apartInHalves (va_wsS RX3 46 yX3_apartWithin wsX3_apartWithin) := goodIn_app (goodIn_of _ (by decide +kernel)) ggX3_apartInHalves_X3_apartWithin
theorem dX3_apartInHalves_0 : decode cX3_apartInHalves 0 = .ok (.aload_n 0, 1) := by decide +kernel
theorem dX3_apartInHalves_1 : decode cX3_apartInHalves 1 = .ok (.iload_n 1, 1) := by decide +kernel
theorem dX3_apartInHalves_2 : decode cX3_apartInHalves 2 = .ok (.invokestatic 46, 3) := by decide +kernel
theorem dX3_apartInHalves_5 : decode cX3_apartInHalves 5 = .ok (.aload_n 0, 1) := by decide +kernel
theorem dX3_apartInHalves_6 : decode cX3_apartInHalves 6 = .ok (.aload_n 0, 1) := by decide +kernel
theorem dX3_apartInHalves_7 : decode cX3_apartInHalves 7 = .ok (.getfield 35, 3) := by decide +kernel
theorem dX3_apartInHalves_10 : decode cX3_apartInHalves 10 = .ok (.iload_n 1, 1) := by decide +kernel
theorem dX3_apartInHalves_11 : decode cX3_apartInHalves 11 = .ok (.iconst (-1), 1) := by decide +kernel
theorem dX3_apartInHalves_12 : decode cX3_apartInHalves 12 = .ok (.ixor, 1) := by decide +kernel
theorem dX3_apartInHalves_13 : decode cX3_apartInHalves 13 = .ok (.iand, 1) := by decide +kernel
theorem dX3_apartInHalves_14 : decode cX3_apartInHalves 14 = .ok (.invokestatic 46, 3) := by decide +kernel
theorem dX3_apartInHalves_17 : decode cX3_apartInHalves 17 = .ok (.iadd, 1) := by decide +kernel
theorem dX3_apartInHalves_18 : decode cX3_apartInHalves 18 = .ok (.ireturn, 1) := by decide +kernel
set_option maxRecDepth 20000 in
theorem ggX3_yearsToMeet_X2_inclineOf : GoodIn wsX3_yearsToMeet wsX2_inclineOf := goodIn_r _ [5, 6, 7, 8, 9, 4, 10, 11, 21, 22, 23, 24, 25, 26, 27, 28] (by decide +kernel) (by decide +kernel)
set_option maxRecDepth 20000 in
theorem gX3_yearsToMeet_X2_inclineOf : GoodIn wsX3_yearsToMeet (wsV RX3 25 RX2 yX2_inclineOf wsX2_inclineOf) := goodIn_app (goodIn_of _ (by decide +kernel)) ggX3_yearsToMeet_X2_inclineOf
set_option maxRecDepth 20000 in
theorem ggX3_yearsToMeet_X2_driftOf : GoodIn wsX3_yearsToMeet wsX2_driftOf := goodIn_r _ [15, 16, 7, 8, 9, 4, 10, 11, 21, 22, 23, 24, 25, 26, 27, 28] (by decide +kernel) (by decide +kernel)
set_option maxRecDepth 20000 in
theorem gX3_yearsToMeet_X2_driftOf : GoodIn wsX3_yearsToMeet (wsV RX3 49 RX2 yX2_driftOf wsX2_driftOf) := goodIn_app (goodIn_of _ (by decide +kernel)) ggX3_yearsToMeet_X2_driftOf
set_option maxRecDepth 20000 in
theorem ggX3_yearsToMeet_X5_leftOver : GoodIn wsX3_yearsToMeet wsX5_leftOver := goodIn_r _ [20] (by decide +kernel) (by decide +kernel)
set_option maxRecDepth 20000 in
theorem gX3_yearsToMeet_X5_leftOver : GoodIn wsX3_yearsToMeet (va_wsS RX3 52 yX5_leftOver wsX5_leftOver) := goodIn_app (goodIn_of _ (by decide +kernel)) ggX3_yearsToMeet_X5_leftOver
theorem dX3_yearsToMeet_0 : decode cX3_yearsToMeet 0 = .ok (.aload_n 0, 1) := by decide +kernel
theorem dX3_yearsToMeet_1 : decode cX3_yearsToMeet 1 = .ok (.iload_n 1, 1) := by decide +kernel
theorem dX3_yearsToMeet_2 : decode cX3_yearsToMeet 2 = .ok (.invokevirtual 25, 3) := by decide +kernel
theorem dX3_yearsToMeet_5 : decode cX3_yearsToMeet 5 = .ok (.aload_n 0, 1) := by decide +kernel
theorem dX3_yearsToMeet_6 : decode cX3_yearsToMeet 6 = .ok (.iload_n 2, 1) := by decide +kernel
theorem dX3_yearsToMeet_7 : decode cX3_yearsToMeet 7 = .ok (.invokevirtual 25, 3) := by decide +kernel
theorem dX3_yearsToMeet_10 : decode cX3_yearsToMeet 10 = .ok (.isub, 1) := by decide +kernel
theorem dX3_yearsToMeet_11 : decode cX3_yearsToMeet 11 = .ok (.istore_n 3, 1) := by decide +kernel
theorem dX3_yearsToMeet_12 : decode cX3_yearsToMeet 12 = .ok (.aload_n 0, 1) := by decide +kernel
theorem dX3_yearsToMeet_13 : decode cX3_yearsToMeet 13 = .ok (.iload_n 1, 1) := by decide +kernel
theorem dX3_yearsToMeet_14 : decode cX3_yearsToMeet 14 = .ok (.invokevirtual 49, 3) := by decide +kernel
theorem dX3_yearsToMeet_17 : decode cX3_yearsToMeet 17 = .ok (.aload_n 0, 1) := by decide +kernel
theorem dX3_yearsToMeet_18 : decode cX3_yearsToMeet 18 = .ok (.iload_n 2, 1) := by decide +kernel
theorem dX3_yearsToMeet_19 : decode cX3_yearsToMeet 19 = .ok (.invokevirtual 49, 3) := by decide +kernel
theorem dX3_yearsToMeet_22 : decode cX3_yearsToMeet 22 = .ok (.isub, 1) := by decide +kernel
theorem dX3_yearsToMeet_23 : decode cX3_yearsToMeet 23 = .ok (.istore 4, 2) := by decide +kernel
theorem dX3_yearsToMeet_25 : decode cX3_yearsToMeet 25 = .ok (.iconst 0, 1) := by decide +kernel
theorem dX3_yearsToMeet_26 : decode cX3_yearsToMeet 26 = .ok (.istore 5, 2) := by decide +kernel
theorem dX3_yearsToMeet_28 : decode cX3_yearsToMeet 28 = .ok (.iload 5, 2) := by decide +kernel
theorem dX3_yearsToMeet_30 : decode cX3_yearsToMeet 30 = .ok (.sipush 360, 3) := by decide +kernel
theorem dX3_yearsToMeet_33 : decode cX3_yearsToMeet 33 = .ok (.if_icmp .ge 25, 3) := by decide +kernel
theorem dX3_yearsToMeet_36 : decode cX3_yearsToMeet 36 = .ok (.iload_n 3, 1) := by decide +kernel
theorem dX3_yearsToMeet_37 : decode cX3_yearsToMeet 37 = .ok (.iload 4, 2) := by decide +kernel
theorem dX3_yearsToMeet_39 : decode cX3_yearsToMeet 39 = .ok (.iload 5, 2) := by decide +kernel
theorem dX3_yearsToMeet_41 : decode cX3_yearsToMeet 41 = .ok (.imul, 1) := by decide +kernel
theorem dX3_yearsToMeet_42 : decode cX3_yearsToMeet 42 = .ok (.iadd, 1) := by decide +kernel
theorem dX3_yearsToMeet_43 : decode cX3_yearsToMeet 43 = .ok (.invokestatic 52, 3) := by decide +kernel
theorem dX3_yearsToMeet_46 : decode cX3_yearsToMeet 46 = .ok (.ifCond .ne 6, 3) := by decide +kernel
theorem dX3_yearsToMeet_49 : decode cX3_yearsToMeet 49 = .ok (.iload 5, 2) := by decide +kernel
theorem dX3_yearsToMeet_51 : decode cX3_yearsToMeet 51 = .ok (.ireturn, 1) := by decide +kernel
theorem dX3_yearsToMeet_52 : decode cX3_yearsToMeet 52 = .ok (.iinc 5 1, 3) := by decide +kernel
theorem dX3_yearsToMeet_55 : decode cX3_yearsToMeet 55 = .ok (.goto (-27), 3) := by decide +kernel
theorem dX3_yearsToMeet_58 : decode cX3_yearsToMeet 58 = .ok (.bipush (-6), 2) := by decide +kernel
theorem dX3_yearsToMeet_60 : decode cX3_yearsToMeet 60 = .ok (.ireturn, 1) := by decide +kernel
set_option maxRecDepth 20000 in
theorem ggX3_isHalf_J6_bitCount_0f7a4 : GoodIn wsX3_isHalf wsJ6_bitCount_0f7a4 := goodIn_r _ [4, 5, 6, 7] (by decide +kernel) (by decide +kernel)
set_option maxRecDepth 20000 in
theorem gX3_isHalf_J6_bitCount_0f7a4 : GoodIn wsX3_isHalf (va_wsS RX3 55 yJ6_bitCount_0f7a4 wsJ6_bitCount_0f7a4) := goodIn_app (goodIn_of _ (by decide +kernel)) ggX3_isHalf_J6_bitCount_0f7a4
theorem dX3_isHalf_0 : decode cX3_isHalf 0 = .ok (.iconst 2, 1) := by decide +kernel
theorem dX3_isHalf_1 : decode cX3_isHalf 1 = .ok (.iload_n 0, 1) := by decide +kernel
theorem dX3_isHalf_2 : decode cX3_isHalf 2 = .ok (.invokestatic 55, 3) := by decide +kernel
theorem dX3_isHalf_5 : decode cX3_isHalf 5 = .ok (.imul, 1) := by decide +kernel
theorem dX3_isHalf_6 : decode cX3_isHalf 6 = .ok (.iload_n 1, 1) := by decide +kernel
theorem dX3_isHalf_7 : decode cX3_isHalf 7 = .ok (.invokestatic 55, 3) := by decide +kernel
theorem dX3_isHalf_10 : decode cX3_isHalf 10 = .ok (.isub, 1) := by decide +kernel
theorem dX3_isHalf_11 : decode cX3_isHalf 11 = .ok (.istore_n 2, 1) := by decide +kernel
theorem dX3_isHalf_12 : decode cX3_isHalf 12 = .ok (.iload_n 2, 1) := by decide +kernel
theorem dX3_isHalf_13 : decode cX3_isHalf 13 = .ok (.iconst (-1), 1) := by decide +kernel
theorem dX3_isHalf_14 : decode cX3_isHalf 14 = .ok (.if_icmp .lt 12, 3) := by decide +kernel
theorem dX3_isHalf_17 : decode cX3_isHalf 17 = .ok (.iload_n 2, 1) := by decide +kernel
theorem dX3_isHalf_18 : decode cX3_isHalf 18 = .ok (.iconst 1, 1) := by decide +kernel
theorem dX3_isHalf_19 : decode cX3_isHalf 19 = .ok (.if_icmp .gt 7, 3) := by decide +kernel
theorem dX3_isHalf_22 : decode cX3_isHalf 22 = .ok (.iconst 1, 1) := by decide +kernel
theorem dX3_isHalf_23 : decode cX3_isHalf 23 = .ok (.goto 4, 3) := by decide +kernel
theorem dX3_isHalf_26 : decode cX3_isHalf 26 = .ok (.iconst 0, 1) := by decide +kernel
theorem dX3_isHalf_27 : decode cX3_isHalf 27 = .ok (.ireturn, 1) := by decide +kernel
set_option maxRecDepth 20000 in
theorem ggX3_isTriangle_J6_bitCount_0f7a4 : GoodIn wsX3_isTriangle wsJ6_bitCount_0f7a4 := goodIn_r _ [5, 6, 7, 8] (by decide +kernel) (by decide +kernel)
set_option maxRecDepth 20000 in
theorem gX3_isTriangle_J6_bitCount_0f7a4 : GoodIn wsX3_isTriangle (va_wsS RX3 55 yJ6_bitCount_0f7a4 wsJ6_bitCount_0f7a4) := goodIn_app (goodIn_of _ (by decide +kernel)) ggX3_isTriangle_J6_bitCount_0f7a4
set_option maxRecDepth 20000 in
theorem ggX3_isTriangle_X3_areBoth : GoodIn wsX3_isTriangle wsX3_areBoth := goodIn_r _ [12] (by decide +kernel) (by decide +kernel)
set_option maxRecDepth 20000 in
theorem gX3_isTriangle_X3_areBoth : GoodIn wsX3_isTriangle (va_wsS RX3 60 yX3_areBoth wsX3_areBoth) := goodIn_app (goodIn_of _ (by decide +kernel)) ggX3_isTriangle_X3_areBoth
set_option maxRecDepth 20000 in
theorem ggX3_isTriangle_X2_between : GoodIn wsX3_isTriangle wsX2_between := goodIn_r _ [17, 18, 19, 20, 16, 21, 22, 23, 24, 25, 26, 27, 28, 29, 30, 31, 32, 33, 34, 35, 36, 37, 38, 39, 40, 41, 42, 43, 44, 45, 46] (by decide +kernel) (by decide +kernel)
set_option maxRecDepth 20000 in
theorem gX3_isTriangle_X2_between : GoodIn wsX3_isTriangle (wsV RX3 64 RX2 yX2_between wsX2_between) := goodIn_app (goodIn_of _ (by decide +kernel)) ggX3_isTriangle_X2_between
theorem dX3_isTriangle_0 : decode cX3_isTriangle 0 = .ok (.iload_n 1, 1) := by decide +kernel
theorem dX3_isTriangle_1 : decode cX3_isTriangle 1 = .ok (.aload_n 0, 1) := by decide +kernel
theorem dX3_isTriangle_2 : decode cX3_isTriangle 2 = .ok (.getfield 35, 3) := by decide +kernel
theorem dX3_isTriangle_5 : decode cX3_isTriangle 5 = .ok (.iconst (-1), 1) := by decide +kernel
theorem dX3_isTriangle_6 : decode cX3_isTriangle 6 = .ok (.ixor, 1) := by decide +kernel
theorem dX3_isTriangle_7 : decode cX3_isTriangle 7 = .ok (.iand, 1) := by decide +kernel
theorem dX3_isTriangle_8 : decode cX3_isTriangle 8 = .ok (.ifCond .ne 11, 3) := by decide +kernel
theorem dX3_isTriangle_11 : decode cX3_isTriangle 11 = .ok (.iload_n 1, 1) := by decide +kernel
theorem dX3_isTriangle_12 : decode cX3_isTriangle 12 = .ok (.invokestatic 55, 3) := by decide +kernel
theorem dX3_isTriangle_15 : decode cX3_isTriangle 15 = .ok (.iconst 3, 1) := by decide +kernel
theorem dX3_isTriangle_16 : decode cX3_isTriangle 16 = .ok (.if_icmp .eq 5, 3) := by decide +kernel
theorem dX3_isTriangle_19 : decode cX3_isTriangle 19 = .ok (.iconst 0, 1) := by decide +kernel
theorem dX3_isTriangle_20 : decode cX3_isTriangle 20 = .ok (.ireturn, 1) := by decide +kernel
theorem dX3_isTriangle_21 : decode cX3_isTriangle 21 = .ok (.iconst 0, 1) := by decide +kernel
theorem dX3_isTriangle_22 : decode cX3_isTriangle 22 = .ok (.istore_n 2, 1) := by decide +kernel
theorem dX3_isTriangle_23 : decode cX3_isTriangle 23 = .ok (.iload_n 2, 1) := by decide +kernel
theorem dX3_isTriangle_24 : decode cX3_isTriangle 24 = .ok (.bipush 9, 2) := by decide +kernel
theorem dX3_isTriangle_26 : decode cX3_isTriangle 26 = .ok (.if_icmp .ge 44, 3) := by decide +kernel
theorem dX3_isTriangle_29 : decode cX3_isTriangle 29 = .ok (.iconst 0, 1) := by decide +kernel
theorem dX3_isTriangle_30 : decode cX3_isTriangle 30 = .ok (.istore_n 3, 1) := by decide +kernel
theorem dX3_isTriangle_31 : decode cX3_isTriangle 31 = .ok (.iload_n 3, 1) := by decide +kernel
theorem dX3_isTriangle_32 : decode cX3_isTriangle 32 = .ok (.iload_n 2, 1) := by decide +kernel
theorem dX3_isTriangle_33 : decode cX3_isTriangle 33 = .ok (.if_icmp .ge 31, 3) := by decide +kernel
theorem dX3_isTriangle_36 : decode cX3_isTriangle 36 = .ok (.iload_n 1, 1) := by decide +kernel
theorem dX3_isTriangle_37 : decode cX3_isTriangle 37 = .ok (.iload_n 2, 1) := by decide +kernel
theorem dX3_isTriangle_38 : decode cX3_isTriangle 38 = .ok (.iload_n 3, 1) := by decide +kernel
theorem dX3_isTriangle_39 : decode cX3_isTriangle 39 = .ok (.invokestatic 60, 3) := by decide +kernel
theorem dX3_isTriangle_42 : decode cX3_isTriangle 42 = .ok (.ifCond .eq 16, 3) := by decide +kernel
theorem dX3_isTriangle_45 : decode cX3_isTriangle 45 = .ok (.aload_n 0, 1) := by decide +kernel
theorem dX3_isTriangle_46 : decode cX3_isTriangle 46 = .ok (.iload_n 2, 1) := by decide +kernel
theorem dX3_isTriangle_47 : decode cX3_isTriangle 47 = .ok (.iload_n 3, 1) := by decide +kernel
theorem dX3_isTriangle_48 : decode cX3_isTriangle 48 = .ok (.invokevirtual 64, 3) := by decide +kernel
theorem dX3_isTriangle_51 : decode cX3_isTriangle 51 = .ok (.bipush 20, 2) := by decide +kernel
theorem dX3_isTriangle_53 : decode cX3_isTriangle 53 = .ok (.if_icmp .ge 5, 3) := by decide +kernel
theorem dX3_isTriangle_56 : decode cX3_isTriangle 56 = .ok (.iconst 0, 1) := by decide +kernel
theorem dX3_isTriangle_57 : decode cX3_isTriangle 57 = .ok (.ireturn, 1) := by decide +kernel
theorem dX3_isTriangle_58 : decode cX3_isTriangle 58 = .ok (.iinc 3 1, 3) := by decide +kernel
theorem dX3_isTriangle_61 : decode cX3_isTriangle 61 = .ok (.goto (-30), 3) := by decide +kernel
theorem dX3_isTriangle_64 : decode cX3_isTriangle 64 = .ok (.iinc 2 1, 3) := by decide +kernel
theorem dX3_isTriangle_67 : decode cX3_isTriangle 67 = .ok (.goto (-44), 3) := by decide +kernel
theorem dX3_isTriangle_70 : decode cX3_isTriangle 70 = .ok (.iconst 1, 1) := by decide +kernel
theorem dX3_isTriangle_71 : decode cX3_isTriangle 71 = .ok (.ireturn, 1) := by decide +kernel
set_option maxRecDepth 20000 in
theorem ggX3_apartWithin_X3_areBoth : GoodIn wsX3_apartWithin wsX3_areBoth := goodIn_r _ [4] (by decide +kernel) (by decide +kernel)
set_option maxRecDepth 20000 in
theorem gX3_apartWithin_X3_areBoth : GoodIn wsX3_apartWithin (va_wsS RX3 60 yX3_areBoth wsX3_areBoth) := goodIn_app (goodIn_of _ (by decide +kernel)) ggX3_apartWithin_X3_areBoth
set_option maxRecDepth 20000 in
theorem ggX3_apartWithin_X2_between : GoodIn wsX3_apartWithin wsX2_between := goodIn_r _ [9, 10, 11, 12, 8, 13, 14, 15, 16, 17, 18, 19, 20, 21, 22, 23, 24, 25, 26, 27, 28, 29, 30, 31, 32, 33, 34, 35, 36, 37, 38] (by decide +kernel) (by decide +kernel)
set_option maxRecDepth 20000 in
theorem gX3_apartWithin_X2_between : GoodIn wsX3_apartWithin (wsV RX3 64 RX2 yX2_between wsX2_between) := goodIn_app (goodIn_of _ (by decide +kernel)) ggX3_apartWithin_X2_between
theorem dX3_apartWithin_0 : decode cX3_apartWithin 0 = .ok (.iconst 0, 1) := by decide +kernel
theorem dX3_apartWithin_1 : decode cX3_apartWithin 1 = .ok (.istore_n 2, 1) := by decide +kernel
theorem dX3_apartWithin_2 : decode cX3_apartWithin 2 = .ok (.iconst 0, 1) := by decide +kernel
theorem dX3_apartWithin_3 : decode cX3_apartWithin 3 = .ok (.istore_n 3, 1) := by decide +kernel
theorem dX3_apartWithin_4 : decode cX3_apartWithin 4 = .ok (.iload_n 3, 1) := by decide +kernel
theorem dX3_apartWithin_5 : decode cX3_apartWithin 5 = .ok (.bipush 9, 2) := by decide +kernel
theorem dX3_apartWithin_7 : decode cX3_apartWithin 7 = .ok (.if_icmp .ge 44, 3) := by decide +kernel
theorem dX3_apartWithin_10 : decode cX3_apartWithin 10 = .ok (.iconst 0, 1) := by decide +kernel
theorem dX3_apartWithin_11 : decode cX3_apartWithin 11 = .ok (.istore 4, 2) := by decide +kernel
theorem dX3_apartWithin_13 : decode cX3_apartWithin 13 = .ok (.iload 4, 2) := by decide +kernel
theorem dX3_apartWithin_15 : decode cX3_apartWithin 15 = .ok (.iload_n 3, 1) := by decide +kernel
theorem dX3_apartWithin_16 : decode cX3_apartWithin 16 = .ok (.if_icmp .ge 29, 3) := by decide +kernel
theorem dX3_apartWithin_19 : decode cX3_apartWithin 19 = .ok (.iload_n 1, 1) := by decide +kernel
theorem dX3_apartWithin_20 : decode cX3_apartWithin 20 = .ok (.iload_n 3, 1) := by decide +kernel
theorem dX3_apartWithin_21 : decode cX3_apartWithin 21 = .ok (.iload 4, 2) := by decide +kernel
theorem dX3_apartWithin_23 : decode cX3_apartWithin 23 = .ok (.invokestatic 60, 3) := by decide +kernel
theorem dX3_apartWithin_26 : decode cX3_apartWithin 26 = .ok (.ifCond .eq 13, 3) := by decide +kernel
theorem dX3_apartWithin_29 : decode cX3_apartWithin 29 = .ok (.iload_n 2, 1) := by decide +kernel
theorem dX3_apartWithin_30 : decode cX3_apartWithin 30 = .ok (.aload_n 0, 1) := by decide +kernel
theorem dX3_apartWithin_31 : decode cX3_apartWithin 31 = .ok (.iload_n 3, 1) := by decide +kernel
theorem dX3_apartWithin_32 : decode cX3_apartWithin 32 = .ok (.iload 4, 2) := by decide +kernel
theorem dX3_apartWithin_34 : decode cX3_apartWithin 34 = .ok (.invokevirtual 64, 3) := by decide +kernel
theorem dX3_apartWithin_37 : decode cX3_apartWithin 37 = .ok (.iadd, 1) := by decide +kernel
theorem dX3_apartWithin_38 : decode cX3_apartWithin 38 = .ok (.istore_n 2, 1) := by decide +kernel
theorem dX3_apartWithin_39 : decode cX3_apartWithin 39 = .ok (.iinc 4 1, 3) := by decide +kernel
theorem dX3_apartWithin_42 : decode cX3_apartWithin 42 = .ok (.goto (-29), 3) := by decide +kernel
theorem dX3_apartWithin_45 : decode cX3_apartWithin 45 = .ok (.iinc 3 1, 3) := by decide +kernel
theorem dX3_apartWithin_48 : decode cX3_apartWithin 48 = .ok (.goto (-44), 3) := by decide +kernel
theorem dX3_apartWithin_51 : decode cX3_apartWithin 51 = .ok (.iload_n 2, 1) := by decide +kernel
theorem dX3_apartWithin_52 : decode cX3_apartWithin 52 = .ok (.ireturn, 1) := by decide +kernel
theorem dX3_areBoth_0 : decode cX3_areBoth 0 = .ok (.iload_n 0, 1) := by decide +kernel
theorem dX3_areBoth_1 : decode cX3_areBoth 1 = .ok (.iload_n 1, 1) := by decide +kernel
theorem dX3_areBoth_2 : decode cX3_areBoth 2 = .ok (.ishr, 1) := by decide +kernel
theorem dX3_areBoth_3 : decode cX3_areBoth 3 = .ok (.iconst 1, 1) := by decide +kernel
theorem dX3_areBoth_4 : decode cX3_areBoth 4 = .ok (.iand, 1) := by decide +kernel
theorem dX3_areBoth_5 : decode cX3_areBoth 5 = .ok (.ifCond .eq 15, 3) := by decide +kernel
theorem dX3_areBoth_8 : decode cX3_areBoth 8 = .ok (.iload_n 0, 1) := by decide +kernel
theorem dX3_areBoth_9 : decode cX3_areBoth 9 = .ok (.iload_n 2, 1) := by decide +kernel
theorem dX3_areBoth_10 : decode cX3_areBoth 10 = .ok (.ishr, 1) := by decide +kernel
theorem dX3_areBoth_11 : decode cX3_areBoth 11 = .ok (.iconst 1, 1) := by decide +kernel
theorem dX3_areBoth_12 : decode cX3_areBoth 12 = .ok (.iand, 1) := by decide +kernel
theorem dX3_areBoth_13 : decode cX3_areBoth 13 = .ok (.ifCond .eq 7, 3) := by decide +kernel
theorem dX3_areBoth_16 : decode cX3_areBoth 16 = .ok (.iconst 1, 1) := by decide +kernel
theorem dX3_areBoth_17 : decode cX3_areBoth 17 = .ok (.goto 4, 3) := by decide +kernel
theorem dX3_areBoth_20 : decode cX3_areBoth 20 = .ok (.iconst 0, 1) := by decide +kernel
theorem dX3_areBoth_21 : decode cX3_areBoth 21 = .ok (.ireturn, 1) := by decide +kernel
theorem dX4_init_0 : decode cX4_init 0 = .ok (.aload_n 0, 1) := by decide +kernel
theorem dX4_init_1 : decode cX4_init 1 = .ok (.invokespecial 3, 3) := by decide +kernel
theorem dX4_init_4 : decode cX4_init 4 = .ok (.aload_n 0, 1) := by decide +kernel
theorem dX4_init_5 : decode cX4_init 5 = .ok (.bipush 60, 2) := by decide +kernel
theorem dX4_init_7 : decode cX4_init 7 = .ok (.newarray .int, 2) := by decide +kernel
theorem dX4_init_9 : decode cX4_init 9 = .ok (.putfield 9, 3) := by decide +kernel
theorem dX4_init_12 : decode cX4_init 12 = .ok (.return_, 1) := by decide +kernel
theorem dX4_write_0 : decode cX4_write 0 = .ok (.aload_n 0, 1) := by decide +kernel
theorem dX4_write_1 : decode cX4_write 1 = .ok (.getfield 15, 3) := by decide +kernel
theorem dX4_write_4 : decode cX4_write 4 = .ok (.ifCond .lt 12, 3) := by decide +kernel
theorem dX4_write_7 : decode cX4_write 7 = .ok (.aload_n 0, 1) := by decide +kernel
theorem dX4_write_8 : decode cX4_write 8 = .ok (.getfield 15, 3) := by decide +kernel
theorem dX4_write_11 : decode cX4_write 11 = .ok (.bipush 60, 2) := by decide +kernel
theorem dX4_write_13 : decode cX4_write 13 = .ok (.if_icmp .lt 5, 3) := by decide +kernel
theorem dX4_write_16 : decode cX4_write 16 = .ok (.iconst 0, 1) := by decide +kernel
theorem dX4_write_17 : decode cX4_write 17 = .ok (.ireturn, 1) := by decide +kernel
theorem dX4_write_18 : decode cX4_write 18 = .ok (.aload_n 0, 1) := by decide +kernel
theorem dX4_write_19 : decode cX4_write 19 = .ok (.getfield 9, 3) := by decide +kernel
theorem dX4_write_22 : decode cX4_write 22 = .ok (.aload_n 0, 1) := by decide +kernel
theorem dX4_write_23 : decode cX4_write 23 = .ok (.getfield 15, 3) := by decide +kernel
theorem dX4_write_26 : decode cX4_write 26 = .ok (.iload_n 1, 1) := by decide +kernel
theorem dX4_write_27 : decode cX4_write 27 = .ok (.iastore, 1) := by decide +kernel
theorem dX4_write_28 : decode cX4_write 28 = .ok (.aload_n 0, 1) := by decide +kernel
theorem dX4_write_29 : decode cX4_write 29 = .ok (.dup, 1) := by decide +kernel
theorem dX4_write_30 : decode cX4_write 30 = .ok (.getfield 15, 3) := by decide +kernel
theorem dX4_write_33 : decode cX4_write 33 = .ok (.iconst 1, 1) := by decide +kernel
theorem dX4_write_34 : decode cX4_write 34 = .ok (.iadd, 1) := by decide +kernel
theorem dX4_write_35 : decode cX4_write 35 = .ok (.putfield 15, 3) := by decide +kernel
theorem dX4_write_38 : decode cX4_write 38 = .ok (.iconst 1, 1) := by decide +kernel
theorem dX4_write_39 : decode cX4_write 39 = .ok (.ireturn, 1) := by decide +kernel
set_option maxRecDepth 20000 in
theorem ggX4_faultPlace_X4_faultOfAct : GoodIn wsX4_faultPlace wsX4_faultOfAct := goodIn_r _ [6, 7, 8, 9, 5, 10, 1, 11, 12, 13, 14, 15, 16, 17, 18, 19, 20, 21, 22, 23, 24, 25, 26, 27, 28, 29, 30, 31] (by decide +kernel) (by decide +kernel)
set_option maxRecDepth 20000 in
theorem gX4_faultPlace_X4_faultOfAct : GoodIn wsX4_faultPlace (wsV RX4 19 RX4 yX4_faultOfAct wsX4_faultOfAct) := goodIn_app (goodIn_of _ (by decide +kernel)) ggX4_faultPlace_X4_faultOfAct
set_option maxRecDepth 20000 in
theorem ggX4_faultPlace_X4_lengthOfAct : GoodIn wsX4_faultPlace wsX4_lengthOfAct := goodIn_r _ [21, 22, 23, 24, 5, 25, 7, 8, 9, 10, 1, 11, 30, 31] (by decide +kernel) (by decide +kernel)
set_option maxRecDepth 20000 in
theorem gX4_faultPlace_X4_lengthOfAct : GoodIn wsX4_faultPlace (wsV RX4 23 RX4 yX4_lengthOfAct wsX4_lengthOfAct) := goodIn_app (goodIn_of _ (by decide +kernel)) ggX4_faultPlace_X4_lengthOfAct
theorem dX4_faultPlace_0 : decode cX4_faultPlace 0 = .ok (.iconst 0, 1) := by decide +kernel
theorem dX4_faultPlace_1 : decode cX4_faultPlace 1 = .ok (.istore_n 1, 1) := by decide +kernel
theorem dX4_faultPlace_2 : decode cX4_faultPlace 2 = .ok (.iconst 0, 1) := by decide +kernel
theorem dX4_faultPlace_3 : decode cX4_faultPlace 3 = .ok (.istore_n 2, 1) := by decide +kernel
theorem dX4_faultPlace_4 : decode cX4_faultPlace 4 = .ok (.iload_n 2, 1) := by decide +kernel
theorem dX4_faultPlace_5 : decode cX4_faultPlace 5 = .ok (.bipush 60, 2) := by decide +kernel
theorem dX4_faultPlace_7 : decode cX4_faultPlace 7 = .ok (.if_icmp .ge 39, 3) := by decide +kernel
theorem dX4_faultPlace_10 : decode cX4_faultPlace 10 = .ok (.iload_n 1, 1) := by decide +kernel
theorem dX4_faultPlace_11 : decode cX4_faultPlace 11 = .ok (.aload_n 0, 1) := by decide +kernel
theorem dX4_faultPlace_12 : decode cX4_faultPlace 12 = .ok (.getfield 15, 3) := by decide +kernel
theorem dX4_faultPlace_15 : decode cX4_faultPlace 15 = .ok (.if_icmp .ge 31, 3) := by decide +kernel
theorem dX4_faultPlace_18 : decode cX4_faultPlace 18 = .ok (.aload_n 0, 1) := by decide +kernel
theorem dX4_faultPlace_19 : decode cX4_faultPlace 19 = .ok (.iload_n 1, 1) := by decide +kernel
theorem dX4_faultPlace_20 : decode cX4_faultPlace 20 = .ok (.invokevirtual 19, 3) := by decide +kernel
theorem dX4_faultPlace_23 : decode cX4_faultPlace 23 = .ok (.istore_n 3, 1) := by decide +kernel
theorem dX4_faultPlace_24 : decode cX4_faultPlace 24 = .ok (.iload_n 3, 1) := by decide +kernel
theorem dX4_faultPlace_25 : decode cX4_faultPlace 25 = .ok (.bipush (-6), 2) := by decide +kernel
theorem dX4_faultPlace_27 : decode cX4_faultPlace 27 = .ok (.if_icmp .eq 5, 3) := by decide +kernel
theorem dX4_faultPlace_30 : decode cX4_faultPlace 30 = .ok (.iload_n 3, 1) := by decide +kernel
theorem dX4_faultPlace_31 : decode cX4_faultPlace 31 = .ok (.ireturn, 1) := by decide +kernel
theorem dX4_faultPlace_32 : decode cX4_faultPlace 32 = .ok (.iload_n 1, 1) := by decide +kernel
theorem dX4_faultPlace_33 : decode cX4_faultPlace 33 = .ok (.aload_n 0, 1) := by decide +kernel
theorem dX4_faultPlace_34 : decode cX4_faultPlace 34 = .ok (.iload_n 1, 1) := by decide +kernel
theorem dX4_faultPlace_35 : decode cX4_faultPlace 35 = .ok (.invokevirtual 23, 3) := by decide +kernel
theorem dX4_faultPlace_38 : decode cX4_faultPlace 38 = .ok (.iadd, 1) := by decide +kernel
theorem dX4_faultPlace_39 : decode cX4_faultPlace 39 = .ok (.istore_n 1, 1) := by decide +kernel
theorem dX4_faultPlace_40 : decode cX4_faultPlace 40 = .ok (.iinc 2 1, 3) := by decide +kernel
theorem dX4_faultPlace_43 : decode cX4_faultPlace 43 = .ok (.goto (-39), 3) := by decide +kernel
theorem dX4_faultPlace_46 : decode cX4_faultPlace 46 = .ok (.bipush (-6), 2) := by decide +kernel
theorem dX4_faultPlace_48 : decode cX4_faultPlace 48 = .ok (.ireturn, 1) := by decide +kernel
set_option maxRecDepth 20000 in
theorem ggX4_kindAt_X4_signAt : GoodIn wsX4_kindAt wsX4_signAt := goodIn_r _ [5, 6, 7, 8, 9] (by decide +kernel) (by decide +kernel)
set_option maxRecDepth 20000 in
theorem gX4_kindAt_X4_signAt : GoodIn wsX4_kindAt (wsV RX4 26 RX4 yX4_signAt wsX4_signAt) := goodIn_app (goodIn_of _ (by decide +kernel)) ggX4_kindAt_X4_signAt
theorem dX4_kindAt_0 : decode cX4_kindAt 0 = .ok (.aload_n 0, 1) := by decide +kernel
theorem dX4_kindAt_1 : decode cX4_kindAt 1 = .ok (.iload_n 1, 1) := by decide +kernel
theorem dX4_kindAt_2 : decode cX4_kindAt 2 = .ok (.invokevirtual 26, 3) := by decide +kernel
theorem dX4_kindAt_5 : decode cX4_kindAt 5 = .ok (.bipush 46, 2) := by decide +kernel
theorem dX4_kindAt_7 : decode cX4_kindAt 7 = .ok (.if_icmp .ne 8, 3) := by decide +kernel
theorem dX4_kindAt_10 : decode cX4_kindAt 10 = .ok (.bipush 46, 2) := by decide +kernel
theorem dX4_kindAt_12 : decode cX4_kindAt 12 = .ok (.goto 10, 3) := by decide +kernel
theorem dX4_kindAt_15 : decode cX4_kindAt 15 = .ok (.aload_n 0, 1) := by decide +kernel
theorem dX4_kindAt_16 : decode cX4_kindAt 16 = .ok (.iload_n 1, 1) := by decide +kernel
theorem dX4_kindAt_17 : decode cX4_kindAt 17 = .ok (.iconst 1, 1) := by decide +kernel
theorem dX4_kindAt_18 : decode cX4_kindAt 18 = .ok (.iadd, 1) := by decide +kernel
theorem dX4_kindAt_19 : decode cX4_kindAt 19 = .ok (.invokevirtual 26, 3) := by decide +kernel
theorem dX4_kindAt_22 : decode cX4_kindAt 22 = .ok (.ireturn, 1) := by decide +kernel
set_option maxRecDepth 20000 in
theorem ggX4_oneAt_X4_signAt : GoodIn wsX4_oneAt wsX4_signAt := goodIn_r _ [5, 6, 7, 8, 9] (by decide +kernel) (by decide +kernel)
set_option maxRecDepth 20000 in
theorem gX4_oneAt_X4_signAt : GoodIn wsX4_oneAt (wsV RX4 26 RX4 yX4_signAt wsX4_signAt) := goodIn_app (goodIn_of _ (by decide +kernel)) ggX4_oneAt_X4_signAt
theorem dX4_oneAt_0 : decode cX4_oneAt 0 = .ok (.aload_n 0, 1) := by decide +kernel
theorem dX4_oneAt_1 : decode cX4_oneAt 1 = .ok (.iload_n 1, 1) := by decide +kernel
theorem dX4_oneAt_2 : decode cX4_oneAt 2 = .ok (.invokevirtual 26, 3) := by decide +kernel
theorem dX4_oneAt_5 : decode cX4_oneAt 5 = .ok (.bipush 65, 2) := by decide +kernel
theorem dX4_oneAt_7 : decode cX4_oneAt 7 = .ok (.isub, 1) := by decide +kernel
theorem dX4_oneAt_8 : decode cX4_oneAt 8 = .ok (.ireturn, 1) := by decide +kernel
set_option maxRecDepth 20000 in
theorem ggX4_withAt_X4_signAt : GoodIn wsX4_withAt wsX4_signAt := goodIn_r _ [5, 6, 7, 12, 13] (by decide +kernel) (by decide +kernel)
set_option maxRecDepth 20000 in
theorem gX4_withAt_X4_signAt : GoodIn wsX4_withAt (wsV RX4 26 RX4 yX4_signAt wsX4_signAt) := goodIn_app (goodIn_of _ (by decide +kernel)) ggX4_withAt_X4_signAt
set_option maxRecDepth 20000 in
theorem ggX4_withAt_X4_kindAt : GoodIn wsX4_withAt wsX4_kindAt := goodIn_r _ [11, 1, 2, 3, 4, 5, 6, 7, 12, 13] (by decide +kernel) (by decide +kernel)
set_option maxRecDepth 20000 in
theorem gX4_withAt_X4_kindAt : GoodIn wsX4_withAt (wsV RX4 29 RX4 yX4_kindAt wsX4_kindAt) := goodIn_app (goodIn_of _ (by decide +kernel)) ggX4_withAt_X4_kindAt
theorem dX4_withAt_0 : decode cX4_withAt 0 = .ok (.aload_n 0, 1) := by decide +kernel
theorem dX4_withAt_1 : decode cX4_withAt 1 = .ok (.iload_n 1, 1) := by decide +kernel
theorem dX4_withAt_2 : decode cX4_withAt 2 = .ok (.iconst 2, 1) := by decide +kernel
theorem dX4_withAt_3 : decode cX4_withAt 3 = .ok (.iadd, 1) := by decide +kernel
theorem dX4_withAt_4 : decode cX4_withAt 4 = .ok (.invokevirtual 26, 3) := by decide +kernel
theorem dX4_withAt_7 : decode cX4_withAt 7 = .ok (.aload_n 0, 1) := by decide +kernel
theorem dX4_withAt_8 : decode cX4_withAt 8 = .ok (.iload_n 1, 1) := by decide +kernel
theorem dX4_withAt_9 : decode cX4_withAt 9 = .ok (.invokevirtual 29, 3) := by decide +kernel
theorem dX4_withAt_12 : decode cX4_withAt 12 = .ok (.bipush 38, 2) := by decide +kernel
theorem dX4_withAt_14 : decode cX4_withAt 14 = .ok (.if_icmp .ne 8, 3) := by decide +kernel
theorem dX4_withAt_17 : decode cX4_withAt 17 = .ok (.bipush 65, 2) := by decide +kernel
theorem dX4_withAt_19 : decode cX4_withAt 19 = .ok (.goto 5, 3) := by decide +kernel
theorem dX4_withAt_22 : decode cX4_withAt 22 = .ok (.bipush 48, 2) := by decide +kernel
theorem dX4_withAt_24 : decode cX4_withAt 24 = .ok (.isub, 1) := by decide +kernel
theorem dX4_withAt_25 : decode cX4_withAt 25 = .ok (.ireturn, 1) := by decide +kernel
set_option maxRecDepth 20000 in
theorem ggX4_lengthOfAct_X4_kindAt : GoodIn wsX4_lengthOfAct wsX4_kindAt := goodIn_r _ [5, 6, 7, 8, 4, 9, 10, 11, 12, 13] (by decide +kernel) (by decide +kernel)
set_option maxRecDepth 20000 in
theorem gX4_lengthOfAct_X4_kindAt : GoodIn wsX4_lengthOfAct (wsV RX4 29 RX4 yX4_kindAt wsX4_kindAt) := goodIn_app (goodIn_of _ (by decide +kernel)) ggX4_lengthOfAct_X4_kindAt
theorem dX4_lengthOfAct_0 : decode cX4_lengthOfAct 0 = .ok (.aload_n 0, 1) := by decide +kernel
theorem dX4_lengthOfAct_1 : decode cX4_lengthOfAct 1 = .ok (.iload_n 1, 1) := by decide +kernel
theorem dX4_lengthOfAct_2 : decode cX4_lengthOfAct 2 = .ok (.invokevirtual 29, 3) := by decide +kernel
theorem dX4_lengthOfAct_5 : decode cX4_lengthOfAct 5 = .ok (.lookupswitch 47 #[(46, 43), (47, 45), (58, 45), (63, 45)], 43) := by decide +kernel
theorem dX4_lengthOfAct_48 : decode cX4_lengthOfAct 48 = .ok (.iconst 1, 1) := by decide +kernel
theorem dX4_lengthOfAct_49 : decode cX4_lengthOfAct 49 = .ok (.ireturn, 1) := by decide +kernel
theorem dX4_lengthOfAct_50 : decode cX4_lengthOfAct 50 = .ok (.iconst 2, 1) := by decide +kernel
theorem dX4_lengthOfAct_51 : decode cX4_lengthOfAct 51 = .ok (.ireturn, 1) := by decide +kernel
theorem dX4_lengthOfAct_52 : decode cX4_lengthOfAct 52 = .ok (.iconst 3, 1) := by decide +kernel
theorem dX4_lengthOfAct_53 : decode cX4_lengthOfAct 53 = .ok (.ireturn, 1) := by decide +kernel
theorem dX4_signAt_0 : decode cX4_signAt 0 = .ok (.iload_n 1, 1) := by decide +kernel
theorem dX4_signAt_1 : decode cX4_signAt 1 = .ok (.ifCond .lt 26, 3) := by decide +kernel
theorem dX4_signAt_4 : decode cX4_signAt 4 = .ok (.iload_n 1, 1) := by decide +kernel
theorem dX4_signAt_5 : decode cX4_signAt 5 = .ok (.aload_n 0, 1) := by decide +kernel
theorem dX4_signAt_6 : decode cX4_signAt 6 = .ok (.getfield 15, 3) := by decide +kernel
theorem dX4_signAt_9 : decode cX4_signAt 9 = .ok (.if_icmp .ge 18, 3) := by decide +kernel
theorem dX4_signAt_12 : decode cX4_signAt 12 = .ok (.iload_n 1, 1) := by decide +kernel
theorem dX4_signAt_13 : decode cX4_signAt 13 = .ok (.bipush 60, 2) := by decide +kernel
theorem dX4_signAt_15 : decode cX4_signAt 15 = .ok (.if_icmp .ge 12, 3) := by decide +kernel
theorem dX4_signAt_18 : decode cX4_signAt 18 = .ok (.aload_n 0, 1) := by decide +kernel
theorem dX4_signAt_19 : decode cX4_signAt 19 = .ok (.getfield 9, 3) := by decide +kernel
theorem dX4_signAt_22 : decode cX4_signAt 22 = .ok (.iload_n 1, 1) := by decide +kernel
theorem dX4_signAt_23 : decode cX4_signAt 23 = .ok (.iaload, 1) := by decide +kernel
theorem dX4_signAt_24 : decode cX4_signAt 24 = .ok (.goto 4, 3) := by decide +kernel
theorem dX4_signAt_27 : decode cX4_signAt 27 = .ok (.iconst 0, 1) := by decide +kernel
theorem dX4_signAt_28 : decode cX4_signAt 28 = .ok (.ireturn, 1) := by decide +kernel
set_option maxRecDepth 20000 in
theorem ggX4_faultOfAct_X4_signAt : GoodIn wsX4_faultOfAct wsX4_signAt := goodIn_r _ [5, 6, 7, 26, 27] (by decide +kernel) (by decide +kernel)
set_option maxRecDepth 20000 in
theorem gX4_faultOfAct_X4_signAt : GoodIn wsX4_faultOfAct (wsV RX4 26 RX4 yX4_signAt wsX4_signAt) := goodIn_app (goodIn_of _ (by decide +kernel)) ggX4_faultOfAct_X4_signAt
set_option maxRecDepth 20000 in
theorem ggX4_faultOfAct_X4_isLetter : GoodIn wsX4_faultOfAct wsX4_isLetter := goodIn_r _ [10] (by decide +kernel) (by decide +kernel)
set_option maxRecDepth 20000 in
theorem gX4_faultOfAct_X4_isLetter : GoodIn wsX4_faultOfAct (va_wsS RX4 32 yX4_isLetter wsX4_isLetter) := goodIn_app (goodIn_of _ (by decide +kernel)) ggX4_faultOfAct_X4_isLetter
set_option maxRecDepth 20000 in
theorem ggX4_faultOfAct_X4_isKind : GoodIn wsX4_faultOfAct wsX4_isKind := goodIn_r _ [13] (by decide +kernel) (by decide +kernel)
set_option maxRecDepth 20000 in
theorem gX4_faultOfAct_X4_isKind : GoodIn wsX4_faultOfAct (va_wsS RX4 36 yX4_isKind wsX4_isKind) := goodIn_app (goodIn_of _ (by decide +kernel)) ggX4_faultOfAct_X4_isKind
set_option maxRecDepth 20000 in
theorem ggX4_faultOfAct_X4_lengthOfAct : GoodIn wsX4_faultOfAct wsX4_lengthOfAct := goodIn_r _ [17, 18, 19, 20, 4, 21, 1, 2, 3, 5, 6, 7, 26, 27] (by decide +kernel) (by decide +kernel)
set_option maxRecDepth 20000 in
theorem gX4_faultOfAct_X4_lengthOfAct : GoodIn wsX4_faultOfAct (wsV RX4 23 RX4 yX4_lengthOfAct wsX4_lengthOfAct) := goodIn_app (goodIn_of _ (by decide +kernel)) ggX4_faultOfAct_X4_lengthOfAct
set_option maxRecDepth 20000 in
theorem ggX4_faultOfAct_X4_faultOfEnd : GoodIn wsX4_faultOfAct wsX4_faultOfEnd := goodIn_r _ [25, 1, 2, 3, 4, 5, 6, 7, 18, 19, 20, 21, 8, 9, 10, 26, 27] (by decide +kernel) (by decide +kernel)
set_option maxRecDepth 20000 in
theorem gX4_faultOfAct_X4_faultOfEnd : GoodIn wsX4_faultOfAct (wsV RX4 39 RX4 yX4_faultOfEnd wsX4_faultOfEnd) := goodIn_app (goodIn_of _ (by decide +kernel)) ggX4_faultOfAct_X4_faultOfEnd
theorem dX4_faultOfAct_0 : decode cX4_faultOfAct 0 = .ok (.aload_n 0, 1) := by decide +kernel
theorem dX4_faultOfAct_1 : decode cX4_faultOfAct 1 = .ok (.iload_n 1, 1) := by decide +kernel
theorem dX4_faultOfAct_2 : decode cX4_faultOfAct 2 = .ok (.invokevirtual 26, 3) := by decide +kernel
theorem dX4_faultOfAct_5 : decode cX4_faultOfAct 5 = .ok (.istore_n 2, 1) := by decide +kernel
theorem dX4_faultOfAct_6 : decode cX4_faultOfAct 6 = .ok (.iload_n 2, 1) := by decide +kernel
theorem dX4_faultOfAct_7 : decode cX4_faultOfAct 7 = .ok (.bipush 46, 2) := by decide +kernel
theorem dX4_faultOfAct_9 : decode cX4_faultOfAct 9 = .ok (.if_icmp .ne 6, 3) := by decide +kernel
theorem dX4_faultOfAct_12 : decode cX4_faultOfAct 12 = .ok (.bipush (-6), 2) := by decide +kernel
theorem dX4_faultOfAct_14 : decode cX4_faultOfAct 14 = .ok (.ireturn, 1) := by decide +kernel
theorem dX4_faultOfAct_15 : decode cX4_faultOfAct 15 = .ok (.iload_n 2, 1) := by decide +kernel
theorem dX4_faultOfAct_16 : decode cX4_faultOfAct 16 = .ok (.invokestatic 32, 3) := by decide +kernel
theorem dX4_faultOfAct_19 : decode cX4_faultOfAct 19 = .ok (.ifCond .ne 5, 3) := by decide +kernel
theorem dX4_faultOfAct_22 : decode cX4_faultOfAct 22 = .ok (.iload_n 1, 1) := by decide +kernel
theorem dX4_faultOfAct_23 : decode cX4_faultOfAct 23 = .ok (.ireturn, 1) := by decide +kernel
theorem dX4_faultOfAct_24 : decode cX4_faultOfAct 24 = .ok (.aload_n 0, 1) := by decide +kernel
theorem dX4_faultOfAct_25 : decode cX4_faultOfAct 25 = .ok (.iload_n 1, 1) := by decide +kernel
theorem dX4_faultOfAct_26 : decode cX4_faultOfAct 26 = .ok (.iconst 1, 1) := by decide +kernel
theorem dX4_faultOfAct_27 : decode cX4_faultOfAct 27 = .ok (.iadd, 1) := by decide +kernel
theorem dX4_faultOfAct_28 : decode cX4_faultOfAct 28 = .ok (.invokevirtual 26, 3) := by decide +kernel
theorem dX4_faultOfAct_31 : decode cX4_faultOfAct 31 = .ok (.invokestatic 36, 3) := by decide +kernel
theorem dX4_faultOfAct_34 : decode cX4_faultOfAct 34 = .ok (.ifCond .ne 7, 3) := by decide +kernel
theorem dX4_faultOfAct_37 : decode cX4_faultOfAct 37 = .ok (.iload_n 1, 1) := by decide +kernel
theorem dX4_faultOfAct_38 : decode cX4_faultOfAct 38 = .ok (.iconst 1, 1) := by decide +kernel
theorem dX4_faultOfAct_39 : decode cX4_faultOfAct 39 = .ok (.iadd, 1) := by decide +kernel
theorem dX4_faultOfAct_40 : decode cX4_faultOfAct 40 = .ok (.ireturn, 1) := by decide +kernel
theorem dX4_faultOfAct_41 : decode cX4_faultOfAct 41 = .ok (.aload_n 0, 1) := by decide +kernel
theorem dX4_faultOfAct_42 : decode cX4_faultOfAct 42 = .ok (.iload_n 1, 1) := by decide +kernel
theorem dX4_faultOfAct_43 : decode cX4_faultOfAct 43 = .ok (.invokevirtual 23, 3) := by decide +kernel
theorem dX4_faultOfAct_46 : decode cX4_faultOfAct 46 = .ok (.iconst 2, 1) := by decide +kernel
theorem dX4_faultOfAct_47 : decode cX4_faultOfAct 47 = .ok (.if_icmp .ne 8, 3) := by decide +kernel
theorem dX4_faultOfAct_50 : decode cX4_faultOfAct 50 = .ok (.bipush (-6), 2) := by decide +kernel
theorem dX4_faultOfAct_52 : decode cX4_faultOfAct 52 = .ok (.goto 8, 3) := by decide +kernel
theorem dX4_faultOfAct_55 : decode cX4_faultOfAct 55 = .ok (.aload_n 0, 1) := by decide +kernel
theorem dX4_faultOfAct_56 : decode cX4_faultOfAct 56 = .ok (.iload_n 1, 1) := by decide +kernel
theorem dX4_faultOfAct_57 : decode cX4_faultOfAct 57 = .ok (.invokevirtual 39, 3) := by decide +kernel
theorem dX4_faultOfAct_60 : decode cX4_faultOfAct 60 = .ok (.ireturn, 1) := by decide +kernel
set_option maxRecDepth 20000 in
theorem ggX4_faultOfEnd_X4_signAt : GoodIn wsX4_faultOfEnd wsX4_signAt := goodIn_r _ [5, 6, 7, 15, 16] (by decide +kernel) (by decide +kernel)
set_option maxRecDepth 20000 in
theorem gX4_faultOfEnd_X4_signAt : GoodIn wsX4_faultOfEnd (wsV RX4 26 RX4 yX4_signAt wsX4_signAt) := goodIn_app (goodIn_of _ (by decide +kernel)) ggX4_faultOfEnd_X4_signAt
set_option maxRecDepth 20000 in
theorem ggX4_faultOfEnd_X4_kindAt : GoodIn wsX4_faultOfEnd wsX4_kindAt := goodIn_r _ [11, 1, 2, 3, 4, 5, 6, 7, 15, 16] (by decide +kernel) (by decide +kernel)
set_option maxRecDepth 20000 in
theorem gX4_faultOfEnd_X4_kindAt : GoodIn wsX4_faultOfEnd (wsV RX4 29 RX4 yX4_kindAt wsX4_kindAt) := goodIn_app (goodIn_of _ (by decide +kernel)) ggX4_faultOfEnd_X4_kindAt
set_option maxRecDepth 20000 in
theorem ggX4_faultOfEnd_X4_isLetter : GoodIn wsX4_faultOfEnd wsX4_isLetter := goodIn_r _ [14] (by decide +kernel) (by decide +kernel)
set_option maxRecDepth 20000 in
theorem gX4_faultOfEnd_X4_isLetter : GoodIn wsX4_faultOfEnd (va_wsS RX4 32 yX4_isLetter wsX4_isLetter) := goodIn_app (goodIn_of _ (by decide +kernel)) ggX4_faultOfEnd_X4_isLetter
theorem dX4_faultOfEnd_0 : decode cX4_faultOfEnd 0 = .ok (.aload_n 0, 1) := by decide +kernel
theorem dX4_faultOfEnd_1 : decode cX4_faultOfEnd 1 = .ok (.iload_n 1, 1) := by decide +kernel
theorem dX4_faultOfEnd_2 : decode cX4_faultOfEnd 2 = .ok (.iconst 2, 1) := by decide +kernel
theorem dX4_faultOfEnd_3 : decode cX4_faultOfEnd 3 = .ok (.iadd, 1) := by decide +kernel
theorem dX4_faultOfEnd_4 : decode cX4_faultOfEnd 4 = .ok (.invokevirtual 26, 3) := by decide +kernel
theorem dX4_faultOfEnd_7 : decode cX4_faultOfEnd 7 = .ok (.istore_n 2, 1) := by decide +kernel
theorem dX4_faultOfEnd_8 : decode cX4_faultOfEnd 8 = .ok (.aload_n 0, 1) := by decide +kernel
theorem dX4_faultOfEnd_9 : decode cX4_faultOfEnd 9 = .ok (.iload_n 1, 1) := by decide +kernel
theorem dX4_faultOfEnd_10 : decode cX4_faultOfEnd 10 = .ok (.invokevirtual 29, 3) := by decide +kernel
theorem dX4_faultOfEnd_13 : decode cX4_faultOfEnd 13 = .ok (.bipush 38, 2) := by decide +kernel
theorem dX4_faultOfEnd_15 : decode cX4_faultOfEnd 15 = .ok (.if_icmp .ne 10, 3) := by decide +kernel
theorem dX4_faultOfEnd_18 : decode cX4_faultOfEnd 18 = .ok (.iload_n 2, 1) := by decide +kernel
theorem dX4_faultOfEnd_19 : decode cX4_faultOfEnd 19 = .ok (.invokestatic 32, 3) := by decide +kernel
theorem dX4_faultOfEnd_22 : decode cX4_faultOfEnd 22 = .ok (.goto 20, 3) := by decide +kernel
theorem dX4_faultOfEnd_25 : decode cX4_faultOfEnd 25 = .ok (.iload_n 2, 1) := by decide +kernel
theorem dX4_faultOfEnd_26 : decode cX4_faultOfEnd 26 = .ok (.bipush 49, 2) := by decide +kernel
theorem dX4_faultOfEnd_28 : decode cX4_faultOfEnd 28 = .ok (.if_icmp .lt 13, 3) := by decide +kernel
theorem dX4_faultOfEnd_31 : decode cX4_faultOfEnd 31 = .ok (.iload_n 2, 1) := by decide +kernel
theorem dX4_faultOfEnd_32 : decode cX4_faultOfEnd 32 = .ok (.bipush 57, 2) := by decide +kernel
theorem dX4_faultOfEnd_34 : decode cX4_faultOfEnd 34 = .ok (.if_icmp .gt 7, 3) := by decide +kernel
theorem dX4_faultOfEnd_37 : decode cX4_faultOfEnd 37 = .ok (.iconst 1, 1) := by decide +kernel
theorem dX4_faultOfEnd_38 : decode cX4_faultOfEnd 38 = .ok (.goto 4, 3) := by decide +kernel
theorem dX4_faultOfEnd_41 : decode cX4_faultOfEnd 41 = .ok (.iconst 0, 1) := by decide +kernel
theorem dX4_faultOfEnd_42 : decode cX4_faultOfEnd 42 = .ok (.istore_n 3, 1) := by decide +kernel
theorem dX4_faultOfEnd_43 : decode cX4_faultOfEnd 43 = .ok (.iload_n 3, 1) := by decide +kernel
theorem dX4_faultOfEnd_44 : decode cX4_faultOfEnd 44 = .ok (.ifCond .eq 8, 3) := by decide +kernel
theorem dX4_faultOfEnd_47 : decode cX4_faultOfEnd 47 = .ok (.bipush (-6), 2) := by decide +kernel
theorem dX4_faultOfEnd_49 : decode cX4_faultOfEnd 49 = .ok (.goto 6, 3) := by decide +kernel
theorem dX4_faultOfEnd_52 : decode cX4_faultOfEnd 52 = .ok (.iload_n 1, 1) := by decide +kernel
theorem dX4_faultOfEnd_53 : decode cX4_faultOfEnd 53 = .ok (.iconst 2, 1) := by decide +kernel
theorem dX4_faultOfEnd_54 : decode cX4_faultOfEnd 54 = .ok (.iadd, 1) := by decide +kernel
theorem dX4_faultOfEnd_55 : decode cX4_faultOfEnd 55 = .ok (.ireturn, 1) := by decide +kernel
theorem dX4_isLetter_0 : decode cX4_isLetter 0 = .ok (.iload_n 0, 1) := by decide +kernel
theorem dX4_isLetter_1 : decode cX4_isLetter 1 = .ok (.bipush 65, 2) := by decide +kernel
theorem dX4_isLetter_3 : decode cX4_isLetter 3 = .ok (.if_icmp .lt 13, 3) := by decide +kernel
theorem dX4_isLetter_6 : decode cX4_isLetter 6 = .ok (.iload_n 0, 1) := by decide +kernel
theorem dX4_isLetter_7 : decode cX4_isLetter 7 = .ok (.bipush 73, 2) := by decide +kernel
theorem dX4_isLetter_9 : decode cX4_isLetter 9 = .ok (.if_icmp .gt 7, 3) := by decide +kernel
theorem dX4_isLetter_12 : decode cX4_isLetter 12 = .ok (.iconst 1, 1) := by decide +kernel
theorem dX4_isLetter_13 : decode cX4_isLetter 13 = .ok (.goto 4, 3) := by decide +kernel
theorem dX4_isLetter_16 : decode cX4_isLetter 16 = .ok (.iconst 0, 1) := by decide +kernel
theorem dX4_isLetter_17 : decode cX4_isLetter 17 = .ok (.ireturn, 1) := by decide +kernel
theorem dX4_isKind_0 : decode cX4_isKind 0 = .ok (.iload_n 0, 1) := by decide +kernel
theorem dX4_isKind_1 : decode cX4_isKind 1 = .ok (.bipush 43, 2) := by decide +kernel
theorem dX4_isKind_3 : decode cX4_isKind 3 = .ok (.if_icmp .eq 33, 3) := by decide +kernel
theorem dX4_isKind_6 : decode cX4_isKind 6 = .ok (.iload_n 0, 1) := by decide +kernel
theorem dX4_isKind_7 : decode cX4_isKind 7 = .ok (.bipush 45, 2) := by decide +kernel
theorem dX4_isKind_9 : decode cX4_isKind 9 = .ok (.if_icmp .eq 27, 3) := by decide +kernel
theorem dX4_isKind_12 : decode cX4_isKind 12 = .ok (.iload_n 0, 1) := by decide +kernel
theorem dX4_isKind_13 : decode cX4_isKind 13 = .ok (.bipush 38, 2) := by decide +kernel
theorem dX4_isKind_15 : decode cX4_isKind 15 = .ok (.if_icmp .eq 21, 3) := by decide +kernel
theorem dX4_isKind_18 : decode cX4_isKind 18 = .ok (.iload_n 0, 1) := by decide +kernel
theorem dX4_isKind_19 : decode cX4_isKind 19 = .ok (.bipush 47, 2) := by decide +kernel
theorem dX4_isKind_21 : decode cX4_isKind 21 = .ok (.if_icmp .eq 15, 3) := by decide +kernel
theorem dX4_isKind_24 : decode cX4_isKind 24 = .ok (.iload_n 0, 1) := by decide +kernel
theorem dX4_isKind_25 : decode cX4_isKind 25 = .ok (.bipush 58, 2) := by decide +kernel
theorem dX4_isKind_27 : decode cX4_isKind 27 = .ok (.if_icmp .eq 9, 3) := by decide +kernel
theorem dX4_isKind_30 : decode cX4_isKind 30 = .ok (.iload_n 0, 1) := by decide +kernel
theorem dX4_isKind_31 : decode cX4_isKind 31 = .ok (.bipush 63, 2) := by decide +kernel
theorem dX4_isKind_33 : decode cX4_isKind 33 = .ok (.if_icmp .ne 7, 3) := by decide +kernel
theorem dX4_isKind_36 : decode cX4_isKind 36 = .ok (.iconst 1, 1) := by decide +kernel
theorem dX4_isKind_37 : decode cX4_isKind 37 = .ok (.goto 4, 3) := by decide +kernel
theorem dX4_isKind_40 : decode cX4_isKind 40 = .ok (.iconst 0, 1) := by decide +kernel
theorem dX4_isKind_41 : decode cX4_isKind 41 = .ok (.ireturn, 1) := by decide +kernel
theorem dX5_leftOver_0 : decode cX5_leftOver 0 = .ok (.iload_n 0, 1) := by decide +kernel
theorem dX5_leftOver_1 : decode cX5_leftOver 1 = .ok (.sipush 180, 3) := by decide +kernel
theorem dX5_leftOver_4 : decode cX5_leftOver 4 = .ok (.irem, 1) := by decide +kernel
theorem dX5_leftOver_5 : decode cX5_leftOver 5 = .ok (.istore_n 1, 1) := by decide +kernel
theorem dX5_leftOver_6 : decode cX5_leftOver 6 = .ok (.iload_n 1, 1) := by decide +kernel
theorem dX5_leftOver_7 : decode cX5_leftOver 7 = .ok (.ifCond .ge 11, 3) := by decide +kernel
theorem dX5_leftOver_10 : decode cX5_leftOver 10 = .ok (.iload_n 1, 1) := by decide +kernel
theorem dX5_leftOver_11 : decode cX5_leftOver 11 = .ok (.sipush 180, 3) := by decide +kernel
theorem dX5_leftOver_14 : decode cX5_leftOver 14 = .ok (.iadd, 1) := by decide +kernel
theorem dX5_leftOver_15 : decode cX5_leftOver 15 = .ok (.goto 4, 3) := by decide +kernel
theorem dX5_leftOver_18 : decode cX5_leftOver 18 = .ok (.iload_n 1, 1) := by decide +kernel
theorem dX5_leftOver_19 : decode cX5_leftOver 19 = .ok (.ireturn, 1) := by decide +kernel
set_option maxRecDepth 20000 in
theorem ggX5_between_X5_leftOver : GoodIn wsX5_between wsX5_leftOver := goodIn_r _ [8] (by decide +kernel) (by decide +kernel)
set_option maxRecDepth 20000 in
theorem gX5_between_X5_leftOver : GoodIn wsX5_between (va_wsS RX5 9 yX5_leftOver wsX5_leftOver) := goodIn_app (goodIn_of _ (by decide +kernel)) ggX5_between_X5_leftOver
theorem dX5_between_0 : decode cX5_between 0 = .ok (.iload_n 0, 1) := by decide +kernel
theorem dX5_between_1 : decode cX5_between 1 = .ok (.iload_n 1, 1) := by decide +kernel
theorem dX5_between_2 : decode cX5_between 2 = .ok (.isub, 1) := by decide +kernel
theorem dX5_between_3 : decode cX5_between 3 = .ok (.invokestatic 9, 3) := by decide +kernel
theorem dX5_between_6 : decode cX5_between 6 = .ok (.istore_n 2, 1) := by decide +kernel
theorem dX5_between_7 : decode cX5_between 7 = .ok (.iload_n 2, 1) := by decide +kernel
theorem dX5_between_8 : decode cX5_between 8 = .ok (.sipush 180, 3) := by decide +kernel
theorem dX5_between_11 : decode cX5_between 11 = .ok (.iload_n 2, 1) := by decide +kernel
theorem dX5_between_12 : decode cX5_between 12 = .ok (.isub, 1) := by decide +kernel
theorem dX5_between_13 : decode cX5_between 13 = .ok (.invokestatic 15, 3) := by decide +kernel
theorem dX5_between_16 : decode cX5_between 16 = .ok (.ireturn, 1) := by decide +kernel
theorem dX6_init_0 : decode cX6_init 0 = .ok (.aload_n 0, 1) := by decide +kernel
theorem dX6_init_1 : decode cX6_init 1 = .ok (.invokespecial 3, 3) := by decide +kernel
theorem dX6_init_4 : decode cX6_init 4 = .ok (.aload_n 0, 1) := by decide +kernel
theorem dX6_init_5 : decode cX6_init 5 = .ok (.sipush 180, 3) := by decide +kernel
theorem dX6_init_8 : decode cX6_init 8 = .ok (.newarray .boolean, 2) := by decide +kernel
theorem dX6_init_10 : decode cX6_init 10 = .ok (.putfield 9, 3) := by decide +kernel
theorem dX6_init_13 : decode cX6_init 13 = .ok (.return_, 1) := by decide +kernel
set_option maxRecDepth 20000 in
theorem ggX6_firstOf_X6_winningTake : GoodIn wsX6_firstOf wsX6_winningTake := goodIn_r _ [6, 7, 8, 9, 10, 11, 12, 13, 5, 14, 1, 15] (by decide +kernel) (by decide +kernel)
set_option maxRecDepth 20000 in
theorem gX6_firstOf_X6_winningTake : GoodIn wsX6_firstOf (wsV RX6 15 RX6 yX6_winningTake wsX6_winningTake) := goodIn_app (goodIn_of _ (by decide +kernel)) ggX6_firstOf_X6_winningTake
theorem dX6_firstOf_0 : decode cX6_firstOf 0 = .ok (.iconst 1, 1) := by decide +kernel
theorem dX6_firstOf_1 : decode cX6_firstOf 1 = .ok (.istore_n 2, 1) := by decide +kernel
theorem dX6_firstOf_2 : decode cX6_firstOf 2 = .ok (.iload_n 2, 1) := by decide +kernel
theorem dX6_firstOf_3 : decode cX6_firstOf 3 = .ok (.iload_n 1, 1) := by decide +kernel
theorem dX6_firstOf_4 : decode cX6_firstOf 4 = .ok (.if_icmp .ge 37, 3) := by decide +kernel
theorem dX6_firstOf_7 : decode cX6_firstOf 7 = .ok (.iload_n 2, 1) := by decide +kernel
theorem dX6_firstOf_8 : decode cX6_firstOf 8 = .ok (.sipush 180, 3) := by decide +kernel
theorem dX6_firstOf_11 : decode cX6_firstOf 11 = .ok (.if_icmp .ge 30, 3) := by decide +kernel
theorem dX6_firstOf_14 : decode cX6_firstOf 14 = .ok (.aload_n 0, 1) := by decide +kernel
theorem dX6_firstOf_15 : decode cX6_firstOf 15 = .ok (.getfield 9, 3) := by decide +kernel
theorem dX6_firstOf_18 : decode cX6_firstOf 18 = .ok (.iload_n 2, 1) := by decide +kernel
theorem dX6_firstOf_19 : decode cX6_firstOf 19 = .ok (.aload_n 0, 1) := by decide +kernel
theorem dX6_firstOf_20 : decode cX6_firstOf 20 = .ok (.iload_n 2, 1) := by decide +kernel
theorem dX6_firstOf_21 : decode cX6_firstOf 21 = .ok (.invokevirtual 15, 3) := by decide +kernel
theorem dX6_firstOf_24 : decode cX6_firstOf 24 = .ok (.bipush (-6), 2) := by decide +kernel
theorem dX6_firstOf_26 : decode cX6_firstOf 26 = .ok (.if_icmp .eq 7, 3) := by decide +kernel
theorem dX6_firstOf_29 : decode cX6_firstOf 29 = .ok (.iconst 1, 1) := by decide +kernel
theorem dX6_firstOf_30 : decode cX6_firstOf 30 = .ok (.goto 4, 3) := by decide +kernel
theorem dX6_firstOf_33 : decode cX6_firstOf 33 = .ok (.iconst 0, 1) := by decide +kernel
theorem dX6_firstOf_34 : decode cX6_firstOf 34 = .ok (.bastore, 1) := by decide +kernel
theorem dX6_firstOf_35 : decode cX6_firstOf 35 = .ok (.iinc 2 1, 3) := by decide +kernel
theorem dX6_firstOf_38 : decode cX6_firstOf 38 = .ok (.goto (-36), 3) := by decide +kernel
theorem dX6_firstOf_41 : decode cX6_firstOf 41 = .ok (.aload_n 0, 1) := by decide +kernel
theorem dX6_firstOf_42 : decode cX6_firstOf 42 = .ok (.iload_n 1, 1) := by decide +kernel
theorem dX6_firstOf_43 : decode cX6_firstOf 43 = .ok (.invokevirtual 15, 3) := by decide +kernel
theorem dX6_firstOf_46 : decode cX6_firstOf 46 = .ok (.ireturn, 1) := by decide +kernel
set_option maxRecDepth 20000 in
theorem ggX6_winningTake_X6_isLost : GoodIn wsX6_winningTake wsX6_isLost := goodIn_r _ [9, 10, 11] (by decide +kernel) (by decide +kernel)
set_option maxRecDepth 20000 in
theorem gX6_winningTake_X6_isLost : GoodIn wsX6_winningTake (wsV RX6 19 RX6 yX6_isLost wsX6_isLost) := goodIn_app (goodIn_of _ (by decide +kernel)) ggX6_winningTake_X6_isLost
theorem dX6_winningTake_0 : decode cX6_winningTake 0 = .ok (.iload_n 1, 1) := by decide +kernel
theorem dX6_winningTake_1 : decode cX6_winningTake 1 = .ok (.ifCond .gt 6, 3) := by decide +kernel
theorem dX6_winningTake_4 : decode cX6_winningTake 4 = .ok (.bipush (-6), 2) := by decide +kernel
theorem dX6_winningTake_6 : decode cX6_winningTake 6 = .ok (.ireturn, 1) := by decide +kernel
theorem dX6_winningTake_7 : decode cX6_winningTake 7 = .ok (.aload_n 0, 1) := by decide +kernel
theorem dX6_winningTake_8 : decode cX6_winningTake 8 = .ok (.iload_n 1, 1) := by decide +kernel
theorem dX6_winningTake_9 : decode cX6_winningTake 9 = .ok (.iconst 1, 1) := by decide +kernel
theorem dX6_winningTake_10 : decode cX6_winningTake 10 = .ok (.isub, 1) := by decide +kernel
theorem dX6_winningTake_11 : decode cX6_winningTake 11 = .ok (.invokevirtual 19, 3) := by decide +kernel
theorem dX6_winningTake_14 : decode cX6_winningTake 14 = .ok (.ifCond .eq 5, 3) := by decide +kernel
theorem dX6_winningTake_17 : decode cX6_winningTake 17 = .ok (.iconst 1, 1) := by decide +kernel
theorem dX6_winningTake_18 : decode cX6_winningTake 18 = .ok (.ireturn, 1) := by decide +kernel
theorem dX6_winningTake_19 : decode cX6_winningTake 19 = .ok (.iconst 1, 1) := by decide +kernel
theorem dX6_winningTake_20 : decode cX6_winningTake 20 = .ok (.iload_n 1, 1) := by decide +kernel
theorem dX6_winningTake_21 : decode cX6_winningTake 21 = .ok (.iconst 3, 1) := by decide +kernel
theorem dX6_winningTake_22 : decode cX6_winningTake 22 = .ok (.idiv, 1) := by decide +kernel
theorem dX6_winningTake_23 : decode cX6_winningTake 23 = .ok (.invokestatic 23, 3) := by decide +kernel
theorem dX6_winningTake_26 : decode cX6_winningTake 26 = .ok (.istore_n 2, 1) := by decide +kernel
theorem dX6_winningTake_27 : decode cX6_winningTake 27 = .ok (.aload_n 0, 1) := by decide +kernel
theorem dX6_winningTake_28 : decode cX6_winningTake 28 = .ok (.iload_n 1, 1) := by decide +kernel
theorem dX6_winningTake_29 : decode cX6_winningTake 29 = .ok (.iload_n 2, 1) := by decide +kernel
theorem dX6_winningTake_30 : decode cX6_winningTake 30 = .ok (.isub, 1) := by decide +kernel
theorem dX6_winningTake_31 : decode cX6_winningTake 31 = .ok (.invokevirtual 19, 3) := by decide +kernel
theorem dX6_winningTake_34 : decode cX6_winningTake 34 = .ok (.ifCond .eq 5, 3) := by decide +kernel
theorem dX6_winningTake_37 : decode cX6_winningTake 37 = .ok (.iload_n 2, 1) := by decide +kernel
theorem dX6_winningTake_38 : decode cX6_winningTake 38 = .ok (.ireturn, 1) := by decide +kernel
theorem dX6_winningTake_39 : decode cX6_winningTake 39 = .ok (.iconst 1, 1) := by decide +kernel
theorem dX6_winningTake_40 : decode cX6_winningTake 40 = .ok (.iload_n 1, 1) := by decide +kernel
theorem dX6_winningTake_41 : decode cX6_winningTake 41 = .ok (.iconst 2, 1) := by decide +kernel
theorem dX6_winningTake_42 : decode cX6_winningTake 42 = .ok (.idiv, 1) := by decide +kernel
theorem dX6_winningTake_43 : decode cX6_winningTake 43 = .ok (.invokestatic 23, 3) := by decide +kernel
theorem dX6_winningTake_46 : decode cX6_winningTake 46 = .ok (.istore_n 3, 1) := by decide +kernel
theorem dX6_winningTake_47 : decode cX6_winningTake 47 = .ok (.aload_n 0, 1) := by decide +kernel
theorem dX6_winningTake_48 : decode cX6_winningTake 48 = .ok (.iload_n 1, 1) := by decide +kernel
theorem dX6_winningTake_49 : decode cX6_winningTake 49 = .ok (.iload_n 3, 1) := by decide +kernel
theorem dX6_winningTake_50 : decode cX6_winningTake 50 = .ok (.isub, 1) := by decide +kernel
theorem dX6_winningTake_51 : decode cX6_winningTake 51 = .ok (.invokevirtual 19, 3) := by decide +kernel
theorem dX6_winningTake_54 : decode cX6_winningTake 54 = .ok (.ifCond .eq 7, 3) := by decide +kernel
theorem dX6_winningTake_57 : decode cX6_winningTake 57 = .ok (.iload_n 3, 1) := by decide +kernel
theorem dX6_winningTake_58 : decode cX6_winningTake 58 = .ok (.goto 5, 3) := by decide +kernel
theorem dX6_winningTake_61 : decode cX6_winningTake 61 = .ok (.bipush (-6), 2) := by decide +kernel
theorem dX6_winningTake_63 : decode cX6_winningTake 63 = .ok (.ireturn, 1) := by decide +kernel
theorem dX6_isLost_0 : decode cX6_isLost 0 = .ok (.iload_n 1, 1) := by decide +kernel
theorem dX6_isLost_1 : decode cX6_isLost 1 = .ok (.ifCond .lt 23, 3) := by decide +kernel
theorem dX6_isLost_4 : decode cX6_isLost 4 = .ok (.iload_n 1, 1) := by decide +kernel
theorem dX6_isLost_5 : decode cX6_isLost 5 = .ok (.sipush 180, 3) := by decide +kernel
theorem dX6_isLost_8 : decode cX6_isLost 8 = .ok (.if_icmp .ge 16, 3) := by decide +kernel
theorem dX6_isLost_11 : decode cX6_isLost 11 = .ok (.aload_n 0, 1) := by decide +kernel
theorem dX6_isLost_12 : decode cX6_isLost 12 = .ok (.getfield 9, 3) := by decide +kernel
theorem dX6_isLost_15 : decode cX6_isLost 15 = .ok (.iload_n 1, 1) := by decide +kernel
theorem dX6_isLost_16 : decode cX6_isLost 16 = .ok (.baload, 1) := by decide +kernel
theorem dX6_isLost_17 : decode cX6_isLost 17 = .ok (.ifCond .ne 7, 3) := by decide +kernel
theorem dX6_isLost_20 : decode cX6_isLost 20 = .ok (.iconst 1, 1) := by decide +kernel
theorem dX6_isLost_21 : decode cX6_isLost 21 = .ok (.goto 4, 3) := by decide +kernel
theorem dX6_isLost_24 : decode cX6_isLost 24 = .ok (.iconst 0, 1) := by decide +kernel
theorem dX6_isLost_25 : decode cX6_isLost 25 = .ok (.ireturn, 1) := by decide +kernel
theorem dX7_init_0 : decode cX7_init 0 = .ok (.aload_n 0, 1) := by decide +kernel
theorem dX7_init_1 : decode cX7_init 1 = .ok (.invokespecial 3, 3) := by decide +kernel
theorem dX7_init_4 : decode cX7_init 4 = .ok (.aload_n 0, 1) := by decide +kernel
theorem dX7_init_5 : decode cX7_init 5 = .ok (.sipush 180, 3) := by decide +kernel
theorem dX7_init_8 : decode cX7_init 8 = .ok (.newarray .int, 2) := by decide +kernel
theorem dX7_init_10 : decode cX7_init 10 = .ok (.putfield 9, 3) := by decide +kernel
theorem dX7_init_13 : decode cX7_init 13 = .ok (.aload_n 0, 1) := by decide +kernel
theorem dX7_init_14 : decode cX7_init 14 = .ok (.sipush 180, 3) := by decide +kernel
theorem dX7_init_17 : decode cX7_init 17 = .ok (.newarray .int, 2) := by decide +kernel
theorem dX7_init_19 : decode cX7_init 19 = .ok (.putfield 15, 3) := by decide +kernel
theorem dX7_init_22 : decode cX7_init 22 = .ok (.aload_n 0, 1) := by decide +kernel
theorem dX7_init_23 : decode cX7_init 23 = .ok (.bipush 6, 2) := by decide +kernel
theorem dX7_init_25 : decode cX7_init 25 = .ok (.newarray .int, 2) := by decide +kernel
theorem dX7_init_27 : decode cX7_init 27 = .ok (.putfield 18, 3) := by decide +kernel
theorem dX7_init_30 : decode cX7_init 30 = .ok (.return_, 1) := by decide +kernel
set_option maxRecDepth 20000 in
theorem ggX7_measureTo_X7_tellTurns : GoodIn wsX7_measureTo wsX7_tellTurns := goodIn_r _ [8, 3, 17, 18, 19] (by decide +kernel) (by decide +kernel)
set_option maxRecDepth 20000 in
theorem gX7_measureTo_X7_tellTurns : GoodIn wsX7_measureTo (wsV RX7 21 RX7 yX7_tellTurns wsX7_tellTurns) := goodIn_app (goodIn_of _ (by decide +kernel)) ggX7_measureTo_X7_tellTurns
set_option maxRecDepth 20000 in
theorem ggX7_measureTo_X5_leftOver : GoodIn wsX7_measureTo wsX5_leftOver := goodIn_r _ [12] (by decide +kernel) (by decide +kernel)
set_option maxRecDepth 20000 in
theorem gX7_measureTo_X5_leftOver : GoodIn wsX7_measureTo (va_wsS RX7 25 yX5_leftOver wsX5_leftOver) := goodIn_app (goodIn_of _ (by decide +kernel)) ggX7_measureTo_X5_leftOver
set_option maxRecDepth 20000 in
theorem ggX7_measureTo_X7_fewestFrom : GoodIn wsX7_measureTo wsX7_fewestFrom := goodIn_r _ [16, 1, 9, 10, 11, 12, 17, 18, 19] (by decide +kernel) (by decide +kernel)
set_option maxRecDepth 20000 in
theorem gX7_measureTo_X7_fewestFrom : GoodIn wsX7_measureTo (wsV RX7 31 RX7 yX7_fewestFrom wsX7_fewestFrom) := goodIn_app (goodIn_of _ (by decide +kernel)) ggX7_measureTo_X7_fewestFrom
theorem dX7_measureTo_0 : decode cX7_measureTo 0 = .ok (.aload_n 0, 1) := by decide +kernel
theorem dX7_measureTo_1 : decode cX7_measureTo 1 = .ok (.iload_n 2, 1) := by decide +kernel
theorem dX7_measureTo_2 : decode cX7_measureTo 2 = .ok (.iload_n 3, 1) := by decide +kernel
theorem dX7_measureTo_3 : decode cX7_measureTo 3 = .ok (.iload 4, 2) := by decide +kernel
theorem dX7_measureTo_5 : decode cX7_measureTo 5 = .ok (.invokevirtual 21, 3) := by decide +kernel
theorem dX7_measureTo_8 : decode cX7_measureTo 8 = .ok (.iconst 0, 1) := by decide +kernel
theorem dX7_measureTo_9 : decode cX7_measureTo 9 = .ok (.istore 5, 2) := by decide +kernel
theorem dX7_measureTo_11 : decode cX7_measureTo 11 = .ok (.iload 5, 2) := by decide +kernel
theorem dX7_measureTo_13 : decode cX7_measureTo 13 = .ok (.sipush 180, 3) := by decide +kernel
theorem dX7_measureTo_16 : decode cX7_measureTo 16 = .ok (.if_icmp .ge 18, 3) := by decide +kernel
theorem dX7_measureTo_19 : decode cX7_measureTo 19 = .ok (.aload_n 0, 1) := by decide +kernel
theorem dX7_measureTo_20 : decode cX7_measureTo 20 = .ok (.getfield 9, 3) := by decide +kernel
theorem dX7_measureTo_23 : decode cX7_measureTo 23 = .ok (.iload 5, 2) := by decide +kernel
theorem dX7_measureTo_25 : decode cX7_measureTo 25 = .ok (.bipush (-6), 2) := by decide +kernel
theorem dX7_measureTo_27 : decode cX7_measureTo 27 = .ok (.iastore, 1) := by decide +kernel
theorem dX7_measureTo_28 : decode cX7_measureTo 28 = .ok (.iinc 5 1, 3) := by decide +kernel
theorem dX7_measureTo_31 : decode cX7_measureTo 31 = .ok (.goto (-20), 3) := by decide +kernel
theorem dX7_measureTo_34 : decode cX7_measureTo 34 = .ok (.aload_n 0, 1) := by decide +kernel
theorem dX7_measureTo_35 : decode cX7_measureTo 35 = .ok (.getfield 9, 3) := by decide +kernel
theorem dX7_measureTo_38 : decode cX7_measureTo 38 = .ok (.iload_n 1, 1) := by decide +kernel
theorem dX7_measureTo_39 : decode cX7_measureTo 39 = .ok (.invokestatic 25, 3) := by decide +kernel
theorem dX7_measureTo_42 : decode cX7_measureTo 42 = .ok (.iconst 0, 1) := by decide +kernel
theorem dX7_measureTo_43 : decode cX7_measureTo 43 = .ok (.iastore, 1) := by decide +kernel
theorem dX7_measureTo_44 : decode cX7_measureTo 44 = .ok (.aload_n 0, 1) := by decide +kernel
theorem dX7_measureTo_45 : decode cX7_measureTo 45 = .ok (.getfield 15, 3) := by decide +kernel
theorem dX7_measureTo_48 : decode cX7_measureTo 48 = .ok (.iconst 0, 1) := by decide +kernel
theorem dX7_measureTo_49 : decode cX7_measureTo 49 = .ok (.iload_n 1, 1) := by decide +kernel
theorem dX7_measureTo_50 : decode cX7_measureTo 50 = .ok (.iastore, 1) := by decide +kernel
theorem dX7_measureTo_51 : decode cX7_measureTo 51 = .ok (.iconst 1, 1) := by decide +kernel
theorem dX7_measureTo_52 : decode cX7_measureTo 52 = .ok (.istore 5, 2) := by decide +kernel
theorem dX7_measureTo_54 : decode cX7_measureTo 54 = .ok (.iconst 0, 1) := by decide +kernel
theorem dX7_measureTo_55 : decode cX7_measureTo 55 = .ok (.istore 6, 2) := by decide +kernel
theorem dX7_measureTo_57 : decode cX7_measureTo 57 = .ok (.iload 6, 2) := by decide +kernel
theorem dX7_measureTo_59 : decode cX7_measureTo 59 = .ok (.iload 5, 2) := by decide +kernel
theorem dX7_measureTo_61 : decode cX7_measureTo 61 = .ok (.if_icmp .ge 104, 3) := by decide +kernel
theorem dX7_measureTo_64 : decode cX7_measureTo 64 = .ok (.iload 6, 2) := by decide +kernel
theorem dX7_measureTo_66 : decode cX7_measureTo 66 = .ok (.sipush 180, 3) := by decide +kernel
theorem dX7_measureTo_69 : decode cX7_measureTo 69 = .ok (.if_icmp .ge 96, 3) := by decide +kernel
theorem dX7_measureTo_72 : decode cX7_measureTo 72 = .ok (.aload_n 0, 1) := by decide +kernel
theorem dX7_measureTo_73 : decode cX7_measureTo 73 = .ok (.getfield 15, 3) := by decide +kernel
theorem dX7_measureTo_76 : decode cX7_measureTo 76 = .ok (.iload 6, 2) := by decide +kernel
theorem dX7_measureTo_78 : decode cX7_measureTo 78 = .ok (.iaload, 1) := by decide +kernel
theorem dX7_measureTo_79 : decode cX7_measureTo 79 = .ok (.istore 7, 2) := by decide +kernel
theorem dX7_measureTo_81 : decode cX7_measureTo 81 = .ok (.iconst 0, 1) := by decide +kernel
theorem dX7_measureTo_82 : decode cX7_measureTo 82 = .ok (.istore 8, 2) := by decide +kernel
theorem dX7_measureTo_84 : decode cX7_measureTo 84 = .ok (.iload 8, 2) := by decide +kernel
theorem dX7_measureTo_86 : decode cX7_measureTo 86 = .ok (.bipush 6, 2) := by decide +kernel
theorem dX7_measureTo_88 : decode cX7_measureTo 88 = .ok (.if_icmp .ge 71, 3) := by decide +kernel
theorem dX7_measureTo_91 : decode cX7_measureTo 91 = .ok (.iload 7, 2) := by decide +kernel
theorem dX7_measureTo_93 : decode cX7_measureTo 93 = .ok (.aload_n 0, 1) := by decide +kernel
theorem dX7_measureTo_94 : decode cX7_measureTo 94 = .ok (.getfield 18, 3) := by decide +kernel
theorem dX7_measureTo_97 : decode cX7_measureTo 97 = .ok (.iload 8, 2) := by decide +kernel
theorem dX7_measureTo_99 : decode cX7_measureTo 99 = .ok (.iaload, 1) := by decide +kernel
theorem dX7_measureTo_100 : decode cX7_measureTo 100 = .ok (.iadd, 1) := by decide +kernel
theorem dX7_measureTo_101 : decode cX7_measureTo 101 = .ok (.invokestatic 25, 3) := by decide +kernel
theorem dX7_measureTo_104 : decode cX7_measureTo 104 = .ok (.istore 9, 2) := by decide +kernel
theorem dX7_measureTo_106 : decode cX7_measureTo 106 = .ok (.aload_n 0, 1) := by decide +kernel
theorem dX7_measureTo_107 : decode cX7_measureTo 107 = .ok (.getfield 9, 3) := by decide +kernel
theorem dX7_measureTo_110 : decode cX7_measureTo 110 = .ok (.iload 9, 2) := by decide +kernel
theorem dX7_measureTo_112 : decode cX7_measureTo 112 = .ok (.iaload, 1) := by decide +kernel
theorem dX7_measureTo_113 : decode cX7_measureTo 113 = .ok (.bipush (-6), 2) := by decide +kernel
theorem dX7_measureTo_115 : decode cX7_measureTo 115 = .ok (.if_icmp .ne 38, 3) := by decide +kernel
theorem dX7_measureTo_118 : decode cX7_measureTo 118 = .ok (.iload 5, 2) := by decide +kernel
theorem dX7_measureTo_120 : decode cX7_measureTo 120 = .ok (.sipush 180, 3) := by decide +kernel
theorem dX7_measureTo_123 : decode cX7_measureTo 123 = .ok (.if_icmp .ge 30, 3) := by decide +kernel
theorem dX7_measureTo_126 : decode cX7_measureTo 126 = .ok (.aload_n 0, 1) := by decide +kernel
theorem dX7_measureTo_127 : decode cX7_measureTo 127 = .ok (.getfield 9, 3) := by decide +kernel
theorem dX7_measureTo_130 : decode cX7_measureTo 130 = .ok (.iload 9, 2) := by decide +kernel
theorem dX7_measureTo_132 : decode cX7_measureTo 132 = .ok (.aload_n 0, 1) := by decide +kernel
theorem dX7_measureTo_133 : decode cX7_measureTo 133 = .ok (.iload 7, 2) := by decide +kernel
theorem dX7_measureTo_135 : decode cX7_measureTo 135 = .ok (.invokevirtual 31, 3) := by decide +kernel
theorem dX7_measureTo_138 : decode cX7_measureTo 138 = .ok (.iconst 1, 1) := by decide +kernel
theorem dX7_measureTo_139 : decode cX7_measureTo 139 = .ok (.iadd, 1) := by decide +kernel
theorem dX7_measureTo_140 : decode cX7_measureTo 140 = .ok (.iastore, 1) := by decide +kernel
theorem dX7_measureTo_141 : decode cX7_measureTo 141 = .ok (.aload_n 0, 1) := by decide +kernel
theorem dX7_measureTo_142 : decode cX7_measureTo 142 = .ok (.getfield 15, 3) := by decide +kernel
theorem dX7_measureTo_145 : decode cX7_measureTo 145 = .ok (.iload 5, 2) := by decide +kernel
theorem dX7_measureTo_147 : decode cX7_measureTo 147 = .ok (.iload 9, 2) := by decide +kernel
theorem dX7_measureTo_149 : decode cX7_measureTo 149 = .ok (.iastore, 1) := by decide +kernel
theorem dX7_measureTo_150 : decode cX7_measureTo 150 = .ok (.iinc 5 1, 3) := by decide +kernel
theorem dX7_measureTo_153 : decode cX7_measureTo 153 = .ok (.iinc 8 1, 3) := by decide +kernel
theorem dX7_measureTo_156 : decode cX7_measureTo 156 = .ok (.goto (-72), 3) := by decide +kernel
theorem dX7_measureTo_159 : decode cX7_measureTo 159 = .ok (.iinc 6 1, 3) := by decide +kernel
theorem dX7_measureTo_162 : decode cX7_measureTo 162 = .ok (.goto (-105), 3) := by decide +kernel
theorem dX7_measureTo_165 : decode cX7_measureTo 165 = .ok (.return_, 1) := by decide +kernel
set_option maxRecDepth 20000 in
theorem ggX7_fewestFrom_X5_leftOver : GoodIn wsX7_fewestFrom wsX5_leftOver := goodIn_r _ [5] (by decide +kernel) (by decide +kernel)
set_option maxRecDepth 20000 in
theorem gX7_fewestFrom_X5_leftOver : GoodIn wsX7_fewestFrom (va_wsS RX7 25 yX5_leftOver wsX5_leftOver) := goodIn_app (goodIn_of _ (by decide +kernel)) ggX7_fewestFrom_X5_leftOver
theorem dX7_fewestFrom_0 : decode cX7_fewestFrom 0 = .ok (.aload_n 0, 1) := by decide +kernel
theorem dX7_fewestFrom_1 : decode cX7_fewestFrom 1 = .ok (.getfield 9, 3) := by decide +kernel
theorem dX7_fewestFrom_4 : decode cX7_fewestFrom 4 = .ok (.iload_n 1, 1) := by decide +kernel
theorem dX7_fewestFrom_5 : decode cX7_fewestFrom 5 = .ok (.invokestatic 25, 3) := by decide +kernel
theorem dX7_fewestFrom_8 : decode cX7_fewestFrom 8 = .ok (.iaload, 1) := by decide +kernel
theorem dX7_fewestFrom_9 : decode cX7_fewestFrom 9 = .ok (.ireturn, 1) := by decide +kernel
set_option maxRecDepth 20000 in
theorem ggX7_firstFrom_X7_fewestFrom : GoodIn wsX7_firstFrom wsX7_fewestFrom := goodIn_r _ [6, 7, 8, 9, 10, 11, 12, 13, 14] (by decide +kernel) (by decide +kernel)
set_option maxRecDepth 20000 in
theorem gX7_firstFrom_X7_fewestFrom : GoodIn wsX7_firstFrom (wsV RX7 31 RX7 yX7_fewestFrom wsX7_fewestFrom) := goodIn_app (goodIn_of _ (by decide +kernel)) ggX7_firstFrom_X7_fewestFrom
theorem dX7_firstFrom_0 : decode cX7_firstFrom 0 = .ok (.aload_n 0, 1) := by decide +kernel
theorem dX7_firstFrom_1 : decode cX7_firstFrom 1 = .ok (.iload_n 1, 1) := by decide +kernel
theorem dX7_firstFrom_2 : decode cX7_firstFrom 2 = .ok (.invokevirtual 31, 3) := by decide +kernel
theorem dX7_firstFrom_5 : decode cX7_firstFrom 5 = .ok (.istore_n 2, 1) := by decide +kernel
theorem dX7_firstFrom_6 : decode cX7_firstFrom 6 = .ok (.iload_n 2, 1) := by decide +kernel
theorem dX7_firstFrom_7 : decode cX7_firstFrom 7 = .ok (.bipush (-6), 2) := by decide +kernel
theorem dX7_firstFrom_9 : decode cX7_firstFrom 9 = .ok (.if_icmp .eq 7, 3) := by decide +kernel
theorem dX7_firstFrom_12 : decode cX7_firstFrom 12 = .ok (.iload_n 2, 1) := by decide +kernel
theorem dX7_firstFrom_13 : decode cX7_firstFrom 13 = .ok (.ifCond .ne 6, 3) := by decide +kernel
theorem dX7_firstFrom_16 : decode cX7_firstFrom 16 = .ok (.bipush (-6), 2) := by decide +kernel
theorem dX7_firstFrom_18 : decode cX7_firstFrom 18 = .ok (.ireturn, 1) := by decide +kernel
theorem dX7_firstFrom_19 : decode cX7_firstFrom 19 = .ok (.iconst 0, 1) := by decide +kernel
theorem dX7_firstFrom_20 : decode cX7_firstFrom 20 = .ok (.istore_n 3, 1) := by decide +kernel
theorem dX7_firstFrom_21 : decode cX7_firstFrom 21 = .ok (.iload_n 3, 1) := by decide +kernel
theorem dX7_firstFrom_22 : decode cX7_firstFrom 22 = .ok (.bipush 6, 2) := by decide +kernel
theorem dX7_firstFrom_24 : decode cX7_firstFrom 24 = .ok (.if_icmp .ge 29, 3) := by decide +kernel
theorem dX7_firstFrom_27 : decode cX7_firstFrom 27 = .ok (.aload_n 0, 1) := by decide +kernel
theorem dX7_firstFrom_28 : decode cX7_firstFrom 28 = .ok (.iload_n 1, 1) := by decide +kernel
theorem dX7_firstFrom_29 : decode cX7_firstFrom 29 = .ok (.aload_n 0, 1) := by decide +kernel
theorem dX7_firstFrom_30 : decode cX7_firstFrom 30 = .ok (.getfield 18, 3) := by decide +kernel
theorem dX7_firstFrom_33 : decode cX7_firstFrom 33 = .ok (.iload_n 3, 1) := by decide +kernel
theorem dX7_firstFrom_34 : decode cX7_firstFrom 34 = .ok (.iaload, 1) := by decide +kernel
theorem dX7_firstFrom_35 : decode cX7_firstFrom 35 = .ok (.iadd, 1) := by decide +kernel
theorem dX7_firstFrom_36 : decode cX7_firstFrom 36 = .ok (.invokevirtual 31, 3) := by decide +kernel
theorem dX7_firstFrom_39 : decode cX7_firstFrom 39 = .ok (.iload_n 2, 1) := by decide +kernel
theorem dX7_firstFrom_40 : decode cX7_firstFrom 40 = .ok (.iconst 1, 1) := by decide +kernel
theorem dX7_firstFrom_41 : decode cX7_firstFrom 41 = .ok (.isub, 1) := by decide +kernel
theorem dX7_firstFrom_42 : decode cX7_firstFrom 42 = .ok (.if_icmp .ne 5, 3) := by decide +kernel
theorem dX7_firstFrom_45 : decode cX7_firstFrom 45 = .ok (.iload_n 3, 1) := by decide +kernel
theorem dX7_firstFrom_46 : decode cX7_firstFrom 46 = .ok (.ireturn, 1) := by decide +kernel
theorem dX7_firstFrom_47 : decode cX7_firstFrom 47 = .ok (.iinc 3 1, 3) := by decide +kernel
theorem dX7_firstFrom_50 : decode cX7_firstFrom 50 = .ok (.goto (-29), 3) := by decide +kernel
theorem dX7_firstFrom_53 : decode cX7_firstFrom 53 = .ok (.bipush (-6), 2) := by decide +kernel
theorem dX7_firstFrom_55 : decode cX7_firstFrom 55 = .ok (.ireturn, 1) := by decide +kernel
theorem dX7_tellTurns_0 : decode cX7_tellTurns 0 = .ok (.aload_n 0, 1) := by decide +kernel
theorem dX7_tellTurns_1 : decode cX7_tellTurns 1 = .ok (.getfield 18, 3) := by decide +kernel
theorem dX7_tellTurns_4 : decode cX7_tellTurns 4 = .ok (.iconst 0, 1) := by decide +kernel
theorem dX7_tellTurns_5 : decode cX7_tellTurns 5 = .ok (.iload_n 1, 1) := by decide +kernel
theorem dX7_tellTurns_6 : decode cX7_tellTurns 6 = .ok (.iastore, 1) := by decide +kernel
theorem dX7_tellTurns_7 : decode cX7_tellTurns 7 = .ok (.aload_n 0, 1) := by decide +kernel
theorem dX7_tellTurns_8 : decode cX7_tellTurns 8 = .ok (.getfield 18, 3) := by decide +kernel
theorem dX7_tellTurns_11 : decode cX7_tellTurns 11 = .ok (.iconst 1, 1) := by decide +kernel
theorem dX7_tellTurns_12 : decode cX7_tellTurns 12 = .ok (.iload_n 2, 1) := by decide +kernel
theorem dX7_tellTurns_13 : decode cX7_tellTurns 13 = .ok (.iastore, 1) := by decide +kernel
theorem dX7_tellTurns_14 : decode cX7_tellTurns 14 = .ok (.aload_n 0, 1) := by decide +kernel
theorem dX7_tellTurns_15 : decode cX7_tellTurns 15 = .ok (.getfield 18, 3) := by decide +kernel
theorem dX7_tellTurns_18 : decode cX7_tellTurns 18 = .ok (.iconst 2, 1) := by decide +kernel
theorem dX7_tellTurns_19 : decode cX7_tellTurns 19 = .ok (.iload_n 3, 1) := by decide +kernel
theorem dX7_tellTurns_20 : decode cX7_tellTurns 20 = .ok (.iastore, 1) := by decide +kernel
theorem dX7_tellTurns_21 : decode cX7_tellTurns 21 = .ok (.aload_n 0, 1) := by decide +kernel
theorem dX7_tellTurns_22 : decode cX7_tellTurns 22 = .ok (.getfield 18, 3) := by decide +kernel
theorem dX7_tellTurns_25 : decode cX7_tellTurns 25 = .ok (.iconst 3, 1) := by decide +kernel
theorem dX7_tellTurns_26 : decode cX7_tellTurns 26 = .ok (.iload_n 1, 1) := by decide +kernel
theorem dX7_tellTurns_27 : decode cX7_tellTurns 27 = .ok (.ineg, 1) := by decide +kernel
theorem dX7_tellTurns_28 : decode cX7_tellTurns 28 = .ok (.iastore, 1) := by decide +kernel
theorem dX7_tellTurns_29 : decode cX7_tellTurns 29 = .ok (.aload_n 0, 1) := by decide +kernel
theorem dX7_tellTurns_30 : decode cX7_tellTurns 30 = .ok (.getfield 18, 3) := by decide +kernel
theorem dX7_tellTurns_33 : decode cX7_tellTurns 33 = .ok (.iconst 4, 1) := by decide +kernel
theorem dX7_tellTurns_34 : decode cX7_tellTurns 34 = .ok (.iload_n 2, 1) := by decide +kernel
theorem dX7_tellTurns_35 : decode cX7_tellTurns 35 = .ok (.ineg, 1) := by decide +kernel
theorem dX7_tellTurns_36 : decode cX7_tellTurns 36 = .ok (.iastore, 1) := by decide +kernel
theorem dX7_tellTurns_37 : decode cX7_tellTurns 37 = .ok (.aload_n 0, 1) := by decide +kernel
theorem dX7_tellTurns_38 : decode cX7_tellTurns 38 = .ok (.getfield 18, 3) := by decide +kernel
theorem dX7_tellTurns_41 : decode cX7_tellTurns 41 = .ok (.iconst 5, 1) := by decide +kernel
theorem dX7_tellTurns_42 : decode cX7_tellTurns 42 = .ok (.iload_n 3, 1) := by decide +kernel
theorem dX7_tellTurns_43 : decode cX7_tellTurns 43 = .ok (.ineg, 1) := by decide +kernel
theorem dX7_tellTurns_44 : decode cX7_tellTurns 44 = .ok (.iastore, 1) := by decide +kernel
theorem dX7_tellTurns_45 : decode cX7_tellTurns 45 = .ok (.return_, 1) := by decide +kernel
theorem dX8_init_0 : decode cX8_init 0 = .ok (.aload_n 0, 1) := by decide +kernel
theorem dX8_init_1 : decode cX8_init 1 = .ok (.invokespecial 3, 3) := by decide +kernel
theorem dX8_init_4 : decode cX8_init 4 = .ok (.aload_n 0, 1) := by decide +kernel
theorem dX8_init_5 : decode cX8_init 5 = .ok (.bipush 12, 2) := by decide +kernel
theorem dX8_init_7 : decode cX8_init 7 = .ok (.newarray .long, 2) := by decide +kernel
theorem dX8_init_9 : decode cX8_init 9 = .ok (.putfield 9, 3) := by decide +kernel
theorem dX8_init_12 : decode cX8_init 12 = .ok (.aload_n 0, 1) := by decide +kernel
theorem dX8_init_13 : decode cX8_init 13 = .ok (.bipush 12, 2) := by decide +kernel
theorem dX8_init_15 : decode cX8_init 15 = .ok (.newarray .long, 2) := by decide +kernel
theorem dX8_init_17 : decode cX8_init 17 = .ok (.putfield 15, 3) := by decide +kernel
theorem dX8_init_20 : decode cX8_init 20 = .ok (.return_, 1) := by decide +kernel
theorem dX8_start_0 : decode cX8_start 0 = .ok (.aload_n 0, 1) := by decide +kernel
theorem dX8_start_1 : decode cX8_start 1 = .ok (.iload_n 1, 1) := by decide +kernel
theorem dX8_start_2 : decode cX8_start 2 = .ok (.iconst 2, 1) := by decide +kernel
theorem dX8_start_3 : decode cX8_start 3 = .ok (.invokestatic 18, 3) := by decide +kernel
theorem dX8_start_6 : decode cX8_start 6 = .ok (.bipush 12, 2) := by decide +kernel
theorem dX8_start_8 : decode cX8_start 8 = .ok (.invokestatic 24, 3) := by decide +kernel
theorem dX8_start_11 : decode cX8_start 11 = .ok (.putfield 27, 3) := by decide +kernel
theorem dX8_start_14 : decode cX8_start 14 = .ok (.aload_n 0, 1) := by decide +kernel
theorem dX8_start_15 : decode cX8_start 15 = .ok (.lconst 1, 1) := by decide +kernel
theorem dX8_start_16 : decode cX8_start 16 = .ok (.putfield 31, 3) := by decide +kernel
theorem dX8_start_19 : decode cX8_start 19 = .ok (.iconst 0, 1) := by decide +kernel
theorem dX8_start_20 : decode cX8_start 20 = .ok (.istore_n 3, 1) := by decide +kernel
theorem dX8_start_21 : decode cX8_start 21 = .ok (.iload_n 3, 1) := by decide +kernel
theorem dX8_start_22 : decode cX8_start 22 = .ok (.aload_n 0, 1) := by decide +kernel
theorem dX8_start_23 : decode cX8_start 23 = .ok (.getfield 27, 3) := by decide +kernel
theorem dX8_start_26 : decode cX8_start 26 = .ok (.if_icmp .ge 25, 3) := by decide +kernel
theorem dX8_start_29 : decode cX8_start 29 = .ok (.aload_n 0, 1) := by decide +kernel
theorem dX8_start_30 : decode cX8_start 30 = .ok (.getfield 9, 3) := by decide +kernel
theorem dX8_start_33 : decode cX8_start 33 = .ok (.iload_n 3, 1) := by decide +kernel
theorem dX8_start_34 : decode cX8_start 34 = .ok (.iload_n 3, 1) := by decide +kernel
theorem dX8_start_35 : decode cX8_start 35 = .ok (.iload_n 2, 1) := by decide +kernel
theorem dX8_start_36 : decode cX8_start 36 = .ok (.if_icmp .ne 7, 3) := by decide +kernel
theorem dX8_start_39 : decode cX8_start 39 = .ok (.lconst 1, 1) := by decide +kernel
theorem dX8_start_40 : decode cX8_start 40 = .ok (.goto 4, 3) := by decide +kernel
theorem dX8_start_43 : decode cX8_start 43 = .ok (.lconst 0, 1) := by decide +kernel
theorem dX8_start_44 : decode cX8_start 44 = .ok (.lastore, 1) := by decide +kernel
theorem dX8_start_45 : decode cX8_start 45 = .ok (.iinc 3 1, 3) := by decide +kernel
theorem dX8_start_48 : decode cX8_start 48 = .ok (.goto (-27), 3) := by decide +kernel
theorem dX8_start_51 : decode cX8_start 51 = .ok (.return_, 1) := by decide +kernel
set_option maxRecDepth 20000 in
theorem ggX8_turn_X8_waysTo : GoodIn wsX8_turn wsX8_waysTo := goodIn_r _ [10, 1, 3, 11, 12, 13, 14] (by decide +kernel) (by decide +kernel)
set_option maxRecDepth 20000 in
theorem gX8_turn_X8_waysTo : GoodIn wsX8_turn (wsV RX8 35 RX8 yX8_waysTo wsX8_waysTo) := goodIn_app (goodIn_of _ (by decide +kernel)) ggX8_turn_X8_waysTo
theorem dX8_turn_0 : decode cX8_turn 0 = .ok (.iconst 0, 1) := by decide +kernel
theorem dX8_turn_1 : decode cX8_turn 1 = .ok (.istore_n 3, 1) := by decide +kernel
theorem dX8_turn_2 : decode cX8_turn 2 = .ok (.iload_n 3, 1) := by decide +kernel
theorem dX8_turn_3 : decode cX8_turn 3 = .ok (.aload_n 0, 1) := by decide +kernel
theorem dX8_turn_4 : decode cX8_turn 4 = .ok (.getfield 27, 3) := by decide +kernel
theorem dX8_turn_7 : decode cX8_turn 7 = .ok (.if_icmp .ge 56, 3) := by decide +kernel
theorem dX8_turn_10 : decode cX8_turn 10 = .ok (.iload_n 3, 1) := by decide +kernel
theorem dX8_turn_11 : decode cX8_turn 11 = .ok (.bipush 12, 2) := by decide +kernel
theorem dX8_turn_13 : decode cX8_turn 13 = .ok (.if_icmp .ge 50, 3) := by decide +kernel
theorem dX8_turn_16 : decode cX8_turn 16 = .ok (.aload_n 0, 1) := by decide +kernel
theorem dX8_turn_17 : decode cX8_turn 17 = .ok (.getfield 15, 3) := by decide +kernel
theorem dX8_turn_20 : decode cX8_turn 20 = .ok (.iload_n 3, 1) := by decide +kernel
theorem dX8_turn_21 : decode cX8_turn 21 = .ok (.aload_n 0, 1) := by decide +kernel
theorem dX8_turn_22 : decode cX8_turn 22 = .ok (.iload_n 3, 1) := by decide +kernel
theorem dX8_turn_23 : decode cX8_turn 23 = .ok (.invokevirtual 35, 3) := by decide +kernel
theorem dX8_turn_26 : decode cX8_turn 26 = .ok (.bipush 10, 2) := by decide +kernel
theorem dX8_turn_28 : decode cX8_turn 28 = .ok (.iload_n 1, 1) := by decide +kernel
theorem dX8_turn_29 : decode cX8_turn 29 = .ok (.isub, 1) := by decide +kernel
theorem dX8_turn_30 : decode cX8_turn 30 = .ok (.iload_n 2, 1) := by decide +kernel
theorem dX8_turn_31 : decode cX8_turn 31 = .ok (.isub, 1) := by decide +kernel
theorem dX8_turn_32 : decode cX8_turn 32 = .ok (.i2l, 1) := by decide +kernel
theorem dX8_turn_33 : decode cX8_turn 33 = .ok (.lmul, 1) := by decide +kernel
theorem dX8_turn_34 : decode cX8_turn 34 = .ok (.aload_n 0, 1) := by decide +kernel
theorem dX8_turn_35 : decode cX8_turn 35 = .ok (.iload_n 3, 1) := by decide +kernel
theorem dX8_turn_36 : decode cX8_turn 36 = .ok (.iconst 1, 1) := by decide +kernel
theorem dX8_turn_37 : decode cX8_turn 37 = .ok (.isub, 1) := by decide +kernel
theorem dX8_turn_38 : decode cX8_turn 38 = .ok (.invokevirtual 35, 3) := by decide +kernel
theorem dX8_turn_41 : decode cX8_turn 41 = .ok (.iload_n 1, 1) := by decide +kernel
theorem dX8_turn_42 : decode cX8_turn 42 = .ok (.i2l, 1) := by decide +kernel
theorem dX8_turn_43 : decode cX8_turn 43 = .ok (.lmul, 1) := by decide +kernel
theorem dX8_turn_44 : decode cX8_turn 44 = .ok (.ladd, 1) := by decide +kernel
theorem dX8_turn_45 : decode cX8_turn 45 = .ok (.aload_n 0, 1) := by decide +kernel
theorem dX8_turn_46 : decode cX8_turn 46 = .ok (.iload_n 3, 1) := by decide +kernel
theorem dX8_turn_47 : decode cX8_turn 47 = .ok (.iconst 1, 1) := by decide +kernel
theorem dX8_turn_48 : decode cX8_turn 48 = .ok (.iadd, 1) := by decide +kernel
theorem dX8_turn_49 : decode cX8_turn 49 = .ok (.invokevirtual 35, 3) := by decide +kernel
theorem dX8_turn_52 : decode cX8_turn 52 = .ok (.iload_n 2, 1) := by decide +kernel
theorem dX8_turn_53 : decode cX8_turn 53 = .ok (.i2l, 1) := by decide +kernel
theorem dX8_turn_54 : decode cX8_turn 54 = .ok (.lmul, 1) := by decide +kernel
theorem dX8_turn_55 : decode cX8_turn 55 = .ok (.ladd, 1) := by decide +kernel
theorem dX8_turn_56 : decode cX8_turn 56 = .ok (.lastore, 1) := by decide +kernel
theorem dX8_turn_57 : decode cX8_turn 57 = .ok (.iinc 3 1, 3) := by decide +kernel
theorem dX8_turn_60 : decode cX8_turn 60 = .ok (.goto (-58), 3) := by decide +kernel
theorem dX8_turn_63 : decode cX8_turn 63 = .ok (.iconst 0, 1) := by decide +kernel
theorem dX8_turn_64 : decode cX8_turn 64 = .ok (.istore_n 3, 1) := by decide +kernel
theorem dX8_turn_65 : decode cX8_turn 65 = .ok (.iload_n 3, 1) := by decide +kernel
theorem dX8_turn_66 : decode cX8_turn 66 = .ok (.aload_n 0, 1) := by decide +kernel
theorem dX8_turn_67 : decode cX8_turn 67 = .ok (.getfield 27, 3) := by decide +kernel
theorem dX8_turn_70 : decode cX8_turn 70 = .ok (.if_icmp .ge 27, 3) := by decide +kernel
theorem dX8_turn_73 : decode cX8_turn 73 = .ok (.iload_n 3, 1) := by decide +kernel
theorem dX8_turn_74 : decode cX8_turn 74 = .ok (.bipush 12, 2) := by decide +kernel
theorem dX8_turn_76 : decode cX8_turn 76 = .ok (.if_icmp .ge 21, 3) := by decide +kernel
theorem dX8_turn_79 : decode cX8_turn 79 = .ok (.aload_n 0, 1) := by decide +kernel
theorem dX8_turn_80 : decode cX8_turn 80 = .ok (.getfield 9, 3) := by decide +kernel
theorem dX8_turn_83 : decode cX8_turn 83 = .ok (.iload_n 3, 1) := by decide +kernel
theorem dX8_turn_84 : decode cX8_turn 84 = .ok (.aload_n 0, 1) := by decide +kernel
theorem dX8_turn_85 : decode cX8_turn 85 = .ok (.getfield 15, 3) := by decide +kernel
theorem dX8_turn_88 : decode cX8_turn 88 = .ok (.iload_n 3, 1) := by decide +kernel
theorem dX8_turn_89 : decode cX8_turn 89 = .ok (.laload, 1) := by decide +kernel
theorem dX8_turn_90 : decode cX8_turn 90 = .ok (.lastore, 1) := by decide +kernel
theorem dX8_turn_91 : decode cX8_turn 91 = .ok (.iinc 3 1, 3) := by decide +kernel
theorem dX8_turn_94 : decode cX8_turn 94 = .ok (.goto (-29), 3) := by decide +kernel
theorem dX8_turn_97 : decode cX8_turn 97 = .ok (.aload_n 0, 1) := by decide +kernel
theorem dX8_turn_98 : decode cX8_turn 98 = .ok (.dup, 1) := by decide +kernel
theorem dX8_turn_99 : decode cX8_turn 99 = .ok (.getfield 31, 3) := by decide +kernel
theorem dX8_turn_102 : decode cX8_turn 102 = .ok (.ldc2_w 39, 3) := by decide +kernel
theorem dX8_turn_105 : decode cX8_turn 105 = .ok (.lmul, 1) := by decide +kernel
theorem dX8_turn_106 : decode cX8_turn 106 = .ok (.putfield 31, 3) := by decide +kernel
theorem dX8_turn_109 : decode cX8_turn 109 = .ok (.return_, 1) := by decide +kernel
set_option maxRecDepth 20000 in
theorem ggX8_upperAt_X8_waysTo : GoodIn wsX8_upperAt wsX8_waysTo := goodIn_r _ [5, 6, 7, 16, 17, 18, 19] (by decide +kernel) (by decide +kernel)
set_option maxRecDepth 20000 in
theorem gX8_upperAt_X8_waysTo : GoodIn wsX8_upperAt (wsV RX8 35 RX8 yX8_waysTo wsX8_waysTo) := goodIn_app (goodIn_of _ (by decide +kernel)) ggX8_upperAt_X8_waysTo
set_option maxRecDepth 20000 in
theorem ggX8_upperAt_X8_shortened : GoodIn wsX8_upperAt wsX8_shortened := goodIn_r _ [11, 12, 1, 2, 3, 4, 5, 6, 7, 13, 14, 15, 16, 17, 18, 19] (by decide +kernel) (by decide +kernel)
set_option maxRecDepth 20000 in
theorem gX8_upperAt_X8_shortened : GoodIn wsX8_upperAt (wsV RX8 41 RX8 yX8_shortened wsX8_shortened) := goodIn_app (goodIn_of _ (by decide +kernel)) ggX8_upperAt_X8_shortened
theorem dX8_upperAt_0 : decode cX8_upperAt 0 = .ok (.aload_n 0, 1) := by decide +kernel
theorem dX8_upperAt_1 : decode cX8_upperAt 1 = .ok (.aload_n 0, 1) := by decide +kernel
theorem dX8_upperAt_2 : decode cX8_upperAt 2 = .ok (.iload_n 1, 1) := by decide +kernel
theorem dX8_upperAt_3 : decode cX8_upperAt 3 = .ok (.invokevirtual 35, 3) := by decide +kernel
theorem dX8_upperAt_6 : decode cX8_upperAt 6 = .ok (.iload_n 1, 1) := by decide +kernel
theorem dX8_upperAt_7 : decode cX8_upperAt 7 = .ok (.invokevirtual 41, 3) := by decide +kernel
theorem dX8_upperAt_10 : decode cX8_upperAt 10 = .ok (.lreturn, 1) := by decide +kernel
set_option maxRecDepth 20000 in
theorem ggX8_lowerAt_X8_shortened : GoodIn wsX8_lowerAt wsX8_shortened := goodIn_r _ [6, 1, 7, 8, 9, 5, 10, 11, 12, 13, 14, 15, 16, 17, 18, 19] (by decide +kernel) (by decide +kernel)
set_option maxRecDepth 20000 in
theorem gX8_lowerAt_X8_shortened : GoodIn wsX8_lowerAt (wsV RX8 41 RX8 yX8_shortened wsX8_shortened) := goodIn_app (goodIn_of _ (by decide +kernel)) ggX8_lowerAt_X8_shortened
theorem dX8_lowerAt_0 : decode cX8_lowerAt 0 = .ok (.aload_n 0, 1) := by decide +kernel
theorem dX8_lowerAt_1 : decode cX8_lowerAt 1 = .ok (.aload_n 0, 1) := by decide +kernel
theorem dX8_lowerAt_2 : decode cX8_lowerAt 2 = .ok (.getfield 31, 3) := by decide +kernel
theorem dX8_lowerAt_5 : decode cX8_lowerAt 5 = .ok (.iload_n 1, 1) := by decide +kernel
theorem dX8_lowerAt_6 : decode cX8_lowerAt 6 = .ok (.invokevirtual 41, 3) := by decide +kernel
theorem dX8_lowerAt_9 : decode cX8_lowerAt 9 = .ok (.lreturn, 1) := by decide +kernel
theorem dX8_waysTo_0 : decode cX8_waysTo 0 = .ok (.iload_n 1, 1) := by decide +kernel
theorem dX8_waysTo_1 : decode cX8_waysTo 1 = .ok (.ifCond .ge 12, 3) := by decide +kernel
theorem dX8_waysTo_4 : decode cX8_waysTo 4 = .ok (.iload_n 1, 1) := by decide +kernel
theorem dX8_waysTo_5 : decode cX8_waysTo 5 = .ok (.aload_n 0, 1) := by decide +kernel
theorem dX8_waysTo_6 : decode cX8_waysTo 6 = .ok (.getfield 27, 3) := by decide +kernel
theorem dX8_waysTo_9 : decode cX8_waysTo 9 = .ok (.iadd, 1) := by decide +kernel
theorem dX8_waysTo_10 : decode cX8_waysTo 10 = .ok (.goto 21, 3) := by decide +kernel
theorem dX8_waysTo_13 : decode cX8_waysTo 13 = .ok (.iload_n 1, 1) := by decide +kernel
theorem dX8_waysTo_14 : decode cX8_waysTo 14 = .ok (.aload_n 0, 1) := by decide +kernel
theorem dX8_waysTo_15 : decode cX8_waysTo 15 = .ok (.getfield 27, 3) := by decide +kernel
theorem dX8_waysTo_18 : decode cX8_waysTo 18 = .ok (.if_icmp .lt 12, 3) := by decide +kernel
theorem dX8_waysTo_21 : decode cX8_waysTo 21 = .ok (.iload_n 1, 1) := by decide +kernel
theorem dX8_waysTo_22 : decode cX8_waysTo 22 = .ok (.aload_n 0, 1) := by decide +kernel
theorem dX8_waysTo_23 : decode cX8_waysTo 23 = .ok (.getfield 27, 3) := by decide +kernel
theorem dX8_waysTo_26 : decode cX8_waysTo 26 = .ok (.isub, 1) := by decide +kernel
theorem dX8_waysTo_27 : decode cX8_waysTo 27 = .ok (.goto 4, 3) := by decide +kernel
theorem dX8_waysTo_30 : decode cX8_waysTo 30 = .ok (.iload_n 1, 1) := by decide +kernel
theorem dX8_waysTo_31 : decode cX8_waysTo 31 = .ok (.istore_n 2, 1) := by decide +kernel
theorem dX8_waysTo_32 : decode cX8_waysTo 32 = .ok (.iload_n 2, 1) := by decide +kernel
theorem dX8_waysTo_33 : decode cX8_waysTo 33 = .ok (.ifCond .lt 18, 3) := by decide +kernel
theorem dX8_waysTo_36 : decode cX8_waysTo 36 = .ok (.iload_n 2, 1) := by decide +kernel
theorem dX8_waysTo_37 : decode cX8_waysTo 37 = .ok (.bipush 12, 2) := by decide +kernel
theorem dX8_waysTo_39 : decode cX8_waysTo 39 = .ok (.if_icmp .ge 12, 3) := by decide +kernel
theorem dX8_waysTo_42 : decode cX8_waysTo 42 = .ok (.aload_n 0, 1) := by decide +kernel
theorem dX8_waysTo_43 : decode cX8_waysTo 43 = .ok (.getfield 9, 3) := by decide +kernel
theorem dX8_waysTo_46 : decode cX8_waysTo 46 = .ok (.iload_n 2, 1) := by decide +kernel
theorem dX8_waysTo_47 : decode cX8_waysTo 47 = .ok (.laload, 1) := by decide +kernel
theorem dX8_waysTo_48 : decode cX8_waysTo 48 = .ok (.goto 4, 3) := by decide +kernel
theorem dX8_waysTo_51 : decode cX8_waysTo 51 = .ok (.lconst 0, 1) := by decide +kernel
theorem dX8_waysTo_52 : decode cX8_waysTo 52 = .ok (.lreturn, 1) := by decide +kernel
set_option maxRecDepth 20000 in
theorem ggX8_shortened_X8_waysTo : GoodIn wsX8_shortened wsX8_waysTo := goodIn_r _ [6, 7, 8, 12, 13, 14, 15] (by decide +kernel) (by decide +kernel)
set_option maxRecDepth 20000 in
theorem gX8_shortened_X8_waysTo : GoodIn wsX8_shortened (wsV RX8 35 RX8 yX8_waysTo wsX8_waysTo) := goodIn_app (goodIn_of _ (by decide +kernel)) ggX8_shortened_X8_waysTo
set_option maxRecDepth 20000 in
theorem ggX8_shortened_X8_commonDivisor : GoodIn wsX8_shortened wsX8_commonDivisor := goodIn_r _ [11] (by decide +kernel) (by decide +kernel)
set_option maxRecDepth 20000 in
theorem gX8_shortened_X8_commonDivisor : GoodIn wsX8_shortened (va_wsS RX8 45 yX8_commonDivisor wsX8_commonDivisor) := goodIn_app (goodIn_of _ (by decide +kernel)) ggX8_shortened_X8_commonDivisor
theorem dX8_shortened_0 : decode cX8_shortened 0 = .ok (.aload_n 0, 1) := by decide +kernel
theorem dX8_shortened_1 : decode cX8_shortened 1 = .ok (.getfield 31, 3) := by decide +kernel
theorem dX8_shortened_4 : decode cX8_shortened 4 = .ok (.aload_n 0, 1) := by decide +kernel
theorem dX8_shortened_5 : decode cX8_shortened 5 = .ok (.iload_n 3, 1) := by decide +kernel
theorem dX8_shortened_6 : decode cX8_shortened 6 = .ok (.invokevirtual 35, 3) := by decide +kernel
theorem dX8_shortened_9 : decode cX8_shortened 9 = .ok (.invokestatic 45, 3) := by decide +kernel
theorem dX8_shortened_12 : decode cX8_shortened 12 = .ok (.lstore 4, 2) := by decide +kernel
theorem dX8_shortened_14 : decode cX8_shortened 14 = .ok (.lload 4, 2) := by decide +kernel
theorem dX8_shortened_16 : decode cX8_shortened 16 = .ok (.lconst 0, 1) := by decide +kernel
theorem dX8_shortened_17 : decode cX8_shortened 17 = .ok (.lcmp, 1) := by decide +kernel
theorem dX8_shortened_18 : decode cX8_shortened 18 = .ok (.ifCond .ne 7, 3) := by decide +kernel
theorem dX8_shortened_21 : decode cX8_shortened 21 = .ok (.lload_n 1, 1) := by decide +kernel
theorem dX8_shortened_22 : decode cX8_shortened 22 = .ok (.goto 7, 3) := by decide +kernel
theorem dX8_shortened_25 : decode cX8_shortened 25 = .ok (.lload_n 1, 1) := by decide +kernel
theorem dX8_shortened_26 : decode cX8_shortened 26 = .ok (.lload 4, 2) := by decide +kernel
theorem dX8_shortened_28 : decode cX8_shortened 28 = .ok (.ldiv, 1) := by decide +kernel
theorem dX8_shortened_29 : decode cX8_shortened 29 = .ok (.lreturn, 1) := by decide +kernel
theorem dX8_commonDivisor_0 : decode cX8_commonDivisor 0 = .ok (.lload_n 0, 1) := by decide +kernel
theorem dX8_commonDivisor_1 : decode cX8_commonDivisor 1 = .ok (.lstore 4, 2) := by decide +kernel
theorem dX8_commonDivisor_3 : decode cX8_commonDivisor 3 = .ok (.lload_n 2, 1) := by decide +kernel
theorem dX8_commonDivisor_4 : decode cX8_commonDivisor 4 = .ok (.lstore 6, 2) := by decide +kernel
theorem dX8_commonDivisor_6 : decode cX8_commonDivisor 6 = .ok (.iconst 0, 1) := by decide +kernel
theorem dX8_commonDivisor_7 : decode cX8_commonDivisor 7 = .ok (.istore 8, 2) := by decide +kernel
theorem dX8_commonDivisor_9 : decode cX8_commonDivisor 9 = .ok (.iload 8, 2) := by decide +kernel
theorem dX8_commonDivisor_11 : decode cX8_commonDivisor 11 = .ok (.sipush 1000, 3) := by decide +kernel
theorem dX8_commonDivisor_14 : decode cX8_commonDivisor 14 = .ok (.if_icmp .ge 31, 3) := by decide +kernel
theorem dX8_commonDivisor_17 : decode cX8_commonDivisor 17 = .ok (.lload 6, 2) := by decide +kernel
theorem dX8_commonDivisor_19 : decode cX8_commonDivisor 19 = .ok (.lconst 0, 1) := by decide +kernel
theorem dX8_commonDivisor_20 : decode cX8_commonDivisor 20 = .ok (.lcmp, 1) := by decide +kernel
theorem dX8_commonDivisor_21 : decode cX8_commonDivisor 21 = .ok (.ifCond .eq 24, 3) := by decide +kernel
theorem dX8_commonDivisor_24 : decode cX8_commonDivisor 24 = .ok (.lload 4, 2) := by decide +kernel
theorem dX8_commonDivisor_26 : decode cX8_commonDivisor 26 = .ok (.lload 6, 2) := by decide +kernel
theorem dX8_commonDivisor_28 : decode cX8_commonDivisor 28 = .ok (.lrem, 1) := by decide +kernel
theorem dX8_commonDivisor_29 : decode cX8_commonDivisor 29 = .ok (.lstore 9, 2) := by decide +kernel
theorem dX8_commonDivisor_31 : decode cX8_commonDivisor 31 = .ok (.lload 6, 2) := by decide +kernel
theorem dX8_commonDivisor_33 : decode cX8_commonDivisor 33 = .ok (.lstore 4, 2) := by decide +kernel
theorem dX8_commonDivisor_35 : decode cX8_commonDivisor 35 = .ok (.lload 9, 2) := by decide +kernel
theorem dX8_commonDivisor_37 : decode cX8_commonDivisor 37 = .ok (.lstore 6, 2) := by decide +kernel
theorem dX8_commonDivisor_39 : decode cX8_commonDivisor 39 = .ok (.iinc 8 1, 3) := by decide +kernel
theorem dX8_commonDivisor_42 : decode cX8_commonDivisor 42 = .ok (.goto (-33), 3) := by decide +kernel
theorem dX8_commonDivisor_45 : decode cX8_commonDivisor 45 = .ok (.lload 4, 2) := by decide +kernel
theorem dX8_commonDivisor_47 : decode cX8_commonDivisor 47 = .ok (.lreturn, 1) := by decide +kernel
set_option maxRecDepth 20000 in
theorem ggX9_init_X2_init : GoodIn wsX9_init wsX2_init := goodIn_r _ [12, 13, 2, 3, 8, 14, 15, 16, 17, 18, 19, 20, 21, 22, 23, 24, 25, 26, 27, 28, 29, 30, 31, 32, 33, 34, 35, 42, 43, 44] (by decide +kernel) (by decide +kernel)
set_option maxRecDepth 20000 in
theorem gX9_init_X2_init : GoodIn wsX9_init (wsX2_init) := ggX9_init_X2_init
theorem dX9_init_0 : decode cX9_init 0 = .ok (.aload_n 0, 1) := by decide +kernel
theorem dX9_init_1 : decode cX9_init 1 = .ok (.invokespecial 3, 3) := by decide +kernel
theorem dX9_init_4 : decode cX9_init 4 = .ok (.aload_n 0, 1) := by decide +kernel
theorem dX9_init_5 : decode cX9_init 5 = .ok (.new 9, 3) := by decide +kernel
theorem dX9_init_8 : decode cX9_init 8 = .ok (.dup, 1) := by decide +kernel
theorem dX9_init_9 : decode cX9_init 9 = .ok (.invokespecial 11, 3) := by decide +kernel
theorem dX9_init_12 : decode cX9_init 12 = .ok (.putfield 12, 3) := by decide +kernel
theorem dX9_init_15 : decode cX9_init 15 = .ok (.aload_n 0, 1) := by decide +kernel
theorem dX9_init_16 : decode cX9_init 16 = .ok (.bipush 9, 2) := by decide +kernel
theorem dX9_init_18 : decode cX9_init 18 = .ok (.newarray .int, 2) := by decide +kernel
theorem dX9_init_20 : decode cX9_init 20 = .ok (.putfield 18, 3) := by decide +kernel
theorem dX9_init_23 : decode cX9_init 23 = .ok (.return_, 1) := by decide +kernel
set_option maxRecDepth 20000 in
theorem ggX9_tell_X9_begin : GoodIn wsX9_tell wsX9_begin := goodIn_r _ [9, 2, 4, 3, 10, 11, 12, 13, 14, 15, 16, 17, 18, 19, 20, 21, 22, 23, 24, 25, 26, 27, 28, 29, 30, 31, 32, 114, 115, 116, 117, 118, 119, 120, 121, 122, 123, 124, 125, 126, 127, 128, 129, 130] (by decide +kernel) (by decide +kernel)
set_option maxRecDepth 20000 in
theorem gX9_tell_X9_begin : GoodIn wsX9_tell (wsV RX9 22 RX9 yX9_begin wsX9_begin) := goodIn_app (goodIn_of _ (by decide +kernel)) ggX9_tell_X9_begin
set_option maxRecDepth 20000 in
theorem ggX9_tell_X4_kindAt : GoodIn wsX9_tell wsX4_kindAt := goodIn_r _ [37, 38, 39, 40, 36, 41, 42, 43, 112, 113] (by decide +kernel) (by decide +kernel)
set_option maxRecDepth 20000 in
theorem gX9_tell_X4_kindAt : GoodIn wsX9_tell (wsV RX9 32 RX4 yX4_kindAt wsX4_kindAt) := goodIn_app (goodIn_of _ (by decide +kernel)) ggX9_tell_X4_kindAt
set_option maxRecDepth 20000 in
theorem ggX9_tell_X4_oneAt : GoodIn wsX9_tell wsX4_oneAt := goodIn_r _ [47, 38, 39, 40, 36, 41, 42, 43, 112, 113] (by decide +kernel) (by decide +kernel)
set_option maxRecDepth 20000 in
theorem gX9_tell_X4_oneAt : GoodIn wsX9_tell (wsV RX9 36 RX4 yX4_oneAt wsX4_oneAt) := goodIn_app (goodIn_of _ (by decide +kernel)) ggX9_tell_X4_oneAt
set_option maxRecDepth 20000 in
theorem ggX9_tell_X4_withAt : GoodIn wsX9_tell wsX4_withAt := goodIn_r _ [51, 38, 39, 40, 36, 41, 42, 43, 52, 34, 35, 37, 112, 113] (by decide +kernel) (by decide +kernel)
set_option maxRecDepth 20000 in
theorem gX9_tell_X4_withAt : GoodIn wsX9_tell (wsV RX9 39 RX4 yX4_withAt wsX4_withAt) := goodIn_app (goodIn_of _ (by decide +kernel)) ggX9_tell_X4_withAt
set_option maxRecDepth 20000 in
theorem ggX9_tell_X2_whyNot : GoodIn wsX9_tell wsX2_whyNot := goodIn_r _ [56, 24, 57, 58, 59, 16, 60, 22, 61, 62, 63, 64, 20, 120, 121, 122, 123, 124, 125, 126, 127] (by decide +kernel) (by decide +kernel)
set_option maxRecDepth 20000 in
theorem gX9_tell_X2_whyNot : GoodIn wsX9_tell (wsV RX9 42 RX2 yX2_whyNot wsX2_whyNot) := goodIn_app (goodIn_of _ (by decide +kernel)) ggX9_tell_X2_whyNot
set_option maxRecDepth 20000 in
theorem ggX9_tell_X9_putChalk : GoodIn wsX9_tell wsX9_putChalk := goodIn_r _ [68, 2, 12, 10, 4, 11, 69, 70, 71, 16, 72, 23, 73, 74, 75, 76, 18, 57, 58, 59, 60, 22, 77, 78, 79, 80, 81, 82, 114, 115, 116, 117, 118, 119, 120, 121, 122, 123, 124, 125, 126, 127] (by decide +kernel) (by decide +kernel)
set_option maxRecDepth 20000 in
theorem gX9_tell_X9_putChalk : GoodIn wsX9_tell (wsV RX9 49 RX9 yX9_putChalk wsX9_putChalk) := goodIn_app (goodIn_of _ (by decide +kernel)) ggX9_tell_X9_putChalk
set_option maxRecDepth 20000 in
theorem ggX9_tell_X2_act : GoodIn wsX9_tell wsX2_act := goodIn_r _ [86, 87, 88, 89, 16, 90, 18, 57, 58, 59, 60, 22, 77, 78, 79, 80, 91, 92, 93, 94, 20, 95, 96, 97, 98, 61, 62, 63, 64, 99, 100, 101, 102, 103, 19, 24, 23, 104, 105, 106, 107, 120, 121, 122, 123, 124, 125, 126, 127] (by decide +kernel) (by decide +kernel)
set_option maxRecDepth 20000 in
theorem gX9_tell_X2_act : GoodIn wsX9_tell (wsV RX9 53 RX2 yX2_act wsX2_act) := goodIn_app (goodIn_of _ (by decide +kernel)) ggX9_tell_X2_act
set_option maxRecDepth 20000 in
theorem ggX9_tell_X4_lengthOfAct : GoodIn wsX9_tell wsX4_lengthOfAct := goodIn_r _ [111, 52, 34, 35, 36, 37, 38, 39, 40, 41, 42, 43, 112, 113] (by decide +kernel) (by decide +kernel)
set_option maxRecDepth 20000 in
theorem gX9_tell_X4_lengthOfAct : GoodIn wsX9_tell (wsV RX9 60 RX4 yX4_lengthOfAct wsX4_lengthOfAct) := goodIn_app (goodIn_of _ (by decide +kernel)) ggX9_tell_X4_lengthOfAct
theorem dX9_tell_0 : decode cX9_tell 0 = .ok (.aload_n 0, 1) := by decide +kernel
theorem dX9_tell_1 : decode cX9_tell 1 = .ok (.aload_n 2, 1) := by decide +kernel
theorem dX9_tell_2 : decode cX9_tell 2 = .ok (.invokevirtual 22, 3) := by decide +kernel
theorem dX9_tell_5 : decode cX9_tell 5 = .ok (.iconst 0, 1) := by decide +kernel
theorem dX9_tell_6 : decode cX9_tell 6 = .ok (.istore_n 3, 1) := by decide +kernel
theorem dX9_tell_7 : decode cX9_tell 7 = .ok (.iconst 0, 1) := by decide +kernel
theorem dX9_tell_8 : decode cX9_tell 8 = .ok (.istore 4, 2) := by decide +kernel
theorem dX9_tell_10 : decode cX9_tell 10 = .ok (.iload 4, 2) := by decide +kernel
theorem dX9_tell_12 : decode cX9_tell 12 = .ok (.bipush 60, 2) := by decide +kernel
theorem dX9_tell_14 : decode cX9_tell 14 = .ok (.if_icmp .ge 126, 3) := by decide +kernel
theorem dX9_tell_17 : decode cX9_tell 17 = .ok (.iload_n 3, 1) := by decide +kernel
theorem dX9_tell_18 : decode cX9_tell 18 = .ok (.aload_n 1, 1) := by decide +kernel
theorem dX9_tell_19 : decode cX9_tell 19 = .ok (.getfield 26, 3) := by decide +kernel
theorem dX9_tell_22 : decode cX9_tell 22 = .ok (.if_icmp .ge 118, 3) := by decide +kernel
theorem dX9_tell_25 : decode cX9_tell 25 = .ok (.aload_n 1, 1) := by decide +kernel
theorem dX9_tell_26 : decode cX9_tell 26 = .ok (.iload_n 3, 1) := by decide +kernel
theorem dX9_tell_27 : decode cX9_tell 27 = .ok (.invokevirtual 32, 3) := by decide +kernel
theorem dX9_tell_30 : decode cX9_tell 30 = .ok (.istore 5, 2) := by decide +kernel
theorem dX9_tell_32 : decode cX9_tell 32 = .ok (.aload_n 1, 1) := by decide +kernel
theorem dX9_tell_33 : decode cX9_tell 33 = .ok (.iload_n 3, 1) := by decide +kernel
theorem dX9_tell_34 : decode cX9_tell 34 = .ok (.invokevirtual 36, 3) := by decide +kernel
theorem dX9_tell_37 : decode cX9_tell 37 = .ok (.istore 6, 2) := by decide +kernel
theorem dX9_tell_39 : decode cX9_tell 39 = .ok (.aload_n 1, 1) := by decide +kernel
theorem dX9_tell_40 : decode cX9_tell 40 = .ok (.iload_n 3, 1) := by decide +kernel
theorem dX9_tell_41 : decode cX9_tell 41 = .ok (.invokevirtual 39, 3) := by decide +kernel
theorem dX9_tell_44 : decode cX9_tell 44 = .ok (.istore 7, 2) := by decide +kernel
theorem dX9_tell_46 : decode cX9_tell 46 = .ok (.aload_n 0, 1) := by decide +kernel
theorem dX9_tell_47 : decode cX9_tell 47 = .ok (.aload_n 0, 1) := by decide +kernel
theorem dX9_tell_48 : decode cX9_tell 48 = .ok (.getfield 12, 3) := by decide +kernel
theorem dX9_tell_51 : decode cX9_tell 51 = .ok (.iload 5, 2) := by decide +kernel
theorem dX9_tell_53 : decode cX9_tell 53 = .ok (.iload 6, 2) := by decide +kernel
theorem dX9_tell_55 : decode cX9_tell 55 = .ok (.iload 7, 2) := by decide +kernel
theorem dX9_tell_57 : decode cX9_tell 57 = .ok (.invokevirtual 42, 3) := by decide +kernel
theorem dX9_tell_60 : decode cX9_tell 60 = .ok (.putfield 46, 3) := by decide +kernel
theorem dX9_tell_63 : decode cX9_tell 63 = .ok (.aload_n 0, 1) := by decide +kernel
theorem dX9_tell_64 : decode cX9_tell 64 = .ok (.getfield 46, 3) := by decide +kernel
theorem dX9_tell_67 : decode cX9_tell 67 = .ok (.ifCond .eq 4, 3) := by decide +kernel
theorem dX9_tell_70 : decode cX9_tell 70 = .ok (.return_, 1) := by decide +kernel
theorem dX9_tell_71 : decode cX9_tell 71 = .ok (.iload 5, 2) := by decide +kernel
theorem dX9_tell_73 : decode cX9_tell 73 = .ok (.bipush 58, 2) := by decide +kernel
theorem dX9_tell_75 : decode cX9_tell 75 = .ok (.if_icmp .eq 10, 3) := by decide +kernel
theorem dX9_tell_78 : decode cX9_tell 78 = .ok (.iload 5, 2) := by decide +kernel
theorem dX9_tell_80 : decode cX9_tell 80 = .ok (.bipush 63, 2) := by decide +kernel
theorem dX9_tell_82 : decode cX9_tell 82 = .ok (.if_icmp .ne 21, 3) := by decide +kernel
theorem dX9_tell_85 : decode cX9_tell 85 = .ok (.aload_n 0, 1) := by decide +kernel
theorem dX9_tell_86 : decode cX9_tell 86 = .ok (.iload 6, 2) := by decide +kernel
theorem dX9_tell_88 : decode cX9_tell 88 = .ok (.iload 5, 2) := by decide +kernel
theorem dX9_tell_90 : decode cX9_tell 90 = .ok (.bipush 63, 2) := by decide +kernel
theorem dX9_tell_92 : decode cX9_tell 92 = .ok (.if_icmp .ne 7, 3) := by decide +kernel
theorem dX9_tell_95 : decode cX9_tell 95 = .ok (.iconst 1, 1) := by decide +kernel
theorem dX9_tell_96 : decode cX9_tell 96 = .ok (.goto 4, 3) := by decide +kernel
theorem dX9_tell_99 : decode cX9_tell 99 = .ok (.iconst 0, 1) := by decide +kernel
theorem dX9_tell_100 : decode cX9_tell 100 = .ok (.invokevirtual 49, 3) := by decide +kernel
theorem dX9_tell_103 : decode cX9_tell 103 = .ok (.aload_n 0, 1) := by decide +kernel
theorem dX9_tell_104 : decode cX9_tell 104 = .ok (.getfield 12, 3) := by decide +kernel
theorem dX9_tell_107 : decode cX9_tell 107 = .ok (.iload 5, 2) := by decide +kernel
theorem dX9_tell_109 : decode cX9_tell 109 = .ok (.iload 6, 2) := by decide +kernel
theorem dX9_tell_111 : decode cX9_tell 111 = .ok (.iload 7, 2) := by decide +kernel
theorem dX9_tell_113 : decode cX9_tell 113 = .ok (.invokevirtual 53, 3) := by decide +kernel
theorem dX9_tell_116 : decode cX9_tell 116 = .ok (.aload_n 0, 1) := by decide +kernel
theorem dX9_tell_117 : decode cX9_tell 117 = .ok (.dup, 1) := by decide +kernel
theorem dX9_tell_118 : decode cX9_tell 118 = .ok (.getfield 57, 3) := by decide +kernel
theorem dX9_tell_121 : decode cX9_tell 121 = .ok (.iconst 1, 1) := by decide +kernel
theorem dX9_tell_122 : decode cX9_tell 122 = .ok (.iadd, 1) := by decide +kernel
theorem dX9_tell_123 : decode cX9_tell 123 = .ok (.putfield 57, 3) := by decide +kernel
theorem dX9_tell_126 : decode cX9_tell 126 = .ok (.iload_n 3, 1) := by decide +kernel
theorem dX9_tell_127 : decode cX9_tell 127 = .ok (.aload_n 1, 1) := by decide +kernel
theorem dX9_tell_128 : decode cX9_tell 128 = .ok (.iload_n 3, 1) := by decide +kernel
theorem dX9_tell_129 : decode cX9_tell 129 = .ok (.invokevirtual 60, 3) := by decide +kernel
theorem dX9_tell_132 : decode cX9_tell 132 = .ok (.iadd, 1) := by decide +kernel
theorem dX9_tell_133 : decode cX9_tell 133 = .ok (.istore_n 3, 1) := by decide +kernel
theorem dX9_tell_134 : decode cX9_tell 134 = .ok (.iinc 4 1, 3) := by decide +kernel
theorem dX9_tell_137 : decode cX9_tell 137 = .ok (.goto (-127), 3) := by decide +kernel
theorem dX9_tell_140 : decode cX9_tell 140 = .ok (.return_, 1) := by decide +kernel
set_option maxRecDepth 20000 in
theorem ggX9_draw_X9_begin : GoodIn wsX9_draw wsX9_begin := goodIn_r _ [7, 2, 8, 9, 10, 11, 12, 13, 14, 15, 16, 17, 18, 19, 20, 21, 22, 23, 24, 25, 26, 27, 28, 29, 30, 31, 32, 77, 78, 79, 80, 81, 82, 83, 84, 85, 86, 87, 88, 89, 90, 91, 92, 93] (by decide +kernel) (by decide +kernel)
set_option maxRecDepth 20000 in
theorem gX9_draw_X9_begin : GoodIn wsX9_draw (wsV RX9 22 RX9 yX9_begin wsX9_begin) := goodIn_app (goodIn_of _ (by decide +kernel)) ggX9_draw_X9_begin
set_option maxRecDepth 20000 in
theorem ggX9_draw_X9_kindOfLot : GoodIn wsX9_draw wsX9_kindOfLot := goodIn_r _ [35] (by decide +kernel) (by decide +kernel)
set_option maxRecDepth 20000 in
theorem gX9_draw_X9_kindOfLot : GoodIn wsX9_draw (va_wsS RX9 64 yX9_kindOfLot wsX9_kindOfLot) := goodIn_app (goodIn_of _ (by decide +kernel)) ggX9_draw_X9_kindOfLot
set_option maxRecDepth 20000 in
theorem ggX9_draw_X2_whyNot : GoodIn wsX9_draw wsX2_whyNot := goodIn_r _ [39, 24, 40, 41, 42, 16, 43, 22, 44, 45, 46, 47, 20, 83, 84, 85, 86, 87, 88, 89, 90] (by decide +kernel) (by decide +kernel)
set_option maxRecDepth 20000 in
theorem gX9_draw_X2_whyNot : GoodIn wsX9_draw (wsV RX9 42 RX2 yX2_whyNot wsX2_whyNot) := goodIn_app (goodIn_of _ (by decide +kernel)) ggX9_draw_X2_whyNot
set_option maxRecDepth 20000 in
theorem ggX9_draw_X2_act : GoodIn wsX9_draw wsX2_act := goodIn_r _ [51, 52, 53, 54, 16, 55, 18, 40, 41, 42, 43, 22, 56, 57, 58, 59, 60, 61, 62, 63, 20, 64, 65, 66, 67, 44, 45, 46, 47, 68, 69, 70, 71, 72, 19, 24, 23, 73, 74, 75, 76, 83, 84, 85, 86, 87, 88, 89, 90] (by decide +kernel) (by decide +kernel)
set_option maxRecDepth 20000 in
theorem gX9_draw_X2_act : GoodIn wsX9_draw (wsV RX9 53 RX2 yX2_act wsX2_act) := goodIn_app (goodIn_of _ (by decide +kernel)) ggX9_draw_X2_act
theorem dX9_draw_0 : decode cX9_draw 0 = .ok (.aload_n 0, 1) := by decide +kernel
theorem dX9_draw_1 : decode cX9_draw 1 = .ok (.aload_n 1, 1) := by decide +kernel
theorem dX9_draw_2 : decode cX9_draw 2 = .ok (.invokevirtual 22, 3) := by decide +kernel
theorem dX9_draw_5 : decode cX9_draw 5 = .ok (.iload_n 2, 1) := by decide +kernel
theorem dX9_draw_6 : decode cX9_draw 6 = .ok (.istore 4, 2) := by decide +kernel
theorem dX9_draw_8 : decode cX9_draw 8 = .ok (.iconst 0, 1) := by decide +kernel
theorem dX9_draw_9 : decode cX9_draw 9 = .ok (.istore 5, 2) := by decide +kernel
theorem dX9_draw_11 : decode cX9_draw 11 = .ok (.iload 5, 2) := by decide +kernel
theorem dX9_draw_13 : decode cX9_draw 13 = .ok (.iload_n 3, 1) := by decide +kernel
theorem dX9_draw_14 : decode cX9_draw 14 = .ok (.if_icmp .ge 102, 3) := by decide +kernel
theorem dX9_draw_17 : decode cX9_draw 17 = .ok (.bipush 75, 2) := by decide +kernel
theorem dX9_draw_19 : decode cX9_draw 19 = .ok (.iload 4, 2) := by decide +kernel
theorem dX9_draw_21 : decode cX9_draw 21 = .ok (.imul, 1) := by decide +kernel
theorem dX9_draw_22 : decode cX9_draw 22 = .ok (.bipush 74, 2) := by decide +kernel
theorem dX9_draw_24 : decode cX9_draw 24 = .ok (.iadd, 1) := by decide +kernel
theorem dX9_draw_25 : decode cX9_draw 25 = .ok (.ldc 63, 2) := by decide +kernel
theorem dX9_draw_27 : decode cX9_draw 27 = .ok (.irem, 1) := by decide +kernel
theorem dX9_draw_28 : decode cX9_draw 28 = .ok (.istore 4, 2) := by decide +kernel
theorem dX9_draw_30 : decode cX9_draw 30 = .ok (.iload 4, 2) := by decide +kernel
theorem dX9_draw_32 : decode cX9_draw 32 = .ok (.bipush 9, 2) := by decide +kernel
theorem dX9_draw_34 : decode cX9_draw 34 = .ok (.irem, 1) := by decide +kernel
theorem dX9_draw_35 : decode cX9_draw 35 = .ok (.istore 6, 2) := by decide +kernel
theorem dX9_draw_37 : decode cX9_draw 37 = .ok (.iload 4, 2) := by decide +kernel
theorem dX9_draw_39 : decode cX9_draw 39 = .ok (.bipush 9, 2) := by decide +kernel
theorem dX9_draw_41 : decode cX9_draw 41 = .ok (.idiv, 1) := by decide +kernel
theorem dX9_draw_42 : decode cX9_draw 42 = .ok (.bipush 8, 2) := by decide +kernel
theorem dX9_draw_44 : decode cX9_draw 44 = .ok (.irem, 1) := by decide +kernel
theorem dX9_draw_45 : decode cX9_draw 45 = .ok (.invokestatic 64, 3) := by decide +kernel
theorem dX9_draw_48 : decode cX9_draw 48 = .ok (.istore 7, 2) := by decide +kernel
theorem dX9_draw_50 : decode cX9_draw 50 = .ok (.iload 4, 2) := by decide +kernel
theorem dX9_draw_52 : decode cX9_draw 52 = .ok (.bipush 72, 2) := by decide +kernel
theorem dX9_draw_54 : decode cX9_draw 54 = .ok (.idiv, 1) := by decide +kernel
theorem dX9_draw_55 : decode cX9_draw 55 = .ok (.istore 8, 2) := by decide +kernel
theorem dX9_draw_57 : decode cX9_draw 57 = .ok (.iload 7, 2) := by decide +kernel
theorem dX9_draw_59 : decode cX9_draw 59 = .ok (.bipush 38, 2) := by decide +kernel
theorem dX9_draw_61 : decode cX9_draw 61 = .ok (.if_icmp .ne 11, 3) := by decide +kernel
theorem dX9_draw_64 : decode cX9_draw 64 = .ok (.iload 8, 2) := by decide +kernel
theorem dX9_draw_66 : decode cX9_draw 66 = .ok (.bipush 9, 2) := by decide +kernel
theorem dX9_draw_68 : decode cX9_draw 68 = .ok (.irem, 1) := by decide +kernel
theorem dX9_draw_69 : decode cX9_draw 69 = .ok (.goto 10, 3) := by decide +kernel
theorem dX9_draw_72 : decode cX9_draw 72 = .ok (.iconst 1, 1) := by decide +kernel
theorem dX9_draw_73 : decode cX9_draw 73 = .ok (.iload 8, 2) := by decide +kernel
theorem dX9_draw_75 : decode cX9_draw 75 = .ok (.bipush 9, 2) := by decide +kernel
theorem dX9_draw_77 : decode cX9_draw 77 = .ok (.irem, 1) := by decide +kernel
theorem dX9_draw_78 : decode cX9_draw 78 = .ok (.iadd, 1) := by decide +kernel
theorem dX9_draw_79 : decode cX9_draw 79 = .ok (.istore 9, 2) := by decide +kernel
theorem dX9_draw_81 : decode cX9_draw 81 = .ok (.aload_n 0, 1) := by decide +kernel
theorem dX9_draw_82 : decode cX9_draw 82 = .ok (.getfield 12, 3) := by decide +kernel
theorem dX9_draw_85 : decode cX9_draw 85 = .ok (.iload 7, 2) := by decide +kernel
theorem dX9_draw_87 : decode cX9_draw 87 = .ok (.iload 6, 2) := by decide +kernel
theorem dX9_draw_89 : decode cX9_draw 89 = .ok (.iload 9, 2) := by decide +kernel
theorem dX9_draw_91 : decode cX9_draw 91 = .ok (.invokevirtual 42, 3) := by decide +kernel
theorem dX9_draw_94 : decode cX9_draw 94 = .ok (.ifCond .ne 16, 3) := by decide +kernel
theorem dX9_draw_97 : decode cX9_draw 97 = .ok (.aload_n 0, 1) := by decide +kernel
theorem dX9_draw_98 : decode cX9_draw 98 = .ok (.getfield 12, 3) := by decide +kernel
theorem dX9_draw_101 : decode cX9_draw 101 = .ok (.iload 7, 2) := by decide +kernel
theorem dX9_draw_103 : decode cX9_draw 103 = .ok (.iload 6, 2) := by decide +kernel
theorem dX9_draw_105 : decode cX9_draw 105 = .ok (.iload 9, 2) := by decide +kernel
theorem dX9_draw_107 : decode cX9_draw 107 = .ok (.invokevirtual 53, 3) := by decide +kernel
theorem dX9_draw_110 : decode cX9_draw 110 = .ok (.iinc 5 1, 3) := by decide +kernel
theorem dX9_draw_113 : decode cX9_draw 113 = .ok (.goto (-102), 3) := by decide +kernel
theorem dX9_draw_116 : decode cX9_draw 116 = .ok (.return_, 1) := by decide +kernel
theorem dX9_chalkOf_0 : decode cX9_chalkOf 0 = .ok (.iload_n 1, 1) := by decide +kernel
theorem dX9_chalkOf_1 : decode cX9_chalkOf 1 = .ok (.ifCond .lt 18, 3) := by decide +kernel
theorem dX9_chalkOf_4 : decode cX9_chalkOf 4 = .ok (.iload_n 1, 1) := by decide +kernel
theorem dX9_chalkOf_5 : decode cX9_chalkOf 5 = .ok (.bipush 9, 2) := by decide +kernel
theorem dX9_chalkOf_7 : decode cX9_chalkOf 7 = .ok (.if_icmp .ge 12, 3) := by decide +kernel
theorem dX9_chalkOf_10 : decode cX9_chalkOf 10 = .ok (.aload_n 0, 1) := by decide +kernel
theorem dX9_chalkOf_11 : decode cX9_chalkOf 11 = .ok (.getfield 18, 3) := by decide +kernel
theorem dX9_chalkOf_14 : decode cX9_chalkOf 14 = .ok (.iload_n 1, 1) := by decide +kernel
theorem dX9_chalkOf_15 : decode cX9_chalkOf 15 = .ok (.iaload, 1) := by decide +kernel
theorem dX9_chalkOf_16 : decode cX9_chalkOf 16 = .ok (.goto 5, 3) := by decide +kernel
theorem dX9_chalkOf_19 : decode cX9_chalkOf 19 = .ok (.bipush (-6), 2) := by decide +kernel
theorem dX9_chalkOf_21 : decode cX9_chalkOf 21 = .ok (.ireturn, 1) := by decide +kernel
set_option maxRecDepth 20000 in
theorem ggX9_begin_X2_become : GoodIn wsX9_begin wsX2_become := goodIn_r _ [11, 12, 13, 14, 15, 16, 17, 18, 19, 20, 21, 22, 23, 24, 25, 26, 33, 34, 35, 36, 37, 38, 39, 40, 41, 42, 43] (by decide +kernel) (by decide +kernel)
set_option maxRecDepth 20000 in
theorem gX9_begin_X2_become : GoodIn wsX9_begin (wsV RX9 67 RX2 yX2_become wsX2_become) := goodIn_app (goodIn_of _ (by decide +kernel)) ggX9_begin_X2_become
theorem dX9_begin_0 : decode cX9_begin 0 = .ok (.aload_n 0, 1) := by decide +kernel
theorem dX9_begin_1 : decode cX9_begin 1 = .ok (.getfield 12, 3) := by decide +kernel
theorem dX9_begin_4 : decode cX9_begin 4 = .ok (.aload_n 1, 1) := by decide +kernel
theorem dX9_begin_5 : decode cX9_begin 5 = .ok (.invokevirtual 67, 3) := by decide +kernel
theorem dX9_begin_8 : decode cX9_begin 8 = .ok (.aload_n 0, 1) := by decide +kernel
theorem dX9_begin_9 : decode cX9_begin 9 = .ok (.iconst 0, 1) := by decide +kernel
theorem dX9_begin_10 : decode cX9_begin 10 = .ok (.putfield 57, 3) := by decide +kernel
theorem dX9_begin_13 : decode cX9_begin 13 = .ok (.aload_n 0, 1) := by decide +kernel
theorem dX9_begin_14 : decode cX9_begin 14 = .ok (.iconst 0, 1) := by decide +kernel
theorem dX9_begin_15 : decode cX9_begin 15 = .ok (.putfield 46, 3) := by decide +kernel
theorem dX9_begin_18 : decode cX9_begin 18 = .ok (.aload_n 0, 1) := by decide +kernel
theorem dX9_begin_19 : decode cX9_begin 19 = .ok (.bipush (-6), 2) := by decide +kernel
theorem dX9_begin_21 : decode cX9_begin 21 = .ok (.putfield 70, 3) := by decide +kernel
theorem dX9_begin_24 : decode cX9_begin 24 = .ok (.aload_n 0, 1) := by decide +kernel
theorem dX9_begin_25 : decode cX9_begin 25 = .ok (.bipush (-6), 2) := by decide +kernel
theorem dX9_begin_27 : decode cX9_begin 27 = .ok (.putfield 73, 3) := by decide +kernel
theorem dX9_begin_30 : decode cX9_begin 30 = .ok (.iconst 0, 1) := by decide +kernel
theorem dX9_begin_31 : decode cX9_begin 31 = .ok (.istore_n 2, 1) := by decide +kernel
theorem dX9_begin_32 : decode cX9_begin 32 = .ok (.iload_n 2, 1) := by decide +kernel
theorem dX9_begin_33 : decode cX9_begin 33 = .ok (.bipush 9, 2) := by decide +kernel
theorem dX9_begin_35 : decode cX9_begin 35 = .ok (.if_icmp .ge 17, 3) := by decide +kernel
theorem dX9_begin_38 : decode cX9_begin 38 = .ok (.aload_n 0, 1) := by decide +kernel
theorem dX9_begin_39 : decode cX9_begin 39 = .ok (.getfield 18, 3) := by decide +kernel
theorem dX9_begin_42 : decode cX9_begin 42 = .ok (.iload_n 2, 1) := by decide +kernel
theorem dX9_begin_43 : decode cX9_begin 43 = .ok (.bipush (-6), 2) := by decide +kernel
theorem dX9_begin_45 : decode cX9_begin 45 = .ok (.iastore, 1) := by decide +kernel
theorem dX9_begin_46 : decode cX9_begin 46 = .ok (.iinc 2 1, 3) := by decide +kernel
theorem dX9_begin_49 : decode cX9_begin 49 = .ok (.goto (-17), 3) := by decide +kernel
theorem dX9_begin_52 : decode cX9_begin 52 = .ok (.return_, 1) := by decide +kernel
set_option maxRecDepth 20000 in
theorem ggX9_putChalk_X2_chalkFor : GoodIn wsX9_putChalk wsX2_chalkFor := goodIn_r _ [10, 11, 12, 13, 14, 9, 15, 16, 17, 18, 19, 20, 21, 22, 23, 24, 25, 34, 35, 36, 37, 38, 39, 40, 41] (by decide +kernel) (by decide +kernel)
set_option maxRecDepth 20000 in
theorem gX9_putChalk_X2_chalkFor : GoodIn wsX9_putChalk (wsV RX9 76 RX2 yX2_chalkFor wsX2_chalkFor) := goodIn_app (goodIn_of _ (by decide +kernel)) ggX9_putChalk_X2_chalkFor
set_option maxRecDepth 20000 in
theorem ggX9_putChalk_X5_leftOver : GoodIn wsX9_putChalk wsX5_leftOver := goodIn_r _ [25] (by decide +kernel) (by decide +kernel)
set_option maxRecDepth 20000 in
theorem gX9_putChalk_X5_leftOver : GoodIn wsX9_putChalk (va_wsS RX9 79 yX5_leftOver wsX5_leftOver) := goodIn_app (goodIn_of _ (by decide +kernel)) ggX9_putChalk_X5_leftOver
set_option maxRecDepth 20000 in
theorem ggX9_putChalk_X2_inclineOf : GoodIn wsX9_putChalk wsX2_inclineOf := goodIn_r _ [15, 16, 17, 18, 19, 9, 20, 21, 34, 35, 36, 37, 38, 39, 40, 41] (by decide +kernel) (by decide +kernel)
set_option maxRecDepth 20000 in
theorem gX9_putChalk_X2_inclineOf : GoodIn wsX9_putChalk (wsV RX9 84 RX2 yX2_inclineOf wsX2_inclineOf) := goodIn_app (goodIn_of _ (by decide +kernel)) ggX9_putChalk_X2_inclineOf
theorem dX9_putChalk_0 : decode cX9_putChalk 0 = .ok (.iload_n 1, 1) := by decide +kernel
theorem dX9_putChalk_1 : decode cX9_putChalk 1 = .ok (.ifCond .lt 9, 3) := by decide +kernel
theorem dX9_putChalk_4 : decode cX9_putChalk 4 = .ok (.iload_n 1, 1) := by decide +kernel
theorem dX9_putChalk_5 : decode cX9_putChalk 5 = .ok (.bipush 9, 2) := by decide +kernel
theorem dX9_putChalk_7 : decode cX9_putChalk 7 = .ok (.if_icmp .lt 4, 3) := by decide +kernel
theorem dX9_putChalk_10 : decode cX9_putChalk 10 = .ok (.return_, 1) := by decide +kernel
theorem dX9_putChalk_11 : decode cX9_putChalk 11 = .ok (.aload_n 0, 1) := by decide +kernel
theorem dX9_putChalk_12 : decode cX9_putChalk 12 = .ok (.getfield 12, 3) := by decide +kernel
theorem dX9_putChalk_15 : decode cX9_putChalk 15 = .ok (.iload_n 1, 1) := by decide +kernel
theorem dX9_putChalk_16 : decode cX9_putChalk 16 = .ok (.invokevirtual 76, 3) := by decide +kernel
theorem dX9_putChalk_19 : decode cX9_putChalk 19 = .ok (.istore_n 3, 1) := by decide +kernel
theorem dX9_putChalk_20 : decode cX9_putChalk 20 = .ok (.aload_n 0, 1) := by decide +kernel
theorem dX9_putChalk_21 : decode cX9_putChalk 21 = .ok (.getfield 18, 3) := by decide +kernel
theorem dX9_putChalk_24 : decode cX9_putChalk 24 = .ok (.iload_n 1, 1) := by decide +kernel
theorem dX9_putChalk_25 : decode cX9_putChalk 25 = .ok (.iload_n 2, 1) := by decide +kernel
theorem dX9_putChalk_26 : decode cX9_putChalk 26 = .ok (.ifCond .eq 14, 3) := by decide +kernel
theorem dX9_putChalk_29 : decode cX9_putChalk 29 = .ok (.sipush 180, 3) := by decide +kernel
theorem dX9_putChalk_32 : decode cX9_putChalk 32 = .ok (.iload_n 3, 1) := by decide +kernel
theorem dX9_putChalk_33 : decode cX9_putChalk 33 = .ok (.isub, 1) := by decide +kernel
theorem dX9_putChalk_34 : decode cX9_putChalk 34 = .ok (.invokestatic 79, 3) := by decide +kernel
theorem dX9_putChalk_37 : decode cX9_putChalk 37 = .ok (.goto 4, 3) := by decide +kernel
theorem dX9_putChalk_40 : decode cX9_putChalk 40 = .ok (.iload_n 3, 1) := by decide +kernel
theorem dX9_putChalk_41 : decode cX9_putChalk 41 = .ok (.iastore, 1) := by decide +kernel
theorem dX9_putChalk_42 : decode cX9_putChalk 42 = .ok (.aload_n 0, 1) := by decide +kernel
theorem dX9_putChalk_43 : decode cX9_putChalk 43 = .ok (.getfield 18, 3) := by decide +kernel
theorem dX9_putChalk_46 : decode cX9_putChalk 46 = .ok (.iload_n 1, 1) := by decide +kernel
theorem dX9_putChalk_47 : decode cX9_putChalk 47 = .ok (.iaload, 1) := by decide +kernel
theorem dX9_putChalk_48 : decode cX9_putChalk 48 = .ok (.aload_n 0, 1) := by decide +kernel
theorem dX9_putChalk_49 : decode cX9_putChalk 49 = .ok (.getfield 12, 3) := by decide +kernel
theorem dX9_putChalk_52 : decode cX9_putChalk 52 = .ok (.iload_n 1, 1) := by decide +kernel
theorem dX9_putChalk_53 : decode cX9_putChalk 53 = .ok (.invokevirtual 84, 3) := by decide +kernel
theorem dX9_putChalk_56 : decode cX9_putChalk 56 = .ok (.if_icmp .eq 25, 3) := by decide +kernel
theorem dX9_putChalk_59 : decode cX9_putChalk 59 = .ok (.aload_n 0, 1) := by decide +kernel
theorem dX9_putChalk_60 : decode cX9_putChalk 60 = .ok (.getfield 70, 3) := by decide +kernel
theorem dX9_putChalk_63 : decode cX9_putChalk 63 = .ok (.bipush (-6), 2) := by decide +kernel
theorem dX9_putChalk_65 : decode cX9_putChalk 65 = .ok (.if_icmp .ne 16, 3) := by decide +kernel
theorem dX9_putChalk_68 : decode cX9_putChalk 68 = .ok (.aload_n 0, 1) := by decide +kernel
theorem dX9_putChalk_69 : decode cX9_putChalk 69 = .ok (.aload_n 0, 1) := by decide +kernel
theorem dX9_putChalk_70 : decode cX9_putChalk 70 = .ok (.getfield 57, 3) := by decide +kernel
theorem dX9_putChalk_73 : decode cX9_putChalk 73 = .ok (.putfield 70, 3) := by decide +kernel
theorem dX9_putChalk_76 : decode cX9_putChalk 76 = .ok (.aload_n 0, 1) := by decide +kernel
theorem dX9_putChalk_77 : decode cX9_putChalk 77 = .ok (.iload_n 1, 1) := by decide +kernel
theorem dX9_putChalk_78 : decode cX9_putChalk 78 = .ok (.putfield 73, 3) := by decide +kernel
theorem dX9_putChalk_81 : decode cX9_putChalk 81 = .ok (.return_, 1) := by decide +kernel
theorem dX9_kindOfLot_0 : decode cX9_kindOfLot 0 = .ok (.iload_n 0, 1) := by decide +kernel
theorem dX9_kindOfLot_1 : decode cX9_kindOfLot 1 = .ok (.tableswitch 47 0 4 #[35, 35, 38, 41, 44], 35) := by decide +kernel
theorem dX9_kindOfLot_36 : decode cX9_kindOfLot 36 = .ok (.bipush 43, 2) := by decide +kernel
theorem dX9_kindOfLot_38 : decode cX9_kindOfLot 38 = .ok (.ireturn, 1) := by decide +kernel
theorem dX9_kindOfLot_39 : decode cX9_kindOfLot 39 = .ok (.bipush 45, 2) := by decide +kernel
theorem dX9_kindOfLot_41 : decode cX9_kindOfLot 41 = .ok (.ireturn, 1) := by decide +kernel
theorem dX9_kindOfLot_42 : decode cX9_kindOfLot 42 = .ok (.bipush 38, 2) := by decide +kernel
theorem dX9_kindOfLot_44 : decode cX9_kindOfLot 44 = .ok (.ireturn, 1) := by decide +kernel
theorem dX9_kindOfLot_45 : decode cX9_kindOfLot 45 = .ok (.bipush 47, 2) := by decide +kernel
theorem dX9_kindOfLot_47 : decode cX9_kindOfLot 47 = .ok (.ireturn, 1) := by decide +kernel
theorem dX9_kindOfLot_48 : decode cX9_kindOfLot 48 = .ok (.bipush 46, 2) := by decide +kernel
theorem dX9_kindOfLot_50 : decode cX9_kindOfLot 50 = .ok (.ireturn, 1) := by decide +kernel
