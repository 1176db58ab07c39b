theorem dX11_init_0 : decode cX11_init 0 = .ok (.aload_n 0, 1) := by decide +kernel
theorem dX11_init_1 : decode cX11_init 1 = .ok (.invokespecial 1, 3) := by decide +kernel
theorem dX11_init_4 : decode cX11_init 4 = .ok (.aload_n 0, 1) := by decide +kernel
theorem dX11_init_5 : decode cX11_init 5 = .ok (.bipush 29, 2) := by decide +kernel
theorem dX11_init_7 : decode cX11_init 7 = .ok (.newarray .int, 2) := by decide +kernel
theorem dX11_init_9 : decode cX11_init 9 = .ok (.putfield 7, 3) := by decide +kernel
theorem dX11_init_12 : decode cX11_init 12 = .ok (.aload_n 0, 1) := by decide +kernel
theorem dX11_init_13 : decode cX11_init 13 = .ok (.bipush 29, 2) := by decide +kernel
theorem dX11_init_15 : decode cX11_init 15 = .ok (.newarray .int, 2) := by decide +kernel
theorem dX11_init_17 : decode cX11_init 17 = .ok (.putfield 13, 3) := by decide +kernel
theorem dX11_init_20 : decode cX11_init 20 = .ok (.aload_n 0, 1) := by decide +kernel
theorem dX11_init_21 : decode cX11_init 21 = .ok (.bipush 9, 2) := by decide +kernel
theorem dX11_init_23 : decode cX11_init 23 = .ok (.newarray .int, 2) := by decide +kernel
theorem dX11_init_25 : decode cX11_init 25 = .ok (.putfield 16, 3) := by decide +kernel
theorem dX11_init_28 : decode cX11_init 28 = .ok (.aload_n 0, 1) := by decide +kernel
theorem dX11_init_29 : decode cX11_init 29 = .ok (.bipush 9, 2) := by decide +kernel
theorem dX11_init_31 : decode cX11_init 31 = .ok (.newarray .int, 2) := by decide +kernel
theorem dX11_init_33 : decode cX11_init 33 = .ok (.putfield 19, 3) := by decide +kernel
theorem dX11_init_36 : decode cX11_init 36 = .ok (.aload_n 0, 1) := by decide +kernel
theorem dX11_init_37 : decode cX11_init 37 = .ok (.bipush 16, 2) := by decide +kernel
theorem dX11_init_39 : decode cX11_init 39 = .ok (.newarray .int, 2) := by decide +kernel
theorem dX11_init_41 : decode cX11_init 41 = .ok (.putfield 22, 3) := by decide +kernel
theorem dX11_init_44 : decode cX11_init 44 = .ok (.aload_n 0, 1) := by decide +kernel
theorem dX11_init_45 : decode cX11_init 45 = .ok (.bipush 60, 2) := by decide +kernel
theorem dX11_init_47 : decode cX11_init 47 = .ok (.newarray .int, 2) := by decide +kernel
theorem dX11_init_49 : decode cX11_init 49 = .ok (.putfield 25, 3) := by decide +kernel
theorem dX11_init_52 : decode cX11_init 52 = .ok (.aload_n 0, 1) := by decide +kernel
theorem dX11_init_53 : decode cX11_init 53 = .ok (.sipush 180, 3) := by decide +kernel
theorem dX11_init_56 : decode cX11_init 56 = .ok (.newarray .int, 2) := by decide +kernel
theorem dX11_init_58 : decode cX11_init 58 = .ok (.putfield 28, 3) := by decide +kernel
theorem dX11_init_61 : decode cX11_init 61 = .ok (.aload_n 0, 1) := by decide +kernel
theorem dX11_init_62 : decode cX11_init 62 = .ok (.sipush 180, 3) := by decide +kernel
theorem dX11_init_65 : decode cX11_init 65 = .ok (.newarray .int, 2) := by decide +kernel
theorem dX11_init_67 : decode cX11_init 67 = .ok (.putfield 31, 3) := by decide +kernel
theorem dX11_init_70 : decode cX11_init 70 = .ok (.aload_n 0, 1) := by decide +kernel
theorem dX11_init_71 : decode cX11_init 71 = .ok (.sipush 180, 3) := by decide +kernel
theorem dX11_init_74 : decode cX11_init 74 = .ok (.newarray .int, 2) := by decide +kernel
theorem dX11_init_76 : decode cX11_init 76 = .ok (.putfield 34, 3) := by decide +kernel
theorem dX11_init_79 : decode cX11_init 79 = .ok (.aload_n 0, 1) := by decide +kernel
theorem dX11_init_80 : decode cX11_init 80 = .ok (.sipush 3600, 3) := by decide +kernel
theorem dX11_init_83 : decode cX11_init 83 = .ok (.newarray .int, 2) := by decide +kernel
theorem dX11_init_85 : decode cX11_init 85 = .ok (.putfield 37, 3) := by decide +kernel
theorem dX11_init_88 : decode cX11_init 88 = .ok (.aload_n 0, 1) := by decide +kernel
theorem dX11_init_89 : decode cX11_init 89 = .ok (.sipush 180, 3) := by decide +kernel
theorem dX11_init_92 : decode cX11_init 92 = .ok (.newarray .boolean, 2) := by decide +kernel
theorem dX11_init_94 : decode cX11_init 94 = .ok (.putfield 40, 3) := by decide +kernel
theorem dX11_init_97 : decode cX11_init 97 = .ok (.aload_n 0, 1) := by decide +kernel
theorem dX11_init_98 : decode cX11_init 98 = .ok (.bipush 12, 2) := by decide +kernel
theorem dX11_init_100 : decode cX11_init 100 = .ok (.newarray .long, 2) := by decide +kernel
theorem dX11_init_102 : decode cX11_init 102 = .ok (.putfield 44, 3) := by decide +kernel
theorem dX11_init_105 : decode cX11_init 105 = .ok (.aload_n 0, 1) := by decide +kernel
theorem dX11_init_106 : decode cX11_init 106 = .ok (.bipush 12, 2) := by decide +kernel
theorem dX11_init_108 : decode cX11_init 108 = .ok (.newarray .long, 2) := by decide +kernel
theorem dX11_init_110 : decode cX11_init 110 = .ok (.putfield 48, 3) := by decide +kernel
theorem dX11_init_113 : decode cX11_init 113 = .ok (.aload_n 0, 1) := by decide +kernel
theorem dX11_init_114 : decode cX11_init 114 = .ok (.bipush 120, 2) := by decide +kernel
theorem dX11_init_116 : decode cX11_init 116 = .ok (.newarray .int, 2) := by decide +kernel
theorem dX11_init_118 : decode cX11_init 118 = .ok (.putfield 51, 3) := by decide +kernel
theorem dX11_init_121 : decode cX11_init 121 = .ok (.aload_n 0, 1) := by decide +kernel
theorem dX11_init_122 : decode cX11_init 122 = .ok (.iconst 2, 1) := by decide +kernel
theorem dX11_init_123 : decode cX11_init 123 = .ok (.newarray .boolean, 2) := by decide +kernel
theorem dX11_init_125 : decode cX11_init 125 = .ok (.putfield 54, 3) := by decide +kernel
theorem dX11_init_128 : decode cX11_init 128 = .ok (.iconst 0, 1) := by decide +kernel
theorem dX11_init_129 : decode cX11_init 129 = .ok (.istore_n 1, 1) := by decide +kernel
theorem dX11_init_130 : decode cX11_init 130 = .ok (.iload_n 1, 1) := by decide +kernel
theorem dX11_init_131 : decode cX11_init 131 = .ok (.bipush 9, 2) := by decide +kernel
theorem dX11_init_133 : decode cX11_init 133 = .ok (.if_icmp .ge 31, 3) := by decide +kernel
theorem dX11_init_136 : decode cX11_init 136 = .ok (.aload_n 0, 1) := by decide +kernel
theorem dX11_init_137 : decode cX11_init 137 = .ok (.getfield 7, 3) := by decide +kernel
theorem dX11_init_140 : decode cX11_init 140 = .ok (.bipush 9, 2) := by decide +kernel
theorem dX11_init_142 : decode cX11_init 142 = .ok (.iload_n 1, 1) := by decide +kernel
theorem dX11_init_143 : decode cX11_init 143 = .ok (.iadd, 1) := by decide +kernel
theorem dX11_init_144 : decode cX11_init 144 = .ok (.bipush (-6), 2) := by decide +kernel
theorem dX11_init_146 : decode cX11_init 146 = .ok (.iastore, 1) := by decide +kernel
theorem dX11_init_147 : decode cX11_init 147 = .ok (.aload_n 0, 1) := by decide +kernel
theorem dX11_init_148 : decode cX11_init 148 = .ok (.getfield 7, 3) := by decide +kernel
theorem dX11_init_151 : decode cX11_init 151 = .ok (.bipush 18, 2) := by decide +kernel
theorem dX11_init_153 : decode cX11_init 153 = .ok (.iload_n 1, 1) := by decide +kernel
theorem dX11_init_154 : decode cX11_init 154 = .ok (.iadd, 1) := by decide +kernel
theorem dX11_init_155 : decode cX11_init 155 = .ok (.bipush (-6), 2) := by decide +kernel
theorem dX11_init_157 : decode cX11_init 157 = .ok (.iastore, 1) := by decide +kernel
theorem dX11_init_158 : decode cX11_init 158 = .ok (.iinc 1 1, 3) := by decide +kernel
theorem dX11_init_161 : decode cX11_init 161 = .ok (.goto (-31), 3) := by decide +kernel
theorem dX11_init_164 : decode cX11_init 164 = .ok (.return_, 1) := by decide +kernel
theorem dX11_in_0 : decode cX11_in 0 = .ok (.iload_n 0, 1) := by decide +kernel
theorem dX11_in_1 : decode cX11_in 1 = .ok (.iload_n 1, 1) := by decide +kernel
theorem dX11_in_2 : decode cX11_in 2 = .ok (.if_icmp .lt 12, 3) := by decide +kernel
theorem dX11_in_5 : decode cX11_in 5 = .ok (.iload_n 0, 1) := by decide +kernel
theorem dX11_in_6 : decode cX11_in 6 = .ok (.iload_n 2, 1) := by decide +kernel
theorem dX11_in_7 : decode cX11_in 7 = .ok (.if_icmp .gt 7, 3) := by decide +kernel
theorem dX11_in_10 : decode cX11_in 10 = .ok (.iconst 1, 1) := by decide +kernel
theorem dX11_in_11 : decode cX11_in 11 = .ok (.goto 4, 3) := by decide +kernel
theorem dX11_in_14 : decode cX11_in 14 = .ok (.iconst 0, 1) := by decide +kernel
theorem dX11_in_15 : decode cX11_in 15 = .ok (.ireturn, 1) := by decide +kernel
theorem dX11_has_0 : decode cX11_has 0 = .ok (.iload_n 0, 1) := by decide +kernel
theorem dX11_has_1 : decode cX11_has 1 = .ok (.iload_n 1, 1) := by decide +kernel
theorem dX11_has_2 : decode cX11_has 2 = .ok (.ishr, 1) := by decide +kernel
theorem dX11_has_3 : decode cX11_has 3 = .ok (.iconst 1, 1) := by decide +kernel
theorem dX11_has_4 : decode cX11_has 4 = .ok (.iand, 1) := by decide +kernel
theorem dX11_has_5 : decode cX11_has 5 = .ok (.iconst 1, 1) := by decide +kernel
theorem dX11_has_6 : decode cX11_has 6 = .ok (.if_icmp .ne 7, 3) := by decide +kernel
theorem dX11_has_9 : decode cX11_has 9 = .ok (.iconst 1, 1) := by decide +kernel
theorem dX11_has_10 : decode cX11_has 10 = .ok (.goto 4, 3) := by decide +kernel
theorem dX11_has_13 : decode cX11_has 13 = .ok (.iconst 0, 1) := by decide +kernel
theorem dX11_has_14 : decode cX11_has 14 = .ok (.ireturn, 1) := by decide +kernel
theorem dX11_bits_0 : decode cX11_bits 0 = .ok (.iconst 0, 1) := by decide +kernel
theorem dX11_bits_1 : decode cX11_bits 1 = .ok (.istore_n 1, 1) := by decide +kernel
theorem dX11_bits_2 : decode cX11_bits 2 = .ok (.iconst 0, 1) := by decide +kernel
theorem dX11_bits_3 : decode cX11_bits 3 = .ok (.istore_n 2, 1) := by decide +kernel
theorem dX11_bits_4 : decode cX11_bits 4 = .ok (.iload_n 2, 1) := by decide +kernel
theorem dX11_bits_5 : decode cX11_bits 5 = .ok (.bipush 9, 2) := by decide +kernel
theorem dX11_bits_7 : decode cX11_bits 7 = .ok (.if_icmp .ge 17, 3) := by decide +kernel
theorem dX11_bits_10 : decode cX11_bits 10 = .ok (.iload_n 1, 1) := by decide +kernel
theorem dX11_bits_11 : decode cX11_bits 11 = .ok (.iload_n 0, 1) := by decide +kernel
theorem dX11_bits_12 : decode cX11_bits 12 = .ok (.iload_n 2, 1) := by decide +kernel
theorem dX11_bits_13 : decode cX11_bits 13 = .ok (.ishr, 1) := by decide +kernel
theorem dX11_bits_14 : decode cX11_bits 14 = .ok (.iconst 1, 1) := by decide +kernel
theorem dX11_bits_15 : decode cX11_bits 15 = .ok (.iand, 1) := by decide +kernel
theorem dX11_bits_16 : decode cX11_bits 16 = .ok (.iadd, 1) := by decide +kernel
theorem dX11_bits_17 : decode cX11_bits 17 = .ok (.istore_n 1, 1) := by decide +kernel
theorem dX11_bits_18 : decode cX11_bits 18 = .ok (.iinc 2 1, 3) := by decide +kernel
theorem dX11_bits_21 : decode cX11_bits 21 = .ok (.goto (-17), 3) := by decide +kernel
theorem dX11_bits_24 : decode cX11_bits 24 = .ok (.iload_n 1, 1) := by decide +kernel
theorem dX11_bits_25 : decode cX11_bits 25 = .ok (.ireturn, 1) := by decide +kernel
theorem dX11_over_0 : decode cX11_over 0 = .ok (.iload_n 0, 1) := by decide +kernel
theorem dX11_over_1 : decode cX11_over 1 = .ok (.sipush 180, 3) := by decide +kernel
theorem dX11_over_4 : decode cX11_over 4 = .ok (.irem, 1) := by decide +kernel
theorem dX11_over_5 : decode cX11_over 5 = .ok (.sipush 180, 3) := by decide +kernel
theorem dX11_over_8 : decode cX11_over 8 = .ok (.iadd, 1) := by decide +kernel
theorem dX11_over_9 : decode cX11_over 9 = .ok (.sipush 180, 3) := by decide +kernel
theorem dX11_over_12 : decode cX11_over 12 = .ok (.irem, 1) := by decide +kernel
theorem dX11_over_13 : decode cX11_over 13 = .ok (.ireturn, 1) := by decide +kernel
set_option maxRecDepth 20000 in
theorem ggX11_apartOf_X11_over : GoodIn wsX11_apartOf wsX11_over := goodIn_r _ [4] (by decide +kernel) (by decide +kernel)
set_option maxRecDepth 20000 in
theorem gX11_apartOf_X11_over : GoodIn wsX11_apartOf (va_wsS RX11 57 yX11_over wsX11_over) := goodIn_app (goodIn_of _ (by decide +kernel)) ggX11_apartOf_X11_over
theorem dX11_apartOf_0 : decode cX11_apartOf 0 = .ok (.iload_n 0, 1) := by decide +kernel
theorem dX11_apartOf_1 : decode cX11_apartOf 1 = .ok (.iload_n 1, 1) := by decide +kernel
theorem dX11_apartOf_2 : decode cX11_apartOf 2 = .ok (.isub, 1) := by decide +kernel
theorem dX11_apartOf_3 : decode cX11_apartOf 3 = .ok (.invokestatic 57, 3) := by decide +kernel
theorem dX11_apartOf_6 : decode cX11_apartOf 6 = .ok (.istore_n 2, 1) := by decide +kernel
theorem dX11_apartOf_7 : decode cX11_apartOf 7 = .ok (.iload_n 2, 1) := by decide +kernel
theorem dX11_apartOf_8 : decode cX11_apartOf 8 = .ok (.bipush 90, 2) := by decide +kernel
theorem dX11_apartOf_10 : decode cX11_apartOf 10 = .ok (.if_icmp .le 11, 3) := by decide +kernel
theorem dX11_apartOf_13 : decode cX11_apartOf 13 = .ok (.sipush 180, 3) := by decide +kernel
theorem dX11_apartOf_16 : decode cX11_apartOf 16 = .ok (.iload_n 2, 1) := by decide +kernel
theorem dX11_apartOf_17 : decode cX11_apartOf 17 = .ok (.isub, 1) := by decide +kernel
theorem dX11_apartOf_18 : decode cX11_apartOf 18 = .ok (.goto 4, 3) := by decide +kernel
theorem dX11_apartOf_21 : decode cX11_apartOf 21 = .ok (.iload_n 2, 1) := by decide +kernel
theorem dX11_apartOf_22 : decode cX11_apartOf 22 = .ok (.ireturn, 1) := by decide +kernel
set_option maxRecDepth 20000 in
theorem ggX11_isThere_X11_in : GoodIn wsX11_isThere wsX11_in := goodIn_r _ [5] (by decide +kernel) (by decide +kernel)
set_option maxRecDepth 20000 in
theorem gX11_isThere_X11_in : GoodIn wsX11_isThere (va_wsS RX11 61 yX11_in wsX11_in) := goodIn_app (goodIn_of _ (by decide +kernel)) ggX11_isThere_X11_in
set_option maxRecDepth 20000 in
theorem ggX11_isThere_X11_has : GoodIn wsX11_isThere wsX11_has := goodIn_r _ [8] (by decide +kernel) (by decide +kernel)
set_option maxRecDepth 20000 in
theorem gX11_isThere_X11_has : GoodIn wsX11_isThere (va_wsS RX11 69 yX11_has wsX11_has) := goodIn_app (goodIn_of _ (by decide +kernel)) ggX11_isThere_X11_has
theorem dX11_isThere_0 : decode cX11_isThere 0 = .ok (.iload_n 1, 1) := by decide +kernel
theorem dX11_isThere_1 : decode cX11_isThere 1 = .ok (.iconst 0, 1) := by decide +kernel
theorem dX11_isThere_2 : decode cX11_isThere 2 = .ok (.bipush 8, 2) := by decide +kernel
theorem dX11_isThere_4 : decode cX11_isThere 4 = .ok (.invokestatic 61, 3) := by decide +kernel
theorem dX11_isThere_7 : decode cX11_isThere 7 = .ok (.ifCond .eq 18, 3) := by decide +kernel
theorem dX11_isThere_10 : decode cX11_isThere 10 = .ok (.aload_n 0, 1) := by decide +kernel
theorem dX11_isThere_11 : decode cX11_isThere 11 = .ok (.getfield 65, 3) := by decide +kernel
theorem dX11_isThere_14 : decode cX11_isThere 14 = .ok (.iload_n 1, 1) := by decide +kernel
theorem dX11_isThere_15 : decode cX11_isThere 15 = .ok (.invokestatic 69, 3) := by decide +kernel
theorem dX11_isThere_18 : decode cX11_isThere 18 = .ok (.ifCond .eq 7, 3) := by decide +kernel
theorem dX11_isThere_21 : decode cX11_isThere 21 = .ok (.iconst 1, 1) := by decide +kernel
theorem dX11_isThere_22 : decode cX11_isThere 22 = .ok (.goto 4, 3) := by decide +kernel
theorem dX11_isThere_25 : decode cX11_isThere 25 = .ok (.iconst 0, 1) := by decide +kernel
theorem dX11_isThere_26 : decode cX11_isThere 26 = .ok (.ireturn, 1) := by decide +kernel
set_option maxRecDepth 20000 in
theorem ggX11_one_X11_in : GoodIn wsX11_one wsX11_in := goodIn_r _ [7] (by decide +kernel) (by decide +kernel)
set_option maxRecDepth 20000 in
theorem gX11_one_X11_in : GoodIn wsX11_one (va_wsS RX11 61 yX11_in wsX11_in) := goodIn_app (goodIn_of _ (by decide +kernel)) ggX11_one_X11_in
set_option maxRecDepth 20000 in
theorem ggX11_one_X11_isThere : GoodIn wsX11_one wsX11_isThere := goodIn_r _ [11, 3, 4, 5, 6, 7, 12, 13, 14, 18, 19, 20, 21, 22, 23, 24, 25, 26, 27, 28, 29, 30, 31, 32, 33, 34, 35, 36, 37, 38, 39, 40] (by decide +kernel) (by decide +kernel)
set_option maxRecDepth 20000 in
theorem gX11_one_X11_isThere : GoodIn wsX11_one (wsV RX11 73 RX11 yX11_isThere wsX11_isThere) := goodIn_app (goodIn_of _ (by decide +kernel)) ggX11_one_X11_isThere
set_option maxRecDepth 20000 in
theorem ggX11_one_X11_bits : GoodIn wsX11_one wsX11_bits := goodIn_r _ [17] (by decide +kernel) (by decide +kernel)
set_option maxRecDepth 20000 in
theorem gX11_one_X11_bits : GoodIn wsX11_one (va_wsS RX11 77 yX11_bits wsX11_bits) := goodIn_app (goodIn_of _ (by decide +kernel)) ggX11_one_X11_bits
theorem dX11_one_0 : decode cX11_one 0 = .ok (.iload_n 1, 1) := by decide +kernel
theorem dX11_one_1 : decode cX11_one 1 = .ok (.iconst 0, 1) := by decide +kernel
theorem dX11_one_2 : decode cX11_one 2 = .ok (.bipush 8, 2) := by decide +kernel
theorem dX11_one_4 : decode cX11_one 4 = .ok (.invokestatic 61, 3) := by decide +kernel
theorem dX11_one_7 : decode cX11_one 7 = .ok (.ifCond .ne 5, 3) := by decide +kernel
theorem dX11_one_10 : decode cX11_one 10 = .ok (.iconst (-1), 1) := by decide +kernel
theorem dX11_one_11 : decode cX11_one 11 = .ok (.ireturn, 1) := by decide +kernel
theorem dX11_one_12 : decode cX11_one 12 = .ok (.iload_n 2, 1) := by decide +kernel
theorem dX11_one_13 : decode cX11_one 13 = .ok (.iconst 0, 1) := by decide +kernel
theorem dX11_one_14 : decode cX11_one 14 = .ok (.sipush 179, 3) := by decide +kernel
theorem dX11_one_17 : decode cX11_one 17 = .ok (.invokestatic 61, 3) := by decide +kernel
theorem dX11_one_20 : decode cX11_one 20 = .ok (.ifCond .eq 14, 3) := by decide +kernel
theorem dX11_one_23 : decode cX11_one 23 = .ok (.iload_n 3, 1) := by decide +kernel
theorem dX11_one_24 : decode cX11_one 24 = .ok (.bipush (-9), 2) := by decide +kernel
theorem dX11_one_26 : decode cX11_one 26 = .ok (.bipush 9, 2) := by decide +kernel
theorem dX11_one_28 : decode cX11_one 28 = .ok (.invokestatic 61, 3) := by decide +kernel
theorem dX11_one_31 : decode cX11_one 31 = .ok (.ifCond .ne 6, 3) := by decide +kernel
theorem dX11_one_34 : decode cX11_one 34 = .ok (.bipush (-2), 2) := by decide +kernel
theorem dX11_one_36 : decode cX11_one 36 = .ok (.ireturn, 1) := by decide +kernel
theorem dX11_one_37 : decode cX11_one 37 = .ok (.aload_n 0, 1) := by decide +kernel
theorem dX11_one_38 : decode cX11_one 38 = .ok (.iload_n 1, 1) := by decide +kernel
theorem dX11_one_39 : decode cX11_one 39 = .ok (.invokevirtual 73, 3) := by decide +kernel
theorem dX11_one_42 : decode cX11_one 42 = .ok (.ifCond .eq 34, 3) := by decide +kernel
theorem dX11_one_45 : decode cX11_one 45 = .ok (.aload_n 0, 1) := by decide +kernel
theorem dX11_one_46 : decode cX11_one 46 = .ok (.getfield 7, 3) := by decide +kernel
theorem dX11_one_49 : decode cX11_one 49 = .ok (.bipush 9, 2) := by decide +kernel
theorem dX11_one_51 : decode cX11_one 51 = .ok (.iload_n 1, 1) := by decide +kernel
theorem dX11_one_52 : decode cX11_one 52 = .ok (.iadd, 1) := by decide +kernel
theorem dX11_one_53 : decode cX11_one 53 = .ok (.iaload, 1) := by decide +kernel
theorem dX11_one_54 : decode cX11_one 54 = .ok (.ifCond .lt 22, 3) := by decide +kernel
theorem dX11_one_57 : decode cX11_one 57 = .ok (.aload_n 0, 1) := by decide +kernel
theorem dX11_one_58 : decode cX11_one 58 = .ok (.getfield 7, 3) := by decide +kernel
theorem dX11_one_61 : decode cX11_one 61 = .ok (.bipush 9, 2) := by decide +kernel
theorem dX11_one_63 : decode cX11_one 63 = .ok (.aload_n 0, 1) := by decide +kernel
theorem dX11_one_64 : decode cX11_one 64 = .ok (.getfield 7, 3) := by decide +kernel
theorem dX11_one_67 : decode cX11_one 67 = .ok (.bipush 9, 2) := by decide +kernel
theorem dX11_one_69 : decode cX11_one 69 = .ok (.iload_n 1, 1) := by decide +kernel
theorem dX11_one_70 : decode cX11_one 70 = .ok (.iadd, 1) := by decide +kernel
theorem dX11_one_71 : decode cX11_one 71 = .ok (.iaload, 1) := by decide +kernel
theorem dX11_one_72 : decode cX11_one 72 = .ok (.iadd, 1) := by decide +kernel
theorem dX11_one_73 : decode cX11_one 73 = .ok (.bipush (-6), 2) := by decide +kernel
theorem dX11_one_75 : decode cX11_one 75 = .ok (.iastore, 1) := by decide +kernel
theorem dX11_one_76 : decode cX11_one 76 = .ok (.aload_n 0, 1) := by decide +kernel
theorem dX11_one_77 : decode cX11_one 77 = .ok (.getfield 7, 3) := by decide +kernel
theorem dX11_one_80 : decode cX11_one 80 = .ok (.bipush 9, 2) := by decide +kernel
theorem dX11_one_82 : decode cX11_one 82 = .ok (.iload_n 1, 1) := by decide +kernel
theorem dX11_one_83 : decode cX11_one 83 = .ok (.iadd, 1) := by decide +kernel
theorem dX11_one_84 : decode cX11_one 84 = .ok (.bipush (-6), 2) := by decide +kernel
theorem dX11_one_86 : decode cX11_one 86 = .ok (.iastore, 1) := by decide +kernel
theorem dX11_one_87 : decode cX11_one 87 = .ok (.aload_n 0, 1) := by decide +kernel
theorem dX11_one_88 : decode cX11_one 88 = .ok (.getfield 7, 3) := by decide +kernel
theorem dX11_one_91 : decode cX11_one 91 = .ok (.iload_n 1, 1) := by decide +kernel
theorem dX11_one_92 : decode cX11_one 92 = .ok (.iload_n 2, 1) := by decide +kernel
theorem dX11_one_93 : decode cX11_one 93 = .ok (.iastore, 1) := by decide +kernel
theorem dX11_one_94 : decode cX11_one 94 = .ok (.aload_n 0, 1) := by decide +kernel
theorem dX11_one_95 : decode cX11_one 95 = .ok (.getfield 19, 3) := by decide +kernel
theorem dX11_one_98 : decode cX11_one 98 = .ok (.iload_n 1, 1) := by decide +kernel
theorem dX11_one_99 : decode cX11_one 99 = .ok (.iload_n 3, 1) := by decide +kernel
theorem dX11_one_100 : decode cX11_one 100 = .ok (.iastore, 1) := by decide +kernel
theorem dX11_one_101 : decode cX11_one 101 = .ok (.aload_n 0, 1) := by decide +kernel
theorem dX11_one_102 : decode cX11_one 102 = .ok (.dup, 1) := by decide +kernel
theorem dX11_one_103 : decode cX11_one 103 = .ok (.getfield 65, 3) := by decide +kernel
theorem dX11_one_106 : decode cX11_one 106 = .ok (.iconst 1, 1) := by decide +kernel
theorem dX11_one_107 : decode cX11_one 107 = .ok (.iload_n 1, 1) := by decide +kernel
theorem dX11_one_108 : decode cX11_one 108 = .ok (.ishl, 1) := by decide +kernel
theorem dX11_one_109 : decode cX11_one 109 = .ok (.ior, 1) := by decide +kernel
theorem dX11_one_110 : decode cX11_one 110 = .ok (.putfield 65, 3) := by decide +kernel
theorem dX11_one_113 : decode cX11_one 113 = .ok (.aload_n 0, 1) := by decide +kernel
theorem dX11_one_114 : decode cX11_one 114 = .ok (.getfield 65, 3) := by decide +kernel
theorem dX11_one_117 : decode cX11_one 117 = .ok (.invokestatic 77, 3) := by decide +kernel
theorem dX11_one_120 : decode cX11_one 120 = .ok (.ireturn, 1) := by decide +kernel
set_option maxRecDepth 20000 in
theorem ggX11_pairsOf_X11_isThere : GoodIn wsX11_pairsOf wsX11_isThere := goodIn_r _ [6, 7, 8, 9, 5, 10, 11, 12, 13, 14, 15, 16, 17, 18, 19, 20, 21, 22, 23, 24, 25, 26, 27, 28, 29, 30, 31, 32, 33, 34, 35, 36] (by decide +kernel) (by decide +kernel)
set_option maxRecDepth 20000 in
theorem gX11_pairsOf_X11_isThere : GoodIn wsX11_pairsOf (wsV RX11 73 RX11 yX11_isThere wsX11_isThere) := goodIn_app (goodIn_of _ (by decide +kernel)) ggX11_pairsOf_X11_isThere
theorem dX11_pairsOf_0 : decode cX11_pairsOf 0 = .ok (.iconst 0, 1) := by decide +kernel
theorem dX11_pairsOf_1 : decode cX11_pairsOf 1 = .ok (.istore_n 1, 1) := by decide +kernel
theorem dX11_pairsOf_2 : decode cX11_pairsOf 2 = .ok (.iconst 0, 1) := by decide +kernel
theorem dX11_pairsOf_3 : decode cX11_pairsOf 3 = .ok (.istore_n 2, 1) := by decide +kernel
theorem dX11_pairsOf_4 : decode cX11_pairsOf 4 = .ok (.iload_n 2, 1) := by decide +kernel
theorem dX11_pairsOf_5 : decode cX11_pairsOf 5 = .ok (.bipush 9, 2) := by decide +kernel
theorem dX11_pairsOf_7 : decode cX11_pairsOf 7 = .ok (.if_icmp .ge 37, 3) := by decide +kernel
theorem dX11_pairsOf_10 : decode cX11_pairsOf 10 = .ok (.iload_n 1, 1) := by decide +kernel
theorem dX11_pairsOf_11 : decode cX11_pairsOf 11 = .ok (.aload_n 0, 1) := by decide +kernel
theorem dX11_pairsOf_12 : decode cX11_pairsOf 12 = .ok (.iload_n 2, 1) := by decide +kernel
theorem dX11_pairsOf_13 : decode cX11_pairsOf 13 = .ok (.invokevirtual 73, 3) := by decide +kernel
theorem dX11_pairsOf_16 : decode cX11_pairsOf 16 = .ok (.ifCond .eq 19, 3) := by decide +kernel
theorem dX11_pairsOf_19 : decode cX11_pairsOf 19 = .ok (.aload_n 0, 1) := by decide +kernel
theorem dX11_pairsOf_20 : decode cX11_pairsOf 20 = .ok (.getfield 13, 3) := by decide +kernel
theorem dX11_pairsOf_23 : decode cX11_pairsOf 23 = .ok (.bipush 9, 2) := by decide +kernel
theorem dX11_pairsOf_25 : decode cX11_pairsOf 25 = .ok (.iload_n 2, 1) := by decide +kernel
theorem dX11_pairsOf_26 : decode cX11_pairsOf 26 = .ok (.iadd, 1) := by decide +kernel
theorem dX11_pairsOf_27 : decode cX11_pairsOf 27 = .ok (.iaload, 1) := by decide +kernel
theorem dX11_pairsOf_28 : decode cX11_pairsOf 28 = .ok (.ifCond .lt 7, 3) := by decide +kernel
theorem dX11_pairsOf_31 : decode cX11_pairsOf 31 = .ok (.iconst 1, 1) := by decide +kernel
theorem dX11_pairsOf_32 : decode cX11_pairsOf 32 = .ok (.goto 4, 3) := by decide +kernel
theorem dX11_pairsOf_35 : decode cX11_pairsOf 35 = .ok (.iconst 0, 1) := by decide +kernel
theorem dX11_pairsOf_36 : decode cX11_pairsOf 36 = .ok (.iadd, 1) := by decide +kernel
theorem dX11_pairsOf_37 : decode cX11_pairsOf 37 = .ok (.istore_n 1, 1) := by decide +kernel
theorem dX11_pairsOf_38 : decode cX11_pairsOf 38 = .ok (.iinc 2 1, 3) := by decide +kernel
theorem dX11_pairsOf_41 : decode cX11_pairsOf 41 = .ok (.goto (-37), 3) := by decide +kernel
theorem dX11_pairsOf_44 : decode cX11_pairsOf 44 = .ok (.iload_n 1, 1) := by decide +kernel
theorem dX11_pairsOf_45 : decode cX11_pairsOf 45 = .ok (.iconst 2, 1) := by decide +kernel
theorem dX11_pairsOf_46 : decode cX11_pairsOf 46 = .ok (.idiv, 1) := by decide +kernel
theorem dX11_pairsOf_47 : decode cX11_pairsOf 47 = .ok (.ireturn, 1) := by decide +kernel
set_option maxRecDepth 20000 in
theorem ggX11_pair_X11_isThere : GoodIn wsX11_pair wsX11_isThere := goodIn_r _ [6, 7, 8, 9, 5, 10, 11, 12, 13, 25, 26, 27, 28, 29, 30, 31, 32, 33, 34, 35, 36, 37, 38, 39, 40, 41, 42, 43, 44, 45, 46, 47] (by decide +kernel) (by decide +kernel)
set_option maxRecDepth 20000 in
theorem gX11_pair_X11_isThere : GoodIn wsX11_pair (wsV RX11 73 RX11 yX11_isThere wsX11_isThere) := goodIn_app (goodIn_of _ (by decide +kernel)) ggX11_pair_X11_isThere
set_option maxRecDepth 20000 in
theorem ggX11_pair_X11_asNow : GoodIn wsX11_pair wsX11_asNow := goodIn_r _ [17, 18, 1, 19, 20, 8, 9, 5, 10, 25, 26, 27, 28, 29, 30, 31, 32, 33, 34, 35, 36, 37, 38, 39, 40, 41, 42, 43, 44, 45, 46, 47] (by decide +kernel) (by decide +kernel)
set_option maxRecDepth 20000 in
theorem gX11_pair_X11_asNow : GoodIn wsX11_pair (wsV RX11 80 RX11 yX11_asNow wsX11_asNow) := goodIn_app (goodIn_of _ (by decide +kernel)) ggX11_pair_X11_asNow
set_option maxRecDepth 20000 in
theorem ggX11_pair_X11_pairsOf : GoodIn wsX11_pair wsX11_pairsOf := goodIn_r _ [24, 18, 2, 3, 4, 5, 6, 7, 8, 9, 10, 11, 12, 13, 25, 26, 27, 28, 29, 30, 31, 32, 33, 34, 35, 36, 37, 38, 39, 40, 41, 42, 43, 44, 45, 46, 47] (by decide +kernel) (by decide +kernel)
set_option maxRecDepth 20000 in
theorem gX11_pair_X11_pairsOf : GoodIn wsX11_pair (wsV RX11 83 RX11 yX11_pairsOf wsX11_pairsOf) := goodIn_app (goodIn_of _ (by decide +kernel)) ggX11_pair_X11_pairsOf
theorem dX11_pair_0 : decode cX11_pair 0 = .ok (.aload_n 0, 1) := by decide +kernel
theorem dX11_pair_1 : decode cX11_pair 1 = .ok (.iload_n 1, 1) := by decide +kernel
theorem dX11_pair_2 : decode cX11_pair 2 = .ok (.invokevirtual 73, 3) := by decide +kernel
theorem dX11_pair_5 : decode cX11_pair 5 = .ok (.ifCond .eq 16, 3) := by decide +kernel
theorem dX11_pair_8 : decode cX11_pair 8 = .ok (.aload_n 0, 1) := by decide +kernel
theorem dX11_pair_9 : decode cX11_pair 9 = .ok (.iload_n 2, 1) := by decide +kernel
theorem dX11_pair_10 : decode cX11_pair 10 = .ok (.invokevirtual 73, 3) := by decide +kernel
theorem dX11_pair_13 : decode cX11_pair 13 = .ok (.ifCond .eq 8, 3) := by decide +kernel
theorem dX11_pair_16 : decode cX11_pair 16 = .ok (.iload_n 1, 1) := by decide +kernel
theorem dX11_pair_17 : decode cX11_pair 17 = .ok (.iload_n 2, 1) := by decide +kernel
theorem dX11_pair_18 : decode cX11_pair 18 = .ok (.if_icmp .ne 5, 3) := by decide +kernel
theorem dX11_pair_21 : decode cX11_pair 21 = .ok (.iconst (-1), 1) := by decide +kernel
theorem dX11_pair_22 : decode cX11_pair 22 = .ok (.ireturn, 1) := by decide +kernel
theorem dX11_pair_23 : decode cX11_pair 23 = .ok (.iload_n 3, 1) := by decide +kernel
theorem dX11_pair_24 : decode cX11_pair 24 = .ok (.ifCond .eq 30, 3) := by decide +kernel
theorem dX11_pair_27 : decode cX11_pair 27 = .ok (.aload_n 0, 1) := by decide +kernel
theorem dX11_pair_28 : decode cX11_pair 28 = .ok (.getfield 7, 3) := by decide +kernel
theorem dX11_pair_31 : decode cX11_pair 31 = .ok (.bipush 9, 2) := by decide +kernel
theorem dX11_pair_33 : decode cX11_pair 33 = .ok (.iload_n 1, 1) := by decide +kernel
theorem dX11_pair_34 : decode cX11_pair 34 = .ok (.iadd, 1) := by decide +kernel
theorem dX11_pair_35 : decode cX11_pair 35 = .ok (.iaload, 1) := by decide +kernel
theorem dX11_pair_36 : decode cX11_pair 36 = .ok (.ifCond .ge 31, 3) := by decide +kernel
theorem dX11_pair_39 : decode cX11_pair 39 = .ok (.aload_n 0, 1) := by decide +kernel
theorem dX11_pair_40 : decode cX11_pair 40 = .ok (.getfield 7, 3) := by decide +kernel
theorem dX11_pair_43 : decode cX11_pair 43 = .ok (.bipush 9, 2) := by decide +kernel
theorem dX11_pair_45 : decode cX11_pair 45 = .ok (.iload_n 2, 1) := by decide +kernel
theorem dX11_pair_46 : decode cX11_pair 46 = .ok (.iadd, 1) := by decide +kernel
theorem dX11_pair_47 : decode cX11_pair 47 = .ok (.iaload, 1) := by decide +kernel
theorem dX11_pair_48 : decode cX11_pair 48 = .ok (.ifCond .lt 22, 3) := by decide +kernel
theorem dX11_pair_51 : decode cX11_pair 51 = .ok (.goto 16, 3) := by decide +kernel
theorem dX11_pair_54 : decode cX11_pair 54 = .ok (.aload_n 0, 1) := by decide +kernel
theorem dX11_pair_55 : decode cX11_pair 55 = .ok (.getfield 7, 3) := by decide +kernel
theorem dX11_pair_58 : decode cX11_pair 58 = .ok (.bipush 9, 2) := by decide +kernel
theorem dX11_pair_60 : decode cX11_pair 60 = .ok (.iload_n 1, 1) := by decide +kernel
theorem dX11_pair_61 : decode cX11_pair 61 = .ok (.iadd, 1) := by decide +kernel
theorem dX11_pair_62 : decode cX11_pair 62 = .ok (.iaload, 1) := by decide +kernel
theorem dX11_pair_63 : decode cX11_pair 63 = .ok (.iload_n 2, 1) := by decide +kernel
theorem dX11_pair_64 : decode cX11_pair 64 = .ok (.if_icmp .eq 6, 3) := by decide +kernel
theorem dX11_pair_67 : decode cX11_pair 67 = .ok (.bipush (-3), 2) := by decide +kernel
theorem dX11_pair_69 : decode cX11_pair 69 = .ok (.ireturn, 1) := by decide +kernel
theorem dX11_pair_70 : decode cX11_pair 70 = .ok (.aload_n 0, 1) := by decide +kernel
theorem dX11_pair_71 : decode cX11_pair 71 = .ok (.getfield 7, 3) := by decide +kernel
theorem dX11_pair_74 : decode cX11_pair 74 = .ok (.bipush 9, 2) := by decide +kernel
theorem dX11_pair_76 : decode cX11_pair 76 = .ok (.iload_n 1, 1) := by decide +kernel
theorem dX11_pair_77 : decode cX11_pair 77 = .ok (.iadd, 1) := by decide +kernel
theorem dX11_pair_78 : decode cX11_pair 78 = .ok (.iload_n 3, 1) := by decide +kernel
theorem dX11_pair_79 : decode cX11_pair 79 = .ok (.ifCond .eq 7, 3) := by decide +kernel
theorem dX11_pair_82 : decode cX11_pair 82 = .ok (.iload_n 2, 1) := by decide +kernel
theorem dX11_pair_83 : decode cX11_pair 83 = .ok (.goto 5, 3) := by decide +kernel
theorem dX11_pair_86 : decode cX11_pair 86 = .ok (.bipush (-6), 2) := by decide +kernel
theorem dX11_pair_88 : decode cX11_pair 88 = .ok (.iastore, 1) := by decide +kernel
theorem dX11_pair_89 : decode cX11_pair 89 = .ok (.aload_n 0, 1) := by decide +kernel
theorem dX11_pair_90 : decode cX11_pair 90 = .ok (.getfield 7, 3) := by decide +kernel
theorem dX11_pair_93 : decode cX11_pair 93 = .ok (.bipush 9, 2) := by decide +kernel
theorem dX11_pair_95 : decode cX11_pair 95 = .ok (.iload_n 2, 1) := by decide +kernel
theorem dX11_pair_96 : decode cX11_pair 96 = .ok (.iadd, 1) := by decide +kernel
theorem dX11_pair_97 : decode cX11_pair 97 = .ok (.iload_n 3, 1) := by decide +kernel
theorem dX11_pair_98 : decode cX11_pair 98 = .ok (.ifCond .eq 7, 3) := by decide +kernel
theorem dX11_pair_101 : decode cX11_pair 101 = .ok (.iload_n 1, 1) := by decide +kernel
theorem dX11_pair_102 : decode cX11_pair 102 = .ok (.goto 5, 3) := by decide +kernel
theorem dX11_pair_105 : decode cX11_pair 105 = .ok (.bipush (-6), 2) := by decide +kernel
theorem dX11_pair_107 : decode cX11_pair 107 = .ok (.iastore, 1) := by decide +kernel
theorem dX11_pair_108 : decode cX11_pair 108 = .ok (.aload_n 0, 1) := by decide +kernel
theorem dX11_pair_109 : decode cX11_pair 109 = .ok (.invokevirtual 80, 3) := by decide +kernel
theorem dX11_pair_112 : decode cX11_pair 112 = .ok (.aload_n 0, 1) := by decide +kernel
theorem dX11_pair_113 : decode cX11_pair 113 = .ok (.invokevirtual 83, 3) := by decide +kernel
theorem dX11_pair_116 : decode cX11_pair 116 = .ok (.ireturn, 1) := by decide +kernel
set_option maxRecDepth 20000 in
theorem ggX11_horn_X11_in : GoodIn wsX11_horn wsX11_in := goodIn_r _ [5] (by decide +kernel) (by decide +kernel)
set_option maxRecDepth 20000 in
theorem gX11_horn_X11_in : GoodIn wsX11_horn (va_wsS RX11 61 yX11_in wsX11_in) := goodIn_app (goodIn_of _ (by decide +kernel)) ggX11_horn_X11_in
theorem dX11_horn_0 : decode cX11_horn 0 = .ok (.iload_n 1, 1) := by decide +kernel
theorem dX11_horn_1 : decode cX11_horn 1 = .ok (.iconst 0, 1) := by decide +kernel
theorem dX11_horn_2 : decode cX11_horn 2 = .ok (.bipush 9, 2) := by decide +kernel
theorem dX11_horn_4 : decode cX11_horn 4 = .ok (.invokestatic 61, 3) := by decide +kernel
theorem dX11_horn_7 : decode cX11_horn 7 = .ok (.ifCond .ne 6, 3) := by decide +kernel
theorem dX11_horn_10 : decode cX11_horn 10 = .ok (.bipush (-2), 2) := by decide +kernel
theorem dX11_horn_12 : decode cX11_horn 12 = .ok (.ireturn, 1) := by decide +kernel
theorem dX11_horn_13 : decode cX11_horn 13 = .ok (.aload_n 0, 1) := by decide +kernel
theorem dX11_horn_14 : decode cX11_horn 14 = .ok (.getfield 7, 3) := by decide +kernel
theorem dX11_horn_17 : decode cX11_horn 17 = .ok (.bipush 27, 2) := by decide +kernel
theorem dX11_horn_19 : decode cX11_horn 19 = .ok (.iaload, 1) := by decide +kernel
theorem dX11_horn_20 : decode cX11_horn 20 = .ok (.istore_n 2, 1) := by decide +kernel
theorem dX11_horn_21 : decode cX11_horn 21 = .ok (.aload_n 0, 1) := by decide +kernel
theorem dX11_horn_22 : decode cX11_horn 22 = .ok (.getfield 7, 3) := by decide +kernel
theorem dX11_horn_25 : decode cX11_horn 25 = .ok (.bipush 27, 2) := by decide +kernel
theorem dX11_horn_27 : decode cX11_horn 27 = .ok (.iload_n 1, 1) := by decide +kernel
theorem dX11_horn_28 : decode cX11_horn 28 = .ok (.iastore, 1) := by decide +kernel
theorem dX11_horn_29 : decode cX11_horn 29 = .ok (.iload_n 2, 1) := by decide +kernel
theorem dX11_horn_30 : decode cX11_horn 30 = .ok (.ireturn, 1) := by decide +kernel
set_option maxRecDepth 20000 in
theorem ggX11_say_X11_in : GoodIn wsX11_say wsX11_in := goodIn_r _ [6] (by decide +kernel) (by decide +kernel)
set_option maxRecDepth 20000 in
theorem gX11_say_X11_in : GoodIn wsX11_say (va_wsS RX11 61 yX11_in wsX11_in) := goodIn_app (goodIn_of _ (by decide +kernel)) ggX11_say_X11_in
theorem dX11_say_0 : decode cX11_say 0 = .ok (.iload_n 1, 1) := by decide +kernel
theorem dX11_say_1 : decode cX11_say 1 = .ok (.bipush 33, 2) := by decide +kernel
theorem dX11_say_3 : decode cX11_say 3 = .ok (.bipush 126, 2) := by decide +kernel
theorem dX11_say_5 : decode cX11_say 5 = .ok (.invokestatic 61, 3) := by decide +kernel
theorem dX11_say_8 : decode cX11_say 8 = .ok (.ifCond .ne 6, 3) := by decide +kernel
theorem dX11_say_11 : decode cX11_say 11 = .ok (.bipush (-2), 2) := by decide +kernel
theorem dX11_say_13 : decode cX11_say 13 = .ok (.ireturn, 1) := by decide +kernel
theorem dX11_say_14 : decode cX11_say 14 = .ok (.aload_n 0, 1) := by decide +kernel
theorem dX11_say_15 : decode cX11_say 15 = .ok (.getfield 87, 3) := by decide +kernel
theorem dX11_say_18 : decode cX11_say 18 = .ok (.bipush 60, 2) := by decide +kernel
theorem dX11_say_20 : decode cX11_say 20 = .ok (.if_icmp .ne 6, 3) := by decide +kernel
theorem dX11_say_23 : decode cX11_say 23 = .ok (.bipush (-4), 2) := by decide +kernel
theorem dX11_say_25 : decode cX11_say 25 = .ok (.ireturn, 1) := by decide +kernel
theorem dX11_say_26 : decode cX11_say 26 = .ok (.aload_n 0, 1) := by decide +kernel
theorem dX11_say_27 : decode cX11_say 27 = .ok (.getfield 25, 3) := by decide +kernel
theorem dX11_say_30 : decode cX11_say 30 = .ok (.aload_n 0, 1) := by decide +kernel
theorem dX11_say_31 : decode cX11_say 31 = .ok (.getfield 87, 3) := by decide +kernel
theorem dX11_say_34 : decode cX11_say 34 = .ok (.iload_n 1, 1) := by decide +kernel
theorem dX11_say_35 : decode cX11_say 35 = .ok (.iastore, 1) := by decide +kernel
theorem dX11_say_36 : decode cX11_say 36 = .ok (.aload_n 0, 1) := by decide +kernel
theorem dX11_say_37 : decode cX11_say 37 = .ok (.dup, 1) := by decide +kernel
theorem dX11_say_38 : decode cX11_say 38 = .ok (.getfield 87, 3) := by decide +kernel
theorem dX11_say_41 : decode cX11_say 41 = .ok (.iconst 1, 1) := by decide +kernel
theorem dX11_say_42 : decode cX11_say 42 = .ok (.iadd, 1) := by decide +kernel
theorem dX11_say_43 : decode cX11_say 43 = .ok (.putfield 87, 3) := by decide +kernel
theorem dX11_say_46 : decode cX11_say 46 = .ok (.aload_n 0, 1) := by decide +kernel
theorem dX11_say_47 : decode cX11_say 47 = .ok (.getfield 87, 3) := by decide +kernel
theorem dX11_say_50 : decode cX11_say 50 = .ok (.ireturn, 1) := by decide +kernel
theorem dX11_wipe_0 : decode cX11_wipe 0 = .ok (.aload_n 0, 1) := by decide +kernel
theorem dX11_wipe_1 : decode cX11_wipe 1 = .ok (.getfield 87, 3) := by decide +kernel
theorem dX11_wipe_4 : decode cX11_wipe 4 = .ok (.istore_n 1, 1) := by decide +kernel
theorem dX11_wipe_5 : decode cX11_wipe 5 = .ok (.aload_n 0, 1) := by decide +kernel
theorem dX11_wipe_6 : decode cX11_wipe 6 = .ok (.iconst 0, 1) := by decide +kernel
theorem dX11_wipe_7 : decode cX11_wipe 7 = .ok (.putfield 87, 3) := by decide +kernel
theorem dX11_wipe_10 : decode cX11_wipe 10 = .ok (.iload_n 1, 1) := by decide +kernel
theorem dX11_wipe_11 : decode cX11_wipe 11 = .ok (.ireturn, 1) := by decide +kernel
set_option maxRecDepth 20000 in
theorem ggX11_faultOf_X11_in : GoodIn wsX11_faultOf wsX11_in := goodIn_r _ [6] (by decide +kernel) (by decide +kernel)
set_option maxRecDepth 20000 in
theorem gX11_faultOf_X11_in : GoodIn wsX11_faultOf (va_wsS RX11 61 yX11_in wsX11_in) := goodIn_app (goodIn_of _ (by decide +kernel)) ggX11_faultOf_X11_in
theorem dX11_faultOf_0 : decode cX11_faultOf 0 = .ok (.iconst 0, 1) := by decide +kernel
theorem dX11_faultOf_1 : decode cX11_faultOf 1 = .ok (.istore_n 1, 1) := by decide +kernel
theorem dX11_faultOf_2 : decode cX11_faultOf 2 = .ok (.iconst 0, 1) := by decide +kernel
theorem dX11_faultOf_3 : decode cX11_faultOf 3 = .ok (.istore_n 2, 1) := by decide +kernel
theorem dX11_faultOf_4 : decode cX11_faultOf 4 = .ok (.iload_n 2, 1) := by decide +kernel
theorem dX11_faultOf_5 : decode cX11_faultOf 5 = .ok (.aload_n 0, 1) := by decide +kernel
theorem dX11_faultOf_6 : decode cX11_faultOf 6 = .ok (.getfield 87, 3) := by decide +kernel
theorem dX11_faultOf_9 : decode cX11_faultOf 9 = .ok (.if_icmp .ge 176, 3) := by decide +kernel
theorem dX11_faultOf_12 : decode cX11_faultOf 12 = .ok (.aload_n 0, 1) := by decide +kernel
theorem dX11_faultOf_13 : decode cX11_faultOf 13 = .ok (.getfield 25, 3) := by decide +kernel
theorem dX11_faultOf_16 : decode cX11_faultOf 16 = .ok (.iload_n 2, 1) := by decide +kernel
theorem dX11_faultOf_17 : decode cX11_faultOf 17 = .ok (.iaload, 1) := by decide +kernel
theorem dX11_faultOf_18 : decode cX11_faultOf 18 = .ok (.istore_n 3, 1) := by decide +kernel
theorem dX11_faultOf_19 : decode cX11_faultOf 19 = .ok (.iload_n 3, 1) := by decide +kernel
theorem dX11_faultOf_20 : decode cX11_faultOf 20 = .ok (.bipush 65, 2) := by decide +kernel
theorem dX11_faultOf_22 : decode cX11_faultOf 22 = .ok (.bipush 73, 2) := by decide +kernel
theorem dX11_faultOf_24 : decode cX11_faultOf 24 = .ok (.invokestatic 61, 3) := by decide +kernel
theorem dX11_faultOf_27 : decode cX11_faultOf 27 = .ok (.istore 4, 2) := by decide +kernel
theorem dX11_faultOf_29 : decode cX11_faultOf 29 = .ok (.iconst 0, 1) := by decide +kernel
theorem dX11_faultOf_30 : decode cX11_faultOf 30 = .ok (.istore 5, 2) := by decide +kernel
theorem dX11_faultOf_32 : decode cX11_faultOf 32 = .ok (.iload_n 1, 1) := by decide +kernel
theorem dX11_faultOf_33 : decode cX11_faultOf 33 = .ok (.ifCond .ne 36, 3) := by decide +kernel
theorem dX11_faultOf_36 : decode cX11_faultOf 36 = .ok (.iload 4, 2) := by decide +kernel
theorem dX11_faultOf_38 : decode cX11_faultOf 38 = .ok (.ifCond .ne 9, 3) := by decide +kernel
theorem dX11_faultOf_41 : decode cX11_faultOf 41 = .ok (.iload_n 3, 1) := by decide +kernel
theorem dX11_faultOf_42 : decode cX11_faultOf 42 = .ok (.bipush 46, 2) := by decide +kernel
theorem dX11_faultOf_44 : decode cX11_faultOf 44 = .ok (.if_icmp .ne 7, 3) := by decide +kernel
theorem dX11_faultOf_47 : decode cX11_faultOf 47 = .ok (.iconst 1, 1) := by decide +kernel
theorem dX11_faultOf_48 : decode cX11_faultOf 48 = .ok (.goto 4, 3) := by decide +kernel
theorem dX11_faultOf_51 : decode cX11_faultOf 51 = .ok (.iconst 0, 1) := by decide +kernel
theorem dX11_faultOf_52 : decode cX11_faultOf 52 = .ok (.istore 6, 2) := by decide +kernel
theorem dX11_faultOf_54 : decode cX11_faultOf 54 = .ok (.iload 4, 2) := by decide +kernel
theorem dX11_faultOf_56 : decode cX11_faultOf 56 = .ok (.ifCond .eq 7, 3) := by decide +kernel
theorem dX11_faultOf_59 : decode cX11_faultOf 59 = .ok (.iconst 1, 1) := by decide +kernel
theorem dX11_faultOf_60 : decode cX11_faultOf 60 = .ok (.goto 4, 3) := by decide +kernel
theorem dX11_faultOf_63 : decode cX11_faultOf 63 = .ok (.iconst 0, 1) := by decide +kernel
theorem dX11_faultOf_64 : decode cX11_faultOf 64 = .ok (.istore 5, 2) := by decide +kernel
theorem dX11_faultOf_66 : decode cX11_faultOf 66 = .ok (.goto 103, 3) := by decide +kernel
theorem dX11_faultOf_69 : decode cX11_faultOf 69 = .ok (.iload_n 1, 1) := by decide +kernel
theorem dX11_faultOf_70 : decode cX11_faultOf 70 = .ok (.iconst 1, 1) := by decide +kernel
theorem dX11_faultOf_71 : decode cX11_faultOf 71 = .ok (.if_icmp .ne 78, 3) := by decide +kernel
theorem dX11_faultOf_74 : decode cX11_faultOf 74 = .ok (.iload_n 3, 1) := by decide +kernel
theorem dX11_faultOf_75 : decode cX11_faultOf 75 = .ok (.bipush 43, 2) := by decide +kernel
theorem dX11_faultOf_77 : decode cX11_faultOf 77 = .ok (.if_icmp .eq 33, 3) := by decide +kernel
theorem dX11_faultOf_80 : decode cX11_faultOf 80 = .ok (.iload_n 3, 1) := by decide +kernel
theorem dX11_faultOf_81 : decode cX11_faultOf 81 = .ok (.bipush 45, 2) := by decide +kernel
theorem dX11_faultOf_83 : decode cX11_faultOf 83 = .ok (.if_icmp .eq 27, 3) := by decide +kernel
theorem dX11_faultOf_86 : decode cX11_faultOf 86 = .ok (.iload_n 3, 1) := by decide +kernel
theorem dX11_faultOf_87 : decode cX11_faultOf 87 = .ok (.bipush 38, 2) := by decide +kernel
theorem dX11_faultOf_89 : decode cX11_faultOf 89 = .ok (.if_icmp .eq 21, 3) := by decide +kernel
theorem dX11_faultOf_92 : decode cX11_faultOf 92 = .ok (.iload_n 3, 1) := by decide +kernel
theorem dX11_faultOf_93 : decode cX11_faultOf 93 = .ok (.bipush 47, 2) := by decide +kernel
theorem dX11_faultOf_95 : decode cX11_faultOf 95 = .ok (.if_icmp .eq 15, 3) := by decide +kernel
theorem dX11_faultOf_98 : decode cX11_faultOf 98 = .ok (.iload_n 3, 1) := by decide +kernel
theorem dX11_faultOf_99 : decode cX11_faultOf 99 = .ok (.bipush 58, 2) := by decide +kernel
theorem dX11_faultOf_101 : decode cX11_faultOf 101 = .ok (.if_icmp .eq 9, 3) := by decide +kernel
theorem dX11_faultOf_104 : decode cX11_faultOf 104 = .ok (.iload_n 3, 1) := by decide +kernel
theorem dX11_faultOf_105 : decode cX11_faultOf 105 = .ok (.bipush 63, 2) := by decide +kernel
theorem dX11_faultOf_107 : decode cX11_faultOf 107 = .ok (.if_icmp .ne 7, 3) := by decide +kernel
theorem dX11_faultOf_110 : decode cX11_faultOf 110 = .ok (.iconst 1, 1) := by decide +kernel
theorem dX11_faultOf_111 : decode cX11_faultOf 111 = .ok (.goto 4, 3) := by decide +kernel
theorem dX11_faultOf_114 : decode cX11_faultOf 114 = .ok (.iconst 0, 1) := by decide +kernel
theorem dX11_faultOf_115 : decode cX11_faultOf 115 = .ok (.istore 6, 2) := by decide +kernel
theorem dX11_faultOf_117 : decode cX11_faultOf 117 = .ok (.iload_n 3, 1) := by decide +kernel
theorem dX11_faultOf_118 : decode cX11_faultOf 118 = .ok (.bipush 43, 2) := by decide +kernel
theorem dX11_faultOf_120 : decode cX11_faultOf 120 = .ok (.if_icmp .eq 9, 3) := by decide +kernel
theorem dX11_faultOf_123 : decode cX11_faultOf 123 = .ok (.iload_n 3, 1) := by decide +kernel
theorem dX11_faultOf_124 : decode cX11_faultOf 124 = .ok (.bipush 45, 2) := by decide +kernel
theorem dX11_faultOf_126 : decode cX11_faultOf 126 = .ok (.if_icmp .ne 7, 3) := by decide +kernel
theorem dX11_faultOf_129 : decode cX11_faultOf 129 = .ok (.iconst 2, 1) := by decide +kernel
theorem dX11_faultOf_130 : decode cX11_faultOf 130 = .ok (.goto 14, 3) := by decide +kernel
theorem dX11_faultOf_133 : decode cX11_faultOf 133 = .ok (.iload_n 3, 1) := by decide +kernel
theorem dX11_faultOf_134 : decode cX11_faultOf 134 = .ok (.bipush 38, 2) := by decide +kernel
theorem dX11_faultOf_136 : decode cX11_faultOf 136 = .ok (.if_icmp .ne 7, 3) := by decide +kernel
theorem dX11_faultOf_139 : decode cX11_faultOf 139 = .ok (.iconst 3, 1) := by decide +kernel
theorem dX11_faultOf_140 : decode cX11_faultOf 140 = .ok (.goto 4, 3) := by decide +kernel
theorem dX11_faultOf_143 : decode cX11_faultOf 143 = .ok (.iconst 0, 1) := by decide +kernel
theorem dX11_faultOf_144 : decode cX11_faultOf 144 = .ok (.istore 5, 2) := by decide +kernel
theorem dX11_faultOf_146 : decode cX11_faultOf 146 = .ok (.goto 23, 3) := by decide +kernel
theorem dX11_faultOf_149 : decode cX11_faultOf 149 = .ok (.iload_n 1, 1) := by decide +kernel
theorem dX11_faultOf_150 : decode cX11_faultOf 150 = .ok (.iconst 2, 1) := by decide +kernel
theorem dX11_faultOf_151 : decode cX11_faultOf 151 = .ok (.if_icmp .ne 14, 3) := by decide +kernel
theorem dX11_faultOf_154 : decode cX11_faultOf 154 = .ok (.iload_n 3, 1) := by decide +kernel
theorem dX11_faultOf_155 : decode cX11_faultOf 155 = .ok (.bipush 49, 2) := by decide +kernel
theorem dX11_faultOf_157 : decode cX11_faultOf 157 = .ok (.bipush 57, 2) := by decide +kernel
theorem dX11_faultOf_159 : decode cX11_faultOf 159 = .ok (.invokestatic 61, 3) := by decide +kernel
theorem dX11_faultOf_162 : decode cX11_faultOf 162 = .ok (.goto 5, 3) := by decide +kernel
theorem dX11_faultOf_165 : decode cX11_faultOf 165 = .ok (.iload 4, 2) := by decide +kernel
theorem dX11_faultOf_167 : decode cX11_faultOf 167 = .ok (.istore 6, 2) := by decide +kernel
theorem dX11_faultOf_169 : decode cX11_faultOf 169 = .ok (.iload 6, 2) := by decide +kernel
theorem dX11_faultOf_171 : decode cX11_faultOf 171 = .ok (.ifCond .ne 5, 3) := by decide +kernel
theorem dX11_faultOf_174 : decode cX11_faultOf 174 = .ok (.iload_n 2, 1) := by decide +kernel
theorem dX11_faultOf_175 : decode cX11_faultOf 175 = .ok (.ireturn, 1) := by decide +kernel
theorem dX11_faultOf_176 : decode cX11_faultOf 176 = .ok (.iload 5, 2) := by decide +kernel
theorem dX11_faultOf_178 : decode cX11_faultOf 178 = .ok (.istore_n 1, 1) := by decide +kernel
theorem dX11_faultOf_179 : decode cX11_faultOf 179 = .ok (.iinc 2 1, 3) := by decide +kernel
theorem dX11_faultOf_182 : decode cX11_faultOf 182 = .ok (.goto (-178), 3) := by decide +kernel
theorem dX11_faultOf_185 : decode cX11_faultOf 185 = .ok (.iload_n 1, 1) := by decide +kernel
theorem dX11_faultOf_186 : decode cX11_faultOf 186 = .ok (.ifCond .ne 8, 3) := by decide +kernel
theorem dX11_faultOf_189 : decode cX11_faultOf 189 = .ok (.bipush (-6), 2) := by decide +kernel
theorem dX11_faultOf_191 : decode cX11_faultOf 191 = .ok (.goto 7, 3) := by decide +kernel
theorem dX11_faultOf_194 : decode cX11_faultOf 194 = .ok (.aload_n 0, 1) := by decide +kernel
theorem dX11_faultOf_195 : decode cX11_faultOf 195 = .ok (.getfield 87, 3) := by decide +kernel
theorem dX11_faultOf_198 : decode cX11_faultOf 198 = .ok (.ireturn, 1) := by decide +kernel
set_option maxRecDepth 20000 in
theorem ggX11_fault_X11_faultOf : GoodIn wsX11_fault wsX11_faultOf := goodIn_r _ [5, 6, 7, 8, 9, 4, 10, 11, 12, 13, 14, 15, 16, 17, 18, 19, 20, 21, 22, 23, 24, 25, 26, 27, 28, 29, 30, 31, 32, 33] (by decide +kernel) (by decide +kernel)
set_option maxRecDepth 20000 in
theorem gX11_fault_X11_faultOf : GoodIn wsX11_fault (wsV RX11 90 RX11 yX11_faultOf wsX11_faultOf) := goodIn_app (goodIn_of _ (by decide +kernel)) ggX11_fault_X11_faultOf
theorem dX11_fault_0 : decode cX11_fault 0 = .ok (.aload_n 0, 1) := by decide +kernel
theorem dX11_fault_1 : decode cX11_fault 1 = .ok (.invokevirtual 90, 3) := by decide +kernel
theorem dX11_fault_4 : decode cX11_fault 4 = .ok (.ireturn, 1) := by decide +kernel
set_option maxRecDepth 20000 in
theorem ggX11_asNow_X11_in : GoodIn wsX11_asNow wsX11_in := goodIn_r _ [8] (by decide +kernel) (by decide +kernel)
set_option maxRecDepth 20000 in
theorem gX11_asNow_X11_in : GoodIn wsX11_asNow (va_wsS RX11 61 yX11_in wsX11_in) := goodIn_app (goodIn_of _ (by decide +kernel)) ggX11_asNow_X11_in
theorem dX11_asNow_0 : decode cX11_asNow 0 = .ok (.iconst 0, 1) := by decide +kernel
theorem dX11_asNow_1 : decode cX11_asNow 1 = .ok (.istore_n 1, 1) := by decide +kernel
theorem dX11_asNow_2 : decode cX11_asNow 2 = .ok (.iload_n 1, 1) := by decide +kernel
theorem dX11_asNow_3 : decode cX11_asNow 3 = .ok (.bipush 29, 2) := by decide +kernel
theorem dX11_asNow_5 : decode cX11_asNow 5 = .ok (.if_icmp .ge 37, 3) := by decide +kernel
theorem dX11_asNow_8 : decode cX11_asNow 8 = .ok (.aload_n 0, 1) := by decide +kernel
theorem dX11_asNow_9 : decode cX11_asNow 9 = .ok (.getfield 13, 3) := by decide +kernel
theorem dX11_asNow_12 : decode cX11_asNow 12 = .ok (.iload_n 1, 1) := by decide +kernel
theorem dX11_asNow_13 : decode cX11_asNow 13 = .ok (.iload_n 1, 1) := by decide +kernel
theorem dX11_asNow_14 : decode cX11_asNow 14 = .ok (.bipush 18, 2) := by decide +kernel
theorem dX11_asNow_16 : decode cX11_asNow 16 = .ok (.bipush 26, 2) := by decide +kernel
theorem dX11_asNow_18 : decode cX11_asNow 18 = .ok (.invokestatic 61, 3) := by decide +kernel
theorem dX11_asNow_21 : decode cX11_asNow 21 = .ok (.ifCond .eq 8, 3) := by decide +kernel
theorem dX11_asNow_24 : decode cX11_asNow 24 = .ok (.bipush (-6), 2) := by decide +kernel
theorem dX11_asNow_26 : decode cX11_asNow 26 = .ok (.goto 9, 3) := by decide +kernel
theorem dX11_asNow_29 : decode cX11_asNow 29 = .ok (.aload_n 0, 1) := by decide +kernel
theorem dX11_asNow_30 : decode cX11_asNow 30 = .ok (.getfield 7, 3) := by decide +kernel
theorem dX11_asNow_33 : decode cX11_asNow 33 = .ok (.iload_n 1, 1) := by decide +kernel
theorem dX11_asNow_34 : decode cX11_asNow 34 = .ok (.iaload, 1) := by decide +kernel
theorem dX11_asNow_35 : decode cX11_asNow 35 = .ok (.iastore, 1) := by decide +kernel
theorem dX11_asNow_36 : decode cX11_asNow 36 = .ok (.iinc 1 1, 3) := by decide +kernel
theorem dX11_asNow_39 : decode cX11_asNow 39 = .ok (.goto (-37), 3) := by decide +kernel
theorem dX11_asNow_42 : decode cX11_asNow 42 = .ok (.aload_n 0, 1) := by decide +kernel
theorem dX11_asNow_43 : decode cX11_asNow 43 = .ok (.bipush (-6), 2) := by decide +kernel
theorem dX11_asNow_45 : decode cX11_asNow 45 = .ok (.putfield 93, 3) := by decide +kernel
theorem dX11_asNow_48 : decode cX11_asNow 48 = .ok (.aload_n 0, 1) := by decide +kernel
theorem dX11_asNow_49 : decode cX11_asNow 49 = .ok (.bipush (-6), 2) := by decide +kernel
theorem dX11_asNow_51 : decode cX11_asNow 51 = .ok (.putfield 96, 3) := by decide +kernel
theorem dX11_asNow_54 : decode cX11_asNow 54 = .ok (.return_, 1) := by decide +kernel
set_option maxRecDepth 20000 in
theorem ggX11_turn_X11_isThere : GoodIn wsX11_turn wsX11_isThere := goodIn_r _ [6, 7, 8, 9, 5, 10, 11, 12, 13, 17, 18, 19, 20, 21, 22, 23, 24, 25, 26, 27, 28, 29, 30, 31, 32, 33, 34, 35, 36, 37, 38, 39] (by decide +kernel) (by decide +kernel)
set_option maxRecDepth 20000 in
theorem gX11_turn_X11_isThere : GoodIn wsX11_turn (wsV RX11 73 RX11 yX11_isThere wsX11_isThere) := goodIn_app (goodIn_of _ (by decide +kernel)) ggX11_turn_X11_isThere
set_option maxRecDepth 20000 in
theorem ggX11_turn_X11_over : GoodIn wsX11_turn wsX11_over := goodIn_r _ [16] (by decide +kernel) (by decide +kernel)
set_option maxRecDepth 20000 in
theorem gX11_turn_X11_over : GoodIn wsX11_turn (va_wsS RX11 57 yX11_over wsX11_over) := goodIn_app (goodIn_of _ (by decide +kernel)) ggX11_turn_X11_over
theorem dX11_turn_0 : decode cX11_turn 0 = .ok (.aload_n 0, 1) := by decide +kernel
theorem dX11_turn_1 : decode cX11_turn 1 = .ok (.iload_n 1, 1) := by decide +kernel
theorem dX11_turn_2 : decode cX11_turn 2 = .ok (.invokevirtual 73, 3) := by decide +kernel
theorem dX11_turn_5 : decode cX11_turn 5 = .ok (.ifCond .ne 5, 3) := by decide +kernel
theorem dX11_turn_8 : decode cX11_turn 8 = .ok (.iconst 1, 1) := by decide +kernel
theorem dX11_turn_9 : decode cX11_turn 9 = .ok (.ireturn, 1) := by decide +kernel
theorem dX11_turn_10 : decode cX11_turn 10 = .ok (.aload_n 0, 1) := by decide +kernel
theorem dX11_turn_11 : decode cX11_turn 11 = .ok (.getfield 13, 3) := by decide +kernel
theorem dX11_turn_14 : decode cX11_turn 14 = .ok (.iload_n 1, 1) := by decide +kernel
theorem dX11_turn_15 : decode cX11_turn 15 = .ok (.aload_n 0, 1) := by decide +kernel
theorem dX11_turn_16 : decode cX11_turn 16 = .ok (.getfield 13, 3) := by decide +kernel
theorem dX11_turn_19 : decode cX11_turn 19 = .ok (.iload_n 1, 1) := by decide +kernel
theorem dX11_turn_20 : decode cX11_turn 20 = .ok (.iaload, 1) := by decide +kernel
theorem dX11_turn_21 : decode cX11_turn 21 = .ok (.iload_n 2, 1) := by decide +kernel
theorem dX11_turn_22 : decode cX11_turn 22 = .ok (.iadd, 1) := by decide +kernel
theorem dX11_turn_23 : decode cX11_turn 23 = .ok (.invokestatic 57, 3) := by decide +kernel
theorem dX11_turn_26 : decode cX11_turn 26 = .ok (.iastore, 1) := by decide +kernel
theorem dX11_turn_27 : decode cX11_turn 27 = .ok (.iconst 0, 1) := by decide +kernel
theorem dX11_turn_28 : decode cX11_turn 28 = .ok (.ireturn, 1) := by decide +kernel
set_option maxRecDepth 20000 in
theorem ggX11_sit_X11_isThere : GoodIn wsX11_sit wsX11_isThere := goodIn_r _ [6, 7, 8, 9, 5, 10, 11, 12, 13, 14, 15, 16, 17, 18, 19, 20, 21, 22, 23, 24, 25, 26, 27, 28, 29, 30, 31, 32, 33, 34, 35, 36] (by decide +kernel) (by decide +kernel)
set_option maxRecDepth 20000 in
theorem gX11_sit_X11_isThere : GoodIn wsX11_sit (wsV RX11 73 RX11 yX11_isThere wsX11_isThere) := goodIn_app (goodIn_of _ (by decide +kernel)) ggX11_sit_X11_isThere
theorem dX11_sit_0 : decode cX11_sit 0 = .ok (.aload_n 0, 1) := by decide +kernel
theorem dX11_sit_1 : decode cX11_sit 1 = .ok (.iload_n 1, 1) := by decide +kernel
theorem dX11_sit_2 : decode cX11_sit 2 = .ok (.invokevirtual 73, 3) := by decide +kernel
theorem dX11_sit_5 : decode cX11_sit 5 = .ok (.ifCond .eq 11, 3) := by decide +kernel
theorem dX11_sit_8 : decode cX11_sit 8 = .ok (.aload_n 0, 1) := by decide +kernel
theorem dX11_sit_9 : decode cX11_sit 9 = .ok (.iload_n 2, 1) := by decide +kernel
theorem dX11_sit_10 : decode cX11_sit 10 = .ok (.invokevirtual 73, 3) := by decide +kernel
theorem dX11_sit_13 : decode cX11_sit 13 = .ok (.ifCond .ne 5, 3) := by decide +kernel
theorem dX11_sit_16 : decode cX11_sit 16 = .ok (.iconst 1, 1) := by decide +kernel
theorem dX11_sit_17 : decode cX11_sit 17 = .ok (.ireturn, 1) := by decide +kernel
theorem dX11_sit_18 : decode cX11_sit 18 = .ok (.iload_n 1, 1) := by decide +kernel
theorem dX11_sit_19 : decode cX11_sit 19 = .ok (.iload_n 2, 1) := by decide +kernel
theorem dX11_sit_20 : decode cX11_sit 20 = .ok (.if_icmp .ne 5, 3) := by decide +kernel
theorem dX11_sit_23 : decode cX11_sit 23 = .ok (.iconst 2, 1) := by decide +kernel
theorem dX11_sit_24 : decode cX11_sit 24 = .ok (.ireturn, 1) := by decide +kernel
theorem dX11_sit_25 : decode cX11_sit 25 = .ok (.aload_n 0, 1) := by decide +kernel
theorem dX11_sit_26 : decode cX11_sit 26 = .ok (.getfield 13, 3) := by decide +kernel
theorem dX11_sit_29 : decode cX11_sit 29 = .ok (.bipush 9, 2) := by decide +kernel
theorem dX11_sit_31 : decode cX11_sit 31 = .ok (.iload_n 1, 1) := by decide +kernel
theorem dX11_sit_32 : decode cX11_sit 32 = .ok (.iadd, 1) := by decide +kernel
theorem dX11_sit_33 : decode cX11_sit 33 = .ok (.iaload, 1) := by decide +kernel
theorem dX11_sit_34 : decode cX11_sit 34 = .ok (.ifCond .ge 15, 3) := by decide +kernel
theorem dX11_sit_37 : decode cX11_sit 37 = .ok (.aload_n 0, 1) := by decide +kernel
theorem dX11_sit_38 : decode cX11_sit 38 = .ok (.getfield 13, 3) := by decide +kernel
theorem dX11_sit_41 : decode cX11_sit 41 = .ok (.bipush 9, 2) := by decide +kernel
theorem dX11_sit_43 : decode cX11_sit 43 = .ok (.iload_n 2, 1) := by decide +kernel
theorem dX11_sit_44 : decode cX11_sit 44 = .ok (.iadd, 1) := by decide +kernel
theorem dX11_sit_45 : decode cX11_sit 45 = .ok (.iaload, 1) := by decide +kernel
theorem dX11_sit_46 : decode cX11_sit 46 = .ok (.ifCond .lt 5, 3) := by decide +kernel
theorem dX11_sit_49 : decode cX11_sit 49 = .ok (.iconst 3, 1) := by decide +kernel
theorem dX11_sit_50 : decode cX11_sit 50 = .ok (.ireturn, 1) := by decide +kernel
theorem dX11_sit_51 : decode cX11_sit 51 = .ok (.aload_n 0, 1) := by decide +kernel
theorem dX11_sit_52 : decode cX11_sit 52 = .ok (.getfield 13, 3) := by decide +kernel
theorem dX11_sit_55 : decode cX11_sit 55 = .ok (.bipush 9, 2) := by decide +kernel
theorem dX11_sit_57 : decode cX11_sit 57 = .ok (.iload_n 1, 1) := by decide +kernel
theorem dX11_sit_58 : decode cX11_sit 58 = .ok (.iadd, 1) := by decide +kernel
theorem dX11_sit_59 : decode cX11_sit 59 = .ok (.iload_n 2, 1) := by decide +kernel
theorem dX11_sit_60 : decode cX11_sit 60 = .ok (.iastore, 1) := by decide +kernel
theorem dX11_sit_61 : decode cX11_sit 61 = .ok (.aload_n 0, 1) := by decide +kernel
theorem dX11_sit_62 : decode cX11_sit 62 = .ok (.getfield 13, 3) := by decide +kernel
theorem dX11_sit_65 : decode cX11_sit 65 = .ok (.bipush 9, 2) := by decide +kernel
theorem dX11_sit_67 : decode cX11_sit 67 = .ok (.iload_n 2, 1) := by decide +kernel
theorem dX11_sit_68 : decode cX11_sit 68 = .ok (.iadd, 1) := by decide +kernel
theorem dX11_sit_69 : decode cX11_sit 69 = .ok (.iload_n 1, 1) := by decide +kernel
theorem dX11_sit_70 : decode cX11_sit 70 = .ok (.iastore, 1) := by decide +kernel
theorem dX11_sit_71 : decode cX11_sit 71 = .ok (.iconst 0, 1) := by decide +kernel
theorem dX11_sit_72 : decode cX11_sit 72 = .ok (.ireturn, 1) := by decide +kernel
set_option maxRecDepth 20000 in
theorem ggX11_rise_X11_isThere : GoodIn wsX11_rise wsX11_isThere := goodIn_r _ [6, 7, 8, 9, 5, 10, 11, 12, 13, 14, 15, 16, 17, 18, 19, 20, 21, 22, 23, 24, 25, 26, 27, 28, 29, 30, 31, 32, 33, 34, 35, 36] (by decide +kernel) (by decide +kernel)
set_option maxRecDepth 20000 in
theorem gX11_rise_X11_isThere : GoodIn wsX11_rise (wsV RX11 73 RX11 yX11_isThere wsX11_isThere) := goodIn_app (goodIn_of _ (by decide +kernel)) ggX11_rise_X11_isThere
theorem dX11_rise_0 : decode cX11_rise 0 = .ok (.aload_n 0, 1) := by decide +kernel
theorem dX11_rise_1 : decode cX11_rise 1 = .ok (.iload_n 1, 1) := by decide +kernel
theorem dX11_rise_2 : decode cX11_rise 2 = .ok (.invokevirtual 73, 3) := by decide +kernel
theorem dX11_rise_5 : decode cX11_rise 5 = .ok (.ifCond .ne 5, 3) := by decide +kernel
theorem dX11_rise_8 : decode cX11_rise 8 = .ok (.iconst 1, 1) := by decide +kernel
theorem dX11_rise_9 : decode cX11_rise 9 = .ok (.ireturn, 1) := by decide +kernel
theorem dX11_rise_10 : decode cX11_rise 10 = .ok (.aload_n 0, 1) := by decide +kernel
theorem dX11_rise_11 : decode cX11_rise 11 = .ok (.getfield 13, 3) := by decide +kernel
theorem dX11_rise_14 : decode cX11_rise 14 = .ok (.bipush 9, 2) := by decide +kernel
theorem dX11_rise_16 : decode cX11_rise 16 = .ok (.iload_n 1, 1) := by decide +kernel
theorem dX11_rise_17 : decode cX11_rise 17 = .ok (.iadd, 1) := by decide +kernel
theorem dX11_rise_18 : decode cX11_rise 18 = .ok (.iaload, 1) := by decide +kernel
theorem dX11_rise_19 : decode cX11_rise 19 = .ok (.ifCond .ge 5, 3) := by decide +kernel
theorem dX11_rise_22 : decode cX11_rise 22 = .ok (.iconst 3, 1) := by decide +kernel
theorem dX11_rise_23 : decode cX11_rise 23 = .ok (.ireturn, 1) := by decide +kernel
theorem dX11_rise_24 : decode cX11_rise 24 = .ok (.aload_n 0, 1) := by decide +kernel
theorem dX11_rise_25 : decode cX11_rise 25 = .ok (.getfield 13, 3) := by decide +kernel
theorem dX11_rise_28 : decode cX11_rise 28 = .ok (.bipush 9, 2) := by decide +kernel
theorem dX11_rise_30 : decode cX11_rise 30 = .ok (.aload_n 0, 1) := by decide +kernel
theorem dX11_rise_31 : decode cX11_rise 31 = .ok (.getfield 13, 3) := by decide +kernel
theorem dX11_rise_34 : decode cX11_rise 34 = .ok (.bipush 9, 2) := by decide +kernel
theorem dX11_rise_36 : decode cX11_rise 36 = .ok (.iload_n 1, 1) := by decide +kernel
theorem dX11_rise_37 : decode cX11_rise 37 = .ok (.iadd, 1) := by decide +kernel
theorem dX11_rise_38 : decode cX11_rise 38 = .ok (.iaload, 1) := by decide +kernel
theorem dX11_rise_39 : decode cX11_rise 39 = .ok (.iadd, 1) := by decide +kernel
theorem dX11_rise_40 : decode cX11_rise 40 = .ok (.bipush (-6), 2) := by decide +kernel
theorem dX11_rise_42 : decode cX11_rise 42 = .ok (.iastore, 1) := by decide +kernel
theorem dX11_rise_43 : decode cX11_rise 43 = .ok (.aload_n 0, 1) := by decide +kernel
theorem dX11_rise_44 : decode cX11_rise 44 = .ok (.getfield 13, 3) := by decide +kernel
theorem dX11_rise_47 : decode cX11_rise 47 = .ok (.bipush 9, 2) := by decide +kernel
theorem dX11_rise_49 : decode cX11_rise 49 = .ok (.iload_n 1, 1) := by decide +kernel
theorem dX11_rise_50 : decode cX11_rise 50 = .ok (.iadd, 1) := by decide +kernel
theorem dX11_rise_51 : decode cX11_rise 51 = .ok (.bipush (-6), 2) := by decide +kernel
theorem dX11_rise_53 : decode cX11_rise 53 = .ok (.iastore, 1) := by decide +kernel
theorem dX11_rise_54 : decode cX11_rise 54 = .ok (.iconst 0, 1) := by decide +kernel
theorem dX11_rise_55 : decode cX11_rise 55 = .ok (.ireturn, 1) := by decide +kernel
set_option maxRecDepth 20000 in
theorem ggX11_mark_X11_isThere : GoodIn wsX11_mark wsX11_isThere := goodIn_r _ [6, 7, 8, 9, 5, 10, 11, 12, 13, 17, 18, 19, 20, 21, 22, 23, 24, 25, 26, 27, 28, 29, 30, 31, 32, 33, 34, 35, 36, 37, 38, 39] (by decide +kernel) (by decide +kernel)
set_option maxRecDepth 20000 in
theorem gX11_mark_X11_isThere : GoodIn wsX11_mark (wsV RX11 73 RX11 yX11_isThere wsX11_isThere) := goodIn_app (goodIn_of _ (by decide +kernel)) ggX11_mark_X11_isThere
set_option maxRecDepth 20000 in
theorem ggX11_mark_X11_over : GoodIn wsX11_mark wsX11_over := goodIn_r _ [16] (by decide +kernel) (by decide +kernel)
set_option maxRecDepth 20000 in
theorem gX11_mark_X11_over : GoodIn wsX11_mark (va_wsS RX11 57 yX11_over wsX11_over) := goodIn_app (goodIn_of _ (by decide +kernel)) ggX11_mark_X11_over
theorem dX11_mark_0 : decode cX11_mark 0 = .ok (.aload_n 0, 1) := by decide +kernel
theorem dX11_mark_1 : decode cX11_mark 1 = .ok (.iload_n 1, 1) := by decide +kernel
theorem dX11_mark_2 : decode cX11_mark 2 = .ok (.invokevirtual 73, 3) := by decide +kernel
theorem dX11_mark_5 : decode cX11_mark 5 = .ok (.ifCond .ne 5, 3) := by decide +kernel
theorem dX11_mark_8 : decode cX11_mark 8 = .ok (.iconst 1, 1) := by decide +kernel
theorem dX11_mark_9 : decode cX11_mark 9 = .ok (.ireturn, 1) := by decide +kernel
theorem dX11_mark_10 : decode cX11_mark 10 = .ok (.aload_n 0, 1) := by decide +kernel
theorem dX11_mark_11 : decode cX11_mark 11 = .ok (.getfield 13, 3) := by decide +kernel
theorem dX11_mark_14 : decode cX11_mark 14 = .ok (.iload_n 1, 1) := by decide +kernel
theorem dX11_mark_15 : decode cX11_mark 15 = .ok (.iaload, 1) := by decide +kernel
theorem dX11_mark_16 : decode cX11_mark 16 = .ok (.aload_n 0, 1) := by decide +kernel
theorem dX11_mark_17 : decode cX11_mark 17 = .ok (.getfield 13, 3) := by decide +kernel
theorem dX11_mark_20 : decode cX11_mark 20 = .ok (.bipush 27, 2) := by decide +kernel
theorem dX11_mark_22 : decode cX11_mark 22 = .ok (.iaload, 1) := by decide +kernel
theorem dX11_mark_23 : decode cX11_mark 23 = .ok (.iadd, 1) := by decide +kernel
theorem dX11_mark_24 : decode cX11_mark 24 = .ok (.invokestatic 57, 3) := by decide +kernel
theorem dX11_mark_27 : decode cX11_mark 27 = .ok (.istore_n 3, 1) := by decide +kernel
theorem dX11_mark_28 : decode cX11_mark 28 = .ok (.aload_n 0, 1) := by decide +kernel
theorem dX11_mark_29 : decode cX11_mark 29 = .ok (.getfield 13, 3) := by decide +kernel
theorem dX11_mark_32 : decode cX11_mark 32 = .ok (.bipush 18, 2) := by decide +kernel
theorem dX11_mark_34 : decode cX11_mark 34 = .ok (.iload_n 1, 1) := by decide +kernel
theorem dX11_mark_35 : decode cX11_mark 35 = .ok (.iadd, 1) := by decide +kernel
theorem dX11_mark_36 : decode cX11_mark 36 = .ok (.iload_n 2, 1) := by decide +kernel
theorem dX11_mark_37 : decode cX11_mark 37 = .ok (.ifCond .eq 14, 3) := by decide +kernel
theorem dX11_mark_40 : decode cX11_mark 40 = .ok (.sipush 180, 3) := by decide +kernel
theorem dX11_mark_43 : decode cX11_mark 43 = .ok (.iload_n 3, 1) := by decide +kernel
theorem dX11_mark_44 : decode cX11_mark 44 = .ok (.isub, 1) := by decide +kernel
theorem dX11_mark_45 : decode cX11_mark 45 = .ok (.invokestatic 57, 3) := by decide +kernel
theorem dX11_mark_48 : decode cX11_mark 48 = .ok (.goto 4, 3) := by decide +kernel
theorem dX11_mark_51 : decode cX11_mark 51 = .ok (.iload_n 3, 1) := by decide +kernel
theorem dX11_mark_52 : decode cX11_mark 52 = .ok (.iastore, 1) := by decide +kernel
theorem dX11_mark_53 : decode cX11_mark 53 = .ok (.iconst 0, 1) := by decide +kernel
theorem dX11_mark_54 : decode cX11_mark 54 = .ok (.ireturn, 1) := by decide +kernel
set_option maxRecDepth 20000 in
theorem ggX11_endYear_X11_over : GoodIn wsX11_endYear wsX11_over := goodIn_r _ [7] (by decide +kernel) (by decide +kernel)
set_option maxRecDepth 20000 in
theorem gX11_endYear_X11_over : GoodIn wsX11_endYear (va_wsS RX11 57 yX11_over wsX11_over) := goodIn_app (goodIn_of _ (by decide +kernel)) ggX11_endYear_X11_over
set_option maxRecDepth 20000 in
theorem ggX11_endYear_X11_isThere : GoodIn wsX11_endYear wsX11_isThere := goodIn_r _ [11, 12, 13, 14, 6, 15, 16, 17, 18, 19, 20, 21, 22, 23, 24, 25, 26, 27, 28, 29, 30, 31, 32, 33, 34, 35, 36, 37, 38, 39, 40, 41] (by decide +kernel) (by decide +kernel)
set_option maxRecDepth 20000 in
theorem gX11_endYear_X11_isThere : GoodIn wsX11_endYear (wsV RX11 73 RX11 yX11_isThere wsX11_isThere) := goodIn_app (goodIn_of _ (by decide +kernel)) ggX11_endYear_X11_isThere
theorem dX11_endYear_0 : decode cX11_endYear 0 = .ok (.aload_n 0, 1) := by decide +kernel
theorem dX11_endYear_1 : decode cX11_endYear 1 = .ok (.getfield 13, 3) := by decide +kernel
theorem dX11_endYear_4 : decode cX11_endYear 4 = .ok (.bipush 28, 2) := by decide +kernel
theorem dX11_endYear_6 : decode cX11_endYear 6 = .ok (.iaload, 1) := by decide +kernel
theorem dX11_endYear_7 : decode cX11_endYear 7 = .ok (.sipush 999, 3) := by decide +kernel
theorem dX11_endYear_10 : decode cX11_endYear 10 = .ok (.if_icmp .ne 5, 3) := by decide +kernel
theorem dX11_endYear_13 : decode cX11_endYear 13 = .ok (.iconst 4, 1) := by decide +kernel
theorem dX11_endYear_14 : decode cX11_endYear 14 = .ok (.ireturn, 1) := by decide +kernel
theorem dX11_endYear_15 : decode cX11_endYear 15 = .ok (.iconst 0, 1) := by decide +kernel
theorem dX11_endYear_16 : decode cX11_endYear 16 = .ok (.istore_n 1, 1) := by decide +kernel
theorem dX11_endYear_17 : decode cX11_endYear 17 = .ok (.iload_n 1, 1) := by decide +kernel
theorem dX11_endYear_18 : decode cX11_endYear 18 = .ok (.bipush 9, 2) := by decide +kernel
theorem dX11_endYear_20 : decode cX11_endYear 20 = .ok (.if_icmp .ge 108, 3) := by decide +kernel
theorem dX11_endYear_23 : decode cX11_endYear 23 = .ok (.aload_n 0, 1) := by decide +kernel
theorem dX11_endYear_24 : decode cX11_endYear 24 = .ok (.getfield 13, 3) := by decide +kernel
theorem dX11_endYear_27 : decode cX11_endYear 27 = .ok (.bipush 9, 2) := by decide +kernel
theorem dX11_endYear_29 : decode cX11_endYear 29 = .ok (.iload_n 1, 1) := by decide +kernel
theorem dX11_endYear_30 : decode cX11_endYear 30 = .ok (.iadd, 1) := by decide +kernel
theorem dX11_endYear_31 : decode cX11_endYear 31 = .ok (.iaload, 1) := by decide +kernel
theorem dX11_endYear_32 : decode cX11_endYear 32 = .ok (.ifCond .ge 7, 3) := by decide +kernel
theorem dX11_endYear_35 : decode cX11_endYear 35 = .ok (.iconst 0, 1) := by decide +kernel
theorem dX11_endYear_36 : decode cX11_endYear 36 = .ok (.goto 43, 3) := by decide +kernel
theorem dX11_endYear_39 : decode cX11_endYear 39 = .ok (.aload_n 0, 1) := by decide +kernel
theorem dX11_endYear_40 : decode cX11_endYear 40 = .ok (.getfield 13, 3) := by decide +kernel
theorem dX11_endYear_43 : decode cX11_endYear 43 = .ok (.aload_n 0, 1) := by decide +kernel
theorem dX11_endYear_44 : decode cX11_endYear 44 = .ok (.getfield 13, 3) := by decide +kernel
theorem dX11_endYear_47 : decode cX11_endYear 47 = .ok (.bipush 9, 2) := by decide +kernel
theorem dX11_endYear_49 : decode cX11_endYear 49 = .ok (.iload_n 1, 1) := by decide +kernel
theorem dX11_endYear_50 : decode cX11_endYear 50 = .ok (.iadd, 1) := by decide +kernel
theorem dX11_endYear_51 : decode cX11_endYear 51 = .ok (.iaload, 1) := by decide +kernel
theorem dX11_endYear_52 : decode cX11_endYear 52 = .ok (.ifCond .ge 7, 3) := by decide +kernel
theorem dX11_endYear_55 : decode cX11_endYear 55 = .ok (.iload_n 1, 1) := by decide +kernel
theorem dX11_endYear_56 : decode cX11_endYear 56 = .ok (.goto 12, 3) := by decide +kernel
theorem dX11_endYear_59 : decode cX11_endYear 59 = .ok (.aload_n 0, 1) := by decide +kernel
theorem dX11_endYear_60 : decode cX11_endYear 60 = .ok (.getfield 13, 3) := by decide +kernel
theorem dX11_endYear_63 : decode cX11_endYear 63 = .ok (.bipush 9, 2) := by decide +kernel
theorem dX11_endYear_65 : decode cX11_endYear 65 = .ok (.iload_n 1, 1) := by decide +kernel
theorem dX11_endYear_66 : decode cX11_endYear 66 = .ok (.iadd, 1) := by decide +kernel
theorem dX11_endYear_67 : decode cX11_endYear 67 = .ok (.iaload, 1) := by decide +kernel
theorem dX11_endYear_68 : decode cX11_endYear 68 = .ok (.iaload, 1) := by decide +kernel
theorem dX11_endYear_69 : decode cX11_endYear 69 = .ok (.aload_n 0, 1) := by decide +kernel
theorem dX11_endYear_70 : decode cX11_endYear 70 = .ok (.getfield 13, 3) := by decide +kernel
theorem dX11_endYear_73 : decode cX11_endYear 73 = .ok (.iload_n 1, 1) := by decide +kernel
theorem dX11_endYear_74 : decode cX11_endYear 74 = .ok (.iaload, 1) := by decide +kernel
theorem dX11_endYear_75 : decode cX11_endYear 75 = .ok (.isub, 1) := by decide +kernel
theorem dX11_endYear_76 : decode cX11_endYear 76 = .ok (.invokestatic 57, 3) := by decide +kernel
theorem dX11_endYear_79 : decode cX11_endYear 79 = .ok (.istore_n 2, 1) := by decide +kernel
theorem dX11_endYear_80 : decode cX11_endYear 80 = .ok (.aload_n 0, 1) := by decide +kernel
theorem dX11_endYear_81 : decode cX11_endYear 81 = .ok (.getfield 16, 3) := by decide +kernel
theorem dX11_endYear_84 : decode cX11_endYear 84 = .ok (.iload_n 1, 1) := by decide +kernel
theorem dX11_endYear_85 : decode cX11_endYear 85 = .ok (.aload_n 0, 1) := by decide +kernel
theorem dX11_endYear_86 : decode cX11_endYear 86 = .ok (.getfield 13, 3) := by decide +kernel
theorem dX11_endYear_89 : decode cX11_endYear 89 = .ok (.iload_n 1, 1) := by decide +kernel
theorem dX11_endYear_90 : decode cX11_endYear 90 = .ok (.iaload, 1) := by decide +kernel
theorem dX11_endYear_91 : decode cX11_endYear 91 = .ok (.aload_n 0, 1) := by decide +kernel
theorem dX11_endYear_92 : decode cX11_endYear 92 = .ok (.getfield 19, 3) := by decide +kernel
theorem dX11_endYear_95 : decode cX11_endYear 95 = .ok (.iload_n 1, 1) := by decide +kernel
theorem dX11_endYear_96 : decode cX11_endYear 96 = .ok (.iaload, 1) := by decide +kernel
theorem dX11_endYear_97 : decode cX11_endYear 97 = .ok (.iadd, 1) := by decide +kernel
theorem dX11_endYear_98 : decode cX11_endYear 98 = .ok (.iload_n 2, 1) := by decide +kernel
theorem dX11_endYear_99 : decode cX11_endYear 99 = .ok (.ifCond .ne 7, 3) := by decide +kernel
theorem dX11_endYear_102 : decode cX11_endYear 102 = .ok (.iconst 0, 1) := by decide +kernel
theorem dX11_endYear_103 : decode cX11_endYear 103 = .ok (.goto 14, 3) := by decide +kernel
theorem dX11_endYear_106 : decode cX11_endYear 106 = .ok (.iload_n 2, 1) := by decide +kernel
theorem dX11_endYear_107 : decode cX11_endYear 107 = .ok (.bipush 90, 2) := by decide +kernel
theorem dX11_endYear_109 : decode cX11_endYear 109 = .ok (.if_icmp .le 7, 3) := by decide +kernel
theorem dX11_endYear_112 : decode cX11_endYear 112 = .ok (.iconst (-1), 1) := by decide +kernel
theorem dX11_endYear_113 : decode cX11_endYear 113 = .ok (.goto 4, 3) := by decide +kernel
theorem dX11_endYear_116 : decode cX11_endYear 116 = .ok (.iconst 1, 1) := by decide +kernel
theorem dX11_endYear_117 : decode cX11_endYear 117 = .ok (.iadd, 1) := by decide +kernel
theorem dX11_endYear_118 : decode cX11_endYear 118 = .ok (.invokestatic 57, 3) := by decide +kernel
theorem dX11_endYear_121 : decode cX11_endYear 121 = .ok (.iastore, 1) := by decide +kernel
theorem dX11_endYear_122 : decode cX11_endYear 122 = .ok (.iinc 1 1, 3) := by decide +kernel
theorem dX11_endYear_125 : decode cX11_endYear 125 = .ok (.goto (-108), 3) := by decide +kernel
theorem dX11_endYear_128 : decode cX11_endYear 128 = .ok (.iconst 0, 1) := by decide +kernel
theorem dX11_endYear_129 : decode cX11_endYear 129 = .ok (.istore_n 1, 1) := by decide +kernel
theorem dX11_endYear_130 : decode cX11_endYear 130 = .ok (.iload_n 1, 1) := by decide +kernel
theorem dX11_endYear_131 : decode cX11_endYear 131 = .ok (.bipush 9, 2) := by decide +kernel
theorem dX11_endYear_133 : decode cX11_endYear 133 = .ok (.if_icmp .ge 38, 3) := by decide +kernel
theorem dX11_endYear_136 : decode cX11_endYear 136 = .ok (.aload_n 0, 1) := by decide +kernel
theorem dX11_endYear_137 : decode cX11_endYear 137 = .ok (.getfield 13, 3) := by decide +kernel
theorem dX11_endYear_140 : decode cX11_endYear 140 = .ok (.iload_n 1, 1) := by decide +kernel
theorem dX11_endYear_141 : decode cX11_endYear 141 = .ok (.aload_n 0, 1) := by decide +kernel
theorem dX11_endYear_142 : decode cX11_endYear 142 = .ok (.iload_n 1, 1) := by decide +kernel
theorem dX11_endYear_143 : decode cX11_endYear 143 = .ok (.invokevirtual 73, 3) := by decide +kernel
theorem dX11_endYear_146 : decode cX11_endYear 146 = .ok (.ifCond .eq 12, 3) := by decide +kernel
theorem dX11_endYear_149 : decode cX11_endYear 149 = .ok (.aload_n 0, 1) := by decide +kernel
theorem dX11_endYear_150 : decode cX11_endYear 150 = .ok (.getfield 16, 3) := by decide +kernel
theorem dX11_endYear_153 : decode cX11_endYear 153 = .ok (.iload_n 1, 1) := by decide +kernel
theorem dX11_endYear_154 : decode cX11_endYear 154 = .ok (.iaload, 1) := by decide +kernel
theorem dX11_endYear_155 : decode cX11_endYear 155 = .ok (.goto 9, 3) := by decide +kernel
theorem dX11_endYear_158 : decode cX11_endYear 158 = .ok (.aload_n 0, 1) := by decide +kernel
theorem dX11_endYear_159 : decode cX11_endYear 159 = .ok (.getfield 13, 3) := by decide +kernel
theorem dX11_endYear_162 : decode cX11_endYear 162 = .ok (.iload_n 1, 1) := by decide +kernel
theorem dX11_endYear_163 : decode cX11_endYear 163 = .ok (.iaload, 1) := by decide +kernel
theorem dX11_endYear_164 : decode cX11_endYear 164 = .ok (.iastore, 1) := by decide +kernel
theorem dX11_endYear_165 : decode cX11_endYear 165 = .ok (.iinc 1 1, 3) := by decide +kernel
theorem dX11_endYear_168 : decode cX11_endYear 168 = .ok (.goto (-38), 3) := by decide +kernel
theorem dX11_endYear_171 : decode cX11_endYear 171 = .ok (.aload_n 0, 1) := by decide +kernel
theorem dX11_endYear_172 : decode cX11_endYear 172 = .ok (.getfield 13, 3) := by decide +kernel
theorem dX11_endYear_175 : decode cX11_endYear 175 = .ok (.bipush 28, 2) := by decide +kernel
theorem dX11_endYear_177 : decode cX11_endYear 177 = .ok (.dup2, 1) := by decide +kernel
theorem dX11_endYear_178 : decode cX11_endYear 178 = .ok (.iaload, 1) := by decide +kernel
theorem dX11_endYear_179 : decode cX11_endYear 179 = .ok (.iconst 1, 1) := by decide +kernel
theorem dX11_endYear_180 : decode cX11_endYear 180 = .ok (.iadd, 1) := by decide +kernel
theorem dX11_endYear_181 : decode cX11_endYear 181 = .ok (.iastore, 1) := by decide +kernel
theorem dX11_endYear_182 : decode cX11_endYear 182 = .ok (.aload_n 0, 1) := by decide +kernel
theorem dX11_endYear_183 : decode cX11_endYear 183 = .ok (.getfield 13, 3) := by decide +kernel
theorem dX11_endYear_186 : decode cX11_endYear 186 = .ok (.bipush 27, 2) := by decide +kernel
theorem dX11_endYear_188 : decode cX11_endYear 188 = .ok (.dup2, 1) := by decide +kernel
theorem dX11_endYear_189 : decode cX11_endYear 189 = .ok (.iaload, 1) := by decide +kernel
theorem dX11_endYear_190 : decode cX11_endYear 190 = .ok (.aload_n 0, 1) := by decide +kernel
theorem dX11_endYear_191 : decode cX11_endYear 191 = .ok (.getfield 13, 3) := by decide +kernel
theorem dX11_endYear_194 : decode cX11_endYear 194 = .ok (.bipush 28, 2) := by decide +kernel
theorem dX11_endYear_196 : decode cX11_endYear 196 = .ok (.iaload, 1) := by decide +kernel
theorem dX11_endYear_197 : decode cX11_endYear 197 = .ok (.iconst 2, 1) := by decide +kernel
theorem dX11_endYear_198 : decode cX11_endYear 198 = .ok (.irem, 1) := by decide +kernel
theorem dX11_endYear_199 : decode cX11_endYear 199 = .ok (.ifCond .ne 19, 3) := by decide +kernel
theorem dX11_endYear_202 : decode cX11_endYear 202 = .ok (.aload_n 0, 1) := by decide +kernel
theorem dX11_endYear_203 : decode cX11_endYear 203 = .ok (.getfield 13, 3) := by decide +kernel
theorem dX11_endYear_206 : decode cX11_endYear 206 = .ok (.bipush 27, 2) := by decide +kernel
theorem dX11_endYear_208 : decode cX11_endYear 208 = .ok (.iaload, 1) := by decide +kernel
theorem dX11_endYear_209 : decode cX11_endYear 209 = .ok (.bipush 9, 2) := by decide +kernel
theorem dX11_endYear_211 : decode cX11_endYear 211 = .ok (.if_icmp .ge 7, 3) := by decide +kernel
theorem dX11_endYear_214 : decode cX11_endYear 214 = .ok (.iconst 1, 1) := by decide +kernel
theorem dX11_endYear_215 : decode cX11_endYear 215 = .ok (.goto 4, 3) := by decide +kernel
theorem dX11_endYear_218 : decode cX11_endYear 218 = .ok (.iconst 0, 1) := by decide +kernel
theorem dX11_endYear_219 : decode cX11_endYear 219 = .ok (.iadd, 1) := by decide +kernel
theorem dX11_endYear_220 : decode cX11_endYear 220 = .ok (.iastore, 1) := by decide +kernel
theorem dX11_endYear_221 : decode cX11_endYear 221 = .ok (.iconst 0, 1) := by decide +kernel
theorem dX11_endYear_222 : decode cX11_endYear 222 = .ok (.ireturn, 1) := by decide +kernel
set_option maxRecDepth 20000 in
theorem ggX11_oneAct_X11_turn : GoodIn wsX11_oneAct wsX11_turn := goodIn_r _ [5, 6, 7, 8, 9, 4, 10, 11, 12, 13, 14, 15, 16, 17, 18, 19, 20, 33, 34, 35, 36, 37, 38, 39, 40, 41, 42, 43, 44, 45, 46, 47, 48, 49, 50, 51, 52, 53, 54, 55] (by decide +kernel) (by decide +kernel)
set_option maxRecDepth 20000 in
theorem gX11_oneAct_X11_turn : GoodIn wsX11_oneAct (wsV RX11 99 RX11 yX11_turn wsX11_turn) := goodIn_app (goodIn_of _ (by decide +kernel)) ggX11_oneAct_X11_turn
set_option maxRecDepth 20000 in
theorem ggX11_oneAct_X11_sit : GoodIn wsX11_oneAct wsX11_sit := goodIn_r _ [24, 6, 7, 8, 9, 4, 10, 11, 12, 13, 14, 15, 16, 17, 33, 34, 35, 36, 37, 38, 39, 40, 41, 42, 43, 44, 45, 46, 47, 48, 49, 50, 51, 52, 53, 54, 55] (by decide +kernel) (by decide +kernel)
set_option maxRecDepth 20000 in
theorem gX11_oneAct_X11_sit : GoodIn wsX11_oneAct (wsV RX11 103 RX11 yX11_sit wsX11_sit) := goodIn_app (goodIn_of _ (by decide +kernel)) ggX11_oneAct_X11_sit
set_option maxRecDepth 20000 in
theorem ggX11_oneAct_X11_rise : GoodIn wsX11_oneAct wsX11_rise := goodIn_r _ [28, 6, 7, 8, 9, 4, 10, 11, 12, 13, 14, 15, 16, 17, 33, 34, 35, 36, 37, 38, 39, 40, 41, 42, 43, 44, 45, 46, 47, 48, 49, 50, 51, 52, 53, 54, 55] (by decide +kernel) (by decide +kernel)
set_option maxRecDepth 20000 in
theorem gX11_oneAct_X11_rise : GoodIn wsX11_oneAct (wsV RX11 106 RX11 yX11_rise wsX11_rise) := goodIn_app (goodIn_of _ (by decide +kernel)) ggX11_oneAct_X11_rise
set_option maxRecDepth 20000 in
theorem ggX11_oneAct_X11_mark : GoodIn wsX11_oneAct wsX11_mark := goodIn_r _ [32, 6, 7, 8, 9, 4, 10, 11, 12, 13, 14, 15, 16, 17, 18, 19, 20, 33, 34, 35, 36, 37, 38, 39, 40, 41, 42, 43, 44, 45, 46, 47, 48, 49, 50, 51, 52, 53, 54, 55] (by decide +kernel) (by decide +kernel)
set_option maxRecDepth 20000 in
theorem gX11_oneAct_X11_mark : GoodIn wsX11_oneAct (wsV RX11 109 RX11 yX11_mark wsX11_mark) := goodIn_app (goodIn_of _ (by decide +kernel)) ggX11_oneAct_X11_mark
theorem dX11_oneAct_0 : decode cX11_oneAct 0 = .ok (.iload_n 2, 1) := by decide +kernel
theorem dX11_oneAct_1 : decode cX11_oneAct 1 = .ok (.tableswitch 91 38 47 #[75, 91, 91, 91, 91, 55, 91, 65, 91, 85], 55) := by decide +kernel
theorem dX11_oneAct_56 : decode cX11_oneAct 56 = .ok (.aload_n 0, 1) := by decide +kernel
theorem dX11_oneAct_57 : decode cX11_oneAct 57 = .ok (.iload_n 1, 1) := by decide +kernel
theorem dX11_oneAct_58 : decode cX11_oneAct 58 = .ok (.iload_n 3, 1) := by decide +kernel
theorem dX11_oneAct_59 : decode cX11_oneAct 59 = .ok (.bipush 48, 2) := by decide +kernel
theorem dX11_oneAct_61 : decode cX11_oneAct 61 = .ok (.isub, 1) := by decide +kernel
theorem dX11_oneAct_62 : decode cX11_oneAct 62 = .ok (.invokevirtual 99, 3) := by decide +kernel
theorem dX11_oneAct_65 : decode cX11_oneAct 65 = .ok (.ireturn, 1) := by decide +kernel
theorem dX11_oneAct_66 : decode cX11_oneAct 66 = .ok (.aload_n 0, 1) := by decide +kernel
theorem dX11_oneAct_67 : decode cX11_oneAct 67 = .ok (.iload_n 1, 1) := by decide +kernel
theorem dX11_oneAct_68 : decode cX11_oneAct 68 = .ok (.bipush 48, 2) := by decide +kernel
theorem dX11_oneAct_70 : decode cX11_oneAct 70 = .ok (.iload_n 3, 1) := by decide +kernel
theorem dX11_oneAct_71 : decode cX11_oneAct 71 = .ok (.isub, 1) := by decide +kernel
theorem dX11_oneAct_72 : decode cX11_oneAct 72 = .ok (.invokevirtual 99, 3) := by decide +kernel
theorem dX11_oneAct_75 : decode cX11_oneAct 75 = .ok (.ireturn, 1) := by decide +kernel
theorem dX11_oneAct_76 : decode cX11_oneAct 76 = .ok (.aload_n 0, 1) := by decide +kernel
theorem dX11_oneAct_77 : decode cX11_oneAct 77 = .ok (.iload_n 1, 1) := by decide +kernel
theorem dX11_oneAct_78 : decode cX11_oneAct 78 = .ok (.iload_n 3, 1) := by decide +kernel
theorem dX11_oneAct_79 : decode cX11_oneAct 79 = .ok (.bipush 65, 2) := by decide +kernel
theorem dX11_oneAct_81 : decode cX11_oneAct 81 = .ok (.isub, 1) := by decide +kernel
theorem dX11_oneAct_82 : decode cX11_oneAct 82 = .ok (.invokevirtual 103, 3) := by decide +kernel
theorem dX11_oneAct_85 : decode cX11_oneAct 85 = .ok (.ireturn, 1) := by decide +kernel
theorem dX11_oneAct_86 : decode cX11_oneAct 86 = .ok (.aload_n 0, 1) := by decide +kernel
theorem dX11_oneAct_87 : decode cX11_oneAct 87 = .ok (.iload_n 1, 1) := by decide +kernel
theorem dX11_oneAct_88 : decode cX11_oneAct 88 = .ok (.invokevirtual 106, 3) := by decide +kernel
theorem dX11_oneAct_91 : decode cX11_oneAct 91 = .ok (.ireturn, 1) := by decide +kernel
theorem dX11_oneAct_92 : decode cX11_oneAct 92 = .ok (.aload_n 0, 1) := by decide +kernel
theorem dX11_oneAct_93 : decode cX11_oneAct 93 = .ok (.iload_n 1, 1) := by decide +kernel
theorem dX11_oneAct_94 : decode cX11_oneAct 94 = .ok (.iload_n 2, 1) := by decide +kernel
theorem dX11_oneAct_95 : decode cX11_oneAct 95 = .ok (.bipush 63, 2) := by decide +kernel
theorem dX11_oneAct_97 : decode cX11_oneAct 97 = .ok (.if_icmp .ne 7, 3) := by decide +kernel
theorem dX11_oneAct_100 : decode cX11_oneAct 100 = .ok (.iconst 1, 1) := by decide +kernel
theorem dX11_oneAct_101 : decode cX11_oneAct 101 = .ok (.goto 4, 3) := by decide +kernel
theorem dX11_oneAct_104 : decode cX11_oneAct 104 = .ok (.iconst 0, 1) := by decide +kernel
theorem dX11_oneAct_105 : decode cX11_oneAct 105 = .ok (.invokevirtual 109, 3) := by decide +kernel
theorem dX11_oneAct_108 : decode cX11_oneAct 108 = .ok (.ireturn, 1) := by decide +kernel
set_option maxRecDepth 20000 in
theorem ggX11_goYears_X11_asNow : GoodIn wsX11_goYears wsX11_asNow := goodIn_r _ [12, 6, 13, 5, 7, 14, 15, 11, 16, 54, 55, 56, 57, 58, 59, 60, 61, 62, 63, 64, 65, 66, 67, 68, 69, 70, 71, 72, 73, 74, 75, 76] (by decide +kernel) (by decide +kernel)
set_option maxRecDepth 20000 in
theorem gX11_goYears_X11_asNow : GoodIn wsX11_goYears (wsV RX11 80 RX11 yX11_asNow wsX11_asNow) := goodIn_app (goodIn_of _ (by decide +kernel)) ggX11_goYears_X11_asNow
set_option maxRecDepth 20000 in
theorem ggX11_goYears_X11_endYear : GoodIn wsX11_goYears wsX11_endYear := goodIn_r _ [20, 6, 21, 22, 23, 24, 11, 25, 26, 27, 28, 29, 30, 14, 15, 16, 31, 32, 33, 54, 55, 56, 57, 58, 59, 60, 61, 62, 63, 64, 65, 66, 67, 68, 69, 70, 71, 72, 73, 74, 75, 76] (by decide +kernel) (by decide +kernel)
set_option maxRecDepth 20000 in
theorem gX11_goYears_X11_endYear : GoodIn wsX11_goYears (wsV RX11 116 RX11 yX11_endYear wsX11_endYear) := goodIn_app (goodIn_of _ (by decide +kernel)) ggX11_goYears_X11_endYear
set_option maxRecDepth 20000 in
theorem ggX11_goYears_X11_oneAct : GoodIn wsX11_goYears wsX11_oneAct := goodIn_r _ [37, 38, 39, 40, 11, 41, 6, 26, 27, 28, 29, 30, 14, 15, 16, 31, 32, 33, 23, 24, 25, 42, 43, 44, 45, 46, 47, 48, 49, 50, 51, 52, 53, 54, 55, 56, 57, 58, 59, 60, 61, 62, 63, 64, 65, 66, 67, 68, 69, 70, 71, 72, 73, 74, 75, 76] (by decide +kernel) (by decide +kernel)
set_option maxRecDepth 20000 in
theorem gX11_goYears_X11_oneAct : GoodIn wsX11_goYears (wsV RX11 122 RX11 yX11_oneAct wsX11_oneAct) := goodIn_app (goodIn_of _ (by decide +kernel)) ggX11_goYears_X11_oneAct
theorem dX11_goYears_0 : decode cX11_goYears 0 = .ok (.aload_n 0, 1) := by decide +kernel
theorem dX11_goYears_1 : decode cX11_goYears 1 = .ok (.invokevirtual 80, 3) := by decide +kernel
theorem dX11_goYears_4 : decode cX11_goYears 4 = .ok (.aload_n 0, 1) := by decide +kernel
theorem dX11_goYears_5 : decode cX11_goYears 5 = .ok (.iconst 0, 1) := by decide +kernel
theorem dX11_goYears_6 : decode cX11_goYears 6 = .ok (.putfield 113, 3) := by decide +kernel
theorem dX11_goYears_9 : decode cX11_goYears 9 = .ok (.iconst 0, 1) := by decide +kernel
theorem dX11_goYears_10 : decode cX11_goYears 10 = .ok (.istore_n 1, 1) := by decide +kernel
theorem dX11_goYears_11 : decode cX11_goYears 11 = .ok (.iload_n 1, 1) := by decide +kernel
theorem dX11_goYears_12 : decode cX11_goYears 12 = .ok (.aload_n 0, 1) := by decide +kernel
theorem dX11_goYears_13 : decode cX11_goYears 13 = .ok (.getfield 87, 3) := by decide +kernel
theorem dX11_goYears_16 : decode cX11_goYears 16 = .ok (.if_icmp .ge 211, 3) := by decide +kernel
theorem dX11_goYears_19 : decode cX11_goYears 19 = .ok (.aload_n 0, 1) := by decide +kernel
theorem dX11_goYears_20 : decode cX11_goYears 20 = .ok (.getfield 25, 3) := by decide +kernel
theorem dX11_goYears_23 : decode cX11_goYears 23 = .ok (.iload_n 1, 1) := by decide +kernel
theorem dX11_goYears_24 : decode cX11_goYears 24 = .ok (.iaload, 1) := by decide +kernel
theorem dX11_goYears_25 : decode cX11_goYears 25 = .ok (.istore_n 2, 1) := by decide +kernel
theorem dX11_goYears_26 : decode cX11_goYears 26 = .ok (.iload_n 2, 1) := by decide +kernel
theorem dX11_goYears_27 : decode cX11_goYears 27 = .ok (.bipush 46, 2) := by decide +kernel
theorem dX11_goYears_29 : decode cX11_goYears 29 = .ok (.if_icmp .ne 17, 3) := by decide +kernel
theorem dX11_goYears_32 : decode cX11_goYears 32 = .ok (.aload_n 0, 1) := by decide +kernel
theorem dX11_goYears_33 : decode cX11_goYears 33 = .ok (.aload_n 0, 1) := by decide +kernel
theorem dX11_goYears_34 : decode cX11_goYears 34 = .ok (.invokevirtual 116, 3) := by decide +kernel
theorem dX11_goYears_37 : decode cX11_goYears 37 = .ok (.putfield 119, 3) := by decide +kernel
theorem dX11_goYears_40 : decode cX11_goYears 40 = .ok (.iinc 1 1, 3) := by decide +kernel
theorem dX11_goYears_43 : decode cX11_goYears 43 = .ok (.goto 159, 3) := by decide +kernel
theorem dX11_goYears_46 : decode cX11_goYears 46 = .ok (.iload_n 2, 1) := by decide +kernel
theorem dX11_goYears_47 : decode cX11_goYears 47 = .ok (.bipush 65, 2) := by decide +kernel
theorem dX11_goYears_49 : decode cX11_goYears 49 = .ok (.isub, 1) := by decide +kernel
theorem dX11_goYears_50 : decode cX11_goYears 50 = .ok (.istore_n 3, 1) := by decide +kernel
theorem dX11_goYears_51 : decode cX11_goYears 51 = .ok (.aload_n 0, 1) := by decide +kernel
theorem dX11_goYears_52 : decode cX11_goYears 52 = .ok (.getfield 25, 3) := by decide +kernel
theorem dX11_goYears_55 : decode cX11_goYears 55 = .ok (.iload_n 1, 1) := by decide +kernel
theorem dX11_goYears_56 : decode cX11_goYears 56 = .ok (.iconst 1, 1) := by decide +kernel
theorem dX11_goYears_57 : decode cX11_goYears 57 = .ok (.iadd, 1) := by decide +kernel
theorem dX11_goYears_58 : decode cX11_goYears 58 = .ok (.iaload, 1) := by decide +kernel
theorem dX11_goYears_59 : decode cX11_goYears 59 = .ok (.istore 4, 2) := by decide +kernel
theorem dX11_goYears_61 : decode cX11_goYears 61 = .ok (.iload 4, 2) := by decide +kernel
theorem dX11_goYears_63 : decode cX11_goYears 63 = .ok (.bipush 43, 2) := by decide +kernel
theorem dX11_goYears_65 : decode cX11_goYears 65 = .ok (.if_icmp .eq 17, 3) := by decide +kernel
theorem dX11_goYears_68 : decode cX11_goYears 68 = .ok (.iload 4, 2) := by decide +kernel
theorem dX11_goYears_70 : decode cX11_goYears 70 = .ok (.bipush 45, 2) := by decide +kernel
theorem dX11_goYears_72 : decode cX11_goYears 72 = .ok (.if_icmp .eq 10, 3) := by decide +kernel
theorem dX11_goYears_75 : decode cX11_goYears 75 = .ok (.iload 4, 2) := by decide +kernel
theorem dX11_goYears_77 : decode cX11_goYears 77 = .ok (.bipush 38, 2) := by decide +kernel
theorem dX11_goYears_79 : decode cX11_goYears 79 = .ok (.if_icmp .ne 7, 3) := by decide +kernel
theorem dX11_goYears_82 : decode cX11_goYears 82 = .ok (.iconst 1, 1) := by decide +kernel
theorem dX11_goYears_83 : decode cX11_goYears 83 = .ok (.goto 4, 3) := by decide +kernel
theorem dX11_goYears_86 : decode cX11_goYears 86 = .ok (.iconst 0, 1) := by decide +kernel
theorem dX11_goYears_87 : decode cX11_goYears 87 = .ok (.istore 5, 2) := by decide +kernel
theorem dX11_goYears_89 : decode cX11_goYears 89 = .ok (.aload_n 0, 1) := by decide +kernel
theorem dX11_goYears_90 : decode cX11_goYears 90 = .ok (.aload_n 0, 1) := by decide +kernel
theorem dX11_goYears_91 : decode cX11_goYears 91 = .ok (.iload_n 3, 1) := by decide +kernel
theorem dX11_goYears_92 : decode cX11_goYears 92 = .ok (.iload 4, 2) := by decide +kernel
theorem dX11_goYears_94 : decode cX11_goYears 94 = .ok (.iload 5, 2) := by decide +kernel
theorem dX11_goYears_96 : decode cX11_goYears 96 = .ok (.ifCond .eq 14, 3) := by decide +kernel
theorem dX11_goYears_99 : decode cX11_goYears 99 = .ok (.aload_n 0, 1) := by decide +kernel
theorem dX11_goYears_100 : decode cX11_goYears 100 = .ok (.getfield 25, 3) := by decide +kernel
theorem dX11_goYears_103 : decode cX11_goYears 103 = .ok (.iload_n 1, 1) := by decide +kernel
theorem dX11_goYears_104 : decode cX11_goYears 104 = .ok (.iconst 2, 1) := by decide +kernel
theorem dX11_goYears_105 : decode cX11_goYears 105 = .ok (.iadd, 1) := by decide +kernel
theorem dX11_goYears_106 : decode cX11_goYears 106 = .ok (.iaload, 1) := by decide +kernel
theorem dX11_goYears_107 : decode cX11_goYears 107 = .ok (.goto 5, 3) := by decide +kernel
theorem dX11_goYears_110 : decode cX11_goYears 110 = .ok (.bipush 65, 2) := by decide +kernel
theorem dX11_goYears_112 : decode cX11_goYears 112 = .ok (.invokevirtual 122, 3) := by decide +kernel
theorem dX11_goYears_115 : decode cX11_goYears 115 = .ok (.putfield 119, 3) := by decide +kernel
theorem dX11_goYears_118 : decode cX11_goYears 118 = .ok (.iload_n 1, 1) := by decide +kernel
theorem dX11_goYears_119 : decode cX11_goYears 119 = .ok (.iload 5, 2) := by decide +kernel
theorem dX11_goYears_121 : decode cX11_goYears 121 = .ok (.ifCond .eq 7, 3) := by decide +kernel
theorem dX11_goYears_124 : decode cX11_goYears 124 = .ok (.iconst 3, 1) := by decide +kernel
theorem dX11_goYears_125 : decode cX11_goYears 125 = .ok (.goto 4, 3) := by decide +kernel
theorem dX11_goYears_128 : decode cX11_goYears 128 = .ok (.iconst 2, 1) := by decide +kernel
theorem dX11_goYears_129 : decode cX11_goYears 129 = .ok (.iadd, 1) := by decide +kernel
theorem dX11_goYears_130 : decode cX11_goYears 130 = .ok (.istore_n 1, 1) := by decide +kernel
theorem dX11_goYears_131 : decode cX11_goYears 131 = .ok (.aload_n 0, 1) := by decide +kernel
theorem dX11_goYears_132 : decode cX11_goYears 132 = .ok (.getfield 119, 3) := by decide +kernel
theorem dX11_goYears_135 : decode cX11_goYears 135 = .ok (.ifCond .ne 21, 3) := by decide +kernel
theorem dX11_goYears_138 : decode cX11_goYears 138 = .ok (.iload 4, 2) := by decide +kernel
theorem dX11_goYears_140 : decode cX11_goYears 140 = .ok (.bipush 58, 2) := by decide +kernel
theorem dX11_goYears_142 : decode cX11_goYears 142 = .ok (.if_icmp .eq 10, 3) := by decide +kernel
theorem dX11_goYears_145 : decode cX11_goYears 145 = .ok (.iload 4, 2) := by decide +kernel
theorem dX11_goYears_147 : decode cX11_goYears 147 = .ok (.bipush 63, 2) := by decide +kernel
theorem dX11_goYears_149 : decode cX11_goYears 149 = .ok (.if_icmp .ne 7, 3) := by decide +kernel
theorem dX11_goYears_152 : decode cX11_goYears 152 = .ok (.iconst 1, 1) := by decide +kernel
theorem dX11_goYears_153 : decode cX11_goYears 153 = .ok (.goto 4, 3) := by decide +kernel
theorem dX11_goYears_156 : decode cX11_goYears 156 = .ok (.iconst 0, 1) := by decide +kernel
theorem dX11_goYears_157 : decode cX11_goYears 157 = .ok (.istore 6, 2) := by decide +kernel
theorem dX11_goYears_159 : decode cX11_goYears 159 = .ok (.iload 6, 2) := by decide +kernel
theorem dX11_goYears_161 : decode cX11_goYears 161 = .ok (.ifCond .eq 41, 3) := by decide +kernel
theorem dX11_goYears_164 : decode cX11_goYears 164 = .ok (.aload_n 0, 1) := by decide +kernel
theorem dX11_goYears_165 : decode cX11_goYears 165 = .ok (.getfield 93, 3) := by decide +kernel
theorem dX11_goYears_168 : decode cX11_goYears 168 = .ok (.ifCond .ge 34, 3) := by decide +kernel
theorem dX11_goYears_171 : decode cX11_goYears 171 = .ok (.aload_n 0, 1) := by decide +kernel
theorem dX11_goYears_172 : decode cX11_goYears 172 = .ok (.getfield 13, 3) := by decide +kernel
theorem dX11_goYears_175 : decode cX11_goYears 175 = .ok (.bipush 18, 2) := by decide +kernel
theorem dX11_goYears_177 : decode cX11_goYears 177 = .ok (.iload_n 3, 1) := by decide +kernel
theorem dX11_goYears_178 : decode cX11_goYears 178 = .ok (.iadd, 1) := by decide +kernel
theorem dX11_goYears_179 : decode cX11_goYears 179 = .ok (.iaload, 1) := by decide +kernel
theorem dX11_goYears_180 : decode cX11_goYears 180 = .ok (.aload_n 0, 1) := by decide +kernel
theorem dX11_goYears_181 : decode cX11_goYears 181 = .ok (.getfield 13, 3) := by decide +kernel
theorem dX11_goYears_184 : decode cX11_goYears 184 = .ok (.iload_n 3, 1) := by decide +kernel
theorem dX11_goYears_185 : decode cX11_goYears 185 = .ok (.iaload, 1) := by decide +kernel
theorem dX11_goYears_186 : decode cX11_goYears 186 = .ok (.if_icmp .eq 16, 3) := by decide +kernel
theorem dX11_goYears_189 : decode cX11_goYears 189 = .ok (.aload_n 0, 1) := by decide +kernel
theorem dX11_goYears_190 : decode cX11_goYears 190 = .ok (.aload_n 0, 1) := by decide +kernel
theorem dX11_goYears_191 : decode cX11_goYears 191 = .ok (.getfield 113, 3) := by decide +kernel
theorem dX11_goYears_194 : decode cX11_goYears 194 = .ok (.putfield 93, 3) := by decide +kernel
theorem dX11_goYears_197 : decode cX11_goYears 197 = .ok (.aload_n 0, 1) := by decide +kernel
theorem dX11_goYears_198 : decode cX11_goYears 198 = .ok (.iload_n 3, 1) := by decide +kernel
theorem dX11_goYears_199 : decode cX11_goYears 199 = .ok (.putfield 96, 3) := by decide +kernel
theorem dX11_goYears_202 : decode cX11_goYears 202 = .ok (.aload_n 0, 1) := by decide +kernel
theorem dX11_goYears_203 : decode cX11_goYears 203 = .ok (.getfield 119, 3) := by decide +kernel
theorem dX11_goYears_206 : decode cX11_goYears 206 = .ok (.ifCond .le 8, 3) := by decide +kernel
theorem dX11_goYears_209 : decode cX11_goYears 209 = .ok (.aload_n 0, 1) := by decide +kernel
theorem dX11_goYears_210 : decode cX11_goYears 210 = .ok (.getfield 113, 3) := by decide +kernel
theorem dX11_goYears_213 : decode cX11_goYears 213 = .ok (.ireturn, 1) := by decide +kernel
theorem dX11_goYears_214 : decode cX11_goYears 214 = .ok (.aload_n 0, 1) := by decide +kernel
theorem dX11_goYears_215 : decode cX11_goYears 215 = .ok (.dup, 1) := by decide +kernel
theorem dX11_goYears_216 : decode cX11_goYears 216 = .ok (.getfield 113, 3) := by decide +kernel
theorem dX11_goYears_219 : decode cX11_goYears 219 = .ok (.iconst 1, 1) := by decide +kernel
theorem dX11_goYears_220 : decode cX11_goYears 220 = .ok (.iadd, 1) := by decide +kernel
theorem dX11_goYears_221 : decode cX11_goYears 221 = .ok (.putfield 113, 3) := by decide +kernel
theorem dX11_goYears_224 : decode cX11_goYears 224 = .ok (.goto (-213), 3) := by decide +kernel
theorem dX11_goYears_227 : decode cX11_goYears 227 = .ok (.bipush (-6), 2) := by decide +kernel
theorem dX11_goYears_229 : decode cX11_goYears 229 = .ok (.ireturn, 1) := by decide +kernel
set_option maxRecDepth 20000 in
theorem ggX11_judge_X11_in : GoodIn wsX11_judge wsX11_in := goodIn_r _ [5] (by decide +kernel) (by decide +kernel)
set_option maxRecDepth 20000 in
theorem gX11_judge_X11_in : GoodIn wsX11_judge (va_wsS RX11 61 yX11_in wsX11_in) := goodIn_app (goodIn_of _ (by decide +kernel)) ggX11_judge_X11_in
set_option maxRecDepth 20000 in
theorem ggX11_judge_X11_faultOf : GoodIn wsX11_judge wsX11_faultOf := goodIn_r _ [9, 10, 11, 2, 3, 4, 5, 62, 63, 64, 65, 66, 67, 68, 69, 70, 71, 72, 73, 74, 75, 76, 77, 78, 79, 80, 81, 82, 83, 84] (by decide +kernel) (by decide +kernel)
set_option maxRecDepth 20000 in
theorem gX11_judge_X11_faultOf : GoodIn wsX11_judge (wsV RX11 90 RX11 yX11_faultOf wsX11_faultOf) := goodIn_app (goodIn_of _ (by decide +kernel)) ggX11_judge_X11_faultOf
set_option maxRecDepth 20000 in
theorem ggX11_judge_X11_goYears : GoodIn wsX11_judge wsX11_goYears := goodIn_r _ [15, 16, 10, 11, 1, 17, 18, 19, 20, 21, 22, 4, 23, 24, 2, 3, 5, 25, 26, 27, 28, 29, 30, 31, 32, 33, 34, 35, 36, 37, 38, 39, 40, 41, 42, 43, 44, 45, 46, 47, 48, 49, 50, 51, 52, 53, 54, 55, 56, 57, 58, 59, 60, 61, 62, 63, 64, 65, 66, 67, 68, 69, 70, 71, 72, 73, 74, 75, 76, 77, 78, 79, 80, 81, 82, 83, 84] (by decide +kernel) (by decide +kernel)
set_option maxRecDepth 20000 in
theorem gX11_judge_X11_goYears : GoodIn wsX11_judge (wsV RX11 126 RX11 yX11_goYears wsX11_goYears) := goodIn_app (goodIn_of _ (by decide +kernel)) ggX11_judge_X11_goYears
theorem dX11_judge_0 : decode cX11_judge 0 = .ok (.iload_n 1, 1) := by decide +kernel
theorem dX11_judge_1 : decode cX11_judge 1 = .ok (.iconst 0, 1) := by decide +kernel
theorem dX11_judge_2 : decode cX11_judge 2 = .ok (.iconst 1, 1) := by decide +kernel
theorem dX11_judge_3 : decode cX11_judge 3 = .ok (.invokestatic 61, 3) := by decide +kernel
theorem dX11_judge_6 : decode cX11_judge 6 = .ok (.ifCond .ne 6, 3) := by decide +kernel
theorem dX11_judge_9 : decode cX11_judge 9 = .ok (.bipush (-2), 2) := by decide +kernel
theorem dX11_judge_11 : decode cX11_judge 11 = .ok (.ireturn, 1) := by decide +kernel
theorem dX11_judge_12 : decode cX11_judge 12 = .ok (.aload_n 0, 1) := by decide +kernel
theorem dX11_judge_13 : decode cX11_judge 13 = .ok (.invokevirtual 90, 3) := by decide +kernel
theorem dX11_judge_16 : decode cX11_judge 16 = .ok (.ifCond .lt 6, 3) := by decide +kernel
theorem dX11_judge_19 : decode cX11_judge 19 = .ok (.bipush (-5), 2) := by decide +kernel
theorem dX11_judge_21 : decode cX11_judge 21 = .ok (.ireturn, 1) := by decide +kernel
theorem dX11_judge_22 : decode cX11_judge 22 = .ok (.aload_n 0, 1) := by decide +kernel
theorem dX11_judge_23 : decode cX11_judge 23 = .ok (.invokevirtual 126, 3) := by decide +kernel
theorem dX11_judge_26 : decode cX11_judge 26 = .ok (.istore_n 2, 1) := by decide +kernel
theorem dX11_judge_27 : decode cX11_judge 27 = .ok (.iload_n 2, 1) := by decide +kernel
theorem dX11_judge_28 : decode cX11_judge 28 = .ok (.ifCond .lt 7, 3) := by decide +kernel
theorem dX11_judge_31 : decode cX11_judge 31 = .ok (.iload_n 1, 1) := by decide +kernel
theorem dX11_judge_32 : decode cX11_judge 32 = .ok (.ifCond .ne 7, 3) := by decide +kernel
theorem dX11_judge_35 : decode cX11_judge 35 = .ok (.iload_n 2, 1) := by decide +kernel
theorem dX11_judge_36 : decode cX11_judge 36 = .ok (.goto 7, 3) := by decide +kernel
theorem dX11_judge_39 : decode cX11_judge 39 = .ok (.aload_n 0, 1) := by decide +kernel
theorem dX11_judge_40 : decode cX11_judge 40 = .ok (.getfield 119, 3) := by decide +kernel
theorem dX11_judge_43 : decode cX11_judge 43 = .ok (.ireturn, 1) := by decide +kernel
set_option maxRecDepth 20000 in
theorem ggX11_barOfYears_X11_faultOf : GoodIn wsX11_barOfYears wsX11_faultOf := goodIn_r _ [5, 6, 7, 8, 9, 4, 10, 62, 63, 64, 65, 66, 67, 68, 69, 70, 71, 72, 73, 74, 75, 76, 77, 78, 79, 80, 81, 82, 83, 84] (by decide +kernel) (by decide +kernel)
set_option maxRecDepth 20000 in
theorem gX11_barOfYears_X11_faultOf : GoodIn wsX11_barOfYears (wsV RX11 90 RX11 yX11_faultOf wsX11_faultOf) := goodIn_app (goodIn_of _ (by decide +kernel)) ggX11_barOfYears_X11_faultOf
set_option maxRecDepth 20000 in
theorem ggX11_barOfYears_X11_goYears : GoodIn wsX11_barOfYears wsX11_goYears := goodIn_r _ [14, 15, 6, 7, 16, 17, 18, 19, 20, 21, 22, 4, 23, 24, 8, 9, 10, 25, 26, 27, 28, 29, 30, 31, 32, 33, 34, 35, 36, 37, 38, 39, 40, 41, 42, 43, 44, 45, 46, 47, 48, 49, 50, 51, 52, 53, 54, 55, 56, 57, 58, 59, 60, 61, 62, 63, 64, 65, 66, 67, 68, 69, 70, 71, 72, 73, 74, 75, 76, 77, 78, 79, 80, 81, 82, 83, 84] (by decide +kernel) (by decide +kernel)
set_option maxRecDepth 20000 in
theorem gX11_barOfYears_X11_goYears : GoodIn wsX11_barOfYears (wsV RX11 126 RX11 yX11_goYears wsX11_goYears) := goodIn_app (goodIn_of _ (by decide +kernel)) ggX11_barOfYears_X11_goYears
theorem dX11_barOfYears_0 : decode cX11_barOfYears 0 = .ok (.aload_n 0, 1) := by decide +kernel
theorem dX11_barOfYears_1 : decode cX11_barOfYears 1 = .ok (.invokevirtual 90, 3) := by decide +kernel
theorem dX11_barOfYears_4 : decode cX11_barOfYears 4 = .ok (.ifCond .ge 10, 3) := by decide +kernel
theorem dX11_barOfYears_7 : decode cX11_barOfYears 7 = .ok (.aload_n 0, 1) := by decide +kernel
theorem dX11_barOfYears_8 : decode cX11_barOfYears 8 = .ok (.invokevirtual 126, 3) := by decide +kernel
theorem dX11_barOfYears_11 : decode cX11_barOfYears 11 = .ok (.ifCond .lt 8, 3) := by decide +kernel
theorem dX11_barOfYears_14 : decode cX11_barOfYears 14 = .ok (.bipush (-5), 2) := by decide +kernel
theorem dX11_barOfYears_16 : decode cX11_barOfYears 16 = .ok (.goto 4, 3) := by decide +kernel
theorem dX11_barOfYears_19 : decode cX11_barOfYears 19 = .ok (.iconst 0, 1) := by decide +kernel
theorem dX11_barOfYears_20 : decode cX11_barOfYears 20 = .ok (.ireturn, 1) := by decide +kernel
set_option maxRecDepth 20000 in
theorem ggX11_done_X11_barOfYears : GoodIn wsX11_done wsX11_barOfYears := goodIn_r _ [9, 10, 11, 12, 8, 13, 3, 14, 15, 16, 17, 18, 19, 20, 21, 4, 22, 23, 2, 24, 25, 26, 27, 28, 1, 29, 30, 31, 32, 33, 34, 35, 36, 37, 38, 39, 40, 41, 42, 43, 44, 45, 46, 47, 48, 49, 50, 51, 52, 53, 54, 55, 56, 57, 58, 59, 60, 61, 62, 63, 64, 65, 66, 67, 68, 69, 70, 71, 72, 73, 74, 75, 76, 77, 78, 79, 80, 81, 82, 83, 84, 85, 86, 87, 88] (by decide +kernel) (by decide +kernel)
set_option maxRecDepth 20000 in
theorem gX11_done_X11_barOfYears : GoodIn wsX11_done (wsV RX11 129 RX11 yX11_barOfYears wsX11_barOfYears) := goodIn_app (goodIn_of _ (by decide +kernel)) ggX11_done_X11_barOfYears
theorem dX11_done_0 : decode cX11_done 0 = .ok (.aload_n 0, 1) := by decide +kernel
theorem dX11_done_1 : decode cX11_done 1 = .ok (.invokevirtual 129, 3) := by decide +kernel
theorem dX11_done_4 : decode cX11_done 4 = .ok (.ifCond .ge 6, 3) := by decide +kernel
theorem dX11_done_7 : decode cX11_done 7 = .ok (.bipush (-5), 2) := by decide +kernel
theorem dX11_done_9 : decode cX11_done 9 = .ok (.ireturn, 1) := by decide +kernel
theorem dX11_done_10 : decode cX11_done 10 = .ok (.iconst 0, 1) := by decide +kernel
theorem dX11_done_11 : decode cX11_done 11 = .ok (.istore_n 1, 1) := by decide +kernel
theorem dX11_done_12 : decode cX11_done 12 = .ok (.iload_n 1, 1) := by decide +kernel
theorem dX11_done_13 : decode cX11_done 13 = .ok (.bipush 29, 2) := by decide +kernel
theorem dX11_done_15 : decode cX11_done 15 = .ok (.if_icmp .ge 21, 3) := by decide +kernel
theorem dX11_done_18 : decode cX11_done 18 = .ok (.aload_n 0, 1) := by decide +kernel
theorem dX11_done_19 : decode cX11_done 19 = .ok (.getfield 7, 3) := by decide +kernel
theorem dX11_done_22 : decode cX11_done 22 = .ok (.iload_n 1, 1) := by decide +kernel
theorem dX11_done_23 : decode cX11_done 23 = .ok (.aload_n 0, 1) := by decide +kernel
theorem dX11_done_24 : decode cX11_done 24 = .ok (.getfield 13, 3) := by decide +kernel
theorem dX11_done_27 : decode cX11_done 27 = .ok (.iload_n 1, 1) := by decide +kernel
theorem dX11_done_28 : decode cX11_done 28 = .ok (.iaload, 1) := by decide +kernel
theorem dX11_done_29 : decode cX11_done 29 = .ok (.iastore, 1) := by decide +kernel
theorem dX11_done_30 : decode cX11_done 30 = .ok (.iinc 1 1, 3) := by decide +kernel
theorem dX11_done_33 : decode cX11_done 33 = .ok (.goto (-21), 3) := by decide +kernel
theorem dX11_done_36 : decode cX11_done 36 = .ok (.aload_n 0, 1) := by decide +kernel
theorem dX11_done_37 : decode cX11_done 37 = .ok (.iconst 0, 1) := by decide +kernel
theorem dX11_done_38 : decode cX11_done 38 = .ok (.putfield 87, 3) := by decide +kernel
theorem dX11_done_41 : decode cX11_done 41 = .ok (.aload_n 0, 1) := by decide +kernel
theorem dX11_done_42 : decode cX11_done 42 = .ok (.getfield 113, 3) := by decide +kernel
theorem dX11_done_45 : decode cX11_done 45 = .ok (.ireturn, 1) := by decide +kernel
set_option maxRecDepth 20000 in
theorem ggX11_behind_X11_isThere : GoodIn wsX11_behind wsX11_isThere := goodIn_r _ [6, 7, 8, 9, 5, 10, 11, 12, 13, 66, 67, 68, 69, 70, 71, 72, 73, 74, 75, 76, 77, 78, 79, 80, 81, 82, 83, 84, 85, 86, 87, 88] (by decide +kernel) (by decide +kernel)
set_option maxRecDepth 20000 in
theorem gX11_behind_X11_isThere : GoodIn wsX11_behind (wsV RX11 73 RX11 yX11_isThere wsX11_isThere) := goodIn_app (goodIn_of _ (by decide +kernel)) ggX11_behind_X11_isThere
set_option maxRecDepth 20000 in
theorem ggX11_behind_X11_in : GoodIn wsX11_behind wsX11_in := goodIn_r _ [10] (by decide +kernel) (by decide +kernel)
set_option maxRecDepth 20000 in
theorem gX11_behind_X11_in : GoodIn wsX11_behind (va_wsS RX11 61 yX11_in wsX11_in) := goodIn_app (goodIn_of _ (by decide +kernel)) ggX11_behind_X11_in
set_option maxRecDepth 20000 in
theorem ggX11_behind_X11_barOfYears : GoodIn wsX11_behind wsX11_barOfYears := goodIn_r _ [17, 18, 19, 20, 5, 21, 22, 23, 8, 9, 10, 24, 25, 26, 27, 28, 29, 30, 1, 31, 32, 33, 34, 35, 36, 37, 38, 39, 40, 41, 42, 43, 44, 45, 2, 3, 4, 6, 7, 11, 12, 13, 46, 47, 48, 49, 50, 51, 52, 53, 54, 55, 56, 57, 58, 59, 60, 61, 62, 63, 64, 65, 66, 67, 68, 69, 70, 71, 72, 73, 74, 75, 76, 77, 78, 79, 80, 81, 82, 83, 84, 85, 86, 87, 88] (by decide +kernel) (by decide +kernel)
set_option maxRecDepth 20000 in
theorem gX11_behind_X11_barOfYears : GoodIn wsX11_behind (wsV RX11 129 RX11 yX11_barOfYears wsX11_barOfYears) := goodIn_app (goodIn_of _ (by decide +kernel)) ggX11_behind_X11_barOfYears
theorem dX11_behind_0 : decode cX11_behind 0 = .ok (.aload_n 0, 1) := by decide +kernel
theorem dX11_behind_1 : decode cX11_behind 1 = .ok (.iload_n 1, 1) := by decide +kernel
theorem dX11_behind_2 : decode cX11_behind 2 = .ok (.invokevirtual 73, 3) := by decide +kernel
theorem dX11_behind_5 : decode cX11_behind 5 = .ok (.ifCond .ne 5, 3) := by decide +kernel
theorem dX11_behind_8 : decode cX11_behind 8 = .ok (.iconst (-1), 1) := by decide +kernel
theorem dX11_behind_9 : decode cX11_behind 9 = .ok (.ireturn, 1) := by decide +kernel
theorem dX11_behind_10 : decode cX11_behind 10 = .ok (.iload_n 2, 1) := by decide +kernel
theorem dX11_behind_11 : decode cX11_behind 11 = .ok (.iconst 0, 1) := by decide +kernel
theorem dX11_behind_12 : decode cX11_behind 12 = .ok (.iconst 2, 1) := by decide +kernel
theorem dX11_behind_13 : decode cX11_behind 13 = .ok (.invokestatic 61, 3) := by decide +kernel
theorem dX11_behind_16 : decode cX11_behind 16 = .ok (.ifCond .ne 6, 3) := by decide +kernel
theorem dX11_behind_19 : decode cX11_behind 19 = .ok (.bipush (-2), 2) := by decide +kernel
theorem dX11_behind_21 : decode cX11_behind 21 = .ok (.ireturn, 1) := by decide +kernel
theorem dX11_behind_22 : decode cX11_behind 22 = .ok (.aload_n 0, 1) := by decide +kernel
theorem dX11_behind_23 : decode cX11_behind 23 = .ok (.invokevirtual 129, 3) := by decide +kernel
theorem dX11_behind_26 : decode cX11_behind 26 = .ok (.ifCond .ge 8, 3) := by decide +kernel
theorem dX11_behind_29 : decode cX11_behind 29 = .ok (.bipush (-5), 2) := by decide +kernel
theorem dX11_behind_31 : decode cX11_behind 31 = .ok (.goto 14, 3) := by decide +kernel
theorem dX11_behind_34 : decode cX11_behind 34 = .ok (.aload_n 0, 1) := by decide +kernel
theorem dX11_behind_35 : decode cX11_behind 35 = .ok (.getfield 13, 3) := by decide +kernel
theorem dX11_behind_38 : decode cX11_behind 38 = .ok (.bipush 9, 2) := by decide +kernel
theorem dX11_behind_40 : decode cX11_behind 40 = .ok (.iload_n 2, 1) := by decide +kernel
theorem dX11_behind_41 : decode cX11_behind 41 = .ok (.imul, 1) := by decide +kernel
theorem dX11_behind_42 : decode cX11_behind 42 = .ok (.iload_n 1, 1) := by decide +kernel
theorem dX11_behind_43 : decode cX11_behind 43 = .ok (.iadd, 1) := by decide +kernel
theorem dX11_behind_44 : decode cX11_behind 44 = .ok (.iaload, 1) := by decide +kernel
theorem dX11_behind_45 : decode cX11_behind 45 = .ok (.ireturn, 1) := by decide +kernel
set_option maxRecDepth 20000 in
theorem ggX11_then_X11_in : GoodIn wsX11_then wsX11_in := goodIn_r _ [7] (by decide +kernel) (by decide +kernel)
set_option maxRecDepth 20000 in
theorem gX11_then_X11_in : GoodIn wsX11_then (va_wsS RX11 61 yX11_in wsX11_in) := goodIn_app (goodIn_of _ (by decide +kernel)) ggX11_then_X11_in
set_option maxRecDepth 20000 in
theorem ggX11_then_X11_barOfYears : GoodIn wsX11_then wsX11_barOfYears := goodIn_r _ [11, 12, 13, 14, 6, 15, 16, 17, 4, 5, 7, 18, 19, 20, 21, 22, 23, 2, 1, 3, 24, 25, 26, 27, 28, 29, 30, 31, 32, 33, 34, 35, 36, 37, 38, 39, 40, 41, 42, 43, 44, 45, 46, 47, 48, 49, 50, 51, 52, 53, 54, 55, 56, 57, 58, 59, 60, 61, 62, 63, 64, 65, 70, 71, 72, 73, 74, 75, 76, 77, 78, 79, 80, 81, 82, 83, 84, 85, 86, 87, 88, 89, 90, 91, 92] (by decide +kernel) (by decide +kernel)
set_option maxRecDepth 20000 in
theorem gX11_then_X11_barOfYears : GoodIn wsX11_then (wsV RX11 129 RX11 yX11_barOfYears wsX11_barOfYears) := goodIn_app (goodIn_of _ (by decide +kernel)) ggX11_then_X11_barOfYears
set_option maxRecDepth 20000 in
theorem ggX11_then_X11_pairsOf : GoodIn wsX11_then wsX11_pairsOf := goodIn_r _ [69, 1, 38, 39, 40, 6, 41, 42, 4, 5, 7, 43, 44, 45, 70, 71, 72, 73, 74, 75, 76, 77, 78, 79, 80, 81, 82, 83, 84, 85, 86, 87, 88, 89, 90, 91, 92] (by decide +kernel) (by decide +kernel)
set_option maxRecDepth 20000 in
theorem gX11_then_X11_pairsOf : GoodIn wsX11_then (wsV RX11 83 RX11 yX11_pairsOf wsX11_pairsOf) := goodIn_app (goodIn_of _ (by decide +kernel)) ggX11_then_X11_pairsOf
theorem dX11_then_0 : decode cX11_then 0 = .ok (.iload_n 1, 1) := by decide +kernel
theorem dX11_then_1 : decode cX11_then 1 = .ok (.iconst 0, 1) := by decide +kernel
theorem dX11_then_2 : decode cX11_then 2 = .ok (.iconst 4, 1) := by decide +kernel
theorem dX11_then_3 : decode cX11_then 3 = .ok (.invokestatic 61, 3) := by decide +kernel
theorem dX11_then_6 : decode cX11_then 6 = .ok (.ifCond .ne 6, 3) := by decide +kernel
theorem dX11_then_9 : decode cX11_then 9 = .ok (.bipush (-2), 2) := by decide +kernel
theorem dX11_then_11 : decode cX11_then 11 = .ok (.ireturn, 1) := by decide +kernel
theorem dX11_then_12 : decode cX11_then 12 = .ok (.aload_n 0, 1) := by decide +kernel
theorem dX11_then_13 : decode cX11_then 13 = .ok (.invokevirtual 129, 3) := by decide +kernel
theorem dX11_then_16 : decode cX11_then 16 = .ok (.ifCond .ge 6, 3) := by decide +kernel
theorem dX11_then_19 : decode cX11_then 19 = .ok (.bipush (-5), 2) := by decide +kernel
theorem dX11_then_21 : decode cX11_then 21 = .ok (.ireturn, 1) := by decide +kernel
theorem dX11_then_22 : decode cX11_then 22 = .ok (.iload_n 1, 1) := by decide +kernel
theorem dX11_then_23 : decode cX11_then 23 = .ok (.tableswitch 49 0 3 #[29, 29, 39, 44], 29) := by decide +kernel
theorem dX11_then_52 : decode cX11_then 52 = .ok (.aload_n 0, 1) := by decide +kernel
theorem dX11_then_53 : decode cX11_then 53 = .ok (.getfield 13, 3) := by decide +kernel
theorem dX11_then_56 : decode cX11_then 56 = .ok (.bipush 27, 2) := by decide +kernel
theorem dX11_then_58 : decode cX11_then 58 = .ok (.iload_n 1, 1) := by decide +kernel
theorem dX11_then_59 : decode cX11_then 59 = .ok (.iadd, 1) := by decide +kernel
theorem dX11_then_60 : decode cX11_then 60 = .ok (.iaload, 1) := by decide +kernel
theorem dX11_then_61 : decode cX11_then 61 = .ok (.ireturn, 1) := by decide +kernel
theorem dX11_then_62 : decode cX11_then 62 = .ok (.aload_n 0, 1) := by decide +kernel
theorem dX11_then_63 : decode cX11_then 63 = .ok (.invokevirtual 83, 3) := by decide +kernel
theorem dX11_then_66 : decode cX11_then 66 = .ok (.ireturn, 1) := by decide +kernel
theorem dX11_then_67 : decode cX11_then 67 = .ok (.aload_n 0, 1) := by decide +kernel
theorem dX11_then_68 : decode cX11_then 68 = .ok (.getfield 93, 3) := by decide +kernel
theorem dX11_then_71 : decode cX11_then 71 = .ok (.ireturn, 1) := by decide +kernel
theorem dX11_then_72 : decode cX11_then 72 = .ok (.aload_n 0, 1) := by decide +kernel
theorem dX11_then_73 : decode cX11_then 73 = .ok (.getfield 96, 3) := by decide +kernel
theorem dX11_then_76 : decode cX11_then 76 = .ok (.ireturn, 1) := by decide +kernel
set_option maxRecDepth 20000 in
theorem ggX11_apart_X11_isThere : GoodIn wsX11_apart wsX11_isThere := goodIn_r _ [6, 7, 8, 9, 5, 10, 11, 12, 13, 20, 21, 22, 23, 24, 25, 26, 27, 28, 29, 30, 31, 32, 33, 34, 35, 36, 37, 38, 39, 40, 41, 42] (by decide +kernel) (by decide +kernel)
set_option maxRecDepth 20000 in
theorem gX11_apart_X11_isThere : GoodIn wsX11_apart (wsV RX11 73 RX11 yX11_isThere wsX11_isThere) := goodIn_app (goodIn_of _ (by decide +kernel)) ggX11_apart_X11_isThere
set_option maxRecDepth 20000 in
theorem ggX11_apart_X11_apartOf : GoodIn wsX11_apart wsX11_apartOf := goodIn_r _ [16, 17, 18, 5, 19] (by decide +kernel) (by decide +kernel)
set_option maxRecDepth 20000 in
theorem gX11_apart_X11_apartOf : GoodIn wsX11_apart (va_wsS RX11 132 yX11_apartOf wsX11_apartOf) := goodIn_app (goodIn_of _ (by decide +kernel)) ggX11_apart_X11_apartOf
theorem dX11_apart_0 : decode cX11_apart 0 = .ok (.aload_n 0, 1) := by decide +kernel
theorem dX11_apart_1 : decode cX11_apart 1 = .ok (.iload_n 1, 1) := by decide +kernel
theorem dX11_apart_2 : decode cX11_apart 2 = .ok (.invokevirtual 73, 3) := by decide +kernel
theorem dX11_apart_5 : decode cX11_apart 5 = .ok (.ifCond .eq 29, 3) := by decide +kernel
theorem dX11_apart_8 : decode cX11_apart 8 = .ok (.aload_n 0, 1) := by decide +kernel
theorem dX11_apart_9 : decode cX11_apart 9 = .ok (.iload_n 2, 1) := by decide +kernel
theorem dX11_apart_10 : decode cX11_apart 10 = .ok (.invokevirtual 73, 3) := by decide +kernel
theorem dX11_apart_13 : decode cX11_apart 13 = .ok (.ifCond .eq 21, 3) := by decide +kernel
theorem dX11_apart_16 : decode cX11_apart 16 = .ok (.aload_n 0, 1) := by decide +kernel
theorem dX11_apart_17 : decode cX11_apart 17 = .ok (.getfield 7, 3) := by decide +kernel
theorem dX11_apart_20 : decode cX11_apart 20 = .ok (.iload_n 1, 1) := by decide +kernel
theorem dX11_apart_21 : decode cX11_apart 21 = .ok (.iaload, 1) := by decide +kernel
theorem dX11_apart_22 : decode cX11_apart 22 = .ok (.aload_n 0, 1) := by decide +kernel
theorem dX11_apart_23 : decode cX11_apart 23 = .ok (.getfield 7, 3) := by decide +kernel
theorem dX11_apart_26 : decode cX11_apart 26 = .ok (.iload_n 2, 1) := by decide +kernel
theorem dX11_apart_27 : decode cX11_apart 27 = .ok (.iaload, 1) := by decide +kernel
theorem dX11_apart_28 : decode cX11_apart 28 = .ok (.invokestatic 132, 3) := by decide +kernel
theorem dX11_apart_31 : decode cX11_apart 31 = .ok (.goto 4, 3) := by decide +kernel
theorem dX11_apart_34 : decode cX11_apart 34 = .ok (.iconst (-1), 1) := by decide +kernel
theorem dX11_apart_35 : decode cX11_apart 35 = .ok (.ireturn, 1) := by decide +kernel
set_option maxRecDepth 20000 in
theorem ggX11_layTriangles_X11_isThere : GoodIn wsX11_layTriangles wsX11_isThere := goodIn_r _ [7, 8, 9, 10, 6, 11, 12, 13, 14, 21, 22, 23, 24, 25, 26, 27, 28, 29, 30, 31, 32, 33, 34, 35, 36, 37, 38, 39, 40, 41, 42, 43] (by decide +kernel) (by decide +kernel)
set_option maxRecDepth 20000 in
theorem gX11_layTriangles_X11_isThere : GoodIn wsX11_layTriangles (wsV RX11 73 RX11 yX11_isThere wsX11_isThere) := goodIn_app (goodIn_of _ (by decide +kernel)) ggX11_layTriangles_X11_isThere
set_option maxRecDepth 20000 in
theorem ggX11_layTriangles_X11_apartOf : GoodIn wsX11_layTriangles wsX11_apartOf := goodIn_r _ [17, 18, 19, 6, 20] (by decide +kernel) (by decide +kernel)
set_option maxRecDepth 20000 in
theorem gX11_layTriangles_X11_apartOf : GoodIn wsX11_layTriangles (va_wsS RX11 132 yX11_apartOf wsX11_apartOf) := goodIn_app (goodIn_of _ (by decide +kernel)) ggX11_layTriangles_X11_apartOf
theorem dX11_layTriangles_0 : decode cX11_layTriangles 0 = .ok (.iconst 0, 1) := by decide +kernel
theorem dX11_layTriangles_1 : decode cX11_layTriangles 1 = .ok (.istore_n 1, 1) := by decide +kernel
theorem dX11_layTriangles_2 : decode cX11_layTriangles 2 = .ok (.aload_n 0, 1) := by decide +kernel
theorem dX11_layTriangles_3 : decode cX11_layTriangles 3 = .ok (.bipush (-6), 2) := by decide +kernel
theorem dX11_layTriangles_5 : decode cX11_layTriangles 5 = .ok (.putfield 135, 3) := by decide +kernel
theorem dX11_layTriangles_8 : decode cX11_layTriangles 8 = .ok (.bipush 8, 2) := by decide +kernel
theorem dX11_layTriangles_10 : decode cX11_layTriangles 10 = .ok (.istore_n 2, 1) := by decide +kernel
theorem dX11_layTriangles_11 : decode cX11_layTriangles 11 = .ok (.iload_n 2, 1) := by decide +kernel
theorem dX11_layTriangles_12 : decode cX11_layTriangles 12 = .ok (.ifCond .lt 186, 3) := by decide +kernel
theorem dX11_layTriangles_15 : decode cX11_layTriangles 15 = .ok (.iload_n 2, 1) := by decide +kernel
theorem dX11_layTriangles_16 : decode cX11_layTriangles 16 = .ok (.iconst 1, 1) := by decide +kernel
theorem dX11_layTriangles_17 : decode cX11_layTriangles 17 = .ok (.isub, 1) := by decide +kernel
theorem dX11_layTriangles_18 : decode cX11_layTriangles 18 = .ok (.istore_n 3, 1) := by decide +kernel
theorem dX11_layTriangles_19 : decode cX11_layTriangles 19 = .ok (.iload_n 3, 1) := by decide +kernel
theorem dX11_layTriangles_20 : decode cX11_layTriangles 20 = .ok (.ifCond .lt 172, 3) := by decide +kernel
theorem dX11_layTriangles_23 : decode cX11_layTriangles 23 = .ok (.iload_n 3, 1) := by decide +kernel
theorem dX11_layTriangles_24 : decode cX11_layTriangles 24 = .ok (.iconst 1, 1) := by decide +kernel
theorem dX11_layTriangles_25 : decode cX11_layTriangles 25 = .ok (.isub, 1) := by decide +kernel
theorem dX11_layTriangles_26 : decode cX11_layTriangles 26 = .ok (.istore 4, 2) := by decide +kernel
theorem dX11_layTriangles_28 : decode cX11_layTriangles 28 = .ok (.iload 4, 2) := by decide +kernel
theorem dX11_layTriangles_30 : decode cX11_layTriangles 30 = .ok (.ifCond .lt 156, 3) := by decide +kernel
theorem dX11_layTriangles_33 : decode cX11_layTriangles 33 = .ok (.aload_n 0, 1) := by decide +kernel
theorem dX11_layTriangles_34 : decode cX11_layTriangles 34 = .ok (.iload 4, 2) := by decide +kernel
theorem dX11_layTriangles_36 : decode cX11_layTriangles 36 = .ok (.invokevirtual 73, 3) := by decide +kernel
theorem dX11_layTriangles_39 : decode cX11_layTriangles 39 = .ok (.ifCond .eq 23, 3) := by decide +kernel
theorem dX11_layTriangles_42 : decode cX11_layTriangles 42 = .ok (.aload_n 0, 1) := by decide +kernel
theorem dX11_layTriangles_43 : decode cX11_layTriangles 43 = .ok (.iload_n 3, 1) := by decide +kernel
theorem dX11_layTriangles_44 : decode cX11_layTriangles 44 = .ok (.invokevirtual 73, 3) := by decide +kernel
theorem dX11_layTriangles_47 : decode cX11_layTriangles 47 = .ok (.ifCond .eq 15, 3) := by decide +kernel
theorem dX11_layTriangles_50 : decode cX11_layTriangles 50 = .ok (.aload_n 0, 1) := by decide +kernel
theorem dX11_layTriangles_51 : decode cX11_layTriangles 51 = .ok (.iload_n 2, 1) := by decide +kernel
theorem dX11_layTriangles_52 : decode cX11_layTriangles 52 = .ok (.invokevirtual 73, 3) := by decide +kernel
theorem dX11_layTriangles_55 : decode cX11_layTriangles 55 = .ok (.ifCond .eq 7, 3) := by decide +kernel
theorem dX11_layTriangles_58 : decode cX11_layTriangles 58 = .ok (.iconst 1, 1) := by decide +kernel
theorem dX11_layTriangles_59 : decode cX11_layTriangles 59 = .ok (.goto 4, 3) := by decide +kernel
theorem dX11_layTriangles_62 : decode cX11_layTriangles 62 = .ok (.iconst 0, 1) := by decide +kernel
theorem dX11_layTriangles_63 : decode cX11_layTriangles 63 = .ok (.istore 5, 2) := by decide +kernel
theorem dX11_layTriangles_65 : decode cX11_layTriangles 65 = .ok (.iload 5, 2) := by decide +kernel
theorem dX11_layTriangles_67 : decode cX11_layTriangles 67 = .ok (.ifCond .eq 69, 3) := by decide +kernel
theorem dX11_layTriangles_70 : decode cX11_layTriangles 70 = .ok (.aload_n 0, 1) := by decide +kernel
theorem dX11_layTriangles_71 : decode cX11_layTriangles 71 = .ok (.getfield 13, 3) := by decide +kernel
theorem dX11_layTriangles_74 : decode cX11_layTriangles 74 = .ok (.iload 4, 2) := by decide +kernel
theorem dX11_layTriangles_76 : decode cX11_layTriangles 76 = .ok (.iaload, 1) := by decide +kernel
theorem dX11_layTriangles_77 : decode cX11_layTriangles 77 = .ok (.aload_n 0, 1) := by decide +kernel
theorem dX11_layTriangles_78 : decode cX11_layTriangles 78 = .ok (.getfield 13, 3) := by decide +kernel
theorem dX11_layTriangles_81 : decode cX11_layTriangles 81 = .ok (.iload_n 3, 1) := by decide +kernel
theorem dX11_layTriangles_82 : decode cX11_layTriangles 82 = .ok (.iaload, 1) := by decide +kernel
theorem dX11_layTriangles_83 : decode cX11_layTriangles 83 = .ok (.invokestatic 132, 3) := by decide +kernel
theorem dX11_layTriangles_86 : decode cX11_layTriangles 86 = .ok (.bipush 19, 2) := by decide +kernel
theorem dX11_layTriangles_88 : decode cX11_layTriangles 88 = .ok (.if_icmp .le 48, 3) := by decide +kernel
theorem dX11_layTriangles_91 : decode cX11_layTriangles 91 = .ok (.aload_n 0, 1) := by decide +kernel
theorem dX11_layTriangles_92 : decode cX11_layTriangles 92 = .ok (.getfield 13, 3) := by decide +kernel
theorem dX11_layTriangles_95 : decode cX11_layTriangles 95 = .ok (.iload 4, 2) := by decide +kernel
theorem dX11_layTriangles_97 : decode cX11_layTriangles 97 = .ok (.iaload, 1) := by decide +kernel
theorem dX11_layTriangles_98 : decode cX11_layTriangles 98 = .ok (.aload_n 0, 1) := by decide +kernel
theorem dX11_layTriangles_99 : decode cX11_layTriangles 99 = .ok (.getfield 13, 3) := by decide +kernel
theorem dX11_layTriangles_102 : decode cX11_layTriangles 102 = .ok (.iload_n 2, 1) := by decide +kernel
theorem dX11_layTriangles_103 : decode cX11_layTriangles 103 = .ok (.iaload, 1) := by decide +kernel
theorem dX11_layTriangles_104 : decode cX11_layTriangles 104 = .ok (.invokestatic 132, 3) := by decide +kernel
theorem dX11_layTriangles_107 : decode cX11_layTriangles 107 = .ok (.bipush 19, 2) := by decide +kernel
theorem dX11_layTriangles_109 : decode cX11_layTriangles 109 = .ok (.if_icmp .le 27, 3) := by decide +kernel
theorem dX11_layTriangles_112 : decode cX11_layTriangles 112 = .ok (.aload_n 0, 1) := by decide +kernel
theorem dX11_layTriangles_113 : decode cX11_layTriangles 113 = .ok (.getfield 13, 3) := by decide +kernel
theorem dX11_layTriangles_116 : decode cX11_layTriangles 116 = .ok (.iload_n 3, 1) := by decide +kernel
theorem dX11_layTriangles_117 : decode cX11_layTriangles 117 = .ok (.iaload, 1) := by decide +kernel
theorem dX11_layTriangles_118 : decode cX11_layTriangles 118 = .ok (.aload_n 0, 1) := by decide +kernel
theorem dX11_layTriangles_119 : decode cX11_layTriangles 119 = .ok (.getfield 13, 3) := by decide +kernel
theorem dX11_layTriangles_122 : decode cX11_layTriangles 122 = .ok (.iload_n 2, 1) := by decide +kernel
theorem dX11_layTriangles_123 : decode cX11_layTriangles 123 = .ok (.iaload, 1) := by decide +kernel
theorem dX11_layTriangles_124 : decode cX11_layTriangles 124 = .ok (.invokestatic 132, 3) := by decide +kernel
theorem dX11_layTriangles_127 : decode cX11_layTriangles 127 = .ok (.bipush 19, 2) := by decide +kernel
theorem dX11_layTriangles_129 : decode cX11_layTriangles 129 = .ok (.if_icmp .le 7, 3) := by decide +kernel
theorem dX11_layTriangles_132 : decode cX11_layTriangles 132 = .ok (.iconst 1, 1) := by decide +kernel
theorem dX11_layTriangles_133 : decode cX11_layTriangles 133 = .ok (.goto 4, 3) := by decide +kernel
theorem dX11_layTriangles_136 : decode cX11_layTriangles 136 = .ok (.iconst 0, 1) := by decide +kernel
theorem dX11_layTriangles_137 : decode cX11_layTriangles 137 = .ok (.istore 5, 2) := by decide +kernel
theorem dX11_layTriangles_139 : decode cX11_layTriangles 139 = .ok (.iload_n 1, 1) := by decide +kernel
theorem dX11_layTriangles_140 : decode cX11_layTriangles 140 = .ok (.iload 5, 2) := by decide +kernel
theorem dX11_layTriangles_142 : decode cX11_layTriangles 142 = .ok (.ifCond .eq 7, 3) := by decide +kernel
theorem dX11_layTriangles_145 : decode cX11_layTriangles 145 = .ok (.iconst 1, 1) := by decide +kernel
theorem dX11_layTriangles_146 : decode cX11_layTriangles 146 = .ok (.goto 4, 3) := by decide +kernel
theorem dX11_layTriangles_149 : decode cX11_layTriangles 149 = .ok (.iconst 0, 1) := by decide +kernel
theorem dX11_layTriangles_150 : decode cX11_layTriangles 150 = .ok (.iadd, 1) := by decide +kernel
theorem dX11_layTriangles_151 : decode cX11_layTriangles 151 = .ok (.istore_n 1, 1) := by decide +kernel
theorem dX11_layTriangles_152 : decode cX11_layTriangles 152 = .ok (.aload_n 0, 1) := by decide +kernel
theorem dX11_layTriangles_153 : decode cX11_layTriangles 153 = .ok (.iload 5, 2) := by decide +kernel
theorem dX11_layTriangles_155 : decode cX11_layTriangles 155 = .ok (.ifCond .eq 18, 3) := by decide +kernel
theorem dX11_layTriangles_158 : decode cX11_layTriangles 158 = .ok (.iconst 1, 1) := by decide +kernel
theorem dX11_layTriangles_159 : decode cX11_layTriangles 159 = .ok (.iload 4, 2) := by decide +kernel
theorem dX11_layTriangles_161 : decode cX11_layTriangles 161 = .ok (.ishl, 1) := by decide +kernel
theorem dX11_layTriangles_162 : decode cX11_layTriangles 162 = .ok (.iconst 1, 1) := by decide +kernel
theorem dX11_layTriangles_163 : decode cX11_layTriangles 163 = .ok (.iload_n 3, 1) := by decide +kernel
theorem dX11_layTriangles_164 : decode cX11_layTriangles 164 = .ok (.ishl, 1) := by decide +kernel
theorem dX11_layTriangles_165 : decode cX11_layTriangles 165 = .ok (.ior, 1) := by decide +kernel
theorem dX11_layTriangles_166 : decode cX11_layTriangles 166 = .ok (.iconst 1, 1) := by decide +kernel
theorem dX11_layTriangles_167 : decode cX11_layTriangles 167 = .ok (.iload_n 2, 1) := by decide +kernel
theorem dX11_layTriangles_168 : decode cX11_layTriangles 168 = .ok (.ishl, 1) := by decide +kernel
theorem dX11_layTriangles_169 : decode cX11_layTriangles 169 = .ok (.ior, 1) := by decide +kernel
theorem dX11_layTriangles_170 : decode cX11_layTriangles 170 = .ok (.goto 7, 3) := by decide +kernel
theorem dX11_layTriangles_173 : decode cX11_layTriangles 173 = .ok (.aload_n 0, 1) := by decide +kernel
theorem dX11_layTriangles_174 : decode cX11_layTriangles 174 = .ok (.getfield 135, 3) := by decide +kernel
theorem dX11_layTriangles_177 : decode cX11_layTriangles 177 = .ok (.putfield 135, 3) := by decide +kernel
theorem dX11_layTriangles_180 : decode cX11_layTriangles 180 = .ok (.iinc 4 (-1), 3) := by decide +kernel
theorem dX11_layTriangles_183 : decode cX11_layTriangles 183 = .ok (.goto (-155), 3) := by decide +kernel
theorem dX11_layTriangles_186 : decode cX11_layTriangles 186 = .ok (.iinc 3 (-1), 3) := by decide +kernel
theorem dX11_layTriangles_189 : decode cX11_layTriangles 189 = .ok (.goto (-170), 3) := by decide +kernel
theorem dX11_layTriangles_192 : decode cX11_layTriangles 192 = .ok (.iinc 2 (-1), 3) := by decide +kernel
theorem dX11_layTriangles_195 : decode cX11_layTriangles 195 = .ok (.goto (-184), 3) := by decide +kernel
theorem dX11_layTriangles_198 : decode cX11_layTriangles 198 = .ok (.iload_n 1, 1) := by decide +kernel
theorem dX11_layTriangles_199 : decode cX11_layTriangles 199 = .ok (.ireturn, 1) := by decide +kernel
set_option maxRecDepth 20000 in
theorem ggX11_triangles_X11_in : GoodIn wsX11_triangles wsX11_in := goodIn_r _ [5] (by decide +kernel) (by decide +kernel)
set_option maxRecDepth 20000 in
theorem gX11_triangles_X11_in : GoodIn wsX11_triangles (va_wsS RX11 61 yX11_in wsX11_in) := goodIn_app (goodIn_of _ (by decide +kernel)) ggX11_triangles_X11_in
set_option maxRecDepth 20000 in
theorem ggX11_triangles_X11_asNow : GoodIn wsX11_triangles wsX11_asNow := goodIn_r _ [9, 10, 11, 12, 13, 2, 3, 4, 5, 32, 33, 34, 35, 36, 37, 38, 39, 40, 41, 42, 43, 44, 45, 46, 47, 48, 49, 50, 51, 52, 53, 54] (by decide +kernel) (by decide +kernel)
set_option maxRecDepth 20000 in
theorem gX11_triangles_X11_asNow : GoodIn wsX11_triangles (wsV RX11 80 RX11 yX11_asNow wsX11_asNow) := goodIn_app (goodIn_of _ (by decide +kernel)) ggX11_triangles_X11_asNow
set_option maxRecDepth 20000 in
theorem ggX11_triangles_X11_layTriangles : GoodIn wsX11_triangles wsX11_layTriangles := goodIn_r _ [17, 1, 10, 18, 19, 20, 4, 21, 22, 2, 3, 5, 23, 24, 25, 26, 27, 28, 29, 30, 31, 32, 33, 34, 35, 36, 37, 38, 39, 40, 41, 42, 43, 44, 45, 46, 47, 48, 49, 50, 51, 52, 53, 54] (by decide +kernel) (by decide +kernel)
set_option maxRecDepth 20000 in
theorem gX11_triangles_X11_layTriangles : GoodIn wsX11_triangles (wsV RX11 138 RX11 yX11_layTriangles wsX11_layTriangles) := goodIn_app (goodIn_of _ (by decide +kernel)) ggX11_triangles_X11_layTriangles
theorem dX11_triangles_0 : decode cX11_triangles 0 = .ok (.iload_n 1, 1) := by decide +kernel
theorem dX11_triangles_1 : decode cX11_triangles 1 = .ok (.iconst 0, 1) := by decide +kernel
theorem dX11_triangles_2 : decode cX11_triangles 2 = .ok (.iconst 1, 1) := by decide +kernel
theorem dX11_triangles_3 : decode cX11_triangles 3 = .ok (.invokestatic 61, 3) := by decide +kernel
theorem dX11_triangles_6 : decode cX11_triangles 6 = .ok (.ifCond .ne 6, 3) := by decide +kernel
theorem dX11_triangles_9 : decode cX11_triangles 9 = .ok (.bipush (-2), 2) := by decide +kernel
theorem dX11_triangles_11 : decode cX11_triangles 11 = .ok (.ireturn, 1) := by decide +kernel
theorem dX11_triangles_12 : decode cX11_triangles 12 = .ok (.aload_n 0, 1) := by decide +kernel
theorem dX11_triangles_13 : decode cX11_triangles 13 = .ok (.invokevirtual 80, 3) := by decide +kernel
theorem dX11_triangles_16 : decode cX11_triangles 16 = .ok (.aload_n 0, 1) := by decide +kernel
theorem dX11_triangles_17 : decode cX11_triangles 17 = .ok (.invokevirtual 138, 3) := by decide +kernel
theorem dX11_triangles_20 : decode cX11_triangles 20 = .ok (.istore_n 2, 1) := by decide +kernel
theorem dX11_triangles_21 : decode cX11_triangles 21 = .ok (.iload_n 1, 1) := by decide +kernel
theorem dX11_triangles_22 : decode cX11_triangles 22 = .ok (.ifCond .ne 7, 3) := by decide +kernel
theorem dX11_triangles_25 : decode cX11_triangles 25 = .ok (.iload_n 2, 1) := by decide +kernel
theorem dX11_triangles_26 : decode cX11_triangles 26 = .ok (.goto 7, 3) := by decide +kernel
theorem dX11_triangles_29 : decode cX11_triangles 29 = .ok (.aload_n 0, 1) := by decide +kernel
theorem dX11_triangles_30 : decode cX11_triangles 30 = .ok (.getfield 135, 3) := by decide +kernel
theorem dX11_triangles_33 : decode cX11_triangles 33 = .ok (.ireturn, 1) := by decide +kernel
set_option maxRecDepth 20000 in
theorem ggX11_bring_X11_isThere : GoodIn wsX11_bring wsX11_isThere := goodIn_r _ [8, 9, 10, 11, 7, 12, 13, 14, 15, 19, 20, 21, 22, 23, 24, 25, 26, 27, 28, 29, 30, 31, 32, 33, 34, 35, 36, 37, 38, 39, 40, 41] (by decide +kernel) (by decide +kernel)
set_option maxRecDepth 20000 in
theorem gX11_bring_X11_isThere : GoodIn wsX11_bring (wsV RX11 73 RX11 yX11_isThere wsX11_isThere) := goodIn_app (goodIn_of _ (by decide +kernel)) ggX11_bring_X11_isThere
set_option maxRecDepth 20000 in
theorem ggX11_bring_X11_in : GoodIn wsX11_bring wsX11_in := goodIn_r _ [12] (by decide +kernel) (by decide +kernel)
set_option maxRecDepth 20000 in
theorem gX11_bring_X11_in : GoodIn wsX11_bring (va_wsS RX11 61 yX11_in wsX11_in) := goodIn_app (goodIn_of _ (by decide +kernel)) ggX11_bring_X11_in
set_option maxRecDepth 20000 in
theorem ggX11_bring_X11_over : GoodIn wsX11_bring wsX11_over := goodIn_r _ [18] (by decide +kernel) (by decide +kernel)
set_option maxRecDepth 20000 in
theorem gX11_bring_X11_over : GoodIn wsX11_bring (va_wsS RX11 57 yX11_over wsX11_over) := goodIn_app (goodIn_of _ (by decide +kernel)) ggX11_bring_X11_over
theorem dX11_bring_0 : decode cX11_bring 0 = .ok (.aload_n 0, 1) := by decide +kernel
theorem dX11_bring_1 : decode cX11_bring 1 = .ok (.iload_n 1, 1) := by decide +kernel
theorem dX11_bring_2 : decode cX11_bring 2 = .ok (.invokevirtual 73, 3) := by decide +kernel
theorem dX11_bring_5 : decode cX11_bring 5 = .ok (.ifCond .ne 5, 3) := by decide +kernel
theorem dX11_bring_8 : decode cX11_bring 8 = .ok (.iconst (-1), 1) := by decide +kernel
theorem dX11_bring_9 : decode cX11_bring 9 = .ok (.ireturn, 1) := by decide +kernel
theorem dX11_bring_10 : decode cX11_bring 10 = .ok (.iload_n 2, 1) := by decide +kernel
theorem dX11_bring_11 : decode cX11_bring 11 = .ok (.iconst 0, 1) := by decide +kernel
theorem dX11_bring_12 : decode cX11_bring 12 = .ok (.sipush 179, 3) := by decide +kernel
theorem dX11_bring_15 : decode cX11_bring 15 = .ok (.invokestatic 61, 3) := by decide +kernel
theorem dX11_bring_18 : decode cX11_bring 18 = .ok (.ifCond .eq 48, 3) := by decide +kernel
theorem dX11_bring_21 : decode cX11_bring 21 = .ok (.iload_n 3, 1) := by decide +kernel
theorem dX11_bring_22 : decode cX11_bring 22 = .ok (.iconst 1, 1) := by decide +kernel
theorem dX11_bring_23 : decode cX11_bring 23 = .ok (.sipush 179, 3) := by decide +kernel
theorem dX11_bring_26 : decode cX11_bring 26 = .ok (.invokestatic 61, 3) := by decide +kernel
theorem dX11_bring_29 : decode cX11_bring 29 = .ok (.ifCond .eq 37, 3) := by decide +kernel
theorem dX11_bring_32 : decode cX11_bring 32 = .ok (.iload 4, 2) := by decide +kernel
theorem dX11_bring_34 : decode cX11_bring 34 = .ok (.iconst 1, 1) := by decide +kernel
theorem dX11_bring_35 : decode cX11_bring 35 = .ok (.sipush 179, 3) := by decide +kernel
theorem dX11_bring_38 : decode cX11_bring 38 = .ok (.invokestatic 61, 3) := by decide +kernel
theorem dX11_bring_41 : decode cX11_bring 41 = .ok (.ifCond .eq 25, 3) := by decide +kernel
theorem dX11_bring_44 : decode cX11_bring 44 = .ok (.iload 5, 2) := by decide +kernel
theorem dX11_bring_46 : decode cX11_bring 46 = .ok (.iconst 1, 1) := by decide +kernel
theorem dX11_bring_47 : decode cX11_bring 47 = .ok (.sipush 179, 3) := by decide +kernel
theorem dX11_bring_50 : decode cX11_bring 50 = .ok (.invokestatic 61, 3) := by decide +kernel
theorem dX11_bring_53 : decode cX11_bring 53 = .ok (.ifCond .eq 13, 3) := by decide +kernel
theorem dX11_bring_56 : decode cX11_bring 56 = .ok (.iload 6, 2) := by decide +kernel
theorem dX11_bring_58 : decode cX11_bring 58 = .ok (.iconst 0, 1) := by decide +kernel
theorem dX11_bring_59 : decode cX11_bring 59 = .ok (.iconst 1, 1) := by decide +kernel
theorem dX11_bring_60 : decode cX11_bring 60 = .ok (.invokestatic 61, 3) := by decide +kernel
theorem dX11_bring_63 : decode cX11_bring 63 = .ok (.ifCond .ne 6, 3) := by decide +kernel
theorem dX11_bring_66 : decode cX11_bring 66 = .ok (.bipush (-2), 2) := by decide +kernel
theorem dX11_bring_68 : decode cX11_bring 68 = .ok (.ireturn, 1) := by decide +kernel
theorem dX11_bring_69 : decode cX11_bring 69 = .ok (.iconst 0, 1) := by decide +kernel
theorem dX11_bring_70 : decode cX11_bring 70 = .ok (.istore 7, 2) := by decide +kernel
theorem dX11_bring_72 : decode cX11_bring 72 = .ok (.iload 7, 2) := by decide +kernel
theorem dX11_bring_74 : decode cX11_bring 74 = .ok (.sipush 180, 3) := by decide +kernel
theorem dX11_bring_77 : decode cX11_bring 77 = .ok (.if_icmp .ge 17, 3) := by decide +kernel
theorem dX11_bring_80 : decode cX11_bring 80 = .ok (.aload_n 0, 1) := by decide +kernel
theorem dX11_bring_81 : decode cX11_bring 81 = .ok (.getfield 28, 3) := by decide +kernel
theorem dX11_bring_84 : decode cX11_bring 84 = .ok (.iload 7, 2) := by decide +kernel
theorem dX11_bring_86 : decode cX11_bring 86 = .ok (.iconst (-1), 1) := by decide +kernel
theorem dX11_bring_87 : decode cX11_bring 87 = .ok (.iastore, 1) := by decide +kernel
theorem dX11_bring_88 : decode cX11_bring 88 = .ok (.iinc 7 1, 3) := by decide +kernel
theorem dX11_bring_91 : decode cX11_bring 91 = .ok (.goto (-19), 3) := by decide +kernel
theorem dX11_bring_94 : decode cX11_bring 94 = .ok (.aload_n 0, 1) := by decide +kernel
theorem dX11_bring_95 : decode cX11_bring 95 = .ok (.getfield 28, 3) := by decide +kernel
theorem dX11_bring_98 : decode cX11_bring 98 = .ok (.aload_n 0, 1) := by decide +kernel
theorem dX11_bring_99 : decode cX11_bring 99 = .ok (.getfield 7, 3) := by decide +kernel
theorem dX11_bring_102 : decode cX11_bring 102 = .ok (.iload_n 1, 1) := by decide +kernel
theorem dX11_bring_103 : decode cX11_bring 103 = .ok (.iaload, 1) := by decide +kernel
theorem dX11_bring_104 : decode cX11_bring 104 = .ok (.iconst 0, 1) := by decide +kernel
theorem dX11_bring_105 : decode cX11_bring 105 = .ok (.iastore, 1) := by decide +kernel
theorem dX11_bring_106 : decode cX11_bring 106 = .ok (.aload_n 0, 1) := by decide +kernel
theorem dX11_bring_107 : decode cX11_bring 107 = .ok (.getfield 31, 3) := by decide +kernel
theorem dX11_bring_110 : decode cX11_bring 110 = .ok (.iconst 0, 1) := by decide +kernel
theorem dX11_bring_111 : decode cX11_bring 111 = .ok (.aload_n 0, 1) := by decide +kernel
theorem dX11_bring_112 : decode cX11_bring 112 = .ok (.getfield 7, 3) := by decide +kernel
theorem dX11_bring_115 : decode cX11_bring 115 = .ok (.iload_n 1, 1) := by decide +kernel
theorem dX11_bring_116 : decode cX11_bring 116 = .ok (.iaload, 1) := by decide +kernel
theorem dX11_bring_117 : decode cX11_bring 117 = .ok (.iastore, 1) := by decide +kernel
theorem dX11_bring_118 : decode cX11_bring 118 = .ok (.iconst 1, 1) := by decide +kernel
theorem dX11_bring_119 : decode cX11_bring 119 = .ok (.istore 7, 2) := by decide +kernel
theorem dX11_bring_121 : decode cX11_bring 121 = .ok (.iconst 0, 1) := by decide +kernel
theorem dX11_bring_122 : decode cX11_bring 122 = .ok (.istore 8, 2) := by decide +kernel
theorem dX11_bring_124 : decode cX11_bring 124 = .ok (.iload 8, 2) := by decide +kernel
theorem dX11_bring_126 : decode cX11_bring 126 = .ok (.iload 7, 2) := by decide +kernel
theorem dX11_bring_128 : decode cX11_bring 128 = .ok (.if_icmp .ge 189, 3) := by decide +kernel
theorem dX11_bring_131 : decode cX11_bring 131 = .ok (.aload_n 0, 1) := by decide +kernel
theorem dX11_bring_132 : decode cX11_bring 132 = .ok (.getfield 31, 3) := by decide +kernel
theorem dX11_bring_135 : decode cX11_bring 135 = .ok (.iload 8, 2) := by decide +kernel
theorem dX11_bring_137 : decode cX11_bring 137 = .ok (.iaload, 1) := by decide +kernel
theorem dX11_bring_138 : decode cX11_bring 138 = .ok (.istore 9, 2) := by decide +kernel
theorem dX11_bring_140 : decode cX11_bring 140 = .ok (.aload_n 0, 1) := by decide +kernel
theorem dX11_bring_141 : decode cX11_bring 141 = .ok (.getfield 28, 3) := by decide +kernel
theorem dX11_bring_144 : decode cX11_bring 144 = .ok (.iload 9, 2) := by decide +kernel
theorem dX11_bring_146 : decode cX11_bring 146 = .ok (.iaload, 1) := by decide +kernel
theorem dX11_bring_147 : decode cX11_bring 147 = .ok (.istore 10, 2) := by decide +kernel
theorem dX11_bring_149 : decode cX11_bring 149 = .ok (.iload 9, 2) := by decide +kernel
theorem dX11_bring_151 : decode cX11_bring 151 = .ok (.iload_n 2, 1) := by decide +kernel
theorem dX11_bring_152 : decode cX11_bring 152 = .ok (.if_icmp .ne 34, 3) := by decide +kernel
theorem dX11_bring_155 : decode cX11_bring 155 = .ok (.iload 6, 2) := by decide +kernel
theorem dX11_bring_157 : decode cX11_bring 157 = .ok (.ifCond .ne 11, 3) := by decide +kernel
theorem dX11_bring_160 : decode cX11_bring 160 = .ok (.iload 10, 2) := by decide +kernel
theorem dX11_bring_162 : decode cX11_bring 162 = .ok (.bipush 10, 2) := by decide +kernel
theorem dX11_bring_164 : decode cX11_bring 164 = .ok (.idiv, 1) := by decide +kernel
theorem dX11_bring_165 : decode cX11_bring 165 = .ok (.goto 20, 3) := by decide +kernel
theorem dX11_bring_168 : decode cX11_bring 168 = .ok (.iload 10, 2) := by decide +kernel
theorem dX11_bring_170 : decode cX11_bring 170 = .ok (.bipush 10, 2) := by decide +kernel
theorem dX11_bring_172 : decode cX11_bring 172 = .ok (.if_icmp .ge 8, 3) := by decide +kernel
theorem dX11_bring_175 : decode cX11_bring 175 = .ok (.bipush (-6), 2) := by decide +kernel
theorem dX11_bring_177 : decode cX11_bring 177 = .ok (.goto 8, 3) := by decide +kernel
theorem dX11_bring_180 : decode cX11_bring 180 = .ok (.iload 10, 2) := by decide +kernel
theorem dX11_bring_182 : decode cX11_bring 182 = .ok (.bipush 10, 2) := by decide +kernel
theorem dX11_bring_184 : decode cX11_bring 184 = .ok (.irem, 1) := by decide +kernel
theorem dX11_bring_185 : decode cX11_bring 185 = .ok (.ireturn, 1) := by decide +kernel
theorem dX11_bring_186 : decode cX11_bring 186 = .ok (.iconst 0, 1) := by decide +kernel
theorem dX11_bring_187 : decode cX11_bring 187 = .ok (.istore 11, 2) := by decide +kernel
theorem dX11_bring_189 : decode cX11_bring 189 = .ok (.iload 11, 2) := by decide +kernel
theorem dX11_bring_191 : decode cX11_bring 191 = .ok (.bipush 6, 2) := by decide +kernel
theorem dX11_bring_193 : decode cX11_bring 193 = .ok (.if_icmp .ge 118, 3) := by decide +kernel
theorem dX11_bring_196 : decode cX11_bring 196 = .ok (.iload 11, 2) := by decide +kernel
theorem dX11_bring_198 : decode cX11_bring 198 = .ok (.iconst 3, 1) := by decide +kernel
theorem dX11_bring_199 : decode cX11_bring 199 = .ok (.irem, 1) := by decide +kernel
theorem dX11_bring_200 : decode cX11_bring 200 = .ok (.ifCond .ne 7, 3) := by decide +kernel
theorem dX11_bring_203 : decode cX11_bring 203 = .ok (.iload_n 3, 1) := by decide +kernel
theorem dX11_bring_204 : decode cX11_bring 204 = .ok (.goto 18, 3) := by decide +kernel
theorem dX11_bring_207 : decode cX11_bring 207 = .ok (.iload 11, 2) := by decide +kernel
theorem dX11_bring_209 : decode cX11_bring 209 = .ok (.iconst 3, 1) := by decide +kernel
theorem dX11_bring_210 : decode cX11_bring 210 = .ok (.irem, 1) := by decide +kernel
theorem dX11_bring_211 : decode cX11_bring 211 = .ok (.iconst 1, 1) := by decide +kernel
theorem dX11_bring_212 : decode cX11_bring 212 = .ok (.if_icmp .ne 8, 3) := by decide +kernel
theorem dX11_bring_215 : decode cX11_bring 215 = .ok (.iload 4, 2) := by decide +kernel
theorem dX11_bring_217 : decode cX11_bring 217 = .ok (.goto 5, 3) := by decide +kernel
theorem dX11_bring_220 : decode cX11_bring 220 = .ok (.iload 5, 2) := by decide +kernel
theorem dX11_bring_222 : decode cX11_bring 222 = .ok (.istore 12, 2) := by decide +kernel
theorem dX11_bring_224 : decode cX11_bring 224 = .ok (.iload 11, 2) := by decide +kernel
theorem dX11_bring_226 : decode cX11_bring 226 = .ok (.iconst 3, 1) := by decide +kernel
theorem dX11_bring_227 : decode cX11_bring 227 = .ok (.if_icmp .ge 11, 3) := by decide +kernel
theorem dX11_bring_230 : decode cX11_bring 230 = .ok (.iload 9, 2) := by decide +kernel
theorem dX11_bring_232 : decode cX11_bring 232 = .ok (.iload 12, 2) := by decide +kernel
theorem dX11_bring_234 : decode cX11_bring 234 = .ok (.iadd, 1) := by decide +kernel
theorem dX11_bring_235 : decode cX11_bring 235 = .ok (.goto 8, 3) := by decide +kernel
theorem dX11_bring_238 : decode cX11_bring 238 = .ok (.iload 9, 2) := by decide +kernel
theorem dX11_bring_240 : decode cX11_bring 240 = .ok (.iload 12, 2) := by decide +kernel
theorem dX11_bring_242 : decode cX11_bring 242 = .ok (.isub, 1) := by decide +kernel
theorem dX11_bring_243 : decode cX11_bring 243 = .ok (.invokestatic 57, 3) := by decide +kernel
theorem dX11_bring_246 : decode cX11_bring 246 = .ok (.istore 13, 2) := by decide +kernel
theorem dX11_bring_248 : decode cX11_bring 248 = .ok (.aload_n 0, 1) := by decide +kernel
theorem dX11_bring_249 : decode cX11_bring 249 = .ok (.getfield 28, 3) := by decide +kernel
theorem dX11_bring_252 : decode cX11_bring 252 = .ok (.iload 13, 2) := by decide +kernel
theorem dX11_bring_254 : decode cX11_bring 254 = .ok (.iaload, 1) := by decide +kernel
theorem dX11_bring_255 : decode cX11_bring 255 = .ok (.ifCond .ge 50, 3) := by decide +kernel
theorem dX11_bring_258 : decode cX11_bring 258 = .ok (.aload_n 0, 1) := by decide +kernel
theorem dX11_bring_259 : decode cX11_bring 259 = .ok (.getfield 28, 3) := by decide +kernel
theorem dX11_bring_262 : decode cX11_bring 262 = .ok (.iload 13, 2) := by decide +kernel
theorem dX11_bring_264 : decode cX11_bring 264 = .ok (.bipush 10, 2) := by decide +kernel
theorem dX11_bring_266 : decode cX11_bring 266 = .ok (.iload 10, 2) := by decide +kernel
theorem dX11_bring_268 : decode cX11_bring 268 = .ok (.bipush 10, 2) := by decide +kernel
theorem dX11_bring_270 : decode cX11_bring 270 = .ok (.idiv, 1) := by decide +kernel
theorem dX11_bring_271 : decode cX11_bring 271 = .ok (.iconst 1, 1) := by decide +kernel
theorem dX11_bring_272 : decode cX11_bring 272 = .ok (.iadd, 1) := by decide +kernel
theorem dX11_bring_273 : decode cX11_bring 273 = .ok (.imul, 1) := by decide +kernel
theorem dX11_bring_274 : decode cX11_bring 274 = .ok (.iload 10, 2) := by decide +kernel
theorem dX11_bring_276 : decode cX11_bring 276 = .ok (.bipush 10, 2) := by decide +kernel
theorem dX11_bring_278 : decode cX11_bring 278 = .ok (.if_icmp .ge 8, 3) := by decide +kernel
theorem dX11_bring_281 : decode cX11_bring 281 = .ok (.iload 11, 2) := by decide +kernel
theorem dX11_bring_283 : decode cX11_bring 283 = .ok (.goto 8, 3) := by decide +kernel
theorem dX11_bring_286 : decode cX11_bring 286 = .ok (.iload 10, 2) := by decide +kernel
theorem dX11_bring_288 : decode cX11_bring 288 = .ok (.bipush 10, 2) := by decide +kernel
theorem dX11_bring_290 : decode cX11_bring 290 = .ok (.irem, 1) := by decide +kernel
theorem dX11_bring_291 : decode cX11_bring 291 = .ok (.iadd, 1) := by decide +kernel
theorem dX11_bring_292 : decode cX11_bring 292 = .ok (.iastore, 1) := by decide +kernel
theorem dX11_bring_293 : decode cX11_bring 293 = .ok (.aload_n 0, 1) := by decide +kernel
theorem dX11_bring_294 : decode cX11_bring 294 = .ok (.getfield 31, 3) := by decide +kernel
theorem dX11_bring_297 : decode cX11_bring 297 = .ok (.iload 7, 2) := by decide +kernel
theorem dX11_bring_299 : decode cX11_bring 299 = .ok (.iload 13, 2) := by decide +kernel
theorem dX11_bring_301 : decode cX11_bring 301 = .ok (.iastore, 1) := by decide +kernel
theorem dX11_bring_302 : decode cX11_bring 302 = .ok (.iinc 7 1, 3) := by decide +kernel
theorem dX11_bring_305 : decode cX11_bring 305 = .ok (.iinc 11 1, 3) := by decide +kernel
theorem dX11_bring_308 : decode cX11_bring 308 = .ok (.goto (-119), 3) := by decide +kernel
theorem dX11_bring_311 : decode cX11_bring 311 = .ok (.iinc 8 1, 3) := by decide +kernel
theorem dX11_bring_314 : decode cX11_bring 314 = .ok (.goto (-190), 3) := by decide +kernel
theorem dX11_bring_317 : decode cX11_bring 317 = .ok (.bipush (-6), 2) := by decide +kernel
theorem dX11_bring_319 : decode cX11_bring 319 = .ok (.ireturn, 1) := by decide +kernel
set_option maxRecDepth 20000 in
theorem ggX11_lean_X11_in : GoodIn wsX11_lean wsX11_in := goodIn_r _ [6] (by decide +kernel) (by decide +kernel)
set_option maxRecDepth 20000 in
theorem gX11_lean_X11_in : GoodIn wsX11_lean (va_wsS RX11 61 yX11_in wsX11_in) := goodIn_app (goodIn_of _ (by decide +kernel)) ggX11_lean_X11_in
set_option maxRecDepth 20000 in
theorem ggX11_lean_X11_isThere : GoodIn wsX11_lean wsX11_isThere := goodIn_r _ [10, 11, 3, 4, 5, 6, 12, 13, 14, 21, 22, 23, 24, 25, 26, 27, 28, 29, 30, 31, 32, 33, 34, 35, 36, 37, 38, 39, 40, 41, 42, 43] (by decide +kernel) (by decide +kernel)
set_option maxRecDepth 20000 in
theorem gX11_lean_X11_isThere : GoodIn wsX11_lean (wsV RX11 73 RX11 yX11_isThere wsX11_isThere) := goodIn_app (goodIn_of _ (by decide +kernel)) ggX11_lean_X11_isThere
set_option maxRecDepth 20000 in
theorem ggX11_lean_X11_apartOf : GoodIn wsX11_lean wsX11_apartOf := goodIn_r _ [17, 18, 19, 5, 20] (by decide +kernel) (by decide +kernel)
set_option maxRecDepth 20000 in
theorem gX11_lean_X11_apartOf : GoodIn wsX11_lean (va_wsS RX11 132 yX11_apartOf wsX11_apartOf) := goodIn_app (goodIn_of _ (by decide +kernel)) ggX11_lean_X11_apartOf
theorem dX11_lean_0 : decode cX11_lean 0 = .ok (.iload_n 1, 1) := by decide +kernel
theorem dX11_lean_1 : decode cX11_lean 1 = .ok (.iconst 0, 1) := by decide +kernel
theorem dX11_lean_2 : decode cX11_lean 2 = .ok (.iconst 1, 1) := by decide +kernel
theorem dX11_lean_3 : decode cX11_lean 3 = .ok (.invokestatic 61, 3) := by decide +kernel
theorem dX11_lean_6 : decode cX11_lean 6 = .ok (.ifCond .ne 6, 3) := by decide +kernel
theorem dX11_lean_9 : decode cX11_lean 9 = .ok (.bipush (-2), 2) := by decide +kernel
theorem dX11_lean_11 : decode cX11_lean 11 = .ok (.ireturn, 1) := by decide +kernel
theorem dX11_lean_12 : decode cX11_lean 12 = .ok (.ldc 141, 2) := by decide +kernel
theorem dX11_lean_14 : decode cX11_lean 14 = .ok (.istore_n 2, 1) := by decide +kernel
theorem dX11_lean_15 : decode cX11_lean 15 = .ok (.iconst 0, 1) := by decide +kernel
theorem dX11_lean_16 : decode cX11_lean 16 = .ok (.istore_n 3, 1) := by decide +kernel
theorem dX11_lean_17 : decode cX11_lean 17 = .ok (.iconst 0, 1) := by decide +kernel
theorem dX11_lean_18 : decode cX11_lean 18 = .ok (.istore 4, 2) := by decide +kernel
theorem dX11_lean_20 : decode cX11_lean 20 = .ok (.iload 4, 2) := by decide +kernel
theorem dX11_lean_22 : decode cX11_lean 22 = .ok (.sipush 180, 3) := by decide +kernel
theorem dX11_lean_25 : decode cX11_lean 25 = .ok (.if_icmp .ge 84, 3) := by decide +kernel
theorem dX11_lean_28 : decode cX11_lean 28 = .ok (.iconst 0, 1) := by decide +kernel
theorem dX11_lean_29 : decode cX11_lean 29 = .ok (.istore 5, 2) := by decide +kernel
theorem dX11_lean_31 : decode cX11_lean 31 = .ok (.iconst 0, 1) := by decide +kernel
theorem dX11_lean_32 : decode cX11_lean 32 = .ok (.istore 6, 2) := by decide +kernel
theorem dX11_lean_34 : decode cX11_lean 34 = .ok (.iload 6, 2) := by decide +kernel
theorem dX11_lean_36 : decode cX11_lean 36 = .ok (.bipush 9, 2) := by decide +kernel
theorem dX11_lean_38 : decode cX11_lean 38 = .ok (.if_icmp .ge 39, 3) := by decide +kernel
theorem dX11_lean_41 : decode cX11_lean 41 = .ok (.iload 5, 2) := by decide +kernel
theorem dX11_lean_43 : decode cX11_lean 43 = .ok (.aload_n 0, 1) := by decide +kernel
theorem dX11_lean_44 : decode cX11_lean 44 = .ok (.iload 6, 2) := by decide +kernel
theorem dX11_lean_46 : decode cX11_lean 46 = .ok (.invokevirtual 73, 3) := by decide +kernel
theorem dX11_lean_49 : decode cX11_lean 49 = .ok (.ifCond .eq 18, 3) := by decide +kernel
theorem dX11_lean_52 : decode cX11_lean 52 = .ok (.aload_n 0, 1) := by decide +kernel
theorem dX11_lean_53 : decode cX11_lean 53 = .ok (.getfield 7, 3) := by decide +kernel
theorem dX11_lean_56 : decode cX11_lean 56 = .ok (.iload 6, 2) := by decide +kernel
theorem dX11_lean_58 : decode cX11_lean 58 = .ok (.iaload, 1) := by decide +kernel
theorem dX11_lean_59 : decode cX11_lean 59 = .ok (.iload 4, 2) := by decide +kernel
theorem dX11_lean_61 : decode cX11_lean 61 = .ok (.invokestatic 132, 3) := by decide +kernel
theorem dX11_lean_64 : decode cX11_lean 64 = .ok (.goto 4, 3) := by decide +kernel
theorem dX11_lean_67 : decode cX11_lean 67 = .ok (.iconst 0, 1) := by decide +kernel
theorem dX11_lean_68 : decode cX11_lean 68 = .ok (.iadd, 1) := by decide +kernel
theorem dX11_lean_69 : decode cX11_lean 69 = .ok (.istore 5, 2) := by decide +kernel
theorem dX11_lean_71 : decode cX11_lean 71 = .ok (.iinc 6 1, 3) := by decide +kernel
theorem dX11_lean_74 : decode cX11_lean 74 = .ok (.goto (-40), 3) := by decide +kernel
theorem dX11_lean_77 : decode cX11_lean 77 = .ok (.iload 5, 2) := by decide +kernel
theorem dX11_lean_79 : decode cX11_lean 79 = .ok (.iload_n 2, 1) := by decide +kernel
theorem dX11_lean_80 : decode cX11_lean 80 = .ok (.if_icmp .ge 8, 3) := by decide +kernel
theorem dX11_lean_83 : decode cX11_lean 83 = .ok (.iload 4, 2) := by decide +kernel
theorem dX11_lean_85 : decode cX11_lean 85 = .ok (.goto 4, 3) := by decide +kernel
theorem dX11_lean_88 : decode cX11_lean 88 = .ok (.iload_n 3, 1) := by decide +kernel
theorem dX11_lean_89 : decode cX11_lean 89 = .ok (.istore_n 3, 1) := by decide +kernel
theorem dX11_lean_90 : decode cX11_lean 90 = .ok (.iload 5, 2) := by decide +kernel
theorem dX11_lean_92 : decode cX11_lean 92 = .ok (.iload_n 2, 1) := by decide +kernel
theorem dX11_lean_93 : decode cX11_lean 93 = .ok (.if_icmp .ge 8, 3) := by decide +kernel
theorem dX11_lean_96 : decode cX11_lean 96 = .ok (.iload 5, 2) := by decide +kernel
theorem dX11_lean_98 : decode cX11_lean 98 = .ok (.goto 4, 3) := by decide +kernel
theorem dX11_lean_101 : decode cX11_lean 101 = .ok (.iload_n 2, 1) := by decide +kernel
theorem dX11_lean_102 : decode cX11_lean 102 = .ok (.istore_n 2, 1) := by decide +kernel
theorem dX11_lean_103 : decode cX11_lean 103 = .ok (.iinc 4 1, 3) := by decide +kernel
theorem dX11_lean_106 : decode cX11_lean 106 = .ok (.goto (-86), 3) := by decide +kernel
theorem dX11_lean_109 : decode cX11_lean 109 = .ok (.iload_n 1, 1) := by decide +kernel
theorem dX11_lean_110 : decode cX11_lean 110 = .ok (.ifCond .ne 7, 3) := by decide +kernel
theorem dX11_lean_113 : decode cX11_lean 113 = .ok (.iload_n 3, 1) := by decide +kernel
theorem dX11_lean_114 : decode cX11_lean 114 = .ok (.goto 4, 3) := by decide +kernel
theorem dX11_lean_117 : decode cX11_lean 117 = .ok (.iload_n 2, 1) := by decide +kernel
theorem dX11_lean_118 : decode cX11_lean 118 = .ok (.ireturn, 1) := by decide +kernel
set_option maxRecDepth 20000 in
theorem ggX11_bisect_X11_in : GoodIn wsX11_bisect wsX11_in := goodIn_r _ [7] (by decide +kernel) (by decide +kernel)
set_option maxRecDepth 20000 in
theorem gX11_bisect_X11_in : GoodIn wsX11_bisect (va_wsS RX11 61 yX11_in wsX11_in) := goodIn_app (goodIn_of _ (by decide +kernel)) ggX11_bisect_X11_in
set_option maxRecDepth 20000 in
theorem ggX11_bisect_X11_isThere : GoodIn wsX11_bisect wsX11_isThere := goodIn_r _ [11, 1, 4, 5, 6, 7, 12, 13, 14, 24, 25, 26, 27, 28, 29, 30, 31, 32, 33, 34, 35, 36, 37, 38, 39, 40, 41, 42, 43, 44, 45, 46] (by decide +kernel) (by decide +kernel)
set_option maxRecDepth 20000 in
theorem gX11_bisect_X11_isThere : GoodIn wsX11_bisect (wsV RX11 73 RX11 yX11_isThere wsX11_isThere) := goodIn_app (goodIn_of _ (by decide +kernel)) ggX11_bisect_X11_isThere
set_option maxRecDepth 20000 in
theorem ggX11_bisect_X11_bits : GoodIn wsX11_bisect wsX11_bits := goodIn_r _ [17] (by decide +kernel) (by decide +kernel)
set_option maxRecDepth 20000 in
theorem gX11_bisect_X11_bits : GoodIn wsX11_bisect (va_wsS RX11 77 yX11_bits wsX11_bits) := goodIn_app (goodIn_of _ (by decide +kernel)) ggX11_bisect_X11_bits
set_option maxRecDepth 20000 in
theorem ggX11_bisect_X11_has : GoodIn wsX11_bisect wsX11_has := goodIn_r _ [14] (by decide +kernel) (by decide +kernel)
set_option maxRecDepth 20000 in
theorem gX11_bisect_X11_has : GoodIn wsX11_bisect (va_wsS RX11 69 yX11_has wsX11_has) := goodIn_app (goodIn_of _ (by decide +kernel)) ggX11_bisect_X11_has
set_option maxRecDepth 20000 in
theorem ggX11_bisect_X11_apartOf : GoodIn wsX11_bisect wsX11_apartOf := goodIn_r _ [20, 21, 22, 6, 23] (by decide +kernel) (by decide +kernel)
set_option maxRecDepth 20000 in
theorem gX11_bisect_X11_apartOf : GoodIn wsX11_bisect (va_wsS RX11 132 yX11_apartOf wsX11_apartOf) := goodIn_app (goodIn_of _ (by decide +kernel)) ggX11_bisect_X11_apartOf
theorem dX11_bisect_0 : decode cX11_bisect 0 = .ok (.iload_n 1, 1) := by decide +kernel
theorem dX11_bisect_1 : decode cX11_bisect 1 = .ok (.iconst 0, 1) := by decide +kernel
theorem dX11_bisect_2 : decode cX11_bisect 2 = .ok (.iconst 1, 1) := by decide +kernel
theorem dX11_bisect_3 : decode cX11_bisect 3 = .ok (.invokestatic 61, 3) := by decide +kernel
theorem dX11_bisect_6 : decode cX11_bisect 6 = .ok (.ifCond .ne 6, 3) := by decide +kernel
theorem dX11_bisect_9 : decode cX11_bisect 9 = .ok (.bipush (-2), 2) := by decide +kernel
theorem dX11_bisect_11 : decode cX11_bisect 11 = .ok (.ireturn, 1) := by decide +kernel
theorem dX11_bisect_12 : decode cX11_bisect 12 = .ok (.iconst 0, 1) := by decide +kernel
theorem dX11_bisect_13 : decode cX11_bisect 13 = .ok (.istore_n 2, 1) := by decide +kernel
theorem dX11_bisect_14 : decode cX11_bisect 14 = .ok (.iload_n 2, 1) := by decide +kernel
theorem dX11_bisect_15 : decode cX11_bisect 15 = .ok (.bipush 9, 2) := by decide +kernel
theorem dX11_bisect_17 : decode cX11_bisect 17 = .ok (.if_icmp .ge 17, 3) := by decide +kernel
theorem dX11_bisect_20 : decode cX11_bisect 20 = .ok (.aload_n 0, 1) := by decide +kernel
theorem dX11_bisect_21 : decode cX11_bisect 21 = .ok (.iload_n 2, 1) := by decide +kernel
theorem dX11_bisect_22 : decode cX11_bisect 22 = .ok (.invokevirtual 73, 3) := by decide +kernel
theorem dX11_bisect_25 : decode cX11_bisect 25 = .ok (.ifCond .ne 9, 3) := by decide +kernel
theorem dX11_bisect_28 : decode cX11_bisect 28 = .ok (.iinc 2 1, 3) := by decide +kernel
theorem dX11_bisect_31 : decode cX11_bisect 31 = .ok (.goto (-17), 3) := by decide +kernel
theorem dX11_bisect_34 : decode cX11_bisect 34 = .ok (.aload_n 0, 1) := by decide +kernel
theorem dX11_bisect_35 : decode cX11_bisect 35 = .ok (.getfield 65, 3) := by decide +kernel
theorem dX11_bisect_38 : decode cX11_bisect 38 = .ok (.ifCond .ne 7, 3) := by decide +kernel
theorem dX11_bisect_41 : decode cX11_bisect 41 = .ok (.iconst 0, 1) := by decide +kernel
theorem dX11_bisect_42 : decode cX11_bisect 42 = .ok (.goto 5, 3) := by decide +kernel
theorem dX11_bisect_45 : decode cX11_bisect 45 = .ok (.ldc 141, 2) := by decide +kernel
theorem dX11_bisect_47 : decode cX11_bisect 47 = .ok (.istore_n 3, 1) := by decide +kernel
theorem dX11_bisect_48 : decode cX11_bisect 48 = .ok (.iconst 0, 1) := by decide +kernel
theorem dX11_bisect_49 : decode cX11_bisect 49 = .ok (.istore 4, 2) := by decide +kernel
theorem dX11_bisect_51 : decode cX11_bisect 51 = .ok (.iconst 0, 1) := by decide +kernel
theorem dX11_bisect_52 : decode cX11_bisect 52 = .ok (.istore 5, 2) := by decide +kernel
theorem dX11_bisect_54 : decode cX11_bisect 54 = .ok (.iload 5, 2) := by decide +kernel
theorem dX11_bisect_56 : decode cX11_bisect 56 = .ok (.sipush 512, 3) := by decide +kernel
theorem dX11_bisect_59 : decode cX11_bisect 59 = .ok (.if_icmp .ge 191, 3) := by decide +kernel
theorem dX11_bisect_62 : decode cX11_bisect 62 = .ok (.aload_n 0, 1) := by decide +kernel
theorem dX11_bisect_63 : decode cX11_bisect 63 = .ok (.getfield 65, 3) := by decide +kernel
theorem dX11_bisect_66 : decode cX11_bisect 66 = .ok (.ifCond .eq 184, 3) := by decide +kernel
theorem dX11_bisect_69 : decode cX11_bisect 69 = .ok (.iload 5, 2) := by decide +kernel
theorem dX11_bisect_71 : decode cX11_bisect 71 = .ok (.invokestatic 77, 3) := by decide +kernel
theorem dX11_bisect_74 : decode cX11_bisect 74 = .ok (.aload_n 0, 1) := by decide +kernel
theorem dX11_bisect_75 : decode cX11_bisect 75 = .ok (.getfield 65, 3) := by decide +kernel
theorem dX11_bisect_78 : decode cX11_bisect 78 = .ok (.iload 5, 2) := by decide +kernel
theorem dX11_bisect_80 : decode cX11_bisect 80 = .ok (.iconst (-1), 1) := by decide +kernel
theorem dX11_bisect_81 : decode cX11_bisect 81 = .ok (.ixor, 1) := by decide +kernel
theorem dX11_bisect_82 : decode cX11_bisect 82 = .ok (.iand, 1) := by decide +kernel
theorem dX11_bisect_83 : decode cX11_bisect 83 = .ok (.invokestatic 77, 3) := by decide +kernel
theorem dX11_bisect_86 : decode cX11_bisect 86 = .ok (.isub, 1) := by decide +kernel
theorem dX11_bisect_87 : decode cX11_bisect 87 = .ok (.istore 6, 2) := by decide +kernel
theorem dX11_bisect_89 : decode cX11_bisect 89 = .ok (.iload 5, 2) := by decide +kernel
theorem dX11_bisect_91 : decode cX11_bisect 91 = .ok (.aload_n 0, 1) := by decide +kernel
theorem dX11_bisect_92 : decode cX11_bisect 92 = .ok (.getfield 65, 3) := by decide +kernel
theorem dX11_bisect_95 : decode cX11_bisect 95 = .ok (.iconst (-1), 1) := by decide +kernel
theorem dX11_bisect_96 : decode cX11_bisect 96 = .ok (.ixor, 1) := by decide +kernel
theorem dX11_bisect_97 : decode cX11_bisect 97 = .ok (.iand, 1) := by decide +kernel
theorem dX11_bisect_98 : decode cX11_bisect 98 = .ok (.ifCond .ne 146, 3) := by decide +kernel
theorem dX11_bisect_101 : decode cX11_bisect 101 = .ok (.iload 5, 2) := by decide +kernel
theorem dX11_bisect_103 : decode cX11_bisect 103 = .ok (.iload_n 2, 1) := by decide +kernel
theorem dX11_bisect_104 : decode cX11_bisect 104 = .ok (.invokestatic 69, 3) := by decide +kernel
theorem dX11_bisect_107 : decode cX11_bisect 107 = .ok (.ifCond .eq 137, 3) := by decide +kernel
theorem dX11_bisect_110 : decode cX11_bisect 110 = .ok (.iload 6, 2) := by decide +kernel
theorem dX11_bisect_112 : decode cX11_bisect 112 = .ok (.iconst (-1), 1) := by decide +kernel
theorem dX11_bisect_113 : decode cX11_bisect 113 = .ok (.iconst 1, 1) := by decide +kernel
theorem dX11_bisect_114 : decode cX11_bisect 114 = .ok (.invokestatic 61, 3) := by decide +kernel
theorem dX11_bisect_117 : decode cX11_bisect 117 = .ok (.ifCond .eq 127, 3) := by decide +kernel
theorem dX11_bisect_120 : decode cX11_bisect 120 = .ok (.iconst 0, 1) := by decide +kernel
theorem dX11_bisect_121 : decode cX11_bisect 121 = .ok (.istore 7, 2) := by decide +kernel
theorem dX11_bisect_123 : decode cX11_bisect 123 = .ok (.iconst 0, 1) := by decide +kernel
theorem dX11_bisect_124 : decode cX11_bisect 124 = .ok (.istore 8, 2) := by decide +kernel
theorem dX11_bisect_126 : decode cX11_bisect 126 = .ok (.iload 8, 2) := by decide +kernel
theorem dX11_bisect_128 : decode cX11_bisect 128 = .ok (.bipush 9, 2) := by decide +kernel
theorem dX11_bisect_130 : decode cX11_bisect 130 = .ok (.if_icmp .ge 86, 3) := by decide +kernel
theorem dX11_bisect_133 : decode cX11_bisect 133 = .ok (.iconst 0, 1) := by decide +kernel
theorem dX11_bisect_134 : decode cX11_bisect 134 = .ok (.istore 9, 2) := by decide +kernel
theorem dX11_bisect_136 : decode cX11_bisect 136 = .ok (.iload 9, 2) := by decide +kernel
theorem dX11_bisect_138 : decode cX11_bisect 138 = .ok (.iload 8, 2) := by decide +kernel
theorem dX11_bisect_140 : decode cX11_bisect 140 = .ok (.if_icmp .ge 70, 3) := by decide +kernel
theorem dX11_bisect_143 : decode cX11_bisect 143 = .ok (.iload 7, 2) := by decide +kernel
theorem dX11_bisect_145 : decode cX11_bisect 145 = .ok (.aload_n 0, 1) := by decide +kernel
theorem dX11_bisect_146 : decode cX11_bisect 146 = .ok (.iload 8, 2) := by decide +kernel
theorem dX11_bisect_148 : decode cX11_bisect 148 = .ok (.invokevirtual 73, 3) := by decide +kernel
theorem dX11_bisect_151 : decode cX11_bisect 151 = .ok (.ifCond .eq 49, 3) := by decide +kernel
theorem dX11_bisect_154 : decode cX11_bisect 154 = .ok (.aload_n 0, 1) := by decide +kernel
theorem dX11_bisect_155 : decode cX11_bisect 155 = .ok (.iload 9, 2) := by decide +kernel
theorem dX11_bisect_157 : decode cX11_bisect 157 = .ok (.invokevirtual 73, 3) := by decide +kernel
theorem dX11_bisect_160 : decode cX11_bisect 160 = .ok (.ifCond .eq 40, 3) := by decide +kernel
theorem dX11_bisect_163 : decode cX11_bisect 163 = .ok (.iload 5, 2) := by decide +kernel
theorem dX11_bisect_165 : decode cX11_bisect 165 = .ok (.iload 8, 2) := by decide +kernel
theorem dX11_bisect_167 : decode cX11_bisect 167 = .ok (.invokestatic 69, 3) := by decide +kernel
theorem dX11_bisect_170 : decode cX11_bisect 170 = .ok (.iload 5, 2) := by decide +kernel
theorem dX11_bisect_172 : decode cX11_bisect 172 = .ok (.iload 9, 2) := by decide +kernel
theorem dX11_bisect_174 : decode cX11_bisect 174 = .ok (.invokestatic 69, 3) := by decide +kernel
theorem dX11_bisect_177 : decode cX11_bisect 177 = .ok (.if_icmp .ne 23, 3) := by decide +kernel
theorem dX11_bisect_180 : decode cX11_bisect 180 = .ok (.aload_n 0, 1) := by decide +kernel
theorem dX11_bisect_181 : decode cX11_bisect 181 = .ok (.getfield 7, 3) := by decide +kernel
theorem dX11_bisect_184 : decode cX11_bisect 184 = .ok (.iload 8, 2) := by decide +kernel
theorem dX11_bisect_186 : decode cX11_bisect 186 = .ok (.iaload, 1) := by decide +kernel
theorem dX11_bisect_187 : decode cX11_bisect 187 = .ok (.aload_n 0, 1) := by decide +kernel
theorem dX11_bisect_188 : decode cX11_bisect 188 = .ok (.getfield 7, 3) := by decide +kernel
theorem dX11_bisect_191 : decode cX11_bisect 191 = .ok (.iload 9, 2) := by decide +kernel
theorem dX11_bisect_193 : decode cX11_bisect 193 = .ok (.iaload, 1) := by decide +kernel
theorem dX11_bisect_194 : decode cX11_bisect 194 = .ok (.invokestatic 132, 3) := by decide +kernel
theorem dX11_bisect_197 : decode cX11_bisect 197 = .ok (.goto 4, 3) := by decide +kernel
theorem dX11_bisect_200 : decode cX11_bisect 200 = .ok (.iconst 0, 1) := by decide +kernel
theorem dX11_bisect_201 : decode cX11_bisect 201 = .ok (.iadd, 1) := by decide +kernel
theorem dX11_bisect_202 : decode cX11_bisect 202 = .ok (.istore 7, 2) := by decide +kernel
theorem dX11_bisect_204 : decode cX11_bisect 204 = .ok (.iinc 9 1, 3) := by decide +kernel
theorem dX11_bisect_207 : decode cX11_bisect 207 = .ok (.goto (-71), 3) := by decide +kernel
theorem dX11_bisect_210 : decode cX11_bisect 210 = .ok (.iinc 8 1, 3) := by decide +kernel
theorem dX11_bisect_213 : decode cX11_bisect 213 = .ok (.goto (-87), 3) := by decide +kernel
theorem dX11_bisect_216 : decode cX11_bisect 216 = .ok (.iload 7, 2) := by decide +kernel
theorem dX11_bisect_218 : decode cX11_bisect 218 = .ok (.iload_n 3, 1) := by decide +kernel
theorem dX11_bisect_219 : decode cX11_bisect 219 = .ok (.if_icmp .ge 8, 3) := by decide +kernel
theorem dX11_bisect_222 : decode cX11_bisect 222 = .ok (.iload 5, 2) := by decide +kernel
theorem dX11_bisect_224 : decode cX11_bisect 224 = .ok (.goto 5, 3) := by decide +kernel
theorem dX11_bisect_227 : decode cX11_bisect 227 = .ok (.iload 4, 2) := by decide +kernel
theorem dX11_bisect_229 : decode cX11_bisect 229 = .ok (.istore 4, 2) := by decide +kernel
theorem dX11_bisect_231 : decode cX11_bisect 231 = .ok (.iload 7, 2) := by decide +kernel
theorem dX11_bisect_233 : decode cX11_bisect 233 = .ok (.iload_n 3, 1) := by decide +kernel
theorem dX11_bisect_234 : decode cX11_bisect 234 = .ok (.if_icmp .ge 8, 3) := by decide +kernel
theorem dX11_bisect_237 : decode cX11_bisect 237 = .ok (.iload 7, 2) := by decide +kernel
theorem dX11_bisect_239 : decode cX11_bisect 239 = .ok (.goto 4, 3) := by decide +kernel
theorem dX11_bisect_242 : decode cX11_bisect 242 = .ok (.iload_n 3, 1) := by decide +kernel
theorem dX11_bisect_243 : decode cX11_bisect 243 = .ok (.istore_n 3, 1) := by decide +kernel
theorem dX11_bisect_244 : decode cX11_bisect 244 = .ok (.iinc 5 1, 3) := by decide +kernel
theorem dX11_bisect_247 : decode cX11_bisect 247 = .ok (.goto (-193), 3) := by decide +kernel
theorem dX11_bisect_250 : decode cX11_bisect 250 = .ok (.iload_n 1, 1) := by decide +kernel
theorem dX11_bisect_251 : decode cX11_bisect 251 = .ok (.ifCond .ne 7, 3) := by decide +kernel
theorem dX11_bisect_254 : decode cX11_bisect 254 = .ok (.iload_n 3, 1) := by decide +kernel
theorem dX11_bisect_255 : decode cX11_bisect 255 = .ok (.goto 5, 3) := by decide +kernel
theorem dX11_bisect_258 : decode cX11_bisect 258 = .ok (.iload 4, 2) := by decide +kernel
theorem dX11_bisect_260 : decode cX11_bisect 260 = .ok (.ireturn, 1) := by decide +kernel
set_option maxRecDepth 20000 in
theorem ggX11_meet_X11_isThere : GoodIn wsX11_meet wsX11_isThere := goodIn_r _ [7, 8, 9, 10, 6, 11, 12, 13, 14, 18, 19, 20, 21, 22, 23, 24, 25, 26, 27, 28, 29, 30, 31, 32, 33, 34, 35, 36, 37, 38, 39, 40] (by decide +kernel) (by decide +kernel)
set_option maxRecDepth 20000 in
theorem gX11_meet_X11_isThere : GoodIn wsX11_meet (wsV RX11 73 RX11 yX11_isThere wsX11_isThere) := goodIn_app (goodIn_of _ (by decide +kernel)) ggX11_meet_X11_isThere
set_option maxRecDepth 20000 in
theorem ggX11_meet_X11_over : GoodIn wsX11_meet wsX11_over := goodIn_r _ [17] (by decide +kernel) (by decide +kernel)
set_option maxRecDepth 20000 in
theorem gX11_meet_X11_over : GoodIn wsX11_meet (va_wsS RX11 57 yX11_over wsX11_over) := goodIn_app (goodIn_of _ (by decide +kernel)) ggX11_meet_X11_over
theorem dX11_meet_0 : decode cX11_meet 0 = .ok (.aload_n 0, 1) := by decide +kernel
theorem dX11_meet_1 : decode cX11_meet 1 = .ok (.iload_n 1, 1) := by decide +kernel
theorem dX11_meet_2 : decode cX11_meet 2 = .ok (.invokevirtual 73, 3) := by decide +kernel
theorem dX11_meet_5 : decode cX11_meet 5 = .ok (.ifCond .eq 11, 3) := by decide +kernel
theorem dX11_meet_8 : decode cX11_meet 8 = .ok (.aload_n 0, 1) := by decide +kernel
theorem dX11_meet_9 : decode cX11_meet 9 = .ok (.iload_n 2, 1) := by decide +kernel
theorem dX11_meet_10 : decode cX11_meet 10 = .ok (.invokevirtual 73, 3) := by decide +kernel
theorem dX11_meet_13 : decode cX11_meet 13 = .ok (.ifCond .ne 5, 3) := by decide +kernel
theorem dX11_meet_16 : decode cX11_meet 16 = .ok (.iconst (-1), 1) := by decide +kernel
theorem dX11_meet_17 : decode cX11_meet 17 = .ok (.ireturn, 1) := by decide +kernel
theorem dX11_meet_18 : decode cX11_meet 18 = .ok (.iconst 0, 1) := by decide +kernel
theorem dX11_meet_19 : decode cX11_meet 19 = .ok (.istore_n 3, 1) := by decide +kernel
theorem dX11_meet_20 : decode cX11_meet 20 = .ok (.iload_n 3, 1) := by decide +kernel
theorem dX11_meet_21 : decode cX11_meet 21 = .ok (.sipush 360, 3) := by decide +kernel
theorem dX11_meet_24 : decode cX11_meet 24 = .ok (.if_icmp .ge 50, 3) := by decide +kernel
theorem dX11_meet_27 : decode cX11_meet 27 = .ok (.aload_n 0, 1) := by decide +kernel
theorem dX11_meet_28 : decode cX11_meet 28 = .ok (.getfield 7, 3) := by decide +kernel
theorem dX11_meet_31 : decode cX11_meet 31 = .ok (.iload_n 1, 1) := by decide +kernel
theorem dX11_meet_32 : decode cX11_meet 32 = .ok (.iaload, 1) := by decide +kernel
theorem dX11_meet_33 : decode cX11_meet 33 = .ok (.iload_n 3, 1) := by decide +kernel
theorem dX11_meet_34 : decode cX11_meet 34 = .ok (.aload_n 0, 1) := by decide +kernel
theorem dX11_meet_35 : decode cX11_meet 35 = .ok (.getfield 19, 3) := by decide +kernel
theorem dX11_meet_38 : decode cX11_meet 38 = .ok (.iload_n 1, 1) := by decide +kernel
theorem dX11_meet_39 : decode cX11_meet 39 = .ok (.iaload, 1) := by decide +kernel
theorem dX11_meet_40 : decode cX11_meet 40 = .ok (.imul, 1) := by decide +kernel
theorem dX11_meet_41 : decode cX11_meet 41 = .ok (.iadd, 1) := by decide +kernel
theorem dX11_meet_42 : decode cX11_meet 42 = .ok (.invokestatic 57, 3) := by decide +kernel
theorem dX11_meet_45 : decode cX11_meet 45 = .ok (.aload_n 0, 1) := by decide +kernel
theorem dX11_meet_46 : decode cX11_meet 46 = .ok (.getfield 7, 3) := by decide +kernel
theorem dX11_meet_49 : decode cX11_meet 49 = .ok (.iload_n 2, 1) := by decide +kernel
theorem dX11_meet_50 : decode cX11_meet 50 = .ok (.iaload, 1) := by decide +kernel
theorem dX11_meet_51 : decode cX11_meet 51 = .ok (.iload_n 3, 1) := by decide +kernel
theorem dX11_meet_52 : decode cX11_meet 52 = .ok (.aload_n 0, 1) := by decide +kernel
theorem dX11_meet_53 : decode cX11_meet 53 = .ok (.getfield 19, 3) := by decide +kernel
theorem dX11_meet_56 : decode cX11_meet 56 = .ok (.iload_n 2, 1) := by decide +kernel
theorem dX11_meet_57 : decode cX11_meet 57 = .ok (.iaload, 1) := by decide +kernel
theorem dX11_meet_58 : decode cX11_meet 58 = .ok (.imul, 1) := by decide +kernel
theorem dX11_meet_59 : decode cX11_meet 59 = .ok (.iadd, 1) := by decide +kernel
theorem dX11_meet_60 : decode cX11_meet 60 = .ok (.invokestatic 57, 3) := by decide +kernel
theorem dX11_meet_63 : decode cX11_meet 63 = .ok (.if_icmp .ne 5, 3) := by decide +kernel
theorem dX11_meet_66 : decode cX11_meet 66 = .ok (.iload_n 3, 1) := by decide +kernel
theorem dX11_meet_67 : decode cX11_meet 67 = .ok (.ireturn, 1) := by decide +kernel
theorem dX11_meet_68 : decode cX11_meet 68 = .ok (.iinc 3 1, 3) := by decide +kernel
theorem dX11_meet_71 : decode cX11_meet 71 = .ok (.goto (-51), 3) := by decide +kernel
theorem dX11_meet_74 : decode cX11_meet 74 = .ok (.bipush (-6), 2) := by decide +kernel
theorem dX11_meet_76 : decode cX11_meet 76 = .ok (.ireturn, 1) := by decide +kernel
set_option maxRecDepth 20000 in
theorem ggX11_chalk_X11_in : GoodIn wsX11_chalk wsX11_in := goodIn_r _ [6] (by decide +kernel) (by decide +kernel)
set_option maxRecDepth 20000 in
theorem gX11_chalk_X11_in : GoodIn wsX11_chalk (va_wsS RX11 61 yX11_in wsX11_in) := goodIn_app (goodIn_of _ (by decide +kernel)) ggX11_chalk_X11_in
theorem dX11_chalk_0 : decode cX11_chalk 0 = .ok (.iload_n 1, 1) := by decide +kernel
theorem dX11_chalk_1 : decode cX11_chalk 1 = .ok (.iconst 0, 1) := by decide +kernel
theorem dX11_chalk_2 : decode cX11_chalk 2 = .ok (.bipush 60, 2) := by decide +kernel
theorem dX11_chalk_4 : decode cX11_chalk 4 = .ok (.invokestatic 61, 3) := by decide +kernel
theorem dX11_chalk_7 : decode cX11_chalk 7 = .ok (.ifCond .eq 14, 3) := by decide +kernel
theorem dX11_chalk_10 : decode cX11_chalk 10 = .ok (.iload_n 2, 1) := by decide +kernel
theorem dX11_chalk_11 : decode cX11_chalk 11 = .ok (.iconst 0, 1) := by decide +kernel
theorem dX11_chalk_12 : decode cX11_chalk 12 = .ok (.sipush 179, 3) := by decide +kernel
theorem dX11_chalk_15 : decode cX11_chalk 15 = .ok (.invokestatic 61, 3) := by decide +kernel
theorem dX11_chalk_18 : decode cX11_chalk 18 = .ok (.ifCond .ne 6, 3) := by decide +kernel
theorem dX11_chalk_21 : decode cX11_chalk 21 = .ok (.bipush (-2), 2) := by decide +kernel
theorem dX11_chalk_23 : decode cX11_chalk 23 = .ok (.ireturn, 1) := by decide +kernel
theorem dX11_chalk_24 : decode cX11_chalk 24 = .ok (.aload_n 0, 1) := by decide +kernel
theorem dX11_chalk_25 : decode cX11_chalk 25 = .ok (.getfield 142, 3) := by decide +kernel
theorem dX11_chalk_28 : decode cX11_chalk 28 = .ok (.bipush 8, 2) := by decide +kernel
theorem dX11_chalk_30 : decode cX11_chalk 30 = .ok (.if_icmp .ne 6, 3) := by decide +kernel
theorem dX11_chalk_33 : decode cX11_chalk 33 = .ok (.bipush (-4), 2) := by decide +kernel
theorem dX11_chalk_35 : decode cX11_chalk 35 = .ok (.ireturn, 1) := by decide +kernel
theorem dX11_chalk_36 : decode cX11_chalk 36 = .ok (.aload_n 0, 1) := by decide +kernel
theorem dX11_chalk_37 : decode cX11_chalk 37 = .ok (.getfield 22, 3) := by decide +kernel
theorem dX11_chalk_40 : decode cX11_chalk 40 = .ok (.iconst 2, 1) := by decide +kernel
theorem dX11_chalk_41 : decode cX11_chalk 41 = .ok (.aload_n 0, 1) := by decide +kernel
theorem dX11_chalk_42 : decode cX11_chalk 42 = .ok (.getfield 142, 3) := by decide +kernel
theorem dX11_chalk_45 : decode cX11_chalk 45 = .ok (.imul, 1) := by decide +kernel
theorem dX11_chalk_46 : decode cX11_chalk 46 = .ok (.iload_n 1, 1) := by decide +kernel
theorem dX11_chalk_47 : decode cX11_chalk 47 = .ok (.iastore, 1) := by decide +kernel
theorem dX11_chalk_48 : decode cX11_chalk 48 = .ok (.aload_n 0, 1) := by decide +kernel
theorem dX11_chalk_49 : decode cX11_chalk 49 = .ok (.getfield 22, 3) := by decide +kernel
theorem dX11_chalk_52 : decode cX11_chalk 52 = .ok (.iconst 2, 1) := by decide +kernel
theorem dX11_chalk_53 : decode cX11_chalk 53 = .ok (.aload_n 0, 1) := by decide +kernel
theorem dX11_chalk_54 : decode cX11_chalk 54 = .ok (.getfield 142, 3) := by decide +kernel
theorem dX11_chalk_57 : decode cX11_chalk 57 = .ok (.imul, 1) := by decide +kernel
theorem dX11_chalk_58 : decode cX11_chalk 58 = .ok (.iconst 1, 1) := by decide +kernel
theorem dX11_chalk_59 : decode cX11_chalk 59 = .ok (.iadd, 1) := by decide +kernel
theorem dX11_chalk_60 : decode cX11_chalk 60 = .ok (.iload_n 2, 1) := by decide +kernel
theorem dX11_chalk_61 : decode cX11_chalk 61 = .ok (.iastore, 1) := by decide +kernel
theorem dX11_chalk_62 : decode cX11_chalk 62 = .ok (.aload_n 0, 1) := by decide +kernel
theorem dX11_chalk_63 : decode cX11_chalk 63 = .ok (.dup, 1) := by decide +kernel
theorem dX11_chalk_64 : decode cX11_chalk 64 = .ok (.getfield 142, 3) := by decide +kernel
theorem dX11_chalk_67 : decode cX11_chalk 67 = .ok (.iconst 1, 1) := by decide +kernel
theorem dX11_chalk_68 : decode cX11_chalk 68 = .ok (.iadd, 1) := by decide +kernel
theorem dX11_chalk_69 : decode cX11_chalk 69 = .ok (.putfield 142, 3) := by decide +kernel
theorem dX11_chalk_72 : decode cX11_chalk 72 = .ok (.aload_n 0, 1) := by decide +kernel
theorem dX11_chalk_73 : decode cX11_chalk 73 = .ok (.getfield 142, 3) := by decide +kernel
theorem dX11_chalk_76 : decode cX11_chalk 76 = .ok (.ireturn, 1) := by decide +kernel
theorem dX11_forget_0 : decode cX11_forget 0 = .ok (.aload_n 0, 1) := by decide +kernel
theorem dX11_forget_1 : decode cX11_forget 1 = .ok (.getfield 142, 3) := by decide +kernel
theorem dX11_forget_4 : decode cX11_forget 4 = .ok (.istore_n 1, 1) := by decide +kernel
theorem dX11_forget_5 : decode cX11_forget 5 = .ok (.aload_n 0, 1) := by decide +kernel
theorem dX11_forget_6 : decode cX11_forget 6 = .ok (.iconst 0, 1) := by decide +kernel
theorem dX11_forget_7 : decode cX11_forget 7 = .ok (.putfield 142, 3) := by decide +kernel
theorem dX11_forget_10 : decode cX11_forget 10 = .ok (.iload_n 1, 1) := by decide +kernel
theorem dX11_forget_11 : decode cX11_forget 11 = .ok (.ireturn, 1) := by decide +kernel
set_option maxRecDepth 20000 in
theorem ggX11_wasAt_X11_over : GoodIn wsX11_wasAt wsX11_over := goodIn_r _ [4] (by decide +kernel) (by decide +kernel)
set_option maxRecDepth 20000 in
theorem gX11_wasAt_X11_over : GoodIn wsX11_wasAt (va_wsS RX11 57 yX11_over wsX11_over) := goodIn_app (goodIn_of _ (by decide +kernel)) ggX11_wasAt_X11_over
theorem dX11_wasAt_0 : decode cX11_wasAt 0 = .ok (.iload_n 0, 1) := by decide +kernel
theorem dX11_wasAt_1 : decode cX11_wasAt 1 = .ok (.bipush 20, 2) := by decide +kernel
theorem dX11_wasAt_3 : decode cX11_wasAt 3 = .ok (.idiv, 1) := by decide +kernel
theorem dX11_wasAt_4 : decode cX11_wasAt 4 = .ok (.iload_n 0, 1) := by decide +kernel
theorem dX11_wasAt_5 : decode cX11_wasAt 5 = .ok (.bipush 20, 2) := by decide +kernel
theorem dX11_wasAt_7 : decode cX11_wasAt 7 = .ok (.irem, 1) := by decide +kernel
theorem dX11_wasAt_8 : decode cX11_wasAt 8 = .ok (.bipush 9, 2) := by decide +kernel
theorem dX11_wasAt_10 : decode cX11_wasAt 10 = .ok (.isub, 1) := by decide +kernel
theorem dX11_wasAt_11 : decode cX11_wasAt 11 = .ok (.iload_n 1, 1) := by decide +kernel
theorem dX11_wasAt_12 : decode cX11_wasAt 12 = .ok (.imul, 1) := by decide +kernel
theorem dX11_wasAt_13 : decode cX11_wasAt 13 = .ok (.iadd, 1) := by decide +kernel
theorem dX11_wasAt_14 : decode cX11_wasAt 14 = .ok (.invokestatic 57, 3) := by decide +kernel
theorem dX11_wasAt_17 : decode cX11_wasAt 17 = .ok (.ireturn, 1) := by decide +kernel
set_option maxRecDepth 20000 in
theorem ggX11_isFit_X11_wasAt : GoodIn wsX11_isFit wsX11_wasAt := goodIn_r _ [6, 7, 8, 5, 9] (by decide +kernel) (by decide +kernel)
set_option maxRecDepth 20000 in
theorem gX11_isFit_X11_wasAt : GoodIn wsX11_isFit (va_wsS RX11 145 yX11_wasAt wsX11_wasAt) := goodIn_app (goodIn_of _ (by decide +kernel)) ggX11_isFit_X11_wasAt
set_option maxRecDepth 20000 in
theorem ggX11_isFit_X11_over : GoodIn wsX11_isFit wsX11_over := goodIn_r _ [9] (by decide +kernel) (by decide +kernel)
set_option maxRecDepth 20000 in
theorem gX11_isFit_X11_over : GoodIn wsX11_isFit (va_wsS RX11 57 yX11_over wsX11_over) := goodIn_app (goodIn_of _ (by decide +kernel)) ggX11_isFit_X11_over
theorem dX11_isFit_0 : decode cX11_isFit 0 = .ok (.iconst 0, 1) := by decide +kernel
theorem dX11_isFit_1 : decode cX11_isFit 1 = .ok (.istore_n 3, 1) := by decide +kernel
theorem dX11_isFit_2 : decode cX11_isFit 2 = .ok (.iload_n 1, 1) := by decide +kernel
theorem dX11_isFit_3 : decode cX11_isFit 3 = .ok (.bipush 20, 2) := by decide +kernel
theorem dX11_isFit_5 : decode cX11_isFit 5 = .ok (.irem, 1) := by decide +kernel
theorem dX11_isFit_6 : decode cX11_isFit 6 = .ok (.bipush 19, 2) := by decide +kernel
theorem dX11_isFit_8 : decode cX11_isFit 8 = .ok (.if_icmp .ge 7, 3) := by decide +kernel
theorem dX11_isFit_11 : decode cX11_isFit 11 = .ok (.iconst 1, 1) := by decide +kernel
theorem dX11_isFit_12 : decode cX11_isFit 12 = .ok (.goto 4, 3) := by decide +kernel
theorem dX11_isFit_15 : decode cX11_isFit 15 = .ok (.iconst 0, 1) := by decide +kernel
theorem dX11_isFit_16 : decode cX11_isFit 16 = .ok (.istore 4, 2) := by decide +kernel
theorem dX11_isFit_18 : decode cX11_isFit 18 = .ok (.iconst 0, 1) := by decide +kernel
theorem dX11_isFit_19 : decode cX11_isFit 19 = .ok (.istore 5, 2) := by decide +kernel
theorem dX11_isFit_21 : decode cX11_isFit 21 = .ok (.iload 5, 2) := by decide +kernel
theorem dX11_isFit_23 : decode cX11_isFit 23 = .ok (.aload_n 0, 1) := by decide +kernel
theorem dX11_isFit_24 : decode cX11_isFit 24 = .ok (.getfield 142, 3) := by decide +kernel
theorem dX11_isFit_27 : decode cX11_isFit 27 = .ok (.if_icmp .ge 90, 3) := by decide +kernel
theorem dX11_isFit_30 : decode cX11_isFit 30 = .ok (.iload 4, 2) := by decide +kernel
theorem dX11_isFit_32 : decode cX11_isFit 32 = .ok (.ifCond .eq 85, 3) := by decide +kernel
theorem dX11_isFit_35 : decode cX11_isFit 35 = .ok (.iload_n 1, 1) := by decide +kernel
theorem dX11_isFit_36 : decode cX11_isFit 36 = .ok (.aload_n 0, 1) := by decide +kernel
theorem dX11_isFit_37 : decode cX11_isFit 37 = .ok (.getfield 22, 3) := by decide +kernel
theorem dX11_isFit_40 : decode cX11_isFit 40 = .ok (.iconst 2, 1) := by decide +kernel
theorem dX11_isFit_41 : decode cX11_isFit 41 = .ok (.iload 5, 2) := by decide +kernel
theorem dX11_isFit_43 : decode cX11_isFit 43 = .ok (.imul, 1) := by decide +kernel
theorem dX11_isFit_44 : decode cX11_isFit 44 = .ok (.iaload, 1) := by decide +kernel
theorem dX11_isFit_45 : decode cX11_isFit 45 = .ok (.invokestatic 145, 3) := by decide +kernel
theorem dX11_isFit_48 : decode cX11_isFit 48 = .ok (.istore 6, 2) := by decide +kernel
theorem dX11_isFit_50 : decode cX11_isFit 50 = .ok (.aload_n 0, 1) := by decide +kernel
theorem dX11_isFit_51 : decode cX11_isFit 51 = .ok (.getfield 22, 3) := by decide +kernel
theorem dX11_isFit_54 : decode cX11_isFit 54 = .ok (.iconst 2, 1) := by decide +kernel
theorem dX11_isFit_55 : decode cX11_isFit 55 = .ok (.iload 5, 2) := by decide +kernel
theorem dX11_isFit_57 : decode cX11_isFit 57 = .ok (.imul, 1) := by decide +kernel
theorem dX11_isFit_58 : decode cX11_isFit 58 = .ok (.iconst 1, 1) := by decide +kernel
theorem dX11_isFit_59 : decode cX11_isFit 59 = .ok (.iadd, 1) := by decide +kernel
theorem dX11_isFit_60 : decode cX11_isFit 60 = .ok (.iaload, 1) := by decide +kernel
theorem dX11_isFit_61 : decode cX11_isFit 61 = .ok (.istore 7, 2) := by decide +kernel
theorem dX11_isFit_63 : decode cX11_isFit 63 = .ok (.iload_n 3, 1) := by decide +kernel
theorem dX11_isFit_64 : decode cX11_isFit 64 = .ok (.iload 6, 2) := by decide +kernel
theorem dX11_isFit_66 : decode cX11_isFit 66 = .ok (.iload 7, 2) := by decide +kernel
theorem dX11_isFit_68 : decode cX11_isFit 68 = .ok (.if_icmp .ne 7, 3) := by decide +kernel
theorem dX11_isFit_71 : decode cX11_isFit 71 = .ok (.iconst 0, 1) := by decide +kernel
theorem dX11_isFit_72 : decode cX11_isFit 72 = .ok (.goto 4, 3) := by decide +kernel
theorem dX11_isFit_75 : decode cX11_isFit 75 = .ok (.iconst 1, 1) := by decide +kernel
theorem dX11_isFit_76 : decode cX11_isFit 76 = .ok (.iadd, 1) := by decide +kernel
theorem dX11_isFit_77 : decode cX11_isFit 77 = .ok (.istore_n 3, 1) := by decide +kernel
theorem dX11_isFit_78 : decode cX11_isFit 78 = .ok (.iload 6, 2) := by decide +kernel
theorem dX11_isFit_80 : decode cX11_isFit 80 = .ok (.iload 7, 2) := by decide +kernel
theorem dX11_isFit_82 : decode cX11_isFit 82 = .ok (.if_icmp .eq 17, 3) := by decide +kernel
theorem dX11_isFit_85 : decode cX11_isFit 85 = .ok (.iload 6, 2) := by decide +kernel
theorem dX11_isFit_87 : decode cX11_isFit 87 = .ok (.sipush 180, 3) := by decide +kernel
theorem dX11_isFit_90 : decode cX11_isFit 90 = .ok (.iload 7, 2) := by decide +kernel
theorem dX11_isFit_92 : decode cX11_isFit 92 = .ok (.isub, 1) := by decide +kernel
theorem dX11_isFit_93 : decode cX11_isFit 93 = .ok (.invokestatic 57, 3) := by decide +kernel
theorem dX11_isFit_96 : decode cX11_isFit 96 = .ok (.if_icmp .ne 12, 3) := by decide +kernel
theorem dX11_isFit_99 : decode cX11_isFit 99 = .ok (.iload_n 3, 1) := by decide +kernel
theorem dX11_isFit_100 : decode cX11_isFit 100 = .ok (.iload_n 2, 1) := by decide +kernel
theorem dX11_isFit_101 : decode cX11_isFit 101 = .ok (.if_icmp .gt 7, 3) := by decide +kernel
theorem dX11_isFit_104 : decode cX11_isFit 104 = .ok (.iconst 1, 1) := by decide +kernel
theorem dX11_isFit_105 : decode cX11_isFit 105 = .ok (.goto 4, 3) := by decide +kernel
theorem dX11_isFit_108 : decode cX11_isFit 108 = .ok (.iconst 0, 1) := by decide +kernel
theorem dX11_isFit_109 : decode cX11_isFit 109 = .ok (.istore 4, 2) := by decide +kernel
theorem dX11_isFit_111 : decode cX11_isFit 111 = .ok (.iinc 5 1, 3) := by decide +kernel
theorem dX11_isFit_114 : decode cX11_isFit 114 = .ok (.goto (-93), 3) := by decide +kernel
theorem dX11_isFit_117 : decode cX11_isFit 117 = .ok (.iload 4, 2) := by decide +kernel
theorem dX11_isFit_119 : decode cX11_isFit 119 = .ok (.ireturn, 1) := by decide +kernel
set_option maxRecDepth 20000 in
theorem ggX11_was_X11_in : GoodIn wsX11_was wsX11_in := goodIn_r _ [4] (by decide +kernel) (by decide +kernel)
set_option maxRecDepth 20000 in
theorem gX11_was_X11_in : GoodIn wsX11_was (va_wsS RX11 61 yX11_in wsX11_in) := goodIn_app (goodIn_of _ (by decide +kernel)) ggX11_was_X11_in
set_option maxRecDepth 20000 in
theorem ggX11_was_X11_isFit : GoodIn wsX11_was wsX11_isFit := goodIn_r _ [8, 9, 10, 11, 12, 3, 13, 14, 15, 16, 17, 18, 19, 20, 21, 22, 23, 24, 25, 26, 27, 28, 29, 30, 31, 32, 33, 34, 35, 36, 37, 38, 39] (by decide +kernel) (by decide +kernel)
set_option maxRecDepth 20000 in
theorem gX11_was_X11_isFit : GoodIn wsX11_was (wsV RX11 148 RX11 yX11_isFit wsX11_isFit) := goodIn_app (goodIn_of _ (by decide +kernel)) ggX11_was_X11_isFit
theorem dX11_was_0 : decode cX11_was 0 = .ok (.iload_n 1, 1) := by decide +kernel
theorem dX11_was_1 : decode cX11_was 1 = .ok (.iconst 0, 1) := by decide +kernel
theorem dX11_was_2 : decode cX11_was 2 = .ok (.iconst 2, 1) := by decide +kernel
theorem dX11_was_3 : decode cX11_was 3 = .ok (.invokestatic 61, 3) := by decide +kernel
theorem dX11_was_6 : decode cX11_was 6 = .ok (.ifCond .ne 6, 3) := by decide +kernel
theorem dX11_was_9 : decode cX11_was 9 = .ok (.bipush (-2), 2) := by decide +kernel
theorem dX11_was_11 : decode cX11_was 11 = .ok (.ireturn, 1) := by decide +kernel
theorem dX11_was_12 : decode cX11_was 12 = .ok (.iconst 0, 1) := by decide +kernel
theorem dX11_was_13 : decode cX11_was 13 = .ok (.istore_n 3, 1) := by decide +kernel
theorem dX11_was_14 : decode cX11_was 14 = .ok (.iconst 0, 1) := by decide +kernel
theorem dX11_was_15 : decode cX11_was 15 = .ok (.istore 4, 2) := by decide +kernel
theorem dX11_was_17 : decode cX11_was 17 = .ok (.iload 4, 2) := by decide +kernel
theorem dX11_was_19 : decode cX11_was 19 = .ok (.sipush 3600, 3) := by decide +kernel
theorem dX11_was_22 : decode cX11_was 22 = .ok (.if_icmp .ge 30, 3) := by decide +kernel
theorem dX11_was_25 : decode cX11_was 25 = .ok (.aload_n 0, 1) := by decide +kernel
theorem dX11_was_26 : decode cX11_was 26 = .ok (.iload 4, 2) := by decide +kernel
theorem dX11_was_28 : decode cX11_was 28 = .ok (.iload_n 1, 1) := by decide +kernel
theorem dX11_was_29 : decode cX11_was 29 = .ok (.invokevirtual 148, 3) := by decide +kernel
theorem dX11_was_32 : decode cX11_was 32 = .ok (.ifCond .eq 14, 3) := by decide +kernel
theorem dX11_was_35 : decode cX11_was 35 = .ok (.iload_n 3, 1) := by decide +kernel
theorem dX11_was_36 : decode cX11_was 36 = .ok (.iload_n 2, 1) := by decide +kernel
theorem dX11_was_37 : decode cX11_was 37 = .ok (.if_icmp .ne 6, 3) := by decide +kernel
theorem dX11_was_40 : decode cX11_was 40 = .ok (.iload 4, 2) := by decide +kernel
theorem dX11_was_42 : decode cX11_was 42 = .ok (.ireturn, 1) := by decide +kernel
theorem dX11_was_43 : decode cX11_was 43 = .ok (.iinc 3 1, 3) := by decide +kernel
theorem dX11_was_46 : decode cX11_was 46 = .ok (.iinc 4 1, 3) := by decide +kernel
theorem dX11_was_49 : decode cX11_was 49 = .ok (.goto (-32), 3) := by decide +kernel
theorem dX11_was_52 : decode cX11_was 52 = .ok (.iload_n 2, 1) := by decide +kernel
theorem dX11_was_53 : decode cX11_was 53 = .ok (.iconst (-1), 1) := by decide +kernel
theorem dX11_was_54 : decode cX11_was 54 = .ok (.if_icmp .ne 7, 3) := by decide +kernel
theorem dX11_was_57 : decode cX11_was 57 = .ok (.iload_n 3, 1) := by decide +kernel
theorem dX11_was_58 : decode cX11_was 58 = .ok (.goto 5, 3) := by decide +kernel
theorem dX11_was_61 : decode cX11_was 61 = .ok (.bipush (-6), 2) := by decide +kernel
theorem dX11_was_63 : decode cX11_was 63 = .ok (.ireturn, 1) := by decide +kernel
set_option maxRecDepth 20000 in
theorem ggX11_ask_X11_in : GoodIn wsX11_ask wsX11_in := goodIn_r _ [7] (by decide +kernel) (by decide +kernel)
set_option maxRecDepth 20000 in
theorem gX11_ask_X11_in : GoodIn wsX11_ask (va_wsS RX11 61 yX11_in wsX11_in) := goodIn_app (goodIn_of _ (by decide +kernel)) ggX11_ask_X11_in
set_option maxRecDepth 20000 in
theorem ggX11_ask_X11_isFit : GoodIn wsX11_ask wsX11_isFit := goodIn_r _ [11, 12, 13, 14, 15, 6, 16, 17, 18, 19, 20, 21, 22, 23, 24, 25, 26, 27, 28, 29, 30, 31, 32, 33, 34, 35, 36, 37, 38, 39, 40, 41, 42] (by decide +kernel) (by decide +kernel)
set_option maxRecDepth 20000 in
theorem gX11_ask_X11_isFit : GoodIn wsX11_ask (wsV RX11 148 RX11 yX11_isFit wsX11_isFit) := goodIn_app (goodIn_of _ (by decide +kernel)) ggX11_ask_X11_isFit
set_option maxRecDepth 20000 in
theorem ggX11_ask_X11_wasAt : GoodIn wsX11_ask wsX11_wasAt := goodIn_r _ [16, 17, 18, 6, 19] (by decide +kernel) (by decide +kernel)
set_option maxRecDepth 20000 in
theorem gX11_ask_X11_wasAt : GoodIn wsX11_ask (va_wsS RX11 145 yX11_wasAt wsX11_wasAt) := goodIn_app (goodIn_of _ (by decide +kernel)) ggX11_ask_X11_wasAt
theorem dX11_ask_0 : decode cX11_ask 0 = .ok (.iload_n 1, 1) := by decide +kernel
theorem dX11_ask_1 : decode cX11_ask 1 = .ok (.iconst 0, 1) := by decide +kernel
theorem dX11_ask_2 : decode cX11_ask 2 = .ok (.iconst 1, 1) := by decide +kernel
theorem dX11_ask_3 : decode cX11_ask 3 = .ok (.invokestatic 61, 3) := by decide +kernel
theorem dX11_ask_6 : decode cX11_ask 6 = .ok (.ifCond .ne 6, 3) := by decide +kernel
theorem dX11_ask_9 : decode cX11_ask 9 = .ok (.bipush (-2), 2) := by decide +kernel
theorem dX11_ask_11 : decode cX11_ask 11 = .ok (.ireturn, 1) := by decide +kernel
theorem dX11_ask_12 : decode cX11_ask 12 = .ok (.iconst 0, 1) := by decide +kernel
theorem dX11_ask_13 : decode cX11_ask 13 = .ok (.istore_n 2, 1) := by decide +kernel
theorem dX11_ask_14 : decode cX11_ask 14 = .ok (.iconst 0, 1) := by decide +kernel
theorem dX11_ask_15 : decode cX11_ask 15 = .ok (.istore_n 3, 1) := by decide +kernel
theorem dX11_ask_16 : decode cX11_ask 16 = .ok (.iload_n 3, 1) := by decide +kernel
theorem dX11_ask_17 : decode cX11_ask 17 = .ok (.sipush 3600, 3) := by decide +kernel
theorem dX11_ask_20 : decode cX11_ask 20 = .ok (.if_icmp .ge 28, 3) := by decide +kernel
theorem dX11_ask_23 : decode cX11_ask 23 = .ok (.aload_n 0, 1) := by decide +kernel
theorem dX11_ask_24 : decode cX11_ask 24 = .ok (.iload_n 3, 1) := by decide +kernel
theorem dX11_ask_25 : decode cX11_ask 25 = .ok (.iconst 0, 1) := by decide +kernel
theorem dX11_ask_26 : decode cX11_ask 26 = .ok (.invokevirtual 148, 3) := by decide +kernel
theorem dX11_ask_29 : decode cX11_ask 29 = .ok (.ifCond .eq 13, 3) := by decide +kernel
theorem dX11_ask_32 : decode cX11_ask 32 = .ok (.aload_n 0, 1) := by decide +kernel
theorem dX11_ask_33 : decode cX11_ask 33 = .ok (.getfield 37, 3) := by decide +kernel
theorem dX11_ask_36 : decode cX11_ask 36 = .ok (.iload_n 2, 1) := by decide +kernel
theorem dX11_ask_37 : decode cX11_ask 37 = .ok (.iload_n 3, 1) := by decide +kernel
theorem dX11_ask_38 : decode cX11_ask 38 = .ok (.iastore, 1) := by decide +kernel
theorem dX11_ask_39 : decode cX11_ask 39 = .ok (.iinc 2 1, 3) := by decide +kernel
theorem dX11_ask_42 : decode cX11_ask 42 = .ok (.iinc 3 1, 3) := by decide +kernel
theorem dX11_ask_45 : decode cX11_ask 45 = .ok (.goto (-29), 3) := by decide +kernel
theorem dX11_ask_48 : decode cX11_ask 48 = .ok (.bipush (-6), 2) := by decide +kernel
theorem dX11_ask_50 : decode cX11_ask 50 = .ok (.istore_n 3, 1) := by decide +kernel
theorem dX11_ask_51 : decode cX11_ask 51 = .ok (.ldc 141, 2) := by decide +kernel
theorem dX11_ask_53 : decode cX11_ask 53 = .ok (.istore 4, 2) := by decide +kernel
theorem dX11_ask_55 : decode cX11_ask 55 = .ok (.iconst 0, 1) := by decide +kernel
theorem dX11_ask_56 : decode cX11_ask 56 = .ok (.istore 5, 2) := by decide +kernel
theorem dX11_ask_58 : decode cX11_ask 58 = .ok (.iload 5, 2) := by decide +kernel
theorem dX11_ask_60 : decode cX11_ask 60 = .ok (.bipush 61, 2) := by decide +kernel
theorem dX11_ask_62 : decode cX11_ask 62 = .ok (.if_icmp .ge 137, 3) := by decide +kernel
theorem dX11_ask_65 : decode cX11_ask 65 = .ok (.iload_n 2, 1) := by decide +kernel
theorem dX11_ask_66 : decode cX11_ask 66 = .ok (.ifCond .le 133, 3) := by decide +kernel
theorem dX11_ask_69 : decode cX11_ask 69 = .ok (.iconst 0, 1) := by decide +kernel
theorem dX11_ask_70 : decode cX11_ask 70 = .ok (.istore 6, 2) := by decide +kernel
theorem dX11_ask_72 : decode cX11_ask 72 = .ok (.iconst 0, 1) := by decide +kernel
theorem dX11_ask_73 : decode cX11_ask 73 = .ok (.istore 7, 2) := by decide +kernel
theorem dX11_ask_75 : decode cX11_ask 75 = .ok (.iload 7, 2) := by decide +kernel
theorem dX11_ask_77 : decode cX11_ask 77 = .ok (.sipush 180, 3) := by decide +kernel
theorem dX11_ask_80 : decode cX11_ask 80 = .ok (.if_icmp .ge 17, 3) := by decide +kernel
theorem dX11_ask_83 : decode cX11_ask 83 = .ok (.aload_n 0, 1) := by decide +kernel
theorem dX11_ask_84 : decode cX11_ask 84 = .ok (.getfield 34, 3) := by decide +kernel
theorem dX11_ask_87 : decode cX11_ask 87 = .ok (.iload 7, 2) := by decide +kernel
theorem dX11_ask_89 : decode cX11_ask 89 = .ok (.iconst 0, 1) := by decide +kernel
theorem dX11_ask_90 : decode cX11_ask 90 = .ok (.iastore, 1) := by decide +kernel
theorem dX11_ask_91 : decode cX11_ask 91 = .ok (.iinc 7 1, 3) := by decide +kernel
theorem dX11_ask_94 : decode cX11_ask 94 = .ok (.goto (-19), 3) := by decide +kernel
theorem dX11_ask_97 : decode cX11_ask 97 = .ok (.iconst 0, 1) := by decide +kernel
theorem dX11_ask_98 : decode cX11_ask 98 = .ok (.istore 7, 2) := by decide +kernel
theorem dX11_ask_100 : decode cX11_ask 100 = .ok (.iload 7, 2) := by decide +kernel
theorem dX11_ask_102 : decode cX11_ask 102 = .ok (.iload_n 2, 1) := by decide +kernel
theorem dX11_ask_103 : decode cX11_ask 103 = .ok (.if_icmp .ge 60, 3) := by decide +kernel
theorem dX11_ask_106 : decode cX11_ask 106 = .ok (.aload_n 0, 1) := by decide +kernel
theorem dX11_ask_107 : decode cX11_ask 107 = .ok (.getfield 37, 3) := by decide +kernel
theorem dX11_ask_110 : decode cX11_ask 110 = .ok (.iload 7, 2) := by decide +kernel
theorem dX11_ask_112 : decode cX11_ask 112 = .ok (.iaload, 1) := by decide +kernel
theorem dX11_ask_113 : decode cX11_ask 113 = .ok (.iload 5, 2) := by decide +kernel
theorem dX11_ask_115 : decode cX11_ask 115 = .ok (.invokestatic 145, 3) := by decide +kernel
theorem dX11_ask_118 : decode cX11_ask 118 = .ok (.istore 8, 2) := by decide +kernel
theorem dX11_ask_120 : decode cX11_ask 120 = .ok (.aload_n 0, 1) := by decide +kernel
theorem dX11_ask_121 : decode cX11_ask 121 = .ok (.getfield 34, 3) := by decide +kernel
theorem dX11_ask_124 : decode cX11_ask 124 = .ok (.iload 8, 2) := by decide +kernel
theorem dX11_ask_126 : decode cX11_ask 126 = .ok (.dup2, 1) := by decide +kernel
theorem dX11_ask_127 : decode cX11_ask 127 = .ok (.iaload, 1) := by decide +kernel
theorem dX11_ask_128 : decode cX11_ask 128 = .ok (.iconst 1, 1) := by decide +kernel
theorem dX11_ask_129 : decode cX11_ask 129 = .ok (.iadd, 1) := by decide +kernel
theorem dX11_ask_130 : decode cX11_ask 130 = .ok (.iastore, 1) := by decide +kernel
theorem dX11_ask_131 : decode cX11_ask 131 = .ok (.aload_n 0, 1) := by decide +kernel
theorem dX11_ask_132 : decode cX11_ask 132 = .ok (.getfield 34, 3) := by decide +kernel
theorem dX11_ask_135 : decode cX11_ask 135 = .ok (.iload 8, 2) := by decide +kernel
theorem dX11_ask_137 : decode cX11_ask 137 = .ok (.iaload, 1) := by decide +kernel
theorem dX11_ask_138 : decode cX11_ask 138 = .ok (.iload 6, 2) := by decide +kernel
theorem dX11_ask_140 : decode cX11_ask 140 = .ok (.if_icmp .le 13, 3) := by decide +kernel
theorem dX11_ask_143 : decode cX11_ask 143 = .ok (.aload_n 0, 1) := by decide +kernel
theorem dX11_ask_144 : decode cX11_ask 144 = .ok (.getfield 34, 3) := by decide +kernel
theorem dX11_ask_147 : decode cX11_ask 147 = .ok (.iload 8, 2) := by decide +kernel
theorem dX11_ask_149 : decode cX11_ask 149 = .ok (.iaload, 1) := by decide +kernel
theorem dX11_ask_150 : decode cX11_ask 150 = .ok (.goto 5, 3) := by decide +kernel
theorem dX11_ask_153 : decode cX11_ask 153 = .ok (.iload 6, 2) := by decide +kernel
theorem dX11_ask_155 : decode cX11_ask 155 = .ok (.istore 6, 2) := by decide +kernel
theorem dX11_ask_157 : decode cX11_ask 157 = .ok (.iinc 7 1, 3) := by decide +kernel
theorem dX11_ask_160 : decode cX11_ask 160 = .ok (.goto (-60), 3) := by decide +kernel
theorem dX11_ask_163 : decode cX11_ask 163 = .ok (.iload 6, 2) := by decide +kernel
theorem dX11_ask_165 : decode cX11_ask 165 = .ok (.iload 4, 2) := by decide +kernel
theorem dX11_ask_167 : decode cX11_ask 167 = .ok (.if_icmp .ge 8, 3) := by decide +kernel
theorem dX11_ask_170 : decode cX11_ask 170 = .ok (.iload 5, 2) := by decide +kernel
theorem dX11_ask_172 : decode cX11_ask 172 = .ok (.goto 4, 3) := by decide +kernel
theorem dX11_ask_175 : decode cX11_ask 175 = .ok (.iload_n 3, 1) := by decide +kernel
theorem dX11_ask_176 : decode cX11_ask 176 = .ok (.istore_n 3, 1) := by decide +kernel
theorem dX11_ask_177 : decode cX11_ask 177 = .ok (.iload 6, 2) := by decide +kernel
theorem dX11_ask_179 : decode cX11_ask 179 = .ok (.iload 4, 2) := by decide +kernel
theorem dX11_ask_181 : decode cX11_ask 181 = .ok (.if_icmp .ge 8, 3) := by decide +kernel
theorem dX11_ask_184 : decode cX11_ask 184 = .ok (.iload 6, 2) := by decide +kernel
theorem dX11_ask_186 : decode cX11_ask 186 = .ok (.goto 5, 3) := by decide +kernel
theorem dX11_ask_189 : decode cX11_ask 189 = .ok (.iload 4, 2) := by decide +kernel
theorem dX11_ask_191 : decode cX11_ask 191 = .ok (.istore 4, 2) := by decide +kernel
theorem dX11_ask_193 : decode cX11_ask 193 = .ok (.iinc 5 1, 3) := by decide +kernel
theorem dX11_ask_196 : decode cX11_ask 196 = .ok (.goto (-138), 3) := by decide +kernel
theorem dX11_ask_199 : decode cX11_ask 199 = .ok (.iload_n 3, 1) := by decide +kernel
theorem dX11_ask_200 : decode cX11_ask 200 = .ok (.ifCond .lt 7, 3) := by decide +kernel
theorem dX11_ask_203 : decode cX11_ask 203 = .ok (.iload_n 1, 1) := by decide +kernel
theorem dX11_ask_204 : decode cX11_ask 204 = .ok (.ifCond .ne 7, 3) := by decide +kernel
theorem dX11_ask_207 : decode cX11_ask 207 = .ok (.iload_n 3, 1) := by decide +kernel
theorem dX11_ask_208 : decode cX11_ask 208 = .ok (.goto 5, 3) := by decide +kernel
theorem dX11_ask_211 : decode cX11_ask 211 = .ok (.iload 4, 2) := by decide +kernel
theorem dX11_ask_213 : decode cX11_ask 213 = .ok (.ireturn, 1) := by decide +kernel
set_option maxRecDepth 20000 in
theorem ggX11_take_X11_in : GoodIn wsX11_take wsX11_in := goodIn_r _ [5] (by decide +kernel) (by decide +kernel)
set_option maxRecDepth 20000 in
theorem gX11_take_X11_in : GoodIn wsX11_take (va_wsS RX11 61 yX11_in wsX11_in) := goodIn_app (goodIn_of _ (by decide +kernel)) ggX11_take_X11_in
theorem dX11_take_0 : decode cX11_take 0 = .ok (.iload_n 1, 1) := by decide +kernel
theorem dX11_take_1 : decode cX11_take 1 = .ok (.iconst 0, 1) := by decide +kernel
theorem dX11_take_2 : decode cX11_take 2 = .ok (.sipush 179, 3) := by decide +kernel
theorem dX11_take_5 : decode cX11_take 5 = .ok (.invokestatic 61, 3) := by decide +kernel
theorem dX11_take_8 : decode cX11_take 8 = .ok (.ifCond .eq 12, 3) := by decide +kernel
theorem dX11_take_11 : decode cX11_take 11 = .ok (.iload_n 2, 1) := by decide +kernel
theorem dX11_take_12 : decode cX11_take 12 = .ok (.iconst 0, 1) := by decide +kernel
theorem dX11_take_13 : decode cX11_take 13 = .ok (.iconst 1, 1) := by decide +kernel
theorem dX11_take_14 : decode cX11_take 14 = .ok (.invokestatic 61, 3) := by decide +kernel
theorem dX11_take_17 : decode cX11_take 17 = .ok (.ifCond .ne 6, 3) := by decide +kernel
theorem dX11_take_20 : decode cX11_take 20 = .ok (.bipush (-2), 2) := by decide +kernel
theorem dX11_take_22 : decode cX11_take 22 = .ok (.ireturn, 1) := by decide +kernel
theorem dX11_take_23 : decode cX11_take 23 = .ok (.bipush (-6), 2) := by decide +kernel
theorem dX11_take_25 : decode cX11_take 25 = .ok (.istore_n 3, 1) := by decide +kernel
theorem dX11_take_26 : decode cX11_take 26 = .ok (.iconst 0, 1) := by decide +kernel
theorem dX11_take_27 : decode cX11_take 27 = .ok (.istore 4, 2) := by decide +kernel
theorem dX11_take_29 : decode cX11_take 29 = .ok (.iload 4, 2) := by decide +kernel
theorem dX11_take_31 : decode cX11_take 31 = .ok (.iload_n 1, 1) := by decide +kernel
theorem dX11_take_32 : decode cX11_take 32 = .ok (.if_icmp .gt 101, 3) := by decide +kernel
theorem dX11_take_35 : decode cX11_take 35 = .ok (.bipush (-6), 2) := by decide +kernel
theorem dX11_take_37 : decode cX11_take 37 = .ok (.istore_n 3, 1) := by decide +kernel
theorem dX11_take_38 : decode cX11_take 38 = .ok (.iconst 1, 1) := by decide +kernel
theorem dX11_take_39 : decode cX11_take 39 = .ok (.istore 5, 2) := by decide +kernel
theorem dX11_take_41 : decode cX11_take 41 = .ok (.iload 5, 2) := by decide +kernel
theorem dX11_take_43 : decode cX11_take 43 = .ok (.iconst 4, 1) := by decide +kernel
theorem dX11_take_44 : decode cX11_take 44 = .ok (.if_icmp .ge 67, 3) := by decide +kernel
theorem dX11_take_47 : decode cX11_take 47 = .ok (.iload 4, 2) := by decide +kernel
theorem dX11_take_49 : decode cX11_take 49 = .ok (.ifCond .le 62, 3) := by decide +kernel
theorem dX11_take_52 : decode cX11_take 52 = .ok (.iload 5, 2) := by decide +kernel
theorem dX11_take_54 : decode cX11_take 54 = .ok (.iconst 3, 1) := by decide +kernel
theorem dX11_take_55 : decode cX11_take 55 = .ok (.if_icmp .ne 7, 3) := by decide +kernel
theorem dX11_take_58 : decode cX11_take 58 = .ok (.iconst 1, 1) := by decide +kernel
theorem dX11_take_59 : decode cX11_take 59 = .ok (.goto 10, 3) := by decide +kernel
theorem dX11_take_62 : decode cX11_take 62 = .ok (.iload 4, 2) := by decide +kernel
theorem dX11_take_64 : decode cX11_take 64 = .ok (.iload 5, 2) := by decide +kernel
theorem dX11_take_66 : decode cX11_take 66 = .ok (.iconst 1, 1) := by decide +kernel
theorem dX11_take_67 : decode cX11_take 67 = .ok (.iadd, 1) := by decide +kernel
theorem dX11_take_68 : decode cX11_take 68 = .ok (.idiv, 1) := by decide +kernel
theorem dX11_take_69 : decode cX11_take 69 = .ok (.istore 6, 2) := by decide +kernel
theorem dX11_take_71 : decode cX11_take 71 = .ok (.iload 6, 2) := by decide +kernel
theorem dX11_take_73 : decode cX11_take 73 = .ok (.iconst 1, 1) := by decide +kernel
theorem dX11_take_74 : decode cX11_take 74 = .ok (.if_icmp .ge 7, 3) := by decide +kernel
theorem dX11_take_77 : decode cX11_take 77 = .ok (.iconst 1, 1) := by decide +kernel
theorem dX11_take_78 : decode cX11_take 78 = .ok (.goto 5, 3) := by decide +kernel
theorem dX11_take_81 : decode cX11_take 81 = .ok (.iload 6, 2) := by decide +kernel
theorem dX11_take_83 : decode cX11_take 83 = .ok (.istore 6, 2) := by decide +kernel
theorem dX11_take_85 : decode cX11_take 85 = .ok (.aload_n 0, 1) := by decide +kernel
theorem dX11_take_86 : decode cX11_take 86 = .ok (.getfield 40, 3) := by decide +kernel
theorem dX11_take_89 : decode cX11_take 89 = .ok (.iload 4, 2) := by decide +kernel
theorem dX11_take_91 : decode cX11_take 91 = .ok (.iload 6, 2) := by decide +kernel
theorem dX11_take_93 : decode cX11_take 93 = .ok (.isub, 1) := by decide +kernel
theorem dX11_take_94 : decode cX11_take 94 = .ok (.baload, 1) := by decide +kernel
theorem dX11_take_95 : decode cX11_take 95 = .ok (.ifCond .eq 7, 3) := by decide +kernel
theorem dX11_take_98 : decode cX11_take 98 = .ok (.iload_n 3, 1) := by decide +kernel
theorem dX11_take_99 : decode cX11_take 99 = .ok (.goto 5, 3) := by decide +kernel
theorem dX11_take_102 : decode cX11_take 102 = .ok (.iload 6, 2) := by decide +kernel
theorem dX11_take_104 : decode cX11_take 104 = .ok (.istore_n 3, 1) := by decide +kernel
theorem dX11_take_105 : decode cX11_take 105 = .ok (.iinc 5 1, 3) := by decide +kernel
theorem dX11_take_108 : decode cX11_take 108 = .ok (.goto (-67), 3) := by decide +kernel
theorem dX11_take_111 : decode cX11_take 111 = .ok (.aload_n 0, 1) := by decide +kernel
theorem dX11_take_112 : decode cX11_take 112 = .ok (.getfield 40, 3) := by decide +kernel
theorem dX11_take_115 : decode cX11_take 115 = .ok (.iload 4, 2) := by decide +kernel
theorem dX11_take_117 : decode cX11_take 117 = .ok (.iload_n 3, 1) := by decide +kernel
theorem dX11_take_118 : decode cX11_take 118 = .ok (.ifCond .le 7, 3) := by decide +kernel
theorem dX11_take_121 : decode cX11_take 121 = .ok (.iconst 1, 1) := by decide +kernel
theorem dX11_take_122 : decode cX11_take 122 = .ok (.goto 4, 3) := by decide +kernel
theorem dX11_take_125 : decode cX11_take 125 = .ok (.iconst 0, 1) := by decide +kernel
theorem dX11_take_126 : decode cX11_take 126 = .ok (.bastore, 1) := by decide +kernel
theorem dX11_take_127 : decode cX11_take 127 = .ok (.iinc 4 1, 3) := by decide +kernel
theorem dX11_take_130 : decode cX11_take 130 = .ok (.goto (-101), 3) := by decide +kernel
theorem dX11_take_133 : decode cX11_take 133 = .ok (.iload_n 2, 1) := by decide +kernel
theorem dX11_take_134 : decode cX11_take 134 = .ok (.iconst 1, 1) := by decide +kernel
theorem dX11_take_135 : decode cX11_take 135 = .ok (.if_icmp .ne 7, 3) := by decide +kernel
theorem dX11_take_138 : decode cX11_take 138 = .ok (.iload_n 3, 1) := by decide +kernel
theorem dX11_take_139 : decode cX11_take 139 = .ok (.goto 12, 3) := by decide +kernel
theorem dX11_take_142 : decode cX11_take 142 = .ok (.iload_n 3, 1) := by decide +kernel
theorem dX11_take_143 : decode cX11_take 143 = .ok (.ifCond .le 7, 3) := by decide +kernel
theorem dX11_take_146 : decode cX11_take 146 = .ok (.iconst 1, 1) := by decide +kernel
theorem dX11_take_147 : decode cX11_take 147 = .ok (.goto 4, 3) := by decide +kernel
theorem dX11_take_150 : decode cX11_take 150 = .ok (.iconst 0, 1) := by decide +kernel
theorem dX11_take_151 : decode cX11_take 151 = .ok (.ireturn, 1) := by decide +kernel
set_option maxRecDepth 20000 in
theorem ggX11_cock_X11_in : GoodIn wsX11_cock wsX11_in := goodIn_r _ [8] (by decide +kernel) (by decide +kernel)
set_option maxRecDepth 20000 in
theorem gX11_cock_X11_in : GoodIn wsX11_cock (va_wsS RX11 61 yX11_in wsX11_in) := goodIn_app (goodIn_of _ (by decide +kernel)) ggX11_cock_X11_in
theorem dX11_cock_0 : decode cX11_cock 0 = .ok (.iload_n 1, 1) := by decide +kernel
theorem dX11_cock_1 : decode cX11_cock 1 = .ok (.iconst 2, 1) := by decide +kernel
theorem dX11_cock_2 : decode cX11_cock 2 = .ok (.bipush 12, 2) := by decide +kernel
theorem dX11_cock_4 : decode cX11_cock 4 = .ok (.invokestatic 61, 3) := by decide +kernel
theorem dX11_cock_7 : decode cX11_cock 7 = .ok (.ifCond .eq 77, 3) := by decide +kernel
theorem dX11_cock_10 : decode cX11_cock 10 = .ok (.iload_n 2, 1) := by decide +kernel
theorem dX11_cock_11 : decode cX11_cock 11 = .ok (.iconst 0, 1) := by decide +kernel
theorem dX11_cock_12 : decode cX11_cock 12 = .ok (.iload_n 1, 1) := by decide +kernel
theorem dX11_cock_13 : decode cX11_cock 13 = .ok (.iconst 1, 1) := by decide +kernel
theorem dX11_cock_14 : decode cX11_cock 14 = .ok (.isub, 1) := by decide +kernel
theorem dX11_cock_15 : decode cX11_cock 15 = .ok (.invokestatic 61, 3) := by decide +kernel
theorem dX11_cock_18 : decode cX11_cock 18 = .ok (.ifCond .eq 66, 3) := by decide +kernel
theorem dX11_cock_21 : decode cX11_cock 21 = .ok (.iload_n 3, 1) := by decide +kernel
theorem dX11_cock_22 : decode cX11_cock 22 = .ok (.iconst 0, 1) := by decide +kernel
theorem dX11_cock_23 : decode cX11_cock 23 = .ok (.bipush 10, 2) := by decide +kernel
theorem dX11_cock_25 : decode cX11_cock 25 = .ok (.invokestatic 61, 3) := by decide +kernel
theorem dX11_cock_28 : decode cX11_cock 28 = .ok (.ifCond .eq 56, 3) := by decide +kernel
theorem dX11_cock_31 : decode cX11_cock 31 = .ok (.iload 4, 2) := by decide +kernel
theorem dX11_cock_33 : decode cX11_cock 33 = .ok (.iconst 0, 1) := by decide +kernel
theorem dX11_cock_34 : decode cX11_cock 34 = .ok (.bipush 10, 2) := by decide +kernel
theorem dX11_cock_36 : decode cX11_cock 36 = .ok (.invokestatic 61, 3) := by decide +kernel
theorem dX11_cock_39 : decode cX11_cock 39 = .ok (.ifCond .eq 45, 3) := by decide +kernel
theorem dX11_cock_42 : decode cX11_cock 42 = .ok (.iload_n 3, 1) := by decide +kernel
theorem dX11_cock_43 : decode cX11_cock 43 = .ok (.iload 4, 2) := by decide +kernel
theorem dX11_cock_45 : decode cX11_cock 45 = .ok (.iadd, 1) := by decide +kernel
theorem dX11_cock_46 : decode cX11_cock 46 = .ok (.bipush 10, 2) := by decide +kernel
theorem dX11_cock_48 : decode cX11_cock 48 = .ok (.if_icmp .gt 36, 3) := by decide +kernel
theorem dX11_cock_51 : decode cX11_cock 51 = .ok (.iload 5, 2) := by decide +kernel
theorem dX11_cock_53 : decode cX11_cock 53 = .ok (.iconst 0, 1) := by decide +kernel
theorem dX11_cock_54 : decode cX11_cock 54 = .ok (.bipush 16, 2) := by decide +kernel
theorem dX11_cock_56 : decode cX11_cock 56 = .ok (.invokestatic 61, 3) := by decide +kernel
theorem dX11_cock_59 : decode cX11_cock 59 = .ok (.ifCond .eq 25, 3) := by decide +kernel
theorem dX11_cock_62 : decode cX11_cock 62 = .ok (.iload 6, 2) := by decide +kernel
theorem dX11_cock_64 : decode cX11_cock 64 = .ok (.iconst 0, 1) := by decide +kernel
theorem dX11_cock_65 : decode cX11_cock 65 = .ok (.iload_n 1, 1) := by decide +kernel
theorem dX11_cock_66 : decode cX11_cock 66 = .ok (.iconst 1, 1) := by decide +kernel
theorem dX11_cock_67 : decode cX11_cock 67 = .ok (.isub, 1) := by decide +kernel
theorem dX11_cock_68 : decode cX11_cock 68 = .ok (.invokestatic 61, 3) := by decide +kernel
theorem dX11_cock_71 : decode cX11_cock 71 = .ok (.ifCond .eq 13, 3) := by decide +kernel
theorem dX11_cock_74 : decode cX11_cock 74 = .ok (.iload 7, 2) := by decide +kernel
theorem dX11_cock_76 : decode cX11_cock 76 = .ok (.iconst 0, 1) := by decide +kernel
theorem dX11_cock_77 : decode cX11_cock 77 = .ok (.iconst 1, 1) := by decide +kernel
theorem dX11_cock_78 : decode cX11_cock 78 = .ok (.invokestatic 61, 3) := by decide +kernel
theorem dX11_cock_81 : decode cX11_cock 81 = .ok (.ifCond .ne 7, 3) := by decide +kernel
theorem dX11_cock_84 : decode cX11_cock 84 = .ok (.ldc2_w 151, 3) := by decide +kernel
theorem dX11_cock_87 : decode cX11_cock 87 = .ok (.lreturn, 1) := by decide +kernel
theorem dX11_cock_88 : decode cX11_cock 88 = .ok (.lconst 1, 1) := by decide +kernel
theorem dX11_cock_89 : decode cX11_cock 89 = .ok (.lstore 8, 2) := by decide +kernel
theorem dX11_cock_91 : decode cX11_cock 91 = .ok (.iconst 0, 1) := by decide +kernel
theorem dX11_cock_92 : decode cX11_cock 92 = .ok (.istore 10, 2) := by decide +kernel
theorem dX11_cock_94 : decode cX11_cock 94 = .ok (.iload 10, 2) := by decide +kernel
theorem dX11_cock_96 : decode cX11_cock 96 = .ok (.bipush 12, 2) := by decide +kernel
theorem dX11_cock_98 : decode cX11_cock 98 = .ok (.if_icmp .ge 27, 3) := by decide +kernel
theorem dX11_cock_101 : decode cX11_cock 101 = .ok (.aload_n 0, 1) := by decide +kernel
theorem dX11_cock_102 : decode cX11_cock 102 = .ok (.getfield 44, 3) := by decide +kernel
theorem dX11_cock_105 : decode cX11_cock 105 = .ok (.iload 10, 2) := by decide +kernel
theorem dX11_cock_107 : decode cX11_cock 107 = .ok (.iload 10, 2) := by decide +kernel
theorem dX11_cock_109 : decode cX11_cock 109 = .ok (.iload_n 2, 1) := by decide +kernel
theorem dX11_cock_110 : decode cX11_cock 110 = .ok (.if_icmp .ne 7, 3) := by decide +kernel
theorem dX11_cock_113 : decode cX11_cock 113 = .ok (.lconst 1, 1) := by decide +kernel
theorem dX11_cock_114 : decode cX11_cock 114 = .ok (.goto 4, 3) := by decide +kernel
theorem dX11_cock_117 : decode cX11_cock 117 = .ok (.lconst 0, 1) := by decide +kernel
theorem dX11_cock_118 : decode cX11_cock 118 = .ok (.lastore, 1) := by decide +kernel
theorem dX11_cock_119 : decode cX11_cock 119 = .ok (.iinc 10 1, 3) := by decide +kernel
theorem dX11_cock_122 : decode cX11_cock 122 = .ok (.goto (-28), 3) := by decide +kernel
theorem dX11_cock_125 : decode cX11_cock 125 = .ok (.iconst 0, 1) := by decide +kernel
theorem dX11_cock_126 : decode cX11_cock 126 = .ok (.istore 10, 2) := by decide +kernel
theorem dX11_cock_128 : decode cX11_cock 128 = .ok (.iload 10, 2) := by decide +kernel
theorem dX11_cock_130 : decode cX11_cock 130 = .ok (.iload 5, 2) := by decide +kernel
theorem dX11_cock_132 : decode cX11_cock 132 = .ok (.if_icmp .ge 117, 3) := by decide +kernel
theorem dX11_cock_135 : decode cX11_cock 135 = .ok (.lload 8, 2) := by decide +kernel
theorem dX11_cock_137 : decode cX11_cock 137 = .ok (.ldc2_w 153, 3) := by decide +kernel
theorem dX11_cock_140 : decode cX11_cock 140 = .ok (.lmul, 1) := by decide +kernel
theorem dX11_cock_141 : decode cX11_cock 141 = .ok (.lstore 8, 2) := by decide +kernel
theorem dX11_cock_143 : decode cX11_cock 143 = .ok (.iconst 0, 1) := by decide +kernel
theorem dX11_cock_144 : decode cX11_cock 144 = .ok (.istore 11, 2) := by decide +kernel
theorem dX11_cock_146 : decode cX11_cock 146 = .ok (.iload 11, 2) := by decide +kernel
theorem dX11_cock_148 : decode cX11_cock 148 = .ok (.iload_n 1, 1) := by decide +kernel
theorem dX11_cock_149 : decode cX11_cock 149 = .ok (.if_icmp .ge 65, 3) := by decide +kernel
theorem dX11_cock_152 : decode cX11_cock 152 = .ok (.aload_n 0, 1) := by decide +kernel
theorem dX11_cock_153 : decode cX11_cock 153 = .ok (.getfield 48, 3) := by decide +kernel
theorem dX11_cock_156 : decode cX11_cock 156 = .ok (.iload 11, 2) := by decide +kernel
theorem dX11_cock_158 : decode cX11_cock 158 = .ok (.aload_n 0, 1) := by decide +kernel
theorem dX11_cock_159 : decode cX11_cock 159 = .ok (.getfield 44, 3) := by decide +kernel
theorem dX11_cock_162 : decode cX11_cock 162 = .ok (.iload 11, 2) := by decide +kernel
theorem dX11_cock_164 : decode cX11_cock 164 = .ok (.iload_n 1, 1) := by decide +kernel
theorem dX11_cock_165 : decode cX11_cock 165 = .ok (.iadd, 1) := by decide +kernel
theorem dX11_cock_166 : decode cX11_cock 166 = .ok (.iconst 1, 1) := by decide +kernel
theorem dX11_cock_167 : decode cX11_cock 167 = .ok (.isub, 1) := by decide +kernel
theorem dX11_cock_168 : decode cX11_cock 168 = .ok (.iload_n 1, 1) := by decide +kernel
theorem dX11_cock_169 : decode cX11_cock 169 = .ok (.irem, 1) := by decide +kernel
theorem dX11_cock_170 : decode cX11_cock 170 = .ok (.laload, 1) := by decide +kernel
theorem dX11_cock_171 : decode cX11_cock 171 = .ok (.iload_n 3, 1) := by decide +kernel
theorem dX11_cock_172 : decode cX11_cock 172 = .ok (.i2l, 1) := by decide +kernel
theorem dX11_cock_173 : decode cX11_cock 173 = .ok (.lmul, 1) := by decide +kernel
theorem dX11_cock_174 : decode cX11_cock 174 = .ok (.aload_n 0, 1) := by decide +kernel
theorem dX11_cock_175 : decode cX11_cock 175 = .ok (.getfield 44, 3) := by decide +kernel
theorem dX11_cock_178 : decode cX11_cock 178 = .ok (.iload 11, 2) := by decide +kernel
theorem dX11_cock_180 : decode cX11_cock 180 = .ok (.iconst 1, 1) := by decide +kernel
theorem dX11_cock_181 : decode cX11_cock 181 = .ok (.iadd, 1) := by decide +kernel
theorem dX11_cock_182 : decode cX11_cock 182 = .ok (.iload_n 1, 1) := by decide +kernel
theorem dX11_cock_183 : decode cX11_cock 183 = .ok (.irem, 1) := by decide +kernel
theorem dX11_cock_184 : decode cX11_cock 184 = .ok (.laload, 1) := by decide +kernel
theorem dX11_cock_185 : decode cX11_cock 185 = .ok (.iload 4, 2) := by decide +kernel
theorem dX11_cock_187 : decode cX11_cock 187 = .ok (.i2l, 1) := by decide +kernel
theorem dX11_cock_188 : decode cX11_cock 188 = .ok (.lmul, 1) := by decide +kernel
theorem dX11_cock_189 : decode cX11_cock 189 = .ok (.ladd, 1) := by decide +kernel
theorem dX11_cock_190 : decode cX11_cock 190 = .ok (.aload_n 0, 1) := by decide +kernel
theorem dX11_cock_191 : decode cX11_cock 191 = .ok (.getfield 44, 3) := by decide +kernel
theorem dX11_cock_194 : decode cX11_cock 194 = .ok (.iload 11, 2) := by decide +kernel
theorem dX11_cock_196 : decode cX11_cock 196 = .ok (.laload, 1) := by decide +kernel
theorem dX11_cock_197 : decode cX11_cock 197 = .ok (.bipush 10, 2) := by decide +kernel
theorem dX11_cock_199 : decode cX11_cock 199 = .ok (.iload_n 3, 1) := by decide +kernel
theorem dX11_cock_200 : decode cX11_cock 200 = .ok (.isub, 1) := by decide +kernel
theorem dX11_cock_201 : decode cX11_cock 201 = .ok (.iload 4, 2) := by decide +kernel
theorem dX11_cock_203 : decode cX11_cock 203 = .ok (.isub, 1) := by decide +kernel
theorem dX11_cock_204 : decode cX11_cock 204 = .ok (.i2l, 1) := by decide +kernel
theorem dX11_cock_205 : decode cX11_cock 205 = .ok (.lmul, 1) := by decide +kernel
theorem dX11_cock_206 : decode cX11_cock 206 = .ok (.ladd, 1) := by decide +kernel
theorem dX11_cock_207 : decode cX11_cock 207 = .ok (.lastore, 1) := by decide +kernel
theorem dX11_cock_208 : decode cX11_cock 208 = .ok (.iinc 11 1, 3) := by decide +kernel
theorem dX11_cock_211 : decode cX11_cock 211 = .ok (.goto (-65), 3) := by decide +kernel
theorem dX11_cock_214 : decode cX11_cock 214 = .ok (.iconst 0, 1) := by decide +kernel
theorem dX11_cock_215 : decode cX11_cock 215 = .ok (.istore 11, 2) := by decide +kernel
theorem dX11_cock_217 : decode cX11_cock 217 = .ok (.iload 11, 2) := by decide +kernel
theorem dX11_cock_219 : decode cX11_cock 219 = .ok (.iload_n 1, 1) := by decide +kernel
theorem dX11_cock_220 : decode cX11_cock 220 = .ok (.if_icmp .ge 23, 3) := by decide +kernel
theorem dX11_cock_223 : decode cX11_cock 223 = .ok (.aload_n 0, 1) := by decide +kernel
theorem dX11_cock_224 : decode cX11_cock 224 = .ok (.getfield 44, 3) := by decide +kernel
theorem dX11_cock_227 : decode cX11_cock 227 = .ok (.iload 11, 2) := by decide +kernel
theorem dX11_cock_229 : decode cX11_cock 229 = .ok (.aload_n 0, 1) := by decide +kernel
theorem dX11_cock_230 : decode cX11_cock 230 = .ok (.getfield 48, 3) := by decide +kernel
theorem dX11_cock_233 : decode cX11_cock 233 = .ok (.iload 11, 2) := by decide +kernel
theorem dX11_cock_235 : decode cX11_cock 235 = .ok (.laload, 1) := by decide +kernel
theorem dX11_cock_236 : decode cX11_cock 236 = .ok (.lastore, 1) := by decide +kernel
theorem dX11_cock_237 : decode cX11_cock 237 = .ok (.iinc 11 1, 3) := by decide +kernel
theorem dX11_cock_240 : decode cX11_cock 240 = .ok (.goto (-23), 3) := by decide +kernel
theorem dX11_cock_243 : decode cX11_cock 243 = .ok (.iinc 10 1, 3) := by decide +kernel
theorem dX11_cock_246 : decode cX11_cock 246 = .ok (.goto (-118), 3) := by decide +kernel
theorem dX11_cock_249 : decode cX11_cock 249 = .ok (.aload_n 0, 1) := by decide +kernel
theorem dX11_cock_250 : decode cX11_cock 250 = .ok (.getfield 44, 3) := by decide +kernel
theorem dX11_cock_253 : decode cX11_cock 253 = .ok (.iload 6, 2) := by decide +kernel
theorem dX11_cock_255 : decode cX11_cock 255 = .ok (.laload, 1) := by decide +kernel
theorem dX11_cock_256 : decode cX11_cock 256 = .ok (.lstore 10, 2) := by decide +kernel
theorem dX11_cock_258 : decode cX11_cock 258 = .ok (.lload 8, 2) := by decide +kernel
theorem dX11_cock_260 : decode cX11_cock 260 = .ok (.lstore 12, 2) := by decide +kernel
theorem dX11_cock_262 : decode cX11_cock 262 = .ok (.lload 12, 2) := by decide +kernel
theorem dX11_cock_264 : decode cX11_cock 264 = .ok (.lconst 0, 1) := by decide +kernel
theorem dX11_cock_265 : decode cX11_cock 265 = .ok (.lcmp, 1) := by decide +kernel
theorem dX11_cock_266 : decode cX11_cock 266 = .ok (.ifCond .eq 21, 3) := by decide +kernel
theorem dX11_cock_269 : decode cX11_cock 269 = .ok (.lload 10, 2) := by decide +kernel
theorem dX11_cock_271 : decode cX11_cock 271 = .ok (.lload 12, 2) := by decide +kernel
theorem dX11_cock_273 : decode cX11_cock 273 = .ok (.lrem, 1) := by decide +kernel
theorem dX11_cock_274 : decode cX11_cock 274 = .ok (.lstore 14, 2) := by decide +kernel
theorem dX11_cock_276 : decode cX11_cock 276 = .ok (.lload 12, 2) := by decide +kernel
theorem dX11_cock_278 : decode cX11_cock 278 = .ok (.lstore 10, 2) := by decide +kernel
theorem dX11_cock_280 : decode cX11_cock 280 = .ok (.lload 14, 2) := by decide +kernel
theorem dX11_cock_282 : decode cX11_cock 282 = .ok (.lstore 12, 2) := by decide +kernel
theorem dX11_cock_284 : decode cX11_cock 284 = .ok (.goto (-22), 3) := by decide +kernel
theorem dX11_cock_287 : decode cX11_cock 287 = .ok (.iload 7, 2) := by decide +kernel
theorem dX11_cock_289 : decode cX11_cock 289 = .ok (.ifCond .ne 16, 3) := by decide +kernel
theorem dX11_cock_292 : decode cX11_cock 292 = .ok (.aload_n 0, 1) := by decide +kernel
theorem dX11_cock_293 : decode cX11_cock 293 = .ok (.getfield 44, 3) := by decide +kernel
theorem dX11_cock_296 : decode cX11_cock 296 = .ok (.iload 6, 2) := by decide +kernel
theorem dX11_cock_298 : decode cX11_cock 298 = .ok (.laload, 1) := by decide +kernel
theorem dX11_cock_299 : decode cX11_cock 299 = .ok (.lload 10, 2) := by decide +kernel
theorem dX11_cock_301 : decode cX11_cock 301 = .ok (.ldiv, 1) := by decide +kernel
theorem dX11_cock_302 : decode cX11_cock 302 = .ok (.goto 8, 3) := by decide +kernel
theorem dX11_cock_305 : decode cX11_cock 305 = .ok (.lload 8, 2) := by decide +kernel
theorem dX11_cock_307 : decode cX11_cock 307 = .ok (.lload 10, 2) := by decide +kernel
theorem dX11_cock_309 : decode cX11_cock 309 = .ok (.ldiv, 1) := by decide +kernel
theorem dX11_cock_310 : decode cX11_cock 310 = .ok (.lreturn, 1) := by decide +kernel
set_option maxRecDepth 20000 in
theorem ggX11_book_X11_in : GoodIn wsX11_book wsX11_in := goodIn_r _ [7] (by decide +kernel) (by decide +kernel)
set_option maxRecDepth 20000 in
theorem gX11_book_X11_in : GoodIn wsX11_book (va_wsS RX11 61 yX11_in wsX11_in) := goodIn_app (goodIn_of _ (by decide +kernel)) ggX11_book_X11_in
set_option maxRecDepth 20000 in
theorem ggX11_book_X11_asNow : GoodIn wsX11_book wsX11_asNow := goodIn_r _ [11, 3, 12, 13, 14, 4, 5, 6, 7, 56, 57, 58, 59, 60, 61, 62, 63, 64, 65, 66, 67, 68, 69, 70, 71, 72, 73, 74, 75, 76, 77, 78] (by decide +kernel) (by decide +kernel)
set_option maxRecDepth 20000 in
theorem gX11_book_X11_asNow : GoodIn wsX11_book (wsV RX11 80 RX11 yX11_asNow wsX11_asNow) := goodIn_app (goodIn_of _ (by decide +kernel)) ggX11_book_X11_asNow
set_option maxRecDepth 20000 in
theorem ggX11_book_X11_turn : GoodIn wsX11_book wsX11_turn := goodIn_r _ [18, 3, 19, 20, 21, 6, 22, 23, 4, 5, 7, 24, 25, 26, 27, 28, 29, 56, 57, 58, 59, 60, 61, 62, 63, 64, 65, 66, 67, 68, 69, 70, 71, 72, 73, 74, 75, 76, 77, 78] (by decide +kernel) (by decide +kernel)
set_option maxRecDepth 20000 in
theorem gX11_book_X11_turn : GoodIn wsX11_book (wsV RX11 99 RX11 yX11_turn wsX11_turn) := goodIn_app (goodIn_of _ (by decide +kernel)) ggX11_book_X11_turn
set_option maxRecDepth 20000 in
theorem ggX11_book_X11_sit : GoodIn wsX11_book wsX11_sit := goodIn_r _ [33, 3, 19, 20, 21, 6, 22, 23, 4, 5, 7, 24, 25, 26, 56, 57, 58, 59, 60, 61, 62, 63, 64, 65, 66, 67, 68, 69, 70, 71, 72, 73, 74, 75, 76, 77, 78] (by decide +kernel) (by decide +kernel)
set_option maxRecDepth 20000 in
theorem gX11_book_X11_sit : GoodIn wsX11_book (wsV RX11 103 RX11 yX11_sit wsX11_sit) := goodIn_app (goodIn_of _ (by decide +kernel)) ggX11_book_X11_sit
set_option maxRecDepth 20000 in
theorem ggX11_book_X11_rise : GoodIn wsX11_book wsX11_rise := goodIn_r _ [37, 3, 19, 20, 21, 6, 22, 23, 4, 5, 7, 24, 25, 26, 56, 57, 58, 59, 60, 61, 62, 63, 64, 65, 66, 67, 68, 69, 70, 71, 72, 73, 74, 75, 76, 77, 78] (by decide +kernel) (by decide +kernel)
set_option maxRecDepth 20000 in
theorem gX11_book_X11_rise : GoodIn wsX11_book (wsV RX11 106 RX11 yX11_rise wsX11_rise) := goodIn_app (goodIn_of _ (by decide +kernel)) ggX11_book_X11_rise
set_option maxRecDepth 20000 in
theorem ggX11_book_X11_endYear : GoodIn wsX11_book wsX11_endYear := goodIn_r _ [41, 3, 42, 43, 27, 28, 6, 29, 19, 20, 21, 22, 23, 4, 5, 7, 24, 25, 26, 56, 57, 58, 59, 60, 61, 62, 63, 64, 65, 66, 67, 68, 69, 70, 71, 72, 73, 74, 75, 76, 77, 78] (by decide +kernel) (by decide +kernel)
set_option maxRecDepth 20000 in
theorem gX11_book_X11_endYear : GoodIn wsX11_book (wsV RX11 116 RX11 yX11_endYear wsX11_endYear) := goodIn_app (goodIn_of _ (by decide +kernel)) ggX11_book_X11_endYear
set_option maxRecDepth 20000 in
theorem ggX11_book_X11_isThere : GoodIn wsX11_book wsX11_isThere := goodIn_r _ [22, 23, 4, 5, 6, 7, 24, 25, 26, 56, 57, 58, 59, 60, 61, 62, 63, 64, 65, 66, 67, 68, 69, 70, 71, 72, 73, 74, 75, 76, 77, 78] (by decide +kernel) (by decide +kernel)
set_option maxRecDepth 20000 in
theorem gX11_book_X11_isThere : GoodIn wsX11_book (wsV RX11 73 RX11 yX11_isThere wsX11_isThere) := goodIn_app (goodIn_of _ (by decide +kernel)) ggX11_book_X11_isThere
set_option maxRecDepth 20000 in
theorem ggX11_book_X11_pairsOf : GoodIn wsX11_book wsX11_pairsOf := goodIn_r _ [47, 3, 19, 20, 21, 6, 22, 23, 4, 5, 7, 24, 25, 26, 56, 57, 58, 59, 60, 61, 62, 63, 64, 65, 66, 67, 68, 69, 70, 71, 72, 73, 74, 75, 76, 77, 78] (by decide +kernel) (by decide +kernel)
set_option maxRecDepth 20000 in
theorem gX11_book_X11_pairsOf : GoodIn wsX11_book (wsV RX11 83 RX11 yX11_pairsOf wsX11_pairsOf) := goodIn_app (goodIn_of _ (by decide +kernel)) ggX11_book_X11_pairsOf
set_option maxRecDepth 20000 in
theorem ggX11_book_X11_layTriangles : GoodIn wsX11_book wsX11_layTriangles := goodIn_r _ [51, 52, 3, 19, 20, 21, 6, 22, 23, 4, 5, 7, 24, 25, 26, 53, 54, 55, 27, 28, 29, 56, 57, 58, 59, 60, 61, 62, 63, 64, 65, 66, 67, 68, 69, 70, 71, 72, 73, 74, 75, 76, 77, 78] (by decide +kernel) (by decide +kernel)
set_option maxRecDepth 20000 in
theorem gX11_book_X11_layTriangles : GoodIn wsX11_book (wsV RX11 138 RX11 yX11_layTriangles wsX11_layTriangles) := goodIn_app (goodIn_of _ (by decide +kernel)) ggX11_book_X11_layTriangles
theorem dX11_book_0 : decode cX11_book 0 = .ok (.iload_n 1, 1) := by decide +kernel
theorem dX11_book_1 : decode cX11_book 1 = .ok (.iconst 0, 1) := by decide +kernel
theorem dX11_book_2 : decode cX11_book 2 = .ok (.sipush 9999, 3) := by decide +kernel
theorem dX11_book_5 : decode cX11_book 5 = .ok (.invokestatic 61, 3) := by decide +kernel
theorem dX11_book_8 : decode cX11_book 8 = .ok (.ifCond .eq 22, 3) := by decide +kernel
theorem dX11_book_11 : decode cX11_book 11 = .ok (.iload_n 2, 1) := by decide +kernel
theorem dX11_book_12 : decode cX11_book 12 = .ok (.iconst 1, 1) := by decide +kernel
theorem dX11_book_13 : decode cX11_book 13 = .ok (.bipush 99, 2) := by decide +kernel
theorem dX11_book_15 : decode cX11_book 15 = .ok (.invokestatic 61, 3) := by decide +kernel
theorem dX11_book_18 : decode cX11_book 18 = .ok (.ifCond .eq 12, 3) := by decide +kernel
theorem dX11_book_21 : decode cX11_book 21 = .ok (.iload_n 3, 1) := by decide +kernel
theorem dX11_book_22 : decode cX11_book 22 = .ok (.iconst 0, 1) := by decide +kernel
theorem dX11_book_23 : decode cX11_book 23 = .ok (.iconst 2, 1) := by decide +kernel
theorem dX11_book_24 : decode cX11_book 24 = .ok (.invokestatic 61, 3) := by decide +kernel
theorem dX11_book_27 : decode cX11_book 27 = .ok (.ifCond .ne 6, 3) := by decide +kernel
theorem dX11_book_30 : decode cX11_book 30 = .ok (.bipush (-2), 2) := by decide +kernel
theorem dX11_book_32 : decode cX11_book 32 = .ok (.ireturn, 1) := by decide +kernel
theorem dX11_book_33 : decode cX11_book 33 = .ok (.aload_n 0, 1) := by decide +kernel
theorem dX11_book_34 : decode cX11_book 34 = .ok (.invokevirtual 80, 3) := by decide +kernel
theorem dX11_book_37 : decode cX11_book 37 = .ok (.iload_n 1, 1) := by decide +kernel
theorem dX11_book_38 : decode cX11_book 38 = .ok (.istore 4, 2) := by decide +kernel
theorem dX11_book_40 : decode cX11_book 40 = .ok (.iconst 0, 1) := by decide +kernel
theorem dX11_book_41 : decode cX11_book 41 = .ok (.istore 5, 2) := by decide +kernel
theorem dX11_book_43 : decode cX11_book 43 = .ok (.iload 5, 2) := by decide +kernel
theorem dX11_book_45 : decode cX11_book 45 = .ok (.iload_n 2, 1) := by decide +kernel
theorem dX11_book_46 : decode cX11_book 46 = .ok (.if_icmp .ge 149, 3) := by decide +kernel
theorem dX11_book_49 : decode cX11_book 49 = .ok (.bipush 75, 2) := by decide +kernel
theorem dX11_book_51 : decode cX11_book 51 = .ok (.iload 4, 2) := by decide +kernel
theorem dX11_book_53 : decode cX11_book 53 = .ok (.imul, 1) := by decide +kernel
theorem dX11_book_54 : decode cX11_book 54 = .ok (.bipush 74, 2) := by decide +kernel
theorem dX11_book_56 : decode cX11_book 56 = .ok (.iadd, 1) := by decide +kernel
theorem dX11_book_57 : decode cX11_book 57 = .ok (.ldc 155, 2) := by decide +kernel
theorem dX11_book_59 : decode cX11_book 59 = .ok (.irem, 1) := by decide +kernel
theorem dX11_book_60 : decode cX11_book 60 = .ok (.istore 4, 2) := by decide +kernel
theorem dX11_book_62 : decode cX11_book 62 = .ok (.iload 4, 2) := by decide +kernel
theorem dX11_book_64 : decode cX11_book 64 = .ok (.bipush 9, 2) := by decide +kernel
theorem dX11_book_66 : decode cX11_book 66 = .ok (.irem, 1) := by decide +kernel
theorem dX11_book_67 : decode cX11_book 67 = .ok (.istore 6, 2) := by decide +kernel
theorem dX11_book_69 : decode cX11_book 69 = .ok (.iload 4, 2) := by decide +kernel
theorem dX11_book_71 : decode cX11_book 71 = .ok (.bipush 9, 2) := by decide +kernel
theorem dX11_book_73 : decode cX11_book 73 = .ok (.idiv, 1) := by decide +kernel
theorem dX11_book_74 : decode cX11_book 74 = .ok (.bipush 8, 2) := by decide +kernel
theorem dX11_book_76 : decode cX11_book 76 = .ok (.irem, 1) := by decide +kernel
theorem dX11_book_77 : decode cX11_book 77 = .ok (.istore 7, 2) := by decide +kernel
theorem dX11_book_79 : decode cX11_book 79 = .ok (.iload 4, 2) := by decide +kernel
theorem dX11_book_81 : decode cX11_book 81 = .ok (.bipush 72, 2) := by decide +kernel
theorem dX11_book_83 : decode cX11_book 83 = .ok (.idiv, 1) := by decide +kernel
theorem dX11_book_84 : decode cX11_book 84 = .ok (.istore 8, 2) := by decide +kernel
theorem dX11_book_86 : decode cX11_book 86 = .ok (.iload 7, 2) := by decide +kernel
theorem dX11_book_88 : decode cX11_book 88 = .ok (.iconst 2, 1) := by decide +kernel
theorem dX11_book_89 : decode cX11_book 89 = .ok (.if_icmp .ge 23, 3) := by decide +kernel
theorem dX11_book_92 : decode cX11_book 92 = .ok (.aload_n 0, 1) := by decide +kernel
theorem dX11_book_93 : decode cX11_book 93 = .ok (.aload_n 0, 1) := by decide +kernel
theorem dX11_book_94 : decode cX11_book 94 = .ok (.iload 6, 2) := by decide +kernel
theorem dX11_book_96 : decode cX11_book 96 = .ok (.iconst 1, 1) := by decide +kernel
theorem dX11_book_97 : decode cX11_book 97 = .ok (.iload 8, 2) := by decide +kernel
theorem dX11_book_99 : decode cX11_book 99 = .ok (.bipush 9, 2) := by decide +kernel
theorem dX11_book_101 : decode cX11_book 101 = .ok (.irem, 1) := by decide +kernel
theorem dX11_book_102 : decode cX11_book 102 = .ok (.iadd, 1) := by decide +kernel
theorem dX11_book_103 : decode cX11_book 103 = .ok (.invokevirtual 99, 3) := by decide +kernel
theorem dX11_book_106 : decode cX11_book 106 = .ok (.putfield 119, 3) := by decide +kernel
theorem dX11_book_109 : decode cX11_book 109 = .ok (.goto 80, 3) := by decide +kernel
theorem dX11_book_112 : decode cX11_book 112 = .ok (.iload 7, 2) := by decide +kernel
theorem dX11_book_114 : decode cX11_book 114 = .ok (.iconst 2, 1) := by decide +kernel
theorem dX11_book_115 : decode cX11_book 115 = .ok (.if_icmp .ne 23, 3) := by decide +kernel
theorem dX11_book_118 : decode cX11_book 118 = .ok (.aload_n 0, 1) := by decide +kernel
theorem dX11_book_119 : decode cX11_book 119 = .ok (.aload_n 0, 1) := by decide +kernel
theorem dX11_book_120 : decode cX11_book 120 = .ok (.iload 6, 2) := by decide +kernel
theorem dX11_book_122 : decode cX11_book 122 = .ok (.iconst (-1), 1) := by decide +kernel
theorem dX11_book_123 : decode cX11_book 123 = .ok (.iload 8, 2) := by decide +kernel
theorem dX11_book_125 : decode cX11_book 125 = .ok (.bipush 9, 2) := by decide +kernel
theorem dX11_book_127 : decode cX11_book 127 = .ok (.irem, 1) := by decide +kernel
theorem dX11_book_128 : decode cX11_book 128 = .ok (.isub, 1) := by decide +kernel
theorem dX11_book_129 : decode cX11_book 129 = .ok (.invokevirtual 99, 3) := by decide +kernel
theorem dX11_book_132 : decode cX11_book 132 = .ok (.putfield 119, 3) := by decide +kernel
theorem dX11_book_135 : decode cX11_book 135 = .ok (.goto 54, 3) := by decide +kernel
theorem dX11_book_138 : decode cX11_book 138 = .ok (.iload 7, 2) := by decide +kernel
theorem dX11_book_140 : decode cX11_book 140 = .ok (.iconst 3, 1) := by decide +kernel
theorem dX11_book_141 : decode cX11_book 141 = .ok (.if_icmp .ne 21, 3) := by decide +kernel
theorem dX11_book_144 : decode cX11_book 144 = .ok (.aload_n 0, 1) := by decide +kernel
theorem dX11_book_145 : decode cX11_book 145 = .ok (.aload_n 0, 1) := by decide +kernel
theorem dX11_book_146 : decode cX11_book 146 = .ok (.iload 6, 2) := by decide +kernel
theorem dX11_book_148 : decode cX11_book 148 = .ok (.iload 8, 2) := by decide +kernel
theorem dX11_book_150 : decode cX11_book 150 = .ok (.bipush 9, 2) := by decide +kernel
theorem dX11_book_152 : decode cX11_book 152 = .ok (.irem, 1) := by decide +kernel
theorem dX11_book_153 : decode cX11_book 153 = .ok (.invokevirtual 103, 3) := by decide +kernel
theorem dX11_book_156 : decode cX11_book 156 = .ok (.putfield 119, 3) := by decide +kernel
theorem dX11_book_159 : decode cX11_book 159 = .ok (.goto 30, 3) := by decide +kernel
theorem dX11_book_162 : decode cX11_book 162 = .ok (.iload 7, 2) := by decide +kernel
theorem dX11_book_164 : decode cX11_book 164 = .ok (.iconst 4, 1) := by decide +kernel
theorem dX11_book_165 : decode cX11_book 165 = .ok (.if_icmp .ne 16, 3) := by decide +kernel
theorem dX11_book_168 : decode cX11_book 168 = .ok (.aload_n 0, 1) := by decide +kernel
theorem dX11_book_169 : decode cX11_book 169 = .ok (.aload_n 0, 1) := by decide +kernel
theorem dX11_book_170 : decode cX11_book 170 = .ok (.iload 6, 2) := by decide +kernel
theorem dX11_book_172 : decode cX11_book 172 = .ok (.invokevirtual 106, 3) := by decide +kernel
theorem dX11_book_175 : decode cX11_book 175 = .ok (.putfield 119, 3) := by decide +kernel
theorem dX11_book_178 : decode cX11_book 178 = .ok (.goto 11, 3) := by decide +kernel
theorem dX11_book_181 : decode cX11_book 181 = .ok (.aload_n 0, 1) := by decide +kernel
theorem dX11_book_182 : decode cX11_book 182 = .ok (.aload_n 0, 1) := by decide +kernel
theorem dX11_book_183 : decode cX11_book 183 = .ok (.invokevirtual 116, 3) := by decide +kernel
theorem dX11_book_186 : decode cX11_book 186 = .ok (.putfield 119, 3) := by decide +kernel
theorem dX11_book_189 : decode cX11_book 189 = .ok (.iinc 5 1, 3) := by decide +kernel
theorem dX11_book_192 : decode cX11_book 192 = .ok (.goto (-149), 3) := by decide +kernel
theorem dX11_book_195 : decode cX11_book 195 = .ok (.iconst 0, 1) := by decide +kernel
theorem dX11_book_196 : decode cX11_book 196 = .ok (.istore 5, 2) := by decide +kernel
theorem dX11_book_198 : decode cX11_book 198 = .ok (.iconst 0, 1) := by decide +kernel
theorem dX11_book_199 : decode cX11_book 199 = .ok (.istore 6, 2) := by decide +kernel
theorem dX11_book_201 : decode cX11_book 201 = .ok (.iload 6, 2) := by decide +kernel
theorem dX11_book_203 : decode cX11_book 203 = .ok (.bipush 9, 2) := by decide +kernel
theorem dX11_book_205 : decode cX11_book 205 = .ok (.if_icmp .ge 34, 3) := by decide +kernel
theorem dX11_book_208 : decode cX11_book 208 = .ok (.iload 5, 2) := by decide +kernel
theorem dX11_book_210 : decode cX11_book 210 = .ok (.aload_n 0, 1) := by decide +kernel
theorem dX11_book_211 : decode cX11_book 211 = .ok (.iload 6, 2) := by decide +kernel
theorem dX11_book_213 : decode cX11_book 213 = .ok (.invokevirtual 73, 3) := by decide +kernel
theorem dX11_book_216 : decode cX11_book 216 = .ok (.ifCond .eq 13, 3) := by decide +kernel
theorem dX11_book_219 : decode cX11_book 219 = .ok (.aload_n 0, 1) := by decide +kernel
theorem dX11_book_220 : decode cX11_book 220 = .ok (.getfield 13, 3) := by decide +kernel
theorem dX11_book_223 : decode cX11_book 223 = .ok (.iload 6, 2) := by decide +kernel
theorem dX11_book_225 : decode cX11_book 225 = .ok (.iaload, 1) := by decide +kernel
theorem dX11_book_226 : decode cX11_book 226 = .ok (.goto 4, 3) := by decide +kernel
theorem dX11_book_229 : decode cX11_book 229 = .ok (.iconst 0, 1) := by decide +kernel
theorem dX11_book_230 : decode cX11_book 230 = .ok (.iadd, 1) := by decide +kernel
theorem dX11_book_231 : decode cX11_book 231 = .ok (.istore 5, 2) := by decide +kernel
theorem dX11_book_233 : decode cX11_book 233 = .ok (.iinc 6 1, 3) := by decide +kernel
theorem dX11_book_236 : decode cX11_book 236 = .ok (.goto (-35), 3) := by decide +kernel
theorem dX11_book_239 : decode cX11_book 239 = .ok (.iload_n 3, 1) := by decide +kernel
theorem dX11_book_240 : decode cX11_book 240 = .ok (.ifCond .ne 8, 3) := by decide +kernel
theorem dX11_book_243 : decode cX11_book 243 = .ok (.iload 5, 2) := by decide +kernel
theorem dX11_book_245 : decode cX11_book 245 = .ok (.goto 19, 3) := by decide +kernel
theorem dX11_book_248 : decode cX11_book 248 = .ok (.iload_n 3, 1) := by decide +kernel
theorem dX11_book_249 : decode cX11_book 249 = .ok (.iconst 1, 1) := by decide +kernel
theorem dX11_book_250 : decode cX11_book 250 = .ok (.if_icmp .ne 10, 3) := by decide +kernel
theorem dX11_book_253 : decode cX11_book 253 = .ok (.aload_n 0, 1) := by decide +kernel
theorem dX11_book_254 : decode cX11_book 254 = .ok (.invokevirtual 83, 3) := by decide +kernel
theorem dX11_book_257 : decode cX11_book 257 = .ok (.goto 7, 3) := by decide +kernel
theorem dX11_book_260 : decode cX11_book 260 = .ok (.aload_n 0, 1) := by decide +kernel
theorem dX11_book_261 : decode cX11_book 261 = .ok (.invokevirtual 138, 3) := by decide +kernel
theorem dX11_book_264 : decode cX11_book 264 = .ok (.ireturn, 1) := by decide +kernel
set_option maxRecDepth 20000 in
theorem ggX11_image_X11_in : GoodIn wsX11_image wsX11_in := goodIn_r _ [11] (by decide +kernel) (by decide +kernel)
set_option maxRecDepth 20000 in
theorem gX11_image_X11_in : GoodIn wsX11_image (va_wsS RX11 61 yX11_in wsX11_in) := goodIn_app (goodIn_of _ (by decide +kernel)) ggX11_image_X11_in
theorem dX11_image_0 : decode cX11_image 0 = .ok (.iload_n 1, 1) := by decide +kernel
theorem dX11_image_1 : decode cX11_image 1 = .ok (.iconst 0, 1) := by decide +kernel
theorem dX11_image_2 : decode cX11_image 2 = .ok (.iconst 1, 1) := by decide +kernel
theorem dX11_image_3 : decode cX11_image 3 = .ok (.invokestatic 61, 3) := by decide +kernel
theorem dX11_image_6 : decode cX11_image 6 = .ok (.ifCond .ne 6, 3) := by decide +kernel
theorem dX11_image_9 : decode cX11_image 9 = .ok (.bipush (-2), 2) := by decide +kernel
theorem dX11_image_11 : decode cX11_image 11 = .ok (.ireturn, 1) := by decide +kernel
theorem dX11_image_12 : decode cX11_image 12 = .ok (.bipush 60, 2) := by decide +kernel
theorem dX11_image_14 : decode cX11_image 14 = .ok (.iload_n 1, 1) := by decide +kernel
theorem dX11_image_15 : decode cX11_image 15 = .ok (.imul, 1) := by decide +kernel
theorem dX11_image_16 : decode cX11_image 16 = .ok (.istore_n 2, 1) := by decide +kernel
theorem dX11_image_17 : decode cX11_image 17 = .ok (.iconst 0, 1) := by decide +kernel
theorem dX11_image_18 : decode cX11_image 18 = .ok (.istore_n 3, 1) := by decide +kernel
theorem dX11_image_19 : decode cX11_image 19 = .ok (.iload_n 3, 1) := by decide +kernel
theorem dX11_image_20 : decode cX11_image 20 = .ok (.bipush 29, 2) := by decide +kernel
theorem dX11_image_22 : decode cX11_image 22 = .ok (.if_icmp .ge 23, 3) := by decide +kernel
theorem dX11_image_25 : decode cX11_image 25 = .ok (.aload_n 0, 1) := by decide +kernel
theorem dX11_image_26 : decode cX11_image 26 = .ok (.getfield 51, 3) := by decide +kernel
theorem dX11_image_29 : decode cX11_image 29 = .ok (.iload_n 2, 1) := by decide +kernel
theorem dX11_image_30 : decode cX11_image 30 = .ok (.iload_n 3, 1) := by decide +kernel
theorem dX11_image_31 : decode cX11_image 31 = .ok (.iadd, 1) := by decide +kernel
theorem dX11_image_32 : decode cX11_image 32 = .ok (.aload_n 0, 1) := by decide +kernel
theorem dX11_image_33 : decode cX11_image 33 = .ok (.getfield 7, 3) := by decide +kernel
theorem dX11_image_36 : decode cX11_image 36 = .ok (.iload_n 3, 1) := by decide +kernel
theorem dX11_image_37 : decode cX11_image 37 = .ok (.iaload, 1) := by decide +kernel
theorem dX11_image_38 : decode cX11_image 38 = .ok (.iastore, 1) := by decide +kernel
theorem dX11_image_39 : decode cX11_image 39 = .ok (.iinc 3 1, 3) := by decide +kernel
theorem dX11_image_42 : decode cX11_image 42 = .ok (.goto (-23), 3) := by decide +kernel
theorem dX11_image_45 : decode cX11_image 45 = .ok (.iconst 0, 1) := by decide +kernel
theorem dX11_image_46 : decode cX11_image 46 = .ok (.istore_n 3, 1) := by decide +kernel
theorem dX11_image_47 : decode cX11_image 47 = .ok (.iload_n 3, 1) := by decide +kernel
theorem dX11_image_48 : decode cX11_image 48 = .ok (.bipush 9, 2) := by decide +kernel
theorem dX11_image_50 : decode cX11_image 50 = .ok (.if_icmp .ge 26, 3) := by decide +kernel
theorem dX11_image_53 : decode cX11_image 53 = .ok (.aload_n 0, 1) := by decide +kernel
theorem dX11_image_54 : decode cX11_image 54 = .ok (.getfield 51, 3) := by decide +kernel
theorem dX11_image_57 : decode cX11_image 57 = .ok (.iload_n 2, 1) := by decide +kernel
theorem dX11_image_58 : decode cX11_image 58 = .ok (.bipush 29, 2) := by decide +kernel
theorem dX11_image_60 : decode cX11_image 60 = .ok (.iadd, 1) := by decide +kernel
theorem dX11_image_61 : decode cX11_image 61 = .ok (.iload_n 3, 1) := by decide +kernel
theorem dX11_image_62 : decode cX11_image 62 = .ok (.iadd, 1) := by decide +kernel
theorem dX11_image_63 : decode cX11_image 63 = .ok (.aload_n 0, 1) := by decide +kernel
theorem dX11_image_64 : decode cX11_image 64 = .ok (.getfield 19, 3) := by decide +kernel
theorem dX11_image_67 : decode cX11_image 67 = .ok (.iload_n 3, 1) := by decide +kernel
theorem dX11_image_68 : decode cX11_image 68 = .ok (.iaload, 1) := by decide +kernel
theorem dX11_image_69 : decode cX11_image 69 = .ok (.iastore, 1) := by decide +kernel
theorem dX11_image_70 : decode cX11_image 70 = .ok (.iinc 3 1, 3) := by decide +kernel
theorem dX11_image_73 : decode cX11_image 73 = .ok (.goto (-26), 3) := by decide +kernel
theorem dX11_image_76 : decode cX11_image 76 = .ok (.iconst 0, 1) := by decide +kernel
theorem dX11_image_77 : decode cX11_image 77 = .ok (.istore_n 3, 1) := by decide +kernel
theorem dX11_image_78 : decode cX11_image 78 = .ok (.iload_n 3, 1) := by decide +kernel
theorem dX11_image_79 : decode cX11_image 79 = .ok (.bipush 16, 2) := by decide +kernel
theorem dX11_image_81 : decode cX11_image 81 = .ok (.if_icmp .ge 26, 3) := by decide +kernel
theorem dX11_image_84 : decode cX11_image 84 = .ok (.aload_n 0, 1) := by decide +kernel
theorem dX11_image_85 : decode cX11_image 85 = .ok (.getfield 51, 3) := by decide +kernel
theorem dX11_image_88 : decode cX11_image 88 = .ok (.iload_n 2, 1) := by decide +kernel
theorem dX11_image_89 : decode cX11_image 89 = .ok (.bipush 38, 2) := by decide +kernel
theorem dX11_image_91 : decode cX11_image 91 = .ok (.iadd, 1) := by decide +kernel
theorem dX11_image_92 : decode cX11_image 92 = .ok (.iload_n 3, 1) := by decide +kernel
theorem dX11_image_93 : decode cX11_image 93 = .ok (.iadd, 1) := by decide +kernel
theorem dX11_image_94 : decode cX11_image 94 = .ok (.aload_n 0, 1) := by decide +kernel
theorem dX11_image_95 : decode cX11_image 95 = .ok (.getfield 22, 3) := by decide +kernel
theorem dX11_image_98 : decode cX11_image 98 = .ok (.iload_n 3, 1) := by decide +kernel
theorem dX11_image_99 : decode cX11_image 99 = .ok (.iaload, 1) := by decide +kernel
theorem dX11_image_100 : decode cX11_image 100 = .ok (.iastore, 1) := by decide +kernel
theorem dX11_image_101 : decode cX11_image 101 = .ok (.iinc 3 1, 3) := by decide +kernel
theorem dX11_image_104 : decode cX11_image 104 = .ok (.goto (-26), 3) := by decide +kernel
theorem dX11_image_107 : decode cX11_image 107 = .ok (.aload_n 0, 1) := by decide +kernel
theorem dX11_image_108 : decode cX11_image 108 = .ok (.getfield 51, 3) := by decide +kernel
theorem dX11_image_111 : decode cX11_image 111 = .ok (.iload_n 2, 1) := by decide +kernel
theorem dX11_image_112 : decode cX11_image 112 = .ok (.bipush 55, 2) := by decide +kernel
theorem dX11_image_114 : decode cX11_image 114 = .ok (.iadd, 1) := by decide +kernel
theorem dX11_image_115 : decode cX11_image 115 = .ok (.aload_n 0, 1) := by decide +kernel
theorem dX11_image_116 : decode cX11_image 116 = .ok (.getfield 65, 3) := by decide +kernel
theorem dX11_image_119 : decode cX11_image 119 = .ok (.iastore, 1) := by decide +kernel
theorem dX11_image_120 : decode cX11_image 120 = .ok (.aload_n 0, 1) := by decide +kernel
theorem dX11_image_121 : decode cX11_image 121 = .ok (.getfield 51, 3) := by decide +kernel
theorem dX11_image_124 : decode cX11_image 124 = .ok (.iload_n 2, 1) := by decide +kernel
theorem dX11_image_125 : decode cX11_image 125 = .ok (.bipush 56, 2) := by decide +kernel
theorem dX11_image_127 : decode cX11_image 127 = .ok (.iadd, 1) := by decide +kernel
theorem dX11_image_128 : decode cX11_image 128 = .ok (.aload_n 0, 1) := by decide +kernel
theorem dX11_image_129 : decode cX11_image 129 = .ok (.getfield 142, 3) := by decide +kernel
theorem dX11_image_132 : decode cX11_image 132 = .ok (.iastore, 1) := by decide +kernel
theorem dX11_image_133 : decode cX11_image 133 = .ok (.aload_n 0, 1) := by decide +kernel
theorem dX11_image_134 : decode cX11_image 134 = .ok (.getfield 54, 3) := by decide +kernel
theorem dX11_image_137 : decode cX11_image 137 = .ok (.iload_n 1, 1) := by decide +kernel
theorem dX11_image_138 : decode cX11_image 138 = .ok (.iconst 1, 1) := by decide +kernel
theorem dX11_image_139 : decode cX11_image 139 = .ok (.bastore, 1) := by decide +kernel
theorem dX11_image_140 : decode cX11_image 140 = .ok (.iconst 1, 1) := by decide +kernel
theorem dX11_image_141 : decode cX11_image 141 = .ok (.ireturn, 1) := by decide +kernel
set_option maxRecDepth 20000 in
theorem ggX11_restore_X11_in : GoodIn wsX11_restore wsX11_in := goodIn_r _ [11] (by decide +kernel) (by decide +kernel)
set_option maxRecDepth 20000 in
theorem gX11_restore_X11_in : GoodIn wsX11_restore (va_wsS RX11 61 yX11_in wsX11_in) := goodIn_app (goodIn_of _ (by decide +kernel)) ggX11_restore_X11_in
theorem dX11_restore_0 : decode cX11_restore 0 = .ok (.iload_n 1, 1) := by decide +kernel
theorem dX11_restore_1 : decode cX11_restore 1 = .ok (.iconst 0, 1) := by decide +kernel
theorem dX11_restore_2 : decode cX11_restore 2 = .ok (.iconst 1, 1) := by decide +kernel
theorem dX11_restore_3 : decode cX11_restore 3 = .ok (.invokestatic 61, 3) := by decide +kernel
theorem dX11_restore_6 : decode cX11_restore 6 = .ok (.ifCond .ne 6, 3) := by decide +kernel
theorem dX11_restore_9 : decode cX11_restore 9 = .ok (.bipush (-2), 2) := by decide +kernel
theorem dX11_restore_11 : decode cX11_restore 11 = .ok (.ireturn, 1) := by decide +kernel
theorem dX11_restore_12 : decode cX11_restore 12 = .ok (.aload_n 0, 1) := by decide +kernel
theorem dX11_restore_13 : decode cX11_restore 13 = .ok (.getfield 54, 3) := by decide +kernel
theorem dX11_restore_16 : decode cX11_restore 16 = .ok (.iload_n 1, 1) := by decide +kernel
theorem dX11_restore_17 : decode cX11_restore 17 = .ok (.baload, 1) := by decide +kernel
theorem dX11_restore_18 : decode cX11_restore 18 = .ok (.ifCond .ne 6, 3) := by decide +kernel
theorem dX11_restore_21 : decode cX11_restore 21 = .ok (.bipush (-3), 2) := by decide +kernel
theorem dX11_restore_23 : decode cX11_restore 23 = .ok (.ireturn, 1) := by decide +kernel
theorem dX11_restore_24 : decode cX11_restore 24 = .ok (.bipush 60, 2) := by decide +kernel
theorem dX11_restore_26 : decode cX11_restore 26 = .ok (.iload_n 1, 1) := by decide +kernel
theorem dX11_restore_27 : decode cX11_restore 27 = .ok (.imul, 1) := by decide +kernel
theorem dX11_restore_28 : decode cX11_restore 28 = .ok (.istore_n 2, 1) := by decide +kernel
theorem dX11_restore_29 : decode cX11_restore 29 = .ok (.iconst 0, 1) := by decide +kernel
theorem dX11_restore_30 : decode cX11_restore 30 = .ok (.istore_n 3, 1) := by decide +kernel
theorem dX11_restore_31 : decode cX11_restore 31 = .ok (.iload_n 3, 1) := by decide +kernel
theorem dX11_restore_32 : decode cX11_restore 32 = .ok (.bipush 29, 2) := by decide +kernel
theorem dX11_restore_34 : decode cX11_restore 34 = .ok (.if_icmp .ge 23, 3) := by decide +kernel
theorem dX11_restore_37 : decode cX11_restore 37 = .ok (.aload_n 0, 1) := by decide +kernel
theorem dX11_restore_38 : decode cX11_restore 38 = .ok (.getfield 7, 3) := by decide +kernel
theorem dX11_restore_41 : decode cX11_restore 41 = .ok (.iload_n 3, 1) := by decide +kernel
theorem dX11_restore_42 : decode cX11_restore 42 = .ok (.aload_n 0, 1) := by decide +kernel
theorem dX11_restore_43 : decode cX11_restore 43 = .ok (.getfield 51, 3) := by decide +kernel
theorem dX11_restore_46 : decode cX11_restore 46 = .ok (.iload_n 2, 1) := by decide +kernel
theorem dX11_restore_47 : decode cX11_restore 47 = .ok (.iload_n 3, 1) := by decide +kernel
theorem dX11_restore_48 : decode cX11_restore 48 = .ok (.iadd, 1) := by decide +kernel
theorem dX11_restore_49 : decode cX11_restore 49 = .ok (.iaload, 1) := by decide +kernel
theorem dX11_restore_50 : decode cX11_restore 50 = .ok (.iastore, 1) := by decide +kernel
theorem dX11_restore_51 : decode cX11_restore 51 = .ok (.iinc 3 1, 3) := by decide +kernel
theorem dX11_restore_54 : decode cX11_restore 54 = .ok (.goto (-23), 3) := by decide +kernel
theorem dX11_restore_57 : decode cX11_restore 57 = .ok (.iconst 0, 1) := by decide +kernel
theorem dX11_restore_58 : decode cX11_restore 58 = .ok (.istore_n 3, 1) := by decide +kernel
theorem dX11_restore_59 : decode cX11_restore 59 = .ok (.iload_n 3, 1) := by decide +kernel
theorem dX11_restore_60 : decode cX11_restore 60 = .ok (.bipush 9, 2) := by decide +kernel
theorem dX11_restore_62 : decode cX11_restore 62 = .ok (.if_icmp .ge 26, 3) := by decide +kernel
theorem dX11_restore_65 : decode cX11_restore 65 = .ok (.aload_n 0, 1) := by decide +kernel
theorem dX11_restore_66 : decode cX11_restore 66 = .ok (.getfield 19, 3) := by decide +kernel
theorem dX11_restore_69 : decode cX11_restore 69 = .ok (.iload_n 3, 1) := by decide +kernel
theorem dX11_restore_70 : decode cX11_restore 70 = .ok (.aload_n 0, 1) := by decide +kernel
theorem dX11_restore_71 : decode cX11_restore 71 = .ok (.getfield 51, 3) := by decide +kernel
theorem dX11_restore_74 : decode cX11_restore 74 = .ok (.iload_n 2, 1) := by decide +kernel
theorem dX11_restore_75 : decode cX11_restore 75 = .ok (.bipush 29, 2) := by decide +kernel
theorem dX11_restore_77 : decode cX11_restore 77 = .ok (.iadd, 1) := by decide +kernel
theorem dX11_restore_78 : decode cX11_restore 78 = .ok (.iload_n 3, 1) := by decide +kernel
theorem dX11_restore_79 : decode cX11_restore 79 = .ok (.iadd, 1) := by decide +kernel
theorem dX11_restore_80 : decode cX11_restore 80 = .ok (.iaload, 1) := by decide +kernel
theorem dX11_restore_81 : decode cX11_restore 81 = .ok (.iastore, 1) := by decide +kernel
theorem dX11_restore_82 : decode cX11_restore 82 = .ok (.iinc 3 1, 3) := by decide +kernel
theorem dX11_restore_85 : decode cX11_restore 85 = .ok (.goto (-26), 3) := by decide +kernel
theorem dX11_restore_88 : decode cX11_restore 88 = .ok (.iconst 0, 1) := by decide +kernel
theorem dX11_restore_89 : decode cX11_restore 89 = .ok (.istore_n 3, 1) := by decide +kernel
theorem dX11_restore_90 : decode cX11_restore 90 = .ok (.iload_n 3, 1) := by decide +kernel
theorem dX11_restore_91 : decode cX11_restore 91 = .ok (.bipush 16, 2) := by decide +kernel
theorem dX11_restore_93 : decode cX11_restore 93 = .ok (.if_icmp .ge 26, 3) := by decide +kernel
theorem dX11_restore_96 : decode cX11_restore 96 = .ok (.aload_n 0, 1) := by decide +kernel
theorem dX11_restore_97 : decode cX11_restore 97 = .ok (.getfield 22, 3) := by decide +kernel
theorem dX11_restore_100 : decode cX11_restore 100 = .ok (.iload_n 3, 1) := by decide +kernel
theorem dX11_restore_101 : decode cX11_restore 101 = .ok (.aload_n 0, 1) := by decide +kernel
theorem dX11_restore_102 : decode cX11_restore 102 = .ok (.getfield 51, 3) := by decide +kernel
theorem dX11_restore_105 : decode cX11_restore 105 = .ok (.iload_n 2, 1) := by decide +kernel
theorem dX11_restore_106 : decode cX11_restore 106 = .ok (.bipush 38, 2) := by decide +kernel
theorem dX11_restore_108 : decode cX11_restore 108 = .ok (.iadd, 1) := by decide +kernel
theorem dX11_restore_109 : decode cX11_restore 109 = .ok (.iload_n 3, 1) := by decide +kernel
theorem dX11_restore_110 : decode cX11_restore 110 = .ok (.iadd, 1) := by decide +kernel
theorem dX11_restore_111 : decode cX11_restore 111 = .ok (.iaload, 1) := by decide +kernel
theorem dX11_restore_112 : decode cX11_restore 112 = .ok (.iastore, 1) := by decide +kernel
theorem dX11_restore_113 : decode cX11_restore 113 = .ok (.iinc 3 1, 3) := by decide +kernel
theorem dX11_restore_116 : decode cX11_restore 116 = .ok (.goto (-26), 3) := by decide +kernel
theorem dX11_restore_119 : decode cX11_restore 119 = .ok (.aload_n 0, 1) := by decide +kernel
theorem dX11_restore_120 : decode cX11_restore 120 = .ok (.aload_n 0, 1) := by decide +kernel
theorem dX11_restore_121 : decode cX11_restore 121 = .ok (.getfield 51, 3) := by decide +kernel
theorem dX11_restore_124 : decode cX11_restore 124 = .ok (.iload_n 2, 1) := by decide +kernel
theorem dX11_restore_125 : decode cX11_restore 125 = .ok (.bipush 55, 2) := by decide +kernel
theorem dX11_restore_127 : decode cX11_restore 127 = .ok (.iadd, 1) := by decide +kernel
theorem dX11_restore_128 : decode cX11_restore 128 = .ok (.iaload, 1) := by decide +kernel
theorem dX11_restore_129 : decode cX11_restore 129 = .ok (.putfield 65, 3) := by decide +kernel
theorem dX11_restore_132 : decode cX11_restore 132 = .ok (.aload_n 0, 1) := by decide +kernel
theorem dX11_restore_133 : decode cX11_restore 133 = .ok (.aload_n 0, 1) := by decide +kernel
theorem dX11_restore_134 : decode cX11_restore 134 = .ok (.getfield 51, 3) := by decide +kernel
theorem dX11_restore_137 : decode cX11_restore 137 = .ok (.iload_n 2, 1) := by decide +kernel
theorem dX11_restore_138 : decode cX11_restore 138 = .ok (.bipush 56, 2) := by decide +kernel
theorem dX11_restore_140 : decode cX11_restore 140 = .ok (.iadd, 1) := by decide +kernel
theorem dX11_restore_141 : decode cX11_restore 141 = .ok (.iaload, 1) := by decide +kernel
theorem dX11_restore_142 : decode cX11_restore 142 = .ok (.putfield 142, 3) := by decide +kernel
theorem dX11_restore_145 : decode cX11_restore 145 = .ok (.iconst 1, 1) := by decide +kernel
theorem dX11_restore_146 : decode cX11_restore 146 = .ok (.ireturn, 1) := by decide +kernel
set_option maxRecDepth 20000 in
theorem ggX11_told_X11_isThere : GoodIn wsX11_told wsX11_isThere := goodIn_r _ [10, 4, 11, 12, 9, 13, 14, 15, 16, 28, 29, 30, 31, 32, 33, 34, 35, 36, 37, 38, 39, 40, 41, 42, 43, 44, 45, 46, 47, 48, 49, 50] (by decide +kernel) (by decide +kernel)
set_option maxRecDepth 20000 in
theorem gX11_told_X11_isThere : GoodIn wsX11_told (wsV RX11 73 RX11 yX11_isThere wsX11_isThere) := goodIn_app (goodIn_of _ (by decide +kernel)) ggX11_told_X11_isThere
set_option maxRecDepth 20000 in
theorem ggX11_told_X11_asNow : GoodIn wsX11_told wsX11_asNow := goodIn_r _ [20, 21, 1, 22, 23, 11, 12, 9, 13, 28, 29, 30, 31, 32, 33, 34, 35, 36, 37, 38, 39, 40, 41, 42, 43, 44, 45, 46, 47, 48, 49, 50] (by decide +kernel) (by decide +kernel)
set_option maxRecDepth 20000 in
theorem gX11_told_X11_asNow : GoodIn wsX11_told (wsV RX11 80 RX11 yX11_asNow wsX11_asNow) := goodIn_app (goodIn_of _ (by decide +kernel)) ggX11_told_X11_asNow
set_option maxRecDepth 20000 in
theorem ggX11_told_X11_pairsOf : GoodIn wsX11_told wsX11_pairsOf := goodIn_r _ [27, 21, 6, 7, 8, 9, 10, 4, 11, 12, 13, 14, 15, 16, 28, 29, 30, 31, 32, 33, 34, 35, 36, 37, 38, 39, 40, 41, 42, 43, 44, 45, 46, 47, 48, 49, 50] (by decide +kernel) (by decide +kernel)
set_option maxRecDepth 20000 in
theorem gX11_told_X11_pairsOf : GoodIn wsX11_told (wsV RX11 83 RX11 yX11_pairsOf wsX11_pairsOf) := goodIn_app (goodIn_of _ (by decide +kernel)) ggX11_told_X11_pairsOf
theorem dX11_told_0 : decode cX11_told 0 = .ok (.iload_n 1, 1) := by decide +kernel
theorem dX11_told_1 : decode cX11_told 1 = .ok (.bipush 10, 2) := by decide +kernel
theorem dX11_told_3 : decode cX11_told 3 = .ok (.if_icmp .lt 71, 3) := by decide +kernel
theorem dX11_told_6 : decode cX11_told 6 = .ok (.iload_n 1, 1) := by decide +kernel
theorem dX11_told_7 : decode cX11_told 7 = .ok (.bipush 10, 2) := by decide +kernel
theorem dX11_told_9 : decode cX11_told 9 = .ok (.idiv, 1) := by decide +kernel
theorem dX11_told_10 : decode cX11_told 10 = .ok (.iconst 1, 1) := by decide +kernel
theorem dX11_told_11 : decode cX11_told 11 = .ok (.isub, 1) := by decide +kernel
theorem dX11_told_12 : decode cX11_told 12 = .ok (.istore_n 2, 1) := by decide +kernel
theorem dX11_told_13 : decode cX11_told 13 = .ok (.iload_n 1, 1) := by decide +kernel
theorem dX11_told_14 : decode cX11_told 14 = .ok (.bipush 10, 2) := by decide +kernel
theorem dX11_told_16 : decode cX11_told 16 = .ok (.irem, 1) := by decide +kernel
theorem dX11_told_17 : decode cX11_told 17 = .ok (.istore_n 3, 1) := by decide +kernel
theorem dX11_told_18 : decode cX11_told 18 = .ok (.aload_n 0, 1) := by decide +kernel
theorem dX11_told_19 : decode cX11_told 19 = .ok (.iload_n 2, 1) := by decide +kernel
theorem dX11_told_20 : decode cX11_told 20 = .ok (.invokevirtual 73, 3) := by decide +kernel
theorem dX11_told_23 : decode cX11_told 23 = .ok (.ifCond .eq 8, 3) := by decide +kernel
theorem dX11_told_26 : decode cX11_told 26 = .ok (.iload_n 3, 1) := by decide +kernel
theorem dX11_told_27 : decode cX11_told 27 = .ok (.iconst 2, 1) := by decide +kernel
theorem dX11_told_28 : decode cX11_told 28 = .ok (.if_icmp .le 6, 3) := by decide +kernel
theorem dX11_told_31 : decode cX11_told 31 = .ok (.bipush (-2), 2) := by decide +kernel
theorem dX11_told_33 : decode cX11_told 33 = .ok (.ireturn, 1) := by decide +kernel
theorem dX11_told_34 : decode cX11_told 34 = .ok (.iload_n 3, 1) := by decide +kernel
theorem dX11_told_35 : decode cX11_told 35 = .ok (.ifCond .ne 12, 3) := by decide +kernel
theorem dX11_told_38 : decode cX11_told 38 = .ok (.aload_n 0, 1) := by decide +kernel
theorem dX11_told_39 : decode cX11_told 39 = .ok (.getfield 7, 3) := by decide +kernel
theorem dX11_told_42 : decode cX11_told 42 = .ok (.iload_n 2, 1) := by decide +kernel
theorem dX11_told_43 : decode cX11_told 43 = .ok (.iaload, 1) := by decide +kernel
theorem dX11_told_44 : decode cX11_told 44 = .ok (.goto 29, 3) := by decide +kernel
theorem dX11_told_47 : decode cX11_told 47 = .ok (.iload_n 3, 1) := by decide +kernel
theorem dX11_told_48 : decode cX11_told 48 = .ok (.iconst 1, 1) := by decide +kernel
theorem dX11_told_49 : decode cX11_told 49 = .ok (.if_icmp .ne 15, 3) := by decide +kernel
theorem dX11_told_52 : decode cX11_told 52 = .ok (.aload_n 0, 1) := by decide +kernel
theorem dX11_told_53 : decode cX11_told 53 = .ok (.getfield 19, 3) := by decide +kernel
theorem dX11_told_56 : decode cX11_told 56 = .ok (.iload_n 2, 1) := by decide +kernel
theorem dX11_told_57 : decode cX11_told 57 = .ok (.iaload, 1) := by decide +kernel
theorem dX11_told_58 : decode cX11_told 58 = .ok (.bipush 9, 2) := by decide +kernel
theorem dX11_told_60 : decode cX11_told 60 = .ok (.iadd, 1) := by decide +kernel
theorem dX11_told_61 : decode cX11_told 61 = .ok (.goto 12, 3) := by decide +kernel
theorem dX11_told_64 : decode cX11_told 64 = .ok (.aload_n 0, 1) := by decide +kernel
theorem dX11_told_65 : decode cX11_told 65 = .ok (.getfield 7, 3) := by decide +kernel
theorem dX11_told_68 : decode cX11_told 68 = .ok (.bipush 9, 2) := by decide +kernel
theorem dX11_told_70 : decode cX11_told 70 = .ok (.iload_n 2, 1) := by decide +kernel
theorem dX11_told_71 : decode cX11_told 71 = .ok (.iadd, 1) := by decide +kernel
theorem dX11_told_72 : decode cX11_told 72 = .ok (.iaload, 1) := by decide +kernel
theorem dX11_told_73 : decode cX11_told 73 = .ok (.ireturn, 1) := by decide +kernel
theorem dX11_told_74 : decode cX11_told 74 = .ok (.aload_n 0, 1) := by decide +kernel
theorem dX11_told_75 : decode cX11_told 75 = .ok (.invokevirtual 80, 3) := by decide +kernel
theorem dX11_told_78 : decode cX11_told 78 = .ok (.iload_n 1, 1) := by decide +kernel
theorem dX11_told_79 : decode cX11_told 79 = .ok (.tableswitch 58 0 4 #[33, 38, 43, 43, 53], 33) := by decide +kernel
theorem dX11_told_112 : decode cX11_told 112 = .ok (.aload_n 0, 1) := by decide +kernel
theorem dX11_told_113 : decode cX11_told 113 = .ok (.getfield 87, 3) := by decide +kernel
theorem dX11_told_116 : decode cX11_told 116 = .ok (.ireturn, 1) := by decide +kernel
theorem dX11_told_117 : decode cX11_told 117 = .ok (.aload_n 0, 1) := by decide +kernel
theorem dX11_told_118 : decode cX11_told 118 = .ok (.getfield 65, 3) := by decide +kernel
theorem dX11_told_121 : decode cX11_told 121 = .ok (.ireturn, 1) := by decide +kernel
theorem dX11_told_122 : decode cX11_told 122 = .ok (.aload_n 0, 1) := by decide +kernel
theorem dX11_told_123 : decode cX11_told 123 = .ok (.getfield 7, 3) := by decide +kernel
theorem dX11_told_126 : decode cX11_told 126 = .ok (.bipush 25, 2) := by decide +kernel
theorem dX11_told_128 : decode cX11_told 128 = .ok (.iload_n 1, 1) := by decide +kernel
theorem dX11_told_129 : decode cX11_told 129 = .ok (.iadd, 1) := by decide +kernel
theorem dX11_told_130 : decode cX11_told 130 = .ok (.iaload, 1) := by decide +kernel
theorem dX11_told_131 : decode cX11_told 131 = .ok (.ireturn, 1) := by decide +kernel
theorem dX11_told_132 : decode cX11_told 132 = .ok (.aload_n 0, 1) := by decide +kernel
theorem dX11_told_133 : decode cX11_told 133 = .ok (.getfield 142, 3) := by decide +kernel
theorem dX11_told_136 : decode cX11_told 136 = .ok (.ireturn, 1) := by decide +kernel
theorem dX11_told_137 : decode cX11_told 137 = .ok (.iload_n 1, 1) := by decide +kernel
theorem dX11_told_138 : decode cX11_told 138 = .ok (.iconst 5, 1) := by decide +kernel
theorem dX11_told_139 : decode cX11_told 139 = .ok (.if_icmp .ne 10, 3) := by decide +kernel
theorem dX11_told_142 : decode cX11_told 142 = .ok (.aload_n 0, 1) := by decide +kernel
theorem dX11_told_143 : decode cX11_told 143 = .ok (.invokevirtual 83, 3) := by decide +kernel
theorem dX11_told_146 : decode cX11_told 146 = .ok (.goto 5, 3) := by decide +kernel
theorem dX11_told_149 : decode cX11_told 149 = .ok (.bipush (-2), 2) := by decide +kernel
theorem dX11_told_151 : decode cX11_told 151 = .ok (.ireturn, 1) := by decide +kernel
theorem dJ6_bitCount_0f7a4_0 : decode cJ6_bitCount_0f7a4 0 = .ok (.iload_n 0, 1) := by decide +kernel
theorem dJ6_bitCount_0f7a4_1 : decode cJ6_bitCount_0f7a4 1 = .ok (.iload_n 0, 1) := by decide +kernel
theorem dJ6_bitCount_0f7a4_2 : decode cJ6_bitCount_0f7a4 2 = .ok (.iconst 1, 1) := by decide +kernel
theorem dJ6_bitCount_0f7a4_3 : decode cJ6_bitCount_0f7a4 3 = .ok (.iushr, 1) := by decide +kernel
theorem dJ6_bitCount_0f7a4_4 : decode cJ6_bitCount_0f7a4 4 = .ok (.ldc_w 265, 3) := by decide +kernel
theorem dJ6_bitCount_0f7a4_7 : decode cJ6_bitCount_0f7a4 7 = .ok (.iand, 1) := by decide +kernel
theorem dJ6_bitCount_0f7a4_8 : decode cJ6_bitCount_0f7a4 8 = .ok (.isub, 1) := by decide +kernel
theorem dJ6_bitCount_0f7a4_9 : decode cJ6_bitCount_0f7a4 9 = .ok (.istore_n 0, 1) := by decide +kernel
theorem dJ6_bitCount_0f7a4_10 : decode cJ6_bitCount_0f7a4 10 = .ok (.iload_n 0, 1) := by decide +kernel
theorem dJ6_bitCount_0f7a4_11 : decode cJ6_bitCount_0f7a4 11 = .ok (.ldc_w 266, 3) := by decide +kernel
theorem dJ6_bitCount_0f7a4_14 : decode cJ6_bitCount_0f7a4 14 = .ok (.iand, 1) := by decide +kernel
theorem dJ6_bitCount_0f7a4_15 : decode cJ6_bitCount_0f7a4 15 = .ok (.iload_n 0, 1) := by decide +kernel
theorem dJ6_bitCount_0f7a4_16 : decode cJ6_bitCount_0f7a4 16 = .ok (.iconst 2, 1) := by decide +kernel
theorem dJ6_bitCount_0f7a4_17 : decode cJ6_bitCount_0f7a4 17 = .ok (.iushr, 1) := by decide +kernel
theorem dJ6_bitCount_0f7a4_18 : decode cJ6_bitCount_0f7a4 18 = .ok (.ldc_w 266, 3) := by decide +kernel
theorem dJ6_bitCount_0f7a4_21 : decode cJ6_bitCount_0f7a4 21 = .ok (.iand, 1) := by decide +kernel
theorem dJ6_bitCount_0f7a4_22 : decode cJ6_bitCount_0f7a4 22 = .ok (.iadd, 1) := by decide +kernel
theorem dJ6_bitCount_0f7a4_23 : decode cJ6_bitCount_0f7a4 23 = .ok (.istore_n 0, 1) := by decide +kernel
theorem dJ6_bitCount_0f7a4_24 : decode cJ6_bitCount_0f7a4 24 = .ok (.iload_n 0, 1) := by decide +kernel
theorem dJ6_bitCount_0f7a4_25 : decode cJ6_bitCount_0f7a4 25 = .ok (.iload_n 0, 1) := by decide +kernel
theorem dJ6_bitCount_0f7a4_26 : decode cJ6_bitCount_0f7a4 26 = .ok (.iconst 4, 1) := by decide +kernel
theorem dJ6_bitCount_0f7a4_27 : decode cJ6_bitCount_0f7a4 27 = .ok (.iushr, 1) := by decide +kernel
theorem dJ6_bitCount_0f7a4_28 : decode cJ6_bitCount_0f7a4 28 = .ok (.iadd, 1) := by decide +kernel
theorem dJ6_bitCount_0f7a4_29 : decode cJ6_bitCount_0f7a4 29 = .ok (.ldc_w 267, 3) := by decide +kernel
theorem dJ6_bitCount_0f7a4_32 : decode cJ6_bitCount_0f7a4 32 = .ok (.iand, 1) := by decide +kernel
theorem dJ6_bitCount_0f7a4_33 : decode cJ6_bitCount_0f7a4 33 = .ok (.istore_n 0, 1) := by decide +kernel
theorem dJ6_bitCount_0f7a4_34 : decode cJ6_bitCount_0f7a4 34 = .ok (.iload_n 0, 1) := by decide +kernel
theorem dJ6_bitCount_0f7a4_35 : decode cJ6_bitCount_0f7a4 35 = .ok (.iload_n 0, 1) := by decide +kernel
theorem dJ6_bitCount_0f7a4_36 : decode cJ6_bitCount_0f7a4 36 = .ok (.bipush 8, 2) := by decide +kernel
theorem dJ6_bitCount_0f7a4_38 : decode cJ6_bitCount_0f7a4 38 = .ok (.iushr, 1) := by decide +kernel
theorem dJ6_bitCount_0f7a4_39 : decode cJ6_bitCount_0f7a4 39 = .ok (.iadd, 1) := by decide +kernel
theorem dJ6_bitCount_0f7a4_40 : decode cJ6_bitCount_0f7a4 40 = .ok (.istore_n 0, 1) := by decide +kernel
theorem dJ6_bitCount_0f7a4_41 : decode cJ6_bitCount_0f7a4 41 = .ok (.iload_n 0, 1) := by decide +kernel
theorem dJ6_bitCount_0f7a4_42 : decode cJ6_bitCount_0f7a4 42 = .ok (.iload_n 0, 1) := by decide +kernel
theorem dJ6_bitCount_0f7a4_43 : decode cJ6_bitCount_0f7a4 43 = .ok (.bipush 16, 2) := by decide +kernel
theorem dJ6_bitCount_0f7a4_45 : decode cJ6_bitCount_0f7a4 45 = .ok (.iushr, 1) := by decide +kernel
theorem dJ6_bitCount_0f7a4_46 : decode cJ6_bitCount_0f7a4 46 = .ok (.iadd, 1) := by decide +kernel
theorem dJ6_bitCount_0f7a4_47 : decode cJ6_bitCount_0f7a4 47 = .ok (.istore_n 0, 1) := by decide +kernel
theorem dJ6_bitCount_0f7a4_48 : decode cJ6_bitCount_0f7a4 48 = .ok (.iload_n 0, 1) := by decide +kernel
theorem dJ6_bitCount_0f7a4_49 : decode cJ6_bitCount_0f7a4 49 = .ok (.bipush 63, 2) := by decide +kernel
theorem dJ6_bitCount_0f7a4_51 : decode cJ6_bitCount_0f7a4 51 = .ok (.iand, 1) := by decide +kernel
theorem dJ6_bitCount_0f7a4_52 : decode cJ6_bitCount_0f7a4 52 = .ok (.ireturn, 1) := by decide +kernel
theorem dJ9_max_7cf53_0 : decode cJ9_max_7cf53 0 = .ok (.iload_n 0, 1) := by decide +kernel
theorem dJ9_max_7cf53_1 : decode cJ9_max_7cf53 1 = .ok (.iload_n 1, 1) := by decide +kernel
theorem dJ9_max_7cf53_2 : decode cJ9_max_7cf53 2 = .ok (.if_icmp .lt 7, 3) := by decide +kernel
theorem dJ9_max_7cf53_5 : decode cJ9_max_7cf53 5 = .ok (.iload_n 0, 1) := by decide +kernel
theorem dJ9_max_7cf53_6 : decode cJ9_max_7cf53 6 = .ok (.goto 4, 3) := by decide +kernel
theorem dJ9_max_7cf53_9 : decode cJ9_max_7cf53 9 = .ok (.iload_n 1, 1) := by decide +kernel
theorem dJ9_max_7cf53_10 : decode cJ9_max_7cf53 10 = .ok (.ireturn, 1) := by decide +kernel
theorem dJ9_min_7cf53_0 : decode cJ9_min_7cf53 0 = .ok (.iload_n 0, 1) := by decide +kernel
theorem dJ9_min_7cf53_1 : decode cJ9_min_7cf53 1 = .ok (.iload_n 1, 1) := by decide +kernel
theorem dJ9_min_7cf53_2 : decode cJ9_min_7cf53 2 = .ok (.if_icmp .gt 7, 3) := by decide +kernel
theorem dJ9_min_7cf53_5 : decode cJ9_min_7cf53 5 = .ok (.iload_n 0, 1) := by decide +kernel
theorem dJ9_min_7cf53_6 : decode cJ9_min_7cf53 6 = .ok (.goto 4, 3) := by decide +kernel
theorem dJ9_min_7cf53_9 : decode cJ9_min_7cf53 9 = .ok (.iload_n 1, 1) := by decide +kernel
theorem dJ9_min_7cf53_10 : decode cJ9_min_7cf53 10 = .ok (.ireturn, 1) := by decide +kernel
