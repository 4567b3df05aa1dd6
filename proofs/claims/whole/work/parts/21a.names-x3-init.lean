theorem dX3_init_0 : decode cX3_init 0 = .ok (.aload_n 0, 1) := by decide +kernel
theorem dX3_init_1 : decode cX3_init 1 = .ok (.invokespecial 1, 3) := by decide +kernel
theorem dX3_init_4 : decode cX3_init 4 = .ok (.aload_n 0, 1) := by decide +kernel
theorem dX3_init_5 : decode cX3_init 5 = .ok (.bipush 80, 2) := by decide +kernel
theorem dX3_init_7 : decode cX3_init 7 = .ok (.newarray .int, 2) := by decide +kernel
theorem dX3_init_9 : decode cX3_init 9 = .ok (.putfield 7, 3) := by decide +kernel
theorem dX3_init_12 : decode cX3_init 12 = .ok (.aload_n 0, 1) := by decide +kernel
theorem dX3_init_13 : decode cX3_init 13 = .ok (.bipush 80, 2) := by decide +kernel
theorem dX3_init_15 : decode cX3_init 15 = .ok (.newarray .int, 2) := by decide +kernel
theorem dX3_init_17 : decode cX3_init 17 = .ok (.putfield 13, 3) := by decide +kernel
theorem dX3_init_20 : decode cX3_init 20 = .ok (.aload_n 0, 1) := by decide +kernel
theorem dX3_init_21 : decode cX3_init 21 = .ok (.bipush 80, 2) := by decide +kernel
theorem dX3_init_23 : decode cX3_init 23 = .ok (.newarray .int, 2) := by decide +kernel
theorem dX3_init_25 : decode cX3_init 25 = .ok (.putfield 16, 3) := by decide +kernel
theorem dX3_init_28 : decode cX3_init 28 = .ok (.aload_n 0, 1) := by decide +kernel
theorem dX3_init_29 : decode cX3_init 29 = .ok (.bipush 80, 2) := by decide +kernel
theorem dX3_init_31 : decode cX3_init 31 = .ok (.newarray .int, 2) := by decide +kernel
theorem dX3_init_33 : decode cX3_init 33 = .ok (.putfield 19, 3) := by decide +kernel
theorem dX3_init_36 : decode cX3_init 36 = .ok (.aload_n 0, 1) := by decide +kernel
theorem dX3_init_37 : decode cX3_init 37 = .ok (.bipush 80, 2) := by decide +kernel
theorem dX3_init_39 : decode cX3_init 39 = .ok (.newarray .int, 2) := by decide +kernel
theorem dX3_init_41 : decode cX3_init 41 = .ok (.putfield 22, 3) := by decide +kernel
theorem dX3_init_44 : decode cX3_init 44 = .ok (.aload_n 0, 1) := by decide +kernel
theorem dX3_init_45 : decode cX3_init 45 = .ok (.bipush 80, 2) := by decide +kernel
theorem dX3_init_47 : decode cX3_init 47 = .ok (.newarray .int, 2) := by decide +kernel
theorem dX3_init_49 : decode cX3_init 49 = .ok (.putfield 25, 3) := by decide +kernel
theorem dX3_init_52 : decode cX3_init 52 = .ok (.aload_n 0, 1) := by decide +kernel
theorem dX3_init_53 : decode cX3_init 53 = .ok (.bipush 80, 2) := by decide +kernel
theorem dX3_init_55 : decode cX3_init 55 = .ok (.newarray .int, 2) := by decide +kernel
theorem dX3_init_57 : decode cX3_init 57 = .ok (.putfield 28, 3) := by decide +kernel
theorem dX3_init_60 : decode cX3_init 60 = .ok (.aload_n 0, 1) := by decide +kernel
theorem dX3_init_61 : decode cX3_init 61 = .ok (.bipush 60, 2) := by decide +kernel
theorem dX3_init_63 : decode cX3_init 63 = .ok (.newarray .int, 2) := by decide +kernel
theorem dX3_init_65 : decode cX3_init 65 = .ok (.putfield 31, 3) := by decide +kernel
theorem dX3_init_68 : decode cX3_init 68 = .ok (.aload_n 0, 1) := by decide +kernel
theorem dX3_init_69 : decode cX3_init 69 = .ok (.bipush 60, 2) := by decide +kernel
theorem dX3_init_71 : decode cX3_init 71 = .ok (.newarray .int, 2) := by decide +kernel
theorem dX3_init_73 : decode cX3_init 73 = .ok (.putfield 34, 3) := by decide +kernel
theorem dX3_init_76 : decode cX3_init 76 = .ok (.aload_n 0, 1) := by decide +kernel
theorem dX3_init_77 : decode cX3_init 77 = .ok (.bipush 60, 2) := by decide +kernel
theorem dX3_init_79 : decode cX3_init 79 = .ok (.newarray .int, 2) := by decide +kernel
theorem dX3_init_81 : decode cX3_init 81 = .ok (.putfield 37, 3) := by decide +kernel
theorem dX3_init_84 : decode cX3_init 84 = .ok (.aload_n 0, 1) := by decide +kernel
theorem dX3_init_85 : decode cX3_init 85 = .ok (.bipush 60, 2) := by decide +kernel
theorem dX3_init_87 : decode cX3_init 87 = .ok (.newarray .int, 2) := by decide +kernel
theorem dX3_init_89 : decode cX3_init 89 = .ok (.putfield 40, 3) := by decide +kernel
theorem dX3_init_92 : decode cX3_init 92 = .ok (.aload_n 0, 1) := by decide +kernel
theorem dX3_init_93 : decode cX3_init 93 = .ok (.bipush 60, 2) := by decide +kernel
theorem dX3_init_95 : decode cX3_init 95 = .ok (.newarray .boolean, 2) := by decide +kernel
theorem dX3_init_97 : decode cX3_init 97 = .ok (.putfield 43, 3) := by decide +kernel
theorem dX3_init_100 : decode cX3_init 100 = .ok (.aload_n 0, 1) := by decide +kernel
theorem dX3_init_101 : decode cX3_init 101 = .ok (.bipush 60, 2) := by decide +kernel
theorem dX3_init_103 : decode cX3_init 103 = .ok (.newarray .int, 2) := by decide +kernel
theorem dX3_init_105 : decode cX3_init 105 = .ok (.putfield 47, 3) := by decide +kernel
theorem dX3_init_108 : decode cX3_init 108 = .ok (.aload_n 0, 1) := by decide +kernel
theorem dX3_init_109 : decode cX3_init 109 = .ok (.bipush 60, 2) := by decide +kernel
theorem dX3_init_111 : decode cX3_init 111 = .ok (.newarray .int, 2) := by decide +kernel
theorem dX3_init_113 : decode cX3_init 113 = .ok (.putfield 50, 3) := by decide +kernel
theorem dX3_init_116 : decode cX3_init 116 = .ok (.aload_n 0, 1) := by decide +kernel
theorem dX3_init_117 : decode cX3_init 117 = .ok (.bipush 60, 2) := by decide +kernel
theorem dX3_init_119 : decode cX3_init 119 = .ok (.newarray .int, 2) := by decide +kernel
theorem dX3_init_121 : decode cX3_init 121 = .ok (.putfield 53, 3) := by decide +kernel
theorem dX3_init_124 : decode cX3_init 124 = .ok (.aload_n 0, 1) := by decide +kernel
theorem dX3_init_125 : decode cX3_init 125 = .ok (.sipush 180, 3) := by decide +kernel
theorem dX3_init_128 : decode cX3_init 128 = .ok (.newarray .int, 2) := by decide +kernel
theorem dX3_init_130 : decode cX3_init 130 = .ok (.putfield 56, 3) := by decide +kernel
theorem dX3_init_133 : decode cX3_init 133 = .ok (.aload_n 0, 1) := by decide +kernel
theorem dX3_init_134 : decode cX3_init 134 = .ok (.bipush 60, 2) := by decide +kernel
theorem dX3_init_136 : decode cX3_init 136 = .ok (.newarray .boolean, 2) := by decide +kernel
theorem dX3_init_138 : decode cX3_init 138 = .ok (.putfield 59, 3) := by decide +kernel
theorem dX3_init_141 : decode cX3_init 141 = .ok (.aload_n 0, 1) := by decide +kernel
theorem dX3_init_142 : decode cX3_init 142 = .ok (.bipush 60, 2) := by decide +kernel
theorem dX3_init_144 : decode cX3_init 144 = .ok (.newarray .long, 2) := by decide +kernel
theorem dX3_init_146 : decode cX3_init 146 = .ok (.putfield 62, 3) := by decide +kernel
theorem dX3_init_149 : decode cX3_init 149 = .ok (.aload_n 0, 1) := by decide +kernel
theorem dX3_init_150 : decode cX3_init 150 = .ok (.bipush 60, 2) := by decide +kernel
theorem dX3_init_152 : decode cX3_init 152 = .ok (.newarray .long, 2) := by decide +kernel
theorem dX3_init_154 : decode cX3_init 154 = .ok (.putfield 66, 3) := by decide +kernel
theorem dX3_init_157 : decode cX3_init 157 = .ok (.aload_n 0, 1) := by decide +kernel
theorem dX3_init_158 : decode cX3_init 158 = .ok (.sipush 480, 3) := by decide +kernel
theorem dX3_init_161 : decode cX3_init 161 = .ok (.newarray .int, 2) := by decide +kernel
theorem dX3_init_163 : decode cX3_init 163 = .ok (.putfield 69, 3) := by decide +kernel
theorem dX3_init_166 : decode cX3_init 166 = .ok (.return_, 1) := by decide +kernel
theorem dX3_lies_0 : decode cX3_lies 0 = .ok (.iload_n 0, 1) := by decide +kernel
theorem dX3_lies_1 : decode cX3_lies 1 = .ok (.iload_n 1, 1) := by decide +kernel
theorem dX3_lies_2 : decode cX3_lies 2 = .ok (.if_icmp .lt 12, 3) := by decide +kernel
theorem dX3_lies_5 : decode cX3_lies 5 = .ok (.iload_n 0, 1) := by decide +kernel
theorem dX3_lies_6 : decode cX3_lies 6 = .ok (.iload_n 2, 1) := by decide +kernel
theorem dX3_lies_7 : decode cX3_lies 7 = .ok (.if_icmp .gt 7, 3) := by decide +kernel
theorem dX3_lies_10 : decode cX3_lies 10 = .ok (.iconst 1, 1) := by decide +kernel
theorem dX3_lies_11 : decode cX3_lies 11 = .ok (.goto 4, 3) := by decide +kernel
theorem dX3_lies_14 : decode cX3_lies 14 = .ok (.iconst 0, 1) := by decide +kernel
theorem dX3_lies_15 : decode cX3_lies 15 = .ok (.ireturn, 1) := by decide +kernel
set_option maxRecDepth 20000 in
theorem ggX3_isKnowing_X3_lies : GoodIn wsX3_isKnowing wsX3_lies := goodIn_r _ [5] rfl (by decide +kernel)
set_option maxRecDepth 20000 in
theorem gX3_isKnowing_X3_lies : GoodIn wsX3_isKnowing (va_wsS RX3 76 yX3_lies wsX3_lies) := goodIn_app (goodIn_of _ (by decide +kernel)) ggX3_isKnowing_X3_lies
theorem dX3_isKnowing_0 : decode cX3_isKnowing 0 = .ok (.iload_n 1, 1) := by decide +kernel
theorem dX3_isKnowing_1 : decode cX3_isKnowing 1 = .ok (.iconst 0, 1) := by decide +kernel
theorem dX3_isKnowing_2 : decode cX3_isKnowing 2 = .ok (.aload_n 0, 1) := by decide +kernel
theorem dX3_isKnowing_3 : decode cX3_isKnowing 3 = .ok (.getfield 72, 3) := by decide +kernel
theorem dX3_isKnowing_6 : decode cX3_isKnowing 6 = .ok (.invokestatic 76, 3) := by decide +kernel
theorem dX3_isKnowing_9 : decode cX3_isKnowing 9 = .ok (.ireturn, 1) := by decide +kernel
set_option maxRecDepth 20000 in
theorem ggX3_isField_X3_lies : GoodIn wsX3_isField wsX3_lies := goodIn_r _ [5] rfl (by decide +kernel)
set_option maxRecDepth 20000 in
theorem gX3_isField_X3_lies : GoodIn wsX3_isField (va_wsS RX3 76 yX3_lies wsX3_lies) := goodIn_app (goodIn_of _ (by decide +kernel)) ggX3_isField_X3_lies
theorem dX3_isField_0 : decode cX3_isField 0 = .ok (.iload_n 1, 1) := by decide +kernel
theorem dX3_isField_1 : decode cX3_isField 1 = .ok (.iconst 0, 1) := by decide +kernel
theorem dX3_isField_2 : decode cX3_isField 2 = .ok (.aload_n 0, 1) := by decide +kernel
theorem dX3_isField_3 : decode cX3_isField 3 = .ok (.getfield 80, 3) := by decide +kernel
theorem dX3_isField_6 : decode cX3_isField 6 = .ok (.iconst 1, 1) := by decide +kernel
theorem dX3_isField_7 : decode cX3_isField 7 = .ok (.isub, 1) := by decide +kernel
theorem dX3_isField_8 : decode cX3_isField 8 = .ok (.invokestatic 76, 3) := by decide +kernel
theorem dX3_isField_11 : decode cX3_isField 11 = .ok (.ireturn, 1) := by decide +kernel
theorem dX3_nearest_0 : decode cX3_nearest 0 = .ok (.ldc2_w 83, 3) := by decide +kernel
theorem dX3_nearest_3 : decode cX3_nearest 3 = .ok (.lload_n 0, 1) := by decide +kernel
theorem dX3_nearest_4 : decode cX3_nearest 4 = .ok (.lmul, 1) := by decide +kernel
theorem dX3_nearest_5 : decode cX3_nearest 5 = .ok (.lload_n 2, 1) := by decide +kernel
theorem dX3_nearest_6 : decode cX3_nearest 6 = .ok (.ladd, 1) := by decide +kernel
theorem dX3_nearest_7 : decode cX3_nearest 7 = .ok (.ldc2_w 83, 3) := by decide +kernel
theorem dX3_nearest_10 : decode cX3_nearest 10 = .ok (.lload_n 2, 1) := by decide +kernel
theorem dX3_nearest_11 : decode cX3_nearest 11 = .ok (.lmul, 1) := by decide +kernel
theorem dX3_nearest_12 : decode cX3_nearest 12 = .ok (.ldiv, 1) := by decide +kernel
theorem dX3_nearest_13 : decode cX3_nearest 13 = .ok (.lreturn, 1) := by decide +kernel
theorem dX3_priceOf_0 : decode cX3_priceOf 0 = .ok (.iconst 0, 1) := by decide +kernel
theorem dX3_priceOf_1 : decode cX3_priceOf 1 = .ok (.istore 4, 2) := by decide +kernel
theorem dX3_priceOf_3 : decode cX3_priceOf 3 = .ok (.iconst 0, 1) := by decide +kernel
theorem dX3_priceOf_4 : decode cX3_priceOf 4 = .ok (.istore 5, 2) := by decide +kernel
theorem dX3_priceOf_6 : decode cX3_priceOf 6 = .ok (.iload 5, 2) := by decide +kernel
theorem dX3_priceOf_8 : decode cX3_priceOf 8 = .ok (.iload_n 1, 1) := by decide +kernel
theorem dX3_priceOf_9 : decode cX3_priceOf 9 = .ok (.if_icmp .ge 50, 3) := by decide +kernel
theorem dX3_priceOf_12 : decode cX3_priceOf 12 = .ok (.aload_n 0, 1) := by decide +kernel
theorem dX3_priceOf_13 : decode cX3_priceOf 13 = .ok (.getfield 7, 3) := by decide +kernel
theorem dX3_priceOf_16 : decode cX3_priceOf 16 = .ok (.iload 5, 2) := by decide +kernel
theorem dX3_priceOf_18 : decode cX3_priceOf 18 = .ok (.iaload, 1) := by decide +kernel
theorem dX3_priceOf_19 : decode cX3_priceOf 19 = .ok (.ifCond .ne 34, 3) := by decide +kernel
theorem dX3_priceOf_22 : decode cX3_priceOf 22 = .ok (.aload_n 0, 1) := by decide +kernel
theorem dX3_priceOf_23 : decode cX3_priceOf 23 = .ok (.getfield 13, 3) := by decide +kernel
theorem dX3_priceOf_26 : decode cX3_priceOf 26 = .ok (.iload 5, 2) := by decide +kernel
theorem dX3_priceOf_28 : decode cX3_priceOf 28 = .ok (.iaload, 1) := by decide +kernel
theorem dX3_priceOf_29 : decode cX3_priceOf 29 = .ok (.iload_n 2, 1) := by decide +kernel
theorem dX3_priceOf_30 : decode cX3_priceOf 30 = .ok (.if_icmp .ne 23, 3) := by decide +kernel
theorem dX3_priceOf_33 : decode cX3_priceOf 33 = .ok (.aload_n 0, 1) := by decide +kernel
theorem dX3_priceOf_34 : decode cX3_priceOf 34 = .ok (.getfield 16, 3) := by decide +kernel
theorem dX3_priceOf_37 : decode cX3_priceOf 37 = .ok (.iload 5, 2) := by decide +kernel
theorem dX3_priceOf_39 : decode cX3_priceOf 39 = .ok (.iaload, 1) := by decide +kernel
theorem dX3_priceOf_40 : decode cX3_priceOf 40 = .ok (.iload_n 3, 1) := by decide +kernel
theorem dX3_priceOf_41 : decode cX3_priceOf 41 = .ok (.if_icmp .ne 12, 3) := by decide +kernel
theorem dX3_priceOf_44 : decode cX3_priceOf 44 = .ok (.aload_n 0, 1) := by decide +kernel
theorem dX3_priceOf_45 : decode cX3_priceOf 45 = .ok (.getfield 22, 3) := by decide +kernel
theorem dX3_priceOf_48 : decode cX3_priceOf 48 = .ok (.iload 5, 2) := by decide +kernel
theorem dX3_priceOf_50 : decode cX3_priceOf 50 = .ok (.iaload, 1) := by decide +kernel
theorem dX3_priceOf_51 : decode cX3_priceOf 51 = .ok (.istore 4, 2) := by decide +kernel
theorem dX3_priceOf_53 : decode cX3_priceOf 53 = .ok (.iinc 5 1, 3) := by decide +kernel
theorem dX3_priceOf_56 : decode cX3_priceOf 56 = .ok (.goto (-50), 3) := by decide +kernel
theorem dX3_priceOf_59 : decode cX3_priceOf 59 = .ok (.iload 4, 2) := by decide +kernel
theorem dX3_priceOf_61 : decode cX3_priceOf 61 = .ok (.ireturn, 1) := by decide +kernel
set_option maxRecDepth 20000 in
theorem ggX3_averageOf_X3_priceOf : GoodIn wsX3_averageOf wsX3_priceOf := goodIn_r _ [5, 6, 7, 8, 9, 14, 15, 16, 17, 18, 19, 20, 21, 22, 23, 24, 25, 26, 27, 28, 29, 30, 31, 32, 33, 34, 35, 36] rfl (by decide +kernel)
set_option maxRecDepth 20000 in
theorem gX3_averageOf_X3_priceOf : GoodIn wsX3_averageOf (wsV RX3 85 RX3 yX3_priceOf wsX3_priceOf) := goodIn_app (goodIn_of _ (by decide +kernel)) ggX3_averageOf_X3_priceOf
set_option maxRecDepth 20000 in
theorem ggX3_averageOf_X3_nearest : GoodIn wsX3_averageOf wsX3_nearest := goodIn_r _ [12, 13] rfl (by decide +kernel)
set_option maxRecDepth 20000 in
theorem gX3_averageOf_X3_nearest : GoodIn wsX3_averageOf (va_wsS RX3 89 yX3_nearest wsX3_nearest) := goodIn_app (goodIn_of _ (by decide +kernel)) ggX3_averageOf_X3_nearest
theorem dX3_averageOf_0 : decode cX3_averageOf 0 = .ok (.iconst 0, 1) := by decide +kernel
theorem dX3_averageOf_1 : decode cX3_averageOf 1 = .ok (.istore 4, 2) := by decide +kernel
theorem dX3_averageOf_3 : decode cX3_averageOf 3 = .ok (.iconst 0, 1) := by decide +kernel
theorem dX3_averageOf_4 : decode cX3_averageOf 4 = .ok (.istore 5, 2) := by decide +kernel
theorem dX3_averageOf_6 : decode cX3_averageOf 6 = .ok (.iload_n 2, 1) := by decide +kernel
theorem dX3_averageOf_7 : decode cX3_averageOf 7 = .ok (.bipush 7, 2) := by decide +kernel
theorem dX3_averageOf_9 : decode cX3_averageOf 9 = .ok (.isub, 1) := by decide +kernel
theorem dX3_averageOf_10 : decode cX3_averageOf 10 = .ok (.istore 6, 2) := by decide +kernel
theorem dX3_averageOf_12 : decode cX3_averageOf 12 = .ok (.iload 6, 2) := by decide +kernel
theorem dX3_averageOf_14 : decode cX3_averageOf 14 = .ok (.iload_n 2, 1) := by decide +kernel
theorem dX3_averageOf_15 : decode cX3_averageOf 15 = .ok (.if_icmp .ge 41, 3) := by decide +kernel
theorem dX3_averageOf_18 : decode cX3_averageOf 18 = .ok (.aload_n 0, 1) := by decide +kernel
theorem dX3_averageOf_19 : decode cX3_averageOf 19 = .ok (.iload_n 1, 1) := by decide +kernel
theorem dX3_averageOf_20 : decode cX3_averageOf 20 = .ok (.iload 6, 2) := by decide +kernel
theorem dX3_averageOf_22 : decode cX3_averageOf 22 = .ok (.iload_n 3, 1) := by decide +kernel
theorem dX3_averageOf_23 : decode cX3_averageOf 23 = .ok (.invokevirtual 85, 3) := by decide +kernel
theorem dX3_averageOf_26 : decode cX3_averageOf 26 = .ok (.istore 7, 2) := by decide +kernel
theorem dX3_averageOf_28 : decode cX3_averageOf 28 = .ok (.iload 4, 2) := by decide +kernel
theorem dX3_averageOf_30 : decode cX3_averageOf 30 = .ok (.iload 7, 2) := by decide +kernel
theorem dX3_averageOf_32 : decode cX3_averageOf 32 = .ok (.iadd, 1) := by decide +kernel
theorem dX3_averageOf_33 : decode cX3_averageOf 33 = .ok (.istore 4, 2) := by decide +kernel
theorem dX3_averageOf_35 : decode cX3_averageOf 35 = .ok (.iload 5, 2) := by decide +kernel
theorem dX3_averageOf_37 : decode cX3_averageOf 37 = .ok (.iload 7, 2) := by decide +kernel
theorem dX3_averageOf_39 : decode cX3_averageOf 39 = .ok (.ifCond .le 7, 3) := by decide +kernel
theorem dX3_averageOf_42 : decode cX3_averageOf 42 = .ok (.iconst 1, 1) := by decide +kernel
theorem dX3_averageOf_43 : decode cX3_averageOf 43 = .ok (.goto 4, 3) := by decide +kernel
theorem dX3_averageOf_46 : decode cX3_averageOf 46 = .ok (.iconst 0, 1) := by decide +kernel
theorem dX3_averageOf_47 : decode cX3_averageOf 47 = .ok (.iadd, 1) := by decide +kernel
theorem dX3_averageOf_48 : decode cX3_averageOf 48 = .ok (.istore 5, 2) := by decide +kernel
theorem dX3_averageOf_50 : decode cX3_averageOf 50 = .ok (.iinc 6 1, 3) := by decide +kernel
theorem dX3_averageOf_53 : decode cX3_averageOf 53 = .ok (.goto (-41), 3) := by decide +kernel
theorem dX3_averageOf_56 : decode cX3_averageOf 56 = .ok (.iload 5, 2) := by decide +kernel
theorem dX3_averageOf_58 : decode cX3_averageOf 58 = .ok (.ifCond .ne 7, 3) := by decide +kernel
theorem dX3_averageOf_61 : decode cX3_averageOf 61 = .ok (.iconst (-1), 1) := by decide +kernel
theorem dX3_averageOf_62 : decode cX3_averageOf 62 = .ok (.goto 13, 3) := by decide +kernel
theorem dX3_averageOf_65 : decode cX3_averageOf 65 = .ok (.iload 4, 2) := by decide +kernel
theorem dX3_averageOf_67 : decode cX3_averageOf 67 = .ok (.i2l, 1) := by decide +kernel
theorem dX3_averageOf_68 : decode cX3_averageOf 68 = .ok (.iload 5, 2) := by decide +kernel
theorem dX3_averageOf_70 : decode cX3_averageOf 70 = .ok (.i2l, 1) := by decide +kernel
theorem dX3_averageOf_71 : decode cX3_averageOf 71 = .ok (.invokestatic 89, 3) := by decide +kernel
theorem dX3_averageOf_74 : decode cX3_averageOf 74 = .ok (.l2i, 1) := by decide +kernel
theorem dX3_averageOf_75 : decode cX3_averageOf 75 = .ok (.ireturn, 1) := by decide +kernel
set_option maxRecDepth 20000 in
theorem ggX3_average_X3_isKnowing : GoodIn wsX3_average wsX3_isKnowing := goodIn_r _ [5, 6, 7, 8, 4, 9, 26, 27, 28, 29, 30, 31, 32, 33, 34, 35, 36, 37, 38, 39, 40, 41, 42, 43, 44, 45, 46, 47, 48] rfl (by decide +kernel)
set_option maxRecDepth 20000 in
theorem gX3_average_X3_isKnowing : GoodIn wsX3_average (wsV RX3 93 RX3 yX3_isKnowing wsX3_isKnowing) := goodIn_app (goodIn_of _ (by decide +kernel)) ggX3_average_X3_isKnowing
set_option maxRecDepth 20000 in
theorem ggX3_average_X3_lies : GoodIn wsX3_average wsX3_lies := goodIn_r _ [9] rfl (by decide +kernel)
set_option maxRecDepth 20000 in
theorem gX3_average_X3_lies : GoodIn wsX3_average (va_wsS RX3 76 yX3_lies wsX3_lies) := goodIn_app (goodIn_of _ (by decide +kernel)) ggX3_average_X3_lies
set_option maxRecDepth 20000 in
theorem ggX3_average_X3_averageOf : GoodIn wsX3_average wsX3_averageOf := goodIn_r _ [13, 14, 15, 16, 4, 17, 18, 19, 20, 21, 22, 23, 24, 25, 26, 27, 28, 29, 30, 31, 32, 33, 34, 35, 36, 37, 38, 39, 40, 41, 42, 43, 44, 45, 46, 47, 48] rfl (by decide +kernel)
set_option maxRecDepth 20000 in
theorem gX3_average_X3_averageOf : GoodIn wsX3_average (wsV RX3 97 RX3 yX3_averageOf wsX3_averageOf) := goodIn_app (goodIn_of _ (by decide +kernel)) ggX3_average_X3_averageOf
theorem dX3_average_0 : decode cX3_average 0 = .ok (.aload_n 0, 1) := by decide +kernel
theorem dX3_average_1 : decode cX3_average 1 = .ok (.iload_n 1, 1) := by decide +kernel
theorem dX3_average_2 : decode cX3_average 2 = .ok (.invokevirtual 93, 3) := by decide +kernel
theorem dX3_average_5 : decode cX3_average 5 = .ok (.ifCond .eq 33, 3) := by decide +kernel
theorem dX3_average_8 : decode cX3_average 8 = .ok (.iload_n 2, 1) := by decide +kernel
theorem dX3_average_9 : decode cX3_average 9 = .ok (.iconst 1, 1) := by decide +kernel
theorem dX3_average_10 : decode cX3_average 10 = .ok (.sipush 200, 3) := by decide +kernel
theorem dX3_average_13 : decode cX3_average 13 = .ok (.invokestatic 76, 3) := by decide +kernel
theorem dX3_average_16 : decode cX3_average 16 = .ok (.ifCond .eq 22, 3) := by decide +kernel
theorem dX3_average_19 : decode cX3_average 19 = .ok (.iload_n 3, 1) := by decide +kernel
theorem dX3_average_20 : decode cX3_average 20 = .ok (.iconst 0, 1) := by decide +kernel
theorem dX3_average_21 : decode cX3_average 21 = .ok (.iconst 2, 1) := by decide +kernel
theorem dX3_average_22 : decode cX3_average 22 = .ok (.invokestatic 76, 3) := by decide +kernel
theorem dX3_average_25 : decode cX3_average 25 = .ok (.ifCond .eq 13, 3) := by decide +kernel
theorem dX3_average_28 : decode cX3_average 28 = .ok (.aload_n 0, 1) := by decide +kernel
theorem dX3_average_29 : decode cX3_average 29 = .ok (.iload_n 1, 1) := by decide +kernel
theorem dX3_average_30 : decode cX3_average 30 = .ok (.iload_n 2, 1) := by decide +kernel
theorem dX3_average_31 : decode cX3_average 31 = .ok (.iload_n 3, 1) := by decide +kernel
theorem dX3_average_32 : decode cX3_average 32 = .ok (.invokevirtual 97, 3) := by decide +kernel
theorem dX3_average_35 : decode cX3_average 35 = .ok (.goto 4, 3) := by decide +kernel
theorem dX3_average_38 : decode cX3_average 38 = .ok (.iconst (-1), 1) := by decide +kernel
theorem dX3_average_39 : decode cX3_average 39 = .ok (.ireturn, 1) := by decide +kernel
theorem dX3_comes_0 : decode cX3_comes 0 = .ok (.aload_n 0, 1) := by decide +kernel
theorem dX3_comes_1 : decode cX3_comes 1 = .ok (.getfield 43, 3) := by decide +kernel
theorem dX3_comes_4 : decode cX3_comes 4 = .ok (.iload_n 1, 1) := by decide +kernel
theorem dX3_comes_5 : decode cX3_comes 5 = .ok (.iconst 1, 1) := by decide +kernel
theorem dX3_comes_6 : decode cX3_comes 6 = .ok (.bastore, 1) := by decide +kernel
theorem dX3_comes_7 : decode cX3_comes 7 = .ok (.aload_n 0, 1) := by decide +kernel
theorem dX3_comes_8 : decode cX3_comes 8 = .ok (.getfield 47, 3) := by decide +kernel
theorem dX3_comes_11 : decode cX3_comes 11 = .ok (.iload_n 1, 1) := by decide +kernel
theorem dX3_comes_12 : decode cX3_comes 12 = .ok (.iload_n 2, 1) := by decide +kernel
theorem dX3_comes_13 : decode cX3_comes 13 = .ok (.iastore, 1) := by decide +kernel
theorem dX3_comes_14 : decode cX3_comes 14 = .ok (.aload_n 0, 1) := by decide +kernel
theorem dX3_comes_15 : decode cX3_comes 15 = .ok (.getfield 50, 3) := by decide +kernel
theorem dX3_comes_18 : decode cX3_comes 18 = .ok (.iload_n 1, 1) := by decide +kernel
theorem dX3_comes_19 : decode cX3_comes 19 = .ok (.iload_n 3, 1) := by decide +kernel
theorem dX3_comes_20 : decode cX3_comes 20 = .ok (.iastore, 1) := by decide +kernel
theorem dX3_comes_21 : decode cX3_comes 21 = .ok (.aload_n 0, 1) := by decide +kernel
theorem dX3_comes_22 : decode cX3_comes 22 = .ok (.getfield 53, 3) := by decide +kernel
theorem dX3_comes_25 : decode cX3_comes 25 = .ok (.iload_n 1, 1) := by decide +kernel
theorem dX3_comes_26 : decode cX3_comes 26 = .ok (.iload 4, 2) := by decide +kernel
theorem dX3_comes_28 : decode cX3_comes 28 = .ok (.iastore, 1) := by decide +kernel
theorem dX3_comes_29 : decode cX3_comes 29 = .ok (.aload_n 0, 1) := by decide +kernel
theorem dX3_comes_30 : decode cX3_comes 30 = .ok (.getfield 59, 3) := by decide +kernel
theorem dX3_comes_33 : decode cX3_comes 33 = .ok (.iload_n 1, 1) := by decide +kernel
theorem dX3_comes_34 : decode cX3_comes 34 = .ok (.iload 5, 2) := by decide +kernel
theorem dX3_comes_36 : decode cX3_comes 36 = .ok (.bastore, 1) := by decide +kernel
theorem dX3_comes_37 : decode cX3_comes 37 = .ok (.iconst 0, 1) := by decide +kernel
theorem dX3_comes_38 : decode cX3_comes 38 = .ok (.istore 6, 2) := by decide +kernel
theorem dX3_comes_40 : decode cX3_comes 40 = .ok (.iload 6, 2) := by decide +kernel
theorem dX3_comes_42 : decode cX3_comes 42 = .ok (.iconst 3, 1) := by decide +kernel
theorem dX3_comes_43 : decode cX3_comes 43 = .ok (.if_icmp .ge 21, 3) := by decide +kernel
theorem dX3_comes_46 : decode cX3_comes 46 = .ok (.aload_n 0, 1) := by decide +kernel
theorem dX3_comes_47 : decode cX3_comes 47 = .ok (.getfield 56, 3) := by decide +kernel
theorem dX3_comes_50 : decode cX3_comes 50 = .ok (.iconst 3, 1) := by decide +kernel
theorem dX3_comes_51 : decode cX3_comes 51 = .ok (.iload_n 1, 1) := by decide +kernel
theorem dX3_comes_52 : decode cX3_comes 52 = .ok (.imul, 1) := by decide +kernel
theorem dX3_comes_53 : decode cX3_comes 53 = .ok (.iload 6, 2) := by decide +kernel
theorem dX3_comes_55 : decode cX3_comes 55 = .ok (.iadd, 1) := by decide +kernel
theorem dX3_comes_56 : decode cX3_comes 56 = .ok (.iconst 0, 1) := by decide +kernel
theorem dX3_comes_57 : decode cX3_comes 57 = .ok (.iastore, 1) := by decide +kernel
theorem dX3_comes_58 : decode cX3_comes 58 = .ok (.iinc 6 1, 3) := by decide +kernel
theorem dX3_comes_61 : decode cX3_comes 61 = .ok (.goto (-21), 3) := by decide +kernel
theorem dX3_comes_64 : decode cX3_comes 64 = .ok (.return_, 1) := by decide +kernel
set_option maxRecDepth 20000 in
theorem ggX3_parts_X3_comes : GoodIn wsX3_parts wsX3_comes := goodIn_r _ [14, 9, 7, 4, 5, 6, 8, 15, 16, 17, 18, 19, 20, 21, 22, 23, 24, 25, 26, 27, 28, 29, 30, 31, 32, 33, 34, 35, 36, 37] rfl (by decide +kernel)
set_option maxRecDepth 20000 in
theorem gX3_parts_X3_comes : GoodIn wsX3_parts (wsV RX3 100 RX3 yX3_comes wsX3_comes) := goodIn_app (goodIn_of _ (by decide +kernel)) ggX3_parts_X3_comes
theorem dX3_parts_0 : decode cX3_parts 0 = .ok (.aload_n 0, 1) := by decide +kernel
theorem dX3_parts_1 : decode cX3_parts 1 = .ok (.getfield 16, 3) := by decide +kernel
theorem dX3_parts_4 : decode cX3_parts 4 = .ok (.iload_n 1, 1) := by decide +kernel
theorem dX3_parts_5 : decode cX3_parts 5 = .ok (.iaload, 1) := by decide +kernel
theorem dX3_parts_6 : decode cX3_parts 6 = .ok (.istore_n 2, 1) := by decide +kernel
theorem dX3_parts_7 : decode cX3_parts 7 = .ok (.aload_n 0, 1) := by decide +kernel
theorem dX3_parts_8 : decode cX3_parts 8 = .ok (.getfield 28, 3) := by decide +kernel
theorem dX3_parts_11 : decode cX3_parts 11 = .ok (.iload_n 1, 1) := by decide +kernel
theorem dX3_parts_12 : decode cX3_parts 12 = .ok (.iaload, 1) := by decide +kernel
theorem dX3_parts_13 : decode cX3_parts 13 = .ok (.istore_n 3, 1) := by decide +kernel
theorem dX3_parts_14 : decode cX3_parts 14 = .ok (.aload_n 0, 1) := by decide +kernel
theorem dX3_parts_15 : decode cX3_parts 15 = .ok (.iload_n 3, 1) := by decide +kernel
theorem dX3_parts_16 : decode cX3_parts 16 = .ok (.aload_n 0, 1) := by decide +kernel
theorem dX3_parts_17 : decode cX3_parts 17 = .ok (.getfield 22, 3) := by decide +kernel
theorem dX3_parts_20 : decode cX3_parts 20 = .ok (.iload_n 1, 1) := by decide +kernel
theorem dX3_parts_21 : decode cX3_parts 21 = .ok (.iaload, 1) := by decide +kernel
theorem dX3_parts_22 : decode cX3_parts 22 = .ok (.aload_n 0, 1) := by decide +kernel
theorem dX3_parts_23 : decode cX3_parts 23 = .ok (.getfield 50, 3) := by decide +kernel
theorem dX3_parts_26 : decode cX3_parts 26 = .ok (.iload_n 2, 1) := by decide +kernel
theorem dX3_parts_27 : decode cX3_parts 27 = .ok (.iaload, 1) := by decide +kernel
theorem dX3_parts_28 : decode cX3_parts 28 = .ok (.aload_n 0, 1) := by decide +kernel
theorem dX3_parts_29 : decode cX3_parts 29 = .ok (.getfield 53, 3) := by decide +kernel
theorem dX3_parts_32 : decode cX3_parts 32 = .ok (.iload_n 2, 1) := by decide +kernel
theorem dX3_parts_33 : decode cX3_parts 33 = .ok (.iaload, 1) := by decide +kernel
theorem dX3_parts_34 : decode cX3_parts 34 = .ok (.aload_n 0, 1) := by decide +kernel
theorem dX3_parts_35 : decode cX3_parts 35 = .ok (.getfield 59, 3) := by decide +kernel
theorem dX3_parts_38 : decode cX3_parts 38 = .ok (.iload_n 2, 1) := by decide +kernel
theorem dX3_parts_39 : decode cX3_parts 39 = .ok (.baload, 1) := by decide +kernel
theorem dX3_parts_40 : decode cX3_parts 40 = .ok (.invokevirtual 100, 3) := by decide +kernel
theorem dX3_parts_43 : decode cX3_parts 43 = .ok (.aload_n 0, 1) := by decide +kernel
theorem dX3_parts_44 : decode cX3_parts 44 = .ok (.iload_n 3, 1) := by decide +kernel
theorem dX3_parts_45 : decode cX3_parts 45 = .ok (.iconst 1, 1) := by decide +kernel
theorem dX3_parts_46 : decode cX3_parts 46 = .ok (.iadd, 1) := by decide +kernel
theorem dX3_parts_47 : decode cX3_parts 47 = .ok (.aload_n 0, 1) := by decide +kernel
theorem dX3_parts_48 : decode cX3_parts 48 = .ok (.getfield 47, 3) := by decide +kernel
theorem dX3_parts_51 : decode cX3_parts 51 = .ok (.iload_n 2, 1) := by decide +kernel
theorem dX3_parts_52 : decode cX3_parts 52 = .ok (.iaload, 1) := by decide +kernel
theorem dX3_parts_53 : decode cX3_parts 53 = .ok (.aload_n 0, 1) := by decide +kernel
theorem dX3_parts_54 : decode cX3_parts 54 = .ok (.getfield 22, 3) := by decide +kernel
theorem dX3_parts_57 : decode cX3_parts 57 = .ok (.iload_n 1, 1) := by decide +kernel
theorem dX3_parts_58 : decode cX3_parts 58 = .ok (.iaload, 1) := by decide +kernel
theorem dX3_parts_59 : decode cX3_parts 59 = .ok (.isub, 1) := by decide +kernel
theorem dX3_parts_60 : decode cX3_parts 60 = .ok (.aload_n 0, 1) := by decide +kernel
theorem dX3_parts_61 : decode cX3_parts 61 = .ok (.getfield 50, 3) := by decide +kernel
theorem dX3_parts_64 : decode cX3_parts 64 = .ok (.iload_n 2, 1) := by decide +kernel
theorem dX3_parts_65 : decode cX3_parts 65 = .ok (.iaload, 1) := by decide +kernel
theorem dX3_parts_66 : decode cX3_parts 66 = .ok (.aload_n 0, 1) := by decide +kernel
theorem dX3_parts_67 : decode cX3_parts 67 = .ok (.getfield 53, 3) := by decide +kernel
theorem dX3_parts_70 : decode cX3_parts 70 = .ok (.iload_n 2, 1) := by decide +kernel
theorem dX3_parts_71 : decode cX3_parts 71 = .ok (.iaload, 1) := by decide +kernel
theorem dX3_parts_72 : decode cX3_parts 72 = .ok (.aload_n 0, 1) := by decide +kernel
theorem dX3_parts_73 : decode cX3_parts 73 = .ok (.getfield 59, 3) := by decide +kernel
theorem dX3_parts_76 : decode cX3_parts 76 = .ok (.iload_n 2, 1) := by decide +kernel
theorem dX3_parts_77 : decode cX3_parts 77 = .ok (.baload, 1) := by decide +kernel
theorem dX3_parts_78 : decode cX3_parts 78 = .ok (.invokevirtual 100, 3) := by decide +kernel
theorem dX3_parts_81 : decode cX3_parts 81 = .ok (.iconst 0, 1) := by decide +kernel
theorem dX3_parts_82 : decode cX3_parts 82 = .ok (.istore 4, 2) := by decide +kernel
theorem dX3_parts_84 : decode cX3_parts 84 = .ok (.iload 4, 2) := by decide +kernel
theorem dX3_parts_86 : decode cX3_parts 86 = .ok (.iconst 3, 1) := by decide +kernel
theorem dX3_parts_87 : decode cX3_parts 87 = .ok (.if_icmp .ge 85, 3) := by decide +kernel
theorem dX3_parts_90 : decode cX3_parts 90 = .ok (.aload_n 0, 1) := by decide +kernel
theorem dX3_parts_91 : decode cX3_parts 91 = .ok (.getfield 56, 3) := by decide +kernel
theorem dX3_parts_94 : decode cX3_parts 94 = .ok (.iconst 3, 1) := by decide +kernel
theorem dX3_parts_95 : decode cX3_parts 95 = .ok (.iload_n 3, 1) := by decide +kernel
theorem dX3_parts_96 : decode cX3_parts 96 = .ok (.imul, 1) := by decide +kernel
theorem dX3_parts_97 : decode cX3_parts 97 = .ok (.iload 4, 2) := by decide +kernel
theorem dX3_parts_99 : decode cX3_parts 99 = .ok (.iadd, 1) := by decide +kernel
theorem dX3_parts_100 : decode cX3_parts 100 = .ok (.aload_n 0, 1) := by decide +kernel
theorem dX3_parts_101 : decode cX3_parts 101 = .ok (.getfield 56, 3) := by decide +kernel
theorem dX3_parts_104 : decode cX3_parts 104 = .ok (.iconst 3, 1) := by decide +kernel
theorem dX3_parts_105 : decode cX3_parts 105 = .ok (.iload_n 2, 1) := by decide +kernel
theorem dX3_parts_106 : decode cX3_parts 106 = .ok (.imul, 1) := by decide +kernel
theorem dX3_parts_107 : decode cX3_parts 107 = .ok (.iload 4, 2) := by decide +kernel
theorem dX3_parts_109 : decode cX3_parts 109 = .ok (.iadd, 1) := by decide +kernel
theorem dX3_parts_110 : decode cX3_parts 110 = .ok (.iaload, 1) := by decide +kernel
theorem dX3_parts_111 : decode cX3_parts 111 = .ok (.i2l, 1) := by decide +kernel
theorem dX3_parts_112 : decode cX3_parts 112 = .ok (.aload_n 0, 1) := by decide +kernel
theorem dX3_parts_113 : decode cX3_parts 113 = .ok (.getfield 22, 3) := by decide +kernel
theorem dX3_parts_116 : decode cX3_parts 116 = .ok (.iload_n 1, 1) := by decide +kernel
theorem dX3_parts_117 : decode cX3_parts 117 = .ok (.iaload, 1) := by decide +kernel
theorem dX3_parts_118 : decode cX3_parts 118 = .ok (.i2l, 1) := by decide +kernel
theorem dX3_parts_119 : decode cX3_parts 119 = .ok (.lmul, 1) := by decide +kernel
theorem dX3_parts_120 : decode cX3_parts 120 = .ok (.aload_n 0, 1) := by decide +kernel
theorem dX3_parts_121 : decode cX3_parts 121 = .ok (.getfield 47, 3) := by decide +kernel
theorem dX3_parts_124 : decode cX3_parts 124 = .ok (.iload_n 2, 1) := by decide +kernel
theorem dX3_parts_125 : decode cX3_parts 125 = .ok (.iaload, 1) := by decide +kernel
theorem dX3_parts_126 : decode cX3_parts 126 = .ok (.i2l, 1) := by decide +kernel
theorem dX3_parts_127 : decode cX3_parts 127 = .ok (.ldiv, 1) := by decide +kernel
theorem dX3_parts_128 : decode cX3_parts 128 = .ok (.l2i, 1) := by decide +kernel
theorem dX3_parts_129 : decode cX3_parts 129 = .ok (.iastore, 1) := by decide +kernel
theorem dX3_parts_130 : decode cX3_parts 130 = .ok (.aload_n 0, 1) := by decide +kernel
theorem dX3_parts_131 : decode cX3_parts 131 = .ok (.getfield 56, 3) := by decide +kernel
theorem dX3_parts_134 : decode cX3_parts 134 = .ok (.iconst 3, 1) := by decide +kernel
theorem dX3_parts_135 : decode cX3_parts 135 = .ok (.iload_n 3, 1) := by decide +kernel
theorem dX3_parts_136 : decode cX3_parts 136 = .ok (.imul, 1) := by decide +kernel
theorem dX3_parts_137 : decode cX3_parts 137 = .ok (.iconst 3, 1) := by decide +kernel
theorem dX3_parts_138 : decode cX3_parts 138 = .ok (.iadd, 1) := by decide +kernel
theorem dX3_parts_139 : decode cX3_parts 139 = .ok (.iload 4, 2) := by decide +kernel
theorem dX3_parts_141 : decode cX3_parts 141 = .ok (.iadd, 1) := by decide +kernel
theorem dX3_parts_142 : decode cX3_parts 142 = .ok (.aload_n 0, 1) := by decide +kernel
theorem dX3_parts_143 : decode cX3_parts 143 = .ok (.getfield 56, 3) := by decide +kernel
theorem dX3_parts_146 : decode cX3_parts 146 = .ok (.iconst 3, 1) := by decide +kernel
theorem dX3_parts_147 : decode cX3_parts 147 = .ok (.iload_n 2, 1) := by decide +kernel
theorem dX3_parts_148 : decode cX3_parts 148 = .ok (.imul, 1) := by decide +kernel
theorem dX3_parts_149 : decode cX3_parts 149 = .ok (.iload 4, 2) := by decide +kernel
theorem dX3_parts_151 : decode cX3_parts 151 = .ok (.iadd, 1) := by decide +kernel
theorem dX3_parts_152 : decode cX3_parts 152 = .ok (.iaload, 1) := by decide +kernel
theorem dX3_parts_153 : decode cX3_parts 153 = .ok (.aload_n 0, 1) := by decide +kernel
theorem dX3_parts_154 : decode cX3_parts 154 = .ok (.getfield 56, 3) := by decide +kernel
theorem dX3_parts_157 : decode cX3_parts 157 = .ok (.iconst 3, 1) := by decide +kernel
theorem dX3_parts_158 : decode cX3_parts 158 = .ok (.iload_n 3, 1) := by decide +kernel
theorem dX3_parts_159 : decode cX3_parts 159 = .ok (.imul, 1) := by decide +kernel
theorem dX3_parts_160 : decode cX3_parts 160 = .ok (.iload 4, 2) := by decide +kernel
theorem dX3_parts_162 : decode cX3_parts 162 = .ok (.iadd, 1) := by decide +kernel
theorem dX3_parts_163 : decode cX3_parts 163 = .ok (.iaload, 1) := by decide +kernel
theorem dX3_parts_164 : decode cX3_parts 164 = .ok (.isub, 1) := by decide +kernel
theorem dX3_parts_165 : decode cX3_parts 165 = .ok (.iastore, 1) := by decide +kernel
theorem dX3_parts_166 : decode cX3_parts 166 = .ok (.iinc 4 1, 3) := by decide +kernel
theorem dX3_parts_169 : decode cX3_parts 169 = .ok (.goto (-85), 3) := by decide +kernel
theorem dX3_parts_172 : decode cX3_parts 172 = .ok (.aload_n 0, 1) := by decide +kernel
theorem dX3_parts_173 : decode cX3_parts 173 = .ok (.getfield 43, 3) := by decide +kernel
theorem dX3_parts_176 : decode cX3_parts 176 = .ok (.iload_n 2, 1) := by decide +kernel
theorem dX3_parts_177 : decode cX3_parts 177 = .ok (.iconst 0, 1) := by decide +kernel
theorem dX3_parts_178 : decode cX3_parts 178 = .ok (.bastore, 1) := by decide +kernel
theorem dX3_parts_179 : decode cX3_parts 179 = .ok (.return_, 1) := by decide +kernel
set_option maxRecDepth 20000 in
theorem ggX3_joins_X3_comes : GoodIn wsX3_joins wsX3_comes := goodIn_r _ [14, 9, 4, 5, 6, 7, 8, 15, 16, 17, 18, 19, 20, 21, 22, 23, 24, 25, 26, 27, 28, 29, 30, 31, 32, 33, 34, 35, 36, 37] rfl (by decide +kernel)
set_option maxRecDepth 20000 in
theorem gX3_joins_X3_comes : GoodIn wsX3_joins (wsV RX3 100 RX3 yX3_comes wsX3_comes) := goodIn_app (goodIn_of _ (by decide +kernel)) ggX3_joins_X3_comes
theorem dX3_joins_0 : decode cX3_joins 0 = .ok (.aload_n 0, 1) := by decide +kernel
theorem dX3_joins_1 : decode cX3_joins 1 = .ok (.getfield 16, 3) := by decide +kernel
theorem dX3_joins_4 : decode cX3_joins 4 = .ok (.iload_n 1, 1) := by decide +kernel
theorem dX3_joins_5 : decode cX3_joins 5 = .ok (.iaload, 1) := by decide +kernel
theorem dX3_joins_6 : decode cX3_joins 6 = .ok (.istore_n 2, 1) := by decide +kernel
theorem dX3_joins_7 : decode cX3_joins 7 = .ok (.aload_n 0, 1) := by decide +kernel
theorem dX3_joins_8 : decode cX3_joins 8 = .ok (.getfield 19, 3) := by decide +kernel
theorem dX3_joins_11 : decode cX3_joins 11 = .ok (.iload_n 1, 1) := by decide +kernel
theorem dX3_joins_12 : decode cX3_joins 12 = .ok (.iaload, 1) := by decide +kernel
theorem dX3_joins_13 : decode cX3_joins 13 = .ok (.istore_n 3, 1) := by decide +kernel
theorem dX3_joins_14 : decode cX3_joins 14 = .ok (.aload_n 0, 1) := by decide +kernel
theorem dX3_joins_15 : decode cX3_joins 15 = .ok (.aload_n 0, 1) := by decide +kernel
theorem dX3_joins_16 : decode cX3_joins 16 = .ok (.getfield 28, 3) := by decide +kernel
theorem dX3_joins_19 : decode cX3_joins 19 = .ok (.iload_n 1, 1) := by decide +kernel
theorem dX3_joins_20 : decode cX3_joins 20 = .ok (.iaload, 1) := by decide +kernel
theorem dX3_joins_21 : decode cX3_joins 21 = .ok (.aload_n 0, 1) := by decide +kernel
theorem dX3_joins_22 : decode cX3_joins 22 = .ok (.getfield 47, 3) := by decide +kernel
theorem dX3_joins_25 : decode cX3_joins 25 = .ok (.iload_n 2, 1) := by decide +kernel
theorem dX3_joins_26 : decode cX3_joins 26 = .ok (.iaload, 1) := by decide +kernel
theorem dX3_joins_27 : decode cX3_joins 27 = .ok (.aload_n 0, 1) := by decide +kernel
theorem dX3_joins_28 : decode cX3_joins 28 = .ok (.getfield 47, 3) := by decide +kernel
theorem dX3_joins_31 : decode cX3_joins 31 = .ok (.iload_n 3, 1) := by decide +kernel
theorem dX3_joins_32 : decode cX3_joins 32 = .ok (.iaload, 1) := by decide +kernel
theorem dX3_joins_33 : decode cX3_joins 33 = .ok (.iadd, 1) := by decide +kernel
theorem dX3_joins_34 : decode cX3_joins 34 = .ok (.aload_n 0, 1) := by decide +kernel
theorem dX3_joins_35 : decode cX3_joins 35 = .ok (.getfield 50, 3) := by decide +kernel
theorem dX3_joins_38 : decode cX3_joins 38 = .ok (.iload_n 2, 1) := by decide +kernel
theorem dX3_joins_39 : decode cX3_joins 39 = .ok (.iaload, 1) := by decide +kernel
theorem dX3_joins_40 : decode cX3_joins 40 = .ok (.aload_n 0, 1) := by decide +kernel
theorem dX3_joins_41 : decode cX3_joins 41 = .ok (.getfield 53, 3) := by decide +kernel
theorem dX3_joins_44 : decode cX3_joins 44 = .ok (.iload_n 2, 1) := by decide +kernel
theorem dX3_joins_45 : decode cX3_joins 45 = .ok (.iaload, 1) := by decide +kernel
theorem dX3_joins_46 : decode cX3_joins 46 = .ok (.aload_n 0, 1) := by decide +kernel
theorem dX3_joins_47 : decode cX3_joins 47 = .ok (.getfield 59, 3) := by decide +kernel
theorem dX3_joins_50 : decode cX3_joins 50 = .ok (.iload_n 2, 1) := by decide +kernel
theorem dX3_joins_51 : decode cX3_joins 51 = .ok (.baload, 1) := by decide +kernel
theorem dX3_joins_52 : decode cX3_joins 52 = .ok (.invokevirtual 100, 3) := by decide +kernel
theorem dX3_joins_55 : decode cX3_joins 55 = .ok (.iconst 0, 1) := by decide +kernel
theorem dX3_joins_56 : decode cX3_joins 56 = .ok (.istore 4, 2) := by decide +kernel
theorem dX3_joins_58 : decode cX3_joins 58 = .ok (.iload 4, 2) := by decide +kernel
theorem dX3_joins_60 : decode cX3_joins 60 = .ok (.iconst 3, 1) := by decide +kernel
theorem dX3_joins_61 : decode cX3_joins 61 = .ok (.if_icmp .ge 48, 3) := by decide +kernel
theorem dX3_joins_64 : decode cX3_joins 64 = .ok (.aload_n 0, 1) := by decide +kernel
theorem dX3_joins_65 : decode cX3_joins 65 = .ok (.getfield 56, 3) := by decide +kernel
theorem dX3_joins_68 : decode cX3_joins 68 = .ok (.iconst 3, 1) := by decide +kernel
theorem dX3_joins_69 : decode cX3_joins 69 = .ok (.aload_n 0, 1) := by decide +kernel
theorem dX3_joins_70 : decode cX3_joins 70 = .ok (.getfield 28, 3) := by decide +kernel
theorem dX3_joins_73 : decode cX3_joins 73 = .ok (.iload_n 1, 1) := by decide +kernel
theorem dX3_joins_74 : decode cX3_joins 74 = .ok (.iaload, 1) := by decide +kernel
theorem dX3_joins_75 : decode cX3_joins 75 = .ok (.imul, 1) := by decide +kernel
theorem dX3_joins_76 : decode cX3_joins 76 = .ok (.iload 4, 2) := by decide +kernel
theorem dX3_joins_78 : decode cX3_joins 78 = .ok (.iadd, 1) := by decide +kernel
theorem dX3_joins_79 : decode cX3_joins 79 = .ok (.aload_n 0, 1) := by decide +kernel
theorem dX3_joins_80 : decode cX3_joins 80 = .ok (.getfield 56, 3) := by decide +kernel
theorem dX3_joins_83 : decode cX3_joins 83 = .ok (.iconst 3, 1) := by decide +kernel
theorem dX3_joins_84 : decode cX3_joins 84 = .ok (.iload_n 2, 1) := by decide +kernel
theorem dX3_joins_85 : decode cX3_joins 85 = .ok (.imul, 1) := by decide +kernel
theorem dX3_joins_86 : decode cX3_joins 86 = .ok (.iload 4, 2) := by decide +kernel
theorem dX3_joins_88 : decode cX3_joins 88 = .ok (.iadd, 1) := by decide +kernel
theorem dX3_joins_89 : decode cX3_joins 89 = .ok (.iaload, 1) := by decide +kernel
theorem dX3_joins_90 : decode cX3_joins 90 = .ok (.aload_n 0, 1) := by decide +kernel
theorem dX3_joins_91 : decode cX3_joins 91 = .ok (.getfield 56, 3) := by decide +kernel
theorem dX3_joins_94 : decode cX3_joins 94 = .ok (.iconst 3, 1) := by decide +kernel
theorem dX3_joins_95 : decode cX3_joins 95 = .ok (.iload_n 3, 1) := by decide +kernel
theorem dX3_joins_96 : decode cX3_joins 96 = .ok (.imul, 1) := by decide +kernel
theorem dX3_joins_97 : decode cX3_joins 97 = .ok (.iload 4, 2) := by decide +kernel
theorem dX3_joins_99 : decode cX3_joins 99 = .ok (.iadd, 1) := by decide +kernel
theorem dX3_joins_100 : decode cX3_joins 100 = .ok (.iaload, 1) := by decide +kernel
theorem dX3_joins_101 : decode cX3_joins 101 = .ok (.iadd, 1) := by decide +kernel
theorem dX3_joins_102 : decode cX3_joins 102 = .ok (.iastore, 1) := by decide +kernel
theorem dX3_joins_103 : decode cX3_joins 103 = .ok (.iinc 4 1, 3) := by decide +kernel
theorem dX3_joins_106 : decode cX3_joins 106 = .ok (.goto (-48), 3) := by decide +kernel
theorem dX3_joins_109 : decode cX3_joins 109 = .ok (.aload_n 0, 1) := by decide +kernel
theorem dX3_joins_110 : decode cX3_joins 110 = .ok (.getfield 43, 3) := by decide +kernel
theorem dX3_joins_113 : decode cX3_joins 113 = .ok (.iload_n 2, 1) := by decide +kernel
theorem dX3_joins_114 : decode cX3_joins 114 = .ok (.iconst 0, 1) := by decide +kernel
theorem dX3_joins_115 : decode cX3_joins 115 = .ok (.bastore, 1) := by decide +kernel
theorem dX3_joins_116 : decode cX3_joins 116 = .ok (.aload_n 0, 1) := by decide +kernel
theorem dX3_joins_117 : decode cX3_joins 117 = .ok (.getfield 43, 3) := by decide +kernel
theorem dX3_joins_120 : decode cX3_joins 120 = .ok (.iload_n 3, 1) := by decide +kernel
theorem dX3_joins_121 : decode cX3_joins 121 = .ok (.iconst 0, 1) := by decide +kernel
theorem dX3_joins_122 : decode cX3_joins 122 = .ok (.bastore, 1) := by decide +kernel
theorem dX3_joins_123 : decode cX3_joins 123 = .ok (.return_, 1) := by decide +kernel
