set_option maxRecDepth 20000 in
theorem ggX3_parish_X3_isKnowing : GoodIn wsX3_parish wsX3_isKnowing := goodIn_r _ [12, 13, 14, 15, 11, 16, 78, 79, 80, 81, 82, 83, 84, 85, 86, 87, 88, 89, 90, 91, 92, 93, 94, 95, 96, 97, 98, 99, 100] rfl (by decide +kernel)
set_option maxRecDepth 20000 in
theorem gX3_parish_X3_isKnowing : GoodIn wsX3_parish (wsV RX3 93 RX3 yX3_isKnowing wsX3_isKnowing) := goodIn_app (goodIn_of _ (by decide +kernel)) ggX3_parish_X3_isKnowing
set_option maxRecDepth 20000 in
theorem ggX3_parish_X3_lies : GoodIn wsX3_parish wsX3_lies := goodIn_r _ [16] rfl (by decide +kernel)
set_option maxRecDepth 20000 in
theorem gX3_parish_X3_lies : GoodIn wsX3_parish (va_wsS RX3 76 yX3_lies wsX3_lies) := goodIn_app (goodIn_of _ (by decide +kernel)) ggX3_parish_X3_lies
set_option maxRecDepth 20000 in
theorem ggX3_parish_X3_works : GoodIn wsX3_parish wsX3_works := goodIn_r _ [20, 3, 7, 21, 22, 23, 24, 25, 11, 26, 27, 28, 4, 29, 30, 31, 6, 32, 33, 34, 35, 36, 37, 38, 39, 2, 14, 15, 16, 40, 41, 42, 43, 44, 45, 46, 47, 48, 49, 50, 51, 52, 53, 54, 55, 56, 57, 5, 58, 59, 60, 61, 62, 63, 64, 65, 66, 67, 68, 69, 70, 71, 72, 73, 74, 75, 1, 76, 77, 78, 79, 80, 81, 82, 83, 84, 85, 86, 87, 88, 89, 90, 91, 92, 93, 94, 95, 96, 97, 98, 99, 100] rfl (by decide +kernel)
set_option maxRecDepth 20000 in
theorem gX3_parish_X3_works : GoodIn wsX3_parish (wsV RX3 142 RX3 yX3_works wsX3_works) := goodIn_app (goodIn_of _ (by decide +kernel)) ggX3_parish_X3_works
theorem dX3_parish_0 : decode cX3_parish 0 = .ok (.aload_n 0, 1) := by decide +kernel
theorem dX3_parish_1 : decode cX3_parish 1 = .ok (.iload_n 1, 1) := by decide +kernel
theorem dX3_parish_2 : decode cX3_parish 2 = .ok (.invokevirtual 93, 3) := by decide +kernel
theorem dX3_parish_5 : decode cX3_parish 5 = .ok (.ifCond .eq 14, 3) := by decide +kernel
theorem dX3_parish_8 : decode cX3_parish 8 = .ok (.iload_n 2, 1) := by decide +kernel
theorem dX3_parish_9 : decode cX3_parish 9 = .ok (.iconst 0, 1) := by decide +kernel
theorem dX3_parish_10 : decode cX3_parish 10 = .ok (.sipush 200, 3) := by decide +kernel
theorem dX3_parish_13 : decode cX3_parish 13 = .ok (.invokestatic 76, 3) := by decide +kernel
theorem dX3_parish_16 : decode cX3_parish 16 = .ok (.ifCond .ne 7, 3) := by decide +kernel
theorem dX3_parish_19 : decode cX3_parish 19 = .ok (.ldc2_w 104, 3) := by decide +kernel
theorem dX3_parish_22 : decode cX3_parish 22 = .ok (.lreturn, 1) := by decide +kernel
theorem dX3_parish_23 : decode cX3_parish 23 = .ok (.aload_n 0, 1) := by decide +kernel
theorem dX3_parish_24 : decode cX3_parish 24 = .ok (.iload_n 1, 1) := by decide +kernel
theorem dX3_parish_25 : decode cX3_parish 25 = .ok (.iload_n 2, 1) := by decide +kernel
theorem dX3_parish_26 : decode cX3_parish 26 = .ok (.iconst (-1), 1) := by decide +kernel
theorem dX3_parish_27 : decode cX3_parish 27 = .ok (.invokevirtual 142, 3) := by decide +kernel
theorem dX3_parish_30 : decode cX3_parish 30 = .ok (.istore 4, 2) := by decide +kernel
theorem dX3_parish_32 : decode cX3_parish 32 = .ok (.lconst 0, 1) := by decide +kernel
theorem dX3_parish_33 : decode cX3_parish 33 = .ok (.lstore 5, 2) := by decide +kernel
theorem dX3_parish_35 : decode cX3_parish 35 = .ok (.iconst 0, 1) := by decide +kernel
theorem dX3_parish_36 : decode cX3_parish 36 = .ok (.istore 7, 2) := by decide +kernel
theorem dX3_parish_38 : decode cX3_parish 38 = .ok (.iload 7, 2) := by decide +kernel
theorem dX3_parish_40 : decode cX3_parish 40 = .ok (.aload_n 0, 1) := by decide +kernel
theorem dX3_parish_41 : decode cX3_parish 41 = .ok (.getfield 80, 3) := by decide +kernel
theorem dX3_parish_44 : decode cX3_parish 44 = .ok (.if_icmp .ge 103, 3) := by decide +kernel
theorem dX3_parish_47 : decode cX3_parish 47 = .ok (.aload_n 0, 1) := by decide +kernel
theorem dX3_parish_48 : decode cX3_parish 48 = .ok (.getfield 43, 3) := by decide +kernel
theorem dX3_parish_51 : decode cX3_parish 51 = .ok (.iload 7, 2) := by decide +kernel
theorem dX3_parish_53 : decode cX3_parish 53 = .ok (.baload, 1) := by decide +kernel
theorem dX3_parish_54 : decode cX3_parish 54 = .ok (.ifCond .ne 6, 3) := by decide +kernel
theorem dX3_parish_57 : decode cX3_parish 57 = .ok (.goto 84, 3) := by decide +kernel
theorem dX3_parish_60 : decode cX3_parish 60 = .ok (.iload_n 3, 1) := by decide +kernel
theorem dX3_parish_61 : decode cX3_parish 61 = .ok (.ifCond .ne 9, 3) := by decide +kernel
theorem dX3_parish_64 : decode cX3_parish 64 = .ok (.lload 5, 2) := by decide +kernel
theorem dX3_parish_66 : decode cX3_parish 66 = .ok (.lconst 1, 1) := by decide +kernel
theorem dX3_parish_67 : decode cX3_parish 67 = .ok (.ladd, 1) := by decide +kernel
theorem dX3_parish_68 : decode cX3_parish 68 = .ok (.lstore 5, 2) := by decide +kernel
theorem dX3_parish_70 : decode cX3_parish 70 = .ok (.iload_n 3, 1) := by decide +kernel
theorem dX3_parish_71 : decode cX3_parish 71 = .ok (.iconst 1, 1) := by decide +kernel
theorem dX3_parish_72 : decode cX3_parish 72 = .ok (.if_icmp .ne 16, 3) := by decide +kernel
theorem dX3_parish_75 : decode cX3_parish 75 = .ok (.lload 5, 2) := by decide +kernel
theorem dX3_parish_77 : decode cX3_parish 77 = .ok (.aload_n 0, 1) := by decide +kernel
theorem dX3_parish_78 : decode cX3_parish 78 = .ok (.getfield 47, 3) := by decide +kernel
theorem dX3_parish_81 : decode cX3_parish 81 = .ok (.iload 7, 2) := by decide +kernel
theorem dX3_parish_83 : decode cX3_parish 83 = .ok (.iaload, 1) := by decide +kernel
theorem dX3_parish_84 : decode cX3_parish 84 = .ok (.i2l, 1) := by decide +kernel
theorem dX3_parish_85 : decode cX3_parish 85 = .ok (.ladd, 1) := by decide +kernel
theorem dX3_parish_86 : decode cX3_parish 86 = .ok (.lstore 5, 2) := by decide +kernel
theorem dX3_parish_88 : decode cX3_parish 88 = .ok (.iload_n 3, 1) := by decide +kernel
theorem dX3_parish_89 : decode cX3_parish 89 = .ok (.iconst 2, 1) := by decide +kernel
theorem dX3_parish_90 : decode cX3_parish 90 = .ok (.iconst 4, 1) := by decide +kernel
theorem dX3_parish_91 : decode cX3_parish 91 = .ok (.invokestatic 76, 3) := by decide +kernel
theorem dX3_parish_94 : decode cX3_parish 94 = .ok (.ifCond .eq 22, 3) := by decide +kernel
theorem dX3_parish_97 : decode cX3_parish 97 = .ok (.lload 5, 2) := by decide +kernel
theorem dX3_parish_99 : decode cX3_parish 99 = .ok (.aload_n 0, 1) := by decide +kernel
theorem dX3_parish_100 : decode cX3_parish 100 = .ok (.getfield 56, 3) := by decide +kernel
theorem dX3_parish_103 : decode cX3_parish 103 = .ok (.iconst 3, 1) := by decide +kernel
theorem dX3_parish_104 : decode cX3_parish 104 = .ok (.iload 7, 2) := by decide +kernel
theorem dX3_parish_106 : decode cX3_parish 106 = .ok (.imul, 1) := by decide +kernel
theorem dX3_parish_107 : decode cX3_parish 107 = .ok (.iload_n 3, 1) := by decide +kernel
theorem dX3_parish_108 : decode cX3_parish 108 = .ok (.iadd, 1) := by decide +kernel
theorem dX3_parish_109 : decode cX3_parish 109 = .ok (.iconst 2, 1) := by decide +kernel
theorem dX3_parish_110 : decode cX3_parish 110 = .ok (.isub, 1) := by decide +kernel
theorem dX3_parish_111 : decode cX3_parish 111 = .ok (.iaload, 1) := by decide +kernel
theorem dX3_parish_112 : decode cX3_parish 112 = .ok (.i2l, 1) := by decide +kernel
theorem dX3_parish_113 : decode cX3_parish 113 = .ok (.ladd, 1) := by decide +kernel
theorem dX3_parish_114 : decode cX3_parish 114 = .ok (.lstore 5, 2) := by decide +kernel
theorem dX3_parish_116 : decode cX3_parish 116 = .ok (.iload_n 3, 1) := by decide +kernel
theorem dX3_parish_117 : decode cX3_parish 117 = .ok (.iconst 5, 1) := by decide +kernel
theorem dX3_parish_118 : decode cX3_parish 118 = .ok (.if_icmp .ne 23, 3) := by decide +kernel
theorem dX3_parish_121 : decode cX3_parish 121 = .ok (.lload 5, 2) := by decide +kernel
theorem dX3_parish_123 : decode cX3_parish 123 = .ok (.aload_n 0, 1) := by decide +kernel
theorem dX3_parish_124 : decode cX3_parish 124 = .ok (.getfield 59, 3) := by decide +kernel
theorem dX3_parish_127 : decode cX3_parish 127 = .ok (.iload 7, 2) := by decide +kernel
theorem dX3_parish_129 : decode cX3_parish 129 = .ok (.baload, 1) := by decide +kernel
theorem dX3_parish_130 : decode cX3_parish 130 = .ok (.ifCond .eq 7, 3) := by decide +kernel
theorem dX3_parish_133 : decode cX3_parish 133 = .ok (.lconst 1, 1) := by decide +kernel
theorem dX3_parish_134 : decode cX3_parish 134 = .ok (.goto 4, 3) := by decide +kernel
theorem dX3_parish_137 : decode cX3_parish 137 = .ok (.lconst 0, 1) := by decide +kernel
theorem dX3_parish_138 : decode cX3_parish 138 = .ok (.ladd, 1) := by decide +kernel
theorem dX3_parish_139 : decode cX3_parish 139 = .ok (.lstore 5, 2) := by decide +kernel
theorem dX3_parish_141 : decode cX3_parish 141 = .ok (.iinc 7 1, 3) := by decide +kernel
theorem dX3_parish_144 : decode cX3_parish 144 = .ok (.goto (-106), 3) := by decide +kernel
theorem dX3_parish_147 : decode cX3_parish 147 = .ok (.iload_n 3, 1) := by decide +kernel
theorem dX3_parish_148 : decode cX3_parish 148 = .ok (.bipush 6, 2) := by decide +kernel
theorem dX3_parish_150 : decode cX3_parish 150 = .ok (.if_icmp .ne 18, 3) := by decide +kernel
theorem dX3_parish_153 : decode cX3_parish 153 = .ok (.aload_n 0, 1) := by decide +kernel
theorem dX3_parish_154 : decode cX3_parish 154 = .ok (.getfield 110, 3) := by decide +kernel
theorem dX3_parish_157 : decode cX3_parish 157 = .ok (.ifCond .eq 7, 3) := by decide +kernel
theorem dX3_parish_160 : decode cX3_parish 160 = .ok (.lconst 1, 1) := by decide +kernel
theorem dX3_parish_161 : decode cX3_parish 161 = .ok (.goto 24, 3) := by decide +kernel
theorem dX3_parish_164 : decode cX3_parish 164 = .ok (.lconst 0, 1) := by decide +kernel
theorem dX3_parish_165 : decode cX3_parish 165 = .ok (.goto 20, 3) := by decide +kernel
theorem dX3_parish_168 : decode cX3_parish 168 = .ok (.iload_n 3, 1) := by decide +kernel
theorem dX3_parish_169 : decode cX3_parish 169 = .ok (.iconst 0, 1) := by decide +kernel
theorem dX3_parish_170 : decode cX3_parish 170 = .ok (.iconst 5, 1) := by decide +kernel
theorem dX3_parish_171 : decode cX3_parish 171 = .ok (.invokestatic 76, 3) := by decide +kernel
theorem dX3_parish_174 : decode cX3_parish 174 = .ok (.ifCond .eq 8, 3) := by decide +kernel
theorem dX3_parish_177 : decode cX3_parish 177 = .ok (.lload 5, 2) := by decide +kernel
theorem dX3_parish_179 : decode cX3_parish 179 = .ok (.goto 6, 3) := by decide +kernel
theorem dX3_parish_182 : decode cX3_parish 182 = .ok (.ldc2_w 104, 3) := by decide +kernel
theorem dX3_parish_185 : decode cX3_parish 185 = .ok (.lreturn, 1) := by decide +kernel
