set_option maxRecDepth 20000 in
theorem ggX3_differ_X3_isKnowing : GoodIn wsX3_differ wsX3_isKnowing := goodIn_r _ [8, 9, 10, 11, 7, 12, 83, 84, 85, 86, 87, 88, 89, 90, 91, 92, 93, 94, 95, 96, 97, 98, 99, 100, 101, 102, 103, 104, 105] rfl (by decide +kernel)
set_option maxRecDepth 20000 in
theorem gX3_differ_X3_isKnowing : GoodIn wsX3_differ (wsV RX3 93 RX3 yX3_isKnowing wsX3_isKnowing) := goodIn_app (goodIn_of _ (by decide +kernel)) ggX3_differ_X3_isKnowing
set_option maxRecDepth 20000 in
theorem ggX3_differ_X3_lies : GoodIn wsX3_differ wsX3_lies := goodIn_r _ [12] rfl (by decide +kernel)
set_option maxRecDepth 20000 in
theorem gX3_differ_X3_lies : GoodIn wsX3_differ (va_wsS RX3 76 yX3_lies wsX3_lies) := goodIn_app (goodIn_of _ (by decide +kernel)) ggX3_differ_X3_lies
set_option maxRecDepth 20000 in
theorem ggX3_differ_X3_works : GoodIn wsX3_differ wsX3_works := goodIn_r _ [16, 3, 17, 18, 19, 20, 21, 22, 7, 23, 24, 25, 26, 27, 28, 29, 30, 31, 32, 33, 34, 35, 36, 37, 38, 1, 10, 11, 12, 39, 40, 41, 42, 43, 44, 45, 46, 47, 48, 49, 50, 51, 52, 53, 54, 55, 56, 57, 58, 59, 60, 61, 62, 63, 64, 65, 66, 67, 68, 69, 70, 71, 72, 73, 74, 75, 76, 77, 78, 83, 84, 85, 86, 87, 88, 89, 90, 91, 92, 93, 94, 95, 96, 97, 98, 99, 100, 101, 102, 103, 104, 105] rfl (by decide +kernel)
set_option maxRecDepth 20000 in
theorem gX3_differ_X3_works : GoodIn wsX3_differ (wsV RX3 142 RX3 yX3_works wsX3_works) := goodIn_app (goodIn_of _ (by decide +kernel)) ggX3_differ_X3_works
set_option maxRecDepth 20000 in
theorem ggX3_differ_X3_tells : GoodIn wsX3_differ wsX3_tells := goodIn_r _ [82, 26, 28, 29, 57, 30, 31, 32, 33, 7, 34, 3, 35, 36, 37, 38, 1, 10, 11, 12, 83, 84, 85, 86, 87, 88, 89, 90, 91, 92, 93, 94, 95, 96, 97, 98, 99, 100, 101, 102, 103, 104, 105] rfl (by decide +kernel)
set_option maxRecDepth 20000 in
theorem gX3_differ_X3_tells : GoodIn wsX3_differ (wsV RX3 158 RX3 yX3_tells wsX3_tells) := goodIn_app (goodIn_of _ (by decide +kernel)) ggX3_differ_X3_tells
theorem dX3_differ_0 : decode cX3_differ 0 = .ok (.aload_n 0, 1) := by decide +kernel
theorem dX3_differ_1 : decode cX3_differ 1 = .ok (.iload_n 1, 1) := by decide +kernel
theorem dX3_differ_2 : decode cX3_differ 2 = .ok (.invokevirtual 93, 3) := by decide +kernel
theorem dX3_differ_5 : decode cX3_differ 5 = .ok (.ifCond .eq 27, 3) := by decide +kernel
theorem dX3_differ_8 : decode cX3_differ 8 = .ok (.aload_n 0, 1) := by decide +kernel
theorem dX3_differ_9 : decode cX3_differ 9 = .ok (.iload_n 2, 1) := by decide +kernel
theorem dX3_differ_10 : decode cX3_differ 10 = .ok (.invokevirtual 93, 3) := by decide +kernel
theorem dX3_differ_13 : decode cX3_differ 13 = .ok (.ifCond .eq 19, 3) := by decide +kernel
theorem dX3_differ_16 : decode cX3_differ 16 = .ok (.iload_n 3, 1) := by decide +kernel
theorem dX3_differ_17 : decode cX3_differ 17 = .ok (.iconst 0, 1) := by decide +kernel
theorem dX3_differ_18 : decode cX3_differ 18 = .ok (.sipush 200, 3) := by decide +kernel
theorem dX3_differ_21 : decode cX3_differ 21 = .ok (.invokestatic 76, 3) := by decide +kernel
theorem dX3_differ_24 : decode cX3_differ 24 = .ok (.ifCond .eq 8, 3) := by decide +kernel
theorem dX3_differ_27 : decode cX3_differ 27 = .ok (.iload 4, 2) := by decide +kernel
theorem dX3_differ_29 : decode cX3_differ 29 = .ok (.ifCond .ge 5, 3) := by decide +kernel
theorem dX3_differ_32 : decode cX3_differ 32 = .ok (.iconst (-1), 1) := by decide +kernel
theorem dX3_differ_33 : decode cX3_differ 33 = .ok (.ireturn, 1) := by decide +kernel
theorem dX3_differ_34 : decode cX3_differ 34 = .ok (.aload_n 0, 1) := by decide +kernel
theorem dX3_differ_35 : decode cX3_differ 35 = .ok (.iload_n 1, 1) := by decide +kernel
theorem dX3_differ_36 : decode cX3_differ 36 = .ok (.iload_n 3, 1) := by decide +kernel
theorem dX3_differ_37 : decode cX3_differ 37 = .ok (.iconst (-1), 1) := by decide +kernel
theorem dX3_differ_38 : decode cX3_differ 38 = .ok (.invokevirtual 142, 3) := by decide +kernel
theorem dX3_differ_41 : decode cX3_differ 41 = .ok (.istore 5, 2) := by decide +kernel
theorem dX3_differ_43 : decode cX3_differ 43 = .ok (.iconst 0, 1) := by decide +kernel
theorem dX3_differ_44 : decode cX3_differ 44 = .ok (.istore 6, 2) := by decide +kernel
theorem dX3_differ_46 : decode cX3_differ 46 = .ok (.iload 6, 2) := by decide +kernel
theorem dX3_differ_48 : decode cX3_differ 48 = .ok (.aload_n 0, 1) := by decide +kernel
theorem dX3_differ_49 : decode cX3_differ 49 = .ok (.getfield 80, 3) := by decide +kernel
theorem dX3_differ_52 : decode cX3_differ 52 = .ok (.if_icmp .ge 74, 3) := by decide +kernel
theorem dX3_differ_55 : decode cX3_differ 55 = .ok (.iconst 0, 1) := by decide +kernel
theorem dX3_differ_56 : decode cX3_differ 56 = .ok (.istore 7, 2) := by decide +kernel
theorem dX3_differ_58 : decode cX3_differ 58 = .ok (.iload 7, 2) := by decide +kernel
theorem dX3_differ_60 : decode cX3_differ 60 = .ok (.bipush 7, 2) := by decide +kernel
theorem dX3_differ_62 : decode cX3_differ 62 = .ok (.if_icmp .ge 30, 3) := by decide +kernel
theorem dX3_differ_65 : decode cX3_differ 65 = .ok (.aload_n 0, 1) := by decide +kernel
theorem dX3_differ_66 : decode cX3_differ 66 = .ok (.getfield 69, 3) := by decide +kernel
theorem dX3_differ_69 : decode cX3_differ 69 = .ok (.bipush 8, 2) := by decide +kernel
theorem dX3_differ_71 : decode cX3_differ 71 = .ok (.iload 6, 2) := by decide +kernel
theorem dX3_differ_73 : decode cX3_differ 73 = .ok (.imul, 1) := by decide +kernel
theorem dX3_differ_74 : decode cX3_differ 74 = .ok (.iload 7, 2) := by decide +kernel
theorem dX3_differ_76 : decode cX3_differ 76 = .ok (.iadd, 1) := by decide +kernel
theorem dX3_differ_77 : decode cX3_differ 77 = .ok (.aload_n 0, 1) := by decide +kernel
theorem dX3_differ_78 : decode cX3_differ 78 = .ok (.iload 6, 2) := by decide +kernel
theorem dX3_differ_80 : decode cX3_differ 80 = .ok (.iload 7, 2) := by decide +kernel
theorem dX3_differ_82 : decode cX3_differ 82 = .ok (.invokevirtual 158, 3) := by decide +kernel
theorem dX3_differ_85 : decode cX3_differ 85 = .ok (.iastore, 1) := by decide +kernel
theorem dX3_differ_86 : decode cX3_differ 86 = .ok (.iinc 7 1, 3) := by decide +kernel
theorem dX3_differ_89 : decode cX3_differ 89 = .ok (.goto (-31), 3) := by decide +kernel
theorem dX3_differ_92 : decode cX3_differ 92 = .ok (.aload_n 0, 1) := by decide +kernel
theorem dX3_differ_93 : decode cX3_differ 93 = .ok (.getfield 69, 3) := by decide +kernel
theorem dX3_differ_96 : decode cX3_differ 96 = .ok (.bipush 8, 2) := by decide +kernel
theorem dX3_differ_98 : decode cX3_differ 98 = .ok (.iload 6, 2) := by decide +kernel
theorem dX3_differ_100 : decode cX3_differ 100 = .ok (.imul, 1) := by decide +kernel
theorem dX3_differ_101 : decode cX3_differ 101 = .ok (.bipush 7, 2) := by decide +kernel
theorem dX3_differ_103 : decode cX3_differ 103 = .ok (.iadd, 1) := by decide +kernel
theorem dX3_differ_104 : decode cX3_differ 104 = .ok (.aload_n 0, 1) := by decide +kernel
theorem dX3_differ_105 : decode cX3_differ 105 = .ok (.getfield 43, 3) := by decide +kernel
theorem dX3_differ_108 : decode cX3_differ 108 = .ok (.iload 6, 2) := by decide +kernel
theorem dX3_differ_110 : decode cX3_differ 110 = .ok (.baload, 1) := by decide +kernel
theorem dX3_differ_111 : decode cX3_differ 111 = .ok (.ifCond .eq 7, 3) := by decide +kernel
theorem dX3_differ_114 : decode cX3_differ 114 = .ok (.iconst 1, 1) := by decide +kernel
theorem dX3_differ_115 : decode cX3_differ 115 = .ok (.goto 4, 3) := by decide +kernel
theorem dX3_differ_118 : decode cX3_differ 118 = .ok (.iconst 0, 1) := by decide +kernel
theorem dX3_differ_119 : decode cX3_differ 119 = .ok (.iastore, 1) := by decide +kernel
theorem dX3_differ_120 : decode cX3_differ 120 = .ok (.iinc 6 1, 3) := by decide +kernel
theorem dX3_differ_123 : decode cX3_differ 123 = .ok (.goto (-77), 3) := by decide +kernel
theorem dX3_differ_126 : decode cX3_differ 126 = .ok (.aload_n 0, 1) := by decide +kernel
theorem dX3_differ_127 : decode cX3_differ 127 = .ok (.iload_n 2, 1) := by decide +kernel
theorem dX3_differ_128 : decode cX3_differ 128 = .ok (.iload_n 3, 1) := by decide +kernel
theorem dX3_differ_129 : decode cX3_differ 129 = .ok (.iconst (-1), 1) := by decide +kernel
theorem dX3_differ_130 : decode cX3_differ 130 = .ok (.invokevirtual 142, 3) := by decide +kernel
theorem dX3_differ_133 : decode cX3_differ 133 = .ok (.istore 5, 2) := by decide +kernel
theorem dX3_differ_135 : decode cX3_differ 135 = .ok (.iconst 0, 1) := by decide +kernel
theorem dX3_differ_136 : decode cX3_differ 136 = .ok (.istore 6, 2) := by decide +kernel
theorem dX3_differ_138 : decode cX3_differ 138 = .ok (.iconst 0, 1) := by decide +kernel
theorem dX3_differ_139 : decode cX3_differ 139 = .ok (.istore 7, 2) := by decide +kernel
theorem dX3_differ_141 : decode cX3_differ 141 = .ok (.iload 7, 2) := by decide +kernel
theorem dX3_differ_143 : decode cX3_differ 143 = .ok (.aload_n 0, 1) := by decide +kernel
theorem dX3_differ_144 : decode cX3_differ 144 = .ok (.getfield 80, 3) := by decide +kernel
theorem dX3_differ_147 : decode cX3_differ 147 = .ok (.if_icmp .ge 120, 3) := by decide +kernel
theorem dX3_differ_150 : decode cX3_differ 150 = .ok (.aload_n 0, 1) := by decide +kernel
theorem dX3_differ_151 : decode cX3_differ 151 = .ok (.getfield 69, 3) := by decide +kernel
theorem dX3_differ_154 : decode cX3_differ 154 = .ok (.bipush 8, 2) := by decide +kernel
theorem dX3_differ_156 : decode cX3_differ 156 = .ok (.iload 7, 2) := by decide +kernel
theorem dX3_differ_158 : decode cX3_differ 158 = .ok (.imul, 1) := by decide +kernel
theorem dX3_differ_159 : decode cX3_differ 159 = .ok (.bipush 7, 2) := by decide +kernel
theorem dX3_differ_161 : decode cX3_differ 161 = .ok (.iadd, 1) := by decide +kernel
theorem dX3_differ_162 : decode cX3_differ 162 = .ok (.iaload, 1) := by decide +kernel
theorem dX3_differ_163 : decode cX3_differ 163 = .ok (.aload_n 0, 1) := by decide +kernel
theorem dX3_differ_164 : decode cX3_differ 164 = .ok (.getfield 43, 3) := by decide +kernel
theorem dX3_differ_167 : decode cX3_differ 167 = .ok (.iload 7, 2) := by decide +kernel
theorem dX3_differ_169 : decode cX3_differ 169 = .ok (.baload, 1) := by decide +kernel
theorem dX3_differ_170 : decode cX3_differ 170 = .ok (.ifCond .eq 7, 3) := by decide +kernel
theorem dX3_differ_173 : decode cX3_differ 173 = .ok (.iconst 1, 1) := by decide +kernel
theorem dX3_differ_174 : decode cX3_differ 174 = .ok (.goto 4, 3) := by decide +kernel
theorem dX3_differ_177 : decode cX3_differ 177 = .ok (.iconst 0, 1) := by decide +kernel
theorem dX3_differ_178 : decode cX3_differ 178 = .ok (.if_icmp .ne 7, 3) := by decide +kernel
theorem dX3_differ_181 : decode cX3_differ 181 = .ok (.iconst 1, 1) := by decide +kernel
theorem dX3_differ_182 : decode cX3_differ 182 = .ok (.goto 4, 3) := by decide +kernel
theorem dX3_differ_185 : decode cX3_differ 185 = .ok (.iconst 0, 1) := by decide +kernel
theorem dX3_differ_186 : decode cX3_differ 186 = .ok (.istore 8, 2) := by decide +kernel
theorem dX3_differ_188 : decode cX3_differ 188 = .ok (.iconst 0, 1) := by decide +kernel
theorem dX3_differ_189 : decode cX3_differ 189 = .ok (.istore 9, 2) := by decide +kernel
theorem dX3_differ_191 : decode cX3_differ 191 = .ok (.iload 9, 2) := by decide +kernel
theorem dX3_differ_193 : decode cX3_differ 193 = .ok (.bipush 7, 2) := by decide +kernel
theorem dX3_differ_195 : decode cX3_differ 195 = .ok (.if_icmp .ge 45, 3) := by decide +kernel
theorem dX3_differ_198 : decode cX3_differ 198 = .ok (.iload 8, 2) := by decide +kernel
theorem dX3_differ_200 : decode cX3_differ 200 = .ok (.ifCond .eq 31, 3) := by decide +kernel
theorem dX3_differ_203 : decode cX3_differ 203 = .ok (.aload_n 0, 1) := by decide +kernel
theorem dX3_differ_204 : decode cX3_differ 204 = .ok (.getfield 69, 3) := by decide +kernel
theorem dX3_differ_207 : decode cX3_differ 207 = .ok (.bipush 8, 2) := by decide +kernel
theorem dX3_differ_209 : decode cX3_differ 209 = .ok (.iload 7, 2) := by decide +kernel
theorem dX3_differ_211 : decode cX3_differ 211 = .ok (.imul, 1) := by decide +kernel
theorem dX3_differ_212 : decode cX3_differ 212 = .ok (.iload 9, 2) := by decide +kernel
theorem dX3_differ_214 : decode cX3_differ 214 = .ok (.iadd, 1) := by decide +kernel
theorem dX3_differ_215 : decode cX3_differ 215 = .ok (.iaload, 1) := by decide +kernel
theorem dX3_differ_216 : decode cX3_differ 216 = .ok (.aload_n 0, 1) := by decide +kernel
theorem dX3_differ_217 : decode cX3_differ 217 = .ok (.iload 7, 2) := by decide +kernel
theorem dX3_differ_219 : decode cX3_differ 219 = .ok (.iload 9, 2) := by decide +kernel
theorem dX3_differ_221 : decode cX3_differ 221 = .ok (.invokevirtual 158, 3) := by decide +kernel
theorem dX3_differ_224 : decode cX3_differ 224 = .ok (.if_icmp .ne 7, 3) := by decide +kernel
theorem dX3_differ_227 : decode cX3_differ 227 = .ok (.iconst 1, 1) := by decide +kernel
theorem dX3_differ_228 : decode cX3_differ 228 = .ok (.goto 4, 3) := by decide +kernel
theorem dX3_differ_231 : decode cX3_differ 231 = .ok (.iconst 0, 1) := by decide +kernel
theorem dX3_differ_232 : decode cX3_differ 232 = .ok (.istore 8, 2) := by decide +kernel
theorem dX3_differ_234 : decode cX3_differ 234 = .ok (.iinc 9 1, 3) := by decide +kernel
theorem dX3_differ_237 : decode cX3_differ 237 = .ok (.goto (-46), 3) := by decide +kernel
theorem dX3_differ_240 : decode cX3_differ 240 = .ok (.iload 8, 2) := by decide +kernel
theorem dX3_differ_242 : decode cX3_differ 242 = .ok (.ifCond .eq 6, 3) := by decide +kernel
theorem dX3_differ_245 : decode cX3_differ 245 = .ok (.goto 16, 3) := by decide +kernel
theorem dX3_differ_248 : decode cX3_differ 248 = .ok (.iload 6, 2) := by decide +kernel
theorem dX3_differ_250 : decode cX3_differ 250 = .ok (.iload 4, 2) := by decide +kernel
theorem dX3_differ_252 : decode cX3_differ 252 = .ok (.if_icmp .ne 6, 3) := by decide +kernel
theorem dX3_differ_255 : decode cX3_differ 255 = .ok (.iload 7, 2) := by decide +kernel
theorem dX3_differ_257 : decode cX3_differ 257 = .ok (.ireturn, 1) := by decide +kernel
theorem dX3_differ_258 : decode cX3_differ 258 = .ok (.iinc 6 1, 3) := by decide +kernel
theorem dX3_differ_261 : decode cX3_differ 261 = .ok (.iinc 7 1, 3) := by decide +kernel
theorem dX3_differ_264 : decode cX3_differ 264 = .ok (.goto (-123), 3) := by decide +kernel
theorem dX3_differ_267 : decode cX3_differ 267 = .ok (.iconst (-1), 1) := by decide +kernel
theorem dX3_differ_268 : decode cX3_differ 268 = .ok (.ireturn, 1) := by decide +kernel
set_option maxRecDepth 20000 in
theorem ggX3_entry_X3_lies : GoodIn wsX3_entry wsX3_lies := goodIn_r _ [9] rfl (by decide +kernel)
set_option maxRecDepth 20000 in
theorem gX3_entry_X3_lies : GoodIn wsX3_entry (va_wsS RX3 76 yX3_lies wsX3_lies) := goodIn_app (goodIn_of _ (by decide +kernel)) ggX3_entry_X3_lies
theorem dX3_entry_0 : decode cX3_entry 0 = .ok (.iload_n 1, 1) := by decide +kernel
theorem dX3_entry_1 : decode cX3_entry 1 = .ok (.iconst 0, 1) := by decide +kernel
theorem dX3_entry_2 : decode cX3_entry 2 = .ok (.aload_n 0, 1) := by decide +kernel
theorem dX3_entry_3 : decode cX3_entry 3 = .ok (.getfield 72, 3) := by decide +kernel
theorem dX3_entry_6 : decode cX3_entry 6 = .ok (.iconst 1, 1) := by decide +kernel
theorem dX3_entry_7 : decode cX3_entry 7 = .ok (.isub, 1) := by decide +kernel
theorem dX3_entry_8 : decode cX3_entry 8 = .ok (.invokestatic 76, 3) := by decide +kernel
theorem dX3_entry_11 : decode cX3_entry 11 = .ok (.ifCond .ne 5, 3) := by decide +kernel
theorem dX3_entry_14 : decode cX3_entry 14 = .ok (.iconst (-1), 1) := by decide +kernel
theorem dX3_entry_15 : decode cX3_entry 15 = .ok (.ireturn, 1) := by decide +kernel
theorem dX3_entry_16 : decode cX3_entry 16 = .ok (.iload_n 2, 1) := by decide +kernel
theorem dX3_entry_17 : decode cX3_entry 17 = .ok (.tableswitch 59 0 3 #[31, 38, 45, 52], 31) := by decide +kernel
theorem dX3_entry_48 : decode cX3_entry 48 = .ok (.aload_n 0, 1) := by decide +kernel
theorem dX3_entry_49 : decode cX3_entry 49 = .ok (.getfield 7, 3) := by decide +kernel
theorem dX3_entry_52 : decode cX3_entry 52 = .ok (.iload_n 1, 1) := by decide +kernel
theorem dX3_entry_53 : decode cX3_entry 53 = .ok (.iaload, 1) := by decide +kernel
theorem dX3_entry_54 : decode cX3_entry 54 = .ok (.ireturn, 1) := by decide +kernel
theorem dX3_entry_55 : decode cX3_entry 55 = .ok (.aload_n 0, 1) := by decide +kernel
theorem dX3_entry_56 : decode cX3_entry 56 = .ok (.getfield 13, 3) := by decide +kernel
theorem dX3_entry_59 : decode cX3_entry 59 = .ok (.iload_n 1, 1) := by decide +kernel
theorem dX3_entry_60 : decode cX3_entry 60 = .ok (.iaload, 1) := by decide +kernel
theorem dX3_entry_61 : decode cX3_entry 61 = .ok (.ireturn, 1) := by decide +kernel
theorem dX3_entry_62 : decode cX3_entry 62 = .ok (.aload_n 0, 1) := by decide +kernel
theorem dX3_entry_63 : decode cX3_entry 63 = .ok (.getfield 16, 3) := by decide +kernel
theorem dX3_entry_66 : decode cX3_entry 66 = .ok (.iload_n 1, 1) := by decide +kernel
theorem dX3_entry_67 : decode cX3_entry 67 = .ok (.iaload, 1) := by decide +kernel
theorem dX3_entry_68 : decode cX3_entry 68 = .ok (.ireturn, 1) := by decide +kernel
theorem dX3_entry_69 : decode cX3_entry 69 = .ok (.aload_n 0, 1) := by decide +kernel
theorem dX3_entry_70 : decode cX3_entry 70 = .ok (.getfield 28, 3) := by decide +kernel
theorem dX3_entry_73 : decode cX3_entry 73 = .ok (.iload_n 1, 1) := by decide +kernel
theorem dX3_entry_74 : decode cX3_entry 74 = .ok (.iaload, 1) := by decide +kernel
theorem dX3_entry_75 : decode cX3_entry 75 = .ok (.ireturn, 1) := by decide +kernel
theorem dX3_entry_76 : decode cX3_entry 76 = .ok (.iconst (-1), 1) := by decide +kernel
theorem dX3_entry_77 : decode cX3_entry 77 = .ok (.ireturn, 1) := by decide +kernel
theorem dX3_count_0 : decode cX3_count 0 = .ok (.iload_n 1, 1) := by decide +kernel
theorem dX3_count_1 : decode cX3_count 1 = .ok (.ifCond .ne 10, 3) := by decide +kernel
theorem dX3_count_4 : decode cX3_count 4 = .ok (.aload_n 0, 1) := by decide +kernel
theorem dX3_count_5 : decode cX3_count 5 = .ok (.getfield 72, 3) := by decide +kernel
theorem dX3_count_8 : decode cX3_count 8 = .ok (.goto 16, 3) := by decide +kernel
theorem dX3_count_11 : decode cX3_count 11 = .ok (.iload_n 1, 1) := by decide +kernel
theorem dX3_count_12 : decode cX3_count 12 = .ok (.iconst 1, 1) := by decide +kernel
theorem dX3_count_13 : decode cX3_count 13 = .ok (.if_icmp .ne 10, 3) := by decide +kernel
theorem dX3_count_16 : decode cX3_count 16 = .ok (.aload_n 0, 1) := by decide +kernel
theorem dX3_count_17 : decode cX3_count 17 = .ok (.getfield 80, 3) := by decide +kernel
theorem dX3_count_20 : decode cX3_count 20 = .ok (.goto 4, 3) := by decide +kernel
theorem dX3_count_23 : decode cX3_count 23 = .ok (.iconst (-1), 1) := by decide +kernel
theorem dX3_count_24 : decode cX3_count 24 = .ok (.ireturn, 1) := by decide +kernel
theorem dJ9_min_7cf53_0 : decode cJ9_min_7cf53 0 = .ok (.iload_n 0, 1) := by decide +kernel
theorem dJ9_min_7cf53_1 : decode cJ9_min_7cf53 1 = .ok (.iload_n 1, 1) := by decide +kernel
theorem dJ9_min_7cf53_2 : decode cJ9_min_7cf53 2 = .ok (.if_icmp .gt 7, 3) := by decide +kernel
theorem dJ9_min_7cf53_5 : decode cJ9_min_7cf53 5 = .ok (.iload_n 0, 1) := by decide +kernel
theorem dJ9_min_7cf53_6 : decode cJ9_min_7cf53 6 = .ok (.goto 4, 3) := by decide +kernel
theorem dJ9_min_7cf53_9 : decode cJ9_min_7cf53 9 = .ok (.iload_n 1, 1) := by decide +kernel
theorem dJ9_min_7cf53_10 : decode cJ9_min_7cf53 10 = .ok (.ireturn, 1) := by decide +kernel

