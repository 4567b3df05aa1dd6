set_option maxRecDepth 20000 in
theorem ggX3_fits_X3_is : GoodIn wsX3_fits wsX3_is := goodIn_r _ [16, 10, 17, 18, 19, 15, 20, 21, 22, 23, 24, 37, 38, 39, 40, 41, 42, 43, 44, 45, 46, 47, 48, 49, 50, 51, 52, 53, 54, 55, 56, 57, 58, 59] rfl (by decide +kernel)
set_option maxRecDepth 20000 in
theorem gX3_fits_X3_is : GoodIn wsX3_fits (wsV RX3 117 RX3 yX3_is wsX3_is) := goodIn_app (goodIn_of _ (by decide +kernel)) ggX3_fits_X3_is
set_option maxRecDepth 20000 in
theorem ggX3_fits_X3_averageOf : GoodIn wsX3_fits wsX3_averageOf := goodIn_r _ [28, 29, 30, 31, 15, 32, 3, 11, 1, 5, 33, 34, 35, 36, 37, 38, 39, 40, 41, 42, 43, 44, 45, 46, 47, 48, 49, 50, 51, 52, 53, 54, 55, 56, 57, 58, 59] rfl (by decide +kernel)
set_option maxRecDepth 20000 in
theorem gX3_fits_X3_averageOf : GoodIn wsX3_fits (wsV RX3 97 RX3 yX3_averageOf wsX3_averageOf) := goodIn_app (goodIn_of _ (by decide +kernel)) ggX3_fits_X3_averageOf
theorem dX3_fits_0 : decode cX3_fits 0 = .ok (.aload_n 0, 1) := by decide +kernel
theorem dX3_fits_1 : decode cX3_fits 1 = .ok (.getfield 16, 3) := by decide +kernel
theorem dX3_fits_4 : decode cX3_fits 4 = .ok (.iload_n 2, 1) := by decide +kernel
theorem dX3_fits_5 : decode cX3_fits 5 = .ok (.iaload, 1) := by decide +kernel
theorem dX3_fits_6 : decode cX3_fits 6 = .ok (.istore_n 3, 1) := by decide +kernel
theorem dX3_fits_7 : decode cX3_fits 7 = .ok (.aload_n 0, 1) := by decide +kernel
theorem dX3_fits_8 : decode cX3_fits 8 = .ok (.getfield 19, 3) := by decide +kernel
theorem dX3_fits_11 : decode cX3_fits 11 = .ok (.iload_n 2, 1) := by decide +kernel
theorem dX3_fits_12 : decode cX3_fits 12 = .ok (.iaload, 1) := by decide +kernel
theorem dX3_fits_13 : decode cX3_fits 13 = .ok (.istore 4, 2) := by decide +kernel
theorem dX3_fits_15 : decode cX3_fits 15 = .ok (.iconst 0, 1) := by decide +kernel
theorem dX3_fits_16 : decode cX3_fits 16 = .ok (.istore 5, 2) := by decide +kernel
theorem dX3_fits_18 : decode cX3_fits 18 = .ok (.aload_n 0, 1) := by decide +kernel
theorem dX3_fits_19 : decode cX3_fits 19 = .ok (.getfield 7, 3) := by decide +kernel
theorem dX3_fits_22 : decode cX3_fits 22 = .ok (.iload_n 2, 1) := by decide +kernel
theorem dX3_fits_23 : decode cX3_fits 23 = .ok (.iaload, 1) := by decide +kernel
theorem dX3_fits_24 : decode cX3_fits 24 = .ok (.tableswitch 207 1 6 #[40, 42, 71, 148, 207, 177], 40) := by decide +kernel
theorem dX3_fits_64 : decode cX3_fits 64 = .ok (.iconst 1, 1) := by decide +kernel
theorem dX3_fits_65 : decode cX3_fits 65 = .ok (.ireturn, 1) := by decide +kernel
theorem dX3_fits_66 : decode cX3_fits 66 = .ok (.aload_n 0, 1) := by decide +kernel
theorem dX3_fits_67 : decode cX3_fits 67 = .ok (.iload_n 3, 1) := by decide +kernel
theorem dX3_fits_68 : decode cX3_fits 68 = .ok (.invokevirtual 117, 3) := by decide +kernel
theorem dX3_fits_71 : decode cX3_fits 71 = .ok (.ifCond .eq 22, 3) := by decide +kernel
theorem dX3_fits_74 : decode cX3_fits 74 = .ok (.aload_n 0, 1) := by decide +kernel
theorem dX3_fits_75 : decode cX3_fits 75 = .ok (.getfield 47, 3) := by decide +kernel
theorem dX3_fits_78 : decode cX3_fits 78 = .ok (.iload_n 3, 1) := by decide +kernel
theorem dX3_fits_79 : decode cX3_fits 79 = .ok (.iaload, 1) := by decide +kernel
theorem dX3_fits_80 : decode cX3_fits 80 = .ok (.aload_n 0, 1) := by decide +kernel
theorem dX3_fits_81 : decode cX3_fits 81 = .ok (.getfield 22, 3) := by decide +kernel
theorem dX3_fits_84 : decode cX3_fits 84 = .ok (.iload_n 2, 1) := by decide +kernel
theorem dX3_fits_85 : decode cX3_fits 85 = .ok (.iaload, 1) := by decide +kernel
theorem dX3_fits_86 : decode cX3_fits 86 = .ok (.if_icmp .le 7, 3) := by decide +kernel
theorem dX3_fits_89 : decode cX3_fits 89 = .ok (.iconst 1, 1) := by decide +kernel
theorem dX3_fits_90 : decode cX3_fits 90 = .ok (.goto 4, 3) := by decide +kernel
theorem dX3_fits_93 : decode cX3_fits 93 = .ok (.iconst 0, 1) := by decide +kernel
theorem dX3_fits_94 : decode cX3_fits 94 = .ok (.ireturn, 1) := by decide +kernel
theorem dX3_fits_95 : decode cX3_fits 95 = .ok (.aload_n 0, 1) := by decide +kernel
theorem dX3_fits_96 : decode cX3_fits 96 = .ok (.iload_n 3, 1) := by decide +kernel
theorem dX3_fits_97 : decode cX3_fits 97 = .ok (.invokevirtual 117, 3) := by decide +kernel
theorem dX3_fits_100 : decode cX3_fits 100 = .ok (.ifCond .eq 70, 3) := by decide +kernel
theorem dX3_fits_103 : decode cX3_fits 103 = .ok (.aload_n 0, 1) := by decide +kernel
theorem dX3_fits_104 : decode cX3_fits 104 = .ok (.iload 4, 2) := by decide +kernel
theorem dX3_fits_106 : decode cX3_fits 106 = .ok (.invokevirtual 117, 3) := by decide +kernel
theorem dX3_fits_109 : decode cX3_fits 109 = .ok (.ifCond .eq 61, 3) := by decide +kernel
theorem dX3_fits_112 : decode cX3_fits 112 = .ok (.iload_n 3, 1) := by decide +kernel
theorem dX3_fits_113 : decode cX3_fits 113 = .ok (.iload 4, 2) := by decide +kernel
theorem dX3_fits_115 : decode cX3_fits 115 = .ok (.if_icmp .eq 55, 3) := by decide +kernel
theorem dX3_fits_118 : decode cX3_fits 118 = .ok (.aload_n 0, 1) := by decide +kernel
theorem dX3_fits_119 : decode cX3_fits 119 = .ok (.getfield 50, 3) := by decide +kernel
theorem dX3_fits_122 : decode cX3_fits 122 = .ok (.iload_n 3, 1) := by decide +kernel
theorem dX3_fits_123 : decode cX3_fits 123 = .ok (.iaload, 1) := by decide +kernel
theorem dX3_fits_124 : decode cX3_fits 124 = .ok (.aload_n 0, 1) := by decide +kernel
theorem dX3_fits_125 : decode cX3_fits 125 = .ok (.getfield 50, 3) := by decide +kernel
theorem dX3_fits_128 : decode cX3_fits 128 = .ok (.iload 4, 2) := by decide +kernel
theorem dX3_fits_130 : decode cX3_fits 130 = .ok (.iaload, 1) := by decide +kernel
theorem dX3_fits_131 : decode cX3_fits 131 = .ok (.if_icmp .ne 39, 3) := by decide +kernel
theorem dX3_fits_134 : decode cX3_fits 134 = .ok (.aload_n 0, 1) := by decide +kernel
theorem dX3_fits_135 : decode cX3_fits 135 = .ok (.getfield 53, 3) := by decide +kernel
theorem dX3_fits_138 : decode cX3_fits 138 = .ok (.iload_n 3, 1) := by decide +kernel
theorem dX3_fits_139 : decode cX3_fits 139 = .ok (.iaload, 1) := by decide +kernel
theorem dX3_fits_140 : decode cX3_fits 140 = .ok (.aload_n 0, 1) := by decide +kernel
theorem dX3_fits_141 : decode cX3_fits 141 = .ok (.getfield 53, 3) := by decide +kernel
theorem dX3_fits_144 : decode cX3_fits 144 = .ok (.iload 4, 2) := by decide +kernel
theorem dX3_fits_146 : decode cX3_fits 146 = .ok (.iaload, 1) := by decide +kernel
theorem dX3_fits_147 : decode cX3_fits 147 = .ok (.if_icmp .ne 23, 3) := by decide +kernel
theorem dX3_fits_150 : decode cX3_fits 150 = .ok (.aload_n 0, 1) := by decide +kernel
theorem dX3_fits_151 : decode cX3_fits 151 = .ok (.getfield 59, 3) := by decide +kernel
theorem dX3_fits_154 : decode cX3_fits 154 = .ok (.iload_n 3, 1) := by decide +kernel
theorem dX3_fits_155 : decode cX3_fits 155 = .ok (.baload, 1) := by decide +kernel
theorem dX3_fits_156 : decode cX3_fits 156 = .ok (.aload_n 0, 1) := by decide +kernel
theorem dX3_fits_157 : decode cX3_fits 157 = .ok (.getfield 59, 3) := by decide +kernel
theorem dX3_fits_160 : decode cX3_fits 160 = .ok (.iload 4, 2) := by decide +kernel
theorem dX3_fits_162 : decode cX3_fits 162 = .ok (.baload, 1) := by decide +kernel
theorem dX3_fits_163 : decode cX3_fits 163 = .ok (.if_icmp .ne 7, 3) := by decide +kernel
theorem dX3_fits_166 : decode cX3_fits 166 = .ok (.iconst 1, 1) := by decide +kernel
theorem dX3_fits_167 : decode cX3_fits 167 = .ok (.goto 4, 3) := by decide +kernel
theorem dX3_fits_170 : decode cX3_fits 170 = .ok (.iconst 0, 1) := by decide +kernel
theorem dX3_fits_171 : decode cX3_fits 171 = .ok (.ireturn, 1) := by decide +kernel
theorem dX3_fits_172 : decode cX3_fits 172 = .ok (.aload_n 0, 1) := by decide +kernel
theorem dX3_fits_173 : decode cX3_fits 173 = .ok (.iload_n 3, 1) := by decide +kernel
theorem dX3_fits_174 : decode cX3_fits 174 = .ok (.invokevirtual 117, 3) := by decide +kernel
theorem dX3_fits_177 : decode cX3_fits 177 = .ok (.ifCond .eq 22, 3) := by decide +kernel
theorem dX3_fits_180 : decode cX3_fits 180 = .ok (.aload_n 0, 1) := by decide +kernel
theorem dX3_fits_181 : decode cX3_fits 181 = .ok (.getfield 53, 3) := by decide +kernel
theorem dX3_fits_184 : decode cX3_fits 184 = .ok (.iload_n 3, 1) := by decide +kernel
theorem dX3_fits_185 : decode cX3_fits 185 = .ok (.iaload, 1) := by decide +kernel
theorem dX3_fits_186 : decode cX3_fits 186 = .ok (.aload_n 0, 1) := by decide +kernel
theorem dX3_fits_187 : decode cX3_fits 187 = .ok (.getfield 22, 3) := by decide +kernel
theorem dX3_fits_190 : decode cX3_fits 190 = .ok (.iload_n 2, 1) := by decide +kernel
theorem dX3_fits_191 : decode cX3_fits 191 = .ok (.iaload, 1) := by decide +kernel
theorem dX3_fits_192 : decode cX3_fits 192 = .ok (.if_icmp .eq 7, 3) := by decide +kernel
theorem dX3_fits_195 : decode cX3_fits 195 = .ok (.iconst 1, 1) := by decide +kernel
theorem dX3_fits_196 : decode cX3_fits 196 = .ok (.goto 4, 3) := by decide +kernel
theorem dX3_fits_199 : decode cX3_fits 199 = .ok (.iconst 0, 1) := by decide +kernel
theorem dX3_fits_200 : decode cX3_fits 200 = .ok (.ireturn, 1) := by decide +kernel
theorem dX3_fits_201 : decode cX3_fits 201 = .ok (.aload_n 0, 1) := by decide +kernel
theorem dX3_fits_202 : decode cX3_fits 202 = .ok (.iload_n 3, 1) := by decide +kernel
theorem dX3_fits_203 : decode cX3_fits 203 = .ok (.invokevirtual 117, 3) := by decide +kernel
theorem dX3_fits_206 : decode cX3_fits 206 = .ok (.ifCond .eq 23, 3) := by decide +kernel
theorem dX3_fits_209 : decode cX3_fits 209 = .ok (.aload_n 0, 1) := by decide +kernel
theorem dX3_fits_210 : decode cX3_fits 210 = .ok (.getfield 110, 3) := by decide +kernel
theorem dX3_fits_213 : decode cX3_fits 213 = .ok (.ifCond .eq 16, 3) := by decide +kernel
theorem dX3_fits_216 : decode cX3_fits 216 = .ok (.aload_n 0, 1) := by decide +kernel
theorem dX3_fits_217 : decode cX3_fits 217 = .ok (.getfield 59, 3) := by decide +kernel
theorem dX3_fits_220 : decode cX3_fits 220 = .ok (.iload_n 3, 1) := by decide +kernel
theorem dX3_fits_221 : decode cX3_fits 221 = .ok (.baload, 1) := by decide +kernel
theorem dX3_fits_222 : decode cX3_fits 222 = .ok (.ifCond .ne 7, 3) := by decide +kernel
theorem dX3_fits_225 : decode cX3_fits 225 = .ok (.iconst 1, 1) := by decide +kernel
theorem dX3_fits_226 : decode cX3_fits 226 = .ok (.goto 4, 3) := by decide +kernel
theorem dX3_fits_229 : decode cX3_fits 229 = .ok (.iconst 0, 1) := by decide +kernel
theorem dX3_fits_230 : decode cX3_fits 230 = .ok (.ireturn, 1) := by decide +kernel
theorem dX3_fits_231 : decode cX3_fits 231 = .ok (.iconst 0, 1) := by decide +kernel
theorem dX3_fits_232 : decode cX3_fits 232 = .ok (.istore 6, 2) := by decide +kernel
theorem dX3_fits_234 : decode cX3_fits 234 = .ok (.iload 6, 2) := by decide +kernel
theorem dX3_fits_236 : decode cX3_fits 236 = .ok (.bipush 60, 2) := by decide +kernel
theorem dX3_fits_238 : decode cX3_fits 238 = .ok (.if_icmp .ge 31, 3) := by decide +kernel
theorem dX3_fits_241 : decode cX3_fits 241 = .ok (.iload 5, 2) := by decide +kernel
theorem dX3_fits_243 : decode cX3_fits 243 = .ok (.ifCond .ne 13, 3) := by decide +kernel
theorem dX3_fits_246 : decode cX3_fits 246 = .ok (.aload_n 0, 1) := by decide +kernel
theorem dX3_fits_247 : decode cX3_fits 247 = .ok (.getfield 43, 3) := by decide +kernel
theorem dX3_fits_250 : decode cX3_fits 250 = .ok (.iload 6, 2) := by decide +kernel
theorem dX3_fits_252 : decode cX3_fits 252 = .ok (.baload, 1) := by decide +kernel
theorem dX3_fits_253 : decode cX3_fits 253 = .ok (.ifCond .eq 7, 3) := by decide +kernel
theorem dX3_fits_256 : decode cX3_fits 256 = .ok (.iconst 1, 1) := by decide +kernel
theorem dX3_fits_257 : decode cX3_fits 257 = .ok (.goto 4, 3) := by decide +kernel
theorem dX3_fits_260 : decode cX3_fits 260 = .ok (.iconst 0, 1) := by decide +kernel
theorem dX3_fits_261 : decode cX3_fits 261 = .ok (.istore 5, 2) := by decide +kernel
theorem dX3_fits_263 : decode cX3_fits 263 = .ok (.iinc 6 1, 3) := by decide +kernel
theorem dX3_fits_266 : decode cX3_fits 266 = .ok (.goto (-32), 3) := by decide +kernel
theorem dX3_fits_269 : decode cX3_fits 269 = .ok (.iconst 0, 1) := by decide +kernel
theorem dX3_fits_270 : decode cX3_fits 270 = .ok (.istore 6, 2) := by decide +kernel
theorem dX3_fits_272 : decode cX3_fits 272 = .ok (.iload 6, 2) := by decide +kernel
theorem dX3_fits_274 : decode cX3_fits 274 = .ok (.iconst 3, 1) := by decide +kernel
theorem dX3_fits_275 : decode cX3_fits 275 = .ok (.if_icmp .ge 38, 3) := by decide +kernel
theorem dX3_fits_278 : decode cX3_fits 278 = .ok (.iload 5, 2) := by decide +kernel
theorem dX3_fits_280 : decode cX3_fits 280 = .ok (.ifCond .eq 24, 3) := by decide +kernel
theorem dX3_fits_283 : decode cX3_fits 283 = .ok (.aload_n 0, 1) := by decide +kernel
theorem dX3_fits_284 : decode cX3_fits 284 = .ok (.iload_n 1, 1) := by decide +kernel
theorem dX3_fits_285 : decode cX3_fits 285 = .ok (.aload_n 0, 1) := by decide +kernel
theorem dX3_fits_286 : decode cX3_fits 286 = .ok (.getfield 13, 3) := by decide +kernel
theorem dX3_fits_289 : decode cX3_fits 289 = .ok (.iload_n 2, 1) := by decide +kernel
theorem dX3_fits_290 : decode cX3_fits 290 = .ok (.iaload, 1) := by decide +kernel
theorem dX3_fits_291 : decode cX3_fits 291 = .ok (.iload 6, 2) := by decide +kernel
theorem dX3_fits_293 : decode cX3_fits 293 = .ok (.invokevirtual 97, 3) := by decide +kernel
theorem dX3_fits_296 : decode cX3_fits 296 = .ok (.iconst (-1), 1) := by decide +kernel
theorem dX3_fits_297 : decode cX3_fits 297 = .ok (.if_icmp .eq 7, 3) := by decide +kernel
theorem dX3_fits_300 : decode cX3_fits 300 = .ok (.iconst 1, 1) := by decide +kernel
theorem dX3_fits_301 : decode cX3_fits 301 = .ok (.goto 4, 3) := by decide +kernel
theorem dX3_fits_304 : decode cX3_fits 304 = .ok (.iconst 0, 1) := by decide +kernel
theorem dX3_fits_305 : decode cX3_fits 305 = .ok (.istore 5, 2) := by decide +kernel
theorem dX3_fits_307 : decode cX3_fits 307 = .ok (.iinc 6 1, 3) := by decide +kernel
theorem dX3_fits_310 : decode cX3_fits 310 = .ok (.goto (-38), 3) := by decide +kernel
theorem dX3_fits_313 : decode cX3_fits 313 = .ok (.iload 5, 2) := by decide +kernel
theorem dX3_fits_315 : decode cX3_fits 315 = .ok (.ifCond .eq 14, 3) := by decide +kernel
theorem dX3_fits_318 : decode cX3_fits 318 = .ok (.aload_n 0, 1) := by decide +kernel
theorem dX3_fits_319 : decode cX3_fits 319 = .ok (.getfield 110, 3) := by decide +kernel
theorem dX3_fits_322 : decode cX3_fits 322 = .ok (.ifCond .ne 7, 3) := by decide +kernel
theorem dX3_fits_325 : decode cX3_fits 325 = .ok (.iconst 1, 1) := by decide +kernel
theorem dX3_fits_326 : decode cX3_fits 326 = .ok (.goto 4, 3) := by decide +kernel
theorem dX3_fits_329 : decode cX3_fits 329 = .ok (.iconst 0, 1) := by decide +kernel
theorem dX3_fits_330 : decode cX3_fits 330 = .ok (.ireturn, 1) := by decide +kernel
set_option maxRecDepth 20000 in
theorem ggX3_does_X3_comes : GoodIn wsX3_does wsX3_comes := goodIn_r _ [14, 15, 16, 17, 7, 8, 9, 49, 50, 51, 52, 53, 54, 55, 56, 57, 58, 59, 60, 61, 62, 63, 64, 65, 66, 67, 68, 69, 70, 71] rfl (by decide +kernel)
set_option maxRecDepth 20000 in
theorem gX3_does_X3_comes : GoodIn wsX3_does (wsV RX3 100 RX3 yX3_comes wsX3_comes) := goodIn_app (goodIn_of _ (by decide +kernel)) ggX3_does_X3_comes
set_option maxRecDepth 20000 in
theorem ggX3_does_X3_parts : GoodIn wsX3_does wsX3_parts := goodIn_r _ [21, 1, 3, 4, 17, 7, 8, 16, 9, 15, 10, 11, 12, 13, 14, 49, 50, 51, 52, 53, 54, 55, 56, 57, 58, 59, 60, 61, 62, 63, 64, 65, 66, 67, 68, 69, 70, 71] rfl (by decide +kernel)
set_option maxRecDepth 20000 in
theorem gX3_does_X3_parts : GoodIn wsX3_does (wsV RX3 120 RX3 yX3_parts wsX3_parts) := goodIn_app (goodIn_of _ (by decide +kernel)) ggX3_does_X3_parts
set_option maxRecDepth 20000 in
theorem ggX3_does_X3_joins : GoodIn wsX3_does wsX3_joins := goodIn_r _ [25, 1, 5, 3, 16, 17, 7, 8, 9, 15, 10, 11, 12, 13, 14, 49, 50, 51, 52, 53, 54, 55, 56, 57, 58, 59, 60, 61, 62, 63, 64, 65, 66, 67, 68, 69, 70, 71] rfl (by decide +kernel)
set_option maxRecDepth 20000 in
theorem gX3_does_X3_joins : GoodIn wsX3_does (wsV RX3 124 RX3 yX3_joins wsX3_joins) := goodIn_app (goodIn_of _ (by decide +kernel)) ggX3_does_X3_joins
set_option maxRecDepth 20000 in
theorem ggX3_does_X3_settles : GoodIn wsX3_does wsX3_settles := goodIn_r _ [29, 15, 16, 17, 4, 30, 31, 32, 33, 9, 34, 35, 36, 37, 38, 39, 13, 40, 41, 42, 43, 44, 2, 1, 45, 46, 47, 48, 49, 50, 51, 52, 53, 54, 55, 56, 57, 58, 59, 60, 61, 62, 63, 64, 65, 66, 67, 68, 69, 70, 71] rfl (by decide +kernel)
set_option maxRecDepth 20000 in
theorem gX3_does_X3_settles : GoodIn wsX3_does (wsV RX3 127 RX3 yX3_settles wsX3_settles) := goodIn_app (goodIn_of _ (by decide +kernel)) ggX3_does_X3_settles
theorem dX3_does_0 : decode cX3_does 0 = .ok (.aload_n 0, 1) := by decide +kernel
theorem dX3_does_1 : decode cX3_does 1 = .ok (.getfield 16, 3) := by decide +kernel
theorem dX3_does_4 : decode cX3_does 4 = .ok (.iload_n 2, 1) := by decide +kernel
theorem dX3_does_5 : decode cX3_does 5 = .ok (.iaload, 1) := by decide +kernel
theorem dX3_does_6 : decode cX3_does 6 = .ok (.istore_n 3, 1) := by decide +kernel
theorem dX3_does_7 : decode cX3_does 7 = .ok (.aload_n 0, 1) := by decide +kernel
theorem dX3_does_8 : decode cX3_does 8 = .ok (.getfield 7, 3) := by decide +kernel
theorem dX3_does_11 : decode cX3_does 11 = .ok (.iload_n 2, 1) := by decide +kernel
theorem dX3_does_12 : decode cX3_does 12 = .ok (.iaload, 1) := by decide +kernel
theorem dX3_does_13 : decode cX3_does 13 = .ok (.tableswitch 107 1 5 #[35, 67, 75, 83, 98], 35) := by decide +kernel
theorem dX3_does_48 : decode cX3_does 48 = .ok (.aload_n 0, 1) := by decide +kernel
theorem dX3_does_49 : decode cX3_does 49 = .ok (.aload_n 0, 1) := by decide +kernel
theorem dX3_does_50 : decode cX3_does 50 = .ok (.getfield 28, 3) := by decide +kernel
theorem dX3_does_53 : decode cX3_does 53 = .ok (.iload_n 2, 1) := by decide +kernel
theorem dX3_does_54 : decode cX3_does 54 = .ok (.iaload, 1) := by decide +kernel
theorem dX3_does_55 : decode cX3_does 55 = .ok (.aload_n 0, 1) := by decide +kernel
theorem dX3_does_56 : decode cX3_does 56 = .ok (.getfield 22, 3) := by decide +kernel
theorem dX3_does_59 : decode cX3_does 59 = .ok (.iload_n 2, 1) := by decide +kernel
theorem dX3_does_60 : decode cX3_does 60 = .ok (.iaload, 1) := by decide +kernel
theorem dX3_does_61 : decode cX3_does 61 = .ok (.aload_n 0, 1) := by decide +kernel
theorem dX3_does_62 : decode cX3_does 62 = .ok (.getfield 19, 3) := by decide +kernel
theorem dX3_does_65 : decode cX3_does 65 = .ok (.iload_n 2, 1) := by decide +kernel
theorem dX3_does_66 : decode cX3_does 66 = .ok (.iaload, 1) := by decide +kernel
theorem dX3_does_67 : decode cX3_does 67 = .ok (.aload_n 0, 1) := by decide +kernel
theorem dX3_does_68 : decode cX3_does 68 = .ok (.getfield 25, 3) := by decide +kernel
theorem dX3_does_71 : decode cX3_does 71 = .ok (.iload_n 2, 1) := by decide +kernel
theorem dX3_does_72 : decode cX3_does 72 = .ok (.iaload, 1) := by decide +kernel
theorem dX3_does_73 : decode cX3_does 73 = .ok (.iconst 0, 1) := by decide +kernel
theorem dX3_does_74 : decode cX3_does 74 = .ok (.invokevirtual 100, 3) := by decide +kernel
theorem dX3_does_77 : decode cX3_does 77 = .ok (.goto 77, 3) := by decide +kernel
theorem dX3_does_80 : decode cX3_does 80 = .ok (.aload_n 0, 1) := by decide +kernel
theorem dX3_does_81 : decode cX3_does 81 = .ok (.iload_n 2, 1) := by decide +kernel
theorem dX3_does_82 : decode cX3_does 82 = .ok (.invokevirtual 120, 3) := by decide +kernel
theorem dX3_does_85 : decode cX3_does 85 = .ok (.goto 69, 3) := by decide +kernel
theorem dX3_does_88 : decode cX3_does 88 = .ok (.aload_n 0, 1) := by decide +kernel
theorem dX3_does_89 : decode cX3_does 89 = .ok (.iload_n 2, 1) := by decide +kernel
theorem dX3_does_90 : decode cX3_does 90 = .ok (.invokevirtual 124, 3) := by decide +kernel
theorem dX3_does_93 : decode cX3_does 93 = .ok (.goto 61, 3) := by decide +kernel
theorem dX3_does_96 : decode cX3_does 96 = .ok (.aload_n 0, 1) := by decide +kernel
theorem dX3_does_97 : decode cX3_does 97 = .ok (.getfield 53, 3) := by decide +kernel
theorem dX3_does_100 : decode cX3_does 100 = .ok (.iload_n 3, 1) := by decide +kernel
theorem dX3_does_101 : decode cX3_does 101 = .ok (.aload_n 0, 1) := by decide +kernel
theorem dX3_does_102 : decode cX3_does 102 = .ok (.getfield 22, 3) := by decide +kernel
theorem dX3_does_105 : decode cX3_does 105 = .ok (.iload_n 2, 1) := by decide +kernel
theorem dX3_does_106 : decode cX3_does 106 = .ok (.iaload, 1) := by decide +kernel
theorem dX3_does_107 : decode cX3_does 107 = .ok (.iastore, 1) := by decide +kernel
theorem dX3_does_108 : decode cX3_does 108 = .ok (.goto 46, 3) := by decide +kernel
theorem dX3_does_111 : decode cX3_does 111 = .ok (.aload_n 0, 1) := by decide +kernel
theorem dX3_does_112 : decode cX3_does 112 = .ok (.iload_n 1, 1) := by decide +kernel
theorem dX3_does_113 : decode cX3_does 113 = .ok (.iload_n 2, 1) := by decide +kernel
theorem dX3_does_114 : decode cX3_does 114 = .ok (.invokevirtual 127, 3) := by decide +kernel
theorem dX3_does_117 : decode cX3_does 117 = .ok (.goto 37, 3) := by decide +kernel
theorem dX3_does_120 : decode cX3_does 120 = .ok (.aload_n 0, 1) := by decide +kernel
theorem dX3_does_121 : decode cX3_does 121 = .ok (.getfield 59, 3) := by decide +kernel
theorem dX3_does_124 : decode cX3_does 124 = .ok (.iload_n 3, 1) := by decide +kernel
theorem dX3_does_125 : decode cX3_does 125 = .ok (.iconst 1, 1) := by decide +kernel
theorem dX3_does_126 : decode cX3_does 126 = .ok (.bastore, 1) := by decide +kernel
theorem dX3_does_127 : decode cX3_does 127 = .ok (.iconst 0, 1) := by decide +kernel
theorem dX3_does_128 : decode cX3_does 128 = .ok (.istore 4, 2) := by decide +kernel
theorem dX3_does_130 : decode cX3_does 130 = .ok (.iload 4, 2) := by decide +kernel
theorem dX3_does_132 : decode cX3_does 132 = .ok (.iconst 3, 1) := by decide +kernel
theorem dX3_does_133 : decode cX3_does 133 = .ok (.if_icmp .ge 21, 3) := by decide +kernel
theorem dX3_does_136 : decode cX3_does 136 = .ok (.aload_n 0, 1) := by decide +kernel
theorem dX3_does_137 : decode cX3_does 137 = .ok (.getfield 56, 3) := by decide +kernel
theorem dX3_does_140 : decode cX3_does 140 = .ok (.iconst 3, 1) := by decide +kernel
theorem dX3_does_141 : decode cX3_does 141 = .ok (.iload_n 3, 1) := by decide +kernel
theorem dX3_does_142 : decode cX3_does 142 = .ok (.imul, 1) := by decide +kernel
theorem dX3_does_143 : decode cX3_does 143 = .ok (.iload 4, 2) := by decide +kernel
theorem dX3_does_145 : decode cX3_does 145 = .ok (.iadd, 1) := by decide +kernel
theorem dX3_does_146 : decode cX3_does 146 = .ok (.iconst 0, 1) := by decide +kernel
theorem dX3_does_147 : decode cX3_does 147 = .ok (.iastore, 1) := by decide +kernel
theorem dX3_does_148 : decode cX3_does 148 = .ok (.iinc 4 1, 3) := by decide +kernel
theorem dX3_does_151 : decode cX3_does 151 = .ok (.goto (-21), 3) := by decide +kernel
theorem dX3_does_154 : decode cX3_does 154 = .ok (.return_, 1) := by decide +kernel
set_option maxRecDepth 20000 in
theorem ggX3_works_X3_fits : GoodIn wsX3_works wsX3_fits := goodIn_r _ [9, 10, 11, 3, 12, 13, 14, 15, 16, 2, 1, 4, 17, 18, 19, 8, 20, 21, 22, 23, 24, 25, 26, 27, 28, 29, 30, 31, 32, 33, 34, 35, 36, 37, 38, 39, 40, 69, 70, 71, 72, 73, 74, 75, 76, 77, 78, 79, 80, 81, 82, 83, 84, 85, 86, 87, 88, 89, 90, 91] rfl (by decide +kernel)
set_option maxRecDepth 20000 in
theorem gX3_works_X3_fits : GoodIn wsX3_works (wsV RX3 131 RX3 yX3_fits wsX3_fits) := goodIn_app (goodIn_of _ (by decide +kernel)) ggX3_works_X3_fits
set_option maxRecDepth 20000 in
theorem ggX3_works_X3_does : GoodIn wsX3_works wsX3_does := goodIn_r _ [44, 10, 3, 45, 13, 11, 46, 15, 16, 47, 48, 49, 50, 8, 51, 1, 12, 14, 52, 53, 54, 55, 56, 57, 58, 59, 60, 61, 62, 63, 64, 65, 66, 67, 68, 4, 2, 29, 30, 31, 32, 33, 34, 35, 36, 37, 38, 39, 40, 69, 70, 71, 72, 73, 74, 75, 76, 77, 78, 79, 80, 81, 82, 83, 84, 85, 86, 87, 88, 89, 90, 91] rfl (by decide +kernel)
set_option maxRecDepth 20000 in
theorem gX3_works_X3_does : GoodIn wsX3_works (wsV RX3 135 RX3 yX3_does wsX3_does) := goodIn_app (goodIn_of _ (by decide +kernel)) ggX3_works_X3_does
theorem dX3_works_0 : decode cX3_works 0 = .ok (.iconst 0, 1) := by decide +kernel
theorem dX3_works_1 : decode cX3_works 1 = .ok (.istore 4, 2) := by decide +kernel
theorem dX3_works_3 : decode cX3_works 3 = .ok (.iload 4, 2) := by decide +kernel
theorem dX3_works_5 : decode cX3_works 5 = .ok (.bipush 60, 2) := by decide +kernel
theorem dX3_works_7 : decode cX3_works 7 = .ok (.if_icmp .ge 17, 3) := by decide +kernel
theorem dX3_works_10 : decode cX3_works 10 = .ok (.aload_n 0, 1) := by decide +kernel
theorem dX3_works_11 : decode cX3_works 11 = .ok (.getfield 43, 3) := by decide +kernel
theorem dX3_works_14 : decode cX3_works 14 = .ok (.iload 4, 2) := by decide +kernel
theorem dX3_works_16 : decode cX3_works 16 = .ok (.iconst 0, 1) := by decide +kernel
theorem dX3_works_17 : decode cX3_works 17 = .ok (.bastore, 1) := by decide +kernel
theorem dX3_works_18 : decode cX3_works 18 = .ok (.iinc 4 1, 3) := by decide +kernel
theorem dX3_works_21 : decode cX3_works 21 = .ok (.goto (-18), 3) := by decide +kernel
theorem dX3_works_24 : decode cX3_works 24 = .ok (.aload_n 0, 1) := by decide +kernel
theorem dX3_works_25 : decode cX3_works 25 = .ok (.iconst 0, 1) := by decide +kernel
theorem dX3_works_26 : decode cX3_works 26 = .ok (.putfield 110, 3) := by decide +kernel
theorem dX3_works_29 : decode cX3_works 29 = .ok (.bipush 8, 2) := by decide +kernel
theorem dX3_works_31 : decode cX3_works 31 = .ok (.istore 4, 2) := by decide +kernel
theorem dX3_works_33 : decode cX3_works 33 = .ok (.iload 4, 2) := by decide +kernel
theorem dX3_works_35 : decode cX3_works 35 = .ok (.iload_n 2, 1) := by decide +kernel
theorem dX3_works_36 : decode cX3_works 36 = .ok (.if_icmp .gt 76, 3) := by decide +kernel
theorem dX3_works_39 : decode cX3_works 39 = .ok (.iconst 0, 1) := by decide +kernel
theorem dX3_works_40 : decode cX3_works 40 = .ok (.istore 5, 2) := by decide +kernel
theorem dX3_works_42 : decode cX3_works 42 = .ok (.iload 5, 2) := by decide +kernel
theorem dX3_works_44 : decode cX3_works 44 = .ok (.iload_n 1, 1) := by decide +kernel
theorem dX3_works_45 : decode cX3_works 45 = .ok (.if_icmp .ge 61, 3) := by decide +kernel
theorem dX3_works_48 : decode cX3_works 48 = .ok (.aload_n 0, 1) := by decide +kernel
theorem dX3_works_49 : decode cX3_works 49 = .ok (.getfield 7, 3) := by decide +kernel
theorem dX3_works_52 : decode cX3_works 52 = .ok (.iload 5, 2) := by decide +kernel
theorem dX3_works_54 : decode cX3_works 54 = .ok (.iaload, 1) := by decide +kernel
theorem dX3_works_55 : decode cX3_works 55 = .ok (.ifCond .eq 45, 3) := by decide +kernel
theorem dX3_works_58 : decode cX3_works 58 = .ok (.aload_n 0, 1) := by decide +kernel
theorem dX3_works_59 : decode cX3_works 59 = .ok (.getfield 13, 3) := by decide +kernel
theorem dX3_works_62 : decode cX3_works 62 = .ok (.iload 5, 2) := by decide +kernel
theorem dX3_works_64 : decode cX3_works 64 = .ok (.iaload, 1) := by decide +kernel
theorem dX3_works_65 : decode cX3_works 65 = .ok (.iload 4, 2) := by decide +kernel
theorem dX3_works_67 : decode cX3_works 67 = .ok (.if_icmp .eq 6, 3) := by decide +kernel
theorem dX3_works_70 : decode cX3_works 70 = .ok (.goto 30, 3) := by decide +kernel
theorem dX3_works_73 : decode cX3_works 73 = .ok (.iload 5, 2) := by decide +kernel
theorem dX3_works_75 : decode cX3_works 75 = .ok (.iload_n 3, 1) := by decide +kernel
theorem dX3_works_76 : decode cX3_works 76 = .ok (.if_icmp .ne 5, 3) := by decide +kernel
theorem dX3_works_79 : decode cX3_works 79 = .ok (.iconst 1, 1) := by decide +kernel
theorem dX3_works_80 : decode cX3_works 80 = .ok (.ireturn, 1) := by decide +kernel
theorem dX3_works_81 : decode cX3_works 81 = .ok (.aload_n 0, 1) := by decide +kernel
theorem dX3_works_82 : decode cX3_works 82 = .ok (.iload_n 1, 1) := by decide +kernel
theorem dX3_works_83 : decode cX3_works 83 = .ok (.iload 5, 2) := by decide +kernel
theorem dX3_works_85 : decode cX3_works 85 = .ok (.invokevirtual 131, 3) := by decide +kernel
theorem dX3_works_88 : decode cX3_works 88 = .ok (.ifCond .ne 5, 3) := by decide +kernel
theorem dX3_works_91 : decode cX3_works 91 = .ok (.iconst 0, 1) := by decide +kernel
theorem dX3_works_92 : decode cX3_works 92 = .ok (.ireturn, 1) := by decide +kernel
theorem dX3_works_93 : decode cX3_works 93 = .ok (.aload_n 0, 1) := by decide +kernel
theorem dX3_works_94 : decode cX3_works 94 = .ok (.iload_n 1, 1) := by decide +kernel
theorem dX3_works_95 : decode cX3_works 95 = .ok (.iload 5, 2) := by decide +kernel
theorem dX3_works_97 : decode cX3_works 97 = .ok (.invokevirtual 135, 3) := by decide +kernel
theorem dX3_works_100 : decode cX3_works 100 = .ok (.iinc 5 1, 3) := by decide +kernel
theorem dX3_works_103 : decode cX3_works 103 = .ok (.goto (-61), 3) := by decide +kernel
theorem dX3_works_106 : decode cX3_works 106 = .ok (.iinc 4 1, 3) := by decide +kernel
theorem dX3_works_109 : decode cX3_works 109 = .ok (.goto (-76), 3) := by decide +kernel
theorem dX3_works_112 : decode cX3_works 112 = .ok (.iconst 1, 1) := by decide +kernel
theorem dX3_works_113 : decode cX3_works 113 = .ok (.ireturn, 1) := by decide +kernel
