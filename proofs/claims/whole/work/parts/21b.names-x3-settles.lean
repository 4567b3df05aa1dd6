set_option maxRecDepth 20000 in
theorem ggX3_settles_X3_averageOf : GoodIn wsX3_settles wsX3_averageOf := goodIn_r _ [17, 18, 19, 20, 16, 21, 22, 11, 23, 4, 24, 25, 26, 27, 28, 29, 30, 31, 32, 33, 34, 35, 36, 37, 38, 39, 40, 41, 42, 43, 44, 45, 46, 47, 48, 49, 50] rfl (by decide +kernel)
set_option maxRecDepth 20000 in
theorem gX3_settles_X3_averageOf : GoodIn wsX3_settles (wsV RX3 97 RX3 yX3_averageOf wsX3_averageOf) := goodIn_app (goodIn_of _ (by decide +kernel)) ggX3_settles_X3_averageOf
set_option maxRecDepth 20000 in
theorem ggX3_settles_X3_nearest : GoodIn wsX3_settles wsX3_nearest := goodIn_r _ [26, 27] rfl (by decide +kernel)
set_option maxRecDepth 20000 in
theorem gX3_settles_X3_nearest : GoodIn wsX3_settles (va_wsS RX3 89 yX3_nearest wsX3_nearest) := goodIn_app (goodIn_of _ (by decide +kernel)) ggX3_settles_X3_nearest
theorem dX3_settles_0 : decode cX3_settles 0 = .ok (.lconst 0, 1) := by decide +kernel
theorem dX3_settles_1 : decode cX3_settles 1 = .ok (.lstore_n 3, 1) := by decide +kernel
theorem dX3_settles_2 : decode cX3_settles 2 = .ok (.iconst 0, 1) := by decide +kernel
theorem dX3_settles_3 : decode cX3_settles 3 = .ok (.istore 5, 2) := by decide +kernel
theorem dX3_settles_5 : decode cX3_settles 5 = .ok (.iload 5, 2) := by decide +kernel
theorem dX3_settles_7 : decode cX3_settles 7 = .ok (.bipush 60, 2) := by decide +kernel
theorem dX3_settles_9 : decode cX3_settles 9 = .ok (.if_icmp .ge 45, 3) := by decide +kernel
theorem dX3_settles_12 : decode cX3_settles 12 = .ok (.lload_n 3, 1) := by decide +kernel
theorem dX3_settles_13 : decode cX3_settles 13 = .ok (.aload_n 0, 1) := by decide +kernel
theorem dX3_settles_14 : decode cX3_settles 14 = .ok (.getfield 43, 3) := by decide +kernel
theorem dX3_settles_17 : decode cX3_settles 17 = .ok (.iload 5, 2) := by decide +kernel
theorem dX3_settles_19 : decode cX3_settles 19 = .ok (.baload, 1) := by decide +kernel
theorem dX3_settles_20 : decode cX3_settles 20 = .ok (.ifCond .eq 25, 3) := by decide +kernel
theorem dX3_settles_23 : decode cX3_settles 23 = .ok (.aload_n 0, 1) := by decide +kernel
theorem dX3_settles_24 : decode cX3_settles 24 = .ok (.getfield 47, 3) := by decide +kernel
theorem dX3_settles_27 : decode cX3_settles 27 = .ok (.iload 5, 2) := by decide +kernel
theorem dX3_settles_29 : decode cX3_settles 29 = .ok (.iaload, 1) := by decide +kernel
theorem dX3_settles_30 : decode cX3_settles 30 = .ok (.i2l, 1) := by decide +kernel
theorem dX3_settles_31 : decode cX3_settles 31 = .ok (.iconst 3, 1) := by decide +kernel
theorem dX3_settles_32 : decode cX3_settles 32 = .ok (.aload_n 0, 1) := by decide +kernel
theorem dX3_settles_33 : decode cX3_settles 33 = .ok (.getfield 50, 3) := by decide +kernel
theorem dX3_settles_36 : decode cX3_settles 36 = .ok (.iload 5, 2) := by decide +kernel
theorem dX3_settles_38 : decode cX3_settles 38 = .ok (.iaload, 1) := by decide +kernel
theorem dX3_settles_39 : decode cX3_settles 39 = .ok (.isub, 1) := by decide +kernel
theorem dX3_settles_40 : decode cX3_settles 40 = .ok (.i2l, 1) := by decide +kernel
theorem dX3_settles_41 : decode cX3_settles 41 = .ok (.lmul, 1) := by decide +kernel
theorem dX3_settles_42 : decode cX3_settles 42 = .ok (.goto 4, 3) := by decide +kernel
theorem dX3_settles_45 : decode cX3_settles 45 = .ok (.lconst 0, 1) := by decide +kernel
theorem dX3_settles_46 : decode cX3_settles 46 = .ok (.ladd, 1) := by decide +kernel
theorem dX3_settles_47 : decode cX3_settles 47 = .ok (.lstore_n 3, 1) := by decide +kernel
theorem dX3_settles_48 : decode cX3_settles 48 = .ok (.iinc 5 1, 3) := by decide +kernel
theorem dX3_settles_51 : decode cX3_settles 51 = .ok (.goto (-46), 3) := by decide +kernel
theorem dX3_settles_54 : decode cX3_settles 54 = .ok (.aload_n 0, 1) := by decide +kernel
theorem dX3_settles_55 : decode cX3_settles 55 = .ok (.getfield 22, 3) := by decide +kernel
theorem dX3_settles_58 : decode cX3_settles 58 = .ok (.iload_n 2, 1) := by decide +kernel
theorem dX3_settles_59 : decode cX3_settles 59 = .ok (.iaload, 1) := by decide +kernel
theorem dX3_settles_60 : decode cX3_settles 60 = .ok (.i2l, 1) := by decide +kernel
theorem dX3_settles_61 : decode cX3_settles 61 = .ok (.lstore 5, 2) := by decide +kernel
theorem dX3_settles_63 : decode cX3_settles 63 = .ok (.iconst 0, 1) := by decide +kernel
theorem dX3_settles_64 : decode cX3_settles 64 = .ok (.istore 7, 2) := by decide +kernel
theorem dX3_settles_66 : decode cX3_settles 66 = .ok (.iload 7, 2) := by decide +kernel
theorem dX3_settles_68 : decode cX3_settles 68 = .ok (.bipush 60, 2) := by decide +kernel
theorem dX3_settles_70 : decode cX3_settles 70 = .ok (.if_icmp .ge 102, 3) := by decide +kernel
theorem dX3_settles_73 : decode cX3_settles 73 = .ok (.aload_n 0, 1) := by decide +kernel
theorem dX3_settles_74 : decode cX3_settles 74 = .ok (.getfield 43, 3) := by decide +kernel
theorem dX3_settles_77 : decode cX3_settles 77 = .ok (.iload 7, 2) := by decide +kernel
theorem dX3_settles_79 : decode cX3_settles 79 = .ok (.baload, 1) := by decide +kernel
theorem dX3_settles_80 : decode cX3_settles 80 = .ok (.ifCond .eq 33, 3) := by decide +kernel
theorem dX3_settles_83 : decode cX3_settles 83 = .ok (.aload_n 0, 1) := by decide +kernel
theorem dX3_settles_84 : decode cX3_settles 84 = .ok (.getfield 22, 3) := by decide +kernel
theorem dX3_settles_87 : decode cX3_settles 87 = .ok (.iload_n 2, 1) := by decide +kernel
theorem dX3_settles_88 : decode cX3_settles 88 = .ok (.iaload, 1) := by decide +kernel
theorem dX3_settles_89 : decode cX3_settles 89 = .ok (.i2l, 1) := by decide +kernel
theorem dX3_settles_90 : decode cX3_settles 90 = .ok (.aload_n 0, 1) := by decide +kernel
theorem dX3_settles_91 : decode cX3_settles 91 = .ok (.getfield 47, 3) := by decide +kernel
theorem dX3_settles_94 : decode cX3_settles 94 = .ok (.iload 7, 2) := by decide +kernel
theorem dX3_settles_96 : decode cX3_settles 96 = .ok (.iaload, 1) := by decide +kernel
theorem dX3_settles_97 : decode cX3_settles 97 = .ok (.i2l, 1) := by decide +kernel
theorem dX3_settles_98 : decode cX3_settles 98 = .ok (.lmul, 1) := by decide +kernel
theorem dX3_settles_99 : decode cX3_settles 99 = .ok (.iconst 3, 1) := by decide +kernel
theorem dX3_settles_100 : decode cX3_settles 100 = .ok (.aload_n 0, 1) := by decide +kernel
theorem dX3_settles_101 : decode cX3_settles 101 = .ok (.getfield 50, 3) := by decide +kernel
theorem dX3_settles_104 : decode cX3_settles 104 = .ok (.iload 7, 2) := by decide +kernel
theorem dX3_settles_106 : decode cX3_settles 106 = .ok (.iaload, 1) := by decide +kernel
theorem dX3_settles_107 : decode cX3_settles 107 = .ok (.isub, 1) := by decide +kernel
theorem dX3_settles_108 : decode cX3_settles 108 = .ok (.i2l, 1) := by decide +kernel
theorem dX3_settles_109 : decode cX3_settles 109 = .ok (.lmul, 1) := by decide +kernel
theorem dX3_settles_110 : decode cX3_settles 110 = .ok (.goto 4, 3) := by decide +kernel
theorem dX3_settles_113 : decode cX3_settles 113 = .ok (.lconst 0, 1) := by decide +kernel
theorem dX3_settles_114 : decode cX3_settles 114 = .ok (.lstore 8, 2) := by decide +kernel
theorem dX3_settles_116 : decode cX3_settles 116 = .ok (.aload_n 0, 1) := by decide +kernel
theorem dX3_settles_117 : decode cX3_settles 117 = .ok (.getfield 62, 3) := by decide +kernel
theorem dX3_settles_120 : decode cX3_settles 120 = .ok (.iload 7, 2) := by decide +kernel
theorem dX3_settles_122 : decode cX3_settles 122 = .ok (.lload 8, 2) := by decide +kernel
theorem dX3_settles_124 : decode cX3_settles 124 = .ok (.lload_n 3, 1) := by decide +kernel
theorem dX3_settles_125 : decode cX3_settles 125 = .ok (.ldiv, 1) := by decide +kernel
theorem dX3_settles_126 : decode cX3_settles 126 = .ok (.lastore, 1) := by decide +kernel
theorem dX3_settles_127 : decode cX3_settles 127 = .ok (.aload_n 0, 1) := by decide +kernel
theorem dX3_settles_128 : decode cX3_settles 128 = .ok (.getfield 66, 3) := by decide +kernel
theorem dX3_settles_131 : decode cX3_settles 131 = .ok (.iload 7, 2) := by decide +kernel
theorem dX3_settles_133 : decode cX3_settles 133 = .ok (.aload_n 0, 1) := by decide +kernel
theorem dX3_settles_134 : decode cX3_settles 134 = .ok (.getfield 43, 3) := by decide +kernel
theorem dX3_settles_137 : decode cX3_settles 137 = .ok (.iload 7, 2) := by decide +kernel
theorem dX3_settles_139 : decode cX3_settles 139 = .ok (.baload, 1) := by decide +kernel
theorem dX3_settles_140 : decode cX3_settles 140 = .ok (.ifCond .eq 10, 3) := by decide +kernel
theorem dX3_settles_143 : decode cX3_settles 143 = .ok (.lload 8, 2) := by decide +kernel
theorem dX3_settles_145 : decode cX3_settles 145 = .ok (.lload_n 3, 1) := by decide +kernel
theorem dX3_settles_146 : decode cX3_settles 146 = .ok (.lrem, 1) := by decide +kernel
theorem dX3_settles_147 : decode cX3_settles 147 = .ok (.goto 6, 3) := by decide +kernel
theorem dX3_settles_150 : decode cX3_settles 150 = .ok (.ldc2_w 104, 3) := by decide +kernel
theorem dX3_settles_153 : decode cX3_settles 153 = .ok (.lastore, 1) := by decide +kernel
theorem dX3_settles_154 : decode cX3_settles 154 = .ok (.lload 5, 2) := by decide +kernel
theorem dX3_settles_156 : decode cX3_settles 156 = .ok (.aload_n 0, 1) := by decide +kernel
theorem dX3_settles_157 : decode cX3_settles 157 = .ok (.getfield 62, 3) := by decide +kernel
theorem dX3_settles_160 : decode cX3_settles 160 = .ok (.iload 7, 2) := by decide +kernel
theorem dX3_settles_162 : decode cX3_settles 162 = .ok (.laload, 1) := by decide +kernel
theorem dX3_settles_163 : decode cX3_settles 163 = .ok (.lsub, 1) := by decide +kernel
theorem dX3_settles_164 : decode cX3_settles 164 = .ok (.lstore 5, 2) := by decide +kernel
theorem dX3_settles_166 : decode cX3_settles 166 = .ok (.iinc 7 1, 3) := by decide +kernel
theorem dX3_settles_169 : decode cX3_settles 169 = .ok (.goto (-103), 3) := by decide +kernel
theorem dX3_settles_172 : decode cX3_settles 172 = .ok (.lload 5, 2) := by decide +kernel
theorem dX3_settles_174 : decode cX3_settles 174 = .ok (.lconst 0, 1) := by decide +kernel
theorem dX3_settles_175 : decode cX3_settles 175 = .ok (.lcmp, 1) := by decide +kernel
theorem dX3_settles_176 : decode cX3_settles 176 = .ok (.ifCond .le 74, 3) := by decide +kernel
theorem dX3_settles_179 : decode cX3_settles 179 = .ok (.iconst 0, 1) := by decide +kernel
theorem dX3_settles_180 : decode cX3_settles 180 = .ok (.istore 7, 2) := by decide +kernel
theorem dX3_settles_182 : decode cX3_settles 182 = .ok (.iconst 0, 1) := by decide +kernel
theorem dX3_settles_183 : decode cX3_settles 183 = .ok (.istore 8, 2) := by decide +kernel
theorem dX3_settles_185 : decode cX3_settles 185 = .ok (.iload 8, 2) := by decide +kernel
theorem dX3_settles_187 : decode cX3_settles 187 = .ok (.bipush 60, 2) := by decide +kernel
theorem dX3_settles_189 : decode cX3_settles 189 = .ok (.if_icmp .ge 31, 3) := by decide +kernel
theorem dX3_settles_192 : decode cX3_settles 192 = .ok (.aload_n 0, 1) := by decide +kernel
theorem dX3_settles_193 : decode cX3_settles 193 = .ok (.getfield 66, 3) := by decide +kernel
theorem dX3_settles_196 : decode cX3_settles 196 = .ok (.iload 8, 2) := by decide +kernel
theorem dX3_settles_198 : decode cX3_settles 198 = .ok (.laload, 1) := by decide +kernel
theorem dX3_settles_199 : decode cX3_settles 199 = .ok (.aload_n 0, 1) := by decide +kernel
theorem dX3_settles_200 : decode cX3_settles 200 = .ok (.getfield 66, 3) := by decide +kernel
theorem dX3_settles_203 : decode cX3_settles 203 = .ok (.iload 7, 2) := by decide +kernel
theorem dX3_settles_205 : decode cX3_settles 205 = .ok (.laload, 1) := by decide +kernel
theorem dX3_settles_206 : decode cX3_settles 206 = .ok (.lcmp, 1) := by decide +kernel
theorem dX3_settles_207 : decode cX3_settles 207 = .ok (.ifCond .le 7, 3) := by decide +kernel
theorem dX3_settles_210 : decode cX3_settles 210 = .ok (.iload 8, 2) := by decide +kernel
theorem dX3_settles_212 : decode cX3_settles 212 = .ok (.istore 7, 2) := by decide +kernel
theorem dX3_settles_214 : decode cX3_settles 214 = .ok (.iinc 8 1, 3) := by decide +kernel
theorem dX3_settles_217 : decode cX3_settles 217 = .ok (.goto (-32), 3) := by decide +kernel
theorem dX3_settles_220 : decode cX3_settles 220 = .ok (.aload_n 0, 1) := by decide +kernel
theorem dX3_settles_221 : decode cX3_settles 221 = .ok (.getfield 62, 3) := by decide +kernel
theorem dX3_settles_224 : decode cX3_settles 224 = .ok (.iload 7, 2) := by decide +kernel
theorem dX3_settles_226 : decode cX3_settles 226 = .ok (.dup2, 1) := by decide +kernel
theorem dX3_settles_227 : decode cX3_settles 227 = .ok (.laload, 1) := by decide +kernel
theorem dX3_settles_228 : decode cX3_settles 228 = .ok (.lconst 1, 1) := by decide +kernel
theorem dX3_settles_229 : decode cX3_settles 229 = .ok (.ladd, 1) := by decide +kernel
theorem dX3_settles_230 : decode cX3_settles 230 = .ok (.lastore, 1) := by decide +kernel
theorem dX3_settles_231 : decode cX3_settles 231 = .ok (.aload_n 0, 1) := by decide +kernel
theorem dX3_settles_232 : decode cX3_settles 232 = .ok (.getfield 66, 3) := by decide +kernel
theorem dX3_settles_235 : decode cX3_settles 235 = .ok (.iload 7, 2) := by decide +kernel
theorem dX3_settles_237 : decode cX3_settles 237 = .ok (.ldc2_w 104, 3) := by decide +kernel
theorem dX3_settles_240 : decode cX3_settles 240 = .ok (.lastore, 1) := by decide +kernel
theorem dX3_settles_241 : decode cX3_settles 241 = .ok (.lload 5, 2) := by decide +kernel
theorem dX3_settles_243 : decode cX3_settles 243 = .ok (.lconst 1, 1) := by decide +kernel
theorem dX3_settles_244 : decode cX3_settles 244 = .ok (.lsub, 1) := by decide +kernel
theorem dX3_settles_245 : decode cX3_settles 245 = .ok (.lstore 5, 2) := by decide +kernel
theorem dX3_settles_247 : decode cX3_settles 247 = .ok (.goto (-75), 3) := by decide +kernel
theorem dX3_settles_250 : decode cX3_settles 250 = .ok (.iconst 0, 1) := by decide +kernel
theorem dX3_settles_251 : decode cX3_settles 251 = .ok (.istore 7, 2) := by decide +kernel
theorem dX3_settles_253 : decode cX3_settles 253 = .ok (.iload 7, 2) := by decide +kernel
theorem dX3_settles_255 : decode cX3_settles 255 = .ok (.bipush 60, 2) := by decide +kernel
theorem dX3_settles_257 : decode cX3_settles 257 = .ok (.if_icmp .ge 107, 3) := by decide +kernel
theorem dX3_settles_260 : decode cX3_settles 260 = .ok (.iconst 0, 1) := by decide +kernel
theorem dX3_settles_261 : decode cX3_settles 261 = .ok (.istore 8, 2) := by decide +kernel
theorem dX3_settles_263 : decode cX3_settles 263 = .ok (.iload 8, 2) := by decide +kernel
theorem dX3_settles_265 : decode cX3_settles 265 = .ok (.iconst 3, 1) := by decide +kernel
theorem dX3_settles_266 : decode cX3_settles 266 = .ok (.if_icmp .ge 92, 3) := by decide +kernel
theorem dX3_settles_269 : decode cX3_settles 269 = .ok (.aload_n 0, 1) := by decide +kernel
theorem dX3_settles_270 : decode cX3_settles 270 = .ok (.getfield 43, 3) := by decide +kernel
theorem dX3_settles_273 : decode cX3_settles 273 = .ok (.iload 7, 2) := by decide +kernel
theorem dX3_settles_275 : decode cX3_settles 275 = .ok (.baload, 1) := by decide +kernel
theorem dX3_settles_276 : decode cX3_settles 276 = .ok (.ifCond .eq 82, 3) := by decide +kernel
theorem dX3_settles_279 : decode cX3_settles 279 = .ok (.aload_n 0, 1) := by decide +kernel
theorem dX3_settles_280 : decode cX3_settles 280 = .ok (.getfield 62, 3) := by decide +kernel
theorem dX3_settles_283 : decode cX3_settles 283 = .ok (.iload 7, 2) := by decide +kernel
theorem dX3_settles_285 : decode cX3_settles 285 = .ok (.laload, 1) := by decide +kernel
theorem dX3_settles_286 : decode cX3_settles 286 = .ok (.ldc2_w 106, 3) := by decide +kernel
theorem dX3_settles_289 : decode cX3_settles 289 = .ok (.ldiv, 1) := by decide +kernel
theorem dX3_settles_290 : decode cX3_settles 290 = .ok (.aload_n 0, 1) := by decide +kernel
theorem dX3_settles_291 : decode cX3_settles 291 = .ok (.getfield 62, 3) := by decide +kernel
theorem dX3_settles_294 : decode cX3_settles 294 = .ok (.iload 7, 2) := by decide +kernel
theorem dX3_settles_296 : decode cX3_settles 296 = .ok (.laload, 1) := by decide +kernel
theorem dX3_settles_297 : decode cX3_settles 297 = .ok (.ldc2_w 106, 3) := by decide +kernel
theorem dX3_settles_300 : decode cX3_settles 300 = .ok (.lrem, 1) := by decide +kernel
theorem dX3_settles_301 : decode cX3_settles 301 = .ok (.iload 8, 2) := by decide +kernel
theorem dX3_settles_303 : decode cX3_settles 303 = .ok (.i2l, 1) := by decide +kernel
theorem dX3_settles_304 : decode cX3_settles 304 = .ok (.lcmp, 1) := by decide +kernel
theorem dX3_settles_305 : decode cX3_settles 305 = .ok (.ifCond .le 7, 3) := by decide +kernel
theorem dX3_settles_308 : decode cX3_settles 308 = .ok (.lconst 1, 1) := by decide +kernel
theorem dX3_settles_309 : decode cX3_settles 309 = .ok (.goto 4, 3) := by decide +kernel
theorem dX3_settles_312 : decode cX3_settles 312 = .ok (.lconst 0, 1) := by decide +kernel
theorem dX3_settles_313 : decode cX3_settles 313 = .ok (.ladd, 1) := by decide +kernel
theorem dX3_settles_314 : decode cX3_settles 314 = .ok (.lstore 9, 2) := by decide +kernel
theorem dX3_settles_316 : decode cX3_settles 316 = .ok (.aload_n 0, 1) := by decide +kernel
theorem dX3_settles_317 : decode cX3_settles 317 = .ok (.getfield 56, 3) := by decide +kernel
theorem dX3_settles_320 : decode cX3_settles 320 = .ok (.iconst 3, 1) := by decide +kernel
theorem dX3_settles_321 : decode cX3_settles 321 = .ok (.iload 7, 2) := by decide +kernel
theorem dX3_settles_323 : decode cX3_settles 323 = .ok (.imul, 1) := by decide +kernel
theorem dX3_settles_324 : decode cX3_settles 324 = .ok (.iload 8, 2) := by decide +kernel
theorem dX3_settles_326 : decode cX3_settles 326 = .ok (.iadd, 1) := by decide +kernel
theorem dX3_settles_327 : decode cX3_settles 327 = .ok (.ldc2_w 108, 3) := by decide +kernel
theorem dX3_settles_330 : decode cX3_settles 330 = .ok (.lload 9, 2) := by decide +kernel
theorem dX3_settles_332 : decode cX3_settles 332 = .ok (.lmul, 1) := by decide +kernel
theorem dX3_settles_333 : decode cX3_settles 333 = .ok (.aload_n 0, 1) := by decide +kernel
theorem dX3_settles_334 : decode cX3_settles 334 = .ok (.iload_n 1, 1) := by decide +kernel
theorem dX3_settles_335 : decode cX3_settles 335 = .ok (.aload_n 0, 1) := by decide +kernel
theorem dX3_settles_336 : decode cX3_settles 336 = .ok (.getfield 13, 3) := by decide +kernel
theorem dX3_settles_339 : decode cX3_settles 339 = .ok (.iload_n 2, 1) := by decide +kernel
theorem dX3_settles_340 : decode cX3_settles 340 = .ok (.iaload, 1) := by decide +kernel
theorem dX3_settles_341 : decode cX3_settles 341 = .ok (.iload 8, 2) := by decide +kernel
theorem dX3_settles_343 : decode cX3_settles 343 = .ok (.invokevirtual 97, 3) := by decide +kernel
theorem dX3_settles_346 : decode cX3_settles 346 = .ok (.i2l, 1) := by decide +kernel
theorem dX3_settles_347 : decode cX3_settles 347 = .ok (.invokestatic 89, 3) := by decide +kernel
theorem dX3_settles_350 : decode cX3_settles 350 = .ok (.l2i, 1) := by decide +kernel
theorem dX3_settles_351 : decode cX3_settles 351 = .ok (.iastore, 1) := by decide +kernel
theorem dX3_settles_352 : decode cX3_settles 352 = .ok (.iinc 8 1, 3) := by decide +kernel
theorem dX3_settles_355 : decode cX3_settles 355 = .ok (.goto (-92), 3) := by decide +kernel
theorem dX3_settles_358 : decode cX3_settles 358 = .ok (.iinc 7 1, 3) := by decide +kernel
theorem dX3_settles_361 : decode cX3_settles 361 = .ok (.goto (-108), 3) := by decide +kernel
theorem dX3_settles_364 : decode cX3_settles 364 = .ok (.aload_n 0, 1) := by decide +kernel
theorem dX3_settles_365 : decode cX3_settles 365 = .ok (.iconst 1, 1) := by decide +kernel
theorem dX3_settles_366 : decode cX3_settles 366 = .ok (.putfield 110, 3) := by decide +kernel
theorem dX3_settles_369 : decode cX3_settles 369 = .ok (.return_, 1) := by decide +kernel
set_option maxRecDepth 20000 in
theorem ggX3_is_X3_isField : GoodIn wsX3_is wsX3_isField := goodIn_r _ [6, 7, 8, 9, 5, 10, 11, 12, 13, 14, 15, 16, 17, 18, 19, 20, 21, 22, 23, 24, 25, 26, 27, 28, 29, 30, 31, 32, 33] rfl (by decide +kernel)
set_option maxRecDepth 20000 in
theorem gX3_is_X3_isField : GoodIn wsX3_is (wsV RX3 114 RX3 yX3_isField wsX3_isField) := goodIn_app (goodIn_of _ (by decide +kernel)) ggX3_is_X3_isField
theorem dX3_is_0 : decode cX3_is 0 = .ok (.aload_n 0, 1) := by decide +kernel
theorem dX3_is_1 : decode cX3_is 1 = .ok (.iload_n 1, 1) := by decide +kernel
theorem dX3_is_2 : decode cX3_is 2 = .ok (.invokevirtual 114, 3) := by decide +kernel
theorem dX3_is_5 : decode cX3_is 5 = .ok (.ifCond .eq 16, 3) := by decide +kernel
theorem dX3_is_8 : decode cX3_is 8 = .ok (.aload_n 0, 1) := by decide +kernel
theorem dX3_is_9 : decode cX3_is 9 = .ok (.getfield 43, 3) := by decide +kernel
theorem dX3_is_12 : decode cX3_is 12 = .ok (.iload_n 1, 1) := by decide +kernel
theorem dX3_is_13 : decode cX3_is 13 = .ok (.baload, 1) := by decide +kernel
theorem dX3_is_14 : decode cX3_is 14 = .ok (.ifCond .eq 7, 3) := by decide +kernel
theorem dX3_is_17 : decode cX3_is 17 = .ok (.iconst 1, 1) := by decide +kernel
theorem dX3_is_18 : decode cX3_is 18 = .ok (.goto 4, 3) := by decide +kernel
theorem dX3_is_21 : decode cX3_is 21 = .ok (.iconst 0, 1) := by decide +kernel
theorem dX3_is_22 : decode cX3_is 22 = .ok (.ireturn, 1) := by decide +kernel
