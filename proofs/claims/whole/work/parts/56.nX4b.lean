set_option maxRecDepth 20000 in
theorem ggX4_know_X4_join : GoodIn wsX4_know wsX4_join := goodIn_r _ [21, 4, 6, 10, 22, 8, 9, 15, 35, 36, 37, 38, 39, 40, 41, 42, 43, 44, 45, 46, 47, 48, 49, 50, 51, 52, 53, 54, 55] (by decide +kernel) (by decide +kernel)
set_option maxRecDepth 20000 in
theorem gX4_know_X4_join : GoodIn wsX4_know (wsV RX4 92 RX4 yX4_join wsX4_join) := goodIn_app (goodIn_of _ (by decide +kernel)) ggX4_know_X4_join
set_option maxRecDepth 20000 in
theorem ggX4_know_X4_inOrder : GoodIn wsX4_know wsX4_inOrder := goodIn_r _ [26, 27, 28, 2, 16, 6, 29, 30, 7, 8, 31, 32, 33, 20, 34, 15, 10, 35, 36, 37, 38, 39, 40, 41, 42, 43, 44, 45, 46, 47, 48, 49, 50, 51, 52, 53, 54, 55] (by decide +kernel) (by decide +kernel)
set_option maxRecDepth 20000 in
theorem gX4_know_X4_inOrder : GoodIn wsX4_know (wsV RX4 96 RX4 yX4_inOrder wsX4_inOrder) := goodIn_app (goodIn_of _ (by decide +kernel)) ggX4_know_X4_inOrder
theorem dX4_know_0 : decode cX4_know 0 = .ok (.aload_n 0, 1) := by decide +kernel
theorem dX4_know_1 : decode cX4_know 1 = .ok (.getfield 67, 3) := by decide +kernel
theorem dX4_know_4 : decode cX4_know 4 = .ok (.ifCond .eq 4, 3) := by decide +kernel
theorem dX4_know_7 : decode cX4_know 7 = .ok (.return_, 1) := by decide +kernel
theorem dX4_know_8 : decode cX4_know 8 = .ok (.aload_n 0, 1) := by decide +kernel
theorem dX4_know_9 : decode cX4_know 9 = .ok (.iconst 1, 1) := by decide +kernel
theorem dX4_know_10 : decode cX4_know 10 = .ok (.putfield 67, 3) := by decide +kernel
theorem dX4_know_13 : decode cX4_know 13 = .ok (.iconst 0, 1) := by decide +kernel
theorem dX4_know_14 : decode cX4_know 14 = .ok (.istore_n 1, 1) := by decide +kernel
theorem dX4_know_15 : decode cX4_know 15 = .ok (.iload_n 1, 1) := by decide +kernel
theorem dX4_know_16 : decode cX4_know 16 = .ok (.aload_n 0, 1) := by decide +kernel
theorem dX4_know_17 : decode cX4_know 17 = .ok (.getfield 7, 3) := by decide +kernel
theorem dX4_know_20 : decode cX4_know 20 = .ok (.if_icmp .ge 77, 3) := by decide +kernel
theorem dX4_know_23 : decode cX4_know 23 = .ok (.aload_n 0, 1) := by decide +kernel
theorem dX4_know_24 : decode cX4_know 24 = .ok (.getfield 30, 3) := by decide +kernel
theorem dX4_know_27 : decode cX4_know 27 = .ok (.iload_n 1, 1) := by decide +kernel
theorem dX4_know_28 : decode cX4_know 28 = .ok (.lconst 0, 1) := by decide +kernel
theorem dX4_know_29 : decode cX4_know 29 = .ok (.lastore, 1) := by decide +kernel
theorem dX4_know_30 : decode cX4_know 30 = .ok (.aload_n 0, 1) := by decide +kernel
theorem dX4_know_31 : decode cX4_know 31 = .ok (.getfield 33, 3) := by decide +kernel
theorem dX4_know_34 : decode cX4_know 34 = .ok (.iload_n 1, 1) := by decide +kernel
theorem dX4_know_35 : decode cX4_know 35 = .ok (.iconst (-1), 1) := by decide +kernel
theorem dX4_know_36 : decode cX4_know 36 = .ok (.iastore, 1) := by decide +kernel
theorem dX4_know_37 : decode cX4_know 37 = .ok (.aload_n 0, 1) := by decide +kernel
theorem dX4_know_38 : decode cX4_know 38 = .ok (.getfield 57, 3) := by decide +kernel
theorem dX4_know_41 : decode cX4_know 41 = .ok (.iload_n 1, 1) := by decide +kernel
theorem dX4_know_42 : decode cX4_know 42 = .ok (.lconst 0, 1) := by decide +kernel
theorem dX4_know_43 : decode cX4_know 43 = .ok (.lastore, 1) := by decide +kernel
theorem dX4_know_44 : decode cX4_know 44 = .ok (.aload_n 0, 1) := by decide +kernel
theorem dX4_know_45 : decode cX4_know 45 = .ok (.getfield 36, 3) := by decide +kernel
theorem dX4_know_48 : decode cX4_know 48 = .ok (.iload_n 1, 1) := by decide +kernel
theorem dX4_know_49 : decode cX4_know 49 = .ok (.aload_n 0, 1) := by decide +kernel
theorem dX4_know_50 : decode cX4_know 50 = .ok (.getfield 16, 3) := by decide +kernel
theorem dX4_know_53 : decode cX4_know 53 = .ok (.iload_n 1, 1) := by decide +kernel
theorem dX4_know_54 : decode cX4_know 54 = .ok (.iaload, 1) := by decide +kernel
theorem dX4_know_55 : decode cX4_know 55 = .ok (.ifCond .le 7, 3) := by decide +kernel
theorem dX4_know_58 : decode cX4_know 58 = .ok (.iload_n 1, 1) := by decide +kernel
theorem dX4_know_59 : decode cX4_know 59 = .ok (.goto 4, 3) := by decide +kernel
theorem dX4_know_62 : decode cX4_know 62 = .ok (.iconst (-1), 1) := by decide +kernel
theorem dX4_know_63 : decode cX4_know 63 = .ok (.iastore, 1) := by decide +kernel
theorem dX4_know_64 : decode cX4_know 64 = .ok (.aload_n 0, 1) := by decide +kernel
theorem dX4_know_65 : decode cX4_know 65 = .ok (.getfield 39, 3) := by decide +kernel
theorem dX4_know_68 : decode cX4_know 68 = .ok (.iload_n 1, 1) := by decide +kernel
theorem dX4_know_69 : decode cX4_know 69 = .ok (.iconst (-1), 1) := by decide +kernel
theorem dX4_know_70 : decode cX4_know 70 = .ok (.iastore, 1) := by decide +kernel
theorem dX4_know_71 : decode cX4_know 71 = .ok (.aload_n 0, 1) := by decide +kernel
theorem dX4_know_72 : decode cX4_know 72 = .ok (.getfield 42, 3) := by decide +kernel
theorem dX4_know_75 : decode cX4_know 75 = .ok (.iload_n 1, 1) := by decide +kernel
theorem dX4_know_76 : decode cX4_know 76 = .ok (.iload_n 1, 1) := by decide +kernel
theorem dX4_know_77 : decode cX4_know 77 = .ok (.iastore, 1) := by decide +kernel
theorem dX4_know_78 : decode cX4_know 78 = .ok (.aload_n 0, 1) := by decide +kernel
theorem dX4_know_79 : decode cX4_know 79 = .ok (.getfield 48, 3) := by decide +kernel
theorem dX4_know_82 : decode cX4_know 82 = .ok (.iload_n 1, 1) := by decide +kernel
theorem dX4_know_83 : decode cX4_know 83 = .ok (.aload_n 0, 1) := by decide +kernel
theorem dX4_know_84 : decode cX4_know 84 = .ok (.getfield 16, 3) := by decide +kernel
theorem dX4_know_87 : decode cX4_know 87 = .ok (.iload_n 1, 1) := by decide +kernel
theorem dX4_know_88 : decode cX4_know 88 = .ok (.iaload, 1) := by decide +kernel
theorem dX4_know_89 : decode cX4_know 89 = .ok (.i2l, 1) := by decide +kernel
theorem dX4_know_90 : decode cX4_know 90 = .ok (.lastore, 1) := by decide +kernel
theorem dX4_know_91 : decode cX4_know 91 = .ok (.iinc 1 1, 3) := by decide +kernel
theorem dX4_know_94 : decode cX4_know 94 = .ok (.goto (-79), 3) := by decide +kernel
theorem dX4_know_97 : decode cX4_know 97 = .ok (.iconst 0, 1) := by decide +kernel
theorem dX4_know_98 : decode cX4_know 98 = .ok (.istore_n 1, 1) := by decide +kernel
theorem dX4_know_99 : decode cX4_know 99 = .ok (.iload_n 1, 1) := by decide +kernel
theorem dX4_know_100 : decode cX4_know 100 = .ok (.aload_n 0, 1) := by decide +kernel
theorem dX4_know_101 : decode cX4_know 101 = .ok (.getfield 64, 3) := by decide +kernel
theorem dX4_know_104 : decode cX4_know 104 = .ok (.if_icmp .ge 116, 3) := by decide +kernel
theorem dX4_know_107 : decode cX4_know 107 = .ok (.aload_n 0, 1) := by decide +kernel
theorem dX4_know_108 : decode cX4_know 108 = .ok (.getfield 20, 3) := by decide +kernel
theorem dX4_know_111 : decode cX4_know 111 = .ok (.iload_n 1, 1) := by decide +kernel
theorem dX4_know_112 : decode cX4_know 112 = .ok (.iaload, 1) := by decide +kernel
theorem dX4_know_113 : decode cX4_know 113 = .ok (.istore_n 2, 1) := by decide +kernel
theorem dX4_know_114 : decode cX4_know 114 = .ok (.aload_n 0, 1) := by decide +kernel
theorem dX4_know_115 : decode cX4_know 115 = .ok (.getfield 23, 3) := by decide +kernel
theorem dX4_know_118 : decode cX4_know 118 = .ok (.iload_n 1, 1) := by decide +kernel
theorem dX4_know_119 : decode cX4_know 119 = .ok (.iaload, 1) := by decide +kernel
theorem dX4_know_120 : decode cX4_know 120 = .ok (.istore_n 3, 1) := by decide +kernel
theorem dX4_know_121 : decode cX4_know 121 = .ok (.aload_n 0, 1) := by decide +kernel
theorem dX4_know_122 : decode cX4_know 122 = .ok (.getfield 30, 3) := by decide +kernel
theorem dX4_know_125 : decode cX4_know 125 = .ok (.iload_n 3, 1) := by decide +kernel
theorem dX4_know_126 : decode cX4_know 126 = .ok (.dup2, 1) := by decide +kernel
theorem dX4_know_127 : decode cX4_know 127 = .ok (.laload, 1) := by decide +kernel
theorem dX4_know_128 : decode cX4_know 128 = .ok (.aload_n 0, 1) := by decide +kernel
theorem dX4_know_129 : decode cX4_know 129 = .ok (.getfield 26, 3) := by decide +kernel
theorem dX4_know_132 : decode cX4_know 132 = .ok (.iload_n 1, 1) := by decide +kernel
theorem dX4_know_133 : decode cX4_know 133 = .ok (.laload, 1) := by decide +kernel
theorem dX4_know_134 : decode cX4_know 134 = .ok (.ladd, 1) := by decide +kernel
theorem dX4_know_135 : decode cX4_know 135 = .ok (.lastore, 1) := by decide +kernel
theorem dX4_know_136 : decode cX4_know 136 = .ok (.iload_n 2, 1) := by decide +kernel
theorem dX4_know_137 : decode cX4_know 137 = .ok (.iload_n 3, 1) := by decide +kernel
theorem dX4_know_138 : decode cX4_know 138 = .ok (.if_icmp .eq 76, 3) := by decide +kernel
theorem dX4_know_141 : decode cX4_know 141 = .ok (.aload_n 0, 1) := by decide +kernel
theorem dX4_know_142 : decode cX4_know 142 = .ok (.getfield 16, 3) := by decide +kernel
theorem dX4_know_145 : decode cX4_know 145 = .ok (.iload_n 2, 1) := by decide +kernel
theorem dX4_know_146 : decode cX4_know 146 = .ok (.iaload, 1) := by decide +kernel
theorem dX4_know_147 : decode cX4_know 147 = .ok (.ifCond .eq 67, 3) := by decide +kernel
theorem dX4_know_150 : decode cX4_know 150 = .ok (.aload_n 0, 1) := by decide +kernel
theorem dX4_know_151 : decode cX4_know 151 = .ok (.getfield 26, 3) := by decide +kernel
theorem dX4_know_154 : decode cX4_know 154 = .ok (.iload_n 1, 1) := by decide +kernel
theorem dX4_know_155 : decode cX4_know 155 = .ok (.laload, 1) := by decide +kernel
theorem dX4_know_156 : decode cX4_know 156 = .ok (.aload_n 0, 1) := by decide +kernel
theorem dX4_know_157 : decode cX4_know 157 = .ok (.getfield 57, 3) := by decide +kernel
theorem dX4_know_160 : decode cX4_know 160 = .ok (.iload_n 3, 1) := by decide +kernel
theorem dX4_know_161 : decode cX4_know 161 = .ok (.laload, 1) := by decide +kernel
theorem dX4_know_162 : decode cX4_know 162 = .ok (.lcmp, 1) := by decide +kernel
theorem dX4_know_163 : decode cX4_know 163 = .ok (.ifCond .lt 51, 3) := by decide +kernel
theorem dX4_know_166 : decode cX4_know 166 = .ok (.aload_n 0, 1) := by decide +kernel
theorem dX4_know_167 : decode cX4_know 167 = .ok (.getfield 26, 3) := by decide +kernel
theorem dX4_know_170 : decode cX4_know 170 = .ok (.iload_n 1, 1) := by decide +kernel
theorem dX4_know_171 : decode cX4_know 171 = .ok (.laload, 1) := by decide +kernel
theorem dX4_know_172 : decode cX4_know 172 = .ok (.aload_n 0, 1) := by decide +kernel
theorem dX4_know_173 : decode cX4_know 173 = .ok (.getfield 57, 3) := by decide +kernel
theorem dX4_know_176 : decode cX4_know 176 = .ok (.iload_n 3, 1) := by decide +kernel
theorem dX4_know_177 : decode cX4_know 177 = .ok (.laload, 1) := by decide +kernel
theorem dX4_know_178 : decode cX4_know 178 = .ok (.lcmp, 1) := by decide +kernel
theorem dX4_know_179 : decode cX4_know 179 = .ok (.ifCond .ne 16, 3) := by decide +kernel
theorem dX4_know_182 : decode cX4_know 182 = .ok (.iload_n 2, 1) := by decide +kernel
theorem dX4_know_183 : decode cX4_know 183 = .ok (.aload_n 0, 1) := by decide +kernel
theorem dX4_know_184 : decode cX4_know 184 = .ok (.getfield 33, 3) := by decide +kernel
theorem dX4_know_187 : decode cX4_know 187 = .ok (.iload_n 3, 1) := by decide +kernel
theorem dX4_know_188 : decode cX4_know 188 = .ok (.iaload, 1) := by decide +kernel
theorem dX4_know_189 : decode cX4_know 189 = .ok (.if_icmp .le 6, 3) := by decide +kernel
theorem dX4_know_192 : decode cX4_know 192 = .ok (.goto 22, 3) := by decide +kernel
theorem dX4_know_195 : decode cX4_know 195 = .ok (.aload_n 0, 1) := by decide +kernel
theorem dX4_know_196 : decode cX4_know 196 = .ok (.getfield 57, 3) := by decide +kernel
theorem dX4_know_199 : decode cX4_know 199 = .ok (.iload_n 3, 1) := by decide +kernel
theorem dX4_know_200 : decode cX4_know 200 = .ok (.aload_n 0, 1) := by decide +kernel
theorem dX4_know_201 : decode cX4_know 201 = .ok (.getfield 26, 3) := by decide +kernel
theorem dX4_know_204 : decode cX4_know 204 = .ok (.iload_n 1, 1) := by decide +kernel
theorem dX4_know_205 : decode cX4_know 205 = .ok (.laload, 1) := by decide +kernel
theorem dX4_know_206 : decode cX4_know 206 = .ok (.lastore, 1) := by decide +kernel
theorem dX4_know_207 : decode cX4_know 207 = .ok (.aload_n 0, 1) := by decide +kernel
theorem dX4_know_208 : decode cX4_know 208 = .ok (.getfield 33, 3) := by decide +kernel
theorem dX4_know_211 : decode cX4_know 211 = .ok (.iload_n 3, 1) := by decide +kernel
theorem dX4_know_212 : decode cX4_know 212 = .ok (.iload_n 2, 1) := by decide +kernel
theorem dX4_know_213 : decode cX4_know 213 = .ok (.iastore, 1) := by decide +kernel
theorem dX4_know_214 : decode cX4_know 214 = .ok (.iinc 1 1, 3) := by decide +kernel
theorem dX4_know_217 : decode cX4_know 217 = .ok (.goto (-118), 3) := by decide +kernel
theorem dX4_know_220 : decode cX4_know 220 = .ok (.iconst 0, 1) := by decide +kernel
theorem dX4_know_221 : decode cX4_know 221 = .ok (.istore_n 1, 1) := by decide +kernel
theorem dX4_know_222 : decode cX4_know 222 = .ok (.iload_n 1, 1) := by decide +kernel
theorem dX4_know_223 : decode cX4_know 223 = .ok (.aload_n 0, 1) := by decide +kernel
theorem dX4_know_224 : decode cX4_know 224 = .ok (.getfield 7, 3) := by decide +kernel
theorem dX4_know_227 : decode cX4_know 227 = .ok (.if_icmp .ge 28, 3) := by decide +kernel
theorem dX4_know_230 : decode cX4_know 230 = .ok (.aload_n 0, 1) := by decide +kernel
theorem dX4_know_231 : decode cX4_know 231 = .ok (.getfield 45, 3) := by decide +kernel
theorem dX4_know_234 : decode cX4_know 234 = .ok (.iload_n 1, 1) := by decide +kernel
theorem dX4_know_235 : decode cX4_know 235 = .ok (.aload_n 0, 1) := by decide +kernel
theorem dX4_know_236 : decode cX4_know 236 = .ok (.getfield 30, 3) := by decide +kernel
theorem dX4_know_239 : decode cX4_know 239 = .ok (.iload_n 1, 1) := by decide +kernel
theorem dX4_know_240 : decode cX4_know 240 = .ok (.laload, 1) := by decide +kernel
theorem dX4_know_241 : decode cX4_know 241 = .ok (.lastore, 1) := by decide +kernel
theorem dX4_know_242 : decode cX4_know 242 = .ok (.aload_n 0, 1) := by decide +kernel
theorem dX4_know_243 : decode cX4_know 243 = .ok (.getfield 60, 3) := by decide +kernel
theorem dX4_know_246 : decode cX4_know 246 = .ok (.iload_n 1, 1) := by decide +kernel
theorem dX4_know_247 : decode cX4_know 247 = .ok (.iconst 0, 1) := by decide +kernel
theorem dX4_know_248 : decode cX4_know 248 = .ok (.bastore, 1) := by decide +kernel
theorem dX4_know_249 : decode cX4_know 249 = .ok (.iinc 1 1, 3) := by decide +kernel
theorem dX4_know_252 : decode cX4_know 252 = .ok (.goto (-30), 3) := by decide +kernel
theorem dX4_know_255 : decode cX4_know 255 = .ok (.iconst 0, 1) := by decide +kernel
theorem dX4_know_256 : decode cX4_know 256 = .ok (.istore_n 1, 1) := by decide +kernel
theorem dX4_know_257 : decode cX4_know 257 = .ok (.iload_n 1, 1) := by decide +kernel
theorem dX4_know_258 : decode cX4_know 258 = .ok (.aload_n 0, 1) := by decide +kernel
theorem dX4_know_259 : decode cX4_know 259 = .ok (.getfield 7, 3) := by decide +kernel
theorem dX4_know_262 : decode cX4_know 262 = .ok (.if_icmp .ge 79, 3) := by decide +kernel
theorem dX4_know_265 : decode cX4_know 265 = .ok (.iconst (-1), 1) := by decide +kernel
theorem dX4_know_266 : decode cX4_know 266 = .ok (.istore_n 2, 1) := by decide +kernel
theorem dX4_know_267 : decode cX4_know 267 = .ok (.iconst 0, 1) := by decide +kernel
theorem dX4_know_268 : decode cX4_know 268 = .ok (.istore_n 3, 1) := by decide +kernel
theorem dX4_know_269 : decode cX4_know 269 = .ok (.iload_n 3, 1) := by decide +kernel
theorem dX4_know_270 : decode cX4_know 270 = .ok (.aload_n 0, 1) := by decide +kernel
theorem dX4_know_271 : decode cX4_know 271 = .ok (.getfield 7, 3) := by decide +kernel
theorem dX4_know_274 : decode cX4_know 274 = .ok (.if_icmp .ge 40, 3) := by decide +kernel
theorem dX4_know_277 : decode cX4_know 277 = .ok (.aload_n 0, 1) := by decide +kernel
theorem dX4_know_278 : decode cX4_know 278 = .ok (.getfield 60, 3) := by decide +kernel
theorem dX4_know_281 : decode cX4_know 281 = .ok (.iload_n 3, 1) := by decide +kernel
theorem dX4_know_282 : decode cX4_know 282 = .ok (.baload, 1) := by decide +kernel
theorem dX4_know_283 : decode cX4_know 283 = .ok (.ifCond .ne 25, 3) := by decide +kernel
theorem dX4_know_286 : decode cX4_know 286 = .ok (.iload_n 2, 1) := by decide +kernel
theorem dX4_know_287 : decode cX4_know 287 = .ok (.ifCond .lt 19, 3) := by decide +kernel
theorem dX4_know_290 : decode cX4_know 290 = .ok (.aload_n 0, 1) := by decide +kernel
theorem dX4_know_291 : decode cX4_know 291 = .ok (.getfield 30, 3) := by decide +kernel
theorem dX4_know_294 : decode cX4_know 294 = .ok (.iload_n 3, 1) := by decide +kernel
theorem dX4_know_295 : decode cX4_know 295 = .ok (.laload, 1) := by decide +kernel
theorem dX4_know_296 : decode cX4_know 296 = .ok (.aload_n 0, 1) := by decide +kernel
theorem dX4_know_297 : decode cX4_know 297 = .ok (.getfield 30, 3) := by decide +kernel
theorem dX4_know_300 : decode cX4_know 300 = .ok (.iload_n 2, 1) := by decide +kernel
theorem dX4_know_301 : decode cX4_know 301 = .ok (.laload, 1) := by decide +kernel
theorem dX4_know_302 : decode cX4_know 302 = .ok (.lcmp, 1) := by decide +kernel
theorem dX4_know_303 : decode cX4_know 303 = .ok (.ifCond .le 5, 3) := by decide +kernel
theorem dX4_know_306 : decode cX4_know 306 = .ok (.iload_n 3, 1) := by decide +kernel
theorem dX4_know_307 : decode cX4_know 307 = .ok (.istore_n 2, 1) := by decide +kernel
theorem dX4_know_308 : decode cX4_know 308 = .ok (.iinc 3 1, 3) := by decide +kernel
theorem dX4_know_311 : decode cX4_know 311 = .ok (.goto (-42), 3) := by decide +kernel
theorem dX4_know_314 : decode cX4_know 314 = .ok (.aload_n 0, 1) := by decide +kernel
theorem dX4_know_315 : decode cX4_know 315 = .ok (.getfield 60, 3) := by decide +kernel
theorem dX4_know_318 : decode cX4_know 318 = .ok (.iload_n 2, 1) := by decide +kernel
theorem dX4_know_319 : decode cX4_know 319 = .ok (.iconst 1, 1) := by decide +kernel
theorem dX4_know_320 : decode cX4_know 320 = .ok (.bastore, 1) := by decide +kernel
theorem dX4_know_321 : decode cX4_know 321 = .ok (.aload_n 0, 1) := by decide +kernel
theorem dX4_know_322 : decode cX4_know 322 = .ok (.getfield 16, 3) := by decide +kernel
theorem dX4_know_325 : decode cX4_know 325 = .ok (.iload_n 2, 1) := by decide +kernel
theorem dX4_know_326 : decode cX4_know 326 = .ok (.iaload, 1) := by decide +kernel
theorem dX4_know_327 : decode cX4_know 327 = .ok (.ifCond .le 8, 3) := by decide +kernel
theorem dX4_know_330 : decode cX4_know 330 = .ok (.aload_n 0, 1) := by decide +kernel
theorem dX4_know_331 : decode cX4_know 331 = .ok (.iload_n 2, 1) := by decide +kernel
theorem dX4_know_332 : decode cX4_know 332 = .ok (.invokevirtual 92, 3) := by decide +kernel
theorem dX4_know_335 : decode cX4_know 335 = .ok (.iinc 1 1, 3) := by decide +kernel
theorem dX4_know_338 : decode cX4_know 338 = .ok (.goto (-81), 3) := by decide +kernel
theorem dX4_know_341 : decode cX4_know 341 = .ok (.aload_n 0, 1) := by decide +kernel
theorem dX4_know_342 : decode cX4_know 342 = .ok (.invokevirtual 96, 3) := by decide +kernel
theorem dX4_know_345 : decode cX4_know 345 = .ok (.return_, 1) := by decide +kernel
theorem dX4_join_0 : decode cX4_join 0 = .ok (.aload_n 0, 1) := by decide +kernel
theorem dX4_join_1 : decode cX4_join 1 = .ok (.getfield 33, 3) := by decide +kernel
theorem dX4_join_4 : decode cX4_join 4 = .ok (.iload_n 1, 1) := by decide +kernel
theorem dX4_join_5 : decode cX4_join 5 = .ok (.iaload, 1) := by decide +kernel
theorem dX4_join_6 : decode cX4_join 6 = .ok (.istore_n 2, 1) := by decide +kernel
theorem dX4_join_7 : decode cX4_join 7 = .ok (.iload_n 2, 1) := by decide +kernel
theorem dX4_join_8 : decode cX4_join 8 = .ok (.ifCond .lt 18, 3) := by decide +kernel
theorem dX4_join_11 : decode cX4_join 11 = .ok (.aload_n 0, 1) := by decide +kernel
theorem dX4_join_12 : decode cX4_join 12 = .ok (.getfield 36, 3) := by decide +kernel
theorem dX4_join_15 : decode cX4_join 15 = .ok (.iload_n 2, 1) := by decide +kernel
theorem dX4_join_16 : decode cX4_join 16 = .ok (.iaload, 1) := by decide +kernel
theorem dX4_join_17 : decode cX4_join 17 = .ok (.aload_n 0, 1) := by decide +kernel
theorem dX4_join_18 : decode cX4_join 18 = .ok (.getfield 36, 3) := by decide +kernel
theorem dX4_join_21 : decode cX4_join 21 = .ok (.iload_n 1, 1) := by decide +kernel
theorem dX4_join_22 : decode cX4_join 22 = .ok (.iaload, 1) := by decide +kernel
theorem dX4_join_23 : decode cX4_join 23 = .ok (.if_icmp .ne 4, 3) := by decide +kernel
theorem dX4_join_26 : decode cX4_join 26 = .ok (.return_, 1) := by decide +kernel
theorem dX4_join_27 : decode cX4_join 27 = .ok (.aload_n 0, 1) := by decide +kernel
theorem dX4_join_28 : decode cX4_join 28 = .ok (.getfield 36, 3) := by decide +kernel
theorem dX4_join_31 : decode cX4_join 31 = .ok (.iload_n 2, 1) := by decide +kernel
theorem dX4_join_32 : decode cX4_join 32 = .ok (.iaload, 1) := by decide +kernel
theorem dX4_join_33 : decode cX4_join 33 = .ok (.istore_n 3, 1) := by decide +kernel
theorem dX4_join_34 : decode cX4_join 34 = .ok (.aload_n 0, 1) := by decide +kernel
theorem dX4_join_35 : decode cX4_join 35 = .ok (.getfield 36, 3) := by decide +kernel
theorem dX4_join_38 : decode cX4_join 38 = .ok (.iload_n 1, 1) := by decide +kernel
theorem dX4_join_39 : decode cX4_join 39 = .ok (.iaload, 1) := by decide +kernel
theorem dX4_join_40 : decode cX4_join 40 = .ok (.istore 4, 2) := by decide +kernel
theorem dX4_join_42 : decode cX4_join 42 = .ok (.aload_n 0, 1) := by decide +kernel
theorem dX4_join_43 : decode cX4_join 43 = .ok (.getfield 48, 3) := by decide +kernel
theorem dX4_join_46 : decode cX4_join 46 = .ok (.iload_n 3, 1) := by decide +kernel
theorem dX4_join_47 : decode cX4_join 47 = .ok (.laload, 1) := by decide +kernel
theorem dX4_join_48 : decode cX4_join 48 = .ok (.aload_n 0, 1) := by decide +kernel
theorem dX4_join_49 : decode cX4_join 49 = .ok (.getfield 48, 3) := by decide +kernel
theorem dX4_join_52 : decode cX4_join 52 = .ok (.iload 4, 2) := by decide +kernel
theorem dX4_join_54 : decode cX4_join 54 = .ok (.laload, 1) := by decide +kernel
theorem dX4_join_55 : decode cX4_join 55 = .ok (.ladd, 1) := by decide +kernel
theorem dX4_join_56 : decode cX4_join 56 = .ok (.aload_n 0, 1) := by decide +kernel
theorem dX4_join_57 : decode cX4_join 57 = .ok (.getfield 13, 3) := by decide +kernel
theorem dX4_join_60 : decode cX4_join 60 = .ok (.i2l, 1) := by decide +kernel
theorem dX4_join_61 : decode cX4_join 61 = .ok (.lcmp, 1) := by decide +kernel
theorem dX4_join_62 : decode cX4_join 62 = .ok (.ifCond .le 4, 3) := by decide +kernel
theorem dX4_join_65 : decode cX4_join 65 = .ok (.return_, 1) := by decide +kernel
theorem dX4_join_66 : decode cX4_join 66 = .ok (.aload_n 0, 1) := by decide +kernel
theorem dX4_join_67 : decode cX4_join 67 = .ok (.getfield 39, 3) := by decide +kernel
theorem dX4_join_70 : decode cX4_join 70 = .ok (.aload_n 0, 1) := by decide +kernel
theorem dX4_join_71 : decode cX4_join 71 = .ok (.getfield 42, 3) := by decide +kernel
theorem dX4_join_74 : decode cX4_join 74 = .ok (.iload_n 3, 1) := by decide +kernel
theorem dX4_join_75 : decode cX4_join 75 = .ok (.iaload, 1) := by decide +kernel
theorem dX4_join_76 : decode cX4_join 76 = .ok (.iload 4, 2) := by decide +kernel
theorem dX4_join_78 : decode cX4_join 78 = .ok (.iastore, 1) := by decide +kernel
theorem dX4_join_79 : decode cX4_join 79 = .ok (.aload_n 0, 1) := by decide +kernel
theorem dX4_join_80 : decode cX4_join 80 = .ok (.getfield 42, 3) := by decide +kernel
theorem dX4_join_83 : decode cX4_join 83 = .ok (.iload_n 3, 1) := by decide +kernel
theorem dX4_join_84 : decode cX4_join 84 = .ok (.aload_n 0, 1) := by decide +kernel
theorem dX4_join_85 : decode cX4_join 85 = .ok (.getfield 42, 3) := by decide +kernel
theorem dX4_join_88 : decode cX4_join 88 = .ok (.iload 4, 2) := by decide +kernel
theorem dX4_join_90 : decode cX4_join 90 = .ok (.iaload, 1) := by decide +kernel
theorem dX4_join_91 : decode cX4_join 91 = .ok (.iastore, 1) := by decide +kernel
theorem dX4_join_92 : decode cX4_join 92 = .ok (.aload_n 0, 1) := by decide +kernel
theorem dX4_join_93 : decode cX4_join 93 = .ok (.getfield 48, 3) := by decide +kernel
theorem dX4_join_96 : decode cX4_join 96 = .ok (.iload_n 3, 1) := by decide +kernel
theorem dX4_join_97 : decode cX4_join 97 = .ok (.dup2, 1) := by decide +kernel
theorem dX4_join_98 : decode cX4_join 98 = .ok (.laload, 1) := by decide +kernel
theorem dX4_join_99 : decode cX4_join 99 = .ok (.aload_n 0, 1) := by decide +kernel
theorem dX4_join_100 : decode cX4_join 100 = .ok (.getfield 48, 3) := by decide +kernel
theorem dX4_join_103 : decode cX4_join 103 = .ok (.iload 4, 2) := by decide +kernel
theorem dX4_join_105 : decode cX4_join 105 = .ok (.laload, 1) := by decide +kernel
theorem dX4_join_106 : decode cX4_join 106 = .ok (.ladd, 1) := by decide +kernel
theorem dX4_join_107 : decode cX4_join 107 = .ok (.lastore, 1) := by decide +kernel
theorem dX4_join_108 : decode cX4_join 108 = .ok (.aload_n 0, 1) := by decide +kernel
theorem dX4_join_109 : decode cX4_join 109 = .ok (.getfield 45, 3) := by decide +kernel
theorem dX4_join_112 : decode cX4_join 112 = .ok (.iload_n 3, 1) := by decide +kernel
theorem dX4_join_113 : decode cX4_join 113 = .ok (.dup2, 1) := by decide +kernel
theorem dX4_join_114 : decode cX4_join 114 = .ok (.laload, 1) := by decide +kernel
theorem dX4_join_115 : decode cX4_join 115 = .ok (.aload_n 0, 1) := by decide +kernel
theorem dX4_join_116 : decode cX4_join 116 = .ok (.getfield 45, 3) := by decide +kernel
theorem dX4_join_119 : decode cX4_join 119 = .ok (.iload 4, 2) := by decide +kernel
theorem dX4_join_121 : decode cX4_join 121 = .ok (.laload, 1) := by decide +kernel
theorem dX4_join_122 : decode cX4_join 122 = .ok (.ladd, 1) := by decide +kernel
theorem dX4_join_123 : decode cX4_join 123 = .ok (.lastore, 1) := by decide +kernel
theorem dX4_join_124 : decode cX4_join 124 = .ok (.iload 4, 2) := by decide +kernel
theorem dX4_join_126 : decode cX4_join 126 = .ok (.istore 5, 2) := by decide +kernel
theorem dX4_join_128 : decode cX4_join 128 = .ok (.iload 5, 2) := by decide +kernel
theorem dX4_join_130 : decode cX4_join 130 = .ok (.ifCond .lt 23, 3) := by decide +kernel
theorem dX4_join_133 : decode cX4_join 133 = .ok (.aload_n 0, 1) := by decide +kernel
theorem dX4_join_134 : decode cX4_join 134 = .ok (.getfield 36, 3) := by decide +kernel
theorem dX4_join_137 : decode cX4_join 137 = .ok (.iload 5, 2) := by decide +kernel
theorem dX4_join_139 : decode cX4_join 139 = .ok (.iload_n 3, 1) := by decide +kernel
theorem dX4_join_140 : decode cX4_join 140 = .ok (.iastore, 1) := by decide +kernel
theorem dX4_join_141 : decode cX4_join 141 = .ok (.aload_n 0, 1) := by decide +kernel
theorem dX4_join_142 : decode cX4_join 142 = .ok (.getfield 39, 3) := by decide +kernel
theorem dX4_join_145 : decode cX4_join 145 = .ok (.iload 5, 2) := by decide +kernel
theorem dX4_join_147 : decode cX4_join 147 = .ok (.iaload, 1) := by decide +kernel
theorem dX4_join_148 : decode cX4_join 148 = .ok (.istore 5, 2) := by decide +kernel
theorem dX4_join_150 : decode cX4_join 150 = .ok (.goto (-22), 3) := by decide +kernel
theorem dX4_join_153 : decode cX4_join 153 = .ok (.return_, 1) := by decide +kernel
theorem dX4_isDenser_0 : decode cX4_isDenser 0 = .ok (.aload_n 0, 1) := by decide +kernel
theorem dX4_isDenser_1 : decode cX4_isDenser 1 = .ok (.getfield 45, 3) := by decide +kernel
theorem dX4_isDenser_4 : decode cX4_isDenser 4 = .ok (.iload_n 1, 1) := by decide +kernel
theorem dX4_isDenser_5 : decode cX4_isDenser 5 = .ok (.laload, 1) := by decide +kernel
theorem dX4_isDenser_6 : decode cX4_isDenser 6 = .ok (.aload_n 0, 1) := by decide +kernel
theorem dX4_isDenser_7 : decode cX4_isDenser 7 = .ok (.getfield 48, 3) := by decide +kernel
theorem dX4_isDenser_10 : decode cX4_isDenser 10 = .ok (.iload_n 1, 1) := by decide +kernel
theorem dX4_isDenser_11 : decode cX4_isDenser 11 = .ok (.laload, 1) := by decide +kernel
theorem dX4_isDenser_12 : decode cX4_isDenser 12 = .ok (.ldiv, 1) := by decide +kernel
theorem dX4_isDenser_13 : decode cX4_isDenser 13 = .ok (.lstore_n 3, 1) := by decide +kernel
theorem dX4_isDenser_14 : decode cX4_isDenser 14 = .ok (.aload_n 0, 1) := by decide +kernel
theorem dX4_isDenser_15 : decode cX4_isDenser 15 = .ok (.getfield 45, 3) := by decide +kernel
theorem dX4_isDenser_18 : decode cX4_isDenser 18 = .ok (.iload_n 2, 1) := by decide +kernel
theorem dX4_isDenser_19 : decode cX4_isDenser 19 = .ok (.laload, 1) := by decide +kernel
theorem dX4_isDenser_20 : decode cX4_isDenser 20 = .ok (.aload_n 0, 1) := by decide +kernel
theorem dX4_isDenser_21 : decode cX4_isDenser 21 = .ok (.getfield 48, 3) := by decide +kernel
theorem dX4_isDenser_24 : decode cX4_isDenser 24 = .ok (.iload_n 2, 1) := by decide +kernel
theorem dX4_isDenser_25 : decode cX4_isDenser 25 = .ok (.laload, 1) := by decide +kernel
theorem dX4_isDenser_26 : decode cX4_isDenser 26 = .ok (.ldiv, 1) := by decide +kernel
theorem dX4_isDenser_27 : decode cX4_isDenser 27 = .ok (.lstore 5, 2) := by decide +kernel
theorem dX4_isDenser_29 : decode cX4_isDenser 29 = .ok (.lload_n 3, 1) := by decide +kernel
theorem dX4_isDenser_30 : decode cX4_isDenser 30 = .ok (.lload 5, 2) := by decide +kernel
theorem dX4_isDenser_32 : decode cX4_isDenser 32 = .ok (.lcmp, 1) := by decide +kernel
theorem dX4_isDenser_33 : decode cX4_isDenser 33 = .ok (.ifCond .eq 16, 3) := by decide +kernel
theorem dX4_isDenser_36 : decode cX4_isDenser 36 = .ok (.lload_n 3, 1) := by decide +kernel
theorem dX4_isDenser_37 : decode cX4_isDenser 37 = .ok (.lload 5, 2) := by decide +kernel
theorem dX4_isDenser_39 : decode cX4_isDenser 39 = .ok (.lcmp, 1) := by decide +kernel
theorem dX4_isDenser_40 : decode cX4_isDenser 40 = .ok (.ifCond .le 7, 3) := by decide +kernel
theorem dX4_isDenser_43 : decode cX4_isDenser 43 = .ok (.iconst 1, 1) := by decide +kernel
theorem dX4_isDenser_44 : decode cX4_isDenser 44 = .ok (.goto 4, 3) := by decide +kernel
theorem dX4_isDenser_47 : decode cX4_isDenser 47 = .ok (.iconst 0, 1) := by decide +kernel
theorem dX4_isDenser_48 : decode cX4_isDenser 48 = .ok (.ireturn, 1) := by decide +kernel
theorem dX4_isDenser_49 : decode cX4_isDenser 49 = .ok (.aload_n 0, 1) := by decide +kernel
theorem dX4_isDenser_50 : decode cX4_isDenser 50 = .ok (.getfield 45, 3) := by decide +kernel
theorem dX4_isDenser_53 : decode cX4_isDenser 53 = .ok (.iload_n 1, 1) := by decide +kernel
theorem dX4_isDenser_54 : decode cX4_isDenser 54 = .ok (.laload, 1) := by decide +kernel
theorem dX4_isDenser_55 : decode cX4_isDenser 55 = .ok (.aload_n 0, 1) := by decide +kernel
theorem dX4_isDenser_56 : decode cX4_isDenser 56 = .ok (.getfield 48, 3) := by decide +kernel
theorem dX4_isDenser_59 : decode cX4_isDenser 59 = .ok (.iload_n 1, 1) := by decide +kernel
theorem dX4_isDenser_60 : decode cX4_isDenser 60 = .ok (.laload, 1) := by decide +kernel
theorem dX4_isDenser_61 : decode cX4_isDenser 61 = .ok (.lrem, 1) := by decide +kernel
theorem dX4_isDenser_62 : decode cX4_isDenser 62 = .ok (.aload_n 0, 1) := by decide +kernel
theorem dX4_isDenser_63 : decode cX4_isDenser 63 = .ok (.getfield 48, 3) := by decide +kernel
theorem dX4_isDenser_66 : decode cX4_isDenser 66 = .ok (.iload_n 2, 1) := by decide +kernel
theorem dX4_isDenser_67 : decode cX4_isDenser 67 = .ok (.laload, 1) := by decide +kernel
theorem dX4_isDenser_68 : decode cX4_isDenser 68 = .ok (.lmul, 1) := by decide +kernel
theorem dX4_isDenser_69 : decode cX4_isDenser 69 = .ok (.aload_n 0, 1) := by decide +kernel
theorem dX4_isDenser_70 : decode cX4_isDenser 70 = .ok (.getfield 45, 3) := by decide +kernel
theorem dX4_isDenser_73 : decode cX4_isDenser 73 = .ok (.iload_n 2, 1) := by decide +kernel
theorem dX4_isDenser_74 : decode cX4_isDenser 74 = .ok (.laload, 1) := by decide +kernel
theorem dX4_isDenser_75 : decode cX4_isDenser 75 = .ok (.aload_n 0, 1) := by decide +kernel
theorem dX4_isDenser_76 : decode cX4_isDenser 76 = .ok (.getfield 48, 3) := by decide +kernel
theorem dX4_isDenser_79 : decode cX4_isDenser 79 = .ok (.iload_n 2, 1) := by decide +kernel
theorem dX4_isDenser_80 : decode cX4_isDenser 80 = .ok (.laload, 1) := by decide +kernel
theorem dX4_isDenser_81 : decode cX4_isDenser 81 = .ok (.lrem, 1) := by decide +kernel
theorem dX4_isDenser_82 : decode cX4_isDenser 82 = .ok (.aload_n 0, 1) := by decide +kernel
theorem dX4_isDenser_83 : decode cX4_isDenser 83 = .ok (.getfield 48, 3) := by decide +kernel
theorem dX4_isDenser_86 : decode cX4_isDenser 86 = .ok (.iload_n 1, 1) := by decide +kernel
theorem dX4_isDenser_87 : decode cX4_isDenser 87 = .ok (.laload, 1) := by decide +kernel
theorem dX4_isDenser_88 : decode cX4_isDenser 88 = .ok (.lmul, 1) := by decide +kernel
theorem dX4_isDenser_89 : decode cX4_isDenser 89 = .ok (.lcmp, 1) := by decide +kernel
theorem dX4_isDenser_90 : decode cX4_isDenser 90 = .ok (.ifCond .le 7, 3) := by decide +kernel
theorem dX4_isDenser_93 : decode cX4_isDenser 93 = .ok (.iconst 1, 1) := by decide +kernel
theorem dX4_isDenser_94 : decode cX4_isDenser 94 = .ok (.goto 4, 3) := by decide +kernel
theorem dX4_isDenser_97 : decode cX4_isDenser 97 = .ok (.iconst 0, 1) := by decide +kernel
theorem dX4_isDenser_98 : decode cX4_isDenser 98 = .ok (.ireturn, 1) := by decide +kernel
set_option maxRecDepth 20000 in
theorem ggX4_inOrder_X4_isDenser : GoodIn wsX4_inOrder wsX4_isDenser := goodIn_r _ [14, 15, 16, 17, 18, 19, 20, 21, 22, 23, 24, 25, 26, 27, 28, 29, 30, 31, 32, 33, 34, 35, 36, 37] (by decide +kernel) (by decide +kernel)
set_option maxRecDepth 20000 in
theorem gX4_inOrder_X4_isDenser : GoodIn wsX4_inOrder (wsV RX4 105 RX4 yX4_isDenser wsX4_isDenser) := goodIn_app (goodIn_of _ (by decide +kernel)) ggX4_inOrder_X4_isDenser
theorem dX4_inOrder_0 : decode cX4_inOrder 0 = .ok (.aload_n 0, 1) := by decide +kernel
theorem dX4_inOrder_1 : decode cX4_inOrder 1 = .ok (.iconst 0, 1) := by decide +kernel
theorem dX4_inOrder_2 : decode cX4_inOrder 2 = .ok (.putfield 99, 3) := by decide +kernel
theorem dX4_inOrder_5 : decode cX4_inOrder 5 = .ok (.aload_n 0, 1) := by decide +kernel
theorem dX4_inOrder_6 : decode cX4_inOrder 6 = .ok (.iconst 0, 1) := by decide +kernel
theorem dX4_inOrder_7 : decode cX4_inOrder 7 = .ok (.putfield 102, 3) := by decide +kernel
theorem dX4_inOrder_10 : decode cX4_inOrder 10 = .ok (.iconst 0, 1) := by decide +kernel
theorem dX4_inOrder_11 : decode cX4_inOrder 11 = .ok (.istore_n 1, 1) := by decide +kernel
theorem dX4_inOrder_12 : decode cX4_inOrder 12 = .ok (.iload_n 1, 1) := by decide +kernel
theorem dX4_inOrder_13 : decode cX4_inOrder 13 = .ok (.aload_n 0, 1) := by decide +kernel
theorem dX4_inOrder_14 : decode cX4_inOrder 14 = .ok (.getfield 7, 3) := by decide +kernel
theorem dX4_inOrder_17 : decode cX4_inOrder 17 = .ok (.if_icmp .ge 16, 3) := by decide +kernel
theorem dX4_inOrder_20 : decode cX4_inOrder 20 = .ok (.aload_n 0, 1) := by decide +kernel
theorem dX4_inOrder_21 : decode cX4_inOrder 21 = .ok (.getfield 60, 3) := by decide +kernel
theorem dX4_inOrder_24 : decode cX4_inOrder 24 = .ok (.iload_n 1, 1) := by decide +kernel
theorem dX4_inOrder_25 : decode cX4_inOrder 25 = .ok (.iconst 0, 1) := by decide +kernel
theorem dX4_inOrder_26 : decode cX4_inOrder 26 = .ok (.bastore, 1) := by decide +kernel
theorem dX4_inOrder_27 : decode cX4_inOrder 27 = .ok (.iinc 1 1, 3) := by decide +kernel
theorem dX4_inOrder_30 : decode cX4_inOrder 30 = .ok (.goto (-18), 3) := by decide +kernel
theorem dX4_inOrder_33 : decode cX4_inOrder 33 = .ok (.lconst 0, 1) := by decide +kernel
theorem dX4_inOrder_34 : decode cX4_inOrder 34 = .ok (.lstore_n 1, 1) := by decide +kernel
theorem dX4_inOrder_35 : decode cX4_inOrder 35 = .ok (.iconst (-1), 1) := by decide +kernel
theorem dX4_inOrder_36 : decode cX4_inOrder 36 = .ok (.istore_n 3, 1) := by decide +kernel
theorem dX4_inOrder_37 : decode cX4_inOrder 37 = .ok (.iconst 0, 1) := by decide +kernel
theorem dX4_inOrder_38 : decode cX4_inOrder 38 = .ok (.istore 4, 2) := by decide +kernel
theorem dX4_inOrder_40 : decode cX4_inOrder 40 = .ok (.iload 4, 2) := by decide +kernel
theorem dX4_inOrder_42 : decode cX4_inOrder 42 = .ok (.aload_n 0, 1) := by decide +kernel
theorem dX4_inOrder_43 : decode cX4_inOrder 43 = .ok (.getfield 7, 3) := by decide +kernel
theorem dX4_inOrder_46 : decode cX4_inOrder 46 = .ok (.if_icmp .ge 75, 3) := by decide +kernel
theorem dX4_inOrder_49 : decode cX4_inOrder 49 = .ok (.aload_n 0, 1) := by decide +kernel
theorem dX4_inOrder_50 : decode cX4_inOrder 50 = .ok (.getfield 36, 3) := by decide +kernel
theorem dX4_inOrder_53 : decode cX4_inOrder 53 = .ok (.iload 4, 2) := by decide +kernel
theorem dX4_inOrder_55 : decode cX4_inOrder 55 = .ok (.iaload, 1) := by decide +kernel
theorem dX4_inOrder_56 : decode cX4_inOrder 56 = .ok (.ifCond .lt 59, 3) := by decide +kernel
theorem dX4_inOrder_59 : decode cX4_inOrder 59 = .ok (.aload_n 0, 1) := by decide +kernel
theorem dX4_inOrder_60 : decode cX4_inOrder 60 = .ok (.getfield 60, 3) := by decide +kernel
theorem dX4_inOrder_63 : decode cX4_inOrder 63 = .ok (.aload_n 0, 1) := by decide +kernel
theorem dX4_inOrder_64 : decode cX4_inOrder 64 = .ok (.getfield 36, 3) := by decide +kernel
theorem dX4_inOrder_67 : decode cX4_inOrder 67 = .ok (.iload 4, 2) := by decide +kernel
theorem dX4_inOrder_69 : decode cX4_inOrder 69 = .ok (.iaload, 1) := by decide +kernel
theorem dX4_inOrder_70 : decode cX4_inOrder 70 = .ok (.baload, 1) := by decide +kernel
theorem dX4_inOrder_71 : decode cX4_inOrder 71 = .ok (.ifCond .ne 44, 3) := by decide +kernel
theorem dX4_inOrder_74 : decode cX4_inOrder 74 = .ok (.aload_n 0, 1) := by decide +kernel
theorem dX4_inOrder_75 : decode cX4_inOrder 75 = .ok (.getfield 36, 3) := by decide +kernel
theorem dX4_inOrder_78 : decode cX4_inOrder 78 = .ok (.iload 4, 2) := by decide +kernel
theorem dX4_inOrder_80 : decode cX4_inOrder 80 = .ok (.iaload, 1) := by decide +kernel
theorem dX4_inOrder_81 : decode cX4_inOrder 81 = .ok (.iload_n 3, 1) := by decide +kernel
theorem dX4_inOrder_82 : decode cX4_inOrder 82 = .ok (.if_icmp .ne 6, 3) := by decide +kernel
theorem dX4_inOrder_85 : decode cX4_inOrder 85 = .ok (.goto 30, 3) := by decide +kernel
theorem dX4_inOrder_88 : decode cX4_inOrder 88 = .ok (.iload_n 3, 1) := by decide +kernel
theorem dX4_inOrder_89 : decode cX4_inOrder 89 = .ok (.ifCond .lt 18, 3) := by decide +kernel
theorem dX4_inOrder_92 : decode cX4_inOrder 92 = .ok (.aload_n 0, 1) := by decide +kernel
theorem dX4_inOrder_93 : decode cX4_inOrder 93 = .ok (.aload_n 0, 1) := by decide +kernel
theorem dX4_inOrder_94 : decode cX4_inOrder 94 = .ok (.getfield 36, 3) := by decide +kernel
theorem dX4_inOrder_97 : decode cX4_inOrder 97 = .ok (.iload 4, 2) := by decide +kernel
theorem dX4_inOrder_99 : decode cX4_inOrder 99 = .ok (.iaload, 1) := by decide +kernel
theorem dX4_inOrder_100 : decode cX4_inOrder 100 = .ok (.iload_n 3, 1) := by decide +kernel
theorem dX4_inOrder_101 : decode cX4_inOrder 101 = .ok (.invokevirtual 105, 3) := by decide +kernel
theorem dX4_inOrder_104 : decode cX4_inOrder 104 = .ok (.ifCond .eq 11, 3) := by decide +kernel
theorem dX4_inOrder_107 : decode cX4_inOrder 107 = .ok (.aload_n 0, 1) := by decide +kernel
theorem dX4_inOrder_108 : decode cX4_inOrder 108 = .ok (.getfield 36, 3) := by decide +kernel
theorem dX4_inOrder_111 : decode cX4_inOrder 111 = .ok (.iload 4, 2) := by decide +kernel
theorem dX4_inOrder_113 : decode cX4_inOrder 113 = .ok (.iaload, 1) := by decide +kernel
theorem dX4_inOrder_114 : decode cX4_inOrder 114 = .ok (.istore_n 3, 1) := by decide +kernel
theorem dX4_inOrder_115 : decode cX4_inOrder 115 = .ok (.iinc 4 1, 3) := by decide +kernel
theorem dX4_inOrder_118 : decode cX4_inOrder 118 = .ok (.goto (-78), 3) := by decide +kernel
theorem dX4_inOrder_121 : decode cX4_inOrder 121 = .ok (.iload_n 3, 1) := by decide +kernel
theorem dX4_inOrder_122 : decode cX4_inOrder 122 = .ok (.ifCond .ge 4, 3) := by decide +kernel
theorem dX4_inOrder_125 : decode cX4_inOrder 125 = .ok (.return_, 1) := by decide +kernel
theorem dX4_inOrder_126 : decode cX4_inOrder 126 = .ok (.aload_n 0, 1) := by decide +kernel
theorem dX4_inOrder_127 : decode cX4_inOrder 127 = .ok (.getfield 60, 3) := by decide +kernel
theorem dX4_inOrder_130 : decode cX4_inOrder 130 = .ok (.iload_n 3, 1) := by decide +kernel
theorem dX4_inOrder_131 : decode cX4_inOrder 131 = .ok (.iconst 1, 1) := by decide +kernel
theorem dX4_inOrder_132 : decode cX4_inOrder 132 = .ok (.bastore, 1) := by decide +kernel
theorem dX4_inOrder_133 : decode cX4_inOrder 133 = .ok (.aload_n 0, 1) := by decide +kernel
theorem dX4_inOrder_134 : decode cX4_inOrder 134 = .ok (.dup, 1) := by decide +kernel
theorem dX4_inOrder_135 : decode cX4_inOrder 135 = .ok (.getfield 102, 3) := by decide +kernel
theorem dX4_inOrder_138 : decode cX4_inOrder 138 = .ok (.iconst 1, 1) := by decide +kernel
theorem dX4_inOrder_139 : decode cX4_inOrder 139 = .ok (.iadd, 1) := by decide +kernel
theorem dX4_inOrder_140 : decode cX4_inOrder 140 = .ok (.putfield 102, 3) := by decide +kernel
theorem dX4_inOrder_143 : decode cX4_inOrder 143 = .ok (.iload_n 3, 1) := by decide +kernel
theorem dX4_inOrder_144 : decode cX4_inOrder 144 = .ok (.istore 4, 2) := by decide +kernel
theorem dX4_inOrder_146 : decode cX4_inOrder 146 = .ok (.iload 4, 2) := by decide +kernel
theorem dX4_inOrder_148 : decode cX4_inOrder 148 = .ok (.ifCond .lt 55, 3) := by decide +kernel
theorem dX4_inOrder_151 : decode cX4_inOrder 151 = .ok (.aload_n 0, 1) := by decide +kernel
theorem dX4_inOrder_152 : decode cX4_inOrder 152 = .ok (.getfield 51, 3) := by decide +kernel
theorem dX4_inOrder_155 : decode cX4_inOrder 155 = .ok (.aload_n 0, 1) := by decide +kernel
theorem dX4_inOrder_156 : decode cX4_inOrder 156 = .ok (.getfield 99, 3) := by decide +kernel
theorem dX4_inOrder_159 : decode cX4_inOrder 159 = .ok (.iload 4, 2) := by decide +kernel
theorem dX4_inOrder_161 : decode cX4_inOrder 161 = .ok (.iastore, 1) := by decide +kernel
theorem dX4_inOrder_162 : decode cX4_inOrder 162 = .ok (.aload_n 0, 1) := by decide +kernel
theorem dX4_inOrder_163 : decode cX4_inOrder 163 = .ok (.dup, 1) := by decide +kernel
theorem dX4_inOrder_164 : decode cX4_inOrder 164 = .ok (.getfield 99, 3) := by decide +kernel
theorem dX4_inOrder_167 : decode cX4_inOrder 167 = .ok (.iconst 1, 1) := by decide +kernel
theorem dX4_inOrder_168 : decode cX4_inOrder 168 = .ok (.iadd, 1) := by decide +kernel
theorem dX4_inOrder_169 : decode cX4_inOrder 169 = .ok (.putfield 99, 3) := by decide +kernel
theorem dX4_inOrder_172 : decode cX4_inOrder 172 = .ok (.aload_n 0, 1) := by decide +kernel
theorem dX4_inOrder_173 : decode cX4_inOrder 173 = .ok (.getfield 54, 3) := by decide +kernel
theorem dX4_inOrder_176 : decode cX4_inOrder 176 = .ok (.iload 4, 2) := by decide +kernel
theorem dX4_inOrder_178 : decode cX4_inOrder 178 = .ok (.lload_n 1, 1) := by decide +kernel
theorem dX4_inOrder_179 : decode cX4_inOrder 179 = .ok (.lastore, 1) := by decide +kernel
theorem dX4_inOrder_180 : decode cX4_inOrder 180 = .ok (.lload_n 1, 1) := by decide +kernel
theorem dX4_inOrder_181 : decode cX4_inOrder 181 = .ok (.aload_n 0, 1) := by decide +kernel
theorem dX4_inOrder_182 : decode cX4_inOrder 182 = .ok (.getfield 16, 3) := by decide +kernel
theorem dX4_inOrder_185 : decode cX4_inOrder 185 = .ok (.iload 4, 2) := by decide +kernel
theorem dX4_inOrder_187 : decode cX4_inOrder 187 = .ok (.iaload, 1) := by decide +kernel
theorem dX4_inOrder_188 : decode cX4_inOrder 188 = .ok (.i2l, 1) := by decide +kernel
theorem dX4_inOrder_189 : decode cX4_inOrder 189 = .ok (.ladd, 1) := by decide +kernel
theorem dX4_inOrder_190 : decode cX4_inOrder 190 = .ok (.lstore_n 1, 1) := by decide +kernel
theorem dX4_inOrder_191 : decode cX4_inOrder 191 = .ok (.aload_n 0, 1) := by decide +kernel
theorem dX4_inOrder_192 : decode cX4_inOrder 192 = .ok (.getfield 39, 3) := by decide +kernel
theorem dX4_inOrder_195 : decode cX4_inOrder 195 = .ok (.iload 4, 2) := by decide +kernel
theorem dX4_inOrder_197 : decode cX4_inOrder 197 = .ok (.iaload, 1) := by decide +kernel
theorem dX4_inOrder_198 : decode cX4_inOrder 198 = .ok (.istore 4, 2) := by decide +kernel
theorem dX4_inOrder_200 : decode cX4_inOrder 200 = .ok (.goto (-54), 3) := by decide +kernel
theorem dX4_inOrder_203 : decode cX4_inOrder 203 = .ok (.goto (-168), 3) := by decide +kernel
set_option maxRecDepth 20000 in
theorem ggX4_cost_X4_know : GoodIn wsX4_cost wsX4_know := goodIn_r _ [12, 13, 14, 15, 16, 17, 18, 5, 19, 20, 21, 2, 3, 4, 7, 22, 23, 24, 25, 26, 11, 27, 28, 29, 30, 31, 32, 33, 34, 35, 6, 36, 37, 38, 39, 44, 45, 46, 47, 48, 49, 50, 51, 52, 53, 54, 55, 56, 57, 58, 59, 60, 61, 62, 63, 64] (by decide +kernel) (by decide +kernel)
set_option maxRecDepth 20000 in
theorem gX4_cost_X4_know : GoodIn wsX4_cost (wsV RX4 109 RX4 yX4_know wsX4_know) := goodIn_app (goodIn_of _ (by decide +kernel)) ggX4_cost_X4_know
set_option maxRecDepth 20000 in
theorem ggX4_cost_X4_before : GoodIn wsX4_cost wsX4_before := goodIn_r _ [43, 5, 44, 45, 46, 47, 48, 49, 50, 51, 52, 53, 54, 55, 56, 57, 58, 59, 60, 61, 62, 63, 64] (by decide +kernel) (by decide +kernel)
set_option maxRecDepth 20000 in
theorem gX4_cost_X4_before : GoodIn wsX4_cost (wsV RX4 112 RX4 yX4_before wsX4_before) := goodIn_app (goodIn_of _ (by decide +kernel)) ggX4_cost_X4_before
theorem dX4_cost_0 : decode cX4_cost 0 = .ok (.aload_n 0, 1) := by decide +kernel
theorem dX4_cost_1 : decode cX4_cost 1 = .ok (.invokevirtual 109, 3) := by decide +kernel
theorem dX4_cost_4 : decode cX4_cost 4 = .ok (.iload_n 1, 1) := by decide +kernel
theorem dX4_cost_5 : decode cX4_cost 5 = .ok (.ifCond .lt 8, 3) := by decide +kernel
theorem dX4_cost_8 : decode cX4_cost 8 = .ok (.iload_n 1, 1) := by decide +kernel
theorem dX4_cost_9 : decode cX4_cost 9 = .ok (.iconst 1, 1) := by decide +kernel
theorem dX4_cost_10 : decode cX4_cost 10 = .ok (.if_icmp .le 7, 3) := by decide +kernel
theorem dX4_cost_13 : decode cX4_cost 13 = .ok (.ldc2_w 76, 3) := by decide +kernel
theorem dX4_cost_16 : decode cX4_cost 16 = .ok (.lreturn, 1) := by decide +kernel
theorem dX4_cost_17 : decode cX4_cost 17 = .ok (.lconst 0, 1) := by decide +kernel
theorem dX4_cost_18 : decode cX4_cost 18 = .ok (.lstore_n 2, 1) := by decide +kernel
theorem dX4_cost_19 : decode cX4_cost 19 = .ok (.iconst 0, 1) := by decide +kernel
theorem dX4_cost_20 : decode cX4_cost 20 = .ok (.istore 4, 2) := by decide +kernel
theorem dX4_cost_22 : decode cX4_cost 22 = .ok (.iload 4, 2) := by decide +kernel
theorem dX4_cost_24 : decode cX4_cost 24 = .ok (.aload_n 0, 1) := by decide +kernel
theorem dX4_cost_25 : decode cX4_cost 25 = .ok (.getfield 64, 3) := by decide +kernel
theorem dX4_cost_28 : decode cX4_cost 28 = .ok (.if_icmp .ge 126, 3) := by decide +kernel
theorem dX4_cost_31 : decode cX4_cost 31 = .ok (.aload_n 0, 1) := by decide +kernel
theorem dX4_cost_32 : decode cX4_cost 32 = .ok (.getfield 20, 3) := by decide +kernel
theorem dX4_cost_35 : decode cX4_cost 35 = .ok (.iload 4, 2) := by decide +kernel
theorem dX4_cost_37 : decode cX4_cost 37 = .ok (.iaload, 1) := by decide +kernel
theorem dX4_cost_38 : decode cX4_cost 38 = .ok (.istore 5, 2) := by decide +kernel
theorem dX4_cost_40 : decode cX4_cost 40 = .ok (.aload_n 0, 1) := by decide +kernel
theorem dX4_cost_41 : decode cX4_cost 41 = .ok (.getfield 23, 3) := by decide +kernel
theorem dX4_cost_44 : decode cX4_cost 44 = .ok (.iload 4, 2) := by decide +kernel
theorem dX4_cost_46 : decode cX4_cost 46 = .ok (.iaload, 1) := by decide +kernel
theorem dX4_cost_47 : decode cX4_cost 47 = .ok (.istore 6, 2) := by decide +kernel
theorem dX4_cost_49 : decode cX4_cost 49 = .ok (.aload_n 0, 1) := by decide +kernel
theorem dX4_cost_50 : decode cX4_cost 50 = .ok (.getfield 16, 3) := by decide +kernel
theorem dX4_cost_53 : decode cX4_cost 53 = .ok (.iload 5, 2) := by decide +kernel
theorem dX4_cost_55 : decode cX4_cost 55 = .ok (.iaload, 1) := by decide +kernel
theorem dX4_cost_56 : decode cX4_cost 56 = .ok (.ifCond .eq 92, 3) := by decide +kernel
theorem dX4_cost_59 : decode cX4_cost 59 = .ok (.aload_n 0, 1) := by decide +kernel
theorem dX4_cost_60 : decode cX4_cost 60 = .ok (.getfield 16, 3) := by decide +kernel
theorem dX4_cost_63 : decode cX4_cost 63 = .ok (.iload 6, 2) := by decide +kernel
theorem dX4_cost_65 : decode cX4_cost 65 = .ok (.iaload, 1) := by decide +kernel
theorem dX4_cost_66 : decode cX4_cost 66 = .ok (.ifCond .ne 6, 3) := by decide +kernel
theorem dX4_cost_69 : decode cX4_cost 69 = .ok (.goto 79, 3) := by decide +kernel
theorem dX4_cost_72 : decode cX4_cost 72 = .ok (.iload_n 1, 1) := by decide +kernel
theorem dX4_cost_73 : decode cX4_cost 73 = .ok (.ifCond .ne 13, 3) := by decide +kernel
theorem dX4_cost_76 : decode cX4_cost 76 = .ok (.aload_n 0, 1) := by decide +kernel
theorem dX4_cost_77 : decode cX4_cost 77 = .ok (.getfield 54, 3) := by decide +kernel
theorem dX4_cost_80 : decode cX4_cost 80 = .ok (.iload 5, 2) := by decide +kernel
theorem dX4_cost_82 : decode cX4_cost 82 = .ok (.laload, 1) := by decide +kernel
theorem dX4_cost_83 : decode cX4_cost 83 = .ok (.goto 9, 3) := by decide +kernel
theorem dX4_cost_86 : decode cX4_cost 86 = .ok (.aload_n 0, 1) := by decide +kernel
theorem dX4_cost_87 : decode cX4_cost 87 = .ok (.iload 5, 2) := by decide +kernel
theorem dX4_cost_89 : decode cX4_cost 89 = .ok (.invokevirtual 112, 3) := by decide +kernel
theorem dX4_cost_92 : decode cX4_cost 92 = .ok (.lstore 7, 2) := by decide +kernel
theorem dX4_cost_94 : decode cX4_cost 94 = .ok (.iload_n 1, 1) := by decide +kernel
theorem dX4_cost_95 : decode cX4_cost 95 = .ok (.ifCond .ne 13, 3) := by decide +kernel
theorem dX4_cost_98 : decode cX4_cost 98 = .ok (.aload_n 0, 1) := by decide +kernel
theorem dX4_cost_99 : decode cX4_cost 99 = .ok (.getfield 54, 3) := by decide +kernel
theorem dX4_cost_102 : decode cX4_cost 102 = .ok (.iload 6, 2) := by decide +kernel
theorem dX4_cost_104 : decode cX4_cost 104 = .ok (.laload, 1) := by decide +kernel
theorem dX4_cost_105 : decode cX4_cost 105 = .ok (.goto 9, 3) := by decide +kernel
theorem dX4_cost_108 : decode cX4_cost 108 = .ok (.aload_n 0, 1) := by decide +kernel
theorem dX4_cost_109 : decode cX4_cost 109 = .ok (.iload 6, 2) := by decide +kernel
theorem dX4_cost_111 : decode cX4_cost 111 = .ok (.invokevirtual 112, 3) := by decide +kernel
theorem dX4_cost_114 : decode cX4_cost 114 = .ok (.lstore 9, 2) := by decide +kernel
theorem dX4_cost_116 : decode cX4_cost 116 = .ok (.lload_n 2, 1) := by decide +kernel
theorem dX4_cost_117 : decode cX4_cost 117 = .ok (.aload_n 0, 1) := by decide +kernel
theorem dX4_cost_118 : decode cX4_cost 118 = .ok (.getfield 26, 3) := by decide +kernel
theorem dX4_cost_121 : decode cX4_cost 121 = .ok (.iload 4, 2) := by decide +kernel
theorem dX4_cost_123 : decode cX4_cost 123 = .ok (.laload, 1) := by decide +kernel
theorem dX4_cost_124 : decode cX4_cost 124 = .ok (.lload 7, 2) := by decide +kernel
theorem dX4_cost_126 : decode cX4_cost 126 = .ok (.lload 9, 2) := by decide +kernel
theorem dX4_cost_128 : decode cX4_cost 128 = .ok (.lcmp, 1) := by decide +kernel
theorem dX4_cost_129 : decode cX4_cost 129 = .ok (.ifCond .ge 11, 3) := by decide +kernel
theorem dX4_cost_132 : decode cX4_cost 132 = .ok (.lload 9, 2) := by decide +kernel
theorem dX4_cost_134 : decode cX4_cost 134 = .ok (.lload 7, 2) := by decide +kernel
theorem dX4_cost_136 : decode cX4_cost 136 = .ok (.lsub, 1) := by decide +kernel
theorem dX4_cost_137 : decode cX4_cost 137 = .ok (.goto 8, 3) := by decide +kernel
theorem dX4_cost_140 : decode cX4_cost 140 = .ok (.lload 7, 2) := by decide +kernel
theorem dX4_cost_142 : decode cX4_cost 142 = .ok (.lload 9, 2) := by decide +kernel
theorem dX4_cost_144 : decode cX4_cost 144 = .ok (.lsub, 1) := by decide +kernel
theorem dX4_cost_145 : decode cX4_cost 145 = .ok (.lmul, 1) := by decide +kernel
theorem dX4_cost_146 : decode cX4_cost 146 = .ok (.ladd, 1) := by decide +kernel
theorem dX4_cost_147 : decode cX4_cost 147 = .ok (.lstore_n 2, 1) := by decide +kernel
theorem dX4_cost_148 : decode cX4_cost 148 = .ok (.iinc 4 1, 3) := by decide +kernel
theorem dX4_cost_151 : decode cX4_cost 151 = .ok (.goto (-129), 3) := by decide +kernel
theorem dX4_cost_154 : decode cX4_cost 154 = .ok (.lload_n 2, 1) := by decide +kernel
theorem dX4_cost_155 : decode cX4_cost 155 = .ok (.lreturn, 1) := by decide +kernel
theorem dX4_before_0 : decode cX4_before 0 = .ok (.lconst 0, 1) := by decide +kernel
theorem dX4_before_1 : decode cX4_before 1 = .ok (.lstore_n 2, 1) := by decide +kernel
theorem dX4_before_2 : decode cX4_before 2 = .ok (.iconst 0, 1) := by decide +kernel
theorem dX4_before_3 : decode cX4_before 3 = .ok (.istore 4, 2) := by decide +kernel
theorem dX4_before_5 : decode cX4_before 5 = .ok (.iload 4, 2) := by decide +kernel
theorem dX4_before_7 : decode cX4_before 7 = .ok (.iload_n 1, 1) := by decide +kernel
theorem dX4_before_8 : decode cX4_before 8 = .ok (.if_icmp .ge 20, 3) := by decide +kernel
theorem dX4_before_11 : decode cX4_before 11 = .ok (.lload_n 2, 1) := by decide +kernel
theorem dX4_before_12 : decode cX4_before 12 = .ok (.aload_n 0, 1) := by decide +kernel
theorem dX4_before_13 : decode cX4_before 13 = .ok (.getfield 16, 3) := by decide +kernel
theorem dX4_before_16 : decode cX4_before 16 = .ok (.iload 4, 2) := by decide +kernel
theorem dX4_before_18 : decode cX4_before 18 = .ok (.iaload, 1) := by decide +kernel
theorem dX4_before_19 : decode cX4_before 19 = .ok (.i2l, 1) := by decide +kernel
theorem dX4_before_20 : decode cX4_before 20 = .ok (.ladd, 1) := by decide +kernel
theorem dX4_before_21 : decode cX4_before 21 = .ok (.lstore_n 2, 1) := by decide +kernel
theorem dX4_before_22 : decode cX4_before 22 = .ok (.iinc 4 1, 3) := by decide +kernel
theorem dX4_before_25 : decode cX4_before 25 = .ok (.goto (-20), 3) := by decide +kernel
theorem dX4_before_28 : decode cX4_before 28 = .ok (.lload_n 2, 1) := by decide +kernel
theorem dX4_before_29 : decode cX4_before 29 = .ok (.lreturn, 1) := by decide +kernel
