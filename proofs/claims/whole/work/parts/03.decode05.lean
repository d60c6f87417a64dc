theorem dX8_putInsert_213 : decode cX8_putInsert 213 = .ok (.lload_n 3, 1) := by decide +kernel
theorem dX8_putInsert_214 : decode cX8_putInsert 214 = .ok (.goto 20, 3) := by decide +kernel
theorem dX8_putInsert_217 : decode cX8_putInsert 217 = .ok (.iload_n 2, 1) := by decide +kernel
theorem dX8_putInsert_218 : decode cX8_putInsert 218 = .ok (.ifCond .eq 15, 3) := by decide +kernel
theorem dX8_putInsert_221 : decode cX8_putInsert 221 = .ok (.lload 12, 2) := by decide +kernel
theorem dX8_putInsert_223 : decode cX8_putInsert 223 = .ok (.lconst 0, 1) := by decide +kernel
theorem dX8_putInsert_224 : decode cX8_putInsert 224 = .ok (.lcmp, 1) := by decide +kernel
theorem dX8_putInsert_225 : decode cX8_putInsert 225 = .ok (.ifCond .le 8, 3) := by decide +kernel
theorem dX8_putInsert_228 : decode cX8_putInsert 228 = .ok (.lload 12, 2) := by decide +kernel
theorem dX8_putInsert_230 : decode cX8_putInsert 230 = .ok (.goto 4, 3) := by decide +kernel
theorem dX8_putInsert_233 : decode cX8_putInsert 233 = .ok (.lconst 0, 1) := by decide +kernel
theorem dX8_putInsert_234 : decode cX8_putInsert 234 = .ok (.lstore 5, 2) := by decide +kernel
theorem dX8_putInsert_236 : decode cX8_putInsert 236 = .ok (.aload_n 0, 1) := by decide +kernel
theorem dX8_putInsert_237 : decode cX8_putInsert 237 = .ok (.getfield 53, 3) := by decide +kernel
theorem dX8_putInsert_240 : decode cX8_putInsert 240 = .ok (.aload_n 0, 1) := by decide +kernel
theorem dX8_putInsert_241 : decode cX8_putInsert 241 = .ok (.getfield 115, 3) := by decide +kernel
theorem dX8_putInsert_244 : decode cX8_putInsert 244 = .ok (.lload 5, 2) := by decide +kernel
theorem dX8_putInsert_246 : decode cX8_putInsert 246 = .ok (.l2i, 1) := by decide +kernel
theorem dX8_putInsert_247 : decode cX8_putInsert 247 = .ok (.iastore, 1) := by decide +kernel
theorem dX8_putInsert_248 : decode cX8_putInsert 248 = .ok (.aload_n 0, 1) := by decide +kernel
theorem dX8_putInsert_249 : decode cX8_putInsert 249 = .ok (.getfield 60, 3) := by decide +kernel
theorem dX8_putInsert_252 : decode cX8_putInsert 252 = .ok (.bipush 8, 2) := by decide +kernel
theorem dX8_putInsert_254 : decode cX8_putInsert 254 = .ok (.iload_n 1, 1) := by decide +kernel
theorem dX8_putInsert_255 : decode cX8_putInsert 255 = .ok (.iadd, 1) := by decide +kernel
theorem dX8_putInsert_256 : decode cX8_putInsert 256 = .ok (.dup2, 1) := by decide +kernel
theorem dX8_putInsert_257 : decode cX8_putInsert 257 = .ok (.laload, 1) := by decide +kernel
theorem dX8_putInsert_258 : decode cX8_putInsert 258 = .ok (.lload 5, 2) := by decide +kernel
theorem dX8_putInsert_260 : decode cX8_putInsert 260 = .ok (.ladd, 1) := by decide +kernel
theorem dX8_putInsert_261 : decode cX8_putInsert 261 = .ok (.lastore, 1) := by decide +kernel
theorem dX8_putInsert_262 : decode cX8_putInsert 262 = .ok (.aload_n 0, 1) := by decide +kernel
theorem dX8_putInsert_263 : decode cX8_putInsert 263 = .ok (.getfield 60, 3) := by decide +kernel
theorem dX8_putInsert_266 : decode cX8_putInsert 266 = .ok (.iconst 1, 1) := by decide +kernel
theorem dX8_putInsert_267 : decode cX8_putInsert 267 = .ok (.dup2, 1) := by decide +kernel
theorem dX8_putInsert_268 : decode cX8_putInsert 268 = .ok (.laload, 1) := by decide +kernel
theorem dX8_putInsert_269 : decode cX8_putInsert 269 = .ok (.lload 5, 2) := by decide +kernel
theorem dX8_putInsert_271 : decode cX8_putInsert 271 = .ok (.aload_n 0, 1) := by decide +kernel
theorem dX8_putInsert_272 : decode cX8_putInsert 272 = .ok (.getfield 28, 3) := by decide +kernel
theorem dX8_putInsert_275 : decode cX8_putInsert 275 = .ok (.iload_n 1, 1) := by decide +kernel
theorem dX8_putInsert_276 : decode cX8_putInsert 276 = .ok (.iaload, 1) := by decide +kernel
theorem dX8_putInsert_277 : decode cX8_putInsert 277 = .ok (.i2l, 1) := by decide +kernel
theorem dX8_putInsert_278 : decode cX8_putInsert 278 = .ok (.lmul, 1) := by decide +kernel
theorem dX8_putInsert_279 : decode cX8_putInsert 279 = .ok (.ldc2_w 200, 3) := by decide +kernel
theorem dX8_putInsert_282 : decode cX8_putInsert 282 = .ok (.ldiv, 1) := by decide +kernel
theorem dX8_putInsert_283 : decode cX8_putInsert 283 = .ok (.lsub, 1) := by decide +kernel
theorem dX8_putInsert_284 : decode cX8_putInsert 284 = .ok (.lastore, 1) := by decide +kernel
theorem dX8_putInsert_285 : decode cX8_putInsert 285 = .ok (.iload 7, 2) := by decide +kernel
theorem dX8_putInsert_287 : decode cX8_putInsert 287 = .ok (.ifCond .ne 36, 3) := by decide +kernel
theorem dX8_putInsert_290 : decode cX8_putInsert 290 = .ok (.aload_n 0, 1) := by decide +kernel
theorem dX8_putInsert_291 : decode cX8_putInsert 291 = .ok (.getfield 56, 3) := by decide +kernel
theorem dX8_putInsert_294 : decode cX8_putInsert 294 = .ok (.aload_n 0, 1) := by decide +kernel
theorem dX8_putInsert_295 : decode cX8_putInsert 295 = .ok (.getfield 115, 3) := by decide +kernel
theorem dX8_putInsert_298 : decode cX8_putInsert 298 = .ok (.iconst 1, 1) := by decide +kernel
theorem dX8_putInsert_299 : decode cX8_putInsert 299 = .ok (.bastore, 1) := by decide +kernel
theorem dX8_putInsert_300 : decode cX8_putInsert 300 = .ok (.aload_n 0, 1) := by decide +kernel
theorem dX8_putInsert_301 : decode cX8_putInsert 301 = .ok (.getfield 67, 3) := by decide +kernel
theorem dX8_putInsert_304 : decode cX8_putInsert 304 = .ok (.iload_n 1, 1) := by decide +kernel
theorem dX8_putInsert_305 : decode cX8_putInsert 305 = .ok (.iconst 1, 1) := by decide +kernel
theorem dX8_putInsert_306 : decode cX8_putInsert 306 = .ok (.bastore, 1) := by decide +kernel
theorem dX8_putInsert_307 : decode cX8_putInsert 307 = .ok (.aload_n 0, 1) := by decide +kernel
theorem dX8_putInsert_308 : decode cX8_putInsert 308 = .ok (.dup, 1) := by decide +kernel
theorem dX8_putInsert_309 : decode cX8_putInsert 309 = .ok (.getfield 153, 3) := by decide +kernel
theorem dX8_putInsert_312 : decode cX8_putInsert 312 = .ok (.aload_n 0, 1) := by decide +kernel
theorem dX8_putInsert_313 : decode cX8_putInsert 313 = .ok (.getfield 34, 3) := by decide +kernel
theorem dX8_putInsert_316 : decode cX8_putInsert 316 = .ok (.iload_n 1, 1) := by decide +kernel
theorem dX8_putInsert_317 : decode cX8_putInsert 317 = .ok (.iaload, 1) := by decide +kernel
theorem dX8_putInsert_318 : decode cX8_putInsert 318 = .ok (.i2l, 1) := by decide +kernel
theorem dX8_putInsert_319 : decode cX8_putInsert 319 = .ok (.ladd, 1) := by decide +kernel
theorem dX8_putInsert_320 : decode cX8_putInsert 320 = .ok (.putfield 153, 3) := by decide +kernel
theorem dX8_putInsert_323 : decode cX8_putInsert 323 = .ok (.return_, 1) := by decide +kernel
theorem dX8_end_0 : decode cX8_end 0 = .ok (.aload_n 0, 1) := by decide +kernel
theorem dX8_end_1 : decode cX8_end 1 = .ok (.getfield 70, 3) := by decide +kernel
theorem dX8_end_4 : decode cX8_end 4 = .ok (.aload_n 0, 1) := by decide +kernel
theorem dX8_end_5 : decode cX8_end 5 = .ok (.getfield 205, 3) := by decide +kernel
theorem dX8_end_8 : decode cX8_end 8 = .ok (.iaload, 1) := by decide +kernel
theorem dX8_end_9 : decode cX8_end 9 = .ok (.istore_n 1, 1) := by decide +kernel
theorem dX8_end_10 : decode cX8_end 10 = .ok (.iconst 0, 1) := by decide +kernel
theorem dX8_end_11 : decode cX8_end 11 = .ok (.istore_n 2, 1) := by decide +kernel
theorem dX8_end_12 : decode cX8_end 12 = .ok (.aload_n 0, 1) := by decide +kernel
theorem dX8_end_13 : decode cX8_end 13 = .ok (.getfield 88, 3) := by decide +kernel
theorem dX8_end_16 : decode cX8_end 16 = .ok (.iconst 3, 1) := by decide +kernel
theorem dX8_end_17 : decode cX8_end 17 = .ok (.aload_n 0, 1) := by decide +kernel
theorem dX8_end_18 : decode cX8_end 18 = .ok (.getfield 205, 3) := by decide +kernel
theorem dX8_end_21 : decode cX8_end 21 = .ok (.imul, 1) := by decide +kernel
theorem dX8_end_22 : decode cX8_end 22 = .ok (.aload_n 0, 1) := by decide +kernel
theorem dX8_end_23 : decode cX8_end 23 = .ok (.getfield 208, 3) := by decide +kernel
theorem dX8_end_26 : decode cX8_end 26 = .ok (.iastore, 1) := by decide +kernel
theorem dX8_end_27 : decode cX8_end 27 = .ok (.aload_n 0, 1) := by decide +kernel
theorem dX8_end_28 : decode cX8_end 28 = .ok (.getfield 88, 3) := by decide +kernel
theorem dX8_end_31 : decode cX8_end 31 = .ok (.iconst 3, 1) := by decide +kernel
theorem dX8_end_32 : decode cX8_end 32 = .ok (.aload_n 0, 1) := by decide +kernel
theorem dX8_end_33 : decode cX8_end 33 = .ok (.getfield 205, 3) := by decide +kernel
theorem dX8_end_36 : decode cX8_end 36 = .ok (.imul, 1) := by decide +kernel
theorem dX8_end_37 : decode cX8_end 37 = .ok (.iconst 1, 1) := by decide +kernel
theorem dX8_end_38 : decode cX8_end 38 = .ok (.iadd, 1) := by decide +kernel
theorem dX8_end_39 : decode cX8_end 39 = .ok (.aload_n 0, 1) := by decide +kernel
theorem dX8_end_40 : decode cX8_end 40 = .ok (.getfield 208, 3) := by decide +kernel
theorem dX8_end_43 : decode cX8_end 43 = .ok (.iastore, 1) := by decide +kernel
theorem dX8_end_44 : decode cX8_end 44 = .ok (.iconst 0, 1) := by decide +kernel
theorem dX8_end_45 : decode cX8_end 45 = .ok (.istore_n 3, 1) := by decide +kernel
theorem dX8_end_46 : decode cX8_end 46 = .ok (.iconst 0, 1) := by decide +kernel
theorem dX8_end_47 : decode cX8_end 47 = .ok (.istore 4, 2) := by decide +kernel
theorem dX8_end_49 : decode cX8_end 49 = .ok (.iload 4, 2) := by decide +kernel
theorem dX8_end_51 : decode cX8_end 51 = .ok (.aload_n 0, 1) := by decide +kernel
theorem dX8_end_52 : decode cX8_end 52 = .ok (.getfield 187, 3) := by decide +kernel
theorem dX8_end_55 : decode cX8_end 55 = .ok (.if_icmp .ge 159, 3) := by decide +kernel
theorem dX8_end_58 : decode cX8_end 58 = .ok (.aload_n 0, 1) := by decide +kernel
theorem dX8_end_59 : decode cX8_end 59 = .ok (.getfield 73, 3) := by decide +kernel
theorem dX8_end_62 : decode cX8_end 62 = .ok (.iload_n 1, 1) := by decide +kernel
theorem dX8_end_63 : decode cX8_end 63 = .ok (.iload 4, 2) := by decide +kernel
theorem dX8_end_65 : decode cX8_end 65 = .ok (.iadd, 1) := by decide +kernel
theorem dX8_end_66 : decode cX8_end 66 = .ok (.aload_n 0, 1) := by decide +kernel
theorem dX8_end_67 : decode cX8_end 67 = .ok (.getfield 47, 3) := by decide +kernel
theorem dX8_end_70 : decode cX8_end 70 = .ok (.iload 4, 2) := by decide +kernel
theorem dX8_end_72 : decode cX8_end 72 = .ok (.iaload, 1) := by decide +kernel
theorem dX8_end_73 : decode cX8_end 73 = .ok (.iastore, 1) := by decide +kernel
theorem dX8_end_74 : decode cX8_end 74 = .ok (.aload_n 0, 1) := by decide +kernel
theorem dX8_end_75 : decode cX8_end 75 = .ok (.getfield 76, 3) := by decide +kernel
theorem dX8_end_78 : decode cX8_end 78 = .ok (.iload_n 1, 1) := by decide +kernel
theorem dX8_end_79 : decode cX8_end 79 = .ok (.iload 4, 2) := by decide +kernel
theorem dX8_end_81 : decode cX8_end 81 = .ok (.iadd, 1) := by decide +kernel
theorem dX8_end_82 : decode cX8_end 82 = .ok (.aload_n 0, 1) := by decide +kernel
theorem dX8_end_83 : decode cX8_end 83 = .ok (.getfield 53, 3) := by decide +kernel
theorem dX8_end_86 : decode cX8_end 86 = .ok (.iload 4, 2) := by decide +kernel
theorem dX8_end_88 : decode cX8_end 88 = .ok (.iaload, 1) := by decide +kernel
theorem dX8_end_89 : decode cX8_end 89 = .ok (.iastore, 1) := by decide +kernel
theorem dX8_end_90 : decode cX8_end 90 = .ok (.aload_n 0, 1) := by decide +kernel
theorem dX8_end_91 : decode cX8_end 91 = .ok (.getfield 56, 3) := by decide +kernel
theorem dX8_end_94 : decode cX8_end 94 = .ok (.iload 4, 2) := by decide +kernel
theorem dX8_end_96 : decode cX8_end 96 = .ok (.baload, 1) := by decide +kernel
theorem dX8_end_97 : decode cX8_end 97 = .ok (.ifCond .eq 40, 3) := by decide +kernel
theorem dX8_end_100 : decode cX8_end 100 = .ok (.aload_n 0, 1) := by decide +kernel
theorem dX8_end_101 : decode cX8_end 101 = .ok (.getfield 91, 3) := by decide +kernel
theorem dX8_end_104 : decode cX8_end 104 = .ok (.iload_n 2, 1) := by decide +kernel
theorem dX8_end_105 : decode cX8_end 105 = .ok (.aload_n 0, 1) := by decide +kernel
theorem dX8_end_106 : decode cX8_end 106 = .ok (.getfield 47, 3) := by decide +kernel
theorem dX8_end_109 : decode cX8_end 109 = .ok (.iload 4, 2) := by decide +kernel
theorem dX8_end_111 : decode cX8_end 111 = .ok (.iaload, 1) := by decide +kernel
theorem dX8_end_112 : decode cX8_end 112 = .ok (.iastore, 1) := by decide +kernel
theorem dX8_end_113 : decode cX8_end 113 = .ok (.aload_n 0, 1) := by decide +kernel
theorem dX8_end_114 : decode cX8_end 114 = .ok (.getfield 94, 3) := by decide +kernel
theorem dX8_end_117 : decode cX8_end 117 = .ok (.iload_n 2, 1) := by decide +kernel
theorem dX8_end_118 : decode cX8_end 118 = .ok (.aload_n 0, 1) := by decide +kernel
theorem dX8_end_119 : decode cX8_end 119 = .ok (.getfield 50, 3) := by decide +kernel
theorem dX8_end_122 : decode cX8_end 122 = .ok (.iload 4, 2) := by decide +kernel
theorem dX8_end_124 : decode cX8_end 124 = .ok (.iaload, 1) := by decide +kernel
theorem dX8_end_125 : decode cX8_end 125 = .ok (.aload_n 0, 1) := by decide +kernel
theorem dX8_end_126 : decode cX8_end 126 = .ok (.getfield 53, 3) := by decide +kernel
theorem dX8_end_129 : decode cX8_end 129 = .ok (.iload 4, 2) := by decide +kernel
theorem dX8_end_131 : decode cX8_end 131 = .ok (.iaload, 1) := by decide +kernel
theorem dX8_end_132 : decode cX8_end 132 = .ok (.isub, 1) := by decide +kernel
theorem dX8_end_133 : decode cX8_end 133 = .ok (.iastore, 1) := by decide +kernel
theorem dX8_end_134 : decode cX8_end 134 = .ok (.iinc 2 1, 3) := by decide +kernel
theorem dX8_end_137 : decode cX8_end 137 = .ok (.aload_n 0, 1) := by decide +kernel
theorem dX8_end_138 : decode cX8_end 138 = .ok (.getfield 7, 3) := by decide +kernel
theorem dX8_end_141 : decode cX8_end 141 = .ok (.aload_n 0, 1) := by decide +kernel
theorem dX8_end_142 : decode cX8_end 142 = .ok (.getfield 47, 3) := by decide +kernel
theorem dX8_end_145 : decode cX8_end 145 = .ok (.iload 4, 2) := by decide +kernel
theorem dX8_end_147 : decode cX8_end 147 = .ok (.iaload, 1) := by decide +kernel
theorem dX8_end_148 : decode cX8_end 148 = .ok (.iaload, 1) := by decide +kernel
theorem dX8_end_149 : decode cX8_end 149 = .ok (.iconst 5, 1) := by decide +kernel
theorem dX8_end_150 : decode cX8_end 150 = .ok (.if_icmp .ne 58, 3) := by decide +kernel
theorem dX8_end_153 : decode cX8_end 153 = .ok (.aload_n 0, 1) := by decide +kernel
theorem dX8_end_154 : decode cX8_end 154 = .ok (.aload_n 0, 1) := by decide +kernel
theorem dX8_end_155 : decode cX8_end 155 = .ok (.getfield 13, 3) := by decide +kernel
theorem dX8_end_158 : decode cX8_end 158 = .ok (.aload_n 0, 1) := by decide +kernel
theorem dX8_end_159 : decode cX8_end 159 = .ok (.getfield 47, 3) := by decide +kernel
theorem dX8_end_162 : decode cX8_end 162 = .ok (.iload 4, 2) := by decide +kernel
theorem dX8_end_164 : decode cX8_end 164 = .ok (.iaload, 1) := by decide +kernel
theorem dX8_end_165 : decode cX8_end 165 = .ok (.iaload, 1) := by decide +kernel
theorem dX8_end_166 : decode cX8_end 166 = .ok (.putfield 208, 3) := by decide +kernel
theorem dX8_end_169 : decode cX8_end 169 = .ok (.aload_n 0, 1) := by decide +kernel
theorem dX8_end_170 : decode cX8_end 170 = .ok (.getfield 88, 3) := by decide +kernel
theorem dX8_end_173 : decode cX8_end 173 = .ok (.iconst 3, 1) := by decide +kernel
theorem dX8_end_174 : decode cX8_end 174 = .ok (.aload_n 0, 1) := by decide +kernel
theorem dX8_end_175 : decode cX8_end 175 = .ok (.getfield 205, 3) := by decide +kernel
theorem dX8_end_178 : decode cX8_end 178 = .ok (.imul, 1) := by decide +kernel
theorem dX8_end_179 : decode cX8_end 179 = .ok (.iconst 1, 1) := by decide +kernel
theorem dX8_end_180 : decode cX8_end 180 = .ok (.iadd, 1) := by decide +kernel
theorem dX8_end_181 : decode cX8_end 181 = .ok (.iload_n 3, 1) := by decide +kernel
theorem dX8_end_182 : decode cX8_end 182 = .ok (.ifCond .eq 19, 3) := by decide +kernel
theorem dX8_end_185 : decode cX8_end 185 = .ok (.aload_n 0, 1) := by decide +kernel
theorem dX8_end_186 : decode cX8_end 186 = .ok (.getfield 88, 3) := by decide +kernel
theorem dX8_end_189 : decode cX8_end 189 = .ok (.iconst 3, 1) := by decide +kernel
theorem dX8_end_190 : decode cX8_end 190 = .ok (.aload_n 0, 1) := by decide +kernel
theorem dX8_end_191 : decode cX8_end 191 = .ok (.getfield 205, 3) := by decide +kernel
theorem dX8_end_194 : decode cX8_end 194 = .ok (.imul, 1) := by decide +kernel
theorem dX8_end_195 : decode cX8_end 195 = .ok (.iconst 1, 1) := by decide +kernel
theorem dX8_end_196 : decode cX8_end 196 = .ok (.iadd, 1) := by decide +kernel
theorem dX8_end_197 : decode cX8_end 197 = .ok (.iaload, 1) := by decide +kernel
theorem dX8_end_198 : decode cX8_end 198 = .ok (.goto 7, 3) := by decide +kernel
theorem dX8_end_201 : decode cX8_end 201 = .ok (.aload_n 0, 1) := by decide +kernel
theorem dX8_end_202 : decode cX8_end 202 = .ok (.getfield 208, 3) := by decide +kernel
theorem dX8_end_205 : decode cX8_end 205 = .ok (.iastore, 1) := by decide +kernel
theorem dX8_end_206 : decode cX8_end 206 = .ok (.iconst 1, 1) := by decide +kernel
theorem dX8_end_207 : decode cX8_end 207 = .ok (.istore_n 3, 1) := by decide +kernel
theorem dX8_end_208 : decode cX8_end 208 = .ok (.iinc 4 1, 3) := by decide +kernel
theorem dX8_end_211 : decode cX8_end 211 = .ok (.goto (-162), 3) := by decide +kernel
theorem dX8_end_214 : decode cX8_end 214 = .ok (.aload_n 0, 1) := by decide +kernel
theorem dX8_end_215 : decode cX8_end 215 = .ok (.getfield 88, 3) := by decide +kernel
theorem dX8_end_218 : decode cX8_end 218 = .ok (.iconst 3, 1) := by decide +kernel
theorem dX8_end_219 : decode cX8_end 219 = .ok (.aload_n 0, 1) := by decide +kernel
theorem dX8_end_220 : decode cX8_end 220 = .ok (.getfield 205, 3) := by decide +kernel
theorem dX8_end_223 : decode cX8_end 223 = .ok (.imul, 1) := by decide +kernel
theorem dX8_end_224 : decode cX8_end 224 = .ok (.iconst 2, 1) := by decide +kernel
theorem dX8_end_225 : decode cX8_end 225 = .ok (.iadd, 1) := by decide +kernel
theorem dX8_end_226 : decode cX8_end 226 = .ok (.aload_n 0, 1) := by decide +kernel
theorem dX8_end_227 : decode cX8_end 227 = .ok (.getfield 208, 3) := by decide +kernel
theorem dX8_end_230 : decode cX8_end 230 = .ok (.iastore, 1) := by decide +kernel
theorem dX8_end_231 : decode cX8_end 231 = .ok (.aload_n 0, 1) := by decide +kernel
theorem dX8_end_232 : decode cX8_end 232 = .ok (.getfield 70, 3) := by decide +kernel
theorem dX8_end_235 : decode cX8_end 235 = .ok (.aload_n 0, 1) := by decide +kernel
theorem dX8_end_236 : decode cX8_end 236 = .ok (.getfield 205, 3) := by decide +kernel
theorem dX8_end_239 : decode cX8_end 239 = .ok (.iconst 1, 1) := by decide +kernel
theorem dX8_end_240 : decode cX8_end 240 = .ok (.iadd, 1) := by decide +kernel
theorem dX8_end_241 : decode cX8_end 241 = .ok (.iload_n 1, 1) := by decide +kernel
theorem dX8_end_242 : decode cX8_end 242 = .ok (.aload_n 0, 1) := by decide +kernel
theorem dX8_end_243 : decode cX8_end 243 = .ok (.getfield 187, 3) := by decide +kernel
theorem dX8_end_246 : decode cX8_end 246 = .ok (.iadd, 1) := by decide +kernel
theorem dX8_end_247 : decode cX8_end 247 = .ok (.iastore, 1) := by decide +kernel
theorem dX8_end_248 : decode cX8_end 248 = .ok (.iconst 0, 1) := by decide +kernel
theorem dX8_end_249 : decode cX8_end 249 = .ok (.istore 4, 2) := by decide +kernel
theorem dX8_end_251 : decode cX8_end 251 = .ok (.iload 4, 2) := by decide +kernel
theorem dX8_end_253 : decode cX8_end 253 = .ok (.bipush 12, 2) := by decide +kernel
theorem dX8_end_255 : decode cX8_end 255 = .ok (.if_icmp .ge 34, 3) := by decide +kernel
theorem dX8_end_258 : decode cX8_end 258 = .ok (.aload_n 0, 1) := by decide +kernel
theorem dX8_end_259 : decode cX8_end 259 = .ok (.getfield 79, 3) := by decide +kernel
theorem dX8_end_262 : decode cX8_end 262 = .ok (.bipush 12, 2) := by decide +kernel
theorem dX8_end_264 : decode cX8_end 264 = .ok (.aload_n 0, 1) := by decide +kernel
theorem dX8_end_265 : decode cX8_end 265 = .ok (.getfield 205, 3) := by decide +kernel
theorem dX8_end_268 : decode cX8_end 268 = .ok (.imul, 1) := by decide +kernel
theorem dX8_end_269 : decode cX8_end 269 = .ok (.iload 4, 2) := by decide +kernel
theorem dX8_end_271 : decode cX8_end 271 = .ok (.iadd, 1) := by decide +kernel
theorem dX8_end_272 : decode cX8_end 272 = .ok (.aload_n 0, 1) := by decide +kernel
theorem dX8_end_273 : decode cX8_end 273 = .ok (.getfield 60, 3) := by decide +kernel
theorem dX8_end_276 : decode cX8_end 276 = .ok (.bipush 12, 2) := by decide +kernel
theorem dX8_end_278 : decode cX8_end 278 = .ok (.iload 4, 2) := by decide +kernel
theorem dX8_end_280 : decode cX8_end 280 = .ok (.iadd, 1) := by decide +kernel
theorem dX8_end_281 : decode cX8_end 281 = .ok (.laload, 1) := by decide +kernel
theorem dX8_end_282 : decode cX8_end 282 = .ok (.lastore, 1) := by decide +kernel
theorem dX8_end_283 : decode cX8_end 283 = .ok (.iinc 4 1, 3) := by decide +kernel
theorem dX8_end_286 : decode cX8_end 286 = .ok (.goto (-35), 3) := by decide +kernel
theorem dX8_end_289 : decode cX8_end 289 = .ok (.aload_n 0, 1) := by decide +kernel
theorem dX8_end_290 : decode cX8_end 290 = .ok (.getfield 82, 3) := by decide +kernel
theorem dX8_end_293 : decode cX8_end 293 = .ok (.aload_n 0, 1) := by decide +kernel
theorem dX8_end_294 : decode cX8_end 294 = .ok (.getfield 205, 3) := by decide +kernel
theorem dX8_end_297 : decode cX8_end 297 = .ok (.aload_n 0, 1) := by decide +kernel
theorem dX8_end_298 : decode cX8_end 298 = .ok (.getfield 184, 3) := by decide +kernel
theorem dX8_end_301 : decode cX8_end 301 = .ok (.lastore, 1) := by decide +kernel
theorem dX8_end_302 : decode cX8_end 302 = .ok (.aload_n 0, 1) := by decide +kernel
theorem dX8_end_303 : decode cX8_end 303 = .ok (.getfield 85, 3) := by decide +kernel
theorem dX8_end_306 : decode cX8_end 306 = .ok (.aload_n 0, 1) := by decide +kernel
theorem dX8_end_307 : decode cX8_end 307 = .ok (.getfield 205, 3) := by decide +kernel
theorem dX8_end_310 : decode cX8_end 310 = .ok (.aload_n 0, 1) := by decide +kernel
theorem dX8_end_311 : decode cX8_end 311 = .ok (.getfield 190, 3) := by decide +kernel
theorem dX8_end_314 : decode cX8_end 314 = .ok (.iastore, 1) := by decide +kernel
theorem dX8_end_315 : decode cX8_end 315 = .ok (.aload_n 0, 1) := by decide +kernel
theorem dX8_end_316 : decode cX8_end 316 = .ok (.dup, 1) := by decide +kernel
theorem dX8_end_317 : decode cX8_end 317 = .ok (.getfield 205, 3) := by decide +kernel
theorem dX8_end_320 : decode cX8_end 320 = .ok (.iconst 1, 1) := by decide +kernel
theorem dX8_end_321 : decode cX8_end 321 = .ok (.iadd, 1) := by decide +kernel
theorem dX8_end_322 : decode cX8_end 322 = .ok (.putfield 205, 3) := by decide +kernel
theorem dX8_end_325 : decode cX8_end 325 = .ok (.aload_n 0, 1) := by decide +kernel
theorem dX8_end_326 : decode cX8_end 326 = .ok (.getfield 187, 3) := by decide +kernel
theorem dX8_end_329 : decode cX8_end 329 = .ok (.istore 4, 2) := by decide +kernel
theorem dX8_end_331 : decode cX8_end 331 = .ok (.iload 4, 2) := by decide +kernel
theorem dX8_end_333 : decode cX8_end 333 = .ok (.aload_n 0, 1) := by decide +kernel
theorem dX8_end_334 : decode cX8_end 334 = .ok (.getfield 115, 3) := by decide +kernel
theorem dX8_end_337 : decode cX8_end 337 = .ok (.if_icmp .ge 68, 3) := by decide +kernel
theorem dX8_end_340 : decode cX8_end 340 = .ok (.aload_n 0, 1) := by decide +kernel
theorem dX8_end_341 : decode cX8_end 341 = .ok (.getfield 91, 3) := by decide +kernel
theorem dX8_end_344 : decode cX8_end 344 = .ok (.iload_n 2, 1) := by decide +kernel
theorem dX8_end_345 : decode cX8_end 345 = .ok (.aload_n 0, 1) := by decide +kernel
theorem dX8_end_346 : decode cX8_end 346 = .ok (.getfield 47, 3) := by decide +kernel
theorem dX8_end_349 : decode cX8_end 349 = .ok (.iload 4, 2) := by decide +kernel
theorem dX8_end_351 : decode cX8_end 351 = .ok (.iaload, 1) := by decide +kernel
theorem dX8_end_352 : decode cX8_end 352 = .ok (.iastore, 1) := by decide +kernel
theorem dX8_end_353 : decode cX8_end 353 = .ok (.aload_n 0, 1) := by decide +kernel
theorem dX8_end_354 : decode cX8_end 354 = .ok (.getfield 94, 3) := by decide +kernel
theorem dX8_end_357 : decode cX8_end 357 = .ok (.iload_n 2, 1) := by decide +kernel
theorem dX8_end_358 : decode cX8_end 358 = .ok (.aload_n 0, 1) := by decide +kernel
theorem dX8_end_359 : decode cX8_end 359 = .ok (.getfield 50, 3) := by decide +kernel
theorem dX8_end_362 : decode cX8_end 362 = .ok (.iload 4, 2) := by decide +kernel
theorem dX8_end_364 : decode cX8_end 364 = .ok (.iaload, 1) := by decide +kernel
theorem dX8_end_365 : decode cX8_end 365 = .ok (.iastore, 1) := by decide +kernel
theorem dX8_end_366 : decode cX8_end 366 = .ok (.iload_n 2, 1) := by decide +kernel
theorem dX8_end_367 : decode cX8_end 367 = .ok (.iload 4, 2) := by decide +kernel
theorem dX8_end_369 : decode cX8_end 369 = .ok (.aload_n 0, 1) := by decide +kernel
theorem dX8_end_370 : decode cX8_end 370 = .ok (.getfield 187, 3) := by decide +kernel
theorem dX8_end_373 : decode cX8_end 373 = .ok (.if_icmp .ne 23, 3) := by decide +kernel
theorem dX8_end_376 : decode cX8_end 376 = .ok (.aload_n 0, 1) := by decide +kernel
theorem dX8_end_377 : decode cX8_end 377 = .ok (.getfield 7, 3) := by decide +kernel
theorem dX8_end_380 : decode cX8_end 380 = .ok (.aload_n 0, 1) := by decide +kernel
theorem dX8_end_381 : decode cX8_end 381 = .ok (.getfield 47, 3) := by decide +kernel
theorem dX8_end_384 : decode cX8_end 384 = .ok (.iload 4, 2) := by decide +kernel
theorem dX8_end_386 : decode cX8_end 386 = .ok (.iaload, 1) := by decide +kernel
theorem dX8_end_387 : decode cX8_end 387 = .ok (.iaload, 1) := by decide +kernel
theorem dX8_end_388 : decode cX8_end 388 = .ok (.iconst 3, 1) := by decide +kernel
theorem dX8_end_389 : decode cX8_end 389 = .ok (.if_icmp .ne 7, 3) := by decide +kernel
theorem dX8_end_392 : decode cX8_end 392 = .ok (.iconst 0, 1) := by decide +kernel
theorem dX8_end_393 : decode cX8_end 393 = .ok (.goto 4, 3) := by decide +kernel
theorem dX8_end_396 : decode cX8_end 396 = .ok (.iconst 1, 1) := by decide +kernel
theorem dX8_end_397 : decode cX8_end 397 = .ok (.iadd, 1) := by decide +kernel
theorem dX8_end_398 : decode cX8_end 398 = .ok (.istore_n 2, 1) := by decide +kernel
theorem dX8_end_399 : decode cX8_end 399 = .ok (.iinc 4 1, 3) := by decide +kernel
theorem dX8_end_402 : decode cX8_end 402 = .ok (.goto (-71), 3) := by decide +kernel
theorem dX8_end_405 : decode cX8_end 405 = .ok (.aload_n 0, 1) := by decide +kernel
theorem dX8_end_406 : decode cX8_end 406 = .ok (.getfield 187, 3) := by decide +kernel
theorem dX8_end_409 : decode cX8_end 409 = .ok (.aload_n 0, 1) := by decide +kernel
theorem dX8_end_410 : decode cX8_end 410 = .ok (.getfield 115, 3) := by decide +kernel
theorem dX8_end_413 : decode cX8_end 413 = .ok (.if_icmp .ne 22, 3) := by decide +kernel
theorem dX8_end_416 : decode cX8_end 416 = .ok (.aload_n 0, 1) := by decide +kernel
theorem dX8_end_417 : decode cX8_end 417 = .ok (.getfield 7, 3) := by decide +kernel
theorem dX8_end_420 : decode cX8_end 420 = .ok (.aload_n 0, 1) := by decide +kernel
theorem dX8_end_421 : decode cX8_end 421 = .ok (.getfield 41, 3) := by decide +kernel
theorem dX8_end_424 : decode cX8_end 424 = .ok (.iconst 0, 1) := by decide +kernel
theorem dX8_end_425 : decode cX8_end 425 = .ok (.iaload, 1) := by decide +kernel
theorem dX8_end_426 : decode cX8_end 426 = .ok (.iaload, 1) := by decide +kernel
theorem dX8_end_427 : decode cX8_end 427 = .ok (.iconst 3, 1) := by decide +kernel
theorem dX8_end_428 : decode cX8_end 428 = .ok (.if_icmp .ne 7, 3) := by decide +kernel
theorem dX8_end_431 : decode cX8_end 431 = .ok (.iconst 1, 1) := by decide +kernel
theorem dX8_end_432 : decode cX8_end 432 = .ok (.goto 4, 3) := by decide +kernel
theorem dX8_end_435 : decode cX8_end 435 = .ok (.iconst 0, 1) := by decide +kernel
theorem dX8_end_436 : decode cX8_end 436 = .ok (.istore 4, 2) := by decide +kernel
theorem dX8_end_438 : decode cX8_end 438 = .ok (.iload 4, 2) := by decide +kernel
theorem dX8_end_440 : decode cX8_end 440 = .ok (.istore 5, 2) := by decide +kernel
theorem dX8_end_442 : decode cX8_end 442 = .ok (.iload 5, 2) := by decide +kernel
theorem dX8_end_444 : decode cX8_end 444 = .ok (.aload_n 0, 1) := by decide +kernel
theorem dX8_end_445 : decode cX8_end 445 = .ok (.getfield 128, 3) := by decide +kernel
theorem dX8_end_448 : decode cX8_end 448 = .ok (.if_icmp .ge 38, 3) := by decide +kernel
theorem dX8_end_451 : decode cX8_end 451 = .ok (.aload_n 0, 1) := by decide +kernel
theorem dX8_end_452 : decode cX8_end 452 = .ok (.getfield 91, 3) := by decide +kernel
theorem dX8_end_455 : decode cX8_end 455 = .ok (.iload_n 2, 1) := by decide +kernel
theorem dX8_end_456 : decode cX8_end 456 = .ok (.aload_n 0, 1) := by decide +kernel
theorem dX8_end_457 : decode cX8_end 457 = .ok (.getfield 41, 3) := by decide +kernel
theorem dX8_end_460 : decode cX8_end 460 = .ok (.iload 5, 2) := by decide +kernel
theorem dX8_end_462 : decode cX8_end 462 = .ok (.iaload, 1) := by decide +kernel
theorem dX8_end_463 : decode cX8_end 463 = .ok (.iastore, 1) := by decide +kernel
theorem dX8_end_464 : decode cX8_end 464 = .ok (.aload_n 0, 1) := by decide +kernel
theorem dX8_end_465 : decode cX8_end 465 = .ok (.getfield 94, 3) := by decide +kernel
theorem dX8_end_468 : decode cX8_end 468 = .ok (.iload_n 2, 1) := by decide +kernel
theorem dX8_end_469 : decode cX8_end 469 = .ok (.aload_n 0, 1) := by decide +kernel
theorem dX8_end_470 : decode cX8_end 470 = .ok (.getfield 44, 3) := by decide +kernel
theorem dX8_end_473 : decode cX8_end 473 = .ok (.iload 5, 2) := by decide +kernel
theorem dX8_end_475 : decode cX8_end 475 = .ok (.iaload, 1) := by decide +kernel
theorem dX8_end_476 : decode cX8_end 476 = .ok (.iastore, 1) := by decide +kernel
theorem dX8_end_477 : decode cX8_end 477 = .ok (.iinc 2 1, 3) := by decide +kernel
theorem dX8_end_480 : decode cX8_end 480 = .ok (.iinc 5 1, 3) := by decide +kernel
theorem dX8_end_483 : decode cX8_end 483 = .ok (.goto (-41), 3) := by decide +kernel
theorem dX8_end_486 : decode cX8_end 486 = .ok (.aload_n 0, 1) := by decide +kernel
theorem dX8_end_487 : decode cX8_end 487 = .ok (.iload_n 2, 1) := by decide +kernel
theorem dX8_end_488 : decode cX8_end 488 = .ok (.putfield 128, 3) := by decide +kernel
theorem dX8_end_491 : decode cX8_end 491 = .ok (.iconst 0, 1) := by decide +kernel
theorem dX8_end_492 : decode cX8_end 492 = .ok (.istore 5, 2) := by decide +kernel
theorem dX8_end_494 : decode cX8_end 494 = .ok (.iload 5, 2) := by decide +kernel
theorem dX8_end_496 : decode cX8_end 496 = .ok (.iload_n 2, 1) := by decide +kernel
theorem dX8_end_497 : decode cX8_end 497 = .ok (.if_icmp .ge 37, 3) := by decide +kernel
theorem dX8_end_500 : decode cX8_end 500 = .ok (.aload_n 0, 1) := by decide +kernel
theorem dX8_end_501 : decode cX8_end 501 = .ok (.getfield 41, 3) := by decide +kernel
theorem dX8_end_504 : decode cX8_end 504 = .ok (.iload 5, 2) := by decide +kernel
theorem dX8_end_506 : decode cX8_end 506 = .ok (.aload_n 0, 1) := by decide +kernel
theorem dX8_end_507 : decode cX8_end 507 = .ok (.getfield 91, 3) := by decide +kernel
theorem dX8_end_510 : decode cX8_end 510 = .ok (.iload 5, 2) := by decide +kernel
theorem dX8_end_512 : decode cX8_end 512 = .ok (.iaload, 1) := by decide +kernel
theorem dX8_end_513 : decode cX8_end 513 = .ok (.iastore, 1) := by decide +kernel
theorem dX8_end_514 : decode cX8_end 514 = .ok (.aload_n 0, 1) := by decide +kernel
theorem dX8_end_515 : decode cX8_end 515 = .ok (.getfield 44, 3) := by decide +kernel
theorem dX8_end_518 : decode cX8_end 518 = .ok (.iload 5, 2) := by decide +kernel
theorem dX8_end_520 : decode cX8_end 520 = .ok (.aload_n 0, 1) := by decide +kernel
theorem dX8_end_521 : decode cX8_end 521 = .ok (.getfield 94, 3) := by decide +kernel
theorem dX8_end_524 : decode cX8_end 524 = .ok (.iload 5, 2) := by decide +kernel
theorem dX8_end_526 : decode cX8_end 526 = .ok (.iaload, 1) := by decide +kernel
theorem dX8_end_527 : decode cX8_end 527 = .ok (.iastore, 1) := by decide +kernel
theorem dX8_end_528 : decode cX8_end 528 = .ok (.iinc 5 1, 3) := by decide +kernel
theorem dX8_end_531 : decode cX8_end 531 = .ok (.goto (-37), 3) := by decide +kernel
theorem dX8_end_534 : decode cX8_end 534 = .ok (.aload_n 0, 1) := by decide +kernel
theorem dX8_end_535 : decode cX8_end 535 = .ok (.invokevirtual 97, 3) := by decide +kernel
theorem dX8_end_538 : decode cX8_end 538 = .ok (.return_, 1) := by decide +kernel
theorem dX8_run_0 : decode cX8_run 0 = .ok (.aload_n 0, 1) := by decide +kernel
theorem dX8_run_1 : decode cX8_run 1 = .ok (.iconst 0, 1) := by decide +kernel
theorem dX8_run_2 : decode cX8_run 2 = .ok (.putfield 100, 3) := by decide +kernel
theorem dX8_run_5 : decode cX8_run 5 = .ok (.aload_n 0, 1) := by decide +kernel
theorem dX8_run_6 : decode cX8_run 6 = .ok (.getfield 205, 3) := by decide +kernel
theorem dX8_run_9 : decode cX8_run 9 = .ok (.istore_n 1, 1) := by decide +kernel
theorem dX8_run_10 : decode cX8_run 10 = .ok (.iconst 1, 1) := by decide +kernel
theorem dX8_run_11 : decode cX8_run 11 = .ok (.istore_n 2, 1) := by decide +kernel
theorem dX8_run_12 : decode cX8_run 12 = .ok (.iload_n 2, 1) := by decide +kernel
theorem dX8_run_13 : decode cX8_run 13 = .ok (.ifCond .eq 101, 3) := by decide +kernel
theorem dX8_run_16 : decode cX8_run 16 = .ok (.aload_n 0, 1) := by decide +kernel
theorem dX8_run_17 : decode cX8_run 17 = .ok (.getfield 128, 3) := by decide +kernel
theorem dX8_run_20 : decode cX8_run 20 = .ok (.ifCond .le 94, 3) := by decide +kernel
theorem dX8_run_23 : decode cX8_run 23 = .ok (.aload_n 0, 1) := by decide +kernel
theorem dX8_run_24 : decode cX8_run 24 = .ok (.getfield 205, 3) := by decide +kernel
theorem dX8_run_27 : decode cX8_run 27 = .ok (.bipush 60, 2) := by decide +kernel
theorem dX8_run_29 : decode cX8_run 29 = .ok (.if_icmp .ge 85, 3) := by decide +kernel
theorem dX8_run_32 : decode cX8_run 32 = .ok (.aload_n 0, 1) := by decide +kernel
theorem dX8_run_33 : decode cX8_run 33 = .ok (.getfield 7, 3) := by decide +kernel
theorem dX8_run_36 : decode cX8_run 36 = .ok (.aload_n 0, 1) := by decide +kernel
theorem dX8_run_37 : decode cX8_run 37 = .ok (.getfield 41, 3) := by decide +kernel
theorem dX8_run_40 : decode cX8_run 40 = .ok (.iconst 0, 1) := by decide +kernel
theorem dX8_run_41 : decode cX8_run 41 = .ok (.iaload, 1) := by decide +kernel
theorem dX8_run_42 : decode cX8_run 42 = .ok (.iaload, 1) := by decide +kernel
theorem dX8_run_43 : decode cX8_run 43 = .ok (.istore_n 3, 1) := by decide +kernel
theorem dX8_run_44 : decode cX8_run 44 = .ok (.aload_n 0, 1) := by decide +kernel
theorem dX8_run_45 : decode cX8_run 45 = .ok (.getfield 143, 3) := by decide +kernel
theorem dX8_run_48 : decode cX8_run 48 = .ok (.ifCond .ne 20, 3) := by decide +kernel
theorem dX8_run_51 : decode cX8_run 51 = .ok (.iload_n 3, 1) := by decide +kernel
theorem dX8_run_52 : decode cX8_run 52 = .ok (.iconst 1, 1) := by decide +kernel
theorem dX8_run_53 : decode cX8_run 53 = .ok (.if_icmp .lt 15, 3) := by decide +kernel
theorem dX8_run_56 : decode cX8_run 56 = .ok (.iload_n 3, 1) := by decide +kernel
theorem dX8_run_57 : decode cX8_run 57 = .ok (.iconst 3, 1) := by decide +kernel
theorem dX8_run_58 : decode cX8_run 58 = .ok (.if_icmp .gt 10, 3) := by decide +kernel
theorem dX8_run_61 : decode cX8_run 61 = .ok (.aload_n 0, 1) := by decide +kernel
theorem dX8_run_62 : decode cX8_run 62 = .ok (.invokevirtual 197, 3) := by decide +kernel
theorem dX8_run_65 : decode cX8_run 65 = .ok (.goto 46, 3) := by decide +kernel
theorem dX8_run_68 : decode cX8_run 68 = .ok (.iload_n 3, 1) := by decide +kernel
theorem dX8_run_69 : decode cX8_run 69 = .ok (.iconst 2, 1) := by decide +kernel
theorem dX8_run_70 : decode cX8_run 70 = .ok (.if_icmp .ne 16, 3) := by decide +kernel
theorem dX8_run_73 : decode cX8_run 73 = .ok (.aload_n 0, 1) := by decide +kernel
theorem dX8_run_74 : decode cX8_run 74 = .ok (.getfield 128, 3) := by decide +kernel
theorem dX8_run_77 : decode cX8_run 77 = .ok (.iconst 1, 1) := by decide +kernel
theorem dX8_run_78 : decode cX8_run 78 = .ok (.if_icmp .ne 8, 3) := by decide +kernel
theorem dX8_run_81 : decode cX8_run 81 = .ok (.iconst 0, 1) := by decide +kernel
theorem dX8_run_82 : decode cX8_run 82 = .ok (.istore_n 2, 1) := by decide +kernel
theorem dX8_run_83 : decode cX8_run 83 = .ok (.goto 28, 3) := by decide +kernel
theorem dX8_run_86 : decode cX8_run 86 = .ok (.aload_n 0, 1) := by decide +kernel
theorem dX8_run_87 : decode cX8_run 87 = .ok (.invokevirtual 211, 3) := by decide +kernel
theorem dX8_run_90 : decode cX8_run 90 = .ok (.ifCond .eq 17, 3) := by decide +kernel
theorem dX8_run_93 : decode cX8_run 93 = .ok (.aload_n 0, 1) := by decide +kernel
theorem dX8_run_94 : decode cX8_run 94 = .ok (.invokevirtual 215, 3) := by decide +kernel
theorem dX8_run_97 : decode cX8_run 97 = .ok (.ifCond .eq 10, 3) := by decide +kernel
theorem dX8_run_100 : decode cX8_run 100 = .ok (.aload_n 0, 1) := by decide +kernel
theorem dX8_run_101 : decode cX8_run 101 = .ok (.invokevirtual 218, 3) := by decide +kernel
theorem dX8_run_104 : decode cX8_run 104 = .ok (.goto 7, 3) := by decide +kernel
theorem dX8_run_107 : decode cX8_run 107 = .ok (.aload_n 0, 1) := by decide +kernel
theorem dX8_run_108 : decode cX8_run 108 = .ok (.invokevirtual 221, 3) := by decide +kernel
theorem dX8_run_111 : decode cX8_run 111 = .ok (.goto (-99), 3) := by decide +kernel
theorem dX8_run_114 : decode cX8_run 114 = .ok (.aload_n 0, 1) := by decide +kernel
theorem dX8_run_115 : decode cX8_run 115 = .ok (.getfield 205, 3) := by decide +kernel
theorem dX8_run_118 : decode cX8_run 118 = .ok (.iload_n 1, 1) := by decide +kernel
theorem dX8_run_119 : decode cX8_run 119 = .ok (.isub, 1) := by decide +kernel
theorem dX8_run_120 : decode cX8_run 120 = .ok (.ireturn, 1) := by decide +kernel
theorem dX8_isPage_0 : decode cX8_isPage 0 = .ok (.iload_n 1, 1) := by decide +kernel
theorem dX8_isPage_1 : decode cX8_isPage 1 = .ok (.ifCond .lt 15, 3) := by decide +kernel
theorem dX8_isPage_4 : decode cX8_isPage 4 = .ok (.iload_n 1, 1) := by decide +kernel
theorem dX8_isPage_5 : decode cX8_isPage 5 = .ok (.aload_n 0, 1) := by decide +kernel
theorem dX8_isPage_6 : decode cX8_isPage 6 = .ok (.getfield 205, 3) := by decide +kernel
theorem dX8_isPage_9 : decode cX8_isPage 9 = .ok (.if_icmp .ge 7, 3) := by decide +kernel
theorem dX8_isPage_12 : decode cX8_isPage 12 = .ok (.iconst 1, 1) := by decide +kernel
theorem dX8_isPage_13 : decode cX8_isPage 13 = .ok (.goto 4, 3) := by decide +kernel
theorem dX8_isPage_16 : decode cX8_isPage 16 = .ok (.iconst 0, 1) := by decide +kernel
theorem dX8_isPage_17 : decode cX8_isPage 17 = .ok (.ireturn, 1) := by decide +kernel
theorem dX8_sizeOf_0 : decode cX8_sizeOf 0 = .ok (.aload_n 0, 1) := by decide +kernel
theorem dX8_sizeOf_1 : decode cX8_sizeOf 1 = .ok (.getfield 70, 3) := by decide +kernel
theorem dX8_sizeOf_4 : decode cX8_sizeOf 4 = .ok (.iload_n 1, 1) := by decide +kernel
theorem dX8_sizeOf_5 : decode cX8_sizeOf 5 = .ok (.iconst 1, 1) := by decide +kernel
theorem dX8_sizeOf_6 : decode cX8_sizeOf 6 = .ok (.iadd, 1) := by decide +kernel
theorem dX8_sizeOf_7 : decode cX8_sizeOf 7 = .ok (.iaload, 1) := by decide +kernel
theorem dX8_sizeOf_8 : decode cX8_sizeOf 8 = .ok (.aload_n 0, 1) := by decide +kernel
theorem dX8_sizeOf_9 : decode cX8_sizeOf 9 = .ok (.getfield 70, 3) := by decide +kernel
theorem dX8_sizeOf_12 : decode cX8_sizeOf 12 = .ok (.iload_n 1, 1) := by decide +kernel
theorem dX8_sizeOf_13 : decode cX8_sizeOf 13 = .ok (.iaload, 1) := by decide +kernel
theorem dX8_sizeOf_14 : decode cX8_sizeOf 14 = .ok (.isub, 1) := by decide +kernel
theorem dX8_sizeOf_15 : decode cX8_sizeOf 15 = .ok (.ireturn, 1) := by decide +kernel
theorem dX8_at_0 : decode cX8_at 0 = .ok (.aload_n 0, 1) := by decide +kernel
theorem dX8_at_1 : decode cX8_at 1 = .ok (.iconst 0, 1) := by decide +kernel
theorem dX8_at_2 : decode cX8_at 2 = .ok (.putfield 100, 3) := by decide +kernel
theorem dX8_at_5 : decode cX8_at 5 = .ok (.aload_n 0, 1) := by decide +kernel
theorem dX8_at_6 : decode cX8_at 6 = .ok (.iload_n 1, 1) := by decide +kernel
theorem dX8_at_7 : decode cX8_at 7 = .ok (.invokevirtual 224, 3) := by decide +kernel
theorem dX8_at_10 : decode cX8_at 10 = .ok (.ifCond .eq 32, 3) := by decide +kernel
theorem dX8_at_13 : decode cX8_at 13 = .ok (.iload_n 2, 1) := by decide +kernel
theorem dX8_at_14 : decode cX8_at 14 = .ok (.ifCond .lt 28, 3) := by decide +kernel
theorem dX8_at_17 : decode cX8_at 17 = .ok (.iload_n 2, 1) := by decide +kernel
theorem dX8_at_18 : decode cX8_at 18 = .ok (.aload_n 0, 1) := by decide +kernel
theorem dX8_at_19 : decode cX8_at 19 = .ok (.iload_n 1, 1) := by decide +kernel
theorem dX8_at_20 : decode cX8_at 20 = .ok (.invokevirtual 228, 3) := by decide +kernel
theorem dX8_at_23 : decode cX8_at 23 = .ok (.if_icmp .ge 19, 3) := by decide +kernel
theorem dX8_at_26 : decode cX8_at 26 = .ok (.aload_n 0, 1) := by decide +kernel
theorem dX8_at_27 : decode cX8_at 27 = .ok (.getfield 73, 3) := by decide +kernel
theorem dX8_at_30 : decode cX8_at 30 = .ok (.aload_n 0, 1) := by decide +kernel
theorem dX8_at_31 : decode cX8_at 31 = .ok (.getfield 70, 3) := by decide +kernel
theorem dX8_at_34 : decode cX8_at 34 = .ok (.iload_n 1, 1) := by decide +kernel
theorem dX8_at_35 : decode cX8_at 35 = .ok (.iaload, 1) := by decide +kernel
theorem dX8_at_36 : decode cX8_at 36 = .ok (.iload_n 2, 1) := by decide +kernel
theorem dX8_at_37 : decode cX8_at 37 = .ok (.iadd, 1) := by decide +kernel
theorem dX8_at_38 : decode cX8_at 38 = .ok (.iaload, 1) := by decide +kernel
theorem dX8_at_39 : decode cX8_at 39 = .ok (.goto 4, 3) := by decide +kernel
theorem dX8_at_42 : decode cX8_at 42 = .ok (.iconst (-1), 1) := by decide +kernel
theorem dX8_at_43 : decode cX8_at 43 = .ok (.ireturn, 1) := by decide +kernel
theorem dX8_part_0 : decode cX8_part 0 = .ok (.aload_n 0, 1) := by decide +kernel
theorem dX8_part_1 : decode cX8_part 1 = .ok (.iconst 0, 1) := by decide +kernel
theorem dX8_part_2 : decode cX8_part 2 = .ok (.putfield 100, 3) := by decide +kernel
theorem dX8_part_5 : decode cX8_part 5 = .ok (.aload_n 0, 1) := by decide +kernel
theorem dX8_part_6 : decode cX8_part 6 = .ok (.iload_n 1, 1) := by decide +kernel
theorem dX8_part_7 : decode cX8_part 7 = .ok (.invokevirtual 224, 3) := by decide +kernel
theorem dX8_part_10 : decode cX8_part 10 = .ok (.ifCond .eq 32, 3) := by decide +kernel
theorem dX8_part_13 : decode cX8_part 13 = .ok (.iload_n 2, 1) := by decide +kernel
theorem dX8_part_14 : decode cX8_part 14 = .ok (.ifCond .lt 28, 3) := by decide +kernel
theorem dX8_part_17 : decode cX8_part 17 = .ok (.iload_n 2, 1) := by decide +kernel
theorem dX8_part_18 : decode cX8_part 18 = .ok (.aload_n 0, 1) := by decide +kernel
theorem dX8_part_19 : decode cX8_part 19 = .ok (.iload_n 1, 1) := by decide +kernel
theorem dX8_part_20 : decode cX8_part 20 = .ok (.invokevirtual 228, 3) := by decide +kernel
theorem dX8_part_23 : decode cX8_part 23 = .ok (.if_icmp .ge 19, 3) := by decide +kernel
theorem dX8_part_26 : decode cX8_part 26 = .ok (.aload_n 0, 1) := by decide +kernel
theorem dX8_part_27 : decode cX8_part 27 = .ok (.getfield 76, 3) := by decide +kernel
theorem dX8_part_30 : decode cX8_part 30 = .ok (.aload_n 0, 1) := by decide +kernel
theorem dX8_part_31 : decode cX8_part 31 = .ok (.getfield 70, 3) := by decide +kernel
theorem dX8_part_34 : decode cX8_part 34 = .ok (.iload_n 1, 1) := by decide +kernel
theorem dX8_part_35 : decode cX8_part 35 = .ok (.iaload, 1) := by decide +kernel
theorem dX8_part_36 : decode cX8_part 36 = .ok (.iload_n 2, 1) := by decide +kernel
theorem dX8_part_37 : decode cX8_part 37 = .ok (.iadd, 1) := by decide +kernel
theorem dX8_part_38 : decode cX8_part 38 = .ok (.iaload, 1) := by decide +kernel
theorem dX8_part_39 : decode cX8_part 39 = .ok (.goto 4, 3) := by decide +kernel
theorem dX8_part_42 : decode cX8_part 42 = .ok (.iconst 0, 1) := by decide +kernel
theorem dX8_part_43 : decode cX8_part 43 = .ok (.ireturn, 1) := by decide +kernel
theorem dX8_told_0 : decode cX8_told 0 = .ok (.aload_n 0, 1) := by decide +kernel
theorem dX8_told_1 : decode cX8_told 1 = .ok (.iconst 0, 1) := by decide +kernel
theorem dX8_told_2 : decode cX8_told 2 = .ok (.putfield 100, 3) := by decide +kernel
theorem dX8_told_5 : decode cX8_told 5 = .ok (.aload_n 0, 1) := by decide +kernel
theorem dX8_told_6 : decode cX8_told 6 = .ok (.iload_n 1, 1) := by decide +kernel
theorem dX8_told_7 : decode cX8_told 7 = .ok (.invokevirtual 224, 3) := by decide +kernel
theorem dX8_told_10 : decode cX8_told 10 = .ok (.ifCond .eq 13, 3) := by decide +kernel
theorem dX8_told_13 : decode cX8_told 13 = .ok (.iload_n 2, 1) := by decide +kernel
theorem dX8_told_14 : decode cX8_told 14 = .ok (.ifCond .lt 9, 3) := by decide +kernel
theorem dX8_told_17 : decode cX8_told 17 = .ok (.iload_n 2, 1) := by decide +kernel
theorem dX8_told_18 : decode cX8_told 18 = .ok (.bipush 14, 2) := by decide +kernel
theorem dX8_told_20 : decode cX8_told 20 = .ok (.if_icmp .le 7, 3) := by decide +kernel
theorem dX8_told_23 : decode cX8_told 23 = .ok (.ldc2_w 232, 3) := by decide +kernel
theorem dX8_told_26 : decode cX8_told 26 = .ok (.lreturn, 1) := by decide +kernel
theorem dX8_told_27 : decode cX8_told 27 = .ok (.iload_n 2, 1) := by decide +kernel
theorem dX8_told_28 : decode cX8_told 28 = .ok (.ifCond .ne 10, 3) := by decide +kernel
theorem dX8_told_31 : decode cX8_told 31 = .ok (.aload_n 0, 1) := by decide +kernel
theorem dX8_told_32 : decode cX8_told 32 = .ok (.iload_n 1, 1) := by decide +kernel
theorem dX8_told_33 : decode cX8_told 33 = .ok (.invokevirtual 228, 3) := by decide +kernel
theorem dX8_told_36 : decode cX8_told 36 = .ok (.i2l, 1) := by decide +kernel
theorem dX8_told_37 : decode cX8_told 37 = .ok (.lreturn, 1) := by decide +kernel
theorem dX8_told_38 : decode cX8_told 38 = .ok (.iload_n 2, 1) := by decide +kernel
theorem dX8_told_39 : decode cX8_told 39 = .ok (.bipush 9, 2) := by decide +kernel
theorem dX8_told_41 : decode cX8_told 41 = .ok (.if_icmp .ge 17, 3) := by decide +kernel
theorem dX8_told_44 : decode cX8_told 44 = .ok (.aload_n 0, 1) := by decide +kernel
theorem dX8_told_45 : decode cX8_told 45 = .ok (.getfield 79, 3) := by decide +kernel
theorem dX8_told_48 : decode cX8_told 48 = .ok (.bipush 12, 2) := by decide +kernel
theorem dX8_told_50 : decode cX8_told 50 = .ok (.iload_n 1, 1) := by decide +kernel
theorem dX8_told_51 : decode cX8_told 51 = .ok (.imul, 1) := by decide +kernel
theorem dX8_told_52 : decode cX8_told 52 = .ok (.iload_n 2, 1) := by decide +kernel
theorem dX8_told_53 : decode cX8_told 53 = .ok (.iadd, 1) := by decide +kernel
theorem dX8_told_54 : decode cX8_told 54 = .ok (.iconst 1, 1) := by decide +kernel
theorem dX8_told_55 : decode cX8_told 55 = .ok (.isub, 1) := by decide +kernel
theorem dX8_told_56 : decode cX8_told 56 = .ok (.laload, 1) := by decide +kernel
theorem dX8_told_57 : decode cX8_told 57 = .ok (.lreturn, 1) := by decide +kernel
theorem dX8_told_58 : decode cX8_told 58 = .ok (.iload_n 2, 1) := by decide +kernel
theorem dX8_told_59 : decode cX8_told 59 = .ok (.bipush 9, 2) := by decide +kernel
theorem dX8_told_61 : decode cX8_told 61 = .ok (.if_icmp .ne 12, 3) := by decide +kernel
theorem dX8_told_64 : decode cX8_told 64 = .ok (.aload_n 0, 1) := by decide +kernel
theorem dX8_told_65 : decode cX8_told 65 = .ok (.getfield 82, 3) := by decide +kernel
theorem dX8_told_68 : decode cX8_told 68 = .ok (.iload_n 1, 1) := by decide +kernel
theorem dX8_told_69 : decode cX8_told 69 = .ok (.laload, 1) := by decide +kernel
theorem dX8_told_70 : decode cX8_told 70 = .ok (.goto 32, 3) := by decide +kernel
theorem dX8_told_73 : decode cX8_told 73 = .ok (.iload_n 2, 1) := by decide +kernel
theorem dX8_told_74 : decode cX8_told 74 = .ok (.bipush 10, 2) := by decide +kernel
theorem dX8_told_76 : decode cX8_told 76 = .ok (.if_icmp .ne 13, 3) := by decide +kernel
theorem dX8_told_79 : decode cX8_told 79 = .ok (.aload_n 0, 1) := by decide +kernel
theorem dX8_told_80 : decode cX8_told 80 = .ok (.getfield 85, 3) := by decide +kernel
theorem dX8_told_83 : decode cX8_told 83 = .ok (.iload_n 1, 1) := by decide +kernel
theorem dX8_told_84 : decode cX8_told 84 = .ok (.iaload, 1) := by decide +kernel
theorem dX8_told_85 : decode cX8_told 85 = .ok (.i2l, 1) := by decide +kernel
theorem dX8_told_86 : decode cX8_told 86 = .ok (.goto 16, 3) := by decide +kernel
theorem dX8_told_89 : decode cX8_told 89 = .ok (.aload_n 0, 1) := by decide +kernel
theorem dX8_told_90 : decode cX8_told 90 = .ok (.getfield 79, 3) := by decide +kernel
theorem dX8_told_93 : decode cX8_told 93 = .ok (.bipush 12, 2) := by decide +kernel
theorem dX8_told_95 : decode cX8_told 95 = .ok (.iload_n 1, 1) := by decide +kernel
theorem dX8_told_96 : decode cX8_told 96 = .ok (.imul, 1) := by decide +kernel
theorem dX8_told_97 : decode cX8_told 97 = .ok (.iload_n 2, 1) := by decide +kernel
theorem dX8_told_98 : decode cX8_told 98 = .ok (.iadd, 1) := by decide +kernel
theorem dX8_told_99 : decode cX8_told 99 = .ok (.iconst 3, 1) := by decide +kernel
theorem dX8_told_100 : decode cX8_told 100 = .ok (.isub, 1) := by decide +kernel
theorem dX8_told_101 : decode cX8_told 101 = .ok (.laload, 1) := by decide +kernel
theorem dX8_told_102 : decode cX8_told 102 = .ok (.lreturn, 1) := by decide +kernel
theorem dX8_marked_0 : decode cX8_marked 0 = .ok (.aload_n 0, 1) := by decide +kernel
theorem dX8_marked_1 : decode cX8_marked 1 = .ok (.aload_n 0, 1) := by decide +kernel
theorem dX8_marked_2 : decode cX8_marked 2 = .ok (.iload_n 1, 1) := by decide +kernel
theorem dX8_marked_3 : decode cX8_marked 3 = .ok (.invokevirtual 224, 3) := by decide +kernel
theorem dX8_marked_6 : decode cX8_marked 6 = .ok (.ifCond .eq 16, 3) := by decide +kernel
theorem dX8_marked_9 : decode cX8_marked 9 = .ok (.iload_n 2, 1) := by decide +kernel
theorem dX8_marked_10 : decode cX8_marked 10 = .ok (.ifCond .lt 12, 3) := by decide +kernel
theorem dX8_marked_13 : decode cX8_marked 13 = .ok (.iload_n 2, 1) := by decide +kernel
theorem dX8_marked_14 : decode cX8_marked 14 = .ok (.iconst 2, 1) := by decide +kernel
theorem dX8_marked_15 : decode cX8_marked 15 = .ok (.if_icmp .gt 7, 3) := by decide +kernel
theorem dX8_marked_18 : decode cX8_marked 18 = .ok (.iconst 0, 1) := by decide +kernel
theorem dX8_marked_19 : decode cX8_marked 19 = .ok (.goto 4, 3) := by decide +kernel
theorem dX8_marked_22 : decode cX8_marked 22 = .ok (.iconst 1, 1) := by decide +kernel
theorem dX8_marked_23 : decode cX8_marked 23 = .ok (.putfield 100, 3) := by decide +kernel
theorem dX8_marked_26 : decode cX8_marked 26 = .ok (.aload_n 0, 1) := by decide +kernel
theorem dX8_marked_27 : decode cX8_marked 27 = .ok (.getfield 100, 3) := by decide +kernel
theorem dX8_marked_30 : decode cX8_marked 30 = .ok (.ifCond .le 7, 3) := by decide +kernel
theorem dX8_marked_33 : decode cX8_marked 33 = .ok (.iconst 0, 1) := by decide +kernel
theorem dX8_marked_34 : decode cX8_marked 34 = .ok (.goto 13, 3) := by decide +kernel
theorem dX8_marked_37 : decode cX8_marked 37 = .ok (.aload_n 0, 1) := by decide +kernel
theorem dX8_marked_38 : decode cX8_marked 38 = .ok (.getfield 88, 3) := by decide +kernel
theorem dX8_marked_41 : decode cX8_marked 41 = .ok (.iconst 3, 1) := by decide +kernel
theorem dX8_marked_42 : decode cX8_marked 42 = .ok (.iload_n 1, 1) := by decide +kernel
theorem dX8_marked_43 : decode cX8_marked 43 = .ok (.imul, 1) := by decide +kernel
theorem dX8_marked_44 : decode cX8_marked 44 = .ok (.iload_n 2, 1) := by decide +kernel
theorem dX8_marked_45 : decode cX8_marked 45 = .ok (.iadd, 1) := by decide +kernel
theorem dX8_marked_46 : decode cX8_marked 46 = .ok (.iaload, 1) := by decide +kernel
theorem dX8_marked_47 : decode cX8_marked 47 = .ok (.ireturn, 1) := by decide +kernel
theorem dX8_now_0 : decode cX8_now 0 = .ok (.aload_n 0, 1) := by decide +kernel
theorem dX8_now_1 : decode cX8_now 1 = .ok (.iconst 0, 1) := by decide +kernel
theorem dX8_now_2 : decode cX8_now 2 = .ok (.putfield 100, 3) := by decide +kernel
theorem dX8_now_5 : decode cX8_now 5 = .ok (.iload_n 1, 1) := by decide +kernel
theorem dX8_now_6 : decode cX8_now 6 = .ok (.ifCond .ne 9, 3) := by decide +kernel
theorem dX8_now_9 : decode cX8_now 9 = .ok (.aload_n 0, 1) := by decide +kernel
theorem dX8_now_10 : decode cX8_now 10 = .ok (.getfield 115, 3) := by decide +kernel
theorem dX8_now_13 : decode cX8_now 13 = .ok (.i2l, 1) := by decide +kernel
theorem dX8_now_14 : decode cX8_now 14 = .ok (.lreturn, 1) := by decide +kernel
theorem dX8_now_15 : decode cX8_now 15 = .ok (.iload_n 1, 1) := by decide +kernel
theorem dX8_now_16 : decode cX8_now 16 = .ok (.iconst 1, 1) := by decide +kernel
theorem dX8_now_17 : decode cX8_now 17 = .ok (.if_icmp .lt 18, 3) := by decide +kernel
theorem dX8_now_20 : decode cX8_now 20 = .ok (.iload_n 1, 1) := by decide +kernel
theorem dX8_now_21 : decode cX8_now 21 = .ok (.bipush 8, 2) := by decide +kernel
