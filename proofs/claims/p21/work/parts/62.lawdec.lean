theorem dL_others_272 : decode cL_others 272 = .ok (.ireturn, 1) := by decide +kernel
theorem dL_others_273 : decode cL_others 273 = .ok (.bipush 10, 2) := by decide +kernel
theorem dL_others_275 : decode cL_others 275 = .ok (.iload_n 2, 1) := by decide +kernel
theorem dL_others_276 : decode cL_others 276 = .ok (.aload_n 3, 1) := by decide +kernel
theorem dL_others_277 : decode cL_others 277 = .ok (.iconst 1, 1) := by decide +kernel
theorem dL_others_278 : decode cL_others 278 = .ok (.iaload, 1) := by decide +kernel
theorem dL_others_279 : decode cL_others 279 = .ok (.irem, 1) := by decide +kernel
theorem dL_others_280 : decode cL_others 280 = .ok (.imul, 1) := by decide +kernel
theorem dL_others_281 : decode cL_others 281 = .ok (.iload_n 2, 1) := by decide +kernel
theorem dL_others_282 : decode cL_others 282 = .ok (.bipush 6, 2) := by decide +kernel
theorem dL_others_284 : decode cL_others 284 = .ok (.idiv, 1) := by decide +kernel
theorem dL_others_285 : decode cL_others 285 = .ok (.aload_n 3, 1) := by decide +kernel
theorem dL_others_286 : decode cL_others 286 = .ok (.iconst 0, 1) := by decide +kernel
theorem dL_others_287 : decode cL_others 287 = .ok (.iaload, 1) := by decide +kernel
theorem dL_others_288 : decode cL_others 288 = .ok (.irem, 1) := by decide +kernel
theorem dL_others_289 : decode cL_others 289 = .ok (.iadd, 1) := by decide +kernel
theorem dL_others_290 : decode cL_others 290 = .ok (.istore 9, 2) := by decide +kernel
theorem dL_others_292 : decode cL_others 292 = .ok (.aload 5, 2) := by decide +kernel
theorem dL_others_294 : decode cL_others 294 = .ok (.iload 9, 2) := by decide +kernel
theorem dL_others_296 : decode cL_others 296 = .ok (.iaload, 1) := by decide +kernel
theorem dL_others_297 : decode cL_others 297 = .ok (.istore 10, 2) := by decide +kernel
theorem dL_others_299 : decode cL_others 299 = .ok (.aload 5, 2) := by decide +kernel
theorem dL_others_301 : decode cL_others 301 = .ok (.iload 9, 2) := by decide +kernel
theorem dL_others_303 : decode cL_others 303 = .ok (.iload_n 2, 1) := by decide +kernel
theorem dL_others_304 : decode cL_others 304 = .ok (.bipush 60, 2) := by decide +kernel
theorem dL_others_306 : decode cL_others 306 = .ok (.idiv, 1) := by decide +kernel
theorem dL_others_307 : decode cL_others 307 = .ok (.iconst 3, 1) := by decide +kernel
theorem dL_others_308 : decode cL_others 308 = .ok (.irem, 1) := by decide +kernel
theorem dL_others_309 : decode cL_others 309 = .ok (.ifCond .ne 7, 3) := by decide +kernel
theorem dL_others_312 : decode cL_others 312 = .ok (.iconst 0, 1) := by decide +kernel
theorem dL_others_313 : decode cL_others 313 = .ok (.goto 13, 3) := by decide +kernel
theorem dL_others_316 : decode cL_others 316 = .ok (.iconst 1, 1) := by decide +kernel
theorem dL_others_317 : decode cL_others 317 = .ok (.iload_n 2, 1) := by decide +kernel
theorem dL_others_318 : decode cL_others 318 = .ok (.sipush 180, 3) := by decide +kernel
theorem dL_others_321 : decode cL_others 321 = .ok (.idiv, 1) := by decide +kernel
theorem dL_others_322 : decode cL_others 322 = .ok (.bipush 100, 2) := by decide +kernel
theorem dL_others_324 : decode cL_others 324 = .ok (.irem, 1) := by decide +kernel
theorem dL_others_325 : decode cL_others 325 = .ok (.iadd, 1) := by decide +kernel
theorem dL_others_326 : decode cL_others 326 = .ok (.iastore, 1) := by decide +kernel
theorem dL_others_327 : decode cL_others 327 = .ok (.aload_n 0, 1) := by decide +kernel
theorem dL_others_328 : decode cL_others 328 = .ok (.iload_n 2, 1) := by decide +kernel
theorem dL_others_329 : decode cL_others 329 = .ok (.aload_n 3, 1) := by decide +kernel
theorem dL_others_330 : decode cL_others 330 = .ok (.iconst 1, 1) := by decide +kernel
theorem dL_others_331 : decode cL_others 331 = .ok (.iaload, 1) := by decide +kernel
theorem dL_others_332 : decode cL_others 332 = .ok (.irem, 1) := by decide +kernel
theorem dL_others_333 : decode cL_others 333 = .ok (.iload_n 2, 1) := by decide +kernel
theorem dL_others_334 : decode cL_others 334 = .ok (.bipush 6, 2) := by decide +kernel
theorem dL_others_336 : decode cL_others 336 = .ok (.idiv, 1) := by decide +kernel
theorem dL_others_337 : decode cL_others 337 = .ok (.aload_n 3, 1) := by decide +kernel
theorem dL_others_338 : decode cL_others 338 = .ok (.iconst 0, 1) := by decide +kernel
theorem dL_others_339 : decode cL_others 339 = .ok (.iaload, 1) := by decide +kernel
theorem dL_others_340 : decode cL_others 340 = .ok (.irem, 1) := by decide +kernel
theorem dL_others_341 : decode cL_others 341 = .ok (.aload 5, 2) := by decide +kernel
theorem dL_others_343 : decode cL_others 343 = .ok (.iload 9, 2) := by decide +kernel
theorem dL_others_345 : decode cL_others 345 = .ok (.iaload, 1) := by decide +kernel
theorem dL_others_346 : decode cL_others 346 = .ok (.invokevirtual 27, 3) := by decide +kernel
theorem dL_others_349 : decode cL_others 349 = .ok (.iload 10, 2) := by decide +kernel
theorem dL_others_351 : decode cL_others 351 = .ok (.if_icmp .ne 7, 3) := by decide +kernel
theorem dL_others_354 : decode cL_others 354 = .ok (.iconst 1, 1) := by decide +kernel
theorem dL_others_355 : decode cL_others 355 = .ok (.goto 4, 3) := by decide +kernel
theorem dL_others_358 : decode cL_others 358 = .ok (.iconst 0, 1) := by decide +kernel
theorem dL_others_359 : decode cL_others 359 = .ok (.ireturn, 1) := by decide +kernel
theorem dL_book_0 : decode cL_book 0 = .ok (.new 11, 3) := by decide +kernel
theorem dL_book_3 : decode cL_book 3 = .ok (.dup, 1) := by decide +kernel
theorem dL_book_4 : decode cL_book 4 = .ok (.invokespecial 142, 3) := by decide +kernel
theorem dL_book_7 : decode cL_book 7 = .ok (.astore_n 2, 1) := by decide +kernel
theorem dL_book_8 : decode cL_book 8 = .ok (.iconst 5, 1) := by decide +kernel
theorem dL_book_9 : decode cL_book 9 = .ok (.newarray .int, 2) := by decide +kernel
theorem dL_book_11 : decode cL_book 11 = .ok (.astore_n 3, 1) := by decide +kernel
theorem dL_book_12 : decode cL_book 12 = .ok (.bipush 60, 2) := by decide +kernel
theorem dL_book_14 : decode cL_book 14 = .ok (.newarray .int, 2) := by decide +kernel
theorem dL_book_16 : decode cL_book 16 = .ok (.astore 4, 2) := by decide +kernel
theorem dL_book_18 : decode cL_book 18 = .ok (.bipush 60, 2) := by decide +kernel
theorem dL_book_20 : decode cL_book 20 = .ok (.newarray .int, 2) := by decide +kernel
theorem dL_book_22 : decode cL_book 22 = .ok (.astore 5, 2) := by decide +kernel
theorem dL_book_24 : decode cL_book 24 = .ok (.iconst 3, 1) := by decide +kernel
theorem dL_book_25 : decode cL_book 25 = .ok (.newarray .int, 2) := by decide +kernel
theorem dL_book_27 : decode cL_book 27 = .ok (.astore 6, 2) := by decide +kernel
theorem dL_book_29 : decode cL_book 29 = .ok (.bipush 18, 2) := by decide +kernel
theorem dL_book_31 : decode cL_book 31 = .ok (.newarray .int, 2) := by decide +kernel
theorem dL_book_33 : decode cL_book 33 = .ok (.astore 7, 2) := by decide +kernel
theorem dL_book_35 : decode cL_book 35 = .ok (.iconst 1, 1) := by decide +kernel
theorem dL_book_36 : decode cL_book 36 = .ok (.istore 8, 2) := by decide +kernel
theorem dL_book_38 : decode cL_book 38 = .ok (.aload_n 3, 1) := by decide +kernel
theorem dL_book_39 : decode cL_book 39 = .ok (.iconst 2, 1) := by decide +kernel
theorem dL_book_40 : decode cL_book 40 = .ok (.bipush 15, 2) := by decide +kernel
theorem dL_book_42 : decode cL_book 42 = .ok (.iastore, 1) := by decide +kernel
theorem dL_book_43 : decode cL_book 43 = .ok (.iconst 0, 1) := by decide +kernel
theorem dL_book_44 : decode cL_book 44 = .ok (.istore 9, 2) := by decide +kernel
theorem dL_book_46 : decode cL_book 46 = .ok (.iload 9, 2) := by decide +kernel
theorem dL_book_48 : decode cL_book 48 = .ok (.bipush 10, 2) := by decide +kernel
theorem dL_book_50 : decode cL_book 50 = .ok (.if_icmp .ge 194, 3) := by decide +kernel
theorem dL_book_53 : decode cL_book 53 = .ok (.iload 8, 2) := by decide +kernel
theorem dL_book_55 : decode cL_book 55 = .ok (.ifCond .eq 189, 3) := by decide +kernel
theorem dL_book_58 : decode cL_book 58 = .ok (.aload_n 0, 1) := by decide +kernel
theorem dL_book_59 : decode cL_book 59 = .ok (.iload_n 1, 1) := by decide +kernel
theorem dL_book_60 : decode cL_book 60 = .ok (.iload 9, 2) := by decide +kernel
theorem dL_book_62 : decode cL_book 62 = .ok (.iadd, 1) := by decide +kernel
theorem dL_book_63 : decode cL_book 63 = .ok (.ldc 143, 2) := by decide +kernel
theorem dL_book_65 : decode cL_book 65 = .ok (.invokestatic 144, 3) := by decide +kernel
theorem dL_book_68 : decode cL_book 68 = .ok (.istore 10, 2) := by decide +kernel
theorem dL_book_70 : decode cL_book 70 = .ok (.aload 4, 2) := by decide +kernel
theorem dL_book_72 : decode cL_book 72 = .ok (.bipush 6, 2) := by decide +kernel
theorem dL_book_74 : decode cL_book 74 = .ok (.iload 9, 2) := by decide +kernel
theorem dL_book_76 : decode cL_book 76 = .ok (.imul, 1) := by decide +kernel
theorem dL_book_77 : decode cL_book 77 = .ok (.iload 10, 2) := by decide +kernel
theorem dL_book_79 : decode cL_book 79 = .ok (.iconst 4, 1) := by decide +kernel
theorem dL_book_80 : decode cL_book 80 = .ok (.irem, 1) := by decide +kernel
theorem dL_book_81 : decode cL_book 81 = .ok (.iastore, 1) := by decide +kernel
theorem dL_book_82 : decode cL_book 82 = .ok (.aload 4, 2) := by decide +kernel
theorem dL_book_84 : decode cL_book 84 = .ok (.bipush 6, 2) := by decide +kernel
theorem dL_book_86 : decode cL_book 86 = .ok (.iload 9, 2) := by decide +kernel
theorem dL_book_88 : decode cL_book 88 = .ok (.imul, 1) := by decide +kernel
theorem dL_book_89 : decode cL_book 89 = .ok (.iconst 1, 1) := by decide +kernel
theorem dL_book_90 : decode cL_book 90 = .ok (.iadd, 1) := by decide +kernel
theorem dL_book_91 : decode cL_book 91 = .ok (.iload 10, 2) := by decide +kernel
theorem dL_book_93 : decode cL_book 93 = .ok (.iconst 4, 1) := by decide +kernel
theorem dL_book_94 : decode cL_book 94 = .ok (.idiv, 1) := by decide +kernel
theorem dL_book_95 : decode cL_book 95 = .ok (.bipush 10, 2) := by decide +kernel
theorem dL_book_97 : decode cL_book 97 = .ok (.irem, 1) := by decide +kernel
theorem dL_book_98 : decode cL_book 98 = .ok (.iastore, 1) := by decide +kernel
theorem dL_book_99 : decode cL_book 99 = .ok (.aload 4, 2) := by decide +kernel
theorem dL_book_101 : decode cL_book 101 = .ok (.bipush 6, 2) := by decide +kernel
theorem dL_book_103 : decode cL_book 103 = .ok (.iload 9, 2) := by decide +kernel
theorem dL_book_105 : decode cL_book 105 = .ok (.imul, 1) := by decide +kernel
theorem dL_book_106 : decode cL_book 106 = .ok (.iconst 2, 1) := by decide +kernel
theorem dL_book_107 : decode cL_book 107 = .ok (.iadd, 1) := by decide +kernel
theorem dL_book_108 : decode cL_book 108 = .ok (.iload 10, 2) := by decide +kernel
theorem dL_book_110 : decode cL_book 110 = .ok (.bipush 40, 2) := by decide +kernel
theorem dL_book_112 : decode cL_book 112 = .ok (.idiv, 1) := by decide +kernel
theorem dL_book_113 : decode cL_book 113 = .ok (.iconst 2, 1) := by decide +kernel
theorem dL_book_114 : decode cL_book 114 = .ok (.irem, 1) := by decide +kernel
theorem dL_book_115 : decode cL_book 115 = .ok (.bipush 10, 2) := by decide +kernel
theorem dL_book_117 : decode cL_book 117 = .ok (.imul, 1) := by decide +kernel
theorem dL_book_118 : decode cL_book 118 = .ok (.iload 10, 2) := by decide +kernel
theorem dL_book_120 : decode cL_book 120 = .ok (.bipush 80, 2) := by decide +kernel
theorem dL_book_122 : decode cL_book 122 = .ok (.idiv, 1) := by decide +kernel
theorem dL_book_123 : decode cL_book 123 = .ok (.iconst 2, 1) := by decide +kernel
theorem dL_book_124 : decode cL_book 124 = .ok (.irem, 1) := by decide +kernel
theorem dL_book_125 : decode cL_book 125 = .ok (.iadd, 1) := by decide +kernel
theorem dL_book_126 : decode cL_book 126 = .ok (.iastore, 1) := by decide +kernel
theorem dL_book_127 : decode cL_book 127 = .ok (.aload 4, 2) := by decide +kernel
theorem dL_book_129 : decode cL_book 129 = .ok (.bipush 6, 2) := by decide +kernel
theorem dL_book_131 : decode cL_book 131 = .ok (.iload 9, 2) := by decide +kernel
theorem dL_book_133 : decode cL_book 133 = .ok (.imul, 1) := by decide +kernel
theorem dL_book_134 : decode cL_book 134 = .ok (.iconst 3, 1) := by decide +kernel
theorem dL_book_135 : decode cL_book 135 = .ok (.iadd, 1) := by decide +kernel
theorem dL_book_136 : decode cL_book 136 = .ok (.bipush 100, 2) := by decide +kernel
theorem dL_book_138 : decode cL_book 138 = .ok (.iload 10, 2) := by decide +kernel
theorem dL_book_140 : decode cL_book 140 = .ok (.sipush 160, 3) := by decide +kernel
theorem dL_book_143 : decode cL_book 143 = .ok (.idiv, 1) := by decide +kernel
theorem dL_book_144 : decode cL_book 144 = .ok (.sipush 1901, 3) := by decide +kernel
theorem dL_book_147 : decode cL_book 147 = .ok (.irem, 1) := by decide +kernel
theorem dL_book_148 : decode cL_book 148 = .ok (.iadd, 1) := by decide +kernel
theorem dL_book_149 : decode cL_book 149 = .ok (.iastore, 1) := by decide +kernel
theorem dL_book_150 : decode cL_book 150 = .ok (.aload 4, 2) := by decide +kernel
theorem dL_book_152 : decode cL_book 152 = .ok (.bipush 6, 2) := by decide +kernel
theorem dL_book_154 : decode cL_book 154 = .ok (.iload 9, 2) := by decide +kernel
theorem dL_book_156 : decode cL_book 156 = .ok (.imul, 1) := by decide +kernel
theorem dL_book_157 : decode cL_book 157 = .ok (.iconst 4, 1) := by decide +kernel
theorem dL_book_158 : decode cL_book 158 = .ok (.iadd, 1) := by decide +kernel
theorem dL_book_159 : decode cL_book 159 = .ok (.iload 10, 2) := by decide +kernel
theorem dL_book_161 : decode cL_book 161 = .ok (.ldc 147, 2) := by decide +kernel
theorem dL_book_163 : decode cL_book 163 = .ok (.idiv, 1) := by decide +kernel
theorem dL_book_164 : decode cL_book 164 = .ok (.iconst 3, 1) := by decide +kernel
theorem dL_book_165 : decode cL_book 165 = .ok (.irem, 1) := by decide +kernel
theorem dL_book_166 : decode cL_book 166 = .ok (.iastore, 1) := by decide +kernel
theorem dL_book_167 : decode cL_book 167 = .ok (.aload_n 2, 1) := by decide +kernel
theorem dL_book_168 : decode cL_book 168 = .ok (.aload 4, 2) := by decide +kernel
theorem dL_book_170 : decode cL_book 170 = .ok (.bipush 6, 2) := by decide +kernel
theorem dL_book_172 : decode cL_book 172 = .ok (.iload 9, 2) := by decide +kernel
theorem dL_book_174 : decode cL_book 174 = .ok (.imul, 1) := by decide +kernel
theorem dL_book_175 : decode cL_book 175 = .ok (.iaload, 1) := by decide +kernel
theorem dL_book_176 : decode cL_book 176 = .ok (.aload 4, 2) := by decide +kernel
theorem dL_book_178 : decode cL_book 178 = .ok (.bipush 6, 2) := by decide +kernel
theorem dL_book_180 : decode cL_book 180 = .ok (.iload 9, 2) := by decide +kernel
theorem dL_book_182 : decode cL_book 182 = .ok (.imul, 1) := by decide +kernel
theorem dL_book_183 : decode cL_book 183 = .ok (.iconst 1, 1) := by decide +kernel
theorem dL_book_184 : decode cL_book 184 = .ok (.iadd, 1) := by decide +kernel
theorem dL_book_185 : decode cL_book 185 = .ok (.iaload, 1) := by decide +kernel
theorem dL_book_186 : decode cL_book 186 = .ok (.aload 4, 2) := by decide +kernel
theorem dL_book_188 : decode cL_book 188 = .ok (.bipush 6, 2) := by decide +kernel
theorem dL_book_190 : decode cL_book 190 = .ok (.iload 9, 2) := by decide +kernel
theorem dL_book_192 : decode cL_book 192 = .ok (.imul, 1) := by decide +kernel
theorem dL_book_193 : decode cL_book 193 = .ok (.iconst 2, 1) := by decide +kernel
theorem dL_book_194 : decode cL_book 194 = .ok (.iadd, 1) := by decide +kernel
theorem dL_book_195 : decode cL_book 195 = .ok (.iaload, 1) := by decide +kernel
theorem dL_book_196 : decode cL_book 196 = .ok (.aload 4, 2) := by decide +kernel
theorem dL_book_198 : decode cL_book 198 = .ok (.bipush 6, 2) := by decide +kernel
theorem dL_book_200 : decode cL_book 200 = .ok (.iload 9, 2) := by decide +kernel
theorem dL_book_202 : decode cL_book 202 = .ok (.imul, 1) := by decide +kernel
theorem dL_book_203 : decode cL_book 203 = .ok (.iconst 3, 1) := by decide +kernel
theorem dL_book_204 : decode cL_book 204 = .ok (.iadd, 1) := by decide +kernel
theorem dL_book_205 : decode cL_book 205 = .ok (.iaload, 1) := by decide +kernel
theorem dL_book_206 : decode cL_book 206 = .ok (.aload 4, 2) := by decide +kernel
theorem dL_book_208 : decode cL_book 208 = .ok (.bipush 6, 2) := by decide +kernel
theorem dL_book_210 : decode cL_book 210 = .ok (.iload 9, 2) := by decide +kernel
theorem dL_book_212 : decode cL_book 212 = .ok (.imul, 1) := by decide +kernel
theorem dL_book_213 : decode cL_book 213 = .ok (.iconst 4, 1) := by decide +kernel
theorem dL_book_214 : decode cL_book 214 = .ok (.iadd, 1) := by decide +kernel
theorem dL_book_215 : decode cL_book 215 = .ok (.iaload, 1) := by decide +kernel
theorem dL_book_216 : decode cL_book 216 = .ok (.invokevirtual 148, 3) := by decide +kernel
theorem dL_book_219 : decode cL_book 219 = .ok (.iload 9, 2) := by decide +kernel
theorem dL_book_221 : decode cL_book 221 = .ok (.if_icmp .ne 7, 3) := by decide +kernel
theorem dL_book_224 : decode cL_book 224 = .ok (.iconst 1, 1) := by decide +kernel
theorem dL_book_225 : decode cL_book 225 = .ok (.goto 4, 3) := by decide +kernel
theorem dL_book_228 : decode cL_book 228 = .ok (.iconst 0, 1) := by decide +kernel
theorem dL_book_229 : decode cL_book 229 = .ok (.istore 8, 2) := by decide +kernel
theorem dL_book_231 : decode cL_book 231 = .ok (.aload_n 3, 1) := by decide +kernel
theorem dL_book_232 : decode cL_book 232 = .ok (.iconst 0, 1) := by decide +kernel
theorem dL_book_233 : decode cL_book 233 = .ok (.dup2, 1) := by decide +kernel
theorem dL_book_234 : decode cL_book 234 = .ok (.iaload, 1) := by decide +kernel
theorem dL_book_235 : decode cL_book 235 = .ok (.iconst 1, 1) := by decide +kernel
theorem dL_book_236 : decode cL_book 236 = .ok (.iadd, 1) := by decide +kernel
theorem dL_book_237 : decode cL_book 237 = .ok (.iastore, 1) := by decide +kernel
theorem dL_book_238 : decode cL_book 238 = .ok (.iinc 9 1, 3) := by decide +kernel
theorem dL_book_241 : decode cL_book 241 = .ok (.goto (-195), 3) := by decide +kernel
theorem dL_book_244 : decode cL_book 244 = .ok (.iconst 0, 1) := by decide +kernel
theorem dL_book_245 : decode cL_book 245 = .ok (.istore 9, 2) := by decide +kernel
theorem dL_book_247 : decode cL_book 247 = .ok (.iload 9, 2) := by decide +kernel
theorem dL_book_249 : decode cL_book 249 = .ok (.bipush 6, 2) := by decide +kernel
theorem dL_book_251 : decode cL_book 251 = .ok (.if_icmp .ge 241, 3) := by decide +kernel
theorem dL_book_254 : decode cL_book 254 = .ok (.iload 8, 2) := by decide +kernel
theorem dL_book_256 : decode cL_book 256 = .ok (.ifCond .eq 236, 3) := by decide +kernel
theorem dL_book_259 : decode cL_book 259 = .ok (.aload_n 0, 1) := by decide +kernel
theorem dL_book_260 : decode cL_book 260 = .ok (.iload_n 1, 1) := by decide +kernel
theorem dL_book_261 : decode cL_book 261 = .ok (.bipush 10, 2) := by decide +kernel
theorem dL_book_263 : decode cL_book 263 = .ok (.iadd, 1) := by decide +kernel
theorem dL_book_264 : decode cL_book 264 = .ok (.iload 9, 2) := by decide +kernel
theorem dL_book_266 : decode cL_book 266 = .ok (.iadd, 1) := by decide +kernel
theorem dL_book_267 : decode cL_book 267 = .ok (.ldc 143, 2) := by decide +kernel
theorem dL_book_269 : decode cL_book 269 = .ok (.invokestatic 144, 3) := by decide +kernel
theorem dL_book_272 : decode cL_book 272 = .ok (.istore 10, 2) := by decide +kernel
theorem dL_book_274 : decode cL_book 274 = .ok (.aload 7, 2) := by decide +kernel
theorem dL_book_276 : decode cL_book 276 = .ok (.iconst 3, 1) := by decide +kernel
theorem dL_book_277 : decode cL_book 277 = .ok (.iload 9, 2) := by decide +kernel
theorem dL_book_279 : decode cL_book 279 = .ok (.imul, 1) := by decide +kernel
theorem dL_book_280 : decode cL_book 280 = .ok (.iload 10, 2) := by decide +kernel
theorem dL_book_282 : decode cL_book 282 = .ok (.iconst 2, 1) := by decide +kernel
theorem dL_book_283 : decode cL_book 283 = .ok (.irem, 1) := by decide +kernel
theorem dL_book_284 : decode cL_book 284 = .ok (.iastore, 1) := by decide +kernel
theorem dL_book_285 : decode cL_book 285 = .ok (.aload 7, 2) := by decide +kernel
theorem dL_book_287 : decode cL_book 287 = .ok (.iconst 3, 1) := by decide +kernel
theorem dL_book_288 : decode cL_book 288 = .ok (.iload 9, 2) := by decide +kernel
theorem dL_book_290 : decode cL_book 290 = .ok (.imul, 1) := by decide +kernel
theorem dL_book_291 : decode cL_book 291 = .ok (.iconst 1, 1) := by decide +kernel
theorem dL_book_292 : decode cL_book 292 = .ok (.iadd, 1) := by decide +kernel
theorem dL_book_293 : decode cL_book 293 = .ok (.iload 10, 2) := by decide +kernel
theorem dL_book_295 : decode cL_book 295 = .ok (.iconst 2, 1) := by decide +kernel
theorem dL_book_296 : decode cL_book 296 = .ok (.idiv, 1) := by decide +kernel
theorem dL_book_297 : decode cL_book 297 = .ok (.iconst 3, 1) := by decide +kernel
theorem dL_book_298 : decode cL_book 298 = .ok (.irem, 1) := by decide +kernel
theorem dL_book_299 : decode cL_book 299 = .ok (.ifCond .ne 7, 3) := by decide +kernel
theorem dL_book_302 : decode cL_book 302 = .ok (.iconst 0, 1) := by decide +kernel
theorem dL_book_303 : decode cL_book 303 = .ok (.goto 11, 3) := by decide +kernel
theorem dL_book_306 : decode cL_book 306 = .ok (.iload 10, 2) := by decide +kernel
theorem dL_book_308 : decode cL_book 308 = .ok (.bipush 6, 2) := by decide +kernel
theorem dL_book_310 : decode cL_book 310 = .ok (.idiv, 1) := by decide +kernel
theorem dL_book_311 : decode cL_book 311 = .ok (.bipush 30, 2) := by decide +kernel
theorem dL_book_313 : decode cL_book 313 = .ok (.irem, 1) := by decide +kernel
theorem dL_book_314 : decode cL_book 314 = .ok (.iastore, 1) := by decide +kernel
theorem dL_book_315 : decode cL_book 315 = .ok (.aload 7, 2) := by decide +kernel
theorem dL_book_317 : decode cL_book 317 = .ok (.iconst 3, 1) := by decide +kernel
theorem dL_book_318 : decode cL_book 318 = .ok (.iload 9, 2) := by decide +kernel
theorem dL_book_320 : decode cL_book 320 = .ok (.imul, 1) := by decide +kernel
theorem dL_book_321 : decode cL_book 321 = .ok (.iconst 2, 1) := by decide +kernel
theorem dL_book_322 : decode cL_book 322 = .ok (.iadd, 1) := by decide +kernel
theorem dL_book_323 : decode cL_book 323 = .ok (.iload 10, 2) := by decide +kernel
theorem dL_book_325 : decode cL_book 325 = .ok (.sipush 180, 3) := by decide +kernel
theorem dL_book_328 : decode cL_book 328 = .ok (.idiv, 1) := by decide +kernel
theorem dL_book_329 : decode cL_book 329 = .ok (.iconst 3, 1) := by decide +kernel
theorem dL_book_330 : decode cL_book 330 = .ok (.irem, 1) := by decide +kernel
theorem dL_book_331 : decode cL_book 331 = .ok (.ifCond .ne 7, 3) := by decide +kernel
theorem dL_book_334 : decode cL_book 334 = .ok (.iconst 0, 1) := by decide +kernel
theorem dL_book_335 : decode cL_book 335 = .ok (.goto 12, 3) := by decide +kernel
theorem dL_book_338 : decode cL_book 338 = .ok (.iload 10, 2) := by decide +kernel
theorem dL_book_340 : decode cL_book 340 = .ok (.sipush 540, 3) := by decide +kernel
theorem dL_book_343 : decode cL_book 343 = .ok (.idiv, 1) := by decide +kernel
theorem dL_book_344 : decode cL_book 344 = .ok (.bipush 30, 2) := by decide +kernel
theorem dL_book_346 : decode cL_book 346 = .ok (.irem, 1) := by decide +kernel
theorem dL_book_347 : decode cL_book 347 = .ok (.iastore, 1) := by decide +kernel
theorem dL_book_348 : decode cL_book 348 = .ok (.aload_n 2, 1) := by decide +kernel
theorem dL_book_349 : decode cL_book 349 = .ok (.aload 7, 2) := by decide +kernel
theorem dL_book_351 : decode cL_book 351 = .ok (.iconst 3, 1) := by decide +kernel
theorem dL_book_352 : decode cL_book 352 = .ok (.iload 9, 2) := by decide +kernel
theorem dL_book_354 : decode cL_book 354 = .ok (.imul, 1) := by decide +kernel
theorem dL_book_355 : decode cL_book 355 = .ok (.iaload, 1) := by decide +kernel
theorem dL_book_356 : decode cL_book 356 = .ok (.aload 7, 2) := by decide +kernel
theorem dL_book_358 : decode cL_book 358 = .ok (.iconst 3, 1) := by decide +kernel
theorem dL_book_359 : decode cL_book 359 = .ok (.iload 9, 2) := by decide +kernel
theorem dL_book_361 : decode cL_book 361 = .ok (.imul, 1) := by decide +kernel
theorem dL_book_362 : decode cL_book 362 = .ok (.iconst 1, 1) := by decide +kernel
theorem dL_book_363 : decode cL_book 363 = .ok (.iadd, 1) := by decide +kernel
theorem dL_book_364 : decode cL_book 364 = .ok (.iaload, 1) := by decide +kernel
theorem dL_book_365 : decode cL_book 365 = .ok (.aload 7, 2) := by decide +kernel
theorem dL_book_367 : decode cL_book 367 = .ok (.iconst 3, 1) := by decide +kernel
theorem dL_book_368 : decode cL_book 368 = .ok (.iload 9, 2) := by decide +kernel
theorem dL_book_370 : decode cL_book 370 = .ok (.imul, 1) := by decide +kernel
theorem dL_book_371 : decode cL_book 371 = .ok (.iconst 2, 1) := by decide +kernel
theorem dL_book_372 : decode cL_book 372 = .ok (.iadd, 1) := by decide +kernel
theorem dL_book_373 : decode cL_book 373 = .ok (.iaload, 1) := by decide +kernel
theorem dL_book_374 : decode cL_book 374 = .ok (.invokevirtual 152, 3) := by decide +kernel
theorem dL_book_377 : decode cL_book 377 = .ok (.iload 9, 2) := by decide +kernel
theorem dL_book_379 : decode cL_book 379 = .ok (.if_icmp .ne 7, 3) := by decide +kernel
theorem dL_book_382 : decode cL_book 382 = .ok (.iconst 1, 1) := by decide +kernel
theorem dL_book_383 : decode cL_book 383 = .ok (.goto 4, 3) := by decide +kernel
theorem dL_book_386 : decode cL_book 386 = .ok (.iconst 0, 1) := by decide +kernel
theorem dL_book_387 : decode cL_book 387 = .ok (.istore 8, 2) := by decide +kernel
theorem dL_book_389 : decode cL_book 389 = .ok (.aload_n 3, 1) := by decide +kernel
theorem dL_book_390 : decode cL_book 390 = .ok (.iconst 1, 1) := by decide +kernel
theorem dL_book_391 : decode cL_book 391 = .ok (.dup2, 1) := by decide +kernel
theorem dL_book_392 : decode cL_book 392 = .ok (.iaload, 1) := by decide +kernel
theorem dL_book_393 : decode cL_book 393 = .ok (.iconst 1, 1) := by decide +kernel
theorem dL_book_394 : decode cL_book 394 = .ok (.iadd, 1) := by decide +kernel
theorem dL_book_395 : decode cL_book 395 = .ok (.iastore, 1) := by decide +kernel
theorem dL_book_396 : decode cL_book 396 = .ok (.iconst 0, 1) := by decide +kernel
theorem dL_book_397 : decode cL_book 397 = .ok (.istore 11, 2) := by decide +kernel
theorem dL_book_399 : decode cL_book 399 = .ok (.iload 11, 2) := by decide +kernel
theorem dL_book_401 : decode cL_book 401 = .ok (.iconst 3, 1) := by decide +kernel
theorem dL_book_402 : decode cL_book 402 = .ok (.if_icmp .ge 84, 3) := by decide +kernel
theorem dL_book_405 : decode cL_book 405 = .ok (.iload 8, 2) := by decide +kernel
theorem dL_book_407 : decode cL_book 407 = .ok (.ifCond .eq 79, 3) := by decide +kernel
theorem dL_book_410 : decode cL_book 410 = .ok (.iload 10, 2) := by decide +kernel
theorem dL_book_412 : decode cL_book 412 = .ok (.iconst 5, 1) := by decide +kernel
theorem dL_book_413 : decode cL_book 413 = .ok (.iconst 4, 1) := by decide +kernel
theorem dL_book_414 : decode cL_book 414 = .ok (.iload 11, 2) := by decide +kernel
theorem dL_book_416 : decode cL_book 416 = .ok (.imul, 1) := by decide +kernel
theorem dL_book_417 : decode cL_book 417 = .ok (.iadd, 1) := by decide +kernel
theorem dL_book_418 : decode cL_book 418 = .ok (.ishr, 1) := by decide +kernel
theorem dL_book_419 : decode cL_book 419 = .ok (.bipush 10, 2) := by decide +kernel
theorem dL_book_421 : decode cL_book 421 = .ok (.irem, 1) := by decide +kernel
theorem dL_book_422 : decode cL_book 422 = .ok (.istore 12, 2) := by decide +kernel
theorem dL_book_424 : decode cL_book 424 = .ok (.aload_n 2, 1) := by decide +kernel
theorem dL_book_425 : decode cL_book 425 = .ok (.iload 9, 2) := by decide +kernel
theorem dL_book_427 : decode cL_book 427 = .ok (.iload 12, 2) := by decide +kernel
theorem dL_book_429 : decode cL_book 429 = .ok (.bipush 20, 2) := by decide +kernel
theorem dL_book_431 : decode cL_book 431 = .ok (.bipush 25, 2) := by decide +kernel
theorem dL_book_433 : decode cL_book 433 = .ok (.iload 11, 2) := by decide +kernel
theorem dL_book_435 : decode cL_book 435 = .ok (.imul, 1) := by decide +kernel
theorem dL_book_436 : decode cL_book 436 = .ok (.iadd, 1) := by decide +kernel
theorem dL_book_437 : decode cL_book 437 = .ok (.invokevirtual 27, 3) := by decide +kernel
theorem dL_book_440 : decode cL_book 440 = .ok (.aload 5, 2) := by decide +kernel
theorem dL_book_442 : decode cL_book 442 = .ok (.bipush 10, 2) := by decide +kernel
theorem dL_book_444 : decode cL_book 444 = .ok (.iload 9, 2) := by decide +kernel
theorem dL_book_446 : decode cL_book 446 = .ok (.imul, 1) := by decide +kernel
theorem dL_book_447 : decode cL_book 447 = .ok (.iload 12, 2) := by decide +kernel
theorem dL_book_449 : decode cL_book 449 = .ok (.iadd, 1) := by decide +kernel
theorem dL_book_450 : decode cL_book 450 = .ok (.iaload, 1) := by decide +kernel
theorem dL_book_451 : decode cL_book 451 = .ok (.if_icmp .ne 7, 3) := by decide +kernel
theorem dL_book_454 : decode cL_book 454 = .ok (.iconst 1, 1) := by decide +kernel
theorem dL_book_455 : decode cL_book 455 = .ok (.goto 4, 3) := by decide +kernel
theorem dL_book_458 : decode cL_book 458 = .ok (.iconst 0, 1) := by decide +kernel
theorem dL_book_459 : decode cL_book 459 = .ok (.istore 8, 2) := by decide +kernel
theorem dL_book_461 : decode cL_book 461 = .ok (.aload 5, 2) := by decide +kernel
theorem dL_book_463 : decode cL_book 463 = .ok (.bipush 10, 2) := by decide +kernel
theorem dL_book_465 : decode cL_book 465 = .ok (.iload 9, 2) := by decide +kernel
theorem dL_book_467 : decode cL_book 467 = .ok (.imul, 1) := by decide +kernel
theorem dL_book_468 : decode cL_book 468 = .ok (.iload 12, 2) := by decide +kernel
theorem dL_book_470 : decode cL_book 470 = .ok (.iadd, 1) := by decide +kernel
theorem dL_book_471 : decode cL_book 471 = .ok (.bipush 20, 2) := by decide +kernel
theorem dL_book_473 : decode cL_book 473 = .ok (.bipush 25, 2) := by decide +kernel
theorem dL_book_475 : decode cL_book 475 = .ok (.iload 11, 2) := by decide +kernel
theorem dL_book_477 : decode cL_book 477 = .ok (.imul, 1) := by decide +kernel
theorem dL_book_478 : decode cL_book 478 = .ok (.iadd, 1) := by decide +kernel
theorem dL_book_479 : decode cL_book 479 = .ok (.iastore, 1) := by decide +kernel
theorem dL_book_480 : decode cL_book 480 = .ok (.iinc 11 1, 3) := by decide +kernel
theorem dL_book_483 : decode cL_book 483 = .ok (.goto (-84), 3) := by decide +kernel
theorem dL_book_486 : decode cL_book 486 = .ok (.iinc 9 1, 3) := by decide +kernel
theorem dL_book_489 : decode cL_book 489 = .ok (.goto (-242), 3) := by decide +kernel
theorem dL_book_492 : decode cL_book 492 = .ok (.iconst 0, 1) := by decide +kernel
theorem dL_book_493 : decode cL_book 493 = .ok (.istore 9, 2) := by decide +kernel
theorem dL_book_495 : decode cL_book 495 = .ok (.iload 9, 2) := by decide +kernel
theorem dL_book_497 : decode cL_book 497 = .ok (.iconst 3, 1) := by decide +kernel
theorem dL_book_498 : decode cL_book 498 = .ok (.if_icmp .ge 17, 3) := by decide +kernel
theorem dL_book_501 : decode cL_book 501 = .ok (.aload 6, 2) := by decide +kernel
theorem dL_book_503 : decode cL_book 503 = .ok (.iload 9, 2) := by decide +kernel
theorem dL_book_505 : decode cL_book 505 = .ok (.sipush 5000, 3) := by decide +kernel
theorem dL_book_508 : decode cL_book 508 = .ok (.iastore, 1) := by decide +kernel
theorem dL_book_509 : decode cL_book 509 = .ok (.iinc 9 1, 3) := by decide +kernel
theorem dL_book_512 : decode cL_book 512 = .ok (.goto (-17), 3) := by decide +kernel
theorem dL_book_515 : decode cL_book 515 = .ok (.iconst 0, 1) := by decide +kernel
theorem dL_book_516 : decode cL_book 516 = .ok (.istore 9, 2) := by decide +kernel
theorem dL_book_518 : decode cL_book 518 = .ok (.iload 9, 2) := by decide +kernel
theorem dL_book_520 : decode cL_book 520 = .ok (.bipush 50, 2) := by decide +kernel
theorem dL_book_522 : decode cL_book 522 = .ok (.if_icmp .ge 180, 3) := by decide +kernel
theorem dL_book_525 : decode cL_book 525 = .ok (.iload 8, 2) := by decide +kernel
theorem dL_book_527 : decode cL_book 527 = .ok (.ifCond .eq 175, 3) := by decide +kernel
theorem dL_book_530 : decode cL_book 530 = .ok (.aload_n 0, 1) := by decide +kernel
theorem dL_book_531 : decode cL_book 531 = .ok (.iload_n 1, 1) := by decide +kernel
theorem dL_book_532 : decode cL_book 532 = .ok (.bipush 16, 2) := by decide +kernel
theorem dL_book_534 : decode cL_book 534 = .ok (.iadd, 1) := by decide +kernel
theorem dL_book_535 : decode cL_book 535 = .ok (.iconst 2, 1) := by decide +kernel
theorem dL_book_536 : decode cL_book 536 = .ok (.iload 9, 2) := by decide +kernel
theorem dL_book_538 : decode cL_book 538 = .ok (.imul, 1) := by decide +kernel
theorem dL_book_539 : decode cL_book 539 = .ok (.iadd, 1) := by decide +kernel
theorem dL_book_540 : decode cL_book 540 = .ok (.ldc 143, 2) := by decide +kernel
theorem dL_book_542 : decode cL_book 542 = .ok (.invokestatic 144, 3) := by decide +kernel
theorem dL_book_545 : decode cL_book 545 = .ok (.istore 10, 2) := by decide +kernel
theorem dL_book_547 : decode cL_book 547 = .ok (.aload_n 0, 1) := by decide +kernel
theorem dL_book_548 : decode cL_book 548 = .ok (.iload_n 1, 1) := by decide +kernel
theorem dL_book_549 : decode cL_book 549 = .ok (.bipush 17, 2) := by decide +kernel
theorem dL_book_551 : decode cL_book 551 = .ok (.iadd, 1) := by decide +kernel
theorem dL_book_552 : decode cL_book 552 = .ok (.iconst 2, 1) := by decide +kernel
theorem dL_book_553 : decode cL_book 553 = .ok (.iload 9, 2) := by decide +kernel
theorem dL_book_555 : decode cL_book 555 = .ok (.imul, 1) := by decide +kernel
theorem dL_book_556 : decode cL_book 556 = .ok (.iadd, 1) := by decide +kernel
theorem dL_book_557 : decode cL_book 557 = .ok (.ldc 143, 2) := by decide +kernel
theorem dL_book_559 : decode cL_book 559 = .ok (.invokestatic 144, 3) := by decide +kernel
theorem dL_book_562 : decode cL_book 562 = .ok (.istore 11, 2) := by decide +kernel
theorem dL_book_564 : decode cL_book 564 = .ok (.iload 10, 2) := by decide +kernel
theorem dL_book_566 : decode cL_book 566 = .ok (.bipush 8, 2) := by decide +kernel
theorem dL_book_568 : decode cL_book 568 = .ok (.irem, 1) := by decide +kernel
theorem dL_book_569 : decode cL_book 569 = .ok (.istore 12, 2) := by decide +kernel
theorem dL_book_571 : decode cL_book 571 = .ok (.iload 12, 2) := by decide +kernel
theorem dL_book_573 : decode cL_book 573 = .ok (.iconst 3, 1) := by decide +kernel
theorem dL_book_574 : decode cL_book 574 = .ok (.if_icmp .ge 26, 3) := by decide +kernel
theorem dL_book_577 : decode cL_book 577 = .ok (.aload_n 2, 1) := by decide +kernel
theorem dL_book_578 : decode cL_book 578 = .ok (.iload 10, 2) := by decide +kernel
theorem dL_book_580 : decode cL_book 580 = .ok (.bipush 8, 2) := by decide +kernel
theorem dL_book_582 : decode cL_book 582 = .ok (.idiv, 1) := by decide +kernel
theorem dL_book_583 : decode cL_book 583 = .ok (.iload 11, 2) := by decide +kernel
theorem dL_book_585 : decode cL_book 585 = .ok (.aload_n 3, 1) := by decide +kernel
theorem dL_book_586 : decode cL_book 586 = .ok (.aload 4, 2) := by decide +kernel
theorem dL_book_588 : decode cL_book 588 = .ok (.aload 5, 2) := by decide +kernel
theorem dL_book_590 : decode cL_book 590 = .ok (.aload 6, 2) := by decide +kernel
theorem dL_book_592 : decode cL_book 592 = .ok (.aload 7, 2) := by decide +kernel
theorem dL_book_594 : decode cL_book 594 = .ok (.invokestatic 155, 3) := by decide +kernel
theorem dL_book_597 : decode cL_book 597 = .ok (.goto 63, 3) := by decide +kernel
theorem dL_book_600 : decode cL_book 600 = .ok (.iload 12, 2) := by decide +kernel
theorem dL_book_602 : decode cL_book 602 = .ok (.iconst 3, 1) := by decide +kernel
theorem dL_book_603 : decode cL_book 603 = .ok (.if_icmp .ne 18, 3) := by decide +kernel
theorem dL_book_606 : decode cL_book 606 = .ok (.aload_n 2, 1) := by decide +kernel
theorem dL_book_607 : decode cL_book 607 = .ok (.iload 10, 2) := by decide +kernel
theorem dL_book_609 : decode cL_book 609 = .ok (.bipush 8, 2) := by decide +kernel
theorem dL_book_611 : decode cL_book 611 = .ok (.idiv, 1) := by decide +kernel
theorem dL_book_612 : decode cL_book 612 = .ok (.aload_n 3, 1) := by decide +kernel
theorem dL_book_613 : decode cL_book 613 = .ok (.aload 7, 2) := by decide +kernel
theorem dL_book_615 : decode cL_book 615 = .ok (.invokestatic 159, 3) := by decide +kernel
theorem dL_book_618 : decode cL_book 618 = .ok (.goto 42, 3) := by decide +kernel
theorem dL_book_621 : decode cL_book 621 = .ok (.iload 12, 2) := by decide +kernel
theorem dL_book_623 : decode cL_book 623 = .ok (.bipush 6, 2) := by decide +kernel
theorem dL_book_625 : decode cL_book 625 = .ok (.if_icmp .ge 15, 3) := by decide +kernel
theorem dL_book_628 : decode cL_book 628 = .ok (.aload_n 2, 1) := by decide +kernel
theorem dL_book_629 : decode cL_book 629 = .ok (.iload 11, 2) := by decide +kernel
theorem dL_book_631 : decode cL_book 631 = .ok (.aload_n 3, 1) := by decide +kernel
theorem dL_book_632 : decode cL_book 632 = .ok (.aload 7, 2) := by decide +kernel
theorem dL_book_634 : decode cL_book 634 = .ok (.invokestatic 163, 3) := by decide +kernel
theorem dL_book_637 : decode cL_book 637 = .ok (.goto 23, 3) := by decide +kernel
theorem dL_book_640 : decode cL_book 640 = .ok (.aload_n 2, 1) := by decide +kernel
theorem dL_book_641 : decode cL_book 641 = .ok (.iload 10, 2) := by decide +kernel
theorem dL_book_643 : decode cL_book 643 = .ok (.bipush 8, 2) := by decide +kernel
theorem dL_book_645 : decode cL_book 645 = .ok (.idiv, 1) := by decide +kernel
theorem dL_book_646 : decode cL_book 646 = .ok (.iload 11, 2) := by decide +kernel
theorem dL_book_648 : decode cL_book 648 = .ok (.aload_n 3, 1) := by decide +kernel
theorem dL_book_649 : decode cL_book 649 = .ok (.aload 4, 2) := by decide +kernel
theorem dL_book_651 : decode cL_book 651 = .ok (.aload 5, 2) := by decide +kernel
theorem dL_book_653 : decode cL_book 653 = .ok (.aload 6, 2) := by decide +kernel
theorem dL_book_655 : decode cL_book 655 = .ok (.aload 7, 2) := by decide +kernel
theorem dL_book_657 : decode cL_book 657 = .ok (.invokestatic 166, 3) := by decide +kernel
theorem dL_book_660 : decode cL_book 660 = .ok (.istore 8, 2) := by decide +kernel
theorem dL_book_662 : decode cL_book 662 = .ok (.iload 8, 2) := by decide +kernel
theorem dL_book_664 : decode cL_book 664 = .ok (.ifCond .eq 29, 3) := by decide +kernel
theorem dL_book_667 : decode cL_book 667 = .ok (.iload 9, 2) := by decide +kernel
theorem dL_book_669 : decode cL_book 669 = .ok (.iconst 5, 1) := by decide +kernel
theorem dL_book_670 : decode cL_book 670 = .ok (.irem, 1) := by decide +kernel
theorem dL_book_671 : decode cL_book 671 = .ok (.iconst 4, 1) := by decide +kernel
theorem dL_book_672 : decode cL_book 672 = .ok (.if_icmp .lt 17, 3) := by decide +kernel
theorem dL_book_675 : decode cL_book 675 = .ok (.aload_n 2, 1) := by decide +kernel
theorem dL_book_676 : decode cL_book 676 = .ok (.aload_n 3, 1) := by decide +kernel
theorem dL_book_677 : decode cL_book 677 = .ok (.aload 4, 2) := by decide +kernel
theorem dL_book_679 : decode cL_book 679 = .ok (.aload 5, 2) := by decide +kernel
theorem dL_book_681 : decode cL_book 681 = .ok (.aload 7, 2) := by decide +kernel
theorem dL_book_683 : decode cL_book 683 = .ok (.invokestatic 169, 3) := by decide +kernel
theorem dL_book_686 : decode cL_book 686 = .ok (.ifCond .eq 7, 3) := by decide +kernel
theorem dL_book_689 : decode cL_book 689 = .ok (.iconst 1, 1) := by decide +kernel
theorem dL_book_690 : decode cL_book 690 = .ok (.goto 4, 3) := by decide +kernel
theorem dL_book_693 : decode cL_book 693 = .ok (.iconst 0, 1) := by decide +kernel
theorem dL_book_694 : decode cL_book 694 = .ok (.istore 8, 2) := by decide +kernel
theorem dL_book_696 : decode cL_book 696 = .ok (.iinc 9 1, 3) := by decide +kernel
theorem dL_book_699 : decode cL_book 699 = .ok (.goto (-181), 3) := by decide +kernel
theorem dL_book_702 : decode cL_book 702 = .ok (.iload 8, 2) := by decide +kernel
theorem dL_book_704 : decode cL_book 704 = .ok (.ifCond .eq 21, 3) := by decide +kernel
theorem dL_book_707 : decode cL_book 707 = .ok (.aload_n 2, 1) := by decide +kernel
theorem dL_book_708 : decode cL_book 708 = .ok (.aload_n 3, 1) := by decide +kernel
theorem dL_book_709 : decode cL_book 709 = .ok (.aload 4, 2) := by decide +kernel
theorem dL_book_711 : decode cL_book 711 = .ok (.aload 5, 2) := by decide +kernel
theorem dL_book_713 : decode cL_book 713 = .ok (.aload 7, 2) := by decide +kernel
theorem dL_book_715 : decode cL_book 715 = .ok (.invokestatic 169, 3) := by decide +kernel
theorem dL_book_718 : decode cL_book 718 = .ok (.ifCond .eq 7, 3) := by decide +kernel
theorem dL_book_721 : decode cL_book 721 = .ok (.iconst 1, 1) := by decide +kernel
theorem dL_book_722 : decode cL_book 722 = .ok (.goto 4, 3) := by decide +kernel
theorem dL_book_725 : decode cL_book 725 = .ok (.iconst 0, 1) := by decide +kernel
theorem dL_book_726 : decode cL_book 726 = .ok (.ireturn, 1) := by decide +kernel
theorem dL_law_0 : decode cL_law 0 = .ok (.aload_n 0, 1) := by decide +kernel
theorem dL_law_1 : decode cL_law 1 = .ok (.iconst 0, 1) := by decide +kernel
theorem dL_law_2 : decode cL_law 2 = .ok (.invokestatic 173, 3) := by decide +kernel
theorem dL_law_5 : decode cL_law 5 = .ok (.ifCond .eq 26, 3) := by decide +kernel
theorem dL_law_8 : decode cL_law 8 = .ok (.aload_n 0, 1) := by decide +kernel
theorem dL_law_9 : decode cL_law 9 = .ok (.bipush 116, 2) := by decide +kernel
theorem dL_law_11 : decode cL_law 11 = .ok (.invokestatic 173, 3) := by decide +kernel
theorem dL_law_14 : decode cL_law 14 = .ok (.ifCond .eq 17, 3) := by decide +kernel
theorem dL_law_17 : decode cL_law 17 = .ok (.aload_n 0, 1) := by decide +kernel
theorem dL_law_18 : decode cL_law 18 = .ok (.sipush 232, 3) := by decide +kernel
theorem dL_law_21 : decode cL_law 21 = .ok (.invokestatic 173, 3) := by decide +kernel
theorem dL_law_24 : decode cL_law 24 = .ok (.ifCond .eq 7, 3) := by decide +kernel
theorem dL_law_27 : decode cL_law 27 = .ok (.iconst 1, 1) := by decide +kernel
theorem dL_law_28 : decode cL_law 28 = .ok (.goto 4, 3) := by decide +kernel
theorem dL_law_31 : decode cL_law 31 = .ok (.iconst 0, 1) := by decide +kernel
theorem dL_law_32 : decode cL_law 32 = .ok (.ireturn, 1) := by decide +kernel
