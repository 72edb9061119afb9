theorem dL_areShining_118 : decode cL_areShining 118 = .ok (.ifCond .ne 38, 3) := by decide +kernel
theorem dL_areShining_121 : decode cL_areShining 121 = .ok (.aload_n 3, 1) := by decide +kernel
theorem dL_areShining_122 : decode cL_areShining 122 = .ok (.bipush 6, 2) := by decide +kernel
theorem dL_areShining_124 : decode cL_areShining 124 = .ok (.iload 8, 2) := by decide +kernel
theorem dL_areShining_126 : decode cL_areShining 126 = .ok (.imul, 1) := by decide +kernel
theorem dL_areShining_127 : decode cL_areShining 127 = .ok (.iconst 2, 1) := by decide +kernel
theorem dL_areShining_128 : decode cL_areShining 128 = .ok (.iadd, 1) := by decide +kernel
theorem dL_areShining_129 : decode cL_areShining 129 = .ok (.iaload, 1) := by decide +kernel
theorem dL_areShining_130 : decode cL_areShining 130 = .ok (.aload_n 3, 1) := by decide +kernel
theorem dL_areShining_131 : decode cL_areShining 131 = .ok (.bipush 6, 2) := by decide +kernel
theorem dL_areShining_133 : decode cL_areShining 133 = .ok (.iload 7, 2) := by decide +kernel
theorem dL_areShining_135 : decode cL_areShining 135 = .ok (.imul, 1) := by decide +kernel
theorem dL_areShining_136 : decode cL_areShining 136 = .ok (.iconst 2, 1) := by decide +kernel
theorem dL_areShining_137 : decode cL_areShining 137 = .ok (.iadd, 1) := by decide +kernel
theorem dL_areShining_138 : decode cL_areShining 138 = .ok (.iaload, 1) := by decide +kernel
theorem dL_areShining_139 : decode cL_areShining 139 = .ok (.if_icmp .ne 17, 3) := by decide +kernel
theorem dL_areShining_142 : decode cL_areShining 142 = .ok (.iload 5, 2) := by decide +kernel
theorem dL_areShining_144 : decode cL_areShining 144 = .ok (.iload 8, 2) := by decide +kernel
theorem dL_areShining_146 : decode cL_areShining 146 = .ok (.ishr, 1) := by decide +kernel
theorem dL_areShining_147 : decode cL_areShining 147 = .ok (.iconst 1, 1) := by decide +kernel
theorem dL_areShining_148 : decode cL_areShining 148 = .ok (.iand, 1) := by decide +kernel
theorem dL_areShining_149 : decode cL_areShining 149 = .ok (.ifCond .ne 7, 3) := by decide +kernel
theorem dL_areShining_152 : decode cL_areShining 152 = .ok (.iconst 1, 1) := by decide +kernel
theorem dL_areShining_153 : decode cL_areShining 153 = .ok (.goto 4, 3) := by decide +kernel
theorem dL_areShining_156 : decode cL_areShining 156 = .ok (.iconst 0, 1) := by decide +kernel
theorem dL_areShining_157 : decode cL_areShining 157 = .ok (.istore 6, 2) := by decide +kernel
theorem dL_areShining_159 : decode cL_areShining 159 = .ok (.iconst 0, 1) := by decide +kernel
theorem dL_areShining_160 : decode cL_areShining 160 = .ok (.istore 10, 2) := by decide +kernel
theorem dL_areShining_162 : decode cL_areShining 162 = .ok (.iload 10, 2) := by decide +kernel
theorem dL_areShining_164 : decode cL_areShining 164 = .ok (.aload_n 2, 1) := by decide +kernel
theorem dL_areShining_165 : decode cL_areShining 165 = .ok (.iconst 0, 1) := by decide +kernel
theorem dL_areShining_166 : decode cL_areShining 166 = .ok (.iaload, 1) := by decide +kernel
theorem dL_areShining_167 : decode cL_areShining 167 = .ok (.if_icmp .ge 142, 3) := by decide +kernel
theorem dL_areShining_170 : decode cL_areShining 170 = .ok (.iload 6, 2) := by decide +kernel
theorem dL_areShining_172 : decode cL_areShining 172 = .ok (.ifCond .eq 137, 3) := by decide +kernel
theorem dL_areShining_175 : decode cL_areShining 175 = .ok (.aload_n 2, 1) := by decide +kernel
theorem dL_areShining_176 : decode cL_areShining 176 = .ok (.aload_n 3, 1) := by decide +kernel
theorem dL_areShining_177 : decode cL_areShining 177 = .ok (.iload 10, 2) := by decide +kernel
theorem dL_areShining_179 : decode cL_areShining 179 = .ok (.invokestatic 69, 3) := by decide +kernel
theorem dL_areShining_182 : decode cL_areShining 182 = .ok (.ifCond .eq 51, 3) := by decide +kernel
theorem dL_areShining_185 : decode cL_areShining 185 = .ok (.aload 4, 2) := by decide +kernel
theorem dL_areShining_187 : decode cL_areShining 187 = .ok (.bipush 10, 2) := by decide +kernel
theorem dL_areShining_189 : decode cL_areShining 189 = .ok (.iload_n 1, 1) := by decide +kernel
theorem dL_areShining_190 : decode cL_areShining 190 = .ok (.imul, 1) := by decide +kernel
theorem dL_areShining_191 : decode cL_areShining 191 = .ok (.iload 10, 2) := by decide +kernel
theorem dL_areShining_193 : decode cL_areShining 193 = .ok (.iadd, 1) := by decide +kernel
theorem dL_areShining_194 : decode cL_areShining 194 = .ok (.iaload, 1) := by decide +kernel
theorem dL_areShining_195 : decode cL_areShining 195 = .ok (.ifCond .ne 38, 3) := by decide +kernel
theorem dL_areShining_198 : decode cL_areShining 198 = .ok (.aload_n 3, 1) := by decide +kernel
theorem dL_areShining_199 : decode cL_areShining 199 = .ok (.bipush 6, 2) := by decide +kernel
theorem dL_areShining_201 : decode cL_areShining 201 = .ok (.iload 10, 2) := by decide +kernel
theorem dL_areShining_203 : decode cL_areShining 203 = .ok (.imul, 1) := by decide +kernel
theorem dL_areShining_204 : decode cL_areShining 204 = .ok (.iconst 2, 1) := by decide +kernel
theorem dL_areShining_205 : decode cL_areShining 205 = .ok (.iadd, 1) := by decide +kernel
theorem dL_areShining_206 : decode cL_areShining 206 = .ok (.iaload, 1) := by decide +kernel
theorem dL_areShining_207 : decode cL_areShining 207 = .ok (.aload_n 3, 1) := by decide +kernel
theorem dL_areShining_208 : decode cL_areShining 208 = .ok (.bipush 6, 2) := by decide +kernel
theorem dL_areShining_210 : decode cL_areShining 210 = .ok (.iload 7, 2) := by decide +kernel
theorem dL_areShining_212 : decode cL_areShining 212 = .ok (.imul, 1) := by decide +kernel
theorem dL_areShining_213 : decode cL_areShining 213 = .ok (.iconst 2, 1) := by decide +kernel
theorem dL_areShining_214 : decode cL_areShining 214 = .ok (.iadd, 1) := by decide +kernel
theorem dL_areShining_215 : decode cL_areShining 215 = .ok (.iaload, 1) := by decide +kernel
theorem dL_areShining_216 : decode cL_areShining 216 = .ok (.if_icmp .ne 17, 3) := by decide +kernel
theorem dL_areShining_219 : decode cL_areShining 219 = .ok (.iload 5, 2) := by decide +kernel
theorem dL_areShining_221 : decode cL_areShining 221 = .ok (.iload 10, 2) := by decide +kernel
theorem dL_areShining_223 : decode cL_areShining 223 = .ok (.ishr, 1) := by decide +kernel
theorem dL_areShining_224 : decode cL_areShining 224 = .ok (.iconst 1, 1) := by decide +kernel
theorem dL_areShining_225 : decode cL_areShining 225 = .ok (.iand, 1) := by decide +kernel
theorem dL_areShining_226 : decode cL_areShining 226 = .ok (.ifCond .ne 7, 3) := by decide +kernel
theorem dL_areShining_229 : decode cL_areShining 229 = .ok (.iconst 1, 1) := by decide +kernel
theorem dL_areShining_230 : decode cL_areShining 230 = .ok (.goto 4, 3) := by decide +kernel
theorem dL_areShining_233 : decode cL_areShining 233 = .ok (.iconst 0, 1) := by decide +kernel
theorem dL_areShining_234 : decode cL_areShining 234 = .ok (.istore 11, 2) := by decide +kernel
theorem dL_areShining_236 : decode cL_areShining 236 = .ok (.iload 11, 2) := by decide +kernel
theorem dL_areShining_238 : decode cL_areShining 238 = .ok (.ifCond .eq 28, 3) := by decide +kernel
theorem dL_areShining_241 : decode cL_areShining 241 = .ok (.iload 8, 2) := by decide +kernel
theorem dL_areShining_243 : decode cL_areShining 243 = .ok (.ifCond .lt 23, 3) := by decide +kernel
theorem dL_areShining_246 : decode cL_areShining 246 = .ok (.aload_n 3, 1) := by decide +kernel
theorem dL_areShining_247 : decode cL_areShining 247 = .ok (.iload 10, 2) := by decide +kernel
theorem dL_areShining_249 : decode cL_areShining 249 = .ok (.iload 7, 2) := by decide +kernel
theorem dL_areShining_251 : decode cL_areShining 251 = .ok (.invokestatic 73, 3) := by decide +kernel
theorem dL_areShining_254 : decode cL_areShining 254 = .ok (.aload_n 3, 1) := by decide +kernel
theorem dL_areShining_255 : decode cL_areShining 255 = .ok (.iload 8, 2) := by decide +kernel
theorem dL_areShining_257 : decode cL_areShining 257 = .ok (.iload 7, 2) := by decide +kernel
theorem dL_areShining_259 : decode cL_areShining 259 = .ok (.invokestatic 73, 3) := by decide +kernel
theorem dL_areShining_262 : decode cL_areShining 262 = .ok (.isub, 1) := by decide +kernel
theorem dL_areShining_263 : decode cL_areShining 263 = .ok (.goto 4, 3) := by decide +kernel
theorem dL_areShining_266 : decode cL_areShining 266 = .ok (.iconst 0, 1) := by decide +kernel
theorem dL_areShining_267 : decode cL_areShining 267 = .ok (.istore 12, 2) := by decide +kernel
theorem dL_areShining_269 : decode cL_areShining 269 = .ok (.iload 11, 2) := by decide +kernel
theorem dL_areShining_271 : decode cL_areShining 271 = .ok (.ifCond .eq 25, 3) := by decide +kernel
theorem dL_areShining_274 : decode cL_areShining 274 = .ok (.iload 8, 2) := by decide +kernel
theorem dL_areShining_276 : decode cL_areShining 276 = .ok (.ifCond .lt 24, 3) := by decide +kernel
theorem dL_areShining_279 : decode cL_areShining 279 = .ok (.iload 12, 2) := by decide +kernel
theorem dL_areShining_281 : decode cL_areShining 281 = .ok (.ifCond .gt 15, 3) := by decide +kernel
theorem dL_areShining_284 : decode cL_areShining 284 = .ok (.iload 12, 2) := by decide +kernel
theorem dL_areShining_286 : decode cL_areShining 286 = .ok (.ifCond .ne 14, 3) := by decide +kernel
theorem dL_areShining_289 : decode cL_areShining 289 = .ok (.iload 10, 2) := by decide +kernel
theorem dL_areShining_291 : decode cL_areShining 291 = .ok (.iload 8, 2) := by decide +kernel
theorem dL_areShining_293 : decode cL_areShining 293 = .ok (.if_icmp .lt 7, 3) := by decide +kernel
theorem dL_areShining_296 : decode cL_areShining 296 = .ok (.iconst 1, 1) := by decide +kernel
theorem dL_areShining_297 : decode cL_areShining 297 = .ok (.goto 4, 3) := by decide +kernel
theorem dL_areShining_300 : decode cL_areShining 300 = .ok (.iconst 0, 1) := by decide +kernel
theorem dL_areShining_301 : decode cL_areShining 301 = .ok (.istore 6, 2) := by decide +kernel
theorem dL_areShining_303 : decode cL_areShining 303 = .ok (.iinc 10 1, 3) := by decide +kernel
theorem dL_areShining_306 : decode cL_areShining 306 = .ok (.goto (-144), 3) := by decide +kernel
theorem dL_areShining_309 : decode cL_areShining 309 = .ok (.iload 5, 2) := by decide +kernel
theorem dL_areShining_311 : decode cL_areShining 311 = .ok (.iload 8, 2) := by decide +kernel
theorem dL_areShining_313 : decode cL_areShining 313 = .ok (.ifCond .ge 7, 3) := by decide +kernel
theorem dL_areShining_316 : decode cL_areShining 316 = .ok (.iconst 0, 1) := by decide +kernel
theorem dL_areShining_317 : decode cL_areShining 317 = .ok (.goto 7, 3) := by decide +kernel
theorem dL_areShining_320 : decode cL_areShining 320 = .ok (.iconst 1, 1) := by decide +kernel
theorem dL_areShining_321 : decode cL_areShining 321 = .ok (.iload 8, 2) := by decide +kernel
theorem dL_areShining_323 : decode cL_areShining 323 = .ok (.ishl, 1) := by decide +kernel
theorem dL_areShining_324 : decode cL_areShining 324 = .ok (.ior, 1) := by decide +kernel
theorem dL_areShining_325 : decode cL_areShining 325 = .ok (.istore 5, 2) := by decide +kernel
theorem dL_areShining_327 : decode cL_areShining 327 = .ok (.iinc 7 1, 3) := by decide +kernel
theorem dL_areShining_330 : decode cL_areShining 330 = .ok (.goto (-321), 3) := by decide +kernel
theorem dL_areShining_333 : decode cL_areShining 333 = .ok (.iload 6, 2) := by decide +kernel
theorem dL_areShining_335 : decode cL_areShining 335 = .ok (.ireturn, 1) := by decide +kernel
theorem dL_levelBy_0 : decode cL_levelBy 0 = .ok (.iconst 0, 1) := by decide +kernel
theorem dL_levelBy_1 : decode cL_levelBy 1 = .ok (.istore 5, 2) := by decide +kernel
theorem dL_levelBy_3 : decode cL_levelBy 3 = .ok (.iconst 0, 1) := by decide +kernel
theorem dL_levelBy_4 : decode cL_levelBy 4 = .ok (.istore 6, 2) := by decide +kernel
theorem dL_levelBy_6 : decode cL_levelBy 6 = .ok (.iload 6, 2) := by decide +kernel
theorem dL_levelBy_8 : decode cL_levelBy 8 = .ok (.aload_n 3, 1) := by decide +kernel
theorem dL_levelBy_9 : decode cL_levelBy 9 = .ok (.iconst 0, 1) := by decide +kernel
theorem dL_levelBy_10 : decode cL_levelBy 10 = .ok (.iaload, 1) := by decide +kernel
theorem dL_levelBy_11 : decode cL_levelBy 11 = .ok (.if_icmp .ge 39, 3) := by decide +kernel
theorem dL_levelBy_14 : decode cL_levelBy 14 = .ok (.iload 5, 2) := by decide +kernel
theorem dL_levelBy_16 : decode cL_levelBy 16 = .ok (.aload_n 0, 1) := by decide +kernel
theorem dL_levelBy_17 : decode cL_levelBy 17 = .ok (.iload_n 1, 1) := by decide +kernel
theorem dL_levelBy_18 : decode cL_levelBy 18 = .ok (.iload 6, 2) := by decide +kernel
theorem dL_levelBy_20 : decode cL_levelBy 20 = .ok (.invokevirtual 66, 3) := by decide +kernel
theorem dL_levelBy_23 : decode cL_levelBy 23 = .ok (.iload_n 2, 1) := by decide +kernel
theorem dL_levelBy_24 : decode cL_levelBy 24 = .ok (.if_icmp .ne 16, 3) := by decide +kernel
theorem dL_levelBy_27 : decode cL_levelBy 27 = .ok (.aload 4, 2) := by decide +kernel
theorem dL_levelBy_29 : decode cL_levelBy 29 = .ok (.bipush 10, 2) := by decide +kernel
theorem dL_levelBy_31 : decode cL_levelBy 31 = .ok (.iload_n 1, 1) := by decide +kernel
theorem dL_levelBy_32 : decode cL_levelBy 32 = .ok (.imul, 1) := by decide +kernel
theorem dL_levelBy_33 : decode cL_levelBy 33 = .ok (.iload 6, 2) := by decide +kernel
theorem dL_levelBy_35 : decode cL_levelBy 35 = .ok (.iadd, 1) := by decide +kernel
theorem dL_levelBy_36 : decode cL_levelBy 36 = .ok (.iaload, 1) := by decide +kernel
theorem dL_levelBy_37 : decode cL_levelBy 37 = .ok (.goto 4, 3) := by decide +kernel
theorem dL_levelBy_40 : decode cL_levelBy 40 = .ok (.iconst 0, 1) := by decide +kernel
theorem dL_levelBy_41 : decode cL_levelBy 41 = .ok (.iadd, 1) := by decide +kernel
theorem dL_levelBy_42 : decode cL_levelBy 42 = .ok (.istore 5, 2) := by decide +kernel
theorem dL_levelBy_44 : decode cL_levelBy 44 = .ok (.iinc 6 1, 3) := by decide +kernel
theorem dL_levelBy_47 : decode cL_levelBy 47 = .ok (.goto (-41), 3) := by decide +kernel
theorem dL_levelBy_50 : decode cL_levelBy 50 = .ok (.iload 5, 2) := by decide +kernel
theorem dL_levelBy_52 : decode cL_levelBy 52 = .ok (.ireturn, 1) := by decide +kernel
theorem dL_due_0 : decode cL_due 0 = .ok (.iconst 0, 1) := by decide +kernel
theorem dL_due_1 : decode cL_due 1 = .ok (.istore 6, 2) := by decide +kernel
theorem dL_due_3 : decode cL_due 3 = .ok (.iconst 0, 1) := by decide +kernel
theorem dL_due_4 : decode cL_due 4 = .ok (.istore 7, 2) := by decide +kernel
theorem dL_due_6 : decode cL_due 6 = .ok (.iload 7, 2) := by decide +kernel
theorem dL_due_8 : decode cL_due 8 = .ok (.aload_n 3, 1) := by decide +kernel
theorem dL_due_9 : decode cL_due 9 = .ok (.iconst 0, 1) := by decide +kernel
theorem dL_due_10 : decode cL_due 10 = .ok (.iaload, 1) := by decide +kernel
theorem dL_due_11 : decode cL_due 11 = .ok (.if_icmp .ge 124, 3) := by decide +kernel
theorem dL_due_14 : decode cL_due 14 = .ok (.aload 4, 2) := by decide +kernel
theorem dL_due_16 : decode cL_due 16 = .ok (.bipush 6, 2) := by decide +kernel
theorem dL_due_18 : decode cL_due 18 = .ok (.iload 7, 2) := by decide +kernel
theorem dL_due_20 : decode cL_due 20 = .ok (.imul, 1) := by decide +kernel
theorem dL_due_21 : decode cL_due 21 = .ok (.iconst 4, 1) := by decide +kernel
theorem dL_due_22 : decode cL_due 22 = .ok (.iadd, 1) := by decide +kernel
theorem dL_due_23 : decode cL_due 23 = .ok (.iaload, 1) := by decide +kernel
theorem dL_due_24 : decode cL_due 24 = .ok (.iload_n 2, 1) := by decide +kernel
theorem dL_due_25 : decode cL_due 25 = .ok (.if_icmp .ne 104, 3) := by decide +kernel
theorem dL_due_28 : decode cL_due 28 = .ok (.aload_n 0, 1) := by decide +kernel
theorem dL_due_29 : decode cL_due 29 = .ok (.iload_n 1, 1) := by decide +kernel
theorem dL_due_30 : decode cL_due 30 = .ok (.iload 7, 2) := by decide +kernel
theorem dL_due_32 : decode cL_due 32 = .ok (.aload_n 3, 1) := by decide +kernel
theorem dL_due_33 : decode cL_due 33 = .ok (.aload 5, 2) := by decide +kernel
theorem dL_due_35 : decode cL_due 35 = .ok (.invokestatic 77, 3) := by decide +kernel
theorem dL_due_38 : decode cL_due 38 = .ok (.istore 8, 2) := by decide +kernel
theorem dL_due_40 : decode cL_due 40 = .ok (.iconst 0, 1) := by decide +kernel
theorem dL_due_41 : decode cL_due 41 = .ok (.istore 9, 2) := by decide +kernel
theorem dL_due_43 : decode cL_due 43 = .ok (.iload 9, 2) := by decide +kernel
theorem dL_due_45 : decode cL_due 45 = .ok (.aload_n 3, 1) := by decide +kernel
theorem dL_due_46 : decode cL_due 46 = .ok (.iconst 1, 1) := by decide +kernel
theorem dL_due_47 : decode cL_due 47 = .ok (.iaload, 1) := by decide +kernel
theorem dL_due_48 : decode cL_due 48 = .ok (.if_icmp .ge 63, 3) := by decide +kernel
theorem dL_due_51 : decode cL_due 51 = .ok (.aload_n 0, 1) := by decide +kernel
theorem dL_due_52 : decode cL_due 52 = .ok (.iload 9, 2) := by decide +kernel
theorem dL_due_54 : decode cL_due 54 = .ok (.iconst 0, 1) := by decide +kernel
theorem dL_due_55 : decode cL_due 55 = .ok (.invokevirtual 20, 3) := by decide +kernel
theorem dL_due_58 : decode cL_due 58 = .ok (.iconst 1, 1) := by decide +kernel
theorem dL_due_59 : decode cL_due 59 = .ok (.if_icmp .ne 27, 3) := by decide +kernel
theorem dL_due_62 : decode cL_due 62 = .ok (.aload_n 0, 1) := by decide +kernel
theorem dL_due_63 : decode cL_due 63 = .ok (.iload 9, 2) := by decide +kernel
theorem dL_due_65 : decode cL_due 65 = .ok (.iconst 1, 1) := by decide +kernel
theorem dL_due_66 : decode cL_due 66 = .ok (.invokevirtual 20, 3) := by decide +kernel
theorem dL_due_69 : decode cL_due 69 = .ok (.ifCond .ne 17, 3) := by decide +kernel
theorem dL_due_72 : decode cL_due 72 = .ok (.aload_n 0, 1) := by decide +kernel
theorem dL_due_73 : decode cL_due 73 = .ok (.iload 9, 2) := by decide +kernel
theorem dL_due_75 : decode cL_due 75 = .ok (.iload 7, 2) := by decide +kernel
theorem dL_due_77 : decode cL_due 77 = .ok (.aload_n 3, 1) := by decide +kernel
theorem dL_due_78 : decode cL_due 78 = .ok (.aload 5, 2) := by decide +kernel
theorem dL_due_80 : decode cL_due 80 = .ok (.invokestatic 77, 3) := by decide +kernel
theorem dL_due_83 : decode cL_due 83 = .ok (.goto 4, 3) := by decide +kernel
theorem dL_due_86 : decode cL_due 86 = .ok (.iconst 0, 1) := by decide +kernel
theorem dL_due_87 : decode cL_due 87 = .ok (.istore 10, 2) := by decide +kernel
theorem dL_due_89 : decode cL_due 89 = .ok (.iload 10, 2) := by decide +kernel
theorem dL_due_91 : decode cL_due 91 = .ok (.iload 8, 2) := by decide +kernel
theorem dL_due_93 : decode cL_due 93 = .ok (.if_icmp .le 8, 3) := by decide +kernel
theorem dL_due_96 : decode cL_due 96 = .ok (.iload 10, 2) := by decide +kernel
theorem dL_due_98 : decode cL_due 98 = .ok (.goto 5, 3) := by decide +kernel
theorem dL_due_101 : decode cL_due 101 = .ok (.iload 8, 2) := by decide +kernel
theorem dL_due_103 : decode cL_due 103 = .ok (.istore 8, 2) := by decide +kernel
theorem dL_due_105 : decode cL_due 105 = .ok (.iinc 9 1, 3) := by decide +kernel
theorem dL_due_108 : decode cL_due 108 = .ok (.goto (-65), 3) := by decide +kernel
theorem dL_due_111 : decode cL_due 111 = .ok (.iload 6, 2) := by decide +kernel
theorem dL_due_113 : decode cL_due 113 = .ok (.aload 4, 2) := by decide +kernel
theorem dL_due_115 : decode cL_due 115 = .ok (.bipush 6, 2) := by decide +kernel
theorem dL_due_117 : decode cL_due 117 = .ok (.iload 7, 2) := by decide +kernel
theorem dL_due_119 : decode cL_due 119 = .ok (.imul, 1) := by decide +kernel
theorem dL_due_120 : decode cL_due 120 = .ok (.iconst 3, 1) := by decide +kernel
theorem dL_due_121 : decode cL_due 121 = .ok (.iadd, 1) := by decide +kernel
theorem dL_due_122 : decode cL_due 122 = .ok (.iaload, 1) := by decide +kernel
theorem dL_due_123 : decode cL_due 123 = .ok (.iload 8, 2) := by decide +kernel
theorem dL_due_125 : decode cL_due 125 = .ok (.imul, 1) := by decide +kernel
theorem dL_due_126 : decode cL_due 126 = .ok (.iadd, 1) := by decide +kernel
theorem dL_due_127 : decode cL_due 127 = .ok (.istore 6, 2) := by decide +kernel
theorem dL_due_129 : decode cL_due 129 = .ok (.iinc 7 1, 3) := by decide +kernel
theorem dL_due_132 : decode cL_due 132 = .ok (.goto (-126), 3) := by decide +kernel
theorem dL_due_135 : decode cL_due 135 = .ok (.iload 6, 2) := by decide +kernel
theorem dL_due_137 : decode cL_due 137 = .ok (.bipush 100, 2) := by decide +kernel
theorem dL_due_139 : decode cL_due 139 = .ok (.idiv, 1) := by decide +kernel
theorem dL_due_140 : decode cL_due 140 = .ok (.iload 6, 2) := by decide +kernel
theorem dL_due_142 : decode cL_due 142 = .ok (.bipush 100, 2) := by decide +kernel
theorem dL_due_144 : decode cL_due 144 = .ok (.irem, 1) := by decide +kernel
theorem dL_due_145 : decode cL_due 145 = .ok (.ifCond .le 7, 3) := by decide +kernel
theorem dL_due_148 : decode cL_due 148 = .ok (.iconst 1, 1) := by decide +kernel
theorem dL_due_149 : decode cL_due 149 = .ok (.goto 4, 3) := by decide +kernel
theorem dL_due_152 : decode cL_due 152 = .ok (.iconst 0, 1) := by decide +kernel
theorem dL_due_153 : decode cL_due 153 = .ok (.iadd, 1) := by decide +kernel
theorem dL_due_154 : decode cL_due 154 = .ok (.ireturn, 1) := by decide +kernel
theorem dL_areLevels_0 : decode cL_areLevels 0 = .ok (.iconst 1, 1) := by decide +kernel
theorem dL_areLevels_1 : decode cL_areLevels 1 = .ok (.istore 4, 2) := by decide +kernel
theorem dL_areLevels_3 : decode cL_areLevels 3 = .ok (.iconst 3, 1) := by decide +kernel
theorem dL_areLevels_4 : decode cL_areLevels 4 = .ok (.newarray .int, 2) := by decide +kernel
theorem dL_areLevels_6 : decode cL_areLevels 6 = .ok (.astore 5, 2) := by decide +kernel
theorem dL_areLevels_8 : decode cL_areLevels 8 = .ok (.iconst 0, 1) := by decide +kernel
theorem dL_areLevels_9 : decode cL_areLevels 9 = .ok (.istore 6, 2) := by decide +kernel
theorem dL_areLevels_11 : decode cL_areLevels 11 = .ok (.iload 6, 2) := by decide +kernel
theorem dL_areLevels_13 : decode cL_areLevels 13 = .ok (.aload_n 1, 1) := by decide +kernel
theorem dL_areLevels_14 : decode cL_areLevels 14 = .ok (.iconst 0, 1) := by decide +kernel
theorem dL_areLevels_15 : decode cL_areLevels 15 = .ok (.iaload, 1) := by decide +kernel
theorem dL_areLevels_16 : decode cL_areLevels 16 = .ok (.if_icmp .ge 179, 3) := by decide +kernel
theorem dL_areLevels_19 : decode cL_areLevels 19 = .ok (.iload 4, 2) := by decide +kernel
theorem dL_areLevels_21 : decode cL_areLevels 21 = .ok (.ifCond .eq 174, 3) := by decide +kernel
theorem dL_areLevels_24 : decode cL_areLevels 24 = .ok (.aload_n 0, 1) := by decide +kernel
theorem dL_areLevels_25 : decode cL_areLevels 25 = .ok (.iload 6, 2) := by decide +kernel
theorem dL_areLevels_27 : decode cL_areLevels 27 = .ok (.invokevirtual 24, 3) := by decide +kernel
theorem dL_areLevels_30 : decode cL_areLevels 30 = .ok (.istore 7, 2) := by decide +kernel
theorem dL_areLevels_32 : decode cL_areLevels 32 = .ok (.iconst 0, 1) := by decide +kernel
theorem dL_areLevels_33 : decode cL_areLevels 33 = .ok (.istore 8, 2) := by decide +kernel
theorem dL_areLevels_35 : decode cL_areLevels 35 = .ok (.iconst 0, 1) := by decide +kernel
theorem dL_areLevels_36 : decode cL_areLevels 36 = .ok (.istore 9, 2) := by decide +kernel
theorem dL_areLevels_38 : decode cL_areLevels 38 = .ok (.iload 9, 2) := by decide +kernel
theorem dL_areLevels_40 : decode cL_areLevels 40 = .ok (.aload_n 1, 1) := by decide +kernel
theorem dL_areLevels_41 : decode cL_areLevels 41 = .ok (.iconst 1, 1) := by decide +kernel
theorem dL_areLevels_42 : decode cL_areLevels 42 = .ok (.iaload, 1) := by decide +kernel
theorem dL_areLevels_43 : decode cL_areLevels 43 = .ok (.if_icmp .ge 52, 3) := by decide +kernel
theorem dL_areLevels_46 : decode cL_areLevels 46 = .ok (.aload_n 0, 1) := by decide +kernel
theorem dL_areLevels_47 : decode cL_areLevels 47 = .ok (.iload 9, 2) := by decide +kernel
theorem dL_areLevels_49 : decode cL_areLevels 49 = .ok (.iconst 0, 1) := by decide +kernel
theorem dL_areLevels_50 : decode cL_areLevels 50 = .ok (.invokevirtual 20, 3) := by decide +kernel
theorem dL_areLevels_53 : decode cL_areLevels 53 = .ok (.iconst 1, 1) := by decide +kernel
theorem dL_areLevels_54 : decode cL_areLevels 54 = .ok (.if_icmp .ne 16, 3) := by decide +kernel
theorem dL_areLevels_57 : decode cL_areLevels 57 = .ok (.aload_n 0, 1) := by decide +kernel
theorem dL_areLevels_58 : decode cL_areLevels 58 = .ok (.iload 9, 2) := by decide +kernel
theorem dL_areLevels_60 : decode cL_areLevels 60 = .ok (.iload 6, 2) := by decide +kernel
theorem dL_areLevels_62 : decode cL_areLevels 62 = .ok (.aload_n 1, 1) := by decide +kernel
theorem dL_areLevels_63 : decode cL_areLevels 63 = .ok (.aload_n 3, 1) := by decide +kernel
theorem dL_areLevels_64 : decode cL_areLevels 64 = .ok (.invokestatic 77, 3) := by decide +kernel
theorem dL_areLevels_67 : decode cL_areLevels 67 = .ok (.goto 4, 3) := by decide +kernel
theorem dL_areLevels_70 : decode cL_areLevels 70 = .ok (.iconst 0, 1) := by decide +kernel
theorem dL_areLevels_71 : decode cL_areLevels 71 = .ok (.istore 10, 2) := by decide +kernel
theorem dL_areLevels_73 : decode cL_areLevels 73 = .ok (.iload 10, 2) := by decide +kernel
theorem dL_areLevels_75 : decode cL_areLevels 75 = .ok (.iload 8, 2) := by decide +kernel
theorem dL_areLevels_77 : decode cL_areLevels 77 = .ok (.if_icmp .le 8, 3) := by decide +kernel
theorem dL_areLevels_80 : decode cL_areLevels 80 = .ok (.iload 10, 2) := by decide +kernel
theorem dL_areLevels_82 : decode cL_areLevels 82 = .ok (.goto 5, 3) := by decide +kernel
theorem dL_areLevels_85 : decode cL_areLevels 85 = .ok (.iload 8, 2) := by decide +kernel
theorem dL_areLevels_87 : decode cL_areLevels 87 = .ok (.istore 8, 2) := by decide +kernel
theorem dL_areLevels_89 : decode cL_areLevels 89 = .ok (.iinc 9 1, 3) := by decide +kernel
theorem dL_areLevels_92 : decode cL_areLevels 92 = .ok (.goto (-54), 3) := by decide +kernel
theorem dL_areLevels_95 : decode cL_areLevels 95 = .ok (.aload_n 0, 1) := by decide +kernel
theorem dL_areLevels_96 : decode cL_areLevels 96 = .ok (.iload 6, 2) := by decide +kernel
theorem dL_areLevels_98 : decode cL_areLevels 98 = .ok (.invokevirtual 81, 3) := by decide +kernel
theorem dL_areLevels_101 : decode cL_areLevels 101 = .ok (.iload 7, 2) := by decide +kernel
theorem dL_areLevels_103 : decode cL_areLevels 103 = .ok (.if_icmp .ne 34, 3) := by decide +kernel
theorem dL_areLevels_106 : decode cL_areLevels 106 = .ok (.iload 7, 2) := by decide +kernel
theorem dL_areLevels_108 : decode cL_areLevels 108 = .ok (.ifCond .lt 29, 3) := by decide +kernel
theorem dL_areLevels_111 : decode cL_areLevels 111 = .ok (.iload 7, 2) := by decide +kernel
theorem dL_areLevels_113 : decode cL_areLevels 113 = .ok (.iload 8, 2) := by decide +kernel
theorem dL_areLevels_115 : decode cL_areLevels 115 = .ok (.invokestatic 84, 3) := by decide +kernel
theorem dL_areLevels_118 : decode cL_areLevels 118 = .ok (.iload 8, 2) := by decide +kernel
theorem dL_areLevels_120 : decode cL_areLevels 120 = .ok (.ifCond .ne 7, 3) := by decide +kernel
theorem dL_areLevels_123 : decode cL_areLevels 123 = .ok (.iconst 0, 1) := by decide +kernel
theorem dL_areLevels_124 : decode cL_areLevels 124 = .ok (.goto 5, 3) := by decide +kernel
theorem dL_areLevels_127 : decode cL_areLevels 127 = .ok (.bipush 16, 2) := by decide +kernel
theorem dL_areLevels_129 : decode cL_areLevels 129 = .ok (.iadd, 1) := by decide +kernel
theorem dL_areLevels_130 : decode cL_areLevels 130 = .ok (.if_icmp .gt 7, 3) := by decide +kernel
theorem dL_areLevels_133 : decode cL_areLevels 133 = .ok (.iconst 1, 1) := by decide +kernel
theorem dL_areLevels_134 : decode cL_areLevels 134 = .ok (.goto 4, 3) := by decide +kernel
theorem dL_areLevels_137 : decode cL_areLevels 137 = .ok (.iconst 0, 1) := by decide +kernel
theorem dL_areLevels_138 : decode cL_areLevels 138 = .ok (.istore 4, 2) := by decide +kernel
theorem dL_areLevels_140 : decode cL_areLevels 140 = .ok (.aload_n 2, 1) := by decide +kernel
theorem dL_areLevels_141 : decode cL_areLevels 141 = .ok (.bipush 6, 2) := by decide +kernel
theorem dL_areLevels_143 : decode cL_areLevels 143 = .ok (.iload 6, 2) := by decide +kernel
theorem dL_areLevels_145 : decode cL_areLevels 145 = .ok (.imul, 1) := by decide +kernel
theorem dL_areLevels_146 : decode cL_areLevels 146 = .ok (.iconst 4, 1) := by decide +kernel
theorem dL_areLevels_147 : decode cL_areLevels 147 = .ok (.iadd, 1) := by decide +kernel
theorem dL_areLevels_148 : decode cL_areLevels 148 = .ok (.iaload, 1) := by decide +kernel
theorem dL_areLevels_149 : decode cL_areLevels 149 = .ok (.istore 9, 2) := by decide +kernel
theorem dL_areLevels_151 : decode cL_areLevels 151 = .ok (.aload 5, 2) := by decide +kernel
theorem dL_areLevels_153 : decode cL_areLevels 153 = .ok (.iload 9, 2) := by decide +kernel
theorem dL_areLevels_155 : decode cL_areLevels 155 = .ok (.aload 5, 2) := by decide +kernel
theorem dL_areLevels_157 : decode cL_areLevels 157 = .ok (.iload 9, 2) := by decide +kernel
theorem dL_areLevels_159 : decode cL_areLevels 159 = .ok (.iaload, 1) := by decide +kernel
theorem dL_areLevels_160 : decode cL_areLevels 160 = .ok (.aload_n 2, 1) := by decide +kernel
theorem dL_areLevels_161 : decode cL_areLevels 161 = .ok (.bipush 6, 2) := by decide +kernel
theorem dL_areLevels_163 : decode cL_areLevels 163 = .ok (.iload 6, 2) := by decide +kernel
theorem dL_areLevels_165 : decode cL_areLevels 165 = .ok (.imul, 1) := by decide +kernel
theorem dL_areLevels_166 : decode cL_areLevels 166 = .ok (.iconst 3, 1) := by decide +kernel
theorem dL_areLevels_167 : decode cL_areLevels 167 = .ok (.iadd, 1) := by decide +kernel
theorem dL_areLevels_168 : decode cL_areLevels 168 = .ok (.iaload, 1) := by decide +kernel
theorem dL_areLevels_169 : decode cL_areLevels 169 = .ok (.invokestatic 84, 3) := by decide +kernel
theorem dL_areLevels_172 : decode cL_areLevels 172 = .ok (.iload 7, 2) := by decide +kernel
theorem dL_areLevels_174 : decode cL_areLevels 174 = .ok (.invokestatic 87, 3) := by decide +kernel
theorem dL_areLevels_177 : decode cL_areLevels 177 = .ok (.bipush 100, 2) := by decide +kernel
theorem dL_areLevels_179 : decode cL_areLevels 179 = .ok (.invokestatic 84, 3) := by decide +kernel
theorem dL_areLevels_182 : decode cL_areLevels 182 = .ok (.invokestatic 90, 3) := by decide +kernel
theorem dL_areLevels_185 : decode cL_areLevels 185 = .ok (.invokestatic 93, 3) := by decide +kernel
theorem dL_areLevels_188 : decode cL_areLevels 188 = .ok (.iastore, 1) := by decide +kernel
theorem dL_areLevels_189 : decode cL_areLevels 189 = .ok (.iinc 6 1, 3) := by decide +kernel
theorem dL_areLevels_192 : decode cL_areLevels 192 = .ok (.goto (-181), 3) := by decide +kernel
theorem dL_areLevels_195 : decode cL_areLevels 195 = .ok (.iconst 0, 1) := by decide +kernel
theorem dL_areLevels_196 : decode cL_areLevels 196 = .ok (.istore 6, 2) := by decide +kernel
theorem dL_areLevels_198 : decode cL_areLevels 198 = .ok (.iload 6, 2) := by decide +kernel
theorem dL_areLevels_200 : decode cL_areLevels 200 = .ok (.iconst 3, 1) := by decide +kernel
theorem dL_areLevels_201 : decode cL_areLevels 201 = .ok (.if_icmp .ge 52, 3) := by decide +kernel
theorem dL_areLevels_204 : decode cL_areLevels 204 = .ok (.iload 4, 2) := by decide +kernel
theorem dL_areLevels_206 : decode cL_areLevels 206 = .ok (.ifCond .eq 47, 3) := by decide +kernel
theorem dL_areLevels_209 : decode cL_areLevels 209 = .ok (.aload_n 0, 1) := by decide +kernel
theorem dL_areLevels_210 : decode cL_areLevels 210 = .ok (.iload 6, 2) := by decide +kernel
theorem dL_areLevels_212 : decode cL_areLevels 212 = .ok (.invokevirtual 96, 3) := by decide +kernel
theorem dL_areLevels_215 : decode cL_areLevels 215 = .ok (.aload 5, 2) := by decide +kernel
theorem dL_areLevels_217 : decode cL_areLevels 217 = .ok (.iload 6, 2) := by decide +kernel
theorem dL_areLevels_219 : decode cL_areLevels 219 = .ok (.iaload, 1) := by decide +kernel
theorem dL_areLevels_220 : decode cL_areLevels 220 = .ok (.if_icmp .ne 24, 3) := by decide +kernel
theorem dL_areLevels_223 : decode cL_areLevels 223 = .ok (.aload_n 0, 1) := by decide +kernel
theorem dL_areLevels_224 : decode cL_areLevels 224 = .ok (.iload 6, 2) := by decide +kernel
theorem dL_areLevels_226 : decode cL_areLevels 226 = .ok (.invokevirtual 99, 3) := by decide +kernel
theorem dL_areLevels_229 : decode cL_areLevels 229 = .ok (.aload 5, 2) := by decide +kernel
theorem dL_areLevels_231 : decode cL_areLevels 231 = .ok (.iload 6, 2) := by decide +kernel
theorem dL_areLevels_233 : decode cL_areLevels 233 = .ok (.iaload, 1) := by decide +kernel
theorem dL_areLevels_234 : decode cL_areLevels 234 = .ok (.invokestatic 102, 3) := by decide +kernel
theorem dL_areLevels_237 : decode cL_areLevels 237 = .ok (.if_icmp .ne 7, 3) := by decide +kernel
theorem dL_areLevels_240 : decode cL_areLevels 240 = .ok (.iconst 1, 1) := by decide +kernel
theorem dL_areLevels_241 : decode cL_areLevels 241 = .ok (.goto 4, 3) := by decide +kernel
theorem dL_areLevels_244 : decode cL_areLevels 244 = .ok (.iconst 0, 1) := by decide +kernel
theorem dL_areLevels_245 : decode cL_areLevels 245 = .ok (.istore 4, 2) := by decide +kernel
theorem dL_areLevels_247 : decode cL_areLevels 247 = .ok (.iinc 6 1, 3) := by decide +kernel
theorem dL_areLevels_250 : decode cL_areLevels 250 = .ok (.goto (-52), 3) := by decide +kernel
theorem dL_areLevels_253 : decode cL_areLevels 253 = .ok (.iload 4, 2) := by decide +kernel
theorem dL_areLevels_255 : decode cL_areLevels 255 = .ok (.ireturn, 1) := by decide +kernel
theorem dL_isSound_0 : decode cL_isSound 0 = .ok (.aload_n 0, 1) := by decide +kernel
theorem dL_isSound_1 : decode cL_isSound 1 = .ok (.iconst 2, 1) := by decide +kernel
theorem dL_isSound_2 : decode cL_isSound 2 = .ok (.aload_n 1, 1) := by decide +kernel
theorem dL_isSound_3 : decode cL_isSound 3 = .ok (.iconst 1, 1) := by decide +kernel
theorem dL_isSound_4 : decode cL_isSound 4 = .ok (.iaload, 1) := by decide +kernel
theorem dL_isSound_5 : decode cL_isSound 5 = .ok (.iconst 0, 1) := by decide +kernel
theorem dL_isSound_6 : decode cL_isSound 6 = .ok (.invokestatic 105, 3) := by decide +kernel
theorem dL_isSound_9 : decode cL_isSound 9 = .ok (.ldc 33, 2) := by decide +kernel
theorem dL_isSound_11 : decode cL_isSound 11 = .ok (.if_icmp .ne 31, 3) := by decide +kernel
theorem dL_isSound_14 : decode cL_isSound 14 = .ok (.aload_n 0, 1) := by decide +kernel
theorem dL_isSound_15 : decode cL_isSound 15 = .ok (.iconst 3, 1) := by decide +kernel
theorem dL_isSound_16 : decode cL_isSound 16 = .ok (.aload_n 1, 1) := by decide +kernel
theorem dL_isSound_17 : decode cL_isSound 17 = .ok (.iconst 0, 1) := by decide +kernel
theorem dL_isSound_18 : decode cL_isSound 18 = .ok (.iaload, 1) := by decide +kernel
theorem dL_isSound_19 : decode cL_isSound 19 = .ok (.iconst 0, 1) := by decide +kernel
theorem dL_isSound_20 : decode cL_isSound 20 = .ok (.invokestatic 105, 3) := by decide +kernel
theorem dL_isSound_23 : decode cL_isSound 23 = .ok (.ldc 33, 2) := by decide +kernel
theorem dL_isSound_25 : decode cL_isSound 25 = .ok (.if_icmp .ne 17, 3) := by decide +kernel
theorem dL_isSound_28 : decode cL_isSound 28 = .ok (.aload_n 0, 1) := by decide +kernel
theorem dL_isSound_29 : decode cL_isSound 29 = .ok (.invokevirtual 109, 3) := by decide +kernel
theorem dL_isSound_32 : decode cL_isSound 32 = .ok (.aload_n 1, 1) := by decide +kernel
theorem dL_isSound_33 : decode cL_isSound 33 = .ok (.iconst 4, 1) := by decide +kernel
theorem dL_isSound_34 : decode cL_isSound 34 = .ok (.iaload, 1) := by decide +kernel
theorem dL_isSound_35 : decode cL_isSound 35 = .ok (.if_icmp .lt 7, 3) := by decide +kernel
theorem dL_isSound_38 : decode cL_isSound 38 = .ok (.iconst 1, 1) := by decide +kernel
theorem dL_isSound_39 : decode cL_isSound 39 = .ok (.goto 4, 3) := by decide +kernel
theorem dL_isSound_42 : decode cL_isSound 42 = .ok (.iconst 0, 1) := by decide +kernel
theorem dL_isSound_43 : decode cL_isSound 43 = .ok (.istore 5, 2) := by decide +kernel
theorem dL_isSound_45 : decode cL_isSound 45 = .ok (.aload_n 1, 1) := by decide +kernel
theorem dL_isSound_46 : decode cL_isSound 46 = .ok (.iconst 4, 1) := by decide +kernel
theorem dL_isSound_47 : decode cL_isSound 47 = .ok (.aload_n 0, 1) := by decide +kernel
theorem dL_isSound_48 : decode cL_isSound 48 = .ok (.invokevirtual 109, 3) := by decide +kernel
theorem dL_isSound_51 : decode cL_isSound 51 = .ok (.iastore, 1) := by decide +kernel
theorem dL_isSound_52 : decode cL_isSound 52 = .ok (.iconst 0, 1) := by decide +kernel
theorem dL_isSound_53 : decode cL_isSound 53 = .ok (.istore 6, 2) := by decide +kernel
theorem dL_isSound_55 : decode cL_isSound 55 = .ok (.iload 6, 2) := by decide +kernel
theorem dL_isSound_57 : decode cL_isSound 57 = .ok (.aload_n 1, 1) := by decide +kernel
theorem dL_isSound_58 : decode cL_isSound 58 = .ok (.iconst 1, 1) := by decide +kernel
theorem dL_isSound_59 : decode cL_isSound 59 = .ok (.iaload, 1) := by decide +kernel
theorem dL_isSound_60 : decode cL_isSound 60 = .ok (.if_icmp .ge 217, 3) := by decide +kernel
theorem dL_isSound_63 : decode cL_isSound 63 = .ok (.iload 5, 2) := by decide +kernel
theorem dL_isSound_65 : decode cL_isSound 65 = .ok (.ifCond .eq 212, 3) := by decide +kernel
theorem dL_isSound_68 : decode cL_isSound 68 = .ok (.aload_n 0, 1) := by decide +kernel
theorem dL_isSound_69 : decode cL_isSound 69 = .ok (.iload 6, 2) := by decide +kernel
theorem dL_isSound_71 : decode cL_isSound 71 = .ok (.iconst 0, 1) := by decide +kernel
theorem dL_isSound_72 : decode cL_isSound 72 = .ok (.invokevirtual 20, 3) := by decide +kernel
theorem dL_isSound_75 : decode cL_isSound 75 = .ok (.iconst 1, 1) := by decide +kernel
theorem dL_isSound_76 : decode cL_isSound 76 = .ok (.if_icmp .ne 7, 3) := by decide +kernel
theorem dL_isSound_79 : decode cL_isSound 79 = .ok (.iconst 1, 1) := by decide +kernel
theorem dL_isSound_80 : decode cL_isSound 80 = .ok (.goto 4, 3) := by decide +kernel
theorem dL_isSound_83 : decode cL_isSound 83 = .ok (.iconst 0, 1) := by decide +kernel
theorem dL_isSound_84 : decode cL_isSound 84 = .ok (.istore 7, 2) := by decide +kernel
theorem dL_isSound_86 : decode cL_isSound 86 = .ok (.aload_n 0, 1) := by decide +kernel
theorem dL_isSound_87 : decode cL_isSound 87 = .ok (.iload 6, 2) := by decide +kernel
theorem dL_isSound_89 : decode cL_isSound 89 = .ok (.iconst 2, 1) := by decide +kernel
theorem dL_isSound_90 : decode cL_isSound 90 = .ok (.invokevirtual 20, 3) := by decide +kernel
theorem dL_isSound_93 : decode cL_isSound 93 = .ok (.istore 8, 2) := by decide +kernel
theorem dL_isSound_95 : decode cL_isSound 95 = .ok (.iload 7, 2) := by decide +kernel
theorem dL_isSound_97 : decode cL_isSound 97 = .ok (.ifCond .eq 13, 3) := by decide +kernel
theorem dL_isSound_100 : decode cL_isSound 100 = .ok (.aload_n 0, 1) := by decide +kernel
theorem dL_isSound_101 : decode cL_isSound 101 = .ok (.iload 6, 2) := by decide +kernel
theorem dL_isSound_103 : decode cL_isSound 103 = .ok (.iconst 3, 1) := by decide +kernel
theorem dL_isSound_104 : decode cL_isSound 104 = .ok (.invokevirtual 20, 3) := by decide +kernel
theorem dL_isSound_107 : decode cL_isSound 107 = .ok (.goto 4, 3) := by decide +kernel
theorem dL_isSound_110 : decode cL_isSound 110 = .ok (.iconst 0, 1) := by decide +kernel
theorem dL_isSound_111 : decode cL_isSound 111 = .ok (.istore 9, 2) := by decide +kernel
theorem dL_isSound_113 : decode cL_isSound 113 = .ok (.aload_n 0, 1) := by decide +kernel
theorem dL_isSound_114 : decode cL_isSound 114 = .ok (.iload 6, 2) := by decide +kernel
theorem dL_isSound_116 : decode cL_isSound 116 = .ok (.aload_n 1, 1) := by decide +kernel
theorem dL_isSound_117 : decode cL_isSound 117 = .ok (.aload_n 2, 1) := by decide +kernel
theorem dL_isSound_118 : decode cL_isSound 118 = .ok (.aload_n 3, 1) := by decide +kernel
theorem dL_isSound_119 : decode cL_isSound 119 = .ok (.invokestatic 113, 3) := by decide +kernel
theorem dL_isSound_122 : decode cL_isSound 122 = .ok (.ifCond .eq 67, 3) := by decide +kernel
theorem dL_isSound_125 : decode cL_isSound 125 = .ok (.iload 7, 2) := by decide +kernel
theorem dL_isSound_127 : decode cL_isSound 127 = .ok (.ifCond .eq 31, 3) := by decide +kernel
theorem dL_isSound_130 : decode cL_isSound 130 = .ok (.iload 8, 2) := by decide +kernel
theorem dL_isSound_132 : decode cL_isSound 132 = .ok (.ifCond .lt 57, 3) := by decide +kernel
theorem dL_isSound_135 : decode cL_isSound 135 = .ok (.iload 8, 2) := by decide +kernel
theorem dL_isSound_137 : decode cL_isSound 137 = .ok (.aload_n 1, 1) := by decide +kernel
theorem dL_isSound_138 : decode cL_isSound 138 = .ok (.iconst 3, 1) := by decide +kernel
theorem dL_isSound_139 : decode cL_isSound 139 = .ok (.iaload, 1) := by decide +kernel
theorem dL_isSound_140 : decode cL_isSound 140 = .ok (.if_icmp .gt 49, 3) := by decide +kernel
theorem dL_isSound_143 : decode cL_isSound 143 = .ok (.iload 9, 2) := by decide +kernel
theorem dL_isSound_145 : decode cL_isSound 145 = .ok (.ifCond .lt 44, 3) := by decide +kernel
theorem dL_isSound_148 : decode cL_isSound 148 = .ok (.iload 9, 2) := by decide +kernel
theorem dL_isSound_150 : decode cL_isSound 150 = .ok (.ldc 117, 2) := by decide +kernel
theorem dL_isSound_152 : decode cL_isSound 152 = .ok (.if_icmp .gt 37, 3) := by decide +kernel
theorem dL_isSound_155 : decode cL_isSound 155 = .ok (.goto 30, 3) := by decide +kernel
theorem dL_isSound_158 : decode cL_isSound 158 = .ok (.aload_n 0, 1) := by decide +kernel
theorem dL_isSound_159 : decode cL_isSound 159 = .ok (.iload 6, 2) := by decide +kernel
theorem dL_isSound_161 : decode cL_isSound 161 = .ok (.iconst 1, 1) := by decide +kernel
theorem dL_isSound_162 : decode cL_isSound 162 = .ok (.invokevirtual 20, 3) := by decide +kernel
theorem dL_isSound_165 : decode cL_isSound 165 = .ok (.ifCond .ne 24, 3) := by decide +kernel
theorem dL_isSound_168 : decode cL_isSound 168 = .ok (.iload 8, 2) := by decide +kernel
theorem dL_isSound_170 : decode cL_isSound 170 = .ok (.iconst (-1), 1) := by decide +kernel
theorem dL_isSound_171 : decode cL_isSound 171 = .ok (.if_icmp .ne 18, 3) := by decide +kernel
theorem dL_isSound_174 : decode cL_isSound 174 = .ok (.aload_n 0, 1) := by decide +kernel
theorem dL_isSound_175 : decode cL_isSound 175 = .ok (.iload 6, 2) := by decide +kernel
theorem dL_isSound_177 : decode cL_isSound 177 = .ok (.iconst 3, 1) := by decide +kernel
theorem dL_isSound_178 : decode cL_isSound 178 = .ok (.invokevirtual 20, 3) := by decide +kernel
theorem dL_isSound_181 : decode cL_isSound 181 = .ok (.iconst (-1), 1) := by decide +kernel
theorem dL_isSound_182 : decode cL_isSound 182 = .ok (.if_icmp .ne 7, 3) := by decide +kernel
theorem dL_isSound_185 : decode cL_isSound 185 = .ok (.iconst 1, 1) := by decide +kernel
theorem dL_isSound_186 : decode cL_isSound 186 = .ok (.goto 4, 3) := by decide +kernel
theorem dL_isSound_189 : decode cL_isSound 189 = .ok (.iconst 0, 1) := by decide +kernel
theorem dL_isSound_190 : decode cL_isSound 190 = .ok (.istore 5, 2) := by decide +kernel
theorem dL_isSound_192 : decode cL_isSound 192 = .ok (.iload 7, 2) := by decide +kernel
theorem dL_isSound_194 : decode cL_isSound 194 = .ok (.ifCond .eq 77, 3) := by decide +kernel
theorem dL_isSound_197 : decode cL_isSound 197 = .ok (.aload_n 0, 1) := by decide +kernel
theorem dL_isSound_198 : decode cL_isSound 198 = .ok (.iload 6, 2) := by decide +kernel
theorem dL_isSound_200 : decode cL_isSound 200 = .ok (.iconst 1, 1) := by decide +kernel
theorem dL_isSound_201 : decode cL_isSound 201 = .ok (.invokevirtual 20, 3) := by decide +kernel
theorem dL_isSound_204 : decode cL_isSound 204 = .ok (.ifCond .ne 67, 3) := by decide +kernel
theorem dL_isSound_207 : decode cL_isSound 207 = .ok (.iload 5, 2) := by decide +kernel
theorem dL_isSound_209 : decode cL_isSound 209 = .ok (.ifCond .eq 62, 3) := by decide +kernel
theorem dL_isSound_212 : decode cL_isSound 212 = .ok (.aload_n 1, 1) := by decide +kernel
theorem dL_isSound_213 : decode cL_isSound 213 = .ok (.iconst 3, 1) := by decide +kernel
theorem dL_isSound_214 : decode cL_isSound 214 = .ok (.iaload, 1) := by decide +kernel
theorem dL_isSound_215 : decode cL_isSound 215 = .ok (.iload 8, 2) := by decide +kernel
theorem dL_isSound_217 : decode cL_isSound 217 = .ok (.isub, 1) := by decide +kernel
theorem dL_isSound_218 : decode cL_isSound 218 = .ok (.istore 10, 2) := by decide +kernel
theorem dL_isSound_220 : decode cL_isSound 220 = .ok (.iload 9, 2) := by decide +kernel
theorem dL_isSound_222 : decode cL_isSound 222 = .ok (.aload 4, 2) := by decide +kernel
theorem dL_isSound_224 : decode cL_isSound 224 = .ok (.iconst 3, 1) := by decide +kernel
theorem dL_isSound_225 : decode cL_isSound 225 = .ok (.iload 6, 2) := by decide +kernel
theorem dL_isSound_227 : decode cL_isSound 227 = .ok (.imul, 1) := by decide +kernel
theorem dL_isSound_228 : decode cL_isSound 228 = .ok (.iconst 1, 1) := by decide +kernel
theorem dL_isSound_229 : decode cL_isSound 229 = .ok (.iadd, 1) := by decide +kernel
theorem dL_isSound_230 : decode cL_isSound 230 = .ok (.iaload, 1) := by decide +kernel
theorem dL_isSound_231 : decode cL_isSound 231 = .ok (.iload 10, 2) := by decide +kernel
theorem dL_isSound_233 : decode cL_isSound 233 = .ok (.if_icmp .gt 8, 3) := by decide +kernel
theorem dL_isSound_236 : decode cL_isSound 236 = .ok (.ldc 117, 2) := by decide +kernel
theorem dL_isSound_238 : decode cL_isSound 238 = .ok (.goto 23, 3) := by decide +kernel
theorem dL_isSound_241 : decode cL_isSound 241 = .ok (.iload 10, 2) := by decide +kernel
theorem dL_isSound_243 : decode cL_isSound 243 = .ok (.invokestatic 84, 3) := by decide +kernel
theorem dL_isSound_246 : decode cL_isSound 246 = .ok (.aload 4, 2) := by decide +kernel
theorem dL_isSound_248 : decode cL_isSound 248 = .ok (.iconst 3, 1) := by decide +kernel
theorem dL_isSound_249 : decode cL_isSound 249 = .ok (.iload 6, 2) := by decide +kernel
theorem dL_isSound_251 : decode cL_isSound 251 = .ok (.imul, 1) := by decide +kernel
theorem dL_isSound_252 : decode cL_isSound 252 = .ok (.iconst 1, 1) := by decide +kernel
theorem dL_isSound_253 : decode cL_isSound 253 = .ok (.iadd, 1) := by decide +kernel
