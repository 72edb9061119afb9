theorem dL_isSound_254 : decode cL_isSound 254 = .ok (.iaload, 1) := by decide +kernel
theorem dL_isSound_255 : decode cL_isSound 255 = .ok (.invokestatic 84, 3) := by decide +kernel
theorem dL_isSound_258 : decode cL_isSound 258 = .ok (.invokestatic 90, 3) := by decide +kernel
theorem dL_isSound_261 : decode cL_isSound 261 = .ok (.if_icmp .ne 7, 3) := by decide +kernel
theorem dL_isSound_264 : decode cL_isSound 264 = .ok (.iconst 1, 1) := by decide +kernel
theorem dL_isSound_265 : decode cL_isSound 265 = .ok (.goto 4, 3) := by decide +kernel
theorem dL_isSound_268 : decode cL_isSound 268 = .ok (.iconst 0, 1) := by decide +kernel
theorem dL_isSound_269 : decode cL_isSound 269 = .ok (.istore 5, 2) := by decide +kernel
theorem dL_isSound_271 : decode cL_isSound 271 = .ok (.iinc 6 1, 3) := by decide +kernel
theorem dL_isSound_274 : decode cL_isSound 274 = .ok (.goto (-219), 3) := by decide +kernel
theorem dL_isSound_277 : decode cL_isSound 277 = .ok (.iload 5, 2) := by decide +kernel
theorem dL_isSound_279 : decode cL_isSound 279 = .ok (.ifCond .eq 17, 3) := by decide +kernel
theorem dL_isSound_282 : decode cL_isSound 282 = .ok (.aload_n 0, 1) := by decide +kernel
theorem dL_isSound_283 : decode cL_isSound 283 = .ok (.aload_n 1, 1) := by decide +kernel
theorem dL_isSound_284 : decode cL_isSound 284 = .ok (.aload_n 2, 1) := by decide +kernel
theorem dL_isSound_285 : decode cL_isSound 285 = .ok (.aload_n 3, 1) := by decide +kernel
theorem dL_isSound_286 : decode cL_isSound 286 = .ok (.invokestatic 118, 3) := by decide +kernel
theorem dL_isSound_289 : decode cL_isSound 289 = .ok (.ifCond .eq 7, 3) := by decide +kernel
theorem dL_isSound_292 : decode cL_isSound 292 = .ok (.iconst 1, 1) := by decide +kernel
theorem dL_isSound_293 : decode cL_isSound 293 = .ok (.goto 4, 3) := by decide +kernel
theorem dL_isSound_296 : decode cL_isSound 296 = .ok (.iconst 0, 1) := by decide +kernel
theorem dL_isSound_297 : decode cL_isSound 297 = .ok (.ireturn, 1) := by decide +kernel
theorem dL_goes_0 : decode cL_goes 0 = .ok (.iload_n 1, 1) := by decide +kernel
theorem dL_goes_1 : decode cL_goes 1 = .ok (.aload_n 3, 1) := by decide +kernel
theorem dL_goes_2 : decode cL_goes 2 = .ok (.iconst 1, 1) := by decide +kernel
theorem dL_goes_3 : decode cL_goes 3 = .ok (.iaload, 1) := by decide +kernel
theorem dL_goes_4 : decode cL_goes 4 = .ok (.irem, 1) := by decide +kernel
theorem dL_goes_5 : decode cL_goes 5 = .ok (.istore 8, 2) := by decide +kernel
theorem dL_goes_7 : decode cL_goes 7 = .ok (.iconst 1, 1) := by decide +kernel
theorem dL_goes_8 : decode cL_goes 8 = .ok (.istore 9, 2) := by decide +kernel
theorem dL_goes_10 : decode cL_goes 10 = .ok (.iconst 0, 1) := by decide +kernel
theorem dL_goes_11 : decode cL_goes 11 = .ok (.istore 10, 2) := by decide +kernel
theorem dL_goes_13 : decode cL_goes 13 = .ok (.iconst 0, 1) := by decide +kernel
theorem dL_goes_14 : decode cL_goes 14 = .ok (.istore 11, 2) := by decide +kernel
theorem dL_goes_16 : decode cL_goes 16 = .ok (.iload 11, 2) := by decide +kernel
theorem dL_goes_18 : decode cL_goes 18 = .ok (.iconst 3, 1) := by decide +kernel
theorem dL_goes_19 : decode cL_goes 19 = .ok (.if_icmp .ge 67, 3) := by decide +kernel
theorem dL_goes_22 : decode cL_goes 22 = .ok (.aload_n 0, 1) := by decide +kernel
theorem dL_goes_23 : decode cL_goes 23 = .ok (.iload 8, 2) := by decide +kernel
theorem dL_goes_25 : decode cL_goes 25 = .ok (.iload 11, 2) := by decide +kernel
theorem dL_goes_27 : decode cL_goes 27 = .ok (.invokevirtual 122, 3) := by decide +kernel
theorem dL_goes_30 : decode cL_goes 30 = .ok (.istore 12, 2) := by decide +kernel
theorem dL_goes_32 : decode cL_goes 32 = .ok (.iload 9, 2) := by decide +kernel
theorem dL_goes_34 : decode cL_goes 34 = .ok (.ifCond .eq 17, 3) := by decide +kernel
theorem dL_goes_37 : decode cL_goes 37 = .ok (.iload 12, 2) := by decide +kernel
theorem dL_goes_39 : decode cL_goes 39 = .ok (.aload 6, 2) := by decide +kernel
theorem dL_goes_41 : decode cL_goes 41 = .ok (.iload 11, 2) := by decide +kernel
theorem dL_goes_43 : decode cL_goes 43 = .ok (.iaload, 1) := by decide +kernel
theorem dL_goes_44 : decode cL_goes 44 = .ok (.if_icmp .gt 7, 3) := by decide +kernel
theorem dL_goes_47 : decode cL_goes 47 = .ok (.iconst 1, 1) := by decide +kernel
theorem dL_goes_48 : decode cL_goes 48 = .ok (.goto 4, 3) := by decide +kernel
theorem dL_goes_51 : decode cL_goes 51 = .ok (.iconst 0, 1) := by decide +kernel
theorem dL_goes_52 : decode cL_goes 52 = .ok (.istore 9, 2) := by decide +kernel
theorem dL_goes_54 : decode cL_goes 54 = .ok (.iload_n 2, 1) := by decide +kernel
theorem dL_goes_55 : decode cL_goes 55 = .ok (.iconst 3, 1) := by decide +kernel
theorem dL_goes_56 : decode cL_goes 56 = .ok (.irem, 1) := by decide +kernel
theorem dL_goes_57 : decode cL_goes 57 = .ok (.ifCond .ne 23, 3) := by decide +kernel
theorem dL_goes_60 : decode cL_goes 60 = .ok (.iload 12, 2) := by decide +kernel
theorem dL_goes_62 : decode cL_goes 62 = .ok (.aload_n 0, 1) := by decide +kernel
theorem dL_goes_63 : decode cL_goes 63 = .ok (.iload 8, 2) := by decide +kernel
theorem dL_goes_65 : decode cL_goes 65 = .ok (.iload 11, 2) := by decide +kernel
theorem dL_goes_67 : decode cL_goes 67 = .ok (.aload_n 3, 1) := by decide +kernel
theorem dL_goes_68 : decode cL_goes 68 = .ok (.aload 4, 2) := by decide +kernel
theorem dL_goes_70 : decode cL_goes 70 = .ok (.aload 5, 2) := by decide +kernel
theorem dL_goes_72 : decode cL_goes 72 = .ok (.invokestatic 124, 3) := by decide +kernel
theorem dL_goes_75 : decode cL_goes 75 = .ok (.if_icmp .eq 5, 3) := by decide +kernel
theorem dL_goes_78 : decode cL_goes 78 = .ok (.iconst 0, 1) := by decide +kernel
theorem dL_goes_79 : decode cL_goes 79 = .ok (.ireturn, 1) := by decide +kernel
theorem dL_goes_80 : decode cL_goes 80 = .ok (.iinc 11 1, 3) := by decide +kernel
theorem dL_goes_83 : decode cL_goes 83 = .ok (.goto (-67), 3) := by decide +kernel
theorem dL_goes_86 : decode cL_goes 86 = .ok (.iconst 0, 1) := by decide +kernel
theorem dL_goes_87 : decode cL_goes 87 = .ok (.istore 11, 2) := by decide +kernel
theorem dL_goes_89 : decode cL_goes 89 = .ok (.iload 11, 2) := by decide +kernel
theorem dL_goes_91 : decode cL_goes 91 = .ok (.aload_n 3, 1) := by decide +kernel
theorem dL_goes_92 : decode cL_goes 92 = .ok (.iconst 1, 1) := by decide +kernel
theorem dL_goes_93 : decode cL_goes 93 = .ok (.iaload, 1) := by decide +kernel
theorem dL_goes_94 : decode cL_goes 94 = .ok (.if_icmp .ge 32, 3) := by decide +kernel
theorem dL_goes_97 : decode cL_goes 97 = .ok (.iload 10, 2) := by decide +kernel
theorem dL_goes_99 : decode cL_goes 99 = .ok (.iload 11, 2) := by decide +kernel
theorem dL_goes_101 : decode cL_goes 101 = .ok (.iload 8, 2) := by decide +kernel
theorem dL_goes_103 : decode cL_goes 103 = .ok (.if_icmp .ne 7, 3) := by decide +kernel
theorem dL_goes_106 : decode cL_goes 106 = .ok (.iconst 1, 1) := by decide +kernel
theorem dL_goes_107 : decode cL_goes 107 = .ok (.goto 10, 3) := by decide +kernel
theorem dL_goes_110 : decode cL_goes 110 = .ok (.aload_n 0, 1) := by decide +kernel
theorem dL_goes_111 : decode cL_goes 111 = .ok (.iload 11, 2) := by decide +kernel
theorem dL_goes_113 : decode cL_goes 113 = .ok (.iconst 0, 1) := by decide +kernel
theorem dL_goes_114 : decode cL_goes 114 = .ok (.invokevirtual 20, 3) := by decide +kernel
theorem dL_goes_117 : decode cL_goes 117 = .ok (.iadd, 1) := by decide +kernel
theorem dL_goes_118 : decode cL_goes 118 = .ok (.istore 10, 2) := by decide +kernel
theorem dL_goes_120 : decode cL_goes 120 = .ok (.iinc 11 1, 3) := by decide +kernel
theorem dL_goes_123 : decode cL_goes 123 = .ok (.goto (-34), 3) := by decide +kernel
theorem dL_goes_126 : decode cL_goes 126 = .ok (.aload_n 0, 1) := by decide +kernel
theorem dL_goes_127 : decode cL_goes 127 = .ok (.iconst 0, 1) := by decide +kernel
theorem dL_goes_128 : decode cL_goes 128 = .ok (.iload 8, 2) := by decide +kernel
theorem dL_goes_130 : decode cL_goes 130 = .ok (.iconst 0, 1) := by decide +kernel
theorem dL_goes_131 : decode cL_goes 131 = .ok (.invokestatic 105, 3) := by decide +kernel
theorem dL_goes_134 : decode cL_goes 134 = .ok (.istore 11, 2) := by decide +kernel
theorem dL_goes_136 : decode cL_goes 136 = .ok (.iload 9, 2) := by decide +kernel
theorem dL_goes_138 : decode cL_goes 138 = .ok (.ifCond .ne 16, 3) := by decide +kernel
theorem dL_goes_141 : decode cL_goes 141 = .ok (.iload 11, 2) := by decide +kernel
theorem dL_goes_143 : decode cL_goes 143 = .ok (.ldc 39, 2) := by decide +kernel
theorem dL_goes_145 : decode cL_goes 145 = .ok (.if_icmp .ne 7, 3) := by decide +kernel
theorem dL_goes_148 : decode cL_goes 148 = .ok (.iconst 1, 1) := by decide +kernel
theorem dL_goes_149 : decode cL_goes 149 = .ok (.goto 4, 3) := by decide +kernel
theorem dL_goes_152 : decode cL_goes 152 = .ok (.iconst 0, 1) := by decide +kernel
theorem dL_goes_153 : decode cL_goes 153 = .ok (.ireturn, 1) := by decide +kernel
theorem dL_goes_154 : decode cL_goes 154 = .ok (.iload 11, 2) := by decide +kernel
theorem dL_goes_156 : decode cL_goes 156 = .ok (.iload 10, 2) := by decide +kernel
theorem dL_goes_158 : decode cL_goes 158 = .ok (.if_icmp .ne 69, 3) := by decide +kernel
theorem dL_goes_161 : decode cL_goes 161 = .ok (.aload_n 0, 1) := by decide +kernel
theorem dL_goes_162 : decode cL_goes 162 = .ok (.iload 8, 2) := by decide +kernel
theorem dL_goes_164 : decode cL_goes 164 = .ok (.iconst 0, 1) := by decide +kernel
theorem dL_goes_165 : decode cL_goes 165 = .ok (.invokevirtual 20, 3) := by decide +kernel
theorem dL_goes_168 : decode cL_goes 168 = .ok (.iconst 1, 1) := by decide +kernel
theorem dL_goes_169 : decode cL_goes 169 = .ok (.if_icmp .ne 58, 3) := by decide +kernel
theorem dL_goes_172 : decode cL_goes 172 = .ok (.aload_n 0, 1) := by decide +kernel
theorem dL_goes_173 : decode cL_goes 173 = .ok (.iload 8, 2) := by decide +kernel
theorem dL_goes_175 : decode cL_goes 175 = .ok (.iconst 1, 1) := by decide +kernel
theorem dL_goes_176 : decode cL_goes 176 = .ok (.invokevirtual 20, 3) := by decide +kernel
theorem dL_goes_179 : decode cL_goes 179 = .ok (.ifCond .ne 48, 3) := by decide +kernel
theorem dL_goes_182 : decode cL_goes 182 = .ok (.aload_n 0, 1) := by decide +kernel
theorem dL_goes_183 : decode cL_goes 183 = .ok (.iload 8, 2) := by decide +kernel
theorem dL_goes_185 : decode cL_goes 185 = .ok (.iconst 2, 1) := by decide +kernel
theorem dL_goes_186 : decode cL_goes 186 = .ok (.invokevirtual 20, 3) := by decide +kernel
theorem dL_goes_189 : decode cL_goes 189 = .ok (.aload_n 3, 1) := by decide +kernel
theorem dL_goes_190 : decode cL_goes 190 = .ok (.iconst 3, 1) := by decide +kernel
theorem dL_goes_191 : decode cL_goes 191 = .ok (.iaload, 1) := by decide +kernel
theorem dL_goes_192 : decode cL_goes 192 = .ok (.if_icmp .ne 35, 3) := by decide +kernel
theorem dL_goes_195 : decode cL_goes 195 = .ok (.aload_n 0, 1) := by decide +kernel
theorem dL_goes_196 : decode cL_goes 196 = .ok (.iload 8, 2) := by decide +kernel
theorem dL_goes_198 : decode cL_goes 198 = .ok (.iconst 3, 1) := by decide +kernel
theorem dL_goes_199 : decode cL_goes 199 = .ok (.invokevirtual 20, 3) := by decide +kernel
theorem dL_goes_202 : decode cL_goes 202 = .ok (.aload 7, 2) := by decide +kernel
theorem dL_goes_204 : decode cL_goes 204 = .ok (.iconst 3, 1) := by decide +kernel
theorem dL_goes_205 : decode cL_goes 205 = .ok (.iload 8, 2) := by decide +kernel
theorem dL_goes_207 : decode cL_goes 207 = .ok (.imul, 1) := by decide +kernel
theorem dL_goes_208 : decode cL_goes 208 = .ok (.iconst 1, 1) := by decide +kernel
theorem dL_goes_209 : decode cL_goes 209 = .ok (.iadd, 1) := by decide +kernel
theorem dL_goes_210 : decode cL_goes 210 = .ok (.iaload, 1) := by decide +kernel
theorem dL_goes_211 : decode cL_goes 211 = .ok (.ifCond .ne 8, 3) := by decide +kernel
theorem dL_goes_214 : decode cL_goes 214 = .ok (.ldc 117, 2) := by decide +kernel
theorem dL_goes_216 : decode cL_goes 216 = .ok (.goto 4, 3) := by decide +kernel
theorem dL_goes_219 : decode cL_goes 219 = .ok (.iconst 0, 1) := by decide +kernel
theorem dL_goes_220 : decode cL_goes 220 = .ok (.if_icmp .ne 7, 3) := by decide +kernel
theorem dL_goes_223 : decode cL_goes 223 = .ok (.iconst 1, 1) := by decide +kernel
theorem dL_goes_224 : decode cL_goes 224 = .ok (.goto 4, 3) := by decide +kernel
theorem dL_goes_227 : decode cL_goes 227 = .ok (.iconst 0, 1) := by decide +kernel
theorem dL_goes_228 : decode cL_goes 228 = .ok (.ireturn, 1) := by decide +kernel
theorem dL_releases_0 : decode cL_releases 0 = .ok (.iload_n 1, 1) := by decide +kernel
theorem dL_releases_1 : decode cL_releases 1 = .ok (.aload_n 2, 1) := by decide +kernel
theorem dL_releases_2 : decode cL_releases 2 = .ok (.iconst 1, 1) := by decide +kernel
theorem dL_releases_3 : decode cL_releases 3 = .ok (.iaload, 1) := by decide +kernel
theorem dL_releases_4 : decode cL_releases 4 = .ok (.irem, 1) := by decide +kernel
theorem dL_releases_5 : decode cL_releases 5 = .ok (.istore 4, 2) := by decide +kernel
theorem dL_releases_7 : decode cL_releases 7 = .ok (.aload_n 0, 1) := by decide +kernel
theorem dL_releases_8 : decode cL_releases 8 = .ok (.iload 4, 2) := by decide +kernel
theorem dL_releases_10 : decode cL_releases 10 = .ok (.iconst 0, 1) := by decide +kernel
theorem dL_releases_11 : decode cL_releases 11 = .ok (.invokevirtual 20, 3) := by decide +kernel
theorem dL_releases_14 : decode cL_releases 14 = .ok (.iconst 1, 1) := by decide +kernel
theorem dL_releases_15 : decode cL_releases 15 = .ok (.if_icmp .ne 17, 3) := by decide +kernel
theorem dL_releases_18 : decode cL_releases 18 = .ok (.aload_n 0, 1) := by decide +kernel
theorem dL_releases_19 : decode cL_releases 19 = .ok (.iload 4, 2) := by decide +kernel
theorem dL_releases_21 : decode cL_releases 21 = .ok (.iconst 1, 1) := by decide +kernel
theorem dL_releases_22 : decode cL_releases 22 = .ok (.invokevirtual 20, 3) := by decide +kernel
theorem dL_releases_25 : decode cL_releases 25 = .ok (.ifCond .ne 7, 3) := by decide +kernel
theorem dL_releases_28 : decode cL_releases 28 = .ok (.iconst 1, 1) := by decide +kernel
theorem dL_releases_29 : decode cL_releases 29 = .ok (.goto 4, 3) := by decide +kernel
theorem dL_releases_32 : decode cL_releases 32 = .ok (.iconst 0, 1) := by decide +kernel
theorem dL_releases_33 : decode cL_releases 33 = .ok (.istore 5, 2) := by decide +kernel
theorem dL_releases_35 : decode cL_releases 35 = .ok (.aload_n 0, 1) := by decide +kernel
theorem dL_releases_36 : decode cL_releases 36 = .ok (.iload 4, 2) := by decide +kernel
theorem dL_releases_38 : decode cL_releases 38 = .ok (.iconst 3, 1) := by decide +kernel
theorem dL_releases_39 : decode cL_releases 39 = .ok (.invokevirtual 20, 3) := by decide +kernel
theorem dL_releases_42 : decode cL_releases 42 = .ok (.istore 6, 2) := by decide +kernel
theorem dL_releases_44 : decode cL_releases 44 = .ok (.aload_n 0, 1) := by decide +kernel
theorem dL_releases_45 : decode cL_releases 45 = .ok (.iconst 1, 1) := by decide +kernel
theorem dL_releases_46 : decode cL_releases 46 = .ok (.iload 4, 2) := by decide +kernel
theorem dL_releases_48 : decode cL_releases 48 = .ok (.iconst 0, 1) := by decide +kernel
theorem dL_releases_49 : decode cL_releases 49 = .ok (.invokestatic 105, 3) := by decide +kernel
theorem dL_releases_52 : decode cL_releases 52 = .ok (.istore 7, 2) := by decide +kernel
theorem dL_releases_54 : decode cL_releases 54 = .ok (.iload 5, 2) := by decide +kernel
theorem dL_releases_56 : decode cL_releases 56 = .ok (.ifCond .ne 16, 3) := by decide +kernel
theorem dL_releases_59 : decode cL_releases 59 = .ok (.iload 7, 2) := by decide +kernel
theorem dL_releases_61 : decode cL_releases 61 = .ok (.ldc 39, 2) := by decide +kernel
theorem dL_releases_63 : decode cL_releases 63 = .ok (.if_icmp .ne 7, 3) := by decide +kernel
theorem dL_releases_66 : decode cL_releases 66 = .ok (.iconst 1, 1) := by decide +kernel
theorem dL_releases_67 : decode cL_releases 67 = .ok (.goto 4, 3) := by decide +kernel
theorem dL_releases_70 : decode cL_releases 70 = .ok (.iconst 0, 1) := by decide +kernel
theorem dL_releases_71 : decode cL_releases 71 = .ok (.ireturn, 1) := by decide +kernel
theorem dL_releases_72 : decode cL_releases 72 = .ok (.iload 7, 2) := by decide +kernel
theorem dL_releases_74 : decode cL_releases 74 = .ok (.aload_n 3, 1) := by decide +kernel
theorem dL_releases_75 : decode cL_releases 75 = .ok (.iconst 3, 1) := by decide +kernel
theorem dL_releases_76 : decode cL_releases 76 = .ok (.iload 4, 2) := by decide +kernel
theorem dL_releases_78 : decode cL_releases 78 = .ok (.imul, 1) := by decide +kernel
theorem dL_releases_79 : decode cL_releases 79 = .ok (.iconst 2, 1) := by decide +kernel
theorem dL_releases_80 : decode cL_releases 80 = .ok (.iadd, 1) := by decide +kernel
theorem dL_releases_81 : decode cL_releases 81 = .ok (.iaload, 1) := by decide +kernel
theorem dL_releases_82 : decode cL_releases 82 = .ok (.ifCond .ne 7, 3) := by decide +kernel
theorem dL_releases_85 : decode cL_releases 85 = .ok (.iconst 0, 1) := by decide +kernel
theorem dL_releases_86 : decode cL_releases 86 = .ok (.goto 4, 3) := by decide +kernel
theorem dL_releases_89 : decode cL_releases 89 = .ok (.iconst 1, 1) := by decide +kernel
theorem dL_releases_90 : decode cL_releases 90 = .ok (.if_icmp .ne 48, 3) := by decide +kernel
theorem dL_releases_93 : decode cL_releases 93 = .ok (.aload_n 0, 1) := by decide +kernel
theorem dL_releases_94 : decode cL_releases 94 = .ok (.iload 4, 2) := by decide +kernel
theorem dL_releases_96 : decode cL_releases 96 = .ok (.iconst 0, 1) := by decide +kernel
theorem dL_releases_97 : decode cL_releases 97 = .ok (.invokevirtual 20, 3) := by decide +kernel
theorem dL_releases_100 : decode cL_releases 100 = .ok (.iload 7, 2) := by decide +kernel
theorem dL_releases_102 : decode cL_releases 102 = .ok (.if_icmp .ne 36, 3) := by decide +kernel
theorem dL_releases_105 : decode cL_releases 105 = .ok (.aload_n 0, 1) := by decide +kernel
theorem dL_releases_106 : decode cL_releases 106 = .ok (.iload 4, 2) := by decide +kernel
theorem dL_releases_108 : decode cL_releases 108 = .ok (.iconst 1, 1) := by decide +kernel
theorem dL_releases_109 : decode cL_releases 109 = .ok (.invokevirtual 20, 3) := by decide +kernel
theorem dL_releases_112 : decode cL_releases 112 = .ok (.iload 7, 2) := by decide +kernel
theorem dL_releases_114 : decode cL_releases 114 = .ok (.if_icmp .ne 24, 3) := by decide +kernel
theorem dL_releases_117 : decode cL_releases 117 = .ok (.iload 7, 2) := by decide +kernel
theorem dL_releases_119 : decode cL_releases 119 = .ok (.ifCond .eq 15, 3) := by decide +kernel
theorem dL_releases_122 : decode cL_releases 122 = .ok (.aload_n 0, 1) := by decide +kernel
theorem dL_releases_123 : decode cL_releases 123 = .ok (.iload 4, 2) := by decide +kernel
theorem dL_releases_125 : decode cL_releases 125 = .ok (.iconst 3, 1) := by decide +kernel
theorem dL_releases_126 : decode cL_releases 126 = .ok (.invokevirtual 20, 3) := by decide +kernel
theorem dL_releases_129 : decode cL_releases 129 = .ok (.iload 6, 2) := by decide +kernel
theorem dL_releases_131 : decode cL_releases 131 = .ok (.if_icmp .ne 7, 3) := by decide +kernel
theorem dL_releases_134 : decode cL_releases 134 = .ok (.iconst 1, 1) := by decide +kernel
theorem dL_releases_135 : decode cL_releases 135 = .ok (.goto 4, 3) := by decide +kernel
theorem dL_releases_138 : decode cL_releases 138 = .ok (.iconst 0, 1) := by decide +kernel
theorem dL_releases_139 : decode cL_releases 139 = .ok (.ireturn, 1) := by decide +kernel
theorem dL_passes_0 : decode cL_passes 0 = .ok (.iconst 1, 1) := by decide +kernel
theorem dL_passes_1 : decode cL_passes 1 = .ok (.iload_n 1, 1) := by decide +kernel
theorem dL_passes_2 : decode cL_passes 2 = .ok (.bipush 20, 2) := by decide +kernel
theorem dL_passes_4 : decode cL_passes 4 = .ok (.irem, 1) := by decide +kernel
theorem dL_passes_5 : decode cL_passes 5 = .ok (.iadd, 1) := by decide +kernel
theorem dL_passes_6 : decode cL_passes 6 = .ok (.istore 4, 2) := by decide +kernel
theorem dL_passes_8 : decode cL_passes 8 = .ok (.iconst 1, 1) := by decide +kernel
theorem dL_passes_9 : decode cL_passes 9 = .ok (.istore 5, 2) := by decide +kernel
theorem dL_passes_11 : decode cL_passes 11 = .ok (.bipush 6, 2) := by decide +kernel
theorem dL_passes_13 : decode cL_passes 13 = .ok (.newarray .int, 2) := by decide +kernel
theorem dL_passes_15 : decode cL_passes 15 = .ok (.astore 6, 2) := by decide +kernel
theorem dL_passes_17 : decode cL_passes 17 = .ok (.iconst 0, 1) := by decide +kernel
theorem dL_passes_18 : decode cL_passes 18 = .ok (.istore 7, 2) := by decide +kernel
theorem dL_passes_20 : decode cL_passes 20 = .ok (.iload 7, 2) := by decide +kernel
theorem dL_passes_22 : decode cL_passes 22 = .ok (.aload_n 2, 1) := by decide +kernel
theorem dL_passes_23 : decode cL_passes 23 = .ok (.iconst 1, 1) := by decide +kernel
theorem dL_passes_24 : decode cL_passes 24 = .ok (.iaload, 1) := by decide +kernel
theorem dL_passes_25 : decode cL_passes 25 = .ok (.if_icmp .ge 21, 3) := by decide +kernel
theorem dL_passes_28 : decode cL_passes 28 = .ok (.aload 6, 2) := by decide +kernel
theorem dL_passes_30 : decode cL_passes 30 = .ok (.iload 7, 2) := by decide +kernel
theorem dL_passes_32 : decode cL_passes 32 = .ok (.aload_n 0, 1) := by decide +kernel
theorem dL_passes_33 : decode cL_passes 33 = .ok (.iload 7, 2) := by decide +kernel
theorem dL_passes_35 : decode cL_passes 35 = .ok (.iconst 2, 1) := by decide +kernel
theorem dL_passes_36 : decode cL_passes 36 = .ok (.invokevirtual 20, 3) := by decide +kernel
theorem dL_passes_39 : decode cL_passes 39 = .ok (.iastore, 1) := by decide +kernel
theorem dL_passes_40 : decode cL_passes 40 = .ok (.iinc 7 1, 3) := by decide +kernel
theorem dL_passes_43 : decode cL_passes 43 = .ok (.goto (-23), 3) := by decide +kernel
theorem dL_passes_46 : decode cL_passes 46 = .ok (.aload_n 2, 1) := by decide +kernel
theorem dL_passes_47 : decode cL_passes 47 = .ok (.iconst 3, 1) := by decide +kernel
theorem dL_passes_48 : decode cL_passes 48 = .ok (.dup2, 1) := by decide +kernel
theorem dL_passes_49 : decode cL_passes 49 = .ok (.iaload, 1) := by decide +kernel
theorem dL_passes_50 : decode cL_passes 50 = .ok (.iload 4, 2) := by decide +kernel
theorem dL_passes_52 : decode cL_passes 52 = .ok (.iadd, 1) := by decide +kernel
theorem dL_passes_53 : decode cL_passes 53 = .ok (.iastore, 1) := by decide +kernel
theorem dL_passes_54 : decode cL_passes 54 = .ok (.aload_n 0, 1) := by decide +kernel
theorem dL_passes_55 : decode cL_passes 55 = .ok (.iload 4, 2) := by decide +kernel
theorem dL_passes_57 : decode cL_passes 57 = .ok (.invokevirtual 128, 3) := by decide +kernel
theorem dL_passes_60 : decode cL_passes 60 = .ok (.aload_n 2, 1) := by decide +kernel
theorem dL_passes_61 : decode cL_passes 61 = .ok (.iconst 3, 1) := by decide +kernel
theorem dL_passes_62 : decode cL_passes 62 = .ok (.iaload, 1) := by decide +kernel
theorem dL_passes_63 : decode cL_passes 63 = .ok (.if_icmp .ne 7, 3) := by decide +kernel
theorem dL_passes_66 : decode cL_passes 66 = .ok (.iconst 1, 1) := by decide +kernel
theorem dL_passes_67 : decode cL_passes 67 = .ok (.goto 4, 3) := by decide +kernel
theorem dL_passes_70 : decode cL_passes 70 = .ok (.iconst 0, 1) := by decide +kernel
theorem dL_passes_71 : decode cL_passes 71 = .ok (.istore 5, 2) := by decide +kernel
theorem dL_passes_73 : decode cL_passes 73 = .ok (.iconst 0, 1) := by decide +kernel
theorem dL_passes_74 : decode cL_passes 74 = .ok (.istore 7, 2) := by decide +kernel
theorem dL_passes_76 : decode cL_passes 76 = .ok (.iload 7, 2) := by decide +kernel
theorem dL_passes_78 : decode cL_passes 78 = .ok (.aload_n 2, 1) := by decide +kernel
theorem dL_passes_79 : decode cL_passes 79 = .ok (.iconst 1, 1) := by decide +kernel
theorem dL_passes_80 : decode cL_passes 80 = .ok (.iaload, 1) := by decide +kernel
theorem dL_passes_81 : decode cL_passes 81 = .ok (.if_icmp .ge 109, 3) := by decide +kernel
theorem dL_passes_84 : decode cL_passes 84 = .ok (.iload 5, 2) := by decide +kernel
theorem dL_passes_86 : decode cL_passes 86 = .ok (.ifCond .eq 104, 3) := by decide +kernel
theorem dL_passes_89 : decode cL_passes 89 = .ok (.aload_n 0, 1) := by decide +kernel
theorem dL_passes_90 : decode cL_passes 90 = .ok (.iload 7, 2) := by decide +kernel
theorem dL_passes_92 : decode cL_passes 92 = .ok (.iconst 2, 1) := by decide +kernel
theorem dL_passes_93 : decode cL_passes 93 = .ok (.invokevirtual 20, 3) := by decide +kernel
theorem dL_passes_96 : decode cL_passes 96 = .ok (.istore 8, 2) := by decide +kernel
theorem dL_passes_98 : decode cL_passes 98 = .ok (.iload 8, 2) := by decide +kernel
theorem dL_passes_100 : decode cL_passes 100 = .ok (.aload 6, 2) := by decide +kernel
theorem dL_passes_102 : decode cL_passes 102 = .ok (.iload 7, 2) := by decide +kernel
theorem dL_passes_104 : decode cL_passes 104 = .ok (.iaload, 1) := by decide +kernel
theorem dL_passes_105 : decode cL_passes 105 = .ok (.if_icmp .eq 20, 3) := by decide +kernel
theorem dL_passes_108 : decode cL_passes 108 = .ok (.iload 8, 2) := by decide +kernel
theorem dL_passes_110 : decode cL_passes 110 = .ok (.iconst (-1), 1) := by decide +kernel
theorem dL_passes_111 : decode cL_passes 111 = .ok (.if_icmp .eq 14, 3) := by decide +kernel
theorem dL_passes_114 : decode cL_passes 114 = .ok (.iload 8, 2) := by decide +kernel
theorem dL_passes_116 : decode cL_passes 116 = .ok (.aload_n 2, 1) := by decide +kernel
theorem dL_passes_117 : decode cL_passes 117 = .ok (.iconst 3, 1) := by decide +kernel
theorem dL_passes_118 : decode cL_passes 118 = .ok (.iaload, 1) := by decide +kernel
theorem dL_passes_119 : decode cL_passes 119 = .ok (.iload 4, 2) := by decide +kernel
theorem dL_passes_121 : decode cL_passes 121 = .ok (.isub, 1) := by decide +kernel
theorem dL_passes_122 : decode cL_passes 122 = .ok (.if_icmp .le 7, 3) := by decide +kernel
theorem dL_passes_125 : decode cL_passes 125 = .ok (.iconst 1, 1) := by decide +kernel
theorem dL_passes_126 : decode cL_passes 126 = .ok (.goto 4, 3) := by decide +kernel
theorem dL_passes_129 : decode cL_passes 129 = .ok (.iconst 0, 1) := by decide +kernel
theorem dL_passes_130 : decode cL_passes 130 = .ok (.istore 5, 2) := by decide +kernel
theorem dL_passes_132 : decode cL_passes 132 = .ok (.iload 5, 2) := by decide +kernel
theorem dL_passes_134 : decode cL_passes 134 = .ok (.ifCond .eq 47, 3) := by decide +kernel
theorem dL_passes_137 : decode cL_passes 137 = .ok (.aload_n 0, 1) := by decide +kernel
theorem dL_passes_138 : decode cL_passes 138 = .ok (.iload 7, 2) := by decide +kernel
theorem dL_passes_140 : decode cL_passes 140 = .ok (.iconst 1, 1) := by decide +kernel
theorem dL_passes_141 : decode cL_passes 141 = .ok (.invokevirtual 20, 3) := by decide +kernel
theorem dL_passes_144 : decode cL_passes 144 = .ok (.ifCond .eq 33, 3) := by decide +kernel
theorem dL_passes_147 : decode cL_passes 147 = .ok (.iload 8, 2) := by decide +kernel
theorem dL_passes_149 : decode cL_passes 149 = .ok (.iconst (-1), 1) := by decide +kernel
theorem dL_passes_150 : decode cL_passes 150 = .ok (.if_icmp .eq 27, 3) := by decide +kernel
theorem dL_passes_153 : decode cL_passes 153 = .ok (.iload 8, 2) := by decide +kernel
theorem dL_passes_155 : decode cL_passes 155 = .ok (.aload_n 2, 1) := by decide +kernel
theorem dL_passes_156 : decode cL_passes 156 = .ok (.iconst 3, 1) := by decide +kernel
theorem dL_passes_157 : decode cL_passes 157 = .ok (.iaload, 1) := by decide +kernel
theorem dL_passes_158 : decode cL_passes 158 = .ok (.iload 4, 2) := by decide +kernel
theorem dL_passes_160 : decode cL_passes 160 = .ok (.isub, 1) := by decide +kernel
theorem dL_passes_161 : decode cL_passes 161 = .ok (.if_icmp .gt 16, 3) := by decide +kernel
theorem dL_passes_164 : decode cL_passes 164 = .ok (.iload 4, 2) := by decide +kernel
theorem dL_passes_166 : decode cL_passes 166 = .ok (.aload_n 3, 1) := by decide +kernel
theorem dL_passes_167 : decode cL_passes 167 = .ok (.iconst 3, 1) := by decide +kernel
theorem dL_passes_168 : decode cL_passes 168 = .ok (.iload 7, 2) := by decide +kernel
theorem dL_passes_170 : decode cL_passes 170 = .ok (.imul, 1) := by decide +kernel
theorem dL_passes_171 : decode cL_passes 171 = .ok (.iconst 2, 1) := by decide +kernel
theorem dL_passes_172 : decode cL_passes 172 = .ok (.iadd, 1) := by decide +kernel
theorem dL_passes_173 : decode cL_passes 173 = .ok (.iaload, 1) := by decide +kernel
theorem dL_passes_174 : decode cL_passes 174 = .ok (.if_icmp .ge 7, 3) := by decide +kernel
theorem dL_passes_177 : decode cL_passes 177 = .ok (.iconst 1, 1) := by decide +kernel
theorem dL_passes_178 : decode cL_passes 178 = .ok (.goto 4, 3) := by decide +kernel
theorem dL_passes_181 : decode cL_passes 181 = .ok (.iconst 0, 1) := by decide +kernel
theorem dL_passes_182 : decode cL_passes 182 = .ok (.istore 5, 2) := by decide +kernel
theorem dL_passes_184 : decode cL_passes 184 = .ok (.iinc 7 1, 3) := by decide +kernel
theorem dL_passes_187 : decode cL_passes 187 = .ok (.goto (-111), 3) := by decide +kernel
theorem dL_passes_190 : decode cL_passes 190 = .ok (.iload 5, 2) := by decide +kernel
theorem dL_passes_192 : decode cL_passes 192 = .ok (.ireturn, 1) := by decide +kernel
theorem dL_others_0 : decode cL_others 0 = .ok (.iload_n 1, 1) := by decide +kernel
theorem dL_others_1 : decode cL_others 1 = .ok (.bipush 6, 2) := by decide +kernel
theorem dL_others_3 : decode cL_others 3 = .ok (.irem, 1) := by decide +kernel
theorem dL_others_4 : decode cL_others 4 = .ok (.istore 8, 2) := by decide +kernel
theorem dL_others_6 : decode cL_others 6 = .ok (.iload 8, 2) := by decide +kernel
theorem dL_others_8 : decode cL_others 8 = .ok (.ifCond .ne 66, 3) := by decide +kernel
theorem dL_others_11 : decode cL_others 11 = .ok (.iload_n 2, 1) := by decide +kernel
theorem dL_others_12 : decode cL_others 12 = .ok (.aload_n 3, 1) := by decide +kernel
theorem dL_others_13 : decode cL_others 13 = .ok (.iconst 0, 1) := by decide +kernel
theorem dL_others_14 : decode cL_others 14 = .ok (.iaload, 1) := by decide +kernel
theorem dL_others_15 : decode cL_others 15 = .ok (.irem, 1) := by decide +kernel
theorem dL_others_16 : decode cL_others 16 = .ok (.istore 9, 2) := by decide +kernel
theorem dL_others_18 : decode cL_others 18 = .ok (.aload 4, 2) := by decide +kernel
theorem dL_others_20 : decode cL_others 20 = .ok (.bipush 6, 2) := by decide +kernel
theorem dL_others_22 : decode cL_others 22 = .ok (.iload 9, 2) := by decide +kernel
theorem dL_others_24 : decode cL_others 24 = .ok (.imul, 1) := by decide +kernel
theorem dL_others_25 : decode cL_others 25 = .ok (.iconst 5, 1) := by decide +kernel
theorem dL_others_26 : decode cL_others 26 = .ok (.iadd, 1) := by decide +kernel
theorem dL_others_27 : decode cL_others 27 = .ok (.iconst 1, 1) := by decide +kernel
theorem dL_others_28 : decode cL_others 28 = .ok (.aload 4, 2) := by decide +kernel
theorem dL_others_30 : decode cL_others 30 = .ok (.bipush 6, 2) := by decide +kernel
theorem dL_others_32 : decode cL_others 32 = .ok (.iload 9, 2) := by decide +kernel
theorem dL_others_34 : decode cL_others 34 = .ok (.imul, 1) := by decide +kernel
theorem dL_others_35 : decode cL_others 35 = .ok (.iconst 5, 1) := by decide +kernel
theorem dL_others_36 : decode cL_others 36 = .ok (.iadd, 1) := by decide +kernel
theorem dL_others_37 : decode cL_others 37 = .ok (.iaload, 1) := by decide +kernel
theorem dL_others_38 : decode cL_others 38 = .ok (.isub, 1) := by decide +kernel
theorem dL_others_39 : decode cL_others 39 = .ok (.iastore, 1) := by decide +kernel
theorem dL_others_40 : decode cL_others 40 = .ok (.aload_n 0, 1) := by decide +kernel
theorem dL_others_41 : decode cL_others 41 = .ok (.iload 9, 2) := by decide +kernel
theorem dL_others_43 : decode cL_others 43 = .ok (.invokevirtual 131, 3) := by decide +kernel
theorem dL_others_46 : decode cL_others 46 = .ok (.aload 4, 2) := by decide +kernel
theorem dL_others_48 : decode cL_others 48 = .ok (.bipush 6, 2) := by decide +kernel
theorem dL_others_50 : decode cL_others 50 = .ok (.iload 9, 2) := by decide +kernel
theorem dL_others_52 : decode cL_others 52 = .ok (.imul, 1) := by decide +kernel
theorem dL_others_53 : decode cL_others 53 = .ok (.iconst 5, 1) := by decide +kernel
theorem dL_others_54 : decode cL_others 54 = .ok (.iadd, 1) := by decide +kernel
theorem dL_others_55 : decode cL_others 55 = .ok (.iaload, 1) := by decide +kernel
theorem dL_others_56 : decode cL_others 56 = .ok (.iconst 1, 1) := by decide +kernel
theorem dL_others_57 : decode cL_others 57 = .ok (.if_icmp .ne 7, 3) := by decide +kernel
theorem dL_others_60 : decode cL_others 60 = .ok (.iconst 1, 1) := by decide +kernel
theorem dL_others_61 : decode cL_others 61 = .ok (.goto 4, 3) := by decide +kernel
theorem dL_others_64 : decode cL_others 64 = .ok (.iconst 0, 1) := by decide +kernel
theorem dL_others_65 : decode cL_others 65 = .ok (.if_icmp .ne 7, 3) := by decide +kernel
theorem dL_others_68 : decode cL_others 68 = .ok (.iconst 1, 1) := by decide +kernel
theorem dL_others_69 : decode cL_others 69 = .ok (.goto 4, 3) := by decide +kernel
theorem dL_others_72 : decode cL_others 72 = .ok (.iconst 0, 1) := by decide +kernel
theorem dL_others_73 : decode cL_others 73 = .ok (.ireturn, 1) := by decide +kernel
theorem dL_others_74 : decode cL_others 74 = .ok (.iload 8, 2) := by decide +kernel
theorem dL_others_76 : decode cL_others 76 = .ok (.iconst 1, 1) := by decide +kernel
theorem dL_others_77 : decode cL_others 77 = .ok (.if_icmp .ne 82, 3) := by decide +kernel
theorem dL_others_80 : decode cL_others 80 = .ok (.aload_n 3, 1) := by decide +kernel
theorem dL_others_81 : decode cL_others 81 = .ok (.iconst 2, 1) := by decide +kernel
theorem dL_others_82 : decode cL_others 82 = .ok (.iload_n 2, 1) := by decide +kernel
theorem dL_others_83 : decode cL_others 83 = .ok (.iconst 4, 1) := by decide +kernel
theorem dL_others_84 : decode cL_others 84 = .ok (.irem, 1) := by decide +kernel
theorem dL_others_85 : decode cL_others 85 = .ok (.ifCond .ne 8, 3) := by decide +kernel
theorem dL_others_88 : decode cL_others 88 = .ok (.bipush 15, 2) := by decide +kernel
theorem dL_others_90 : decode cL_others 90 = .ok (.goto 9, 3) := by decide +kernel
theorem dL_others_93 : decode cL_others 93 = .ok (.iload_n 2, 1) := by decide +kernel
theorem dL_others_94 : decode cL_others 94 = .ok (.iconst 4, 1) := by decide +kernel
theorem dL_others_95 : decode cL_others 95 = .ok (.idiv, 1) := by decide +kernel
theorem dL_others_96 : decode cL_others 96 = .ok (.bipush 16, 2) := by decide +kernel
theorem dL_others_98 : decode cL_others 98 = .ok (.irem, 1) := by decide +kernel
theorem dL_others_99 : decode cL_others 99 = .ok (.iastore, 1) := by decide +kernel
theorem dL_others_100 : decode cL_others 100 = .ok (.iconst 0, 1) := by decide +kernel
theorem dL_others_101 : decode cL_others 101 = .ok (.istore 9, 2) := by decide +kernel
theorem dL_others_103 : decode cL_others 103 = .ok (.iconst 0, 1) := by decide +kernel
theorem dL_others_104 : decode cL_others 104 = .ok (.istore 10, 2) := by decide +kernel
theorem dL_others_106 : decode cL_others 106 = .ok (.iload 10, 2) := by decide +kernel
theorem dL_others_108 : decode cL_others 108 = .ok (.aload_n 3, 1) := by decide +kernel
theorem dL_others_109 : decode cL_others 109 = .ok (.iconst 0, 1) := by decide +kernel
theorem dL_others_110 : decode cL_others 110 = .ok (.iaload, 1) := by decide +kernel
theorem dL_others_111 : decode cL_others 111 = .ok (.if_icmp .ge 30, 3) := by decide +kernel
theorem dL_others_114 : decode cL_others 114 = .ok (.iload 9, 2) := by decide +kernel
theorem dL_others_116 : decode cL_others 116 = .ok (.aload_n 3, 1) := by decide +kernel
theorem dL_others_117 : decode cL_others 117 = .ok (.aload 4, 2) := by decide +kernel
theorem dL_others_119 : decode cL_others 119 = .ok (.iload 10, 2) := by decide +kernel
theorem dL_others_121 : decode cL_others 121 = .ok (.invokestatic 69, 3) := by decide +kernel
theorem dL_others_124 : decode cL_others 124 = .ok (.ifCond .eq 7, 3) := by decide +kernel
theorem dL_others_127 : decode cL_others 127 = .ok (.iconst 1, 1) := by decide +kernel
theorem dL_others_128 : decode cL_others 128 = .ok (.goto 4, 3) := by decide +kernel
theorem dL_others_131 : decode cL_others 131 = .ok (.iconst 0, 1) := by decide +kernel
theorem dL_others_132 : decode cL_others 132 = .ok (.iadd, 1) := by decide +kernel
theorem dL_others_133 : decode cL_others 133 = .ok (.istore 9, 2) := by decide +kernel
theorem dL_others_135 : decode cL_others 135 = .ok (.iinc 10 1, 3) := by decide +kernel
theorem dL_others_138 : decode cL_others 138 = .ok (.goto (-32), 3) := by decide +kernel
theorem dL_others_141 : decode cL_others 141 = .ok (.aload_n 0, 1) := by decide +kernel
theorem dL_others_142 : decode cL_others 142 = .ok (.aload_n 3, 1) := by decide +kernel
theorem dL_others_143 : decode cL_others 143 = .ok (.iconst 2, 1) := by decide +kernel
theorem dL_others_144 : decode cL_others 144 = .ok (.iaload, 1) := by decide +kernel
theorem dL_others_145 : decode cL_others 145 = .ok (.invokevirtual 134, 3) := by decide +kernel
theorem dL_others_148 : decode cL_others 148 = .ok (.iload 9, 2) := by decide +kernel
theorem dL_others_150 : decode cL_others 150 = .ok (.if_icmp .ne 7, 3) := by decide +kernel
theorem dL_others_153 : decode cL_others 153 = .ok (.iconst 1, 1) := by decide +kernel
theorem dL_others_154 : decode cL_others 154 = .ok (.goto 4, 3) := by decide +kernel
theorem dL_others_157 : decode cL_others 157 = .ok (.iconst 0, 1) := by decide +kernel
theorem dL_others_158 : decode cL_others 158 = .ok (.ireturn, 1) := by decide +kernel
theorem dL_others_159 : decode cL_others 159 = .ok (.iload 8, 2) := by decide +kernel
theorem dL_others_161 : decode cL_others 161 = .ok (.iconst 2, 1) := by decide +kernel
theorem dL_others_162 : decode cL_others 162 = .ok (.if_icmp .ne 52, 3) := by decide +kernel
theorem dL_others_165 : decode cL_others 165 = .ok (.aload 6, 2) := by decide +kernel
theorem dL_others_167 : decode cL_others 167 = .ok (.iload_n 2, 1) := by decide +kernel
theorem dL_others_168 : decode cL_others 168 = .ok (.iconst 3, 1) := by decide +kernel
theorem dL_others_169 : decode cL_others 169 = .ok (.irem, 1) := by decide +kernel
theorem dL_others_170 : decode cL_others 170 = .ok (.iaload, 1) := by decide +kernel
theorem dL_others_171 : decode cL_others 171 = .ok (.istore 9, 2) := by decide +kernel
theorem dL_others_173 : decode cL_others 173 = .ok (.aload 6, 2) := by decide +kernel
theorem dL_others_175 : decode cL_others 175 = .ok (.iload_n 2, 1) := by decide +kernel
theorem dL_others_176 : decode cL_others 176 = .ok (.iconst 3, 1) := by decide +kernel
theorem dL_others_177 : decode cL_others 177 = .ok (.irem, 1) := by decide +kernel
theorem dL_others_178 : decode cL_others 178 = .ok (.sipush 200, 3) := by decide +kernel
theorem dL_others_181 : decode cL_others 181 = .ok (.iload_n 2, 1) := by decide +kernel
theorem dL_others_182 : decode cL_others 182 = .ok (.iconst 3, 1) := by decide +kernel
theorem dL_others_183 : decode cL_others 183 = .ok (.idiv, 1) := by decide +kernel
theorem dL_others_184 : decode cL_others 184 = .ok (.sipush 5000, 3) := by decide +kernel
theorem dL_others_187 : decode cL_others 187 = .ok (.irem, 1) := by decide +kernel
theorem dL_others_188 : decode cL_others 188 = .ok (.iadd, 1) := by decide +kernel
theorem dL_others_189 : decode cL_others 189 = .ok (.iastore, 1) := by decide +kernel
theorem dL_others_190 : decode cL_others 190 = .ok (.aload_n 0, 1) := by decide +kernel
theorem dL_others_191 : decode cL_others 191 = .ok (.iload_n 2, 1) := by decide +kernel
theorem dL_others_192 : decode cL_others 192 = .ok (.iconst 3, 1) := by decide +kernel
theorem dL_others_193 : decode cL_others 193 = .ok (.irem, 1) := by decide +kernel
theorem dL_others_194 : decode cL_others 194 = .ok (.aload 6, 2) := by decide +kernel
theorem dL_others_196 : decode cL_others 196 = .ok (.iload_n 2, 1) := by decide +kernel
theorem dL_others_197 : decode cL_others 197 = .ok (.iconst 3, 1) := by decide +kernel
theorem dL_others_198 : decode cL_others 198 = .ok (.irem, 1) := by decide +kernel
theorem dL_others_199 : decode cL_others 199 = .ok (.iaload, 1) := by decide +kernel
theorem dL_others_200 : decode cL_others 200 = .ok (.invokevirtual 137, 3) := by decide +kernel
theorem dL_others_203 : decode cL_others 203 = .ok (.iload 9, 2) := by decide +kernel
theorem dL_others_205 : decode cL_others 205 = .ok (.if_icmp .ne 7, 3) := by decide +kernel
theorem dL_others_208 : decode cL_others 208 = .ok (.iconst 1, 1) := by decide +kernel
theorem dL_others_209 : decode cL_others 209 = .ok (.goto 4, 3) := by decide +kernel
theorem dL_others_212 : decode cL_others 212 = .ok (.iconst 0, 1) := by decide +kernel
theorem dL_others_213 : decode cL_others 213 = .ok (.ireturn, 1) := by decide +kernel
theorem dL_others_214 : decode cL_others 214 = .ok (.iload 8, 2) := by decide +kernel
theorem dL_others_216 : decode cL_others 216 = .ok (.iconst 3, 1) := by decide +kernel
theorem dL_others_217 : decode cL_others 217 = .ok (.if_icmp .ne 56, 3) := by decide +kernel
theorem dL_others_220 : decode cL_others 220 = .ok (.iload_n 2, 1) := by decide +kernel
theorem dL_others_221 : decode cL_others 221 = .ok (.bipush 6, 2) := by decide +kernel
theorem dL_others_223 : decode cL_others 223 = .ok (.idiv, 1) := by decide +kernel
theorem dL_others_224 : decode cL_others 224 = .ok (.bipush 7, 2) := by decide +kernel
theorem dL_others_226 : decode cL_others 226 = .ok (.irem, 1) := by decide +kernel
theorem dL_others_227 : decode cL_others 227 = .ok (.iconst 1, 1) := by decide +kernel
theorem dL_others_228 : decode cL_others 228 = .ok (.isub, 1) := by decide +kernel
theorem dL_others_229 : decode cL_others 229 = .ok (.istore 9, 2) := by decide +kernel
theorem dL_others_231 : decode cL_others 231 = .ok (.aload_n 0, 1) := by decide +kernel
theorem dL_others_232 : decode cL_others 232 = .ok (.iload_n 2, 1) := by decide +kernel
theorem dL_others_233 : decode cL_others 233 = .ok (.aload_n 3, 1) := by decide +kernel
theorem dL_others_234 : decode cL_others 234 = .ok (.iconst 1, 1) := by decide +kernel
theorem dL_others_235 : decode cL_others 235 = .ok (.iaload, 1) := by decide +kernel
theorem dL_others_236 : decode cL_others 236 = .ok (.irem, 1) := by decide +kernel
theorem dL_others_237 : decode cL_others 237 = .ok (.iload 9, 2) := by decide +kernel
theorem dL_others_239 : decode cL_others 239 = .ok (.aload_n 3, 1) := by decide +kernel
theorem dL_others_240 : decode cL_others 240 = .ok (.iconst 1, 1) := by decide +kernel
theorem dL_others_241 : decode cL_others 241 = .ok (.iaload, 1) := by decide +kernel
theorem dL_others_242 : decode cL_others 242 = .ok (.if_icmp .lt 7, 3) := by decide +kernel
theorem dL_others_245 : decode cL_others 245 = .ok (.iconst (-1), 1) := by decide +kernel
theorem dL_others_246 : decode cL_others 246 = .ok (.goto 5, 3) := by decide +kernel
theorem dL_others_249 : decode cL_others 249 = .ok (.iload 9, 2) := by decide +kernel
theorem dL_others_251 : decode cL_others 251 = .ok (.iconst 1, 1) := by decide +kernel
theorem dL_others_252 : decode cL_others 252 = .ok (.iload_n 2, 1) := by decide +kernel
theorem dL_others_253 : decode cL_others 253 = .ok (.bipush 42, 2) := by decide +kernel
theorem dL_others_255 : decode cL_others 255 = .ok (.idiv, 1) := by decide +kernel
theorem dL_others_256 : decode cL_others 256 = .ok (.bipush 12, 2) := by decide +kernel
theorem dL_others_258 : decode cL_others 258 = .ok (.irem, 1) := by decide +kernel
theorem dL_others_259 : decode cL_others 259 = .ok (.iadd, 1) := by decide +kernel
theorem dL_others_260 : decode cL_others 260 = .ok (.invokevirtual 139, 3) := by decide +kernel
theorem dL_others_263 : decode cL_others 263 = .ok (.iconst (-1), 1) := by decide +kernel
theorem dL_others_264 : decode cL_others 264 = .ok (.if_icmp .lt 7, 3) := by decide +kernel
theorem dL_others_267 : decode cL_others 267 = .ok (.iconst 1, 1) := by decide +kernel
theorem dL_others_268 : decode cL_others 268 = .ok (.goto 4, 3) := by decide +kernel
theorem dL_others_271 : decode cL_others 271 = .ok (.iconst 0, 1) := by decide +kernel
