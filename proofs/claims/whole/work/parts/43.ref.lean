-- ExactCurvesModel.join(IIJJ)J
theorem dq_M_join_0 : decode prog_10_method_24_code 0 = .ok (.iload_n 1, 1) := by decide +kernel
theorem dq_M_join_1 : decode prog_10_method_24_code 1 = .ok (.invokestatic 166, 3) := by decide +kernel
theorem dq_M_join_4 : decode prog_10_method_24_code 4 = .ok (.ifCond .eq 24, 3) := by decide +kernel
theorem dq_M_join_7 : decode prog_10_method_24_code 7 = .ok (.aload_n 0, 1) := by decide +kernel
theorem dq_M_join_8 : decode prog_10_method_24_code 8 = .ok (.iload_n 2, 1) := by decide +kernel
theorem dq_M_join_9 : decode prog_10_method_24_code 9 = .ok (.invokevirtual 186, 3) := by decide +kernel
theorem dq_M_join_12 : decode prog_10_method_24_code 12 = .ok (.ifCond .eq 16, 3) := by decide +kernel
theorem dq_M_join_15 : decode prog_10_method_24_code 15 = .ok (.lload_n 3, 1) := by decide +kernel
theorem dq_M_join_16 : decode prog_10_method_24_code 16 = .ok (.lconst 1, 1) := by decide +kernel
theorem dq_M_join_17 : decode prog_10_method_24_code 17 = .ok (.lcmp, 1) := by decide +kernel
theorem dq_M_join_18 : decode prog_10_method_24_code 18 = .ok (.ifCond .lt 10, 3) := by decide +kernel
theorem dq_M_join_21 : decode prog_10_method_24_code 21 = .ok (.lload 5, 2) := by decide +kernel
theorem dq_M_join_23 : decode prog_10_method_24_code 23 = .ok (.lconst 1, 1) := by decide +kernel
theorem dq_M_join_24 : decode prog_10_method_24_code 24 = .ok (.lcmp, 1) := by decide +kernel
theorem dq_M_join_25 : decode prog_10_method_24_code 25 = .ok (.ifCond .ge 7, 3) := by decide +kernel
theorem dq_M_join_28 : decode prog_10_method_24_code 28 = .ok (.ldc2_w 175, 3) := by decide +kernel
theorem dq_M_join_31 : decode prog_10_method_24_code 31 = .ok (.lreturn, 1) := by decide +kernel
theorem dq_M_join_32 : decode prog_10_method_24_code 32 = .ok (.aload_n 0, 1) := by decide +kernel
theorem dq_M_join_33 : decode prog_10_method_24_code 33 = .ok (.getfield 16, 3) := by decide +kernel
theorem dq_M_join_36 : decode prog_10_method_24_code 36 = .ok (.iconst 2, 1) := by decide +kernel
theorem dq_M_join_37 : decode prog_10_method_24_code 37 = .ok (.iload_n 2, 1) := by decide +kernel
theorem dq_M_join_38 : decode prog_10_method_24_code 38 = .ok (.imul, 1) := by decide +kernel
theorem dq_M_join_39 : decode prog_10_method_24_code 39 = .ok (.iaload, 1) := by decide +kernel
theorem dq_M_join_40 : decode prog_10_method_24_code 40 = .ok (.istore 7, 2) := by decide +kernel
theorem dq_M_join_42 : decode prog_10_method_24_code 42 = .ok (.aload_n 0, 1) := by decide +kernel
theorem dq_M_join_43 : decode prog_10_method_24_code 43 = .ok (.getfield 16, 3) := by decide +kernel
theorem dq_M_join_46 : decode prog_10_method_24_code 46 = .ok (.iconst 2, 1) := by decide +kernel
theorem dq_M_join_47 : decode prog_10_method_24_code 47 = .ok (.iload_n 2, 1) := by decide +kernel
theorem dq_M_join_48 : decode prog_10_method_24_code 48 = .ok (.imul, 1) := by decide +kernel
theorem dq_M_join_49 : decode prog_10_method_24_code 49 = .ok (.iconst 1, 1) := by decide +kernel
theorem dq_M_join_50 : decode prog_10_method_24_code 50 = .ok (.iadd, 1) := by decide +kernel
theorem dq_M_join_51 : decode prog_10_method_24_code 51 = .ok (.iaload, 1) := by decide +kernel
theorem dq_M_join_52 : decode prog_10_method_24_code 52 = .ok (.istore 8, 2) := by decide +kernel
theorem dq_M_join_54 : decode prog_10_method_24_code 54 = .ok (.aload_n 0, 1) := by decide +kernel
theorem dq_M_join_55 : decode prog_10_method_24_code 55 = .ok (.iload_n 1, 1) := by decide +kernel
theorem dq_M_join_56 : decode prog_10_method_24_code 56 = .ok (.iload 7, 2) := by decide +kernel
theorem dq_M_join_58 : decode prog_10_method_24_code 58 = .ok (.invokevirtual 148, 3) := by decide +kernel
theorem dq_M_join_61 : decode prog_10_method_24_code 61 = .ok (.lload_n 3, 1) := by decide +kernel
theorem dq_M_join_62 : decode prog_10_method_24_code 62 = .ok (.lcmp, 1) := by decide +kernel
theorem dq_M_join_63 : decode prog_10_method_24_code 63 = .ok (.ifCond .lt 16, 3) := by decide +kernel
theorem dq_M_join_66 : decode prog_10_method_24_code 66 = .ok (.aload_n 0, 1) := by decide +kernel
theorem dq_M_join_67 : decode prog_10_method_24_code 67 = .ok (.iload_n 1, 1) := by decide +kernel
theorem dq_M_join_68 : decode prog_10_method_24_code 68 = .ok (.iload 8, 2) := by decide +kernel
theorem dq_M_join_70 : decode prog_10_method_24_code 70 = .ok (.invokevirtual 148, 3) := by decide +kernel
theorem dq_M_join_73 : decode prog_10_method_24_code 73 = .ok (.lload 5, 2) := by decide +kernel
theorem dq_M_join_75 : decode prog_10_method_24_code 75 = .ok (.lcmp, 1) := by decide +kernel
theorem dq_M_join_76 : decode prog_10_method_24_code 76 = .ok (.ifCond .ge 7, 3) := by decide +kernel
theorem dq_M_join_79 : decode prog_10_method_24_code 79 = .ok (.ldc2_w 180, 3) := by decide +kernel
theorem dq_M_join_82 : decode prog_10_method_24_code 82 = .ok (.lreturn, 1) := by decide +kernel
theorem dq_M_join_83 : decode prog_10_method_24_code 83 = .ok (.aload_n 0, 1) := by decide +kernel
theorem dq_M_join_84 : decode prog_10_method_24_code 84 = .ok (.getfield 26, 3) := by decide +kernel
theorem dq_M_join_87 : decode prog_10_method_24_code 87 = .ok (.iconst 2, 1) := by decide +kernel
theorem dq_M_join_88 : decode prog_10_method_24_code 88 = .ok (.iload_n 2, 1) := by decide +kernel
theorem dq_M_join_89 : decode prog_10_method_24_code 89 = .ok (.imul, 1) := by decide +kernel
theorem dq_M_join_90 : decode prog_10_method_24_code 90 = .ok (.laload, 1) := by decide +kernel
theorem dq_M_join_91 : decode prog_10_method_24_code 91 = .ok (.lstore 9, 2) := by decide +kernel
theorem dq_M_join_93 : decode prog_10_method_24_code 93 = .ok (.aload_n 0, 1) := by decide +kernel
theorem dq_M_join_94 : decode prog_10_method_24_code 94 = .ok (.getfield 26, 3) := by decide +kernel
theorem dq_M_join_97 : decode prog_10_method_24_code 97 = .ok (.iconst 2, 1) := by decide +kernel
theorem dq_M_join_98 : decode prog_10_method_24_code 98 = .ok (.iload_n 2, 1) := by decide +kernel
theorem dq_M_join_99 : decode prog_10_method_24_code 99 = .ok (.imul, 1) := by decide +kernel
theorem dq_M_join_100 : decode prog_10_method_24_code 100 = .ok (.iconst 1, 1) := by decide +kernel
theorem dq_M_join_101 : decode prog_10_method_24_code 101 = .ok (.iadd, 1) := by decide +kernel
theorem dq_M_join_102 : decode prog_10_method_24_code 102 = .ok (.laload, 1) := by decide +kernel
theorem dq_M_join_103 : decode prog_10_method_24_code 103 = .ok (.lstore 11, 2) := by decide +kernel
theorem dq_M_join_105 : decode prog_10_method_24_code 105 = .ok (.aload_n 0, 1) := by decide +kernel
theorem dq_M_join_106 : decode prog_10_method_24_code 106 = .ok (.getfield 29, 3) := by decide +kernel
theorem dq_M_join_109 : decode prog_10_method_24_code 109 = .ok (.iload_n 2, 1) := by decide +kernel
theorem dq_M_join_110 : decode prog_10_method_24_code 110 = .ok (.laload, 1) := by decide +kernel
theorem dq_M_join_111 : decode prog_10_method_24_code 111 = .ok (.lstore 13, 2) := by decide +kernel
theorem dq_M_join_113 : decode prog_10_method_24_code 113 = .ok (.lload_n 3, 1) := by decide +kernel
theorem dq_M_join_114 : decode prog_10_method_24_code 114 = .ok (.lstore 17, 2) := by decide +kernel
theorem dq_M_join_116 : decode prog_10_method_24_code 116 = .ok (.lload 5, 2) := by decide +kernel
theorem dq_M_join_118 : decode prog_10_method_24_code 118 = .ok (.lstore 19, 2) := by decide +kernel
theorem dq_M_join_120 : decode prog_10_method_24_code 120 = .ok (.lload 13, 2) := by decide +kernel
theorem dq_M_join_122 : decode prog_10_method_24_code 122 = .ok (.lconst 0, 1) := by decide +kernel
theorem dq_M_join_123 : decode prog_10_method_24_code 123 = .ok (.lcmp, 1) := by decide +kernel
theorem dq_M_join_124 : decode prog_10_method_24_code 124 = .ok (.ifCond .ne 31, 3) := by decide +kernel
theorem dq_M_join_127 : decode prog_10_method_24_code 127 = .ok (.aload_n 0, 1) := by decide +kernel
theorem dq_M_join_128 : decode prog_10_method_24_code 128 = .ok (.getfield 20, 3) := by decide +kernel
theorem dq_M_join_131 : decode prog_10_method_24_code 131 = .ok (.iload_n 2, 1) := by decide +kernel
theorem dq_M_join_132 : decode prog_10_method_24_code 132 = .ok (.iaload, 1) := by decide +kernel
theorem dq_M_join_133 : decode prog_10_method_24_code 133 = .ok (.ifCond .ne 13, 3) := by decide +kernel
theorem dq_M_join_136 : decode prog_10_method_24_code 136 = .ok (.aload_n 0, 1) := by decide +kernel
theorem dq_M_join_137 : decode prog_10_method_24_code 137 = .ok (.lload_n 3, 1) := by decide +kernel
theorem dq_M_join_138 : decode prog_10_method_24_code 138 = .ok (.lload 5, 2) := by decide +kernel
theorem dq_M_join_140 : decode prog_10_method_24_code 140 = .ok (.invokevirtual 196, 3) := by decide +kernel
theorem dq_M_join_143 : decode prog_10_method_24_code 143 = .ok (.goto 7, 3) := by decide +kernel
theorem dq_M_join_146 : decode prog_10_method_24_code 146 = .ok (.lload_n 3, 1) := by decide +kernel
theorem dq_M_join_147 : decode prog_10_method_24_code 147 = .ok (.lload 5, 2) := by decide +kernel
theorem dq_M_join_149 : decode prog_10_method_24_code 149 = .ok (.ladd, 1) := by decide +kernel
theorem dq_M_join_150 : decode prog_10_method_24_code 150 = .ok (.lstore 15, 2) := by decide +kernel
theorem dq_M_join_152 : decode prog_10_method_24_code 152 = .ok (.goto 90, 3) := by decide +kernel
theorem dq_M_join_155 : decode prog_10_method_24_code 155 = .ok (.lload 9, 2) := by decide +kernel
theorem dq_M_join_157 : decode prog_10_method_24_code 157 = .ok (.lconst 0, 1) := by decide +kernel
theorem dq_M_join_158 : decode prog_10_method_24_code 158 = .ok (.lcmp, 1) := by decide +kernel
theorem dq_M_join_159 : decode prog_10_method_24_code 159 = .ok (.ifCond .ne 16, 3) := by decide +kernel
theorem dq_M_join_162 : decode prog_10_method_24_code 162 = .ok (.aload_n 0, 1) := by decide +kernel
theorem dq_M_join_163 : decode prog_10_method_24_code 163 = .ok (.lload 5, 2) := by decide +kernel
theorem dq_M_join_165 : decode prog_10_method_24_code 165 = .ok (.lload 13, 2) := by decide +kernel
theorem dq_M_join_167 : decode prog_10_method_24_code 167 = .ok (.lload 11, 2) := by decide +kernel
theorem dq_M_join_169 : decode prog_10_method_24_code 169 = .ok (.invokevirtual 141, 3) := by decide +kernel
theorem dq_M_join_172 : decode prog_10_method_24_code 172 = .ok (.goto 44, 3) := by decide +kernel
theorem dq_M_join_175 : decode prog_10_method_24_code 175 = .ok (.lload 11, 2) := by decide +kernel
theorem dq_M_join_177 : decode prog_10_method_24_code 177 = .ok (.lconst 0, 1) := by decide +kernel
theorem dq_M_join_178 : decode prog_10_method_24_code 178 = .ok (.lcmp, 1) := by decide +kernel
theorem dq_M_join_179 : decode prog_10_method_24_code 179 = .ok (.ifCond .ne 15, 3) := by decide +kernel
theorem dq_M_join_182 : decode prog_10_method_24_code 182 = .ok (.aload_n 0, 1) := by decide +kernel
theorem dq_M_join_183 : decode prog_10_method_24_code 183 = .ok (.lload_n 3, 1) := by decide +kernel
theorem dq_M_join_184 : decode prog_10_method_24_code 184 = .ok (.lload 13, 2) := by decide +kernel
theorem dq_M_join_186 : decode prog_10_method_24_code 186 = .ok (.lload 9, 2) := by decide +kernel
theorem dq_M_join_188 : decode prog_10_method_24_code 188 = .ok (.invokevirtual 141, 3) := by decide +kernel
theorem dq_M_join_191 : decode prog_10_method_24_code 191 = .ok (.goto 25, 3) := by decide +kernel
theorem dq_M_join_194 : decode prog_10_method_24_code 194 = .ok (.aload_n 0, 1) := by decide +kernel
theorem dq_M_join_195 : decode prog_10_method_24_code 195 = .ok (.lload_n 3, 1) := by decide +kernel
theorem dq_M_join_196 : decode prog_10_method_24_code 196 = .ok (.lload 13, 2) := by decide +kernel
theorem dq_M_join_198 : decode prog_10_method_24_code 198 = .ok (.lload 9, 2) := by decide +kernel
theorem dq_M_join_200 : decode prog_10_method_24_code 200 = .ok (.invokevirtual 141, 3) := by decide +kernel
theorem dq_M_join_203 : decode prog_10_method_24_code 203 = .ok (.aload_n 0, 1) := by decide +kernel
theorem dq_M_join_204 : decode prog_10_method_24_code 204 = .ok (.lload 5, 2) := by decide +kernel
theorem dq_M_join_206 : decode prog_10_method_24_code 206 = .ok (.lload 13, 2) := by decide +kernel
theorem dq_M_join_208 : decode prog_10_method_24_code 208 = .ok (.lload 11, 2) := by decide +kernel
theorem dq_M_join_210 : decode prog_10_method_24_code 210 = .ok (.invokevirtual 141, 3) := by decide +kernel
theorem dq_M_join_213 : decode prog_10_method_24_code 213 = .ok (.invokestatic 200, 3) := by decide +kernel
theorem dq_M_join_216 : decode prog_10_method_24_code 216 = .ok (.lstore 15, 2) := by decide +kernel
theorem dq_M_join_218 : decode prog_10_method_24_code 218 = .ok (.aload_n 0, 1) := by decide +kernel
theorem dq_M_join_219 : decode prog_10_method_24_code 219 = .ok (.lload 15, 2) := by decide +kernel
theorem dq_M_join_221 : decode prog_10_method_24_code 221 = .ok (.lload 9, 2) := by decide +kernel
theorem dq_M_join_223 : decode prog_10_method_24_code 223 = .ok (.lload 13, 2) := by decide +kernel
theorem dq_M_join_225 : decode prog_10_method_24_code 225 = .ok (.invokevirtual 203, 3) := by decide +kernel
theorem dq_M_join_228 : decode prog_10_method_24_code 228 = .ok (.lstore 17, 2) := by decide +kernel
theorem dq_M_join_230 : decode prog_10_method_24_code 230 = .ok (.aload_n 0, 1) := by decide +kernel
theorem dq_M_join_231 : decode prog_10_method_24_code 231 = .ok (.lload 15, 2) := by decide +kernel
theorem dq_M_join_233 : decode prog_10_method_24_code 233 = .ok (.lload 11, 2) := by decide +kernel
theorem dq_M_join_235 : decode prog_10_method_24_code 235 = .ok (.lload 13, 2) := by decide +kernel
theorem dq_M_join_237 : decode prog_10_method_24_code 237 = .ok (.invokevirtual 203, 3) := by decide +kernel
theorem dq_M_join_240 : decode prog_10_method_24_code 240 = .ok (.lstore 19, 2) := by decide +kernel
theorem dq_M_join_242 : decode prog_10_method_24_code 242 = .ok (.lload 15, 2) := by decide +kernel
theorem dq_M_join_244 : decode prog_10_method_24_code 244 = .ok (.lconst 0, 1) := by decide +kernel
theorem dq_M_join_245 : decode prog_10_method_24_code 245 = .ok (.lcmp, 1) := by decide +kernel
theorem dq_M_join_246 : decode prog_10_method_24_code 246 = .ok (.ifCond .ne 7, 3) := by decide +kernel
theorem dq_M_join_249 : decode prog_10_method_24_code 249 = .ok (.ldc2_w 180, 3) := by decide +kernel
theorem dq_M_join_252 : decode prog_10_method_24_code 252 = .ok (.lreturn, 1) := by decide +kernel
theorem dq_M_join_253 : decode prog_10_method_24_code 253 = .ok (.aload_n 0, 1) := by decide +kernel
theorem dq_M_join_254 : decode prog_10_method_24_code 254 = .ok (.iload_n 1, 1) := by decide +kernel
theorem dq_M_join_255 : decode prog_10_method_24_code 255 = .ok (.iload 7, 2) := by decide +kernel
theorem dq_M_join_257 : decode prog_10_method_24_code 257 = .ok (.lload 17, 2) := by decide +kernel
theorem dq_M_join_259 : decode prog_10_method_24_code 259 = .ok (.lneg, 1) := by decide +kernel
theorem dq_M_join_260 : decode prog_10_method_24_code 260 = .ok (.invokevirtual 182, 3) := by decide +kernel
theorem dq_M_join_263 : decode prog_10_method_24_code 263 = .ok (.aload_n 0, 1) := by decide +kernel
theorem dq_M_join_264 : decode prog_10_method_24_code 264 = .ok (.iload_n 1, 1) := by decide +kernel
theorem dq_M_join_265 : decode prog_10_method_24_code 265 = .ok (.iload 8, 2) := by decide +kernel
theorem dq_M_join_267 : decode prog_10_method_24_code 267 = .ok (.lload 19, 2) := by decide +kernel
theorem dq_M_join_269 : decode prog_10_method_24_code 269 = .ok (.lneg, 1) := by decide +kernel
theorem dq_M_join_270 : decode prog_10_method_24_code 270 = .ok (.invokevirtual 182, 3) := by decide +kernel
theorem dq_M_join_273 : decode prog_10_method_24_code 273 = .ok (.aload_n 0, 1) := by decide +kernel
theorem dq_M_join_274 : decode prog_10_method_24_code 274 = .ok (.getfield 26, 3) := by decide +kernel
theorem dq_M_join_277 : decode prog_10_method_24_code 277 = .ok (.iconst 2, 1) := by decide +kernel
theorem dq_M_join_278 : decode prog_10_method_24_code 278 = .ok (.iload_n 2, 1) := by decide +kernel
theorem dq_M_join_279 : decode prog_10_method_24_code 279 = .ok (.imul, 1) := by decide +kernel
theorem dq_M_join_280 : decode prog_10_method_24_code 280 = .ok (.dup2, 1) := by decide +kernel
theorem dq_M_join_281 : decode prog_10_method_24_code 281 = .ok (.laload, 1) := by decide +kernel
theorem dq_M_join_282 : decode prog_10_method_24_code 282 = .ok (.lload 17, 2) := by decide +kernel
theorem dq_M_join_284 : decode prog_10_method_24_code 284 = .ok (.ladd, 1) := by decide +kernel
theorem dq_M_join_285 : decode prog_10_method_24_code 285 = .ok (.lastore, 1) := by decide +kernel
theorem dq_M_join_286 : decode prog_10_method_24_code 286 = .ok (.aload_n 0, 1) := by decide +kernel
theorem dq_M_join_287 : decode prog_10_method_24_code 287 = .ok (.getfield 26, 3) := by decide +kernel
theorem dq_M_join_290 : decode prog_10_method_24_code 290 = .ok (.iconst 2, 1) := by decide +kernel
theorem dq_M_join_291 : decode prog_10_method_24_code 291 = .ok (.iload_n 2, 1) := by decide +kernel
theorem dq_M_join_292 : decode prog_10_method_24_code 292 = .ok (.imul, 1) := by decide +kernel
theorem dq_M_join_293 : decode prog_10_method_24_code 293 = .ok (.iconst 1, 1) := by decide +kernel
theorem dq_M_join_294 : decode prog_10_method_24_code 294 = .ok (.iadd, 1) := by decide +kernel
theorem dq_M_join_295 : decode prog_10_method_24_code 295 = .ok (.dup2, 1) := by decide +kernel
theorem dq_M_join_296 : decode prog_10_method_24_code 296 = .ok (.laload, 1) := by decide +kernel
theorem dq_M_join_297 : decode prog_10_method_24_code 297 = .ok (.lload 19, 2) := by decide +kernel
theorem dq_M_join_299 : decode prog_10_method_24_code 299 = .ok (.ladd, 1) := by decide +kernel
theorem dq_M_join_300 : decode prog_10_method_24_code 300 = .ok (.lastore, 1) := by decide +kernel
theorem dq_M_join_301 : decode prog_10_method_24_code 301 = .ok (.aload_n 0, 1) := by decide +kernel
theorem dq_M_join_302 : decode prog_10_method_24_code 302 = .ok (.getfield 29, 3) := by decide +kernel
theorem dq_M_join_305 : decode prog_10_method_24_code 305 = .ok (.iload_n 2, 1) := by decide +kernel
theorem dq_M_join_306 : decode prog_10_method_24_code 306 = .ok (.dup2, 1) := by decide +kernel
theorem dq_M_join_307 : decode prog_10_method_24_code 307 = .ok (.laload, 1) := by decide +kernel
theorem dq_M_join_308 : decode prog_10_method_24_code 308 = .ok (.lload 15, 2) := by decide +kernel
theorem dq_M_join_310 : decode prog_10_method_24_code 310 = .ok (.ladd, 1) := by decide +kernel
theorem dq_M_join_311 : decode prog_10_method_24_code 311 = .ok (.lastore, 1) := by decide +kernel
theorem dq_M_join_312 : decode prog_10_method_24_code 312 = .ok (.aload_n 0, 1) := by decide +kernel
theorem dq_M_join_313 : decode prog_10_method_24_code 313 = .ok (.getfield 32, 3) := by decide +kernel
theorem dq_M_join_316 : decode prog_10_method_24_code 316 = .ok (.bipush 6, 2) := by decide +kernel
theorem dq_M_join_318 : decode prog_10_method_24_code 318 = .ok (.iload_n 2, 1) := by decide +kernel
theorem dq_M_join_319 : decode prog_10_method_24_code 319 = .ok (.imul, 1) := by decide +kernel
theorem dq_M_join_320 : decode prog_10_method_24_code 320 = .ok (.iload_n 1, 1) := by decide +kernel
theorem dq_M_join_321 : decode prog_10_method_24_code 321 = .ok (.iadd, 1) := by decide +kernel
theorem dq_M_join_322 : decode prog_10_method_24_code 322 = .ok (.dup2, 1) := by decide +kernel
theorem dq_M_join_323 : decode prog_10_method_24_code 323 = .ok (.laload, 1) := by decide +kernel
theorem dq_M_join_324 : decode prog_10_method_24_code 324 = .ok (.lload 15, 2) := by decide +kernel
theorem dq_M_join_326 : decode prog_10_method_24_code 326 = .ok (.ladd, 1) := by decide +kernel
theorem dq_M_join_327 : decode prog_10_method_24_code 327 = .ok (.lastore, 1) := by decide +kernel
theorem dq_M_join_328 : decode prog_10_method_24_code 328 = .ok (.lload 15, 2) := by decide +kernel
theorem dq_M_join_330 : decode prog_10_method_24_code 330 = .ok (.lreturn, 1) := by decide +kernel
def fM_join_242 (y0 : Nat) (N : qz_N) (x1 : Int32) (x2 : Int32) (x7 : Int32) (x8 : Int32) (x15 : Int64) (x17 : Int64) (x19 : Int64) : Option (Int64 × qz_N) :=
  if x15 = (0 : Int64) then
    some ((-3 : Int64), N)
  else
  (fM_give y0 x1 x7 (-x17) N).bind fun q24 =>
  (fM_give y0 x1 x8 (-x19) q24.2).bind fun q26 =>
  if ((2 : Int32) * x2) < 0 ∨ 12 ≤ ((2 : Int32) * x2).toNatClampNeg then none else
  if ((2 : Int32) * x2) < 0 ∨ 12 ≤ ((2 : Int32) * x2).toNatClampNeg then none else
  qz_let (qz_sl q26.2 27 y0 ((2 : Int32) * x2).toNatClampNeg ((qz_gl q26.2 27 y0 ((2 : Int32) * x2).toNatClampNeg) + x17)) fun N28 =>
  if (((2 : Int32) * x2) + (1 : Int32)) < 0 ∨ 12 ≤ (((2 : Int32) * x2) + (1 : Int32)).toNatClampNeg then none else
  if (((2 : Int32) * x2) + (1 : Int32)) < 0 ∨ 12 ≤ (((2 : Int32) * x2) + (1 : Int32)).toNatClampNeg then none else
  qz_let (qz_sl N28 27 y0 (((2 : Int32) * x2) + (1 : Int32)).toNatClampNeg ((qz_gl N28 27 y0 (((2 : Int32) * x2) + (1 : Int32)).toNatClampNeg) + x19)) fun N29 =>
  if x2 < 0 ∨ 6 ≤ x2.toNatClampNeg then none else
  if x2 < 0 ∨ 6 ≤ x2.toNatClampNeg then none else
  qz_let (qz_sl N29 28 y0 x2.toNatClampNeg ((qz_gl N29 28 y0 x2.toNatClampNeg) + x15)) fun N30 =>
  if (((6 : Int32) * x2) + x1) < 0 ∨ 36 ≤ (((6 : Int32) * x2) + x1).toNatClampNeg then none else
  if (((6 : Int32) * x2) + x1) < 0 ∨ 36 ≤ (((6 : Int32) * x2) + x1).toNatClampNeg then none else
  qz_let (qz_sl N30 29 y0 (((6 : Int32) * x2) + x1).toNatClampNeg ((qz_gl N30 29 y0 (((6 : Int32) * x2) + x1).toNatClampNeg) + x15)) fun N31 =>
  some (x15, N31)
def fM_join_216 (y0 : Nat) (N : qz_N) (x1 : Int32) (x2 : Int32) (x7 : Int32) (x8 : Int32) (x9 : Int64) (x11 : Int64) (x13 : Int64) (s0 : Int64) : Option (Int64 × qz_N) :=
  (fM_partUp y0 s0 x9 x13 N).bind fun q20 =>
  (fM_partUp y0 s0 x11 x13 q20.2).bind fun q22 =>
  fM_join_242 y0 q22.2 x1 x2 x7 x8 s0 q20.1 q22.1
def fM_join_150 (y0 : Nat) (N : qz_N) (x1 : Int32) (x2 : Int32) (x7 : Int32) (x8 : Int32) (x17 : Int64) (x19 : Int64) (s0 : Int64) : Option (Int64 × qz_N) :=
  fM_join_242 y0 N x1 x2 x7 x8 s0 x17 x19
def fM_join (o : Nat) (x1 : Int32) (x2 : Int32) (x3 : Int64) (x5 : Int64) (N : qz_N) : Option (Int64 × qz_N) :=
  (fM_isPlayer x1 N).bind fun q1 =>
  if q1.1 = 0 then
    some ((-2 : Int64), q1.2)
  else
  (fM_isPool o x2 q1.2).bind fun q3 =>
  if q3.1 = 0 then
    some ((-2 : Int64), q3.2)
  else
  if x3 < (1 : Int64) then
    some ((-2 : Int64), q3.2)
  else
  if (1 : Int64) ≤ x5 then
    if ((2 : Int32) * x2) < 0 ∨ 12 ≤ ((2 : Int32) * x2).toNatClampNeg then none else
    qz_let (qz_gi q3.2 24 o ((2 : Int32) * x2).toNatClampNeg) fun v5 =>
    if (((2 : Int32) * x2) + (1 : Int32)) < 0 ∨ 12 ≤ (((2 : Int32) * x2) + (1 : Int32)).toNatClampNeg then none else
    qz_let (qz_gi q3.2 24 o (((2 : Int32) * x2) + (1 : Int32)).toNatClampNeg) fun v6 =>
    (fM_has o x1 v5 q3.2).bind fun q7 =>
    if q7.1 < x3 then
      some ((-3 : Int64), q7.2)
    else
    (fM_has o x1 v6 q7.2).bind fun q9 =>
    if x5 ≤ q9.1 then
      if ((2 : Int32) * x2) < 0 ∨ 12 ≤ ((2 : Int32) * x2).toNatClampNeg then none else
      qz_let (qz_gl q9.2 27 o ((2 : Int32) * x2).toNatClampNeg) fun v11 =>
      if (((2 : Int32) * x2) + (1 : Int32)) < 0 ∨ 12 ≤ (((2 : Int32) * x2) + (1 : Int32)).toNatClampNeg then none else
      qz_let (qz_gl q9.2 27 o (((2 : Int32) * x2) + (1 : Int32)).toNatClampNeg) fun v12 =>
      if x2 < 0 ∨ 6 ≤ x2.toNatClampNeg then none else
      qz_let (qz_gl q9.2 28 o x2.toNatClampNeg) fun v13 =>
      if v13 = (0 : Int64) then
        if x2 < 0 ∨ 6 ≤ x2.toNatClampNeg then none else
        if (qz_gi q9.2 25 o x2.toNatClampNeg) = 0 then
          (fM_root o x3 x5 q9.2).bind fun q36 =>
          fM_join_150 o q36.2 x1 x2 v5 v6 x3 x5 q36.1
        else
        fM_join_150 o q9.2 x1 x2 v5 v6 x3 x5 (x3 + x5)
      else
      if v11 = (0 : Int64) then
        (fM_part o x5 v13 v12 q9.2).bind fun q34 =>
        fM_join_216 o q34.2 x1 x2 v5 v6 v11 v12 v13 q34.1
      else
      if v12 = (0 : Int64) then
        (fM_part o x3 v13 v11 q9.2).bind fun q32 =>
        fM_join_216 o q32.2 x1 x2 v5 v6 v11 v12 v13 q32.1
      else
      (fM_part o x3 v13 v11 q9.2).bind fun q14 =>
      (fM_part o x5 v13 v12 q14.2).bind fun q16 =>
      (fM_least q14.1 q16.1 q16.2).bind fun q18 =>
      fM_join_216 o q18.2 x1 x2 v5 v6 v11 v12 v13 q18.1
    else
    some ((-3 : Int64), q9.2)
  else
  some ((-2 : Int64), q3.2)
set_option maxRecDepth 100000 in
set_option maxHeartbeats 4000000 in
theorem sM_join_242 {p : Program} {l : Launch} {e : Env} {s : State} {m : MethodId} {args : Array Value} {below : List Frame} {meth : Method} {c : Code} {G : qz_G} (X : qz_X p s m args meth c "ExactCurvesModel" prog_10_method_24_code 21 (some .long) G) {r : (Int64 × qz_N)} (y0 : Nat) (hy0 : y0 < 1) (N : qz_N) (x1 : Int32) (x2 : Int32) (x7 : Int32) (x8 : Int32) (x15 : Int64) (x17 : Int64) (x19 : Int64) (h : fM_join_242 y0 N x1 x2 x7 x8 x15 x17 x19 = some r) : qz_W p l e (qz_R 3) s m args below meth c 0 0 (MQ below (qz_Q G r.2 (some (.long r.1))) args s 0 0 (qz_A G)) G s.heap 21 N 242 [(1, .int x1), (2, .int x2), (7, .int x7), (8, .int x8), (15, .long x15), (17, .long x17), (19, .long x19), (0, .ref (G.2.2 7 y0))] [] := by
  unfold fM_join_242 at h
  refine qz_lload X 4 rfl dq_M_join_242 ?_
  refine qz_lconst X (v := (0 : Int64)) (by decide) dq_M_join_244 ?_
  refine qz_lcmp_ne X (tgt := 253) (by decide) dq_M_join_245 dq_M_join_246 h (fun _ h => ?_) (fun _ h => ?_)
  · refine qz_aload_n X 7 rfl dq_M_join_253 ?_
    refine qz_iload_n X 0 rfl dq_M_join_254 ?_
    refine qz_iload X 2 rfl dq_M_join_255 ?_
    refine qz_lload X 5 rfl dq_M_join_257 ?_
    refine qz_lneg X dq_M_join_259 ?_
    refine qz_bind h (fun q24 e25 h => ?_)
    refine qz_callV X (as := [.int x1, .int x7, .long (-x17)]) (st := []) (o := none) (N' := q24.2) cq_M_182 hy0 (cM_give l G X.2.2.2.2.2.2.1 y0 x1 x7 (-x17) N hy0 _ e25) ⟨by decide, by decide⟩ rfl rfl (Nat.le_of_ble_eq_true rfl) ⟨Nat.zero_le _, Nat.zero_le _⟩ dq_M_join_260 ?_
    refine qz_aload_n X 7 rfl dq_M_join_263 ?_
    refine qz_iload_n X 0 rfl dq_M_join_264 ?_
    refine qz_iload X 3 rfl dq_M_join_265 ?_
    refine qz_lload X 6 rfl dq_M_join_267 ?_
    refine qz_lneg X dq_M_join_269 ?_
    refine qz_bind h (fun q26 e27 h => ?_)
    refine qz_callV X (as := [.int x1, .int x8, .long (-x19)]) (st := []) (o := none) (N' := q26.2) cq_M_182 hy0 (cM_give l G X.2.2.2.2.2.2.1 y0 x1 x8 (-x19) q24.2 hy0 _ e27) ⟨by decide, by decide⟩ rfl rfl (Nat.le_of_ble_eq_true rfl) ⟨Nat.zero_le _, Nat.zero_le _⟩ dq_M_join_270 ?_
    refine qz_aload_n X 7 rfl dq_M_join_273 ?_
    refine qz_get X (v := .ref (G.2.2 27 y0)) kq_M_26 hy0 rfl dq_M_join_274 ?_
    refine qz_iconst X (v := (2 : Int32)) (by decide) dq_M_join_277 ?_
    refine qz_iload_n X 1 rfl dq_M_join_278 ?_
    refine qz_imul X dq_M_join_279 ?_
    refine qz_dup2_11 X rfl rfl dq_M_join_280 ?_
    refine qz_lald X (c0 := 27) (i := y0) (n := 12) rfl hy0 dq_M_join_281 h (fun h => ?_)
    refine qz_lload X 5 rfl dq_M_join_282 ?_
    refine qz_ladd X dq_M_join_284 ?_
    refine qz_last X (c0 := 27) (i := y0) (n := 12) rfl hy0 dq_M_join_285 h (fun N28 h => ?_)
    refine qz_aload_n X 7 rfl dq_M_join_286 ?_
    refine qz_get X (v := .ref (G.2.2 27 y0)) kq_M_26 hy0 rfl dq_M_join_287 ?_
    refine qz_iconst X (v := (2 : Int32)) (by decide) dq_M_join_290 ?_
    refine qz_iload_n X 1 rfl dq_M_join_291 ?_
    refine qz_imul X dq_M_join_292 ?_
    refine qz_iconst X (v := (1 : Int32)) (by decide) dq_M_join_293 ?_
    refine qz_iadd X dq_M_join_294 ?_
    refine qz_dup2_11 X rfl rfl dq_M_join_295 ?_
    refine qz_lald X (c0 := 27) (i := y0) (n := 12) rfl hy0 dq_M_join_296 h (fun h => ?_)
    refine qz_lload X 6 rfl dq_M_join_297 ?_
    refine qz_ladd X dq_M_join_299 ?_
    refine qz_last X (c0 := 27) (i := y0) (n := 12) rfl hy0 dq_M_join_300 h (fun N29 h => ?_)
    refine qz_aload_n X 7 rfl dq_M_join_301 ?_
    refine qz_get X (v := .ref (G.2.2 28 y0)) kq_M_29 hy0 rfl dq_M_join_302 ?_
    refine qz_iload_n X 1 rfl dq_M_join_305 ?_
    refine qz_dup2_11 X rfl rfl dq_M_join_306 ?_
    refine qz_lald X (c0 := 28) (i := y0) (n := 6) rfl hy0 dq_M_join_307 h (fun h => ?_)
    refine qz_lload X 4 rfl dq_M_join_308 ?_
    refine qz_ladd X dq_M_join_310 ?_
    refine qz_last X (c0 := 28) (i := y0) (n := 6) rfl hy0 dq_M_join_311 h (fun N30 h => ?_)
    refine qz_aload_n X 7 rfl dq_M_join_312 ?_
    refine qz_get X (v := .ref (G.2.2 29 y0)) kq_M_32 hy0 rfl dq_M_join_313 ?_
    refine qz_bipush X (v := (6 : Int32)) (by decide) dq_M_join_316 ?_
    refine qz_iload_n X 1 rfl dq_M_join_318 ?_
    refine qz_imul X dq_M_join_319 ?_
    refine qz_iload_n X 0 rfl dq_M_join_320 ?_
    refine qz_iadd X dq_M_join_321 ?_
    refine qz_dup2_11 X rfl rfl dq_M_join_322 ?_
    refine qz_lald X (c0 := 29) (i := y0) (n := 36) rfl hy0 dq_M_join_323 h (fun h => ?_)
    refine qz_lload X 4 rfl dq_M_join_324 ?_
    refine qz_ladd X dq_M_join_326 ?_
    refine qz_last X (c0 := 29) (i := y0) (n := 36) rfl hy0 dq_M_join_327 h (fun N31 h => ?_)
    refine qz_lload X 4 rfl dq_M_join_328 ?_
    exact qz_lret X h dq_M_join_330
  · refine qz_ldc2 X (v := (-3 : Int64)) wq_763 dq_M_join_249 ?_
    exact qz_lret X h dq_M_join_252
set_option maxRecDepth 100000 in
set_option maxHeartbeats 4000000 in
theorem sM_join_216 {p : Program} {l : Launch} {e : Env} {s : State} {m : MethodId} {args : Array Value} {below : List Frame} {meth : Method} {c : Code} {G : qz_G} (X : qz_X p s m args meth c "ExactCurvesModel" prog_10_method_24_code 21 (some .long) G) {r : (Int64 × qz_N)} (y0 : Nat) (hy0 : y0 < 1) (N : qz_N) (x1 : Int32) (x2 : Int32) (x7 : Int32) (x8 : Int32) (x9 : Int64) (x11 : Int64) (x13 : Int64) (s0 : Int64) (h : fM_join_216 y0 N x1 x2 x7 x8 x9 x11 x13 s0 = some r) : qz_W p l e (qz_R 3) s m args below meth c 0 0 (MQ below (qz_Q G r.2 (some (.long r.1))) args s 0 0 (qz_A G)) G s.heap 21 N 216 [(1, .int x1), (2, .int x2), (7, .int x7), (8, .int x8), (9, .long x9), (11, .long x11), (13, .long x13), (0, .ref (G.2.2 7 y0))] [.long s0] := by
  unfold fM_join_216 at h
  refine qz_lstore X (lv' := [(15, .long s0), (1, .int x1), (2, .int x2), (7, .int x7), (8, .int x8), (9, .long x9), (11, .long x11), (13, .long x13), (0, .ref (G.2.2 7 y0))]) (by decide) rfl dq_M_join_216 ?_
  refine qz_aload_n X 8 rfl dq_M_join_218 ?_
  refine qz_lload X 0 rfl dq_M_join_219 ?_
  refine qz_lload X 5 rfl dq_M_join_221 ?_
  refine qz_lload X 7 rfl dq_M_join_223 ?_
  refine qz_bind h (fun q20 e21 h => ?_)
  refine qz_callV X (as := [.long s0, .long x9, .long x13]) (st := []) (o := some (.long q20.1)) (N' := q20.2) cq_M_203 hy0 (cM_partUp l G X.2.2.2.2.2.2.1 y0 s0 x9 x13 N hy0 _ e21) ⟨by decide, by decide⟩ rfl rfl (Nat.le_of_ble_eq_true rfl) ⟨Nat.zero_le _, Nat.zero_le _⟩ dq_M_join_225 ?_
  refine qz_lstore X (lv' := [(17, .long q20.1), (15, .long s0), (1, .int x1), (2, .int x2), (7, .int x7), (8, .int x8), (9, .long x9), (11, .long x11), (13, .long x13), (0, .ref (G.2.2 7 y0))]) (by decide) rfl dq_M_join_228 ?_
  refine qz_aload_n X 9 rfl dq_M_join_230 ?_
  refine qz_lload X 1 rfl dq_M_join_231 ?_
  refine qz_lload X 7 rfl dq_M_join_233 ?_
  refine qz_lload X 8 rfl dq_M_join_235 ?_
  refine qz_bind h (fun q22 e23 h => ?_)
  refine qz_callV X (as := [.long s0, .long x11, .long x13]) (st := []) (o := some (.long q22.1)) (N' := q22.2) cq_M_203 hy0 (cM_partUp l G X.2.2.2.2.2.2.1 y0 s0 x11 x13 q20.2 hy0 _ e23) ⟨by decide, by decide⟩ rfl rfl (Nat.le_of_ble_eq_true rfl) ⟨Nat.zero_le _, Nat.zero_le _⟩ dq_M_join_237 ?_
  refine qz_lstore X (lv' := [(19, .long q22.1), (17, .long q20.1), (15, .long s0), (1, .int x1), (2, .int x2), (7, .int x7), (8, .int x8), (9, .long x9), (11, .long x11), (13, .long x13), (0, .ref (G.2.2 7 y0))]) (by decide) rfl dq_M_join_240 ?_
  refine qz_sub [3, 4, 5, 6, 2, 1, 0, 10] rfl ?_
  exact sM_join_242 X y0 hy0 q22.2 x1 x2 x7 x8 s0 q20.1 q22.1 h
set_option maxRecDepth 100000 in
set_option maxHeartbeats 4000000 in
theorem sM_join_150 {p : Program} {l : Launch} {e : Env} {s : State} {m : MethodId} {args : Array Value} {below : List Frame} {meth : Method} {c : Code} {G : qz_G} (X : qz_X p s m args meth c "ExactCurvesModel" prog_10_method_24_code 21 (some .long) G) {r : (Int64 × qz_N)} (y0 : Nat) (hy0 : y0 < 1) (N : qz_N) (x1 : Int32) (x2 : Int32) (x7 : Int32) (x8 : Int32) (x17 : Int64) (x19 : Int64) (s0 : Int64) (h : fM_join_150 y0 N x1 x2 x7 x8 x17 x19 s0 = some r) : qz_W p l e (qz_R 3) s m args below meth c 0 0 (MQ below (qz_Q G r.2 (some (.long r.1))) args s 0 0 (qz_A G)) G s.heap 21 N 150 [(1, .int x1), (2, .int x2), (7, .int x7), (8, .int x8), (17, .long x17), (19, .long x19), (0, .ref (G.2.2 7 y0))] [.long s0] := by
  unfold fM_join_150 at h
  refine qz_lstore X (lv' := [(15, .long s0), (1, .int x1), (2, .int x2), (7, .int x7), (8, .int x8), (17, .long x17), (19, .long x19), (0, .ref (G.2.2 7 y0))]) (by decide) rfl dq_M_join_150 ?_
  refine qz_goto X (tgt := 242) (by decide) dq_M_join_152 ?_
  refine qz_sub [1, 2, 3, 4, 0, 5, 6, 7] rfl ?_
  exact sM_join_242 X y0 hy0 N x1 x2 x7 x8 s0 x17 x19 h
set_option maxRecDepth 100000 in
set_option maxHeartbeats 4000000 in
theorem sM_join {p : Program} {l : Launch} {e : Env} {s : State} {m : MethodId} {args : Array Value} {below : List Frame} {meth : Method} {c : Code} {G : qz_G} (X : qz_X p s m args meth c "ExactCurvesModel" prog_10_method_24_code 21 (some .long) G) {r : (Int64 × qz_N)} (o : Nat) (x1 : Int32) (x2 : Int32) (x3 : Int64) (x5 : Int64) (ho : o < 1) (N : qz_N) (h : fM_join o x1 x2 x3 x5 N = some r) : qz_W p l e (qz_R 3) s m args below meth c 0 0 (MQ below (qz_Q G r.2 (some (.long r.1))) args s 0 0 (qz_A G)) G s.heap 21 N 0 [(0, .ref (G.2.2 7 o)), (1, .int x1), (2, .int x2), (3, .long x3), (5, .long x5)] [] := by
  unfold fM_join at h
  refine qz_iload_n X 1 rfl dq_M_join_0 ?_
  refine qz_bind h (fun q1 e2 h => ?_)
  refine qz_callS X (as := [.int x1]) (st := []) (o := some (.int q1.1)) (N' := q1.2) cq_M_166 (cM_isPlayer l G X.2.2.2.2.2.2.1 x1 N _ e2) ⟨by decide, by decide⟩ rfl rfl (Nat.le_of_ble_eq_true rfl) ⟨Nat.zero_le _, Nat.zero_le _⟩ dq_M_join_1 ?_
  refine qz_if_eq X (tgt := 28) (by decide) dq_M_join_4 h (fun _ h => ?_) (fun _ h => ?_)
  · refine qz_ldc2 X (v := (-2 : Int64)) wq_742 dq_M_join_28 ?_
    exact qz_lret X h dq_M_join_31
  · refine qz_aload_n X 0 rfl dq_M_join_7 ?_
    refine qz_iload_n X 2 rfl dq_M_join_8 ?_
    refine qz_bind h (fun q3 e4 h => ?_)
    refine qz_callV X (as := [.int x2]) (st := []) (o := some (.int q3.1)) (N' := q3.2) cq_M_186 ho (cM_isPool l G X.2.2.2.2.2.2.1 o x2 q1.2 ho _ e4) ⟨by decide, by decide⟩ rfl rfl (Nat.le_of_ble_eq_true rfl) ⟨Nat.zero_le _, Nat.zero_le _⟩ dq_M_join_9 ?_
    refine qz_if_eq X (tgt := 28) (by decide) dq_M_join_12 h (fun _ h => ?_) (fun _ h => ?_)
    · refine qz_ldc2 X (v := (-2 : Int64)) wq_742 dq_M_join_28 ?_
      exact qz_lret X h dq_M_join_31
    · refine qz_lload_n X 3 rfl dq_M_join_15 ?_
      refine qz_lconst X (v := (1 : Int64)) (by decide) dq_M_join_16 ?_
      refine qz_lcmp_lt X (tgt := 28) (by decide) dq_M_join_17 dq_M_join_18 h (fun _ h => ?_) (fun _ h => ?_)
      · refine qz_ldc2 X (v := (-2 : Int64)) wq_742 dq_M_join_28 ?_
        exact qz_lret X h dq_M_join_31
      · refine qz_lload X 4 rfl dq_M_join_21 ?_
        refine qz_lconst X (v := (1 : Int64)) (by decide) dq_M_join_23 ?_
        refine qz_lcmp_ge X (tgt := 32) (by decide) dq_M_join_24 dq_M_join_25 h (fun _ h => ?_) (fun _ h => ?_)
        · refine qz_aload_n X 0 rfl dq_M_join_32 ?_
          refine qz_get X (v := .ref (G.2.2 24 o)) kq_M_16 ho rfl dq_M_join_33 ?_
          refine qz_iconst X (v := (2 : Int32)) (by decide) dq_M_join_36 ?_
          refine qz_iload_n X 2 rfl dq_M_join_37 ?_
          refine qz_imul X dq_M_join_38 ?_
          refine qz_iald X (c0 := 24) (i := o) (n := 12) rfl ho dq_M_join_39 h (fun h => ?_)
          refine qz_leti h (fun v5 h => ?_)
          refine qz_istore X (lv' := [(7, .int v5), (0, .ref (G.2.2 7 o)), (1, .int x1), (2, .int x2), (3, .long x3), (5, .long x5)]) (by decide) rfl dq_M_join_40 ?_
          refine qz_aload_n X 1 rfl dq_M_join_42 ?_
          refine qz_get X (v := .ref (G.2.2 24 o)) kq_M_16 ho rfl dq_M_join_43 ?_
          refine qz_iconst X (v := (2 : Int32)) (by decide) dq_M_join_46 ?_
          refine qz_iload_n X 3 rfl dq_M_join_47 ?_
          refine qz_imul X dq_M_join_48 ?_
          refine qz_iconst X (v := (1 : Int32)) (by decide) dq_M_join_49 ?_
          refine qz_iadd X dq_M_join_50 ?_
          refine qz_iald X (c0 := 24) (i := o) (n := 12) rfl ho dq_M_join_51 h (fun h => ?_)
          refine qz_leti h (fun v6 h => ?_)
          refine qz_istore X (lv' := [(8, .int v6), (7, .int v5), (0, .ref (G.2.2 7 o)), (1, .int x1), (2, .int x2), (3, .long x3), (5, .long x5)]) (by decide) rfl dq_M_join_52 ?_
          refine qz_aload_n X 2 rfl dq_M_join_54 ?_
          refine qz_iload_n X 3 rfl dq_M_join_55 ?_
          refine qz_iload X 1 rfl dq_M_join_56 ?_
          refine qz_bind h (fun q7 e8 h => ?_)
          refine qz_callV X (as := [.int x1, .int v5]) (st := []) (o := some (.long q7.1)) (N' := q7.2) cq_M_148 ho (cM_has l G X.2.2.2.2.2.2.1 o x1 v5 q3.2 ho _ e8) ⟨by decide, by decide⟩ rfl rfl (Nat.le_of_ble_eq_true rfl) ⟨Nat.zero_le _, Nat.zero_le _⟩ dq_M_join_58 ?_
          refine qz_lload_n X 5 rfl dq_M_join_61 ?_
          refine qz_lcmp_lt X (tgt := 79) (by decide) dq_M_join_62 dq_M_join_63 h (fun _ h => ?_) (fun _ h => ?_)
          · refine qz_ldc2 X (v := (-3 : Int64)) wq_763 dq_M_join_79 ?_
            exact qz_lret X h dq_M_join_82
          · refine qz_aload_n X 2 rfl dq_M_join_66 ?_
            refine qz_iload_n X 3 rfl dq_M_join_67 ?_
            refine qz_iload X 0 rfl dq_M_join_68 ?_
            refine qz_bind h (fun q9 e10 h => ?_)
            refine qz_callV X (as := [.int x1, .int v6]) (st := []) (o := some (.long q9.1)) (N' := q9.2) cq_M_148 ho (cM_has l G X.2.2.2.2.2.2.1 o x1 v6 q7.2 ho _ e10) ⟨by decide, by decide⟩ rfl rfl (Nat.le_of_ble_eq_true rfl) ⟨Nat.zero_le _, Nat.zero_le _⟩ dq_M_join_70 ?_
            refine qz_lload X 6 rfl dq_M_join_73 ?_
            refine qz_lcmp_ge X (tgt := 83) (by decide) dq_M_join_75 dq_M_join_76 h (fun _ h => ?_) (fun _ h => ?_)
            · refine qz_aload_n X 2 rfl dq_M_join_83 ?_
              refine qz_get X (v := .ref (G.2.2 27 o)) kq_M_26 ho rfl dq_M_join_84 ?_
              refine qz_iconst X (v := (2 : Int32)) (by decide) dq_M_join_87 ?_
              refine qz_iload_n X 4 rfl dq_M_join_88 ?_
              refine qz_imul X dq_M_join_89 ?_
              refine qz_lald X (c0 := 27) (i := o) (n := 12) rfl ho dq_M_join_90 h (fun h => ?_)
              refine qz_letj h (fun v11 h => ?_)
              refine qz_lstore X (lv' := [(9, .long v11), (8, .int v6), (7, .int v5), (0, .ref (G.2.2 7 o)), (1, .int x1), (2, .int x2), (3, .long x3), (5, .long x5)]) (by decide) rfl dq_M_join_91 ?_
              refine qz_aload_n X 3 rfl dq_M_join_93 ?_
              refine qz_get X (v := .ref (G.2.2 27 o)) kq_M_26 ho rfl dq_M_join_94 ?_
              refine qz_iconst X (v := (2 : Int32)) (by decide) dq_M_join_97 ?_
              refine qz_iload_n X 5 rfl dq_M_join_98 ?_
              refine qz_imul X dq_M_join_99 ?_
              refine qz_iconst X (v := (1 : Int32)) (by decide) dq_M_join_100 ?_
              refine qz_iadd X dq_M_join_101 ?_
              refine qz_lald X (c0 := 27) (i := o) (n := 12) rfl ho dq_M_join_102 h (fun h => ?_)
              refine qz_letj h (fun v12 h => ?_)
              refine qz_lstore X (lv' := [(11, .long v12), (9, .long v11), (8, .int v6), (7, .int v5), (0, .ref (G.2.2 7 o)), (1, .int x1), (2, .int x2), (3, .long x3), (5, .long x5)]) (by decide) rfl dq_M_join_103 ?_
              refine qz_aload_n X 4 rfl dq_M_join_105 ?_
              refine qz_get X (v := .ref (G.2.2 28 o)) kq_M_29 ho rfl dq_M_join_106 ?_
              refine qz_iload_n X 6 rfl dq_M_join_109 ?_
              refine qz_lald X (c0 := 28) (i := o) (n := 6) rfl ho dq_M_join_110 h (fun h => ?_)
              refine qz_letj h (fun v13 h => ?_)
              refine qz_lstore X (lv' := [(13, .long v13), (11, .long v12), (9, .long v11), (8, .int v6), (7, .int v5), (0, .ref (G.2.2 7 o)), (1, .int x1), (2, .int x2), (3, .long x3), (5, .long x5)]) (by decide) rfl dq_M_join_111 ?_
              refine qz_lload_n X 8 rfl dq_M_join_113 ?_
              refine qz_lstore X (lv' := [(17, .long x3), (13, .long v13), (11, .long v12), (9, .long v11), (8, .int v6), (7, .int v5), (0, .ref (G.2.2 7 o)), (1, .int x1), (2, .int x2), (3, .long x3), (5, .long x5)]) (by decide) rfl dq_M_join_114 ?_
              refine qz_lload X 10 rfl dq_M_join_116 ?_
              refine qz_lstore X (lv' := [(19, .long x5), (17, .long x3), (13, .long v13), (11, .long v12), (9, .long v11), (8, .int v6), (7, .int v5), (0, .ref (G.2.2 7 o)), (1, .int x1), (2, .int x2), (3, .long x3), (5, .long x5)]) (by decide) rfl dq_M_join_118 ?_
              refine qz_lload X 2 rfl dq_M_join_120 ?_
              refine qz_lconst X (v := (0 : Int64)) (by decide) dq_M_join_122 ?_
              refine qz_lcmp_ne X (tgt := 155) (by decide) dq_M_join_123 dq_M_join_124 h (fun _ h => ?_) (fun _ h => ?_)
              · refine qz_lload X 4 rfl dq_M_join_155 ?_
                refine qz_lconst X (v := (0 : Int64)) (by decide) dq_M_join_157 ?_
                refine qz_lcmp_ne X (tgt := 175) (by decide) dq_M_join_158 dq_M_join_159 h (fun _ h => ?_) (fun _ h => ?_)
                · refine qz_lload X 3 rfl dq_M_join_175 ?_
                  refine qz_lconst X (v := (0 : Int64)) (by decide) dq_M_join_177 ?_
                  refine qz_lcmp_ne X (tgt := 194) (by decide) dq_M_join_178 dq_M_join_179 h (fun _ h => ?_) (fun _ h => ?_)
                  · refine qz_aload_n X 7 rfl dq_M_join_194 ?_
                    refine qz_lload_n X 10 rfl dq_M_join_195 ?_
                    refine qz_lload X 2 rfl dq_M_join_196 ?_
                    refine qz_lload X 4 rfl dq_M_join_198 ?_
                    refine qz_bind h (fun q14 e15 h => ?_)
                    refine qz_callV X (as := [.long x3, .long v13, .long v11]) (st := []) (o := some (.long q14.1)) (N' := q14.2) cq_M_141 ho (cM_part l G X.2.2.2.2.2.2.1 o x3 v13 v11 q9.2 ho _ e15) ⟨by decide, by decide⟩ rfl rfl (Nat.le_of_ble_eq_true rfl) ⟨Nat.zero_le _, Nat.zero_le _⟩ dq_M_join_200 ?_
                    refine qz_aload_n X 7 rfl dq_M_join_203 ?_
                    refine qz_lload X 11 rfl dq_M_join_204 ?_
                    refine qz_lload X 2 rfl dq_M_join_206 ?_
                    refine qz_lload X 3 rfl dq_M_join_208 ?_
                    refine qz_bind h (fun q16 e17 h => ?_)
                    refine qz_callV X (as := [.long x5, .long v13, .long v12]) (st := [.long q14.1]) (o := some (.long q16.1)) (N' := q16.2) cq_M_141 ho (cM_part l G X.2.2.2.2.2.2.1 o x5 v13 v12 q14.2 ho _ e17) ⟨by decide, by decide⟩ rfl rfl (Nat.le_of_ble_eq_true rfl) ⟨Nat.zero_le _, Nat.zero_le _⟩ dq_M_join_210 ?_
                    refine qz_bind h (fun q18 e19 h => ?_)
                    refine qz_callS X (as := [.long q14.1, .long q16.1]) (st := []) (o := some (.long q18.1)) (N' := q18.2) cq_M_200 (cM_least l G X.2.2.2.2.2.2.1 q14.1 q16.1 q16.2 _ e19) ⟨by decide, by decide⟩ rfl rfl (Nat.le_of_ble_eq_true rfl) ⟨Nat.zero_le _, Nat.zero_le _⟩ dq_M_join_213 ?_
                    refine qz_sub [8, 9, 6, 5, 4, 3, 2, 7] rfl ?_
                    exact sM_join_216 X o ho q18.2 x1 x2 v5 v6 v11 v12 v13 q18.1 h
                  · refine qz_aload_n X 7 rfl dq_M_join_182 ?_
                    refine qz_lload_n X 10 rfl dq_M_join_183 ?_
                    refine qz_lload X 2 rfl dq_M_join_184 ?_
                    refine qz_lload X 4 rfl dq_M_join_186 ?_
                    refine qz_bind h (fun q32 e33 h => ?_)
                    refine qz_callV X (as := [.long x3, .long v13, .long v11]) (st := []) (o := some (.long q32.1)) (N' := q32.2) cq_M_141 ho (cM_part l G X.2.2.2.2.2.2.1 o x3 v13 v11 q9.2 ho _ e33) ⟨by decide, by decide⟩ rfl rfl (Nat.le_of_ble_eq_true rfl) ⟨Nat.zero_le _, Nat.zero_le _⟩ dq_M_join_188 ?_
                    refine qz_goto X (tgt := 216) (by decide) dq_M_join_191 ?_
                    refine qz_sub [8, 9, 6, 5, 4, 3, 2, 7] rfl ?_
                    exact sM_join_216 X o ho q32.2 x1 x2 v5 v6 v11 v12 v13 q32.1 h
                · refine qz_aload_n X 7 rfl dq_M_join_162 ?_
                  refine qz_lload X 11 rfl dq_M_join_163 ?_
                  refine qz_lload X 2 rfl dq_M_join_165 ?_
                  refine qz_lload X 3 rfl dq_M_join_167 ?_
                  refine qz_bind h (fun q34 e35 h => ?_)
                  refine qz_callV X (as := [.long x5, .long v13, .long v12]) (st := []) (o := some (.long q34.1)) (N' := q34.2) cq_M_141 ho (cM_part l G X.2.2.2.2.2.2.1 o x5 v13 v12 q9.2 ho _ e35) ⟨by decide, by decide⟩ rfl rfl (Nat.le_of_ble_eq_true rfl) ⟨Nat.zero_le _, Nat.zero_le _⟩ dq_M_join_169 ?_
                  refine qz_goto X (tgt := 216) (by decide) dq_M_join_172 ?_
                  refine qz_sub [8, 9, 6, 5, 4, 3, 2, 7] rfl ?_
                  exact sM_join_216 X o ho q34.2 x1 x2 v5 v6 v11 v12 v13 q34.1 h
              · refine qz_aload_n X 7 rfl dq_M_join_127 ?_
                refine qz_get X (v := .ref (G.2.2 25 o)) kq_M_20 ho rfl dq_M_join_128 ?_
                refine qz_iload_n X 9 rfl dq_M_join_131 ?_
                refine qz_iald X (c0 := 25) (i := o) (n := 6) rfl ho dq_M_join_132 h (fun h => ?_)
                refine qz_if_ne X (tgt := 146) (by decide) dq_M_join_133 h (fun _ h => ?_) (fun _ h => ?_)
                · refine qz_lload_n X 10 rfl dq_M_join_146 ?_
                  refine qz_lload X 11 rfl dq_M_join_147 ?_
                  refine qz_ladd X dq_M_join_149 ?_
                  refine qz_sub [8, 9, 6, 5, 1, 0, 7] rfl ?_
                  exact sM_join_150 X o ho q9.2 x1 x2 v5 v6 x3 x5 (x3 + x5) h
                · refine qz_aload_n X 7 rfl dq_M_join_136 ?_
                  refine qz_lload_n X 10 rfl dq_M_join_137 ?_
                  refine qz_lload X 11 rfl dq_M_join_138 ?_
                  refine qz_bind h (fun q36 e37 h => ?_)
                  refine qz_callV X (as := [.long x3, .long x5]) (st := []) (o := some (.long q36.1)) (N' := q36.2) cq_M_196 ho (cM_root l G X.2.2.2.2.2.2.1 o x3 x5 q9.2 ho _ e37) ⟨by decide, by decide⟩ rfl rfl (Nat.le_of_ble_eq_true rfl) ⟨Nat.zero_le _, Nat.zero_le _⟩ dq_M_join_140 ?_
                  refine qz_goto X (tgt := 150) (by decide) dq_M_join_143 ?_
                  refine qz_sub [8, 9, 6, 5, 1, 0, 7] rfl ?_
                  exact sM_join_150 X o ho q36.2 x1 x2 v5 v6 x3 x5 q36.1 h
            · refine qz_ldc2 X (v := (-3 : Int64)) wq_763 dq_M_join_79 ?_
              exact qz_lret X h dq_M_join_82
        · refine qz_ldc2 X (v := (-2 : Int64)) wq_742 dq_M_join_28 ?_
          exact qz_lret X h dq_M_join_31
theorem cM_join (l : Launch) (G : qz_G) (hD : qz_D G) (o : Nat) (x1 : Int32) (x2 : Int32) (x3 : Int64) (x5 : Int64) (N : qz_N) (ho : o < 1) (r : (Int64 × qz_N)) (h : fM_join o x1 x2 x3 x5 N = some r) : qz_M l yM_join prog_10_method_24_code 21 (some .long) 3 G [.ref (G.2.2 7 o), .int x1, .int x2, .long x3, .long x5] N (some (.long r.1)) r.2 :=
  qz_enter (lv := [(0, .ref (G.2.2 7 o)), (1, .int x1), (2, .int x2), (3, .long x3), (5, .long x5)]) rfl hD (Nat.le_of_ble_eq_true rfl) rfl (fun p e s m args below meth c X => sM_join X o x1 x2 x3 x5 ho N h)
-- ExactCurvesModel.leave(IIJ)J
theorem dq_M_leave_0 : decode prog_10_method_25_code 0 = .ok (.iload_n 1, 1) := by decide +kernel
theorem dq_M_leave_1 : decode prog_10_method_25_code 1 = .ok (.invokestatic 166, 3) := by decide +kernel
theorem dq_M_leave_4 : decode prog_10_method_25_code 4 = .ok (.ifCond .eq 17, 3) := by decide +kernel
theorem dq_M_leave_7 : decode prog_10_method_25_code 7 = .ok (.aload_n 0, 1) := by decide +kernel
theorem dq_M_leave_8 : decode prog_10_method_25_code 8 = .ok (.iload_n 2, 1) := by decide +kernel
theorem dq_M_leave_9 : decode prog_10_method_25_code 9 = .ok (.invokevirtual 186, 3) := by decide +kernel
theorem dq_M_leave_12 : decode prog_10_method_25_code 12 = .ok (.ifCond .eq 9, 3) := by decide +kernel
theorem dq_M_leave_15 : decode prog_10_method_25_code 15 = .ok (.lload_n 3, 1) := by decide +kernel
theorem dq_M_leave_16 : decode prog_10_method_25_code 16 = .ok (.lconst 1, 1) := by decide +kernel
theorem dq_M_leave_17 : decode prog_10_method_25_code 17 = .ok (.lcmp, 1) := by decide +kernel
theorem dq_M_leave_18 : decode prog_10_method_25_code 18 = .ok (.ifCond .ge 7, 3) := by decide +kernel
theorem dq_M_leave_21 : decode prog_10_method_25_code 21 = .ok (.ldc2_w 175, 3) := by decide +kernel
theorem dq_M_leave_24 : decode prog_10_method_25_code 24 = .ok (.lreturn, 1) := by decide +kernel
theorem dq_M_leave_25 : decode prog_10_method_25_code 25 = .ok (.aload_n 0, 1) := by decide +kernel
theorem dq_M_leave_26 : decode prog_10_method_25_code 26 = .ok (.getfield 32, 3) := by decide +kernel
theorem dq_M_leave_29 : decode prog_10_method_25_code 29 = .ok (.bipush 6, 2) := by decide +kernel
theorem dq_M_leave_31 : decode prog_10_method_25_code 31 = .ok (.iload_n 2, 1) := by decide +kernel
theorem dq_M_leave_32 : decode prog_10_method_25_code 32 = .ok (.imul, 1) := by decide +kernel
theorem dq_M_leave_33 : decode prog_10_method_25_code 33 = .ok (.iload_n 1, 1) := by decide +kernel
theorem dq_M_leave_34 : decode prog_10_method_25_code 34 = .ok (.iadd, 1) := by decide +kernel
theorem dq_M_leave_35 : decode prog_10_method_25_code 35 = .ok (.laload, 1) := by decide +kernel
theorem dq_M_leave_36 : decode prog_10_method_25_code 36 = .ok (.lload_n 3, 1) := by decide +kernel
theorem dq_M_leave_37 : decode prog_10_method_25_code 37 = .ok (.lcmp, 1) := by decide +kernel
theorem dq_M_leave_38 : decode prog_10_method_25_code 38 = .ok (.ifCond .ge 7, 3) := by decide +kernel
theorem dq_M_leave_41 : decode prog_10_method_25_code 41 = .ok (.ldc2_w 180, 3) := by decide +kernel
theorem dq_M_leave_44 : decode prog_10_method_25_code 44 = .ok (.lreturn, 1) := by decide +kernel
theorem dq_M_leave_45 : decode prog_10_method_25_code 45 = .ok (.aload_n 0, 1) := by decide +kernel
theorem dq_M_leave_46 : decode prog_10_method_25_code 46 = .ok (.lload_n 3, 1) := by decide +kernel
theorem dq_M_leave_47 : decode prog_10_method_25_code 47 = .ok (.aload_n 0, 1) := by decide +kernel
theorem dq_M_leave_48 : decode prog_10_method_25_code 48 = .ok (.getfield 26, 3) := by decide +kernel
theorem dq_M_leave_51 : decode prog_10_method_25_code 51 = .ok (.iconst 2, 1) := by decide +kernel
theorem dq_M_leave_52 : decode prog_10_method_25_code 52 = .ok (.iload_n 2, 1) := by decide +kernel
theorem dq_M_leave_53 : decode prog_10_method_25_code 53 = .ok (.imul, 1) := by decide +kernel
theorem dq_M_leave_54 : decode prog_10_method_25_code 54 = .ok (.laload, 1) := by decide +kernel
theorem dq_M_leave_55 : decode prog_10_method_25_code 55 = .ok (.aload_n 0, 1) := by decide +kernel
theorem dq_M_leave_56 : decode prog_10_method_25_code 56 = .ok (.getfield 29, 3) := by decide +kernel
theorem dq_M_leave_59 : decode prog_10_method_25_code 59 = .ok (.iload_n 2, 1) := by decide +kernel
theorem dq_M_leave_60 : decode prog_10_method_25_code 60 = .ok (.laload, 1) := by decide +kernel
theorem dq_M_leave_61 : decode prog_10_method_25_code 61 = .ok (.invokevirtual 141, 3) := by decide +kernel
theorem dq_M_leave_64 : decode prog_10_method_25_code 64 = .ok (.lstore 5, 2) := by decide +kernel
theorem dq_M_leave_66 : decode prog_10_method_25_code 66 = .ok (.aload_n 0, 1) := by decide +kernel
theorem dq_M_leave_67 : decode prog_10_method_25_code 67 = .ok (.lload_n 3, 1) := by decide +kernel
theorem dq_M_leave_68 : decode prog_10_method_25_code 68 = .ok (.aload_n 0, 1) := by decide +kernel
theorem dq_M_leave_69 : decode prog_10_method_25_code 69 = .ok (.getfield 26, 3) := by decide +kernel
theorem dq_M_leave_72 : decode prog_10_method_25_code 72 = .ok (.iconst 2, 1) := by decide +kernel
theorem dq_M_leave_73 : decode prog_10_method_25_code 73 = .ok (.iload_n 2, 1) := by decide +kernel
theorem dq_M_leave_74 : decode prog_10_method_25_code 74 = .ok (.imul, 1) := by decide +kernel
theorem dq_M_leave_75 : decode prog_10_method_25_code 75 = .ok (.iconst 1, 1) := by decide +kernel
theorem dq_M_leave_76 : decode prog_10_method_25_code 76 = .ok (.iadd, 1) := by decide +kernel
theorem dq_M_leave_77 : decode prog_10_method_25_code 77 = .ok (.laload, 1) := by decide +kernel
theorem dq_M_leave_78 : decode prog_10_method_25_code 78 = .ok (.aload_n 0, 1) := by decide +kernel
theorem dq_M_leave_79 : decode prog_10_method_25_code 79 = .ok (.getfield 29, 3) := by decide +kernel
theorem dq_M_leave_82 : decode prog_10_method_25_code 82 = .ok (.iload_n 2, 1) := by decide +kernel
theorem dq_M_leave_83 : decode prog_10_method_25_code 83 = .ok (.laload, 1) := by decide +kernel
theorem dq_M_leave_84 : decode prog_10_method_25_code 84 = .ok (.invokevirtual 141, 3) := by decide +kernel
theorem dq_M_leave_87 : decode prog_10_method_25_code 87 = .ok (.lstore 7, 2) := by decide +kernel
theorem dq_M_leave_89 : decode prog_10_method_25_code 89 = .ok (.aload_n 0, 1) := by decide +kernel
theorem dq_M_leave_90 : decode prog_10_method_25_code 90 = .ok (.getfield 26, 3) := by decide +kernel
theorem dq_M_leave_93 : decode prog_10_method_25_code 93 = .ok (.iconst 2, 1) := by decide +kernel
theorem dq_M_leave_94 : decode prog_10_method_25_code 94 = .ok (.iload_n 2, 1) := by decide +kernel
theorem dq_M_leave_95 : decode prog_10_method_25_code 95 = .ok (.imul, 1) := by decide +kernel
theorem dq_M_leave_96 : decode prog_10_method_25_code 96 = .ok (.dup2, 1) := by decide +kernel
theorem dq_M_leave_97 : decode prog_10_method_25_code 97 = .ok (.laload, 1) := by decide +kernel
theorem dq_M_leave_98 : decode prog_10_method_25_code 98 = .ok (.lload 5, 2) := by decide +kernel
theorem dq_M_leave_100 : decode prog_10_method_25_code 100 = .ok (.lsub, 1) := by decide +kernel
theorem dq_M_leave_101 : decode prog_10_method_25_code 101 = .ok (.lastore, 1) := by decide +kernel
theorem dq_M_leave_102 : decode prog_10_method_25_code 102 = .ok (.aload_n 0, 1) := by decide +kernel
theorem dq_M_leave_103 : decode prog_10_method_25_code 103 = .ok (.getfield 26, 3) := by decide +kernel
theorem dq_M_leave_106 : decode prog_10_method_25_code 106 = .ok (.iconst 2, 1) := by decide +kernel
theorem dq_M_leave_107 : decode prog_10_method_25_code 107 = .ok (.iload_n 2, 1) := by decide +kernel
theorem dq_M_leave_108 : decode prog_10_method_25_code 108 = .ok (.imul, 1) := by decide +kernel
theorem dq_M_leave_109 : decode prog_10_method_25_code 109 = .ok (.iconst 1, 1) := by decide +kernel
theorem dq_M_leave_110 : decode prog_10_method_25_code 110 = .ok (.iadd, 1) := by decide +kernel
theorem dq_M_leave_111 : decode prog_10_method_25_code 111 = .ok (.dup2, 1) := by decide +kernel
theorem dq_M_leave_112 : decode prog_10_method_25_code 112 = .ok (.laload, 1) := by decide +kernel
theorem dq_M_leave_113 : decode prog_10_method_25_code 113 = .ok (.lload 7, 2) := by decide +kernel
theorem dq_M_leave_115 : decode prog_10_method_25_code 115 = .ok (.lsub, 1) := by decide +kernel
theorem dq_M_leave_116 : decode prog_10_method_25_code 116 = .ok (.lastore, 1) := by decide +kernel
theorem dq_M_leave_117 : decode prog_10_method_25_code 117 = .ok (.aload_n 0, 1) := by decide +kernel
theorem dq_M_leave_118 : decode prog_10_method_25_code 118 = .ok (.iload_n 1, 1) := by decide +kernel
theorem dq_M_leave_119 : decode prog_10_method_25_code 119 = .ok (.aload_n 0, 1) := by decide +kernel
theorem dq_M_leave_120 : decode prog_10_method_25_code 120 = .ok (.getfield 16, 3) := by decide +kernel
theorem dq_M_leave_123 : decode prog_10_method_25_code 123 = .ok (.iconst 2, 1) := by decide +kernel
theorem dq_M_leave_124 : decode prog_10_method_25_code 124 = .ok (.iload_n 2, 1) := by decide +kernel
theorem dq_M_leave_125 : decode prog_10_method_25_code 125 = .ok (.imul, 1) := by decide +kernel
theorem dq_M_leave_126 : decode prog_10_method_25_code 126 = .ok (.iaload, 1) := by decide +kernel
theorem dq_M_leave_127 : decode prog_10_method_25_code 127 = .ok (.lload 5, 2) := by decide +kernel
theorem dq_M_leave_129 : decode prog_10_method_25_code 129 = .ok (.invokevirtual 182, 3) := by decide +kernel
theorem dq_M_leave_132 : decode prog_10_method_25_code 132 = .ok (.aload_n 0, 1) := by decide +kernel
theorem dq_M_leave_133 : decode prog_10_method_25_code 133 = .ok (.iload_n 1, 1) := by decide +kernel
theorem dq_M_leave_134 : decode prog_10_method_25_code 134 = .ok (.aload_n 0, 1) := by decide +kernel
theorem dq_M_leave_135 : decode prog_10_method_25_code 135 = .ok (.getfield 16, 3) := by decide +kernel
theorem dq_M_leave_138 : decode prog_10_method_25_code 138 = .ok (.iconst 2, 1) := by decide +kernel
theorem dq_M_leave_139 : decode prog_10_method_25_code 139 = .ok (.iload_n 2, 1) := by decide +kernel
theorem dq_M_leave_140 : decode prog_10_method_25_code 140 = .ok (.imul, 1) := by decide +kernel
theorem dq_M_leave_141 : decode prog_10_method_25_code 141 = .ok (.iconst 1, 1) := by decide +kernel
theorem dq_M_leave_142 : decode prog_10_method_25_code 142 = .ok (.iadd, 1) := by decide +kernel
theorem dq_M_leave_143 : decode prog_10_method_25_code 143 = .ok (.iaload, 1) := by decide +kernel
theorem dq_M_leave_144 : decode prog_10_method_25_code 144 = .ok (.lload 7, 2) := by decide +kernel
theorem dq_M_leave_146 : decode prog_10_method_25_code 146 = .ok (.invokevirtual 182, 3) := by decide +kernel
theorem dq_M_leave_149 : decode prog_10_method_25_code 149 = .ok (.aload_n 0, 1) := by decide +kernel
theorem dq_M_leave_150 : decode prog_10_method_25_code 150 = .ok (.getfield 32, 3) := by decide +kernel
theorem dq_M_leave_153 : decode prog_10_method_25_code 153 = .ok (.bipush 6, 2) := by decide +kernel
theorem dq_M_leave_155 : decode prog_10_method_25_code 155 = .ok (.iload_n 2, 1) := by decide +kernel
theorem dq_M_leave_156 : decode prog_10_method_25_code 156 = .ok (.imul, 1) := by decide +kernel
theorem dq_M_leave_157 : decode prog_10_method_25_code 157 = .ok (.iload_n 1, 1) := by decide +kernel
theorem dq_M_leave_158 : decode prog_10_method_25_code 158 = .ok (.iadd, 1) := by decide +kernel
theorem dq_M_leave_159 : decode prog_10_method_25_code 159 = .ok (.dup2, 1) := by decide +kernel
theorem dq_M_leave_160 : decode prog_10_method_25_code 160 = .ok (.laload, 1) := by decide +kernel
theorem dq_M_leave_161 : decode prog_10_method_25_code 161 = .ok (.lload_n 3, 1) := by decide +kernel
theorem dq_M_leave_162 : decode prog_10_method_25_code 162 = .ok (.lsub, 1) := by decide +kernel
theorem dq_M_leave_163 : decode prog_10_method_25_code 163 = .ok (.lastore, 1) := by decide +kernel
theorem dq_M_leave_164 : decode prog_10_method_25_code 164 = .ok (.aload_n 0, 1) := by decide +kernel
theorem dq_M_leave_165 : decode prog_10_method_25_code 165 = .ok (.getfield 29, 3) := by decide +kernel
theorem dq_M_leave_168 : decode prog_10_method_25_code 168 = .ok (.iload_n 2, 1) := by decide +kernel
theorem dq_M_leave_169 : decode prog_10_method_25_code 169 = .ok (.dup2, 1) := by decide +kernel
theorem dq_M_leave_170 : decode prog_10_method_25_code 170 = .ok (.laload, 1) := by decide +kernel
theorem dq_M_leave_171 : decode prog_10_method_25_code 171 = .ok (.lload_n 3, 1) := by decide +kernel
theorem dq_M_leave_172 : decode prog_10_method_25_code 172 = .ok (.lsub, 1) := by decide +kernel
theorem dq_M_leave_173 : decode prog_10_method_25_code 173 = .ok (.lastore, 1) := by decide +kernel
theorem dq_M_leave_174 : decode prog_10_method_25_code 174 = .ok (.lload 5, 2) := by decide +kernel
theorem dq_M_leave_176 : decode prog_10_method_25_code 176 = .ok (.lreturn, 1) := by decide +kernel
def fM_leave (o : Nat) (x1 : Int32) (x2 : Int32) (x3 : Int64) (N : qz_N) : Option (Int64 × qz_N) :=
  (fM_isPlayer x1 N).bind fun q1 =>
  if q1.1 = 0 then
    some ((-2 : Int64), q1.2)
  else
  (fM_isPool o x2 q1.2).bind fun q3 =>
  if q3.1 = 0 then
    some ((-2 : Int64), q3.2)
  else
  if (1 : Int64) ≤ x3 then
    if (((6 : Int32) * x2) + x1) < 0 ∨ 36 ≤ (((6 : Int32) * x2) + x1).toNatClampNeg then none else
    if x3 ≤ (qz_gl q3.2 29 o (((6 : Int32) * x2) + x1).toNatClampNeg) then
      if ((2 : Int32) * x2) < 0 ∨ 12 ≤ ((2 : Int32) * x2).toNatClampNeg then none else
      if x2 < 0 ∨ 6 ≤ x2.toNatClampNeg then none else
      (fM_part o x3 (qz_gl q3.2 27 o ((2 : Int32) * x2).toNatClampNeg) (qz_gl q3.2 28 o x2.toNatClampNeg) q3.2).bind fun q5 =>
      if (((2 : Int32) * x2) + (1 : Int32)) < 0 ∨ 12 ≤ (((2 : Int32) * x2) + (1 : Int32)).toNatClampNeg then none else
      if x2 < 0 ∨ 6 ≤ x2.toNatClampNeg then none else
      (fM_part o x3 (qz_gl q5.2 27 o (((2 : Int32) * x2) + (1 : Int32)).toNatClampNeg) (qz_gl q5.2 28 o x2.toNatClampNeg) q5.2).bind fun q7 =>
      if ((2 : Int32) * x2) < 0 ∨ 12 ≤ ((2 : Int32) * x2).toNatClampNeg then none else
      if ((2 : Int32) * x2) < 0 ∨ 12 ≤ ((2 : Int32) * x2).toNatClampNeg then none else
      qz_let (qz_sl q7.2 27 o ((2 : Int32) * x2).toNatClampNeg ((qz_gl q7.2 27 o ((2 : Int32) * x2).toNatClampNeg) - q5.1)) fun N9 =>
      if (((2 : Int32) * x2) + (1 : Int32)) < 0 ∨ 12 ≤ (((2 : Int32) * x2) + (1 : Int32)).toNatClampNeg then none else
      if (((2 : Int32) * x2) + (1 : Int32)) < 0 ∨ 12 ≤ (((2 : Int32) * x2) + (1 : Int32)).toNatClampNeg then none else
      qz_let (qz_sl N9 27 o (((2 : Int32) * x2) + (1 : Int32)).toNatClampNeg ((qz_gl N9 27 o (((2 : Int32) * x2) + (1 : Int32)).toNatClampNeg) - q7.1)) fun N10 =>
      if ((2 : Int32) * x2) < 0 ∨ 12 ≤ ((2 : Int32) * x2).toNatClampNeg then none else
      (fM_give o x1 (qz_gi N10 24 o ((2 : Int32) * x2).toNatClampNeg) q5.1 N10).bind fun q11 =>
      if (((2 : Int32) * x2) + (1 : Int32)) < 0 ∨ 12 ≤ (((2 : Int32) * x2) + (1 : Int32)).toNatClampNeg then none else
      (fM_give o x1 (qz_gi q11.2 24 o (((2 : Int32) * x2) + (1 : Int32)).toNatClampNeg) q7.1 q11.2).bind fun q13 =>
      if (((6 : Int32) * x2) + x1) < 0 ∨ 36 ≤ (((6 : Int32) * x2) + x1).toNatClampNeg then none else
      if (((6 : Int32) * x2) + x1) < 0 ∨ 36 ≤ (((6 : Int32) * x2) + x1).toNatClampNeg then none else
      qz_let (qz_sl q13.2 29 o (((6 : Int32) * x2) + x1).toNatClampNeg ((qz_gl q13.2 29 o (((6 : Int32) * x2) + x1).toNatClampNeg) - x3)) fun N15 =>
      if x2 < 0 ∨ 6 ≤ x2.toNatClampNeg then none else
      if x2 < 0 ∨ 6 ≤ x2.toNatClampNeg then none else
      qz_let (qz_sl N15 28 o x2.toNatClampNeg ((qz_gl N15 28 o x2.toNatClampNeg) - x3)) fun N16 =>
      some (q5.1, N16)
    else
    some ((-3 : Int64), q3.2)
  else
  some ((-2 : Int64), q3.2)
set_option maxRecDepth 100000 in
set_option maxHeartbeats 4000000 in
theorem sM_leave {p : Program} {l : Launch} {e : Env} {s : State} {m : MethodId} {args : Array Value} {below : List Frame} {meth : Method} {c : Code} {G : qz_G} (X : qz_X p s m args meth c "ExactCurvesModel" prog_10_method_25_code 9 (some .long) G) {r : (Int64 × qz_N)} (o : Nat) (x1 : Int32) (x2 : Int32) (x3 : Int64) (ho : o < 1) (N : qz_N) (h : fM_leave o x1 x2 x3 N = some r) : qz_W p l e (qz_R 2) s m args below meth c 0 0 (MQ below (qz_Q G r.2 (some (.long r.1))) args s 0 0 (qz_A G)) G s.heap 9 N 0 [(0, .ref (G.2.2 7 o)), (1, .int x1), (2, .int x2), (3, .long x3)] [] := by
  unfold fM_leave at h
  refine qz_iload_n X 1 rfl dq_M_leave_0 ?_
  refine qz_bind h (fun q1 e2 h => ?_)
  refine qz_callS X (as := [.int x1]) (st := []) (o := some (.int q1.1)) (N' := q1.2) cq_M_166 (cM_isPlayer l G X.2.2.2.2.2.2.1 x1 N _ e2) ⟨by decide, by decide⟩ rfl rfl (Nat.le_of_ble_eq_true rfl) ⟨Nat.zero_le _, Nat.zero_le _⟩ dq_M_leave_1 ?_
  refine qz_if_eq X (tgt := 21) (by decide) dq_M_leave_4 h (fun _ h => ?_) (fun _ h => ?_)
  · refine qz_ldc2 X (v := (-2 : Int64)) wq_742 dq_M_leave_21 ?_
    exact qz_lret X h dq_M_leave_24
  · refine qz_aload_n X 0 rfl dq_M_leave_7 ?_
    refine qz_iload_n X 2 rfl dq_M_leave_8 ?_
    refine qz_bind h (fun q3 e4 h => ?_)
    refine qz_callV X (as := [.int x2]) (st := []) (o := some (.int q3.1)) (N' := q3.2) cq_M_186 ho (cM_isPool l G X.2.2.2.2.2.2.1 o x2 q1.2 ho _ e4) ⟨by decide, by decide⟩ rfl rfl (Nat.le_of_ble_eq_true rfl) ⟨Nat.zero_le _, Nat.zero_le _⟩ dq_M_leave_9 ?_
    refine qz_if_eq X (tgt := 21) (by decide) dq_M_leave_12 h (fun _ h => ?_) (fun _ h => ?_)
    · refine qz_ldc2 X (v := (-2 : Int64)) wq_742 dq_M_leave_21 ?_
      exact qz_lret X h dq_M_leave_24
    · refine qz_lload_n X 3 rfl dq_M_leave_15 ?_
      refine qz_lconst X (v := (1 : Int64)) (by decide) dq_M_leave_16 ?_
      refine qz_lcmp_ge X (tgt := 25) (by decide) dq_M_leave_17 dq_M_leave_18 h (fun _ h => ?_) (fun _ h => ?_)
      · refine qz_aload_n X 0 rfl dq_M_leave_25 ?_
        refine qz_get X (v := .ref (G.2.2 29 o)) kq_M_32 ho rfl dq_M_leave_26 ?_
        refine qz_bipush X (v := (6 : Int32)) (by decide) dq_M_leave_29 ?_
        refine qz_iload_n X 2 rfl dq_M_leave_31 ?_
        refine qz_imul X dq_M_leave_32 ?_
        refine qz_iload_n X 1 rfl dq_M_leave_33 ?_
        refine qz_iadd X dq_M_leave_34 ?_
        refine qz_lald X (c0 := 29) (i := o) (n := 36) rfl ho dq_M_leave_35 h (fun h => ?_)
        refine qz_lload_n X 3 rfl dq_M_leave_36 ?_
        refine qz_lcmp_ge X (tgt := 45) (by decide) dq_M_leave_37 dq_M_leave_38 h (fun _ h => ?_) (fun _ h => ?_)
        · refine qz_aload_n X 0 rfl dq_M_leave_45 ?_
          refine qz_lload_n X 3 rfl dq_M_leave_46 ?_
          refine qz_aload_n X 0 rfl dq_M_leave_47 ?_
          refine qz_get X (v := .ref (G.2.2 27 o)) kq_M_26 ho rfl dq_M_leave_48 ?_
          refine qz_iconst X (v := (2 : Int32)) (by decide) dq_M_leave_51 ?_
          refine qz_iload_n X 2 rfl dq_M_leave_52 ?_
          refine qz_imul X dq_M_leave_53 ?_
          refine qz_lald X (c0 := 27) (i := o) (n := 12) rfl ho dq_M_leave_54 h (fun h => ?_)
          refine qz_aload_n X 0 rfl dq_M_leave_55 ?_
          refine qz_get X (v := .ref (G.2.2 28 o)) kq_M_29 ho rfl dq_M_leave_56 ?_
          refine qz_iload_n X 2 rfl dq_M_leave_59 ?_
          refine qz_lald X (c0 := 28) (i := o) (n := 6) rfl ho dq_M_leave_60 h (fun h => ?_)
          refine qz_bind h (fun q5 e6 h => ?_)
          refine qz_callV X (as := [.long x3, .long (qz_gl q3.2 27 o ((2 : Int32) * x2).toNatClampNeg), .long (qz_gl q3.2 28 o x2.toNatClampNeg)]) (st := []) (o := some (.long q5.1)) (N' := q5.2) cq_M_141 ho (cM_part l G X.2.2.2.2.2.2.1 o x3 (qz_gl q3.2 27 o ((2 : Int32) * x2).toNatClampNeg) (qz_gl q3.2 28 o x2.toNatClampNeg) q3.2 ho _ e6) ⟨by decide, by decide⟩ rfl rfl (Nat.le_of_ble_eq_true rfl) ⟨Nat.zero_le _, Nat.zero_le _⟩ dq_M_leave_61 ?_
          refine qz_lstore X (lv' := [(5, .long q5.1), (0, .ref (G.2.2 7 o)), (1, .int x1), (2, .int x2), (3, .long x3)]) (by decide) rfl dq_M_leave_64 ?_
          refine qz_aload_n X 1 rfl dq_M_leave_66 ?_
          refine qz_lload_n X 4 rfl dq_M_leave_67 ?_
          refine qz_aload_n X 1 rfl dq_M_leave_68 ?_
          refine qz_get X (v := .ref (G.2.2 27 o)) kq_M_26 ho rfl dq_M_leave_69 ?_
          refine qz_iconst X (v := (2 : Int32)) (by decide) dq_M_leave_72 ?_
          refine qz_iload_n X 3 rfl dq_M_leave_73 ?_
          refine qz_imul X dq_M_leave_74 ?_
          refine qz_iconst X (v := (1 : Int32)) (by decide) dq_M_leave_75 ?_
          refine qz_iadd X dq_M_leave_76 ?_
          refine qz_lald X (c0 := 27) (i := o) (n := 12) rfl ho dq_M_leave_77 h (fun h => ?_)
          refine qz_aload_n X 1 rfl dq_M_leave_78 ?_
          refine qz_get X (v := .ref (G.2.2 28 o)) kq_M_29 ho rfl dq_M_leave_79 ?_
          refine qz_iload_n X 3 rfl dq_M_leave_82 ?_
          refine qz_lald X (c0 := 28) (i := o) (n := 6) rfl ho dq_M_leave_83 h (fun h => ?_)
          refine qz_bind h (fun q7 e8 h => ?_)
          refine qz_callV X (as := [.long x3, .long (qz_gl q5.2 27 o (((2 : Int32) * x2) + (1 : Int32)).toNatClampNeg), .long (qz_gl q5.2 28 o x2.toNatClampNeg)]) (st := []) (o := some (.long q7.1)) (N' := q7.2) cq_M_141 ho (cM_part l G X.2.2.2.2.2.2.1 o x3 (qz_gl q5.2 27 o (((2 : Int32) * x2) + (1 : Int32)).toNatClampNeg) (qz_gl q5.2 28 o x2.toNatClampNeg) q5.2 ho _ e8) ⟨by decide, by decide⟩ rfl rfl (Nat.le_of_ble_eq_true rfl) ⟨Nat.zero_le _, Nat.zero_le _⟩ dq_M_leave_84 ?_
          refine qz_lstore X (lv' := [(7, .long q7.1), (5, .long q5.1), (0, .ref (G.2.2 7 o)), (1, .int x1), (2, .int x2), (3, .long x3)]) (by decide) rfl dq_M_leave_87 ?_
          refine qz_aload_n X 2 rfl dq_M_leave_89 ?_
          refine qz_get X (v := .ref (G.2.2 27 o)) kq_M_26 ho rfl dq_M_leave_90 ?_
          refine qz_iconst X (v := (2 : Int32)) (by decide) dq_M_leave_93 ?_
          refine qz_iload_n X 4 rfl dq_M_leave_94 ?_
          refine qz_imul X dq_M_leave_95 ?_
          refine qz_dup2_11 X rfl rfl dq_M_leave_96 ?_
          refine qz_lald X (c0 := 27) (i := o) (n := 12) rfl ho dq_M_leave_97 h (fun h => ?_)
          refine qz_lload X 1 rfl dq_M_leave_98 ?_
          refine qz_lsub X dq_M_leave_100 ?_
          refine qz_last X (c0 := 27) (i := o) (n := 12) rfl ho dq_M_leave_101 h (fun N9 h => ?_)
          refine qz_aload_n X 2 rfl dq_M_leave_102 ?_
          refine qz_get X (v := .ref (G.2.2 27 o)) kq_M_26 ho rfl dq_M_leave_103 ?_
          refine qz_iconst X (v := (2 : Int32)) (by decide) dq_M_leave_106 ?_
          refine qz_iload_n X 4 rfl dq_M_leave_107 ?_
          refine qz_imul X dq_M_leave_108 ?_
          refine qz_iconst X (v := (1 : Int32)) (by decide) dq_M_leave_109 ?_
          refine qz_iadd X dq_M_leave_110 ?_
          refine qz_dup2_11 X rfl rfl dq_M_leave_111 ?_
          refine qz_lald X (c0 := 27) (i := o) (n := 12) rfl ho dq_M_leave_112 h (fun h => ?_)
          refine qz_lload X 0 rfl dq_M_leave_113 ?_
          refine qz_lsub X dq_M_leave_115 ?_
          refine qz_last X (c0 := 27) (i := o) (n := 12) rfl ho dq_M_leave_116 h (fun N10 h => ?_)
          refine qz_aload_n X 2 rfl dq_M_leave_117 ?_
          refine qz_iload_n X 3 rfl dq_M_leave_118 ?_
          refine qz_aload_n X 2 rfl dq_M_leave_119 ?_
          refine qz_get X (v := .ref (G.2.2 24 o)) kq_M_16 ho rfl dq_M_leave_120 ?_
          refine qz_iconst X (v := (2 : Int32)) (by decide) dq_M_leave_123 ?_
          refine qz_iload_n X 4 rfl dq_M_leave_124 ?_
          refine qz_imul X dq_M_leave_125 ?_
          refine qz_iald X (c0 := 24) (i := o) (n := 12) rfl ho dq_M_leave_126 h (fun h => ?_)
          refine qz_lload X 1 rfl dq_M_leave_127 ?_
          refine qz_bind h (fun q11 e12 h => ?_)
          refine qz_callV X (as := [.int x1, .int (qz_gi N10 24 o ((2 : Int32) * x2).toNatClampNeg), .long q5.1]) (st := []) (o := none) (N' := q11.2) cq_M_182 ho (cM_give l G X.2.2.2.2.2.2.1 o x1 (qz_gi N10 24 o ((2 : Int32) * x2).toNatClampNeg) q5.1 N10 ho _ e12) ⟨by decide, by decide⟩ rfl rfl (Nat.le_of_ble_eq_true rfl) ⟨Nat.zero_le _, Nat.zero_le _⟩ dq_M_leave_129 ?_
          refine qz_aload_n X 2 rfl dq_M_leave_132 ?_
          refine qz_iload_n X 3 rfl dq_M_leave_133 ?_
          refine qz_aload_n X 2 rfl dq_M_leave_134 ?_
          refine qz_get X (v := .ref (G.2.2 24 o)) kq_M_16 ho rfl dq_M_leave_135 ?_
          refine qz_iconst X (v := (2 : Int32)) (by decide) dq_M_leave_138 ?_
          refine qz_iload_n X 4 rfl dq_M_leave_139 ?_
          refine qz_imul X dq_M_leave_140 ?_
          refine qz_iconst X (v := (1 : Int32)) (by decide) dq_M_leave_141 ?_
          refine qz_iadd X dq_M_leave_142 ?_
          refine qz_iald X (c0 := 24) (i := o) (n := 12) rfl ho dq_M_leave_143 h (fun h => ?_)
          refine qz_lload X 0 rfl dq_M_leave_144 ?_
          refine qz_bind h (fun q13 e14 h => ?_)
          refine qz_callV X (as := [.int x1, .int (qz_gi q11.2 24 o (((2 : Int32) * x2) + (1 : Int32)).toNatClampNeg), .long q7.1]) (st := []) (o := none) (N' := q13.2) cq_M_182 ho (cM_give l G X.2.2.2.2.2.2.1 o x1 (qz_gi q11.2 24 o (((2 : Int32) * x2) + (1 : Int32)).toNatClampNeg) q7.1 q11.2 ho _ e14) ⟨by decide, by decide⟩ rfl rfl (Nat.le_of_ble_eq_true rfl) ⟨Nat.zero_le _, Nat.zero_le _⟩ dq_M_leave_146 ?_
          refine qz_aload_n X 2 rfl dq_M_leave_149 ?_
          refine qz_get X (v := .ref (G.2.2 29 o)) kq_M_32 ho rfl dq_M_leave_150 ?_
          refine qz_bipush X (v := (6 : Int32)) (by decide) dq_M_leave_153 ?_
          refine qz_iload_n X 4 rfl dq_M_leave_155 ?_
          refine qz_imul X dq_M_leave_156 ?_
          refine qz_iload_n X 3 rfl dq_M_leave_157 ?_
          refine qz_iadd X dq_M_leave_158 ?_
          refine qz_dup2_11 X rfl rfl dq_M_leave_159 ?_
          refine qz_lald X (c0 := 29) (i := o) (n := 36) rfl ho dq_M_leave_160 h (fun h => ?_)
          refine qz_lload_n X 5 rfl dq_M_leave_161 ?_
          refine qz_lsub X dq_M_leave_162 ?_
          refine qz_last X (c0 := 29) (i := o) (n := 36) rfl ho dq_M_leave_163 h (fun N15 h => ?_)
          refine qz_aload_n X 2 rfl dq_M_leave_164 ?_
          refine qz_get X (v := .ref (G.2.2 28 o)) kq_M_29 ho rfl dq_M_leave_165 ?_
          refine qz_iload_n X 4 rfl dq_M_leave_168 ?_
          refine qz_dup2_11 X rfl rfl dq_M_leave_169 ?_
          refine qz_lald X (c0 := 28) (i := o) (n := 6) rfl ho dq_M_leave_170 h (fun h => ?_)
          refine qz_lload_n X 5 rfl dq_M_leave_171 ?_
          refine qz_lsub X dq_M_leave_172 ?_
          refine qz_last X (c0 := 28) (i := o) (n := 6) rfl ho dq_M_leave_173 h (fun N16 h => ?_)
          refine qz_lload X 1 rfl dq_M_leave_174 ?_
          exact qz_lret X h dq_M_leave_176
        · refine qz_ldc2 X (v := (-3 : Int64)) wq_763 dq_M_leave_41 ?_
          exact qz_lret X h dq_M_leave_44
      · refine qz_ldc2 X (v := (-2 : Int64)) wq_742 dq_M_leave_21 ?_
        exact qz_lret X h dq_M_leave_24
theorem cM_leave (l : Launch) (G : qz_G) (hD : qz_D G) (o : Nat) (x1 : Int32) (x2 : Int32) (x3 : Int64) (N : qz_N) (ho : o < 1) (r : (Int64 × qz_N)) (h : fM_leave o x1 x2 x3 N = some r) : qz_M l yM_leave prog_10_method_25_code 9 (some .long) 2 G [.ref (G.2.2 7 o), .int x1, .int x2, .long x3] N (some (.long r.1)) r.2 :=
  qz_enter (lv := [(0, .ref (G.2.2 7 o)), (1, .int x1), (2, .int x2), (3, .long x3)]) rfl hD (Nat.le_of_ble_eq_true rfl) rfl (fun p e s m args below meth c X => sM_leave X o x1 x2 x3 ho N h)
