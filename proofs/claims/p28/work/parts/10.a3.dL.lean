theorem dL_isStepSo_25 : decode cL_isStepSo 25 = .ok (.iconst 1, 1) := by decide +kernel
theorem dL_isStepSo_26 : decode cL_isStepSo 26 = .ok (.if_icmp .ne 7, 3) := by decide +kernel
theorem dL_isStepSo_29 : decode cL_isStepSo 29 = .ok (.iconst 1, 1) := by decide +kernel
theorem dL_isStepSo_30 : decode cL_isStepSo 30 = .ok (.goto 26, 3) := by decide +kernel
theorem dL_isStepSo_33 : decode cL_isStepSo 33 = .ok (.iload_n 3, 1) := by decide +kernel
theorem dL_isStepSo_34 : decode cL_isStepSo 34 = .ok (.ifCond .ne 7, 3) := by decide +kernel
theorem dL_isStepSo_37 : decode cL_isStepSo 37 = .ok (.iconst 2, 1) := by decide +kernel
theorem dL_isStepSo_38 : decode cL_isStepSo 38 = .ok (.goto 18, 3) := by decide +kernel
theorem dL_isStepSo_41 : decode cL_isStepSo 41 = .ok (.iload_n 3, 1) := by decide +kernel
theorem dL_isStepSo_42 : decode cL_isStepSo 42 = .ok (.iload 4, 2) := by decide +kernel
theorem dL_isStepSo_44 : decode cL_isStepSo 44 = .ok (.ishr, 1) := by decide +kernel
theorem dL_isStepSo_45 : decode cL_isStepSo 45 = .ok (.iconst 1, 1) := by decide +kernel
theorem dL_isStepSo_46 : decode cL_isStepSo 46 = .ok (.iand, 1) := by decide +kernel
theorem dL_isStepSo_47 : decode cL_isStepSo 47 = .ok (.iconst 1, 1) := by decide +kernel
theorem dL_isStepSo_48 : decode cL_isStepSo 48 = .ok (.if_icmp .ne 7, 3) := by decide +kernel
theorem dL_isStepSo_51 : decode cL_isStepSo 51 = .ok (.iconst 3, 1) := by decide +kernel
theorem dL_isStepSo_52 : decode cL_isStepSo 52 = .ok (.goto 4, 3) := by decide +kernel
theorem dL_isStepSo_55 : decode cL_isStepSo 55 = .ok (.iconst 0, 1) := by decide +kernel
theorem dL_isStepSo_56 : decode cL_isStepSo 56 = .ok (.istore 5, 2) := by decide +kernel
theorem dL_isStepSo_58 : decode cL_isStepSo 58 = .ok (.iconst 0, 1) := by decide +kernel
theorem dL_isStepSo_59 : decode cL_isStepSo 59 = .ok (.istore 6, 2) := by decide +kernel
theorem dL_isStepSo_61 : decode cL_isStepSo 61 = .ok (.iload 6, 2) := by decide +kernel
theorem dL_isStepSo_63 : decode cL_isStepSo 63 = .ok (.bipush 8, 2) := by decide +kernel
theorem dL_isStepSo_65 : decode cL_isStepSo 65 = .ok (.if_icmp .ge 84, 3) := by decide +kernel
theorem dL_isStepSo_68 : decode cL_isStepSo 68 = .ok (.iload_n 3, 1) := by decide +kernel
theorem dL_isStepSo_69 : decode cL_isStepSo 69 = .ok (.iload 6, 2) := by decide +kernel
theorem dL_isStepSo_71 : decode cL_isStepSo 71 = .ok (.ishr, 1) := by decide +kernel
theorem dL_isStepSo_72 : decode cL_isStepSo 72 = .ok (.iconst 1, 1) := by decide +kernel
theorem dL_isStepSo_73 : decode cL_isStepSo 73 = .ok (.iand, 1) := by decide +kernel
theorem dL_isStepSo_74 : decode cL_isStepSo 74 = .ok (.iconst 1, 1) := by decide +kernel
theorem dL_isStepSo_75 : decode cL_isStepSo 75 = .ok (.if_icmp .ne 7, 3) := by decide +kernel
theorem dL_isStepSo_78 : decode cL_isStepSo 78 = .ok (.iconst 1, 1) := by decide +kernel
theorem dL_isStepSo_79 : decode cL_isStepSo 79 = .ok (.goto 4, 3) := by decide +kernel
theorem dL_isStepSo_82 : decode cL_isStepSo 82 = .ok (.iconst 0, 1) := by decide +kernel
theorem dL_isStepSo_83 : decode cL_isStepSo 83 = .ok (.istore 7, 2) := by decide +kernel
theorem dL_isStepSo_85 : decode cL_isStepSo 85 = .ok (.iload 5, 2) := by decide +kernel
theorem dL_isStepSo_87 : decode cL_isStepSo 87 = .ok (.ifCond .ne 22, 3) := by decide +kernel
theorem dL_isStepSo_90 : decode cL_isStepSo 90 = .ok (.iload 7, 2) := by decide +kernel
theorem dL_isStepSo_92 : decode cL_isStepSo 92 = .ok (.ifCond .eq 17, 3) := by decide +kernel
theorem dL_isStepSo_95 : decode cL_isStepSo 95 = .ok (.aload_n 0, 1) := by decide +kernel
theorem dL_isStepSo_96 : decode cL_isStepSo 96 = .ok (.iload 6, 2) := by decide +kernel
theorem dL_isStepSo_98 : decode cL_isStepSo 98 = .ok (.iconst 0, 1) := by decide +kernel
theorem dL_isStepSo_99 : decode cL_isStepSo 99 = .ok (.invokevirtual 20, 3) := by decide +kernel
theorem dL_isStepSo_102 : decode cL_isStepSo 102 = .ok (.ifCond .ne 7, 3) := by decide +kernel
theorem dL_isStepSo_105 : decode cL_isStepSo 105 = .ok (.iconst 4, 1) := by decide +kernel
theorem dL_isStepSo_106 : decode cL_isStepSo 106 = .ok (.goto 5, 3) := by decide +kernel
theorem dL_isStepSo_109 : decode cL_isStepSo 109 = .ok (.iload 5, 2) := by decide +kernel
theorem dL_isStepSo_111 : decode cL_isStepSo 111 = .ok (.istore 5, 2) := by decide +kernel
theorem dL_isStepSo_113 : decode cL_isStepSo 113 = .ok (.iload_n 2, 1) := by decide +kernel
theorem dL_isStepSo_114 : decode cL_isStepSo 114 = .ok (.iload 7, 2) := by decide +kernel
theorem dL_isStepSo_116 : decode cL_isStepSo 116 = .ok (.ifCond .eq 24, 3) := by decide +kernel
theorem dL_isStepSo_119 : decode cL_isStepSo 119 = .ok (.aload_n 0, 1) := by decide +kernel
theorem dL_isStepSo_120 : decode cL_isStepSo 120 = .ok (.iload 6, 2) := by decide +kernel
theorem dL_isStepSo_122 : decode cL_isStepSo 122 = .ok (.iconst 0, 1) := by decide +kernel
theorem dL_isStepSo_123 : decode cL_isStepSo 123 = .ok (.invokevirtual 20, 3) := by decide +kernel
theorem dL_isStepSo_126 : decode cL_isStepSo 126 = .ok (.ifCond .le 14, 3) := by decide +kernel
theorem dL_isStepSo_129 : decode cL_isStepSo 129 = .ok (.aload_n 0, 1) := by decide +kernel
theorem dL_isStepSo_130 : decode cL_isStepSo 130 = .ok (.iload 6, 2) := by decide +kernel
theorem dL_isStepSo_132 : decode cL_isStepSo 132 = .ok (.bipush 7, 2) := by decide +kernel
theorem dL_isStepSo_134 : decode cL_isStepSo 134 = .ok (.invokevirtual 20, 3) := by decide +kernel
theorem dL_isStepSo_137 : decode cL_isStepSo 137 = .ok (.goto 4, 3) := by decide +kernel
theorem dL_isStepSo_140 : decode cL_isStepSo 140 = .ok (.iconst 0, 1) := by decide +kernel
theorem dL_isStepSo_141 : decode cL_isStepSo 141 = .ok (.iadd, 1) := by decide +kernel
theorem dL_isStepSo_142 : decode cL_isStepSo 142 = .ok (.istore_n 2, 1) := by decide +kernel
theorem dL_isStepSo_143 : decode cL_isStepSo 143 = .ok (.iinc 6 1, 3) := by decide +kernel
theorem dL_isStepSo_146 : decode cL_isStepSo 146 = .ok (.goto (-85), 3) := by decide +kernel
theorem dL_isStepSo_149 : decode cL_isStepSo 149 = .ok (.aload_n 0, 1) := by decide +kernel
theorem dL_isStepSo_150 : decode cL_isStepSo 150 = .ok (.iconst 0, 1) := by decide +kernel
theorem dL_isStepSo_151 : decode cL_isStepSo 151 = .ok (.invokevirtual 68, 3) := by decide +kernel
theorem dL_isStepSo_154 : decode cL_isStepSo 154 = .ok (.istore 6, 2) := by decide +kernel
theorem dL_isStepSo_156 : decode cL_isStepSo 156 = .ok (.iload 6, 2) := by decide +kernel
theorem dL_isStepSo_158 : decode cL_isStepSo 158 = .ok (.ifCond .ne 7, 3) := by decide +kernel
theorem dL_isStepSo_161 : decode cL_isStepSo 161 = .ok (.iload_n 2, 1) := by decide +kernel
theorem dL_isStepSo_162 : decode cL_isStepSo 162 = .ok (.goto 11, 3) := by decide +kernel
theorem dL_isStepSo_165 : decode cL_isStepSo 165 = .ok (.aload_n 0, 1) := by decide +kernel
theorem dL_isStepSo_166 : decode cL_isStepSo 166 = .ok (.iload 6, 2) := by decide +kernel
theorem dL_isStepSo_168 : decode cL_isStepSo 168 = .ok (.iconst 1, 1) := by decide +kernel
theorem dL_isStepSo_169 : decode cL_isStepSo 169 = .ok (.isub, 1) := by decide +kernel
theorem dL_isStepSo_170 : decode cL_isStepSo 170 = .ok (.invokevirtual 71, 3) := by decide +kernel
theorem dL_isStepSo_173 : decode cL_isStepSo 173 = .ok (.istore 7, 2) := by decide +kernel
theorem dL_isStepSo_175 : decode cL_isStepSo 175 = .ok (.aload_n 0, 1) := by decide +kernel
theorem dL_isStepSo_176 : decode cL_isStepSo 176 = .ok (.iconst 2, 1) := by decide +kernel
theorem dL_isStepSo_177 : decode cL_isStepSo 177 = .ok (.invokevirtual 68, 3) := by decide +kernel
theorem dL_isStepSo_180 : decode cL_isStepSo 180 = .ok (.istore 8, 2) := by decide +kernel
theorem dL_isStepSo_182 : decode cL_isStepSo 182 = .ok (.aload_n 0, 1) := by decide +kernel
theorem dL_isStepSo_183 : decode cL_isStepSo 183 = .ok (.iconst 1, 1) := by decide +kernel
theorem dL_isStepSo_184 : decode cL_isStepSo 184 = .ok (.invokevirtual 68, 3) := by decide +kernel
theorem dL_isStepSo_187 : decode cL_isStepSo 187 = .ok (.istore 9, 2) := by decide +kernel
theorem dL_isStepSo_189 : decode cL_isStepSo 189 = .ok (.aload_n 0, 1) := by decide +kernel
theorem dL_isStepSo_190 : decode cL_isStepSo 190 = .ok (.iconst 3, 1) := by decide +kernel
theorem dL_isStepSo_191 : decode cL_isStepSo 191 = .ok (.invokevirtual 68, 3) := by decide +kernel
theorem dL_isStepSo_194 : decode cL_isStepSo 194 = .ok (.iconst 1, 1) := by decide +kernel
theorem dL_isStepSo_195 : decode cL_isStepSo 195 = .ok (.if_icmp .ne 55, 3) := by decide +kernel
theorem dL_isStepSo_198 : decode cL_isStepSo 198 = .ok (.iload 7, 2) := by decide +kernel
theorem dL_isStepSo_200 : decode cL_isStepSo 200 = .ok (.iconst (-1), 1) := by decide +kernel
theorem dL_isStepSo_201 : decode cL_isStepSo 201 = .ok (.if_icmp .eq 49, 3) := by decide +kernel
theorem dL_isStepSo_204 : decode cL_isStepSo 204 = .ok (.iconst 0, 1) := by decide +kernel
theorem dL_isStepSo_205 : decode cL_isStepSo 205 = .ok (.istore 9, 2) := by decide +kernel
theorem dL_isStepSo_207 : decode cL_isStepSo 207 = .ok (.iload 9, 2) := by decide +kernel
theorem dL_isStepSo_209 : decode cL_isStepSo 209 = .ok (.bipush 8, 2) := by decide +kernel
theorem dL_isStepSo_211 : decode cL_isStepSo 211 = .ok (.if_icmp .ge 25, 3) := by decide +kernel
theorem dL_isStepSo_214 : decode cL_isStepSo 214 = .ok (.iconst 2, 1) := by decide +kernel
theorem dL_isStepSo_215 : decode cL_isStepSo 215 = .ok (.iload 7, 2) := by decide +kernel
theorem dL_isStepSo_217 : decode cL_isStepSo 217 = .ok (.imul, 1) := by decide +kernel
theorem dL_isStepSo_218 : decode cL_isStepSo 218 = .ok (.iconst 2, 1) := by decide +kernel
theorem dL_isStepSo_219 : decode cL_isStepSo 219 = .ok (.iload 9, 2) := by decide +kernel
theorem dL_isStepSo_221 : decode cL_isStepSo 221 = .ok (.imul, 1) := by decide +kernel
theorem dL_isStepSo_222 : decode cL_isStepSo 222 = .ok (.iconst 1, 1) := by decide +kernel
theorem dL_isStepSo_223 : decode cL_isStepSo 223 = .ok (.iadd, 1) := by decide +kernel
theorem dL_isStepSo_224 : decode cL_isStepSo 224 = .ok (.iload 8, 2) := by decide +kernel
theorem dL_isStepSo_226 : decode cL_isStepSo 226 = .ok (.imul, 1) := by decide +kernel
theorem dL_isStepSo_227 : decode cL_isStepSo 227 = .ok (.if_icmp .lt 9, 3) := by decide +kernel
theorem dL_isStepSo_230 : decode cL_isStepSo 230 = .ok (.iinc 9 1, 3) := by decide +kernel
theorem dL_isStepSo_233 : decode cL_isStepSo 233 = .ok (.goto (-26), 3) := by decide +kernel
theorem dL_isStepSo_236 : decode cL_isStepSo 236 = .ok (.iload 9, 2) := by decide +kernel
theorem dL_isStepSo_238 : decode cL_isStepSo 238 = .ok (.iconst 1, 1) := by decide +kernel
theorem dL_isStepSo_239 : decode cL_isStepSo 239 = .ok (.if_icmp .ge 7, 3) := by decide +kernel
theorem dL_isStepSo_242 : decode cL_isStepSo 242 = .ok (.iconst 1, 1) := by decide +kernel
theorem dL_isStepSo_243 : decode cL_isStepSo 243 = .ok (.goto 5, 3) := by decide +kernel
theorem dL_isStepSo_246 : decode cL_isStepSo 246 = .ok (.iload 9, 2) := by decide +kernel
theorem dL_isStepSo_248 : decode cL_isStepSo 248 = .ok (.istore 9, 2) := by decide +kernel
theorem dL_isStepSo_250 : decode cL_isStepSo 250 = .ok (.iload 5, 2) := by decide +kernel
theorem dL_isStepSo_252 : decode cL_isStepSo 252 = .ok (.ifCond .ne 22, 3) := by decide +kernel
theorem dL_isStepSo_255 : decode cL_isStepSo 255 = .ok (.aload_n 0, 1) := by decide +kernel
theorem dL_isStepSo_256 : decode cL_isStepSo 256 = .ok (.iload 4, 2) := by decide +kernel
theorem dL_isStepSo_258 : decode cL_isStepSo 258 = .ok (.iconst 0, 1) := by decide +kernel
theorem dL_isStepSo_259 : decode cL_isStepSo 259 = .ok (.invokevirtual 20, 3) := by decide +kernel
theorem dL_isStepSo_262 : decode cL_isStepSo 262 = .ok (.iload 9, 2) := by decide +kernel
theorem dL_isStepSo_264 : decode cL_isStepSo 264 = .ok (.iadd, 1) := by decide +kernel
theorem dL_isStepSo_265 : decode cL_isStepSo 265 = .ok (.bipush 40, 2) := by decide +kernel
theorem dL_isStepSo_267 : decode cL_isStepSo 267 = .ok (.if_icmp .le 7, 3) := by decide +kernel
theorem dL_isStepSo_270 : decode cL_isStepSo 270 = .ok (.iconst 5, 1) := by decide +kernel
theorem dL_isStepSo_271 : decode cL_isStepSo 271 = .ok (.goto 5, 3) := by decide +kernel
theorem dL_isStepSo_274 : decode cL_isStepSo 274 = .ok (.iload 5, 2) := by decide +kernel
theorem dL_isStepSo_276 : decode cL_isStepSo 276 = .ok (.istore 5, 2) := by decide +kernel
theorem dL_isStepSo_278 : decode cL_isStepSo 278 = .ok (.iload 5, 2) := by decide +kernel
theorem dL_isStepSo_280 : decode cL_isStepSo 280 = .ok (.iload_n 1, 1) := by decide +kernel
theorem dL_isStepSo_281 : decode cL_isStepSo 281 = .ok (.if_icmp .eq 5, 3) := by decide +kernel
theorem dL_isStepSo_284 : decode cL_isStepSo 284 = .ok (.iconst 0, 1) := by decide +kernel
theorem dL_isStepSo_285 : decode cL_isStepSo 285 = .ok (.ireturn, 1) := by decide +kernel
theorem dL_isStepSo_286 : decode cL_isStepSo 286 = .ok (.aload_n 0, 1) := by decide +kernel
theorem dL_isStepSo_287 : decode cL_isStepSo 287 = .ok (.iload 4, 2) := by decide +kernel
theorem dL_isStepSo_289 : decode cL_isStepSo 289 = .ok (.iconst 0, 1) := by decide +kernel
theorem dL_isStepSo_290 : decode cL_isStepSo 290 = .ok (.invokevirtual 20, 3) := by decide +kernel
theorem dL_isStepSo_293 : decode cL_isStepSo 293 = .ok (.istore 10, 2) := by decide +kernel
theorem dL_isStepSo_295 : decode cL_isStepSo 295 = .ok (.aload_n 0, 1) := by decide +kernel
theorem dL_isStepSo_296 : decode cL_isStepSo 296 = .ok (.iconst 5, 1) := by decide +kernel
theorem dL_isStepSo_297 : decode cL_isStepSo 297 = .ok (.invokevirtual 58, 3) := by decide +kernel
theorem dL_isStepSo_300 : decode cL_isStepSo 300 = .ok (.istore 11, 2) := by decide +kernel
theorem dL_isStepSo_302 : decode cL_isStepSo 302 = .ok (.aload_n 0, 1) := by decide +kernel
theorem dL_isStepSo_303 : decode cL_isStepSo 303 = .ok (.bipush 6, 2) := by decide +kernel
theorem dL_isStepSo_305 : decode cL_isStepSo 305 = .ok (.invokevirtual 58, 3) := by decide +kernel
theorem dL_isStepSo_308 : decode cL_isStepSo 308 = .ok (.istore 12, 2) := by decide +kernel
theorem dL_isStepSo_310 : decode cL_isStepSo 310 = .ok (.aload_n 0, 1) := by decide +kernel
theorem dL_isStepSo_311 : decode cL_isStepSo 311 = .ok (.bipush 10, 2) := by decide +kernel
theorem dL_isStepSo_313 : decode cL_isStepSo 313 = .ok (.invokevirtual 58, 3) := by decide +kernel
theorem dL_isStepSo_316 : decode cL_isStepSo 316 = .ok (.istore 13, 2) := by decide +kernel
theorem dL_isStepSo_318 : decode cL_isStepSo 318 = .ok (.aload_n 0, 1) := by decide +kernel
theorem dL_isStepSo_319 : decode cL_isStepSo 319 = .ok (.iconst 1, 1) := by decide +kernel
theorem dL_isStepSo_320 : decode cL_isStepSo 320 = .ok (.invokevirtual 52, 3) := by decide +kernel
theorem dL_isStepSo_323 : decode cL_isStepSo 323 = .ok (.istore 14, 2) := by decide +kernel
theorem dL_isStepSo_325 : decode cL_isStepSo 325 = .ok (.iload 14, 2) := by decide +kernel
theorem dL_isStepSo_327 : decode cL_isStepSo 327 = .ok (.iload_n 1, 1) := by decide +kernel
theorem dL_isStepSo_328 : decode cL_isStepSo 328 = .ok (.ifCond .ne 7, 3) := by decide +kernel
theorem dL_isStepSo_331 : decode cL_isStepSo 331 = .ok (.iconst 1, 1) := by decide +kernel
theorem dL_isStepSo_332 : decode cL_isStepSo 332 = .ok (.goto 4, 3) := by decide +kernel
theorem dL_isStepSo_335 : decode cL_isStepSo 335 = .ok (.iconst 0, 1) := by decide +kernel
theorem dL_isStepSo_336 : decode cL_isStepSo 336 = .ok (.if_icmp .ne 7, 3) := by decide +kernel
theorem dL_isStepSo_339 : decode cL_isStepSo 339 = .ok (.iconst 1, 1) := by decide +kernel
theorem dL_isStepSo_340 : decode cL_isStepSo 340 = .ok (.goto 4, 3) := by decide +kernel
theorem dL_isStepSo_343 : decode cL_isStepSo 343 = .ok (.iconst 0, 1) := by decide +kernel
theorem dL_isStepSo_344 : decode cL_isStepSo 344 = .ok (.istore 15, 2) := by decide +kernel
theorem dL_isStepSo_346 : decode cL_isStepSo 346 = .ok (.iload 14, 2) := by decide +kernel
theorem dL_isStepSo_348 : decode cL_isStepSo 348 = .ok (.iconst 1, 1) := by decide +kernel
theorem dL_isStepSo_349 : decode cL_isStepSo 349 = .ok (.if_icmp .ne 254, 3) := by decide +kernel
theorem dL_isStepSo_352 : decode cL_isStepSo 352 = .ok (.iload_n 2, 1) := by decide +kernel
theorem dL_isStepSo_353 : decode cL_isStepSo 353 = .ok (.iload 9, 2) := by decide +kernel
theorem dL_isStepSo_355 : decode cL_isStepSo 355 = .ok (.irem, 1) := by decide +kernel
theorem dL_isStepSo_356 : decode cL_isStepSo 356 = .ok (.istore 16, 2) := by decide +kernel
theorem dL_isStepSo_358 : decode cL_isStepSo 358 = .ok (.iconst 0, 1) := by decide +kernel
theorem dL_isStepSo_359 : decode cL_isStepSo 359 = .ok (.istore 17, 2) := by decide +kernel
theorem dL_isStepSo_361 : decode cL_isStepSo 361 = .ok (.iconst 0, 1) := by decide +kernel
theorem dL_isStepSo_362 : decode cL_isStepSo 362 = .ok (.istore 18, 2) := by decide +kernel
theorem dL_isStepSo_364 : decode cL_isStepSo 364 = .ok (.iconst 0, 1) := by decide +kernel
theorem dL_isStepSo_365 : decode cL_isStepSo 365 = .ok (.istore 19, 2) := by decide +kernel
theorem dL_isStepSo_367 : decode cL_isStepSo 367 = .ok (.iconst 0, 1) := by decide +kernel
theorem dL_isStepSo_368 : decode cL_isStepSo 368 = .ok (.istore 20, 2) := by decide +kernel
theorem dL_isStepSo_370 : decode cL_isStepSo 370 = .ok (.iload 20, 2) := by decide +kernel
theorem dL_isStepSo_372 : decode cL_isStepSo 372 = .ok (.iload 9, 2) := by decide +kernel
theorem dL_isStepSo_374 : decode cL_isStepSo 374 = .ok (.if_icmp .ge 124, 3) := by decide +kernel
theorem dL_isStepSo_377 : decode cL_isStepSo 377 = .ok (.iload_n 2, 1) := by decide +kernel
theorem dL_isStepSo_378 : decode cL_isStepSo 378 = .ok (.iload 9, 2) := by decide +kernel
theorem dL_isStepSo_380 : decode cL_isStepSo 380 = .ok (.idiv, 1) := by decide +kernel
theorem dL_isStepSo_381 : decode cL_isStepSo 381 = .ok (.iload 20, 2) := by decide +kernel
theorem dL_isStepSo_383 : decode cL_isStepSo 383 = .ok (.iload 16, 2) := by decide +kernel
theorem dL_isStepSo_385 : decode cL_isStepSo 385 = .ok (.if_icmp .ge 7, 3) := by decide +kernel
theorem dL_isStepSo_388 : decode cL_isStepSo 388 = .ok (.iconst 1, 1) := by decide +kernel
theorem dL_isStepSo_389 : decode cL_isStepSo 389 = .ok (.goto 4, 3) := by decide +kernel
theorem dL_isStepSo_392 : decode cL_isStepSo 392 = .ok (.iconst 0, 1) := by decide +kernel
theorem dL_isStepSo_393 : decode cL_isStepSo 393 = .ok (.iadd, 1) := by decide +kernel
theorem dL_isStepSo_394 : decode cL_isStepSo 394 = .ok (.istore 21, 2) := by decide +kernel
theorem dL_isStepSo_396 : decode cL_isStepSo 396 = .ok (.iload 21, 2) := by decide +kernel
theorem dL_isStepSo_398 : decode cL_isStepSo 398 = .ok (.aload_n 0, 1) := by decide +kernel
theorem dL_isStepSo_399 : decode cL_isStepSo 399 = .ok (.iconst 4, 1) := by decide +kernel
theorem dL_isStepSo_400 : decode cL_isStepSo 400 = .ok (.invokevirtual 68, 3) := by decide +kernel
theorem dL_isStepSo_403 : decode cL_isStepSo 403 = .ok (.if_icmp .le 7, 3) := by decide +kernel
theorem dL_isStepSo_406 : decode cL_isStepSo 406 = .ok (.iconst 1, 1) := by decide +kernel
theorem dL_isStepSo_407 : decode cL_isStepSo 407 = .ok (.goto 4, 3) := by decide +kernel
theorem dL_isStepSo_410 : decode cL_isStepSo 410 = .ok (.iconst 0, 1) := by decide +kernel
theorem dL_isStepSo_411 : decode cL_isStepSo 411 = .ok (.istore 22, 2) := by decide +kernel
theorem dL_isStepSo_413 : decode cL_isStepSo 413 = .ok (.iload 15, 2) := by decide +kernel
theorem dL_isStepSo_415 : decode cL_isStepSo 415 = .ok (.ifCond .eq 28, 3) := by decide +kernel
theorem dL_isStepSo_418 : decode cL_isStepSo 418 = .ok (.iload 22, 2) := by decide +kernel
theorem dL_isStepSo_420 : decode cL_isStepSo 420 = .ok (.ifCond .ne 19, 3) := by decide +kernel
theorem dL_isStepSo_423 : decode cL_isStepSo 423 = .ok (.aload_n 0, 1) := by decide +kernel
theorem dL_isStepSo_424 : decode cL_isStepSo 424 = .ok (.iload 4, 2) := by decide +kernel
theorem dL_isStepSo_426 : decode cL_isStepSo 426 = .ok (.iload 10, 2) := by decide +kernel
theorem dL_isStepSo_428 : decode cL_isStepSo 428 = .ok (.iload 17, 2) := by decide +kernel
theorem dL_isStepSo_430 : decode cL_isStepSo 430 = .ok (.iadd, 1) := by decide +kernel
theorem dL_isStepSo_431 : decode cL_isStepSo 431 = .ok (.invokevirtual 55, 3) := by decide +kernel
