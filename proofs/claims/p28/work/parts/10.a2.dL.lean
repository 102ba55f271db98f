theorem dL_areCansSo_64 : decode cL_areCansSo 64 = .ok (.aload_n 0, 1) := by decide +kernel
theorem dL_areCansSo_65 : decode cL_areCansSo 65 = .ok (.iload_n 3, 1) := by decide +kernel
theorem dL_areCansSo_66 : decode cL_areCansSo 66 = .ok (.iload 9, 2) := by decide +kernel
theorem dL_areCansSo_68 : decode cL_areCansSo 68 = .ok (.iconst 1, 1) := by decide +kernel
theorem dL_areCansSo_69 : decode cL_areCansSo 69 = .ok (.isub, 1) := by decide +kernel
theorem dL_areCansSo_70 : decode cL_areCansSo 70 = .ok (.invokevirtual 55, 3) := by decide +kernel
theorem dL_areCansSo_73 : decode cL_areCansSo 73 = .ok (.isub, 1) := by decide +kernel
theorem dL_areCansSo_74 : decode cL_areCansSo 74 = .ok (.istore 11, 2) := by decide +kernel
theorem dL_areCansSo_76 : decode cL_areCansSo 76 = .ok (.iload 8, 2) := by decide +kernel
theorem dL_areCansSo_78 : decode cL_areCansSo 78 = .ok (.iload 11, 2) := by decide +kernel
theorem dL_areCansSo_80 : decode cL_areCansSo 80 = .ok (.ifCond .ge 9, 3) := by decide +kernel
theorem dL_areCansSo_83 : decode cL_areCansSo 83 = .ok (.iload 11, 2) := by decide +kernel
theorem dL_areCansSo_85 : decode cL_areCansSo 85 = .ok (.ineg, 1) := by decide +kernel
theorem dL_areCansSo_86 : decode cL_areCansSo 86 = .ok (.goto 5, 3) := by decide +kernel
theorem dL_areCansSo_89 : decode cL_areCansSo 89 = .ok (.iload 11, 2) := by decide +kernel
theorem dL_areCansSo_91 : decode cL_areCansSo 91 = .ok (.iadd, 1) := by decide +kernel
theorem dL_areCansSo_92 : decode cL_areCansSo 92 = .ok (.istore 8, 2) := by decide +kernel
theorem dL_areCansSo_94 : decode cL_areCansSo 94 = .ok (.iload 5, 2) := by decide +kernel
theorem dL_areCansSo_96 : decode cL_areCansSo 96 = .ok (.iload 10, 2) := by decide +kernel
theorem dL_areCansSo_98 : decode cL_areCansSo 98 = .ok (.iadd, 1) := by decide +kernel
theorem dL_areCansSo_99 : decode cL_areCansSo 99 = .ok (.istore 5, 2) := by decide +kernel
theorem dL_areCansSo_101 : decode cL_areCansSo 101 = .ok (.iload 10, 2) := by decide +kernel
theorem dL_areCansSo_103 : decode cL_areCansSo 103 = .ok (.iload 6, 2) := by decide +kernel
theorem dL_areCansSo_105 : decode cL_areCansSo 105 = .ok (.if_icmp .ge 8, 3) := by decide +kernel
theorem dL_areCansSo_108 : decode cL_areCansSo 108 = .ok (.iload 10, 2) := by decide +kernel
theorem dL_areCansSo_110 : decode cL_areCansSo 110 = .ok (.goto 5, 3) := by decide +kernel
theorem dL_areCansSo_113 : decode cL_areCansSo 113 = .ok (.iload 6, 2) := by decide +kernel
theorem dL_areCansSo_115 : decode cL_areCansSo 115 = .ok (.istore 6, 2) := by decide +kernel
theorem dL_areCansSo_117 : decode cL_areCansSo 117 = .ok (.iload 10, 2) := by decide +kernel
theorem dL_areCansSo_119 : decode cL_areCansSo 119 = .ok (.iload 7, 2) := by decide +kernel
theorem dL_areCansSo_121 : decode cL_areCansSo 121 = .ok (.if_icmp .le 8, 3) := by decide +kernel
theorem dL_areCansSo_124 : decode cL_areCansSo 124 = .ok (.iload 10, 2) := by decide +kernel
theorem dL_areCansSo_126 : decode cL_areCansSo 126 = .ok (.goto 5, 3) := by decide +kernel
theorem dL_areCansSo_129 : decode cL_areCansSo 129 = .ok (.iload 7, 2) := by decide +kernel
theorem dL_areCansSo_131 : decode cL_areCansSo 131 = .ok (.istore 7, 2) := by decide +kernel
theorem dL_areCansSo_133 : decode cL_areCansSo 133 = .ok (.iinc 9 1, 3) := by decide +kernel
theorem dL_areCansSo_136 : decode cL_areCansSo 136 = .ok (.goto (-99), 3) := by decide +kernel
theorem dL_areCansSo_139 : decode cL_areCansSo 139 = .ok (.iload_n 1, 1) := by decide +kernel
theorem dL_areCansSo_140 : decode cL_areCansSo 140 = .ok (.iload 5, 2) := by decide +kernel
theorem dL_areCansSo_142 : decode cL_areCansSo 142 = .ok (.iadd, 1) := by decide +kernel
theorem dL_areCansSo_143 : decode cL_areCansSo 143 = .ok (.istore_n 1, 1) := by decide +kernel
theorem dL_areCansSo_144 : decode cL_areCansSo 144 = .ok (.iload_n 2, 1) := by decide +kernel
theorem dL_areCansSo_145 : decode cL_areCansSo 145 = .ok (.ifCond .eq 166, 3) := by decide +kernel
theorem dL_areCansSo_148 : decode cL_areCansSo 148 = .ok (.iload 4, 2) := by decide +kernel
theorem dL_areCansSo_150 : decode cL_areCansSo 150 = .ok (.bipush 40, 2) := by decide +kernel
theorem dL_areCansSo_152 : decode cL_areCansSo 152 = .ok (.if_icmp .gt 159, 3) := by decide +kernel
theorem dL_areCansSo_155 : decode cL_areCansSo 155 = .ok (.aload_n 0, 1) := by decide +kernel
theorem dL_areCansSo_156 : decode cL_areCansSo 156 = .ok (.iload_n 3, 1) := by decide +kernel
theorem dL_areCansSo_157 : decode cL_areCansSo 157 = .ok (.iload 4, 2) := by decide +kernel
theorem dL_areCansSo_159 : decode cL_areCansSo 159 = .ok (.invokevirtual 55, 3) := by decide +kernel
theorem dL_areCansSo_162 : decode cL_areCansSo 162 = .ok (.iconst (-1), 1) := by decide +kernel
theorem dL_areCansSo_163 : decode cL_areCansSo 163 = .ok (.if_icmp .ne 148, 3) := by decide +kernel
theorem dL_areCansSo_166 : decode cL_areCansSo 166 = .ok (.aload_n 0, 1) := by decide +kernel
theorem dL_areCansSo_167 : decode cL_areCansSo 167 = .ok (.iload_n 3, 1) := by decide +kernel
theorem dL_areCansSo_168 : decode cL_areCansSo 168 = .ok (.iconst 1, 1) := by decide +kernel
theorem dL_areCansSo_169 : decode cL_areCansSo 169 = .ok (.invokevirtual 20, 3) := by decide +kernel
theorem dL_areCansSo_172 : decode cL_areCansSo 172 = .ok (.iload 5, 2) := by decide +kernel
theorem dL_areCansSo_174 : decode cL_areCansSo 174 = .ok (.if_icmp .ne 137, 3) := by decide +kernel
theorem dL_areCansSo_177 : decode cL_areCansSo 177 = .ok (.aload_n 0, 1) := by decide +kernel
theorem dL_areCansSo_178 : decode cL_areCansSo 178 = .ok (.iload_n 3, 1) := by decide +kernel
theorem dL_areCansSo_179 : decode cL_areCansSo 179 = .ok (.iconst 5, 1) := by decide +kernel
theorem dL_areCansSo_180 : decode cL_areCansSo 180 = .ok (.invokevirtual 20, 3) := by decide +kernel
theorem dL_areCansSo_183 : decode cL_areCansSo 183 = .ok (.iload 8, 2) := by decide +kernel
theorem dL_areCansSo_185 : decode cL_areCansSo 185 = .ok (.if_icmp .ne 126, 3) := by decide +kernel
theorem dL_areCansSo_188 : decode cL_areCansSo 188 = .ok (.iload 4, 2) := by decide +kernel
theorem dL_areCansSo_190 : decode cL_areCansSo 190 = .ok (.ifCond .ne 46, 3) := by decide +kernel
theorem dL_areCansSo_193 : decode cL_areCansSo 193 = .ok (.aload_n 0, 1) := by decide +kernel
theorem dL_areCansSo_194 : decode cL_areCansSo 194 = .ok (.iload_n 3, 1) := by decide +kernel
theorem dL_areCansSo_195 : decode cL_areCansSo 195 = .ok (.iconst 2, 1) := by decide +kernel
theorem dL_areCansSo_196 : decode cL_areCansSo 196 = .ok (.invokevirtual 20, 3) := by decide +kernel
theorem dL_areCansSo_199 : decode cL_areCansSo 199 = .ok (.iconst (-1), 1) := by decide +kernel
theorem dL_areCansSo_200 : decode cL_areCansSo 200 = .ok (.if_icmp .ne 111, 3) := by decide +kernel
theorem dL_areCansSo_203 : decode cL_areCansSo 203 = .ok (.aload_n 0, 1) := by decide +kernel
theorem dL_areCansSo_204 : decode cL_areCansSo 204 = .ok (.iload_n 3, 1) := by decide +kernel
theorem dL_areCansSo_205 : decode cL_areCansSo 205 = .ok (.iconst 3, 1) := by decide +kernel
theorem dL_areCansSo_206 : decode cL_areCansSo 206 = .ok (.invokevirtual 20, 3) := by decide +kernel
theorem dL_areCansSo_209 : decode cL_areCansSo 209 = .ok (.iconst (-1), 1) := by decide +kernel
theorem dL_areCansSo_210 : decode cL_areCansSo 210 = .ok (.if_icmp .ne 101, 3) := by decide +kernel
theorem dL_areCansSo_213 : decode cL_areCansSo 213 = .ok (.aload_n 0, 1) := by decide +kernel
theorem dL_areCansSo_214 : decode cL_areCansSo 214 = .ok (.iload_n 3, 1) := by decide +kernel
theorem dL_areCansSo_215 : decode cL_areCansSo 215 = .ok (.iconst 4, 1) := by decide +kernel
theorem dL_areCansSo_216 : decode cL_areCansSo 216 = .ok (.invokevirtual 20, 3) := by decide +kernel
theorem dL_areCansSo_219 : decode cL_areCansSo 219 = .ok (.ifCond .ne 92, 3) := by decide +kernel
theorem dL_areCansSo_222 : decode cL_areCansSo 222 = .ok (.aload_n 0, 1) := by decide +kernel
theorem dL_areCansSo_223 : decode cL_areCansSo 223 = .ok (.iload_n 3, 1) := by decide +kernel
theorem dL_areCansSo_224 : decode cL_areCansSo 224 = .ok (.bipush 7, 2) := by decide +kernel
theorem dL_areCansSo_226 : decode cL_areCansSo 226 = .ok (.invokevirtual 20, 3) := by decide +kernel
theorem dL_areCansSo_229 : decode cL_areCansSo 229 = .ok (.iconst (-1), 1) := by decide +kernel
theorem dL_areCansSo_230 : decode cL_areCansSo 230 = .ok (.if_icmp .ne 81, 3) := by decide +kernel
theorem dL_areCansSo_233 : decode cL_areCansSo 233 = .ok (.goto 55, 3) := by decide +kernel
theorem dL_areCansSo_236 : decode cL_areCansSo 236 = .ok (.aload_n 0, 1) := by decide +kernel
theorem dL_areCansSo_237 : decode cL_areCansSo 237 = .ok (.iload_n 3, 1) := by decide +kernel
theorem dL_areCansSo_238 : decode cL_areCansSo 238 = .ok (.iconst 2, 1) := by decide +kernel
theorem dL_areCansSo_239 : decode cL_areCansSo 239 = .ok (.invokevirtual 20, 3) := by decide +kernel
theorem dL_areCansSo_242 : decode cL_areCansSo 242 = .ok (.iload 6, 2) := by decide +kernel
theorem dL_areCansSo_244 : decode cL_areCansSo 244 = .ok (.if_icmp .ne 67, 3) := by decide +kernel
theorem dL_areCansSo_247 : decode cL_areCansSo 247 = .ok (.aload_n 0, 1) := by decide +kernel
theorem dL_areCansSo_248 : decode cL_areCansSo 248 = .ok (.iload_n 3, 1) := by decide +kernel
theorem dL_areCansSo_249 : decode cL_areCansSo 249 = .ok (.iconst 3, 1) := by decide +kernel
theorem dL_areCansSo_250 : decode cL_areCansSo 250 = .ok (.invokevirtual 20, 3) := by decide +kernel
theorem dL_areCansSo_253 : decode cL_areCansSo 253 = .ok (.iload 7, 2) := by decide +kernel
theorem dL_areCansSo_255 : decode cL_areCansSo 255 = .ok (.if_icmp .ne 56, 3) := by decide +kernel
theorem dL_areCansSo_258 : decode cL_areCansSo 258 = .ok (.aload_n 0, 1) := by decide +kernel
theorem dL_areCansSo_259 : decode cL_areCansSo 259 = .ok (.iload_n 3, 1) := by decide +kernel
theorem dL_areCansSo_260 : decode cL_areCansSo 260 = .ok (.iconst 4, 1) := by decide +kernel
theorem dL_areCansSo_261 : decode cL_areCansSo 261 = .ok (.invokevirtual 20, 3) := by decide +kernel
theorem dL_areCansSo_264 : decode cL_areCansSo 264 = .ok (.iload 7, 2) := by decide +kernel
theorem dL_areCansSo_266 : decode cL_areCansSo 266 = .ok (.iload 6, 2) := by decide +kernel
theorem dL_areCansSo_268 : decode cL_areCansSo 268 = .ok (.isub, 1) := by decide +kernel
theorem dL_areCansSo_269 : decode cL_areCansSo 269 = .ok (.if_icmp .ne 42, 3) := by decide +kernel
theorem dL_areCansSo_272 : decode cL_areCansSo 272 = .ok (.aload_n 0, 1) := by decide +kernel
theorem dL_areCansSo_273 : decode cL_areCansSo 273 = .ok (.iload_n 3, 1) := by decide +kernel
theorem dL_areCansSo_274 : decode cL_areCansSo 274 = .ok (.bipush 7, 2) := by decide +kernel
theorem dL_areCansSo_276 : decode cL_areCansSo 276 = .ok (.invokevirtual 20, 3) := by decide +kernel
theorem dL_areCansSo_279 : decode cL_areCansSo 279 = .ok (.aload_n 0, 1) := by decide +kernel
theorem dL_areCansSo_280 : decode cL_areCansSo 280 = .ok (.iload_n 3, 1) := by decide +kernel
theorem dL_areCansSo_281 : decode cL_areCansSo 281 = .ok (.iconst 0, 1) := by decide +kernel
theorem dL_areCansSo_282 : decode cL_areCansSo 282 = .ok (.invokevirtual 55, 3) := by decide +kernel
theorem dL_areCansSo_285 : decode cL_areCansSo 285 = .ok (.if_icmp .ne 26, 3) := by decide +kernel
theorem dL_areCansSo_288 : decode cL_areCansSo 288 = .ok (.aload_n 0, 1) := by decide +kernel
theorem dL_areCansSo_289 : decode cL_areCansSo 289 = .ok (.iload_n 3, 1) := by decide +kernel
theorem dL_areCansSo_290 : decode cL_areCansSo 290 = .ok (.bipush 6, 2) := by decide +kernel
theorem dL_areCansSo_292 : decode cL_areCansSo 292 = .ok (.invokevirtual 20, 3) := by decide +kernel
theorem dL_areCansSo_295 : decode cL_areCansSo 295 = .ok (.aload_n 0, 1) := by decide +kernel
theorem dL_areCansSo_296 : decode cL_areCansSo 296 = .ok (.iconst 1, 1) := by decide +kernel
theorem dL_areCansSo_297 : decode cL_areCansSo 297 = .ok (.invokevirtual 58, 3) := by decide +kernel
theorem dL_areCansSo_300 : decode cL_areCansSo 300 = .ok (.iload_n 3, 1) := by decide +kernel
theorem dL_areCansSo_301 : decode cL_areCansSo 301 = .ok (.ishr, 1) := by decide +kernel
theorem dL_areCansSo_302 : decode cL_areCansSo 302 = .ok (.iconst 1, 1) := by decide +kernel
theorem dL_areCansSo_303 : decode cL_areCansSo 303 = .ok (.iand, 1) := by decide +kernel
theorem dL_areCansSo_304 : decode cL_areCansSo 304 = .ok (.if_icmp .ne 7, 3) := by decide +kernel
theorem dL_areCansSo_307 : decode cL_areCansSo 307 = .ok (.iconst 1, 1) := by decide +kernel
theorem dL_areCansSo_308 : decode cL_areCansSo 308 = .ok (.goto 4, 3) := by decide +kernel
theorem dL_areCansSo_311 : decode cL_areCansSo 311 = .ok (.iconst 0, 1) := by decide +kernel
theorem dL_areCansSo_312 : decode cL_areCansSo 312 = .ok (.istore_n 2, 1) := by decide +kernel
theorem dL_areCansSo_313 : decode cL_areCansSo 313 = .ok (.iinc 3 1, 3) := by decide +kernel
theorem dL_areCansSo_316 : decode cL_areCansSo 316 = .ok (.goto (-310), 3) := by decide +kernel
theorem dL_areCansSo_319 : decode cL_areCansSo 319 = .ok (.iload_n 2, 1) := by decide +kernel
theorem dL_areCansSo_320 : decode cL_areCansSo 320 = .ok (.ifCond .eq 62, 3) := by decide +kernel
theorem dL_areCansSo_323 : decode cL_areCansSo 323 = .ok (.iload_n 1, 1) := by decide +kernel
theorem dL_areCansSo_324 : decode cL_areCansSo 324 = .ok (.aload_n 0, 1) := by decide +kernel
theorem dL_areCansSo_325 : decode cL_areCansSo 325 = .ok (.bipush 8, 2) := by decide +kernel
theorem dL_areCansSo_327 : decode cL_areCansSo 327 = .ok (.invokevirtual 58, 3) := by decide +kernel
theorem dL_areCansSo_330 : decode cL_areCansSo 330 = .ok (.if_icmp .ne 52, 3) := by decide +kernel
theorem dL_areCansSo_333 : decode cL_areCansSo 333 = .ok (.aload_n 0, 1) := by decide +kernel
theorem dL_areCansSo_334 : decode cL_areCansSo 334 = .ok (.bipush 9, 2) := by decide +kernel
theorem dL_areCansSo_336 : decode cL_areCansSo 336 = .ok (.invokevirtual 58, 3) := by decide +kernel
theorem dL_areCansSo_339 : decode cL_areCansSo 339 = .ok (.iload_n 1, 1) := by decide +kernel
theorem dL_areCansSo_340 : decode cL_areCansSo 340 = .ok (.if_icmp .ne 42, 3) := by decide +kernel
theorem dL_areCansSo_343 : decode cL_areCansSo 343 = .ok (.aload_n 0, 1) := by decide +kernel
theorem dL_areCansSo_344 : decode cL_areCansSo 344 = .ok (.bipush 7, 2) := by decide +kernel
theorem dL_areCansSo_346 : decode cL_areCansSo 346 = .ok (.invokevirtual 58, 3) := by decide +kernel
theorem dL_areCansSo_349 : decode cL_areCansSo 349 = .ok (.aload_n 0, 1) := by decide +kernel
theorem dL_areCansSo_350 : decode cL_areCansSo 350 = .ok (.bipush 6, 2) := by decide +kernel
theorem dL_areCansSo_352 : decode cL_areCansSo 352 = .ok (.invokevirtual 58, 3) := by decide +kernel
theorem dL_areCansSo_355 : decode cL_areCansSo 355 = .ok (.isub, 1) := by decide +kernel
theorem dL_areCansSo_356 : decode cL_areCansSo 356 = .ok (.iload_n 1, 1) := by decide +kernel
theorem dL_areCansSo_357 : decode cL_areCansSo 357 = .ok (.if_icmp .ne 25, 3) := by decide +kernel
theorem dL_areCansSo_360 : decode cL_areCansSo 360 = .ok (.aload_n 0, 1) := by decide +kernel
theorem dL_areCansSo_361 : decode cL_areCansSo 361 = .ok (.invokevirtual 61, 3) := by decide +kernel
theorem dL_areCansSo_364 : decode cL_areCansSo 364 = .ok (.fconst 0, 1) := by decide +kernel
theorem dL_areCansSo_365 : decode cL_areCansSo 365 = .ok (.fcmp .l, 1) := by decide +kernel
theorem dL_areCansSo_366 : decode cL_areCansSo 366 = .ok (.ifCond .lt 16, 3) := by decide +kernel
theorem dL_areCansSo_369 : decode cL_areCansSo 369 = .ok (.aload_n 0, 1) := by decide +kernel
theorem dL_areCansSo_370 : decode cL_areCansSo 370 = .ok (.invokevirtual 61, 3) := by decide +kernel
theorem dL_areCansSo_373 : decode cL_areCansSo 373 = .ok (.fconst 1, 1) := by decide +kernel
theorem dL_areCansSo_374 : decode cL_areCansSo 374 = .ok (.fcmp .g, 1) := by decide +kernel
theorem dL_areCansSo_375 : decode cL_areCansSo 375 = .ok (.ifCond .gt 7, 3) := by decide +kernel
theorem dL_areCansSo_378 : decode cL_areCansSo 378 = .ok (.iconst 1, 1) := by decide +kernel
theorem dL_areCansSo_379 : decode cL_areCansSo 379 = .ok (.goto 4, 3) := by decide +kernel
theorem dL_areCansSo_382 : decode cL_areCansSo 382 = .ok (.iconst 0, 1) := by decide +kernel
theorem dL_areCansSo_383 : decode cL_areCansSo 383 = .ok (.ireturn, 1) := by decide +kernel
set_option maxRecDepth 20000 in
theorem ggL_isStepSo_X5_why : GoodIn wsL_isStepSo wsX5_why := goodIn_r _ [5, 6, 7, 8, 9, 10, 11, 12, 13, 14, 15, 16, 17, 18, 19, 20, 21, 22, 23, 24, 25, 26, 27, 28, 29, 30, 31, 32, 33, 34, 35, 36, 37, 38, 39, 40, 41, 42, 43, 44, 45, 46, 47, 48, 49, 50, 51, 52, 53, 54, 55, 56, 57, 58, 59, 60, 61, 62, 63, 230, 231, 232, 233, 234, 235, 236, 237, 238, 239, 240, 241, 242, 243, 244, 245, 246, 247, 248, 249, 250, 251] (by decide +kernel) (by decide +kernel)
set_option maxRecDepth 20000 in
theorem gL_isStepSo_X5_why : GoodIn wsL_isStepSo (wsV RL 65 RX5 yX5_why wsX5_why) := goodIn_app (goodIn_of _ (by decide +kernel)) ggL_isStepSo_X5_why
set_option maxRecDepth 20000 in
theorem ggL_isStepSo_X5_count : GoodIn wsL_isStepSo wsX5_count := goodIn_ca (goodIn_r _ [67, 68, 69, 6, 70, 71, 72, 73, 74, 75, 76, 77, 78, 79, 80, 81, 82, 83, 23, 84, 85, 86, 87, 88, 35, 36, 37, 38, 25, 30, 31, 32, 33, 34, 89, 90, 91, 92, 93, 94, 230, 231, 232, 233, 234, 235, 236, 237, 238, 239, 240, 241, 242, 243, 244, 245, 246, 247, 248, 249, 252, 253, 254] (by decide +kernel) (by decide +kernel)) (goodIn_sub (fun _ h => List.mem_cons_of_mem _ (List.mem_append_left _ (List.mem_append_left _ (List.mem_append_right _ h)))) (by decide +kernel))
set_option maxRecDepth 20000 in
theorem gL_isStepSo_X5_count : GoodIn wsL_isStepSo (wsV RL 58 RX5 yX5_count wsX5_count) := goodIn_app (goodIn_of _ (by decide +kernel)) ggL_isStepSo_X5_count
set_option maxRecDepth 20000 in
theorem ggL_isStepSo_X5_can : GoodIn wsL_isStepSo wsX5_can := goodIn_ca (goodIn_ca (goodIn_r _ [98, 99, 100, 68, 69, 6, 78, 101, 102, 4, 103, 104, 36, 37, 23, 38, 25, 105, 86, 87, 88, 35, 30, 31, 32, 33, 34, 106, 107, 108, 109, 110, 45, 46, 47, 111, 112, 113, 114, 115, 49, 50, 116, 117, 118, 119, 120, 121, 122, 123, 124, 125, 126, 127, 128, 129, 17, 18, 10, 19, 13, 130, 230, 231, 232, 233, 234, 235, 236, 237, 238, 239, 240, 241, 242, 243, 244, 245, 246, 247, 248, 249] (by decide +kernel) (by decide +kernel)) (goodIn_sub (fun _ h => List.mem_cons_of_mem _ (List.mem_append_left _ (List.mem_append_right _ h))) (by decide +kernel))) (goodIn_sub (fun _ h => List.mem_cons_of_mem _ (List.mem_append_left _ (List.mem_append_left _ (List.mem_append_right _ h)))) (by decide +kernel))
set_option maxRecDepth 20000 in
theorem gL_isStepSo_X5_can : GoodIn wsL_isStepSo (wsV RL 20 RX5 yX5_can wsX5_can) := goodIn_app (goodIn_of _ (by decide +kernel)) ggL_isStepSo_X5_can
set_option maxRecDepth 20000 in
theorem ggL_isStepSo_X5_setting : GoodIn wsL_isStepSo wsX5_setting := goodIn_ca (goodIn_r _ [134, 99, 100, 6, 135, 136, 4, 137, 138, 52, 53, 10, 54, 55, 230, 231, 232, 233, 234, 235, 236, 237, 238, 239, 240, 241, 242, 243, 244, 245, 246, 247] (by decide +kernel) (by decide +kernel)) (goodIn_sub (fun _ h => List.mem_cons_of_mem _ (List.mem_append_left _ (List.mem_append_right _ h))) (by decide +kernel))
set_option maxRecDepth 20000 in
theorem gL_isStepSo_X5_setting : GoodIn wsL_isStepSo (wsV RL 68 RX5 yX5_setting wsX5_setting) := goodIn_app (goodIn_of _ (by decide +kernel)) ggL_isStepSo_X5_setting
set_option maxRecDepth 20000 in
theorem ggL_isStepSo_X5_feeler : GoodIn wsL_isStepSo wsX5_feeler := goodIn_ca (goodIn_r _ [142, 68, 69, 6, 143, 144, 57, 58, 59, 60, 61, 62, 230, 231, 232, 233, 234, 235, 236, 237, 238, 239, 240, 241, 242, 243, 244, 245, 246, 247, 250, 251] (by decide +kernel) (by decide +kernel)) (goodIn_sub (fun _ h => List.mem_cons_of_mem _ (List.mem_append_left _ (List.mem_append_left _ (List.mem_append_right _ h)))) (by decide +kernel))
set_option maxRecDepth 20000 in
theorem gL_isStepSo_X5_feeler : GoodIn wsL_isStepSo (wsV RL 71 RX5 yX5_feeler wsX5_feeler) := goodIn_app (goodIn_of _ (by decide +kernel)) ggL_isStepSo_X5_feeler
set_option maxRecDepth 20000 in
theorem ggL_isStepSo_X5_run : GoodIn wsL_isStepSo wsX5_run := goodIn_ca (goodIn_r _ [148, 68, 69, 80, 6, 149, 150, 4, 151, 152, 153, 154, 92, 155, 94, 156, 157, 158, 159, 160, 161, 162, 163, 164, 10, 165, 15, 43, 55, 44, 45, 46, 47, 166, 167, 168, 169, 13, 14, 12, 170, 171, 172, 173, 174, 175, 176, 177, 178, 23, 179, 34, 110, 180, 25, 181, 182, 183, 59, 184, 62, 185, 186, 61, 187, 188, 189, 190, 191, 8, 9, 11, 16, 17, 18, 19, 20, 21, 22, 24, 26, 27, 28, 29, 30, 31, 32, 33, 35, 36, 37, 38, 39, 40, 41, 42, 48, 49, 50, 51, 52, 53, 54, 56, 57, 58, 60, 63, 192, 193, 194, 195, 196, 197, 198, 199, 200, 201, 202, 203, 204, 205, 206, 207, 208, 209, 210, 211, 212, 213, 214, 215, 230, 231, 232, 233, 234, 235, 252, 253, 254, 236, 237, 238, 239, 240, 241, 242, 243, 244, 245, 246, 247, 248, 249, 250, 251] (by decide +kernel) (by decide +kernel)) (goodIn_sub (fun _ h => List.mem_cons_of_mem _ (List.mem_append_left _ (List.mem_append_left _ (List.mem_append_right _ h)))) (by decide +kernel))
set_option maxRecDepth 20000 in
theorem gL_isStepSo_X5_run : GoodIn wsL_isStepSo (wsV RL 52 RX5 yX5_run wsX5_run) := goodIn_app (goodIn_of _ (by decide +kernel)) ggL_isStepSo_X5_run
set_option maxRecDepth 20000 in
theorem ggL_isStepSo_X5_metre : GoodIn wsL_isStepSo wsX5_metre := goodIn_ca (goodIn_ca (goodIn_r _ [219, 99, 100, 68, 69, 6, 78, 101, 102, 4, 103, 130, 31, 32, 23, 33, 34, 35, 36, 37, 38, 25, 230, 231, 232, 233, 234, 235, 236, 237, 238, 239, 240, 241, 242, 243, 244, 245, 246, 247, 248, 249] (by decide +kernel) (by decide +kernel)) (goodIn_sub (fun _ h => List.mem_cons_of_mem _ (List.mem_append_left _ (List.mem_append_right _ h))) (by decide +kernel))) (goodIn_sub (fun _ h => List.mem_cons_of_mem _ (List.mem_append_left _ (List.mem_append_left _ (List.mem_append_right _ h)))) (by decide +kernel))
set_option maxRecDepth 20000 in
theorem gL_isStepSo_X5_metre : GoodIn wsL_isStepSo (wsV RL 55 RX5 yX5_metre wsX5_metre) := goodIn_app (goodIn_of _ (by decide +kernel)) ggL_isStepSo_X5_metre
set_option maxRecDepth 20000 in
theorem ggL_isStepSo_X5_undo : GoodIn wsL_isStepSo wsX5_undo := goodIn_ca (goodIn_r _ [223, 224, 225, 80, 6, 89, 90, 91, 92, 93, 94, 226, 227, 228, 229, 156, 157, 158, 159, 160, 161, 162, 163, 164, 10, 165, 15, 43, 55, 44, 45, 46, 47, 166, 167, 168, 169, 13, 14, 12, 170, 171, 172, 173, 174, 175, 176, 177, 178, 23, 179, 34, 110, 180, 25, 181, 182, 183, 59, 184, 62, 185, 186, 61, 230, 231, 232, 233, 234, 235, 252, 253, 254, 236, 237, 238, 239, 240, 241, 242, 243, 244, 245, 246, 247, 248, 249, 250, 251] (by decide +kernel) (by decide +kernel)) (goodIn_sub (fun _ h => List.mem_cons_of_mem _ (List.mem_append_right _ h)) (by decide +kernel))
set_option maxRecDepth 20000 in
theorem gL_isStepSo_X5_undo : GoodIn wsL_isStepSo (wsV RL 74 RX5 yX5_undo wsX5_undo) := goodIn_app (goodIn_of _ (by decide +kernel)) ggL_isStepSo_X5_undo
theorem dL_isStepSo_0 : decode cL_isStepSo 0 = .ok (.aload_n 0, 1) := by decide +kernel
theorem dL_isStepSo_1 : decode cL_isStepSo 1 = .ok (.invokevirtual 65, 3) := by decide +kernel
theorem dL_isStepSo_4 : decode cL_isStepSo 4 = .ok (.istore_n 1, 1) := by decide +kernel
theorem dL_isStepSo_5 : decode cL_isStepSo 5 = .ok (.iconst 0, 1) := by decide +kernel
theorem dL_isStepSo_6 : decode cL_isStepSo 6 = .ok (.istore_n 2, 1) := by decide +kernel
theorem dL_isStepSo_7 : decode cL_isStepSo 7 = .ok (.aload_n 0, 1) := by decide +kernel
theorem dL_isStepSo_8 : decode cL_isStepSo 8 = .ok (.iconst 1, 1) := by decide +kernel
theorem dL_isStepSo_9 : decode cL_isStepSo 9 = .ok (.invokevirtual 58, 3) := by decide +kernel
theorem dL_isStepSo_12 : decode cL_isStepSo 12 = .ok (.istore_n 3, 1) := by decide +kernel
theorem dL_isStepSo_13 : decode cL_isStepSo 13 = .ok (.aload_n 0, 1) := by decide +kernel
theorem dL_isStepSo_14 : decode cL_isStepSo 14 = .ok (.iconst 2, 1) := by decide +kernel
theorem dL_isStepSo_15 : decode cL_isStepSo 15 = .ok (.invokevirtual 58, 3) := by decide +kernel
theorem dL_isStepSo_18 : decode cL_isStepSo 18 = .ok (.istore 4, 2) := by decide +kernel
theorem dL_isStepSo_20 : decode cL_isStepSo 20 = .ok (.aload_n 0, 1) := by decide +kernel
theorem dL_isStepSo_21 : decode cL_isStepSo 21 = .ok (.iconst 3, 1) := by decide +kernel
theorem dL_isStepSo_22 : decode cL_isStepSo 22 = .ok (.invokevirtual 58, 3) := by decide +kernel
