set_option maxRecDepth 100000 in
theorem qk_wsL_areBestSo : GoodIn wsL_law [.code yL_areBestSo cL_areBestSo 16 (some .boolean)] := fun w h => by
  rw [List.mem_singleton.mp h]
  exact ⟨List.mem_of_getElem? (i := 442) rfl, Or.inl rfl⟩
set_option maxRecDepth 20000 in
theorem qg_wsL_areBestSo_wsL_areBestSo_r1 : GoodIn wsL_law wsL_areBestSo_r1 := goodIn_r _ [443, 444, 445, 2, 446, 93, 94, 14, 12, 95, 288, 327, 328, 329, 439, 235, 236, 11, 237, 30, 34, 36, 238, 117] (by decide +kernel) (by decide +kernel)
set_option maxRecDepth 20000 in
theorem qg_wsL_areBestSo_wsL_areBestSo_r2 : GoodIn wsL_law wsL_areBestSo_r2 := goodIn_r _ [118, 119, 239, 240, 241, 242, 37, 38, 39, 40, 41, 42, 43, 44, 45, 243, 244, 245, 29, 246, 49, 116, 247, 50] (by decide +kernel) (by decide +kernel)
set_option maxRecDepth 20000 in
theorem qg_wsL_areBestSo_wsL_areBestSo_r3 : GoodIn wsL_law wsL_areBestSo_r3 := goodIn_r _ [248, 249, 250, 33, 251, 54, 252, 253, 55, 319, 320, 321, 322, 330, 331, 332, 333, 334, 335, 336, 337, 338, 141, 142] (by decide +kernel) (by decide +kernel)
set_option maxRecDepth 20000 in
theorem qg_wsL_areBestSo_wsL_areBestSo_r4 : GoodIn wsL_law wsL_areBestSo_r4 := goodIn_r _ [143, 339, 340, 341, 342, 343, 344, 345, 346, 108, 109, 110, 111, 107, 100, 101, 102, 347, 348, 349, 350, 351, 125, 126] (by decide +kernel) (by decide +kernel)
set_option maxRecDepth 20000 in
theorem qg_wsL_areBestSo_wsL_areBestSo_r5 : GoodIn wsL_law wsL_areBestSo_r5 := goodIn_r _ [352, 316, 317, 318, 353, 354, 355, 356, 357, 358, 359, 360, 361, 362, 363, 364, 365, 366, 367, 368, 369, 370, 371, 372] (by decide +kernel) (by decide +kernel)
set_option maxRecDepth 20000 in
theorem qg_wsL_areBestSo_wsL_areBestSo_r6 : GoodIn wsL_law wsL_areBestSo_r6 := goodIn_r _ [373, 374, 375, 376, 377, 267, 268, 269, 270, 133, 134, 135, 136, 137, 138, 139, 415, 416, 417, 418, 91, 92, 307, 308] (by decide +kernel) (by decide +kernel)
set_option maxRecDepth 20000 in
theorem qg_wsL_areBestSo_wsL_areBestSo_r7 : GoodIn wsL_law wsL_areBestSo_r7 := goodIn_r _ [309, 315, 303, 304, 305, 306, 18, 310, 311, 312, 313, 314, 226, 227, 228, 17, 229, 63, 62, 230, 231, 232, 233, 61] (by decide +kernel) (by decide +kernel)
set_option maxRecDepth 20000 in
theorem qg_wsL_areBestSo_wsL_areBestSo_r8 : GoodIn wsL_law wsL_areBestSo_r8 := goodIn_r _ [234, 435, 436, 437, 438, 298, 127, 128, 129, 130, 131, 121, 122, 123, 124, 132, 113, 114, 115, 414, 424, 425, 426, 427] (by decide +kernel) (by decide +kernel)
set_option maxRecDepth 20000 in
theorem qg_wsL_areBestSo_wsL_areBestSo_r9 : GoodIn wsL_law wsL_areBestSo_r9 := goodIn_r _ [164, 165, 399, 400, 401, 402, 428, 429, 430, 431, 447, 448, 449, 450, 451, 452, 453, 454, 455, 456, 457, 458, 459, 460] (by decide +kernel) (by decide +kernel)
set_option maxRecDepth 20000 in
theorem qg_wsL_areBestSo_wsL_areBestSo_r10 : GoodIn wsL_law wsL_areBestSo_r10 := goodIn_r _ [385, 386, 387, 388, 389, 275, 293, 390, 391, 392, 393, 394, 395, 396, 397, 398, 104, 105, 106, 87, 88, 89, 90, 96] (by decide +kernel) (by decide +kernel)
set_option maxRecDepth 20000 in
theorem qg_wsL_areBestSo_wsL_areBestSo_r11 : GoodIn wsL_law wsL_areBestSo_r11 := goodIn_r _ [97, 98, 99, 103, 112, 120, 140, 144] (by decide +kernel) (by decide +kernel)
set_option maxRecDepth 20000 in
theorem qg_wsL_areBestSo_wsX50 : GoodIn wsL_law wsX50 := goodIn_r _ [461, 462, 463, 464, 465, 466] (by decide +kernel) (by decide +kernel)
set_option maxRecDepth 20000 in
theorem qg_wsL_areBestSo_wsX20 : GoodIn wsL_law wsX20 := goodIn_r _ [467, 468, 469, 470, 471, 472, 473, 474, 475, 476, 477, 478] (by decide +kernel) (by decide +kernel)
set_option maxRecDepth 20000 in
theorem qg_wsL_areBestSo_wsX00 : GoodIn wsL_law wsX00 := goodIn_r _ [491, 492] (by decide +kernel) (by decide +kernel)
set_option maxRecDepth 20000 in
theorem qg_wsL_areBestSo_wsX10 : GoodIn wsL_law wsX10 := goodIn_r _ [493, 494] (by decide +kernel) (by decide +kernel)
set_option maxRecDepth 20000 in
theorem qg_wsL_areBestSo_wsX30 : GoodIn wsL_law wsX30 := goodIn_r _ [479, 480, 481] (by decide +kernel) (by decide +kernel)
set_option maxRecDepth 20000 in
theorem qf0_wsL_areBestSo : GoodIn wsL_law ((vx_atS RX5 59 "java/lang/IllegalArgumentException" ["java/lang/RuntimeException", "java/lang/Exception"]).filter goodWord) := goodIn_sub (fun _ h => List.mem_append_left _ (List.mem_append_right _ h)) (by decide +kernel)
set_option maxRecDepth 20000 in
theorem qf1_wsL_areBestSo : GoodIn wsL_law ((vx_atS RX5 48 "java/lang/IndexOutOfBoundsException" ["java/lang/RuntimeException", "java/lang/Exception"]).filter goodWord) := goodIn_sub (fun _ h => List.mem_append_left _ (List.mem_append_left _ (List.mem_append_right _ h))) (by decide +kernel)
set_option maxRecDepth 20000 in
theorem qf2_wsL_areBestSo : GoodIn wsL_law ((vx_atS RX5 78 "java/lang/IllegalStateException" ["java/lang/RuntimeException", "java/lang/Exception"]).filter goodWord) := goodIn_sub (fun _ h => List.mem_append_right _ h) (by decide +kernel)
set_option maxRecDepth 20000 in
theorem ggL_law_L_areBestSo : GoodIn wsL_law wsL_areBestSo := goodIn_app (a := [.code yL_areBestSo cL_areBestSo 16 (some .boolean)]) qk_wsL_areBestSo (goodIn_app (goodIn_app (goodIn_app (goodIn_app (goodIn_app (goodIn_app (goodIn_app (goodIn_app (goodIn_app qg_wsL_areBestSo_wsL_areBestSo_r1 (goodIn_app qg_wsL_areBestSo_wsL_areBestSo_r2 (goodIn_app qg_wsL_areBestSo_wsL_areBestSo_r3 (goodIn_app qg_wsL_areBestSo_wsL_areBestSo_r4 (goodIn_app qg_wsL_areBestSo_wsL_areBestSo_r5 (goodIn_app qg_wsL_areBestSo_wsL_areBestSo_r6 (goodIn_app qg_wsL_areBestSo_wsL_areBestSo_r7 (goodIn_app qg_wsL_areBestSo_wsL_areBestSo_r8 (goodIn_app qg_wsL_areBestSo_wsL_areBestSo_r9 (goodIn_app qg_wsL_areBestSo_wsL_areBestSo_r10 qg_wsL_areBestSo_wsL_areBestSo_r11)))))))))) qg_wsL_areBestSo_wsX50) qg_wsL_areBestSo_wsX20) qg_wsL_areBestSo_wsX00) qg_wsL_areBestSo_wsX10) qg_wsL_areBestSo_wsX30) qf0_wsL_areBestSo) qf1_wsL_areBestSo) qf2_wsL_areBestSo)
