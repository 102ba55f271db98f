set_option maxRecDepth 100000 in
theorem qk_wsL_isStepSo : GoodIn wsL_law [.code yL_isStepSo cL_isStepSo 23 (some .boolean)] := fun w h => by
  rw [List.mem_singleton.mp h]
  exact ⟨List.mem_of_getElem? (i := 409) rfl, Or.inl rfl⟩
set_option maxRecDepth 20000 in
theorem qg_wsL_isStepSo_wsL_isStepSo_r1 : GoodIn wsL_law wsL_isStepSo_r1 := goodIn_r _ [410, 411, 412, 2, 413, 12, 414, 335, 336, 11, 337, 39, 37, 38, 30, 338, 141, 142, 143, 339, 340, 341, 29, 342] (by decide +kernel) (by decide +kernel)
set_option maxRecDepth 20000 in
theorem qg_wsL_isStepSo_wsL_isStepSo_r2 : GoodIn wsL_law wsL_isStepSo_r2 := goodIn_r _ [50, 343, 344, 345, 346, 108, 109, 110, 111, 49, 107, 100, 101, 102, 347, 348, 349, 350, 34, 238, 117, 118, 119, 351] (by decide +kernel) (by decide +kernel)
set_option maxRecDepth 20000 in
theorem qg_wsL_isStepSo_wsL_isStepSo_r3 : GoodIn wsL_law wsL_isStepSo_r3 := goodIn_r _ [125, 126, 352, 316, 317, 318, 36, 353, 354, 355, 33, 356, 55, 54, 357, 385, 386, 387, 388, 93, 94, 389, 275, 288] (by decide +kernel) (by decide +kernel)
set_option maxRecDepth 20000 in
theorem qg_wsL_isStepSo_wsL_isStepSo_r4 : GoodIn wsL_law wsL_isStepSo_r4 := goodIn_r _ [293, 390, 391, 298, 392, 95, 393, 18, 394, 395, 396, 397, 398, 104, 105, 106, 399, 400, 401, 17, 402, 63, 87, 88] (by decide +kernel) (by decide +kernel)
set_option maxRecDepth 20000 in
theorem qg_wsL_isStepSo_wsL_isStepSo_r5 : GoodIn wsL_law wsL_isStepSo_r5 := goodIn_r _ [89, 90, 91, 92, 96, 97, 98, 99, 103, 112, 113, 114, 115, 116, 120, 121, 122, 123, 124, 127, 128, 129, 130, 131] (by decide +kernel) (by decide +kernel)
set_option maxRecDepth 20000 in
theorem qg_wsL_isStepSo_wsL_isStepSo_r6 : GoodIn wsL_law wsL_isStepSo_r6 := goodIn_r _ [132, 133, 134, 135, 136, 137, 138, 139, 140, 144, 415, 416, 417, 418, 307, 308, 309, 315, 419, 420, 421, 422, 276, 423] (by decide +kernel) (by decide +kernel)
set_option maxRecDepth 20000 in
theorem qg_wsL_isStepSo_wsL_isStepSo_r7 : GoodIn wsL_law wsL_isStepSo_r7 := goodIn_r _ [323, 324, 325, 326, 327, 328, 329, 226, 227, 228, 229, 62, 230, 231, 232, 233, 61, 234, 235, 236, 237, 239, 240, 241] (by decide +kernel) (by decide +kernel)
set_option maxRecDepth 20000 in
theorem qg_wsL_isStepSo_wsL_isStepSo_r8 : GoodIn wsL_law wsL_isStepSo_r8 := goodIn_r _ [242, 40, 41, 42, 43, 44, 45, 243, 244, 245, 246, 247, 248, 249, 250, 251, 252, 253, 330, 331, 332, 333, 334, 358] (by decide +kernel) (by decide +kernel)
set_option maxRecDepth 20000 in
theorem qg_wsL_isStepSo_wsL_isStepSo_r9 : GoodIn wsL_law wsL_isStepSo_r9 := goodIn_r _ [359, 360, 361, 362, 363, 364, 365, 366, 367, 368, 369, 370, 371, 372, 373, 374, 375, 376, 377, 267, 268, 269, 270, 381] (by decide +kernel) (by decide +kernel)
set_option maxRecDepth 20000 in
theorem qg_wsL_isStepSo_wsL_isStepSo_r10 : GoodIn wsL_law wsL_isStepSo_r10 := goodIn_r _ [382, 383, 384, 424, 425, 426, 427, 164, 165, 428, 429, 430, 431] (by decide +kernel) (by decide +kernel)
set_option maxRecDepth 20000 in
theorem qg_wsL_isStepSo_wsX50 : GoodIn wsL_law wsX50 := goodIn_r _ [461, 462, 463, 464, 465, 466] (by decide +kernel) (by decide +kernel)
set_option maxRecDepth 20000 in
theorem qg_wsL_isStepSo_wsX20 : GoodIn wsL_law wsX20 := goodIn_r _ [467, 468, 469, 470, 471, 472, 473, 474, 475, 476, 477, 478] (by decide +kernel) (by decide +kernel)
set_option maxRecDepth 20000 in
theorem qg_wsL_isStepSo_wsX00 : GoodIn wsL_law wsX00 := goodIn_r _ [491, 492] (by decide +kernel) (by decide +kernel)
set_option maxRecDepth 20000 in
theorem qg_wsL_isStepSo_wsX10 : GoodIn wsL_law wsX10 := goodIn_r _ [493, 494] (by decide +kernel) (by decide +kernel)
set_option maxRecDepth 20000 in
theorem qg_wsL_isStepSo_wsX30 : GoodIn wsL_law wsX30 := goodIn_r _ [479, 480, 481] (by decide +kernel) (by decide +kernel)
set_option maxRecDepth 20000 in
theorem qf0_wsL_isStepSo : GoodIn wsL_law ((vx_atS RX5 59 "java/lang/IllegalArgumentException" ["java/lang/RuntimeException", "java/lang/Exception"]).filter goodWord) := goodIn_sub (fun _ h => List.mem_append_left _ (List.mem_append_right _ h)) (by decide +kernel)
set_option maxRecDepth 20000 in
theorem qf1_wsL_isStepSo : GoodIn wsL_law ((vx_atS RX5 48 "java/lang/IndexOutOfBoundsException" ["java/lang/RuntimeException", "java/lang/Exception"]).filter goodWord) := goodIn_sub (fun _ h => List.mem_append_left _ (List.mem_append_left _ (List.mem_append_right _ h))) (by decide +kernel)
set_option maxRecDepth 20000 in
theorem qf2_wsL_isStepSo : GoodIn wsL_law ((vx_atS RX5 78 "java/lang/IllegalStateException" ["java/lang/RuntimeException", "java/lang/Exception"]).filter goodWord) := goodIn_sub (fun _ h => List.mem_append_right _ h) (by decide +kernel)
set_option maxRecDepth 20000 in
theorem ggL_law_L_isStepSo : GoodIn wsL_law wsL_isStepSo := goodIn_app (a := [.code yL_isStepSo cL_isStepSo 23 (some .boolean)]) qk_wsL_isStepSo (goodIn_app (goodIn_app (goodIn_app (goodIn_app (goodIn_app (goodIn_app (goodIn_app (goodIn_app (goodIn_app qg_wsL_isStepSo_wsL_isStepSo_r1 (goodIn_app qg_wsL_isStepSo_wsL_isStepSo_r2 (goodIn_app qg_wsL_isStepSo_wsL_isStepSo_r3 (goodIn_app qg_wsL_isStepSo_wsL_isStepSo_r4 (goodIn_app qg_wsL_isStepSo_wsL_isStepSo_r5 (goodIn_app qg_wsL_isStepSo_wsL_isStepSo_r6 (goodIn_app qg_wsL_isStepSo_wsL_isStepSo_r7 (goodIn_app qg_wsL_isStepSo_wsL_isStepSo_r8 (goodIn_app qg_wsL_isStepSo_wsL_isStepSo_r9 qg_wsL_isStepSo_wsL_isStepSo_r10))))))))) qg_wsL_isStepSo_wsX50) qg_wsL_isStepSo_wsX20) qg_wsL_isStepSo_wsX00) qg_wsL_isStepSo_wsX10) qg_wsL_isStepSo_wsX30) qf0_wsL_isStepSo) qf1_wsL_isStepSo) qf2_wsL_isStepSo)
