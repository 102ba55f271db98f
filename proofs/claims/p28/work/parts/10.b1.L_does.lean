set_option maxRecDepth 100000 in
theorem qk_wsL_does : GoodIn wsL_law [.code yL_does cL_does 3 (some .int)] := fun w h => by
  rw [List.mem_singleton.mp h]
  exact ⟨List.mem_of_getElem? (i := 283) rfl, Or.inl rfl⟩
set_option maxRecDepth 20000 in
theorem qg_wsL_does_wsL_does_r1 : GoodIn wsL_law wsL_does_r1 := goodIn_r _ [83, 84, 78, 85, 86, 80, 81, 82, 87, 88, 89, 2, 90, 91, 92, 93, 94, 12, 95, 96, 97, 98, 99, 100] (by decide +kernel) (by decide +kernel)
set_option maxRecDepth 20000 in
theorem qg_wsL_does_wsL_does_r2 : GoodIn wsL_law wsL_does_r2 := goodIn_r _ [101, 29, 102, 50, 103, 104, 105, 106, 107, 108, 109, 110, 111, 49, 112, 113, 114, 115, 116, 117, 118, 119, 120, 121] (by decide +kernel) (by decide +kernel)
set_option maxRecDepth 20000 in
theorem qg_wsL_does_wsL_does_r3 : GoodIn wsL_law wsL_does_r3 := goodIn_r _ [122, 123, 124, 125, 126, 127, 128, 129, 130, 131, 132, 133, 134, 135, 136, 137, 138, 139, 140, 141, 142, 11, 143, 37] (by decide +kernel) (by decide +kernel)
set_option maxRecDepth 20000 in
theorem qg_wsL_does_wsL_does_r4 : GoodIn wsL_law wsL_does_r4 := goodIn_r _ [144, 145, 146, 147, 148, 22, 149, 150, 151, 21, 152, 68, 153, 154, 155, 156, 157, 158, 159, 160, 161, 162, 163, 164] (by decide +kernel) (by decide +kernel)
set_option maxRecDepth 20000 in
theorem qg_wsL_does_wsL_does_r5 : GoodIn wsL_law wsL_does_r5 := goodIn_r _ [165, 166, 167, 168, 169, 170, 171, 172, 173, 67, 174, 175, 176, 177, 18, 178, 179, 180, 181, 182, 183, 184, 185, 71] (by decide +kernel) (by decide +kernel)
set_option maxRecDepth 20000 in
theorem qg_wsL_does_wsL_does_r6 : GoodIn wsL_law wsL_does_r6 := goodIn_r _ [186, 187, 188, 189, 72, 73, 74, 190, 191, 192, 193, 194, 195, 196, 197, 75, 198, 199, 200, 201, 202, 203, 204, 205] (by decide +kernel) (by decide +kernel)
set_option maxRecDepth 20000 in
theorem qg_wsL_does_wsL_does_r7 : GoodIn wsL_law wsL_does_r7 := goodIn_r _ [206, 207, 208, 209, 210, 211, 212, 213, 214, 215, 216, 217, 69, 70, 218, 219, 220, 221, 222, 223, 224, 225, 226, 227] (by decide +kernel) (by decide +kernel)
set_option maxRecDepth 20000 in
theorem qg_wsL_does_wsL_does_r8 : GoodIn wsL_law wsL_does_r8 := goodIn_r _ [228, 17, 229, 63, 62, 230, 231, 232, 233, 61, 234, 235, 236, 237, 30, 34, 36, 238, 239, 240, 241, 242, 38, 39] (by decide +kernel) (by decide +kernel)
set_option maxRecDepth 20000 in
theorem qg_wsL_does_wsL_does_r9 : GoodIn wsL_law wsL_does_r9 := goodIn_r _ [40, 41, 42, 43, 44, 45, 243, 244, 245, 246, 247, 248, 249, 250, 33, 251, 54, 252, 253, 55, 254, 255, 256, 257] (by decide +kernel) (by decide +kernel)
set_option maxRecDepth 20000 in
theorem qg_wsL_does_wsL_does_r10 : GoodIn wsL_law wsL_does_r10 := goodIn_r _ [258, 259, 260, 261, 262, 263, 264, 265, 266, 267, 268, 269, 270, 271, 272, 273, 274, 275, 276, 277, 278, 279, 280, 284] (by decide +kernel) (by decide +kernel)
set_option maxRecDepth 20000 in
theorem qg_wsL_does_wsL_does_r11 : GoodIn wsL_law wsL_does_r11 := goodIn_r _ [285, 286, 287, 288, 289, 290, 291, 292, 293, 294, 295, 296, 297, 298, 299, 300, 301, 302, 303, 304, 305, 306, 307, 308] (by decide +kernel) (by decide +kernel)
set_option maxRecDepth 20000 in
theorem qg_wsL_does_wsL_does_r12 : GoodIn wsL_law wsL_does_r12 := goodIn_r _ [309, 310, 311, 312, 313, 314, 315, 316, 317, 318, 319, 320, 321, 322, 323, 324, 325, 326, 327, 328, 329, 330, 331, 332] (by decide +kernel) (by decide +kernel)
set_option maxRecDepth 20000 in
theorem qg_wsL_does_wsL_does_r13 : GoodIn wsL_law wsL_does_r13 := goodIn_r _ [333, 334, 335, 336, 337, 338, 339, 340, 341, 342, 343, 344, 345, 346, 347, 348, 349, 350, 351, 352, 353, 354, 355, 356] (by decide +kernel) (by decide +kernel)
set_option maxRecDepth 20000 in
theorem qg_wsL_does_wsL_does_r14 : GoodIn wsL_law wsL_does_r14 := goodIn_r _ [357, 358, 359, 360, 361, 362, 363, 364, 365, 366, 367, 368, 369, 370, 371, 372, 373, 374, 375, 376, 377] (by decide +kernel) (by decide +kernel)
set_option maxRecDepth 20000 in
theorem qg_wsL_does_wsX50 : GoodIn wsL_law wsX50 := goodIn_r _ [461, 462, 463, 464, 465, 466] (by decide +kernel) (by decide +kernel)
set_option maxRecDepth 20000 in
theorem qg_wsL_does_wsX20 : GoodIn wsL_law wsX20 := goodIn_r _ [467, 468, 469, 470, 471, 472, 473, 474, 475, 476, 477, 478] (by decide +kernel) (by decide +kernel)
set_option maxRecDepth 20000 in
theorem qg_wsL_does_wsX00 : GoodIn wsL_law wsX00 := goodIn_r _ [491, 492] (by decide +kernel) (by decide +kernel)
set_option maxRecDepth 20000 in
theorem qg_wsL_does_wsX40 : GoodIn wsL_law wsX40 := goodIn_r _ [482, 483, 484, 485, 486, 487, 488, 489, 490] (by decide +kernel) (by decide +kernel)
set_option maxRecDepth 20000 in
theorem qg_wsL_does_wsX30 : GoodIn wsL_law wsX30 := goodIn_r _ [479, 480, 481] (by decide +kernel) (by decide +kernel)
set_option maxRecDepth 20000 in
theorem qg_wsL_does_wsX10 : GoodIn wsL_law wsX10 := goodIn_r _ [493, 494] (by decide +kernel) (by decide +kernel)
set_option maxRecDepth 20000 in
theorem qf0_wsL_does : GoodIn wsL_law ((vx_atS RX5 48 "java/lang/IndexOutOfBoundsException" ["java/lang/RuntimeException", "java/lang/Exception"]).filter goodWord) := goodIn_sub (fun _ h => List.mem_append_left _ (List.mem_append_left _ (List.mem_append_right _ h))) (by decide +kernel)
set_option maxRecDepth 20000 in
theorem qf1_wsL_does : GoodIn wsL_law ((vx_atS RX5 59 "java/lang/IllegalArgumentException" ["java/lang/RuntimeException", "java/lang/Exception"]).filter goodWord) := goodIn_sub (fun _ h => List.mem_append_left _ (List.mem_append_right _ h)) (by decide +kernel)
set_option maxRecDepth 20000 in
theorem qf2_wsL_does : GoodIn wsL_law ((vx_atS RX5 78 "java/lang/IllegalStateException" ["java/lang/RuntimeException", "java/lang/Exception"]).filter goodWord) := goodIn_sub (fun _ h => List.mem_append_right _ h) (by decide +kernel)
set_option maxRecDepth 20000 in
theorem ggL_law_L_does : GoodIn wsL_law wsL_does := goodIn_app (a := [.code yL_does cL_does 3 (some .int)]) qk_wsL_does (goodIn_app (goodIn_app (goodIn_app (goodIn_app (goodIn_app (goodIn_app (goodIn_app (goodIn_app (goodIn_app (goodIn_app qg_wsL_does_wsL_does_r1 (goodIn_app qg_wsL_does_wsL_does_r2 (goodIn_app qg_wsL_does_wsL_does_r3 (goodIn_app qg_wsL_does_wsL_does_r4 (goodIn_app qg_wsL_does_wsL_does_r5 (goodIn_app qg_wsL_does_wsL_does_r6 (goodIn_app qg_wsL_does_wsL_does_r7 (goodIn_app qg_wsL_does_wsL_does_r8 (goodIn_app qg_wsL_does_wsL_does_r9 (goodIn_app qg_wsL_does_wsL_does_r10 (goodIn_app qg_wsL_does_wsL_does_r11 (goodIn_app qg_wsL_does_wsL_does_r12 (goodIn_app qg_wsL_does_wsL_does_r13 qg_wsL_does_wsL_does_r14))))))))))))) qg_wsL_does_wsX50) qg_wsL_does_wsX20) qg_wsL_does_wsX00) qg_wsL_does_wsX40) qg_wsL_does_wsX30) qg_wsL_does_wsX10) qf0_wsL_does) qf1_wsL_does) qf2_wsL_does)
