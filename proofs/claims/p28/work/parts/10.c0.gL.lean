set_option maxRecDepth 20000 in
theorem ggL_law_X5_init : GoodIn wsL_law wsX5_init := goodIn_r _ [5, 6, 7, 8, 9, 10, 11, 12, 13, 14, 15, 16, 17, 18, 19, 20, 21, 22, 23, 24, 25, 26, 27, 28, 29, 30, 31, 32, 33, 34, 35, 36, 37, 38, 39, 40, 41, 42, 43, 44, 45, 46, 47, 48, 49, 50, 51, 52, 53, 54, 55, 56, 57, 58, 59, 60, 61, 62, 63, 64, 65, 66, 67, 68, 69, 70, 71, 72, 73, 74, 75, 467, 468, 469, 470, 471, 472, 473, 474, 475, 476, 477, 478, 461, 462, 463, 464, 465, 466, 479, 480, 481, 482, 483, 484, 485, 486, 487, 488, 489, 490, 491, 492, 493, 494] (by decide +kernel) (by decide +kernel)
set_option maxRecDepth 20000 in
theorem gL_law_X5_init : GoodIn wsL_law (wsX5_init) := ggL_law_X5_init
set_option maxRecDepth 20000 in
theorem ggL_law_L_cell : GoodIn wsL_law wsL_cell := goodIn_r _ [79] (by decide +kernel) (by decide +kernel)
set_option maxRecDepth 20000 in
theorem gL_law_L_cell : GoodIn wsL_law (va_wsS RL 87 yL_cell wsL_cell) := goodIn_app (goodIn_of _ (by decide +kernel)) ggL_law_L_cell
set_option maxRecDepth 20000 in
theorem gL_law_L_fill : GoodIn wsL_law (va_wsS RL 34 yL_fill wsL_fill) := goodIn_app (goodIn_of _ (by decide +kernel)) ggL_law_L_fill
set_option maxRecDepth 20000 in
theorem ggL_law_X5_feed : GoodIn wsL_law wsX5_feed := goodIn_ca (goodIn_r _ [274, 93, 94, 18, 12, 275, 276, 226, 227, 228, 17, 229, 63, 62, 230, 231, 232, 233, 61, 234, 235, 236, 11, 237, 30, 34, 36, 238, 117, 118, 119, 239, 240, 241, 242, 37, 38, 39, 40, 41, 42, 43, 44, 45, 243, 244, 245, 29, 246, 49, 116, 247, 50, 248, 249, 250, 33, 251, 54, 252, 253, 55, 277, 278, 279, 280, 461, 462, 463, 464, 465, 466, 467, 468, 469, 470, 471, 472, 473, 474, 475, 476, 477, 478, 479, 480, 481, 491, 492, 493, 494] (by decide +kernel) (by decide +kernel)) (goodIn_sub (fun _ h => List.mem_append_left _ (List.mem_append_right _ h)) (by decide +kernel))
set_option maxRecDepth 20000 in
theorem gL_law_X5_feed : GoodIn wsL_law (wsV RL 37 RX5 yX5_feed wsX5_feed) := goodIn_app (goodIn_of _ (by decide +kernel)) ggL_law_X5_feed
set_option maxRecDepth 20000 in
theorem gL_law_L_does : GoodIn wsL_law (va_wsS RL 91 yL_does wsL_does) := goodIn_app (goodIn_of _ (by decide +kernel)) ggL_law_L_does
set_option maxRecDepth 20000 in
theorem gL_law_L_areCansSo : GoodIn wsL_law (va_wsS RL 95 yL_areCansSo wsL_areCansSo) := goodIn_app (goodIn_of _ (by decide +kernel)) ggL_law_L_areCansSo
set_option maxRecDepth 20000 in
theorem gL_law_L_isStepSo : GoodIn wsL_law (va_wsS RL 99 yL_isStepSo wsL_isStepSo) := goodIn_app (goodIn_of _ (by decide +kernel)) ggL_law_L_isStepSo
set_option maxRecDepth 20000 in
theorem ggL_law_L_low : GoodIn wsL_law wsL_low := goodIn_r _ [85, 86] (by decide +kernel) (by decide +kernel)
set_option maxRecDepth 20000 in
theorem gL_law_L_low : GoodIn wsL_law (va_wsS RL 14 yL_low wsL_low) := goodIn_app (goodIn_of _ (by decide +kernel)) ggL_law_L_low
set_option maxRecDepth 20000 in
theorem gL_law_L_isRunSo : GoodIn wsL_law (va_wsS RL 102 yL_isRunSo wsL_isRunSo) := goodIn_app (goodIn_of _ (by decide +kernel)) ggL_law_L_isRunSo
set_option maxRecDepth 20000 in
theorem gL_law_L_areBestSo : GoodIn wsL_law (va_wsS RL 106 yL_areBestSo wsL_areBestSo) := goodIn_app (goodIn_of _ (by decide +kernel)) ggL_law_L_areBestSo
