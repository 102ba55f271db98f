set_option maxRecDepth 20000 in
theorem ggL_law_L_append : GoodIn wsL_law wsL_append := goodIn_ca (goodIn_ca (goodIn_r _ [474, 95, 96, 475, 476, 477, 2, 478, 103, 104, 105, 106, 27, 479, 480, 481, 26, 482, 73, 483, 484, 485, 486, 72, 487, 488, 489, 490, 825, 826, 827, 828, 829, 830, 857, 858, 859, 860, 861, 862, 863, 864, 865] (by decide +kernel) (by decide +kernel)) (goodIn_sub (fun _ h => List.mem_append_left _ (List.mem_append_right _ h)) (by decide +kernel))) (goodIn_sub (fun _ h => List.mem_append_right _ h) (by decide +kernel))
set_option maxRecDepth 20000 in
theorem gL_law_L_append : GoodIn wsL_law (va_wsS RL 106 yL_append wsL_append) := goodIn_app (goodIn_of _ (by decide +kernel)) ggL_law_L_append
set_option maxRecDepth 20000 in
theorem ggL_law_X6_append : GoodIn wsL_law wsX6_append := goodIn_r _ [494, 221, 223, 89, 227, 228, 5, 229, 230, 231, 232, 233, 831, 832, 833, 834, 835, 836, 837, 838, 839, 840, 841] (by decide +kernel) (by decide +kernel)
set_option maxRecDepth 20000 in
theorem gL_law_X6_append : GoodIn wsL_law (wsV RL 108 RX6 yX6_append wsX6_append) := goodIn_app (goodIn_of _ (by decide +kernel)) ggL_law_X6_append
set_option maxRecDepth 20000 in
theorem ggL_law_X5_clearBuffer : GoodIn wsL_law wsX5_clearBuffer := goodIn_r _ [498, 27, 487, 488, 489, 26, 490, 73, 213, 214, 215, 216, 825, 826, 827, 828, 829, 830, 857, 858, 859, 860, 861, 862, 863, 864, 865] (by decide +kernel) (by decide +kernel)
set_option maxRecDepth 20000 in
theorem gL_law_X5_clearBuffer : GoodIn wsL_law (wsV RL 109 RX5 yX5_clearBuffer wsX5_clearBuffer) := goodIn_app (goodIn_of _ (by decide +kernel)) ggL_law_X5_clearBuffer
set_option maxRecDepth 20000 in
theorem ggL_law_X6_clearBuffer : GoodIn wsL_law wsX6_clearBuffer := goodIn_r _ [502, 221, 223, 831, 832, 833, 834, 835, 836, 837, 838, 839, 840, 841] (by decide +kernel) (by decide +kernel)
set_option maxRecDepth 20000 in
theorem gL_law_X6_clearBuffer : GoodIn wsL_law (wsV RL 112 RX6 yX6_clearBuffer wsX6_clearBuffer) := goodIn_app (goodIn_of _ (by decide +kernel)) ggL_law_X6_clearBuffer
set_option maxRecDepth 20000 in
theorem ggL_law_X5_firstError : GoodIn wsL_law wsX5_firstError := goodIn_r _ [506, 27, 507, 116, 117, 26, 118, 76, 73, 119, 120, 121, 122, 77, 78, 79, 123, 124, 125, 126, 72, 127, 128, 129, 130, 80, 131, 132, 133, 134, 135, 136, 137, 138, 139, 140, 141, 142, 143, 144, 145, 146, 147, 148, 149, 150, 74, 75, 825, 826, 827, 828, 829, 830, 857, 858, 859, 860, 861, 862, 863, 864, 865] (by decide +kernel) (by decide +kernel)
set_option maxRecDepth 20000 in
theorem gL_law_X5_firstError : GoodIn wsL_law (wsV RL 113 RX5 yX5_firstError wsX5_firstError) := goodIn_app (goodIn_of _ (by decide +kernel)) ggL_law_X5_firstError
set_option maxRecDepth 20000 in
theorem ggL_law_X6_firstError : GoodIn wsL_law wsX6_firstError := goodIn_r _ [511, 221, 222, 238, 223, 234, 235, 236, 5, 237, 85, 239, 240, 241, 242, 89, 243, 244, 245, 246, 227, 228, 229, 247, 248, 249, 250, 251, 252, 253, 254, 255, 256, 257, 258, 259, 260, 261, 262, 831, 832, 833, 834, 835, 836, 837, 838, 839, 840, 841] (by decide +kernel) (by decide +kernel)
set_option maxRecDepth 20000 in
theorem gL_law_X6_firstError : GoodIn wsL_law (wsV RL 116 RX6 yX6_firstError wsX6_firstError) := goodIn_app (goodIn_of _ (by decide +kernel)) ggL_law_X6_firstError
set_option maxRecDepth 20000 in
theorem ggL_law_X5_keep : GoodIn wsL_law wsX5_keep := goodIn_r _ [515, 18, 17, 28, 516, 517, 172, 173, 16, 174, 35, 39, 41, 175, 176, 177, 178, 179, 180, 181, 182, 42, 43, 44, 45, 46, 47, 48, 49, 50, 183, 184, 185, 34, 186, 54, 187, 188, 55, 189, 190, 191, 38, 192, 59, 193, 194, 60, 825, 826, 827, 828, 829, 830, 842, 843, 844, 845, 846, 847, 848, 849, 850, 851, 852, 853, 866, 867, 868, 869] (by decide +kernel) (by decide +kernel)
set_option maxRecDepth 20000 in
theorem gL_law_X5_keep : GoodIn wsL_law (wsV RL 117 RX5 yX5_keep wsX5_keep) := goodIn_app (goodIn_of _ (by decide +kernel)) ggL_law_X5_keep
set_option maxRecDepth 20000 in
theorem ggL_law_X6_keep : GoodIn wsL_law wsX6_keep := goodIn_r _ [521, 221, 88, 85, 522, 831, 832, 833, 834, 835, 836, 837, 838, 839, 840, 841] (by decide +kernel) (by decide +kernel)
set_option maxRecDepth 20000 in
theorem gL_law_X6_keep : GoodIn wsL_law (wsV RL 120 RX6 yX6_keep wsX6_keep) := goodIn_app (goodIn_of _ (by decide +kernel)) ggL_law_X6_keep
set_option maxRecDepth 20000 in
theorem ggL_law_L_goBack : GoodIn wsL_law wsL_goBack := goodIn_ca (goodIn_r _ [525, 96, 526, 527, 528, 2, 529, 105, 106, 28, 23, 17, 18, 516, 163, 164, 165, 22, 166, 68, 67, 167, 168, 169, 170, 66, 171, 172, 173, 16, 174, 35, 39, 41, 175, 176, 177, 178, 179, 180, 181, 182, 42, 43, 44, 45, 46, 47, 48, 49, 50, 183, 184, 185, 34, 186, 54, 187, 188, 55, 189, 190, 191, 38, 192, 59, 193, 194, 60, 517, 825, 826, 827, 828, 829, 830, 842, 843, 844, 845, 846, 847, 848, 849, 850, 851, 852, 853, 854, 855, 856, 866, 867, 868, 869] (by decide +kernel) (by decide +kernel)) (goodIn_sub (fun _ h => List.mem_append_right _ h) (by decide +kernel))
set_option maxRecDepth 20000 in
theorem gL_law_L_goBack : GoodIn wsL_law (va_wsS RL 121 yL_goBack wsL_goBack) := goodIn_app (goodIn_of _ (by decide +kernel)) ggL_law_L_goBack
set_option maxRecDepth 20000 in
theorem ggL_law_X6_goBack : GoodIn wsL_law wsX6_goBack := goodIn_r _ [533, 221, 522, 85, 88, 230, 231, 232, 5, 233, 263, 264, 265, 266, 267, 87, 831, 832, 833, 834, 835, 836, 837, 838, 839, 840, 841] (by decide +kernel) (by decide +kernel)
set_option maxRecDepth 20000 in
theorem gL_law_X6_goBack : GoodIn wsL_law (wsV RL 124 RX6 yX6_goBack wsX6_goBack) := goodIn_app (goodIn_of _ (by decide +kernel)) ggL_law_X6_goBack
set_option maxRecDepth 20000 in
theorem ggL_law_L_undo : GoodIn wsL_law wsL_undo := goodIn_ca (goodIn_r _ [536, 96, 537, 538, 539, 2, 540, 105, 106, 23, 17, 541, 542, 543, 22, 544, 68, 545, 546, 547, 548, 67, 167, 168, 169, 170, 66, 171, 172, 173, 16, 174, 35, 39, 41, 175, 176, 177, 178, 179, 180, 181, 182, 42, 43, 44, 45, 46, 47, 48, 49, 50, 183, 184, 185, 34, 186, 54, 187, 188, 55, 189, 190, 191, 38, 192, 59, 193, 194, 60, 825, 826, 827, 828, 829, 830, 854, 855, 856, 842, 843, 844, 845, 846, 847, 848, 849, 850, 851, 852, 853, 866, 867, 868, 869] (by decide +kernel) (by decide +kernel)) (goodIn_sub (fun _ h => List.mem_append_right _ h) (by decide +kernel))
set_option maxRecDepth 20000 in
theorem gL_law_L_undo : GoodIn wsL_law (va_wsS RL 125 yL_undo wsL_undo) := goodIn_app (goodIn_of _ (by decide +kernel)) ggL_law_L_undo
set_option maxRecDepth 20000 in
theorem ggL_law_X6_undo : GoodIn wsL_law wsX6_undo := goodIn_r _ [552, 221, 267, 85, 87, 230, 231, 232, 5, 233, 831, 832, 833, 834, 835, 836, 837, 838, 839, 840, 841] (by decide +kernel) (by decide +kernel)
set_option maxRecDepth 20000 in
theorem gL_law_X6_undo : GoodIn wsL_law (wsV RL 127 RX6 yX6_undo wsX6_undo) := goodIn_app (goodIn_of _ (by decide +kernel)) ggL_law_X6_undo
set_option maxRecDepth 20000 in
theorem ggL_law_L_can : GoodIn wsL_law wsL_can := goodIn_ca (goodIn_ca (goodIn_r _ [555, 94, 95, 556, 557, 558, 2, 559, 101, 102, 103, 104, 17, 107, 108, 109, 110, 151, 152, 153, 34, 154, 55, 280, 281, 282, 283, 212, 284, 285, 286, 287, 54, 560, 561, 562, 563, 187, 176, 177, 178, 564, 565, 566, 567, 568, 372, 373, 569, 570, 571, 572, 573, 574, 575, 576, 577, 578, 579, 580, 581, 582, 356, 357, 16, 358, 42, 583, 825, 826, 827, 828, 829, 830, 842, 843, 844, 845, 846, 847, 848, 849, 850, 851, 852, 853, 866, 867] (by decide +kernel) (by decide +kernel)) (goodIn_sub (fun _ h => List.mem_append_left _ (List.mem_append_left _ (List.mem_append_right _ h))) (by decide +kernel))) (goodIn_sub (fun _ h => List.mem_append_left _ (List.mem_append_right _ h)) (by decide +kernel))
set_option maxRecDepth 20000 in
theorem gL_law_L_can : GoodIn wsL_law (va_wsS RL 128 yL_can wsL_can) := goodIn_app (goodIn_of _ (by decide +kernel)) ggL_law_L_can
set_option maxRecDepth 20000 in
theorem ggL_law_X6_can : GoodIn wsL_law wsX6_can := goodIn_r _ [587, 221, 224, 225, 5, 226, 227, 228, 229, 230, 231, 232, 233, 588, 589, 590, 591, 259, 260, 261, 262, 85, 296, 297, 298, 299, 300, 301, 302, 303, 592, 593, 594, 595, 596, 597, 598, 599, 600, 601, 602, 603, 415, 416, 417, 418, 831, 832, 833, 834, 835, 836, 837, 838, 839, 840, 841] (by decide +kernel) (by decide +kernel)
set_option maxRecDepth 20000 in
theorem gL_law_X6_can : GoodIn wsL_law (wsV RL 130 RX6 yX6_can wsX6_can) := goodIn_app (goodIn_of _ (by decide +kernel)) ggL_law_X6_can
set_option maxRecDepth 20000 in
theorem ggL_law_L_metre : GoodIn wsL_law wsL_metre := goodIn_ca (goodIn_ca (goodIn_r _ [606, 94, 95, 607, 608, 609, 2, 610, 101, 102, 103, 104, 17, 107, 108, 109, 110, 583, 285, 286, 34, 287, 54, 212, 152, 153, 154, 55, 825, 826, 827, 828, 829, 830, 842, 843, 844, 845, 846, 847, 848, 849, 850, 851, 852, 853, 866, 867] (by decide +kernel) (by decide +kernel)) (goodIn_sub (fun _ h => List.mem_append_left _ (List.mem_append_left _ (List.mem_append_right _ h))) (by decide +kernel))) (goodIn_sub (fun _ h => List.mem_append_left _ (List.mem_append_right _ h)) (by decide +kernel))
set_option maxRecDepth 20000 in
theorem gL_law_L_metre : GoodIn wsL_law (va_wsS RL 131 yL_metre wsL_metre) := goodIn_app (goodIn_of _ (by decide +kernel)) ggL_law_L_metre
set_option maxRecDepth 20000 in
theorem ggL_law_X6_metre : GoodIn wsL_law wsX6_metre := goodIn_r _ [614, 221, 224, 225, 5, 226, 227, 228, 229, 230, 231, 232, 233, 259, 260, 261, 262, 85, 300, 301, 302, 303, 831, 832, 833, 834, 835, 836, 837, 838, 839, 840, 841] (by decide +kernel) (by decide +kernel)
set_option maxRecDepth 20000 in
theorem gL_law_X6_metre : GoodIn wsL_law (wsV RL 133 RX6 yX6_metre wsX6_metre) := goodIn_app (goodIn_of _ (by decide +kernel)) ggL_law_X6_metre
set_option maxRecDepth 20000 in
theorem ggL_law_L_feeler : GoodIn wsL_law wsL_feeler := goodIn_ca (goodIn_r _ [617, 95, 618, 619, 620, 2, 621, 103, 104, 17, 312, 622, 379, 380, 38, 381, 60, 59, 825, 826, 827, 828, 829, 830, 842, 843, 844, 845, 846, 847, 848, 849, 850, 851, 852, 853, 868, 869] (by decide +kernel) (by decide +kernel)) (goodIn_sub (fun _ h => List.mem_append_left _ (List.mem_append_right _ h)) (by decide +kernel))
set_option maxRecDepth 20000 in
theorem gL_law_L_feeler : GoodIn wsL_law (va_wsS RL 134 yL_feeler wsL_feeler) := goodIn_app (goodIn_of _ (by decide +kernel)) ggL_law_L_feeler
