set_option maxRecDepth 20000 in
theorem q_wsX5_digest_c : GoodIn wsL_law [.code yX5_digest cX5_digest 5 (some .long)] := goodIn_r _ [776] (by decide +kernel) (by decide +kernel)
set_option maxRecDepth 20000 in
theorem q_wsX5_digest_r1 : GoodIn wsL_law wsX5_digest_r1 := goodIn_r _ [777, 28, 27, 778, 635, 636, 2, 637, 103, 104, 17, 516, 311, 332, 443, 638, 639, 279, 640, 107, 641, 23, 642, 643] (by decide +kernel) (by decide +kernel)
set_option maxRecDepth 20000 in
theorem q_wsX5_digest_r2 : GoodIn wsL_law wsX5_digest_r2 := goodIn_r _ [644, 34, 645, 646, 281, 282, 283, 212, 152, 153, 154, 55, 284, 285, 286, 287, 54, 541, 542, 543, 22, 544, 68, 779] (by decide +kernel) (by decide +kernel)
set_option maxRecDepth 20000 in
theorem q_wsX5_digest_r3 : GoodIn wsL_law wsX5_digest_r3 := goodIn_r _ [780, 781, 782, 783, 663, 664, 665, 101, 102, 455, 456, 457, 463, 375, 376, 16, 377, 41, 784, 785, 786, 787, 788, 557] (by decide +kernel) (by decide +kernel)
set_option maxRecDepth 20000 in
theorem q_wsX5_digest_r4 : GoodIn wsL_law wsX5_digest_r4 := goodIn_r _ [558, 559, 108, 109, 110, 151, 280, 560, 561, 562, 563, 187, 176, 177, 178, 564, 565, 566, 567, 568, 372, 373, 569, 570] (by decide +kernel) (by decide +kernel)
set_option maxRecDepth 20000 in
theorem q_wsX5_digest_r5 : GoodIn wsL_law wsX5_digest_r5 := goodIn_r _ [571, 572, 573, 574, 575, 576, 577, 578, 579, 580, 581, 582, 356, 357, 358, 42, 583, 789, 750, 751, 752, 790, 791, 792] (by decide +kernel) (by decide +kernel)
set_option maxRecDepth 20000 in
theorem q_wsX5_digest_r6 : GoodIn wsL_law wsX5_digest_r6 := goodIn_r _ [793, 794, 795, 796, 619, 620, 621, 312, 622, 379, 380, 38, 381, 60, 59, 797, 671, 672, 673, 674, 352, 353, 354, 44] (by decide +kernel) (by decide +kernel)
set_option maxRecDepth 20000 in
theorem q_wsX5_digest_r7 : GoodIn wsL_law wsX5_digest_r7 := goodIn_r _ [43, 35, 355, 359, 360, 361, 362, 363, 364, 365, 366, 367, 368, 369, 370, 39, 175, 371, 374, 378, 382, 798, 683, 684] (by decide +kernel) (by decide +kernel)
set_option maxRecDepth 20000 in
theorem q_wsX5_digest_r8 : GoodIn wsL_law wsX5_digest_r8 := goodIn_r _ [685, 19, 344, 345, 346, 517, 172, 173, 174, 179, 180, 181, 182, 45, 46, 47, 48, 49, 50, 183, 184, 185, 186, 188] (by decide +kernel) (by decide +kernel)
set_option maxRecDepth 20000 in
theorem q_wsX5_digest_r9 : GoodIn wsL_law wsX5_digest_r9 := goodIn_r _ [189, 190, 191, 192, 193, 194, 347, 348, 349, 350, 351, 383, 384, 385, 386, 387, 388, 389, 390, 391, 392, 393, 394, 395] (by decide +kernel) (by decide +kernel)
set_option maxRecDepth 20000 in
theorem q_wsX5_digest_r10 : GoodIn wsL_law wsX5_digest_r10 := goodIn_r _ [396, 397, 398, 399, 400, 401, 402, 208, 209, 210, 211, 799, 706, 707, 708, 464, 465, 466, 467, 800, 721, 722, 723, 724] (by decide +kernel) (by decide +kernel)
set_option maxRecDepth 20000 in
theorem q_wsX5_digest_r11 : GoodIn wsL_law wsX5_digest_r11 := goodIn_r _ [725, 726, 727, 728, 729, 730, 731, 732, 733, 801, 762, 763, 764, 802, 803, 804, 805, 487, 488, 489, 26, 490, 73, 806] (by decide +kernel) (by decide +kernel)
set_option maxRecDepth 20000 in
theorem q_wsX5_digest_r12 : GoodIn wsL_law wsX5_digest_r12 := goodIn_r _ [124, 125, 126, 72] (by decide +kernel) (by decide +kernel)
set_option maxRecDepth 20000 in
theorem q_wsX5_digest_wsX50 : GoodIn wsL_law wsX50 := goodIn_r _ [825, 826, 827, 828, 829, 830] (by decide +kernel) (by decide +kernel)
set_option maxRecDepth 20000 in
theorem q_wsX5_digest_wsX20 : GoodIn wsL_law wsX20 := goodIn_r _ [842, 843, 844, 845, 846, 847, 848, 849, 850, 851, 852, 853] (by decide +kernel) (by decide +kernel)
set_option maxRecDepth 20000 in
theorem q_wsX5_digest_wsX00 : GoodIn wsL_law wsX00 := goodIn_r _ [866, 867] (by decide +kernel) (by decide +kernel)
set_option maxRecDepth 20000 in
theorem q_wsX5_digest_wsX30 : GoodIn wsL_law wsX30 := goodIn_r _ [854, 855, 856] (by decide +kernel) (by decide +kernel)
set_option maxRecDepth 20000 in
theorem q_wsX5_digest_wsX10 : GoodIn wsL_law wsX10 := goodIn_r _ [868, 869] (by decide +kernel) (by decide +kernel)
set_option maxRecDepth 20000 in
theorem q_wsX5_digest_wsX40 : GoodIn wsL_law wsX40 := goodIn_r _ [857, 858, 859, 860, 861, 862, 863, 864, 865] (by decide +kernel) (by decide +kernel)
set_option maxRecDepth 20000 in
theorem q_wsX5_digest_f0 : GoodIn wsL_law ((vx_atS RX5 59 "java/lang/IllegalArgumentException" ["java/lang/RuntimeException", "java/lang/Exception"]).filter goodWord) := goodIn_sub (fun _ h => List.mem_append_left _ (List.mem_append_right _ h)) (by decide +kernel)
set_option maxRecDepth 20000 in
theorem q_wsX5_digest_f1 : GoodIn wsL_law ((vx_atS RX5 48 "java/lang/IndexOutOfBoundsException" ["java/lang/RuntimeException", "java/lang/Exception"]).filter goodWord) := goodIn_sub (fun _ h => List.mem_append_left _ (List.mem_append_left _ (List.mem_append_right _ h))) (by decide +kernel)
set_option maxRecDepth 20000 in
theorem ggL_law_X5_digest : GoodIn wsL_law wsX5_digest := goodIn_app q_wsX5_digest_c (goodIn_app (goodIn_app (goodIn_app (goodIn_app (goodIn_app (goodIn_app (goodIn_app (goodIn_app (goodIn_app q_wsX5_digest_r1 (goodIn_app q_wsX5_digest_r2 (goodIn_app q_wsX5_digest_r3 (goodIn_app q_wsX5_digest_r4 (goodIn_app q_wsX5_digest_r5 (goodIn_app q_wsX5_digest_r6 (goodIn_app q_wsX5_digest_r7 (goodIn_app q_wsX5_digest_r8 (goodIn_app q_wsX5_digest_r9 (goodIn_app q_wsX5_digest_r10 (goodIn_app q_wsX5_digest_r11 q_wsX5_digest_r12))))))))))) q_wsX5_digest_wsX50) q_wsX5_digest_wsX20) q_wsX5_digest_wsX00) q_wsX5_digest_wsX30) q_wsX5_digest_wsX10) q_wsX5_digest_wsX40) q_wsX5_digest_f0) q_wsX5_digest_f1)
set_option maxRecDepth 20000 in
theorem gL_law_X5_digest : GoodIn wsL_law (wsV RL 165 RX5 yX5_digest wsX5_digest) := goodIn_app (goodIn_of _ (by decide +kernel)) ggL_law_X5_digest
