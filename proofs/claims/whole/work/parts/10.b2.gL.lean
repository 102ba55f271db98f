set_option maxRecDepth 20000 in
theorem ggL_law_X6_feeler : GoodIn wsL_law wsX6_feeler := goodIn_r _ [626, 221, 227, 228, 5, 229, 627, 628, 629, 630, 85, 230, 231, 232, 233, 831, 832, 833, 834, 835, 836, 837, 838, 839, 840, 841] (by decide +kernel) (by decide +kernel)
set_option maxRecDepth 20000 in
theorem gL_law_X6_feeler : GoodIn wsL_law (wsV RL 136 RX6 yX6_feeler wsX6_feeler) := goodIn_app (goodIn_of _ (by decide +kernel)) ggL_law_X6_feeler
set_option maxRecDepth 20000 in
theorem ggL_law_L_count : GoodIn wsL_law wsL_count := goodIn_ca (goodIn_r _ [633, 95, 634, 635, 636, 2, 637, 103, 104, 17, 516, 311, 332, 443, 638, 639, 279, 640, 107, 641, 23, 642, 643, 644, 34, 645, 646, 281, 282, 283, 212, 152, 153, 154, 55, 284, 285, 286, 287, 54, 541, 542, 543, 22, 544, 68, 825, 826, 827, 828, 829, 830, 842, 843, 844, 845, 846, 847, 848, 849, 850, 851, 852, 853, 866, 867, 854, 855, 856] (by decide +kernel) (by decide +kernel)) (goodIn_sub (fun _ h => List.mem_append_left _ (List.mem_append_right _ h)) (by decide +kernel))
set_option maxRecDepth 20000 in
theorem gL_law_L_count : GoodIn wsL_law (va_wsS RL 137 yL_count wsL_count) := goodIn_app (goodIn_of _ (by decide +kernel)) ggL_law_L_count
set_option maxRecDepth 20000 in
theorem ggL_law_X6_count : GoodIn wsL_law wsX6_count := goodIn_r _ [650, 221, 227, 228, 5, 229, 651, 652, 653, 654, 85, 267, 655, 656, 657, 658, 296, 297, 298, 299, 259, 260, 261, 262, 300, 301, 302, 303, 230, 231, 232, 233, 831, 832, 833, 834, 835, 836, 837, 838, 839, 840, 841] (by decide +kernel) (by decide +kernel)
set_option maxRecDepth 20000 in
theorem gL_law_X6_count : GoodIn wsL_law (wsV RL 139 RX6 yX6_count wsX6_count) := goodIn_app (goodIn_of _ (by decide +kernel)) ggL_law_X6_count
set_option maxRecDepth 20000 in
theorem ggL_law_L_setting : GoodIn wsL_law wsL_setting := goodIn_ca (goodIn_r _ [661, 94, 662, 663, 664, 2, 665, 101, 102, 17, 455, 456, 457, 463, 375, 376, 16, 377, 41, 825, 826, 827, 828, 829, 830, 842, 843, 844, 845, 846, 847, 848, 849, 850, 851, 852, 853] (by decide +kernel) (by decide +kernel)) (goodIn_sub (fun _ h => List.mem_append_left _ (List.mem_append_left _ (List.mem_append_right _ h))) (by decide +kernel))
set_option maxRecDepth 20000 in
theorem gL_law_L_setting : GoodIn wsL_law (va_wsS RL 140 yL_setting wsL_setting) := goodIn_app (goodIn_of _ (by decide +kernel)) ggL_law_L_setting
set_option maxRecDepth 20000 in
theorem ggL_law_X6_setting : GoodIn wsL_law wsX6_setting := goodIn_r _ [669, 221, 85, 227, 228, 5, 229, 230, 231, 232, 233, 831, 832, 833, 834, 835, 836, 837, 838, 839, 840, 841] (by decide +kernel) (by decide +kernel)
set_option maxRecDepth 20000 in
theorem gL_law_X6_setting : GoodIn wsL_law (wsV RL 142 RX6 yX6_setting wsX6_setting) := goodIn_app (goodIn_of _ (by decide +kernel)) ggL_law_X6_setting
set_option maxRecDepth 20000 in
theorem ggL_law_X5_why : GoodIn wsL_law wsX5_why := goodIn_r _ [673, 17, 674, 352, 353, 16, 354, 44, 42, 43, 35, 355, 356, 357, 358, 359, 360, 361, 34, 362, 55, 363, 364, 365, 366, 284, 285, 286, 287, 54, 212, 152, 153, 154, 367, 368, 369, 370, 39, 175, 176, 177, 178, 371, 372, 373, 374, 375, 376, 377, 41, 378, 379, 380, 38, 381, 60, 59, 382, 825, 826, 827, 828, 829, 830, 842, 843, 844, 845, 846, 847, 848, 849, 850, 851, 852, 853, 866, 867, 868, 869] (by decide +kernel) (by decide +kernel)
set_option maxRecDepth 20000 in
theorem gL_law_X5_why : GoodIn wsL_law (wsV RL 143 RX5 yX5_why wsX5_why) := goodIn_app (goodIn_of _ (by decide +kernel)) ggL_law_X5_why
set_option maxRecDepth 20000 in
theorem ggL_law_X6_why : GoodIn wsL_law wsX6_why := goodIn_r _ [678, 221, 411, 412, 413, 5, 414, 85, 415, 416, 417, 418, 259, 260, 261, 262, 419, 420, 421, 422, 300, 301, 302, 303, 423, 424, 425, 426, 427, 428, 429, 430, 831, 832, 833, 834, 835, 836, 837, 838, 839, 840, 841] (by decide +kernel) (by decide +kernel)
set_option maxRecDepth 20000 in
theorem gL_law_X6_why : GoodIn wsL_law (wsV RL 146 RX6 yX6_why wsX6_why) := goodIn_app (goodIn_of _ (by decide +kernel)) ggL_law_X6_why
set_option maxRecDepth 20000 in
theorem ggL_law_L_ifRun : GoodIn wsL_law wsL_ifRun := goodIn_ca (goodIn_r _ [681, 95, 682, 683, 684, 2, 685, 103, 104, 19, 17, 107, 332, 279, 344, 345, 346, 517, 172, 173, 16, 174, 35, 39, 41, 175, 176, 177, 178, 179, 180, 181, 182, 42, 43, 44, 45, 46, 47, 48, 49, 50, 183, 184, 185, 34, 186, 54, 187, 188, 55, 189, 190, 191, 38, 192, 59, 193, 194, 60, 347, 348, 349, 350, 351, 352, 353, 354, 355, 356, 357, 358, 359, 360, 361, 362, 363, 364, 365, 366, 284, 285, 286, 287, 212, 152, 153, 154, 367, 368, 369, 370, 371, 372, 373, 374, 375, 376, 377, 378, 379, 380, 381, 382, 383, 384, 385, 386, 387, 388, 389, 390, 391, 392, 393, 394, 395, 396, 397, 398, 399, 400, 401, 402, 208, 209, 210, 211, 569, 570, 571, 572, 573, 565, 566, 567, 568, 574, 561, 562, 563, 575, 576, 577, 578, 579, 580, 581, 674, 825, 826, 827, 828, 829, 830, 842, 843, 844, 845, 846, 847, 848, 849, 850, 851, 852, 853, 866, 867, 868, 869] (by decide +kernel) (by decide +kernel)) (goodIn_sub (fun _ h => List.mem_append_left _ (List.mem_append_right _ h)) (by decide +kernel))
set_option maxRecDepth 20000 in
theorem gL_law_L_ifRun : GoodIn wsL_law (va_wsS RL 147 yL_ifRun wsL_ifRun) := goodIn_app (goodIn_of _ (by decide +kernel)) ggL_law_L_ifRun
set_option maxRecDepth 20000 in
theorem ggL_law_X6_ifRun : GoodIn wsL_law wsX6_ifRun := goodIn_r _ [689, 221, 227, 228, 5, 229, 690, 691, 692, 693, 85, 86, 694, 695, 696, 697, 407, 408, 409, 410, 411, 412, 413, 414, 415, 416, 417, 418, 259, 260, 261, 262, 419, 420, 421, 422, 300, 301, 302, 303, 423, 424, 425, 426, 427, 428, 429, 430, 431, 432, 433, 434, 435, 436, 437, 438, 255, 256, 257, 258, 588, 589, 590, 591, 296, 297, 298, 299, 592, 593, 594, 595, 596, 597, 598, 599, 600, 601, 602, 603, 698, 699, 700, 701, 230, 231, 232, 233, 831, 832, 833, 834, 835, 836, 837, 838, 839, 840, 841] (by decide +kernel) (by decide +kernel)
set_option maxRecDepth 20000 in
theorem gL_law_X6_ifRun : GoodIn wsL_law (wsV RL 149 RX6 yX6_ifRun wsX6_ifRun) := goodIn_app (goodIn_of _ (by decide +kernel)) ggL_law_X6_ifRun
set_option maxRecDepth 20000 in
theorem ggL_law_L_bestLag : GoodIn wsL_law wsL_bestLag := goodIn_ca (goodIn_r _ [704, 95, 705, 706, 707, 2, 708, 103, 104, 19, 17, 107, 332, 344, 345, 346, 517, 172, 173, 16, 174, 35, 39, 41, 175, 176, 177, 178, 179, 180, 181, 182, 42, 43, 44, 45, 46, 47, 48, 49, 50, 183, 184, 185, 34, 186, 54, 187, 188, 55, 189, 190, 191, 38, 192, 59, 193, 194, 60, 464, 465, 466, 467, 347, 348, 349, 350, 351, 352, 353, 354, 355, 356, 357, 358, 359, 360, 361, 362, 363, 364, 365, 366, 284, 285, 286, 287, 212, 152, 153, 154, 367, 368, 369, 370, 371, 372, 373, 374, 375, 376, 377, 378, 379, 380, 381, 382, 383, 384, 385, 386, 387, 388, 389, 390, 391, 392, 393, 394, 395, 396, 397, 398, 399, 400, 401, 402, 208, 209, 210, 211, 575, 576, 577, 578, 579, 580, 581, 825, 826, 827, 828, 829, 830, 842, 843, 844, 845, 846, 847, 848, 849, 850, 851, 852, 853, 866, 867, 868, 869] (by decide +kernel) (by decide +kernel)) (goodIn_sub (fun _ h => List.mem_append_left _ (List.mem_append_right _ h)) (by decide +kernel))
set_option maxRecDepth 20000 in
theorem gL_law_L_bestLag : GoodIn wsL_law (va_wsS RL 150 yL_bestLag wsL_bestLag) := goodIn_app (goodIn_of _ (by decide +kernel)) ggL_law_L_bestLag
set_option maxRecDepth 20000 in
theorem ggL_law_X6_bestLag : GoodIn wsL_law wsX6_bestLag := goodIn_r _ [712, 221, 227, 228, 5, 229, 713, 714, 715, 716, 85, 690, 691, 692, 693, 86, 694, 695, 696, 697, 407, 408, 409, 410, 411, 412, 413, 414, 415, 416, 417, 418, 259, 260, 261, 262, 419, 420, 421, 422, 300, 301, 302, 303, 423, 424, 425, 426, 427, 428, 429, 430, 431, 432, 433, 434, 435, 436, 437, 438, 255, 256, 257, 258, 588, 589, 590, 591, 296, 297, 298, 299, 592, 593, 594, 595, 596, 597, 598, 599, 600, 601, 602, 603, 698, 699, 700, 701, 230, 231, 232, 233, 831, 832, 833, 834, 835, 836, 837, 838, 839, 840, 841] (by decide +kernel) (by decide +kernel)
set_option maxRecDepth 20000 in
theorem gL_law_X6_bestLag : GoodIn wsL_law (wsV RL 152 RX6 yX6_bestLag wsX6_bestLag) := goodIn_app (goodIn_of _ (by decide +kernel)) ggL_law_X6_bestLag
set_option maxRecDepth 20000 in
theorem ggL_law_L_bestFeed : GoodIn wsL_law wsL_bestFeed := goodIn_ca (goodIn_r _ [719, 95, 720, 721, 722, 2, 723, 103, 104, 17, 107, 332, 724, 580, 177, 581, 463, 375, 376, 16, 377, 41, 725, 360, 361, 34, 362, 55, 726, 727, 728, 729, 730, 731, 732, 733, 364, 365, 366, 284, 285, 286, 287, 54, 212, 152, 153, 154, 825, 826, 827, 828, 829, 830, 842, 843, 844, 845, 846, 847, 848, 849, 850, 851, 852, 853, 866, 867] (by decide +kernel) (by decide +kernel)) (goodIn_sub (fun _ h => List.mem_append_left _ (List.mem_append_right _ h)) (by decide +kernel))
set_option maxRecDepth 20000 in
theorem gL_law_L_bestFeed : GoodIn wsL_law (va_wsS RL 153 yL_bestFeed wsL_bestFeed) := goodIn_app (goodIn_of _ (by decide +kernel)) ggL_law_L_bestFeed
set_option maxRecDepth 20000 in
theorem ggL_law_X6_bestFeed : GoodIn wsL_law wsX6_bestFeed := goodIn_r _ [737, 221, 227, 228, 5, 229, 738, 739, 740, 741, 742, 743, 744, 745, 85, 259, 260, 261, 262, 300, 301, 302, 303, 230, 231, 232, 233, 831, 832, 833, 834, 835, 836, 837, 838, 839, 840, 841] (by decide +kernel) (by decide +kernel)
set_option maxRecDepth 20000 in
theorem gL_law_X6_bestFeed : GoodIn wsL_law (wsV RL 155 RX6 yX6_bestFeed wsX6_bestFeed) := goodIn_app (goodIn_of _ (by decide +kernel)) ggL_law_X6_bestFeed
set_option maxRecDepth 20000 in
theorem ggL_law_L_mean : GoodIn wsL_law wsL_mean := goodIn_ca (goodIn_r _ [748, 94, 749, 750, 751, 2, 752, 101, 102, 17, 107, 108, 109, 110, 151, 152, 153, 34, 154, 55, 280, 281, 282, 283, 212, 284, 285, 286, 287, 54, 825, 826, 827, 828, 829, 830, 842, 843, 844, 845, 846, 847, 848, 849, 850, 851, 852, 853, 866, 867] (by decide +kernel) (by decide +kernel)) (goodIn_sub (fun _ h => List.mem_append_left _ (List.mem_append_left _ (List.mem_append_right _ h))) (by decide +kernel))
set_option maxRecDepth 20000 in
theorem gL_law_L_mean : GoodIn wsL_law (va_wsS RL 156 yL_mean wsL_mean) := goodIn_app (goodIn_of _ (by decide +kernel)) ggL_law_L_mean
set_option maxRecDepth 20000 in
theorem ggL_law_X6_mean : GoodIn wsL_law wsX6_mean := goodIn_r _ [756, 221, 224, 225, 5, 226, 227, 228, 229, 757, 758, 759, 760, 259, 260, 261, 262, 85, 296, 297, 298, 299, 300, 301, 302, 303, 831, 832, 833, 834, 835, 836, 837, 838, 839, 840, 841] (by decide +kernel) (by decide +kernel)
set_option maxRecDepth 20000 in
theorem gL_law_X6_mean : GoodIn wsL_law (wsV RL 159 RX6 yX6_mean wsX6_mean) := goodIn_app (goodIn_of _ (by decide +kernel)) ggL_law_X6_mean
set_option maxRecDepth 20000 in
theorem ggL_law_X5_wasteShare : GoodIn wsL_law wsX5_wasteShare := goodIn_r _ [764, 17, 640, 279, 825, 826, 827, 828, 829, 830, 842, 843, 844, 845, 846, 847, 848, 849, 850, 851, 852, 853] (by decide +kernel) (by decide +kernel)
set_option maxRecDepth 20000 in
theorem gL_law_X5_wasteShare : GoodIn wsL_law (wsV RL 160 RX5 yX5_wasteShare wsX5_wasteShare) := goodIn_app (goodIn_of _ (by decide +kernel)) ggL_law_X5_wasteShare
set_option maxRecDepth 20000 in
theorem ggL_law_X6_wasteShare : GoodIn wsL_law wsX6_wasteShare := goodIn_r _ [768, 221, 769, 770, 771, 5, 772, 85, 831, 832, 833, 834, 835, 836, 837, 838, 839, 840, 841] (by decide +kernel) (by decide +kernel)
set_option maxRecDepth 20000 in
theorem gL_law_X6_wasteShare : GoodIn wsL_law (wsV RL 164 RX6 yX6_wasteShare wsX6_wasteShare) := goodIn_app (goodIn_of _ (by decide +kernel)) ggL_law_X6_wasteShare
