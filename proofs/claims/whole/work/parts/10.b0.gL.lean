set_option maxRecDepth 20000 in
theorem ggL_law_X5_init : GoodIn wsL_law wsX5_init := goodIn_r _ [10, 11, 12, 13, 14, 15, 16, 17, 18, 19, 20, 21, 22, 23, 24, 25, 26, 27, 28, 29, 30, 31, 32, 33, 34, 35, 36, 37, 38, 39, 40, 41, 42, 43, 44, 45, 46, 47, 48, 49, 50, 51, 52, 53, 54, 55, 56, 57, 58, 59, 60, 61, 62, 63, 64, 65, 66, 67, 68, 69, 70, 71, 72, 73, 74, 75, 76, 77, 78, 79, 80, 842, 843, 844, 845, 846, 847, 848, 849, 850, 851, 852, 853, 825, 826, 827, 828, 829, 830, 854, 855, 856, 857, 858, 859, 860, 861, 862, 863, 864, 865, 866, 867, 868, 869] (by decide +kernel) (by decide +kernel)
set_option maxRecDepth 20000 in
theorem gL_law_X5_init : GoodIn wsL_law (wsX5_init) := ggL_law_X5_init
set_option maxRecDepth 20000 in
theorem ggL_law_X6_init : GoodIn wsL_law wsX6_init := goodIn_r _ [83, 84, 12, 13, 40, 85, 86, 87, 88, 89, 831, 832, 833, 834, 835, 836, 837, 838, 839, 840, 841] (by decide +kernel) (by decide +kernel)
set_option maxRecDepth 20000 in
theorem gL_law_X6_init : GoodIn wsL_law (wsX6_init) := ggL_law_X6_init
set_option maxRecDepth 20000 in
theorem ggL_law_L_fill : GoodIn wsL_law wsL_fill := goodIn_ca (goodIn_ca (goodIn_ca (goodIn_r _ [93, 94, 95, 96, 97, 98, 99, 2, 100, 101, 102, 103, 104, 105, 106, 27, 17, 107, 23, 108, 109, 110, 111, 112, 113, 26, 114, 73, 115, 116, 117, 118, 76, 119, 120, 121, 122, 77, 78, 79, 123, 124, 125, 126, 72, 127, 128, 129, 130, 80, 131, 132, 133, 134, 135, 136, 137, 138, 139, 140, 141, 142, 143, 144, 145, 146, 147, 148, 149, 150, 74, 75, 151, 152, 153, 34, 154, 55, 155, 156, 157, 158, 159, 160, 161, 162, 163, 164, 165, 22, 166, 68, 67, 167, 168, 169, 170, 66, 171, 172, 173, 16, 174, 35, 39, 41, 175, 176, 177, 178, 179, 180, 181, 182, 42, 43, 44, 45, 46, 47, 48, 49, 50, 183, 184, 185, 186, 54, 187, 188, 189, 190, 191, 38, 192, 59, 193, 194, 60, 195, 196, 197, 198, 199, 200, 201, 202, 203, 204, 205, 206, 207, 208, 209, 210, 211, 212, 213, 214, 215, 216, 825, 826, 827, 828, 829, 830, 842, 843, 844, 845, 846, 847, 848, 849, 850, 851, 852, 853, 857, 858, 859, 860, 861, 862, 863, 864, 865, 866, 867, 854, 855, 856, 868, 869] (by decide +kernel) (by decide +kernel)) (goodIn_sub (fun _ h => List.mem_append_left _ (List.mem_append_left _ (List.mem_append_right _ h))) (by decide +kernel))) (goodIn_sub (fun _ h => List.mem_append_left _ (List.mem_append_right _ h)) (by decide +kernel))) (goodIn_sub (fun _ h => List.mem_append_right _ h) (by decide +kernel))
set_option maxRecDepth 20000 in
theorem gL_law_L_fill : GoodIn wsL_law (va_wsS RL 77 yL_fill wsL_fill) := goodIn_app (goodIn_of _ (by decide +kernel)) ggL_law_L_fill
set_option maxRecDepth 20000 in
theorem ggL_law_X6_fill : GoodIn wsL_law wsX6_fill := goodIn_r _ [220, 221, 222, 223, 224, 225, 5, 226, 227, 228, 229, 230, 231, 232, 233, 234, 235, 236, 237, 238, 85, 239, 240, 241, 242, 89, 243, 244, 245, 246, 247, 248, 249, 250, 251, 252, 253, 254, 255, 256, 257, 258, 259, 260, 261, 262, 263, 264, 265, 266, 267, 87, 831, 832, 833, 834, 835, 836, 837, 838, 839, 840, 841] (by decide +kernel) (by decide +kernel)
set_option maxRecDepth 20000 in
theorem gL_law_X6_fill : GoodIn wsL_law (wsV RL 82 RX6 yX6_fill wsX6_fill) := goodIn_app (goodIn_of _ (by decide +kernel)) ggL_law_X6_fill
set_option maxRecDepth 20000 in
theorem ggL_law_X6_thrown : GoodIn wsL_law wsX6_thrown := goodIn_r _ [271, 221, 831, 832, 833, 834, 835, 836, 837, 838, 839, 840, 841] (by decide +kernel) (by decide +kernel)
set_option maxRecDepth 20000 in
theorem gL_law_X6_thrown : GoodIn wsL_law (wsV RL 83 RX6 yX6_thrown wsX6_thrown) := goodIn_app (goodIn_of _ (by decide +kernel)) ggL_law_X6_thrown
set_option maxRecDepth 20000 in
theorem ggL_law_L_tip : GoodIn wsL_law wsL_tip := goodIn_ca (goodIn_r _ [274, 94, 275, 276, 277, 2, 278, 101, 102, 23, 17, 107, 279, 108, 109, 110, 163, 164, 165, 22, 166, 68, 67, 167, 168, 169, 170, 66, 171, 172, 173, 16, 174, 35, 39, 41, 175, 176, 177, 178, 179, 180, 181, 182, 42, 43, 44, 45, 46, 47, 48, 49, 50, 183, 184, 185, 34, 186, 54, 187, 188, 55, 189, 190, 191, 38, 192, 59, 193, 194, 60, 151, 152, 153, 154, 280, 281, 282, 283, 212, 284, 285, 286, 287, 288, 289, 290, 291, 825, 826, 827, 828, 829, 830, 842, 843, 844, 845, 846, 847, 848, 849, 850, 851, 852, 853, 854, 855, 856, 866, 867, 868, 869] (by decide +kernel) (by decide +kernel)) (goodIn_sub (fun _ h => List.mem_append_left _ (List.mem_append_left _ (List.mem_append_right _ h))) (by decide +kernel))
set_option maxRecDepth 20000 in
theorem gL_law_L_tip : GoodIn wsL_law (va_wsS RL 86 yL_tip wsL_tip) := goodIn_app (goodIn_of _ (by decide +kernel)) ggL_law_L_tip
set_option maxRecDepth 20000 in
theorem ggL_law_X6_tip : GoodIn wsL_law wsX6_tip := goodIn_r _ [295, 221, 85, 224, 225, 5, 226, 227, 228, 229, 230, 231, 232, 233, 263, 264, 265, 266, 267, 87, 259, 260, 261, 262, 296, 297, 298, 299, 300, 301, 302, 303, 831, 832, 833, 834, 835, 836, 837, 838, 839, 840, 841] (by decide +kernel) (by decide +kernel)
set_option maxRecDepth 20000 in
theorem gL_law_X6_tip : GoodIn wsL_law (wsV RL 88 RX6 yX6_tip wsX6_tip) := goodIn_app (goodIn_of _ (by decide +kernel)) ggL_law_X6_tip
set_option maxRecDepth 20000 in
theorem ggL_law_L_feed : GoodIn wsL_law wsL_feed := goodIn_ca (goodIn_r _ [306, 95, 307, 308, 309, 2, 310, 103, 104, 23, 17, 311, 312, 163, 164, 165, 22, 166, 68, 67, 167, 168, 169, 170, 66, 171, 172, 173, 16, 174, 35, 39, 41, 175, 176, 177, 178, 179, 180, 181, 182, 42, 43, 44, 45, 46, 47, 48, 49, 50, 183, 184, 185, 34, 186, 54, 187, 188, 55, 189, 190, 191, 38, 192, 59, 193, 194, 60, 313, 314, 315, 316, 825, 826, 827, 828, 829, 830, 842, 843, 844, 845, 846, 847, 848, 849, 850, 851, 852, 853, 854, 855, 856, 866, 867, 868, 869] (by decide +kernel) (by decide +kernel)) (goodIn_sub (fun _ h => List.mem_append_left _ (List.mem_append_right _ h)) (by decide +kernel))
set_option maxRecDepth 20000 in
theorem gL_law_L_feed : GoodIn wsL_law (va_wsS RL 89 yL_feed wsL_feed) := goodIn_app (goodIn_of _ (by decide +kernel)) ggL_law_L_feed
set_option maxRecDepth 20000 in
theorem ggL_law_X6_feed : GoodIn wsL_law wsX6_feed := goodIn_r _ [320, 221, 85, 227, 228, 5, 229, 230, 231, 232, 233, 263, 264, 265, 266, 267, 87, 321, 322, 323, 324, 831, 832, 833, 834, 835, 836, 837, 838, 839, 840, 841] (by decide +kernel) (by decide +kernel)
set_option maxRecDepth 20000 in
theorem gL_law_X6_feed : GoodIn wsL_law (wsV RL 91 RX6 yX6_feed wsX6_feed) := goodIn_app (goodIn_of _ (by decide +kernel)) ggL_law_X6_feed
set_option maxRecDepth 20000 in
theorem ggL_law_L_out : GoodIn wsL_law wsL_out := goodIn_ca (goodIn_r _ [327, 94, 328, 329, 330, 2, 331, 101, 102, 23, 17, 332, 108, 109, 110, 163, 164, 165, 22, 166, 68, 67, 167, 168, 169, 170, 66, 171, 172, 173, 16, 174, 35, 39, 41, 175, 176, 177, 178, 179, 180, 181, 182, 42, 43, 44, 45, 46, 47, 48, 49, 50, 183, 184, 185, 34, 186, 54, 187, 188, 55, 189, 190, 191, 38, 192, 59, 193, 194, 60, 825, 826, 827, 828, 829, 830, 842, 843, 844, 845, 846, 847, 848, 849, 850, 851, 852, 853, 854, 855, 856, 866, 867, 868, 869] (by decide +kernel) (by decide +kernel)) (goodIn_sub (fun _ h => List.mem_append_left _ (List.mem_append_left _ (List.mem_append_right _ h))) (by decide +kernel))
set_option maxRecDepth 20000 in
theorem gL_law_L_out : GoodIn wsL_law (va_wsS RL 92 yL_out wsL_out) := goodIn_app (goodIn_of _ (by decide +kernel)) ggL_law_L_out
set_option maxRecDepth 20000 in
theorem ggL_law_X6_out : GoodIn wsL_law wsX6_out := goodIn_r _ [336, 221, 85, 224, 225, 5, 226, 227, 228, 229, 230, 231, 232, 233, 263, 264, 265, 266, 267, 87, 831, 832, 833, 834, 835, 836, 837, 838, 839, 840, 841] (by decide +kernel) (by decide +kernel)
set_option maxRecDepth 20000 in
theorem gL_law_X6_out : GoodIn wsL_law (wsV RL 94 RX6 yX6_out wsX6_out) := goodIn_app (goodIn_of _ (by decide +kernel)) ggL_law_X6_out
set_option maxRecDepth 20000 in
theorem ggL_law_L_run : GoodIn wsL_law wsL_run := goodIn_ca (goodIn_r _ [339, 95, 340, 341, 342, 2, 343, 103, 104, 23, 17, 344, 345, 346, 163, 164, 165, 22, 166, 68, 67, 167, 168, 169, 170, 66, 171, 172, 173, 16, 174, 35, 39, 41, 175, 176, 177, 178, 179, 180, 181, 182, 42, 43, 44, 45, 46, 47, 48, 49, 50, 183, 184, 185, 34, 186, 54, 187, 188, 55, 189, 190, 191, 38, 192, 59, 193, 194, 60, 347, 348, 349, 350, 351, 352, 353, 354, 355, 356, 357, 358, 359, 360, 361, 362, 363, 364, 365, 366, 284, 285, 286, 287, 212, 152, 153, 154, 367, 368, 369, 370, 371, 372, 373, 374, 375, 376, 377, 378, 379, 380, 381, 382, 383, 384, 385, 386, 387, 388, 389, 390, 391, 392, 393, 394, 395, 396, 397, 398, 399, 400, 401, 402, 208, 209, 210, 211, 825, 826, 827, 828, 829, 830, 854, 855, 856, 842, 843, 844, 845, 846, 847, 848, 849, 850, 851, 852, 853, 866, 867, 868, 869] (by decide +kernel) (by decide +kernel)) (goodIn_sub (fun _ h => List.mem_append_left _ (List.mem_append_right _ h)) (by decide +kernel))
set_option maxRecDepth 20000 in
theorem gL_law_L_run : GoodIn wsL_law (va_wsS RL 95 yL_run wsL_run) := goodIn_app (goodIn_of _ (by decide +kernel)) ggL_law_L_run
set_option maxRecDepth 20000 in
theorem ggL_law_X6_run : GoodIn wsL_law wsX6_run := goodIn_r _ [406, 221, 227, 228, 5, 229, 230, 231, 232, 233, 263, 264, 265, 266, 267, 87, 85, 407, 408, 409, 410, 411, 412, 413, 414, 415, 416, 417, 418, 259, 260, 261, 262, 419, 420, 421, 422, 300, 301, 302, 303, 423, 424, 425, 426, 427, 428, 429, 430, 431, 432, 433, 434, 435, 436, 437, 438, 255, 256, 257, 258, 831, 832, 833, 834, 835, 836, 837, 838, 839, 840, 841] (by decide +kernel) (by decide +kernel)
set_option maxRecDepth 20000 in
theorem gL_law_X6_run : GoodIn wsL_law (wsV RL 97 RX6 yX6_run wsX6_run) := goodIn_app (goodIn_of _ (by decide +kernel)) ggL_law_X6_run
set_option maxRecDepth 20000 in
theorem ggL_law_X5_clear : GoodIn wsL_law wsX5_clear := goodIn_r _ [442, 23, 17, 443, 312, 163, 164, 165, 22, 166, 68, 67, 167, 168, 169, 170, 66, 171, 172, 173, 16, 174, 35, 39, 41, 175, 176, 177, 178, 179, 180, 181, 182, 42, 43, 44, 45, 46, 47, 48, 49, 50, 183, 184, 185, 34, 186, 54, 187, 188, 55, 189, 190, 191, 38, 192, 59, 193, 194, 60, 313, 314, 315, 316, 825, 826, 827, 828, 829, 830, 842, 843, 844, 845, 846, 847, 848, 849, 850, 851, 852, 853, 854, 855, 856, 866, 867, 868, 869] (by decide +kernel) (by decide +kernel)
set_option maxRecDepth 20000 in
theorem gL_law_X5_clear : GoodIn wsL_law (wsV RL 98 RX5 yX5_clear wsX5_clear) := goodIn_app (goodIn_of _ (by decide +kernel)) ggL_law_X5_clear
set_option maxRecDepth 20000 in
theorem ggL_law_X6_clear : GoodIn wsL_law wsX6_clear := goodIn_r _ [447, 221, 85, 263, 264, 265, 5, 266, 267, 87, 321, 322, 323, 324, 831, 832, 833, 834, 835, 836, 837, 838, 839, 840, 841] (by decide +kernel) (by decide +kernel)
set_option maxRecDepth 20000 in
theorem gL_law_X6_clear : GoodIn wsL_law (wsV RL 101 RX6 yX6_clear wsX6_clear) := goodIn_app (goodIn_of _ (by decide +kernel)) ggL_law_X6_clear
set_option maxRecDepth 20000 in
theorem ggL_law_L_set : GoodIn wsL_law wsL_set := goodIn_ca (goodIn_ca (goodIn_r _ [450, 94, 95, 451, 452, 453, 2, 454, 101, 102, 103, 104, 23, 17, 455, 456, 457, 458, 459, 460, 461, 462, 163, 164, 165, 22, 166, 68, 67, 167, 168, 169, 170, 66, 171, 172, 173, 16, 174, 35, 39, 41, 175, 176, 177, 178, 179, 180, 181, 182, 42, 43, 44, 45, 46, 47, 48, 49, 50, 183, 184, 185, 34, 186, 54, 187, 188, 55, 189, 190, 191, 38, 192, 59, 193, 194, 60, 463, 375, 376, 377, 464, 465, 466, 467, 825, 826, 827, 828, 829, 830, 854, 855, 856, 842, 843, 844, 845, 846, 847, 848, 849, 850, 851, 852, 853, 866, 867, 868, 869] (by decide +kernel) (by decide +kernel)) (goodIn_sub (fun _ h => List.mem_append_left _ (List.mem_append_left _ (List.mem_append_right _ h))) (by decide +kernel))) (goodIn_sub (fun _ h => List.mem_append_left _ (List.mem_append_right _ h)) (by decide +kernel))
set_option maxRecDepth 20000 in
theorem gL_law_L_set : GoodIn wsL_law (va_wsS RL 102 yL_set wsL_set) := goodIn_app (goodIn_of _ (by decide +kernel)) ggL_law_L_set
set_option maxRecDepth 20000 in
theorem ggL_law_X6_set : GoodIn wsL_law wsX6_set := goodIn_r _ [471, 221, 85, 227, 228, 5, 229, 230, 231, 232, 233, 263, 264, 265, 266, 267, 87, 831, 832, 833, 834, 835, 836, 837, 838, 839, 840, 841] (by decide +kernel) (by decide +kernel)
set_option maxRecDepth 20000 in
theorem gL_law_X6_set : GoodIn wsL_law (wsV RL 105 RX6 yX6_set wsX6_set) := goodIn_app (goodIn_of _ (by decide +kernel)) ggL_law_X6_set
