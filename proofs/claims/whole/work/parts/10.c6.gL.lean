set_option maxRecDepth 20000 in
theorem q_wsX6_digest_c : GoodIn wsL_law [.code yX6_digest cX6_digest 5 (some .long)] := goodIn_r _ [810] (by decide +kernel) (by decide +kernel)
set_option maxRecDepth 20000 in
theorem q_wsX6_digest_r1 : GoodIn wsL_law wsX6_digest_r1 := goodIn_r _ [221, 811, 812, 85, 522, 223, 89, 651, 652, 653, 5, 654, 267, 655, 656, 657, 658, 296, 297, 298, 299, 259, 260, 261] (by decide +kernel) (by decide +kernel)
set_option maxRecDepth 20000 in
theorem q_wsX6_digest_r2 : GoodIn wsL_law wsX6_digest_r2 := goodIn_r _ [262, 300, 301, 302, 303, 588, 589, 590, 591, 592, 593, 594, 595, 596, 597, 598, 599, 600, 601, 602, 603, 415, 416, 417] (by decide +kernel) (by decide +kernel)
set_option maxRecDepth 20000 in
theorem q_wsX6_digest_r3 : GoodIn wsL_law wsX6_digest_r3 := goodIn_r _ [418, 757, 758, 759, 760, 813, 814, 815, 816, 817, 818, 819, 627, 628, 629, 630, 411, 412, 413, 414, 419, 420, 421, 422] (by decide +kernel) (by decide +kernel)
set_option maxRecDepth 20000 in
theorem q_wsX6_digest_r4 : GoodIn wsL_law wsX6_digest_r4 := goodIn_r _ [423, 424, 425, 426, 427, 428, 429, 430, 690, 691, 692, 693, 86, 694, 695, 696, 697, 407, 408, 409, 410, 431, 432, 433] (by decide +kernel) (by decide +kernel)
set_option maxRecDepth 20000 in
theorem q_wsX6_digest_r5 : GoodIn wsL_law wsX6_digest_r5 := goodIn_r _ [434, 435, 436, 437, 438, 255, 256, 257, 258, 698, 699, 700, 701, 713, 714, 715, 716, 738, 739, 740, 741, 742, 743, 744] (by decide +kernel) (by decide +kernel)
set_option maxRecDepth 20000 in
theorem q_wsX6_digest_r6 : GoodIn wsL_law wsX6_digest_r6 := goodIn_r _ [745, 769, 770, 771, 772, 820, 821, 822, 823, 824] (by decide +kernel) (by decide +kernel)
set_option maxRecDepth 20000 in
theorem q_wsX6_digest_wsX60 : GoodIn wsL_law wsX60 := goodIn_r _ [831, 832, 833, 834, 835, 836, 837, 838, 839, 840, 841] (by decide +kernel) (by decide +kernel)
set_option maxRecDepth 20000 in
theorem ggL_law_X6_digest : GoodIn wsL_law wsX6_digest := goodIn_app q_wsX6_digest_c (goodIn_app (goodIn_app q_wsX6_digest_r1 (goodIn_app q_wsX6_digest_r2 (goodIn_app q_wsX6_digest_r3 (goodIn_app q_wsX6_digest_r4 (goodIn_app q_wsX6_digest_r5 q_wsX6_digest_r6))))) q_wsX6_digest_wsX60)
set_option maxRecDepth 20000 in
theorem gL_law_X6_digest : GoodIn wsL_law (wsV RL 169 RX6 yX6_digest wsX6_digest) := goodIn_app (goodIn_of _ (by decide +kernel)) ggL_law_X6_digest
