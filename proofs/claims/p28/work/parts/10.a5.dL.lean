theorem dL_isRunSo_149 : decode cL_isRunSo 149 = .ok (.iconst 0, 1) := by decide +kernel
theorem dL_isRunSo_150 : decode cL_isRunSo 150 = .ok (.istore 11, 2) := by decide +kernel
theorem dL_isRunSo_152 : decode cL_isRunSo 152 = .ok (.aload_n 0, 1) := by decide +kernel
theorem dL_isRunSo_153 : decode cL_isRunSo 153 = .ok (.invokevirtual 74, 3) := by decide +kernel
theorem dL_isRunSo_156 : decode cL_isRunSo 156 = .ok (.istore 12, 2) := by decide +kernel
theorem dL_isRunSo_158 : decode cL_isRunSo 158 = .ok (.aload_n 0, 1) := by decide +kernel
theorem dL_isRunSo_159 : decode cL_isRunSo 159 = .ok (.invokevirtual 74, 3) := by decide +kernel
theorem dL_isRunSo_162 : decode cL_isRunSo 162 = .ok (.istore 12, 2) := by decide +kernel
theorem dL_isRunSo_164 : decode cL_isRunSo 164 = .ok (.iload 11, 2) := by decide +kernel
theorem dL_isRunSo_166 : decode cL_isRunSo 166 = .ok (.ifCond .eq 23, 3) := by decide +kernel
theorem dL_isRunSo_169 : decode cL_isRunSo 169 = .ok (.iload 12, 2) := by decide +kernel
theorem dL_isRunSo_171 : decode cL_isRunSo 171 = .ok (.ifCond .lt 18, 3) := by decide +kernel
theorem dL_isRunSo_174 : decode cL_isRunSo 174 = .ok (.aload_n 0, 1) := by decide +kernel
theorem dL_isRunSo_175 : decode cL_isRunSo 175 = .ok (.bipush 6, 2) := by decide +kernel
theorem dL_isRunSo_177 : decode cL_isRunSo 177 = .ok (.invokevirtual 58, 3) := by decide +kernel
theorem dL_isRunSo_180 : decode cL_isRunSo 180 = .ok (.iload 8, 2) := by decide +kernel
theorem dL_isRunSo_182 : decode cL_isRunSo 182 = .ok (.if_icmp .ne 7, 3) := by decide +kernel
theorem dL_isRunSo_185 : decode cL_isRunSo 185 = .ok (.iconst 1, 1) := by decide +kernel
theorem dL_isRunSo_186 : decode cL_isRunSo 186 = .ok (.goto 4, 3) := by decide +kernel
theorem dL_isRunSo_189 : decode cL_isRunSo 189 = .ok (.iconst 0, 1) := by decide +kernel
theorem dL_isRunSo_190 : decode cL_isRunSo 190 = .ok (.ireturn, 1) := by decide +kernel
set_option maxRecDepth 20000 in
theorem ggL_areBestSo_X5_bestLag : GoodIn wsL_areBestSo wsX5_bestLag := goodIn_ca (goodIn_r _ [5, 6, 7, 8, 9, 10, 11, 12, 13, 4, 14, 15, 16, 17, 18, 19, 20, 21, 22, 23, 24, 25, 26, 27, 28, 29, 30, 31, 32, 33, 34, 35, 36, 37, 38, 39, 40, 41, 42, 43, 44, 45, 46, 47, 48, 49, 50, 51, 52, 53, 54, 55, 56, 57, 58, 59, 60, 61, 62, 63, 64, 65, 66, 67, 68, 69, 70, 71, 72, 73, 74, 75, 76, 77, 78, 79, 80, 81, 82, 83, 84, 85, 86, 87, 88, 89, 90, 91, 92, 93, 94, 95, 96, 97, 98, 99, 100, 101, 102, 103, 104, 105, 106, 107, 108, 109, 110, 111, 112, 113, 114, 115, 116, 117, 118, 119, 120, 121, 122, 123, 124, 125, 126, 127, 128, 129, 130, 131, 132, 133, 134, 135, 136, 249, 250, 251, 252, 253, 254, 255, 256, 257, 258, 259, 260, 261, 262, 263, 264, 265, 266, 267, 268, 269, 270] (by decide +kernel) (by decide +kernel)) (goodIn_sub (fun _ h => List.mem_cons_of_mem _ (List.mem_append_left _ (List.mem_append_left _ (List.mem_append_right _ h)))) (by decide +kernel))
set_option maxRecDepth 20000 in
theorem gL_areBestSo_X5_bestLag : GoodIn wsL_areBestSo (wsV RL 80 RX5 yX5_bestLag wsX5_bestLag) := goodIn_app (goodIn_of _ (by decide +kernel)) ggL_areBestSo_X5_bestLag
set_option maxRecDepth 20000 in
theorem ggL_areBestSo_X5_setting : GoodIn wsL_areBestSo wsX5_setting := goodIn_ca (goodIn_r _ [140, 141, 142, 9, 143, 144, 4, 145, 146, 98, 99, 18, 100, 22, 249, 250, 251, 252, 253, 254, 255, 256, 257, 258, 259, 260, 261, 262, 263, 264, 265, 266] (by decide +kernel) (by decide +kernel)) (goodIn_sub (fun _ h => List.mem_cons_of_mem _ (List.mem_append_left _ (List.mem_append_right _ h))) (by decide +kernel))
set_option maxRecDepth 20000 in
theorem gL_areBestSo_X5_setting : GoodIn wsL_areBestSo (wsV RL 68 RX5 yX5_setting wsX5_setting) := goodIn_app (goodIn_of _ (by decide +kernel)) ggL_areBestSo_X5_setting
set_option maxRecDepth 20000 in
theorem ggL_areBestSo_X5_set : GoodIn wsL_areBestSo wsX5_set := goodIn_ca (goodIn_ca (goodIn_r _ [150, 141, 142, 6, 7, 151, 9, 143, 144, 4, 145, 152, 153, 154, 155, 156, 157, 158, 159, 160, 161, 162, 163, 164, 165, 166, 167, 168, 169, 16, 17, 18, 19, 20, 21, 22, 23, 24, 25, 26, 27, 28, 29, 30, 31, 32, 33, 34, 35, 36, 37, 38, 39, 40, 41, 42, 43, 44, 45, 46, 47, 48, 49, 50, 51, 52, 53, 54, 55, 56, 57, 146, 98, 99, 100, 58, 59, 60, 61, 249, 250, 251, 252, 253, 254, 271, 272, 273, 255, 256, 257, 258, 259, 260, 261, 262, 263, 264, 265, 266, 267, 268, 269, 270] (by decide +kernel) (by decide +kernel)) (goodIn_sub (fun _ h => List.mem_cons_of_mem _ (List.mem_append_left _ (List.mem_append_right _ h))) (by decide +kernel))) (goodIn_sub (fun _ h => List.mem_cons_of_mem _ (List.mem_append_left _ (List.mem_append_left _ (List.mem_append_right _ h)))) (by decide +kernel))
set_option maxRecDepth 20000 in
theorem gL_areBestSo_X5_set : GoodIn wsL_areBestSo (wsV RL 49 RX5 yX5_set wsX5_set) := goodIn_app (goodIn_of _ (by decide +kernel)) ggL_areBestSo_X5_set
set_option maxRecDepth 20000 in
theorem ggL_areBestSo_X5_ifRun : GoodIn wsL_areBestSo wsX5_ifRun := goodIn_ca (goodIn_r _ [173, 6, 7, 8, 9, 10, 11, 174, 12, 13, 4, 14, 15, 16, 17, 18, 19, 20, 21, 22, 23, 24, 25, 26, 27, 28, 29, 30, 31, 32, 33, 34, 35, 36, 37, 38, 39, 40, 41, 42, 43, 44, 45, 46, 47, 48, 49, 50, 51, 52, 53, 54, 55, 56, 57, 62, 63, 64, 65, 66, 67, 68, 69, 70, 71, 72, 73, 74, 75, 76, 77, 78, 79, 80, 81, 82, 83, 84, 85, 86, 87, 88, 89, 90, 91, 92, 93, 94, 95, 96, 97, 98, 99, 100, 101, 102, 103, 104, 105, 106, 107, 108, 109, 110, 111, 112, 113, 114, 115, 116, 117, 118, 119, 120, 121, 122, 123, 124, 125, 126, 127, 128, 129, 175, 176, 177, 178, 179, 180, 181, 182, 183, 184, 185, 186, 187, 130, 131, 132, 133, 134, 135, 136, 188, 249, 250, 251, 252, 253, 254, 255, 256, 257, 258, 259, 260, 261, 262, 263, 264, 265, 266, 267, 268, 269, 270] (by decide +kernel) (by decide +kernel)) (goodIn_sub (fun _ h => List.mem_cons_of_mem _ (List.mem_append_left _ (List.mem_append_left _ (List.mem_append_right _ h)))) (by decide +kernel))
set_option maxRecDepth 20000 in
theorem gL_areBestSo_X5_ifRun : GoodIn wsL_areBestSo (wsV RL 77 RX5 yX5_ifRun wsX5_ifRun) := goodIn_app (goodIn_of _ (by decide +kernel)) ggL_areBestSo_X5_ifRun
set_option maxRecDepth 20000 in
theorem ggL_areBestSo_X5_undo : GoodIn wsL_areBestSo wsX5_undo := goodIn_ca (goodIn_r _ [192, 193, 194, 151, 9, 195, 196, 197, 160, 198, 162, 199, 200, 201, 202, 163, 164, 165, 166, 167, 168, 169, 16, 17, 18, 19, 20, 21, 22, 23, 24, 25, 26, 27, 28, 29, 30, 31, 32, 33, 34, 35, 36, 37, 38, 39, 40, 41, 42, 43, 44, 45, 46, 47, 48, 49, 50, 51, 52, 53, 54, 55, 56, 57, 249, 250, 251, 252, 253, 254, 271, 272, 273, 255, 256, 257, 258, 259, 260, 261, 262, 263, 264, 265, 266, 267, 268, 269, 270] (by decide +kernel) (by decide +kernel)) (goodIn_sub (fun _ h => List.mem_cons_of_mem _ (List.mem_append_right _ h)) (by decide +kernel))
set_option maxRecDepth 20000 in
theorem gL_areBestSo_X5_undo : GoodIn wsL_areBestSo (wsV RL 74 RX5 yX5_undo wsX5_undo) := goodIn_app (goodIn_of _ (by decide +kernel)) ggL_areBestSo_X5_undo
set_option maxRecDepth 20000 in
theorem ggL_areBestSo_X5_bestFeed : GoodIn wsL_areBestSo wsX5_bestFeed := goodIn_ca (goodIn_r _ [206, 6, 7, 9, 10, 11, 207, 135, 25, 136, 146, 98, 99, 18, 100, 22, 208, 75, 76, 43, 77, 48, 209, 210, 211, 212, 213, 214, 215, 216, 79, 80, 81, 82, 83, 84, 85, 45, 86, 87, 88, 89, 249, 250, 251, 252, 253, 254, 255, 256, 257, 258, 259, 260, 261, 262, 263, 264, 265, 266, 267, 268] (by decide +kernel) (by decide +kernel)) (goodIn_sub (fun _ h => List.mem_cons_of_mem _ (List.mem_append_left _ (List.mem_append_left _ (List.mem_append_right _ h)))) (by decide +kernel))
set_option maxRecDepth 20000 in
theorem gL_areBestSo_X5_bestFeed : GoodIn wsL_areBestSo (wsV RL 83 RX5 yX5_bestFeed wsX5_bestFeed) := goodIn_app (goodIn_of _ (by decide +kernel)) ggL_areBestSo_X5_bestFeed
set_option maxRecDepth 20000 in
theorem ggL_areBestSo_X5_count : GoodIn wsL_areBestSo wsX5_count := goodIn_ca (goodIn_r _ [220, 6, 7, 9, 221, 222, 11, 223, 224, 225, 174, 226, 10, 227, 151, 228, 229, 230, 43, 231, 232, 233, 234, 235, 86, 87, 88, 89, 48, 82, 83, 84, 85, 45, 195, 196, 197, 160, 198, 162, 249, 250, 251, 252, 253, 254, 255, 256, 257, 258, 259, 260, 261, 262, 263, 264, 265, 266, 267, 268, 271, 272, 273] (by decide +kernel) (by decide +kernel)) (goodIn_sub (fun _ h => List.mem_cons_of_mem _ (List.mem_append_left _ (List.mem_append_left _ (List.mem_append_right _ h)))) (by decide +kernel))
set_option maxRecDepth 20000 in
theorem gL_areBestSo_X5_count : GoodIn wsL_areBestSo (wsV RL 58 RX5 yX5_count wsX5_count) := goodIn_app (goodIn_of _ (by decide +kernel)) ggL_areBestSo_X5_count
set_option maxRecDepth 20000 in
theorem ggL_areBestSo_X5_can : GoodIn wsL_areBestSo wsX5_can := goodIn_ca (goodIn_ca (goodIn_r _ [239, 141, 142, 6, 7, 9, 10, 240, 241, 4, 242, 243, 87, 88, 43, 89, 48, 244, 233, 234, 235, 86, 82, 83, 84, 85, 45, 245, 185, 186, 187, 46, 24, 25, 26, 246, 180, 181, 182, 183, 95, 96, 175, 176, 177, 178, 179, 184, 130, 131, 132, 133, 134, 135, 136, 247, 71, 72, 18, 73, 31, 248, 249, 250, 251, 252, 253, 254, 255, 256, 257, 258, 259, 260, 261, 262, 263, 264, 265, 266, 267, 268] (by decide +kernel) (by decide +kernel)) (goodIn_sub (fun _ h => List.mem_cons_of_mem _ (List.mem_append_left _ (List.mem_append_right _ h))) (by decide +kernel))) (goodIn_sub (fun _ h => List.mem_cons_of_mem _ (List.mem_append_left _ (List.mem_append_left _ (List.mem_append_right _ h)))) (by decide +kernel))
set_option maxRecDepth 20000 in
theorem gL_areBestSo_X5_can : GoodIn wsL_areBestSo (wsV RL 20 RX5 yX5_can wsX5_can) := goodIn_app (goodIn_of _ (by decide +kernel)) ggL_areBestSo_X5_can
theorem dL_areBestSo_0 : decode cL_areBestSo 0 = .ok (.aload_n 0, 1) := by decide +kernel
theorem dL_areBestSo_1 : decode cL_areBestSo 1 = .ok (.iload_n 1, 1) := by decide +kernel
theorem dL_areBestSo_2 : decode cL_areBestSo 2 = .ok (.invokevirtual 80, 3) := by decide +kernel
theorem dL_areBestSo_5 : decode cL_areBestSo 5 = .ok (.istore_n 3, 1) := by decide +kernel
theorem dL_areBestSo_6 : decode cL_areBestSo 6 = .ok (.aload_n 0, 1) := by decide +kernel
theorem dL_areBestSo_7 : decode cL_areBestSo 7 = .ok (.iconst 0, 1) := by decide +kernel
theorem dL_areBestSo_8 : decode cL_areBestSo 8 = .ok (.invokevirtual 68, 3) := by decide +kernel
theorem dL_areBestSo_11 : decode cL_areBestSo 11 = .ok (.istore 4, 2) := by decide +kernel
theorem dL_areBestSo_13 : decode cL_areBestSo 13 = .ok (.iconst (-1), 1) := by decide +kernel
theorem dL_areBestSo_14 : decode cL_areBestSo 14 = .ok (.istore 5, 2) := by decide +kernel
theorem dL_areBestSo_16 : decode cL_areBestSo 16 = .ok (.iconst (-1), 1) := by decide +kernel
theorem dL_areBestSo_17 : decode cL_areBestSo 17 = .ok (.istore 6, 2) := by decide +kernel
theorem dL_areBestSo_19 : decode cL_areBestSo 19 = .ok (.iconst 0, 1) := by decide +kernel
theorem dL_areBestSo_20 : decode cL_areBestSo 20 = .ok (.istore 7, 2) := by decide +kernel
theorem dL_areBestSo_22 : decode cL_areBestSo 22 = .ok (.iload 7, 2) := by decide +kernel
theorem dL_areBestSo_24 : decode cL_areBestSo 24 = .ok (.bipush 7, 2) := by decide +kernel
theorem dL_areBestSo_26 : decode cL_areBestSo 26 = .ok (.if_icmp .ge 74, 3) := by decide +kernel
theorem dL_areBestSo_29 : decode cL_areBestSo 29 = .ok (.aload_n 0, 1) := by decide +kernel
theorem dL_areBestSo_30 : decode cL_areBestSo 30 = .ok (.iconst 0, 1) := by decide +kernel
theorem dL_areBestSo_31 : decode cL_areBestSo 31 = .ok (.iload 7, 2) := by decide +kernel
theorem dL_areBestSo_33 : decode cL_areBestSo 33 = .ok (.invokevirtual 49, 3) := by decide +kernel
theorem dL_areBestSo_36 : decode cL_areBestSo 36 = .ok (.istore 8, 2) := by decide +kernel
theorem dL_areBestSo_38 : decode cL_areBestSo 38 = .ok (.aload_n 0, 1) := by decide +kernel
theorem dL_areBestSo_39 : decode cL_areBestSo 39 = .ok (.iload_n 1, 1) := by decide +kernel
theorem dL_areBestSo_40 : decode cL_areBestSo 40 = .ok (.iconst 2, 1) := by decide +kernel
theorem dL_areBestSo_41 : decode cL_areBestSo 41 = .ok (.invokevirtual 77, 3) := by decide +kernel
theorem dL_areBestSo_44 : decode cL_areBestSo 44 = .ok (.istore 9, 2) := by decide +kernel
theorem dL_areBestSo_46 : decode cL_areBestSo 46 = .ok (.iload 8, 2) := by decide +kernel
theorem dL_areBestSo_48 : decode cL_areBestSo 48 = .ok (.ifCond .lt 20, 3) := by decide +kernel
theorem dL_areBestSo_51 : decode cL_areBestSo 51 = .ok (.iload 6, 2) := by decide +kernel
theorem dL_areBestSo_53 : decode cL_areBestSo 53 = .ok (.ifCond .lt 10, 3) := by decide +kernel
theorem dL_areBestSo_56 : decode cL_areBestSo 56 = .ok (.iload 9, 2) := by decide +kernel
theorem dL_areBestSo_58 : decode cL_areBestSo 58 = .ok (.iload 5, 2) := by decide +kernel
theorem dL_areBestSo_60 : decode cL_areBestSo 60 = .ok (.if_icmp .ge 8, 3) := by decide +kernel
theorem dL_areBestSo_63 : decode cL_areBestSo 63 = .ok (.iload 7, 2) := by decide +kernel
theorem dL_areBestSo_65 : decode cL_areBestSo 65 = .ok (.goto 5, 3) := by decide +kernel
theorem dL_areBestSo_68 : decode cL_areBestSo 68 = .ok (.iload 6, 2) := by decide +kernel
theorem dL_areBestSo_70 : decode cL_areBestSo 70 = .ok (.istore 6, 2) := by decide +kernel
theorem dL_areBestSo_72 : decode cL_areBestSo 72 = .ok (.iload 6, 2) := by decide +kernel
theorem dL_areBestSo_74 : decode cL_areBestSo 74 = .ok (.iload 7, 2) := by decide +kernel
theorem dL_areBestSo_76 : decode cL_areBestSo 76 = .ok (.if_icmp .ne 8, 3) := by decide +kernel
theorem dL_areBestSo_79 : decode cL_areBestSo 79 = .ok (.iload 9, 2) := by decide +kernel
theorem dL_areBestSo_81 : decode cL_areBestSo 81 = .ok (.goto 5, 3) := by decide +kernel
theorem dL_areBestSo_84 : decode cL_areBestSo 84 = .ok (.iload 5, 2) := by decide +kernel
theorem dL_areBestSo_86 : decode cL_areBestSo 86 = .ok (.istore 5, 2) := by decide +kernel
theorem dL_areBestSo_88 : decode cL_areBestSo 88 = .ok (.aload_n 0, 1) := by decide +kernel
theorem dL_areBestSo_89 : decode cL_areBestSo 89 = .ok (.invokevirtual 74, 3) := by decide +kernel
theorem dL_areBestSo_92 : decode cL_areBestSo 92 = .ok (.istore 8, 2) := by decide +kernel
theorem dL_areBestSo_94 : decode cL_areBestSo 94 = .ok (.iinc 7 1, 3) := by decide +kernel
theorem dL_areBestSo_97 : decode cL_areBestSo 97 = .ok (.goto (-75), 3) := by decide +kernel
theorem dL_areBestSo_100 : decode cL_areBestSo 100 = .ok (.aload_n 0, 1) := by decide +kernel
theorem dL_areBestSo_101 : decode cL_areBestSo 101 = .ok (.iload_n 2, 1) := by decide +kernel
theorem dL_areBestSo_102 : decode cL_areBestSo 102 = .ok (.invokevirtual 83, 3) := by decide +kernel
theorem dL_areBestSo_105 : decode cL_areBestSo 105 = .ok (.istore 7, 2) := by decide +kernel
theorem dL_areBestSo_107 : decode cL_areBestSo 107 = .ok (.aload_n 0, 1) := by decide +kernel
theorem dL_areBestSo_108 : decode cL_areBestSo 108 = .ok (.iconst 1, 1) := by decide +kernel
theorem dL_areBestSo_109 : decode cL_areBestSo 109 = .ok (.invokevirtual 68, 3) := by decide +kernel
theorem dL_areBestSo_112 : decode cL_areBestSo 112 = .ok (.aload_n 0, 1) := by decide +kernel
theorem dL_areBestSo_113 : decode cL_areBestSo 113 = .ok (.iconst 2, 1) := by decide +kernel
theorem dL_areBestSo_114 : decode cL_areBestSo 114 = .ok (.invokevirtual 68, 3) := by decide +kernel
theorem dL_areBestSo_117 : decode cL_areBestSo 117 = .ok (.imul, 1) := by decide +kernel
theorem dL_areBestSo_118 : decode cL_areBestSo 118 = .ok (.istore 8, 2) := by decide +kernel
theorem dL_areBestSo_120 : decode cL_areBestSo 120 = .ok (.iconst (-1), 1) := by decide +kernel
theorem dL_areBestSo_121 : decode cL_areBestSo 121 = .ok (.istore 9, 2) := by decide +kernel
theorem dL_areBestSo_123 : decode cL_areBestSo 123 = .ok (.iconst 0, 1) := by decide +kernel
theorem dL_areBestSo_124 : decode cL_areBestSo 124 = .ok (.istore 10, 2) := by decide +kernel
theorem dL_areBestSo_126 : decode cL_areBestSo 126 = .ok (.sipush 255, 3) := by decide +kernel
theorem dL_areBestSo_129 : decode cL_areBestSo 129 = .ok (.istore 11, 2) := by decide +kernel
theorem dL_areBestSo_131 : decode cL_areBestSo 131 = .ok (.iload 11, 2) := by decide +kernel
theorem dL_areBestSo_133 : decode cL_areBestSo 133 = .ok (.ifCond .le 159, 3) := by decide +kernel
theorem dL_areBestSo_136 : decode cL_areBestSo 136 = .ok (.iconst 0, 1) := by decide +kernel
theorem dL_areBestSo_137 : decode cL_areBestSo 137 = .ok (.istore 12, 2) := by decide +kernel
theorem dL_areBestSo_139 : decode cL_areBestSo 139 = .ok (.iconst 0, 1) := by decide +kernel
theorem dL_areBestSo_140 : decode cL_areBestSo 140 = .ok (.istore 13, 2) := by decide +kernel
theorem dL_areBestSo_142 : decode cL_areBestSo 142 = .ok (.iconst 0, 1) := by decide +kernel
theorem dL_areBestSo_143 : decode cL_areBestSo 143 = .ok (.istore 14, 2) := by decide +kernel
theorem dL_areBestSo_145 : decode cL_areBestSo 145 = .ok (.iload 14, 2) := by decide +kernel
theorem dL_areBestSo_147 : decode cL_areBestSo 147 = .ok (.bipush 8, 2) := by decide +kernel
theorem dL_areBestSo_149 : decode cL_areBestSo 149 = .ok (.if_icmp .ge 89, 3) := by decide +kernel
theorem dL_areBestSo_152 : decode cL_areBestSo 152 = .ok (.iload 11, 2) := by decide +kernel
theorem dL_areBestSo_154 : decode cL_areBestSo 154 = .ok (.iload 14, 2) := by decide +kernel
theorem dL_areBestSo_156 : decode cL_areBestSo 156 = .ok (.ishr, 1) := by decide +kernel
theorem dL_areBestSo_157 : decode cL_areBestSo 157 = .ok (.iconst 1, 1) := by decide +kernel
theorem dL_areBestSo_158 : decode cL_areBestSo 158 = .ok (.iand, 1) := by decide +kernel
theorem dL_areBestSo_159 : decode cL_areBestSo 159 = .ok (.iconst 1, 1) := by decide +kernel
theorem dL_areBestSo_160 : decode cL_areBestSo 160 = .ok (.if_icmp .ne 7, 3) := by decide +kernel
theorem dL_areBestSo_163 : decode cL_areBestSo 163 = .ok (.iconst 1, 1) := by decide +kernel
theorem dL_areBestSo_164 : decode cL_areBestSo 164 = .ok (.goto 4, 3) := by decide +kernel
theorem dL_areBestSo_167 : decode cL_areBestSo 167 = .ok (.iconst 0, 1) := by decide +kernel
theorem dL_areBestSo_168 : decode cL_areBestSo 168 = .ok (.istore 15, 2) := by decide +kernel
theorem dL_areBestSo_170 : decode cL_areBestSo 170 = .ok (.iload 12, 2) := by decide +kernel
theorem dL_areBestSo_172 : decode cL_areBestSo 172 = .ok (.iload 15, 2) := by decide +kernel
theorem dL_areBestSo_174 : decode cL_areBestSo 174 = .ok (.ifCond .eq 32, 3) := by decide +kernel
theorem dL_areBestSo_177 : decode cL_areBestSo 177 = .ok (.iload 14, 2) := by decide +kernel
theorem dL_areBestSo_179 : decode cL_areBestSo 179 = .ok (.aload_n 0, 1) := by decide +kernel
theorem dL_areBestSo_180 : decode cL_areBestSo 180 = .ok (.iconst 2, 1) := by decide +kernel
theorem dL_areBestSo_181 : decode cL_areBestSo 181 = .ok (.invokevirtual 58, 3) := by decide +kernel
theorem dL_areBestSo_184 : decode cL_areBestSo 184 = .ok (.if_icmp .eq 13, 3) := by decide +kernel
theorem dL_areBestSo_187 : decode cL_areBestSo 187 = .ok (.aload_n 0, 1) := by decide +kernel
theorem dL_areBestSo_188 : decode cL_areBestSo 188 = .ok (.iload 14, 2) := by decide +kernel
theorem dL_areBestSo_190 : decode cL_areBestSo 190 = .ok (.iconst 0, 1) := by decide +kernel
theorem dL_areBestSo_191 : decode cL_areBestSo 191 = .ok (.invokevirtual 20, 3) := by decide +kernel
theorem dL_areBestSo_194 : decode cL_areBestSo 194 = .ok (.ifCond .ne 8, 3) := by decide +kernel
theorem dL_areBestSo_197 : decode cL_areBestSo 197 = .ok (.bipush 99, 2) := by decide +kernel
theorem dL_areBestSo_199 : decode cL_areBestSo 199 = .ok (.goto 8, 3) := by decide +kernel
theorem dL_areBestSo_202 : decode cL_areBestSo 202 = .ok (.iconst 1, 1) := by decide +kernel
theorem dL_areBestSo_203 : decode cL_areBestSo 203 = .ok (.goto 4, 3) := by decide +kernel
theorem dL_areBestSo_206 : decode cL_areBestSo 206 = .ok (.iconst 0, 1) := by decide +kernel
theorem dL_areBestSo_207 : decode cL_areBestSo 207 = .ok (.iadd, 1) := by decide +kernel
theorem dL_areBestSo_208 : decode cL_areBestSo 208 = .ok (.istore 12, 2) := by decide +kernel
theorem dL_areBestSo_210 : decode cL_areBestSo 210 = .ok (.iload 13, 2) := by decide +kernel
theorem dL_areBestSo_212 : decode cL_areBestSo 212 = .ok (.iload 15, 2) := by decide +kernel
theorem dL_areBestSo_214 : decode cL_areBestSo 214 = .ok (.ifCond .eq 14, 3) := by decide +kernel
theorem dL_areBestSo_217 : decode cL_areBestSo 217 = .ok (.aload_n 0, 1) := by decide +kernel
theorem dL_areBestSo_218 : decode cL_areBestSo 218 = .ok (.iload 14, 2) := by decide +kernel
theorem dL_areBestSo_220 : decode cL_areBestSo 220 = .ok (.bipush 7, 2) := by decide +kernel
theorem dL_areBestSo_222 : decode cL_areBestSo 222 = .ok (.invokevirtual 20, 3) := by decide +kernel
theorem dL_areBestSo_225 : decode cL_areBestSo 225 = .ok (.goto 4, 3) := by decide +kernel
theorem dL_areBestSo_228 : decode cL_areBestSo 228 = .ok (.iconst 0, 1) := by decide +kernel
theorem dL_areBestSo_229 : decode cL_areBestSo 229 = .ok (.iadd, 1) := by decide +kernel
theorem dL_areBestSo_230 : decode cL_areBestSo 230 = .ok (.istore 13, 2) := by decide +kernel
theorem dL_areBestSo_232 : decode cL_areBestSo 232 = .ok (.iinc 14 1, 3) := by decide +kernel
theorem dL_areBestSo_235 : decode cL_areBestSo 235 = .ok (.goto (-90), 3) := by decide +kernel
theorem dL_areBestSo_238 : decode cL_areBestSo 238 = .ok (.iload 13, 2) := by decide +kernel
theorem dL_areBestSo_240 : decode cL_areBestSo 240 = .ok (.iload 8, 2) := by decide +kernel
theorem dL_areBestSo_242 : decode cL_areBestSo 242 = .ok (.if_icmp .ge 11, 3) := by decide +kernel
theorem dL_areBestSo_245 : decode cL_areBestSo 245 = .ok (.iload 8, 2) := by decide +kernel
theorem dL_areBestSo_247 : decode cL_areBestSo 247 = .ok (.iload 13, 2) := by decide +kernel
theorem dL_areBestSo_249 : decode cL_areBestSo 249 = .ok (.isub, 1) := by decide +kernel
theorem dL_areBestSo_250 : decode cL_areBestSo 250 = .ok (.goto 8, 3) := by decide +kernel
theorem dL_areBestSo_253 : decode cL_areBestSo 253 = .ok (.iload 13, 2) := by decide +kernel
theorem dL_areBestSo_255 : decode cL_areBestSo 255 = .ok (.iload 8, 2) := by decide +kernel
theorem dL_areBestSo_257 : decode cL_areBestSo 257 = .ok (.isub, 1) := by decide +kernel
theorem dL_areBestSo_258 : decode cL_areBestSo 258 = .ok (.istore 14, 2) := by decide +kernel
theorem dL_areBestSo_260 : decode cL_areBestSo 260 = .ok (.iload 12, 2) := by decide +kernel
theorem dL_areBestSo_262 : decode cL_areBestSo 262 = .ok (.iload_n 2, 1) := by decide +kernel
theorem dL_areBestSo_263 : decode cL_areBestSo 263 = .ok (.if_icmp .ne 23, 3) := by decide +kernel
theorem dL_areBestSo_266 : decode cL_areBestSo 266 = .ok (.iload 9, 2) := by decide +kernel
theorem dL_areBestSo_268 : decode cL_areBestSo 268 = .ok (.ifCond .lt 10, 3) := by decide +kernel
theorem dL_areBestSo_271 : decode cL_areBestSo 271 = .ok (.iload 14, 2) := by decide +kernel
theorem dL_areBestSo_273 : decode cL_areBestSo 273 = .ok (.iload 10, 2) := by decide +kernel
theorem dL_areBestSo_275 : decode cL_areBestSo 275 = .ok (.if_icmp .gt 11, 3) := by decide +kernel
theorem dL_areBestSo_278 : decode cL_areBestSo 278 = .ok (.iload 11, 2) := by decide +kernel
theorem dL_areBestSo_280 : decode cL_areBestSo 280 = .ok (.istore 9, 2) := by decide +kernel
theorem dL_areBestSo_282 : decode cL_areBestSo 282 = .ok (.iload 14, 2) := by decide +kernel
theorem dL_areBestSo_284 : decode cL_areBestSo 284 = .ok (.istore 10, 2) := by decide +kernel
theorem dL_areBestSo_286 : decode cL_areBestSo 286 = .ok (.iinc 11 (-1), 3) := by decide +kernel
theorem dL_areBestSo_289 : decode cL_areBestSo 289 = .ok (.goto (-158), 3) := by decide +kernel
theorem dL_areBestSo_292 : decode cL_areBestSo 292 = .ok (.iload 6, 2) := by decide +kernel
theorem dL_areBestSo_294 : decode cL_areBestSo 294 = .ok (.iload_n 3, 1) := by decide +kernel
theorem dL_areBestSo_295 : decode cL_areBestSo 295 = .ok (.if_icmp .ne 33, 3) := by decide +kernel
theorem dL_areBestSo_298 : decode cL_areBestSo 298 = .ok (.aload_n 0, 1) := by decide +kernel
theorem dL_areBestSo_299 : decode cL_areBestSo 299 = .ok (.iconst 0, 1) := by decide +kernel
theorem dL_areBestSo_300 : decode cL_areBestSo 300 = .ok (.invokevirtual 68, 3) := by decide +kernel
theorem dL_areBestSo_303 : decode cL_areBestSo 303 = .ok (.iload 4, 2) := by decide +kernel
theorem dL_areBestSo_305 : decode cL_areBestSo 305 = .ok (.if_icmp .ne 23, 3) := by decide +kernel
theorem dL_areBestSo_308 : decode cL_areBestSo 308 = .ok (.iload 7, 2) := by decide +kernel
theorem dL_areBestSo_310 : decode cL_areBestSo 310 = .ok (.iload 9, 2) := by decide +kernel
theorem dL_areBestSo_312 : decode cL_areBestSo 312 = .ok (.ifCond .ge 7, 3) := by decide +kernel
theorem dL_areBestSo_315 : decode cL_areBestSo 315 = .ok (.iconst (-1), 1) := by decide +kernel
theorem dL_areBestSo_316 : decode cL_areBestSo 316 = .ok (.goto 5, 3) := by decide +kernel
theorem dL_areBestSo_319 : decode cL_areBestSo 319 = .ok (.iload 9, 2) := by decide +kernel
theorem dL_areBestSo_321 : decode cL_areBestSo 321 = .ok (.if_icmp .ne 7, 3) := by decide +kernel
theorem dL_areBestSo_324 : decode cL_areBestSo 324 = .ok (.iconst 1, 1) := by decide +kernel
theorem dL_areBestSo_325 : decode cL_areBestSo 325 = .ok (.goto 4, 3) := by decide +kernel
theorem dL_areBestSo_328 : decode cL_areBestSo 328 = .ok (.iconst 0, 1) := by decide +kernel
theorem dL_areBestSo_329 : decode cL_areBestSo 329 = .ok (.ireturn, 1) := by decide +kernel
