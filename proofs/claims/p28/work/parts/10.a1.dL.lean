theorem dL_fill_118 : decode cL_fill 118 = .ok (.invokestatic 14, 3) := by decide +kernel
theorem dL_fill_121 : decode cL_fill 121 = .ok (.invokestatic 27, 3) := by decide +kernel
theorem dL_fill_124 : decode cL_fill 124 = .ok (.aload_n 0, 1) := by decide +kernel
theorem dL_fill_125 : decode cL_fill 125 = .ok (.bipush 42, 2) := by decide +kernel
theorem dL_fill_127 : decode cL_fill 127 = .ok (.invokevirtual 8, 3) := by decide +kernel
theorem dL_fill_130 : decode cL_fill 130 = .ok (.istore 6, 2) := by decide +kernel
theorem dL_fill_132 : decode cL_fill 132 = .ok (.aload_n 0, 1) := by decide +kernel
theorem dL_fill_133 : decode cL_fill 133 = .ok (.iload 4, 2) := by decide +kernel
theorem dL_fill_135 : decode cL_fill 135 = .ok (.invokestatic 27, 3) := by decide +kernel
theorem dL_fill_138 : decode cL_fill 138 = .ok (.aload_n 0, 1) := by decide +kernel
theorem dL_fill_139 : decode cL_fill 139 = .ok (.iload_n 1, 1) := by decide +kernel
theorem dL_fill_140 : decode cL_fill 140 = .ok (.invokevirtual 31, 3) := by decide +kernel
theorem dL_fill_143 : decode cL_fill 143 = .ok (.istore 6, 2) := by decide +kernel
theorem dL_fill_145 : decode cL_fill 145 = .ok (.return_, 1) := by decide +kernel
set_option maxRecDepth 20000 in
theorem ggL_does_L_low : GoodIn wsL_does wsL_low := goodIn_r _ [4, 5] (by decide +kernel) (by decide +kernel)
set_option maxRecDepth 20000 in
theorem gL_does_L_low : GoodIn wsL_does (va_wsS RL 14 yL_low wsL_low) := goodIn_app (goodIn_of _ (by decide +kernel)) ggL_does_L_low
set_option maxRecDepth 20000 in
theorem ggL_does_L_fill : GoodIn wsL_does wsL_fill := goodIn_ca (goodIn_ca (goodIn_ca (goodIn_r _ [8, 1, 2, 3, 4, 5, 9, 10, 11, 12, 13, 14, 15, 16, 17, 18, 19, 20, 21, 22, 23, 24, 25, 26, 27, 28, 29, 30, 31, 32, 33, 34, 35, 36, 37, 38, 39, 40, 41, 42, 43, 44, 45, 46, 47, 48, 49, 50, 51, 52, 53, 54, 55, 56, 57, 58, 59, 60, 61, 62, 63, 64, 65, 66, 67, 68, 69, 70, 71, 72, 73, 74, 75, 76, 77, 78, 79, 80, 81, 82, 83, 84, 85, 86, 87, 88, 89, 90, 91, 92, 93, 94, 95, 96, 97, 98, 99, 100, 101, 102, 103, 104, 105, 106, 107, 108, 109, 110, 111, 112, 113, 114, 115, 116, 117, 118, 119, 120, 121, 122, 123, 124, 125, 126, 127, 128, 129, 130, 131, 132, 133, 134, 135, 136, 137, 138, 139, 140, 141, 142, 143, 144, 145, 146, 147, 148, 149, 150, 151, 152, 153, 154, 155, 156, 157, 158, 159, 160, 161, 162, 163, 164, 165, 166, 167, 168, 169, 170, 171, 172, 173, 174, 175, 176, 177, 178, 179, 180, 181, 182, 183, 184, 185, 186, 187, 188, 189, 190, 191, 192, 193, 194, 195, 196, 197, 198, 199, 200, 201, 202, 203, 204, 205, 206, 207, 208, 209, 210, 211, 212, 213, 214, 215, 216, 217, 218, 219, 220, 221, 222, 223, 224, 225, 226, 227, 228, 229, 334, 335, 336, 337, 338, 339, 340, 341, 342, 343, 344, 345, 346, 347, 348, 349, 350, 351, 352, 353, 354, 355, 356, 357, 358, 359, 360, 361, 362, 363, 364, 365, 366, 367] (by decide +kernel) (by decide +kernel)) (goodIn_sub (fun _ h => List.mem_cons_of_mem _ (List.mem_append_left _ (List.mem_append_left _ (List.mem_append_right _ h)))) (by decide +kernel))) (goodIn_sub (fun _ h => List.mem_cons_of_mem _ (List.mem_append_left _ (List.mem_append_right _ h))) (by decide +kernel))) (goodIn_sub (fun _ h => List.mem_cons_of_mem _ (List.mem_append_right _ h)) (by decide +kernel))
set_option maxRecDepth 20000 in
theorem gL_does_L_fill : GoodIn wsL_does (va_wsS RL 34 yL_fill wsL_fill) := goodIn_app (goodIn_of _ (by decide +kernel)) ggL_does_L_fill
set_option maxRecDepth 20000 in
theorem ggL_does_X5_feed : GoodIn wsL_does wsX5_feed := goodIn_ca (goodIn_r _ [233, 16, 17, 111, 18, 234, 235, 167, 168, 169, 170, 171, 172, 173, 174, 175, 176, 177, 178, 179, 180, 181, 70, 182, 183, 184, 185, 186, 44, 45, 46, 187, 188, 189, 190, 72, 191, 192, 193, 194, 195, 196, 197, 198, 199, 200, 201, 26, 202, 38, 43, 203, 28, 204, 205, 206, 207, 208, 209, 210, 211, 212, 236, 237, 238, 239, 334, 335, 336, 337, 338, 339, 340, 341, 342, 343, 344, 345, 346, 347, 348, 349, 350, 351, 363, 364, 365, 352, 353, 366, 367] (by decide +kernel) (by decide +kernel)) (goodIn_sub (fun _ h => List.mem_cons_of_mem _ (List.mem_append_left _ (List.mem_append_right _ h))) (by decide +kernel))
set_option maxRecDepth 20000 in
theorem gL_does_X5_feed : GoodIn wsL_does (wsV RL 37 RX5 yX5_feed wsX5_feed) := goodIn_app (goodIn_of _ (by decide +kernel)) ggL_does_X5_feed
set_option maxRecDepth 20000 in
theorem ggL_does_X5_out : GoodIn wsL_does wsX5_out := goodIn_ca (goodIn_r _ [243, 14, 15, 111, 18, 244, 20, 21, 12, 22, 167, 168, 169, 170, 171, 172, 173, 174, 175, 176, 177, 178, 179, 180, 181, 70, 182, 183, 184, 185, 186, 44, 45, 46, 187, 188, 189, 190, 72, 191, 192, 193, 194, 195, 196, 197, 198, 199, 200, 201, 26, 202, 38, 43, 203, 28, 204, 205, 206, 207, 208, 209, 210, 211, 212, 334, 335, 336, 337, 338, 339, 340, 341, 342, 343, 344, 345, 346, 347, 348, 349, 350, 351, 363, 364, 365, 352, 353, 366, 367] (by decide +kernel) (by decide +kernel)) (goodIn_sub (fun _ h => List.mem_cons_of_mem _ (List.mem_append_left _ (List.mem_append_left _ (List.mem_append_right _ h)))) (by decide +kernel))
set_option maxRecDepth 20000 in
theorem gL_does_X5_out : GoodIn wsL_does (wsV RL 40 RX5 yX5_out wsX5_out) := goodIn_app (goodIn_of _ (by decide +kernel)) ggL_does_X5_out
set_option maxRecDepth 20000 in
theorem ggL_does_X5_clear : GoodIn wsL_does wsX5_clear := goodIn_r _ [248, 111, 18, 249, 235, 167, 168, 169, 170, 171, 172, 173, 174, 175, 176, 177, 178, 179, 180, 181, 70, 182, 183, 184, 185, 186, 44, 45, 46, 187, 188, 189, 190, 72, 191, 192, 193, 194, 195, 196, 197, 198, 199, 200, 201, 26, 202, 38, 43, 203, 28, 204, 205, 206, 207, 208, 209, 210, 211, 212, 236, 237, 238, 239, 334, 335, 336, 337, 338, 339, 340, 341, 342, 343, 344, 345, 346, 347, 348, 349, 350, 351, 363, 364, 365, 352, 353, 366, 367] (by decide +kernel) (by decide +kernel)
set_option maxRecDepth 20000 in
theorem gL_does_X5_clear : GoodIn wsL_does (wsV RL 43 RX5 yX5_clear wsX5_clear) := goodIn_app (goodIn_of _ (by decide +kernel)) ggL_does_X5_clear
set_option maxRecDepth 20000 in
theorem ggL_does_X5_tip : GoodIn wsL_does wsX5_tip := goodIn_ca (goodIn_r _ [253, 14, 15, 111, 18, 19, 254, 20, 21, 12, 22, 167, 168, 169, 170, 171, 172, 173, 174, 175, 176, 177, 178, 179, 180, 181, 70, 182, 183, 184, 185, 186, 44, 45, 46, 187, 188, 189, 190, 72, 191, 192, 193, 194, 195, 196, 197, 198, 199, 200, 201, 26, 202, 38, 43, 203, 28, 204, 205, 206, 207, 208, 209, 210, 211, 212, 23, 24, 25, 27, 29, 30, 31, 32, 33, 34, 35, 36, 37, 255, 256, 257, 258, 334, 335, 336, 337, 338, 339, 340, 341, 342, 343, 344, 345, 346, 347, 348, 349, 350, 351, 363, 364, 365, 352, 353, 366, 367] (by decide +kernel) (by decide +kernel)) (goodIn_sub (fun _ h => List.mem_cons_of_mem _ (List.mem_append_left _ (List.mem_append_left _ (List.mem_append_right _ h)))) (by decide +kernel))
set_option maxRecDepth 20000 in
theorem gL_does_X5_tip : GoodIn wsL_does (wsV RL 46 RX5 yX5_tip wsX5_tip) := goodIn_app (goodIn_of _ (by decide +kernel)) ggL_does_X5_tip
set_option maxRecDepth 20000 in
theorem ggL_does_X5_set : GoodIn wsL_does wsX5_set := goodIn_ca (goodIn_ca (goodIn_r _ [262, 14, 15, 16, 17, 111, 18, 263, 264, 12, 265, 266, 267, 268, 269, 270, 167, 168, 169, 170, 171, 172, 173, 174, 175, 176, 177, 178, 179, 180, 181, 70, 182, 183, 184, 185, 186, 44, 45, 46, 187, 188, 189, 190, 72, 191, 192, 193, 194, 195, 196, 197, 198, 199, 200, 201, 26, 202, 38, 43, 203, 28, 204, 205, 206, 207, 208, 209, 210, 211, 212, 271, 272, 273, 274, 275, 276, 277, 278, 334, 335, 336, 337, 338, 339, 363, 364, 365, 340, 341, 342, 343, 344, 345, 346, 347, 348, 349, 350, 351, 352, 353, 366, 367] (by decide +kernel) (by decide +kernel)) (goodIn_sub (fun _ h => List.mem_cons_of_mem _ (List.mem_append_left _ (List.mem_append_left _ (List.mem_append_right _ h)))) (by decide +kernel))) (goodIn_sub (fun _ h => List.mem_cons_of_mem _ (List.mem_append_left _ (List.mem_append_right _ h))) (by decide +kernel))
set_option maxRecDepth 20000 in
theorem gL_does_X5_set : GoodIn wsL_does (wsV RL 49 RX5 yX5_set wsX5_set) := goodIn_app (goodIn_of _ (by decide +kernel)) ggL_does_X5_set
set_option maxRecDepth 20000 in
theorem ggL_does_X5_run : GoodIn wsL_does wsX5_run := goodIn_ca (goodIn_r _ [282, 16, 17, 111, 18, 283, 284, 12, 285, 167, 168, 169, 170, 171, 172, 173, 174, 175, 176, 177, 178, 179, 180, 181, 70, 182, 183, 184, 185, 186, 44, 45, 46, 187, 188, 189, 190, 72, 191, 192, 193, 194, 195, 196, 197, 198, 199, 200, 201, 26, 202, 38, 43, 203, 28, 204, 205, 206, 207, 208, 209, 210, 211, 212, 286, 287, 288, 289, 290, 291, 292, 293, 294, 68, 69, 71, 295, 296, 297, 298, 299, 300, 301, 302, 34, 35, 36, 37, 33, 24, 25, 27, 303, 304, 305, 306, 307, 52, 53, 308, 272, 273, 274, 309, 310, 311, 312, 313, 314, 315, 316, 317, 318, 319, 320, 321, 322, 323, 324, 325, 326, 327, 328, 329, 330, 331, 332, 333, 226, 227, 228, 229, 334, 335, 336, 337, 338, 339, 363, 364, 365, 340, 341, 342, 343, 344, 345, 346, 347, 348, 349, 350, 351, 352, 353, 366, 367] (by decide +kernel) (by decide +kernel)) (goodIn_sub (fun _ h => List.mem_cons_of_mem _ (List.mem_append_left _ (List.mem_append_right _ h))) (by decide +kernel))
set_option maxRecDepth 20000 in
theorem gL_does_X5_run : GoodIn wsL_does (wsV RL 52 RX5 yX5_run wsX5_run) := goodIn_app (goodIn_of _ (by decide +kernel)) ggL_does_X5_run
theorem dL_does_0 : decode cL_does 0 = .ok (.iload_n 1, 1) := by decide +kernel
theorem dL_does_1 : decode cL_does 1 = .ok (.bipush 15, 2) := by decide +kernel
theorem dL_does_3 : decode cL_does 3 = .ok (.iand, 1) := by decide +kernel
theorem dL_does_4 : decode cL_does 4 = .ok (.tableswitch 233 0 9 #[56, 56, 56, 56, 73, 73, 95, 108, 113, 139], 56) := by decide +kernel
theorem dL_does_60 : decode cL_does 60 = .ok (.aload_n 0, 1) := by decide +kernel
theorem dL_does_61 : decode cL_does 61 = .ok (.iload_n 1, 1) := by decide +kernel
theorem dL_does_62 : decode cL_does 62 = .ok (.iconst 4, 1) := by decide +kernel
theorem dL_does_63 : decode cL_does 63 = .ok (.ishr, 1) := by decide +kernel
theorem dL_does_64 : decode cL_does 64 = .ok (.bipush 7, 2) := by decide +kernel
theorem dL_does_66 : decode cL_does 66 = .ok (.invokestatic 14, 3) := by decide +kernel
theorem dL_does_69 : decode cL_does 69 = .ok (.iload_n 1, 1) := by decide +kernel
theorem dL_does_70 : decode cL_does 70 = .ok (.iconst 5, 1) := by decide +kernel
theorem dL_does_71 : decode cL_does 71 = .ok (.ishr, 1) := by decide +kernel
theorem dL_does_72 : decode cL_does 72 = .ok (.invokestatic 34, 3) := by decide +kernel
theorem dL_does_75 : decode cL_does 75 = .ok (.iconst 0, 1) := by decide +kernel
theorem dL_does_76 : decode cL_does 76 = .ok (.ireturn, 1) := by decide +kernel
theorem dL_does_77 : decode cL_does 77 = .ok (.aload_n 0, 1) := by decide +kernel
theorem dL_does_78 : decode cL_does 78 = .ok (.iload_n 1, 1) := by decide +kernel
theorem dL_does_79 : decode cL_does 79 = .ok (.iconst 4, 1) := by decide +kernel
theorem dL_does_80 : decode cL_does 80 = .ok (.ishr, 1) := by decide +kernel
theorem dL_does_81 : decode cL_does 81 = .ok (.sipush 128, 3) := by decide +kernel
theorem dL_does_84 : decode cL_does 84 = .ok (.invokestatic 14, 3) := by decide +kernel
theorem dL_does_87 : decode cL_does 87 = .ok (.invokevirtual 37, 3) := by decide +kernel
theorem dL_does_90 : decode cL_does 90 = .ok (.ifCond .ge 7, 3) := by decide +kernel
theorem dL_does_93 : decode cL_does 93 = .ok (.iconst 0, 1) := by decide +kernel
theorem dL_does_94 : decode cL_does 94 = .ok (.goto 4, 3) := by decide +kernel
theorem dL_does_97 : decode cL_does 97 = .ok (.iconst 0, 1) := by decide +kernel
theorem dL_does_98 : decode cL_does 98 = .ok (.ireturn, 1) := by decide +kernel
theorem dL_does_99 : decode cL_does 99 = .ok (.aload_n 0, 1) := by decide +kernel
theorem dL_does_100 : decode cL_does 100 = .ok (.iload_n 1, 1) := by decide +kernel
theorem dL_does_101 : decode cL_does 101 = .ok (.iconst 4, 1) := by decide +kernel
theorem dL_does_102 : decode cL_does 102 = .ok (.ishr, 1) := by decide +kernel
theorem dL_does_103 : decode cL_does 103 = .ok (.bipush 8, 2) := by decide +kernel
theorem dL_does_105 : decode cL_does 105 = .ok (.invokestatic 14, 3) := by decide +kernel
theorem dL_does_108 : decode cL_does 108 = .ok (.invokevirtual 40, 3) := by decide +kernel
theorem dL_does_111 : decode cL_does 111 = .ok (.ireturn, 1) := by decide +kernel
theorem dL_does_112 : decode cL_does 112 = .ok (.aload_n 0, 1) := by decide +kernel
theorem dL_does_113 : decode cL_does 113 = .ok (.invokevirtual 43, 3) := by decide +kernel
theorem dL_does_116 : decode cL_does 116 = .ok (.ireturn, 1) := by decide +kernel
theorem dL_does_117 : decode cL_does 117 = .ok (.iload_n 1, 1) := by decide +kernel
theorem dL_does_118 : decode cL_does 118 = .ok (.iconst 4, 1) := by decide +kernel
theorem dL_does_119 : decode cL_does 119 = .ok (.ishr, 1) := by decide +kernel
theorem dL_does_120 : decode cL_does 120 = .ok (.iconst 3, 1) := by decide +kernel
theorem dL_does_121 : decode cL_does 121 = .ok (.iand, 1) := by decide +kernel
theorem dL_does_122 : decode cL_does 122 = .ok (.ifCond .le 7, 3) := by decide +kernel
theorem dL_does_125 : decode cL_does 125 = .ok (.iconst 0, 1) := by decide +kernel
theorem dL_does_126 : decode cL_does 126 = .ok (.goto 16, 3) := by decide +kernel
theorem dL_does_129 : decode cL_does 129 = .ok (.aload_n 0, 1) := by decide +kernel
theorem dL_does_130 : decode cL_does 130 = .ok (.iload_n 1, 1) := by decide +kernel
theorem dL_does_131 : decode cL_does 131 = .ok (.bipush 6, 2) := by decide +kernel
theorem dL_does_133 : decode cL_does 133 = .ok (.ishr, 1) := by decide +kernel
theorem dL_does_134 : decode cL_does 134 = .ok (.bipush 8, 2) := by decide +kernel
theorem dL_does_136 : decode cL_does 136 = .ok (.invokestatic 14, 3) := by decide +kernel
theorem dL_does_139 : decode cL_does 139 = .ok (.invokevirtual 46, 3) := by decide +kernel
theorem dL_does_142 : decode cL_does 142 = .ok (.ireturn, 1) := by decide +kernel
theorem dL_does_143 : decode cL_does 143 = .ok (.iload_n 1, 1) := by decide +kernel
theorem dL_does_144 : decode cL_does 144 = .ok (.iconst 4, 1) := by decide +kernel
theorem dL_does_145 : decode cL_does 145 = .ok (.ishr, 1) := by decide +kernel
theorem dL_does_146 : decode cL_does 146 = .ok (.iconst 5, 1) := by decide +kernel
theorem dL_does_147 : decode cL_does 147 = .ok (.invokestatic 14, 3) := by decide +kernel
theorem dL_does_150 : decode cL_does 150 = .ok (.istore_n 2, 1) := by decide +kernel
theorem dL_does_151 : decode cL_does 151 = .ok (.aload_n 0, 1) := by decide +kernel
theorem dL_does_152 : decode cL_does 152 = .ok (.iload_n 2, 1) := by decide +kernel
theorem dL_does_153 : decode cL_does 153 = .ok (.iload_n 2, 1) := by decide +kernel
theorem dL_does_154 : decode cL_does 154 = .ok (.ifCond .ne 15, 3) := by decide +kernel
theorem dL_does_157 : decode cL_does 157 = .ok (.iload_n 1, 1) := by decide +kernel
theorem dL_does_158 : decode cL_does 158 = .ok (.bipush 7, 2) := by decide +kernel
theorem dL_does_160 : decode cL_does 160 = .ok (.ishr, 1) := by decide +kernel
theorem dL_does_161 : decode cL_does 161 = .ok (.bipush 7, 2) := by decide +kernel
theorem dL_does_163 : decode cL_does 163 = .ok (.invokestatic 14, 3) := by decide +kernel
theorem dL_does_166 : decode cL_does 166 = .ok (.goto 67, 3) := by decide +kernel
theorem dL_does_169 : decode cL_does 169 = .ok (.iload_n 2, 1) := by decide +kernel
theorem dL_does_170 : decode cL_does 170 = .ok (.iconst 1, 1) := by decide +kernel
theorem dL_does_171 : decode cL_does 171 = .ok (.if_icmp .ne 17, 3) := by decide +kernel
theorem dL_does_174 : decode cL_does 174 = .ok (.iconst 1, 1) := by decide +kernel
theorem dL_does_175 : decode cL_does 175 = .ok (.iload_n 1, 1) := by decide +kernel
theorem dL_does_176 : decode cL_does 176 = .ok (.bipush 7, 2) := by decide +kernel
theorem dL_does_178 : decode cL_does 178 = .ok (.ishr, 1) := by decide +kernel
theorem dL_does_179 : decode cL_does 179 = .ok (.bipush 8, 2) := by decide +kernel
theorem dL_does_181 : decode cL_does 181 = .ok (.invokestatic 14, 3) := by decide +kernel
theorem dL_does_184 : decode cL_does 184 = .ok (.iadd, 1) := by decide +kernel
theorem dL_does_185 : decode cL_does 185 = .ok (.goto 48, 3) := by decide +kernel
theorem dL_does_188 : decode cL_does 188 = .ok (.iload_n 2, 1) := by decide +kernel
theorem dL_does_189 : decode cL_does 189 = .ok (.iconst 2, 1) := by decide +kernel
theorem dL_does_190 : decode cL_does 190 = .ok (.if_icmp .ne 17, 3) := by decide +kernel
theorem dL_does_193 : decode cL_does 193 = .ok (.iconst 1, 1) := by decide +kernel
theorem dL_does_194 : decode cL_does 194 = .ok (.iload_n 1, 1) := by decide +kernel
theorem dL_does_195 : decode cL_does 195 = .ok (.bipush 7, 2) := by decide +kernel
theorem dL_does_197 : decode cL_does 197 = .ok (.ishr, 1) := by decide +kernel
theorem dL_does_198 : decode cL_does 198 = .ok (.bipush 50, 2) := by decide +kernel
theorem dL_does_200 : decode cL_does 200 = .ok (.invokestatic 14, 3) := by decide +kernel
theorem dL_does_203 : decode cL_does 203 = .ok (.iadd, 1) := by decide +kernel
theorem dL_does_204 : decode cL_does 204 = .ok (.goto 29, 3) := by decide +kernel
theorem dL_does_207 : decode cL_does 207 = .ok (.iload_n 2, 1) := by decide +kernel
theorem dL_does_208 : decode cL_does 208 = .ok (.iconst 3, 1) := by decide +kernel
theorem dL_does_209 : decode cL_does 209 = .ok (.if_icmp .ne 12, 3) := by decide +kernel
theorem dL_does_212 : decode cL_does 212 = .ok (.iload_n 1, 1) := by decide +kernel
theorem dL_does_213 : decode cL_does 213 = .ok (.bipush 7, 2) := by decide +kernel
theorem dL_does_215 : decode cL_does 215 = .ok (.ishr, 1) := by decide +kernel
theorem dL_does_216 : decode cL_does 216 = .ok (.iconst 1, 1) := by decide +kernel
theorem dL_does_217 : decode cL_does 217 = .ok (.iand, 1) := by decide +kernel
theorem dL_does_218 : decode cL_does 218 = .ok (.goto 15, 3) := by decide +kernel
theorem dL_does_221 : decode cL_does 221 = .ok (.bipush 10, 2) := by decide +kernel
theorem dL_does_223 : decode cL_does 223 = .ok (.iload_n 1, 1) := by decide +kernel
theorem dL_does_224 : decode cL_does 224 = .ok (.bipush 7, 2) := by decide +kernel
theorem dL_does_226 : decode cL_does 226 = .ok (.ishr, 1) := by decide +kernel
theorem dL_does_227 : decode cL_does 227 = .ok (.bipush 90, 2) := by decide +kernel
theorem dL_does_229 : decode cL_does 229 = .ok (.invokestatic 14, 3) := by decide +kernel
theorem dL_does_232 : decode cL_does 232 = .ok (.iadd, 1) := by decide +kernel
theorem dL_does_233 : decode cL_does 233 = .ok (.invokevirtual 49, 3) := by decide +kernel
theorem dL_does_236 : decode cL_does 236 = .ok (.ireturn, 1) := by decide +kernel
theorem dL_does_237 : decode cL_does 237 = .ok (.aload_n 0, 1) := by decide +kernel
theorem dL_does_238 : decode cL_does 238 = .ok (.iconst 1, 1) := by decide +kernel
theorem dL_does_239 : decode cL_does 239 = .ok (.iload_n 1, 1) := by decide +kernel
theorem dL_does_240 : decode cL_does 240 = .ok (.iconst 4, 1) := by decide +kernel
theorem dL_does_241 : decode cL_does 241 = .ok (.ishr, 1) := by decide +kernel
theorem dL_does_242 : decode cL_does 242 = .ok (.bipush 6, 2) := by decide +kernel
theorem dL_does_244 : decode cL_does 244 = .ok (.invokestatic 14, 3) := by decide +kernel
theorem dL_does_247 : decode cL_does 247 = .ok (.iadd, 1) := by decide +kernel
theorem dL_does_248 : decode cL_does 248 = .ok (.invokevirtual 52, 3) := by decide +kernel
theorem dL_does_251 : decode cL_does 251 = .ok (.ireturn, 1) := by decide +kernel
set_option maxRecDepth 20000 in
theorem ggL_areCansSo_X5_can : GoodIn wsL_areCansSo wsX5_can := goodIn_ca (goodIn_ca (goodIn_r _ [5, 6, 7, 8, 9, 10, 11, 12, 13, 4, 14, 15, 16, 17, 18, 19, 20, 21, 22, 23, 24, 25, 26, 27, 28, 29, 30, 31, 32, 33, 34, 35, 36, 37, 38, 39, 40, 41, 42, 43, 44, 45, 46, 47, 48, 49, 50, 51, 52, 53, 54, 55, 56, 57, 58, 59, 60, 61, 62, 63, 64, 65, 99, 100, 101, 102, 103, 104, 105, 106, 107, 108, 109, 110, 111, 112, 113, 114, 115, 116, 117, 118] (by decide +kernel) (by decide +kernel)) (goodIn_sub (fun _ h => List.mem_cons_of_mem _ (List.mem_append_left _ (List.mem_append_right _ h))) (by decide +kernel))) (goodIn_sub (fun _ h => List.mem_cons_of_mem _ (List.mem_append_right _ h)) (by decide +kernel))
set_option maxRecDepth 20000 in
theorem gL_areCansSo_X5_can : GoodIn wsL_areCansSo (wsV RL 20 RX5 yX5_can wsX5_can) := goodIn_app (goodIn_of _ (by decide +kernel)) ggL_areCansSo_X5_can
set_option maxRecDepth 20000 in
theorem ggL_areCansSo_X5_metre : GoodIn wsL_areCansSo wsX5_metre := goodIn_ca (goodIn_ca (goodIn_r _ [69, 6, 7, 8, 9, 10, 11, 12, 13, 4, 14, 65, 27, 28, 18, 29, 30, 25, 16, 17, 19, 20, 99, 100, 101, 102, 103, 104, 105, 106, 107, 108, 109, 110, 111, 112, 113, 114, 115, 116, 117, 118] (by decide +kernel) (by decide +kernel)) (goodIn_sub (fun _ h => List.mem_cons_of_mem _ (List.mem_append_left _ (List.mem_append_right _ h))) (by decide +kernel))) (goodIn_sub (fun _ h => List.mem_cons_of_mem _ (List.mem_append_right _ h)) (by decide +kernel))
set_option maxRecDepth 20000 in
theorem gL_areCansSo_X5_metre : GoodIn wsL_areCansSo (wsV RL 55 RX5 yX5_metre wsX5_metre) := goodIn_app (goodIn_of _ (by decide +kernel)) ggL_areCansSo_X5_metre
set_option maxRecDepth 20000 in
theorem ggL_areCansSo_X5_count : GoodIn wsL_areCansSo wsX5_count := goodIn_ca (goodIn_r _ [73, 8, 9, 10, 74, 75, 76, 77, 78, 79, 80, 81, 11, 82, 83, 84, 85, 86, 18, 87, 88, 22, 23, 24, 25, 16, 17, 19, 20, 26, 27, 28, 29, 30, 89, 90, 91, 92, 93, 94, 99, 100, 101, 102, 103, 104, 105, 106, 107, 108, 109, 110, 111, 112, 113, 114, 115, 116, 117, 118, 119, 120, 121] (by decide +kernel) (by decide +kernel)) (goodIn_sub (fun _ h => List.mem_cons_of_mem _ (List.mem_append_right _ h)) (by decide +kernel))
set_option maxRecDepth 20000 in
theorem gL_areCansSo_X5_count : GoodIn wsL_areCansSo (wsV RL 58 RX5 yX5_count wsX5_count) := goodIn_app (goodIn_of _ (by decide +kernel)) ggL_areCansSo_X5_count
set_option maxRecDepth 20000 in
theorem ggL_areCansSo_X5_wasteShare : GoodIn wsL_areCansSo wsX5_wasteShare := goodIn_r _ [98, 10, 81, 80, 99, 100, 101, 102, 103, 104, 105, 106, 107, 108, 109, 110, 111, 112, 113, 114, 115, 116] (by decide +kernel) (by decide +kernel)
set_option maxRecDepth 20000 in
theorem gL_areCansSo_X5_wasteShare : GoodIn wsL_areCansSo (wsV RL 61 RX5 yX5_wasteShare wsX5_wasteShare) := goodIn_app (goodIn_of _ (by decide +kernel)) ggL_areCansSo_X5_wasteShare
theorem dL_areCansSo_0 : decode cL_areCansSo 0 = .ok (.iconst 0, 1) := by decide +kernel
theorem dL_areCansSo_1 : decode cL_areCansSo 1 = .ok (.istore_n 1, 1) := by decide +kernel
theorem dL_areCansSo_2 : decode cL_areCansSo 2 = .ok (.iconst 1, 1) := by decide +kernel
theorem dL_areCansSo_3 : decode cL_areCansSo 3 = .ok (.istore_n 2, 1) := by decide +kernel
theorem dL_areCansSo_4 : decode cL_areCansSo 4 = .ok (.iconst 0, 1) := by decide +kernel
theorem dL_areCansSo_5 : decode cL_areCansSo 5 = .ok (.istore_n 3, 1) := by decide +kernel
theorem dL_areCansSo_6 : decode cL_areCansSo 6 = .ok (.iload_n 3, 1) := by decide +kernel
theorem dL_areCansSo_7 : decode cL_areCansSo 7 = .ok (.bipush 8, 2) := by decide +kernel
theorem dL_areCansSo_9 : decode cL_areCansSo 9 = .ok (.if_icmp .ge 310, 3) := by decide +kernel
theorem dL_areCansSo_12 : decode cL_areCansSo 12 = .ok (.aload_n 0, 1) := by decide +kernel
theorem dL_areCansSo_13 : decode cL_areCansSo 13 = .ok (.iload_n 3, 1) := by decide +kernel
theorem dL_areCansSo_14 : decode cL_areCansSo 14 = .ok (.iconst 0, 1) := by decide +kernel
theorem dL_areCansSo_15 : decode cL_areCansSo 15 = .ok (.invokevirtual 20, 3) := by decide +kernel
theorem dL_areCansSo_18 : decode cL_areCansSo 18 = .ok (.istore 4, 2) := by decide +kernel
theorem dL_areCansSo_20 : decode cL_areCansSo 20 = .ok (.iconst 0, 1) := by decide +kernel
theorem dL_areCansSo_21 : decode cL_areCansSo 21 = .ok (.istore 5, 2) := by decide +kernel
theorem dL_areCansSo_23 : decode cL_areCansSo 23 = .ok (.sipush 1000, 3) := by decide +kernel
theorem dL_areCansSo_26 : decode cL_areCansSo 26 = .ok (.istore 6, 2) := by decide +kernel
theorem dL_areCansSo_28 : decode cL_areCansSo 28 = .ok (.iconst (-1), 1) := by decide +kernel
theorem dL_areCansSo_29 : decode cL_areCansSo 29 = .ok (.istore 7, 2) := by decide +kernel
theorem dL_areCansSo_31 : decode cL_areCansSo 31 = .ok (.iconst 0, 1) := by decide +kernel
theorem dL_areCansSo_32 : decode cL_areCansSo 32 = .ok (.istore 8, 2) := by decide +kernel
theorem dL_areCansSo_34 : decode cL_areCansSo 34 = .ok (.iconst 0, 1) := by decide +kernel
theorem dL_areCansSo_35 : decode cL_areCansSo 35 = .ok (.istore 9, 2) := by decide +kernel
theorem dL_areCansSo_37 : decode cL_areCansSo 37 = .ok (.iload 9, 2) := by decide +kernel
theorem dL_areCansSo_39 : decode cL_areCansSo 39 = .ok (.iload 4, 2) := by decide +kernel
theorem dL_areCansSo_41 : decode cL_areCansSo 41 = .ok (.if_icmp .ge 98, 3) := by decide +kernel
theorem dL_areCansSo_44 : decode cL_areCansSo 44 = .ok (.aload_n 0, 1) := by decide +kernel
theorem dL_areCansSo_45 : decode cL_areCansSo 45 = .ok (.iload_n 3, 1) := by decide +kernel
theorem dL_areCansSo_46 : decode cL_areCansSo 46 = .ok (.iload 9, 2) := by decide +kernel
theorem dL_areCansSo_48 : decode cL_areCansSo 48 = .ok (.invokevirtual 55, 3) := by decide +kernel
theorem dL_areCansSo_51 : decode cL_areCansSo 51 = .ok (.istore 10, 2) := by decide +kernel
theorem dL_areCansSo_53 : decode cL_areCansSo 53 = .ok (.iload 9, 2) := by decide +kernel
theorem dL_areCansSo_55 : decode cL_areCansSo 55 = .ok (.ifCond .ne 7, 3) := by decide +kernel
theorem dL_areCansSo_58 : decode cL_areCansSo 58 = .ok (.iconst 0, 1) := by decide +kernel
theorem dL_areCansSo_59 : decode cL_areCansSo 59 = .ok (.goto 15, 3) := by decide +kernel
theorem dL_areCansSo_62 : decode cL_areCansSo 62 = .ok (.iload 10, 2) := by decide +kernel
