theorem dJ6_bitCount_0f7a4_0 : decode cJ6_bitCount_0f7a4 0 = .ok (.iload_n 0, 1) := by decide +kernel
theorem dJ6_bitCount_0f7a4_1 : decode cJ6_bitCount_0f7a4 1 = .ok (.iload_n 0, 1) := by decide +kernel
theorem dJ6_bitCount_0f7a4_2 : decode cJ6_bitCount_0f7a4 2 = .ok (.iconst 1, 1) := by decide +kernel
theorem dJ6_bitCount_0f7a4_3 : decode cJ6_bitCount_0f7a4 3 = .ok (.iushr, 1) := by decide +kernel
theorem dJ6_bitCount_0f7a4_4 : decode cJ6_bitCount_0f7a4 4 = .ok (.ldc_w 265, 3) := by decide +kernel
theorem dJ6_bitCount_0f7a4_7 : decode cJ6_bitCount_0f7a4 7 = .ok (.iand, 1) := by decide +kernel
theorem dJ6_bitCount_0f7a4_8 : decode cJ6_bitCount_0f7a4 8 = .ok (.isub, 1) := by decide +kernel
theorem dJ6_bitCount_0f7a4_9 : decode cJ6_bitCount_0f7a4 9 = .ok (.istore_n 0, 1) := by decide +kernel
theorem dJ6_bitCount_0f7a4_10 : decode cJ6_bitCount_0f7a4 10 = .ok (.iload_n 0, 1) := by decide +kernel
theorem dJ6_bitCount_0f7a4_11 : decode cJ6_bitCount_0f7a4 11 = .ok (.ldc_w 266, 3) := by decide +kernel
theorem dJ6_bitCount_0f7a4_14 : decode cJ6_bitCount_0f7a4 14 = .ok (.iand, 1) := by decide +kernel
theorem dJ6_bitCount_0f7a4_15 : decode cJ6_bitCount_0f7a4 15 = .ok (.iload_n 0, 1) := by decide +kernel
theorem dJ6_bitCount_0f7a4_16 : decode cJ6_bitCount_0f7a4 16 = .ok (.iconst 2, 1) := by decide +kernel
theorem dJ6_bitCount_0f7a4_17 : decode cJ6_bitCount_0f7a4 17 = .ok (.iushr, 1) := by decide +kernel
theorem dJ6_bitCount_0f7a4_18 : decode cJ6_bitCount_0f7a4 18 = .ok (.ldc_w 266, 3) := by decide +kernel
theorem dJ6_bitCount_0f7a4_21 : decode cJ6_bitCount_0f7a4 21 = .ok (.iand, 1) := by decide +kernel
theorem dJ6_bitCount_0f7a4_22 : decode cJ6_bitCount_0f7a4 22 = .ok (.iadd, 1) := by decide +kernel
theorem dJ6_bitCount_0f7a4_23 : decode cJ6_bitCount_0f7a4 23 = .ok (.istore_n 0, 1) := by decide +kernel
theorem dJ6_bitCount_0f7a4_24 : decode cJ6_bitCount_0f7a4 24 = .ok (.iload_n 0, 1) := by decide +kernel
theorem dJ6_bitCount_0f7a4_25 : decode cJ6_bitCount_0f7a4 25 = .ok (.iload_n 0, 1) := by decide +kernel
theorem dJ6_bitCount_0f7a4_26 : decode cJ6_bitCount_0f7a4 26 = .ok (.iconst 4, 1) := by decide +kernel
theorem dJ6_bitCount_0f7a4_27 : decode cJ6_bitCount_0f7a4 27 = .ok (.iushr, 1) := by decide +kernel
theorem dJ6_bitCount_0f7a4_28 : decode cJ6_bitCount_0f7a4 28 = .ok (.iadd, 1) := by decide +kernel
theorem dJ6_bitCount_0f7a4_29 : decode cJ6_bitCount_0f7a4 29 = .ok (.ldc_w 267, 3) := by decide +kernel
theorem dJ6_bitCount_0f7a4_32 : decode cJ6_bitCount_0f7a4 32 = .ok (.iand, 1) := by decide +kernel
theorem dJ6_bitCount_0f7a4_33 : decode cJ6_bitCount_0f7a4 33 = .ok (.istore_n 0, 1) := by decide +kernel
theorem dJ6_bitCount_0f7a4_34 : decode cJ6_bitCount_0f7a4 34 = .ok (.iload_n 0, 1) := by decide +kernel
theorem dJ6_bitCount_0f7a4_35 : decode cJ6_bitCount_0f7a4 35 = .ok (.iload_n 0, 1) := by decide +kernel
theorem dJ6_bitCount_0f7a4_36 : decode cJ6_bitCount_0f7a4 36 = .ok (.bipush 8, 2) := by decide +kernel
theorem dJ6_bitCount_0f7a4_38 : decode cJ6_bitCount_0f7a4 38 = .ok (.iushr, 1) := by decide +kernel
theorem dJ6_bitCount_0f7a4_39 : decode cJ6_bitCount_0f7a4 39 = .ok (.iadd, 1) := by decide +kernel
theorem dJ6_bitCount_0f7a4_40 : decode cJ6_bitCount_0f7a4 40 = .ok (.istore_n 0, 1) := by decide +kernel
theorem dJ6_bitCount_0f7a4_41 : decode cJ6_bitCount_0f7a4 41 = .ok (.iload_n 0, 1) := by decide +kernel
theorem dJ6_bitCount_0f7a4_42 : decode cJ6_bitCount_0f7a4 42 = .ok (.iload_n 0, 1) := by decide +kernel
theorem dJ6_bitCount_0f7a4_43 : decode cJ6_bitCount_0f7a4 43 = .ok (.bipush 16, 2) := by decide +kernel
theorem dJ6_bitCount_0f7a4_45 : decode cJ6_bitCount_0f7a4 45 = .ok (.iushr, 1) := by decide +kernel
theorem dJ6_bitCount_0f7a4_46 : decode cJ6_bitCount_0f7a4 46 = .ok (.iadd, 1) := by decide +kernel
theorem dJ6_bitCount_0f7a4_47 : decode cJ6_bitCount_0f7a4 47 = .ok (.istore_n 0, 1) := by decide +kernel
theorem dJ6_bitCount_0f7a4_48 : decode cJ6_bitCount_0f7a4 48 = .ok (.iload_n 0, 1) := by decide +kernel
theorem dJ6_bitCount_0f7a4_49 : decode cJ6_bitCount_0f7a4 49 = .ok (.bipush 63, 2) := by decide +kernel
theorem dJ6_bitCount_0f7a4_51 : decode cJ6_bitCount_0f7a4 51 = .ok (.iand, 1) := by decide +kernel
theorem dJ6_bitCount_0f7a4_52 : decode cJ6_bitCount_0f7a4 52 = .ok (.ireturn, 1) := by decide +kernel
theorem dJ9_abs_0f7a4_0 : decode cJ9_abs_0f7a4 0 = .ok (.iload_n 0, 1) := by decide +kernel
theorem dJ9_abs_0f7a4_1 : decode cJ9_abs_0f7a4 1 = .ok (.ifCond .ge 8, 3) := by decide +kernel
theorem dJ9_abs_0f7a4_4 : decode cJ9_abs_0f7a4 4 = .ok (.iload_n 0, 1) := by decide +kernel
theorem dJ9_abs_0f7a4_5 : decode cJ9_abs_0f7a4 5 = .ok (.ineg, 1) := by decide +kernel
theorem dJ9_abs_0f7a4_6 : decode cJ9_abs_0f7a4 6 = .ok (.goto 4, 3) := by decide +kernel
theorem dJ9_abs_0f7a4_9 : decode cJ9_abs_0f7a4 9 = .ok (.iload_n 0, 1) := by decide +kernel
theorem dJ9_abs_0f7a4_10 : decode cJ9_abs_0f7a4 10 = .ok (.ireturn, 1) := by decide +kernel
theorem dJ9_max_7cf53_0 : decode cJ9_max_7cf53 0 = .ok (.iload_n 0, 1) := by decide +kernel
theorem dJ9_max_7cf53_1 : decode cJ9_max_7cf53 1 = .ok (.iload_n 1, 1) := by decide +kernel
theorem dJ9_max_7cf53_2 : decode cJ9_max_7cf53 2 = .ok (.if_icmp .lt 7, 3) := by decide +kernel
theorem dJ9_max_7cf53_5 : decode cJ9_max_7cf53 5 = .ok (.iload_n 0, 1) := by decide +kernel
theorem dJ9_max_7cf53_6 : decode cJ9_max_7cf53 6 = .ok (.goto 4, 3) := by decide +kernel
theorem dJ9_max_7cf53_9 : decode cJ9_max_7cf53 9 = .ok (.iload_n 1, 1) := by decide +kernel
theorem dJ9_max_7cf53_10 : decode cJ9_max_7cf53 10 = .ok (.ireturn, 1) := by decide +kernel
theorem dJ9_min_7cf53_0 : decode cJ9_min_7cf53 0 = .ok (.iload_n 0, 1) := by decide +kernel
theorem dJ9_min_7cf53_1 : decode cJ9_min_7cf53 1 = .ok (.iload_n 1, 1) := by decide +kernel
theorem dJ9_min_7cf53_2 : decode cJ9_min_7cf53 2 = .ok (.if_icmp .gt 7, 3) := by decide +kernel
theorem dJ9_min_7cf53_5 : decode cJ9_min_7cf53 5 = .ok (.iload_n 0, 1) := by decide +kernel
theorem dJ9_min_7cf53_6 : decode cJ9_min_7cf53 6 = .ok (.goto 4, 3) := by decide +kernel
theorem dJ9_min_7cf53_9 : decode cJ9_min_7cf53 9 = .ok (.iload_n 1, 1) := by decide +kernel
theorem dJ9_min_7cf53_10 : decode cJ9_min_7cf53 10 = .ok (.ireturn, 1) := by decide +kernel
theorem dL_cell_0 : decode cL_cell 0 = .ok (.iload_n 1, 1) := by decide +kernel
theorem dL_cell_1 : decode cL_cell 1 = .ok (.aload_n 0, 1) := by decide +kernel
theorem dL_cell_2 : decode cL_cell 2 = .ok (.arraylength, 1) := by decide +kernel
theorem dL_cell_3 : decode cL_cell 3 = .ok (.if_icmp .ge 9, 3) := by decide +kernel
theorem dL_cell_6 : decode cL_cell 6 = .ok (.aload_n 0, 1) := by decide +kernel
theorem dL_cell_7 : decode cL_cell 7 = .ok (.iload_n 1, 1) := by decide +kernel
theorem dL_cell_8 : decode cL_cell 8 = .ok (.iaload, 1) := by decide +kernel
theorem dL_cell_9 : decode cL_cell 9 = .ok (.goto 15, 3) := by decide +kernel
theorem dL_cell_12 : decode cL_cell 12 = .ok (.sipush 7919, 3) := by decide +kernel
theorem dL_cell_15 : decode cL_cell 15 = .ok (.iload_n 1, 1) := by decide +kernel
theorem dL_cell_16 : decode cL_cell 16 = .ok (.iconst 3, 1) := by decide +kernel
theorem dL_cell_17 : decode cL_cell 17 = .ok (.iadd, 1) := by decide +kernel
theorem dL_cell_18 : decode cL_cell 18 = .ok (.imul, 1) := by decide +kernel
theorem dL_cell_19 : decode cL_cell 19 = .ok (.iload_n 1, 1) := by decide +kernel
theorem dL_cell_20 : decode cL_cell 20 = .ok (.bipush 11, 2) := by decide +kernel
theorem dL_cell_22 : decode cL_cell 22 = .ok (.iadd, 1) := by decide +kernel
theorem dL_cell_23 : decode cL_cell 23 = .ok (.imul, 1) := by decide +kernel
theorem dL_cell_24 : decode cL_cell 24 = .ok (.ireturn, 1) := by decide +kernel
theorem dL_low_0 : decode cL_low 0 = .ok (.iload_n 0, 1) := by decide +kernel
theorem dL_low_1 : decode cL_low 1 = .ok (.ldc 7, 2) := by decide +kernel
theorem dL_low_3 : decode cL_low 3 = .ok (.iand, 1) := by decide +kernel
theorem dL_low_4 : decode cL_low 4 = .ok (.iload_n 1, 1) := by decide +kernel
theorem dL_low_5 : decode cL_low 5 = .ok (.irem, 1) := by decide +kernel
theorem dL_low_6 : decode cL_low 6 = .ok (.ireturn, 1) := by decide +kernel
set_option maxRecDepth 20000 in
theorem ggL_number_X5_append : GoodIn wsL_number wsX5_append := goodIn_ca (goodIn_ca (goodIn_r _ [5, 6, 7, 8, 9, 10, 11, 12, 13, 14, 15, 16, 17, 18, 19, 20, 21, 22, 23, 24, 25, 26, 27, 28, 29, 30, 31, 32, 33, 34, 35, 36, 37, 38, 39, 40] (by decide +kernel) (by decide +kernel)) (goodIn_sub (fun _ h => List.mem_cons_of_mem _ (List.mem_append_left _ (List.mem_append_right _ h))) (by decide +kernel))) (goodIn_sub (fun _ h => List.mem_cons_of_mem _ (List.mem_append_right _ h)) (by decide +kernel))
set_option maxRecDepth 20000 in
theorem gL_number_X5_append : GoodIn wsL_number (wsV RL 8 RX5 yX5_append wsX5_append) := goodIn_app (goodIn_of _ (by decide +kernel)) ggL_number_X5_append
theorem dL_number_0 : decode cL_number 0 = .ok (.iload_n 1, 1) := by decide +kernel
theorem dL_number_1 : decode cL_number 1 = .ok (.bipush 99, 2) := by decide +kernel
theorem dL_number_3 : decode cL_number 3 = .ok (.if_icmp .le 15, 3) := by decide +kernel
theorem dL_number_6 : decode cL_number 6 = .ok (.aload_n 0, 1) := by decide +kernel
theorem dL_number_7 : decode cL_number 7 = .ok (.bipush 48, 2) := by decide +kernel
theorem dL_number_9 : decode cL_number 9 = .ok (.iload_n 1, 1) := by decide +kernel
theorem dL_number_10 : decode cL_number 10 = .ok (.bipush 100, 2) := by decide +kernel
theorem dL_number_12 : decode cL_number 12 = .ok (.idiv, 1) := by decide +kernel
theorem dL_number_13 : decode cL_number 13 = .ok (.iadd, 1) := by decide +kernel
theorem dL_number_14 : decode cL_number 14 = .ok (.invokevirtual 8, 3) := by decide +kernel
theorem dL_number_17 : decode cL_number 17 = .ok (.istore_n 2, 1) := by decide +kernel
theorem dL_number_18 : decode cL_number 18 = .ok (.iload_n 1, 1) := by decide +kernel
theorem dL_number_19 : decode cL_number 19 = .ok (.bipush 9, 2) := by decide +kernel
theorem dL_number_21 : decode cL_number 21 = .ok (.if_icmp .le 18, 3) := by decide +kernel
theorem dL_number_24 : decode cL_number 24 = .ok (.aload_n 0, 1) := by decide +kernel
theorem dL_number_25 : decode cL_number 25 = .ok (.bipush 48, 2) := by decide +kernel
theorem dL_number_27 : decode cL_number 27 = .ok (.iload_n 1, 1) := by decide +kernel
theorem dL_number_28 : decode cL_number 28 = .ok (.bipush 10, 2) := by decide +kernel
theorem dL_number_30 : decode cL_number 30 = .ok (.idiv, 1) := by decide +kernel
theorem dL_number_31 : decode cL_number 31 = .ok (.bipush 10, 2) := by decide +kernel
theorem dL_number_33 : decode cL_number 33 = .ok (.irem, 1) := by decide +kernel
theorem dL_number_34 : decode cL_number 34 = .ok (.iadd, 1) := by decide +kernel
theorem dL_number_35 : decode cL_number 35 = .ok (.invokevirtual 8, 3) := by decide +kernel
theorem dL_number_38 : decode cL_number 38 = .ok (.istore_n 2, 1) := by decide +kernel
theorem dL_number_39 : decode cL_number 39 = .ok (.aload_n 0, 1) := by decide +kernel
theorem dL_number_40 : decode cL_number 40 = .ok (.bipush 48, 2) := by decide +kernel
theorem dL_number_42 : decode cL_number 42 = .ok (.iload_n 1, 1) := by decide +kernel
theorem dL_number_43 : decode cL_number 43 = .ok (.bipush 10, 2) := by decide +kernel
theorem dL_number_45 : decode cL_number 45 = .ok (.irem, 1) := by decide +kernel
theorem dL_number_46 : decode cL_number 46 = .ok (.iadd, 1) := by decide +kernel
theorem dL_number_47 : decode cL_number 47 = .ok (.invokevirtual 8, 3) := by decide +kernel
theorem dL_number_50 : decode cL_number 50 = .ok (.istore_n 2, 1) := by decide +kernel
theorem dL_number_51 : decode cL_number 51 = .ok (.return_, 1) := by decide +kernel
set_option maxRecDepth 20000 in
theorem ggL_fill_L_low : GoodIn wsL_fill wsL_low := goodIn_r _ [4, 5] (by decide +kernel) (by decide +kernel)
set_option maxRecDepth 20000 in
theorem gL_fill_L_low : GoodIn wsL_fill (va_wsS RL 14 yL_low wsL_low) := goodIn_app (goodIn_of _ (by decide +kernel)) ggL_fill_L_low
set_option maxRecDepth 20000 in
theorem ggL_fill_X5_can : GoodIn wsL_fill wsX5_can := goodIn_ca (goodIn_ca (goodIn_r _ [10, 11, 12, 13, 14, 15, 16, 17, 18, 9, 19, 20, 21, 22, 23, 24, 25, 26, 27, 28, 29, 30, 31, 32, 33, 34, 35, 36, 37, 38, 39, 40, 41, 42, 43, 44, 45, 46, 47, 48, 49, 50, 51, 52, 53, 54, 55, 56, 57, 58, 59, 60, 61, 62, 63, 64, 65, 66, 67, 68, 69, 70, 227, 228, 229, 230, 231, 232, 233, 234, 235, 236, 237, 238, 239, 240, 241, 242, 243, 244, 245, 246] (by decide +kernel) (by decide +kernel)) (goodIn_sub (fun _ h => List.mem_cons_of_mem _ (List.mem_append_left _ (List.mem_append_left _ (List.mem_append_right _ h)))) (by decide +kernel))) (goodIn_sub (fun _ h => List.mem_cons_of_mem _ (List.mem_append_left _ (List.mem_append_right _ h))) (by decide +kernel))
set_option maxRecDepth 20000 in
theorem gL_fill_X5_can : GoodIn wsL_fill (wsV RL 20 RX5 yX5_can wsX5_can) := goodIn_app (goodIn_of _ (by decide +kernel)) ggL_fill_X5_can
set_option maxRecDepth 20000 in
theorem ggL_fill_X5_clearBuffer : GoodIn wsL_fill wsX5_clearBuffer := goodIn_r _ [74, 75, 76, 77, 78, 79, 80, 81, 82, 83, 84, 85, 227, 228, 229, 230, 231, 232, 247, 248, 249, 250, 251, 252, 253, 254, 255] (by decide +kernel) (by decide +kernel)
set_option maxRecDepth 20000 in
theorem gL_fill_X5_clearBuffer : GoodIn wsL_fill (wsV RL 23 RX5 yX5_clearBuffer wsX5_clearBuffer) := goodIn_app (goodIn_of _ (by decide +kernel)) ggL_fill_X5_clearBuffer
set_option maxRecDepth 20000 in
theorem ggL_fill_L_number : GoodIn wsL_fill wsL_number := goodIn_ca (goodIn_ca (goodIn_r _ [88, 89, 90, 91, 9, 92, 13, 14, 93, 94, 75, 95, 96, 97, 79, 98, 81, 99, 100, 101, 102, 103, 76, 77, 78, 80, 227, 228, 229, 230, 231, 232, 247, 248, 249, 250, 251, 252, 253, 254, 255] (by decide +kernel) (by decide +kernel)) (goodIn_sub (fun _ h => List.mem_cons_of_mem _ (List.mem_append_left _ (List.mem_append_right _ h))) (by decide +kernel))) (goodIn_sub (fun _ h => List.mem_cons_of_mem _ (List.mem_append_right _ h)) (by decide +kernel))
set_option maxRecDepth 20000 in
theorem gL_fill_L_number : GoodIn wsL_fill (va_wsS RL 27 yL_number wsL_number) := goodIn_app (goodIn_of _ (by decide +kernel)) ggL_fill_L_number
set_option maxRecDepth 20000 in
theorem ggL_fill_X5_append : GoodIn wsL_fill wsX5_append := goodIn_ca (goodIn_ca (goodIn_r _ [92, 13, 14, 93, 94, 75, 95, 96, 97, 79, 98, 81, 99, 100, 101, 102, 103, 76, 77, 78, 80, 227, 228, 229, 230, 231, 232, 247, 248, 249, 250, 251, 252, 253, 254, 255] (by decide +kernel) (by decide +kernel)) (goodIn_sub (fun _ h => List.mem_cons_of_mem _ (List.mem_append_left _ (List.mem_append_right _ h))) (by decide +kernel))) (goodIn_sub (fun _ h => List.mem_cons_of_mem _ (List.mem_append_right _ h)) (by decide +kernel))
set_option maxRecDepth 20000 in
theorem gL_fill_X5_append : GoodIn wsL_fill (wsV RL 8 RX5 yX5_append wsX5_append) := goodIn_app (goodIn_of _ (by decide +kernel)) ggL_fill_X5_append
set_option maxRecDepth 20000 in
theorem ggL_fill_X5_fill : GoodIn wsL_fill wsX5_fill := goodIn_ca (goodIn_ca (goodIn_ca (goodIn_r _ [107, 11, 12, 13, 14, 93, 94, 75, 15, 16, 108, 17, 18, 9, 19, 109, 110, 111, 79, 112, 81, 113, 114, 115, 116, 117, 118, 119, 120, 121, 122, 123, 124, 125, 126, 127, 128, 103, 129, 130, 131, 132, 133, 134, 135, 136, 137, 138, 139, 140, 141, 142, 143, 144, 145, 146, 147, 148, 149, 150, 151, 152, 153, 154, 155, 20, 21, 22, 23, 24, 25, 156, 157, 158, 159, 160, 161, 162, 163, 164, 165, 166, 167, 168, 169, 170, 171, 172, 173, 174, 175, 176, 177, 178, 67, 179, 180, 181, 182, 183, 41, 42, 43, 184, 185, 186, 187, 69, 188, 189, 190, 191, 192, 193, 194, 195, 196, 197, 198, 199, 35, 40, 200, 201, 202, 203, 204, 205, 206, 207, 208, 209, 210, 211, 212, 213, 214, 215, 216, 217, 218, 219, 220, 221, 222, 223, 224, 225, 226, 30, 82, 83, 84, 85, 227, 228, 229, 230, 231, 232, 233, 234, 235, 236, 237, 238, 239, 240, 241, 242, 243, 244, 247, 248, 249, 250, 251, 252, 253, 254, 255, 245, 246, 256, 257, 258, 259, 260] (by decide +kernel) (by decide +kernel)) (goodIn_sub (fun _ h => List.mem_cons_of_mem _ (List.mem_append_left _ (List.mem_append_left _ (List.mem_append_right _ h)))) (by decide +kernel))) (goodIn_sub (fun _ h => List.mem_cons_of_mem _ (List.mem_append_left _ (List.mem_append_right _ h))) (by decide +kernel))) (goodIn_sub (fun _ h => List.mem_cons_of_mem _ (List.mem_append_right _ h)) (by decide +kernel))
set_option maxRecDepth 20000 in
theorem gL_fill_X5_fill : GoodIn wsL_fill (wsV RL 31 RX5 yX5_fill wsX5_fill) := goodIn_app (goodIn_of _ (by decide +kernel)) ggL_fill_X5_fill
theorem dL_fill_0 : decode cL_fill 0 = .ok (.iconst 2, 1) := by decide +kernel
theorem dL_fill_1 : decode cL_fill 1 = .ok (.iload_n 2, 1) := by decide +kernel
theorem dL_fill_2 : decode cL_fill 2 = .ok (.iconst 5, 1) := by decide +kernel
theorem dL_fill_3 : decode cL_fill 3 = .ok (.ishr, 1) := by decide +kernel
theorem dL_fill_4 : decode cL_fill 4 = .ok (.bipush 9, 2) := by decide +kernel
theorem dL_fill_6 : decode cL_fill 6 = .ok (.invokestatic 14, 3) := by decide +kernel
theorem dL_fill_9 : decode cL_fill 9 = .ok (.iadd, 1) := by decide +kernel
theorem dL_fill_10 : decode cL_fill 10 = .ok (.istore_n 3, 1) := by decide +kernel
theorem dL_fill_11 : decode cL_fill 11 = .ok (.iconst 2, 1) := by decide +kernel
theorem dL_fill_12 : decode cL_fill 12 = .ok (.iload_n 2, 1) := by decide +kernel
theorem dL_fill_13 : decode cL_fill 13 = .ok (.bipush 8, 2) := by decide +kernel
theorem dL_fill_15 : decode cL_fill 15 = .ok (.ishr, 1) := by decide +kernel
theorem dL_fill_16 : decode cL_fill 16 = .ok (.bipush 9, 2) := by decide +kernel
theorem dL_fill_18 : decode cL_fill 18 = .ok (.invokestatic 14, 3) := by decide +kernel
theorem dL_fill_21 : decode cL_fill 21 = .ok (.iadd, 1) := by decide +kernel
theorem dL_fill_22 : decode cL_fill 22 = .ok (.istore 4, 2) := by decide +kernel
theorem dL_fill_24 : decode cL_fill 24 = .ok (.aload_n 0, 1) := by decide +kernel
theorem dL_fill_25 : decode cL_fill 25 = .ok (.iload_n 1, 1) := by decide +kernel
theorem dL_fill_26 : decode cL_fill 26 = .ok (.iconst 0, 1) := by decide +kernel
theorem dL_fill_27 : decode cL_fill 27 = .ok (.invokevirtual 20, 3) := by decide +kernel
theorem dL_fill_30 : decode cL_fill 30 = .ok (.iload_n 3, 1) := by decide +kernel
theorem dL_fill_31 : decode cL_fill 31 = .ok (.iadd, 1) := by decide +kernel
theorem dL_fill_32 : decode cL_fill 32 = .ok (.iload 4, 2) := by decide +kernel
theorem dL_fill_34 : decode cL_fill 34 = .ok (.iadd, 1) := by decide +kernel
theorem dL_fill_35 : decode cL_fill 35 = .ok (.iconst 1, 1) := by decide +kernel
theorem dL_fill_36 : decode cL_fill 36 = .ok (.iadd, 1) := by decide +kernel
theorem dL_fill_37 : decode cL_fill 37 = .ok (.bipush 40, 2) := by decide +kernel
theorem dL_fill_39 : decode cL_fill 39 = .ok (.if_icmp .le 4, 3) := by decide +kernel
theorem dL_fill_42 : decode cL_fill 42 = .ok (.return_, 1) := by decide +kernel
theorem dL_fill_43 : decode cL_fill 43 = .ok (.iconst 4, 1) := by decide +kernel
theorem dL_fill_44 : decode cL_fill 44 = .ok (.iload_n 2, 1) := by decide +kernel
theorem dL_fill_45 : decode cL_fill 45 = .ok (.iconst 3, 1) := by decide +kernel
theorem dL_fill_46 : decode cL_fill 46 = .ok (.ishr, 1) := by decide +kernel
theorem dL_fill_47 : decode cL_fill 47 = .ok (.bipush 30, 2) := by decide +kernel
theorem dL_fill_49 : decode cL_fill 49 = .ok (.invokestatic 14, 3) := by decide +kernel
theorem dL_fill_52 : decode cL_fill 52 = .ok (.iadd, 1) := by decide +kernel
theorem dL_fill_53 : decode cL_fill 53 = .ok (.istore 5, 2) := by decide +kernel
theorem dL_fill_55 : decode cL_fill 55 = .ok (.aload_n 0, 1) := by decide +kernel
theorem dL_fill_56 : decode cL_fill 56 = .ok (.invokevirtual 23, 3) := by decide +kernel
theorem dL_fill_59 : decode cL_fill 59 = .ok (.istore 6, 2) := by decide +kernel
theorem dL_fill_61 : decode cL_fill 61 = .ok (.aload_n 0, 1) := by decide +kernel
theorem dL_fill_62 : decode cL_fill 62 = .ok (.iload 5, 2) := by decide +kernel
theorem dL_fill_64 : decode cL_fill 64 = .ok (.invokestatic 27, 3) := by decide +kernel
theorem dL_fill_67 : decode cL_fill 67 = .ok (.aload_n 0, 1) := by decide +kernel
theorem dL_fill_68 : decode cL_fill 68 = .ok (.bipush 42, 2) := by decide +kernel
theorem dL_fill_70 : decode cL_fill 70 = .ok (.invokevirtual 8, 3) := by decide +kernel
theorem dL_fill_73 : decode cL_fill 73 = .ok (.istore 6, 2) := by decide +kernel
theorem dL_fill_75 : decode cL_fill 75 = .ok (.aload_n 0, 1) := by decide +kernel
theorem dL_fill_76 : decode cL_fill 76 = .ok (.iload_n 3, 1) := by decide +kernel
theorem dL_fill_77 : decode cL_fill 77 = .ok (.invokestatic 27, 3) := by decide +kernel
theorem dL_fill_80 : decode cL_fill 80 = .ok (.aload_n 0, 1) := by decide +kernel
theorem dL_fill_81 : decode cL_fill 81 = .ok (.bipush 44, 2) := by decide +kernel
theorem dL_fill_83 : decode cL_fill 83 = .ok (.invokevirtual 8, 3) := by decide +kernel
theorem dL_fill_86 : decode cL_fill 86 = .ok (.istore 6, 2) := by decide +kernel
theorem dL_fill_88 : decode cL_fill 88 = .ok (.aload_n 0, 1) := by decide +kernel
theorem dL_fill_89 : decode cL_fill 89 = .ok (.iload 5, 2) := by decide +kernel
theorem dL_fill_91 : decode cL_fill 91 = .ok (.iload_n 2, 1) := by decide +kernel
theorem dL_fill_92 : decode cL_fill 92 = .ok (.bipush 6, 2) := by decide +kernel
theorem dL_fill_94 : decode cL_fill 94 = .ok (.ishr, 1) := by decide +kernel
theorem dL_fill_95 : decode cL_fill 95 = .ok (.bipush 9, 2) := by decide +kernel
theorem dL_fill_97 : decode cL_fill 97 = .ok (.invokestatic 14, 3) := by decide +kernel
theorem dL_fill_100 : decode cL_fill 100 = .ok (.iadd, 1) := by decide +kernel
theorem dL_fill_101 : decode cL_fill 101 = .ok (.invokestatic 27, 3) := by decide +kernel
theorem dL_fill_104 : decode cL_fill 104 = .ok (.aload_n 0, 1) := by decide +kernel
theorem dL_fill_105 : decode cL_fill 105 = .ok (.bipush 44, 2) := by decide +kernel
theorem dL_fill_107 : decode cL_fill 107 = .ok (.invokevirtual 8, 3) := by decide +kernel
theorem dL_fill_110 : decode cL_fill 110 = .ok (.istore 6, 2) := by decide +kernel
theorem dL_fill_112 : decode cL_fill 112 = .ok (.aload_n 0, 1) := by decide +kernel
theorem dL_fill_113 : decode cL_fill 113 = .ok (.iload_n 2, 1) := by decide +kernel
theorem dL_fill_114 : decode cL_fill 114 = .ok (.iconst 4, 1) := by decide +kernel
theorem dL_fill_115 : decode cL_fill 115 = .ok (.ishr, 1) := by decide +kernel
theorem dL_fill_116 : decode cL_fill 116 = .ok (.bipush 50, 2) := by decide +kernel
