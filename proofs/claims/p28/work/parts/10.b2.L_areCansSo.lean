set_option maxRecDepth 100000 in
theorem qk_wsL_areCansSo : GoodIn wsL_law [.code yL_areCansSo cL_areCansSo 12 (some .boolean)] := fun w h => by
  rw [List.mem_singleton.mp h]
  exact ⟨List.mem_of_getElem? (i := 380) rfl, Or.inl rfl⟩
set_option maxRecDepth 20000 in
theorem qg_wsL_areCansSo_wsL_areCansSo_r1 : GoodIn wsL_law wsL_areCansSo_r1 := goodIn_r _ [87, 88, 89, 2, 90, 91, 92, 93, 94, 12, 95, 96, 97, 98, 99, 100, 101, 29, 102, 50, 103, 104, 105, 106] (by decide +kernel) (by decide +kernel)
set_option maxRecDepth 20000 in
theorem qg_wsL_areCansSo_wsL_areCansSo_r2 : GoodIn wsL_law wsL_areCansSo_r2 := goodIn_r _ [107, 108, 109, 110, 111, 49, 112, 113, 114, 115, 116, 117, 118, 119, 120, 121, 122, 123, 124, 125, 126, 127, 128, 129] (by decide +kernel) (by decide +kernel)
set_option maxRecDepth 20000 in
theorem qg_wsL_areCansSo_wsL_areCansSo_r3 : GoodIn wsL_law wsL_areCansSo_r3 := goodIn_r _ [130, 131, 132, 133, 134, 135, 136, 137, 138, 139, 140, 141, 142, 11, 143, 37, 144, 381, 382, 383, 384, 385, 386, 387] (by decide +kernel) (by decide +kernel)
set_option maxRecDepth 20000 in
theorem qg_wsL_areCansSo_wsL_areCansSo_r4 : GoodIn wsL_law wsL_areCansSo_r4 := goodIn_r _ [388, 389, 275, 288, 293, 390, 391, 298, 392, 393, 18, 394, 395, 396, 397, 398, 399, 400, 401, 17, 402, 63, 403, 404] (by decide +kernel) (by decide +kernel)
set_option maxRecDepth 20000 in
theorem qg_wsL_areCansSo_wsL_areCansSo_r5 : GoodIn wsL_law wsL_areCansSo_r5 := goodIn_r _ [405, 406] (by decide +kernel) (by decide +kernel)
set_option maxRecDepth 20000 in
theorem qg_wsL_areCansSo_wsX50 : GoodIn wsL_law wsX50 := goodIn_r _ [461, 462, 463, 464, 465, 466] (by decide +kernel) (by decide +kernel)
set_option maxRecDepth 20000 in
theorem qg_wsL_areCansSo_wsX20 : GoodIn wsL_law wsX20 := goodIn_r _ [467, 468, 469, 470, 471, 472, 473, 474, 475, 476, 477, 478] (by decide +kernel) (by decide +kernel)
set_option maxRecDepth 20000 in
theorem qg_wsL_areCansSo_wsX00 : GoodIn wsL_law wsX00 := goodIn_r _ [491, 492] (by decide +kernel) (by decide +kernel)
set_option maxRecDepth 20000 in
theorem qg_wsL_areCansSo_wsX30 : GoodIn wsL_law wsX30 := goodIn_r _ [479, 480, 481] (by decide +kernel) (by decide +kernel)
set_option maxRecDepth 20000 in
theorem qf0_wsL_areCansSo : GoodIn wsL_law ((vx_atS RX5 48 "java/lang/IndexOutOfBoundsException" ["java/lang/RuntimeException", "java/lang/Exception"]).filter goodWord) := goodIn_sub (fun _ h => List.mem_append_left _ (List.mem_append_left _ (List.mem_append_right _ h))) (by decide +kernel)
set_option maxRecDepth 20000 in
theorem qf1_wsL_areCansSo : GoodIn wsL_law ((vx_atS RX5 59 "java/lang/IllegalArgumentException" ["java/lang/RuntimeException", "java/lang/Exception"]).filter goodWord) := goodIn_sub (fun _ h => List.mem_append_left _ (List.mem_append_right _ h)) (by decide +kernel)
set_option maxRecDepth 20000 in
theorem ggL_law_L_areCansSo : GoodIn wsL_law wsL_areCansSo := goodIn_app (a := [.code yL_areCansSo cL_areCansSo 12 (some .boolean)]) qk_wsL_areCansSo (goodIn_app (goodIn_app (goodIn_app (goodIn_app (goodIn_app (goodIn_app (goodIn_app qg_wsL_areCansSo_wsL_areCansSo_r1 (goodIn_app qg_wsL_areCansSo_wsL_areCansSo_r2 (goodIn_app qg_wsL_areCansSo_wsL_areCansSo_r3 (goodIn_app qg_wsL_areCansSo_wsL_areCansSo_r4 qg_wsL_areCansSo_wsL_areCansSo_r5)))) qg_wsL_areCansSo_wsX50) qg_wsL_areCansSo_wsX20) qg_wsL_areCansSo_wsX00) qg_wsL_areCansSo_wsX30) qf0_wsL_areCansSo) qf1_wsL_areCansSo)
