set_option maxRecDepth 20000 in
theorem ggL_law_L_build_r9 : GoodIn wsL_law wsL_build_r9 := goodIn_r _ [206, 207, 208] (by decide +kernel) (by decide +kernel)
theorem ggL_law_L_build_x4 : GoodIn wsL_law wsX40 := goodIn_r _ [339, 340, 341, 342, 343] (by decide +kernel) (by decide +kernel)
theorem ggL_law_L_build_x3 : GoodIn wsL_law wsX30 := goodIn_r _ [344, 345, 346, 347, 348, 349, 350, 351] (by decide +kernel) (by decide +kernel)
theorem ggL_law_L_build_x2 : GoodIn wsL_law wsX20 := goodIn_r _ [320, 321, 322, 323, 324, 325, 326, 327, 328] (by decide +kernel) (by decide +kernel)
theorem ggL_law_L_build_x0 : GoodIn wsL_law wsX00 := goodIn_r _ [330, 331, 332, 333, 334, 335, 336, 337, 338] (by decide +kernel) (by decide +kernel)
theorem ggL_law_L_build_x1 : GoodIn wsL_law wsX10 := goodIn_r _ [329] (by decide +kernel) (by decide +kernel)
set_option maxRecDepth 20000 in
theorem ggL_law_L_build : GoodIn wsL_law wsL_build := goodIn_ca (goodIn_ca (goodIn_ca (goodIn_cons ggL_law_L_build_h (goodIn_app (goodIn_app (goodIn_app (goodIn_app (goodIn_app (goodIn_app ggL_law_L_build_r1 (goodIn_app ggL_law_L_build_r2 (goodIn_app ggL_law_L_build_r3 (goodIn_app ggL_law_L_build_r4 (goodIn_app ggL_law_L_build_r5 (goodIn_app ggL_law_L_build_r6 (goodIn_app ggL_law_L_build_r7 (goodIn_app ggL_law_L_build_r8 ggL_law_L_build_r9)))))))) ggL_law_L_build_x4) ggL_law_L_build_x3) ggL_law_L_build_x2) ggL_law_L_build_x0) ggL_law_L_build_x1)) (goodIn_sub (fun _ h => List.mem_append_left _ (List.mem_append_left _ (List.mem_append_right _ h))) (by decide +kernel))) (goodIn_sub (fun _ h => List.mem_append_left _ (List.mem_append_right _ h)) (by decide +kernel))) (goodIn_sub (fun _ h => List.mem_append_right _ h) (by decide +kernel))
set_option maxRecDepth 20000 in
theorem gL_law_L_build : GoodIn wsL_law (va_wsS RL 120 yL_build wsL_build) := goodIn_app (goodIn_of _ (by decide +kernel)) ggL_law_L_build
set_option maxRecDepth 20000 in
theorem ggL_law_L_cell : GoodIn wsL_law wsL_cell := goodIn_r _ [69, 70] (by decide +kernel) (by decide +kernel)
set_option maxRecDepth 20000 in
theorem gL_law_L_cell : GoodIn wsL_law (va_wsS RL 111 yL_cell wsL_cell) := goodIn_app (goodIn_of _ (by decide +kernel)) ggL_law_L_cell
set_option maxRecDepth 20000 in
set_option maxRecDepth 20000 in
theorem ggL_law_L_act_h : GoodIn wsL_law [.code yL_act cL_act 21 (some .boolean)] := goodIn_r _ [73] rfl (by decide +kernel)
set_option maxRecDepth 20000 in
theorem ggL_law_L_act_r1 : GoodIn wsL_law wsL_act_r1 := goodIn_r _ [74, 75, 76, 77, 78, 4, 79, 80, 81, 82, 83, 84, 9, 10, 7, 11, 85, 86, 87, 88, 89, 90, 91, 53] (by decide +kernel) (by decide +kernel)
set_option maxRecDepth 20000 in
theorem ggL_law_L_act_r2 : GoodIn wsL_law wsL_act_r2 := goodIn_r _ [92, 93, 94, 95, 96, 16, 17, 97, 98, 44, 99, 100, 101, 102, 103, 104, 2, 105, 106, 107, 29, 19, 18, 26] (by decide +kernel) (by decide +kernel)
