set_option maxRecDepth 20000 in
theorem ggL_law_L_act : GoodIn wsL_law wsL_act := goodIn_ca (goodIn_ca (goodIn_ca (goodIn_cons ggL_law_L_act_h (goodIn_app (goodIn_app (goodIn_app (goodIn_app (goodIn_app (goodIn_app ggL_law_L_act_r1 (goodIn_app ggL_law_L_act_r2 (goodIn_app ggL_law_L_act_r3 (goodIn_app ggL_law_L_act_r4 (goodIn_app ggL_law_L_act_r5 (goodIn_app ggL_law_L_act_r6 (goodIn_app ggL_law_L_act_r7 ggL_law_L_act_r8))))))) ggL_law_L_act_x4) ggL_law_L_act_x3) ggL_law_L_act_x2) ggL_law_L_act_x0) ggL_law_L_act_x1)) (goodIn_sub (fun _ h => List.mem_append_left _ (List.mem_append_left _ (List.mem_append_right _ h))) (by decide +kernel))) (goodIn_sub (fun _ h => List.mem_append_left _ (List.mem_append_right _ h)) (by decide +kernel))) (goodIn_sub (fun _ h => List.mem_append_right _ h) (by decide +kernel))
set_option maxRecDepth 20000 in
theorem gL_law_L_act : GoodIn wsL_law (va_wsS RL 115 yL_act wsL_act) := goodIn_app (goodIn_of _ (by decide +kernel)) ggL_law_L_act
set_option maxRecDepth 20000 in
theorem ggL_law_X2_count : GoodIn wsL_law wsX2_count := goodIn_ca (goodIn_r _ [212, 126, 127, 22, 31, 29, 30, 32, 213, 214, 215, 2, 216, 19, 217, 218, 219, 27, 220, 47, 48, 221, 190, 191, 192, 193, 194, 195, 196, 42, 222, 223, 224, 225, 46, 320, 321, 322, 323, 324, 325, 326, 327, 328, 330, 331, 332, 333, 334, 335, 336, 337, 338] (by decide +kernel) (by decide +kernel)) (goodIn_sub (fun _ h => List.mem_append_right _ h) (by decide +kernel))
set_option maxRecDepth 20000 in
theorem gL_law_X2_count : GoodIn wsL_law (wsV RL 124 RX2 yX2_count wsX2_count) := goodIn_app (goodIn_of _ (by decide +kernel)) ggL_law_X2_count
set_option maxRecDepth 20000 in
theorem ggL_law_X2_doll : GoodIn wsL_law wsX2_doll := goodIn_ca (goodIn_r _ [229, 126, 127, 129, 128, 151, 139, 138, 179, 130, 131, 132, 2, 133, 19, 330, 331, 332, 333, 334, 335, 336, 337, 338, 320, 321, 322, 323, 324, 325, 326, 327, 328] (by decide +kernel) (by decide +kernel)) (goodIn_sub (fun _ h => List.mem_append_right _ h) (by decide +kernel))
set_option maxRecDepth 20000 in
theorem gL_law_X2_doll : GoodIn wsL_law (wsV RL 130 RX2 yX2_doll wsX2_doll) := goodIn_app (goodIn_of _ (by decide +kernel)) ggL_law_X2_doll
set_option maxRecDepth 20000 in
theorem ggL_law_X2_joint : GoodIn wsL_law wsX2_joint := goodIn_ca (goodIn_r _ [233, 126, 127, 234, 149, 150, 130, 131, 132, 2, 133, 19, 330, 331, 332, 333, 334, 335, 336, 337, 338, 320, 321, 322, 323, 324, 325, 326, 327, 328] (by decide +kernel) (by decide +kernel)) (goodIn_sub (fun _ h => List.mem_append_right _ h) (by decide +kernel))
set_option maxRecDepth 20000 in
theorem gL_law_X2_joint : GoodIn wsL_law (wsV RL 133 RX2 yX2_joint wsX2_joint) := goodIn_app (goodIn_of _ (by decide +kernel)) ggL_law_X2_joint
