set_option maxRecDepth 20000 in
theorem ggL_law_L_act_r3 : GoodIn wsL_law wsL_act_r3 := goodIn_r _ [27, 37, 38, 39, 40, 41, 42, 43, 45, 46, 47, 48, 49, 50, 108, 109, 110, 111, 112, 113, 30, 21, 20, 23] (by decide +kernel) (by decide +kernel)
set_option maxRecDepth 20000 in
theorem ggL_law_L_act_r4 : GoodIn wsL_law wsL_act_r4 := goodIn_r _ [24, 114, 115, 116, 117, 33, 34, 35, 36, 118, 119, 120, 121, 32, 122, 123, 124, 125, 126, 127, 128, 129, 130, 131] (by decide +kernel) (by decide +kernel)
set_option maxRecDepth 20000 in
theorem ggL_law_L_act_r5 : GoodIn wsL_law wsL_act_r5 := goodIn_r _ [132, 133, 134, 135, 136, 137, 22, 138, 139, 140, 141, 142, 143, 144, 145, 146, 147, 148, 149, 150, 151, 152, 153, 154] (by decide +kernel) (by decide +kernel)
set_option maxRecDepth 20000 in
theorem ggL_law_L_act_r6 : GoodIn wsL_law wsL_act_r6 := goodIn_r _ [155, 156, 157, 158, 159, 160, 161, 162, 163, 164, 165, 166, 167, 168, 169, 170, 171, 172, 173, 174, 175, 176, 177, 178] (by decide +kernel) (by decide +kernel)
set_option maxRecDepth 20000 in
theorem ggL_law_L_act_r7 : GoodIn wsL_law wsL_act_r7 := goodIn_r _ [179, 180, 181, 182, 183, 184, 185, 186, 187, 188, 189, 190, 191, 192, 193, 194, 195, 196, 197, 198, 199, 200, 201, 202] (by decide +kernel) (by decide +kernel)
set_option maxRecDepth 20000 in
theorem ggL_law_L_act_r8 : GoodIn wsL_law wsL_act_r8 := goodIn_r _ [203, 204, 6, 8, 205, 206, 207, 208] (by decide +kernel) (by decide +kernel)
theorem ggL_law_L_act_x4 : GoodIn wsL_law wsX40 := goodIn_r _ [339, 340, 341, 342, 343] (by decide +kernel) (by decide +kernel)
theorem ggL_law_L_act_x3 : GoodIn wsL_law wsX30 := goodIn_r _ [344, 345, 346, 347, 348, 349, 350, 351] (by decide +kernel) (by decide +kernel)
theorem ggL_law_L_act_x2 : GoodIn wsL_law wsX20 := goodIn_r _ [320, 321, 322, 323, 324, 325, 326, 327, 328] (by decide +kernel) (by decide +kernel)
theorem ggL_law_L_act_x0 : GoodIn wsL_law wsX00 := goodIn_r _ [330, 331, 332, 333, 334, 335, 336, 337, 338] (by decide +kernel) (by decide +kernel)
theorem ggL_law_L_act_x1 : GoodIn wsL_law wsX10 := goodIn_r _ [329] (by decide +kernel) (by decide +kernel)
