set_option maxRecDepth 20000 in
theorem ggL_build_L_act_r4 : GoodIn wsL_build wsL_act_r4 := goodIn_r _ [92, 93, 94, 95, 96, 97, 98, 99, 100, 101, 102, 103, 104, 105, 106, 107, 108, 109, 110, 111, 112, 113, 114, 115] (by decide +kernel) (by decide +kernel)
set_option maxRecDepth 20000 in
theorem ggL_build_L_act_r5 : GoodIn wsL_build wsL_act_r5 := goodIn_r _ [116, 117, 118, 119, 120, 121, 122, 123, 124, 125, 126, 127, 128, 129, 130, 131, 132, 133, 134, 135, 136, 137, 138, 139] (by decide +kernel) (by decide +kernel)
set_option maxRecDepth 20000 in
theorem ggL_build_L_act_r6 : GoodIn wsL_build wsL_act_r6 := goodIn_r _ [140, 141, 142, 143, 144, 145, 146, 147, 148, 149, 150, 151, 152, 153, 154, 155, 156, 157, 158, 159, 160, 161, 162, 163] (by decide +kernel) (by decide +kernel)
set_option maxRecDepth 20000 in
theorem ggL_build_L_act_r7 : GoodIn wsL_build wsL_act_r7 := goodIn_r _ [164, 165, 166, 167, 168, 169, 170, 171, 172, 173, 174, 175, 176, 177, 178, 179, 180, 181, 182, 183, 184, 185, 186, 187] (by decide +kernel) (by decide +kernel)
set_option maxRecDepth 20000 in
theorem ggL_build_L_act_r8 : GoodIn wsL_build wsL_act_r8 := goodIn_r _ [188, 189, 190, 191, 192, 193, 194, 195] (by decide +kernel) (by decide +kernel)
theorem ggL_build_L_act_x4 : GoodIn wsL_build wsX40 := goodIn_r _ [196, 197, 198, 199, 200] (by decide +kernel) (by decide +kernel)
theorem ggL_build_L_act_x3 : GoodIn wsL_build wsX30 := goodIn_r _ [201, 202, 203, 204, 205, 206, 207, 208] (by decide +kernel) (by decide +kernel)
theorem ggL_build_L_act_x2 : GoodIn wsL_build wsX20 := goodIn_r _ [209, 210, 211, 212, 213, 214, 215, 216, 217] (by decide +kernel) (by decide +kernel)
theorem ggL_build_L_act_x0 : GoodIn wsL_build wsX00 := goodIn_r _ [218, 219, 220, 221, 222, 223, 224, 225, 226] (by decide +kernel) (by decide +kernel)
theorem ggL_build_L_act_x1 : GoodIn wsL_build wsX10 := goodIn_r _ [227] (by decide +kernel) (by decide +kernel)
