set_option maxRecDepth 20000 in
theorem ggL_law_X4_pass : GoodIn wsL_law wsX4_pass := goodIn_r _ [287, 62, 288, 66, 289, 290, 291, 78, 292, 101, 293, 294, 98, 295, 99, 100, 339, 340, 341, 342, 343, 344, 345, 346, 347, 348, 349, 350, 351] (by decide +kernel) (by decide +kernel)
set_option maxRecDepth 20000 in
theorem gL_law_X4_pass : GoodIn wsL_law (wsV RL 148 RX4 yX4_pass wsX4_pass) := goodIn_app (goodIn_of _ (by decide +kernel)) ggL_law_X4_pass
set_option maxRecDepth 20000 in
theorem ggL_law_X4_isSame : GoodIn wsL_law wsX4_isSame := goodIn_ca (goodIn_r _ [299, 62, 4, 300, 301, 302, 303, 304, 305, 306, 307, 288, 64, 66, 65, 308, 227, 228, 2, 229, 126, 127, 129, 128, 151, 139, 138, 179, 130, 131, 132, 133, 19, 309, 231, 232, 233, 234, 149, 150, 310, 311, 312, 57, 313, 314, 165, 166, 78, 167, 98, 315, 210, 211, 212, 22, 31, 29, 30, 32, 213, 214, 215, 216, 217, 218, 219, 27, 220, 47, 48, 221, 190, 191, 192, 193, 194, 195, 196, 42, 222, 223, 224, 225, 46, 316, 317, 318, 319, 243, 244, 245, 246, 339, 340, 341, 342, 343, 344, 345, 346, 347, 348, 349, 350, 351, 330, 331, 332, 333, 334, 335, 336, 337, 338, 320, 321, 322, 323, 324, 325, 326, 327, 328] (by decide +kernel) (by decide +kernel)) (goodIn_sub (fun _ h => List.mem_append_right _ h) (by decide +kernel))
set_option maxRecDepth 20000 in
theorem gL_law_X4_isSame : GoodIn wsL_law (wsV RL 153 RX4 yX4_isSame wsX4_isSame) := goodIn_app (goodIn_of _ (by decide +kernel)) ggL_law_X4_isSame
