set_option maxRecDepth 20000 in
theorem ggL_law_X2_init : GoodIn wsL_law wsX2_init := goodIn_r _ [9, 10, 11, 12, 13, 14, 15, 16, 17, 18, 19, 20, 21, 22, 23, 24, 25, 26, 27, 28, 29, 30, 31, 32, 33, 34, 35, 36, 37, 38, 39, 40, 41, 42, 43, 44, 45, 46, 512, 513, 514, 515, 516, 517, 518, 519, 520, 530, 531, 532, 533, 534, 535, 536, 537, 538, 539] (by decide +kernel) (by decide +kernel)
set_option maxRecDepth 20000 in
theorem gL_law_X2_init : GoodIn wsL_law (wsX2_init) := ggL_law_X2_init
set_option maxRecDepth 20000 in
theorem ggL_law_X3_init : GoodIn wsL_law wsX3_init := goodIn_r _ [49, 50, 11, 12, 51, 17, 52, 53, 54, 55, 56, 521, 522, 523, 524, 525, 526, 527, 528, 529] (by decide +kernel) (by decide +kernel)
set_option maxRecDepth 20000 in
theorem gL_law_X3_init : GoodIn wsL_law (wsX3_init) := ggL_law_X3_init
set_option maxRecDepth 20000 in
theorem ggL_law_L_make : GoodIn wsL_law wsL_make := goodIn_ca (goodIn_r _ [60, 61, 62, 63, 64, 2, 65, 66, 67, 25, 14, 13, 22, 23, 33, 34, 35, 36, 11, 12, 17, 37, 38, 39, 40, 41, 42, 43, 44, 45, 46, 512, 513, 514, 515, 516, 517, 518, 519, 520, 531, 532, 533, 534, 535, 536, 537, 538, 539] (by decide +kernel) (by decide +kernel)) (goodIn_sub (fun _ h => List.mem_append_left _ (List.mem_append_left _ (List.mem_append_right _ h))) (by decide +kernel))
set_option maxRecDepth 20000 in
theorem gL_law_L_make : GoodIn wsL_law (va_wsS RL 76 yL_make wsL_make) := goodIn_app (goodIn_of _ (by decide +kernel)) ggL_law_L_make
set_option maxRecDepth 20000 in
theorem ggL_law_X3_make : GoodIn wsL_law wsX3_make := goodIn_r _ [71, 72, 73, 52, 17, 53, 74, 75, 76, 77, 78, 79, 80, 5, 81, 82, 83, 84, 521, 522, 523, 524, 525, 526, 527, 528, 529] (by decide +kernel) (by decide +kernel)
set_option maxRecDepth 20000 in
theorem gL_law_X3_make : GoodIn wsL_law (wsV RL 81 RX3 yX3_make wsX3_make) := goodIn_app (goodIn_of _ (by decide +kernel)) ggL_law_X3_make
set_option maxRecDepth 20000 in
theorem ggL_law_X3_thrown : GoodIn wsL_law wsX3_thrown := goodIn_r _ [88, 72, 521, 522, 523, 524, 525, 526, 527, 528, 529] (by decide +kernel) (by decide +kernel)
set_option maxRecDepth 20000 in
theorem gL_law_X3_thrown : GoodIn wsL_law (wsV RL 82 RX3 yX3_thrown wsX3_thrown) := goodIn_app (goodIn_of _ (by decide +kernel)) ggL_law_X3_thrown
set_option maxRecDepth 20000 in
theorem ggL_law_L_pose : GoodIn wsL_law wsL_pose := goodIn_ca (goodIn_ca (goodIn_r _ [91, 92, 61, 93, 94, 95, 2, 96, 97, 98, 66, 67, 26, 16, 15, 19, 20, 99, 100, 101, 102, 29, 30, 31, 11, 12, 17, 32, 512, 513, 514, 515, 516, 517, 518, 519, 520, 530] (by decide +kernel) (by decide +kernel)) (goodIn_sub (fun _ h => List.mem_append_left _ (List.mem_append_right _ h)) (by decide +kernel))) (goodIn_sub (fun _ h => List.mem_append_left _ (List.mem_append_left _ (List.mem_append_right _ h))) (by decide +kernel))
set_option maxRecDepth 20000 in
theorem gL_law_L_pose : GoodIn wsL_law (va_wsS RL 85 yL_pose wsL_pose) := goodIn_app (goodIn_of _ (by decide +kernel)) ggL_law_L_pose
set_option maxRecDepth 20000 in
theorem ggL_law_X3_pose : GoodIn wsL_law wsX3_pose := goodIn_r _ [106, 72, 17, 107, 54, 74, 75, 76, 77, 108, 109, 5, 110, 78, 79, 80, 81, 521, 522, 523, 524, 525, 526, 527, 528, 529] (by decide +kernel) (by decide +kernel)
set_option maxRecDepth 20000 in
theorem gL_law_X3_pose : GoodIn wsL_law (wsV RL 88 RX3 yX3_pose wsX3_pose) := goodIn_app (goodIn_of _ (by decide +kernel)) ggL_law_X3_pose
set_option maxRecDepth 20000 in
theorem ggL_law_L_take : GoodIn wsL_law wsL_take := goodIn_ca (goodIn_ca (goodIn_r _ [113, 114, 61, 115, 116, 117, 2, 118, 66, 67, 119, 120, 121, 122, 123, 124, 125, 14, 126, 127, 128, 129, 16, 130, 131, 132, 23, 133, 38, 37, 134, 135, 136, 137, 138, 139, 140, 141, 142, 143, 144, 145, 146, 147, 148, 149, 150, 39, 151, 152, 153, 154, 155, 156, 157, 158, 159, 531, 532, 533, 534, 535, 536, 537, 538, 539, 512, 513, 514, 515, 516, 517, 518, 519, 520, 530] (by decide +kernel) (by decide +kernel)) (goodIn_sub (fun _ h => List.mem_append_left _ (List.mem_append_left _ (List.mem_append_right _ h))) (by decide +kernel))) (goodIn_sub (fun _ h => List.mem_append_right _ h) (by decide +kernel))
set_option maxRecDepth 20000 in
theorem gL_law_L_take : GoodIn wsL_law (va_wsS RL 89 yL_take wsL_take) := goodIn_app (goodIn_of _ (by decide +kernel)) ggL_law_L_take
set_option maxRecDepth 20000 in
theorem ggL_law_X3_take : GoodIn wsL_law wsX3_take := goodIn_r _ [163, 72, 164, 165, 166, 5, 167, 73, 108, 109, 110, 168, 169, 170, 171, 107, 78, 79, 80, 81, 172, 173, 174, 175, 54, 176, 177, 178, 179, 180, 181, 182, 183, 52, 82, 83, 84, 184, 185, 186, 187, 53, 188, 189, 190, 191, 192, 193, 194, 195, 196, 197, 198, 199, 200, 148, 149, 150, 201, 158, 159, 521, 522, 523, 524, 525, 526, 527, 528, 529] (by decide +kernel) (by decide +kernel)
set_option maxRecDepth 20000 in
theorem gL_law_X3_take : GoodIn wsL_law (wsV RL 92 RX3 yX3_take wsX3_take) := goodIn_app (goodIn_of _ (by decide +kernel)) ggL_law_X3_take
set_option maxRecDepth 20000 in
theorem ggL_law_L_blink : GoodIn wsL_law wsL_blink := goodIn_ca (goodIn_ca (goodIn_r _ [204, 114, 61, 205, 206, 207, 2, 208, 124, 125, 66, 67, 209, 210, 120, 121, 122, 123, 14, 531, 532, 533, 534, 535, 536, 537, 538, 539, 512, 513, 514, 515, 516, 517, 518, 519, 520] (by decide +kernel) (by decide +kernel)) (goodIn_sub (fun _ h => List.mem_append_right _ h) (by decide +kernel))) (goodIn_sub (fun _ h => List.mem_append_left _ (List.mem_append_left _ (List.mem_append_right _ h))) (by decide +kernel))
set_option maxRecDepth 20000 in
theorem gL_law_L_blink : GoodIn wsL_law (va_wsS RL 93 yL_blink wsL_blink) := goodIn_app (goodIn_of _ (by decide +kernel)) ggL_law_L_blink
set_option maxRecDepth 20000 in
theorem ggL_law_X3_blink : GoodIn wsL_law wsX3_blink := goodIn_r _ [214, 72, 164, 165, 166, 5, 167, 73, 108, 109, 110, 184, 185, 186, 187, 53, 188, 189, 190, 191, 521, 522, 523, 524, 525, 526, 527, 528, 529] (by decide +kernel) (by decide +kernel)
set_option maxRecDepth 20000 in
theorem gL_law_X3_blink : GoodIn wsL_law (wsV RL 95 RX3 yX3_blink wsX3_blink) := goodIn_app (goodIn_of _ (by decide +kernel)) ggL_law_X3_blink
set_option maxRecDepth 20000 in
theorem ggL_law_L_dress : GoodIn wsL_law wsL_dress := goodIn_ca (goodIn_ca (goodIn_ca (goodIn_r _ [217, 114, 92, 61, 218, 219, 220, 2, 221, 97, 98, 66, 67, 18, 222, 223, 224, 158, 149, 159, 120, 121, 122, 123, 124, 125, 14, 512, 513, 514, 515, 516, 517, 518, 519, 520, 531, 532, 533, 534, 535, 536, 537, 538, 539] (by decide +kernel) (by decide +kernel)) (goodIn_sub (fun _ h => List.mem_append_left _ (List.mem_append_right _ h)) (by decide +kernel))) (goodIn_sub (fun _ h => List.mem_append_left _ (List.mem_append_left _ (List.mem_append_right _ h))) (by decide +kernel))) (goodIn_sub (fun _ h => List.mem_append_right _ h) (by decide +kernel))
set_option maxRecDepth 20000 in
theorem gL_law_L_dress : GoodIn wsL_law (va_wsS RL 96 yL_dress wsL_dress) := goodIn_app (goodIn_of _ (by decide +kernel)) ggL_law_L_dress
set_option maxRecDepth 20000 in
theorem ggL_law_X3_dress : GoodIn wsL_law wsX3_dress := goodIn_r _ [228, 72, 55, 201, 158, 149, 159, 164, 165, 166, 5, 167, 73, 108, 109, 110, 78, 79, 80, 81, 184, 185, 186, 187, 53, 188, 189, 190, 191, 521, 522, 523, 524, 525, 526, 527, 528, 529] (by decide +kernel) (by decide +kernel)
set_option maxRecDepth 20000 in
theorem gL_law_X3_dress : GoodIn wsL_law (wsV RL 99 RX3 yX3_dress wsX3_dress) := goodIn_app (goodIn_of _ (by decide +kernel)) ggL_law_X3_dress
set_option maxRecDepth 20000 in
theorem ggL_law_L_bring : GoodIn wsL_law wsL_bring := goodIn_ca (goodIn_r _ [231, 92, 232, 233, 234, 2, 235, 97, 98, 18, 224, 158, 149, 159, 512, 513, 514, 515, 516, 517, 518, 519, 520] (by decide +kernel) (by decide +kernel)) (goodIn_sub (fun _ h => List.mem_append_left _ (List.mem_append_right _ h)) (by decide +kernel))
set_option maxRecDepth 20000 in
theorem gL_law_L_bring : GoodIn wsL_law (va_wsS RL 100 yL_bring wsL_bring) := goodIn_app (goodIn_of _ (by decide +kernel)) ggL_law_L_bring
set_option maxRecDepth 20000 in
theorem ggL_law_X3_bring : GoodIn wsL_law wsX3_bring := goodIn_r _ [239, 72, 55, 201, 158, 149, 159, 108, 109, 5, 110, 78, 79, 80, 81, 521, 522, 523, 524, 525, 526, 527, 528, 529] (by decide +kernel) (by decide +kernel)
set_option maxRecDepth 20000 in
theorem gL_law_X3_bring : GoodIn wsL_law (wsV RL 102 RX3 yX3_bring wsX3_bring) := goodIn_app (goodIn_of _ (by decide +kernel)) ggL_law_X3_bring
set_option maxRecDepth 20000 in
theorem ggL_law_L_setMoths : GoodIn wsL_law wsL_setMoths := goodIn_ca (goodIn_r _ [242, 92, 243, 244, 245, 2, 246, 97, 98, 28, 512, 513, 514, 515, 516, 517, 518, 519, 520] (by decide +kernel) (by decide +kernel)) (goodIn_sub (fun _ h => List.mem_append_left _ (List.mem_append_right _ h)) (by decide +kernel))
set_option maxRecDepth 20000 in
theorem gL_law_L_setMoths : GoodIn wsL_law (va_wsS RL 103 yL_setMoths wsL_setMoths) := goodIn_app (goodIn_of _ (by decide +kernel)) ggL_law_L_setMoths
set_option maxRecDepth 20000 in
theorem ggL_law_X3_setMoths : GoodIn wsL_law wsX3_setMoths := goodIn_r _ [250, 72, 51, 108, 109, 5, 110, 78, 79, 80, 81, 521, 522, 523, 524, 525, 526, 527, 528, 529] (by decide +kernel) (by decide +kernel)
set_option maxRecDepth 20000 in
theorem gL_law_X3_setMoths : GoodIn wsL_law (wsV RL 106 RX3 yX3_setMoths wsX3_setMoths) := goodIn_app (goodIn_of _ (by decide +kernel)) ggL_law_X3_setMoths
set_option maxRecDepth 20000 in
theorem ggL_law_L_mend : GoodIn wsL_law wsL_mend := goodIn_ca (goodIn_ca (goodIn_ca (goodIn_r _ [253, 114, 92, 61, 254, 255, 256, 2, 257, 124, 125, 97, 98, 66, 67, 18, 258, 259, 222, 260, 120, 121, 122, 123, 14, 261, 262, 263, 23, 264, 44, 45, 265, 266, 267, 268, 42, 512, 513, 514, 515, 516, 517, 518, 519, 520, 531, 532, 533, 534, 535, 536, 537, 538, 539] (by decide +kernel) (by decide +kernel)) (goodIn_sub (fun _ h => List.mem_append_right _ h) (by decide +kernel))) (goodIn_sub (fun _ h => List.mem_append_left _ (List.mem_append_right _ h)) (by decide +kernel))) (goodIn_sub (fun _ h => List.mem_append_left _ (List.mem_append_left _ (List.mem_append_right _ h))) (by decide +kernel))
set_option maxRecDepth 20000 in
theorem gL_law_L_mend : GoodIn wsL_law (va_wsS RL 107 yL_mend wsL_mend) := goodIn_app (goodIn_of _ (by decide +kernel)) ggL_law_L_mend
set_option maxRecDepth 20000 in
theorem ggL_law_X3_mend : GoodIn wsL_law wsX3_mend := goodIn_r _ [272, 72, 55, 52, 164, 165, 166, 5, 167, 73, 108, 109, 110, 78, 79, 80, 81, 184, 185, 186, 187, 53, 82, 83, 84, 188, 189, 190, 191, 521, 522, 523, 524, 525, 526, 527, 528, 529] (by decide +kernel) (by decide +kernel)
set_option maxRecDepth 20000 in
theorem gL_law_X3_mend : GoodIn wsL_law (wsV RL 109 RX3 yX3_mend wsX3_mend) := goodIn_app (goodIn_of _ (by decide +kernel)) ggL_law_X3_mend
set_option maxRecDepth 20000 in
theorem ggL_law_L_joint : GoodIn wsL_law wsL_joint := goodIn_ca (goodIn_r _ [275, 114, 276, 277, 278, 2, 279, 124, 125, 280, 258, 259, 120, 121, 122, 123, 14, 531, 532, 533, 534, 535, 536, 537, 538, 539, 512, 513, 514, 515, 516, 517, 518, 519, 520] (by decide +kernel) (by decide +kernel)) (goodIn_sub (fun _ h => List.mem_append_right _ h) (by decide +kernel))
set_option maxRecDepth 20000 in
theorem gL_law_L_joint : GoodIn wsL_law (va_wsS RL 110 yL_joint wsL_joint) := goodIn_app (goodIn_of _ (by decide +kernel)) ggL_law_L_joint
set_option maxRecDepth 20000 in
theorem ggL_law_X3_joint : GoodIn wsL_law wsX3_joint := goodIn_r _ [284, 72, 164, 165, 166, 5, 167, 73, 108, 109, 110, 285, 286, 287, 288, 180, 181, 182, 183, 52, 82, 83, 84, 176, 177, 178, 179, 78, 79, 80, 81, 521, 522, 523, 524, 525, 526, 527, 528, 529] (by decide +kernel) (by decide +kernel)
set_option maxRecDepth 20000 in
theorem gL_law_X3_joint : GoodIn wsL_law (wsV RL 112 RX3 yX3_joint wsX3_joint) := goodIn_app (goodIn_of _ (by decide +kernel)) ggL_law_X3_joint
set_option maxRecDepth 20000 in
theorem ggL_law_L_doll : GoodIn wsL_law wsL_doll := goodIn_ca (goodIn_r _ [291, 114, 292, 293, 294, 2, 295, 124, 125, 210, 209, 260, 223, 222, 119, 120, 121, 122, 123, 14, 531, 532, 533, 534, 535, 536, 537, 538, 539, 512, 513, 514, 515, 516, 517, 518, 519, 520] (by decide +kernel) (by decide +kernel)) (goodIn_sub (fun _ h => List.mem_append_right _ h) (by decide +kernel))
set_option maxRecDepth 20000 in
theorem gL_law_L_doll : GoodIn wsL_law (va_wsS RL 113 yL_doll wsL_doll) := goodIn_app (goodIn_of _ (by decide +kernel)) ggL_law_L_doll
set_option maxRecDepth 20000 in
theorem ggL_law_X3_doll : GoodIn wsL_law wsX3_doll := goodIn_r _ [299, 72, 164, 165, 166, 5, 167, 73, 108, 109, 110, 184, 185, 186, 187, 53, 78, 79, 80, 81, 521, 522, 523, 524, 525, 526, 527, 528, 529] (by decide +kernel) (by decide +kernel)
set_option maxRecDepth 20000 in
theorem gL_law_X3_doll : GoodIn wsL_law (wsV RL 115 RX3 yX3_doll wsX3_doll) := goodIn_app (goodIn_of _ (by decide +kernel)) ggL_law_X3_doll
set_option maxRecDepth 20000 in
theorem ggL_law_L_count : GoodIn wsL_law wsL_count := goodIn_ca (goodIn_r _ [302, 114, 303, 304, 305, 2, 306, 124, 125, 18, 27, 25, 26, 28, 307, 308, 309, 310, 14, 311, 312, 313, 23, 314, 43, 44, 315, 136, 137, 138, 139, 140, 141, 142, 38, 316, 317, 318, 319, 42, 512, 513, 514, 515, 516, 517, 518, 519, 520, 531, 532, 533, 534, 535, 536, 537, 538, 539] (by decide +kernel) (by decide +kernel)) (goodIn_sub (fun _ h => List.mem_append_right _ h) (by decide +kernel))
set_option maxRecDepth 20000 in
theorem gL_law_L_count : GoodIn wsL_law (va_wsS RL 116 yL_count wsL_count) := goodIn_app (goodIn_of _ (by decide +kernel)) ggL_law_L_count
set_option maxRecDepth 20000 in
theorem ggL_law_X3_count : GoodIn wsL_law wsX3_count := goodIn_r _ [323, 72, 108, 109, 5, 110, 324, 325, 326, 327, 55, 56, 73, 107, 51, 285, 286, 287, 288, 180, 181, 182, 183, 52, 82, 83, 84, 176, 177, 178, 179, 184, 185, 186, 187, 53, 78, 79, 80, 81, 521, 522, 523, 524, 525, 526, 527, 528, 529] (by decide +kernel) (by decide +kernel)
set_option maxRecDepth 20000 in
theorem gL_law_X3_count : GoodIn wsL_law (wsV RL 118 RX3 yX3_count wsX3_count) := goodIn_app (goodIn_of _ (by decide +kernel)) ggL_law_X3_count
set_option maxRecDepth 20000 in
theorem ggL_law_L_costs : GoodIn wsL_law wsL_costs := goodIn_ca (goodIn_r _ [330, 114, 331, 332, 333, 2, 334, 24, 120, 121, 122, 123, 124, 125, 14, 126, 127, 128, 129, 16, 130, 131, 132, 23, 133, 38, 37, 134, 335, 336, 337, 338, 39, 41, 42, 43, 44, 45, 46, 143, 144, 145, 146, 147, 148, 149, 150, 151, 152, 153, 154, 155, 156, 157, 158, 159, 339, 340, 341, 342, 512, 513, 514, 515, 516, 517, 518, 519, 520, 531, 532, 533, 534, 535, 536, 537, 538, 539, 530] (by decide +kernel) (by decide +kernel)) (goodIn_sub (fun _ h => List.mem_append_right _ h) (by decide +kernel))
set_option maxRecDepth 20000 in
theorem gL_law_L_costs : GoodIn wsL_law (va_wsS RL 119 yL_costs wsL_costs) := goodIn_app (goodIn_of _ (by decide +kernel)) ggL_law_L_costs
set_option maxRecDepth 20000 in
theorem ggL_law_X3_costs : GoodIn wsL_law wsX3_costs := goodIn_r _ [346, 72, 164, 165, 166, 5, 167, 73, 108, 109, 110, 168, 169, 170, 171, 107, 78, 79, 80, 81, 172, 173, 174, 175, 54, 176, 177, 178, 179, 180, 181, 182, 183, 52, 82, 83, 84, 347, 348, 349, 350, 351, 352, 353, 354, 355, 356, 53, 56, 357, 358, 359, 360, 192, 193, 194, 195, 196, 197, 198, 199, 200, 148, 149, 150, 201, 158, 159, 361, 362, 363, 364, 74, 75, 76, 77, 521, 522, 523, 524, 525, 526, 527, 528, 529] (by decide +kernel) (by decide +kernel)
set_option maxRecDepth 20000 in
theorem gL_law_X3_costs : GoodIn wsL_law (wsV RL 121 RX3 yX3_costs wsX3_costs) := goodIn_app (goodIn_of _ (by decide +kernel)) ggL_law_X3_costs
set_option maxRecDepth 20000 in
theorem ggL_law_L_often : GoodIn wsL_law wsL_often := goodIn_ca (goodIn_r _ [367, 114, 368, 369, 370, 2, 371, 24, 21, 120, 121, 122, 123, 124, 125, 14, 126, 127, 128, 129, 16, 335, 336, 337, 23, 338, 37, 38, 39, 41, 42, 43, 44, 45, 46, 130, 131, 132, 133, 134, 143, 144, 145, 146, 147, 148, 149, 150, 151, 152, 153, 154, 155, 156, 157, 158, 159, 512, 513, 514, 515, 516, 517, 518, 519, 520, 531, 532, 533, 534, 535, 536, 537, 538, 539, 530] (by decide +kernel) (by decide +kernel)) (goodIn_sub (fun _ h => List.mem_append_right _ h) (by decide +kernel))
set_option maxRecDepth 20000 in
theorem gL_law_L_often : GoodIn wsL_law (va_wsS RL 122 yL_often wsL_often) := goodIn_app (goodIn_of _ (by decide +kernel)) ggL_law_L_often
set_option maxRecDepth 20000 in
theorem ggL_law_X3_often : GoodIn wsL_law wsX3_often := goodIn_r _ [375, 72, 164, 165, 166, 5, 167, 73, 108, 109, 110, 168, 169, 170, 171, 107, 78, 79, 80, 81, 347, 348, 349, 350, 351, 52, 352, 353, 354, 355, 356, 53, 56, 172, 173, 174, 175, 54, 176, 177, 178, 179, 180, 181, 182, 183, 82, 83, 84, 192, 193, 194, 195, 196, 197, 198, 199, 200, 148, 149, 150, 201, 158, 159, 361, 362, 363, 364, 74, 75, 76, 77, 521, 522, 523, 524, 525, 526, 527, 528, 529] (by decide +kernel) (by decide +kernel)
set_option maxRecDepth 20000 in
theorem gL_law_X3_often : GoodIn wsL_law (wsV RL 124 RX3 yX3_often wsX3_often) := goodIn_app (goodIn_of _ (by decide +kernel)) ggL_law_X3_often
set_option maxRecDepth 20000 in
theorem ggL_law_L_needs : GoodIn wsL_law wsL_needs := goodIn_ca (goodIn_ca (goodIn_r _ [378, 114, 92, 379, 380, 381, 2, 382, 97, 98, 120, 121, 122, 123, 124, 125, 14, 383, 384, 385, 23, 386, 44, 45, 43, 139, 140, 141, 142, 38, 387, 388, 389, 390, 39, 316, 317, 318, 319, 42, 512, 513, 514, 515, 516, 517, 518, 519, 520, 531, 532, 533, 534, 535, 536, 537, 538, 539] (by decide +kernel) (by decide +kernel)) (goodIn_sub (fun _ h => List.mem_append_left _ (List.mem_append_right _ h)) (by decide +kernel))) (goodIn_sub (fun _ h => List.mem_append_right _ h) (by decide +kernel))
set_option maxRecDepth 20000 in
theorem gL_law_L_needs : GoodIn wsL_law (va_wsS RL 125 yL_needs wsL_needs) := goodIn_app (goodIn_of _ (by decide +kernel)) ggL_law_L_needs
set_option maxRecDepth 20000 in
theorem ggL_law_X3_needs : GoodIn wsL_law wsX3_needs := goodIn_r _ [394, 72, 164, 165, 166, 5, 167, 73, 108, 109, 110, 78, 79, 80, 81, 395, 396, 397, 398, 180, 181, 182, 183, 52, 82, 83, 84, 184, 185, 186, 187, 53, 521, 522, 523, 524, 525, 526, 527, 528, 529] (by decide +kernel) (by decide +kernel)
set_option maxRecDepth 20000 in
theorem gL_law_X3_needs : GoodIn wsL_law (wsV RL 127 RX3 yX3_needs wsX3_needs) := goodIn_app (goodIn_of _ (by decide +kernel)) ggL_law_X3_needs
set_option maxRecDepth 20000 in
theorem ggL_law_L_lacks : GoodIn wsL_law wsL_lacks := goodIn_ca (goodIn_r _ [401, 92, 402, 403, 404, 2, 405, 97, 98, 14, 18, 406, 152, 149, 153, 383, 384, 385, 23, 386, 44, 45, 43, 139, 140, 141, 142, 38, 387, 388, 389, 390, 39, 316, 317, 318, 319, 42, 512, 513, 514, 515, 516, 517, 518, 519, 520, 531, 532, 533, 534, 535, 536, 537, 538, 539] (by decide +kernel) (by decide +kernel)) (goodIn_sub (fun _ h => List.mem_append_left _ (List.mem_append_right _ h)) (by decide +kernel))
set_option maxRecDepth 20000 in
theorem gL_law_L_lacks : GoodIn wsL_law (va_wsS RL 128 yL_lacks wsL_lacks) := goodIn_app (goodIn_of _ (by decide +kernel)) ggL_law_L_lacks
set_option maxRecDepth 20000 in
theorem ggL_law_X3_lacks : GoodIn wsL_law wsX3_lacks := goodIn_r _ [410, 72, 73, 55, 411, 152, 149, 153, 108, 109, 5, 110, 78, 79, 80, 81, 395, 396, 397, 398, 180, 181, 182, 183, 52, 82, 83, 84, 184, 185, 186, 187, 53, 521, 522, 523, 524, 525, 526, 527, 528, 529] (by decide +kernel) (by decide +kernel)
set_option maxRecDepth 20000 in
theorem gL_law_X3_lacks : GoodIn wsL_law (wsV RL 130 RX3 yX3_lacks wsX3_lacks) := goodIn_app (goodIn_of _ (by decide +kernel)) ggL_law_X3_lacks
set_option maxRecDepth 20000 in
theorem ggL_law_X2_worst : GoodIn wsL_law wsX2_worst := goodIn_r _ [415, 14, 416, 417, 418, 23, 419, 420, 384, 385, 386, 44, 45, 43, 139, 140, 141, 142, 38, 387, 388, 389, 390, 39, 316, 317, 318, 319, 42, 512, 513, 514, 515, 516, 517, 518, 519, 520, 531, 532, 533, 534, 535, 536, 537, 538, 539] (by decide +kernel) (by decide +kernel)
set_option maxRecDepth 20000 in
theorem gL_law_X2_worst : GoodIn wsL_law (wsV RL 131 RX2 yX2_worst wsX2_worst) := goodIn_app (goodIn_of _ (by decide +kernel)) ggL_law_X2_worst
set_option maxRecDepth 20000 in
theorem ggL_law_X3_worst : GoodIn wsL_law wsX3_worst := goodIn_r _ [424, 72, 73, 395, 396, 397, 5, 398, 180, 181, 182, 183, 52, 82, 83, 84, 184, 185, 186, 187, 53, 521, 522, 523, 524, 525, 526, 527, 528, 529] (by decide +kernel) (by decide +kernel)
set_option maxRecDepth 20000 in
theorem gL_law_X3_worst : GoodIn wsL_law (wsV RL 134 RX3 yX3_worst wsX3_worst) := goodIn_app (goodIn_of _ (by decide +kernel)) ggL_law_X3_worst
set_option maxRecDepth 20000 in
theorem ggL_law_L_foresee : GoodIn wsL_law wsL_foresee := goodIn_ca (goodIn_ca (goodIn_r _ [427, 92, 114, 428, 429, 430, 2, 431, 97, 98, 124, 125, 14, 24, 335, 336, 337, 23, 338, 37, 38, 39, 41, 42, 43, 44, 45, 46, 432, 433, 434, 435, 27, 28, 436, 437, 438, 439, 440, 312, 313, 314, 315, 136, 137, 138, 139, 140, 141, 142, 316, 317, 318, 319, 441, 442, 443, 444, 445, 446, 447, 448, 151, 152, 149, 153, 449, 450, 451, 452, 453, 454, 455, 456, 157, 158, 159, 311, 512, 513, 514, 515, 516, 517, 518, 519, 520, 531, 532, 533, 534, 535, 536, 537, 538, 539] (by decide +kernel) (by decide +kernel)) (goodIn_sub (fun _ h => List.mem_append_left _ (List.mem_append_right _ h)) (by decide +kernel))) (goodIn_sub (fun _ h => List.mem_append_right _ h) (by decide +kernel))
set_option maxRecDepth 20000 in
theorem gL_law_L_foresee : GoodIn wsL_law (va_wsS RL 135 yL_foresee wsL_foresee) := goodIn_app (goodIn_of _ (by decide +kernel)) ggL_law_L_foresee
set_option maxRecDepth 20000 in
theorem ggL_law_X3_foresee : GoodIn wsL_law wsX3_foresee := goodIn_r _ [460, 72, 108, 109, 5, 110, 78, 79, 80, 81, 347, 348, 349, 350, 351, 52, 352, 353, 354, 355, 356, 53, 56, 461, 462, 463, 464, 73, 465, 466, 467, 468, 51, 411, 152, 149, 153, 201, 158, 159, 184, 185, 186, 187, 188, 189, 190, 191, 180, 181, 182, 183, 82, 83, 84, 324, 325, 326, 327, 55, 107, 285, 286, 287, 288, 176, 177, 178, 179, 361, 362, 363, 364, 74, 75, 76, 77, 521, 522, 523, 524, 525, 526, 527, 528, 529] (by decide +kernel) (by decide +kernel)
set_option maxRecDepth 20000 in
theorem gL_law_X3_foresee : GoodIn wsL_law (wsV RL 137 RX3 yX3_foresee wsX3_foresee) := goodIn_app (goodIn_of _ (by decide +kernel)) ggL_law_X3_foresee
set_option maxRecDepth 20000 in
theorem ggL_law_L_pass : GoodIn wsL_law wsL_pass := goodIn_ca (goodIn_r _ [471, 92, 472, 473, 474, 2, 475, 97, 98, 14, 27, 432, 433, 434, 435, 28, 436, 437, 438, 23, 439, 440, 312, 313, 314, 43, 44, 315, 136, 137, 138, 139, 140, 141, 142, 38, 316, 317, 318, 319, 42, 441, 442, 443, 444, 445, 446, 447, 448, 45, 151, 152, 149, 153, 449, 450, 451, 452, 39, 453, 454, 455, 456, 41, 157, 158, 159, 512, 513, 514, 515, 516, 517, 518, 519, 520, 531, 532, 533, 534, 535, 536, 537, 538, 539] (by decide +kernel) (by decide +kernel)) (goodIn_sub (fun _ h => List.mem_append_left _ (List.mem_append_right _ h)) (by decide +kernel))
set_option maxRecDepth 20000 in
theorem gL_law_L_pass : GoodIn wsL_law (va_wsS RL 138 yL_pass wsL_pass) := goodIn_app (goodIn_of _ (by decide +kernel)) ggL_law_L_pass
set_option maxRecDepth 20000 in
theorem ggL_law_X3_pass : GoodIn wsL_law wsX3_pass := goodIn_r _ [479, 72, 108, 109, 5, 110, 461, 462, 463, 464, 73, 56, 465, 466, 467, 468, 51, 411, 152, 149, 153, 52, 201, 158, 159, 184, 185, 186, 187, 53, 188, 189, 190, 191, 180, 181, 182, 183, 82, 83, 84, 78, 79, 80, 81, 521, 522, 523, 524, 525, 526, 527, 528, 529] (by decide +kernel) (by decide +kernel)
set_option maxRecDepth 20000 in
theorem gL_law_X3_pass : GoodIn wsL_law (wsV RL 140 RX3 yX3_pass wsX3_pass) := goodIn_app (goodIn_of _ (by decide +kernel)) ggL_law_X3_pass
set_option maxRecDepth 20000 in
theorem ggL_law_X2_mean : GoodIn wsL_law wsX2_mean := goodIn_r _ [483, 25, 14, 339, 340, 341, 23, 342, 38, 512, 513, 514, 515, 516, 517, 518, 519, 520, 531, 532, 533, 534, 535, 536, 537, 538, 539] (by decide +kernel) (by decide +kernel)
set_option maxRecDepth 20000 in
theorem gL_law_X2_mean : GoodIn wsL_law (wsV RL 141 RX2 yX2_mean wsX2_mean) := goodIn_app (goodIn_of _ (by decide +kernel)) ggL_law_X2_mean
set_option maxRecDepth 20000 in
theorem ggL_law_X3_mean : GoodIn wsL_law wsX3_mean := goodIn_r _ [487, 72, 73, 357, 358, 359, 5, 360, 180, 181, 182, 183, 52, 82, 83, 84, 521, 522, 523, 524, 525, 526, 527, 528, 529] (by decide +kernel) (by decide +kernel)
set_option maxRecDepth 20000 in
theorem gL_law_X3_mean : GoodIn wsL_law (wsV RL 145 RX3 yX3_mean wsX3_mean) := goodIn_app (goodIn_of _ (by decide +kernel)) ggL_law_X3_mean
set_option maxRecDepth 20000 in
theorem ggL_law_X2_digest : GoodIn wsL_law wsX2_digest := goodIn_ca (goodIn_r _ [491, 492, 493, 16, 25, 494, 304, 305, 2, 306, 124, 125, 18, 27, 26, 28, 307, 308, 309, 310, 14, 311, 312, 313, 23, 314, 43, 44, 315, 136, 137, 138, 139, 140, 141, 142, 38, 316, 317, 318, 319, 42, 495, 496, 497, 20, 498, 32, 499, 500, 293, 294, 295, 210, 209, 260, 223, 222, 119, 120, 121, 122, 123, 501, 502, 503, 504, 505, 277, 278, 279, 280, 258, 259, 512, 513, 514, 515, 516, 517, 518, 519, 520, 531, 532, 533, 534, 535, 536, 537, 538, 539, 530] (by decide +kernel) (by decide +kernel)) (goodIn_sub (fun _ h => List.mem_append_right _ h) (by decide +kernel))
set_option maxRecDepth 20000 in
theorem gL_law_X2_digest : GoodIn wsL_law (wsV RL 146 RX2 yX2_digest wsX2_digest) := goodIn_app (goodIn_of _ (by decide +kernel)) ggL_law_X2_digest
set_option maxRecDepth 20000 in
theorem ggL_law_X3_digest : GoodIn wsL_law wsX3_digest := goodIn_r _ [509, 72, 510, 511, 107, 54, 73, 324, 325, 326, 5, 327, 55, 56, 51, 285, 286, 287, 288, 180, 181, 182, 183, 52, 82, 83, 84, 176, 177, 178, 179, 184, 185, 186, 187, 53, 521, 522, 523, 524, 525, 526, 527, 528, 529] (by decide +kernel) (by decide +kernel)
set_option maxRecDepth 20000 in
theorem gL_law_X3_digest : GoodIn wsL_law (wsV RL 150 RX3 yX3_digest wsX3_digest) := goodIn_app (goodIn_of _ (by decide +kernel)) ggL_law_X3_digest
