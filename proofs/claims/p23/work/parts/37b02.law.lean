set_option maxRecDepth 20000 in
theorem ggL_act_X2_dress : GoodIn wsL_act wsX2_dress := goodIn_ca (goodIn_ca (goodIn_ca (goodIn_r _ [102, 67, 68, 43, 44, 103, 104, 105, 106, 14, 15, 16, 95, 96, 97, 41, 98, 91, 92, 46, 190, 191, 192, 193, 194, 195, 196, 197, 198, 199, 200, 201, 202, 203, 204, 205, 206, 207] (by decide +kernel) (by decide +kernel)) (goodIn_sub (fun _ h => List.mem_cons_of_mem _ (List.mem_append_left _ (List.mem_append_right _ h))) (by decide +kernel))) (goodIn_sub (fun _ h => List.mem_cons_of_mem _ (List.mem_append_left _ (List.mem_append_left _ (List.mem_append_right _ h)))) (by decide +kernel))) (goodIn_sub (fun _ h => List.mem_cons_of_mem _ (List.mem_append_right _ h)) (by decide +kernel))
set_option maxRecDepth 20000 in
theorem gL_act_X2_dress : GoodIn wsL_act (wsV RL 73 RX2 yX2_dress wsX2_dress) := goodIn_app (goodIn_of _ (by decide +kernel)) ggL_act_X2_dress
set_option maxRecDepth 20000 in
theorem ggL_act_X2_bring : GoodIn wsL_act wsX2_bring := goodIn_ca (goodIn_r _ [110, 67, 68, 103, 106, 14, 15, 16, 190, 191, 192, 193, 194, 195, 196, 197, 198] (by decide +kernel) (by decide +kernel)) (goodIn_sub (fun _ h => List.mem_cons_of_mem _ (List.mem_append_left _ (List.mem_append_right _ h))) (by decide +kernel))
set_option maxRecDepth 20000 in
theorem gL_act_X2_bring : GoodIn wsL_act (wsV RL 77 RX2 yX2_bring wsX2_bring) := goodIn_app (goodIn_of _ (by decide +kernel)) ggL_act_X2_bring
set_option maxRecDepth 20000 in
theorem ggL_act_X2_mend : GoodIn wsL_act wsX2_mend := goodIn_ca (goodIn_ca (goodIn_ca (goodIn_r _ [114, 91, 92, 67, 68, 43, 44, 103, 115, 116, 104, 117, 95, 96, 97, 41, 98, 46, 118, 119, 120, 49, 121, 60, 61, 122, 123, 124, 125, 58, 190, 191, 192, 193, 194, 195, 196, 197, 198, 199, 200, 201, 202, 203, 204, 205, 206, 207] (by decide +kernel) (by decide +kernel)) (goodIn_sub (fun _ h => List.mem_cons_of_mem _ (List.mem_append_right _ h)) (by decide +kernel))) (goodIn_sub (fun _ h => List.mem_cons_of_mem _ (List.mem_append_left _ (List.mem_append_right _ h))) (by decide +kernel))) (goodIn_sub (fun _ h => List.mem_cons_of_mem _ (List.mem_append_left _ (List.mem_append_left _ (List.mem_append_right _ h)))) (by decide +kernel))
set_option maxRecDepth 20000 in
theorem gL_act_X2_mend : GoodIn wsL_act (wsV RL 90 RX2 yX2_mend wsX2_mend) := goodIn_app (goodIn_of _ (by decide +kernel)) ggL_act_X2_mend
set_option maxRecDepth 20000 in
theorem ggL_act_X3_can : GoodIn wsL_act wsX3_can := goodIn_r _ [129, 33, 182, 183, 184, 185, 186, 187, 188, 189] (by decide +kernel) (by decide +kernel)
set_option maxRecDepth 20000 in
theorem gL_act_X3_can : GoodIn wsL_act (wsV RL 93 RX3 yX3_can wsX3_can) := goodIn_app (goodIn_of _ (by decide +kernel)) ggL_act_X3_can
set_option maxRecDepth 20000 in
theorem ggL_act_X3_broken : GoodIn wsL_act wsX3_broken := goodIn_r _ [133, 33, 182, 183, 184, 185, 186, 187, 188, 189] (by decide +kernel) (by decide +kernel)
set_option maxRecDepth 20000 in
theorem gL_act_X3_broken : GoodIn wsL_act (wsV RL 97 RX3 yX3_broken wsX3_broken) := goodIn_app (goodIn_of _ (by decide +kernel)) ggL_act_X3_broken
set_option maxRecDepth 20000 in
theorem ggL_act_X3_turn_ : GoodIn wsL_act wsX3_turn_ := goodIn_r _ [137, 33, 138, 139, 5, 140, 182, 183, 184, 185, 186, 187, 188, 189] (by decide +kernel) (by decide +kernel)
set_option maxRecDepth 20000 in
theorem gL_act_X3_turn_ : GoodIn wsL_act (wsV RL 100 RX3 yX3_turn_ wsX3_turn_) := goodIn_app (goodIn_of _ (by decide +kernel)) ggL_act_X3_turn_
