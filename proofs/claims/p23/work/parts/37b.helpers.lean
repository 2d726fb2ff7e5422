theorem dL_below_0 : decode cL_below 0 = .ok (.iload_n 0, 1) := by decide +kernel
theorem dL_below_1 : decode cL_below 1 = .ok (.ldc 7, 2) := by decide +kernel
theorem dL_below_3 : decode cL_below 3 = .ok (.iand, 1) := by decide +kernel
theorem dL_below_4 : decode cL_below 4 = .ok (.iload_n 1, 1) := by decide +kernel
theorem dL_below_5 : decode cL_below 5 = .ok (.irem, 1) := by decide +kernel
theorem dL_below_6 : decode cL_below 6 = .ok (.ireturn, 1) := by decide +kernel
theorem dL_cell_0 : decode cL_cell 0 = .ok (.iload_n 1, 1) := by decide +kernel
theorem dL_cell_1 : decode cL_cell 1 = .ok (.aload_n 0, 1) := by decide +kernel
theorem dL_cell_2 : decode cL_cell 2 = .ok (.arraylength, 1) := by decide +kernel
theorem dL_cell_3 : decode cL_cell 3 = .ok (.if_icmp .ge 9, 3) := by decide +kernel
theorem dL_cell_6 : decode cL_cell 6 = .ok (.aload_n 0, 1) := by decide +kernel
theorem dL_cell_7 : decode cL_cell 7 = .ok (.iload_n 1, 1) := by decide +kernel
theorem dL_cell_8 : decode cL_cell 8 = .ok (.iaload, 1) := by decide +kernel
theorem dL_cell_9 : decode cL_cell 9 = .ok (.goto 9, 3) := by decide +kernel
theorem dL_cell_12 : decode cL_cell 12 = .ok (.ldc 8, 2) := by decide +kernel
theorem dL_cell_14 : decode cL_cell 14 = .ok (.iload_n 1, 1) := by decide +kernel
theorem dL_cell_15 : decode cL_cell 15 = .ok (.iconst 3, 1) := by decide +kernel
theorem dL_cell_16 : decode cL_cell 16 = .ok (.iadd, 1) := by decide +kernel
theorem dL_cell_17 : decode cL_cell 17 = .ok (.imul, 1) := by decide +kernel
theorem dL_cell_18 : decode cL_cell 18 = .ok (.ireturn, 1) := by decide +kernel
set_option maxRecDepth 20000 in
theorem ggL_act_L_below : GoodIn wsL_act wsL_below := goodIn_r _ [25, 26] (by decide +kernel) (by decide +kernel)
set_option maxRecDepth 20000 in
theorem gL_act_L_below : GoodIn wsL_act (va_wsS RL 19 yL_below wsL_below) := goodIn_app (goodIn_of _ (by decide +kernel)) ggL_act_L_below
set_option maxRecDepth 20000 in
theorem ggL_act_X3_init : GoodIn wsL_act wsX3_init := goodIn_r _ [28, 29, 30, 31, 32, 6, 33, 34, 35, 36, 37, 182, 183, 184, 185, 186, 187, 188, 189] (by decide +kernel) (by decide +kernel)
set_option maxRecDepth 20000 in
theorem gL_act_X3_init_n27 : GoodIn wsL_act (wsX3_init) := ggL_act_X3_init
set_option maxRecDepth 20000 in
theorem ggL_act_X2_make : GoodIn wsL_act wsX2_make := goodIn_ca (goodIn_r _ [42, 43, 44, 45, 46, 47, 48, 49, 50, 51, 52, 53, 30, 31, 6, 54, 55, 56, 34, 57, 58, 59, 60, 61, 62, 190, 191, 192, 193, 194, 195, 196, 197, 198, 199, 200, 201, 202, 203, 204, 205, 206, 207] (by decide +kernel) (by decide +kernel)) (goodIn_sub (fun _ h => List.mem_cons_of_mem _ (List.mem_append_left _ (List.mem_append_left _ (List.mem_append_right _ h)))) (by decide +kernel))
set_option maxRecDepth 20000 in
theorem gL_act_X2_make : GoodIn wsL_act (wsV RL 28 RX2 yX2_make wsX2_make) := goodIn_app (goodIn_of _ (by decide +kernel)) ggL_act_X2_make
set_option maxRecDepth 20000 in
theorem ggL_act_X2_pose : GoodIn wsL_act wsX2_pose := goodIn_ca (goodIn_ca (goodIn_r _ [66, 67, 68, 43, 44, 69, 70, 71, 72, 73, 74, 75, 76, 41, 77, 78, 79, 80, 30, 31, 6, 81, 190, 191, 192, 193, 194, 195, 196, 197, 198, 208] (by decide +kernel) (by decide +kernel)) (goodIn_sub (fun _ h => List.mem_cons_of_mem _ (List.mem_append_left _ (List.mem_append_right _ h))) (by decide +kernel))) (goodIn_sub (fun _ h => List.mem_cons_of_mem _ (List.mem_append_left _ (List.mem_append_left _ (List.mem_append_right _ h)))) (by decide +kernel))
set_option maxRecDepth 20000 in
theorem gL_act_X2_pose : GoodIn wsL_act (wsV RL 36 RX2 yX2_pose wsX2_pose) := goodIn_app (goodIn_of _ (by decide +kernel)) ggL_act_X2_pose
set_option maxRecDepth 20000 in
theorem ggL_act_X2_setMoths : GoodIn wsL_act wsX2_setMoths := goodIn_ca (goodIn_r _ [85, 67, 68, 86, 190, 191, 192, 193, 194, 195, 196, 197, 198] (by decide +kernel) (by decide +kernel)) (goodIn_sub (fun _ h => List.mem_cons_of_mem _ (List.mem_append_left _ (List.mem_append_right _ h))) (by decide +kernel))
set_option maxRecDepth 20000 in
theorem gL_act_X2_setMoths : GoodIn wsL_act (wsV RL 44 RX2 yX2_setMoths wsX2_setMoths) := goodIn_app (goodIn_of _ (by decide +kernel)) ggL_act_X2_setMoths
set_option maxRecDepth 20000 in
theorem ggL_act_X2_blink : GoodIn wsL_act wsX2_blink := goodIn_ca (goodIn_ca (goodIn_r _ [90, 91, 92, 43, 44, 93, 94, 95, 96, 97, 41, 98, 46, 199, 200, 201, 202, 203, 204, 205, 206, 207, 190, 191, 192, 193, 194, 195, 196, 197, 198] (by decide +kernel) (by decide +kernel)) (goodIn_sub (fun _ h => List.mem_cons_of_mem _ (List.mem_append_right _ h)) (by decide +kernel))) (goodIn_sub (fun _ h => List.mem_cons_of_mem _ (List.mem_append_left _ (List.mem_append_left _ (List.mem_append_right _ h)))) (by decide +kernel))
set_option maxRecDepth 20000 in
theorem gL_act_X2_blink : GoodIn wsL_act (wsV RL 55 RX2 yX2_blink wsX2_blink) := goodIn_app (goodIn_of _ (by decide +kernel)) ggL_act_X2_blink
set_option maxRecDepth 20000 in
theorem ggL_act_X2_dress : GoodIn wsL_act wsX2_dress := goodIn_ca (goodIn_ca (goodIn_ca (goodIn_r _ [102, 67, 68, 43, 44, 103, 104, 105, 106, 14, 15, 16, 95, 96, 97, 41, 98, 91, 92, 46, 190, 191, 192, 193, 194, 195, 196, 197, 198, 199, 200, 201, 202, 203, 204, 205, 206, 207] (by decide +kernel) (by decide +kernel)) (goodIn_sub (fun _ h => List.mem_cons_of_mem _ (List.mem_append_left _ (List.mem_append_right _ h))) (by decide +kernel))) (goodIn_sub (fun _ h => List.mem_cons_of_mem _ (List.mem_append_left _ (List.mem_append_left _ (List.mem_append_right _ h)))) (by decide +kernel))) (goodIn_sub (fun _ h => List.mem_cons_of_mem _ (List.mem_append_right _ h)) (by decide +kernel))
set_option maxRecDepth 20000 in
theorem gL_act_X2_dress : GoodIn wsL_act (wsV RL 73 RX2 yX2_dress wsX2_dress) := goodIn_app (goodIn_of _ (by decide +kernel)) ggL_act_X2_dress
set_option maxRecDepth 20000 in
theorem ggL_act_X2_bring : GoodIn wsL_act wsX2_bring := goodIn_ca (goodIn_r _ [110, 67, 68, 103, 106, 14, 15, 16, 190, 191, 192, 193, 194, 195, 196, 197, 198] (by decide +kernel) (by decide +kernel)) (goodIn_sub (fun _ h => List.mem_cons_of_mem _ (List.mem_append_left _ (List.mem_append_right _ h))) (by decide +kernel))
set_option maxRecDepth 20000 in
theorem gL_act_X2_bring : GoodIn wsL_act (wsV RL 77 RX2 yX2_bring wsX2_bring) := goodIn_app (goodIn_of _ (by decide +kernel)) ggL_act_X2_bring
set_option maxRecDepth 20000 in
theorem ggL_act_X2_mend : GoodIn wsL_act wsX2_mend := goodIn_ca (goodIn_ca (goodIn_ca (goodIn_r _ [114, 91, 92, 67, 68, 43, 44, 103, 115, 116, 104, 117, 95, 96, 97, 41, 98, 46, 118, 119, 120, 49, 121, 60, 61, 122, 123, 124, 125, 58, 190, 191, 192, 193, 194, 195, 196, 197, 198, 199, 200, 201, 202, 203, 204, 205, 206, 207] (by decide +kernel) (by decide +kernel)) (goodIn_sub (fun _ h => List.mem_cons_of_mem _ (List.mem_append_right _ h)) (by decide +kernel))) (goodIn_sub (fun _ h => List.mem_cons_of_mem _ (List.mem_append_left _ (List.mem_append_right _ h))) (by decide +kernel))) (goodIn_sub (fun _ h => List.mem_cons_of_mem _ (List.mem_append_left _ (List.mem_append_left _ (List.mem_append_right _ h)))) (by decide +kernel))
set_option maxRecDepth 20000 in
theorem gL_act_X2_mend : GoodIn wsL_act (wsV RL 90 RX2 yX2_mend wsX2_mend) := goodIn_app (goodIn_of _ (by decide +kernel)) ggL_act_X2_mend
set_option maxRecDepth 20000 in
theorem ggL_act_X3_can : GoodIn wsL_act wsX3_can := goodIn_r _ [129, 33, 182, 183, 184, 185, 186, 187, 188, 189] (by decide +kernel) (by decide +kernel)
set_option maxRecDepth 20000 in
theorem gL_act_X3_can : GoodIn wsL_act (wsV RL 93 RX3 yX3_can wsX3_can) := goodIn_app (goodIn_of _ (by decide +kernel)) ggL_act_X3_can
set_option maxRecDepth 20000 in
theorem ggL_act_X3_broken : GoodIn wsL_act wsX3_broken := goodIn_r _ [133, 33, 182, 183, 184, 185, 186, 187, 188, 189] (by decide +kernel) (by decide +kernel)
set_option maxRecDepth 20000 in
theorem gL_act_X3_broken : GoodIn wsL_act (wsV RL 97 RX3 yX3_broken wsX3_broken) := goodIn_app (goodIn_of _ (by decide +kernel)) ggL_act_X3_broken
set_option maxRecDepth 20000 in
theorem ggL_act_X3_turn_ : GoodIn wsL_act wsX3_turn_ := goodIn_r _ [137, 33, 138, 139, 5, 140, 182, 183, 184, 185, 186, 187, 188, 189] (by decide +kernel) (by decide +kernel)
set_option maxRecDepth 20000 in
theorem gL_act_X3_turn_ : GoodIn wsL_act (wsV RL 100 RX3 yX3_turn_ wsX3_turn_) := goodIn_app (goodIn_of _ (by decide +kernel)) ggL_act_X3_turn_
set_option maxRecDepth 20000 in
theorem ggL_act_X2_take : GoodIn wsL_act wsX2_take := goodIn_ca (goodIn_ca (goodIn_r _ [144, 43, 44, 145, 95, 96, 97, 41, 98, 91, 92, 46, 146, 147, 148, 149, 70, 150, 151, 152, 49, 153, 55, 54, 154, 155, 156, 157, 158, 159, 160, 161, 162, 163, 164, 165, 166, 167, 168, 15, 169, 56, 170, 171, 172, 173, 174, 175, 176, 14, 16, 199, 200, 201, 202, 203, 204, 205, 206, 207, 190, 191, 192, 193, 194, 195, 196, 197, 198, 208] (by decide +kernel) (by decide +kernel)) (goodIn_sub (fun _ h => List.mem_cons_of_mem _ (List.mem_append_left _ (List.mem_append_left _ (List.mem_append_right _ h)))) (by decide +kernel))) (goodIn_sub (fun _ h => List.mem_cons_of_mem _ (List.mem_append_right _ h)) (by decide +kernel))
set_option maxRecDepth 20000 in
theorem gL_act_X2_take : GoodIn wsL_act (wsV RL 107 RX2 yX2_take wsX2_take) := goodIn_app (goodIn_of _ (by decide +kernel)) ggL_act_X2_take
theorem dL_act_0 : decode cL_act 0 = .ok (.aload_n 1, 1) := by decide +kernel
theorem dL_act_1 : decode cL_act 1 = .ok (.getfield 9, 3) := by decide +kernel
theorem dL_act_4 : decode cL_act 4 = .ok (.arraylength, 1) := by decide +kernel
theorem dL_act_5 : decode cL_act 5 = .ok (.istore_n 3, 1) := by decide +kernel
theorem dL_act_6 : decode cL_act 6 = .ok (.aload_n 1, 1) := by decide +kernel
theorem dL_act_7 : decode cL_act 7 = .ok (.getfield 15, 3) := by decide +kernel
theorem dL_act_10 : decode cL_act 10 = .ok (.arraylength, 1) := by decide +kernel
theorem dL_act_11 : decode cL_act 11 = .ok (.istore 4, 2) := by decide +kernel
theorem dL_act_13 : decode cL_act 13 = .ok (.iload_n 3, 1) := by decide +kernel
theorem dL_act_14 : decode cL_act 14 = .ok (.ifCond .ne 7, 3) := by decide +kernel
theorem dL_act_17 : decode cL_act 17 = .ok (.iconst 0, 1) := by decide +kernel
theorem dL_act_18 : decode cL_act 18 = .ok (.goto 8, 3) := by decide +kernel
theorem dL_act_21 : decode cL_act 21 = .ok (.iload_n 2, 1) := by decide +kernel
theorem dL_act_22 : decode cL_act 22 = .ok (.iload_n 3, 1) := by decide +kernel
theorem dL_act_23 : decode cL_act 23 = .ok (.invokestatic 19, 3) := by decide +kernel
theorem dL_act_26 : decode cL_act 26 = .ok (.istore 5, 2) := by decide +kernel
theorem dL_act_28 : decode cL_act 28 = .ok (.iload_n 3, 1) := by decide +kernel
theorem dL_act_29 : decode cL_act 29 = .ok (.ifCond .ne 7, 3) := by decide +kernel
theorem dL_act_32 : decode cL_act 32 = .ok (.aconst_null, 1) := by decide +kernel
theorem dL_act_33 : decode cL_act 33 = .ok (.goto 10, 3) := by decide +kernel
theorem dL_act_36 : decode cL_act 36 = .ok (.aload_n 1, 1) := by decide +kernel
theorem dL_act_37 : decode cL_act 37 = .ok (.getfield 9, 3) := by decide +kernel
theorem dL_act_40 : decode cL_act 40 = .ok (.iload 5, 2) := by decide +kernel
theorem dL_act_42 : decode cL_act 42 = .ok (.aaload, 1) := by decide +kernel
theorem dL_act_43 : decode cL_act 43 = .ok (.astore 6, 2) := by decide +kernel
theorem dL_act_45 : decode cL_act 45 = .ok (.iload_n 3, 1) := by decide +kernel
theorem dL_act_46 : decode cL_act 46 = .ok (.ifCond .ne 7, 3) := by decide +kernel
theorem dL_act_49 : decode cL_act 49 = .ok (.iconst 0, 1) := by decide +kernel
theorem dL_act_50 : decode cL_act 50 = .ok (.goto 12, 3) := by decide +kernel
theorem dL_act_53 : decode cL_act 53 = .ok (.iload_n 2, 1) := by decide +kernel
theorem dL_act_54 : decode cL_act 54 = .ok (.bipush 9, 2) := by decide +kernel
theorem dL_act_56 : decode cL_act 56 = .ok (.ishr, 1) := by decide +kernel
theorem dL_act_57 : decode cL_act 57 = .ok (.bipush 17, 2) := by decide +kernel
theorem dL_act_59 : decode cL_act 59 = .ok (.invokestatic 19, 3) := by decide +kernel
theorem dL_act_62 : decode cL_act 62 = .ok (.tableswitch 750 0 11 #[62, 136, 136, 290, 326, 326, 399, 399, 505, 505, 572, 572], 62) := by decide +kernel
theorem dL_act_124 : decode cL_act 124 = .ok (.iload_n 3, 1) := by decide +kernel
theorem dL_act_125 : decode cL_act 125 = .ok (.bipush 8, 2) := by decide +kernel
theorem dL_act_127 : decode cL_act 127 = .ok (.if_icmp .ne 5, 3) := by decide +kernel
theorem dL_act_130 : decode cL_act 130 = .ok (.iconst 1, 1) := by decide +kernel
theorem dL_act_131 : decode cL_act 131 = .ok (.ireturn, 1) := by decide +kernel
theorem dL_act_132 : decode cL_act 132 = .ok (.iload_n 3, 1) := by decide +kernel
theorem dL_act_133 : decode cL_act 133 = .ok (.iconst 1, 1) := by decide +kernel
theorem dL_act_134 : decode cL_act 134 = .ok (.iadd, 1) := by decide +kernel
theorem dL_act_135 : decode cL_act 135 = .ok (.anewarray 25, 3) := by decide +kernel
theorem dL_act_138 : decode cL_act 138 = .ok (.astore 7, 2) := by decide +kernel
theorem dL_act_140 : decode cL_act 140 = .ok (.iconst 0, 1) := by decide +kernel
theorem dL_act_141 : decode cL_act 141 = .ok (.istore 8, 2) := by decide +kernel
theorem dL_act_143 : decode cL_act 143 = .ok (.iload 8, 2) := by decide +kernel
theorem dL_act_145 : decode cL_act 145 = .ok (.iload_n 3, 1) := by decide +kernel
theorem dL_act_146 : decode cL_act 146 = .ok (.if_icmp .ge 21, 3) := by decide +kernel
theorem dL_act_149 : decode cL_act 149 = .ok (.aload 7, 2) := by decide +kernel
theorem dL_act_151 : decode cL_act 151 = .ok (.iload 8, 2) := by decide +kernel
theorem dL_act_153 : decode cL_act 153 = .ok (.aload_n 1, 1) := by decide +kernel
theorem dL_act_154 : decode cL_act 154 = .ok (.getfield 9, 3) := by decide +kernel
theorem dL_act_157 : decode cL_act 157 = .ok (.iload 8, 2) := by decide +kernel
theorem dL_act_159 : decode cL_act 159 = .ok (.aaload, 1) := by decide +kernel
theorem dL_act_160 : decode cL_act 160 = .ok (.aastore, 1) := by decide +kernel
theorem dL_act_161 : decode cL_act 161 = .ok (.iinc 8 1, 3) := by decide +kernel
theorem dL_act_164 : decode cL_act 164 = .ok (.goto (-21), 3) := by decide +kernel
theorem dL_act_167 : decode cL_act 167 = .ok (.aload 7, 2) := by decide +kernel
theorem dL_act_169 : decode cL_act 169 = .ok (.iload_n 3, 1) := by decide +kernel
theorem dL_act_170 : decode cL_act 170 = .ok (.new 25, 3) := by decide +kernel
theorem dL_act_173 : decode cL_act 173 = .ok (.dup, 1) := by decide +kernel
theorem dL_act_174 : decode cL_act 174 = .ok (.invokespecial 27, 3) := by decide +kernel
theorem dL_act_177 : decode cL_act 177 = .ok (.aastore, 1) := by decide +kernel
theorem dL_act_178 : decode cL_act 178 = .ok (.aload_n 1, 1) := by decide +kernel
theorem dL_act_179 : decode cL_act 179 = .ok (.aload 7, 2) := by decide +kernel
theorem dL_act_181 : decode cL_act 181 = .ok (.putfield 9, 3) := by decide +kernel
theorem dL_act_184 : decode cL_act 184 = .ok (.aload_n 0, 1) := by decide +kernel
theorem dL_act_185 : decode cL_act 185 = .ok (.invokevirtual 28, 3) := by decide +kernel
theorem dL_act_188 : decode cL_act 188 = .ok (.iload_n 3, 1) := by decide +kernel
theorem dL_act_189 : decode cL_act 189 = .ok (.if_icmp .ne 7, 3) := by decide +kernel
theorem dL_act_192 : decode cL_act 192 = .ok (.iconst 1, 1) := by decide +kernel
theorem dL_act_193 : decode cL_act 193 = .ok (.goto 4, 3) := by decide +kernel
theorem dL_act_196 : decode cL_act 196 = .ok (.iconst 0, 1) := by decide +kernel
theorem dL_act_197 : decode cL_act 197 = .ok (.ireturn, 1) := by decide +kernel
theorem dL_act_198 : decode cL_act 198 = .ok (.iload 4, 2) := by decide +kernel
theorem dL_act_200 : decode cL_act 200 = .ok (.bipush 8, 2) := by decide +kernel
theorem dL_act_202 : decode cL_act 202 = .ok (.if_icmp .ne 5, 3) := by decide +kernel
theorem dL_act_205 : decode cL_act 205 = .ok (.iconst 1, 1) := by decide +kernel
theorem dL_act_206 : decode cL_act 206 = .ok (.ireturn, 1) := by decide +kernel
theorem dL_act_207 : decode cL_act 207 = .ok (.bipush 6, 2) := by decide +kernel
theorem dL_act_209 : decode cL_act 209 = .ok (.newarray .int, 2) := by decide +kernel
theorem dL_act_211 : decode cL_act 211 = .ok (.astore 8, 2) := by decide +kernel
theorem dL_act_213 : decode cL_act 213 = .ok (.iconst 0, 1) := by decide +kernel
theorem dL_act_214 : decode cL_act 214 = .ok (.istore 9, 2) := by decide +kernel
theorem dL_act_216 : decode cL_act 216 = .ok (.iload 9, 2) := by decide +kernel
theorem dL_act_218 : decode cL_act 218 = .ok (.bipush 6, 2) := by decide +kernel
theorem dL_act_220 : decode cL_act 220 = .ok (.if_icmp .ge 43, 3) := by decide +kernel
theorem dL_act_223 : decode cL_act 223 = .ok (.aload 8, 2) := by decide +kernel
theorem dL_act_225 : decode cL_act 225 = .ok (.iload 9, 2) := by decide +kernel
theorem dL_act_227 : decode cL_act 227 = .ok (.iload_n 2, 1) := by decide +kernel
theorem dL_act_228 : decode cL_act 228 = .ok (.iload 9, 2) := by decide +kernel
theorem dL_act_230 : decode cL_act 230 = .ok (.ishr, 1) := by decide +kernel
theorem dL_act_231 : decode cL_act 231 = .ok (.bipush 17, 2) := by decide +kernel
theorem dL_act_233 : decode cL_act 233 = .ok (.iload 9, 2) := by decide +kernel
theorem dL_act_235 : decode cL_act 235 = .ok (.imul, 1) := by decide +kernel
theorem dL_act_236 : decode cL_act 236 = .ok (.iadd, 1) := by decide +kernel
theorem dL_act_237 : decode cL_act 237 = .ok (.iload_n 2, 1) := by decide +kernel
theorem dL_act_238 : decode cL_act 238 = .ok (.iconst 3, 1) := by decide +kernel
theorem dL_act_239 : decode cL_act 239 = .ok (.ishr, 1) := by decide +kernel
theorem dL_act_240 : decode cL_act 240 = .ok (.iconst 2, 1) := by decide +kernel
theorem dL_act_241 : decode cL_act 241 = .ok (.invokestatic 19, 3) := by decide +kernel
theorem dL_act_244 : decode cL_act 244 = .ok (.ifCond .ne 8, 3) := by decide +kernel
theorem dL_act_247 : decode cL_act 247 = .ok (.bipush 91, 2) := by decide +kernel
theorem dL_act_249 : decode cL_act 249 = .ok (.goto 4, 3) := by decide +kernel
theorem dL_act_252 : decode cL_act 252 = .ok (.iconst 3, 1) := by decide +kernel
theorem dL_act_253 : decode cL_act 253 = .ok (.invokestatic 19, 3) := by decide +kernel
theorem dL_act_256 : decode cL_act 256 = .ok (.iastore, 1) := by decide +kernel
theorem dL_act_257 : decode cL_act 257 = .ok (.iinc 9 1, 3) := by decide +kernel
theorem dL_act_260 : decode cL_act 260 = .ok (.goto (-44), 3) := by decide +kernel
theorem dL_act_263 : decode cL_act 263 = .ok (.iload 4, 2) := by decide +kernel
theorem dL_act_265 : decode cL_act 265 = .ok (.iconst 1, 1) := by decide +kernel
theorem dL_act_266 : decode cL_act 266 = .ok (.iadd, 1) := by decide +kernel
theorem dL_act_267 : decode cL_act 267 = .ok (.anewarray 34, 3) := by decide +kernel
theorem dL_act_270 : decode cL_act 270 = .ok (.astore 9, 2) := by decide +kernel
theorem dL_act_272 : decode cL_act 272 = .ok (.iconst 0, 1) := by decide +kernel
theorem dL_act_273 : decode cL_act 273 = .ok (.istore 10, 2) := by decide +kernel
theorem dL_act_275 : decode cL_act 275 = .ok (.iload 10, 2) := by decide +kernel
theorem dL_act_277 : decode cL_act 277 = .ok (.iload 4, 2) := by decide +kernel
theorem dL_act_279 : decode cL_act 279 = .ok (.if_icmp .ge 21, 3) := by decide +kernel
theorem dL_act_282 : decode cL_act 282 = .ok (.aload 9, 2) := by decide +kernel
theorem dL_act_284 : decode cL_act 284 = .ok (.iload 10, 2) := by decide +kernel
theorem dL_act_286 : decode cL_act 286 = .ok (.aload_n 1, 1) := by decide +kernel
theorem dL_act_287 : decode cL_act 287 = .ok (.getfield 15, 3) := by decide +kernel
theorem dL_act_290 : decode cL_act 290 = .ok (.iload 10, 2) := by decide +kernel
theorem dL_act_292 : decode cL_act 292 = .ok (.aaload, 1) := by decide +kernel
theorem dL_act_293 : decode cL_act 293 = .ok (.aastore, 1) := by decide +kernel
theorem dL_act_294 : decode cL_act 294 = .ok (.iinc 10 1, 3) := by decide +kernel
theorem dL_act_297 : decode cL_act 297 = .ok (.goto (-22), 3) := by decide +kernel
theorem dL_act_300 : decode cL_act 300 = .ok (.aload 9, 2) := by decide +kernel
theorem dL_act_302 : decode cL_act 302 = .ok (.iload 4, 2) := by decide +kernel
theorem dL_act_304 : decode cL_act 304 = .ok (.aload 8, 2) := by decide +kernel
theorem dL_act_306 : decode cL_act 306 = .ok (.aastore, 1) := by decide +kernel
theorem dL_act_307 : decode cL_act 307 = .ok (.aload_n 1, 1) := by decide +kernel
theorem dL_act_308 : decode cL_act 308 = .ok (.aload 9, 2) := by decide +kernel
theorem dL_act_310 : decode cL_act 310 = .ok (.putfield 15, 3) := by decide +kernel
theorem dL_act_313 : decode cL_act 313 = .ok (.aload_n 0, 1) := by decide +kernel
theorem dL_act_314 : decode cL_act 314 = .ok (.aload 8, 2) := by decide +kernel
theorem dL_act_316 : decode cL_act 316 = .ok (.iconst 0, 1) := by decide +kernel
theorem dL_act_317 : decode cL_act 317 = .ok (.iaload, 1) := by decide +kernel
theorem dL_act_318 : decode cL_act 318 = .ok (.aload 8, 2) := by decide +kernel
theorem dL_act_320 : decode cL_act 320 = .ok (.iconst 1, 1) := by decide +kernel
theorem dL_act_321 : decode cL_act 321 = .ok (.iaload, 1) := by decide +kernel
theorem dL_act_322 : decode cL_act 322 = .ok (.aload 8, 2) := by decide +kernel
theorem dL_act_324 : decode cL_act 324 = .ok (.iconst 2, 1) := by decide +kernel
theorem dL_act_325 : decode cL_act 325 = .ok (.iaload, 1) := by decide +kernel
theorem dL_act_326 : decode cL_act 326 = .ok (.aload 8, 2) := by decide +kernel
theorem dL_act_328 : decode cL_act 328 = .ok (.iconst 3, 1) := by decide +kernel
theorem dL_act_329 : decode cL_act 329 = .ok (.iaload, 1) := by decide +kernel
theorem dL_act_330 : decode cL_act 330 = .ok (.aload 8, 2) := by decide +kernel
theorem dL_act_332 : decode cL_act 332 = .ok (.iconst 4, 1) := by decide +kernel
theorem dL_act_333 : decode cL_act 333 = .ok (.iaload, 1) := by decide +kernel
theorem dL_act_334 : decode cL_act 334 = .ok (.aload 8, 2) := by decide +kernel
theorem dL_act_336 : decode cL_act 336 = .ok (.iconst 5, 1) := by decide +kernel
theorem dL_act_337 : decode cL_act 337 = .ok (.iaload, 1) := by decide +kernel
theorem dL_act_338 : decode cL_act 338 = .ok (.invokevirtual 36, 3) := by decide +kernel
theorem dL_act_341 : decode cL_act 341 = .ok (.iload 4, 2) := by decide +kernel
theorem dL_act_343 : decode cL_act 343 = .ok (.if_icmp .ne 7, 3) := by decide +kernel
theorem dL_act_346 : decode cL_act 346 = .ok (.iconst 1, 1) := by decide +kernel
theorem dL_act_347 : decode cL_act 347 = .ok (.goto 4, 3) := by decide +kernel
theorem dL_act_350 : decode cL_act 350 = .ok (.iconst 0, 1) := by decide +kernel
theorem dL_act_351 : decode cL_act 351 = .ok (.ireturn, 1) := by decide +kernel
theorem dL_act_352 : decode cL_act 352 = .ok (.aload_n 1, 1) := by decide +kernel
theorem dL_act_353 : decode cL_act 353 = .ok (.getfield 40, 3) := by decide +kernel
theorem dL_act_356 : decode cL_act 356 = .ok (.istore 10, 2) := by decide +kernel
theorem dL_act_358 : decode cL_act 358 = .ok (.aload_n 1, 1) := by decide +kernel
theorem dL_act_359 : decode cL_act 359 = .ok (.iload_n 2, 1) := by decide +kernel
theorem dL_act_360 : decode cL_act 360 = .ok (.iconst 4, 1) := by decide +kernel
theorem dL_act_361 : decode cL_act 361 = .ok (.ishr, 1) := by decide +kernel
theorem dL_act_362 : decode cL_act 362 = .ok (.iconst 4, 1) := by decide +kernel
theorem dL_act_363 : decode cL_act 363 = .ok (.invokestatic 19, 3) := by decide +kernel
theorem dL_act_366 : decode cL_act 366 = .ok (.putfield 40, 3) := by decide +kernel
theorem dL_act_369 : decode cL_act 369 = .ok (.aload_n 0, 1) := by decide +kernel
theorem dL_act_370 : decode cL_act 370 = .ok (.aload_n 1, 1) := by decide +kernel
theorem dL_act_371 : decode cL_act 371 = .ok (.getfield 40, 3) := by decide +kernel
theorem dL_act_374 : decode cL_act 374 = .ok (.invokevirtual 44, 3) := by decide +kernel
theorem dL_act_377 : decode cL_act 377 = .ok (.iload 10, 2) := by decide +kernel
theorem dL_act_379 : decode cL_act 379 = .ok (.if_icmp .ne 7, 3) := by decide +kernel
theorem dL_act_382 : decode cL_act 382 = .ok (.iconst 1, 1) := by decide +kernel
theorem dL_act_383 : decode cL_act 383 = .ok (.goto 4, 3) := by decide +kernel
theorem dL_act_386 : decode cL_act 386 = .ok (.iconst 0, 1) := by decide +kernel
theorem dL_act_387 : decode cL_act 387 = .ok (.ireturn, 1) := by decide +kernel
theorem dL_act_388 : decode cL_act 388 = .ok (.iload_n 2, 1) := by decide +kernel
theorem dL_act_389 : decode cL_act 389 = .ok (.iconst 3, 1) := by decide +kernel
theorem dL_act_390 : decode cL_act 390 = .ok (.ishr, 1) := by decide +kernel
theorem dL_act_391 : decode cL_act 391 = .ok (.iconst 2, 1) := by decide +kernel
theorem dL_act_392 : decode cL_act 392 = .ok (.invokestatic 19, 3) := by decide +kernel
theorem dL_act_395 : decode cL_act 395 = .ok (.istore 11, 2) := by decide +kernel
theorem dL_act_397 : decode cL_act 397 = .ok (.aload 6, 2) := by decide +kernel
theorem dL_act_399 : decode cL_act 399 = .ok (.getfield 48, 3) := by decide +kernel
theorem dL_act_402 : decode cL_act 402 = .ok (.iload 11, 2) := by decide +kernel
theorem dL_act_404 : decode cL_act 404 = .ok (.iaload, 1) := by decide +kernel
theorem dL_act_405 : decode cL_act 405 = .ok (.bipush 9, 2) := by decide +kernel
theorem dL_act_407 : decode cL_act 407 = .ok (.if_icmp .ne 5, 3) := by decide +kernel
theorem dL_act_410 : decode cL_act 410 = .ok (.iconst 1, 1) := by decide +kernel
theorem dL_act_411 : decode cL_act 411 = .ok (.ireturn, 1) := by decide +kernel
theorem dL_act_412 : decode cL_act 412 = .ok (.aload 6, 2) := by decide +kernel
theorem dL_act_414 : decode cL_act 414 = .ok (.getfield 51, 3) := by decide +kernel
theorem dL_act_417 : decode cL_act 417 = .ok (.iload 11, 2) := by decide +kernel
theorem dL_act_419 : decode cL_act 419 = .ok (.aload 6, 2) := by decide +kernel
theorem dL_act_421 : decode cL_act 421 = .ok (.getfield 51, 3) := by decide +kernel
theorem dL_act_424 : decode cL_act 424 = .ok (.iload 11, 2) := by decide +kernel
theorem dL_act_426 : decode cL_act 426 = .ok (.baload, 1) := by decide +kernel
theorem dL_act_427 : decode cL_act 427 = .ok (.ifCond .ne 7, 3) := by decide +kernel
theorem dL_act_430 : decode cL_act 430 = .ok (.iconst 1, 1) := by decide +kernel
theorem dL_act_431 : decode cL_act 431 = .ok (.goto 4, 3) := by decide +kernel
theorem dL_act_434 : decode cL_act 434 = .ok (.iconst 0, 1) := by decide +kernel
theorem dL_act_435 : decode cL_act 435 = .ok (.bastore, 1) := by decide +kernel
theorem dL_act_436 : decode cL_act 436 = .ok (.aload_n 0, 1) := by decide +kernel
theorem dL_act_437 : decode cL_act 437 = .ok (.iload 5, 2) := by decide +kernel
theorem dL_act_439 : decode cL_act 439 = .ok (.iload 11, 2) := by decide +kernel
theorem dL_act_441 : decode cL_act 441 = .ok (.invokevirtual 55, 3) := by decide +kernel
theorem dL_act_444 : decode cL_act 444 = .ok (.aload 6, 2) := by decide +kernel
theorem dL_act_446 : decode cL_act 446 = .ok (.getfield 51, 3) := by decide +kernel
theorem dL_act_449 : decode cL_act 449 = .ok (.iload 11, 2) := by decide +kernel
theorem dL_act_451 : decode cL_act 451 = .ok (.baload, 1) := by decide +kernel
theorem dL_act_452 : decode cL_act 452 = .ok (.if_icmp .ne 7, 3) := by decide +kernel
theorem dL_act_455 : decode cL_act 455 = .ok (.iconst 1, 1) := by decide +kernel
theorem dL_act_456 : decode cL_act 456 = .ok (.goto 4, 3) := by decide +kernel
theorem dL_act_459 : decode cL_act 459 = .ok (.iconst 0, 1) := by decide +kernel
theorem dL_act_460 : decode cL_act 460 = .ok (.ireturn, 1) := by decide +kernel
theorem dL_act_461 : decode cL_act 461 = .ok (.iconst 1, 1) := by decide +kernel
theorem dL_act_462 : decode cL_act 462 = .ok (.iload_n 2, 1) := by decide +kernel
theorem dL_act_463 : decode cL_act 463 = .ok (.iconst 2, 1) := by decide +kernel
theorem dL_act_464 : decode cL_act 464 = .ok (.ishr, 1) := by decide +kernel
theorem dL_act_465 : decode cL_act 465 = .ok (.bipush 9, 2) := by decide +kernel
theorem dL_act_467 : decode cL_act 467 = .ok (.invokestatic 19, 3) := by decide +kernel
theorem dL_act_470 : decode cL_act 470 = .ok (.iadd, 1) := by decide +kernel
theorem dL_act_471 : decode cL_act 471 = .ok (.istore 12, 2) := by decide +kernel
theorem dL_act_473 : decode cL_act 473 = .ok (.iload 12, 2) := by decide +kernel
theorem dL_act_475 : decode cL_act 475 = .ok (.iload_n 2, 1) := by decide +kernel
theorem dL_act_476 : decode cL_act 476 = .ok (.iconst 4, 1) := by decide +kernel
theorem dL_act_477 : decode cL_act 477 = .ok (.ishr, 1) := by decide +kernel
theorem dL_act_478 : decode cL_act 478 = .ok (.bipush 13, 2) := by decide +kernel
theorem dL_act_480 : decode cL_act 480 = .ok (.iload 12, 2) := by decide +kernel
theorem dL_act_482 : decode cL_act 482 = .ok (.isub, 1) := by decide +kernel
theorem dL_act_483 : decode cL_act 483 = .ok (.invokestatic 19, 3) := by decide +kernel
theorem dL_act_486 : decode cL_act 486 = .ok (.iadd, 1) := by decide +kernel
theorem dL_act_487 : decode cL_act 487 = .ok (.istore 13, 2) := by decide +kernel
theorem dL_act_489 : decode cL_act 489 = .ok (.aload_n 1, 1) := by decide +kernel
theorem dL_act_490 : decode cL_act 490 = .ok (.getfield 59, 3) := by decide +kernel
theorem dL_act_493 : decode cL_act 493 = .ok (.iconst 2, 1) := by decide +kernel
theorem dL_act_494 : decode cL_act 494 = .ok (.iaload, 1) := by decide +kernel
theorem dL_act_495 : decode cL_act 495 = .ok (.iload 13, 2) := by decide +kernel
theorem dL_act_497 : decode cL_act 497 = .ok (.if_icmp .ge 5, 3) := by decide +kernel
theorem dL_act_500 : decode cL_act 500 = .ok (.iconst 1, 1) := by decide +kernel
theorem dL_act_501 : decode cL_act 501 = .ok (.ireturn, 1) := by decide +kernel
theorem dL_act_502 : decode cL_act 502 = .ok (.aload_n 1, 1) := by decide +kernel
theorem dL_act_503 : decode cL_act 503 = .ok (.getfield 59, 3) := by decide +kernel
theorem dL_act_506 : decode cL_act 506 = .ok (.iconst 2, 1) := by decide +kernel
theorem dL_act_507 : decode cL_act 507 = .ok (.bipush 99, 2) := by decide +kernel
theorem dL_act_509 : decode cL_act 509 = .ok (.aload_n 1, 1) := by decide +kernel
theorem dL_act_510 : decode cL_act 510 = .ok (.getfield 59, 3) := by decide +kernel
theorem dL_act_513 : decode cL_act 513 = .ok (.iconst 2, 1) := by decide +kernel
theorem dL_act_514 : decode cL_act 514 = .ok (.iaload, 1) := by decide +kernel
theorem dL_act_515 : decode cL_act 515 = .ok (.iload 13, 2) := by decide +kernel
theorem dL_act_517 : decode cL_act 517 = .ok (.isub, 1) := by decide +kernel
theorem dL_act_518 : decode cL_act 518 = .ok (.aload 6, 2) := by decide +kernel
theorem dL_act_520 : decode cL_act 520 = .ok (.getfield 62, 3) := by decide +kernel
theorem dL_act_523 : decode cL_act 523 = .ok (.iadd, 1) := by decide +kernel
theorem dL_act_524 : decode cL_act 524 = .ok (.invokestatic 65, 3) := by decide +kernel
theorem dL_act_527 : decode cL_act 527 = .ok (.iastore, 1) := by decide +kernel
theorem dL_act_528 : decode cL_act 528 = .ok (.aload 6, 2) := by decide +kernel
theorem dL_act_530 : decode cL_act 530 = .ok (.iload 12, 2) := by decide +kernel
theorem dL_act_532 : decode cL_act 532 = .ok (.putfield 70, 3) := by decide +kernel
theorem dL_act_535 : decode cL_act 535 = .ok (.aload 6, 2) := by decide +kernel
theorem dL_act_537 : decode cL_act 537 = .ok (.iload 13, 2) := by decide +kernel
theorem dL_act_539 : decode cL_act 539 = .ok (.putfield 62, 3) := by decide +kernel
theorem dL_act_542 : decode cL_act 542 = .ok (.aload_n 0, 1) := by decide +kernel
theorem dL_act_543 : decode cL_act 543 = .ok (.iload 5, 2) := by decide +kernel
theorem dL_act_545 : decode cL_act 545 = .ok (.iload 12, 2) := by decide +kernel
theorem dL_act_547 : decode cL_act 547 = .ok (.iload 13, 2) := by decide +kernel
theorem dL_act_549 : decode cL_act 549 = .ok (.invokevirtual 73, 3) := by decide +kernel
theorem dL_act_552 : decode cL_act 552 = .ok (.aload_n 1, 1) := by decide +kernel
theorem dL_act_553 : decode cL_act 553 = .ok (.getfield 59, 3) := by decide +kernel
theorem dL_act_556 : decode cL_act 556 = .ok (.iconst 2, 1) := by decide +kernel
theorem dL_act_557 : decode cL_act 557 = .ok (.iaload, 1) := by decide +kernel
theorem dL_act_558 : decode cL_act 558 = .ok (.if_icmp .ne 7, 3) := by decide +kernel
theorem dL_act_561 : decode cL_act 561 = .ok (.iconst 1, 1) := by decide +kernel
theorem dL_act_562 : decode cL_act 562 = .ok (.goto 4, 3) := by decide +kernel
theorem dL_act_565 : decode cL_act 565 = .ok (.iconst 0, 1) := by decide +kernel
theorem dL_act_566 : decode cL_act 566 = .ok (.ireturn, 1) := by decide +kernel
theorem dL_act_567 : decode cL_act 567 = .ok (.iload_n 2, 1) := by decide +kernel
theorem dL_act_568 : decode cL_act 568 = .ok (.iconst 2, 1) := by decide +kernel
theorem dL_act_569 : decode cL_act 569 = .ok (.ishr, 1) := by decide +kernel
theorem dL_act_570 : decode cL_act 570 = .ok (.iconst 5, 1) := by decide +kernel
theorem dL_act_571 : decode cL_act 571 = .ok (.invokestatic 19, 3) := by decide +kernel
theorem dL_act_574 : decode cL_act 574 = .ok (.istore 14, 2) := by decide +kernel
theorem dL_act_576 : decode cL_act 576 = .ok (.iconst 1, 1) := by decide +kernel
theorem dL_act_577 : decode cL_act 577 = .ok (.iload_n 2, 1) := by decide +kernel
theorem dL_act_578 : decode cL_act 578 = .ok (.iconst 4, 1) := by decide +kernel
theorem dL_act_579 : decode cL_act 579 = .ok (.ishr, 1) := by decide +kernel
theorem dL_act_580 : decode cL_act 580 = .ok (.bipush 99, 2) := by decide +kernel
theorem dL_act_582 : decode cL_act 582 = .ok (.invokestatic 19, 3) := by decide +kernel
theorem dL_act_585 : decode cL_act 585 = .ok (.iadd, 1) := by decide +kernel
theorem dL_act_586 : decode cL_act 586 = .ok (.istore 15, 2) := by decide +kernel
theorem dL_act_588 : decode cL_act 588 = .ok (.aload_n 1, 1) := by decide +kernel
theorem dL_act_589 : decode cL_act 589 = .ok (.getfield 59, 3) := by decide +kernel
theorem dL_act_592 : decode cL_act 592 = .ok (.iload 14, 2) := by decide +kernel
theorem dL_act_594 : decode cL_act 594 = .ok (.bipush 99, 2) := by decide +kernel
theorem dL_act_596 : decode cL_act 596 = .ok (.aload_n 1, 1) := by decide +kernel
theorem dL_act_597 : decode cL_act 597 = .ok (.getfield 59, 3) := by decide +kernel
theorem dL_act_600 : decode cL_act 600 = .ok (.iload 14, 2) := by decide +kernel
theorem dL_act_602 : decode cL_act 602 = .ok (.iaload, 1) := by decide +kernel
theorem dL_act_603 : decode cL_act 603 = .ok (.iload 15, 2) := by decide +kernel
theorem dL_act_605 : decode cL_act 605 = .ok (.iadd, 1) := by decide +kernel
theorem dL_act_606 : decode cL_act 606 = .ok (.invokestatic 65, 3) := by decide +kernel
theorem dL_act_609 : decode cL_act 609 = .ok (.iastore, 1) := by decide +kernel
theorem dL_act_610 : decode cL_act 610 = .ok (.aload_n 0, 1) := by decide +kernel
theorem dL_act_611 : decode cL_act 611 = .ok (.iload 14, 2) := by decide +kernel
theorem dL_act_613 : decode cL_act 613 = .ok (.iload 15, 2) := by decide +kernel
theorem dL_act_615 : decode cL_act 615 = .ok (.invokevirtual 77, 3) := by decide +kernel
theorem dL_act_618 : decode cL_act 618 = .ok (.aload_n 1, 1) := by decide +kernel
theorem dL_act_619 : decode cL_act 619 = .ok (.getfield 59, 3) := by decide +kernel
theorem dL_act_622 : decode cL_act 622 = .ok (.iload 14, 2) := by decide +kernel
theorem dL_act_624 : decode cL_act 624 = .ok (.iaload, 1) := by decide +kernel
theorem dL_act_625 : decode cL_act 625 = .ok (.if_icmp .ne 7, 3) := by decide +kernel
theorem dL_act_628 : decode cL_act 628 = .ok (.iconst 1, 1) := by decide +kernel
theorem dL_act_629 : decode cL_act 629 = .ok (.goto 4, 3) := by decide +kernel
theorem dL_act_632 : decode cL_act 632 = .ok (.iconst 0, 1) := by decide +kernel
theorem dL_act_633 : decode cL_act 633 = .ok (.ireturn, 1) := by decide +kernel
theorem dL_act_634 : decode cL_act 634 = .ok (.iload_n 2, 1) := by decide +kernel
theorem dL_act_635 : decode cL_act 635 = .ok (.iconst 3, 1) := by decide +kernel
theorem dL_act_636 : decode cL_act 636 = .ok (.ishr, 1) := by decide +kernel
theorem dL_act_637 : decode cL_act 637 = .ok (.iconst 5, 1) := by decide +kernel
theorem dL_act_638 : decode cL_act 638 = .ok (.invokestatic 19, 3) := by decide +kernel
theorem dL_act_641 : decode cL_act 641 = .ok (.istore 16, 2) := by decide +kernel
theorem dL_act_643 : decode cL_act 643 = .ok (.iload_n 2, 1) := by decide +kernel
theorem dL_act_644 : decode cL_act 644 = .ok (.iconst 1, 1) := by decide +kernel
theorem dL_act_645 : decode cL_act 645 = .ok (.ishr, 1) := by decide +kernel
theorem dL_act_646 : decode cL_act 646 = .ok (.bipush 6, 2) := by decide +kernel
theorem dL_act_648 : decode cL_act 648 = .ok (.invokestatic 19, 3) := by decide +kernel
theorem dL_act_651 : decode cL_act 651 = .ok (.istore 17, 2) := by decide +kernel
theorem dL_act_653 : decode cL_act 653 = .ok (.aload_n 1, 1) := by decide +kernel
theorem dL_act_654 : decode cL_act 654 = .ok (.getfield 59, 3) := by decide +kernel
theorem dL_act_657 : decode cL_act 657 = .ok (.iload 16, 2) := by decide +kernel
theorem dL_act_659 : decode cL_act 659 = .ok (.iaload, 1) := by decide +kernel
theorem dL_act_660 : decode cL_act 660 = .ok (.ifCond .eq 27, 3) := by decide +kernel
theorem dL_act_663 : decode cL_act 663 = .ok (.iload 16, 2) := by decide +kernel
theorem dL_act_665 : decode cL_act 665 = .ok (.iconst 2, 1) := by decide +kernel
theorem dL_act_666 : decode cL_act 666 = .ok (.if_icmp .ne 23, 3) := by decide +kernel
theorem dL_act_669 : decode cL_act 669 = .ok (.aload 6, 2) := by decide +kernel
theorem dL_act_671 : decode cL_act 671 = .ok (.getfield 70, 3) := by decide +kernel
theorem dL_act_674 : decode cL_act 674 = .ok (.ifCond .eq 13, 3) := by decide +kernel
theorem dL_act_677 : decode cL_act 677 = .ok (.aload 6, 2) := by decide +kernel
theorem dL_act_679 : decode cL_act 679 = .ok (.getfield 62, 3) := by decide +kernel
theorem dL_act_682 : decode cL_act 682 = .ok (.bipush 12, 2) := by decide +kernel
theorem dL_act_684 : decode cL_act 684 = .ok (.if_icmp .ne 5, 3) := by decide +kernel
theorem dL_act_687 : decode cL_act 687 = .ok (.iconst 1, 1) := by decide +kernel
theorem dL_act_688 : decode cL_act 688 = .ok (.ireturn, 1) := by decide +kernel
theorem dL_act_689 : decode cL_act 689 = .ok (.aload_n 1, 1) := by decide +kernel
theorem dL_act_690 : decode cL_act 690 = .ok (.getfield 59, 3) := by decide +kernel
theorem dL_act_693 : decode cL_act 693 = .ok (.iload 16, 2) := by decide +kernel
theorem dL_act_695 : decode cL_act 695 = .ok (.dup2, 1) := by decide +kernel
theorem dL_act_696 : decode cL_act 696 = .ok (.iaload, 1) := by decide +kernel
theorem dL_act_697 : decode cL_act 697 = .ok (.iconst 1, 1) := by decide +kernel
theorem dL_act_698 : decode cL_act 698 = .ok (.isub, 1) := by decide +kernel
theorem dL_act_699 : decode cL_act 699 = .ok (.iastore, 1) := by decide +kernel
theorem dL_act_700 : decode cL_act 700 = .ok (.iload 16, 2) := by decide +kernel
theorem dL_act_702 : decode cL_act 702 = .ok (.ifCond .ne 14, 3) := by decide +kernel
theorem dL_act_705 : decode cL_act 705 = .ok (.aload 6, 2) := by decide +kernel
theorem dL_act_707 : decode cL_act 707 = .ok (.getfield 80, 3) := by decide +kernel
theorem dL_act_710 : decode cL_act 710 = .ok (.iload 17, 2) := by decide +kernel
theorem dL_act_712 : decode cL_act 712 = .ok (.aaload, 1) := by decide +kernel
theorem dL_act_713 : decode cL_act 713 = .ok (.iconst 1, 1) := by decide +kernel
theorem dL_act_714 : decode cL_act 714 = .ok (.iconst 0, 1) := by decide +kernel
theorem dL_act_715 : decode cL_act 715 = .ok (.iastore, 1) := by decide +kernel
theorem dL_act_716 : decode cL_act 716 = .ok (.iload 16, 2) := by decide +kernel
theorem dL_act_718 : decode cL_act 718 = .ok (.iconst 2, 1) := by decide +kernel
theorem dL_act_719 : decode cL_act 719 = .ok (.if_icmp .ge 18, 3) := by decide +kernel
theorem dL_act_722 : decode cL_act 722 = .ok (.aload 6, 2) := by decide +kernel
theorem dL_act_724 : decode cL_act 724 = .ok (.getfield 80, 3) := by decide +kernel
theorem dL_act_727 : decode cL_act 727 = .ok (.iload 17, 2) := by decide +kernel
theorem dL_act_729 : decode cL_act 729 = .ok (.aaload, 1) := by decide +kernel
theorem dL_act_730 : decode cL_act 730 = .ok (.iconst 2, 1) := by decide +kernel
theorem dL_act_731 : decode cL_act 731 = .ok (.bipush 20, 2) := by decide +kernel
theorem dL_act_733 : decode cL_act 733 = .ok (.iload 16, 2) := by decide +kernel
theorem dL_act_735 : decode cL_act 735 = .ok (.imul, 1) := by decide +kernel
theorem dL_act_736 : decode cL_act 736 = .ok (.iastore, 1) := by decide +kernel
theorem dL_act_737 : decode cL_act 737 = .ok (.iload 16, 2) := by decide +kernel
theorem dL_act_739 : decode cL_act 739 = .ok (.iconst 2, 1) := by decide +kernel
theorem dL_act_740 : decode cL_act 740 = .ok (.if_icmp .ne 14, 3) := by decide +kernel
theorem dL_act_743 : decode cL_act 743 = .ok (.aload 6, 2) := by decide +kernel
theorem dL_act_745 : decode cL_act 745 = .ok (.dup, 1) := by decide +kernel
theorem dL_act_746 : decode cL_act 746 = .ok (.getfield 62, 3) := by decide +kernel
theorem dL_act_749 : decode cL_act 749 = .ok (.iconst 1, 1) := by decide +kernel
theorem dL_act_750 : decode cL_act 750 = .ok (.iadd, 1) := by decide +kernel
theorem dL_act_751 : decode cL_act 751 = .ok (.putfield 62, 3) := by decide +kernel
theorem dL_act_754 : decode cL_act 754 = .ok (.iload 16, 2) := by decide +kernel
theorem dL_act_756 : decode cL_act 756 = .ok (.iconst 3, 1) := by decide +kernel
theorem dL_act_757 : decode cL_act 757 = .ok (.if_icmp .ne 11, 3) := by decide +kernel
theorem dL_act_760 : decode cL_act 760 = .ok (.aload 6, 2) := by decide +kernel
theorem dL_act_762 : decode cL_act 762 = .ok (.iconst 2, 1) := by decide +kernel
theorem dL_act_763 : decode cL_act 763 = .ok (.newarray .int, 2) := by decide +kernel
theorem dL_act_765 : decode cL_act 765 = .ok (.putfield 48, 3) := by decide +kernel
theorem dL_act_768 : decode cL_act 768 = .ok (.iload 16, 2) := by decide +kernel
theorem dL_act_770 : decode cL_act 770 = .ok (.iconst 4, 1) := by decide +kernel
theorem dL_act_771 : decode cL_act 771 = .ok (.if_icmp .ne 15, 3) := by decide +kernel
theorem dL_act_774 : decode cL_act 774 = .ok (.aload 6, 2) := by decide +kernel
theorem dL_act_776 : decode cL_act 776 = .ok (.iconst 1, 1) := by decide +kernel
theorem dL_act_777 : decode cL_act 777 = .ok (.putfield 83, 3) := by decide +kernel
theorem dL_act_780 : decode cL_act 780 = .ok (.aload 6, 2) := by decide +kernel
theorem dL_act_782 : decode cL_act 782 = .ok (.iconst 0, 1) := by decide +kernel
theorem dL_act_783 : decode cL_act 783 = .ok (.putfield 87, 3) := by decide +kernel
theorem dL_act_786 : decode cL_act 786 = .ok (.aload_n 0, 1) := by decide +kernel
theorem dL_act_787 : decode cL_act 787 = .ok (.iload 5, 2) := by decide +kernel
theorem dL_act_789 : decode cL_act 789 = .ok (.iload 16, 2) := by decide +kernel
theorem dL_act_791 : decode cL_act 791 = .ok (.iload 17, 2) := by decide +kernel
theorem dL_act_793 : decode cL_act 793 = .ok (.invokevirtual 90, 3) := by decide +kernel
theorem dL_act_796 : decode cL_act 796 = .ok (.aload_n 1, 1) := by decide +kernel
theorem dL_act_797 : decode cL_act 797 = .ok (.getfield 59, 3) := by decide +kernel
theorem dL_act_800 : decode cL_act 800 = .ok (.iload 16, 2) := by decide +kernel
theorem dL_act_802 : decode cL_act 802 = .ok (.iaload, 1) := by decide +kernel
theorem dL_act_803 : decode cL_act 803 = .ok (.if_icmp .ne 7, 3) := by decide +kernel
theorem dL_act_806 : decode cL_act 806 = .ok (.iconst 1, 1) := by decide +kernel
theorem dL_act_807 : decode cL_act 807 = .ok (.goto 4, 3) := by decide +kernel
theorem dL_act_810 : decode cL_act 810 = .ok (.iconst 0, 1) := by decide +kernel
theorem dL_act_811 : decode cL_act 811 = .ok (.ireturn, 1) := by decide +kernel
theorem dL_act_812 : decode cL_act 812 = .ok (.iload 4, 2) := by decide +kernel
theorem dL_act_814 : decode cL_act 814 = .ok (.ifCond .ne 5, 3) := by decide +kernel
theorem dL_act_817 : decode cL_act 817 = .ok (.iconst 1, 1) := by decide +kernel
theorem dL_act_818 : decode cL_act 818 = .ok (.ireturn, 1) := by decide +kernel
theorem dL_act_819 : decode cL_act 819 = .ok (.iconst 0, 1) := by decide +kernel
theorem dL_act_820 : decode cL_act 820 = .ok (.istore 18, 2) := by decide +kernel
theorem dL_act_822 : decode cL_act 822 = .ok (.iload 18, 2) := by decide +kernel
theorem dL_act_824 : decode cL_act 824 = .ok (.bipush 6, 2) := by decide +kernel
theorem dL_act_826 : decode cL_act 826 = .ok (.if_icmp .ge 93, 3) := by decide +kernel
theorem dL_act_829 : decode cL_act 829 = .ok (.iload_n 2, 1) := by decide +kernel
theorem dL_act_830 : decode cL_act 830 = .ok (.iload 18, 2) := by decide +kernel
theorem dL_act_832 : decode cL_act 832 = .ok (.ishr, 1) := by decide +kernel
theorem dL_act_833 : decode cL_act 833 = .ok (.iload 18, 2) := by decide +kernel
theorem dL_act_835 : decode cL_act 835 = .ok (.iadd, 1) := by decide +kernel
theorem dL_act_836 : decode cL_act 836 = .ok (.iload 4, 2) := by decide +kernel
theorem dL_act_838 : decode cL_act 838 = .ok (.invokestatic 19, 3) := by decide +kernel
theorem dL_act_841 : decode cL_act 841 = .ok (.istore 19, 2) := by decide +kernel
theorem dL_act_843 : decode cL_act 843 = .ok (.aload 6, 2) := by decide +kernel
theorem dL_act_845 : decode cL_act 845 = .ok (.aload_n 1, 1) := by decide +kernel
theorem dL_act_846 : decode cL_act 846 = .ok (.getfield 15, 3) := by decide +kernel
theorem dL_act_849 : decode cL_act 849 = .ok (.iload 19, 2) := by decide +kernel
theorem dL_act_851 : decode cL_act 851 = .ok (.aaload, 1) := by decide +kernel
theorem dL_act_852 : decode cL_act 852 = .ok (.invokevirtual 93, 3) := by decide +kernel
theorem dL_act_855 : decode cL_act 855 = .ok (.ifCond .ne 6, 3) := by decide +kernel
theorem dL_act_858 : decode cL_act 858 = .ok (.goto 55, 3) := by decide +kernel
theorem dL_act_861 : decode cL_act 861 = .ok (.aload 6, 2) := by decide +kernel
theorem dL_act_863 : decode cL_act 863 = .ok (.invokevirtual 97, 3) := by decide +kernel
theorem dL_act_866 : decode cL_act 866 = .ok (.istore 20, 2) := by decide +kernel
theorem dL_act_868 : decode cL_act 868 = .ok (.aload 6, 2) := by decide +kernel
theorem dL_act_870 : decode cL_act 870 = .ok (.aload_n 1, 1) := by decide +kernel
theorem dL_act_871 : decode cL_act 871 = .ok (.getfield 15, 3) := by decide +kernel
theorem dL_act_874 : decode cL_act 874 = .ok (.iload 19, 2) := by decide +kernel
theorem dL_act_876 : decode cL_act 876 = .ok (.aaload, 1) := by decide +kernel
theorem dL_act_877 : decode cL_act 877 = .ok (.invokevirtual 100, 3) := by decide +kernel
theorem dL_act_880 : decode cL_act 880 = .ok (.pop, 1) := by decide +kernel
theorem dL_act_881 : decode cL_act 881 = .ok (.aload 6, 2) := by decide +kernel
theorem dL_act_883 : decode cL_act 883 = .ok (.dup, 1) := by decide +kernel
theorem dL_act_884 : decode cL_act 884 = .ok (.getfield 104, 3) := by decide +kernel
theorem dL_act_887 : decode cL_act 887 = .ok (.iconst 1, 1) := by decide +kernel
theorem dL_act_888 : decode cL_act 888 = .ok (.iadd, 1) := by decide +kernel
theorem dL_act_889 : decode cL_act 889 = .ok (.putfield 104, 3) := by decide +kernel
theorem dL_act_892 : decode cL_act 892 = .ok (.aload_n 0, 1) := by decide +kernel
theorem dL_act_893 : decode cL_act 893 = .ok (.iload 5, 2) := by decide +kernel
theorem dL_act_895 : decode cL_act 895 = .ok (.iload 19, 2) := by decide +kernel
theorem dL_act_897 : decode cL_act 897 = .ok (.invokevirtual 107, 3) := by decide +kernel
theorem dL_act_900 : decode cL_act 900 = .ok (.aload 6, 2) := by decide +kernel
theorem dL_act_902 : decode cL_act 902 = .ok (.invokevirtual 97, 3) := by decide +kernel
theorem dL_act_905 : decode cL_act 905 = .ok (.iload 20, 2) := by decide +kernel
theorem dL_act_907 : decode cL_act 907 = .ok (.isub, 1) := by decide +kernel
theorem dL_act_908 : decode cL_act 908 = .ok (.if_icmp .eq 5, 3) := by decide +kernel
theorem dL_act_911 : decode cL_act 911 = .ok (.iconst 0, 1) := by decide +kernel
theorem dL_act_912 : decode cL_act 912 = .ok (.ireturn, 1) := by decide +kernel
theorem dL_act_913 : decode cL_act 913 = .ok (.iinc 18 1, 3) := by decide +kernel
theorem dL_act_916 : decode cL_act 916 = .ok (.goto (-94), 3) := by decide +kernel
theorem dL_act_919 : decode cL_act 919 = .ok (.iconst 1, 1) := by decide +kernel
theorem dL_act_920 : decode cL_act 920 = .ok (.ireturn, 1) := by decide +kernel
set_option maxRecDepth 20000 in
theorem ggL_build_X4_init : GoodIn wsL_build wsX4_init := goodIn_r _ [5, 6, 7, 8, 9, 10, 11, 12, 13, 14, 15, 196, 197, 198, 199, 200] (by decide +kernel) (by decide +kernel)
set_option maxRecDepth 20000 in
theorem gL_build_X4_init_n110 : GoodIn wsL_build (wsX4_init) := ggL_build_X4_init
set_option maxRecDepth 20000 in
theorem ggL_build_L_cell : GoodIn wsL_build wsL_cell := goodIn_r _ [19, 20] (by decide +kernel) (by decide +kernel)
set_option maxRecDepth 20000 in
theorem gL_build_L_cell : GoodIn wsL_build (va_wsS RL 111 yL_cell wsL_cell) := goodIn_app (goodIn_of _ (by decide +kernel)) ggL_build_L_cell
set_option maxRecDepth 20000 in
theorem ggL_build_L_act : GoodIn wsL_build wsL_act := goodIn_ca (goodIn_ca (goodIn_ca (goodIn_r _ [23, 24, 25, 26, 27, 28, 13, 29, 30, 31, 32, 33, 34, 35, 36, 37, 38, 39, 40, 41, 42, 43, 44, 45, 18, 46, 47, 48, 49, 50, 7, 8, 51, 52, 53, 54, 55, 56, 57, 58, 59, 60, 61, 62, 63, 64, 65, 66, 67, 68, 69, 70, 71, 72, 73, 74, 75, 76, 77, 78, 79, 80, 81, 82, 83, 84, 85, 86, 87, 88, 89, 90, 91, 92, 93, 94, 95, 96, 97, 98, 99, 100, 101, 102, 103, 104, 105, 106, 107, 108, 109, 110, 111, 112, 113, 114, 115, 116, 117, 118, 119, 120, 121, 122, 123, 124, 125, 126, 127, 128, 129, 130, 131, 132, 133, 134, 135, 136, 137, 138, 139, 140, 141, 142, 143, 144, 145, 146, 147, 148, 149, 150, 151, 152, 153, 154, 155, 156, 157, 158, 159, 160, 161, 162, 163, 164, 165, 166, 167, 168, 169, 170, 171, 172, 173, 174, 175, 176, 177, 178, 179, 180, 181, 182, 183, 184, 185, 186, 187, 188, 189, 190, 191, 192, 193, 194, 195, 196, 197, 198, 199, 200, 201, 202, 203, 204, 205, 206, 207, 208, 209, 210, 211, 212, 213, 214, 215, 216, 217, 218, 219, 220, 221, 222, 223, 224, 225, 226, 227] (by decide +kernel) (by decide +kernel)) (goodIn_sub (fun _ h => List.mem_cons_of_mem _ (List.mem_append_left _ (List.mem_append_left _ (List.mem_append_right _ h)))) (by decide +kernel))) (goodIn_sub (fun _ h => List.mem_cons_of_mem _ (List.mem_append_left _ (List.mem_append_right _ h))) (by decide +kernel))) (goodIn_sub (fun _ h => List.mem_cons_of_mem _ (List.mem_append_right _ h)) (by decide +kernel))
set_option maxRecDepth 20000 in
theorem gL_build_L_act : GoodIn wsL_build (va_wsS RL 115 yL_act wsL_act) := goodIn_app (goodIn_of _ (by decide +kernel)) ggL_build_L_act
theorem dL_build_0 : decode cL_build 0 = .ok (.new 10, 3) := by decide +kernel
theorem dL_build_3 : decode cL_build 3 = .ok (.dup, 1) := by decide +kernel
theorem dL_build_4 : decode cL_build 4 = .ok (.invokespecial 110, 3) := by decide +kernel
theorem dL_build_7 : decode cL_build 7 = .ok (.astore_n 2, 1) := by decide +kernel
theorem dL_build_8 : decode cL_build 8 = .ok (.iconst 0, 1) := by decide +kernel
theorem dL_build_9 : decode cL_build 9 = .ok (.istore_n 3, 1) := by decide +kernel
theorem dL_build_10 : decode cL_build 10 = .ok (.iload_n 3, 1) := by decide +kernel
theorem dL_build_11 : decode cL_build 11 = .ok (.bipush 30, 2) := by decide +kernel
theorem dL_build_13 : decode cL_build 13 = .ok (.if_icmp .ge 70, 3) := by decide +kernel
theorem dL_build_16 : decode cL_build 16 = .ok (.aload_n 0, 1) := by decide +kernel
theorem dL_build_17 : decode cL_build 17 = .ok (.aload_n 2, 1) := by decide +kernel
theorem dL_build_18 : decode cL_build 18 = .ok (.aload_n 1, 1) := by decide +kernel
theorem dL_build_19 : decode cL_build 19 = .ok (.iload_n 3, 1) := by decide +kernel
theorem dL_build_20 : decode cL_build 20 = .ok (.bipush 15, 2) := by decide +kernel
theorem dL_build_22 : decode cL_build 22 = .ok (.irem, 1) := by decide +kernel
theorem dL_build_23 : decode cL_build 23 = .ok (.invokestatic 111, 3) := by decide +kernel
theorem dL_build_26 : decode cL_build 26 = .ok (.iload_n 3, 1) := by decide +kernel
theorem dL_build_27 : decode cL_build 27 = .ok (.bipush 15, 2) := by decide +kernel
theorem dL_build_29 : decode cL_build 29 = .ok (.idiv, 1) := by decide +kernel
theorem dL_build_30 : decode cL_build 30 = .ok (.iconst 4, 1) := by decide +kernel
theorem dL_build_31 : decode cL_build 31 = .ok (.imul, 1) := by decide +kernel
theorem dL_build_32 : decode cL_build 32 = .ok (.ishr, 1) := by decide +kernel
theorem dL_build_33 : decode cL_build 33 = .ok (.sipush 163, 3) := by decide +kernel
theorem dL_build_36 : decode cL_build 36 = .ok (.iload_n 3, 1) := by decide +kernel
theorem dL_build_37 : decode cL_build 37 = .ok (.imul, 1) := by decide +kernel
theorem dL_build_38 : decode cL_build 38 = .ok (.iadd, 1) := by decide +kernel
theorem dL_build_39 : decode cL_build 39 = .ok (.iload_n 3, 1) := by decide +kernel
theorem dL_build_40 : decode cL_build 40 = .ok (.bipush 12, 2) := by decide +kernel
theorem dL_build_42 : decode cL_build 42 = .ok (.if_icmp .ge 13, 3) := by decide +kernel
theorem dL_build_45 : decode cL_build 45 = .ok (.sipush 512, 3) := by decide +kernel
theorem dL_build_48 : decode cL_build 48 = .ok (.iload_n 3, 1) := by decide +kernel
theorem dL_build_49 : decode cL_build 49 = .ok (.iconst 4, 1) := by decide +kernel
theorem dL_build_50 : decode cL_build 50 = .ok (.irem, 1) := by decide +kernel
theorem dL_build_51 : decode cL_build 51 = .ok (.imul, 1) := by decide +kernel
theorem dL_build_52 : decode cL_build 52 = .ok (.goto 16, 3) := by decide +kernel
theorem dL_build_55 : decode cL_build 55 = .ok (.iload_n 3, 1) := by decide +kernel
theorem dL_build_56 : decode cL_build 56 = .ok (.bipush 15, 2) := by decide +kernel
theorem dL_build_58 : decode cL_build 58 = .ok (.if_icmp .ge 9, 3) := by decide +kernel
theorem dL_build_61 : decode cL_build 61 = .ok (.sipush 4096, 3) := by decide +kernel
theorem dL_build_64 : decode cL_build 64 = .ok (.goto 4, 3) := by decide +kernel
theorem dL_build_67 : decode cL_build 67 = .ok (.iconst 0, 1) := by decide +kernel
theorem dL_build_68 : decode cL_build 68 = .ok (.iadd, 1) := by decide +kernel
theorem dL_build_69 : decode cL_build 69 = .ok (.invokestatic 115, 3) := by decide +kernel
theorem dL_build_72 : decode cL_build 72 = .ok (.ifCond .ne 5, 3) := by decide +kernel
theorem dL_build_75 : decode cL_build 75 = .ok (.aconst_null, 1) := by decide +kernel
theorem dL_build_76 : decode cL_build 76 = .ok (.areturn, 1) := by decide +kernel
theorem dL_build_77 : decode cL_build 77 = .ok (.iinc 3 1, 3) := by decide +kernel
theorem dL_build_80 : decode cL_build 80 = .ok (.goto (-70), 3) := by decide +kernel
theorem dL_build_83 : decode cL_build 83 = .ok (.aload_n 2, 1) := by decide +kernel
theorem dL_build_84 : decode cL_build 84 = .ok (.areturn, 1) := by decide +kernel
