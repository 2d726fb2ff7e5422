theorem dX3_init_0 : decode cX3_init 0 = .ok (.aload_n 0, 1) := by decide +kernel
theorem dX3_init_1 : decode cX3_init 1 = .ok (.invokespecial 1, 3) := by decide +kernel
theorem dX3_init_4 : decode cX3_init 4 = .ok (.aload_n 0, 1) := by decide +kernel
theorem dX3_init_5 : decode cX3_init 5 = .ok (.iconst 1, 1) := by decide +kernel
theorem dX3_init_6 : decode cX3_init 6 = .ok (.putfield 7, 3) := by decide +kernel
theorem dX3_init_9 : decode cX3_init 9 = .ok (.aload_n 0, 1) := by decide +kernel
theorem dX3_init_10 : decode cX3_init 10 = .ok (.sipush 144, 3) := by decide +kernel
theorem dX3_init_13 : decode cX3_init 13 = .ok (.newarray .int, 2) := by decide +kernel
theorem dX3_init_15 : decode cX3_init 15 = .ok (.putfield 13, 3) := by decide +kernel
theorem dX3_init_18 : decode cX3_init 18 = .ok (.aload_n 0, 1) := by decide +kernel
theorem dX3_init_19 : decode cX3_init 19 = .ok (.bipush 64, 2) := by decide +kernel
theorem dX3_init_21 : decode cX3_init 21 = .ok (.newarray .int, 2) := by decide +kernel
theorem dX3_init_23 : decode cX3_init 23 = .ok (.putfield 17, 3) := by decide +kernel
theorem dX3_init_26 : decode cX3_init 26 = .ok (.aload_n 0, 1) := by decide +kernel
theorem dX3_init_27 : decode cX3_init 27 = .ok (.bipush 48, 2) := by decide +kernel
theorem dX3_init_29 : decode cX3_init 29 = .ok (.newarray .int, 2) := by decide +kernel
theorem dX3_init_31 : decode cX3_init 31 = .ok (.putfield 20, 3) := by decide +kernel
theorem dX3_init_34 : decode cX3_init 34 = .ok (.aload_n 0, 1) := by decide +kernel
theorem dX3_init_35 : decode cX3_init 35 = .ok (.iconst 5, 1) := by decide +kernel
theorem dX3_init_36 : decode cX3_init 36 = .ok (.newarray .int, 2) := by decide +kernel
theorem dX3_init_38 : decode cX3_init 38 = .ok (.putfield 23, 3) := by decide +kernel
theorem dX3_init_41 : decode cX3_init 41 = .ok (.aload_n 0, 1) := by decide +kernel
theorem dX3_init_42 : decode cX3_init 42 = .ok (.iconst 1, 1) := by decide +kernel
theorem dX3_init_43 : decode cX3_init 43 = .ok (.newarray .int, 2) := by decide +kernel
theorem dX3_init_45 : decode cX3_init 45 = .ok (.dup, 1) := by decide +kernel
theorem dX3_init_46 : decode cX3_init 46 = .ok (.iconst 0, 1) := by decide +kernel
theorem dX3_init_47 : decode cX3_init 47 = .ok (.iconst 0, 1) := by decide +kernel
theorem dX3_init_48 : decode cX3_init 48 = .ok (.iastore, 1) := by decide +kernel
theorem dX3_init_49 : decode cX3_init 49 = .ok (.putfield 26, 3) := by decide +kernel
theorem dX3_init_52 : decode cX3_init 52 = .ok (.return_, 1) := by decide +kernel
theorem dX3_thrown_0 : decode cX3_thrown 0 = .ok (.aload_n 0, 1) := by decide +kernel
theorem dX3_thrown_1 : decode cX3_thrown 1 = .ok (.getfield 29, 3) := by decide +kernel
theorem dX3_thrown_4 : decode cX3_thrown 4 = .ok (.ireturn, 1) := by decide +kernel
theorem dX3_fail_0 : decode cX3_fail 0 = .ok (.aload_n 0, 1) := by decide +kernel
theorem dX3_fail_1 : decode cX3_fail 1 = .ok (.iload_n 1, 1) := by decide +kernel
theorem dX3_fail_2 : decode cX3_fail 2 = .ok (.putfield 29, 3) := by decide +kernel
theorem dX3_fail_5 : decode cX3_fail 5 = .ok (.iconst 0, 1) := by decide +kernel
theorem dX3_fail_6 : decode cX3_fail 6 = .ok (.ireturn, 1) := by decide +kernel
theorem dX3_isIn_0 : decode cX3_isIn 0 = .ok (.iload_n 0, 1) := by decide +kernel
theorem dX3_isIn_1 : decode cX3_isIn 1 = .ok (.iload_n 1, 1) := by decide +kernel
theorem dX3_isIn_2 : decode cX3_isIn 2 = .ok (.if_icmp .lt 12, 3) := by decide +kernel
theorem dX3_isIn_5 : decode cX3_isIn 5 = .ok (.iload_n 0, 1) := by decide +kernel
theorem dX3_isIn_6 : decode cX3_isIn 6 = .ok (.iload_n 2, 1) := by decide +kernel
theorem dX3_isIn_7 : decode cX3_isIn 7 = .ok (.if_icmp .gt 7, 3) := by decide +kernel
theorem dX3_isIn_10 : decode cX3_isIn 10 = .ok (.iconst 1, 1) := by decide +kernel
theorem dX3_isIn_11 : decode cX3_isIn 11 = .ok (.goto 4, 3) := by decide +kernel
theorem dX3_isIn_14 : decode cX3_isIn 14 = .ok (.iconst 0, 1) := by decide +kernel
theorem dX3_isIn_15 : decode cX3_isIn 15 = .ok (.ireturn, 1) := by decide +kernel
set_option maxRecDepth 20000 in
theorem ggX3_isDoll_X3_isIn : GoodIn wsX3_isDoll wsX3_isIn := goodIn_r _ [5] (by decide +kernel) (by decide +kernel)
set_option maxRecDepth 20000 in
theorem gX3_isDoll_X3_isIn : GoodIn wsX3_isDoll (va_wsS RX3 35 yX3_isIn wsX3_isIn) := goodIn_app (goodIn_of _ (by decide +kernel)) ggX3_isDoll_X3_isIn
theorem dX3_isDoll_0 : decode cX3_isDoll 0 = .ok (.iload_n 1, 1) := by decide +kernel
theorem dX3_isDoll_1 : decode cX3_isDoll 1 = .ok (.iconst 0, 1) := by decide +kernel
theorem dX3_isDoll_2 : decode cX3_isDoll 2 = .ok (.aload_n 0, 1) := by decide +kernel
theorem dX3_isDoll_3 : decode cX3_isDoll 3 = .ok (.getfield 32, 3) := by decide +kernel
theorem dX3_isDoll_6 : decode cX3_isDoll 6 = .ok (.iconst 1, 1) := by decide +kernel
theorem dX3_isDoll_7 : decode cX3_isDoll 7 = .ok (.isub, 1) := by decide +kernel
theorem dX3_isDoll_8 : decode cX3_isDoll 8 = .ok (.invokestatic 35, 3) := by decide +kernel
theorem dX3_isDoll_11 : decode cX3_isDoll 11 = .ok (.ireturn, 1) := by decide +kernel
set_option maxRecDepth 20000 in
theorem ggX3_isPose_X3_isIn : GoodIn wsX3_isPose wsX3_isIn := goodIn_r _ [5] (by decide +kernel) (by decide +kernel)
set_option maxRecDepth 20000 in
theorem gX3_isPose_X3_isIn : GoodIn wsX3_isPose (va_wsS RX3 35 yX3_isIn wsX3_isIn) := goodIn_app (goodIn_of _ (by decide +kernel)) ggX3_isPose_X3_isIn
theorem dX3_isPose_0 : decode cX3_isPose 0 = .ok (.iload_n 1, 1) := by decide +kernel
theorem dX3_isPose_1 : decode cX3_isPose 1 = .ok (.iconst 0, 1) := by decide +kernel
theorem dX3_isPose_2 : decode cX3_isPose 2 = .ok (.aload_n 0, 1) := by decide +kernel
theorem dX3_isPose_3 : decode cX3_isPose 3 = .ok (.getfield 39, 3) := by decide +kernel
theorem dX3_isPose_6 : decode cX3_isPose 6 = .ok (.iconst 1, 1) := by decide +kernel
theorem dX3_isPose_7 : decode cX3_isPose 7 = .ok (.isub, 1) := by decide +kernel
theorem dX3_isPose_8 : decode cX3_isPose 8 = .ok (.invokestatic 35, 3) := by decide +kernel
theorem dX3_isPose_11 : decode cX3_isPose 11 = .ok (.ireturn, 1) := by decide +kernel
theorem dX3_at_0 : decode cX3_at 0 = .ok (.iconst 3, 1) := by decide +kernel
theorem dX3_at_1 : decode cX3_at 1 = .ok (.bipush 6, 2) := by decide +kernel
theorem dX3_at_3 : decode cX3_at 3 = .ok (.iload_n 0, 1) := by decide +kernel
theorem dX3_at_4 : decode cX3_at 4 = .ok (.imul, 1) := by decide +kernel
theorem dX3_at_5 : decode cX3_at 5 = .ok (.iload_n 1, 1) := by decide +kernel
theorem dX3_at_6 : decode cX3_at 6 = .ok (.iadd, 1) := by decide +kernel
theorem dX3_at_7 : decode cX3_at 7 = .ok (.imul, 1) := by decide +kernel
theorem dX3_at_8 : decode cX3_at 8 = .ok (.iload_n 2, 1) := by decide +kernel
theorem dX3_at_9 : decode cX3_at 9 = .ok (.iadd, 1) := by decide +kernel
theorem dX3_at_10 : decode cX3_at 10 = .ok (.ireturn, 1) := by decide +kernel
set_option maxRecDepth 20000 in
theorem ggX3_li_X3_at : GoodIn wsX3_li wsX3_at := goodIn_r _ [5] (by decide +kernel) (by decide +kernel)
set_option maxRecDepth 20000 in
theorem gX3_li_X3_at : GoodIn wsX3_li (va_wsS RX3 42 yX3_at wsX3_at) := goodIn_app (goodIn_of _ (by decide +kernel)) ggX3_li_X3_at
theorem dX3_li_0 : decode cX3_li 0 = .ok (.aload_n 0, 1) := by decide +kernel
theorem dX3_li_1 : decode cX3_li 1 = .ok (.getfield 13, 3) := by decide +kernel
theorem dX3_li_4 : decode cX3_li 4 = .ok (.iload_n 1, 1) := by decide +kernel
theorem dX3_li_5 : decode cX3_li 5 = .ok (.iload_n 2, 1) := by decide +kernel
theorem dX3_li_6 : decode cX3_li 6 = .ok (.iload_n 3, 1) := by decide +kernel
theorem dX3_li_7 : decode cX3_li 7 = .ok (.invokestatic 42, 3) := by decide +kernel
theorem dX3_li_10 : decode cX3_li 10 = .ok (.iaload, 1) := by decide +kernel
theorem dX3_li_11 : decode cX3_li 11 = .ok (.ireturn, 1) := by decide +kernel
theorem dX3_ro_0 : decode cX3_ro 0 = .ok (.aload_n 0, 1) := by decide +kernel
theorem dX3_ro_1 : decode cX3_ro 1 = .ok (.getfield 17, 3) := by decide +kernel
theorem dX3_ro_4 : decode cX3_ro 4 = .ok (.bipush 8, 2) := by decide +kernel
theorem dX3_ro_6 : decode cX3_ro 6 = .ok (.iload_n 1, 1) := by decide +kernel
theorem dX3_ro_7 : decode cX3_ro 7 = .ok (.imul, 1) := by decide +kernel
theorem dX3_ro_8 : decode cX3_ro 8 = .ok (.iload_n 2, 1) := by decide +kernel
theorem dX3_ro_9 : decode cX3_ro 9 = .ok (.iadd, 1) := by decide +kernel
theorem dX3_ro_10 : decode cX3_ro 10 = .ok (.iaload, 1) := by decide +kernel
theorem dX3_ro_11 : decode cX3_ro 11 = .ok (.ireturn, 1) := by decide +kernel
theorem dX3_put_0 : decode cX3_put 0 = .ok (.aload_n 0, 1) := by decide +kernel
theorem dX3_put_1 : decode cX3_put 1 = .ok (.getfield 17, 3) := by decide +kernel
theorem dX3_put_4 : decode cX3_put 4 = .ok (.bipush 8, 2) := by decide +kernel
theorem dX3_put_6 : decode cX3_put 6 = .ok (.iload_n 1, 1) := by decide +kernel
theorem dX3_put_7 : decode cX3_put 7 = .ok (.imul, 1) := by decide +kernel
theorem dX3_put_8 : decode cX3_put 8 = .ok (.iload_n 2, 1) := by decide +kernel
theorem dX3_put_9 : decode cX3_put 9 = .ok (.iadd, 1) := by decide +kernel
theorem dX3_put_10 : decode cX3_put 10 = .ok (.iload_n 3, 1) := by decide +kernel
theorem dX3_put_11 : decode cX3_put 11 = .ok (.iastore, 1) := by decide +kernel
theorem dX3_put_12 : decode cX3_put 12 = .ok (.return_, 1) := by decide +kernel
set_option maxRecDepth 20000 in
theorem ggX3_make_X3_fail : GoodIn wsX3_make wsX3_fail := goodIn_r _ [14, 1, 18, 19, 20, 21, 22, 23, 24, 25, 26] (by decide +kernel) (by decide +kernel)
set_option maxRecDepth 20000 in
theorem gX3_make_X3_fail : GoodIn wsX3_make (wsV RX3 46 RX3 yX3_fail wsX3_fail) := goodIn_app (goodIn_of _ (by decide +kernel)) ggX3_make_X3_fail
set_option maxRecDepth 20000 in
theorem ggX3_make_X3_at : GoodIn wsX3_make wsX3_at := goodIn_r _ [17] (by decide +kernel) (by decide +kernel)
set_option maxRecDepth 20000 in
theorem gX3_make_X3_at : GoodIn wsX3_make (va_wsS RX3 42 yX3_at wsX3_at) := goodIn_app (goodIn_of _ (by decide +kernel)) ggX3_make_X3_at
theorem dX3_make_0 : decode cX3_make 0 = .ok (.aload_n 0, 1) := by decide +kernel
theorem dX3_make_1 : decode cX3_make 1 = .ok (.iconst 0, 1) := by decide +kernel
theorem dX3_make_2 : decode cX3_make 2 = .ok (.putfield 29, 3) := by decide +kernel
theorem dX3_make_5 : decode cX3_make 5 = .ok (.aload_n 0, 1) := by decide +kernel
theorem dX3_make_6 : decode cX3_make 6 = .ok (.getfield 32, 3) := by decide +kernel
theorem dX3_make_9 : decode cX3_make 9 = .ok (.bipush 8, 2) := by decide +kernel
theorem dX3_make_11 : decode cX3_make 11 = .ok (.if_icmp .ne 9, 3) := by decide +kernel
theorem dX3_make_14 : decode cX3_make 14 = .ok (.aload_n 0, 1) := by decide +kernel
theorem dX3_make_15 : decode cX3_make 15 = .ok (.iconst 1, 1) := by decide +kernel
theorem dX3_make_16 : decode cX3_make 16 = .ok (.invokevirtual 46, 3) := by decide +kernel
theorem dX3_make_19 : decode cX3_make 19 = .ok (.ireturn, 1) := by decide +kernel
theorem dX3_make_20 : decode cX3_make 20 = .ok (.iconst 0, 1) := by decide +kernel
theorem dX3_make_21 : decode cX3_make 21 = .ok (.istore_n 1, 1) := by decide +kernel
theorem dX3_make_22 : decode cX3_make 22 = .ok (.iload_n 1, 1) := by decide +kernel
theorem dX3_make_23 : decode cX3_make 23 = .ok (.bipush 18, 2) := by decide +kernel
theorem dX3_make_25 : decode cX3_make 25 = .ok (.if_icmp .ge 26, 3) := by decide +kernel
theorem dX3_make_28 : decode cX3_make 28 = .ok (.aload_n 0, 1) := by decide +kernel
theorem dX3_make_29 : decode cX3_make 29 = .ok (.getfield 13, 3) := by decide +kernel
theorem dX3_make_32 : decode cX3_make 32 = .ok (.aload_n 0, 1) := by decide +kernel
theorem dX3_make_33 : decode cX3_make 33 = .ok (.getfield 32, 3) := by decide +kernel
theorem dX3_make_36 : decode cX3_make 36 = .ok (.iconst 0, 1) := by decide +kernel
theorem dX3_make_37 : decode cX3_make 37 = .ok (.iconst 0, 1) := by decide +kernel
theorem dX3_make_38 : decode cX3_make 38 = .ok (.invokestatic 42, 3) := by decide +kernel
theorem dX3_make_41 : decode cX3_make 41 = .ok (.iload_n 1, 1) := by decide +kernel
theorem dX3_make_42 : decode cX3_make 42 = .ok (.iadd, 1) := by decide +kernel
theorem dX3_make_43 : decode cX3_make 43 = .ok (.iconst 0, 1) := by decide +kernel
theorem dX3_make_44 : decode cX3_make 44 = .ok (.iastore, 1) := by decide +kernel
theorem dX3_make_45 : decode cX3_make 45 = .ok (.iinc 1 1, 3) := by decide +kernel
theorem dX3_make_48 : decode cX3_make 48 = .ok (.goto (-26), 3) := by decide +kernel
theorem dX3_make_51 : decode cX3_make 51 = .ok (.bipush 8, 2) := by decide +kernel
theorem dX3_make_53 : decode cX3_make 53 = .ok (.newarray .int, 2) := by decide +kernel
theorem dX3_make_55 : decode cX3_make 55 = .ok (.dup, 1) := by decide +kernel
theorem dX3_make_56 : decode cX3_make 56 = .ok (.iconst 0, 1) := by decide +kernel
theorem dX3_make_57 : decode cX3_make 57 = .ok (.iconst 1, 1) := by decide +kernel
theorem dX3_make_58 : decode cX3_make 58 = .ok (.iastore, 1) := by decide +kernel
theorem dX3_make_59 : decode cX3_make 59 = .ok (.dup, 1) := by decide +kernel
theorem dX3_make_60 : decode cX3_make 60 = .ok (.iconst 1, 1) := by decide +kernel
theorem dX3_make_61 : decode cX3_make 61 = .ok (.iconst 1, 1) := by decide +kernel
theorem dX3_make_62 : decode cX3_make 62 = .ok (.iastore, 1) := by decide +kernel
theorem dX3_make_63 : decode cX3_make 63 = .ok (.dup, 1) := by decide +kernel
theorem dX3_make_64 : decode cX3_make 64 = .ok (.iconst 2, 1) := by decide +kernel
theorem dX3_make_65 : decode cX3_make 65 = .ok (.iconst 0, 1) := by decide +kernel
theorem dX3_make_66 : decode cX3_make 66 = .ok (.iastore, 1) := by decide +kernel
theorem dX3_make_67 : decode cX3_make 67 = .ok (.dup, 1) := by decide +kernel
theorem dX3_make_68 : decode cX3_make 68 = .ok (.iconst 3, 1) := by decide +kernel
theorem dX3_make_69 : decode cX3_make 69 = .ok (.iconst 0, 1) := by decide +kernel
theorem dX3_make_70 : decode cX3_make 70 = .ok (.iastore, 1) := by decide +kernel
theorem dX3_make_71 : decode cX3_make 71 = .ok (.dup, 1) := by decide +kernel
theorem dX3_make_72 : decode cX3_make 72 = .ok (.iconst 4, 1) := by decide +kernel
theorem dX3_make_73 : decode cX3_make 73 = .ok (.iconst 0, 1) := by decide +kernel
theorem dX3_make_74 : decode cX3_make 74 = .ok (.iastore, 1) := by decide +kernel
theorem dX3_make_75 : decode cX3_make 75 = .ok (.dup, 1) := by decide +kernel
theorem dX3_make_76 : decode cX3_make 76 = .ok (.iconst 5, 1) := by decide +kernel
theorem dX3_make_77 : decode cX3_make 77 = .ok (.iconst 0, 1) := by decide +kernel
theorem dX3_make_78 : decode cX3_make 78 = .ok (.iastore, 1) := by decide +kernel
theorem dX3_make_79 : decode cX3_make 79 = .ok (.dup, 1) := by decide +kernel
theorem dX3_make_80 : decode cX3_make 80 = .ok (.bipush 6, 2) := by decide +kernel
theorem dX3_make_82 : decode cX3_make 82 = .ok (.iconst 0, 1) := by decide +kernel
theorem dX3_make_83 : decode cX3_make 83 = .ok (.iastore, 1) := by decide +kernel
theorem dX3_make_84 : decode cX3_make 84 = .ok (.dup, 1) := by decide +kernel
theorem dX3_make_85 : decode cX3_make 85 = .ok (.bipush 7, 2) := by decide +kernel
theorem dX3_make_87 : decode cX3_make 87 = .ok (.iconst 0, 1) := by decide +kernel
theorem dX3_make_88 : decode cX3_make 88 = .ok (.iastore, 1) := by decide +kernel
theorem dX3_make_89 : decode cX3_make 89 = .ok (.astore_n 1, 1) := by decide +kernel
theorem dX3_make_90 : decode cX3_make 90 = .ok (.aload_n 1, 1) := by decide +kernel
theorem dX3_make_91 : decode cX3_make 91 = .ok (.iconst 0, 1) := by decide +kernel
theorem dX3_make_92 : decode cX3_make 92 = .ok (.aload_n 0, 1) := by decide +kernel
theorem dX3_make_93 : decode cX3_make 93 = .ok (.getfield 17, 3) := by decide +kernel
theorem dX3_make_96 : decode cX3_make 96 = .ok (.bipush 8, 2) := by decide +kernel
theorem dX3_make_98 : decode cX3_make 98 = .ok (.aload_n 0, 1) := by decide +kernel
theorem dX3_make_99 : decode cX3_make 99 = .ok (.getfield 32, 3) := by decide +kernel
theorem dX3_make_102 : decode cX3_make 102 = .ok (.imul, 1) := by decide +kernel
theorem dX3_make_103 : decode cX3_make 103 = .ok (.bipush 8, 2) := by decide +kernel
theorem dX3_make_105 : decode cX3_make 105 = .ok (.invokestatic 50, 3) := by decide +kernel
theorem dX3_make_108 : decode cX3_make 108 = .ok (.aload_n 0, 1) := by decide +kernel
theorem dX3_make_109 : decode cX3_make 109 = .ok (.dup, 1) := by decide +kernel
theorem dX3_make_110 : decode cX3_make 110 = .ok (.getfield 32, 3) := by decide +kernel
theorem dX3_make_113 : decode cX3_make 113 = .ok (.iconst 1, 1) := by decide +kernel
theorem dX3_make_114 : decode cX3_make 114 = .ok (.iadd, 1) := by decide +kernel
theorem dX3_make_115 : decode cX3_make 115 = .ok (.putfield 32, 3) := by decide +kernel
theorem dX3_make_118 : decode cX3_make 118 = .ok (.aload_n 0, 1) := by decide +kernel
theorem dX3_make_119 : decode cX3_make 119 = .ok (.getfield 32, 3) := by decide +kernel
theorem dX3_make_122 : decode cX3_make 122 = .ok (.iconst 1, 1) := by decide +kernel
theorem dX3_make_123 : decode cX3_make 123 = .ok (.isub, 1) := by decide +kernel
theorem dX3_make_124 : decode cX3_make 124 = .ok (.ireturn, 1) := by decide +kernel
set_option maxRecDepth 20000 in
theorem ggX3_pose_X3_isIn : GoodIn wsX3_pose wsX3_isIn := goodIn_r _ [12] (by decide +kernel) (by decide +kernel)
set_option maxRecDepth 20000 in
theorem gX3_pose_X3_isIn : GoodIn wsX3_pose (va_wsS RX3 35 yX3_isIn wsX3_isIn) := goodIn_app (goodIn_of _ (by decide +kernel)) ggX3_pose_X3_isIn
set_option maxRecDepth 20000 in
theorem ggX3_pose_X3_fail : GoodIn wsX3_pose wsX3_fail := goodIn_r _ [16, 1, 17, 18, 19, 20, 21, 22, 23, 24, 25] (by decide +kernel) (by decide +kernel)
set_option maxRecDepth 20000 in
theorem gX3_pose_X3_fail : GoodIn wsX3_pose (wsV RX3 46 RX3 yX3_fail wsX3_fail) := goodIn_app (goodIn_of _ (by decide +kernel)) ggX3_pose_X3_fail
theorem dX3_pose_0 : decode cX3_pose 0 = .ok (.aload_n 0, 1) := by decide +kernel
theorem dX3_pose_1 : decode cX3_pose 1 = .ok (.iconst 0, 1) := by decide +kernel
theorem dX3_pose_2 : decode cX3_pose 2 = .ok (.putfield 29, 3) := by decide +kernel
theorem dX3_pose_5 : decode cX3_pose 5 = .ok (.bipush 6, 2) := by decide +kernel
theorem dX3_pose_7 : decode cX3_pose 7 = .ok (.newarray .int, 2) := by decide +kernel
theorem dX3_pose_9 : decode cX3_pose 9 = .ok (.dup, 1) := by decide +kernel
theorem dX3_pose_10 : decode cX3_pose 10 = .ok (.iconst 0, 1) := by decide +kernel
theorem dX3_pose_11 : decode cX3_pose 11 = .ok (.iload_n 1, 1) := by decide +kernel
theorem dX3_pose_12 : decode cX3_pose 12 = .ok (.iastore, 1) := by decide +kernel
theorem dX3_pose_13 : decode cX3_pose 13 = .ok (.dup, 1) := by decide +kernel
theorem dX3_pose_14 : decode cX3_pose 14 = .ok (.iconst 1, 1) := by decide +kernel
theorem dX3_pose_15 : decode cX3_pose 15 = .ok (.iload_n 2, 1) := by decide +kernel
theorem dX3_pose_16 : decode cX3_pose 16 = .ok (.iastore, 1) := by decide +kernel
theorem dX3_pose_17 : decode cX3_pose 17 = .ok (.dup, 1) := by decide +kernel
theorem dX3_pose_18 : decode cX3_pose 18 = .ok (.iconst 2, 1) := by decide +kernel
theorem dX3_pose_19 : decode cX3_pose 19 = .ok (.iload_n 3, 1) := by decide +kernel
theorem dX3_pose_20 : decode cX3_pose 20 = .ok (.iastore, 1) := by decide +kernel
theorem dX3_pose_21 : decode cX3_pose 21 = .ok (.dup, 1) := by decide +kernel
theorem dX3_pose_22 : decode cX3_pose 22 = .ok (.iconst 3, 1) := by decide +kernel
theorem dX3_pose_23 : decode cX3_pose 23 = .ok (.iload 4, 2) := by decide +kernel
theorem dX3_pose_25 : decode cX3_pose 25 = .ok (.iastore, 1) := by decide +kernel
theorem dX3_pose_26 : decode cX3_pose 26 = .ok (.dup, 1) := by decide +kernel
theorem dX3_pose_27 : decode cX3_pose 27 = .ok (.iconst 4, 1) := by decide +kernel
theorem dX3_pose_28 : decode cX3_pose 28 = .ok (.iload 5, 2) := by decide +kernel
theorem dX3_pose_30 : decode cX3_pose 30 = .ok (.iastore, 1) := by decide +kernel
theorem dX3_pose_31 : decode cX3_pose 31 = .ok (.dup, 1) := by decide +kernel
theorem dX3_pose_32 : decode cX3_pose 32 = .ok (.iconst 5, 1) := by decide +kernel
theorem dX3_pose_33 : decode cX3_pose 33 = .ok (.iload 6, 2) := by decide +kernel
theorem dX3_pose_35 : decode cX3_pose 35 = .ok (.iastore, 1) := by decide +kernel
theorem dX3_pose_36 : decode cX3_pose 36 = .ok (.astore 7, 2) := by decide +kernel
theorem dX3_pose_38 : decode cX3_pose 38 = .ok (.aload 7, 2) := by decide +kernel
theorem dX3_pose_40 : decode cX3_pose 40 = .ok (.astore 8, 2) := by decide +kernel
theorem dX3_pose_42 : decode cX3_pose 42 = .ok (.aload 8, 2) := by decide +kernel
theorem dX3_pose_44 : decode cX3_pose 44 = .ok (.arraylength, 1) := by decide +kernel
theorem dX3_pose_45 : decode cX3_pose 45 = .ok (.istore 9, 2) := by decide +kernel
theorem dX3_pose_47 : decode cX3_pose 47 = .ok (.iconst 0, 1) := by decide +kernel
theorem dX3_pose_48 : decode cX3_pose 48 = .ok (.istore 10, 2) := by decide +kernel
theorem dX3_pose_50 : decode cX3_pose 50 = .ok (.iload 10, 2) := by decide +kernel
theorem dX3_pose_52 : decode cX3_pose 52 = .ok (.iload 9, 2) := by decide +kernel
theorem dX3_pose_54 : decode cX3_pose 54 = .ok (.if_icmp .ge 33, 3) := by decide +kernel
theorem dX3_pose_57 : decode cX3_pose 57 = .ok (.aload 8, 2) := by decide +kernel
theorem dX3_pose_59 : decode cX3_pose 59 = .ok (.iload 10, 2) := by decide +kernel
theorem dX3_pose_61 : decode cX3_pose 61 = .ok (.iaload, 1) := by decide +kernel
theorem dX3_pose_62 : decode cX3_pose 62 = .ok (.istore 11, 2) := by decide +kernel
theorem dX3_pose_64 : decode cX3_pose 64 = .ok (.iload 11, 2) := by decide +kernel
theorem dX3_pose_66 : decode cX3_pose 66 = .ok (.iconst 0, 1) := by decide +kernel
theorem dX3_pose_67 : decode cX3_pose 67 = .ok (.bipush 90, 2) := by decide +kernel
theorem dX3_pose_69 : decode cX3_pose 69 = .ok (.invokestatic 35, 3) := by decide +kernel
theorem dX3_pose_72 : decode cX3_pose 72 = .ok (.ifCond .ne 9, 3) := by decide +kernel
theorem dX3_pose_75 : decode cX3_pose 75 = .ok (.aload_n 0, 1) := by decide +kernel
theorem dX3_pose_76 : decode cX3_pose 76 = .ok (.iconst 1, 1) := by decide +kernel
theorem dX3_pose_77 : decode cX3_pose 77 = .ok (.invokevirtual 46, 3) := by decide +kernel
theorem dX3_pose_80 : decode cX3_pose 80 = .ok (.ireturn, 1) := by decide +kernel
theorem dX3_pose_81 : decode cX3_pose 81 = .ok (.iinc 10 1, 3) := by decide +kernel
theorem dX3_pose_84 : decode cX3_pose 84 = .ok (.goto (-34), 3) := by decide +kernel
theorem dX3_pose_87 : decode cX3_pose 87 = .ok (.aload_n 0, 1) := by decide +kernel
theorem dX3_pose_88 : decode cX3_pose 88 = .ok (.getfield 39, 3) := by decide +kernel
theorem dX3_pose_91 : decode cX3_pose 91 = .ok (.bipush 8, 2) := by decide +kernel
theorem dX3_pose_93 : decode cX3_pose 93 = .ok (.if_icmp .ne 9, 3) := by decide +kernel
theorem dX3_pose_96 : decode cX3_pose 96 = .ok (.aload_n 0, 1) := by decide +kernel
theorem dX3_pose_97 : decode cX3_pose 97 = .ok (.iconst 2, 1) := by decide +kernel
theorem dX3_pose_98 : decode cX3_pose 98 = .ok (.invokevirtual 46, 3) := by decide +kernel
theorem dX3_pose_101 : decode cX3_pose 101 = .ok (.ireturn, 1) := by decide +kernel
theorem dX3_pose_102 : decode cX3_pose 102 = .ok (.aload 7, 2) := by decide +kernel
theorem dX3_pose_104 : decode cX3_pose 104 = .ok (.iconst 0, 1) := by decide +kernel
theorem dX3_pose_105 : decode cX3_pose 105 = .ok (.aload_n 0, 1) := by decide +kernel
theorem dX3_pose_106 : decode cX3_pose 106 = .ok (.getfield 20, 3) := by decide +kernel
theorem dX3_pose_109 : decode cX3_pose 109 = .ok (.bipush 6, 2) := by decide +kernel
theorem dX3_pose_111 : decode cX3_pose 111 = .ok (.aload_n 0, 1) := by decide +kernel
theorem dX3_pose_112 : decode cX3_pose 112 = .ok (.getfield 39, 3) := by decide +kernel
theorem dX3_pose_115 : decode cX3_pose 115 = .ok (.imul, 1) := by decide +kernel
theorem dX3_pose_116 : decode cX3_pose 116 = .ok (.bipush 6, 2) := by decide +kernel
theorem dX3_pose_118 : decode cX3_pose 118 = .ok (.invokestatic 50, 3) := by decide +kernel
theorem dX3_pose_121 : decode cX3_pose 121 = .ok (.aload_n 0, 1) := by decide +kernel
theorem dX3_pose_122 : decode cX3_pose 122 = .ok (.dup, 1) := by decide +kernel
theorem dX3_pose_123 : decode cX3_pose 123 = .ok (.getfield 39, 3) := by decide +kernel
theorem dX3_pose_126 : decode cX3_pose 126 = .ok (.iconst 1, 1) := by decide +kernel
theorem dX3_pose_127 : decode cX3_pose 127 = .ok (.iadd, 1) := by decide +kernel
theorem dX3_pose_128 : decode cX3_pose 128 = .ok (.putfield 39, 3) := by decide +kernel
theorem dX3_pose_131 : decode cX3_pose 131 = .ok (.aload_n 0, 1) := by decide +kernel
theorem dX3_pose_132 : decode cX3_pose 132 = .ok (.getfield 39, 3) := by decide +kernel
theorem dX3_pose_135 : decode cX3_pose 135 = .ok (.iconst 1, 1) := by decide +kernel
theorem dX3_pose_136 : decode cX3_pose 136 = .ok (.isub, 1) := by decide +kernel
theorem dX3_pose_137 : decode cX3_pose 137 = .ok (.ireturn, 1) := by decide +kernel
set_option maxRecDepth 20000 in
theorem ggX3_isBroken_X3_li : GoodIn wsX3_isBroken wsX3_li := goodIn_r _ [5, 6, 7, 8, 4, 9, 10, 11, 12, 13, 14, 15, 16, 17, 18] (by decide +kernel) (by decide +kernel)
set_option maxRecDepth 20000 in
theorem gX3_isBroken_X3_li : GoodIn wsX3_isBroken (wsV RX3 56 RX3 yX3_li wsX3_li) := goodIn_app (goodIn_of _ (by decide +kernel)) ggX3_isBroken_X3_li
theorem dX3_isBroken_0 : decode cX3_isBroken 0 = .ok (.aload_n 0, 1) := by decide +kernel
theorem dX3_isBroken_1 : decode cX3_isBroken 1 = .ok (.iload_n 1, 1) := by decide +kernel
theorem dX3_isBroken_2 : decode cX3_isBroken 2 = .ok (.iload_n 2, 1) := by decide +kernel
theorem dX3_isBroken_3 : decode cX3_isBroken 3 = .ok (.iconst 1, 1) := by decide +kernel
theorem dX3_isBroken_4 : decode cX3_isBroken 4 = .ok (.invokevirtual 56, 3) := by decide +kernel
theorem dX3_isBroken_7 : decode cX3_isBroken 7 = .ok (.bipush 100, 2) := by decide +kernel
theorem dX3_isBroken_9 : decode cX3_isBroken 9 = .ok (.if_icmp .ne 7, 3) := by decide +kernel
theorem dX3_isBroken_12 : decode cX3_isBroken 12 = .ok (.iconst 1, 1) := by decide +kernel
theorem dX3_isBroken_13 : decode cX3_isBroken 13 = .ok (.goto 4, 3) := by decide +kernel
theorem dX3_isBroken_16 : decode cX3_isBroken 16 = .ok (.iconst 0, 1) := by decide +kernel
theorem dX3_isBroken_17 : decode cX3_isBroken 17 = .ok (.ireturn, 1) := by decide +kernel
set_option maxRecDepth 20000 in
theorem ggX3_turn_X3_li : GoodIn wsX3_turn wsX3_li := goodIn_r _ [13, 5, 14, 15, 12, 16, 21, 22, 23, 24, 25, 26, 27, 28, 29] (by decide +kernel) (by decide +kernel)
set_option maxRecDepth 20000 in
theorem gX3_turn_X3_li : GoodIn wsX3_turn (wsV RX3 56 RX3 yX3_li wsX3_li) := goodIn_app (goodIn_of _ (by decide +kernel)) ggX3_turn_X3_li
set_option maxRecDepth 20000 in
theorem ggX3_turn_X3_at : GoodIn wsX3_turn wsX3_at := goodIn_r _ [16] (by decide +kernel) (by decide +kernel)
set_option maxRecDepth 20000 in
theorem gX3_turn_X3_at : GoodIn wsX3_turn (va_wsS RX3 42 yX3_at wsX3_at) := goodIn_app (goodIn_of _ (by decide +kernel)) ggX3_turn_X3_at
set_option maxRecDepth 20000 in
theorem ggX3_turn_X3_isBroken : GoodIn wsX3_turn wsX3_isBroken := goodIn_r _ [20, 9, 10, 11, 12, 13, 5, 14, 15, 16, 21, 22, 23, 24, 25, 26, 27, 28, 29] (by decide +kernel) (by decide +kernel)
set_option maxRecDepth 20000 in
theorem gX3_turn_X3_isBroken : GoodIn wsX3_turn (wsV RX3 68 RX3 yX3_isBroken wsX3_isBroken) := goodIn_app (goodIn_of _ (by decide +kernel)) ggX3_turn_X3_isBroken
theorem dX3_turn_0 : decode cX3_turn 0 = .ok (.aload_n 0, 1) := by decide +kernel
theorem dX3_turn_1 : decode cX3_turn 1 = .ok (.iload_n 1, 1) := by decide +kernel
theorem dX3_turn_2 : decode cX3_turn 2 = .ok (.iload_n 2, 1) := by decide +kernel
theorem dX3_turn_3 : decode cX3_turn 3 = .ok (.iconst 0, 1) := by decide +kernel
theorem dX3_turn_4 : decode cX3_turn 4 = .ok (.invokevirtual 56, 3) := by decide +kernel
theorem dX3_turn_7 : decode cX3_turn 7 = .ok (.iload_n 3, 1) := by decide +kernel
theorem dX3_turn_8 : decode cX3_turn 8 = .ok (.isub, 1) := by decide +kernel
theorem dX3_turn_9 : decode cX3_turn 9 = .ok (.invokestatic 59, 3) := by decide +kernel
theorem dX3_turn_12 : decode cX3_turn 12 = .ok (.istore 4, 2) := by decide +kernel
theorem dX3_turn_14 : decode cX3_turn 14 = .ok (.iload 4, 2) := by decide +kernel
theorem dX3_turn_16 : decode cX3_turn 16 = .ok (.ifCond .ne 5, 3) := by decide +kernel
theorem dX3_turn_19 : decode cX3_turn 19 = .ok (.iconst 0, 1) := by decide +kernel
theorem dX3_turn_20 : decode cX3_turn 20 = .ok (.ireturn, 1) := by decide +kernel
theorem dX3_turn_21 : decode cX3_turn 21 = .ok (.aload_n 0, 1) := by decide +kernel
theorem dX3_turn_22 : decode cX3_turn 22 = .ok (.iload_n 1, 1) := by decide +kernel
theorem dX3_turn_23 : decode cX3_turn 23 = .ok (.iload_n 2, 1) := by decide +kernel
theorem dX3_turn_24 : decode cX3_turn 24 = .ok (.iconst 2, 1) := by decide +kernel
theorem dX3_turn_25 : decode cX3_turn 25 = .ok (.invokevirtual 56, 3) := by decide +kernel
theorem dX3_turn_28 : decode cX3_turn 28 = .ok (.ifCond .le 7, 3) := by decide +kernel
theorem dX3_turn_31 : decode cX3_turn 31 = .ok (.iconst 1, 1) := by decide +kernel
theorem dX3_turn_32 : decode cX3_turn 32 = .ok (.goto 4, 3) := by decide +kernel
theorem dX3_turn_35 : decode cX3_turn 35 = .ok (.iconst 0, 1) := by decide +kernel
theorem dX3_turn_36 : decode cX3_turn 36 = .ok (.istore 5, 2) := by decide +kernel
theorem dX3_turn_38 : decode cX3_turn 38 = .ok (.aload_n 0, 1) := by decide +kernel
theorem dX3_turn_39 : decode cX3_turn 39 = .ok (.getfield 13, 3) := by decide +kernel
theorem dX3_turn_42 : decode cX3_turn 42 = .ok (.iload_n 1, 1) := by decide +kernel
theorem dX3_turn_43 : decode cX3_turn 43 = .ok (.iload_n 2, 1) := by decide +kernel
theorem dX3_turn_44 : decode cX3_turn 44 = .ok (.iconst 0, 1) := by decide +kernel
theorem dX3_turn_45 : decode cX3_turn 45 = .ok (.invokestatic 42, 3) := by decide +kernel
theorem dX3_turn_48 : decode cX3_turn 48 = .ok (.iload_n 3, 1) := by decide +kernel
theorem dX3_turn_49 : decode cX3_turn 49 = .ok (.iastore, 1) := by decide +kernel
theorem dX3_turn_50 : decode cX3_turn 50 = .ok (.aload_n 0, 1) := by decide +kernel
theorem dX3_turn_51 : decode cX3_turn 51 = .ok (.getfield 13, 3) := by decide +kernel
theorem dX3_turn_54 : decode cX3_turn 54 = .ok (.iload_n 1, 1) := by decide +kernel
theorem dX3_turn_55 : decode cX3_turn 55 = .ok (.iload_n 2, 1) := by decide +kernel
theorem dX3_turn_56 : decode cX3_turn 56 = .ok (.iconst 1, 1) := by decide +kernel
theorem dX3_turn_57 : decode cX3_turn 57 = .ok (.invokestatic 42, 3) := by decide +kernel
theorem dX3_turn_60 : decode cX3_turn 60 = .ok (.bipush 100, 2) := by decide +kernel
theorem dX3_turn_62 : decode cX3_turn 62 = .ok (.aload_n 0, 1) := by decide +kernel
theorem dX3_turn_63 : decode cX3_turn 63 = .ok (.iload_n 1, 1) := by decide +kernel
theorem dX3_turn_64 : decode cX3_turn 64 = .ok (.iload_n 2, 1) := by decide +kernel
theorem dX3_turn_65 : decode cX3_turn 65 = .ok (.iconst 1, 1) := by decide +kernel
theorem dX3_turn_66 : decode cX3_turn 66 = .ok (.invokevirtual 56, 3) := by decide +kernel
theorem dX3_turn_69 : decode cX3_turn 69 = .ok (.iload 5, 2) := by decide +kernel
theorem dX3_turn_71 : decode cX3_turn 71 = .ok (.ifCond .eq 11, 3) := by decide +kernel
theorem dX3_turn_74 : decode cX3_turn 74 = .ok (.iload 4, 2) := by decide +kernel
theorem dX3_turn_76 : decode cX3_turn 76 = .ok (.bipush 20, 2) := by decide +kernel
theorem dX3_turn_78 : decode cX3_turn 78 = .ok (.idiv, 1) := by decide +kernel
theorem dX3_turn_79 : decode cX3_turn 79 = .ok (.goto 10, 3) := by decide +kernel
theorem dX3_turn_82 : decode cX3_turn 82 = .ok (.iload 4, 2) := by decide +kernel
theorem dX3_turn_84 : decode cX3_turn 84 = .ok (.bipush 10, 2) := by decide +kernel
theorem dX3_turn_86 : decode cX3_turn 86 = .ok (.idiv, 1) := by decide +kernel
theorem dX3_turn_87 : decode cX3_turn 87 = .ok (.iconst 1, 1) := by decide +kernel
theorem dX3_turn_88 : decode cX3_turn 88 = .ok (.iadd, 1) := by decide +kernel
theorem dX3_turn_89 : decode cX3_turn 89 = .ok (.iadd, 1) := by decide +kernel
theorem dX3_turn_90 : decode cX3_turn 90 = .ok (.invokestatic 64, 3) := by decide +kernel
theorem dX3_turn_93 : decode cX3_turn 93 = .ok (.iastore, 1) := by decide +kernel
theorem dX3_turn_94 : decode cX3_turn 94 = .ok (.iload 5, 2) := by decide +kernel
theorem dX3_turn_96 : decode cX3_turn 96 = .ok (.ifCond .eq 18, 3) := by decide +kernel
theorem dX3_turn_99 : decode cX3_turn 99 = .ok (.aload_n 0, 1) := by decide +kernel
theorem dX3_turn_100 : decode cX3_turn 100 = .ok (.getfield 13, 3) := by decide +kernel
theorem dX3_turn_103 : decode cX3_turn 103 = .ok (.iload_n 1, 1) := by decide +kernel
theorem dX3_turn_104 : decode cX3_turn 104 = .ok (.iload_n 2, 1) := by decide +kernel
theorem dX3_turn_105 : decode cX3_turn 105 = .ok (.iconst 2, 1) := by decide +kernel
theorem dX3_turn_106 : decode cX3_turn 106 = .ok (.invokestatic 42, 3) := by decide +kernel
theorem dX3_turn_109 : decode cX3_turn 109 = .ok (.dup2, 1) := by decide +kernel
theorem dX3_turn_110 : decode cX3_turn 110 = .ok (.iaload, 1) := by decide +kernel
theorem dX3_turn_111 : decode cX3_turn 111 = .ok (.iconst 1, 1) := by decide +kernel
theorem dX3_turn_112 : decode cX3_turn 112 = .ok (.isub, 1) := by decide +kernel
theorem dX3_turn_113 : decode cX3_turn 113 = .ok (.iastore, 1) := by decide +kernel
theorem dX3_turn_114 : decode cX3_turn 114 = .ok (.aload_n 0, 1) := by decide +kernel
theorem dX3_turn_115 : decode cX3_turn 115 = .ok (.iload_n 1, 1) := by decide +kernel
theorem dX3_turn_116 : decode cX3_turn 116 = .ok (.iload_n 2, 1) := by decide +kernel
theorem dX3_turn_117 : decode cX3_turn 117 = .ok (.invokevirtual 68, 3) := by decide +kernel
theorem dX3_turn_120 : decode cX3_turn 120 = .ok (.ireturn, 1) := by decide +kernel
set_option maxRecDepth 20000 in
theorem ggX3_can_X3_isBroken : GoodIn wsX3_can wsX3_isBroken := goodIn_r _ [6, 7, 8, 9, 5, 10, 11, 12, 13, 14, 15, 16, 17, 18, 19, 20, 21, 22, 23] (by decide +kernel) (by decide +kernel)
set_option maxRecDepth 20000 in
theorem gX3_can_X3_isBroken : GoodIn wsX3_can (wsV RX3 68 RX3 yX3_isBroken wsX3_isBroken) := goodIn_app (goodIn_of _ (by decide +kernel)) ggX3_can_X3_isBroken
set_option maxRecDepth 20000 in
theorem ggX3_can_X3_li : GoodIn wsX3_can wsX3_li := goodIn_r _ [10, 11, 12, 13, 5, 14, 15, 16, 17, 18, 19, 20, 21, 22, 23] (by decide +kernel) (by decide +kernel)
set_option maxRecDepth 20000 in
theorem gX3_can_X3_li : GoodIn wsX3_can (wsV RX3 56 RX3 yX3_li wsX3_li) := goodIn_app (goodIn_of _ (by decide +kernel)) ggX3_can_X3_li
theorem dX3_can_0 : decode cX3_can 0 = .ok (.iconst 0, 1) := by decide +kernel
theorem dX3_can_1 : decode cX3_can 1 = .ok (.istore_n 3, 1) := by decide +kernel
theorem dX3_can_2 : decode cX3_can 2 = .ok (.iload_n 3, 1) := by decide +kernel
theorem dX3_can_3 : decode cX3_can 3 = .ok (.bipush 6, 2) := by decide +kernel
theorem dX3_can_5 : decode cX3_can 5 = .ok (.if_icmp .ge 41, 3) := by decide +kernel
theorem dX3_can_8 : decode cX3_can 8 = .ok (.aload_n 0, 1) := by decide +kernel
theorem dX3_can_9 : decode cX3_can 9 = .ok (.iload_n 1, 1) := by decide +kernel
theorem dX3_can_10 : decode cX3_can 10 = .ok (.iload_n 3, 1) := by decide +kernel
theorem dX3_can_11 : decode cX3_can 11 = .ok (.invokevirtual 68, 3) := by decide +kernel
theorem dX3_can_14 : decode cX3_can 14 = .ok (.ifCond .eq 26, 3) := by decide +kernel
theorem dX3_can_17 : decode cX3_can 17 = .ok (.aload_n 0, 1) := by decide +kernel
theorem dX3_can_18 : decode cX3_can 18 = .ok (.iload_n 1, 1) := by decide +kernel
theorem dX3_can_19 : decode cX3_can 19 = .ok (.iload_n 3, 1) := by decide +kernel
theorem dX3_can_20 : decode cX3_can 20 = .ok (.iconst 0, 1) := by decide +kernel
theorem dX3_can_21 : decode cX3_can 21 = .ok (.invokevirtual 56, 3) := by decide +kernel
theorem dX3_can_24 : decode cX3_can 24 = .ok (.aload_n 0, 1) := by decide +kernel
theorem dX3_can_25 : decode cX3_can 25 = .ok (.getfield 20, 3) := by decide +kernel
theorem dX3_can_28 : decode cX3_can 28 = .ok (.bipush 6, 2) := by decide +kernel
theorem dX3_can_30 : decode cX3_can 30 = .ok (.iload_n 2, 1) := by decide +kernel
theorem dX3_can_31 : decode cX3_can 31 = .ok (.imul, 1) := by decide +kernel
theorem dX3_can_32 : decode cX3_can 32 = .ok (.iload_n 3, 1) := by decide +kernel
theorem dX3_can_33 : decode cX3_can 33 = .ok (.iadd, 1) := by decide +kernel
theorem dX3_can_34 : decode cX3_can 34 = .ok (.iaload, 1) := by decide +kernel
theorem dX3_can_35 : decode cX3_can 35 = .ok (.if_icmp .eq 5, 3) := by decide +kernel
theorem dX3_can_38 : decode cX3_can 38 = .ok (.iconst 0, 1) := by decide +kernel
theorem dX3_can_39 : decode cX3_can 39 = .ok (.ireturn, 1) := by decide +kernel
theorem dX3_can_40 : decode cX3_can 40 = .ok (.iinc 3 1, 3) := by decide +kernel
theorem dX3_can_43 : decode cX3_can 43 = .ok (.goto (-41), 3) := by decide +kernel
theorem dX3_can_46 : decode cX3_can 46 = .ok (.iconst 1, 1) := by decide +kernel
theorem dX3_can_47 : decode cX3_can 47 = .ok (.ireturn, 1) := by decide +kernel
set_option maxRecDepth 20000 in
theorem ggX3_turnAll_X3_turn : GoodIn wsX3_turnAll wsX3_turn := goodIn_r _ [6, 7, 8, 9, 10, 11, 12, 13, 14, 15, 16, 17, 5, 18, 19, 20, 21, 22, 23, 24, 25, 26, 27, 28, 29, 30, 31, 32, 33, 34] (by decide +kernel) (by decide +kernel)
set_option maxRecDepth 20000 in
theorem gX3_turnAll_X3_turn : GoodIn wsX3_turnAll (wsV RX3 72 RX3 yX3_turn wsX3_turn) := goodIn_app (goodIn_of _ (by decide +kernel)) ggX3_turnAll_X3_turn
theorem dX3_turnAll_0 : decode cX3_turnAll 0 = .ok (.iconst 0, 1) := by decide +kernel
theorem dX3_turnAll_1 : decode cX3_turnAll 1 = .ok (.istore_n 3, 1) := by decide +kernel
theorem dX3_turnAll_2 : decode cX3_turnAll 2 = .ok (.iconst 0, 1) := by decide +kernel
theorem dX3_turnAll_3 : decode cX3_turnAll 3 = .ok (.istore 4, 2) := by decide +kernel
theorem dX3_turnAll_5 : decode cX3_turnAll 5 = .ok (.iload 4, 2) := by decide +kernel
theorem dX3_turnAll_7 : decode cX3_turnAll 7 = .ok (.bipush 6, 2) := by decide +kernel
theorem dX3_turnAll_9 : decode cX3_turnAll 9 = .ok (.if_icmp .ge 39, 3) := by decide +kernel
theorem dX3_turnAll_12 : decode cX3_turnAll 12 = .ok (.iload_n 3, 1) := by decide +kernel
theorem dX3_turnAll_13 : decode cX3_turnAll 13 = .ok (.aload_n 0, 1) := by decide +kernel
theorem dX3_turnAll_14 : decode cX3_turnAll 14 = .ok (.iload_n 1, 1) := by decide +kernel
theorem dX3_turnAll_15 : decode cX3_turnAll 15 = .ok (.iload 4, 2) := by decide +kernel
theorem dX3_turnAll_17 : decode cX3_turnAll 17 = .ok (.aload_n 0, 1) := by decide +kernel
theorem dX3_turnAll_18 : decode cX3_turnAll 18 = .ok (.getfield 20, 3) := by decide +kernel
theorem dX3_turnAll_21 : decode cX3_turnAll 21 = .ok (.bipush 6, 2) := by decide +kernel
theorem dX3_turnAll_23 : decode cX3_turnAll 23 = .ok (.iload_n 2, 1) := by decide +kernel
theorem dX3_turnAll_24 : decode cX3_turnAll 24 = .ok (.imul, 1) := by decide +kernel
theorem dX3_turnAll_25 : decode cX3_turnAll 25 = .ok (.iload 4, 2) := by decide +kernel
theorem dX3_turnAll_27 : decode cX3_turnAll 27 = .ok (.iadd, 1) := by decide +kernel
theorem dX3_turnAll_28 : decode cX3_turnAll 28 = .ok (.iaload, 1) := by decide +kernel
theorem dX3_turnAll_29 : decode cX3_turnAll 29 = .ok (.invokevirtual 72, 3) := by decide +kernel
theorem dX3_turnAll_32 : decode cX3_turnAll 32 = .ok (.ifCond .eq 7, 3) := by decide +kernel
theorem dX3_turnAll_35 : decode cX3_turnAll 35 = .ok (.iconst 1, 1) := by decide +kernel
theorem dX3_turnAll_36 : decode cX3_turnAll 36 = .ok (.goto 4, 3) := by decide +kernel
theorem dX3_turnAll_39 : decode cX3_turnAll 39 = .ok (.iconst 0, 1) := by decide +kernel
theorem dX3_turnAll_40 : decode cX3_turnAll 40 = .ok (.iadd, 1) := by decide +kernel
theorem dX3_turnAll_41 : decode cX3_turnAll 41 = .ok (.istore_n 3, 1) := by decide +kernel
theorem dX3_turnAll_42 : decode cX3_turnAll 42 = .ok (.iinc 4 1, 3) := by decide +kernel
theorem dX3_turnAll_45 : decode cX3_turnAll 45 = .ok (.goto (-40), 3) := by decide +kernel
theorem dX3_turnAll_48 : decode cX3_turnAll 48 = .ok (.iload_n 3, 1) := by decide +kernel
theorem dX3_turnAll_49 : decode cX3_turnAll 49 = .ok (.ireturn, 1) := by decide +kernel
set_option maxRecDepth 20000 in
theorem ggX3_take_X3_isDoll : GoodIn wsX3_take wsX3_isDoll := goodIn_r _ [6, 7, 8, 9, 5, 10, 61, 62, 63, 64, 65, 66, 67, 68, 69] (by decide +kernel) (by decide +kernel)
set_option maxRecDepth 20000 in
theorem gX3_take_X3_isDoll : GoodIn wsX3_take (wsV RX3 75 RX3 yX3_isDoll wsX3_isDoll) := goodIn_app (goodIn_of _ (by decide +kernel)) ggX3_take_X3_isDoll
set_option maxRecDepth 20000 in
theorem ggX3_take_X3_isPose : GoodIn wsX3_take wsX3_isPose := goodIn_r _ [14, 15, 8, 9, 5, 10, 61, 62, 63, 64, 65, 66, 67, 68, 69] (by decide +kernel) (by decide +kernel)
set_option maxRecDepth 20000 in
theorem gX3_take_X3_isPose : GoodIn wsX3_take (wsV RX3 79 RX3 yX3_isPose wsX3_isPose) := goodIn_app (goodIn_of _ (by decide +kernel)) ggX3_take_X3_isPose
set_option maxRecDepth 20000 in
theorem ggX3_take_X3_fail : GoodIn wsX3_take wsX3_fail := goodIn_r _ [19, 1, 61, 62, 63, 64, 65, 66, 67, 68, 69] (by decide +kernel) (by decide +kernel)
set_option maxRecDepth 20000 in
theorem gX3_take_X3_fail : GoodIn wsX3_take (wsV RX3 46 RX3 yX3_fail wsX3_fail) := goodIn_app (goodIn_of _ (by decide +kernel)) ggX3_take_X3_fail
set_option maxRecDepth 20000 in
theorem ggX3_take_X3_can : GoodIn wsX3_take wsX3_can := goodIn_r _ [23, 24, 25, 26, 27, 5, 28, 29, 30, 31, 32, 33, 34, 35, 36, 61, 62, 63, 64, 65, 66, 67, 68, 69] (by decide +kernel) (by decide +kernel)
set_option maxRecDepth 20000 in
theorem gX3_take_X3_can : GoodIn wsX3_take (wsV RX3 82 RX3 yX3_can wsX3_can) := goodIn_app (goodIn_of _ (by decide +kernel)) ggX3_take_X3_can
set_option maxRecDepth 20000 in
theorem ggX3_take_X3_ro : GoodIn wsX3_take wsX3_ro := goodIn_r _ [40, 41, 61, 62, 63, 64, 65, 66, 67, 68, 69] (by decide +kernel) (by decide +kernel)
set_option maxRecDepth 20000 in
theorem gX3_take_X3_ro : GoodIn wsX3_take (wsV RX3 85 RX3 yX3_ro wsX3_ro) := goodIn_app (goodIn_of _ (by decide +kernel)) ggX3_take_X3_ro
set_option maxRecDepth 20000 in
theorem ggX3_take_X3_put : GoodIn wsX3_take wsX3_put := goodIn_r _ [45, 41, 61, 62, 63, 64, 65, 66, 67, 68, 69] (by decide +kernel) (by decide +kernel)
set_option maxRecDepth 20000 in
theorem gX3_take_X3_put : GoodIn wsX3_take (wsV RX3 88 RX3 yX3_put wsX3_put) := goodIn_app (goodIn_of _ (by decide +kernel)) ggX3_take_X3_put
set_option maxRecDepth 20000 in
theorem ggX3_take_X3_turnAll : GoodIn wsX3_take wsX3_turnAll := goodIn_r _ [49, 24, 50, 51, 52, 5, 53, 54, 55, 56, 57, 33, 58, 59, 60, 29, 30, 31, 32, 34, 35, 36, 25, 26, 27, 28, 61, 62, 63, 64, 65, 66, 67, 68, 69] (by decide +kernel) (by decide +kernel)
set_option maxRecDepth 20000 in
theorem gX3_take_X3_turnAll : GoodIn wsX3_take (wsV RX3 92 RX3 yX3_turnAll wsX3_turnAll) := goodIn_app (goodIn_of _ (by decide +kernel)) ggX3_take_X3_turnAll
theorem dX3_take_0 : decode cX3_take 0 = .ok (.aload_n 0, 1) := by decide +kernel
theorem dX3_take_1 : decode cX3_take 1 = .ok (.iconst 0, 1) := by decide +kernel
theorem dX3_take_2 : decode cX3_take 2 = .ok (.putfield 29, 3) := by decide +kernel
theorem dX3_take_5 : decode cX3_take 5 = .ok (.aload_n 0, 1) := by decide +kernel
theorem dX3_take_6 : decode cX3_take 6 = .ok (.iload_n 1, 1) := by decide +kernel
theorem dX3_take_7 : decode cX3_take 7 = .ok (.invokevirtual 75, 3) := by decide +kernel
theorem dX3_take_10 : decode cX3_take 10 = .ok (.ifCond .eq 11, 3) := by decide +kernel
theorem dX3_take_13 : decode cX3_take 13 = .ok (.aload_n 0, 1) := by decide +kernel
theorem dX3_take_14 : decode cX3_take 14 = .ok (.iload_n 2, 1) := by decide +kernel
theorem dX3_take_15 : decode cX3_take 15 = .ok (.invokevirtual 79, 3) := by decide +kernel
theorem dX3_take_18 : decode cX3_take 18 = .ok (.ifCond .ne 9, 3) := by decide +kernel
theorem dX3_take_21 : decode cX3_take 21 = .ok (.aload_n 0, 1) := by decide +kernel
theorem dX3_take_22 : decode cX3_take 22 = .ok (.iconst 1, 1) := by decide +kernel
theorem dX3_take_23 : decode cX3_take 23 = .ok (.invokevirtual 46, 3) := by decide +kernel
theorem dX3_take_26 : decode cX3_take 26 = .ok (.ireturn, 1) := by decide +kernel
theorem dX3_take_27 : decode cX3_take 27 = .ok (.aload_n 0, 1) := by decide +kernel
theorem dX3_take_28 : decode cX3_take 28 = .ok (.iload_n 1, 1) := by decide +kernel
theorem dX3_take_29 : decode cX3_take 29 = .ok (.iload_n 2, 1) := by decide +kernel
theorem dX3_take_30 : decode cX3_take 30 = .ok (.invokevirtual 82, 3) := by decide +kernel
theorem dX3_take_33 : decode cX3_take 33 = .ok (.ifCond .ne 9, 3) := by decide +kernel
theorem dX3_take_36 : decode cX3_take 36 = .ok (.aload_n 0, 1) := by decide +kernel
theorem dX3_take_37 : decode cX3_take 37 = .ok (.iconst 2, 1) := by decide +kernel
theorem dX3_take_38 : decode cX3_take 38 = .ok (.invokevirtual 46, 3) := by decide +kernel
theorem dX3_take_41 : decode cX3_take 41 = .ok (.ireturn, 1) := by decide +kernel
theorem dX3_take_42 : decode cX3_take 42 = .ok (.aload_n 0, 1) := by decide +kernel
theorem dX3_take_43 : decode cX3_take 43 = .ok (.iload_n 1, 1) := by decide +kernel
theorem dX3_take_44 : decode cX3_take 44 = .ok (.bipush 7, 2) := by decide +kernel
theorem dX3_take_46 : decode cX3_take 46 = .ok (.aload_n 0, 1) := by decide +kernel
theorem dX3_take_47 : decode cX3_take 47 = .ok (.iload_n 1, 1) := by decide +kernel
theorem dX3_take_48 : decode cX3_take 48 = .ok (.bipush 7, 2) := by decide +kernel
theorem dX3_take_50 : decode cX3_take 50 = .ok (.invokevirtual 85, 3) := by decide +kernel
theorem dX3_take_53 : decode cX3_take 53 = .ok (.iconst 1, 1) := by decide +kernel
theorem dX3_take_54 : decode cX3_take 54 = .ok (.iadd, 1) := by decide +kernel
theorem dX3_take_55 : decode cX3_take 55 = .ok (.invokevirtual 88, 3) := by decide +kernel
theorem dX3_take_58 : decode cX3_take 58 = .ok (.aload_n 0, 1) := by decide +kernel
theorem dX3_take_59 : decode cX3_take 59 = .ok (.iload_n 1, 1) := by decide +kernel
theorem dX3_take_60 : decode cX3_take 60 = .ok (.iload_n 2, 1) := by decide +kernel
theorem dX3_take_61 : decode cX3_take 61 = .ok (.invokevirtual 92, 3) := by decide +kernel
theorem dX3_take_64 : decode cX3_take 64 = .ok (.ireturn, 1) := by decide +kernel
set_option maxRecDepth 20000 in
theorem ggX3_blink_X3_isDoll : GoodIn wsX3_blink wsX3_isDoll := goodIn_r _ [6, 7, 8, 9, 5, 10, 20, 21, 22, 23, 24, 25, 26, 27, 28] (by decide +kernel) (by decide +kernel)
set_option maxRecDepth 20000 in
theorem gX3_blink_X3_isDoll : GoodIn wsX3_blink (wsV RX3 75 RX3 yX3_isDoll wsX3_isDoll) := goodIn_app (goodIn_of _ (by decide +kernel)) ggX3_blink_X3_isDoll
set_option maxRecDepth 20000 in
theorem ggX3_blink_X3_isIn : GoodIn wsX3_blink wsX3_isIn := goodIn_r _ [10] (by decide +kernel) (by decide +kernel)
set_option maxRecDepth 20000 in
theorem gX3_blink_X3_isIn : GoodIn wsX3_blink (va_wsS RX3 35 yX3_isIn wsX3_isIn) := goodIn_app (goodIn_of _ (by decide +kernel)) ggX3_blink_X3_isIn
set_option maxRecDepth 20000 in
theorem ggX3_blink_X3_ro : GoodIn wsX3_blink wsX3_ro := goodIn_r _ [14, 15, 20, 21, 22, 23, 24, 25, 26, 27, 28] (by decide +kernel) (by decide +kernel)
set_option maxRecDepth 20000 in
theorem gX3_blink_X3_ro : GoodIn wsX3_blink (wsV RX3 85 RX3 yX3_ro wsX3_ro) := goodIn_app (goodIn_of _ (by decide +kernel)) ggX3_blink_X3_ro
set_option maxRecDepth 20000 in
theorem ggX3_blink_X3_put : GoodIn wsX3_blink wsX3_put := goodIn_r _ [19, 15, 20, 21, 22, 23, 24, 25, 26, 27, 28] (by decide +kernel) (by decide +kernel)
set_option maxRecDepth 20000 in
theorem gX3_blink_X3_put : GoodIn wsX3_blink (wsV RX3 88 RX3 yX3_put wsX3_put) := goodIn_app (goodIn_of _ (by decide +kernel)) ggX3_blink_X3_put
theorem dX3_blink_0 : decode cX3_blink 0 = .ok (.aload_n 0, 1) := by decide +kernel
theorem dX3_blink_1 : decode cX3_blink 1 = .ok (.aload_n 0, 1) := by decide +kernel
theorem dX3_blink_2 : decode cX3_blink 2 = .ok (.iload_n 1, 1) := by decide +kernel
theorem dX3_blink_3 : decode cX3_blink 3 = .ok (.invokevirtual 75, 3) := by decide +kernel
theorem dX3_blink_6 : decode cX3_blink 6 = .ok (.ifCond .eq 12, 3) := by decide +kernel
theorem dX3_blink_9 : decode cX3_blink 9 = .ok (.iload_n 2, 1) := by decide +kernel
theorem dX3_blink_10 : decode cX3_blink 10 = .ok (.iconst 0, 1) := by decide +kernel
theorem dX3_blink_11 : decode cX3_blink 11 = .ok (.iconst 1, 1) := by decide +kernel
theorem dX3_blink_12 : decode cX3_blink 12 = .ok (.invokestatic 35, 3) := by decide +kernel
theorem dX3_blink_15 : decode cX3_blink 15 = .ok (.ifCond .ne 7, 3) := by decide +kernel
theorem dX3_blink_18 : decode cX3_blink 18 = .ok (.iconst 1, 1) := by decide +kernel
theorem dX3_blink_19 : decode cX3_blink 19 = .ok (.goto 21, 3) := by decide +kernel
theorem dX3_blink_22 : decode cX3_blink 22 = .ok (.aload_n 0, 1) := by decide +kernel
theorem dX3_blink_23 : decode cX3_blink 23 = .ok (.iload_n 1, 1) := by decide +kernel
theorem dX3_blink_24 : decode cX3_blink 24 = .ok (.iconst 2, 1) := by decide +kernel
theorem dX3_blink_25 : decode cX3_blink 25 = .ok (.iload_n 2, 1) := by decide +kernel
theorem dX3_blink_26 : decode cX3_blink 26 = .ok (.iadd, 1) := by decide +kernel
theorem dX3_blink_27 : decode cX3_blink 27 = .ok (.invokevirtual 85, 3) := by decide +kernel
theorem dX3_blink_30 : decode cX3_blink 30 = .ok (.bipush 9, 2) := by decide +kernel
theorem dX3_blink_32 : decode cX3_blink 32 = .ok (.if_icmp .ne 7, 3) := by decide +kernel
theorem dX3_blink_35 : decode cX3_blink 35 = .ok (.iconst 2, 1) := by decide +kernel
theorem dX3_blink_36 : decode cX3_blink 36 = .ok (.goto 4, 3) := by decide +kernel
theorem dX3_blink_39 : decode cX3_blink 39 = .ok (.iconst 0, 1) := by decide +kernel
theorem dX3_blink_40 : decode cX3_blink 40 = .ok (.putfield 29, 3) := by decide +kernel
theorem dX3_blink_43 : decode cX3_blink 43 = .ok (.aload_n 0, 1) := by decide +kernel
theorem dX3_blink_44 : decode cX3_blink 44 = .ok (.getfield 29, 3) := by decide +kernel
theorem dX3_blink_47 : decode cX3_blink 47 = .ok (.ifCond .eq 5, 3) := by decide +kernel
theorem dX3_blink_50 : decode cX3_blink 50 = .ok (.iconst 0, 1) := by decide +kernel
theorem dX3_blink_51 : decode cX3_blink 51 = .ok (.ireturn, 1) := by decide +kernel
theorem dX3_blink_52 : decode cX3_blink 52 = .ok (.aload_n 0, 1) := by decide +kernel
theorem dX3_blink_53 : decode cX3_blink 53 = .ok (.iload_n 1, 1) := by decide +kernel
theorem dX3_blink_54 : decode cX3_blink 54 = .ok (.iconst 0, 1) := by decide +kernel
theorem dX3_blink_55 : decode cX3_blink 55 = .ok (.iload_n 2, 1) := by decide +kernel
theorem dX3_blink_56 : decode cX3_blink 56 = .ok (.iadd, 1) := by decide +kernel
theorem dX3_blink_57 : decode cX3_blink 57 = .ok (.iconst 1, 1) := by decide +kernel
theorem dX3_blink_58 : decode cX3_blink 58 = .ok (.aload_n 0, 1) := by decide +kernel
theorem dX3_blink_59 : decode cX3_blink 59 = .ok (.iload_n 1, 1) := by decide +kernel
theorem dX3_blink_60 : decode cX3_blink 60 = .ok (.iconst 0, 1) := by decide +kernel
theorem dX3_blink_61 : decode cX3_blink 61 = .ok (.iload_n 2, 1) := by decide +kernel
theorem dX3_blink_62 : decode cX3_blink 62 = .ok (.iadd, 1) := by decide +kernel
theorem dX3_blink_63 : decode cX3_blink 63 = .ok (.invokevirtual 85, 3) := by decide +kernel
theorem dX3_blink_66 : decode cX3_blink 66 = .ok (.isub, 1) := by decide +kernel
theorem dX3_blink_67 : decode cX3_blink 67 = .ok (.invokevirtual 88, 3) := by decide +kernel
theorem dX3_blink_70 : decode cX3_blink 70 = .ok (.aload_n 0, 1) := by decide +kernel
theorem dX3_blink_71 : decode cX3_blink 71 = .ok (.iload_n 1, 1) := by decide +kernel
theorem dX3_blink_72 : decode cX3_blink 72 = .ok (.iconst 0, 1) := by decide +kernel
theorem dX3_blink_73 : decode cX3_blink 73 = .ok (.iload_n 2, 1) := by decide +kernel
theorem dX3_blink_74 : decode cX3_blink 74 = .ok (.iadd, 1) := by decide +kernel
theorem dX3_blink_75 : decode cX3_blink 75 = .ok (.invokevirtual 85, 3) := by decide +kernel
theorem dX3_blink_78 : decode cX3_blink 78 = .ok (.iconst 1, 1) := by decide +kernel
theorem dX3_blink_79 : decode cX3_blink 79 = .ok (.if_icmp .ne 7, 3) := by decide +kernel
theorem dX3_blink_82 : decode cX3_blink 82 = .ok (.iconst 1, 1) := by decide +kernel
theorem dX3_blink_83 : decode cX3_blink 83 = .ok (.goto 4, 3) := by decide +kernel
theorem dX3_blink_86 : decode cX3_blink 86 = .ok (.iconst 0, 1) := by decide +kernel
theorem dX3_blink_87 : decode cX3_blink 87 = .ok (.ireturn, 1) := by decide +kernel
set_option maxRecDepth 20000 in
theorem ggX3_dress_X3_isDoll : GoodIn wsX3_dress wsX3_isDoll := goodIn_r _ [11, 12, 13, 14, 10, 15, 29, 30, 31, 32, 33, 34, 35, 36, 37] (by decide +kernel) (by decide +kernel)
set_option maxRecDepth 20000 in
theorem gX3_dress_X3_isDoll : GoodIn wsX3_dress (wsV RX3 75 RX3 yX3_isDoll wsX3_isDoll) := goodIn_app (goodIn_of _ (by decide +kernel)) ggX3_dress_X3_isDoll
set_option maxRecDepth 20000 in
theorem ggX3_dress_X3_fail : GoodIn wsX3_dress wsX3_fail := goodIn_r _ [19, 1, 29, 30, 31, 32, 33, 34, 35, 36, 37] (by decide +kernel) (by decide +kernel)
set_option maxRecDepth 20000 in
theorem gX3_dress_X3_fail : GoodIn wsX3_dress (wsV RX3 46 RX3 yX3_fail wsX3_fail) := goodIn_app (goodIn_of _ (by decide +kernel)) ggX3_dress_X3_fail
set_option maxRecDepth 20000 in
theorem ggX3_dress_X3_isIn : GoodIn wsX3_dress wsX3_isIn := goodIn_r _ [15] (by decide +kernel) (by decide +kernel)
set_option maxRecDepth 20000 in
theorem gX3_dress_X3_isIn : GoodIn wsX3_dress (va_wsS RX3 35 yX3_isIn wsX3_isIn) := goodIn_app (goodIn_of _ (by decide +kernel)) ggX3_dress_X3_isIn
set_option maxRecDepth 20000 in
theorem ggX3_dress_X3_ro : GoodIn wsX3_dress wsX3_ro := goodIn_r _ [23, 24, 29, 30, 31, 32, 33, 34, 35, 36, 37] (by decide +kernel) (by decide +kernel)
set_option maxRecDepth 20000 in
theorem gX3_dress_X3_ro : GoodIn wsX3_dress (wsV RX3 85 RX3 yX3_ro wsX3_ro) := goodIn_app (goodIn_of _ (by decide +kernel)) ggX3_dress_X3_ro
set_option maxRecDepth 20000 in
theorem ggX3_dress_X3_put : GoodIn wsX3_dress wsX3_put := goodIn_r _ [28, 24, 29, 30, 31, 32, 33, 34, 35, 36, 37] (by decide +kernel) (by decide +kernel)
set_option maxRecDepth 20000 in
theorem gX3_dress_X3_put : GoodIn wsX3_dress (wsV RX3 88 RX3 yX3_put wsX3_put) := goodIn_app (goodIn_of _ (by decide +kernel)) ggX3_dress_X3_put
theorem dX3_dress_0 : decode cX3_dress 0 = .ok (.aload_n 0, 1) := by decide +kernel
theorem dX3_dress_1 : decode cX3_dress 1 = .ok (.iconst 0, 1) := by decide +kernel
theorem dX3_dress_2 : decode cX3_dress 2 = .ok (.putfield 29, 3) := by decide +kernel
theorem dX3_dress_5 : decode cX3_dress 5 = .ok (.aload_n 0, 1) := by decide +kernel
theorem dX3_dress_6 : decode cX3_dress 6 = .ok (.iload_n 1, 1) := by decide +kernel
theorem dX3_dress_7 : decode cX3_dress 7 = .ok (.invokevirtual 75, 3) := by decide +kernel
theorem dX3_dress_10 : decode cX3_dress 10 = .ok (.ifCond .ne 9, 3) := by decide +kernel
theorem dX3_dress_13 : decode cX3_dress 13 = .ok (.aload_n 0, 1) := by decide +kernel
theorem dX3_dress_14 : decode cX3_dress 14 = .ok (.iconst 1, 1) := by decide +kernel
theorem dX3_dress_15 : decode cX3_dress 15 = .ok (.invokevirtual 46, 3) := by decide +kernel
theorem dX3_dress_18 : decode cX3_dress 18 = .ok (.ireturn, 1) := by decide +kernel
theorem dX3_dress_19 : decode cX3_dress 19 = .ok (.iload_n 2, 1) := by decide +kernel
theorem dX3_dress_20 : decode cX3_dress 20 = .ok (.iconst 1, 1) := by decide +kernel
theorem dX3_dress_21 : decode cX3_dress 21 = .ok (.bipush 9, 2) := by decide +kernel
theorem dX3_dress_23 : decode cX3_dress 23 = .ok (.invokestatic 35, 3) := by decide +kernel
theorem dX3_dress_26 : decode cX3_dress 26 = .ok (.ifCond .eq 13, 3) := by decide +kernel
theorem dX3_dress_29 : decode cX3_dress 29 = .ok (.iload_n 3, 1) := by decide +kernel
theorem dX3_dress_30 : decode cX3_dress 30 = .ok (.iconst 0, 1) := by decide +kernel
theorem dX3_dress_31 : decode cX3_dress 31 = .ok (.bipush 12, 2) := by decide +kernel
theorem dX3_dress_33 : decode cX3_dress 33 = .ok (.invokestatic 35, 3) := by decide +kernel
theorem dX3_dress_36 : decode cX3_dress 36 = .ok (.ifCond .ne 9, 3) := by decide +kernel
theorem dX3_dress_39 : decode cX3_dress 39 = .ok (.aload_n 0, 1) := by decide +kernel
theorem dX3_dress_40 : decode cX3_dress 40 = .ok (.iconst 2, 1) := by decide +kernel
theorem dX3_dress_41 : decode cX3_dress 41 = .ok (.invokevirtual 46, 3) := by decide +kernel
theorem dX3_dress_44 : decode cX3_dress 44 = .ok (.ireturn, 1) := by decide +kernel
theorem dX3_dress_45 : decode cX3_dress 45 = .ok (.iload_n 3, 1) := by decide +kernel
theorem dX3_dress_46 : decode cX3_dress 46 = .ok (.iload_n 2, 1) := by decide +kernel
theorem dX3_dress_47 : decode cX3_dress 47 = .ok (.if_icmp .lt 13, 3) := by decide +kernel
theorem dX3_dress_50 : decode cX3_dress 50 = .ok (.aload_n 0, 1) := by decide +kernel
theorem dX3_dress_51 : decode cX3_dress 51 = .ok (.getfield 23, 3) := by decide +kernel
theorem dX3_dress_54 : decode cX3_dress 54 = .ok (.iconst 2, 1) := by decide +kernel
theorem dX3_dress_55 : decode cX3_dress 55 = .ok (.iaload, 1) := by decide +kernel
theorem dX3_dress_56 : decode cX3_dress 56 = .ok (.iload_n 3, 1) := by decide +kernel
theorem dX3_dress_57 : decode cX3_dress 57 = .ok (.if_icmp .ge 9, 3) := by decide +kernel
theorem dX3_dress_60 : decode cX3_dress 60 = .ok (.aload_n 0, 1) := by decide +kernel
theorem dX3_dress_61 : decode cX3_dress 61 = .ok (.iconst 3, 1) := by decide +kernel
theorem dX3_dress_62 : decode cX3_dress 62 = .ok (.invokevirtual 46, 3) := by decide +kernel
theorem dX3_dress_65 : decode cX3_dress 65 = .ok (.ireturn, 1) := by decide +kernel
theorem dX3_dress_66 : decode cX3_dress 66 = .ok (.aload_n 0, 1) := by decide +kernel
theorem dX3_dress_67 : decode cX3_dress 67 = .ok (.getfield 23, 3) := by decide +kernel
theorem dX3_dress_70 : decode cX3_dress 70 = .ok (.iconst 2, 1) := by decide +kernel
theorem dX3_dress_71 : decode cX3_dress 71 = .ok (.bipush 99, 2) := by decide +kernel
theorem dX3_dress_73 : decode cX3_dress 73 = .ok (.aload_n 0, 1) := by decide +kernel
theorem dX3_dress_74 : decode cX3_dress 74 = .ok (.getfield 23, 3) := by decide +kernel
theorem dX3_dress_77 : decode cX3_dress 77 = .ok (.iconst 2, 1) := by decide +kernel
theorem dX3_dress_78 : decode cX3_dress 78 = .ok (.iaload, 1) := by decide +kernel
theorem dX3_dress_79 : decode cX3_dress 79 = .ok (.iload_n 3, 1) := by decide +kernel
theorem dX3_dress_80 : decode cX3_dress 80 = .ok (.isub, 1) := by decide +kernel
theorem dX3_dress_81 : decode cX3_dress 81 = .ok (.aload_n 0, 1) := by decide +kernel
theorem dX3_dress_82 : decode cX3_dress 82 = .ok (.iload_n 1, 1) := by decide +kernel
theorem dX3_dress_83 : decode cX3_dress 83 = .ok (.bipush 6, 2) := by decide +kernel
theorem dX3_dress_85 : decode cX3_dress 85 = .ok (.invokevirtual 85, 3) := by decide +kernel
theorem dX3_dress_88 : decode cX3_dress 88 = .ok (.iadd, 1) := by decide +kernel
theorem dX3_dress_89 : decode cX3_dress 89 = .ok (.invokestatic 64, 3) := by decide +kernel
theorem dX3_dress_92 : decode cX3_dress 92 = .ok (.iastore, 1) := by decide +kernel
theorem dX3_dress_93 : decode cX3_dress 93 = .ok (.aload_n 0, 1) := by decide +kernel
theorem dX3_dress_94 : decode cX3_dress 94 = .ok (.iload_n 1, 1) := by decide +kernel
theorem dX3_dress_95 : decode cX3_dress 95 = .ok (.iconst 5, 1) := by decide +kernel
theorem dX3_dress_96 : decode cX3_dress 96 = .ok (.iload_n 2, 1) := by decide +kernel
theorem dX3_dress_97 : decode cX3_dress 97 = .ok (.invokevirtual 88, 3) := by decide +kernel
theorem dX3_dress_100 : decode cX3_dress 100 = .ok (.aload_n 0, 1) := by decide +kernel
theorem dX3_dress_101 : decode cX3_dress 101 = .ok (.iload_n 1, 1) := by decide +kernel
theorem dX3_dress_102 : decode cX3_dress 102 = .ok (.bipush 6, 2) := by decide +kernel
theorem dX3_dress_104 : decode cX3_dress 104 = .ok (.iload_n 3, 1) := by decide +kernel
theorem dX3_dress_105 : decode cX3_dress 105 = .ok (.invokevirtual 88, 3) := by decide +kernel
theorem dX3_dress_108 : decode cX3_dress 108 = .ok (.aload_n 0, 1) := by decide +kernel
theorem dX3_dress_109 : decode cX3_dress 109 = .ok (.getfield 23, 3) := by decide +kernel
theorem dX3_dress_112 : decode cX3_dress 112 = .ok (.iconst 2, 1) := by decide +kernel
theorem dX3_dress_113 : decode cX3_dress 113 = .ok (.iaload, 1) := by decide +kernel
theorem dX3_dress_114 : decode cX3_dress 114 = .ok (.ireturn, 1) := by decide +kernel
set_option maxRecDepth 20000 in
theorem ggX3_bring_X3_isIn : GoodIn wsX3_bring wsX3_isIn := goodIn_r _ [10] (by decide +kernel) (by decide +kernel)
set_option maxRecDepth 20000 in
theorem gX3_bring_X3_isIn : GoodIn wsX3_bring (va_wsS RX3 35 yX3_isIn wsX3_isIn) := goodIn_app (goodIn_of _ (by decide +kernel)) ggX3_bring_X3_isIn
set_option maxRecDepth 20000 in
theorem ggX3_bring_X3_fail : GoodIn wsX3_bring wsX3_fail := goodIn_r _ [14, 1, 15, 16, 17, 18, 19, 20, 21, 22, 23] (by decide +kernel) (by decide +kernel)
set_option maxRecDepth 20000 in
theorem gX3_bring_X3_fail : GoodIn wsX3_bring (wsV RX3 46 RX3 yX3_fail wsX3_fail) := goodIn_app (goodIn_of _ (by decide +kernel)) ggX3_bring_X3_fail
theorem dX3_bring_0 : decode cX3_bring 0 = .ok (.aload_n 0, 1) := by decide +kernel
theorem dX3_bring_1 : decode cX3_bring 1 = .ok (.iconst 0, 1) := by decide +kernel
theorem dX3_bring_2 : decode cX3_bring 2 = .ok (.putfield 29, 3) := by decide +kernel
theorem dX3_bring_5 : decode cX3_bring 5 = .ok (.iload_n 1, 1) := by decide +kernel
theorem dX3_bring_6 : decode cX3_bring 6 = .ok (.iconst 0, 1) := by decide +kernel
theorem dX3_bring_7 : decode cX3_bring 7 = .ok (.iconst 4, 1) := by decide +kernel
theorem dX3_bring_8 : decode cX3_bring 8 = .ok (.invokestatic 35, 3) := by decide +kernel
theorem dX3_bring_11 : decode cX3_bring 11 = .ok (.ifCond .eq 13, 3) := by decide +kernel
theorem dX3_bring_14 : decode cX3_bring 14 = .ok (.iload_n 2, 1) := by decide +kernel
theorem dX3_bring_15 : decode cX3_bring 15 = .ok (.iconst 1, 1) := by decide +kernel
theorem dX3_bring_16 : decode cX3_bring 16 = .ok (.bipush 99, 2) := by decide +kernel
theorem dX3_bring_18 : decode cX3_bring 18 = .ok (.invokestatic 35, 3) := by decide +kernel
theorem dX3_bring_21 : decode cX3_bring 21 = .ok (.ifCond .ne 9, 3) := by decide +kernel
theorem dX3_bring_24 : decode cX3_bring 24 = .ok (.aload_n 0, 1) := by decide +kernel
theorem dX3_bring_25 : decode cX3_bring 25 = .ok (.iconst 1, 1) := by decide +kernel
theorem dX3_bring_26 : decode cX3_bring 26 = .ok (.invokevirtual 46, 3) := by decide +kernel
theorem dX3_bring_29 : decode cX3_bring 29 = .ok (.ireturn, 1) := by decide +kernel
theorem dX3_bring_30 : decode cX3_bring 30 = .ok (.aload_n 0, 1) := by decide +kernel
theorem dX3_bring_31 : decode cX3_bring 31 = .ok (.getfield 23, 3) := by decide +kernel
theorem dX3_bring_34 : decode cX3_bring 34 = .ok (.iload_n 1, 1) := by decide +kernel
theorem dX3_bring_35 : decode cX3_bring 35 = .ok (.bipush 99, 2) := by decide +kernel
theorem dX3_bring_37 : decode cX3_bring 37 = .ok (.aload_n 0, 1) := by decide +kernel
theorem dX3_bring_38 : decode cX3_bring 38 = .ok (.getfield 23, 3) := by decide +kernel
theorem dX3_bring_41 : decode cX3_bring 41 = .ok (.iload_n 1, 1) := by decide +kernel
theorem dX3_bring_42 : decode cX3_bring 42 = .ok (.iaload, 1) := by decide +kernel
theorem dX3_bring_43 : decode cX3_bring 43 = .ok (.iload_n 2, 1) := by decide +kernel
theorem dX3_bring_44 : decode cX3_bring 44 = .ok (.iadd, 1) := by decide +kernel
theorem dX3_bring_45 : decode cX3_bring 45 = .ok (.invokestatic 64, 3) := by decide +kernel
theorem dX3_bring_48 : decode cX3_bring 48 = .ok (.iastore, 1) := by decide +kernel
theorem dX3_bring_49 : decode cX3_bring 49 = .ok (.aload_n 0, 1) := by decide +kernel
theorem dX3_bring_50 : decode cX3_bring 50 = .ok (.getfield 23, 3) := by decide +kernel
theorem dX3_bring_53 : decode cX3_bring 53 = .ok (.iload_n 1, 1) := by decide +kernel
theorem dX3_bring_54 : decode cX3_bring 54 = .ok (.iaload, 1) := by decide +kernel
theorem dX3_bring_55 : decode cX3_bring 55 = .ok (.ireturn, 1) := by decide +kernel
set_option maxRecDepth 20000 in
theorem ggX3_setMoths_X3_isIn : GoodIn wsX3_setMoths wsX3_isIn := goodIn_r _ [6] (by decide +kernel) (by decide +kernel)
set_option maxRecDepth 20000 in
theorem gX3_setMoths_X3_isIn : GoodIn wsX3_setMoths (va_wsS RX3 35 yX3_isIn wsX3_isIn) := goodIn_app (goodIn_of _ (by decide +kernel)) ggX3_setMoths_X3_isIn
set_option maxRecDepth 20000 in
theorem ggX3_setMoths_X3_fail : GoodIn wsX3_setMoths wsX3_fail := goodIn_r _ [10, 1, 11, 12, 13, 14, 15, 16, 17, 18, 19] (by decide +kernel) (by decide +kernel)
set_option maxRecDepth 20000 in
theorem gX3_setMoths_X3_fail : GoodIn wsX3_setMoths (wsV RX3 46 RX3 yX3_fail wsX3_fail) := goodIn_app (goodIn_of _ (by decide +kernel)) ggX3_setMoths_X3_fail
theorem dX3_setMoths_0 : decode cX3_setMoths 0 = .ok (.aload_n 0, 1) := by decide +kernel
theorem dX3_setMoths_1 : decode cX3_setMoths 1 = .ok (.iconst 0, 1) := by decide +kernel
theorem dX3_setMoths_2 : decode cX3_setMoths 2 = .ok (.putfield 29, 3) := by decide +kernel
theorem dX3_setMoths_5 : decode cX3_setMoths 5 = .ok (.iload_n 1, 1) := by decide +kernel
theorem dX3_setMoths_6 : decode cX3_setMoths 6 = .ok (.iconst 0, 1) := by decide +kernel
theorem dX3_setMoths_7 : decode cX3_setMoths 7 = .ok (.iconst 3, 1) := by decide +kernel
theorem dX3_setMoths_8 : decode cX3_setMoths 8 = .ok (.invokestatic 35, 3) := by decide +kernel
theorem dX3_setMoths_11 : decode cX3_setMoths 11 = .ok (.ifCond .ne 9, 3) := by decide +kernel
theorem dX3_setMoths_14 : decode cX3_setMoths 14 = .ok (.aload_n 0, 1) := by decide +kernel
theorem dX3_setMoths_15 : decode cX3_setMoths 15 = .ok (.iconst 1, 1) := by decide +kernel
theorem dX3_setMoths_16 : decode cX3_setMoths 16 = .ok (.invokevirtual 46, 3) := by decide +kernel
theorem dX3_setMoths_19 : decode cX3_setMoths 19 = .ok (.ireturn, 1) := by decide +kernel
theorem dX3_setMoths_20 : decode cX3_setMoths 20 = .ok (.aload_n 0, 1) := by decide +kernel
theorem dX3_setMoths_21 : decode cX3_setMoths 21 = .ok (.getfield 7, 3) := by decide +kernel
theorem dX3_setMoths_24 : decode cX3_setMoths 24 = .ok (.istore_n 2, 1) := by decide +kernel
theorem dX3_setMoths_25 : decode cX3_setMoths 25 = .ok (.aload_n 0, 1) := by decide +kernel
theorem dX3_setMoths_26 : decode cX3_setMoths 26 = .ok (.iload_n 1, 1) := by decide +kernel
theorem dX3_setMoths_27 : decode cX3_setMoths 27 = .ok (.putfield 7, 3) := by decide +kernel
theorem dX3_setMoths_30 : decode cX3_setMoths 30 = .ok (.iload_n 2, 1) := by decide +kernel
theorem dX3_setMoths_31 : decode cX3_setMoths 31 = .ok (.ireturn, 1) := by decide +kernel
set_option maxRecDepth 20000 in
theorem ggX3_mend_X3_isDoll : GoodIn wsX3_mend wsX3_isDoll := goodIn_r _ [8, 9, 10, 11, 7, 12, 29, 30, 31, 32, 33, 34, 35, 36, 37] (by decide +kernel) (by decide +kernel)
set_option maxRecDepth 20000 in
theorem gX3_mend_X3_isDoll : GoodIn wsX3_mend (wsV RX3 75 RX3 yX3_isDoll wsX3_isDoll) := goodIn_app (goodIn_of _ (by decide +kernel)) ggX3_mend_X3_isDoll
set_option maxRecDepth 20000 in
theorem ggX3_mend_X3_isIn : GoodIn wsX3_mend wsX3_isIn := goodIn_r _ [12] (by decide +kernel) (by decide +kernel)
set_option maxRecDepth 20000 in
theorem gX3_mend_X3_isIn : GoodIn wsX3_mend (va_wsS RX3 35 yX3_isIn wsX3_isIn) := goodIn_app (goodIn_of _ (by decide +kernel)) ggX3_mend_X3_isIn
set_option maxRecDepth 20000 in
theorem ggX3_mend_X3_fail : GoodIn wsX3_mend wsX3_fail := goodIn_r _ [16, 1, 29, 30, 31, 32, 33, 34, 35, 36, 37] (by decide +kernel) (by decide +kernel)
set_option maxRecDepth 20000 in
theorem gX3_mend_X3_fail : GoodIn wsX3_mend (wsV RX3 46 RX3 yX3_fail wsX3_fail) := goodIn_app (goodIn_of _ (by decide +kernel)) ggX3_mend_X3_fail
set_option maxRecDepth 20000 in
theorem ggX3_mend_X3_ro : GoodIn wsX3_mend wsX3_ro := goodIn_r _ [20, 21, 29, 30, 31, 32, 33, 34, 35, 36, 37] (by decide +kernel) (by decide +kernel)
set_option maxRecDepth 20000 in
theorem gX3_mend_X3_ro : GoodIn wsX3_mend (wsV RX3 85 RX3 yX3_ro wsX3_ro) := goodIn_app (goodIn_of _ (by decide +kernel)) ggX3_mend_X3_ro
set_option maxRecDepth 20000 in
theorem ggX3_mend_X3_at : GoodIn wsX3_mend wsX3_at := goodIn_r _ [24] (by decide +kernel) (by decide +kernel)
set_option maxRecDepth 20000 in
theorem gX3_mend_X3_at : GoodIn wsX3_mend (va_wsS RX3 42 yX3_at wsX3_at) := goodIn_app (goodIn_of _ (by decide +kernel)) ggX3_mend_X3_at
set_option maxRecDepth 20000 in
theorem ggX3_mend_X3_put : GoodIn wsX3_mend wsX3_put := goodIn_r _ [28, 21, 29, 30, 31, 32, 33, 34, 35, 36, 37] (by decide +kernel) (by decide +kernel)
set_option maxRecDepth 20000 in
theorem gX3_mend_X3_put : GoodIn wsX3_mend (wsV RX3 88 RX3 yX3_put wsX3_put) := goodIn_app (goodIn_of _ (by decide +kernel)) ggX3_mend_X3_put
theorem dX3_mend_0 : decode cX3_mend 0 = .ok (.aload_n 0, 1) := by decide +kernel
theorem dX3_mend_1 : decode cX3_mend 1 = .ok (.iconst 0, 1) := by decide +kernel
theorem dX3_mend_2 : decode cX3_mend 2 = .ok (.putfield 29, 3) := by decide +kernel
theorem dX3_mend_5 : decode cX3_mend 5 = .ok (.aload_n 0, 1) := by decide +kernel
theorem dX3_mend_6 : decode cX3_mend 6 = .ok (.iload_n 1, 1) := by decide +kernel
theorem dX3_mend_7 : decode cX3_mend 7 = .ok (.invokevirtual 75, 3) := by decide +kernel
theorem dX3_mend_10 : decode cX3_mend 10 = .ok (.ifCond .eq 12, 3) := by decide +kernel
theorem dX3_mend_13 : decode cX3_mend 13 = .ok (.iload_n 3, 1) := by decide +kernel
theorem dX3_mend_14 : decode cX3_mend 14 = .ok (.iconst 0, 1) := by decide +kernel
theorem dX3_mend_15 : decode cX3_mend 15 = .ok (.iconst 5, 1) := by decide +kernel
theorem dX3_mend_16 : decode cX3_mend 16 = .ok (.invokestatic 35, 3) := by decide +kernel
theorem dX3_mend_19 : decode cX3_mend 19 = .ok (.ifCond .ne 9, 3) := by decide +kernel
theorem dX3_mend_22 : decode cX3_mend 22 = .ok (.aload_n 0, 1) := by decide +kernel
theorem dX3_mend_23 : decode cX3_mend 23 = .ok (.iconst 1, 1) := by decide +kernel
theorem dX3_mend_24 : decode cX3_mend 24 = .ok (.invokevirtual 46, 3) := by decide +kernel
theorem dX3_mend_27 : decode cX3_mend 27 = .ok (.ireturn, 1) := by decide +kernel
theorem dX3_mend_28 : decode cX3_mend 28 = .ok (.iload_n 2, 1) := by decide +kernel
theorem dX3_mend_29 : decode cX3_mend 29 = .ok (.iconst 0, 1) := by decide +kernel
theorem dX3_mend_30 : decode cX3_mend 30 = .ok (.iconst 4, 1) := by decide +kernel
theorem dX3_mend_31 : decode cX3_mend 31 = .ok (.invokestatic 35, 3) := by decide +kernel
theorem dX3_mend_34 : decode cX3_mend 34 = .ok (.ifCond .ne 9, 3) := by decide +kernel
theorem dX3_mend_37 : decode cX3_mend 37 = .ok (.aload_n 0, 1) := by decide +kernel
theorem dX3_mend_38 : decode cX3_mend 38 = .ok (.iconst 2, 1) := by decide +kernel
theorem dX3_mend_39 : decode cX3_mend 39 = .ok (.invokevirtual 46, 3) := by decide +kernel
theorem dX3_mend_42 : decode cX3_mend 42 = .ok (.ireturn, 1) := by decide +kernel
theorem dX3_mend_43 : decode cX3_mend 43 = .ok (.aload_n 0, 1) := by decide +kernel
theorem dX3_mend_44 : decode cX3_mend 44 = .ok (.getfield 23, 3) := by decide +kernel
theorem dX3_mend_47 : decode cX3_mend 47 = .ok (.iload_n 2, 1) := by decide +kernel
theorem dX3_mend_48 : decode cX3_mend 48 = .ok (.iaload, 1) := by decide +kernel
theorem dX3_mend_49 : decode cX3_mend 49 = .ok (.ifCond .eq 29, 3) := by decide +kernel
theorem dX3_mend_52 : decode cX3_mend 52 = .ok (.iload_n 2, 1) := by decide +kernel
theorem dX3_mend_53 : decode cX3_mend 53 = .ok (.iconst 2, 1) := by decide +kernel
theorem dX3_mend_54 : decode cX3_mend 54 = .ok (.if_icmp .ne 30, 3) := by decide +kernel
theorem dX3_mend_57 : decode cX3_mend 57 = .ok (.aload_n 0, 1) := by decide +kernel
theorem dX3_mend_58 : decode cX3_mend 58 = .ok (.iload_n 1, 1) := by decide +kernel
theorem dX3_mend_59 : decode cX3_mend 59 = .ok (.iconst 5, 1) := by decide +kernel
theorem dX3_mend_60 : decode cX3_mend 60 = .ok (.invokevirtual 85, 3) := by decide +kernel
theorem dX3_mend_63 : decode cX3_mend 63 = .ok (.ifCond .eq 15, 3) := by decide +kernel
theorem dX3_mend_66 : decode cX3_mend 66 = .ok (.aload_n 0, 1) := by decide +kernel
theorem dX3_mend_67 : decode cX3_mend 67 = .ok (.iload_n 1, 1) := by decide +kernel
theorem dX3_mend_68 : decode cX3_mend 68 = .ok (.bipush 6, 2) := by decide +kernel
theorem dX3_mend_70 : decode cX3_mend 70 = .ok (.invokevirtual 85, 3) := by decide +kernel
theorem dX3_mend_73 : decode cX3_mend 73 = .ok (.bipush 12, 2) := by decide +kernel
theorem dX3_mend_75 : decode cX3_mend 75 = .ok (.if_icmp .ne 9, 3) := by decide +kernel
theorem dX3_mend_78 : decode cX3_mend 78 = .ok (.aload_n 0, 1) := by decide +kernel
theorem dX3_mend_79 : decode cX3_mend 79 = .ok (.iconst 3, 1) := by decide +kernel
theorem dX3_mend_80 : decode cX3_mend 80 = .ok (.invokevirtual 46, 3) := by decide +kernel
theorem dX3_mend_83 : decode cX3_mend 83 = .ok (.ireturn, 1) := by decide +kernel
theorem dX3_mend_84 : decode cX3_mend 84 = .ok (.aload_n 0, 1) := by decide +kernel
theorem dX3_mend_85 : decode cX3_mend 85 = .ok (.getfield 23, 3) := by decide +kernel
theorem dX3_mend_88 : decode cX3_mend 88 = .ok (.iload_n 2, 1) := by decide +kernel
theorem dX3_mend_89 : decode cX3_mend 89 = .ok (.dup2, 1) := by decide +kernel
theorem dX3_mend_90 : decode cX3_mend 90 = .ok (.iaload, 1) := by decide +kernel
theorem dX3_mend_91 : decode cX3_mend 91 = .ok (.iconst 1, 1) := by decide +kernel
theorem dX3_mend_92 : decode cX3_mend 92 = .ok (.isub, 1) := by decide +kernel
theorem dX3_mend_93 : decode cX3_mend 93 = .ok (.iastore, 1) := by decide +kernel
theorem dX3_mend_94 : decode cX3_mend 94 = .ok (.iload_n 2, 1) := by decide +kernel
theorem dX3_mend_95 : decode cX3_mend 95 = .ok (.tableswitch 108 0 3 #[29, 56, 72, 91], 29) := by decide +kernel
theorem dX3_mend_124 : decode cX3_mend 124 = .ok (.aload_n 0, 1) := by decide +kernel
theorem dX3_mend_125 : decode cX3_mend 125 = .ok (.getfield 13, 3) := by decide +kernel
theorem dX3_mend_128 : decode cX3_mend 128 = .ok (.iload_n 1, 1) := by decide +kernel
theorem dX3_mend_129 : decode cX3_mend 129 = .ok (.iload_n 3, 1) := by decide +kernel
theorem dX3_mend_130 : decode cX3_mend 130 = .ok (.iconst 1, 1) := by decide +kernel
theorem dX3_mend_131 : decode cX3_mend 131 = .ok (.invokestatic 42, 3) := by decide +kernel
theorem dX3_mend_134 : decode cX3_mend 134 = .ok (.iconst 0, 1) := by decide +kernel
theorem dX3_mend_135 : decode cX3_mend 135 = .ok (.iastore, 1) := by decide +kernel
theorem dX3_mend_136 : decode cX3_mend 136 = .ok (.aload_n 0, 1) := by decide +kernel
theorem dX3_mend_137 : decode cX3_mend 137 = .ok (.getfield 13, 3) := by decide +kernel
theorem dX3_mend_140 : decode cX3_mend 140 = .ok (.iload_n 1, 1) := by decide +kernel
theorem dX3_mend_141 : decode cX3_mend 141 = .ok (.iload_n 3, 1) := by decide +kernel
theorem dX3_mend_142 : decode cX3_mend 142 = .ok (.iconst 2, 1) := by decide +kernel
theorem dX3_mend_143 : decode cX3_mend 143 = .ok (.invokestatic 42, 3) := by decide +kernel
theorem dX3_mend_146 : decode cX3_mend 146 = .ok (.iconst 0, 1) := by decide +kernel
theorem dX3_mend_147 : decode cX3_mend 147 = .ok (.iastore, 1) := by decide +kernel
theorem dX3_mend_148 : decode cX3_mend 148 = .ok (.goto 62, 3) := by decide +kernel
theorem dX3_mend_151 : decode cX3_mend 151 = .ok (.aload_n 0, 1) := by decide +kernel
theorem dX3_mend_152 : decode cX3_mend 152 = .ok (.getfield 13, 3) := by decide +kernel
theorem dX3_mend_155 : decode cX3_mend 155 = .ok (.iload_n 1, 1) := by decide +kernel
theorem dX3_mend_156 : decode cX3_mend 156 = .ok (.iload_n 3, 1) := by decide +kernel
theorem dX3_mend_157 : decode cX3_mend 157 = .ok (.iconst 2, 1) := by decide +kernel
theorem dX3_mend_158 : decode cX3_mend 158 = .ok (.invokestatic 42, 3) := by decide +kernel
theorem dX3_mend_161 : decode cX3_mend 161 = .ok (.bipush 20, 2) := by decide +kernel
theorem dX3_mend_163 : decode cX3_mend 163 = .ok (.iastore, 1) := by decide +kernel
theorem dX3_mend_164 : decode cX3_mend 164 = .ok (.goto 46, 3) := by decide +kernel
theorem dX3_mend_167 : decode cX3_mend 167 = .ok (.aload_n 0, 1) := by decide +kernel
theorem dX3_mend_168 : decode cX3_mend 168 = .ok (.iload_n 1, 1) := by decide +kernel
theorem dX3_mend_169 : decode cX3_mend 169 = .ok (.bipush 6, 2) := by decide +kernel
theorem dX3_mend_171 : decode cX3_mend 171 = .ok (.aload_n 0, 1) := by decide +kernel
theorem dX3_mend_172 : decode cX3_mend 172 = .ok (.iload_n 1, 1) := by decide +kernel
theorem dX3_mend_173 : decode cX3_mend 173 = .ok (.bipush 6, 2) := by decide +kernel
theorem dX3_mend_175 : decode cX3_mend 175 = .ok (.invokevirtual 85, 3) := by decide +kernel
theorem dX3_mend_178 : decode cX3_mend 178 = .ok (.iconst 1, 1) := by decide +kernel
theorem dX3_mend_179 : decode cX3_mend 179 = .ok (.iadd, 1) := by decide +kernel
theorem dX3_mend_180 : decode cX3_mend 180 = .ok (.invokevirtual 88, 3) := by decide +kernel
theorem dX3_mend_183 : decode cX3_mend 183 = .ok (.goto 27, 3) := by decide +kernel
theorem dX3_mend_186 : decode cX3_mend 186 = .ok (.aload_n 0, 1) := by decide +kernel
theorem dX3_mend_187 : decode cX3_mend 187 = .ok (.iload_n 1, 1) := by decide +kernel
theorem dX3_mend_188 : decode cX3_mend 188 = .ok (.iconst 2, 1) := by decide +kernel
theorem dX3_mend_189 : decode cX3_mend 189 = .ok (.iconst 0, 1) := by decide +kernel
theorem dX3_mend_190 : decode cX3_mend 190 = .ok (.invokevirtual 88, 3) := by decide +kernel
theorem dX3_mend_193 : decode cX3_mend 193 = .ok (.aload_n 0, 1) := by decide +kernel
theorem dX3_mend_194 : decode cX3_mend 194 = .ok (.iload_n 1, 1) := by decide +kernel
theorem dX3_mend_195 : decode cX3_mend 195 = .ok (.iconst 3, 1) := by decide +kernel
theorem dX3_mend_196 : decode cX3_mend 196 = .ok (.iconst 0, 1) := by decide +kernel
theorem dX3_mend_197 : decode cX3_mend 197 = .ok (.invokevirtual 88, 3) := by decide +kernel
theorem dX3_mend_200 : decode cX3_mend 200 = .ok (.goto 10, 3) := by decide +kernel
theorem dX3_mend_203 : decode cX3_mend 203 = .ok (.aload_n 0, 1) := by decide +kernel
theorem dX3_mend_204 : decode cX3_mend 204 = .ok (.iload_n 1, 1) := by decide +kernel
theorem dX3_mend_205 : decode cX3_mend 205 = .ok (.iconst 4, 1) := by decide +kernel
theorem dX3_mend_206 : decode cX3_mend 206 = .ok (.iconst 0, 1) := by decide +kernel
theorem dX3_mend_207 : decode cX3_mend 207 = .ok (.invokevirtual 88, 3) := by decide +kernel
theorem dX3_mend_210 : decode cX3_mend 210 = .ok (.aload_n 0, 1) := by decide +kernel
theorem dX3_mend_211 : decode cX3_mend 211 = .ok (.getfield 23, 3) := by decide +kernel
theorem dX3_mend_214 : decode cX3_mend 214 = .ok (.iload_n 2, 1) := by decide +kernel
theorem dX3_mend_215 : decode cX3_mend 215 = .ok (.iaload, 1) := by decide +kernel
theorem dX3_mend_216 : decode cX3_mend 216 = .ok (.ireturn, 1) := by decide +kernel
set_option maxRecDepth 20000 in
theorem ggX3_jointTold_X3_li : GoodIn wsX3_jointTold wsX3_li := goodIn_r _ [5, 6, 7, 8, 4, 9, 14, 15, 16, 17, 18, 19, 20, 21, 22] (by decide +kernel) (by decide +kernel)
set_option maxRecDepth 20000 in
theorem gX3_jointTold_X3_li : GoodIn wsX3_jointTold (wsV RX3 56 RX3 yX3_li wsX3_li) := goodIn_app (goodIn_of _ (by decide +kernel)) ggX3_jointTold_X3_li
set_option maxRecDepth 20000 in
theorem ggX3_jointTold_X3_isBroken : GoodIn wsX3_jointTold wsX3_isBroken := goodIn_r _ [13, 1, 2, 3, 4, 5, 6, 7, 8, 9, 14, 15, 16, 17, 18, 19, 20, 21, 22] (by decide +kernel) (by decide +kernel)
set_option maxRecDepth 20000 in
theorem gX3_jointTold_X3_isBroken : GoodIn wsX3_jointTold (wsV RX3 68 RX3 yX3_isBroken wsX3_isBroken) := goodIn_app (goodIn_of _ (by decide +kernel)) ggX3_jointTold_X3_isBroken
theorem dX3_jointTold_0 : decode cX3_jointTold 0 = .ok (.iload_n 3, 1) := by decide +kernel
theorem dX3_jointTold_1 : decode cX3_jointTold 1 = .ok (.iconst 3, 1) := by decide +kernel
theorem dX3_jointTold_2 : decode cX3_jointTold 2 = .ok (.if_icmp .ge 13, 3) := by decide +kernel
theorem dX3_jointTold_5 : decode cX3_jointTold 5 = .ok (.aload_n 0, 1) := by decide +kernel
theorem dX3_jointTold_6 : decode cX3_jointTold 6 = .ok (.iload_n 1, 1) := by decide +kernel
theorem dX3_jointTold_7 : decode cX3_jointTold 7 = .ok (.iload_n 2, 1) := by decide +kernel
theorem dX3_jointTold_8 : decode cX3_jointTold 8 = .ok (.iload_n 3, 1) := by decide +kernel
theorem dX3_jointTold_9 : decode cX3_jointTold 9 = .ok (.invokevirtual 56, 3) := by decide +kernel
theorem dX3_jointTold_12 : decode cX3_jointTold 12 = .ok (.goto 17, 3) := by decide +kernel
theorem dX3_jointTold_15 : decode cX3_jointTold 15 = .ok (.aload_n 0, 1) := by decide +kernel
theorem dX3_jointTold_16 : decode cX3_jointTold 16 = .ok (.iload_n 1, 1) := by decide +kernel
theorem dX3_jointTold_17 : decode cX3_jointTold 17 = .ok (.iload_n 2, 1) := by decide +kernel
theorem dX3_jointTold_18 : decode cX3_jointTold 18 = .ok (.invokevirtual 68, 3) := by decide +kernel
theorem dX3_jointTold_21 : decode cX3_jointTold 21 = .ok (.ifCond .eq 7, 3) := by decide +kernel
theorem dX3_jointTold_24 : decode cX3_jointTold 24 = .ok (.iconst 1, 1) := by decide +kernel
theorem dX3_jointTold_25 : decode cX3_jointTold 25 = .ok (.goto 4, 3) := by decide +kernel
theorem dX3_jointTold_28 : decode cX3_jointTold 28 = .ok (.iconst 0, 1) := by decide +kernel
theorem dX3_jointTold_29 : decode cX3_jointTold 29 = .ok (.ireturn, 1) := by decide +kernel
set_option maxRecDepth 20000 in
theorem ggX3_joint_X3_isDoll : GoodIn wsX3_joint wsX3_isDoll := goodIn_r _ [6, 7, 8, 9, 5, 10, 31, 32, 33, 34, 35, 36, 37, 38, 39] (by decide +kernel) (by decide +kernel)
set_option maxRecDepth 20000 in
theorem gX3_joint_X3_isDoll : GoodIn wsX3_joint (wsV RX3 75 RX3 yX3_isDoll wsX3_isDoll) := goodIn_app (goodIn_of _ (by decide +kernel)) ggX3_joint_X3_isDoll
set_option maxRecDepth 20000 in
theorem ggX3_joint_X3_isIn : GoodIn wsX3_joint wsX3_isIn := goodIn_r _ [10] (by decide +kernel) (by decide +kernel)
set_option maxRecDepth 20000 in
theorem gX3_joint_X3_isIn : GoodIn wsX3_joint (va_wsS RX3 35 yX3_isIn wsX3_isIn) := goodIn_app (goodIn_of _ (by decide +kernel)) ggX3_joint_X3_isIn
set_option maxRecDepth 20000 in
theorem ggX3_joint_X3_jointTold : GoodIn wsX3_joint wsX3_jointTold := goodIn_r _ [14, 15, 16, 17, 5, 18, 19, 20, 21, 22, 23, 24, 25, 26, 31, 32, 33, 34, 35, 36, 37, 38, 39] (by decide +kernel) (by decide +kernel)
set_option maxRecDepth 20000 in
theorem gX3_joint_X3_jointTold : GoodIn wsX3_joint (wsV RX3 95 RX3 yX3_jointTold wsX3_jointTold) := goodIn_app (goodIn_of _ (by decide +kernel)) ggX3_joint_X3_jointTold
set_option maxRecDepth 20000 in
theorem ggX3_joint_X3_fail : GoodIn wsX3_joint wsX3_fail := goodIn_r _ [30, 1, 31, 32, 33, 34, 35, 36, 37, 38, 39] (by decide +kernel) (by decide +kernel)
set_option maxRecDepth 20000 in
theorem gX3_joint_X3_fail : GoodIn wsX3_joint (wsV RX3 46 RX3 yX3_fail wsX3_fail) := goodIn_app (goodIn_of _ (by decide +kernel)) ggX3_joint_X3_fail
theorem dX3_joint_0 : decode cX3_joint 0 = .ok (.aload_n 0, 1) := by decide +kernel
theorem dX3_joint_1 : decode cX3_joint 1 = .ok (.iconst 0, 1) := by decide +kernel
theorem dX3_joint_2 : decode cX3_joint 2 = .ok (.putfield 29, 3) := by decide +kernel
theorem dX3_joint_5 : decode cX3_joint 5 = .ok (.aload_n 0, 1) := by decide +kernel
theorem dX3_joint_6 : decode cX3_joint 6 = .ok (.iload_n 1, 1) := by decide +kernel
theorem dX3_joint_7 : decode cX3_joint 7 = .ok (.invokevirtual 75, 3) := by decide +kernel
theorem dX3_joint_10 : decode cX3_joint 10 = .ok (.ifCond .eq 31, 3) := by decide +kernel
theorem dX3_joint_13 : decode cX3_joint 13 = .ok (.iload_n 2, 1) := by decide +kernel
theorem dX3_joint_14 : decode cX3_joint 14 = .ok (.iconst 0, 1) := by decide +kernel
theorem dX3_joint_15 : decode cX3_joint 15 = .ok (.iconst 5, 1) := by decide +kernel
theorem dX3_joint_16 : decode cX3_joint 16 = .ok (.invokestatic 35, 3) := by decide +kernel
theorem dX3_joint_19 : decode cX3_joint 19 = .ok (.ifCond .eq 22, 3) := by decide +kernel
theorem dX3_joint_22 : decode cX3_joint 22 = .ok (.iload_n 3, 1) := by decide +kernel
theorem dX3_joint_23 : decode cX3_joint 23 = .ok (.iconst 0, 1) := by decide +kernel
theorem dX3_joint_24 : decode cX3_joint 24 = .ok (.iconst 3, 1) := by decide +kernel
theorem dX3_joint_25 : decode cX3_joint 25 = .ok (.invokestatic 35, 3) := by decide +kernel
theorem dX3_joint_28 : decode cX3_joint 28 = .ok (.ifCond .eq 13, 3) := by decide +kernel
theorem dX3_joint_31 : decode cX3_joint 31 = .ok (.aload_n 0, 1) := by decide +kernel
theorem dX3_joint_32 : decode cX3_joint 32 = .ok (.iload_n 1, 1) := by decide +kernel
theorem dX3_joint_33 : decode cX3_joint 33 = .ok (.iload_n 2, 1) := by decide +kernel
theorem dX3_joint_34 : decode cX3_joint 34 = .ok (.iload_n 3, 1) := by decide +kernel
theorem dX3_joint_35 : decode cX3_joint 35 = .ok (.invokevirtual 95, 3) := by decide +kernel
theorem dX3_joint_38 : decode cX3_joint 38 = .ok (.goto 8, 3) := by decide +kernel
theorem dX3_joint_41 : decode cX3_joint 41 = .ok (.aload_n 0, 1) := by decide +kernel
theorem dX3_joint_42 : decode cX3_joint 42 = .ok (.iconst 1, 1) := by decide +kernel
theorem dX3_joint_43 : decode cX3_joint 43 = .ok (.invokevirtual 46, 3) := by decide +kernel
theorem dX3_joint_46 : decode cX3_joint 46 = .ok (.ireturn, 1) := by decide +kernel
set_option maxRecDepth 20000 in
theorem ggX3_doll_X3_isDoll : GoodIn wsX3_doll wsX3_isDoll := goodIn_r _ [6, 7, 8, 9, 5, 10, 20, 21, 22, 23, 24, 25, 26, 27, 28] (by decide +kernel) (by decide +kernel)
set_option maxRecDepth 20000 in
theorem gX3_doll_X3_isDoll : GoodIn wsX3_doll (wsV RX3 75 RX3 yX3_isDoll wsX3_isDoll) := goodIn_app (goodIn_of _ (by decide +kernel)) ggX3_doll_X3_isDoll
set_option maxRecDepth 20000 in
theorem ggX3_doll_X3_isIn : GoodIn wsX3_doll wsX3_isIn := goodIn_r _ [10] (by decide +kernel) (by decide +kernel)
set_option maxRecDepth 20000 in
theorem gX3_doll_X3_isIn : GoodIn wsX3_doll (va_wsS RX3 35 yX3_isIn wsX3_isIn) := goodIn_app (goodIn_of _ (by decide +kernel)) ggX3_doll_X3_isIn
set_option maxRecDepth 20000 in
theorem ggX3_doll_X3_ro : GoodIn wsX3_doll wsX3_ro := goodIn_r _ [14, 15, 20, 21, 22, 23, 24, 25, 26, 27, 28] (by decide +kernel) (by decide +kernel)
set_option maxRecDepth 20000 in
theorem gX3_doll_X3_ro : GoodIn wsX3_doll (wsV RX3 85 RX3 yX3_ro wsX3_ro) := goodIn_app (goodIn_of _ (by decide +kernel)) ggX3_doll_X3_ro
set_option maxRecDepth 20000 in
theorem ggX3_doll_X3_fail : GoodIn wsX3_doll wsX3_fail := goodIn_r _ [19, 1, 20, 21, 22, 23, 24, 25, 26, 27, 28] (by decide +kernel) (by decide +kernel)
set_option maxRecDepth 20000 in
theorem gX3_doll_X3_fail : GoodIn wsX3_doll (wsV RX3 46 RX3 yX3_fail wsX3_fail) := goodIn_app (goodIn_of _ (by decide +kernel)) ggX3_doll_X3_fail
theorem dX3_doll_0 : decode cX3_doll 0 = .ok (.aload_n 0, 1) := by decide +kernel
theorem dX3_doll_1 : decode cX3_doll 1 = .ok (.iconst 0, 1) := by decide +kernel
theorem dX3_doll_2 : decode cX3_doll 2 = .ok (.putfield 29, 3) := by decide +kernel
theorem dX3_doll_5 : decode cX3_doll 5 = .ok (.aload_n 0, 1) := by decide +kernel
theorem dX3_doll_6 : decode cX3_doll 6 = .ok (.iload_n 1, 1) := by decide +kernel
theorem dX3_doll_7 : decode cX3_doll 7 = .ok (.invokevirtual 75, 3) := by decide +kernel
theorem dX3_doll_10 : decode cX3_doll 10 = .ok (.ifCond .eq 22, 3) := by decide +kernel
theorem dX3_doll_13 : decode cX3_doll 13 = .ok (.iload_n 2, 1) := by decide +kernel
theorem dX3_doll_14 : decode cX3_doll 14 = .ok (.iconst 0, 1) := by decide +kernel
theorem dX3_doll_15 : decode cX3_doll 15 = .ok (.bipush 7, 2) := by decide +kernel
theorem dX3_doll_17 : decode cX3_doll 17 = .ok (.invokestatic 35, 3) := by decide +kernel
theorem dX3_doll_20 : decode cX3_doll 20 = .ok (.ifCond .eq 12, 3) := by decide +kernel
theorem dX3_doll_23 : decode cX3_doll 23 = .ok (.aload_n 0, 1) := by decide +kernel
theorem dX3_doll_24 : decode cX3_doll 24 = .ok (.iload_n 1, 1) := by decide +kernel
theorem dX3_doll_25 : decode cX3_doll 25 = .ok (.iload_n 2, 1) := by decide +kernel
theorem dX3_doll_26 : decode cX3_doll 26 = .ok (.invokevirtual 85, 3) := by decide +kernel
theorem dX3_doll_29 : decode cX3_doll 29 = .ok (.goto 8, 3) := by decide +kernel
theorem dX3_doll_32 : decode cX3_doll 32 = .ok (.aload_n 0, 1) := by decide +kernel
theorem dX3_doll_33 : decode cX3_doll 33 = .ok (.iconst 1, 1) := by decide +kernel
theorem dX3_doll_34 : decode cX3_doll 34 = .ok (.invokevirtual 46, 3) := by decide +kernel
theorem dX3_doll_37 : decode cX3_doll 37 = .ok (.ireturn, 1) := by decide +kernel
set_option maxRecDepth 20000 in
theorem ggX3_counted_X3_jointTold : GoodIn wsX3_counted wsX3_jointTold := goodIn_r _ [10, 11, 12, 13, 9, 14, 15, 16, 17, 18, 19, 20, 21, 22, 28, 29, 30, 31, 32, 33, 34, 35, 36] (by decide +kernel) (by decide +kernel)
set_option maxRecDepth 20000 in
theorem gX3_counted_X3_jointTold : GoodIn wsX3_counted (wsV RX3 95 RX3 yX3_jointTold wsX3_jointTold) := goodIn_app (goodIn_of _ (by decide +kernel)) ggX3_counted_X3_jointTold
set_option maxRecDepth 20000 in
theorem ggX3_counted_X3_ro : GoodIn wsX3_counted wsX3_ro := goodIn_r _ [26, 27, 28, 29, 30, 31, 32, 33, 34, 35, 36] (by decide +kernel) (by decide +kernel)
set_option maxRecDepth 20000 in
theorem gX3_counted_X3_ro : GoodIn wsX3_counted (wsV RX3 85 RX3 yX3_ro wsX3_ro) := goodIn_app (goodIn_of _ (by decide +kernel)) ggX3_counted_X3_ro
theorem dX3_counted_0 : decode cX3_counted 0 = .ok (.iconst 0, 1) := by decide +kernel
theorem dX3_counted_1 : decode cX3_counted 1 = .ok (.istore_n 2, 1) := by decide +kernel
theorem dX3_counted_2 : decode cX3_counted 2 = .ok (.iload_n 1, 1) := by decide +kernel
theorem dX3_counted_3 : decode cX3_counted 3 = .ok (.bipush 7, 2) := by decide +kernel
theorem dX3_counted_5 : decode cX3_counted 5 = .ok (.if_icmp .le 13, 3) := by decide +kernel
theorem dX3_counted_8 : decode cX3_counted 8 = .ok (.aload_n 0, 1) := by decide +kernel
theorem dX3_counted_9 : decode cX3_counted 9 = .ok (.getfield 23, 3) := by decide +kernel
theorem dX3_counted_12 : decode cX3_counted 12 = .ok (.iload_n 1, 1) := by decide +kernel
theorem dX3_counted_13 : decode cX3_counted 13 = .ok (.bipush 8, 2) := by decide +kernel
theorem dX3_counted_15 : decode cX3_counted 15 = .ok (.isub, 1) := by decide +kernel
theorem dX3_counted_16 : decode cX3_counted 16 = .ok (.iaload, 1) := by decide +kernel
theorem dX3_counted_17 : decode cX3_counted 17 = .ok (.ireturn, 1) := by decide +kernel
theorem dX3_counted_18 : decode cX3_counted 18 = .ok (.iload_n 1, 1) := by decide +kernel
theorem dX3_counted_19 : decode cX3_counted 19 = .ok (.iconst 4, 1) := by decide +kernel
theorem dX3_counted_20 : decode cX3_counted 20 = .ok (.if_icmp .ge 45, 3) := by decide +kernel
theorem dX3_counted_23 : decode cX3_counted 23 = .ok (.iload_n 1, 1) := by decide +kernel
theorem dX3_counted_24 : decode cX3_counted 24 = .ok (.ifCond .ne 12, 3) := by decide +kernel
theorem dX3_counted_27 : decode cX3_counted 27 = .ok (.aload_n 0, 1) := by decide +kernel
theorem dX3_counted_28 : decode cX3_counted 28 = .ok (.getfield 26, 3) := by decide +kernel
theorem dX3_counted_31 : decode cX3_counted 31 = .ok (.iconst 0, 1) := by decide +kernel
theorem dX3_counted_32 : decode cX3_counted 32 = .ok (.iaload, 1) := by decide +kernel
theorem dX3_counted_33 : decode cX3_counted 33 = .ok (.goto 31, 3) := by decide +kernel
theorem dX3_counted_36 : decode cX3_counted 36 = .ok (.iload_n 1, 1) := by decide +kernel
theorem dX3_counted_37 : decode cX3_counted 37 = .ok (.iconst 1, 1) := by decide +kernel
theorem dX3_counted_38 : decode cX3_counted 38 = .ok (.if_icmp .ne 10, 3) := by decide +kernel
theorem dX3_counted_41 : decode cX3_counted 41 = .ok (.aload_n 0, 1) := by decide +kernel
theorem dX3_counted_42 : decode cX3_counted 42 = .ok (.getfield 32, 3) := by decide +kernel
theorem dX3_counted_45 : decode cX3_counted 45 = .ok (.goto 19, 3) := by decide +kernel
theorem dX3_counted_48 : decode cX3_counted 48 = .ok (.iload_n 1, 1) := by decide +kernel
theorem dX3_counted_49 : decode cX3_counted 49 = .ok (.iconst 2, 1) := by decide +kernel
theorem dX3_counted_50 : decode cX3_counted 50 = .ok (.if_icmp .ne 10, 3) := by decide +kernel
theorem dX3_counted_53 : decode cX3_counted 53 = .ok (.aload_n 0, 1) := by decide +kernel
theorem dX3_counted_54 : decode cX3_counted 54 = .ok (.getfield 39, 3) := by decide +kernel
theorem dX3_counted_57 : decode cX3_counted 57 = .ok (.goto 7, 3) := by decide +kernel
theorem dX3_counted_60 : decode cX3_counted 60 = .ok (.aload_n 0, 1) := by decide +kernel
theorem dX3_counted_61 : decode cX3_counted 61 = .ok (.getfield 7, 3) := by decide +kernel
theorem dX3_counted_64 : decode cX3_counted 64 = .ok (.ireturn, 1) := by decide +kernel
theorem dX3_counted_65 : decode cX3_counted 65 = .ok (.iconst 0, 1) := by decide +kernel
theorem dX3_counted_66 : decode cX3_counted 66 = .ok (.istore_n 3, 1) := by decide +kernel
theorem dX3_counted_67 : decode cX3_counted 67 = .ok (.iload_n 3, 1) := by decide +kernel
theorem dX3_counted_68 : decode cX3_counted 68 = .ok (.aload_n 0, 1) := by decide +kernel
theorem dX3_counted_69 : decode cX3_counted 69 = .ok (.getfield 32, 3) := by decide +kernel
theorem dX3_counted_72 : decode cX3_counted 72 = .ok (.if_icmp .ge 129, 3) := by decide +kernel
theorem dX3_counted_75 : decode cX3_counted 75 = .ok (.iconst 0, 1) := by decide +kernel
theorem dX3_counted_76 : decode cX3_counted 76 = .ok (.istore 4, 2) := by decide +kernel
theorem dX3_counted_78 : decode cX3_counted 78 = .ok (.iload 4, 2) := by decide +kernel
theorem dX3_counted_80 : decode cX3_counted 80 = .ok (.bipush 6, 2) := by decide +kernel
theorem dX3_counted_82 : decode cX3_counted 82 = .ok (.if_icmp .ge 25, 3) := by decide +kernel
theorem dX3_counted_85 : decode cX3_counted 85 = .ok (.iload_n 1, 1) := by decide +kernel
theorem dX3_counted_86 : decode cX3_counted 86 = .ok (.iconst 4, 1) := by decide +kernel
theorem dX3_counted_87 : decode cX3_counted 87 = .ok (.if_icmp .ne 20, 3) := by decide +kernel
theorem dX3_counted_90 : decode cX3_counted 90 = .ok (.iload_n 2, 1) := by decide +kernel
theorem dX3_counted_91 : decode cX3_counted 91 = .ok (.aload_n 0, 1) := by decide +kernel
theorem dX3_counted_92 : decode cX3_counted 92 = .ok (.iload_n 3, 1) := by decide +kernel
theorem dX3_counted_93 : decode cX3_counted 93 = .ok (.iload 4, 2) := by decide +kernel
theorem dX3_counted_95 : decode cX3_counted 95 = .ok (.iconst 3, 1) := by decide +kernel
theorem dX3_counted_96 : decode cX3_counted 96 = .ok (.invokevirtual 95, 3) := by decide +kernel
theorem dX3_counted_99 : decode cX3_counted 99 = .ok (.iadd, 1) := by decide +kernel
theorem dX3_counted_100 : decode cX3_counted 100 = .ok (.istore_n 2, 1) := by decide +kernel
theorem dX3_counted_101 : decode cX3_counted 101 = .ok (.iinc 4 1, 3) := by decide +kernel
theorem dX3_counted_104 : decode cX3_counted 104 = .ok (.goto (-26), 3) := by decide +kernel
theorem dX3_counted_107 : decode cX3_counted 107 = .ok (.iload_n 1, 1) := by decide +kernel
theorem dX3_counted_108 : decode cX3_counted 108 = .ok (.iconst 5, 1) := by decide +kernel
theorem dX3_counted_109 : decode cX3_counted 109 = .ok (.if_icmp .ne 21, 3) := by decide +kernel
theorem dX3_counted_112 : decode cX3_counted 112 = .ok (.iload_n 2, 1) := by decide +kernel
theorem dX3_counted_113 : decode cX3_counted 113 = .ok (.aload_n 0, 1) := by decide +kernel
theorem dX3_counted_114 : decode cX3_counted 114 = .ok (.iload_n 3, 1) := by decide +kernel
theorem dX3_counted_115 : decode cX3_counted 115 = .ok (.iconst 4, 1) := by decide +kernel
theorem dX3_counted_116 : decode cX3_counted 116 = .ok (.invokevirtual 85, 3) := by decide +kernel
theorem dX3_counted_119 : decode cX3_counted 119 = .ok (.iconst (-1), 1) := by decide +kernel
theorem dX3_counted_120 : decode cX3_counted 120 = .ok (.if_icmp .ne 7, 3) := by decide +kernel
theorem dX3_counted_123 : decode cX3_counted 123 = .ok (.iconst 0, 1) := by decide +kernel
theorem dX3_counted_124 : decode cX3_counted 124 = .ok (.goto 4, 3) := by decide +kernel
theorem dX3_counted_127 : decode cX3_counted 127 = .ok (.iconst 1, 1) := by decide +kernel
theorem dX3_counted_128 : decode cX3_counted 128 = .ok (.iadd, 1) := by decide +kernel
theorem dX3_counted_129 : decode cX3_counted 129 = .ok (.istore_n 2, 1) := by decide +kernel
theorem dX3_counted_130 : decode cX3_counted 130 = .ok (.iload_n 1, 1) := by decide +kernel
theorem dX3_counted_131 : decode cX3_counted 131 = .ok (.bipush 6, 2) := by decide +kernel
theorem dX3_counted_133 : decode cX3_counted 133 = .ok (.if_icmp .ne 20, 3) := by decide +kernel
theorem dX3_counted_136 : decode cX3_counted 136 = .ok (.iload_n 2, 1) := by decide +kernel
theorem dX3_counted_137 : decode cX3_counted 137 = .ok (.aload_n 0, 1) := by decide +kernel
theorem dX3_counted_138 : decode cX3_counted 138 = .ok (.iload_n 3, 1) := by decide +kernel
theorem dX3_counted_139 : decode cX3_counted 139 = .ok (.iconst 5, 1) := by decide +kernel
theorem dX3_counted_140 : decode cX3_counted 140 = .ok (.invokevirtual 85, 3) := by decide +kernel
theorem dX3_counted_143 : decode cX3_counted 143 = .ok (.ifCond .le 7, 3) := by decide +kernel
theorem dX3_counted_146 : decode cX3_counted 146 = .ok (.iconst 1, 1) := by decide +kernel
theorem dX3_counted_147 : decode cX3_counted 147 = .ok (.goto 4, 3) := by decide +kernel
theorem dX3_counted_150 : decode cX3_counted 150 = .ok (.iconst 0, 1) := by decide +kernel
theorem dX3_counted_151 : decode cX3_counted 151 = .ok (.iadd, 1) := by decide +kernel
theorem dX3_counted_152 : decode cX3_counted 152 = .ok (.istore_n 2, 1) := by decide +kernel
theorem dX3_counted_153 : decode cX3_counted 153 = .ok (.iload_n 1, 1) := by decide +kernel
theorem dX3_counted_154 : decode cX3_counted 154 = .ok (.bipush 7, 2) := by decide +kernel
theorem dX3_counted_156 : decode cX3_counted 156 = .ok (.if_icmp .ne 39, 3) := by decide +kernel
theorem dX3_counted_159 : decode cX3_counted 159 = .ok (.iload_n 2, 1) := by decide +kernel
theorem dX3_counted_160 : decode cX3_counted 160 = .ok (.aload_n 0, 1) := by decide +kernel
theorem dX3_counted_161 : decode cX3_counted 161 = .ok (.iload_n 3, 1) := by decide +kernel
theorem dX3_counted_162 : decode cX3_counted 162 = .ok (.iconst 2, 1) := by decide +kernel
theorem dX3_counted_163 : decode cX3_counted 163 = .ok (.invokevirtual 85, 3) := by decide +kernel
theorem dX3_counted_166 : decode cX3_counted 166 = .ok (.bipush 9, 2) := by decide +kernel
theorem dX3_counted_168 : decode cX3_counted 168 = .ok (.if_icmp .ne 7, 3) := by decide +kernel
theorem dX3_counted_171 : decode cX3_counted 171 = .ok (.iconst 1, 1) := by decide +kernel
theorem dX3_counted_172 : decode cX3_counted 172 = .ok (.goto 4, 3) := by decide +kernel
theorem dX3_counted_175 : decode cX3_counted 175 = .ok (.iconst 0, 1) := by decide +kernel
theorem dX3_counted_176 : decode cX3_counted 176 = .ok (.aload_n 0, 1) := by decide +kernel
theorem dX3_counted_177 : decode cX3_counted 177 = .ok (.iload_n 3, 1) := by decide +kernel
theorem dX3_counted_178 : decode cX3_counted 178 = .ok (.iconst 3, 1) := by decide +kernel
theorem dX3_counted_179 : decode cX3_counted 179 = .ok (.invokevirtual 85, 3) := by decide +kernel
theorem dX3_counted_182 : decode cX3_counted 182 = .ok (.bipush 9, 2) := by decide +kernel
theorem dX3_counted_184 : decode cX3_counted 184 = .ok (.if_icmp .ne 7, 3) := by decide +kernel
theorem dX3_counted_187 : decode cX3_counted 187 = .ok (.iconst 1, 1) := by decide +kernel
theorem dX3_counted_188 : decode cX3_counted 188 = .ok (.goto 4, 3) := by decide +kernel
theorem dX3_counted_191 : decode cX3_counted 191 = .ok (.iconst 0, 1) := by decide +kernel
theorem dX3_counted_192 : decode cX3_counted 192 = .ok (.iadd, 1) := by decide +kernel
theorem dX3_counted_193 : decode cX3_counted 193 = .ok (.iadd, 1) := by decide +kernel
theorem dX3_counted_194 : decode cX3_counted 194 = .ok (.istore_n 2, 1) := by decide +kernel
theorem dX3_counted_195 : decode cX3_counted 195 = .ok (.iinc 3 1, 3) := by decide +kernel
theorem dX3_counted_198 : decode cX3_counted 198 = .ok (.goto (-131), 3) := by decide +kernel
theorem dX3_counted_201 : decode cX3_counted 201 = .ok (.iload_n 2, 1) := by decide +kernel
theorem dX3_counted_202 : decode cX3_counted 202 = .ok (.ireturn, 1) := by decide +kernel
set_option maxRecDepth 20000 in
theorem ggX3_count_X3_isIn : GoodIn wsX3_count wsX3_isIn := goodIn_r _ [5] (by decide +kernel) (by decide +kernel)
set_option maxRecDepth 20000 in
theorem gX3_count_X3_isIn : GoodIn wsX3_count (va_wsS RX3 35 yX3_isIn wsX3_isIn) := goodIn_app (goodIn_of _ (by decide +kernel)) ggX3_count_X3_isIn
set_option maxRecDepth 20000 in
theorem ggX3_count_X3_counted : GoodIn wsX3_count wsX3_counted := goodIn_r _ [9, 10, 11, 12, 13, 14, 15, 16, 17, 4, 18, 19, 20, 21, 22, 23, 24, 25, 26, 27, 28, 29, 30, 31, 32, 33, 34, 35, 40, 41, 42, 43, 44, 45, 46, 47, 48] (by decide +kernel) (by decide +kernel)
set_option maxRecDepth 20000 in
theorem gX3_count_X3_counted : GoodIn wsX3_count (wsV RX3 98 RX3 yX3_counted wsX3_counted) := goodIn_app (goodIn_of _ (by decide +kernel)) ggX3_count_X3_counted
set_option maxRecDepth 20000 in
theorem ggX3_count_X3_fail : GoodIn wsX3_count wsX3_fail := goodIn_r _ [39, 1, 40, 41, 42, 43, 44, 45, 46, 47, 48] (by decide +kernel) (by decide +kernel)
set_option maxRecDepth 20000 in
theorem gX3_count_X3_fail : GoodIn wsX3_count (wsV RX3 46 RX3 yX3_fail wsX3_fail) := goodIn_app (goodIn_of _ (by decide +kernel)) ggX3_count_X3_fail
theorem dX3_count_0 : decode cX3_count 0 = .ok (.aload_n 0, 1) := by decide +kernel
theorem dX3_count_1 : decode cX3_count 1 = .ok (.iconst 0, 1) := by decide +kernel
theorem dX3_count_2 : decode cX3_count 2 = .ok (.putfield 29, 3) := by decide +kernel
theorem dX3_count_5 : decode cX3_count 5 = .ok (.iload_n 1, 1) := by decide +kernel
theorem dX3_count_6 : decode cX3_count 6 = .ok (.iconst 0, 1) := by decide +kernel
theorem dX3_count_7 : decode cX3_count 7 = .ok (.bipush 12, 2) := by decide +kernel
theorem dX3_count_9 : decode cX3_count 9 = .ok (.invokestatic 35, 3) := by decide +kernel
theorem dX3_count_12 : decode cX3_count 12 = .ok (.ifCond .eq 11, 3) := by decide +kernel
theorem dX3_count_15 : decode cX3_count 15 = .ok (.aload_n 0, 1) := by decide +kernel
theorem dX3_count_16 : decode cX3_count 16 = .ok (.iload_n 1, 1) := by decide +kernel
theorem dX3_count_17 : decode cX3_count 17 = .ok (.invokevirtual 98, 3) := by decide +kernel
theorem dX3_count_20 : decode cX3_count 20 = .ok (.goto 8, 3) := by decide +kernel
theorem dX3_count_23 : decode cX3_count 23 = .ok (.aload_n 0, 1) := by decide +kernel
theorem dX3_count_24 : decode cX3_count 24 = .ok (.iconst 1, 1) := by decide +kernel
theorem dX3_count_25 : decode cX3_count 25 = .ok (.invokevirtual 46, 3) := by decide +kernel
theorem dX3_count_28 : decode cX3_count 28 = .ok (.ireturn, 1) := by decide +kernel
theorem dX3_kept_0 : decode cX3_kept 0 = .ok (.iconst 3, 1) := by decide +kernel
theorem dX3_kept_1 : decode cX3_kept 1 = .ok (.anewarray 101, 3) := by decide +kernel
theorem dX3_kept_4 : decode cX3_kept 4 = .ok (.dup, 1) := by decide +kernel
theorem dX3_kept_5 : decode cX3_kept 5 = .ok (.iconst 0, 1) := by decide +kernel
theorem dX3_kept_6 : decode cX3_kept 6 = .ok (.aload_n 0, 1) := by decide +kernel
theorem dX3_kept_7 : decode cX3_kept 7 = .ok (.getfield 13, 3) := by decide +kernel
theorem dX3_kept_10 : decode cX3_kept 10 = .ok (.invokevirtual 102, 3) := by decide +kernel
theorem dX3_kept_13 : decode cX3_kept 13 = .ok (.checkcast 101, 3) := by decide +kernel
theorem dX3_kept_16 : decode cX3_kept 16 = .ok (.aastore, 1) := by decide +kernel
theorem dX3_kept_17 : decode cX3_kept 17 = .ok (.dup, 1) := by decide +kernel
theorem dX3_kept_18 : decode cX3_kept 18 = .ok (.iconst 1, 1) := by decide +kernel
theorem dX3_kept_19 : decode cX3_kept 19 = .ok (.aload_n 0, 1) := by decide +kernel
theorem dX3_kept_20 : decode cX3_kept 20 = .ok (.getfield 17, 3) := by decide +kernel
theorem dX3_kept_23 : decode cX3_kept 23 = .ok (.invokevirtual 102, 3) := by decide +kernel
theorem dX3_kept_26 : decode cX3_kept 26 = .ok (.checkcast 101, 3) := by decide +kernel
theorem dX3_kept_29 : decode cX3_kept 29 = .ok (.aastore, 1) := by decide +kernel
theorem dX3_kept_30 : decode cX3_kept 30 = .ok (.dup, 1) := by decide +kernel
theorem dX3_kept_31 : decode cX3_kept 31 = .ok (.iconst 2, 1) := by decide +kernel
theorem dX3_kept_32 : decode cX3_kept 32 = .ok (.aload_n 0, 1) := by decide +kernel
theorem dX3_kept_33 : decode cX3_kept 33 = .ok (.getfield 26, 3) := by decide +kernel
theorem dX3_kept_36 : decode cX3_kept 36 = .ok (.invokevirtual 102, 3) := by decide +kernel
theorem dX3_kept_39 : decode cX3_kept 39 = .ok (.checkcast 101, 3) := by decide +kernel
theorem dX3_kept_42 : decode cX3_kept 42 = .ok (.aastore, 1) := by decide +kernel
theorem dX3_kept_43 : decode cX3_kept 43 = .ok (.areturn, 1) := by decide +kernel
theorem dX3_bringBack_0 : decode cX3_bringBack 0 = .ok (.aload_n 1, 1) := by decide +kernel
theorem dX3_bringBack_1 : decode cX3_bringBack 1 = .ok (.iconst 0, 1) := by decide +kernel
theorem dX3_bringBack_2 : decode cX3_bringBack 2 = .ok (.aaload, 1) := by decide +kernel
theorem dX3_bringBack_3 : decode cX3_bringBack 3 = .ok (.iconst 0, 1) := by decide +kernel
theorem dX3_bringBack_4 : decode cX3_bringBack 4 = .ok (.aload_n 0, 1) := by decide +kernel
theorem dX3_bringBack_5 : decode cX3_bringBack 5 = .ok (.getfield 13, 3) := by decide +kernel
theorem dX3_bringBack_8 : decode cX3_bringBack 8 = .ok (.iconst 0, 1) := by decide +kernel
theorem dX3_bringBack_9 : decode cX3_bringBack 9 = .ok (.aload_n 0, 1) := by decide +kernel
theorem dX3_bringBack_10 : decode cX3_bringBack 10 = .ok (.getfield 13, 3) := by decide +kernel
theorem dX3_bringBack_13 : decode cX3_bringBack 13 = .ok (.arraylength, 1) := by decide +kernel
theorem dX3_bringBack_14 : decode cX3_bringBack 14 = .ok (.invokestatic 50, 3) := by decide +kernel
theorem dX3_bringBack_17 : decode cX3_bringBack 17 = .ok (.aload_n 1, 1) := by decide +kernel
theorem dX3_bringBack_18 : decode cX3_bringBack 18 = .ok (.iconst 1, 1) := by decide +kernel
theorem dX3_bringBack_19 : decode cX3_bringBack 19 = .ok (.aaload, 1) := by decide +kernel
theorem dX3_bringBack_20 : decode cX3_bringBack 20 = .ok (.iconst 0, 1) := by decide +kernel
theorem dX3_bringBack_21 : decode cX3_bringBack 21 = .ok (.aload_n 0, 1) := by decide +kernel
theorem dX3_bringBack_22 : decode cX3_bringBack 22 = .ok (.getfield 17, 3) := by decide +kernel
theorem dX3_bringBack_25 : decode cX3_bringBack 25 = .ok (.iconst 0, 1) := by decide +kernel
theorem dX3_bringBack_26 : decode cX3_bringBack 26 = .ok (.aload_n 0, 1) := by decide +kernel
theorem dX3_bringBack_27 : decode cX3_bringBack 27 = .ok (.getfield 17, 3) := by decide +kernel
theorem dX3_bringBack_30 : decode cX3_bringBack 30 = .ok (.arraylength, 1) := by decide +kernel
theorem dX3_bringBack_31 : decode cX3_bringBack 31 = .ok (.invokestatic 50, 3) := by decide +kernel
theorem dX3_bringBack_34 : decode cX3_bringBack 34 = .ok (.aload_n 0, 1) := by decide +kernel
theorem dX3_bringBack_35 : decode cX3_bringBack 35 = .ok (.getfield 26, 3) := by decide +kernel
theorem dX3_bringBack_38 : decode cX3_bringBack 38 = .ok (.iconst 0, 1) := by decide +kernel
theorem dX3_bringBack_39 : decode cX3_bringBack 39 = .ok (.aload_n 1, 1) := by decide +kernel
theorem dX3_bringBack_40 : decode cX3_bringBack 40 = .ok (.iconst 2, 1) := by decide +kernel
theorem dX3_bringBack_41 : decode cX3_bringBack 41 = .ok (.aaload, 1) := by decide +kernel
theorem dX3_bringBack_42 : decode cX3_bringBack 42 = .ok (.iconst 0, 1) := by decide +kernel
theorem dX3_bringBack_43 : decode cX3_bringBack 43 = .ok (.iaload, 1) := by decide +kernel
theorem dX3_bringBack_44 : decode cX3_bringBack 44 = .ok (.iastore, 1) := by decide +kernel
theorem dX3_bringBack_45 : decode cX3_bringBack 45 = .ok (.return_, 1) := by decide +kernel
set_option maxRecDepth 20000 in
theorem ggX3_wearOf_X3_li : GoodIn wsX3_wearOf wsX3_li := goodIn_r _ [5, 6, 7, 8, 4, 9, 10, 11, 12, 13, 14, 15, 16, 17, 18] (by decide +kernel) (by decide +kernel)
set_option maxRecDepth 20000 in
theorem gX3_wearOf_X3_li : GoodIn wsX3_wearOf (wsV RX3 56 RX3 yX3_li wsX3_li) := goodIn_app (goodIn_of _ (by decide +kernel)) ggX3_wearOf_X3_li
theorem dX3_wearOf_0 : decode cX3_wearOf 0 = .ok (.iconst 0, 1) := by decide +kernel
theorem dX3_wearOf_1 : decode cX3_wearOf 1 = .ok (.istore_n 2, 1) := by decide +kernel
theorem dX3_wearOf_2 : decode cX3_wearOf 2 = .ok (.iconst 0, 1) := by decide +kernel
theorem dX3_wearOf_3 : decode cX3_wearOf 3 = .ok (.istore_n 3, 1) := by decide +kernel
theorem dX3_wearOf_4 : decode cX3_wearOf 4 = .ok (.iload_n 3, 1) := by decide +kernel
theorem dX3_wearOf_5 : decode cX3_wearOf 5 = .ok (.bipush 6, 2) := by decide +kernel
theorem dX3_wearOf_7 : decode cX3_wearOf 7 = .ok (.if_icmp .ge 19, 3) := by decide +kernel
theorem dX3_wearOf_10 : decode cX3_wearOf 10 = .ok (.iload_n 2, 1) := by decide +kernel
theorem dX3_wearOf_11 : decode cX3_wearOf 11 = .ok (.aload_n 0, 1) := by decide +kernel
theorem dX3_wearOf_12 : decode cX3_wearOf 12 = .ok (.iload_n 1, 1) := by decide +kernel
theorem dX3_wearOf_13 : decode cX3_wearOf 13 = .ok (.iload_n 3, 1) := by decide +kernel
theorem dX3_wearOf_14 : decode cX3_wearOf 14 = .ok (.iconst 1, 1) := by decide +kernel
theorem dX3_wearOf_15 : decode cX3_wearOf 15 = .ok (.invokevirtual 56, 3) := by decide +kernel
theorem dX3_wearOf_18 : decode cX3_wearOf 18 = .ok (.iadd, 1) := by decide +kernel
theorem dX3_wearOf_19 : decode cX3_wearOf 19 = .ok (.istore_n 2, 1) := by decide +kernel
theorem dX3_wearOf_20 : decode cX3_wearOf 20 = .ok (.iinc 3 1, 3) := by decide +kernel
theorem dX3_wearOf_23 : decode cX3_wearOf 23 = .ok (.goto (-19), 3) := by decide +kernel
theorem dX3_wearOf_26 : decode cX3_wearOf 26 = .ok (.iload_n 2, 1) := by decide +kernel
theorem dX3_wearOf_27 : decode cX3_wearOf 27 = .ok (.ireturn, 1) := by decide +kernel
set_option maxRecDepth 20000 in
theorem ggX3_costs_X3_isDoll : GoodIn wsX3_costs wsX3_isDoll := goodIn_r _ [6, 7, 8, 9, 5, 10, 76, 77, 78, 79, 80, 81, 82, 83, 84] (by decide +kernel) (by decide +kernel)
set_option maxRecDepth 20000 in
theorem gX3_costs_X3_isDoll : GoodIn wsX3_costs (wsV RX3 75 RX3 yX3_isDoll wsX3_isDoll) := goodIn_app (goodIn_of _ (by decide +kernel)) ggX3_costs_X3_isDoll
set_option maxRecDepth 20000 in
theorem ggX3_costs_X3_isPose : GoodIn wsX3_costs wsX3_isPose := goodIn_r _ [14, 15, 8, 9, 5, 10, 76, 77, 78, 79, 80, 81, 82, 83, 84] (by decide +kernel) (by decide +kernel)
set_option maxRecDepth 20000 in
theorem gX3_costs_X3_isPose : GoodIn wsX3_costs (wsV RX3 79 RX3 yX3_isPose wsX3_isPose) := goodIn_app (goodIn_of _ (by decide +kernel)) ggX3_costs_X3_isPose
set_option maxRecDepth 20000 in
theorem ggX3_costs_X3_fail : GoodIn wsX3_costs wsX3_fail := goodIn_r _ [19, 1, 76, 77, 78, 79, 80, 81, 82, 83, 84] (by decide +kernel) (by decide +kernel)
set_option maxRecDepth 20000 in
theorem gX3_costs_X3_fail : GoodIn wsX3_costs (wsV RX3 46 RX3 yX3_fail wsX3_fail) := goodIn_app (goodIn_of _ (by decide +kernel)) ggX3_costs_X3_fail
set_option maxRecDepth 20000 in
theorem ggX3_costs_X3_can : GoodIn wsX3_costs wsX3_can := goodIn_r _ [23, 24, 25, 26, 27, 5, 28, 29, 30, 31, 32, 33, 34, 35, 36, 76, 77, 78, 79, 80, 81, 82, 83, 84] (by decide +kernel) (by decide +kernel)
set_option maxRecDepth 20000 in
theorem gX3_costs_X3_can : GoodIn wsX3_costs (wsV RX3 82 RX3 yX3_can wsX3_can) := goodIn_app (goodIn_of _ (by decide +kernel)) ggX3_costs_X3_can
set_option maxRecDepth 20000 in
theorem ggX3_costs_X3_kept : GoodIn wsX3_costs wsX3_kept := goodIn_r _ [40, 41, 33, 42, 43, 44, 45, 46, 47, 48, 76, 77, 78, 79, 80, 81, 82, 83, 84] (by decide +kernel) (by decide +kernel)
set_option maxRecDepth 20000 in
theorem gX3_costs_X3_kept : GoodIn wsX3_costs (wsV RX3 106 RX3 yX3_kept wsX3_kept) := goodIn_app (goodIn_of _ (by decide +kernel)) ggX3_costs_X3_kept
set_option maxRecDepth 20000 in
theorem ggX3_costs_X3_wearOf : GoodIn wsX3_costs wsX3_wearOf := goodIn_r _ [52, 29, 30, 31, 5, 32, 33, 34, 35, 36, 76, 77, 78, 79, 80, 81, 82, 83, 84] (by decide +kernel) (by decide +kernel)
set_option maxRecDepth 20000 in
theorem gX3_costs_X3_wearOf : GoodIn wsX3_costs (wsV RX3 110 RX3 yX3_wearOf wsX3_wearOf) := goodIn_app (goodIn_of _ (by decide +kernel)) ggX3_costs_X3_wearOf
set_option maxRecDepth 20000 in
theorem ggX3_costs_X3_turnAll : GoodIn wsX3_costs wsX3_turnAll := goodIn_r _ [56, 24, 57, 58, 59, 5, 60, 61, 62, 63, 64, 33, 65, 66, 67, 29, 30, 31, 32, 34, 35, 36, 25, 26, 27, 28, 76, 77, 78, 79, 80, 81, 82, 83, 84] (by decide +kernel) (by decide +kernel)
set_option maxRecDepth 20000 in
theorem gX3_costs_X3_turnAll : GoodIn wsX3_costs (wsV RX3 92 RX3 yX3_turnAll wsX3_turnAll) := goodIn_app (goodIn_of _ (by decide +kernel)) ggX3_costs_X3_turnAll
set_option maxRecDepth 20000 in
theorem ggX3_costs_X3_bringBack : GoodIn wsX3_costs wsX3_bringBack := goodIn_r _ [71, 33, 72, 73, 74, 75, 47, 48, 76, 77, 78, 79, 80, 81, 82, 83, 84] (by decide +kernel) (by decide +kernel)
set_option maxRecDepth 20000 in
theorem gX3_costs_X3_bringBack : GoodIn wsX3_costs (wsV RX3 113 RX3 yX3_bringBack wsX3_bringBack) := goodIn_app (goodIn_of _ (by decide +kernel)) ggX3_costs_X3_bringBack
theorem dX3_costs_0 : decode cX3_costs 0 = .ok (.aload_n 0, 1) := by decide +kernel
theorem dX3_costs_1 : decode cX3_costs 1 = .ok (.iconst 0, 1) := by decide +kernel
theorem dX3_costs_2 : decode cX3_costs 2 = .ok (.putfield 29, 3) := by decide +kernel
theorem dX3_costs_5 : decode cX3_costs 5 = .ok (.aload_n 0, 1) := by decide +kernel
theorem dX3_costs_6 : decode cX3_costs 6 = .ok (.iload_n 1, 1) := by decide +kernel
theorem dX3_costs_7 : decode cX3_costs 7 = .ok (.invokevirtual 75, 3) := by decide +kernel
theorem dX3_costs_10 : decode cX3_costs 10 = .ok (.ifCond .eq 11, 3) := by decide +kernel
theorem dX3_costs_13 : decode cX3_costs 13 = .ok (.aload_n 0, 1) := by decide +kernel
theorem dX3_costs_14 : decode cX3_costs 14 = .ok (.iload_n 2, 1) := by decide +kernel
theorem dX3_costs_15 : decode cX3_costs 15 = .ok (.invokevirtual 79, 3) := by decide +kernel
theorem dX3_costs_18 : decode cX3_costs 18 = .ok (.ifCond .ne 9, 3) := by decide +kernel
theorem dX3_costs_21 : decode cX3_costs 21 = .ok (.aload_n 0, 1) := by decide +kernel
theorem dX3_costs_22 : decode cX3_costs 22 = .ok (.iconst 1, 1) := by decide +kernel
theorem dX3_costs_23 : decode cX3_costs 23 = .ok (.invokevirtual 46, 3) := by decide +kernel
theorem dX3_costs_26 : decode cX3_costs 26 = .ok (.ireturn, 1) := by decide +kernel
theorem dX3_costs_27 : decode cX3_costs 27 = .ok (.aload_n 0, 1) := by decide +kernel
theorem dX3_costs_28 : decode cX3_costs 28 = .ok (.iload_n 1, 1) := by decide +kernel
theorem dX3_costs_29 : decode cX3_costs 29 = .ok (.iload_n 2, 1) := by decide +kernel
theorem dX3_costs_30 : decode cX3_costs 30 = .ok (.invokevirtual 82, 3) := by decide +kernel
theorem dX3_costs_33 : decode cX3_costs 33 = .ok (.ifCond .ne 5, 3) := by decide +kernel
theorem dX3_costs_36 : decode cX3_costs 36 = .ok (.iconst (-1), 1) := by decide +kernel
theorem dX3_costs_37 : decode cX3_costs 37 = .ok (.ireturn, 1) := by decide +kernel
theorem dX3_costs_38 : decode cX3_costs 38 = .ok (.aload_n 0, 1) := by decide +kernel
theorem dX3_costs_39 : decode cX3_costs 39 = .ok (.invokevirtual 106, 3) := by decide +kernel
theorem dX3_costs_42 : decode cX3_costs 42 = .ok (.astore_n 3, 1) := by decide +kernel
theorem dX3_costs_43 : decode cX3_costs 43 = .ok (.aload_n 0, 1) := by decide +kernel
theorem dX3_costs_44 : decode cX3_costs 44 = .ok (.iload_n 1, 1) := by decide +kernel
theorem dX3_costs_45 : decode cX3_costs 45 = .ok (.invokevirtual 110, 3) := by decide +kernel
theorem dX3_costs_48 : decode cX3_costs 48 = .ok (.istore 4, 2) := by decide +kernel
theorem dX3_costs_50 : decode cX3_costs 50 = .ok (.aload_n 0, 1) := by decide +kernel
theorem dX3_costs_51 : decode cX3_costs 51 = .ok (.iload_n 1, 1) := by decide +kernel
theorem dX3_costs_52 : decode cX3_costs 52 = .ok (.iload_n 2, 1) := by decide +kernel
theorem dX3_costs_53 : decode cX3_costs 53 = .ok (.invokevirtual 92, 3) := by decide +kernel
theorem dX3_costs_56 : decode cX3_costs 56 = .ok (.pop, 1) := by decide +kernel
theorem dX3_costs_57 : decode cX3_costs 57 = .ok (.aload_n 0, 1) := by decide +kernel
theorem dX3_costs_58 : decode cX3_costs 58 = .ok (.iload_n 1, 1) := by decide +kernel
theorem dX3_costs_59 : decode cX3_costs 59 = .ok (.invokevirtual 110, 3) := by decide +kernel
theorem dX3_costs_62 : decode cX3_costs 62 = .ok (.iload 4, 2) := by decide +kernel
theorem dX3_costs_64 : decode cX3_costs 64 = .ok (.isub, 1) := by decide +kernel
theorem dX3_costs_65 : decode cX3_costs 65 = .ok (.istore 5, 2) := by decide +kernel
theorem dX3_costs_67 : decode cX3_costs 67 = .ok (.aload_n 0, 1) := by decide +kernel
theorem dX3_costs_68 : decode cX3_costs 68 = .ok (.aload_n 3, 1) := by decide +kernel
theorem dX3_costs_69 : decode cX3_costs 69 = .ok (.invokevirtual 113, 3) := by decide +kernel
theorem dX3_costs_72 : decode cX3_costs 72 = .ok (.iload 5, 2) := by decide +kernel
theorem dX3_costs_74 : decode cX3_costs 74 = .ok (.ireturn, 1) := by decide +kernel
set_option maxRecDepth 20000 in
theorem ggX3_often_X3_isDoll : GoodIn wsX3_often wsX3_isDoll := goodIn_r _ [6, 7, 8, 9, 5, 10, 72, 73, 74, 75, 76, 77, 78, 79, 80] (by decide +kernel) (by decide +kernel)
set_option maxRecDepth 20000 in
theorem gX3_often_X3_isDoll : GoodIn wsX3_often (wsV RX3 75 RX3 yX3_isDoll wsX3_isDoll) := goodIn_app (goodIn_of _ (by decide +kernel)) ggX3_often_X3_isDoll
set_option maxRecDepth 20000 in
theorem ggX3_often_X3_isPose : GoodIn wsX3_often wsX3_isPose := goodIn_r _ [14, 15, 8, 9, 5, 10, 72, 73, 74, 75, 76, 77, 78, 79, 80] (by decide +kernel) (by decide +kernel)
set_option maxRecDepth 20000 in
theorem gX3_often_X3_isPose : GoodIn wsX3_often (wsV RX3 79 RX3 yX3_isPose wsX3_isPose) := goodIn_app (goodIn_of _ (by decide +kernel)) ggX3_often_X3_isPose
set_option maxRecDepth 20000 in
theorem ggX3_often_X3_fail : GoodIn wsX3_often wsX3_fail := goodIn_r _ [19, 1, 72, 73, 74, 75, 76, 77, 78, 79, 80] (by decide +kernel) (by decide +kernel)
set_option maxRecDepth 20000 in
theorem gX3_often_X3_fail : GoodIn wsX3_often (wsV RX3 46 RX3 yX3_fail wsX3_fail) := goodIn_app (goodIn_of _ (by decide +kernel)) ggX3_often_X3_fail
set_option maxRecDepth 20000 in
theorem ggX3_often_X3_kept : GoodIn wsX3_often wsX3_kept := goodIn_r _ [23, 24, 25, 26, 27, 28, 29, 30, 31, 32, 72, 73, 74, 75, 76, 77, 78, 79, 80] (by decide +kernel) (by decide +kernel)
set_option maxRecDepth 20000 in
theorem gX3_often_X3_kept : GoodIn wsX3_often (wsV RX3 106 RX3 yX3_kept wsX3_kept) := goodIn_app (goodIn_of _ (by decide +kernel)) ggX3_often_X3_kept
set_option maxRecDepth 20000 in
theorem ggX3_often_X3_can : GoodIn wsX3_often wsX3_can := goodIn_r _ [36, 37, 38, 39, 40, 5, 41, 42, 43, 44, 45, 25, 46, 47, 48, 72, 73, 74, 75, 76, 77, 78, 79, 80] (by decide +kernel) (by decide +kernel)
set_option maxRecDepth 20000 in
theorem gX3_often_X3_can : GoodIn wsX3_often (wsV RX3 82 RX3 yX3_can wsX3_can) := goodIn_app (goodIn_of _ (by decide +kernel)) ggX3_often_X3_can
set_option maxRecDepth 20000 in
theorem ggX3_often_X3_turnAll : GoodIn wsX3_often wsX3_turnAll := goodIn_r _ [52, 37, 53, 54, 55, 5, 56, 57, 58, 59, 60, 25, 61, 62, 63, 42, 43, 44, 45, 46, 47, 48, 38, 39, 40, 41, 72, 73, 74, 75, 76, 77, 78, 79, 80] (by decide +kernel) (by decide +kernel)
set_option maxRecDepth 20000 in
theorem gX3_often_X3_turnAll : GoodIn wsX3_often (wsV RX3 92 RX3 yX3_turnAll wsX3_turnAll) := goodIn_app (goodIn_of _ (by decide +kernel)) ggX3_often_X3_turnAll
set_option maxRecDepth 20000 in
theorem ggX3_often_X3_isBroken : GoodIn wsX3_often wsX3_isBroken := goodIn_r _ [41, 42, 43, 44, 5, 45, 25, 46, 47, 48, 72, 73, 74, 75, 76, 77, 78, 79, 80] (by decide +kernel) (by decide +kernel)
set_option maxRecDepth 20000 in
theorem gX3_often_X3_isBroken : GoodIn wsX3_often (wsV RX3 68 RX3 yX3_isBroken wsX3_isBroken) := goodIn_app (goodIn_of _ (by decide +kernel)) ggX3_often_X3_isBroken
set_option maxRecDepth 20000 in
theorem ggX3_often_X3_turn : GoodIn wsX3_often wsX3_turn := goodIn_r _ [56, 57, 58, 59, 60, 25, 61, 62, 63, 42, 43, 44, 5, 45, 46, 47, 48, 38, 39, 40, 41, 72, 73, 74, 75, 76, 77, 78, 79, 80] (by decide +kernel) (by decide +kernel)
set_option maxRecDepth 20000 in
theorem gX3_often_X3_turn : GoodIn wsX3_often (wsV RX3 72 RX3 yX3_turn wsX3_turn) := goodIn_app (goodIn_of _ (by decide +kernel)) ggX3_often_X3_turn
set_option maxRecDepth 20000 in
theorem ggX3_often_X3_bringBack : GoodIn wsX3_often wsX3_bringBack := goodIn_r _ [67, 25, 68, 69, 70, 71, 31, 32, 72, 73, 74, 75, 76, 77, 78, 79, 80] (by decide +kernel) (by decide +kernel)
set_option maxRecDepth 20000 in
theorem gX3_often_X3_bringBack : GoodIn wsX3_often (wsV RX3 113 RX3 yX3_bringBack wsX3_bringBack) := goodIn_app (goodIn_of _ (by decide +kernel)) ggX3_often_X3_bringBack
theorem dX3_often_0 : decode cX3_often 0 = .ok (.aload_n 0, 1) := by decide +kernel
theorem dX3_often_1 : decode cX3_often 1 = .ok (.iconst 0, 1) := by decide +kernel
theorem dX3_often_2 : decode cX3_often 2 = .ok (.putfield 29, 3) := by decide +kernel
theorem dX3_often_5 : decode cX3_often 5 = .ok (.aload_n 0, 1) := by decide +kernel
theorem dX3_often_6 : decode cX3_often 6 = .ok (.iload_n 1, 1) := by decide +kernel
theorem dX3_often_7 : decode cX3_often 7 = .ok (.invokevirtual 75, 3) := by decide +kernel
theorem dX3_often_10 : decode cX3_often 10 = .ok (.ifCond .eq 11, 3) := by decide +kernel
theorem dX3_often_13 : decode cX3_often 13 = .ok (.aload_n 0, 1) := by decide +kernel
theorem dX3_often_14 : decode cX3_often 14 = .ok (.iload_n 2, 1) := by decide +kernel
theorem dX3_often_15 : decode cX3_often 15 = .ok (.invokevirtual 79, 3) := by decide +kernel
theorem dX3_often_18 : decode cX3_often 18 = .ok (.ifCond .ne 9, 3) := by decide +kernel
theorem dX3_often_21 : decode cX3_often 21 = .ok (.aload_n 0, 1) := by decide +kernel
theorem dX3_often_22 : decode cX3_often 22 = .ok (.iconst 1, 1) := by decide +kernel
theorem dX3_often_23 : decode cX3_often 23 = .ok (.invokevirtual 46, 3) := by decide +kernel
theorem dX3_often_26 : decode cX3_often 26 = .ok (.ireturn, 1) := by decide +kernel
theorem dX3_often_27 : decode cX3_often 27 = .ok (.aload_n 0, 1) := by decide +kernel
theorem dX3_often_28 : decode cX3_often 28 = .ok (.invokevirtual 106, 3) := by decide +kernel
theorem dX3_often_31 : decode cX3_often 31 = .ok (.astore_n 3, 1) := by decide +kernel
theorem dX3_often_32 : decode cX3_often 32 = .ok (.iconst 0, 1) := by decide +kernel
theorem dX3_often_33 : decode cX3_often 33 = .ok (.istore 4, 2) := by decide +kernel
theorem dX3_often_35 : decode cX3_often 35 = .ok (.iload 4, 2) := by decide +kernel
theorem dX3_often_37 : decode cX3_often 37 = .ok (.bipush 50, 2) := by decide +kernel
theorem dX3_often_39 : decode cX3_often 39 = .ok (.if_icmp .ge 60, 3) := by decide +kernel
theorem dX3_often_42 : decode cX3_often 42 = .ok (.aload_n 0, 1) := by decide +kernel
theorem dX3_often_43 : decode cX3_often 43 = .ok (.iload_n 1, 1) := by decide +kernel
theorem dX3_often_44 : decode cX3_often 44 = .ok (.iload_n 2, 1) := by decide +kernel
theorem dX3_often_45 : decode cX3_often 45 = .ok (.invokevirtual 82, 3) := by decide +kernel
theorem dX3_often_48 : decode cX3_often 48 = .ok (.ifCond .eq 51, 3) := by decide +kernel
theorem dX3_often_51 : decode cX3_often 51 = .ok (.aload_n 0, 1) := by decide +kernel
theorem dX3_often_52 : decode cX3_often 52 = .ok (.iload_n 1, 1) := by decide +kernel
theorem dX3_often_53 : decode cX3_often 53 = .ok (.iload_n 2, 1) := by decide +kernel
theorem dX3_often_54 : decode cX3_often 54 = .ok (.invokevirtual 92, 3) := by decide +kernel
theorem dX3_often_57 : decode cX3_often 57 = .ok (.pop, 1) := by decide +kernel
theorem dX3_often_58 : decode cX3_often 58 = .ok (.iconst 0, 1) := by decide +kernel
theorem dX3_often_59 : decode cX3_often 59 = .ok (.istore 5, 2) := by decide +kernel
theorem dX3_often_61 : decode cX3_often 61 = .ok (.iload 5, 2) := by decide +kernel
theorem dX3_often_63 : decode cX3_often 63 = .ok (.bipush 6, 2) := by decide +kernel
theorem dX3_often_65 : decode cX3_often 65 = .ok (.if_icmp .ge 28, 3) := by decide +kernel
theorem dX3_often_68 : decode cX3_often 68 = .ok (.aload_n 0, 1) := by decide +kernel
theorem dX3_often_69 : decode cX3_often 69 = .ok (.iload_n 1, 1) := by decide +kernel
theorem dX3_often_70 : decode cX3_often 70 = .ok (.iload 5, 2) := by decide +kernel
theorem dX3_often_72 : decode cX3_often 72 = .ok (.invokevirtual 68, 3) := by decide +kernel
theorem dX3_often_75 : decode cX3_often 75 = .ok (.ifCond .ne 12, 3) := by decide +kernel
theorem dX3_often_78 : decode cX3_often 78 = .ok (.aload_n 0, 1) := by decide +kernel
theorem dX3_often_79 : decode cX3_often 79 = .ok (.iload_n 1, 1) := by decide +kernel
theorem dX3_often_80 : decode cX3_often 80 = .ok (.iload 5, 2) := by decide +kernel
theorem dX3_often_82 : decode cX3_often 82 = .ok (.iconst 0, 1) := by decide +kernel
theorem dX3_often_83 : decode cX3_often 83 = .ok (.invokevirtual 72, 3) := by decide +kernel
theorem dX3_often_86 : decode cX3_often 86 = .ok (.pop, 1) := by decide +kernel
theorem dX3_often_87 : decode cX3_often 87 = .ok (.iinc 5 1, 3) := by decide +kernel
theorem dX3_often_90 : decode cX3_often 90 = .ok (.goto (-29), 3) := by decide +kernel
theorem dX3_often_93 : decode cX3_often 93 = .ok (.iinc 4 1, 3) := by decide +kernel
theorem dX3_often_96 : decode cX3_often 96 = .ok (.goto (-61), 3) := by decide +kernel
theorem dX3_often_99 : decode cX3_often 99 = .ok (.aload_n 0, 1) := by decide +kernel
theorem dX3_often_100 : decode cX3_often 100 = .ok (.aload_n 3, 1) := by decide +kernel
theorem dX3_often_101 : decode cX3_often 101 = .ok (.invokevirtual 113, 3) := by decide +kernel
theorem dX3_often_104 : decode cX3_often 104 = .ok (.iload 4, 2) := by decide +kernel
theorem dX3_often_106 : decode cX3_often 106 = .ok (.ireturn, 1) := by decide +kernel
set_option maxRecDepth 20000 in
theorem ggX3_needed_X3_li : GoodIn wsX3_needed wsX3_li := goodIn_r _ [5, 6, 7, 8, 4, 9, 15, 16, 17, 18, 19, 20, 21, 22, 23] (by decide +kernel) (by decide +kernel)
set_option maxRecDepth 20000 in
theorem gX3_needed_X3_li : GoodIn wsX3_needed (wsV RX3 56 RX3 yX3_li wsX3_li) := goodIn_app (goodIn_of _ (by decide +kernel)) ggX3_needed_X3_li
set_option maxRecDepth 20000 in
theorem ggX3_needed_X3_ro : GoodIn wsX3_needed wsX3_ro := goodIn_r _ [13, 14, 15, 16, 17, 18, 19, 20, 21, 22, 23] (by decide +kernel) (by decide +kernel)
set_option maxRecDepth 20000 in
theorem gX3_needed_X3_ro : GoodIn wsX3_needed (wsV RX3 85 RX3 yX3_ro wsX3_ro) := goodIn_app (goodIn_of _ (by decide +kernel)) ggX3_needed_X3_ro
theorem dX3_needed_0 : decode cX3_needed 0 = .ok (.iconst 0, 1) := by decide +kernel
theorem dX3_needed_1 : decode cX3_needed 1 = .ok (.istore_n 3, 1) := by decide +kernel
theorem dX3_needed_2 : decode cX3_needed 2 = .ok (.iload_n 2, 1) := by decide +kernel
theorem dX3_needed_3 : decode cX3_needed 3 = .ok (.tableswitch 155 0 3 #[29, 68, 105, 129], 29) := by decide +kernel
theorem dX3_needed_32 : decode cX3_needed 32 = .ok (.iconst 0, 1) := by decide +kernel
theorem dX3_needed_33 : decode cX3_needed 33 = .ok (.istore 4, 2) := by decide +kernel
theorem dX3_needed_35 : decode cX3_needed 35 = .ok (.iload 4, 2) := by decide +kernel
theorem dX3_needed_37 : decode cX3_needed 37 = .ok (.bipush 6, 2) := by decide +kernel
theorem dX3_needed_39 : decode cX3_needed 39 = .ok (.if_icmp .ge 30, 3) := by decide +kernel
theorem dX3_needed_42 : decode cX3_needed 42 = .ok (.iload_n 3, 1) := by decide +kernel
theorem dX3_needed_43 : decode cX3_needed 43 = .ok (.aload_n 0, 1) := by decide +kernel
theorem dX3_needed_44 : decode cX3_needed 44 = .ok (.iload_n 1, 1) := by decide +kernel
theorem dX3_needed_45 : decode cX3_needed 45 = .ok (.iload 4, 2) := by decide +kernel
theorem dX3_needed_47 : decode cX3_needed 47 = .ok (.iconst 1, 1) := by decide +kernel
theorem dX3_needed_48 : decode cX3_needed 48 = .ok (.invokevirtual 56, 3) := by decide +kernel
theorem dX3_needed_51 : decode cX3_needed 51 = .ok (.bipush 50, 2) := by decide +kernel
theorem dX3_needed_53 : decode cX3_needed 53 = .ok (.if_icmp .lt 7, 3) := by decide +kernel
theorem dX3_needed_56 : decode cX3_needed 56 = .ok (.iconst 1, 1) := by decide +kernel
theorem dX3_needed_57 : decode cX3_needed 57 = .ok (.goto 4, 3) := by decide +kernel
theorem dX3_needed_60 : decode cX3_needed 60 = .ok (.iconst 0, 1) := by decide +kernel
theorem dX3_needed_61 : decode cX3_needed 61 = .ok (.iadd, 1) := by decide +kernel
theorem dX3_needed_62 : decode cX3_needed 62 = .ok (.istore_n 3, 1) := by decide +kernel
theorem dX3_needed_63 : decode cX3_needed 63 = .ok (.iinc 4 1, 3) := by decide +kernel
theorem dX3_needed_66 : decode cX3_needed 66 = .ok (.goto (-31), 3) := by decide +kernel
theorem dX3_needed_69 : decode cX3_needed 69 = .ok (.iload_n 3, 1) := by decide +kernel
theorem dX3_needed_70 : decode cX3_needed 70 = .ok (.ireturn, 1) := by decide +kernel
theorem dX3_needed_71 : decode cX3_needed 71 = .ok (.iconst 0, 1) := by decide +kernel
theorem dX3_needed_72 : decode cX3_needed 72 = .ok (.istore 4, 2) := by decide +kernel
theorem dX3_needed_74 : decode cX3_needed 74 = .ok (.iload 4, 2) := by decide +kernel
theorem dX3_needed_76 : decode cX3_needed 76 = .ok (.bipush 6, 2) := by decide +kernel
theorem dX3_needed_78 : decode cX3_needed 78 = .ok (.if_icmp .ge 28, 3) := by decide +kernel
theorem dX3_needed_81 : decode cX3_needed 81 = .ok (.iload_n 3, 1) := by decide +kernel
theorem dX3_needed_82 : decode cX3_needed 82 = .ok (.aload_n 0, 1) := by decide +kernel
theorem dX3_needed_83 : decode cX3_needed 83 = .ok (.iload_n 1, 1) := by decide +kernel
theorem dX3_needed_84 : decode cX3_needed 84 = .ok (.iload 4, 2) := by decide +kernel
theorem dX3_needed_86 : decode cX3_needed 86 = .ok (.iconst 2, 1) := by decide +kernel
theorem dX3_needed_87 : decode cX3_needed 87 = .ok (.invokevirtual 56, 3) := by decide +kernel
theorem dX3_needed_90 : decode cX3_needed 90 = .ok (.ifCond .ne 7, 3) := by decide +kernel
theorem dX3_needed_93 : decode cX3_needed 93 = .ok (.iconst 1, 1) := by decide +kernel
theorem dX3_needed_94 : decode cX3_needed 94 = .ok (.goto 4, 3) := by decide +kernel
theorem dX3_needed_97 : decode cX3_needed 97 = .ok (.iconst 0, 1) := by decide +kernel
theorem dX3_needed_98 : decode cX3_needed 98 = .ok (.iadd, 1) := by decide +kernel
theorem dX3_needed_99 : decode cX3_needed 99 = .ok (.istore_n 3, 1) := by decide +kernel
theorem dX3_needed_100 : decode cX3_needed 100 = .ok (.iinc 4 1, 3) := by decide +kernel
theorem dX3_needed_103 : decode cX3_needed 103 = .ok (.goto (-29), 3) := by decide +kernel
theorem dX3_needed_106 : decode cX3_needed 106 = .ok (.iload_n 3, 1) := by decide +kernel
theorem dX3_needed_107 : decode cX3_needed 107 = .ok (.ireturn, 1) := by decide +kernel
theorem dX3_needed_108 : decode cX3_needed 108 = .ok (.aload_n 0, 1) := by decide +kernel
theorem dX3_needed_109 : decode cX3_needed 109 = .ok (.iload_n 1, 1) := by decide +kernel
theorem dX3_needed_110 : decode cX3_needed 110 = .ok (.iconst 5, 1) := by decide +kernel
theorem dX3_needed_111 : decode cX3_needed 111 = .ok (.invokevirtual 85, 3) := by decide +kernel
theorem dX3_needed_114 : decode cX3_needed 114 = .ok (.ifCond .ne 7, 3) := by decide +kernel
theorem dX3_needed_117 : decode cX3_needed 117 = .ok (.iconst 0, 1) := by decide +kernel
theorem dX3_needed_118 : decode cX3_needed 118 = .ok (.goto 13, 3) := by decide +kernel
theorem dX3_needed_121 : decode cX3_needed 121 = .ok (.bipush 12, 2) := by decide +kernel
theorem dX3_needed_123 : decode cX3_needed 123 = .ok (.aload_n 0, 1) := by decide +kernel
theorem dX3_needed_124 : decode cX3_needed 124 = .ok (.iload_n 1, 1) := by decide +kernel
theorem dX3_needed_125 : decode cX3_needed 125 = .ok (.bipush 6, 2) := by decide +kernel
theorem dX3_needed_127 : decode cX3_needed 127 = .ok (.invokevirtual 85, 3) := by decide +kernel
theorem dX3_needed_130 : decode cX3_needed 130 = .ok (.isub, 1) := by decide +kernel
theorem dX3_needed_131 : decode cX3_needed 131 = .ok (.ireturn, 1) := by decide +kernel
theorem dX3_needed_132 : decode cX3_needed 132 = .ok (.aload_n 0, 1) := by decide +kernel
theorem dX3_needed_133 : decode cX3_needed 133 = .ok (.iload_n 1, 1) := by decide +kernel
theorem dX3_needed_134 : decode cX3_needed 134 = .ok (.iconst 2, 1) := by decide +kernel
theorem dX3_needed_135 : decode cX3_needed 135 = .ok (.invokevirtual 85, 3) := by decide +kernel
theorem dX3_needed_138 : decode cX3_needed 138 = .ok (.iconst 5, 1) := by decide +kernel
theorem dX3_needed_139 : decode cX3_needed 139 = .ok (.if_icmp .ge 13, 3) := by decide +kernel
theorem dX3_needed_142 : decode cX3_needed 142 = .ok (.aload_n 0, 1) := by decide +kernel
theorem dX3_needed_143 : decode cX3_needed 143 = .ok (.iload_n 1, 1) := by decide +kernel
theorem dX3_needed_144 : decode cX3_needed 144 = .ok (.iconst 3, 1) := by decide +kernel
theorem dX3_needed_145 : decode cX3_needed 145 = .ok (.invokevirtual 85, 3) := by decide +kernel
theorem dX3_needed_148 : decode cX3_needed 148 = .ok (.iconst 5, 1) := by decide +kernel
theorem dX3_needed_149 : decode cX3_needed 149 = .ok (.if_icmp .lt 7, 3) := by decide +kernel
theorem dX3_needed_152 : decode cX3_needed 152 = .ok (.iconst 1, 1) := by decide +kernel
theorem dX3_needed_153 : decode cX3_needed 153 = .ok (.goto 4, 3) := by decide +kernel
theorem dX3_needed_156 : decode cX3_needed 156 = .ok (.iconst 0, 1) := by decide +kernel
theorem dX3_needed_157 : decode cX3_needed 157 = .ok (.ireturn, 1) := by decide +kernel
theorem dX3_needed_158 : decode cX3_needed 158 = .ok (.aload_n 0, 1) := by decide +kernel
theorem dX3_needed_159 : decode cX3_needed 159 = .ok (.iload_n 1, 1) := by decide +kernel
theorem dX3_needed_160 : decode cX3_needed 160 = .ok (.iconst 4, 1) := by decide +kernel
theorem dX3_needed_161 : decode cX3_needed 161 = .ok (.invokevirtual 85, 3) := by decide +kernel
theorem dX3_needed_164 : decode cX3_needed 164 = .ok (.iconst (-1), 1) := by decide +kernel
theorem dX3_needed_165 : decode cX3_needed 165 = .ok (.if_icmp .eq 13, 3) := by decide +kernel
theorem dX3_needed_168 : decode cX3_needed 168 = .ok (.aload_n 0, 1) := by decide +kernel
theorem dX3_needed_169 : decode cX3_needed 169 = .ok (.iload_n 1, 1) := by decide +kernel
theorem dX3_needed_170 : decode cX3_needed 170 = .ok (.iconst 4, 1) := by decide +kernel
theorem dX3_needed_171 : decode cX3_needed 171 = .ok (.invokevirtual 85, 3) := by decide +kernel
theorem dX3_needed_174 : decode cX3_needed 174 = .ok (.iconst 5, 1) := by decide +kernel
theorem dX3_needed_175 : decode cX3_needed 175 = .ok (.if_icmp .lt 7, 3) := by decide +kernel
theorem dX3_needed_178 : decode cX3_needed 178 = .ok (.iconst 1, 1) := by decide +kernel
theorem dX3_needed_179 : decode cX3_needed 179 = .ok (.goto 4, 3) := by decide +kernel
theorem dX3_needed_182 : decode cX3_needed 182 = .ok (.iconst 0, 1) := by decide +kernel
theorem dX3_needed_183 : decode cX3_needed 183 = .ok (.ireturn, 1) := by decide +kernel
set_option maxRecDepth 20000 in
theorem ggX3_needs_X3_isDoll : GoodIn wsX3_needs wsX3_isDoll := goodIn_r _ [6, 7, 8, 9, 5, 10, 32, 33, 34, 35, 36, 37, 38, 39, 40] (by decide +kernel) (by decide +kernel)
set_option maxRecDepth 20000 in
theorem gX3_needs_X3_isDoll : GoodIn wsX3_needs (wsV RX3 75 RX3 yX3_isDoll wsX3_isDoll) := goodIn_app (goodIn_of _ (by decide +kernel)) ggX3_needs_X3_isDoll
set_option maxRecDepth 20000 in
theorem ggX3_needs_X3_fail : GoodIn wsX3_needs wsX3_fail := goodIn_r _ [14, 1, 32, 33, 34, 35, 36, 37, 38, 39, 40] (by decide +kernel) (by decide +kernel)
set_option maxRecDepth 20000 in
theorem gX3_needs_X3_fail : GoodIn wsX3_needs (wsV RX3 46 RX3 yX3_fail wsX3_fail) := goodIn_app (goodIn_of _ (by decide +kernel)) ggX3_needs_X3_fail
set_option maxRecDepth 20000 in
theorem ggX3_needs_X3_isIn : GoodIn wsX3_needs wsX3_isIn := goodIn_r _ [10] (by decide +kernel) (by decide +kernel)
set_option maxRecDepth 20000 in
theorem gX3_needs_X3_isIn : GoodIn wsX3_needs (va_wsS RX3 35 yX3_isIn wsX3_isIn) := goodIn_app (goodIn_of _ (by decide +kernel)) ggX3_needs_X3_isIn
set_option maxRecDepth 20000 in
theorem ggX3_needs_X3_needed : GoodIn wsX3_needs wsX3_needed := goodIn_r _ [18, 19, 20, 21, 5, 22, 23, 24, 25, 26, 27, 28, 29, 30, 31, 32, 33, 34, 35, 36, 37, 38, 39, 40] (by decide +kernel) (by decide +kernel)
set_option maxRecDepth 20000 in
theorem gX3_needs_X3_needed : GoodIn wsX3_needs (wsV RX3 117 RX3 yX3_needed wsX3_needed) := goodIn_app (goodIn_of _ (by decide +kernel)) ggX3_needs_X3_needed
theorem dX3_needs_0 : decode cX3_needs 0 = .ok (.aload_n 0, 1) := by decide +kernel
theorem dX3_needs_1 : decode cX3_needs 1 = .ok (.iconst 0, 1) := by decide +kernel
theorem dX3_needs_2 : decode cX3_needs 2 = .ok (.putfield 29, 3) := by decide +kernel
theorem dX3_needs_5 : decode cX3_needs 5 = .ok (.aload_n 0, 1) := by decide +kernel
theorem dX3_needs_6 : decode cX3_needs 6 = .ok (.iload_n 1, 1) := by decide +kernel
theorem dX3_needs_7 : decode cX3_needs 7 = .ok (.invokevirtual 75, 3) := by decide +kernel
theorem dX3_needs_10 : decode cX3_needs 10 = .ok (.ifCond .ne 9, 3) := by decide +kernel
theorem dX3_needs_13 : decode cX3_needs 13 = .ok (.aload_n 0, 1) := by decide +kernel
theorem dX3_needs_14 : decode cX3_needs 14 = .ok (.iconst 1, 1) := by decide +kernel
theorem dX3_needs_15 : decode cX3_needs 15 = .ok (.invokevirtual 46, 3) := by decide +kernel
theorem dX3_needs_18 : decode cX3_needs 18 = .ok (.ireturn, 1) := by decide +kernel
theorem dX3_needs_19 : decode cX3_needs 19 = .ok (.iload_n 2, 1) := by decide +kernel
theorem dX3_needs_20 : decode cX3_needs 20 = .ok (.iconst 0, 1) := by decide +kernel
theorem dX3_needs_21 : decode cX3_needs 21 = .ok (.iconst 4, 1) := by decide +kernel
theorem dX3_needs_22 : decode cX3_needs 22 = .ok (.invokestatic 35, 3) := by decide +kernel
theorem dX3_needs_25 : decode cX3_needs 25 = .ok (.ifCond .eq 12, 3) := by decide +kernel
theorem dX3_needs_28 : decode cX3_needs 28 = .ok (.aload_n 0, 1) := by decide +kernel
theorem dX3_needs_29 : decode cX3_needs 29 = .ok (.iload_n 1, 1) := by decide +kernel
theorem dX3_needs_30 : decode cX3_needs 30 = .ok (.iload_n 2, 1) := by decide +kernel
theorem dX3_needs_31 : decode cX3_needs 31 = .ok (.invokevirtual 117, 3) := by decide +kernel
theorem dX3_needs_34 : decode cX3_needs 34 = .ok (.goto 8, 3) := by decide +kernel
theorem dX3_needs_37 : decode cX3_needs 37 = .ok (.aload_n 0, 1) := by decide +kernel
theorem dX3_needs_38 : decode cX3_needs 38 = .ok (.iconst 2, 1) := by decide +kernel
theorem dX3_needs_39 : decode cX3_needs 39 = .ok (.invokevirtual 46, 3) := by decide +kernel
theorem dX3_needs_42 : decode cX3_needs 42 = .ok (.ireturn, 1) := by decide +kernel
set_option maxRecDepth 20000 in
theorem ggX3_lacks_X3_isIn : GoodIn wsX3_lacks wsX3_isIn := goodIn_r _ [11] (by decide +kernel) (by decide +kernel)
set_option maxRecDepth 20000 in
theorem gX3_lacks_X3_isIn : GoodIn wsX3_lacks (va_wsS RX3 35 yX3_isIn wsX3_isIn) := goodIn_app (goodIn_of _ (by decide +kernel)) ggX3_lacks_X3_isIn
set_option maxRecDepth 20000 in
theorem ggX3_lacks_X3_fail : GoodIn wsX3_lacks wsX3_fail := goodIn_r _ [15, 1, 33, 34, 35, 36, 37, 38, 39, 40, 41] (by decide +kernel) (by decide +kernel)
set_option maxRecDepth 20000 in
theorem gX3_lacks_X3_fail : GoodIn wsX3_lacks (wsV RX3 46 RX3 yX3_fail wsX3_fail) := goodIn_app (goodIn_of _ (by decide +kernel)) ggX3_lacks_X3_fail
set_option maxRecDepth 20000 in
theorem ggX3_lacks_X3_needed : GoodIn wsX3_lacks wsX3_needed := goodIn_r _ [19, 20, 21, 22, 10, 23, 24, 25, 26, 27, 28, 29, 30, 31, 32, 33, 34, 35, 36, 37, 38, 39, 40, 41] (by decide +kernel) (by decide +kernel)
set_option maxRecDepth 20000 in
theorem gX3_lacks_X3_needed : GoodIn wsX3_lacks (wsV RX3 117 RX3 yX3_needed wsX3_needed) := goodIn_app (goodIn_of _ (by decide +kernel)) ggX3_lacks_X3_needed
theorem dX3_lacks_0 : decode cX3_lacks 0 = .ok (.aload_n 0, 1) := by decide +kernel
theorem dX3_lacks_1 : decode cX3_lacks 1 = .ok (.iconst 0, 1) := by decide +kernel
theorem dX3_lacks_2 : decode cX3_lacks 2 = .ok (.putfield 29, 3) := by decide +kernel
theorem dX3_lacks_5 : decode cX3_lacks 5 = .ok (.iload_n 1, 1) := by decide +kernel
theorem dX3_lacks_6 : decode cX3_lacks 6 = .ok (.iconst 0, 1) := by decide +kernel
theorem dX3_lacks_7 : decode cX3_lacks 7 = .ok (.iconst 4, 1) := by decide +kernel
theorem dX3_lacks_8 : decode cX3_lacks 8 = .ok (.invokestatic 35, 3) := by decide +kernel
theorem dX3_lacks_11 : decode cX3_lacks 11 = .ok (.ifCond .ne 9, 3) := by decide +kernel
theorem dX3_lacks_14 : decode cX3_lacks 14 = .ok (.aload_n 0, 1) := by decide +kernel
theorem dX3_lacks_15 : decode cX3_lacks 15 = .ok (.iconst 1, 1) := by decide +kernel
theorem dX3_lacks_16 : decode cX3_lacks 16 = .ok (.invokevirtual 46, 3) := by decide +kernel
theorem dX3_lacks_19 : decode cX3_lacks 19 = .ok (.ireturn, 1) := by decide +kernel
theorem dX3_lacks_20 : decode cX3_lacks 20 = .ok (.iconst 0, 1) := by decide +kernel
theorem dX3_lacks_21 : decode cX3_lacks 21 = .ok (.istore_n 2, 1) := by decide +kernel
theorem dX3_lacks_22 : decode cX3_lacks 22 = .ok (.iconst 0, 1) := by decide +kernel
theorem dX3_lacks_23 : decode cX3_lacks 23 = .ok (.istore_n 3, 1) := by decide +kernel
theorem dX3_lacks_24 : decode cX3_lacks 24 = .ok (.iload_n 3, 1) := by decide +kernel
theorem dX3_lacks_25 : decode cX3_lacks 25 = .ok (.aload_n 0, 1) := by decide +kernel
theorem dX3_lacks_26 : decode cX3_lacks 26 = .ok (.getfield 32, 3) := by decide +kernel
theorem dX3_lacks_29 : decode cX3_lacks 29 = .ok (.if_icmp .ge 18, 3) := by decide +kernel
theorem dX3_lacks_32 : decode cX3_lacks 32 = .ok (.iload_n 2, 1) := by decide +kernel
theorem dX3_lacks_33 : decode cX3_lacks 33 = .ok (.aload_n 0, 1) := by decide +kernel
theorem dX3_lacks_34 : decode cX3_lacks 34 = .ok (.iload_n 3, 1) := by decide +kernel
theorem dX3_lacks_35 : decode cX3_lacks 35 = .ok (.iload_n 1, 1) := by decide +kernel
theorem dX3_lacks_36 : decode cX3_lacks 36 = .ok (.invokevirtual 117, 3) := by decide +kernel
theorem dX3_lacks_39 : decode cX3_lacks 39 = .ok (.iadd, 1) := by decide +kernel
theorem dX3_lacks_40 : decode cX3_lacks 40 = .ok (.istore_n 2, 1) := by decide +kernel
theorem dX3_lacks_41 : decode cX3_lacks 41 = .ok (.iinc 3 1, 3) := by decide +kernel
theorem dX3_lacks_44 : decode cX3_lacks 44 = .ok (.goto (-20), 3) := by decide +kernel
theorem dX3_lacks_47 : decode cX3_lacks 47 = .ok (.iconst 0, 1) := by decide +kernel
theorem dX3_lacks_48 : decode cX3_lacks 48 = .ok (.iload_n 2, 1) := by decide +kernel
theorem dX3_lacks_49 : decode cX3_lacks 49 = .ok (.aload_n 0, 1) := by decide +kernel
theorem dX3_lacks_50 : decode cX3_lacks 50 = .ok (.getfield 23, 3) := by decide +kernel
theorem dX3_lacks_53 : decode cX3_lacks 53 = .ok (.iload_n 1, 1) := by decide +kernel
theorem dX3_lacks_54 : decode cX3_lacks 54 = .ok (.iaload, 1) := by decide +kernel
theorem dX3_lacks_55 : decode cX3_lacks 55 = .ok (.isub, 1) := by decide +kernel
theorem dX3_lacks_56 : decode cX3_lacks 56 = .ok (.invokestatic 120, 3) := by decide +kernel
theorem dX3_lacks_59 : decode cX3_lacks 59 = .ok (.ireturn, 1) := by decide +kernel
set_option maxRecDepth 20000 in
theorem ggX3_worst_X3_needed : GoodIn wsX3_worst wsX3_needed := goodIn_r _ [7, 8, 9, 10, 6, 11, 12, 13, 14, 15, 16, 17, 18, 19, 20, 21, 22, 23, 24, 25, 26, 27, 28, 29] (by decide +kernel) (by decide +kernel)
set_option maxRecDepth 20000 in
theorem gX3_worst_X3_needed : GoodIn wsX3_worst (wsV RX3 117 RX3 yX3_needed wsX3_needed) := goodIn_app (goodIn_of _ (by decide +kernel)) ggX3_worst_X3_needed
theorem dX3_worst_0 : decode cX3_worst 0 = .ok (.aload_n 0, 1) := by decide +kernel
theorem dX3_worst_1 : decode cX3_worst 1 = .ok (.iconst 0, 1) := by decide +kernel
theorem dX3_worst_2 : decode cX3_worst 2 = .ok (.putfield 29, 3) := by decide +kernel
theorem dX3_worst_5 : decode cX3_worst 5 = .ok (.iconst (-1), 1) := by decide +kernel
theorem dX3_worst_6 : decode cX3_worst 6 = .ok (.istore_n 1, 1) := by decide +kernel
theorem dX3_worst_7 : decode cX3_worst 7 = .ok (.iconst 0, 1) := by decide +kernel
theorem dX3_worst_8 : decode cX3_worst 8 = .ok (.istore_n 2, 1) := by decide +kernel
theorem dX3_worst_9 : decode cX3_worst 9 = .ok (.iconst 0, 1) := by decide +kernel
theorem dX3_worst_10 : decode cX3_worst 10 = .ok (.istore_n 3, 1) := by decide +kernel
theorem dX3_worst_11 : decode cX3_worst 11 = .ok (.iload_n 3, 1) := by decide +kernel
theorem dX3_worst_12 : decode cX3_worst 12 = .ok (.aload_n 0, 1) := by decide +kernel
theorem dX3_worst_13 : decode cX3_worst 13 = .ok (.getfield 32, 3) := by decide +kernel
theorem dX3_worst_16 : decode cX3_worst 16 = .ok (.if_icmp .ge 53, 3) := by decide +kernel
theorem dX3_worst_19 : decode cX3_worst 19 = .ok (.iconst 0, 1) := by decide +kernel
theorem dX3_worst_20 : decode cX3_worst 20 = .ok (.istore 4, 2) := by decide +kernel
theorem dX3_worst_22 : decode cX3_worst 22 = .ok (.iconst 0, 1) := by decide +kernel
theorem dX3_worst_23 : decode cX3_worst 23 = .ok (.istore 5, 2) := by decide +kernel
theorem dX3_worst_25 : decode cX3_worst 25 = .ok (.iload 5, 2) := by decide +kernel
theorem dX3_worst_27 : decode cX3_worst 27 = .ok (.iconst 5, 1) := by decide +kernel
theorem dX3_worst_28 : decode cX3_worst 28 = .ok (.if_icmp .ge 21, 3) := by decide +kernel
theorem dX3_worst_31 : decode cX3_worst 31 = .ok (.iload 4, 2) := by decide +kernel
theorem dX3_worst_33 : decode cX3_worst 33 = .ok (.aload_n 0, 1) := by decide +kernel
theorem dX3_worst_34 : decode cX3_worst 34 = .ok (.iload_n 3, 1) := by decide +kernel
theorem dX3_worst_35 : decode cX3_worst 35 = .ok (.iload 5, 2) := by decide +kernel
theorem dX3_worst_37 : decode cX3_worst 37 = .ok (.invokevirtual 117, 3) := by decide +kernel
theorem dX3_worst_40 : decode cX3_worst 40 = .ok (.iadd, 1) := by decide +kernel
theorem dX3_worst_41 : decode cX3_worst 41 = .ok (.istore 4, 2) := by decide +kernel
theorem dX3_worst_43 : decode cX3_worst 43 = .ok (.iinc 5 1, 3) := by decide +kernel
theorem dX3_worst_46 : decode cX3_worst 46 = .ok (.goto (-21), 3) := by decide +kernel
theorem dX3_worst_49 : decode cX3_worst 49 = .ok (.iload 4, 2) := by decide +kernel
theorem dX3_worst_51 : decode cX3_worst 51 = .ok (.iload_n 2, 1) := by decide +kernel
theorem dX3_worst_52 : decode cX3_worst 52 = .ok (.if_icmp .gt 6, 3) := by decide +kernel
theorem dX3_worst_55 : decode cX3_worst 55 = .ok (.goto 8, 3) := by decide +kernel
theorem dX3_worst_58 : decode cX3_worst 58 = .ok (.iload_n 3, 1) := by decide +kernel
theorem dX3_worst_59 : decode cX3_worst 59 = .ok (.istore_n 1, 1) := by decide +kernel
theorem dX3_worst_60 : decode cX3_worst 60 = .ok (.iload 4, 2) := by decide +kernel
theorem dX3_worst_62 : decode cX3_worst 62 = .ok (.istore_n 2, 1) := by decide +kernel
theorem dX3_worst_63 : decode cX3_worst 63 = .ok (.iinc 3 1, 3) := by decide +kernel
theorem dX3_worst_66 : decode cX3_worst 66 = .ok (.goto (-55), 3) := by decide +kernel
theorem dX3_worst_69 : decode cX3_worst 69 = .ok (.iload_n 1, 1) := by decide +kernel
theorem dX3_worst_70 : decode cX3_worst 70 = .ok (.ireturn, 1) := by decide +kernel
set_option maxRecDepth 20000 in
theorem ggX3_dayOf_X3_ro : GoodIn wsX3_dayOf wsX3_ro := goodIn_r _ [15, 16, 28, 29, 30, 31, 32, 33, 34, 35, 36] (by decide +kernel) (by decide +kernel)
set_option maxRecDepth 20000 in
theorem gX3_dayOf_X3_ro : GoodIn wsX3_dayOf (wsV RX3 85 RX3 yX3_ro wsX3_ro) := goodIn_app (goodIn_of _ (by decide +kernel)) ggX3_dayOf_X3_ro
set_option maxRecDepth 20000 in
theorem ggX3_dayOf_X3_put : GoodIn wsX3_dayOf wsX3_put := goodIn_r _ [20, 16, 28, 29, 30, 31, 32, 33, 34, 35, 36] (by decide +kernel) (by decide +kernel)
set_option maxRecDepth 20000 in
theorem gX3_dayOf_X3_put : GoodIn wsX3_dayOf (wsV RX3 88 RX3 yX3_put wsX3_put) := goodIn_app (goodIn_of _ (by decide +kernel)) ggX3_dayOf_X3_put
set_option maxRecDepth 20000 in
theorem ggX3_dayOf_X3_li : GoodIn wsX3_dayOf wsX3_li := goodIn_r _ [24, 7, 25, 26, 14, 27, 28, 29, 30, 31, 32, 33, 34, 35, 36] (by decide +kernel) (by decide +kernel)
set_option maxRecDepth 20000 in
theorem gX3_dayOf_X3_li : GoodIn wsX3_dayOf (wsV RX3 56 RX3 yX3_li wsX3_li) := goodIn_app (goodIn_of _ (by decide +kernel)) ggX3_dayOf_X3_li
set_option maxRecDepth 20000 in
theorem ggX3_dayOf_X3_at : GoodIn wsX3_dayOf wsX3_at := goodIn_r _ [27] (by decide +kernel) (by decide +kernel)
set_option maxRecDepth 20000 in
theorem gX3_dayOf_X3_at : GoodIn wsX3_dayOf (va_wsS RX3 42 yX3_at wsX3_at) := goodIn_app (goodIn_of _ (by decide +kernel)) ggX3_dayOf_X3_at
theorem dX3_dayOf_0 : decode cX3_dayOf 0 = .ok (.iconst 0, 1) := by decide +kernel
theorem dX3_dayOf_1 : decode cX3_dayOf 1 = .ok (.istore_n 2, 1) := by decide +kernel
theorem dX3_dayOf_2 : decode cX3_dayOf 2 = .ok (.aload_n 0, 1) := by decide +kernel
theorem dX3_dayOf_3 : decode cX3_dayOf 3 = .ok (.iload_n 1, 1) := by decide +kernel
theorem dX3_dayOf_4 : decode cX3_dayOf 4 = .ok (.iconst 4, 1) := by decide +kernel
theorem dX3_dayOf_5 : decode cX3_dayOf 5 = .ok (.invokevirtual 85, 3) := by decide +kernel
theorem dX3_dayOf_8 : decode cX3_dayOf 8 = .ok (.iconst (-1), 1) := by decide +kernel
theorem dX3_dayOf_9 : decode cX3_dayOf 9 = .ok (.if_icmp .eq 41, 3) := by decide +kernel
theorem dX3_dayOf_12 : decode cX3_dayOf 12 = .ok (.aload_n 0, 1) := by decide +kernel
theorem dX3_dayOf_13 : decode cX3_dayOf 13 = .ok (.iload_n 1, 1) := by decide +kernel
theorem dX3_dayOf_14 : decode cX3_dayOf 14 = .ok (.iconst 4, 1) := by decide +kernel
theorem dX3_dayOf_15 : decode cX3_dayOf 15 = .ok (.aload_n 0, 1) := by decide +kernel
theorem dX3_dayOf_16 : decode cX3_dayOf 16 = .ok (.iload_n 1, 1) := by decide +kernel
theorem dX3_dayOf_17 : decode cX3_dayOf 17 = .ok (.iconst 4, 1) := by decide +kernel
theorem dX3_dayOf_18 : decode cX3_dayOf 18 = .ok (.invokevirtual 85, 3) := by decide +kernel
theorem dX3_dayOf_21 : decode cX3_dayOf 21 = .ok (.aload_n 0, 1) := by decide +kernel
theorem dX3_dayOf_22 : decode cX3_dayOf 22 = .ok (.getfield 7, 3) := by decide +kernel
theorem dX3_dayOf_25 : decode cX3_dayOf 25 = .ok (.iadd, 1) := by decide +kernel
theorem dX3_dayOf_26 : decode cX3_dayOf 26 = .ok (.invokevirtual 88, 3) := by decide +kernel
theorem dX3_dayOf_29 : decode cX3_dayOf 29 = .ok (.aload_n 0, 1) := by decide +kernel
theorem dX3_dayOf_30 : decode cX3_dayOf 30 = .ok (.iload_n 1, 1) := by decide +kernel
theorem dX3_dayOf_31 : decode cX3_dayOf 31 = .ok (.iconst 4, 1) := by decide +kernel
theorem dX3_dayOf_32 : decode cX3_dayOf 32 = .ok (.invokevirtual 85, 3) := by decide +kernel
theorem dX3_dayOf_35 : decode cX3_dayOf 35 = .ok (.bipush 10, 2) := by decide +kernel
theorem dX3_dayOf_37 : decode cX3_dayOf 37 = .ok (.if_icmp .lt 13, 3) := by decide +kernel
theorem dX3_dayOf_40 : decode cX3_dayOf 40 = .ok (.aload_n 0, 1) := by decide +kernel
theorem dX3_dayOf_41 : decode cX3_dayOf 41 = .ok (.iload_n 1, 1) := by decide +kernel
theorem dX3_dayOf_42 : decode cX3_dayOf 42 = .ok (.iconst 4, 1) := by decide +kernel
theorem dX3_dayOf_43 : decode cX3_dayOf 43 = .ok (.iconst (-1), 1) := by decide +kernel
theorem dX3_dayOf_44 : decode cX3_dayOf 44 = .ok (.invokevirtual 88, 3) := by decide +kernel
theorem dX3_dayOf_47 : decode cX3_dayOf 47 = .ok (.iinc 2 1, 3) := by decide +kernel
theorem dX3_dayOf_50 : decode cX3_dayOf 50 = .ok (.aload_n 0, 1) := by decide +kernel
theorem dX3_dayOf_51 : decode cX3_dayOf 51 = .ok (.iload_n 1, 1) := by decide +kernel
theorem dX3_dayOf_52 : decode cX3_dayOf 52 = .ok (.iconst 5, 1) := by decide +kernel
theorem dX3_dayOf_53 : decode cX3_dayOf 53 = .ok (.invokevirtual 85, 3) := by decide +kernel
theorem dX3_dayOf_56 : decode cX3_dayOf 56 = .ok (.ifCond .le 69, 3) := by decide +kernel
theorem dX3_dayOf_59 : decode cX3_dayOf 59 = .ok (.aload_n 0, 1) := by decide +kernel
theorem dX3_dayOf_60 : decode cX3_dayOf 60 = .ok (.iload_n 1, 1) := by decide +kernel
theorem dX3_dayOf_61 : decode cX3_dayOf 61 = .ok (.iconst 5, 1) := by decide +kernel
theorem dX3_dayOf_62 : decode cX3_dayOf 62 = .ok (.iconst 1, 1) := by decide +kernel
theorem dX3_dayOf_63 : decode cX3_dayOf 63 = .ok (.invokevirtual 56, 3) := by decide +kernel
theorem dX3_dayOf_66 : decode cX3_dayOf 66 = .ok (.bipush 50, 2) := by decide +kernel
theorem dX3_dayOf_68 : decode cX3_dayOf 68 = .ok (.if_icmp .lt 23, 3) := by decide +kernel
theorem dX3_dayOf_71 : decode cX3_dayOf 71 = .ok (.aload_n 0, 1) := by decide +kernel
theorem dX3_dayOf_72 : decode cX3_dayOf 72 = .ok (.iload_n 1, 1) := by decide +kernel
theorem dX3_dayOf_73 : decode cX3_dayOf 73 = .ok (.bipush 6, 2) := by decide +kernel
theorem dX3_dayOf_75 : decode cX3_dayOf 75 = .ok (.iconst 0, 1) := by decide +kernel
theorem dX3_dayOf_76 : decode cX3_dayOf 76 = .ok (.aload_n 0, 1) := by decide +kernel
theorem dX3_dayOf_77 : decode cX3_dayOf 77 = .ok (.iload_n 1, 1) := by decide +kernel
theorem dX3_dayOf_78 : decode cX3_dayOf 78 = .ok (.bipush 6, 2) := by decide +kernel
theorem dX3_dayOf_80 : decode cX3_dayOf 80 = .ok (.invokevirtual 85, 3) := by decide +kernel
theorem dX3_dayOf_83 : decode cX3_dayOf 83 = .ok (.iconst 1, 1) := by decide +kernel
theorem dX3_dayOf_84 : decode cX3_dayOf 84 = .ok (.isub, 1) := by decide +kernel
theorem dX3_dayOf_85 : decode cX3_dayOf 85 = .ok (.invokestatic 120, 3) := by decide +kernel
theorem dX3_dayOf_88 : decode cX3_dayOf 88 = .ok (.invokevirtual 88, 3) := by decide +kernel
theorem dX3_dayOf_91 : decode cX3_dayOf 91 = .ok (.aload_n 0, 1) := by decide +kernel
theorem dX3_dayOf_92 : decode cX3_dayOf 92 = .ok (.iload_n 1, 1) := by decide +kernel
theorem dX3_dayOf_93 : decode cX3_dayOf 93 = .ok (.bipush 6, 2) := by decide +kernel
theorem dX3_dayOf_95 : decode cX3_dayOf 95 = .ok (.invokevirtual 85, 3) := by decide +kernel
theorem dX3_dayOf_98 : decode cX3_dayOf 98 = .ok (.aload_n 0, 1) := by decide +kernel
theorem dX3_dayOf_99 : decode cX3_dayOf 99 = .ok (.iload_n 1, 1) := by decide +kernel
theorem dX3_dayOf_100 : decode cX3_dayOf 100 = .ok (.iconst 5, 1) := by decide +kernel
theorem dX3_dayOf_101 : decode cX3_dayOf 101 = .ok (.invokevirtual 85, 3) := by decide +kernel
theorem dX3_dayOf_104 : decode cX3_dayOf 104 = .ok (.if_icmp .ge 21, 3) := by decide +kernel
theorem dX3_dayOf_107 : decode cX3_dayOf 107 = .ok (.aload_n 0, 1) := by decide +kernel
theorem dX3_dayOf_108 : decode cX3_dayOf 108 = .ok (.iload_n 1, 1) := by decide +kernel
theorem dX3_dayOf_109 : decode cX3_dayOf 109 = .ok (.iconst 5, 1) := by decide +kernel
theorem dX3_dayOf_110 : decode cX3_dayOf 110 = .ok (.iconst 0, 1) := by decide +kernel
theorem dX3_dayOf_111 : decode cX3_dayOf 111 = .ok (.invokevirtual 88, 3) := by decide +kernel
theorem dX3_dayOf_114 : decode cX3_dayOf 114 = .ok (.aload_n 0, 1) := by decide +kernel
theorem dX3_dayOf_115 : decode cX3_dayOf 115 = .ok (.iload_n 1, 1) := by decide +kernel
theorem dX3_dayOf_116 : decode cX3_dayOf 116 = .ok (.bipush 6, 2) := by decide +kernel
theorem dX3_dayOf_118 : decode cX3_dayOf 118 = .ok (.iconst 0, 1) := by decide +kernel
theorem dX3_dayOf_119 : decode cX3_dayOf 119 = .ok (.invokevirtual 88, 3) := by decide +kernel
theorem dX3_dayOf_122 : decode cX3_dayOf 122 = .ok (.iinc 2 1, 3) := by decide +kernel
theorem dX3_dayOf_125 : decode cX3_dayOf 125 = .ok (.iconst 0, 1) := by decide +kernel
theorem dX3_dayOf_126 : decode cX3_dayOf 126 = .ok (.istore_n 3, 1) := by decide +kernel
theorem dX3_dayOf_127 : decode cX3_dayOf 127 = .ok (.iload_n 3, 1) := by decide +kernel
theorem dX3_dayOf_128 : decode cX3_dayOf 128 = .ok (.bipush 6, 2) := by decide +kernel
theorem dX3_dayOf_130 : decode cX3_dayOf 130 = .ok (.if_icmp .ge 44, 3) := by decide +kernel
theorem dX3_dayOf_133 : decode cX3_dayOf 133 = .ok (.aload_n 0, 1) := by decide +kernel
theorem dX3_dayOf_134 : decode cX3_dayOf 134 = .ok (.getfield 26, 3) := by decide +kernel
theorem dX3_dayOf_137 : decode cX3_dayOf 137 = .ok (.iconst 0, 1) := by decide +kernel
theorem dX3_dayOf_138 : decode cX3_dayOf 138 = .ok (.iaload, 1) := by decide +kernel
theorem dX3_dayOf_139 : decode cX3_dayOf 139 = .ok (.iconst 3, 1) := by decide +kernel
theorem dX3_dayOf_140 : decode cX3_dayOf 140 = .ok (.irem, 1) := by decide +kernel
theorem dX3_dayOf_141 : decode cX3_dayOf 141 = .ok (.ifCond .ne 33, 3) := by decide +kernel
theorem dX3_dayOf_144 : decode cX3_dayOf 144 = .ok (.aload_n 0, 1) := by decide +kernel
theorem dX3_dayOf_145 : decode cX3_dayOf 145 = .ok (.getfield 13, 3) := by decide +kernel
theorem dX3_dayOf_148 : decode cX3_dayOf 148 = .ok (.iload_n 1, 1) := by decide +kernel
theorem dX3_dayOf_149 : decode cX3_dayOf 149 = .ok (.iload_n 3, 1) := by decide +kernel
theorem dX3_dayOf_150 : decode cX3_dayOf 150 = .ok (.iconst 2, 1) := by decide +kernel
theorem dX3_dayOf_151 : decode cX3_dayOf 151 = .ok (.invokestatic 42, 3) := by decide +kernel
theorem dX3_dayOf_154 : decode cX3_dayOf 154 = .ok (.iconst 0, 1) := by decide +kernel
theorem dX3_dayOf_155 : decode cX3_dayOf 155 = .ok (.aload_n 0, 1) := by decide +kernel
theorem dX3_dayOf_156 : decode cX3_dayOf 156 = .ok (.iload_n 1, 1) := by decide +kernel
theorem dX3_dayOf_157 : decode cX3_dayOf 157 = .ok (.iload_n 3, 1) := by decide +kernel
theorem dX3_dayOf_158 : decode cX3_dayOf 158 = .ok (.iconst 2, 1) := by decide +kernel
theorem dX3_dayOf_159 : decode cX3_dayOf 159 = .ok (.invokevirtual 56, 3) := by decide +kernel
theorem dX3_dayOf_162 : decode cX3_dayOf 162 = .ok (.iconst 1, 1) := by decide +kernel
theorem dX3_dayOf_163 : decode cX3_dayOf 163 = .ok (.isub, 1) := by decide +kernel
theorem dX3_dayOf_164 : decode cX3_dayOf 164 = .ok (.invokestatic 120, 3) := by decide +kernel
theorem dX3_dayOf_167 : decode cX3_dayOf 167 = .ok (.iastore, 1) := by decide +kernel
theorem dX3_dayOf_168 : decode cX3_dayOf 168 = .ok (.iinc 3 1, 3) := by decide +kernel
theorem dX3_dayOf_171 : decode cX3_dayOf 171 = .ok (.goto (-44), 3) := by decide +kernel
theorem dX3_dayOf_174 : decode cX3_dayOf 174 = .ok (.iconst 0, 1) := by decide +kernel
theorem dX3_dayOf_175 : decode cX3_dayOf 175 = .ok (.istore_n 3, 1) := by decide +kernel
theorem dX3_dayOf_176 : decode cX3_dayOf 176 = .ok (.iload_n 3, 1) := by decide +kernel
theorem dX3_dayOf_177 : decode cX3_dayOf 177 = .ok (.iconst 2, 1) := by decide +kernel
theorem dX3_dayOf_178 : decode cX3_dayOf 178 = .ok (.if_icmp .ge 44, 3) := by decide +kernel
theorem dX3_dayOf_181 : decode cX3_dayOf 181 = .ok (.aload_n 0, 1) := by decide +kernel
theorem dX3_dayOf_182 : decode cX3_dayOf 182 = .ok (.iload_n 1, 1) := by decide +kernel
theorem dX3_dayOf_183 : decode cX3_dayOf 183 = .ok (.iconst 0, 1) := by decide +kernel
theorem dX3_dayOf_184 : decode cX3_dayOf 184 = .ok (.iload_n 3, 1) := by decide +kernel
theorem dX3_dayOf_185 : decode cX3_dayOf 185 = .ok (.iadd, 1) := by decide +kernel
theorem dX3_dayOf_186 : decode cX3_dayOf 186 = .ok (.invokevirtual 85, 3) := by decide +kernel
theorem dX3_dayOf_189 : decode cX3_dayOf 189 = .ok (.iconst 1, 1) := by decide +kernel
theorem dX3_dayOf_190 : decode cX3_dayOf 190 = .ok (.if_icmp .ne 26, 3) := by decide +kernel
theorem dX3_dayOf_193 : decode cX3_dayOf 193 = .ok (.aload_n 0, 1) := by decide +kernel
theorem dX3_dayOf_194 : decode cX3_dayOf 194 = .ok (.iload_n 1, 1) := by decide +kernel
theorem dX3_dayOf_195 : decode cX3_dayOf 195 = .ok (.iconst 2, 1) := by decide +kernel
theorem dX3_dayOf_196 : decode cX3_dayOf 196 = .ok (.iload_n 3, 1) := by decide +kernel
theorem dX3_dayOf_197 : decode cX3_dayOf 197 = .ok (.iadd, 1) := by decide +kernel
theorem dX3_dayOf_198 : decode cX3_dayOf 198 = .ok (.bipush 9, 2) := by decide +kernel
theorem dX3_dayOf_200 : decode cX3_dayOf 200 = .ok (.aload_n 0, 1) := by decide +kernel
theorem dX3_dayOf_201 : decode cX3_dayOf 201 = .ok (.iload_n 1, 1) := by decide +kernel
theorem dX3_dayOf_202 : decode cX3_dayOf 202 = .ok (.iconst 2, 1) := by decide +kernel
theorem dX3_dayOf_203 : decode cX3_dayOf 203 = .ok (.iload_n 3, 1) := by decide +kernel
theorem dX3_dayOf_204 : decode cX3_dayOf 204 = .ok (.iadd, 1) := by decide +kernel
theorem dX3_dayOf_205 : decode cX3_dayOf 205 = .ok (.invokevirtual 85, 3) := by decide +kernel
theorem dX3_dayOf_208 : decode cX3_dayOf 208 = .ok (.iconst 1, 1) := by decide +kernel
theorem dX3_dayOf_209 : decode cX3_dayOf 209 = .ok (.iadd, 1) := by decide +kernel
theorem dX3_dayOf_210 : decode cX3_dayOf 210 = .ok (.invokestatic 64, 3) := by decide +kernel
theorem dX3_dayOf_213 : decode cX3_dayOf 213 = .ok (.invokevirtual 88, 3) := by decide +kernel
theorem dX3_dayOf_216 : decode cX3_dayOf 216 = .ok (.iinc 3 1, 3) := by decide +kernel
theorem dX3_dayOf_219 : decode cX3_dayOf 219 = .ok (.goto (-43), 3) := by decide +kernel
theorem dX3_dayOf_222 : decode cX3_dayOf 222 = .ok (.iload_n 2, 1) := by decide +kernel
theorem dX3_dayOf_223 : decode cX3_dayOf 223 = .ok (.ireturn, 1) := by decide +kernel
set_option maxRecDepth 20000 in
theorem ggX3_daysOn_X3_dayOf : GoodIn wsX3_daysOn wsX3_dayOf := goodIn_r _ [7, 8, 9, 10, 11, 12, 2, 13, 14, 15, 16, 17, 18, 19, 6, 20, 21, 22, 23, 24, 25, 26, 27, 28, 29, 30, 31, 32, 33, 34, 35, 36, 37, 38, 39, 40, 41] (by decide +kernel) (by decide +kernel)
set_option maxRecDepth 20000 in
theorem gX3_daysOn_X3_dayOf : GoodIn wsX3_daysOn (wsV RX3 123 RX3 yX3_dayOf wsX3_dayOf) := goodIn_app (goodIn_of _ (by decide +kernel)) ggX3_daysOn_X3_dayOf
theorem dX3_daysOn_0 : decode cX3_daysOn 0 = .ok (.iconst 0, 1) := by decide +kernel
theorem dX3_daysOn_1 : decode cX3_daysOn 1 = .ok (.istore_n 2, 1) := by decide +kernel
theorem dX3_daysOn_2 : decode cX3_daysOn 2 = .ok (.iconst 0, 1) := by decide +kernel
theorem dX3_daysOn_3 : decode cX3_daysOn 3 = .ok (.istore_n 3, 1) := by decide +kernel
theorem dX3_daysOn_4 : decode cX3_daysOn 4 = .ok (.iload_n 3, 1) := by decide +kernel
theorem dX3_daysOn_5 : decode cX3_daysOn 5 = .ok (.iload_n 1, 1) := by decide +kernel
theorem dX3_daysOn_6 : decode cX3_daysOn 6 = .ok (.if_icmp .ge 46, 3) := by decide +kernel
theorem dX3_daysOn_9 : decode cX3_daysOn 9 = .ok (.iconst 0, 1) := by decide +kernel
theorem dX3_daysOn_10 : decode cX3_daysOn 10 = .ok (.istore 4, 2) := by decide +kernel
theorem dX3_daysOn_12 : decode cX3_daysOn 12 = .ok (.iload 4, 2) := by decide +kernel
theorem dX3_daysOn_14 : decode cX3_daysOn 14 = .ok (.aload_n 0, 1) := by decide +kernel
theorem dX3_daysOn_15 : decode cX3_daysOn 15 = .ok (.getfield 32, 3) := by decide +kernel
theorem dX3_daysOn_18 : decode cX3_daysOn 18 = .ok (.if_icmp .ge 18, 3) := by decide +kernel
theorem dX3_daysOn_21 : decode cX3_daysOn 21 = .ok (.iload_n 2, 1) := by decide +kernel
theorem dX3_daysOn_22 : decode cX3_daysOn 22 = .ok (.aload_n 0, 1) := by decide +kernel
theorem dX3_daysOn_23 : decode cX3_daysOn 23 = .ok (.iload 4, 2) := by decide +kernel
theorem dX3_daysOn_25 : decode cX3_daysOn 25 = .ok (.invokevirtual 123, 3) := by decide +kernel
theorem dX3_daysOn_28 : decode cX3_daysOn 28 = .ok (.iadd, 1) := by decide +kernel
theorem dX3_daysOn_29 : decode cX3_daysOn 29 = .ok (.istore_n 2, 1) := by decide +kernel
theorem dX3_daysOn_30 : decode cX3_daysOn 30 = .ok (.iinc 4 1, 3) := by decide +kernel
theorem dX3_daysOn_33 : decode cX3_daysOn 33 = .ok (.goto (-21), 3) := by decide +kernel
theorem dX3_daysOn_36 : decode cX3_daysOn 36 = .ok (.aload_n 0, 1) := by decide +kernel
theorem dX3_daysOn_37 : decode cX3_daysOn 37 = .ok (.getfield 26, 3) := by decide +kernel
theorem dX3_daysOn_40 : decode cX3_daysOn 40 = .ok (.iconst 0, 1) := by decide +kernel
theorem dX3_daysOn_41 : decode cX3_daysOn 41 = .ok (.dup2, 1) := by decide +kernel
theorem dX3_daysOn_42 : decode cX3_daysOn 42 = .ok (.iaload, 1) := by decide +kernel
theorem dX3_daysOn_43 : decode cX3_daysOn 43 = .ok (.iconst 1, 1) := by decide +kernel
theorem dX3_daysOn_44 : decode cX3_daysOn 44 = .ok (.iadd, 1) := by decide +kernel
theorem dX3_daysOn_45 : decode cX3_daysOn 45 = .ok (.iastore, 1) := by decide +kernel
theorem dX3_daysOn_46 : decode cX3_daysOn 46 = .ok (.iinc 3 1, 3) := by decide +kernel
theorem dX3_daysOn_49 : decode cX3_daysOn 49 = .ok (.goto (-45), 3) := by decide +kernel
theorem dX3_daysOn_52 : decode cX3_daysOn 52 = .ok (.iload_n 2, 1) := by decide +kernel
theorem dX3_daysOn_53 : decode cX3_daysOn 53 = .ok (.ireturn, 1) := by decide +kernel
set_option maxRecDepth 20000 in
theorem ggX3_foresee_X3_isIn : GoodIn wsX3_foresee wsX3_isIn := goodIn_r _ [5] (by decide +kernel) (by decide +kernel)
set_option maxRecDepth 20000 in
theorem gX3_foresee_X3_isIn : GoodIn wsX3_foresee (va_wsS RX3 35 yX3_isIn wsX3_isIn) := goodIn_app (goodIn_of _ (by decide +kernel)) ggX3_foresee_X3_isIn
set_option maxRecDepth 20000 in
theorem ggX3_foresee_X3_fail : GoodIn wsX3_foresee wsX3_fail := goodIn_r _ [9, 1, 77, 78, 79, 80, 81, 82, 83, 84, 85] (by decide +kernel) (by decide +kernel)
set_option maxRecDepth 20000 in
theorem gX3_foresee_X3_fail : GoodIn wsX3_foresee (wsV RX3 46 RX3 yX3_fail wsX3_fail) := goodIn_app (goodIn_of _ (by decide +kernel)) ggX3_foresee_X3_fail
set_option maxRecDepth 20000 in
theorem ggX3_foresee_X3_kept : GoodIn wsX3_foresee wsX3_kept := goodIn_r _ [13, 14, 15, 16, 17, 18, 19, 20, 21, 22, 77, 78, 79, 80, 81, 82, 83, 84, 85] (by decide +kernel) (by decide +kernel)
set_option maxRecDepth 20000 in
theorem gX3_foresee_X3_kept : GoodIn wsX3_foresee (wsV RX3 106 RX3 yX3_kept wsX3_kept) := goodIn_app (goodIn_of _ (by decide +kernel)) ggX3_foresee_X3_kept
set_option maxRecDepth 20000 in
theorem ggX3_foresee_X3_daysOn : GoodIn wsX3_foresee wsX3_daysOn := goodIn_r _ [26, 27, 22, 28, 29, 30, 4, 31, 32, 33, 34, 35, 36, 15, 37, 38, 39, 40, 41, 42, 43, 21, 44, 45, 46, 47, 48, 49, 50, 51, 52, 53, 54, 77, 78, 79, 80, 81, 82, 83, 84, 85] (by decide +kernel) (by decide +kernel)
set_option maxRecDepth 20000 in
theorem gX3_foresee_X3_daysOn : GoodIn wsX3_foresee (wsV RX3 126 RX3 yX3_daysOn wsX3_daysOn) := goodIn_app (goodIn_of _ (by decide +kernel)) ggX3_foresee_X3_daysOn
set_option maxRecDepth 20000 in
theorem ggX3_foresee_X3_counted : GoodIn wsX3_foresee wsX3_counted := goodIn_r _ [58, 59, 22, 27, 60, 32, 61, 62, 63, 4, 64, 48, 49, 50, 51, 15, 52, 53, 54, 65, 66, 67, 68, 40, 41, 42, 43, 21, 77, 78, 79, 80, 81, 82, 83, 84, 85] (by decide +kernel) (by decide +kernel)
set_option maxRecDepth 20000 in
theorem gX3_foresee_X3_counted : GoodIn wsX3_foresee (wsV RX3 98 RX3 yX3_counted wsX3_counted) := goodIn_app (goodIn_of _ (by decide +kernel)) ggX3_foresee_X3_counted
set_option maxRecDepth 20000 in
theorem ggX3_foresee_X3_bringBack : GoodIn wsX3_foresee wsX3_bringBack := goodIn_r _ [72, 15, 73, 74, 75, 76, 21, 22, 77, 78, 79, 80, 81, 82, 83, 84, 85] (by decide +kernel) (by decide +kernel)
set_option maxRecDepth 20000 in
theorem gX3_foresee_X3_bringBack : GoodIn wsX3_foresee (wsV RX3 113 RX3 yX3_bringBack wsX3_bringBack) := goodIn_app (goodIn_of _ (by decide +kernel)) ggX3_foresee_X3_bringBack
theorem dX3_foresee_0 : decode cX3_foresee 0 = .ok (.aload_n 0, 1) := by decide +kernel
theorem dX3_foresee_1 : decode cX3_foresee 1 = .ok (.iconst 0, 1) := by decide +kernel
theorem dX3_foresee_2 : decode cX3_foresee 2 = .ok (.putfield 29, 3) := by decide +kernel
theorem dX3_foresee_5 : decode cX3_foresee 5 = .ok (.iload_n 1, 1) := by decide +kernel
theorem dX3_foresee_6 : decode cX3_foresee 6 = .ok (.iconst 1, 1) := by decide +kernel
theorem dX3_foresee_7 : decode cX3_foresee 7 = .ok (.bipush 60, 2) := by decide +kernel
theorem dX3_foresee_9 : decode cX3_foresee 9 = .ok (.invokestatic 35, 3) := by decide +kernel
theorem dX3_foresee_12 : decode cX3_foresee 12 = .ok (.ifCond .ne 9, 3) := by decide +kernel
theorem dX3_foresee_15 : decode cX3_foresee 15 = .ok (.aload_n 0, 1) := by decide +kernel
theorem dX3_foresee_16 : decode cX3_foresee 16 = .ok (.iconst 1, 1) := by decide +kernel
theorem dX3_foresee_17 : decode cX3_foresee 17 = .ok (.invokevirtual 46, 3) := by decide +kernel
theorem dX3_foresee_20 : decode cX3_foresee 20 = .ok (.ireturn, 1) := by decide +kernel
theorem dX3_foresee_21 : decode cX3_foresee 21 = .ok (.iload_n 2, 1) := by decide +kernel
theorem dX3_foresee_22 : decode cX3_foresee 22 = .ok (.iconst 4, 1) := by decide +kernel
theorem dX3_foresee_23 : decode cX3_foresee 23 = .ok (.bipush 7, 2) := by decide +kernel
theorem dX3_foresee_25 : decode cX3_foresee 25 = .ok (.invokestatic 35, 3) := by decide +kernel
theorem dX3_foresee_28 : decode cX3_foresee 28 = .ok (.ifCond .ne 9, 3) := by decide +kernel
theorem dX3_foresee_31 : decode cX3_foresee 31 = .ok (.aload_n 0, 1) := by decide +kernel
theorem dX3_foresee_32 : decode cX3_foresee 32 = .ok (.iconst 2, 1) := by decide +kernel
theorem dX3_foresee_33 : decode cX3_foresee 33 = .ok (.invokevirtual 46, 3) := by decide +kernel
theorem dX3_foresee_36 : decode cX3_foresee 36 = .ok (.ireturn, 1) := by decide +kernel
theorem dX3_foresee_37 : decode cX3_foresee 37 = .ok (.aload_n 0, 1) := by decide +kernel
theorem dX3_foresee_38 : decode cX3_foresee 38 = .ok (.invokevirtual 106, 3) := by decide +kernel
theorem dX3_foresee_41 : decode cX3_foresee 41 = .ok (.astore_n 3, 1) := by decide +kernel
theorem dX3_foresee_42 : decode cX3_foresee 42 = .ok (.aload_n 0, 1) := by decide +kernel
theorem dX3_foresee_43 : decode cX3_foresee 43 = .ok (.iload_n 1, 1) := by decide +kernel
theorem dX3_foresee_44 : decode cX3_foresee 44 = .ok (.invokevirtual 126, 3) := by decide +kernel
theorem dX3_foresee_47 : decode cX3_foresee 47 = .ok (.pop, 1) := by decide +kernel
theorem dX3_foresee_48 : decode cX3_foresee 48 = .ok (.aload_n 0, 1) := by decide +kernel
theorem dX3_foresee_49 : decode cX3_foresee 49 = .ok (.iload_n 2, 1) := by decide +kernel
theorem dX3_foresee_50 : decode cX3_foresee 50 = .ok (.invokevirtual 98, 3) := by decide +kernel
theorem dX3_foresee_53 : decode cX3_foresee 53 = .ok (.istore 4, 2) := by decide +kernel
theorem dX3_foresee_55 : decode cX3_foresee 55 = .ok (.aload_n 0, 1) := by decide +kernel
theorem dX3_foresee_56 : decode cX3_foresee 56 = .ok (.aload_n 3, 1) := by decide +kernel
theorem dX3_foresee_57 : decode cX3_foresee 57 = .ok (.invokevirtual 113, 3) := by decide +kernel
theorem dX3_foresee_60 : decode cX3_foresee 60 = .ok (.iload 4, 2) := by decide +kernel
theorem dX3_foresee_62 : decode cX3_foresee 62 = .ok (.ireturn, 1) := by decide +kernel
set_option maxRecDepth 20000 in
theorem ggX3_pass_X3_isIn : GoodIn wsX3_pass wsX3_isIn := goodIn_r _ [5] (by decide +kernel) (by decide +kernel)
set_option maxRecDepth 20000 in
theorem gX3_pass_X3_isIn : GoodIn wsX3_pass (va_wsS RX3 35 yX3_isIn wsX3_isIn) := goodIn_app (goodIn_of _ (by decide +kernel)) ggX3_pass_X3_isIn
set_option maxRecDepth 20000 in
theorem ggX3_pass_X3_daysOn : GoodIn wsX3_pass wsX3_daysOn := goodIn_r _ [9, 10, 11, 12, 13, 14, 4, 15, 16, 17, 18, 19, 20, 21, 22, 23, 24, 25, 26, 27, 28, 29, 30, 31, 32, 33, 34, 35, 36, 37, 38, 39, 40, 45, 46, 47, 48, 49, 50, 51, 52, 53] (by decide +kernel) (by decide +kernel)
set_option maxRecDepth 20000 in
theorem gX3_pass_X3_daysOn : GoodIn wsX3_pass (wsV RX3 126 RX3 yX3_daysOn wsX3_daysOn) := goodIn_app (goodIn_of _ (by decide +kernel)) ggX3_pass_X3_daysOn
set_option maxRecDepth 20000 in
theorem ggX3_pass_X3_fail : GoodIn wsX3_pass wsX3_fail := goodIn_r _ [44, 1, 45, 46, 47, 48, 49, 50, 51, 52, 53] (by decide +kernel) (by decide +kernel)
set_option maxRecDepth 20000 in
theorem gX3_pass_X3_fail : GoodIn wsX3_pass (wsV RX3 46 RX3 yX3_fail wsX3_fail) := goodIn_app (goodIn_of _ (by decide +kernel)) ggX3_pass_X3_fail
theorem dX3_pass_0 : decode cX3_pass 0 = .ok (.aload_n 0, 1) := by decide +kernel
theorem dX3_pass_1 : decode cX3_pass 1 = .ok (.iconst 0, 1) := by decide +kernel
theorem dX3_pass_2 : decode cX3_pass 2 = .ok (.putfield 29, 3) := by decide +kernel
theorem dX3_pass_5 : decode cX3_pass 5 = .ok (.iload_n 1, 1) := by decide +kernel
theorem dX3_pass_6 : decode cX3_pass 6 = .ok (.iconst 1, 1) := by decide +kernel
theorem dX3_pass_7 : decode cX3_pass 7 = .ok (.bipush 60, 2) := by decide +kernel
theorem dX3_pass_9 : decode cX3_pass 9 = .ok (.invokestatic 35, 3) := by decide +kernel
theorem dX3_pass_12 : decode cX3_pass 12 = .ok (.ifCond .eq 11, 3) := by decide +kernel
theorem dX3_pass_15 : decode cX3_pass 15 = .ok (.aload_n 0, 1) := by decide +kernel
theorem dX3_pass_16 : decode cX3_pass 16 = .ok (.iload_n 1, 1) := by decide +kernel
theorem dX3_pass_17 : decode cX3_pass 17 = .ok (.invokevirtual 126, 3) := by decide +kernel
theorem dX3_pass_20 : decode cX3_pass 20 = .ok (.goto 8, 3) := by decide +kernel
theorem dX3_pass_23 : decode cX3_pass 23 = .ok (.aload_n 0, 1) := by decide +kernel
theorem dX3_pass_24 : decode cX3_pass 24 = .ok (.iconst 1, 1) := by decide +kernel
theorem dX3_pass_25 : decode cX3_pass 25 = .ok (.invokevirtual 46, 3) := by decide +kernel
theorem dX3_pass_28 : decode cX3_pass 28 = .ok (.ireturn, 1) := by decide +kernel
set_option maxRecDepth 20000 in
theorem ggX3_mean_X3_wearOf : GoodIn wsX3_mean wsX3_wearOf := goodIn_r _ [7, 8, 9, 10, 6, 11, 12, 13, 14, 15, 16, 17, 18, 19, 20, 21, 22, 23, 24] (by decide +kernel) (by decide +kernel)
set_option maxRecDepth 20000 in
theorem gX3_mean_X3_wearOf : GoodIn wsX3_mean (wsV RX3 110 RX3 yX3_wearOf wsX3_wearOf) := goodIn_app (goodIn_of _ (by decide +kernel)) ggX3_mean_X3_wearOf
theorem dX3_mean_0 : decode cX3_mean 0 = .ok (.aload_n 0, 1) := by decide +kernel
theorem dX3_mean_1 : decode cX3_mean 1 = .ok (.iconst 0, 1) := by decide +kernel
theorem dX3_mean_2 : decode cX3_mean 2 = .ok (.putfield 29, 3) := by decide +kernel
theorem dX3_mean_5 : decode cX3_mean 5 = .ok (.iconst 0, 1) := by decide +kernel
theorem dX3_mean_6 : decode cX3_mean 6 = .ok (.istore_n 1, 1) := by decide +kernel
theorem dX3_mean_7 : decode cX3_mean 7 = .ok (.iconst 0, 1) := by decide +kernel
theorem dX3_mean_8 : decode cX3_mean 8 = .ok (.istore_n 2, 1) := by decide +kernel
theorem dX3_mean_9 : decode cX3_mean 9 = .ok (.iload_n 2, 1) := by decide +kernel
theorem dX3_mean_10 : decode cX3_mean 10 = .ok (.aload_n 0, 1) := by decide +kernel
theorem dX3_mean_11 : decode cX3_mean 11 = .ok (.getfield 32, 3) := by decide +kernel
theorem dX3_mean_14 : decode cX3_mean 14 = .ok (.if_icmp .ge 17, 3) := by decide +kernel
theorem dX3_mean_17 : decode cX3_mean 17 = .ok (.iload_n 1, 1) := by decide +kernel
theorem dX3_mean_18 : decode cX3_mean 18 = .ok (.aload_n 0, 1) := by decide +kernel
theorem dX3_mean_19 : decode cX3_mean 19 = .ok (.iload_n 2, 1) := by decide +kernel
theorem dX3_mean_20 : decode cX3_mean 20 = .ok (.invokevirtual 110, 3) := by decide +kernel
theorem dX3_mean_23 : decode cX3_mean 23 = .ok (.iadd, 1) := by decide +kernel
theorem dX3_mean_24 : decode cX3_mean 24 = .ok (.istore_n 1, 1) := by decide +kernel
theorem dX3_mean_25 : decode cX3_mean 25 = .ok (.iinc 2 1, 3) := by decide +kernel
theorem dX3_mean_28 : decode cX3_mean 28 = .ok (.goto (-19), 3) := by decide +kernel
theorem dX3_mean_31 : decode cX3_mean 31 = .ok (.aload_n 0, 1) := by decide +kernel
theorem dX3_mean_32 : decode cX3_mean 32 = .ok (.getfield 32, 3) := by decide +kernel
theorem dX3_mean_35 : decode cX3_mean 35 = .ok (.ifCond .ne 7, 3) := by decide +kernel
theorem dX3_mean_38 : decode cX3_mean 38 = .ok (.dconst 0, 1) := by decide +kernel
theorem dX3_mean_39 : decode cX3_mean 39 = .ok (.goto 14, 3) := by decide +kernel
theorem dX3_mean_42 : decode cX3_mean 42 = .ok (.iload_n 1, 1) := by decide +kernel
theorem dX3_mean_43 : decode cX3_mean 43 = .ok (.i2d, 1) := by decide +kernel
theorem dX3_mean_44 : decode cX3_mean 44 = .ok (.bipush 6, 2) := by decide +kernel
theorem dX3_mean_46 : decode cX3_mean 46 = .ok (.aload_n 0, 1) := by decide +kernel
theorem dX3_mean_47 : decode cX3_mean 47 = .ok (.getfield 32, 3) := by decide +kernel
theorem dX3_mean_50 : decode cX3_mean 50 = .ok (.imul, 1) := by decide +kernel
theorem dX3_mean_51 : decode cX3_mean 51 = .ok (.i2d, 1) := by decide +kernel
theorem dX3_mean_52 : decode cX3_mean 52 = .ok (.ddiv, 1) := by decide +kernel
theorem dX3_mean_53 : decode cX3_mean 53 = .ok (.dreturn, 1) := by decide +kernel
set_option maxRecDepth 20000 in
theorem ggX3_digest_X3_counted : GoodIn wsX3_digest wsX3_counted := goodIn_r _ [11, 12, 13, 6, 4, 14, 15, 16, 17, 10, 18, 19, 20, 21, 22, 23, 24, 25, 26, 27, 28, 29, 30, 31, 32, 33, 34, 35, 36, 37, 38, 39, 40, 41, 42, 43, 44] (by decide +kernel) (by decide +kernel)
set_option maxRecDepth 20000 in
theorem gX3_digest_X3_counted : GoodIn wsX3_digest (wsV RX3 98 RX3 yX3_counted wsX3_counted) := goodIn_app (goodIn_of _ (by decide +kernel)) ggX3_digest_X3_counted
set_option maxRecDepth 20000 in
theorem ggX3_digest_X3_ro : GoodIn wsX3_digest wsX3_ro := goodIn_r _ [34, 35, 36, 37, 38, 39, 40, 41, 42, 43, 44] (by decide +kernel) (by decide +kernel)
set_option maxRecDepth 20000 in
theorem gX3_digest_X3_ro : GoodIn wsX3_digest (wsV RX3 85 RX3 yX3_ro wsX3_ro) := goodIn_app (goodIn_of _ (by decide +kernel)) ggX3_digest_X3_ro
set_option maxRecDepth 20000 in
theorem ggX3_digest_X3_jointTold : GoodIn wsX3_digest wsX3_jointTold := goodIn_r _ [18, 19, 20, 21, 10, 22, 23, 24, 25, 26, 27, 28, 29, 30, 36, 37, 38, 39, 40, 41, 42, 43, 44] (by decide +kernel) (by decide +kernel)
set_option maxRecDepth 20000 in
theorem gX3_digest_X3_jointTold : GoodIn wsX3_digest (wsV RX3 95 RX3 yX3_jointTold wsX3_jointTold) := goodIn_app (goodIn_of _ (by decide +kernel)) ggX3_digest_X3_jointTold
theorem dX3_digest_0 : decode cX3_digest 0 = .ok (.aload_n 0, 1) := by decide +kernel
theorem dX3_digest_1 : decode cX3_digest 1 = .ok (.iconst 0, 1) := by decide +kernel
theorem dX3_digest_2 : decode cX3_digest 2 = .ok (.putfield 29, 3) := by decide +kernel
theorem dX3_digest_5 : decode cX3_digest 5 = .ok (.ldc2_w 129, 3) := by decide +kernel
theorem dX3_digest_8 : decode cX3_digest 8 = .ok (.lstore_n 1, 1) := by decide +kernel
theorem dX3_digest_9 : decode cX3_digest 9 = .ok (.iconst 0, 1) := by decide +kernel
theorem dX3_digest_10 : decode cX3_digest 10 = .ok (.istore_n 3, 1) := by decide +kernel
theorem dX3_digest_11 : decode cX3_digest 11 = .ok (.iload_n 3, 1) := by decide +kernel
theorem dX3_digest_12 : decode cX3_digest 12 = .ok (.bipush 13, 2) := by decide +kernel
theorem dX3_digest_14 : decode cX3_digest 14 = .ok (.if_icmp .ge 22, 3) := by decide +kernel
theorem dX3_digest_17 : decode cX3_digest 17 = .ok (.lload_n 1, 1) := by decide +kernel
theorem dX3_digest_18 : decode cX3_digest 18 = .ok (.ldc2_w 131, 3) := by decide +kernel
theorem dX3_digest_21 : decode cX3_digest 21 = .ok (.lmul, 1) := by decide +kernel
theorem dX3_digest_22 : decode cX3_digest 22 = .ok (.aload_n 0, 1) := by decide +kernel
theorem dX3_digest_23 : decode cX3_digest 23 = .ok (.iload_n 3, 1) := by decide +kernel
theorem dX3_digest_24 : decode cX3_digest 24 = .ok (.invokevirtual 98, 3) := by decide +kernel
theorem dX3_digest_27 : decode cX3_digest 27 = .ok (.i2l, 1) := by decide +kernel
theorem dX3_digest_28 : decode cX3_digest 28 = .ok (.ladd, 1) := by decide +kernel
theorem dX3_digest_29 : decode cX3_digest 29 = .ok (.lstore_n 1, 1) := by decide +kernel
theorem dX3_digest_30 : decode cX3_digest 30 = .ok (.iinc 3 1, 3) := by decide +kernel
theorem dX3_digest_33 : decode cX3_digest 33 = .ok (.goto (-22), 3) := by decide +kernel
theorem dX3_digest_36 : decode cX3_digest 36 = .ok (.iconst 0, 1) := by decide +kernel
theorem dX3_digest_37 : decode cX3_digest 37 = .ok (.istore_n 3, 1) := by decide +kernel
theorem dX3_digest_38 : decode cX3_digest 38 = .ok (.iload_n 3, 1) := by decide +kernel
theorem dX3_digest_39 : decode cX3_digest 39 = .ok (.bipush 6, 2) := by decide +kernel
theorem dX3_digest_41 : decode cX3_digest 41 = .ok (.aload_n 0, 1) := by decide +kernel
theorem dX3_digest_42 : decode cX3_digest 42 = .ok (.getfield 39, 3) := by decide +kernel
theorem dX3_digest_45 : decode cX3_digest 45 = .ok (.imul, 1) := by decide +kernel
theorem dX3_digest_46 : decode cX3_digest 46 = .ok (.if_icmp .ge 23, 3) := by decide +kernel
theorem dX3_digest_49 : decode cX3_digest 49 = .ok (.lload_n 1, 1) := by decide +kernel
theorem dX3_digest_50 : decode cX3_digest 50 = .ok (.ldc2_w 131, 3) := by decide +kernel
theorem dX3_digest_53 : decode cX3_digest 53 = .ok (.lmul, 1) := by decide +kernel
theorem dX3_digest_54 : decode cX3_digest 54 = .ok (.aload_n 0, 1) := by decide +kernel
theorem dX3_digest_55 : decode cX3_digest 55 = .ok (.getfield 20, 3) := by decide +kernel
theorem dX3_digest_58 : decode cX3_digest 58 = .ok (.iload_n 3, 1) := by decide +kernel
theorem dX3_digest_59 : decode cX3_digest 59 = .ok (.iaload, 1) := by decide +kernel
theorem dX3_digest_60 : decode cX3_digest 60 = .ok (.i2l, 1) := by decide +kernel
theorem dX3_digest_61 : decode cX3_digest 61 = .ok (.ladd, 1) := by decide +kernel
theorem dX3_digest_62 : decode cX3_digest 62 = .ok (.lstore_n 1, 1) := by decide +kernel
theorem dX3_digest_63 : decode cX3_digest 63 = .ok (.iinc 3 1, 3) := by decide +kernel
theorem dX3_digest_66 : decode cX3_digest 66 = .ok (.goto (-28), 3) := by decide +kernel
theorem dX3_digest_69 : decode cX3_digest 69 = .ok (.iconst 0, 1) := by decide +kernel
theorem dX3_digest_70 : decode cX3_digest 70 = .ok (.istore_n 3, 1) := by decide +kernel
theorem dX3_digest_71 : decode cX3_digest 71 = .ok (.iload_n 3, 1) := by decide +kernel
theorem dX3_digest_72 : decode cX3_digest 72 = .ok (.aload_n 0, 1) := by decide +kernel
theorem dX3_digest_73 : decode cX3_digest 73 = .ok (.getfield 32, 3) := by decide +kernel
theorem dX3_digest_76 : decode cX3_digest 76 = .ok (.if_icmp .ge 88, 3) := by decide +kernel
theorem dX3_digest_79 : decode cX3_digest 79 = .ok (.iconst 0, 1) := by decide +kernel
theorem dX3_digest_80 : decode cX3_digest 80 = .ok (.istore 4, 2) := by decide +kernel
theorem dX3_digest_82 : decode cX3_digest 82 = .ok (.iload 4, 2) := by decide +kernel
theorem dX3_digest_84 : decode cX3_digest 84 = .ok (.bipush 8, 2) := by decide +kernel
theorem dX3_digest_86 : decode cX3_digest 86 = .ok (.if_icmp .ge 24, 3) := by decide +kernel
theorem dX3_digest_89 : decode cX3_digest 89 = .ok (.lload_n 1, 1) := by decide +kernel
theorem dX3_digest_90 : decode cX3_digest 90 = .ok (.ldc2_w 131, 3) := by decide +kernel
theorem dX3_digest_93 : decode cX3_digest 93 = .ok (.lmul, 1) := by decide +kernel
theorem dX3_digest_94 : decode cX3_digest 94 = .ok (.aload_n 0, 1) := by decide +kernel
theorem dX3_digest_95 : decode cX3_digest 95 = .ok (.iload_n 3, 1) := by decide +kernel
theorem dX3_digest_96 : decode cX3_digest 96 = .ok (.iload 4, 2) := by decide +kernel
theorem dX3_digest_98 : decode cX3_digest 98 = .ok (.invokevirtual 85, 3) := by decide +kernel
theorem dX3_digest_101 : decode cX3_digest 101 = .ok (.i2l, 1) := by decide +kernel
theorem dX3_digest_102 : decode cX3_digest 102 = .ok (.ladd, 1) := by decide +kernel
theorem dX3_digest_103 : decode cX3_digest 103 = .ok (.lstore_n 1, 1) := by decide +kernel
theorem dX3_digest_104 : decode cX3_digest 104 = .ok (.iinc 4 1, 3) := by decide +kernel
theorem dX3_digest_107 : decode cX3_digest 107 = .ok (.goto (-25), 3) := by decide +kernel
theorem dX3_digest_110 : decode cX3_digest 110 = .ok (.iconst 0, 1) := by decide +kernel
theorem dX3_digest_111 : decode cX3_digest 111 = .ok (.istore 4, 2) := by decide +kernel
theorem dX3_digest_113 : decode cX3_digest 113 = .ok (.iload 4, 2) := by decide +kernel
theorem dX3_digest_115 : decode cX3_digest 115 = .ok (.bipush 6, 2) := by decide +kernel
theorem dX3_digest_117 : decode cX3_digest 117 = .ok (.if_icmp .ge 41, 3) := by decide +kernel
theorem dX3_digest_120 : decode cX3_digest 120 = .ok (.iconst 0, 1) := by decide +kernel
theorem dX3_digest_121 : decode cX3_digest 121 = .ok (.istore 5, 2) := by decide +kernel
theorem dX3_digest_123 : decode cX3_digest 123 = .ok (.iload 5, 2) := by decide +kernel
theorem dX3_digest_125 : decode cX3_digest 125 = .ok (.iconst 4, 1) := by decide +kernel
theorem dX3_digest_126 : decode cX3_digest 126 = .ok (.if_icmp .ge 26, 3) := by decide +kernel
theorem dX3_digest_129 : decode cX3_digest 129 = .ok (.lload_n 1, 1) := by decide +kernel
theorem dX3_digest_130 : decode cX3_digest 130 = .ok (.ldc2_w 131, 3) := by decide +kernel
theorem dX3_digest_133 : decode cX3_digest 133 = .ok (.lmul, 1) := by decide +kernel
theorem dX3_digest_134 : decode cX3_digest 134 = .ok (.aload_n 0, 1) := by decide +kernel
theorem dX3_digest_135 : decode cX3_digest 135 = .ok (.iload_n 3, 1) := by decide +kernel
theorem dX3_digest_136 : decode cX3_digest 136 = .ok (.iload 4, 2) := by decide +kernel
theorem dX3_digest_138 : decode cX3_digest 138 = .ok (.iload 5, 2) := by decide +kernel
theorem dX3_digest_140 : decode cX3_digest 140 = .ok (.invokevirtual 95, 3) := by decide +kernel
theorem dX3_digest_143 : decode cX3_digest 143 = .ok (.i2l, 1) := by decide +kernel
theorem dX3_digest_144 : decode cX3_digest 144 = .ok (.ladd, 1) := by decide +kernel
theorem dX3_digest_145 : decode cX3_digest 145 = .ok (.lstore_n 1, 1) := by decide +kernel
theorem dX3_digest_146 : decode cX3_digest 146 = .ok (.iinc 5 1, 3) := by decide +kernel
theorem dX3_digest_149 : decode cX3_digest 149 = .ok (.goto (-26), 3) := by decide +kernel
theorem dX3_digest_152 : decode cX3_digest 152 = .ok (.iinc 4 1, 3) := by decide +kernel
theorem dX3_digest_155 : decode cX3_digest 155 = .ok (.goto (-42), 3) := by decide +kernel
theorem dX3_digest_158 : decode cX3_digest 158 = .ok (.iinc 3 1, 3) := by decide +kernel
theorem dX3_digest_161 : decode cX3_digest 161 = .ok (.goto (-90), 3) := by decide +kernel
theorem dX3_digest_164 : decode cX3_digest 164 = .ok (.lload_n 1, 1) := by decide +kernel
theorem dX3_digest_165 : decode cX3_digest 165 = .ok (.lreturn, 1) := by decide +kernel
theorem dJ9_abs_0f7a4_0 : decode cJ9_abs_0f7a4 0 = .ok (.iload_n 0, 1) := by decide +kernel
theorem dJ9_abs_0f7a4_1 : decode cJ9_abs_0f7a4 1 = .ok (.ifCond .ge 8, 3) := by decide +kernel
theorem dJ9_abs_0f7a4_4 : decode cJ9_abs_0f7a4 4 = .ok (.iload_n 0, 1) := by decide +kernel
theorem dJ9_abs_0f7a4_5 : decode cJ9_abs_0f7a4 5 = .ok (.ineg, 1) := by decide +kernel
theorem dJ9_abs_0f7a4_6 : decode cJ9_abs_0f7a4 6 = .ok (.goto 4, 3) := by decide +kernel
theorem dJ9_abs_0f7a4_9 : decode cJ9_abs_0f7a4 9 = .ok (.iload_n 0, 1) := by decide +kernel
theorem dJ9_abs_0f7a4_10 : decode cJ9_abs_0f7a4 10 = .ok (.ireturn, 1) := by decide +kernel
theorem dJ9_max_7cf53_0 : decode cJ9_max_7cf53 0 = .ok (.iload_n 0, 1) := by decide +kernel
theorem dJ9_max_7cf53_1 : decode cJ9_max_7cf53 1 = .ok (.iload_n 1, 1) := by decide +kernel
theorem dJ9_max_7cf53_2 : decode cJ9_max_7cf53 2 = .ok (.if_icmp .lt 7, 3) := by decide +kernel
theorem dJ9_max_7cf53_5 : decode cJ9_max_7cf53 5 = .ok (.iload_n 0, 1) := by decide +kernel
theorem dJ9_max_7cf53_6 : decode cJ9_max_7cf53 6 = .ok (.goto 4, 3) := by decide +kernel
theorem dJ9_max_7cf53_9 : decode cJ9_max_7cf53 9 = .ok (.iload_n 1, 1) := by decide +kernel
theorem dJ9_max_7cf53_10 : decode cJ9_max_7cf53 10 = .ok (.ireturn, 1) := by decide +kernel
theorem dJ9_min_7cf53_0 : decode cJ9_min_7cf53 0 = .ok (.iload_n 0, 1) := by decide +kernel
theorem dJ9_min_7cf53_1 : decode cJ9_min_7cf53 1 = .ok (.iload_n 1, 1) := by decide +kernel
theorem dJ9_min_7cf53_2 : decode cJ9_min_7cf53 2 = .ok (.if_icmp .gt 7, 3) := by decide +kernel
theorem dJ9_min_7cf53_5 : decode cJ9_min_7cf53 5 = .ok (.iload_n 0, 1) := by decide +kernel
theorem dJ9_min_7cf53_6 : decode cJ9_min_7cf53 6 = .ok (.goto 4, 3) := by decide +kernel
theorem dJ9_min_7cf53_9 : decode cJ9_min_7cf53 9 = .ok (.iload_n 1, 1) := by decide +kernel
theorem dJ9_min_7cf53_10 : decode cJ9_min_7cf53 10 = .ok (.ireturn, 1) := by decide +kernel
set_option maxRecDepth 20000 in
theorem ggL_make_X2_make : GoodIn wsL_make wsX2_make := goodIn_ca (goodIn_r _ [6, 7, 8, 9, 10, 11, 12, 13, 14, 15, 16, 17, 18, 19, 20, 21, 22, 23, 24, 25, 26, 27, 28, 29, 30, 31, 32, 33, 34, 35, 36, 37, 38, 39, 40, 41, 42, 43, 44, 45, 46, 47, 48] (by decide +kernel) (by decide +kernel)) (goodIn_sub (fun _ h => List.mem_cons_of_mem _ (List.mem_append_right _ h)) (by decide +kernel))
set_option maxRecDepth 20000 in
theorem gL_make_X2_make : GoodIn wsL_make (wsV RL 7 RX2 yX2_make wsX2_make) := goodIn_app (goodIn_of _ (by decide +kernel)) ggL_make_X2_make
