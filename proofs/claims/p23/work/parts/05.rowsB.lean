theorem dX3_init_0 : decode cX3_init 0 = .ok (.aload_n 0, 1) := by decide +kernel
theorem dX3_init_1 : decode cX3_init 1 = .ok (.invokespecial 1, 3) := by decide +kernel
theorem dX3_init_4 : decode cX3_init 4 = .ok (.aload_n 0, 1) := by decide +kernel
theorem dX3_init_5 : decode cX3_init 5 = .ok (.bipush 6, 2) := by decide +kernel
theorem dX3_init_7 : decode cX3_init 7 = .ok (.iconst 3, 1) := by decide +kernel
theorem dX3_init_8 : decode cX3_init 8 = .ok (.multianewarray 7 2, 4) := by decide +kernel
theorem dX3_init_12 : decode cX3_init 12 = .ok (.putfield 9, 3) := by decide +kernel
theorem dX3_init_15 : decode cX3_init 15 = .ok (.aload_n 0, 1) := by decide +kernel
theorem dX3_init_16 : decode cX3_init 16 = .ok (.iconst 2, 1) := by decide +kernel
theorem dX3_init_17 : decode cX3_init 17 = .ok (.newarray .boolean, 2) := by decide +kernel
theorem dX3_init_19 : decode cX3_init 19 = .ok (.dup, 1) := by decide +kernel
theorem dX3_init_20 : decode cX3_init 20 = .ok (.iconst 0, 1) := by decide +kernel
theorem dX3_init_21 : decode cX3_init 21 = .ok (.iconst 1, 1) := by decide +kernel
theorem dX3_init_22 : decode cX3_init 22 = .ok (.bastore, 1) := by decide +kernel
theorem dX3_init_23 : decode cX3_init 23 = .ok (.dup, 1) := by decide +kernel
theorem dX3_init_24 : decode cX3_init 24 = .ok (.iconst 1, 1) := by decide +kernel
theorem dX3_init_25 : decode cX3_init 25 = .ok (.iconst 1, 1) := by decide +kernel
theorem dX3_init_26 : decode cX3_init 26 = .ok (.bastore, 1) := by decide +kernel
theorem dX3_init_27 : decode cX3_init 27 = .ok (.putfield 14, 3) := by decide +kernel
theorem dX3_init_30 : decode cX3_init 30 = .ok (.aload_n 0, 1) := by decide +kernel
theorem dX3_init_31 : decode cX3_init 31 = .ok (.iconst 2, 1) := by decide +kernel
theorem dX3_init_32 : decode cX3_init 32 = .ok (.newarray .int, 2) := by decide +kernel
theorem dX3_init_34 : decode cX3_init 34 = .ok (.putfield 18, 3) := by decide +kernel
theorem dX3_init_37 : decode cX3_init 37 = .ok (.aload_n 0, 1) := by decide +kernel
theorem dX3_init_38 : decode cX3_init 38 = .ok (.iconst 1, 1) := by decide +kernel
theorem dX3_init_39 : decode cX3_init 39 = .ok (.putfield 22, 3) := by decide +kernel
theorem dX3_init_42 : decode cX3_init 42 = .ok (.return_, 1) := by decide +kernel
theorem dX3_can_0 : decode cX3_can 0 = .ok (.iconst 0, 1) := by decide +kernel
theorem dX3_can_1 : decode cX3_can 1 = .ok (.istore_n 2, 1) := by decide +kernel
theorem dX3_can_2 : decode cX3_can 2 = .ok (.iload_n 2, 1) := by decide +kernel
theorem dX3_can_3 : decode cX3_can 3 = .ok (.bipush 6, 2) := by decide +kernel
theorem dX3_can_5 : decode cX3_can 5 = .ok (.if_icmp .ge 38, 3) := by decide +kernel
theorem dX3_can_8 : decode cX3_can 8 = .ok (.aload_n 0, 1) := by decide +kernel
theorem dX3_can_9 : decode cX3_can 9 = .ok (.getfield 9, 3) := by decide +kernel
theorem dX3_can_12 : decode cX3_can 12 = .ok (.iload_n 2, 1) := by decide +kernel
theorem dX3_can_13 : decode cX3_can 13 = .ok (.aaload, 1) := by decide +kernel
theorem dX3_can_14 : decode cX3_can 14 = .ok (.iconst 1, 1) := by decide +kernel
theorem dX3_can_15 : decode cX3_can 15 = .ok (.iaload, 1) := by decide +kernel
theorem dX3_can_16 : decode cX3_can 16 = .ok (.bipush 100, 2) := by decide +kernel
theorem dX3_can_18 : decode cX3_can 18 = .ok (.if_icmp .ne 19, 3) := by decide +kernel
theorem dX3_can_21 : decode cX3_can 21 = .ok (.aload_n 0, 1) := by decide +kernel
theorem dX3_can_22 : decode cX3_can 22 = .ok (.getfield 9, 3) := by decide +kernel
theorem dX3_can_25 : decode cX3_can 25 = .ok (.iload_n 2, 1) := by decide +kernel
theorem dX3_can_26 : decode cX3_can 26 = .ok (.aaload, 1) := by decide +kernel
theorem dX3_can_27 : decode cX3_can 27 = .ok (.iconst 0, 1) := by decide +kernel
theorem dX3_can_28 : decode cX3_can 28 = .ok (.iaload, 1) := by decide +kernel
theorem dX3_can_29 : decode cX3_can 29 = .ok (.aload_n 1, 1) := by decide +kernel
theorem dX3_can_30 : decode cX3_can 30 = .ok (.iload_n 2, 1) := by decide +kernel
theorem dX3_can_31 : decode cX3_can 31 = .ok (.iaload, 1) := by decide +kernel
theorem dX3_can_32 : decode cX3_can 32 = .ok (.if_icmp .eq 5, 3) := by decide +kernel
theorem dX3_can_35 : decode cX3_can 35 = .ok (.iconst 0, 1) := by decide +kernel
theorem dX3_can_36 : decode cX3_can 36 = .ok (.ireturn, 1) := by decide +kernel
theorem dX3_can_37 : decode cX3_can 37 = .ok (.iinc 2 1, 3) := by decide +kernel
theorem dX3_can_40 : decode cX3_can 40 = .ok (.goto (-38), 3) := by decide +kernel
theorem dX3_can_43 : decode cX3_can 43 = .ok (.iconst 1, 1) := by decide +kernel
theorem dX3_can_44 : decode cX3_can 44 = .ok (.ireturn, 1) := by decide +kernel
theorem dX3_turn_0 : decode cX3_turn 0 = .ok (.aload_n 0, 1) := by decide +kernel
theorem dX3_turn_1 : decode cX3_turn 1 = .ok (.iconst 0, 1) := by decide +kernel
theorem dX3_turn_2 : decode cX3_turn 2 = .ok (.iaload, 1) := by decide +kernel
theorem dX3_turn_3 : decode cX3_turn 3 = .ok (.iload_n 1, 1) := by decide +kernel
theorem dX3_turn_4 : decode cX3_turn 4 = .ok (.if_icmp .ge 11, 3) := by decide +kernel
theorem dX3_turn_7 : decode cX3_turn 7 = .ok (.iload_n 1, 1) := by decide +kernel
theorem dX3_turn_8 : decode cX3_turn 8 = .ok (.aload_n 0, 1) := by decide +kernel
theorem dX3_turn_9 : decode cX3_turn 9 = .ok (.iconst 0, 1) := by decide +kernel
theorem dX3_turn_10 : decode cX3_turn 10 = .ok (.iaload, 1) := by decide +kernel
theorem dX3_turn_11 : decode cX3_turn 11 = .ok (.isub, 1) := by decide +kernel
theorem dX3_turn_12 : decode cX3_turn 12 = .ok (.goto 8, 3) := by decide +kernel
theorem dX3_turn_15 : decode cX3_turn 15 = .ok (.aload_n 0, 1) := by decide +kernel
theorem dX3_turn_16 : decode cX3_turn 16 = .ok (.iconst 0, 1) := by decide +kernel
theorem dX3_turn_17 : decode cX3_turn 17 = .ok (.iaload, 1) := by decide +kernel
theorem dX3_turn_18 : decode cX3_turn 18 = .ok (.iload_n 1, 1) := by decide +kernel
theorem dX3_turn_19 : decode cX3_turn 19 = .ok (.isub, 1) := by decide +kernel
theorem dX3_turn_20 : decode cX3_turn 20 = .ok (.istore_n 2, 1) := by decide +kernel
theorem dX3_turn_21 : decode cX3_turn 21 = .ok (.aload_n 0, 1) := by decide +kernel
theorem dX3_turn_22 : decode cX3_turn 22 = .ok (.iconst 0, 1) := by decide +kernel
theorem dX3_turn_23 : decode cX3_turn 23 = .ok (.iload_n 1, 1) := by decide +kernel
theorem dX3_turn_24 : decode cX3_turn 24 = .ok (.iastore, 1) := by decide +kernel
theorem dX3_turn_25 : decode cX3_turn 25 = .ok (.iload_n 2, 1) := by decide +kernel
theorem dX3_turn_26 : decode cX3_turn 26 = .ok (.ifCond .ne 5, 3) := by decide +kernel
theorem dX3_turn_29 : decode cX3_turn 29 = .ok (.iconst 0, 1) := by decide +kernel
theorem dX3_turn_30 : decode cX3_turn 30 = .ok (.ireturn, 1) := by decide +kernel
theorem dX3_turn_31 : decode cX3_turn 31 = .ok (.aload_n 0, 1) := by decide +kernel
theorem dX3_turn_32 : decode cX3_turn 32 = .ok (.iconst 2, 1) := by decide +kernel
theorem dX3_turn_33 : decode cX3_turn 33 = .ok (.iaload, 1) := by decide +kernel
theorem dX3_turn_34 : decode cX3_turn 34 = .ok (.ifCond .ne 12, 3) := by decide +kernel
theorem dX3_turn_37 : decode cX3_turn 37 = .ok (.iload_n 2, 1) := by decide +kernel
theorem dX3_turn_38 : decode cX3_turn 38 = .ok (.bipush 10, 2) := by decide +kernel
theorem dX3_turn_40 : decode cX3_turn 40 = .ok (.idiv, 1) := by decide +kernel
theorem dX3_turn_41 : decode cX3_turn 41 = .ok (.iconst 1, 1) := by decide +kernel
theorem dX3_turn_42 : decode cX3_turn 42 = .ok (.iadd, 1) := by decide +kernel
theorem dX3_turn_43 : decode cX3_turn 43 = .ok (.goto 7, 3) := by decide +kernel
theorem dX3_turn_46 : decode cX3_turn 46 = .ok (.iload_n 2, 1) := by decide +kernel
theorem dX3_turn_47 : decode cX3_turn 47 = .ok (.bipush 20, 2) := by decide +kernel
theorem dX3_turn_49 : decode cX3_turn 49 = .ok (.idiv, 1) := by decide +kernel
theorem dX3_turn_50 : decode cX3_turn 50 = .ok (.istore_n 3, 1) := by decide +kernel
theorem dX3_turn_51 : decode cX3_turn 51 = .ok (.aload_n 0, 1) := by decide +kernel
theorem dX3_turn_52 : decode cX3_turn 52 = .ok (.iconst 2, 1) := by decide +kernel
theorem dX3_turn_53 : decode cX3_turn 53 = .ok (.iaload, 1) := by decide +kernel
theorem dX3_turn_54 : decode cX3_turn 54 = .ok (.ifCond .le 10, 3) := by decide +kernel
theorem dX3_turn_57 : decode cX3_turn 57 = .ok (.aload_n 0, 1) := by decide +kernel
theorem dX3_turn_58 : decode cX3_turn 58 = .ok (.iconst 2, 1) := by decide +kernel
theorem dX3_turn_59 : decode cX3_turn 59 = .ok (.dup2, 1) := by decide +kernel
theorem dX3_turn_60 : decode cX3_turn 60 = .ok (.iaload, 1) := by decide +kernel
theorem dX3_turn_61 : decode cX3_turn 61 = .ok (.iconst 1, 1) := by decide +kernel
theorem dX3_turn_62 : decode cX3_turn 62 = .ok (.isub, 1) := by decide +kernel
theorem dX3_turn_63 : decode cX3_turn 63 = .ok (.iastore, 1) := by decide +kernel
theorem dX3_turn_64 : decode cX3_turn 64 = .ok (.aload_n 0, 1) := by decide +kernel
theorem dX3_turn_65 : decode cX3_turn 65 = .ok (.iconst 1, 1) := by decide +kernel
theorem dX3_turn_66 : decode cX3_turn 66 = .ok (.iaload, 1) := by decide +kernel
theorem dX3_turn_67 : decode cX3_turn 67 = .ok (.iload_n 3, 1) := by decide +kernel
theorem dX3_turn_68 : decode cX3_turn 68 = .ok (.iadd, 1) := by decide +kernel
theorem dX3_turn_69 : decode cX3_turn 69 = .ok (.bipush 100, 2) := by decide +kernel
theorem dX3_turn_71 : decode cX3_turn 71 = .ok (.if_icmp .le 10, 3) := by decide +kernel
theorem dX3_turn_74 : decode cX3_turn 74 = .ok (.bipush 100, 2) := by decide +kernel
theorem dX3_turn_76 : decode cX3_turn 76 = .ok (.aload_n 0, 1) := by decide +kernel
theorem dX3_turn_77 : decode cX3_turn 77 = .ok (.iconst 1, 1) := by decide +kernel
theorem dX3_turn_78 : decode cX3_turn 78 = .ok (.iaload, 1) := by decide +kernel
theorem dX3_turn_79 : decode cX3_turn 79 = .ok (.isub, 1) := by decide +kernel
theorem dX3_turn_80 : decode cX3_turn 80 = .ok (.istore_n 3, 1) := by decide +kernel
theorem dX3_turn_81 : decode cX3_turn 81 = .ok (.aload_n 0, 1) := by decide +kernel
theorem dX3_turn_82 : decode cX3_turn 82 = .ok (.iconst 1, 1) := by decide +kernel
theorem dX3_turn_83 : decode cX3_turn 83 = .ok (.dup2, 1) := by decide +kernel
theorem dX3_turn_84 : decode cX3_turn 84 = .ok (.iaload, 1) := by decide +kernel
theorem dX3_turn_85 : decode cX3_turn 85 = .ok (.iload_n 3, 1) := by decide +kernel
theorem dX3_turn_86 : decode cX3_turn 86 = .ok (.iadd, 1) := by decide +kernel
theorem dX3_turn_87 : decode cX3_turn 87 = .ok (.iastore, 1) := by decide +kernel
theorem dX3_turn_88 : decode cX3_turn 88 = .ok (.iload_n 3, 1) := by decide +kernel
theorem dX3_turn_89 : decode cX3_turn 89 = .ok (.ireturn, 1) := by decide +kernel
set_option maxRecDepth 20000 in
theorem ggX3_turn__X3_turn : GoodIn wsX3_turn_ wsX3_turn := goodIn_r _ [5] (by decide +kernel) (by decide +kernel)
set_option maxRecDepth 20000 in
theorem gX3_turn__X3_turn : GoodIn wsX3_turn_ (va_wsS RX3 42 yX3_turn wsX3_turn) := goodIn_app (goodIn_of _ (by decide +kernel)) ggX3_turn__X3_turn
theorem dX3_turn__0 : decode cX3_turn_ 0 = .ok (.iconst 0, 1) := by decide +kernel
theorem dX3_turn__1 : decode cX3_turn_ 1 = .ok (.istore_n 2, 1) := by decide +kernel
theorem dX3_turn__2 : decode cX3_turn_ 2 = .ok (.iconst 0, 1) := by decide +kernel
theorem dX3_turn__3 : decode cX3_turn_ 3 = .ok (.istore_n 3, 1) := by decide +kernel
theorem dX3_turn__4 : decode cX3_turn_ 4 = .ok (.iload_n 3, 1) := by decide +kernel
theorem dX3_turn__5 : decode cX3_turn_ 5 = .ok (.bipush 6, 2) := by decide +kernel
theorem dX3_turn__7 : decode cX3_turn_ 7 = .ok (.if_icmp .ge 24, 3) := by decide +kernel
theorem dX3_turn__10 : decode cX3_turn_ 10 = .ok (.iload_n 2, 1) := by decide +kernel
theorem dX3_turn__11 : decode cX3_turn_ 11 = .ok (.aload_n 0, 1) := by decide +kernel
theorem dX3_turn__12 : decode cX3_turn_ 12 = .ok (.getfield 9, 3) := by decide +kernel
theorem dX3_turn__15 : decode cX3_turn_ 15 = .ok (.iload_n 3, 1) := by decide +kernel
theorem dX3_turn__16 : decode cX3_turn_ 16 = .ok (.aaload, 1) := by decide +kernel
theorem dX3_turn__17 : decode cX3_turn_ 17 = .ok (.aload_n 1, 1) := by decide +kernel
theorem dX3_turn__18 : decode cX3_turn_ 18 = .ok (.iload_n 3, 1) := by decide +kernel
theorem dX3_turn__19 : decode cX3_turn_ 19 = .ok (.iaload, 1) := by decide +kernel
theorem dX3_turn__20 : decode cX3_turn_ 20 = .ok (.invokestatic 42, 3) := by decide +kernel
theorem dX3_turn__23 : decode cX3_turn_ 23 = .ok (.iadd, 1) := by decide +kernel
theorem dX3_turn__24 : decode cX3_turn_ 24 = .ok (.istore_n 2, 1) := by decide +kernel
theorem dX3_turn__25 : decode cX3_turn_ 25 = .ok (.iinc 3 1, 3) := by decide +kernel
theorem dX3_turn__28 : decode cX3_turn_ 28 = .ok (.goto (-24), 3) := by decide +kernel
theorem dX3_turn__31 : decode cX3_turn_ 31 = .ok (.iload_n 2, 1) := by decide +kernel
theorem dX3_turn__32 : decode cX3_turn_ 32 = .ok (.ireturn, 1) := by decide +kernel
theorem dX3_broken_0 : decode cX3_broken 0 = .ok (.iconst 0, 1) := by decide +kernel
theorem dX3_broken_1 : decode cX3_broken 1 = .ok (.istore_n 1, 1) := by decide +kernel
theorem dX3_broken_2 : decode cX3_broken 2 = .ok (.aload_n 0, 1) := by decide +kernel
theorem dX3_broken_3 : decode cX3_broken 3 = .ok (.getfield 9, 3) := by decide +kernel
theorem dX3_broken_6 : decode cX3_broken 6 = .ok (.astore_n 2, 1) := by decide +kernel
theorem dX3_broken_7 : decode cX3_broken 7 = .ok (.aload_n 2, 1) := by decide +kernel
theorem dX3_broken_8 : decode cX3_broken 8 = .ok (.arraylength, 1) := by decide +kernel
theorem dX3_broken_9 : decode cX3_broken 9 = .ok (.istore_n 3, 1) := by decide +kernel
theorem dX3_broken_10 : decode cX3_broken 10 = .ok (.iconst 0, 1) := by decide +kernel
theorem dX3_broken_11 : decode cX3_broken 11 = .ok (.istore 4, 2) := by decide +kernel
theorem dX3_broken_13 : decode cX3_broken 13 = .ok (.iload 4, 2) := by decide +kernel
theorem dX3_broken_15 : decode cX3_broken 15 = .ok (.iload_n 3, 1) := by decide +kernel
theorem dX3_broken_16 : decode cX3_broken 16 = .ok (.if_icmp .ge 32, 3) := by decide +kernel
theorem dX3_broken_19 : decode cX3_broken 19 = .ok (.aload_n 2, 1) := by decide +kernel
theorem dX3_broken_20 : decode cX3_broken 20 = .ok (.iload 4, 2) := by decide +kernel
theorem dX3_broken_22 : decode cX3_broken 22 = .ok (.aaload, 1) := by decide +kernel
theorem dX3_broken_23 : decode cX3_broken 23 = .ok (.astore 5, 2) := by decide +kernel
theorem dX3_broken_25 : decode cX3_broken 25 = .ok (.iload_n 1, 1) := by decide +kernel
theorem dX3_broken_26 : decode cX3_broken 26 = .ok (.aload 5, 2) := by decide +kernel
theorem dX3_broken_28 : decode cX3_broken 28 = .ok (.iconst 1, 1) := by decide +kernel
theorem dX3_broken_29 : decode cX3_broken 29 = .ok (.iaload, 1) := by decide +kernel
theorem dX3_broken_30 : decode cX3_broken 30 = .ok (.bipush 100, 2) := by decide +kernel
theorem dX3_broken_32 : decode cX3_broken 32 = .ok (.if_icmp .ne 7, 3) := by decide +kernel
theorem dX3_broken_35 : decode cX3_broken 35 = .ok (.iconst 1, 1) := by decide +kernel
theorem dX3_broken_36 : decode cX3_broken 36 = .ok (.goto 4, 3) := by decide +kernel
theorem dX3_broken_39 : decode cX3_broken 39 = .ok (.iconst 0, 1) := by decide +kernel
theorem dX3_broken_40 : decode cX3_broken 40 = .ok (.iadd, 1) := by decide +kernel
theorem dX3_broken_41 : decode cX3_broken 41 = .ok (.istore_n 1, 1) := by decide +kernel
theorem dX3_broken_42 : decode cX3_broken 42 = .ok (.iinc 4 1, 3) := by decide +kernel
theorem dX3_broken_45 : decode cX3_broken 45 = .ok (.goto (-32), 3) := by decide +kernel
theorem dX3_broken_48 : decode cX3_broken 48 = .ok (.iload_n 1, 1) := by decide +kernel
theorem dX3_broken_49 : decode cX3_broken 49 = .ok (.ireturn, 1) := by decide +kernel
theorem dX3_pass_0 : decode cX3_pass 0 = .ok (.iconst 0, 1) := by decide +kernel
theorem dX3_pass_1 : decode cX3_pass 1 = .ok (.istore_n 3, 1) := by decide +kernel
theorem dX3_pass_2 : decode cX3_pass 2 = .ok (.aload_n 0, 1) := by decide +kernel
theorem dX3_pass_3 : decode cX3_pass 3 = .ok (.getfield 22, 3) := by decide +kernel
theorem dX3_pass_6 : decode cX3_pass 6 = .ok (.ifCond .eq 30, 3) := by decide +kernel
theorem dX3_pass_9 : decode cX3_pass 9 = .ok (.aload_n 0, 1) := by decide +kernel
theorem dX3_pass_10 : decode cX3_pass 10 = .ok (.dup, 1) := by decide +kernel
theorem dX3_pass_11 : decode cX3_pass 11 = .ok (.getfield 32, 3) := by decide +kernel
theorem dX3_pass_14 : decode cX3_pass 14 = .ok (.iload_n 2, 1) := by decide +kernel
theorem dX3_pass_15 : decode cX3_pass 15 = .ok (.iadd, 1) := by decide +kernel
theorem dX3_pass_16 : decode cX3_pass 16 = .ok (.putfield 32, 3) := by decide +kernel
theorem dX3_pass_19 : decode cX3_pass 19 = .ok (.aload_n 0, 1) := by decide +kernel
theorem dX3_pass_20 : decode cX3_pass 20 = .ok (.getfield 32, 3) := by decide +kernel
theorem dX3_pass_23 : decode cX3_pass 23 = .ok (.bipush 9, 2) := by decide +kernel
theorem dX3_pass_25 : decode cX3_pass 25 = .ok (.if_icmp .le 11, 3) := by decide +kernel
theorem dX3_pass_28 : decode cX3_pass 28 = .ok (.aload_n 0, 1) := by decide +kernel
theorem dX3_pass_29 : decode cX3_pass 29 = .ok (.iconst 0, 1) := by decide +kernel
theorem dX3_pass_30 : decode cX3_pass 30 = .ok (.putfield 22, 3) := by decide +kernel
theorem dX3_pass_33 : decode cX3_pass 33 = .ok (.iinc 3 1, 3) := by decide +kernel
theorem dX3_pass_36 : decode cX3_pass 36 = .ok (.aload_n 0, 1) := by decide +kernel
theorem dX3_pass_37 : decode cX3_pass 37 = .ok (.getfield 36, 3) := by decide +kernel
theorem dX3_pass_40 : decode cX3_pass 40 = .ok (.ifCond .le 33, 3) := by decide +kernel
theorem dX3_pass_43 : decode cX3_pass 43 = .ok (.aload_n 0, 1) := by decide +kernel
theorem dX3_pass_44 : decode cX3_pass 44 = .ok (.getfield 9, 3) := by decide +kernel
theorem dX3_pass_47 : decode cX3_pass 47 = .ok (.iconst 5, 1) := by decide +kernel
theorem dX3_pass_48 : decode cX3_pass 48 = .ok (.aaload, 1) := by decide +kernel
theorem dX3_pass_49 : decode cX3_pass 49 = .ok (.iconst 1, 1) := by decide +kernel
theorem dX3_pass_50 : decode cX3_pass 50 = .ok (.iaload, 1) := by decide +kernel
theorem dX3_pass_51 : decode cX3_pass 51 = .ok (.bipush 49, 2) := by decide +kernel
theorem dX3_pass_53 : decode cX3_pass 53 = .ok (.if_icmp .le 20, 3) := by decide +kernel
theorem dX3_pass_56 : decode cX3_pass 56 = .ok (.aload_n 0, 1) := by decide +kernel
theorem dX3_pass_57 : decode cX3_pass 57 = .ok (.getfield 39, 3) := by decide +kernel
theorem dX3_pass_60 : decode cX3_pass 60 = .ok (.ifCond .le 13, 3) := by decide +kernel
theorem dX3_pass_63 : decode cX3_pass 63 = .ok (.aload_n 0, 1) := by decide +kernel
theorem dX3_pass_64 : decode cX3_pass 64 = .ok (.dup, 1) := by decide +kernel
theorem dX3_pass_65 : decode cX3_pass 65 = .ok (.getfield 39, 3) := by decide +kernel
theorem dX3_pass_68 : decode cX3_pass 68 = .ok (.iconst 1, 1) := by decide +kernel
theorem dX3_pass_69 : decode cX3_pass 69 = .ok (.isub, 1) := by decide +kernel
theorem dX3_pass_70 : decode cX3_pass 70 = .ok (.putfield 39, 3) := by decide +kernel
theorem dX3_pass_73 : decode cX3_pass 73 = .ok (.aload_n 0, 1) := by decide +kernel
theorem dX3_pass_74 : decode cX3_pass 74 = .ok (.getfield 39, 3) := by decide +kernel
theorem dX3_pass_77 : decode cX3_pass 77 = .ok (.aload_n 0, 1) := by decide +kernel
theorem dX3_pass_78 : decode cX3_pass 78 = .ok (.getfield 36, 3) := by decide +kernel
theorem dX3_pass_81 : decode cX3_pass 81 = .ok (.if_icmp .ge 16, 3) := by decide +kernel
theorem dX3_pass_84 : decode cX3_pass 84 = .ok (.aload_n 0, 1) := by decide +kernel
theorem dX3_pass_85 : decode cX3_pass 85 = .ok (.iconst 0, 1) := by decide +kernel
theorem dX3_pass_86 : decode cX3_pass 86 = .ok (.putfield 36, 3) := by decide +kernel
theorem dX3_pass_89 : decode cX3_pass 89 = .ok (.aload_n 0, 1) := by decide +kernel
theorem dX3_pass_90 : decode cX3_pass 90 = .ok (.iconst 0, 1) := by decide +kernel
theorem dX3_pass_91 : decode cX3_pass 91 = .ok (.putfield 39, 3) := by decide +kernel
theorem dX3_pass_94 : decode cX3_pass 94 = .ok (.iinc 3 1, 3) := by decide +kernel
theorem dX3_pass_97 : decode cX3_pass 97 = .ok (.aload_n 0, 1) := by decide +kernel
theorem dX3_pass_98 : decode cX3_pass 98 = .ok (.getfield 9, 3) := by decide +kernel
theorem dX3_pass_101 : decode cX3_pass 101 = .ok (.astore 4, 2) := by decide +kernel
theorem dX3_pass_103 : decode cX3_pass 103 = .ok (.aload 4, 2) := by decide +kernel
theorem dX3_pass_105 : decode cX3_pass 105 = .ok (.arraylength, 1) := by decide +kernel
theorem dX3_pass_106 : decode cX3_pass 106 = .ok (.istore 5, 2) := by decide +kernel
theorem dX3_pass_108 : decode cX3_pass 108 = .ok (.iconst 0, 1) := by decide +kernel
theorem dX3_pass_109 : decode cX3_pass 109 = .ok (.istore 6, 2) := by decide +kernel
theorem dX3_pass_111 : decode cX3_pass 111 = .ok (.iload 6, 2) := by decide +kernel
theorem dX3_pass_113 : decode cX3_pass 113 = .ok (.iload 5, 2) := by decide +kernel
theorem dX3_pass_115 : decode cX3_pass 115 = .ok (.if_icmp .ge 37, 3) := by decide +kernel
theorem dX3_pass_118 : decode cX3_pass 118 = .ok (.aload 4, 2) := by decide +kernel
theorem dX3_pass_120 : decode cX3_pass 120 = .ok (.iload 6, 2) := by decide +kernel
theorem dX3_pass_122 : decode cX3_pass 122 = .ok (.aaload, 1) := by decide +kernel
theorem dX3_pass_123 : decode cX3_pass 123 = .ok (.astore 7, 2) := by decide +kernel
theorem dX3_pass_125 : decode cX3_pass 125 = .ok (.iload_n 1, 1) := by decide +kernel
theorem dX3_pass_126 : decode cX3_pass 126 = .ok (.iconst 3, 1) := by decide +kernel
theorem dX3_pass_127 : decode cX3_pass 127 = .ok (.irem, 1) := by decide +kernel
theorem dX3_pass_128 : decode cX3_pass 128 = .ok (.ifCond .ne 18, 3) := by decide +kernel
theorem dX3_pass_131 : decode cX3_pass 131 = .ok (.aload 7, 2) := by decide +kernel
theorem dX3_pass_133 : decode cX3_pass 133 = .ok (.iconst 2, 1) := by decide +kernel
theorem dX3_pass_134 : decode cX3_pass 134 = .ok (.iaload, 1) := by decide +kernel
theorem dX3_pass_135 : decode cX3_pass 135 = .ok (.ifCond .le 11, 3) := by decide +kernel
theorem dX3_pass_138 : decode cX3_pass 138 = .ok (.aload 7, 2) := by decide +kernel
theorem dX3_pass_140 : decode cX3_pass 140 = .ok (.iconst 2, 1) := by decide +kernel
theorem dX3_pass_141 : decode cX3_pass 141 = .ok (.dup2, 1) := by decide +kernel
theorem dX3_pass_142 : decode cX3_pass 142 = .ok (.iaload, 1) := by decide +kernel
theorem dX3_pass_143 : decode cX3_pass 143 = .ok (.iconst 1, 1) := by decide +kernel
theorem dX3_pass_144 : decode cX3_pass 144 = .ok (.isub, 1) := by decide +kernel
theorem dX3_pass_145 : decode cX3_pass 145 = .ok (.iastore, 1) := by decide +kernel
theorem dX3_pass_146 : decode cX3_pass 146 = .ok (.iinc 6 1, 3) := by decide +kernel
theorem dX3_pass_149 : decode cX3_pass 149 = .ok (.goto (-38), 3) := by decide +kernel
theorem dX3_pass_152 : decode cX3_pass 152 = .ok (.iconst 0, 1) := by decide +kernel
theorem dX3_pass_153 : decode cX3_pass 153 = .ok (.istore 4, 2) := by decide +kernel
theorem dX3_pass_155 : decode cX3_pass 155 = .ok (.iload 4, 2) := by decide +kernel
theorem dX3_pass_157 : decode cX3_pass 157 = .ok (.iconst 2, 1) := by decide +kernel
theorem dX3_pass_158 : decode cX3_pass 158 = .ok (.if_icmp .ge 42, 3) := by decide +kernel
theorem dX3_pass_161 : decode cX3_pass 161 = .ok (.aload_n 0, 1) := by decide +kernel
theorem dX3_pass_162 : decode cX3_pass 162 = .ok (.getfield 14, 3) := by decide +kernel
theorem dX3_pass_165 : decode cX3_pass 165 = .ok (.iload 4, 2) := by decide +kernel
theorem dX3_pass_167 : decode cX3_pass 167 = .ok (.baload, 1) := by decide +kernel
theorem dX3_pass_168 : decode cX3_pass 168 = .ok (.ifCond .eq 26, 3) := by decide +kernel
theorem dX3_pass_171 : decode cX3_pass 171 = .ok (.aload_n 0, 1) := by decide +kernel
theorem dX3_pass_172 : decode cX3_pass 172 = .ok (.getfield 18, 3) := by decide +kernel
theorem dX3_pass_175 : decode cX3_pass 175 = .ok (.iload 4, 2) := by decide +kernel
theorem dX3_pass_177 : decode cX3_pass 177 = .ok (.iaload, 1) := by decide +kernel
theorem dX3_pass_178 : decode cX3_pass 178 = .ok (.bipush 9, 2) := by decide +kernel
theorem dX3_pass_180 : decode cX3_pass 180 = .ok (.if_icmp .ge 14, 3) := by decide +kernel
theorem dX3_pass_183 : decode cX3_pass 183 = .ok (.aload_n 0, 1) := by decide +kernel
theorem dX3_pass_184 : decode cX3_pass 184 = .ok (.getfield 18, 3) := by decide +kernel
theorem dX3_pass_187 : decode cX3_pass 187 = .ok (.iload 4, 2) := by decide +kernel
theorem dX3_pass_189 : decode cX3_pass 189 = .ok (.dup2, 1) := by decide +kernel
theorem dX3_pass_190 : decode cX3_pass 190 = .ok (.iaload, 1) := by decide +kernel
theorem dX3_pass_191 : decode cX3_pass 191 = .ok (.iconst 1, 1) := by decide +kernel
theorem dX3_pass_192 : decode cX3_pass 192 = .ok (.iadd, 1) := by decide +kernel
theorem dX3_pass_193 : decode cX3_pass 193 = .ok (.iastore, 1) := by decide +kernel
theorem dX3_pass_194 : decode cX3_pass 194 = .ok (.iinc 4 1, 3) := by decide +kernel
theorem dX3_pass_197 : decode cX3_pass 197 = .ok (.goto (-42), 3) := by decide +kernel
theorem dX3_pass_200 : decode cX3_pass 200 = .ok (.iload_n 3, 1) := by decide +kernel
theorem dX3_pass_201 : decode cX3_pass 201 = .ok (.ireturn, 1) := by decide +kernel
theorem dX4_init_0 : decode cX4_init 0 = .ok (.aload_n 0, 1) := by decide +kernel
theorem dX4_init_1 : decode cX4_init 1 = .ok (.invokespecial 1, 3) := by decide +kernel
theorem dX4_init_4 : decode cX4_init 4 = .ok (.aload_n 0, 1) := by decide +kernel
theorem dX4_init_5 : decode cX4_init 5 = .ok (.iconst 0, 1) := by decide +kernel
theorem dX4_init_6 : decode cX4_init 6 = .ok (.anewarray 7, 3) := by decide +kernel
theorem dX4_init_9 : decode cX4_init 9 = .ok (.putfield 9, 3) := by decide +kernel
theorem dX4_init_12 : decode cX4_init 12 = .ok (.aload_n 0, 1) := by decide +kernel
theorem dX4_init_13 : decode cX4_init 13 = .ok (.iconst 0, 1) := by decide +kernel
theorem dX4_init_14 : decode cX4_init 14 = .ok (.anewarray 15, 3) := by decide +kernel
theorem dX4_init_17 : decode cX4_init 17 = .ok (.putfield 17, 3) := by decide +kernel
theorem dX4_init_20 : decode cX4_init 20 = .ok (.aload_n 0, 1) := by decide +kernel
theorem dX4_init_21 : decode cX4_init 21 = .ok (.iconst 5, 1) := by decide +kernel
theorem dX4_init_22 : decode cX4_init 22 = .ok (.newarray .int, 2) := by decide +kernel
theorem dX4_init_24 : decode cX4_init 24 = .ok (.putfield 21, 3) := by decide +kernel
theorem dX4_init_27 : decode cX4_init 27 = .ok (.aload_n 0, 1) := by decide +kernel
theorem dX4_init_28 : decode cX4_init 28 = .ok (.iconst 1, 1) := by decide +kernel
theorem dX4_init_29 : decode cX4_init 29 = .ok (.putfield 24, 3) := by decide +kernel
theorem dX4_init_32 : decode cX4_init 32 = .ok (.return_, 1) := by decide +kernel
set_option maxRecDepth 20000 in
theorem ggX4_pass_X3_pass : GoodIn wsX4_pass wsX3_pass := goodIn_r _ [8, 9, 10, 11, 12, 13, 14, 15, 21, 22, 23, 24, 25, 26, 27, 28] (by decide +kernel) (by decide +kernel)
set_option maxRecDepth 20000 in
theorem gX4_pass_X3_pass : GoodIn wsX4_pass (wsV RX4 36 RX3 yX3_pass wsX3_pass) := goodIn_app (goodIn_of _ (by decide +kernel)) ggX4_pass_X3_pass
theorem dX4_pass_0 : decode cX4_pass 0 = .ok (.iconst 0, 1) := by decide +kernel
theorem dX4_pass_1 : decode cX4_pass 1 = .ok (.istore_n 1, 1) := by decide +kernel
theorem dX4_pass_2 : decode cX4_pass 2 = .ok (.aload_n 0, 1) := by decide +kernel
theorem dX4_pass_3 : decode cX4_pass 3 = .ok (.getfield 9, 3) := by decide +kernel
theorem dX4_pass_6 : decode cX4_pass 6 = .ok (.astore_n 2, 1) := by decide +kernel
theorem dX4_pass_7 : decode cX4_pass 7 = .ok (.aload_n 2, 1) := by decide +kernel
theorem dX4_pass_8 : decode cX4_pass 8 = .ok (.arraylength, 1) := by decide +kernel
theorem dX4_pass_9 : decode cX4_pass 9 = .ok (.istore_n 3, 1) := by decide +kernel
theorem dX4_pass_10 : decode cX4_pass 10 = .ok (.iconst 0, 1) := by decide +kernel
theorem dX4_pass_11 : decode cX4_pass 11 = .ok (.istore 4, 2) := by decide +kernel
theorem dX4_pass_13 : decode cX4_pass 13 = .ok (.iload 4, 2) := by decide +kernel
theorem dX4_pass_15 : decode cX4_pass 15 = .ok (.iload_n 3, 1) := by decide +kernel
theorem dX4_pass_16 : decode cX4_pass 16 = .ok (.if_icmp .ge 31, 3) := by decide +kernel
theorem dX4_pass_19 : decode cX4_pass 19 = .ok (.aload_n 2, 1) := by decide +kernel
theorem dX4_pass_20 : decode cX4_pass 20 = .ok (.iload 4, 2) := by decide +kernel
theorem dX4_pass_22 : decode cX4_pass 22 = .ok (.aaload, 1) := by decide +kernel
theorem dX4_pass_23 : decode cX4_pass 23 = .ok (.astore 5, 2) := by decide +kernel
theorem dX4_pass_25 : decode cX4_pass 25 = .ok (.iload_n 1, 1) := by decide +kernel
theorem dX4_pass_26 : decode cX4_pass 26 = .ok (.aload 5, 2) := by decide +kernel
theorem dX4_pass_28 : decode cX4_pass 28 = .ok (.aload_n 0, 1) := by decide +kernel
theorem dX4_pass_29 : decode cX4_pass 29 = .ok (.getfield 33, 3) := by decide +kernel
theorem dX4_pass_32 : decode cX4_pass 32 = .ok (.aload_n 0, 1) := by decide +kernel
theorem dX4_pass_33 : decode cX4_pass 33 = .ok (.getfield 24, 3) := by decide +kernel
theorem dX4_pass_36 : decode cX4_pass 36 = .ok (.invokevirtual 36, 3) := by decide +kernel
theorem dX4_pass_39 : decode cX4_pass 39 = .ok (.iadd, 1) := by decide +kernel
theorem dX4_pass_40 : decode cX4_pass 40 = .ok (.istore_n 1, 1) := by decide +kernel
theorem dX4_pass_41 : decode cX4_pass 41 = .ok (.iinc 4 1, 3) := by decide +kernel
theorem dX4_pass_44 : decode cX4_pass 44 = .ok (.goto (-31), 3) := by decide +kernel
theorem dX4_pass_47 : decode cX4_pass 47 = .ok (.aload_n 0, 1) := by decide +kernel
theorem dX4_pass_48 : decode cX4_pass 48 = .ok (.dup, 1) := by decide +kernel
theorem dX4_pass_49 : decode cX4_pass 49 = .ok (.getfield 33, 3) := by decide +kernel
theorem dX4_pass_52 : decode cX4_pass 52 = .ok (.iconst 1, 1) := by decide +kernel
theorem dX4_pass_53 : decode cX4_pass 53 = .ok (.iadd, 1) := by decide +kernel
theorem dX4_pass_54 : decode cX4_pass 54 = .ok (.putfield 33, 3) := by decide +kernel
theorem dX4_pass_57 : decode cX4_pass 57 = .ok (.iload_n 1, 1) := by decide +kernel
theorem dX4_pass_58 : decode cX4_pass 58 = .ok (.ireturn, 1) := by decide +kernel
set_option maxRecDepth 20000 in
theorem ggX4_told_X3_broken : GoodIn wsX4_told wsX3_broken := goodIn_r _ [9, 10, 16, 17, 18, 19, 20, 21, 22, 23] (by decide +kernel) (by decide +kernel)
set_option maxRecDepth 20000 in
theorem gX4_told_X3_broken : GoodIn wsX4_told (wsV RX4 40 RX3 yX3_broken wsX3_broken) := goodIn_app (goodIn_of _ (by decide +kernel)) ggX4_told_X3_broken
theorem dX4_told_0 : decode cX4_told 0 = .ok (.iconst 0, 1) := by decide +kernel
theorem dX4_told_1 : decode cX4_told 1 = .ok (.istore_n 2, 1) := by decide +kernel
theorem dX4_told_2 : decode cX4_told 2 = .ok (.aload_n 0, 1) := by decide +kernel
theorem dX4_told_3 : decode cX4_told 3 = .ok (.getfield 9, 3) := by decide +kernel
theorem dX4_told_6 : decode cX4_told 6 = .ok (.astore_n 3, 1) := by decide +kernel
theorem dX4_told_7 : decode cX4_told 7 = .ok (.aload_n 3, 1) := by decide +kernel
theorem dX4_told_8 : decode cX4_told 8 = .ok (.arraylength, 1) := by decide +kernel
theorem dX4_told_9 : decode cX4_told 9 = .ok (.istore 4, 2) := by decide +kernel
theorem dX4_told_11 : decode cX4_told 11 = .ok (.iconst 0, 1) := by decide +kernel
theorem dX4_told_12 : decode cX4_told 12 = .ok (.istore 5, 2) := by decide +kernel
theorem dX4_told_14 : decode cX4_told 14 = .ok (.iload 5, 2) := by decide +kernel
theorem dX4_told_16 : decode cX4_told 16 = .ok (.iload 4, 2) := by decide +kernel
theorem dX4_told_18 : decode cX4_told 18 = .ok (.if_icmp .ge 127, 3) := by decide +kernel
theorem dX4_told_21 : decode cX4_told 21 = .ok (.aload_n 3, 1) := by decide +kernel
theorem dX4_told_22 : decode cX4_told 22 = .ok (.iload 5, 2) := by decide +kernel
theorem dX4_told_24 : decode cX4_told 24 = .ok (.aaload, 1) := by decide +kernel
theorem dX4_told_25 : decode cX4_told 25 = .ok (.astore 6, 2) := by decide +kernel
theorem dX4_told_27 : decode cX4_told 27 = .ok (.iload_n 1, 1) := by decide +kernel
theorem dX4_told_28 : decode cX4_told 28 = .ok (.iconst 4, 1) := by decide +kernel
theorem dX4_told_29 : decode cX4_told 29 = .ok (.if_icmp .ne 11, 3) := by decide +kernel
theorem dX4_told_32 : decode cX4_told 32 = .ok (.iload_n 2, 1) := by decide +kernel
theorem dX4_told_33 : decode cX4_told 33 = .ok (.aload 6, 2) := by decide +kernel
theorem dX4_told_35 : decode cX4_told 35 = .ok (.invokevirtual 40, 3) := by decide +kernel
theorem dX4_told_38 : decode cX4_told 38 = .ok (.iadd, 1) := by decide +kernel
theorem dX4_told_39 : decode cX4_told 39 = .ok (.istore_n 2, 1) := by decide +kernel
theorem dX4_told_40 : decode cX4_told 40 = .ok (.iload_n 1, 1) := by decide +kernel
theorem dX4_told_41 : decode cX4_told 41 = .ok (.iconst 5, 1) := by decide +kernel
theorem dX4_told_42 : decode cX4_told 42 = .ok (.if_icmp .ne 19, 3) := by decide +kernel
theorem dX4_told_45 : decode cX4_told 45 = .ok (.iload_n 2, 1) := by decide +kernel
theorem dX4_told_46 : decode cX4_told 46 = .ok (.aload 6, 2) := by decide +kernel
theorem dX4_told_48 : decode cX4_told 48 = .ok (.getfield 44, 3) := by decide +kernel
theorem dX4_told_51 : decode cX4_told 51 = .ok (.ifCond .eq 7, 3) := by decide +kernel
theorem dX4_told_54 : decode cX4_told 54 = .ok (.iconst 1, 1) := by decide +kernel
theorem dX4_told_55 : decode cX4_told 55 = .ok (.goto 4, 3) := by decide +kernel
theorem dX4_told_58 : decode cX4_told 58 = .ok (.iconst 0, 1) := by decide +kernel
theorem dX4_told_59 : decode cX4_told 59 = .ok (.iadd, 1) := by decide +kernel
theorem dX4_told_60 : decode cX4_told 60 = .ok (.istore_n 2, 1) := by decide +kernel
theorem dX4_told_61 : decode cX4_told 61 = .ok (.iload_n 1, 1) := by decide +kernel
theorem dX4_told_62 : decode cX4_told 62 = .ok (.bipush 6, 2) := by decide +kernel
theorem dX4_told_64 : decode cX4_told 64 = .ok (.if_icmp .ne 19, 3) := by decide +kernel
theorem dX4_told_67 : decode cX4_told 67 = .ok (.iload_n 2, 1) := by decide +kernel
theorem dX4_told_68 : decode cX4_told 68 = .ok (.aload 6, 2) := by decide +kernel
theorem dX4_told_70 : decode cX4_told 70 = .ok (.getfield 48, 3) := by decide +kernel
theorem dX4_told_73 : decode cX4_told 73 = .ok (.ifCond .le 7, 3) := by decide +kernel
theorem dX4_told_76 : decode cX4_told 76 = .ok (.iconst 1, 1) := by decide +kernel
theorem dX4_told_77 : decode cX4_told 77 = .ok (.goto 4, 3) := by decide +kernel
theorem dX4_told_80 : decode cX4_told 80 = .ok (.iconst 0, 1) := by decide +kernel
theorem dX4_told_81 : decode cX4_told 81 = .ok (.iadd, 1) := by decide +kernel
theorem dX4_told_82 : decode cX4_told 82 = .ok (.istore_n 2, 1) := by decide +kernel
theorem dX4_told_83 : decode cX4_told 83 = .ok (.iload_n 1, 1) := by decide +kernel
theorem dX4_told_84 : decode cX4_told 84 = .ok (.bipush 7, 2) := by decide +kernel
theorem dX4_told_86 : decode cX4_told 86 = .ok (.if_icmp .ne 53, 3) := by decide +kernel
theorem dX4_told_89 : decode cX4_told 89 = .ok (.aload 6, 2) := by decide +kernel
theorem dX4_told_91 : decode cX4_told 91 = .ok (.getfield 51, 3) := by decide +kernel
theorem dX4_told_94 : decode cX4_told 94 = .ok (.astore 7, 2) := by decide +kernel
theorem dX4_told_96 : decode cX4_told 96 = .ok (.aload 7, 2) := by decide +kernel
theorem dX4_told_98 : decode cX4_told 98 = .ok (.arraylength, 1) := by decide +kernel
theorem dX4_told_99 : decode cX4_told 99 = .ok (.istore 8, 2) := by decide +kernel
theorem dX4_told_101 : decode cX4_told 101 = .ok (.iconst 0, 1) := by decide +kernel
theorem dX4_told_102 : decode cX4_told 102 = .ok (.istore 9, 2) := by decide +kernel
theorem dX4_told_104 : decode cX4_told 104 = .ok (.iload 9, 2) := by decide +kernel
theorem dX4_told_106 : decode cX4_told 106 = .ok (.iload 8, 2) := by decide +kernel
theorem dX4_told_108 : decode cX4_told 108 = .ok (.if_icmp .ge 31, 3) := by decide +kernel
theorem dX4_told_111 : decode cX4_told 111 = .ok (.aload 7, 2) := by decide +kernel
theorem dX4_told_113 : decode cX4_told 113 = .ok (.iload 9, 2) := by decide +kernel
theorem dX4_told_115 : decode cX4_told 115 = .ok (.iaload, 1) := by decide +kernel
theorem dX4_told_116 : decode cX4_told 116 = .ok (.istore 10, 2) := by decide +kernel
theorem dX4_told_118 : decode cX4_told 118 = .ok (.iload_n 2, 1) := by decide +kernel
theorem dX4_told_119 : decode cX4_told 119 = .ok (.iload 10, 2) := by decide +kernel
theorem dX4_told_121 : decode cX4_told 121 = .ok (.bipush 9, 2) := by decide +kernel
theorem dX4_told_123 : decode cX4_told 123 = .ok (.if_icmp .ne 7, 3) := by decide +kernel
theorem dX4_told_126 : decode cX4_told 126 = .ok (.iconst 1, 1) := by decide +kernel
theorem dX4_told_127 : decode cX4_told 127 = .ok (.goto 4, 3) := by decide +kernel
theorem dX4_told_130 : decode cX4_told 130 = .ok (.iconst 0, 1) := by decide +kernel
theorem dX4_told_131 : decode cX4_told 131 = .ok (.iadd, 1) := by decide +kernel
theorem dX4_told_132 : decode cX4_told 132 = .ok (.istore_n 2, 1) := by decide +kernel
theorem dX4_told_133 : decode cX4_told 133 = .ok (.iinc 9 1, 3) := by decide +kernel
theorem dX4_told_136 : decode cX4_told 136 = .ok (.goto (-32), 3) := by decide +kernel
theorem dX4_told_139 : decode cX4_told 139 = .ok (.iinc 5 1, 3) := by decide +kernel
theorem dX4_told_142 : decode cX4_told 142 = .ok (.goto (-128), 3) := by decide +kernel
theorem dX4_told_145 : decode cX4_told 145 = .ok (.iload_n 2, 1) := by decide +kernel
theorem dX4_told_146 : decode cX4_told 146 = .ok (.ireturn, 1) := by decide +kernel
set_option maxRecDepth 20000 in
theorem ggX4_isSame_X2_doll : GoodIn wsX4_isSame wsX2_doll := goodIn_ca (goodIn_r _ [19, 20, 21, 22, 23, 24, 25, 26, 27, 28, 29, 30, 18, 31, 32, 106, 107, 108, 109, 110, 111, 112, 113, 114, 115, 116, 117, 118, 119, 120, 121, 122, 123] (by decide +kernel) (by decide +kernel)) (goodIn_sub (fun _ h => List.mem_cons_of_mem _ (List.mem_append_right _ h)) (by decide +kernel))
set_option maxRecDepth 20000 in
theorem gX4_isSame_X2_doll : GoodIn wsX4_isSame (wsV RX4 67 RX2 yX2_doll wsX2_doll) := goodIn_app (goodIn_of _ (by decide +kernel)) ggX4_isSame_X2_doll
set_option maxRecDepth 20000 in
theorem ggX4_isSame_X2_joint : GoodIn wsX4_isSame wsX2_joint := goodIn_ca (goodIn_r _ [36, 20, 21, 37, 38, 39, 28, 29, 30, 18, 31, 32, 106, 107, 108, 109, 110, 111, 112, 113, 114, 115, 116, 117, 118, 119, 120, 121, 122, 123] (by decide +kernel) (by decide +kernel)) (goodIn_sub (fun _ h => List.mem_cons_of_mem _ (List.mem_append_right _ h)) (by decide +kernel))
set_option maxRecDepth 20000 in
theorem gX4_isSame_X2_joint : GoodIn wsX4_isSame (wsV RX4 75 RX2 yX2_joint wsX2_joint) := goodIn_app (goodIn_of _ (by decide +kernel)) ggX4_isSame_X2_joint
set_option maxRecDepth 20000 in
theorem ggX4_isSame_X4_told : GoodIn wsX4_isSame wsX4_told := goodIn_r _ [44, 1, 5, 7, 4, 45, 46, 47, 48, 49, 50, 93, 94, 95, 96, 97, 98, 99, 100, 101, 102, 103, 104, 105] (by decide +kernel) (by decide +kernel)
set_option maxRecDepth 20000 in
theorem gX4_isSame_X4_told : GoodIn wsX4_isSame (wsV RX4 79 RX4 yX4_told wsX4_told) := goodIn_app (goodIn_of _ (by decide +kernel)) ggX4_isSame_X4_told
set_option maxRecDepth 20000 in
theorem ggX4_isSame_X2_count : GoodIn wsX4_isSame wsX2_count := goodIn_ca (goodIn_r _ [54, 20, 21, 55, 56, 57, 58, 59, 60, 61, 62, 18, 63, 32, 64, 65, 66, 67, 68, 69, 70, 71, 72, 73, 74, 75, 76, 77, 78, 79, 80, 81, 82, 83, 84, 115, 116, 117, 118, 119, 120, 121, 122, 123, 106, 107, 108, 109, 110, 111, 112, 113, 114] (by decide +kernel) (by decide +kernel)) (goodIn_sub (fun _ h => List.mem_cons_of_mem _ (List.mem_append_right _ h)) (by decide +kernel))
set_option maxRecDepth 20000 in
theorem gX4_isSame_X2_count : GoodIn wsX4_isSame (wsV RX4 83 RX2 yX2_count wsX2_count) := goodIn_app (goodIn_of _ (by decide +kernel)) ggX4_isSame_X2_count
set_option maxRecDepth 20000 in
theorem ggX4_isSame_X2_mean : GoodIn wsX4_isSame wsX2_mean := goodIn_r _ [88, 57, 32, 89, 90, 91, 67, 92, 79, 115, 116, 117, 118, 119, 120, 121, 122, 123, 106, 107, 108, 109, 110, 111, 112, 113, 114] (by decide +kernel) (by decide +kernel)
set_option maxRecDepth 20000 in
theorem gX4_isSame_X2_mean : GoodIn wsX4_isSame (wsV RX4 86 RX2 yX2_mean wsX2_mean) := goodIn_app (goodIn_of _ (by decide +kernel)) ggX4_isSame_X2_mean
theorem dX4_isSame_0 : decode cX4_isSame 0 = .ok (.iconst 0, 1) := by decide +kernel
theorem dX4_isSame_1 : decode cX4_isSame 1 = .ok (.istore_n 2, 1) := by decide +kernel
theorem dX4_isSame_2 : decode cX4_isSame 2 = .ok (.iconst 0, 1) := by decide +kernel
theorem dX4_isSame_3 : decode cX4_isSame 3 = .ok (.istore_n 3, 1) := by decide +kernel
theorem dX4_isSame_4 : decode cX4_isSame 4 = .ok (.iload_n 3, 1) := by decide +kernel
theorem dX4_isSame_5 : decode cX4_isSame 5 = .ok (.aload_n 0, 1) := by decide +kernel
theorem dX4_isSame_6 : decode cX4_isSame 6 = .ok (.getfield 9, 3) := by decide +kernel
theorem dX4_isSame_9 : decode cX4_isSame 9 = .ok (.arraylength, 1) := by decide +kernel
theorem dX4_isSame_10 : decode cX4_isSame 10 = .ok (.if_icmp .ge 260, 3) := by decide +kernel
theorem dX4_isSame_13 : decode cX4_isSame 13 = .ok (.aload_n 0, 1) := by decide +kernel
theorem dX4_isSame_14 : decode cX4_isSame 14 = .ok (.getfield 9, 3) := by decide +kernel
theorem dX4_isSame_17 : decode cX4_isSame 17 = .ok (.iload_n 3, 1) := by decide +kernel
theorem dX4_isSame_18 : decode cX4_isSame 18 = .ok (.aaload, 1) := by decide +kernel
theorem dX4_isSame_19 : decode cX4_isSame 19 = .ok (.astore 4, 2) := by decide +kernel
theorem dX4_isSame_21 : decode cX4_isSame 21 = .ok (.bipush 8, 2) := by decide +kernel
theorem dX4_isSame_23 : decode cX4_isSame 23 = .ok (.newarray .int, 2) := by decide +kernel
theorem dX4_isSame_25 : decode cX4_isSame 25 = .ok (.dup, 1) := by decide +kernel
theorem dX4_isSame_26 : decode cX4_isSame 26 = .ok (.iconst 0, 1) := by decide +kernel
theorem dX4_isSame_27 : decode cX4_isSame 27 = .ok (.aload 4, 2) := by decide +kernel
theorem dX4_isSame_29 : decode cX4_isSame 29 = .ok (.getfield 54, 3) := by decide +kernel
theorem dX4_isSame_32 : decode cX4_isSame 32 = .ok (.iconst 0, 1) := by decide +kernel
theorem dX4_isSame_33 : decode cX4_isSame 33 = .ok (.baload, 1) := by decide +kernel
theorem dX4_isSame_34 : decode cX4_isSame 34 = .ok (.ifCond .eq 7, 3) := by decide +kernel
theorem dX4_isSame_37 : decode cX4_isSame 37 = .ok (.iconst 1, 1) := by decide +kernel
theorem dX4_isSame_38 : decode cX4_isSame 38 = .ok (.goto 4, 3) := by decide +kernel
theorem dX4_isSame_41 : decode cX4_isSame 41 = .ok (.iconst 0, 1) := by decide +kernel
theorem dX4_isSame_42 : decode cX4_isSame 42 = .ok (.iastore, 1) := by decide +kernel
theorem dX4_isSame_43 : decode cX4_isSame 43 = .ok (.dup, 1) := by decide +kernel
theorem dX4_isSame_44 : decode cX4_isSame 44 = .ok (.iconst 1, 1) := by decide +kernel
theorem dX4_isSame_45 : decode cX4_isSame 45 = .ok (.aload 4, 2) := by decide +kernel
theorem dX4_isSame_47 : decode cX4_isSame 47 = .ok (.getfield 54, 3) := by decide +kernel
theorem dX4_isSame_50 : decode cX4_isSame 50 = .ok (.iconst 1, 1) := by decide +kernel
theorem dX4_isSame_51 : decode cX4_isSame 51 = .ok (.baload, 1) := by decide +kernel
theorem dX4_isSame_52 : decode cX4_isSame 52 = .ok (.ifCond .eq 7, 3) := by decide +kernel
theorem dX4_isSame_55 : decode cX4_isSame 55 = .ok (.iconst 1, 1) := by decide +kernel
theorem dX4_isSame_56 : decode cX4_isSame 56 = .ok (.goto 4, 3) := by decide +kernel
theorem dX4_isSame_59 : decode cX4_isSame 59 = .ok (.iconst 0, 1) := by decide +kernel
theorem dX4_isSame_60 : decode cX4_isSame 60 = .ok (.iastore, 1) := by decide +kernel
theorem dX4_isSame_61 : decode cX4_isSame 61 = .ok (.dup, 1) := by decide +kernel
theorem dX4_isSame_62 : decode cX4_isSame 62 = .ok (.iconst 2, 1) := by decide +kernel
theorem dX4_isSame_63 : decode cX4_isSame 63 = .ok (.aload 4, 2) := by decide +kernel
theorem dX4_isSame_65 : decode cX4_isSame 65 = .ok (.getfield 51, 3) := by decide +kernel
theorem dX4_isSame_68 : decode cX4_isSame 68 = .ok (.iconst 0, 1) := by decide +kernel
theorem dX4_isSame_69 : decode cX4_isSame 69 = .ok (.iaload, 1) := by decide +kernel
theorem dX4_isSame_70 : decode cX4_isSame 70 = .ok (.iastore, 1) := by decide +kernel
theorem dX4_isSame_71 : decode cX4_isSame 71 = .ok (.dup, 1) := by decide +kernel
theorem dX4_isSame_72 : decode cX4_isSame 72 = .ok (.iconst 3, 1) := by decide +kernel
theorem dX4_isSame_73 : decode cX4_isSame 73 = .ok (.aload 4, 2) := by decide +kernel
theorem dX4_isSame_75 : decode cX4_isSame 75 = .ok (.getfield 51, 3) := by decide +kernel
theorem dX4_isSame_78 : decode cX4_isSame 78 = .ok (.iconst 1, 1) := by decide +kernel
theorem dX4_isSame_79 : decode cX4_isSame 79 = .ok (.iaload, 1) := by decide +kernel
theorem dX4_isSame_80 : decode cX4_isSame 80 = .ok (.iastore, 1) := by decide +kernel
theorem dX4_isSame_81 : decode cX4_isSame 81 = .ok (.dup, 1) := by decide +kernel
theorem dX4_isSame_82 : decode cX4_isSame 82 = .ok (.iconst 4, 1) := by decide +kernel
theorem dX4_isSame_83 : decode cX4_isSame 83 = .ok (.aload 4, 2) := by decide +kernel
theorem dX4_isSame_85 : decode cX4_isSame 85 = .ok (.getfield 44, 3) := by decide +kernel
theorem dX4_isSame_88 : decode cX4_isSame 88 = .ok (.ifCond .eq 11, 3) := by decide +kernel
theorem dX4_isSame_91 : decode cX4_isSame 91 = .ok (.aload 4, 2) := by decide +kernel
theorem dX4_isSame_93 : decode cX4_isSame 93 = .ok (.getfield 58, 3) := by decide +kernel
theorem dX4_isSame_96 : decode cX4_isSame 96 = .ok (.goto 4, 3) := by decide +kernel
theorem dX4_isSame_99 : decode cX4_isSame 99 = .ok (.iconst (-1), 1) := by decide +kernel
theorem dX4_isSame_100 : decode cX4_isSame 100 = .ok (.iastore, 1) := by decide +kernel
theorem dX4_isSame_101 : decode cX4_isSame 101 = .ok (.dup, 1) := by decide +kernel
theorem dX4_isSame_102 : decode cX4_isSame 102 = .ok (.iconst 5, 1) := by decide +kernel
theorem dX4_isSame_103 : decode cX4_isSame 103 = .ok (.aload 4, 2) := by decide +kernel
theorem dX4_isSame_105 : decode cX4_isSame 105 = .ok (.getfield 48, 3) := by decide +kernel
theorem dX4_isSame_108 : decode cX4_isSame 108 = .ok (.iastore, 1) := by decide +kernel
theorem dX4_isSame_109 : decode cX4_isSame 109 = .ok (.dup, 1) := by decide +kernel
theorem dX4_isSame_110 : decode cX4_isSame 110 = .ok (.bipush 6, 2) := by decide +kernel
theorem dX4_isSame_112 : decode cX4_isSame 112 = .ok (.aload 4, 2) := by decide +kernel
theorem dX4_isSame_114 : decode cX4_isSame 114 = .ok (.getfield 61, 3) := by decide +kernel
theorem dX4_isSame_117 : decode cX4_isSame 117 = .ok (.iastore, 1) := by decide +kernel
theorem dX4_isSame_118 : decode cX4_isSame 118 = .ok (.dup, 1) := by decide +kernel
theorem dX4_isSame_119 : decode cX4_isSame 119 = .ok (.bipush 7, 2) := by decide +kernel
theorem dX4_isSame_121 : decode cX4_isSame 121 = .ok (.aload 4, 2) := by decide +kernel
theorem dX4_isSame_123 : decode cX4_isSame 123 = .ok (.getfield 64, 3) := by decide +kernel
theorem dX4_isSame_126 : decode cX4_isSame 126 = .ok (.iastore, 1) := by decide +kernel
theorem dX4_isSame_127 : decode cX4_isSame 127 = .ok (.astore 5, 2) := by decide +kernel
theorem dX4_isSame_129 : decode cX4_isSame 129 = .ok (.iconst 0, 1) := by decide +kernel
theorem dX4_isSame_130 : decode cX4_isSame 130 = .ok (.istore 6, 2) := by decide +kernel
theorem dX4_isSame_132 : decode cX4_isSame 132 = .ok (.iload 6, 2) := by decide +kernel
theorem dX4_isSame_134 : decode cX4_isSame 134 = .ok (.bipush 8, 2) := by decide +kernel
theorem dX4_isSame_136 : decode cX4_isSame 136 = .ok (.if_icmp .ge 26, 3) := by decide +kernel
theorem dX4_isSame_139 : decode cX4_isSame 139 = .ok (.aload_n 1, 1) := by decide +kernel
theorem dX4_isSame_140 : decode cX4_isSame 140 = .ok (.iload_n 3, 1) := by decide +kernel
theorem dX4_isSame_141 : decode cX4_isSame 141 = .ok (.iload 6, 2) := by decide +kernel
theorem dX4_isSame_143 : decode cX4_isSame 143 = .ok (.invokevirtual 67, 3) := by decide +kernel
theorem dX4_isSame_146 : decode cX4_isSame 146 = .ok (.aload 5, 2) := by decide +kernel
theorem dX4_isSame_148 : decode cX4_isSame 148 = .ok (.iload 6, 2) := by decide +kernel
theorem dX4_isSame_150 : decode cX4_isSame 150 = .ok (.iaload, 1) := by decide +kernel
theorem dX4_isSame_151 : decode cX4_isSame 151 = .ok (.if_icmp .eq 5, 3) := by decide +kernel
theorem dX4_isSame_154 : decode cX4_isSame 154 = .ok (.iconst 0, 1) := by decide +kernel
theorem dX4_isSame_155 : decode cX4_isSame 155 = .ok (.ireturn, 1) := by decide +kernel
theorem dX4_isSame_156 : decode cX4_isSame 156 = .ok (.iinc 6 1, 3) := by decide +kernel
theorem dX4_isSame_159 : decode cX4_isSame 159 = .ok (.goto (-27), 3) := by decide +kernel
theorem dX4_isSame_162 : decode cX4_isSame 162 = .ok (.iconst 0, 1) := by decide +kernel
theorem dX4_isSame_163 : decode cX4_isSame 163 = .ok (.istore 6, 2) := by decide +kernel
theorem dX4_isSame_165 : decode cX4_isSame 165 = .ok (.iload 6, 2) := by decide +kernel
theorem dX4_isSame_167 : decode cX4_isSame 167 = .ok (.bipush 6, 2) := by decide +kernel
theorem dX4_isSame_169 : decode cX4_isSame 169 = .ok (.if_icmp .ge 95, 3) := by decide +kernel
theorem dX4_isSame_172 : decode cX4_isSame 172 = .ok (.iload_n 2, 1) := by decide +kernel
theorem dX4_isSame_173 : decode cX4_isSame 173 = .ok (.aload 4, 2) := by decide +kernel
theorem dX4_isSame_175 : decode cX4_isSame 175 = .ok (.getfield 72, 3) := by decide +kernel
theorem dX4_isSame_178 : decode cX4_isSame 178 = .ok (.iload 6, 2) := by decide +kernel
theorem dX4_isSame_180 : decode cX4_isSame 180 = .ok (.aaload, 1) := by decide +kernel
theorem dX4_isSame_181 : decode cX4_isSame 181 = .ok (.iconst 1, 1) := by decide +kernel
theorem dX4_isSame_182 : decode cX4_isSame 182 = .ok (.iaload, 1) := by decide +kernel
theorem dX4_isSame_183 : decode cX4_isSame 183 = .ok (.iadd, 1) := by decide +kernel
theorem dX4_isSame_184 : decode cX4_isSame 184 = .ok (.istore_n 2, 1) := by decide +kernel
theorem dX4_isSame_185 : decode cX4_isSame 185 = .ok (.iconst 0, 1) := by decide +kernel
theorem dX4_isSame_186 : decode cX4_isSame 186 = .ok (.istore 7, 2) := by decide +kernel
theorem dX4_isSame_188 : decode cX4_isSame 188 = .ok (.iload 7, 2) := by decide +kernel
theorem dX4_isSame_190 : decode cX4_isSame 190 = .ok (.iconst 3, 1) := by decide +kernel
theorem dX4_isSame_191 : decode cX4_isSame 191 = .ok (.if_icmp .ge 34, 3) := by decide +kernel
theorem dX4_isSame_194 : decode cX4_isSame 194 = .ok (.aload_n 1, 1) := by decide +kernel
theorem dX4_isSame_195 : decode cX4_isSame 195 = .ok (.iload_n 3, 1) := by decide +kernel
theorem dX4_isSame_196 : decode cX4_isSame 196 = .ok (.iload 6, 2) := by decide +kernel
theorem dX4_isSame_198 : decode cX4_isSame 198 = .ok (.iload 7, 2) := by decide +kernel
theorem dX4_isSame_200 : decode cX4_isSame 200 = .ok (.invokevirtual 75, 3) := by decide +kernel
theorem dX4_isSame_203 : decode cX4_isSame 203 = .ok (.aload 4, 2) := by decide +kernel
theorem dX4_isSame_205 : decode cX4_isSame 205 = .ok (.getfield 72, 3) := by decide +kernel
theorem dX4_isSame_208 : decode cX4_isSame 208 = .ok (.iload 6, 2) := by decide +kernel
theorem dX4_isSame_210 : decode cX4_isSame 210 = .ok (.aaload, 1) := by decide +kernel
theorem dX4_isSame_211 : decode cX4_isSame 211 = .ok (.iload 7, 2) := by decide +kernel
theorem dX4_isSame_213 : decode cX4_isSame 213 = .ok (.iaload, 1) := by decide +kernel
theorem dX4_isSame_214 : decode cX4_isSame 214 = .ok (.if_icmp .eq 5, 3) := by decide +kernel
theorem dX4_isSame_217 : decode cX4_isSame 217 = .ok (.iconst 0, 1) := by decide +kernel
theorem dX4_isSame_218 : decode cX4_isSame 218 = .ok (.ireturn, 1) := by decide +kernel
theorem dX4_isSame_219 : decode cX4_isSame 219 = .ok (.iinc 7 1, 3) := by decide +kernel
theorem dX4_isSame_222 : decode cX4_isSame 222 = .ok (.goto (-34), 3) := by decide +kernel
theorem dX4_isSame_225 : decode cX4_isSame 225 = .ok (.aload_n 1, 1) := by decide +kernel
theorem dX4_isSame_226 : decode cX4_isSame 226 = .ok (.iload_n 3, 1) := by decide +kernel
theorem dX4_isSame_227 : decode cX4_isSame 227 = .ok (.iload 6, 2) := by decide +kernel
theorem dX4_isSame_229 : decode cX4_isSame 229 = .ok (.iconst 3, 1) := by decide +kernel
theorem dX4_isSame_230 : decode cX4_isSame 230 = .ok (.invokevirtual 75, 3) := by decide +kernel
theorem dX4_isSame_233 : decode cX4_isSame 233 = .ok (.aload 4, 2) := by decide +kernel
theorem dX4_isSame_235 : decode cX4_isSame 235 = .ok (.getfield 72, 3) := by decide +kernel
theorem dX4_isSame_238 : decode cX4_isSame 238 = .ok (.iload 6, 2) := by decide +kernel
theorem dX4_isSame_240 : decode cX4_isSame 240 = .ok (.aaload, 1) := by decide +kernel
theorem dX4_isSame_241 : decode cX4_isSame 241 = .ok (.iconst 1, 1) := by decide +kernel
theorem dX4_isSame_242 : decode cX4_isSame 242 = .ok (.iaload, 1) := by decide +kernel
theorem dX4_isSame_243 : decode cX4_isSame 243 = .ok (.bipush 100, 2) := by decide +kernel
theorem dX4_isSame_245 : decode cX4_isSame 245 = .ok (.if_icmp .ne 7, 3) := by decide +kernel
theorem dX4_isSame_248 : decode cX4_isSame 248 = .ok (.iconst 1, 1) := by decide +kernel
theorem dX4_isSame_249 : decode cX4_isSame 249 = .ok (.goto 4, 3) := by decide +kernel
theorem dX4_isSame_252 : decode cX4_isSame 252 = .ok (.iconst 0, 1) := by decide +kernel
theorem dX4_isSame_253 : decode cX4_isSame 253 = .ok (.if_icmp .eq 5, 3) := by decide +kernel
theorem dX4_isSame_256 : decode cX4_isSame 256 = .ok (.iconst 0, 1) := by decide +kernel
theorem dX4_isSame_257 : decode cX4_isSame 257 = .ok (.ireturn, 1) := by decide +kernel
theorem dX4_isSame_258 : decode cX4_isSame 258 = .ok (.iinc 6 1, 3) := by decide +kernel
theorem dX4_isSame_261 : decode cX4_isSame 261 = .ok (.goto (-96), 3) := by decide +kernel
theorem dX4_isSame_264 : decode cX4_isSame 264 = .ok (.iinc 3 1, 3) := by decide +kernel
theorem dX4_isSame_267 : decode cX4_isSame 267 = .ok (.goto (-263), 3) := by decide +kernel
theorem dX4_isSame_270 : decode cX4_isSame 270 = .ok (.bipush 13, 2) := by decide +kernel
theorem dX4_isSame_272 : decode cX4_isSame 272 = .ok (.newarray .int, 2) := by decide +kernel
theorem dX4_isSame_274 : decode cX4_isSame 274 = .ok (.dup, 1) := by decide +kernel
theorem dX4_isSame_275 : decode cX4_isSame 275 = .ok (.iconst 0, 1) := by decide +kernel
theorem dX4_isSame_276 : decode cX4_isSame 276 = .ok (.aload_n 0, 1) := by decide +kernel
theorem dX4_isSame_277 : decode cX4_isSame 277 = .ok (.getfield 33, 3) := by decide +kernel
theorem dX4_isSame_280 : decode cX4_isSame 280 = .ok (.iastore, 1) := by decide +kernel
theorem dX4_isSame_281 : decode cX4_isSame 281 = .ok (.dup, 1) := by decide +kernel
theorem dX4_isSame_282 : decode cX4_isSame 282 = .ok (.iconst 1, 1) := by decide +kernel
theorem dX4_isSame_283 : decode cX4_isSame 283 = .ok (.aload_n 0, 1) := by decide +kernel
theorem dX4_isSame_284 : decode cX4_isSame 284 = .ok (.getfield 9, 3) := by decide +kernel
theorem dX4_isSame_287 : decode cX4_isSame 287 = .ok (.arraylength, 1) := by decide +kernel
theorem dX4_isSame_288 : decode cX4_isSame 288 = .ok (.iastore, 1) := by decide +kernel
theorem dX4_isSame_289 : decode cX4_isSame 289 = .ok (.dup, 1) := by decide +kernel
theorem dX4_isSame_290 : decode cX4_isSame 290 = .ok (.iconst 2, 1) := by decide +kernel
theorem dX4_isSame_291 : decode cX4_isSame 291 = .ok (.aload_n 0, 1) := by decide +kernel
theorem dX4_isSame_292 : decode cX4_isSame 292 = .ok (.getfield 17, 3) := by decide +kernel
theorem dX4_isSame_295 : decode cX4_isSame 295 = .ok (.arraylength, 1) := by decide +kernel
theorem dX4_isSame_296 : decode cX4_isSame 296 = .ok (.iastore, 1) := by decide +kernel
theorem dX4_isSame_297 : decode cX4_isSame 297 = .ok (.dup, 1) := by decide +kernel
theorem dX4_isSame_298 : decode cX4_isSame 298 = .ok (.iconst 3, 1) := by decide +kernel
theorem dX4_isSame_299 : decode cX4_isSame 299 = .ok (.aload_n 0, 1) := by decide +kernel
theorem dX4_isSame_300 : decode cX4_isSame 300 = .ok (.getfield 24, 3) := by decide +kernel
theorem dX4_isSame_303 : decode cX4_isSame 303 = .ok (.iastore, 1) := by decide +kernel
theorem dX4_isSame_304 : decode cX4_isSame 304 = .ok (.dup, 1) := by decide +kernel
theorem dX4_isSame_305 : decode cX4_isSame 305 = .ok (.iconst 4, 1) := by decide +kernel
theorem dX4_isSame_306 : decode cX4_isSame 306 = .ok (.aload_n 0, 1) := by decide +kernel
theorem dX4_isSame_307 : decode cX4_isSame 307 = .ok (.iconst 4, 1) := by decide +kernel
theorem dX4_isSame_308 : decode cX4_isSame 308 = .ok (.invokevirtual 79, 3) := by decide +kernel
theorem dX4_isSame_311 : decode cX4_isSame 311 = .ok (.iastore, 1) := by decide +kernel
theorem dX4_isSame_312 : decode cX4_isSame 312 = .ok (.dup, 1) := by decide +kernel
theorem dX4_isSame_313 : decode cX4_isSame 313 = .ok (.iconst 5, 1) := by decide +kernel
theorem dX4_isSame_314 : decode cX4_isSame 314 = .ok (.aload_n 0, 1) := by decide +kernel
theorem dX4_isSame_315 : decode cX4_isSame 315 = .ok (.iconst 5, 1) := by decide +kernel
theorem dX4_isSame_316 : decode cX4_isSame 316 = .ok (.invokevirtual 79, 3) := by decide +kernel
theorem dX4_isSame_319 : decode cX4_isSame 319 = .ok (.iastore, 1) := by decide +kernel
theorem dX4_isSame_320 : decode cX4_isSame 320 = .ok (.dup, 1) := by decide +kernel
theorem dX4_isSame_321 : decode cX4_isSame 321 = .ok (.bipush 6, 2) := by decide +kernel
theorem dX4_isSame_323 : decode cX4_isSame 323 = .ok (.aload_n 0, 1) := by decide +kernel
theorem dX4_isSame_324 : decode cX4_isSame 324 = .ok (.bipush 6, 2) := by decide +kernel
theorem dX4_isSame_326 : decode cX4_isSame 326 = .ok (.invokevirtual 79, 3) := by decide +kernel
theorem dX4_isSame_329 : decode cX4_isSame 329 = .ok (.iastore, 1) := by decide +kernel
theorem dX4_isSame_330 : decode cX4_isSame 330 = .ok (.dup, 1) := by decide +kernel
theorem dX4_isSame_331 : decode cX4_isSame 331 = .ok (.bipush 7, 2) := by decide +kernel
theorem dX4_isSame_333 : decode cX4_isSame 333 = .ok (.aload_n 0, 1) := by decide +kernel
theorem dX4_isSame_334 : decode cX4_isSame 334 = .ok (.bipush 7, 2) := by decide +kernel
theorem dX4_isSame_336 : decode cX4_isSame 336 = .ok (.invokevirtual 79, 3) := by decide +kernel
theorem dX4_isSame_339 : decode cX4_isSame 339 = .ok (.iastore, 1) := by decide +kernel
theorem dX4_isSame_340 : decode cX4_isSame 340 = .ok (.dup, 1) := by decide +kernel
theorem dX4_isSame_341 : decode cX4_isSame 341 = .ok (.bipush 8, 2) := by decide +kernel
theorem dX4_isSame_343 : decode cX4_isSame 343 = .ok (.aload_n 0, 1) := by decide +kernel
theorem dX4_isSame_344 : decode cX4_isSame 344 = .ok (.getfield 21, 3) := by decide +kernel
theorem dX4_isSame_347 : decode cX4_isSame 347 = .ok (.iconst 0, 1) := by decide +kernel
theorem dX4_isSame_348 : decode cX4_isSame 348 = .ok (.iaload, 1) := by decide +kernel
theorem dX4_isSame_349 : decode cX4_isSame 349 = .ok (.iastore, 1) := by decide +kernel
theorem dX4_isSame_350 : decode cX4_isSame 350 = .ok (.dup, 1) := by decide +kernel
theorem dX4_isSame_351 : decode cX4_isSame 351 = .ok (.bipush 9, 2) := by decide +kernel
theorem dX4_isSame_353 : decode cX4_isSame 353 = .ok (.aload_n 0, 1) := by decide +kernel
theorem dX4_isSame_354 : decode cX4_isSame 354 = .ok (.getfield 21, 3) := by decide +kernel
theorem dX4_isSame_357 : decode cX4_isSame 357 = .ok (.iconst 1, 1) := by decide +kernel
theorem dX4_isSame_358 : decode cX4_isSame 358 = .ok (.iaload, 1) := by decide +kernel
theorem dX4_isSame_359 : decode cX4_isSame 359 = .ok (.iastore, 1) := by decide +kernel
theorem dX4_isSame_360 : decode cX4_isSame 360 = .ok (.dup, 1) := by decide +kernel
theorem dX4_isSame_361 : decode cX4_isSame 361 = .ok (.bipush 10, 2) := by decide +kernel
theorem dX4_isSame_363 : decode cX4_isSame 363 = .ok (.aload_n 0, 1) := by decide +kernel
theorem dX4_isSame_364 : decode cX4_isSame 364 = .ok (.getfield 21, 3) := by decide +kernel
theorem dX4_isSame_367 : decode cX4_isSame 367 = .ok (.iconst 2, 1) := by decide +kernel
theorem dX4_isSame_368 : decode cX4_isSame 368 = .ok (.iaload, 1) := by decide +kernel
theorem dX4_isSame_369 : decode cX4_isSame 369 = .ok (.iastore, 1) := by decide +kernel
theorem dX4_isSame_370 : decode cX4_isSame 370 = .ok (.dup, 1) := by decide +kernel
theorem dX4_isSame_371 : decode cX4_isSame 371 = .ok (.bipush 11, 2) := by decide +kernel
theorem dX4_isSame_373 : decode cX4_isSame 373 = .ok (.aload_n 0, 1) := by decide +kernel
theorem dX4_isSame_374 : decode cX4_isSame 374 = .ok (.getfield 21, 3) := by decide +kernel
theorem dX4_isSame_377 : decode cX4_isSame 377 = .ok (.iconst 3, 1) := by decide +kernel
theorem dX4_isSame_378 : decode cX4_isSame 378 = .ok (.iaload, 1) := by decide +kernel
theorem dX4_isSame_379 : decode cX4_isSame 379 = .ok (.iastore, 1) := by decide +kernel
theorem dX4_isSame_380 : decode cX4_isSame 380 = .ok (.dup, 1) := by decide +kernel
theorem dX4_isSame_381 : decode cX4_isSame 381 = .ok (.bipush 12, 2) := by decide +kernel
theorem dX4_isSame_383 : decode cX4_isSame 383 = .ok (.aload_n 0, 1) := by decide +kernel
theorem dX4_isSame_384 : decode cX4_isSame 384 = .ok (.getfield 21, 3) := by decide +kernel
theorem dX4_isSame_387 : decode cX4_isSame 387 = .ok (.iconst 4, 1) := by decide +kernel
theorem dX4_isSame_388 : decode cX4_isSame 388 = .ok (.iaload, 1) := by decide +kernel
theorem dX4_isSame_389 : decode cX4_isSame 389 = .ok (.iastore, 1) := by decide +kernel
theorem dX4_isSame_390 : decode cX4_isSame 390 = .ok (.astore_n 3, 1) := by decide +kernel
theorem dX4_isSame_391 : decode cX4_isSame 391 = .ok (.iconst 0, 1) := by decide +kernel
theorem dX4_isSame_392 : decode cX4_isSame 392 = .ok (.istore 4, 2) := by decide +kernel
theorem dX4_isSame_394 : decode cX4_isSame 394 = .ok (.iload 4, 2) := by decide +kernel
theorem dX4_isSame_396 : decode cX4_isSame 396 = .ok (.bipush 13, 2) := by decide +kernel
theorem dX4_isSame_398 : decode cX4_isSame 398 = .ok (.if_icmp .ge 24, 3) := by decide +kernel
theorem dX4_isSame_401 : decode cX4_isSame 401 = .ok (.aload_n 1, 1) := by decide +kernel
theorem dX4_isSame_402 : decode cX4_isSame 402 = .ok (.iload 4, 2) := by decide +kernel
theorem dX4_isSame_404 : decode cX4_isSame 404 = .ok (.invokevirtual 83, 3) := by decide +kernel
theorem dX4_isSame_407 : decode cX4_isSame 407 = .ok (.aload_n 3, 1) := by decide +kernel
theorem dX4_isSame_408 : decode cX4_isSame 408 = .ok (.iload 4, 2) := by decide +kernel
theorem dX4_isSame_410 : decode cX4_isSame 410 = .ok (.iaload, 1) := by decide +kernel
theorem dX4_isSame_411 : decode cX4_isSame 411 = .ok (.if_icmp .eq 5, 3) := by decide +kernel
theorem dX4_isSame_414 : decode cX4_isSame 414 = .ok (.iconst 0, 1) := by decide +kernel
theorem dX4_isSame_415 : decode cX4_isSame 415 = .ok (.ireturn, 1) := by decide +kernel
theorem dX4_isSame_416 : decode cX4_isSame 416 = .ok (.iinc 4 1, 3) := by decide +kernel
theorem dX4_isSame_419 : decode cX4_isSame 419 = .ok (.goto (-25), 3) := by decide +kernel
theorem dX4_isSame_422 : decode cX4_isSame 422 = .ok (.aload_n 1, 1) := by decide +kernel
theorem dX4_isSame_423 : decode cX4_isSame 423 = .ok (.invokevirtual 86, 3) := by decide +kernel
theorem dX4_isSame_426 : decode cX4_isSame 426 = .ok (.aload_n 0, 1) := by decide +kernel
theorem dX4_isSame_427 : decode cX4_isSame 427 = .ok (.getfield 9, 3) := by decide +kernel
theorem dX4_isSame_430 : decode cX4_isSame 430 = .ok (.arraylength, 1) := by decide +kernel
theorem dX4_isSame_431 : decode cX4_isSame 431 = .ok (.ifCond .ne 7, 3) := by decide +kernel
theorem dX4_isSame_434 : decode cX4_isSame 434 = .ok (.dconst 0, 1) := by decide +kernel
theorem dX4_isSame_435 : decode cX4_isSame 435 = .ok (.goto 15, 3) := by decide +kernel
theorem dX4_isSame_438 : decode cX4_isSame 438 = .ok (.iload_n 2, 1) := by decide +kernel
theorem dX4_isSame_439 : decode cX4_isSame 439 = .ok (.i2d, 1) := by decide +kernel
theorem dX4_isSame_440 : decode cX4_isSame 440 = .ok (.bipush 6, 2) := by decide +kernel
theorem dX4_isSame_442 : decode cX4_isSame 442 = .ok (.aload_n 0, 1) := by decide +kernel
theorem dX4_isSame_443 : decode cX4_isSame 443 = .ok (.getfield 9, 3) := by decide +kernel
theorem dX4_isSame_446 : decode cX4_isSame 446 = .ok (.arraylength, 1) := by decide +kernel
theorem dX4_isSame_447 : decode cX4_isSame 447 = .ok (.imul, 1) := by decide +kernel
theorem dX4_isSame_448 : decode cX4_isSame 448 = .ok (.i2d, 1) := by decide +kernel
theorem dX4_isSame_449 : decode cX4_isSame 449 = .ok (.ddiv, 1) := by decide +kernel
theorem dX4_isSame_450 : decode cX4_isSame 450 = .ok (.dcmp .l, 1) := by decide +kernel
theorem dX4_isSame_451 : decode cX4_isSame 451 = .ok (.ifCond .ne 7, 3) := by decide +kernel
theorem dX4_isSame_454 : decode cX4_isSame 454 = .ok (.iconst 1, 1) := by decide +kernel
theorem dX4_isSame_455 : decode cX4_isSame 455 = .ok (.goto 4, 3) := by decide +kernel
theorem dX4_isSame_458 : decode cX4_isSame 458 = .ok (.iconst 0, 1) := by decide +kernel
theorem dX4_isSame_459 : decode cX4_isSame 459 = .ok (.ireturn, 1) := by decide +kernel
theorem dJ9_abs_0f7a4_0 : decode cJ9_abs_0f7a4 0 = .ok (.iload_n 0, 1) := by decide +kernel
theorem dJ9_abs_0f7a4_1 : decode cJ9_abs_0f7a4 1 = .ok (.ifCond .ge 8, 3) := by decide +kernel
theorem dJ9_abs_0f7a4_4 : decode cJ9_abs_0f7a4 4 = .ok (.iload_n 0, 1) := by decide +kernel
theorem dJ9_abs_0f7a4_5 : decode cJ9_abs_0f7a4 5 = .ok (.ineg, 1) := by decide +kernel
theorem dJ9_abs_0f7a4_6 : decode cJ9_abs_0f7a4 6 = .ok (.goto 4, 3) := by decide +kernel
theorem dJ9_abs_0f7a4_9 : decode cJ9_abs_0f7a4 9 = .ok (.iload_n 0, 1) := by decide +kernel
theorem dJ9_abs_0f7a4_10 : decode cJ9_abs_0f7a4 10 = .ok (.ireturn, 1) := by decide +kernel
theorem dJ9_max_7cf53_0 : decode cJ9_max_7cf53 0 = .ok (.iload_n 0, 1) := by decide +kernel
theorem dJ9_max_7cf53_1 : decode cJ9_max_7cf53 1 = .ok (.iload_n 1, 1) := by decide +kernel
theorem dJ9_max_7cf53_2 : decode cJ9_max_7cf53 2 = .ok (.if_icmp .lt 7, 3) := by decide +kernel
theorem dJ9_max_7cf53_5 : decode cJ9_max_7cf53 5 = .ok (.iload_n 0, 1) := by decide +kernel
theorem dJ9_max_7cf53_6 : decode cJ9_max_7cf53 6 = .ok (.goto 4, 3) := by decide +kernel
theorem dJ9_max_7cf53_9 : decode cJ9_max_7cf53 9 = .ok (.iload_n 1, 1) := by decide +kernel
theorem dJ9_max_7cf53_10 : decode cJ9_max_7cf53 10 = .ok (.ireturn, 1) := by decide +kernel
theorem dJ9_min_7cf53_0 : decode cJ9_min_7cf53 0 = .ok (.iload_n 0, 1) := by decide +kernel
theorem dJ9_min_7cf53_1 : decode cJ9_min_7cf53 1 = .ok (.iload_n 1, 1) := by decide +kernel
theorem dJ9_min_7cf53_2 : decode cJ9_min_7cf53 2 = .ok (.if_icmp .gt 7, 3) := by decide +kernel
theorem dJ9_min_7cf53_5 : decode cJ9_min_7cf53 5 = .ok (.iload_n 0, 1) := by decide +kernel
theorem dJ9_min_7cf53_6 : decode cJ9_min_7cf53 6 = .ok (.goto 4, 3) := by decide +kernel
theorem dJ9_min_7cf53_9 : decode cJ9_min_7cf53 9 = .ok (.iload_n 1, 1) := by decide +kernel
theorem dJ9_min_7cf53_10 : decode cJ9_min_7cf53 10 = .ok (.ireturn, 1) := by decide +kernel
