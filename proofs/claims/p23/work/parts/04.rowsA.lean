theorem dX0_init_0 : decode cX0_init 0 = .ok (.aload_n 0, 1) := by decide +kernel
theorem dX0_init_1 : decode cX0_init 1 = .ok (.invokespecial 3, 3) := by decide +kernel
theorem dX0_init_4 : decode cX0_init 4 = .ok (.aload_n 0, 1) := by decide +kernel
theorem dX0_init_5 : decode cX0_init 5 = .ok (.bipush 6, 2) := by decide +kernel
theorem dX0_init_7 : decode cX0_init 7 = .ok (.newarray .int, 2) := by decide +kernel
theorem dX0_init_9 : decode cX0_init 9 = .ok (.putfield 9, 3) := by decide +kernel
theorem dX0_init_12 : decode cX0_init 12 = .ok (.aload_n 0, 1) := by decide +kernel
theorem dX0_init_13 : decode cX0_init 13 = .ok (.bipush 6, 2) := by decide +kernel
theorem dX0_init_15 : decode cX0_init 15 = .ok (.newarray .int, 2) := by decide +kernel
theorem dX0_init_17 : decode cX0_init 17 = .ok (.putfield 15, 3) := by decide +kernel
theorem dX0_init_20 : decode cX0_init 20 = .ok (.aload_n 0, 1) := by decide +kernel
theorem dX0_init_21 : decode cX0_init 21 = .ok (.bipush 6, 2) := by decide +kernel
theorem dX0_init_23 : decode cX0_init 23 = .ok (.newarray .int, 2) := by decide +kernel
theorem dX0_init_25 : decode cX0_init 25 = .ok (.putfield 18, 3) := by decide +kernel
theorem dX0_init_28 : decode cX0_init 28 = .ok (.aload_n 0, 1) := by decide +kernel
theorem dX0_init_29 : decode cX0_init 29 = .ok (.iconst 2, 1) := by decide +kernel
theorem dX0_init_30 : decode cX0_init 30 = .ok (.newarray .boolean, 2) := by decide +kernel
theorem dX0_init_32 : decode cX0_init 32 = .ok (.putfield 21, 3) := by decide +kernel
theorem dX0_init_35 : decode cX0_init 35 = .ok (.aload_n 0, 1) := by decide +kernel
theorem dX0_init_36 : decode cX0_init 36 = .ok (.iconst 2, 1) := by decide +kernel
theorem dX0_init_37 : decode cX0_init 37 = .ok (.newarray .int, 2) := by decide +kernel
theorem dX0_init_39 : decode cX0_init 39 = .ok (.putfield 25, 3) := by decide +kernel
theorem dX0_init_42 : decode cX0_init 42 = .ok (.aload_n 0, 1) := by decide +kernel
theorem dX0_init_43 : decode cX0_init 43 = .ok (.iconst 0, 1) := by decide +kernel
theorem dX0_init_44 : decode cX0_init 44 = .ok (.putfield 28, 3) := by decide +kernel
theorem dX0_init_47 : decode cX0_init 47 = .ok (.aload_n 0, 1) := by decide +kernel
theorem dX0_init_48 : decode cX0_init 48 = .ok (.iconst 0, 1) := by decide +kernel
theorem dX0_init_49 : decode cX0_init 49 = .ok (.putfield 32, 3) := by decide +kernel
theorem dX0_init_52 : decode cX0_init 52 = .ok (.aload_n 0, 1) := by decide +kernel
theorem dX0_init_53 : decode cX0_init 53 = .ok (.iconst 0, 1) := by decide +kernel
theorem dX0_init_54 : decode cX0_init 54 = .ok (.putfield 35, 3) := by decide +kernel
theorem dX0_init_57 : decode cX0_init 57 = .ok (.aload_n 0, 1) := by decide +kernel
theorem dX0_init_58 : decode cX0_init 58 = .ok (.iconst 0, 1) := by decide +kernel
theorem dX0_init_59 : decode cX0_init 59 = .ok (.putfield 38, 3) := by decide +kernel
theorem dX0_init_62 : decode cX0_init 62 = .ok (.iconst 0, 1) := by decide +kernel
theorem dX0_init_63 : decode cX0_init 63 = .ok (.istore_n 1, 1) := by decide +kernel
theorem dX0_init_64 : decode cX0_init 64 = .ok (.iload_n 1, 1) := by decide +kernel
theorem dX0_init_65 : decode cX0_init 65 = .ok (.iconst 2, 1) := by decide +kernel
theorem dX0_init_66 : decode cX0_init 66 = .ok (.if_icmp .ge 16, 3) := by decide +kernel
theorem dX0_init_69 : decode cX0_init 69 = .ok (.aload_n 0, 1) := by decide +kernel
theorem dX0_init_70 : decode cX0_init 70 = .ok (.getfield 21, 3) := by decide +kernel
theorem dX0_init_73 : decode cX0_init 73 = .ok (.iload_n 1, 1) := by decide +kernel
theorem dX0_init_74 : decode cX0_init 74 = .ok (.iconst 1, 1) := by decide +kernel
theorem dX0_init_75 : decode cX0_init 75 = .ok (.bastore, 1) := by decide +kernel
theorem dX0_init_76 : decode cX0_init 76 = .ok (.iinc 1 1, 3) := by decide +kernel
theorem dX0_init_79 : decode cX0_init 79 = .ok (.goto (-15), 3) := by decide +kernel
theorem dX0_init_82 : decode cX0_init 82 = .ok (.return_, 1) := by decide +kernel
theorem dX0_becomeLike_0 : decode cX0_becomeLike 0 = .ok (.iconst 0, 1) := by decide +kernel
theorem dX0_becomeLike_1 : decode cX0_becomeLike 1 = .ok (.istore_n 2, 1) := by decide +kernel
theorem dX0_becomeLike_2 : decode cX0_becomeLike 2 = .ok (.iload_n 2, 1) := by decide +kernel
theorem dX0_becomeLike_3 : decode cX0_becomeLike 3 = .ok (.bipush 6, 2) := by decide +kernel
theorem dX0_becomeLike_5 : decode cX0_becomeLike 5 = .ok (.if_icmp .ge 45, 3) := by decide +kernel
theorem dX0_becomeLike_8 : decode cX0_becomeLike 8 = .ok (.aload_n 0, 1) := by decide +kernel
theorem dX0_becomeLike_9 : decode cX0_becomeLike 9 = .ok (.getfield 9, 3) := by decide +kernel
theorem dX0_becomeLike_12 : decode cX0_becomeLike 12 = .ok (.iload_n 2, 1) := by decide +kernel
theorem dX0_becomeLike_13 : decode cX0_becomeLike 13 = .ok (.aload_n 1, 1) := by decide +kernel
theorem dX0_becomeLike_14 : decode cX0_becomeLike 14 = .ok (.getfield 9, 3) := by decide +kernel
theorem dX0_becomeLike_17 : decode cX0_becomeLike 17 = .ok (.iload_n 2, 1) := by decide +kernel
theorem dX0_becomeLike_18 : decode cX0_becomeLike 18 = .ok (.iaload, 1) := by decide +kernel
theorem dX0_becomeLike_19 : decode cX0_becomeLike 19 = .ok (.iastore, 1) := by decide +kernel
theorem dX0_becomeLike_20 : decode cX0_becomeLike 20 = .ok (.aload_n 0, 1) := by decide +kernel
theorem dX0_becomeLike_21 : decode cX0_becomeLike 21 = .ok (.getfield 15, 3) := by decide +kernel
theorem dX0_becomeLike_24 : decode cX0_becomeLike 24 = .ok (.iload_n 2, 1) := by decide +kernel
theorem dX0_becomeLike_25 : decode cX0_becomeLike 25 = .ok (.aload_n 1, 1) := by decide +kernel
theorem dX0_becomeLike_26 : decode cX0_becomeLike 26 = .ok (.getfield 15, 3) := by decide +kernel
theorem dX0_becomeLike_29 : decode cX0_becomeLike 29 = .ok (.iload_n 2, 1) := by decide +kernel
theorem dX0_becomeLike_30 : decode cX0_becomeLike 30 = .ok (.iaload, 1) := by decide +kernel
theorem dX0_becomeLike_31 : decode cX0_becomeLike 31 = .ok (.iastore, 1) := by decide +kernel
theorem dX0_becomeLike_32 : decode cX0_becomeLike 32 = .ok (.aload_n 0, 1) := by decide +kernel
theorem dX0_becomeLike_33 : decode cX0_becomeLike 33 = .ok (.getfield 18, 3) := by decide +kernel
theorem dX0_becomeLike_36 : decode cX0_becomeLike 36 = .ok (.iload_n 2, 1) := by decide +kernel
theorem dX0_becomeLike_37 : decode cX0_becomeLike 37 = .ok (.aload_n 1, 1) := by decide +kernel
theorem dX0_becomeLike_38 : decode cX0_becomeLike 38 = .ok (.getfield 18, 3) := by decide +kernel
theorem dX0_becomeLike_41 : decode cX0_becomeLike 41 = .ok (.iload_n 2, 1) := by decide +kernel
theorem dX0_becomeLike_42 : decode cX0_becomeLike 42 = .ok (.iaload, 1) := by decide +kernel
theorem dX0_becomeLike_43 : decode cX0_becomeLike 43 = .ok (.iastore, 1) := by decide +kernel
theorem dX0_becomeLike_44 : decode cX0_becomeLike 44 = .ok (.iinc 2 1, 3) := by decide +kernel
theorem dX0_becomeLike_47 : decode cX0_becomeLike 47 = .ok (.goto (-45), 3) := by decide +kernel
theorem dX0_becomeLike_50 : decode cX0_becomeLike 50 = .ok (.iconst 0, 1) := by decide +kernel
theorem dX0_becomeLike_51 : decode cX0_becomeLike 51 = .ok (.istore_n 2, 1) := by decide +kernel
theorem dX0_becomeLike_52 : decode cX0_becomeLike 52 = .ok (.iload_n 2, 1) := by decide +kernel
theorem dX0_becomeLike_53 : decode cX0_becomeLike 53 = .ok (.iconst 2, 1) := by decide +kernel
theorem dX0_becomeLike_54 : decode cX0_becomeLike 54 = .ok (.if_icmp .ge 33, 3) := by decide +kernel
theorem dX0_becomeLike_57 : decode cX0_becomeLike 57 = .ok (.aload_n 0, 1) := by decide +kernel
theorem dX0_becomeLike_58 : decode cX0_becomeLike 58 = .ok (.getfield 21, 3) := by decide +kernel
theorem dX0_becomeLike_61 : decode cX0_becomeLike 61 = .ok (.iload_n 2, 1) := by decide +kernel
theorem dX0_becomeLike_62 : decode cX0_becomeLike 62 = .ok (.aload_n 1, 1) := by decide +kernel
theorem dX0_becomeLike_63 : decode cX0_becomeLike 63 = .ok (.getfield 21, 3) := by decide +kernel
theorem dX0_becomeLike_66 : decode cX0_becomeLike 66 = .ok (.iload_n 2, 1) := by decide +kernel
theorem dX0_becomeLike_67 : decode cX0_becomeLike 67 = .ok (.baload, 1) := by decide +kernel
theorem dX0_becomeLike_68 : decode cX0_becomeLike 68 = .ok (.bastore, 1) := by decide +kernel
theorem dX0_becomeLike_69 : decode cX0_becomeLike 69 = .ok (.aload_n 0, 1) := by decide +kernel
theorem dX0_becomeLike_70 : decode cX0_becomeLike 70 = .ok (.getfield 25, 3) := by decide +kernel
theorem dX0_becomeLike_73 : decode cX0_becomeLike 73 = .ok (.iload_n 2, 1) := by decide +kernel
theorem dX0_becomeLike_74 : decode cX0_becomeLike 74 = .ok (.aload_n 1, 1) := by decide +kernel
theorem dX0_becomeLike_75 : decode cX0_becomeLike 75 = .ok (.getfield 25, 3) := by decide +kernel
theorem dX0_becomeLike_78 : decode cX0_becomeLike 78 = .ok (.iload_n 2, 1) := by decide +kernel
theorem dX0_becomeLike_79 : decode cX0_becomeLike 79 = .ok (.iaload, 1) := by decide +kernel
theorem dX0_becomeLike_80 : decode cX0_becomeLike 80 = .ok (.iastore, 1) := by decide +kernel
theorem dX0_becomeLike_81 : decode cX0_becomeLike 81 = .ok (.iinc 2 1, 3) := by decide +kernel
theorem dX0_becomeLike_84 : decode cX0_becomeLike 84 = .ok (.goto (-32), 3) := by decide +kernel
theorem dX0_becomeLike_87 : decode cX0_becomeLike 87 = .ok (.aload_n 0, 1) := by decide +kernel
theorem dX0_becomeLike_88 : decode cX0_becomeLike 88 = .ok (.aload_n 1, 1) := by decide +kernel
theorem dX0_becomeLike_89 : decode cX0_becomeLike 89 = .ok (.getfield 28, 3) := by decide +kernel
theorem dX0_becomeLike_92 : decode cX0_becomeLike 92 = .ok (.putfield 28, 3) := by decide +kernel
theorem dX0_becomeLike_95 : decode cX0_becomeLike 95 = .ok (.aload_n 0, 1) := by decide +kernel
theorem dX0_becomeLike_96 : decode cX0_becomeLike 96 = .ok (.aload_n 1, 1) := by decide +kernel
theorem dX0_becomeLike_97 : decode cX0_becomeLike 97 = .ok (.getfield 32, 3) := by decide +kernel
theorem dX0_becomeLike_100 : decode cX0_becomeLike 100 = .ok (.putfield 32, 3) := by decide +kernel
theorem dX0_becomeLike_103 : decode cX0_becomeLike 103 = .ok (.aload_n 0, 1) := by decide +kernel
theorem dX0_becomeLike_104 : decode cX0_becomeLike 104 = .ok (.aload_n 1, 1) := by decide +kernel
theorem dX0_becomeLike_105 : decode cX0_becomeLike 105 = .ok (.getfield 35, 3) := by decide +kernel
theorem dX0_becomeLike_108 : decode cX0_becomeLike 108 = .ok (.putfield 35, 3) := by decide +kernel
theorem dX0_becomeLike_111 : decode cX0_becomeLike 111 = .ok (.aload_n 0, 1) := by decide +kernel
theorem dX0_becomeLike_112 : decode cX0_becomeLike 112 = .ok (.aload_n 1, 1) := by decide +kernel
theorem dX0_becomeLike_113 : decode cX0_becomeLike 113 = .ok (.getfield 38, 3) := by decide +kernel
theorem dX0_becomeLike_116 : decode cX0_becomeLike 116 = .ok (.putfield 38, 3) := by decide +kernel
theorem dX0_becomeLike_119 : decode cX0_becomeLike 119 = .ok (.return_, 1) := by decide +kernel
theorem dX0_canTurnTo_0 : decode cX0_canTurnTo 0 = .ok (.iconst 0, 1) := by decide +kernel
theorem dX0_canTurnTo_1 : decode cX0_canTurnTo 1 = .ok (.istore_n 2, 1) := by decide +kernel
theorem dX0_canTurnTo_2 : decode cX0_canTurnTo 2 = .ok (.iload_n 2, 1) := by decide +kernel
theorem dX0_canTurnTo_3 : decode cX0_canTurnTo 3 = .ok (.bipush 6, 2) := by decide +kernel
theorem dX0_canTurnTo_5 : decode cX0_canTurnTo 5 = .ok (.if_icmp .ge 37, 3) := by decide +kernel
theorem dX0_canTurnTo_8 : decode cX0_canTurnTo 8 = .ok (.aload_n 0, 1) := by decide +kernel
theorem dX0_canTurnTo_9 : decode cX0_canTurnTo 9 = .ok (.getfield 15, 3) := by decide +kernel
theorem dX0_canTurnTo_12 : decode cX0_canTurnTo 12 = .ok (.iload_n 2, 1) := by decide +kernel
theorem dX0_canTurnTo_13 : decode cX0_canTurnTo 13 = .ok (.iaload, 1) := by decide +kernel
theorem dX0_canTurnTo_14 : decode cX0_canTurnTo 14 = .ok (.bipush 100, 2) := by decide +kernel
theorem dX0_canTurnTo_16 : decode cX0_canTurnTo 16 = .ok (.if_icmp .lt 20, 3) := by decide +kernel
theorem dX0_canTurnTo_19 : decode cX0_canTurnTo 19 = .ok (.aload_n 0, 1) := by decide +kernel
theorem dX0_canTurnTo_20 : decode cX0_canTurnTo 20 = .ok (.getfield 9, 3) := by decide +kernel
theorem dX0_canTurnTo_23 : decode cX0_canTurnTo 23 = .ok (.iload_n 2, 1) := by decide +kernel
theorem dX0_canTurnTo_24 : decode cX0_canTurnTo 24 = .ok (.iaload, 1) := by decide +kernel
theorem dX0_canTurnTo_25 : decode cX0_canTurnTo 25 = .ok (.aload_n 1, 1) := by decide +kernel
theorem dX0_canTurnTo_26 : decode cX0_canTurnTo 26 = .ok (.getfield 41, 3) := by decide +kernel
theorem dX0_canTurnTo_29 : decode cX0_canTurnTo 29 = .ok (.iload_n 2, 1) := by decide +kernel
theorem dX0_canTurnTo_30 : decode cX0_canTurnTo 30 = .ok (.iaload, 1) := by decide +kernel
theorem dX0_canTurnTo_31 : decode cX0_canTurnTo 31 = .ok (.if_icmp .eq 5, 3) := by decide +kernel
theorem dX0_canTurnTo_34 : decode cX0_canTurnTo 34 = .ok (.iconst 0, 1) := by decide +kernel
theorem dX0_canTurnTo_35 : decode cX0_canTurnTo 35 = .ok (.ireturn, 1) := by decide +kernel
theorem dX0_canTurnTo_36 : decode cX0_canTurnTo 36 = .ok (.iinc 2 1, 3) := by decide +kernel
theorem dX0_canTurnTo_39 : decode cX0_canTurnTo 39 = .ok (.goto (-37), 3) := by decide +kernel
theorem dX0_canTurnTo_42 : decode cX0_canTurnTo 42 = .ok (.iconst 1, 1) := by decide +kernel
theorem dX0_canTurnTo_43 : decode cX0_canTurnTo 43 = .ok (.ireturn, 1) := by decide +kernel
set_option maxRecDepth 20000 in
theorem ggX0_turnTo_X0_wearBehindTurn : GoodIn wsX0_turnTo wsX0_wearBehindTurn := goodIn_r _ [15, 16, 17, 5, 18] (by decide +kernel) (by decide +kernel)
set_option maxRecDepth 20000 in
theorem gX0_turnTo_X0_wearBehindTurn : GoodIn wsX0_turnTo (va_wsS RX0 50 yX0_wearBehindTurn wsX0_wearBehindTurn) := goodIn_app (goodIn_of _ (by decide +kernel)) ggX0_turnTo_X0_wearBehindTurn
theorem dX0_turnTo_0 : decode cX0_turnTo 0 = .ok (.iconst 0, 1) := by decide +kernel
theorem dX0_turnTo_1 : decode cX0_turnTo 1 = .ok (.istore_n 2, 1) := by decide +kernel
theorem dX0_turnTo_2 : decode cX0_turnTo 2 = .ok (.iload_n 2, 1) := by decide +kernel
theorem dX0_turnTo_3 : decode cX0_turnTo 3 = .ok (.bipush 6, 2) := by decide +kernel
theorem dX0_turnTo_5 : decode cX0_turnTo 5 = .ok (.if_icmp .ge 93, 3) := by decide +kernel
theorem dX0_turnTo_8 : decode cX0_turnTo 8 = .ok (.aload_n 1, 1) := by decide +kernel
theorem dX0_turnTo_9 : decode cX0_turnTo 9 = .ok (.getfield 41, 3) := by decide +kernel
theorem dX0_turnTo_12 : decode cX0_turnTo 12 = .ok (.iload_n 2, 1) := by decide +kernel
theorem dX0_turnTo_13 : decode cX0_turnTo 13 = .ok (.iaload, 1) := by decide +kernel
theorem dX0_turnTo_14 : decode cX0_turnTo 14 = .ok (.aload_n 0, 1) := by decide +kernel
theorem dX0_turnTo_15 : decode cX0_turnTo 15 = .ok (.getfield 9, 3) := by decide +kernel
theorem dX0_turnTo_18 : decode cX0_turnTo 18 = .ok (.iload_n 2, 1) := by decide +kernel
theorem dX0_turnTo_19 : decode cX0_turnTo 19 = .ok (.iaload, 1) := by decide +kernel
theorem dX0_turnTo_20 : decode cX0_turnTo 20 = .ok (.isub, 1) := by decide +kernel
theorem dX0_turnTo_21 : decode cX0_turnTo 21 = .ok (.invokestatic 44, 3) := by decide +kernel
theorem dX0_turnTo_24 : decode cX0_turnTo 24 = .ok (.istore_n 3, 1) := by decide +kernel
theorem dX0_turnTo_25 : decode cX0_turnTo 25 = .ok (.iload_n 3, 1) := by decide +kernel
theorem dX0_turnTo_26 : decode cX0_turnTo 26 = .ok (.ifCond .le 66, 3) := by decide +kernel
theorem dX0_turnTo_29 : decode cX0_turnTo 29 = .ok (.aload_n 0, 1) := by decide +kernel
theorem dX0_turnTo_30 : decode cX0_turnTo 30 = .ok (.getfield 15, 3) := by decide +kernel
theorem dX0_turnTo_33 : decode cX0_turnTo 33 = .ok (.iload_n 2, 1) := by decide +kernel
theorem dX0_turnTo_34 : decode cX0_turnTo 34 = .ok (.iaload, 1) := by decide +kernel
theorem dX0_turnTo_35 : decode cX0_turnTo 35 = .ok (.bipush 100, 2) := by decide +kernel
theorem dX0_turnTo_37 : decode cX0_turnTo 37 = .ok (.if_icmp .ge 55, 3) := by decide +kernel
theorem dX0_turnTo_40 : decode cX0_turnTo 40 = .ok (.aload_n 0, 1) := by decide +kernel
theorem dX0_turnTo_41 : decode cX0_turnTo 41 = .ok (.getfield 15, 3) := by decide +kernel
theorem dX0_turnTo_44 : decode cX0_turnTo 44 = .ok (.iload_n 2, 1) := by decide +kernel
theorem dX0_turnTo_45 : decode cX0_turnTo 45 = .ok (.aload_n 0, 1) := by decide +kernel
theorem dX0_turnTo_46 : decode cX0_turnTo 46 = .ok (.getfield 15, 3) := by decide +kernel
theorem dX0_turnTo_49 : decode cX0_turnTo 49 = .ok (.iload_n 2, 1) := by decide +kernel
theorem dX0_turnTo_50 : decode cX0_turnTo 50 = .ok (.iaload, 1) := by decide +kernel
theorem dX0_turnTo_51 : decode cX0_turnTo 51 = .ok (.aload_n 0, 1) := by decide +kernel
theorem dX0_turnTo_52 : decode cX0_turnTo 52 = .ok (.getfield 18, 3) := by decide +kernel
theorem dX0_turnTo_55 : decode cX0_turnTo 55 = .ok (.iload_n 2, 1) := by decide +kernel
theorem dX0_turnTo_56 : decode cX0_turnTo 56 = .ok (.iaload, 1) := by decide +kernel
theorem dX0_turnTo_57 : decode cX0_turnTo 57 = .ok (.iload_n 3, 1) := by decide +kernel
theorem dX0_turnTo_58 : decode cX0_turnTo 58 = .ok (.invokestatic 50, 3) := by decide +kernel
theorem dX0_turnTo_61 : decode cX0_turnTo 61 = .ok (.iastore, 1) := by decide +kernel
theorem dX0_turnTo_62 : decode cX0_turnTo 62 = .ok (.aload_n 0, 1) := by decide +kernel
theorem dX0_turnTo_63 : decode cX0_turnTo 63 = .ok (.getfield 18, 3) := by decide +kernel
theorem dX0_turnTo_66 : decode cX0_turnTo 66 = .ok (.iload_n 2, 1) := by decide +kernel
theorem dX0_turnTo_67 : decode cX0_turnTo 67 = .ok (.iconst 0, 1) := by decide +kernel
theorem dX0_turnTo_68 : decode cX0_turnTo 68 = .ok (.aload_n 0, 1) := by decide +kernel
theorem dX0_turnTo_69 : decode cX0_turnTo 69 = .ok (.getfield 18, 3) := by decide +kernel
theorem dX0_turnTo_72 : decode cX0_turnTo 72 = .ok (.iload_n 2, 1) := by decide +kernel
theorem dX0_turnTo_73 : decode cX0_turnTo 73 = .ok (.iaload, 1) := by decide +kernel
theorem dX0_turnTo_74 : decode cX0_turnTo 74 = .ok (.iconst 1, 1) := by decide +kernel
theorem dX0_turnTo_75 : decode cX0_turnTo 75 = .ok (.isub, 1) := by decide +kernel
theorem dX0_turnTo_76 : decode cX0_turnTo 76 = .ok (.invokestatic 54, 3) := by decide +kernel
theorem dX0_turnTo_79 : decode cX0_turnTo 79 = .ok (.iastore, 1) := by decide +kernel
theorem dX0_turnTo_80 : decode cX0_turnTo 80 = .ok (.aload_n 0, 1) := by decide +kernel
theorem dX0_turnTo_81 : decode cX0_turnTo 81 = .ok (.getfield 9, 3) := by decide +kernel
theorem dX0_turnTo_84 : decode cX0_turnTo 84 = .ok (.iload_n 2, 1) := by decide +kernel
theorem dX0_turnTo_85 : decode cX0_turnTo 85 = .ok (.aload_n 1, 1) := by decide +kernel
theorem dX0_turnTo_86 : decode cX0_turnTo 86 = .ok (.getfield 41, 3) := by decide +kernel
theorem dX0_turnTo_89 : decode cX0_turnTo 89 = .ok (.iload_n 2, 1) := by decide +kernel
theorem dX0_turnTo_90 : decode cX0_turnTo 90 = .ok (.iaload, 1) := by decide +kernel
theorem dX0_turnTo_91 : decode cX0_turnTo 91 = .ok (.iastore, 1) := by decide +kernel
theorem dX0_turnTo_92 : decode cX0_turnTo 92 = .ok (.iinc 2 1, 3) := by decide +kernel
theorem dX0_turnTo_95 : decode cX0_turnTo 95 = .ok (.goto (-93), 3) := by decide +kernel
theorem dX0_turnTo_98 : decode cX0_turnTo 98 = .ok (.return_, 1) := by decide +kernel
theorem dX0_wearBehindTurn_0 : decode cX0_wearBehindTurn 0 = .ok (.iload_n 1, 1) := by decide +kernel
theorem dX0_wearBehindTurn_1 : decode cX0_wearBehindTurn 1 = .ok (.ifCond .le 10, 3) := by decide +kernel
theorem dX0_wearBehindTurn_4 : decode cX0_wearBehindTurn 4 = .ok (.iload_n 2, 1) := by decide +kernel
theorem dX0_wearBehindTurn_5 : decode cX0_wearBehindTurn 5 = .ok (.bipush 20, 2) := by decide +kernel
theorem dX0_wearBehindTurn_7 : decode cX0_wearBehindTurn 7 = .ok (.idiv, 1) := by decide +kernel
theorem dX0_wearBehindTurn_8 : decode cX0_wearBehindTurn 8 = .ok (.goto 9, 3) := by decide +kernel
theorem dX0_wearBehindTurn_11 : decode cX0_wearBehindTurn 11 = .ok (.iload_n 2, 1) := by decide +kernel
theorem dX0_wearBehindTurn_12 : decode cX0_wearBehindTurn 12 = .ok (.bipush 10, 2) := by decide +kernel
theorem dX0_wearBehindTurn_14 : decode cX0_wearBehindTurn 14 = .ok (.idiv, 1) := by decide +kernel
theorem dX0_wearBehindTurn_15 : decode cX0_wearBehindTurn 15 = .ok (.iconst 1, 1) := by decide +kernel
theorem dX0_wearBehindTurn_16 : decode cX0_wearBehindTurn 16 = .ok (.iadd, 1) := by decide +kernel
theorem dX0_wearBehindTurn_17 : decode cX0_wearBehindTurn 17 = .ok (.istore_n 3, 1) := by decide +kernel
theorem dX0_wearBehindTurn_18 : decode cX0_wearBehindTurn 18 = .ok (.bipush 100, 2) := by decide +kernel
theorem dX0_wearBehindTurn_20 : decode cX0_wearBehindTurn 20 = .ok (.iload_n 0, 1) := by decide +kernel
theorem dX0_wearBehindTurn_21 : decode cX0_wearBehindTurn 21 = .ok (.iload_n 3, 1) := by decide +kernel
theorem dX0_wearBehindTurn_22 : decode cX0_wearBehindTurn 22 = .ok (.iadd, 1) := by decide +kernel
theorem dX0_wearBehindTurn_23 : decode cX0_wearBehindTurn 23 = .ok (.invokestatic 58, 3) := by decide +kernel
theorem dX0_wearBehindTurn_26 : decode cX0_wearBehindTurn 26 = .ok (.ireturn, 1) := by decide +kernel
theorem dX0_wearOfAllJoints_0 : decode cX0_wearOfAllJoints 0 = .ok (.iconst 0, 1) := by decide +kernel
theorem dX0_wearOfAllJoints_1 : decode cX0_wearOfAllJoints 1 = .ok (.istore_n 1, 1) := by decide +kernel
theorem dX0_wearOfAllJoints_2 : decode cX0_wearOfAllJoints 2 = .ok (.aload_n 0, 1) := by decide +kernel
theorem dX0_wearOfAllJoints_3 : decode cX0_wearOfAllJoints 3 = .ok (.getfield 15, 3) := by decide +kernel
theorem dX0_wearOfAllJoints_6 : decode cX0_wearOfAllJoints 6 = .ok (.astore_n 2, 1) := by decide +kernel
theorem dX0_wearOfAllJoints_7 : decode cX0_wearOfAllJoints 7 = .ok (.aload_n 2, 1) := by decide +kernel
theorem dX0_wearOfAllJoints_8 : decode cX0_wearOfAllJoints 8 = .ok (.arraylength, 1) := by decide +kernel
theorem dX0_wearOfAllJoints_9 : decode cX0_wearOfAllJoints 9 = .ok (.istore_n 3, 1) := by decide +kernel
theorem dX0_wearOfAllJoints_10 : decode cX0_wearOfAllJoints 10 = .ok (.iconst 0, 1) := by decide +kernel
theorem dX0_wearOfAllJoints_11 : decode cX0_wearOfAllJoints 11 = .ok (.istore 4, 2) := by decide +kernel
theorem dX0_wearOfAllJoints_13 : decode cX0_wearOfAllJoints 13 = .ok (.iload 4, 2) := by decide +kernel
theorem dX0_wearOfAllJoints_15 : decode cX0_wearOfAllJoints 15 = .ok (.iload_n 3, 1) := by decide +kernel
theorem dX0_wearOfAllJoints_16 : decode cX0_wearOfAllJoints 16 = .ok (.if_icmp .ge 20, 3) := by decide +kernel
theorem dX0_wearOfAllJoints_19 : decode cX0_wearOfAllJoints 19 = .ok (.aload_n 2, 1) := by decide +kernel
theorem dX0_wearOfAllJoints_20 : decode cX0_wearOfAllJoints 20 = .ok (.iload 4, 2) := by decide +kernel
theorem dX0_wearOfAllJoints_22 : decode cX0_wearOfAllJoints 22 = .ok (.iaload, 1) := by decide +kernel
theorem dX0_wearOfAllJoints_23 : decode cX0_wearOfAllJoints 23 = .ok (.istore 5, 2) := by decide +kernel
theorem dX0_wearOfAllJoints_25 : decode cX0_wearOfAllJoints 25 = .ok (.iload_n 1, 1) := by decide +kernel
theorem dX0_wearOfAllJoints_26 : decode cX0_wearOfAllJoints 26 = .ok (.iload 5, 2) := by decide +kernel
theorem dX0_wearOfAllJoints_28 : decode cX0_wearOfAllJoints 28 = .ok (.iadd, 1) := by decide +kernel
theorem dX0_wearOfAllJoints_29 : decode cX0_wearOfAllJoints 29 = .ok (.istore_n 1, 1) := by decide +kernel
theorem dX0_wearOfAllJoints_30 : decode cX0_wearOfAllJoints 30 = .ok (.iinc 4 1, 3) := by decide +kernel
theorem dX0_wearOfAllJoints_33 : decode cX0_wearOfAllJoints 33 = .ok (.goto (-20), 3) := by decide +kernel
theorem dX0_wearOfAllJoints_36 : decode cX0_wearOfAllJoints 36 = .ok (.iload_n 1, 1) := by decide +kernel
theorem dX0_wearOfAllJoints_37 : decode cX0_wearOfAllJoints 37 = .ok (.ireturn, 1) := by decide +kernel
set_option maxRecDepth 20000 in
theorem ggX0_brokenJoints_X0_jointsWornBy : GoodIn wsX0_brokenJoints wsX0_jointsWornBy := goodIn_r _ [5, 6, 7, 8, 9, 10, 11, 12, 13, 14, 15] (by decide +kernel) (by decide +kernel)
set_option maxRecDepth 20000 in
theorem gX0_brokenJoints_X0_jointsWornBy : GoodIn wsX0_brokenJoints (wsV RX0 61 RX0 yX0_jointsWornBy wsX0_jointsWornBy) := goodIn_app (goodIn_of _ (by decide +kernel)) ggX0_brokenJoints_X0_jointsWornBy
theorem dX0_brokenJoints_0 : decode cX0_brokenJoints 0 = .ok (.aload_n 0, 1) := by decide +kernel
theorem dX0_brokenJoints_1 : decode cX0_brokenJoints 1 = .ok (.bipush 100, 2) := by decide +kernel
theorem dX0_brokenJoints_3 : decode cX0_brokenJoints 3 = .ok (.invokevirtual 61, 3) := by decide +kernel
theorem dX0_brokenJoints_6 : decode cX0_brokenJoints 6 = .ok (.ireturn, 1) := by decide +kernel
theorem dX0_jointsWornBy_0 : decode cX0_jointsWornBy 0 = .ok (.iconst 0, 1) := by decide +kernel
theorem dX0_jointsWornBy_1 : decode cX0_jointsWornBy 1 = .ok (.istore_n 2, 1) := by decide +kernel
theorem dX0_jointsWornBy_2 : decode cX0_jointsWornBy 2 = .ok (.aload_n 0, 1) := by decide +kernel
theorem dX0_jointsWornBy_3 : decode cX0_jointsWornBy 3 = .ok (.getfield 15, 3) := by decide +kernel
theorem dX0_jointsWornBy_6 : decode cX0_jointsWornBy 6 = .ok (.astore_n 3, 1) := by decide +kernel
theorem dX0_jointsWornBy_7 : decode cX0_jointsWornBy 7 = .ok (.aload_n 3, 1) := by decide +kernel
theorem dX0_jointsWornBy_8 : decode cX0_jointsWornBy 8 = .ok (.arraylength, 1) := by decide +kernel
theorem dX0_jointsWornBy_9 : decode cX0_jointsWornBy 9 = .ok (.istore 4, 2) := by decide +kernel
theorem dX0_jointsWornBy_11 : decode cX0_jointsWornBy 11 = .ok (.iconst 0, 1) := by decide +kernel
theorem dX0_jointsWornBy_12 : decode cX0_jointsWornBy 12 = .ok (.istore 5, 2) := by decide +kernel
theorem dX0_jointsWornBy_14 : decode cX0_jointsWornBy 14 = .ok (.iload 5, 2) := by decide +kernel
theorem dX0_jointsWornBy_16 : decode cX0_jointsWornBy 16 = .ok (.iload 4, 2) := by decide +kernel
theorem dX0_jointsWornBy_18 : decode cX0_jointsWornBy 18 = .ok (.if_icmp .ge 24, 3) := by decide +kernel
theorem dX0_jointsWornBy_21 : decode cX0_jointsWornBy 21 = .ok (.aload_n 3, 1) := by decide +kernel
theorem dX0_jointsWornBy_22 : decode cX0_jointsWornBy 22 = .ok (.iload 5, 2) := by decide +kernel
theorem dX0_jointsWornBy_24 : decode cX0_jointsWornBy 24 = .ok (.iaload, 1) := by decide +kernel
theorem dX0_jointsWornBy_25 : decode cX0_jointsWornBy 25 = .ok (.istore 6, 2) := by decide +kernel
theorem dX0_jointsWornBy_27 : decode cX0_jointsWornBy 27 = .ok (.iload 6, 2) := by decide +kernel
theorem dX0_jointsWornBy_29 : decode cX0_jointsWornBy 29 = .ok (.iload_n 1, 1) := by decide +kernel
theorem dX0_jointsWornBy_30 : decode cX0_jointsWornBy 30 = .ok (.if_icmp .lt 6, 3) := by decide +kernel
theorem dX0_jointsWornBy_33 : decode cX0_jointsWornBy 33 = .ok (.iinc 2 1, 3) := by decide +kernel
theorem dX0_jointsWornBy_36 : decode cX0_jointsWornBy 36 = .ok (.iinc 5 1, 3) := by decide +kernel
theorem dX0_jointsWornBy_39 : decode cX0_jointsWornBy 39 = .ok (.goto (-25), 3) := by decide +kernel
theorem dX0_jointsWornBy_42 : decode cX0_jointsWornBy 42 = .ok (.iload_n 2, 1) := by decide +kernel
theorem dX0_jointsWornBy_43 : decode cX0_jointsWornBy 43 = .ok (.ireturn, 1) := by decide +kernel
theorem dX0_eyesWithDust_0 : decode cX0_eyesWithDust 0 = .ok (.iconst 0, 1) := by decide +kernel
theorem dX0_eyesWithDust_1 : decode cX0_eyesWithDust 1 = .ok (.istore_n 2, 1) := by decide +kernel
theorem dX0_eyesWithDust_2 : decode cX0_eyesWithDust 2 = .ok (.aload_n 0, 1) := by decide +kernel
theorem dX0_eyesWithDust_3 : decode cX0_eyesWithDust 3 = .ok (.getfield 25, 3) := by decide +kernel
theorem dX0_eyesWithDust_6 : decode cX0_eyesWithDust 6 = .ok (.astore_n 3, 1) := by decide +kernel
theorem dX0_eyesWithDust_7 : decode cX0_eyesWithDust 7 = .ok (.aload_n 3, 1) := by decide +kernel
theorem dX0_eyesWithDust_8 : decode cX0_eyesWithDust 8 = .ok (.arraylength, 1) := by decide +kernel
theorem dX0_eyesWithDust_9 : decode cX0_eyesWithDust 9 = .ok (.istore 4, 2) := by decide +kernel
theorem dX0_eyesWithDust_11 : decode cX0_eyesWithDust 11 = .ok (.iconst 0, 1) := by decide +kernel
theorem dX0_eyesWithDust_12 : decode cX0_eyesWithDust 12 = .ok (.istore 5, 2) := by decide +kernel
theorem dX0_eyesWithDust_14 : decode cX0_eyesWithDust 14 = .ok (.iload 5, 2) := by decide +kernel
theorem dX0_eyesWithDust_16 : decode cX0_eyesWithDust 16 = .ok (.iload 4, 2) := by decide +kernel
theorem dX0_eyesWithDust_18 : decode cX0_eyesWithDust 18 = .ok (.if_icmp .ge 24, 3) := by decide +kernel
theorem dX0_eyesWithDust_21 : decode cX0_eyesWithDust 21 = .ok (.aload_n 3, 1) := by decide +kernel
theorem dX0_eyesWithDust_22 : decode cX0_eyesWithDust 22 = .ok (.iload 5, 2) := by decide +kernel
theorem dX0_eyesWithDust_24 : decode cX0_eyesWithDust 24 = .ok (.iaload, 1) := by decide +kernel
theorem dX0_eyesWithDust_25 : decode cX0_eyesWithDust 25 = .ok (.istore 6, 2) := by decide +kernel
theorem dX0_eyesWithDust_27 : decode cX0_eyesWithDust 27 = .ok (.iload 6, 2) := by decide +kernel
theorem dX0_eyesWithDust_29 : decode cX0_eyesWithDust 29 = .ok (.iload_n 1, 1) := by decide +kernel
theorem dX0_eyesWithDust_30 : decode cX0_eyesWithDust 30 = .ok (.if_icmp .lt 6, 3) := by decide +kernel
theorem dX0_eyesWithDust_33 : decode cX0_eyesWithDust 33 = .ok (.iinc 2 1, 3) := by decide +kernel
theorem dX0_eyesWithDust_36 : decode cX0_eyesWithDust 36 = .ok (.iinc 5 1, 3) := by decide +kernel
theorem dX0_eyesWithDust_39 : decode cX0_eyesWithDust 39 = .ok (.goto (-25), 3) := by decide +kernel
theorem dX0_eyesWithDust_42 : decode cX0_eyesWithDust 42 = .ok (.iload_n 2, 1) := by decide +kernel
theorem dX0_eyesWithDust_43 : decode cX0_eyesWithDust 43 = .ok (.ireturn, 1) := by decide +kernel
theorem dX0_wipeEyes_0 : decode cX0_wipeEyes 0 = .ok (.iconst 0, 1) := by decide +kernel
theorem dX0_wipeEyes_1 : decode cX0_wipeEyes 1 = .ok (.istore_n 1, 1) := by decide +kernel
theorem dX0_wipeEyes_2 : decode cX0_wipeEyes 2 = .ok (.iload_n 1, 1) := by decide +kernel
theorem dX0_wipeEyes_3 : decode cX0_wipeEyes 3 = .ok (.iconst 2, 1) := by decide +kernel
theorem dX0_wipeEyes_4 : decode cX0_wipeEyes 4 = .ok (.if_icmp .ge 16, 3) := by decide +kernel
theorem dX0_wipeEyes_7 : decode cX0_wipeEyes 7 = .ok (.aload_n 0, 1) := by decide +kernel
theorem dX0_wipeEyes_8 : decode cX0_wipeEyes 8 = .ok (.getfield 25, 3) := by decide +kernel
theorem dX0_wipeEyes_11 : decode cX0_wipeEyes 11 = .ok (.iload_n 1, 1) := by decide +kernel
theorem dX0_wipeEyes_12 : decode cX0_wipeEyes 12 = .ok (.iconst 0, 1) := by decide +kernel
theorem dX0_wipeEyes_13 : decode cX0_wipeEyes 13 = .ok (.iastore, 1) := by decide +kernel
theorem dX0_wipeEyes_14 : decode cX0_wipeEyes 14 = .ok (.iinc 1 1, 3) := by decide +kernel
theorem dX0_wipeEyes_17 : decode cX0_wipeEyes 17 = .ok (.goto (-15), 3) := by decide +kernel
theorem dX0_wipeEyes_20 : decode cX0_wipeEyes 20 = .ok (.return_, 1) := by decide +kernel
theorem dX0_hasRoomForPin_0 : decode cX0_hasRoomForPin 0 = .ok (.aload_n 0, 1) := by decide +kernel
theorem dX0_hasRoomForPin_1 : decode cX0_hasRoomForPin 1 = .ok (.getfield 32, 3) := by decide +kernel
theorem dX0_hasRoomForPin_4 : decode cX0_hasRoomForPin 4 = .ok (.ifCond .eq 16, 3) := by decide +kernel
theorem dX0_hasRoomForPin_7 : decode cX0_hasRoomForPin 7 = .ok (.aload_n 0, 1) := by decide +kernel
theorem dX0_hasRoomForPin_8 : decode cX0_hasRoomForPin 8 = .ok (.getfield 35, 3) := by decide +kernel
theorem dX0_hasRoomForPin_11 : decode cX0_hasRoomForPin 11 = .ok (.bipush 12, 2) := by decide +kernel
theorem dX0_hasRoomForPin_13 : decode cX0_hasRoomForPin 13 = .ok (.if_icmp .ge 7, 3) := by decide +kernel
theorem dX0_hasRoomForPin_16 : decode cX0_hasRoomForPin 16 = .ok (.iconst 1, 1) := by decide +kernel
theorem dX0_hasRoomForPin_17 : decode cX0_hasRoomForPin 17 = .ok (.goto 4, 3) := by decide +kernel
theorem dX0_hasRoomForPin_20 : decode cX0_hasRoomForPin 20 = .ok (.iconst 0, 1) := by decide +kernel
theorem dX0_hasRoomForPin_21 : decode cX0_hasRoomForPin 21 = .ok (.ireturn, 1) := by decide +kernel
set_option maxRecDepth 20000 in
theorem ggX0_tally_X0_brokenJoints : GoodIn wsX0_tally wsX0_brokenJoints := goodIn_r _ [7, 8, 9, 10, 6, 11, 12, 18, 19, 20, 21, 22, 23, 24, 25, 26] (by decide +kernel) (by decide +kernel)
set_option maxRecDepth 20000 in
theorem gX0_tally_X0_brokenJoints : GoodIn wsX0_tally (wsV RX0 64 RX0 yX0_brokenJoints wsX0_brokenJoints) := goodIn_app (goodIn_of _ (by decide +kernel)) ggX0_tally_X0_brokenJoints
set_option maxRecDepth 20000 in
theorem ggX0_tally_X0_eyesWithDust : GoodIn wsX0_tally wsX0_eyesWithDust := goodIn_r _ [16, 17, 18, 19, 20, 21, 22, 23, 24, 25, 26] (by decide +kernel) (by decide +kernel)
set_option maxRecDepth 20000 in
theorem gX0_tally_X0_eyesWithDust : GoodIn wsX0_tally (wsV RX0 68 RX0 yX0_eyesWithDust wsX0_eyesWithDust) := goodIn_app (goodIn_of _ (by decide +kernel)) ggX0_tally_X0_eyesWithDust
theorem dX0_tally_0 : decode cX0_tally 0 = .ok (.iload_n 1, 1) := by decide +kernel
theorem dX0_tally_1 : decode cX0_tally 1 = .ok (.tableswitch 59 4 6 #[27, 32, 46], 27) := by decide +kernel
theorem dX0_tally_28 : decode cX0_tally 28 = .ok (.aload_n 0, 1) := by decide +kernel
theorem dX0_tally_29 : decode cX0_tally 29 = .ok (.invokevirtual 64, 3) := by decide +kernel
theorem dX0_tally_32 : decode cX0_tally 32 = .ok (.ireturn, 1) := by decide +kernel
theorem dX0_tally_33 : decode cX0_tally 33 = .ok (.aload_n 0, 1) := by decide +kernel
theorem dX0_tally_34 : decode cX0_tally 34 = .ok (.getfield 28, 3) := by decide +kernel
theorem dX0_tally_37 : decode cX0_tally 37 = .ok (.iconst (-1), 1) := by decide +kernel
theorem dX0_tally_38 : decode cX0_tally 38 = .ok (.if_icmp .ne 7, 3) := by decide +kernel
theorem dX0_tally_41 : decode cX0_tally 41 = .ok (.iconst 0, 1) := by decide +kernel
theorem dX0_tally_42 : decode cX0_tally 42 = .ok (.goto 4, 3) := by decide +kernel
theorem dX0_tally_45 : decode cX0_tally 45 = .ok (.iconst 1, 1) := by decide +kernel
theorem dX0_tally_46 : decode cX0_tally 46 = .ok (.ireturn, 1) := by decide +kernel
theorem dX0_tally_47 : decode cX0_tally 47 = .ok (.aload_n 0, 1) := by decide +kernel
theorem dX0_tally_48 : decode cX0_tally 48 = .ok (.getfield 32, 3) := by decide +kernel
theorem dX0_tally_51 : decode cX0_tally 51 = .ok (.ifCond .ne 7, 3) := by decide +kernel
theorem dX0_tally_54 : decode cX0_tally 54 = .ok (.iconst 0, 1) := by decide +kernel
theorem dX0_tally_55 : decode cX0_tally 55 = .ok (.goto 4, 3) := by decide +kernel
theorem dX0_tally_58 : decode cX0_tally 58 = .ok (.iconst 1, 1) := by decide +kernel
theorem dX0_tally_59 : decode cX0_tally 59 = .ok (.ireturn, 1) := by decide +kernel
theorem dX0_tally_60 : decode cX0_tally 60 = .ok (.aload_n 0, 1) := by decide +kernel
theorem dX0_tally_61 : decode cX0_tally 61 = .ok (.bipush 9, 2) := by decide +kernel
theorem dX0_tally_63 : decode cX0_tally 63 = .ok (.invokevirtual 68, 3) := by decide +kernel
theorem dX0_tally_66 : decode cX0_tally 66 = .ok (.ireturn, 1) := by decide +kernel
set_option maxRecDepth 20000 in
theorem ggX0_liveOneDay_X0_tally : GoodIn wsX0_liveOneDay wsX0_tally := goodIn_r _ [5, 6, 7, 8, 9, 10, 4, 11, 12, 13, 14, 15, 16, 17, 18, 19, 20, 21, 48, 49, 50, 51, 52, 53, 54, 55, 56] (by decide +kernel) (by decide +kernel)
set_option maxRecDepth 20000 in
theorem gX0_liveOneDay_X0_tally : GoodIn wsX0_liveOneDay (wsV RX0 77 RX0 yX0_tally wsX0_tally) := goodIn_app (goodIn_of _ (by decide +kernel)) ggX0_liveOneDay_X0_tally
set_option maxRecDepth 20000 in
theorem ggX0_liveOneDay_X0_eatWig : GoodIn wsX0_liveOneDay wsX0_eatWig := goodIn_r _ [25, 6, 48, 49, 50, 51, 52, 53, 54, 55, 56] (by decide +kernel) (by decide +kernel)
set_option maxRecDepth 20000 in
theorem gX0_liveOneDay_X0_eatWig : GoodIn wsX0_liveOneDay (wsV RX0 80 RX0 yX0_eatWig wsX0_eatWig) := goodIn_app (goodIn_of _ (by decide +kernel)) ggX0_liveOneDay_X0_eatWig
set_option maxRecDepth 20000 in
theorem ggX0_liveOneDay_X0_loosenDress : GoodIn wsX0_liveOneDay wsX0_loosenDress := goodIn_r _ [29, 7, 16, 30, 31, 32, 33, 34, 48, 49, 50, 51, 52, 53, 54, 55, 56] (by decide +kernel) (by decide +kernel)
set_option maxRecDepth 20000 in
theorem gX0_liveOneDay_X0_loosenDress : GoodIn wsX0_liveOneDay (wsV RX0 84 RX0 yX0_loosenDress wsX0_loosenDress) := goodIn_app (goodIn_of _ (by decide +kernel)) ggX0_liveOneDay_X0_loosenDress
set_option maxRecDepth 20000 in
theorem ggX0_liveOneDay_X0_dryLacquer : GoodIn wsX0_liveOneDay wsX0_dryLacquer := goodIn_r _ [38, 39, 31, 32, 33, 34, 48, 49, 50, 51, 52, 53, 54, 55, 56] (by decide +kernel) (by decide +kernel)
set_option maxRecDepth 20000 in
theorem gX0_liveOneDay_X0_dryLacquer : GoodIn wsX0_liveOneDay (wsV RX0 87 RX0 yX0_dryLacquer wsX0_dryLacquer) := goodIn_app (goodIn_of _ (by decide +kernel)) ggX0_liveOneDay_X0_dryLacquer
set_option maxRecDepth 20000 in
theorem ggX0_liveOneDay_X0_gatherDust : GoodIn wsX0_liveOneDay wsX0_gatherDust := goodIn_r _ [43, 44, 21, 45, 46, 33, 47, 48, 49, 50, 51, 52, 53, 54, 55, 56] (by decide +kernel) (by decide +kernel)
set_option maxRecDepth 20000 in
theorem gX0_liveOneDay_X0_gatherDust : GoodIn wsX0_liveOneDay (wsV RX0 90 RX0 yX0_gatherDust wsX0_gatherDust) := goodIn_app (goodIn_of _ (by decide +kernel)) ggX0_liveOneDay_X0_gatherDust
theorem dX0_liveOneDay_0 : decode cX0_liveOneDay 0 = .ok (.aload_n 0, 1) := by decide +kernel
theorem dX0_liveOneDay_1 : decode cX0_liveOneDay 1 = .ok (.iconst 5, 1) := by decide +kernel
theorem dX0_liveOneDay_2 : decode cX0_liveOneDay 2 = .ok (.invokevirtual 77, 3) := by decide +kernel
theorem dX0_liveOneDay_5 : decode cX0_liveOneDay 5 = .ok (.istore_n 3, 1) := by decide +kernel
theorem dX0_liveOneDay_6 : decode cX0_liveOneDay 6 = .ok (.aload_n 0, 1) := by decide +kernel
theorem dX0_liveOneDay_7 : decode cX0_liveOneDay 7 = .ok (.bipush 6, 2) := by decide +kernel
theorem dX0_liveOneDay_9 : decode cX0_liveOneDay 9 = .ok (.invokevirtual 77, 3) := by decide +kernel
theorem dX0_liveOneDay_12 : decode cX0_liveOneDay 12 = .ok (.istore 4, 2) := by decide +kernel
theorem dX0_liveOneDay_14 : decode cX0_liveOneDay 14 = .ok (.aload_n 0, 1) := by decide +kernel
theorem dX0_liveOneDay_15 : decode cX0_liveOneDay 15 = .ok (.iload_n 2, 1) := by decide +kernel
theorem dX0_liveOneDay_16 : decode cX0_liveOneDay 16 = .ok (.invokevirtual 80, 3) := by decide +kernel
theorem dX0_liveOneDay_19 : decode cX0_liveOneDay 19 = .ok (.aload_n 0, 1) := by decide +kernel
theorem dX0_liveOneDay_20 : decode cX0_liveOneDay 20 = .ok (.invokevirtual 84, 3) := by decide +kernel
theorem dX0_liveOneDay_23 : decode cX0_liveOneDay 23 = .ok (.iload_n 1, 1) := by decide +kernel
theorem dX0_liveOneDay_24 : decode cX0_liveOneDay 24 = .ok (.iconst 3, 1) := by decide +kernel
theorem dX0_liveOneDay_25 : decode cX0_liveOneDay 25 = .ok (.irem, 1) := by decide +kernel
theorem dX0_liveOneDay_26 : decode cX0_liveOneDay 26 = .ok (.ifCond .ne 7, 3) := by decide +kernel
theorem dX0_liveOneDay_29 : decode cX0_liveOneDay 29 = .ok (.aload_n 0, 1) := by decide +kernel
theorem dX0_liveOneDay_30 : decode cX0_liveOneDay 30 = .ok (.invokevirtual 87, 3) := by decide +kernel
theorem dX0_liveOneDay_33 : decode cX0_liveOneDay 33 = .ok (.aload_n 0, 1) := by decide +kernel
theorem dX0_liveOneDay_34 : decode cX0_liveOneDay 34 = .ok (.invokevirtual 90, 3) := by decide +kernel
theorem dX0_liveOneDay_37 : decode cX0_liveOneDay 37 = .ok (.iload_n 3, 1) := by decide +kernel
theorem dX0_liveOneDay_38 : decode cX0_liveOneDay 38 = .ok (.aload_n 0, 1) := by decide +kernel
theorem dX0_liveOneDay_39 : decode cX0_liveOneDay 39 = .ok (.iconst 5, 1) := by decide +kernel
theorem dX0_liveOneDay_40 : decode cX0_liveOneDay 40 = .ok (.invokevirtual 77, 3) := by decide +kernel
theorem dX0_liveOneDay_43 : decode cX0_liveOneDay 43 = .ok (.isub, 1) := by decide +kernel
theorem dX0_liveOneDay_44 : decode cX0_liveOneDay 44 = .ok (.iload 4, 2) := by decide +kernel
theorem dX0_liveOneDay_46 : decode cX0_liveOneDay 46 = .ok (.iadd, 1) := by decide +kernel
theorem dX0_liveOneDay_47 : decode cX0_liveOneDay 47 = .ok (.aload_n 0, 1) := by decide +kernel
theorem dX0_liveOneDay_48 : decode cX0_liveOneDay 48 = .ok (.bipush 6, 2) := by decide +kernel
theorem dX0_liveOneDay_50 : decode cX0_liveOneDay 50 = .ok (.invokevirtual 77, 3) := by decide +kernel
theorem dX0_liveOneDay_53 : decode cX0_liveOneDay 53 = .ok (.isub, 1) := by decide +kernel
theorem dX0_liveOneDay_54 : decode cX0_liveOneDay 54 = .ok (.ireturn, 1) := by decide +kernel
theorem dX0_eatWig_0 : decode cX0_eatWig 0 = .ok (.aload_n 0, 1) := by decide +kernel
theorem dX0_eatWig_1 : decode cX0_eatWig 1 = .ok (.getfield 28, 3) := by decide +kernel
theorem dX0_eatWig_4 : decode cX0_eatWig 4 = .ok (.iconst (-1), 1) := by decide +kernel
theorem dX0_eatWig_5 : decode cX0_eatWig 5 = .ok (.if_icmp .ne 4, 3) := by decide +kernel
theorem dX0_eatWig_8 : decode cX0_eatWig 8 = .ok (.return_, 1) := by decide +kernel
theorem dX0_eatWig_9 : decode cX0_eatWig 9 = .ok (.aload_n 0, 1) := by decide +kernel
theorem dX0_eatWig_10 : decode cX0_eatWig 10 = .ok (.dup, 1) := by decide +kernel
theorem dX0_eatWig_11 : decode cX0_eatWig 11 = .ok (.getfield 28, 3) := by decide +kernel
theorem dX0_eatWig_14 : decode cX0_eatWig 14 = .ok (.iload_n 1, 1) := by decide +kernel
theorem dX0_eatWig_15 : decode cX0_eatWig 15 = .ok (.iadd, 1) := by decide +kernel
theorem dX0_eatWig_16 : decode cX0_eatWig 16 = .ok (.putfield 28, 3) := by decide +kernel
theorem dX0_eatWig_19 : decode cX0_eatWig 19 = .ok (.aload_n 0, 1) := by decide +kernel
theorem dX0_eatWig_20 : decode cX0_eatWig 20 = .ok (.getfield 28, 3) := by decide +kernel
theorem dX0_eatWig_23 : decode cX0_eatWig 23 = .ok (.bipush 10, 2) := by decide +kernel
theorem dX0_eatWig_25 : decode cX0_eatWig 25 = .ok (.if_icmp .lt 8, 3) := by decide +kernel
theorem dX0_eatWig_28 : decode cX0_eatWig 28 = .ok (.aload_n 0, 1) := by decide +kernel
theorem dX0_eatWig_29 : decode cX0_eatWig 29 = .ok (.iconst (-1), 1) := by decide +kernel
theorem dX0_eatWig_30 : decode cX0_eatWig 30 = .ok (.putfield 28, 3) := by decide +kernel
theorem dX0_eatWig_33 : decode cX0_eatWig 33 = .ok (.return_, 1) := by decide +kernel
theorem dX0_loosenDress_0 : decode cX0_loosenDress 0 = .ok (.aload_n 0, 1) := by decide +kernel
theorem dX0_loosenDress_1 : decode cX0_loosenDress 1 = .ok (.getfield 32, 3) := by decide +kernel
theorem dX0_loosenDress_4 : decode cX0_loosenDress 4 = .ok (.ifCond .eq 14, 3) := by decide +kernel
theorem dX0_loosenDress_7 : decode cX0_loosenDress 7 = .ok (.aload_n 0, 1) := by decide +kernel
theorem dX0_loosenDress_8 : decode cX0_loosenDress 8 = .ok (.getfield 15, 3) := by decide +kernel
theorem dX0_loosenDress_11 : decode cX0_loosenDress 11 = .ok (.iconst 5, 1) := by decide +kernel
theorem dX0_loosenDress_12 : decode cX0_loosenDress 12 = .ok (.iaload, 1) := by decide +kernel
theorem dX0_loosenDress_13 : decode cX0_loosenDress 13 = .ok (.bipush 50, 2) := by decide +kernel
theorem dX0_loosenDress_15 : decode cX0_loosenDress 15 = .ok (.if_icmp .ge 4, 3) := by decide +kernel
theorem dX0_loosenDress_18 : decode cX0_loosenDress 18 = .ok (.return_, 1) := by decide +kernel
theorem dX0_loosenDress_19 : decode cX0_loosenDress 19 = .ok (.aload_n 0, 1) := by decide +kernel
theorem dX0_loosenDress_20 : decode cX0_loosenDress 20 = .ok (.iconst 0, 1) := by decide +kernel
theorem dX0_loosenDress_21 : decode cX0_loosenDress 21 = .ok (.aload_n 0, 1) := by decide +kernel
theorem dX0_loosenDress_22 : decode cX0_loosenDress 22 = .ok (.getfield 35, 3) := by decide +kernel
theorem dX0_loosenDress_25 : decode cX0_loosenDress 25 = .ok (.iconst 1, 1) := by decide +kernel
theorem dX0_loosenDress_26 : decode cX0_loosenDress 26 = .ok (.isub, 1) := by decide +kernel
theorem dX0_loosenDress_27 : decode cX0_loosenDress 27 = .ok (.invokestatic 54, 3) := by decide +kernel
theorem dX0_loosenDress_30 : decode cX0_loosenDress 30 = .ok (.putfield 35, 3) := by decide +kernel
theorem dX0_loosenDress_33 : decode cX0_loosenDress 33 = .ok (.aload_n 0, 1) := by decide +kernel
theorem dX0_loosenDress_34 : decode cX0_loosenDress 34 = .ok (.getfield 35, 3) := by decide +kernel
theorem dX0_loosenDress_37 : decode cX0_loosenDress 37 = .ok (.aload_n 0, 1) := by decide +kernel
theorem dX0_loosenDress_38 : decode cX0_loosenDress 38 = .ok (.getfield 32, 3) := by decide +kernel
theorem dX0_loosenDress_41 : decode cX0_loosenDress 41 = .ok (.if_icmp .ge 13, 3) := by decide +kernel
theorem dX0_loosenDress_44 : decode cX0_loosenDress 44 = .ok (.aload_n 0, 1) := by decide +kernel
theorem dX0_loosenDress_45 : decode cX0_loosenDress 45 = .ok (.iconst 0, 1) := by decide +kernel
theorem dX0_loosenDress_46 : decode cX0_loosenDress 46 = .ok (.putfield 32, 3) := by decide +kernel
theorem dX0_loosenDress_49 : decode cX0_loosenDress 49 = .ok (.aload_n 0, 1) := by decide +kernel
theorem dX0_loosenDress_50 : decode cX0_loosenDress 50 = .ok (.iconst 0, 1) := by decide +kernel
theorem dX0_loosenDress_51 : decode cX0_loosenDress 51 = .ok (.putfield 35, 3) := by decide +kernel
theorem dX0_loosenDress_54 : decode cX0_loosenDress 54 = .ok (.return_, 1) := by decide +kernel
theorem dX0_dryLacquer_0 : decode cX0_dryLacquer 0 = .ok (.iconst 0, 1) := by decide +kernel
theorem dX0_dryLacquer_1 : decode cX0_dryLacquer 1 = .ok (.istore_n 1, 1) := by decide +kernel
theorem dX0_dryLacquer_2 : decode cX0_dryLacquer 2 = .ok (.iload_n 1, 1) := by decide +kernel
theorem dX0_dryLacquer_3 : decode cX0_dryLacquer 3 = .ok (.bipush 6, 2) := by decide +kernel
theorem dX0_dryLacquer_5 : decode cX0_dryLacquer 5 = .ok (.if_icmp .ge 27, 3) := by decide +kernel
theorem dX0_dryLacquer_8 : decode cX0_dryLacquer 8 = .ok (.aload_n 0, 1) := by decide +kernel
theorem dX0_dryLacquer_9 : decode cX0_dryLacquer 9 = .ok (.getfield 18, 3) := by decide +kernel
theorem dX0_dryLacquer_12 : decode cX0_dryLacquer 12 = .ok (.iload_n 1, 1) := by decide +kernel
theorem dX0_dryLacquer_13 : decode cX0_dryLacquer 13 = .ok (.iconst 0, 1) := by decide +kernel
theorem dX0_dryLacquer_14 : decode cX0_dryLacquer 14 = .ok (.aload_n 0, 1) := by decide +kernel
theorem dX0_dryLacquer_15 : decode cX0_dryLacquer 15 = .ok (.getfield 18, 3) := by decide +kernel
theorem dX0_dryLacquer_18 : decode cX0_dryLacquer 18 = .ok (.iload_n 1, 1) := by decide +kernel
theorem dX0_dryLacquer_19 : decode cX0_dryLacquer 19 = .ok (.iaload, 1) := by decide +kernel
theorem dX0_dryLacquer_20 : decode cX0_dryLacquer 20 = .ok (.iconst 1, 1) := by decide +kernel
theorem dX0_dryLacquer_21 : decode cX0_dryLacquer 21 = .ok (.isub, 1) := by decide +kernel
theorem dX0_dryLacquer_22 : decode cX0_dryLacquer 22 = .ok (.invokestatic 54, 3) := by decide +kernel
theorem dX0_dryLacquer_25 : decode cX0_dryLacquer 25 = .ok (.iastore, 1) := by decide +kernel
theorem dX0_dryLacquer_26 : decode cX0_dryLacquer 26 = .ok (.iinc 1 1, 3) := by decide +kernel
theorem dX0_dryLacquer_29 : decode cX0_dryLacquer 29 = .ok (.goto (-27), 3) := by decide +kernel
theorem dX0_dryLacquer_32 : decode cX0_dryLacquer 32 = .ok (.return_, 1) := by decide +kernel
theorem dX0_gatherDust_0 : decode cX0_gatherDust 0 = .ok (.iconst 0, 1) := by decide +kernel
theorem dX0_gatherDust_1 : decode cX0_gatherDust 1 = .ok (.istore_n 1, 1) := by decide +kernel
theorem dX0_gatherDust_2 : decode cX0_gatherDust 2 = .ok (.iload_n 1, 1) := by decide +kernel
theorem dX0_gatherDust_3 : decode cX0_gatherDust 3 = .ok (.iconst 2, 1) := by decide +kernel
theorem dX0_gatherDust_4 : decode cX0_gatherDust 4 = .ok (.if_icmp .ge 37, 3) := by decide +kernel
theorem dX0_gatherDust_7 : decode cX0_gatherDust 7 = .ok (.aload_n 0, 1) := by decide +kernel
theorem dX0_gatherDust_8 : decode cX0_gatherDust 8 = .ok (.getfield 21, 3) := by decide +kernel
theorem dX0_gatherDust_11 : decode cX0_gatherDust 11 = .ok (.iload_n 1, 1) := by decide +kernel
theorem dX0_gatherDust_12 : decode cX0_gatherDust 12 = .ok (.baload, 1) := by decide +kernel
theorem dX0_gatherDust_13 : decode cX0_gatherDust 13 = .ok (.ifCond .eq 22, 3) := by decide +kernel
theorem dX0_gatherDust_16 : decode cX0_gatherDust 16 = .ok (.aload_n 0, 1) := by decide +kernel
theorem dX0_gatherDust_17 : decode cX0_gatherDust 17 = .ok (.getfield 25, 3) := by decide +kernel
theorem dX0_gatherDust_20 : decode cX0_gatherDust 20 = .ok (.iload_n 1, 1) := by decide +kernel
theorem dX0_gatherDust_21 : decode cX0_gatherDust 21 = .ok (.bipush 9, 2) := by decide +kernel
theorem dX0_gatherDust_23 : decode cX0_gatherDust 23 = .ok (.aload_n 0, 1) := by decide +kernel
theorem dX0_gatherDust_24 : decode cX0_gatherDust 24 = .ok (.getfield 25, 3) := by decide +kernel
theorem dX0_gatherDust_27 : decode cX0_gatherDust 27 = .ok (.iload_n 1, 1) := by decide +kernel
theorem dX0_gatherDust_28 : decode cX0_gatherDust 28 = .ok (.iaload, 1) := by decide +kernel
theorem dX0_gatherDust_29 : decode cX0_gatherDust 29 = .ok (.iconst 1, 1) := by decide +kernel
theorem dX0_gatherDust_30 : decode cX0_gatherDust 30 = .ok (.iadd, 1) := by decide +kernel
theorem dX0_gatherDust_31 : decode cX0_gatherDust 31 = .ok (.invokestatic 58, 3) := by decide +kernel
theorem dX0_gatherDust_34 : decode cX0_gatherDust 34 = .ok (.iastore, 1) := by decide +kernel
theorem dX0_gatherDust_35 : decode cX0_gatherDust 35 = .ok (.iinc 1 1, 3) := by decide +kernel
theorem dX0_gatherDust_38 : decode cX0_gatherDust 38 = .ok (.goto (-36), 3) := by decide +kernel
theorem dX0_gatherDust_41 : decode cX0_gatherDust 41 = .ok (.return_, 1) := by decide +kernel
theorem dX1_init_0 : decode cX1_init 0 = .ok (.aload_n 0, 1) := by decide +kernel
theorem dX1_init_1 : decode cX1_init 1 = .ok (.invokespecial 3, 3) := by decide +kernel
theorem dX1_init_4 : decode cX1_init 4 = .ok (.aload_n 0, 1) := by decide +kernel
theorem dX1_init_5 : decode cX1_init 5 = .ok (.bipush 6, 2) := by decide +kernel
theorem dX1_init_7 : decode cX1_init 7 = .ok (.newarray .int, 2) := by decide +kernel
theorem dX1_init_9 : decode cX1_init 9 = .ok (.putfield 9, 3) := by decide +kernel
theorem dX1_init_12 : decode cX1_init 12 = .ok (.return_, 1) := by decide +kernel
set_option maxRecDepth 20000 in
theorem ggX2_init_X1_init : GoodIn wsX2_init wsX1_init := goodIn_r _ [21, 22, 2, 3, 8, 23, 47] (by decide +kernel) (by decide +kernel)
set_option maxRecDepth 20000 in
theorem gX2_init_X1_init_n25 : GoodIn wsX2_init (wsX1_init) := ggX2_init_X1_init
set_option maxRecDepth 20000 in
theorem ggX2_init_X0_init : GoodIn wsX2_init wsX0_init := goodIn_r _ [26, 27, 2, 3, 8, 28, 29, 30, 31, 32, 33, 34, 35, 36, 37, 48, 49, 50, 51, 52, 53, 54, 55, 56] (by decide +kernel) (by decide +kernel)
set_option maxRecDepth 20000 in
theorem gX2_init_X0_init : GoodIn wsX2_init (wsX0_init) := ggX2_init_X0_init
theorem dX2_init_0 : decode cX2_init 0 = .ok (.aload_n 0, 1) := by decide +kernel
theorem dX2_init_1 : decode cX2_init 1 = .ok (.invokespecial 1, 3) := by decide +kernel
theorem dX2_init_4 : decode cX2_init 4 = .ok (.aload_n 0, 1) := by decide +kernel
theorem dX2_init_5 : decode cX2_init 5 = .ok (.bipush 8, 2) := by decide +kernel
theorem dX2_init_7 : decode cX2_init 7 = .ok (.anewarray 9, 3) := by decide +kernel
theorem dX2_init_10 : decode cX2_init 10 = .ok (.putfield 11, 3) := by decide +kernel
theorem dX2_init_13 : decode cX2_init 13 = .ok (.aload_n 0, 1) := by decide +kernel
theorem dX2_init_14 : decode cX2_init 14 = .ok (.bipush 8, 2) := by decide +kernel
theorem dX2_init_16 : decode cX2_init 16 = .ok (.anewarray 15, 3) := by decide +kernel
theorem dX2_init_19 : decode cX2_init 19 = .ok (.putfield 17, 3) := by decide +kernel
theorem dX2_init_22 : decode cX2_init 22 = .ok (.aload_n 0, 1) := by decide +kernel
theorem dX2_init_23 : decode cX2_init 23 = .ok (.iconst 5, 1) := by decide +kernel
theorem dX2_init_24 : decode cX2_init 24 = .ok (.newarray .int, 2) := by decide +kernel
theorem dX2_init_26 : decode cX2_init 26 = .ok (.putfield 21, 3) := by decide +kernel
theorem dX2_init_29 : decode cX2_init 29 = .ok (.aload_n 0, 1) := by decide +kernel
theorem dX2_init_30 : decode cX2_init 30 = .ok (.new 15, 3) := by decide +kernel
theorem dX2_init_33 : decode cX2_init 33 = .ok (.dup, 1) := by decide +kernel
theorem dX2_init_34 : decode cX2_init 34 = .ok (.invokespecial 25, 3) := by decide +kernel
theorem dX2_init_37 : decode cX2_init 37 = .ok (.putfield 26, 3) := by decide +kernel
theorem dX2_init_40 : decode cX2_init 40 = .ok (.aload_n 0, 1) := by decide +kernel
theorem dX2_init_41 : decode cX2_init 41 = .ok (.new 9, 3) := by decide +kernel
theorem dX2_init_44 : decode cX2_init 44 = .ok (.dup, 1) := by decide +kernel
theorem dX2_init_45 : decode cX2_init 45 = .ok (.invokespecial 30, 3) := by decide +kernel
theorem dX2_init_48 : decode cX2_init 48 = .ok (.putfield 31, 3) := by decide +kernel
theorem dX2_init_51 : decode cX2_init 51 = .ok (.aload_n 0, 1) := by decide +kernel
theorem dX2_init_52 : decode cX2_init 52 = .ok (.iconst 0, 1) := by decide +kernel
theorem dX2_init_53 : decode cX2_init 53 = .ok (.putfield 35, 3) := by decide +kernel
theorem dX2_init_56 : decode cX2_init 56 = .ok (.aload_n 0, 1) := by decide +kernel
theorem dX2_init_57 : decode cX2_init 57 = .ok (.iconst 0, 1) := by decide +kernel
theorem dX2_init_58 : decode cX2_init 58 = .ok (.putfield 39, 3) := by decide +kernel
theorem dX2_init_61 : decode cX2_init 61 = .ok (.aload_n 0, 1) := by decide +kernel
theorem dX2_init_62 : decode cX2_init 62 = .ok (.iconst 0, 1) := by decide +kernel
theorem dX2_init_63 : decode cX2_init 63 = .ok (.putfield 42, 3) := by decide +kernel
theorem dX2_init_66 : decode cX2_init 66 = .ok (.aload_n 0, 1) := by decide +kernel
theorem dX2_init_67 : decode cX2_init 67 = .ok (.iconst 1, 1) := by decide +kernel
theorem dX2_init_68 : decode cX2_init 68 = .ok (.putfield 45, 3) := by decide +kernel
theorem dX2_init_71 : decode cX2_init 71 = .ok (.return_, 1) := by decide +kernel
set_option maxRecDepth 20000 in
theorem ggX2_make_X0_init : GoodIn wsX2_make wsX0_init := goodIn_r _ [10, 11, 12, 13, 14, 15, 16, 17, 18, 19, 20, 21, 22, 23, 24, 34, 35, 36, 37, 38, 39, 40, 41, 42] (by decide +kernel) (by decide +kernel)
set_option maxRecDepth 20000 in
theorem gX2_make_X0_init : GoodIn wsX2_make (wsX0_init) := ggX2_make_X0_init
theorem dX2_make_0 : decode cX2_make 0 = .ok (.aload_n 0, 1) := by decide +kernel
theorem dX2_make_1 : decode cX2_make 1 = .ok (.getfield 35, 3) := by decide +kernel
theorem dX2_make_4 : decode cX2_make 4 = .ok (.aload_n 0, 1) := by decide +kernel
theorem dX2_make_5 : decode cX2_make 5 = .ok (.getfield 11, 3) := by decide +kernel
theorem dX2_make_8 : decode cX2_make 8 = .ok (.arraylength, 1) := by decide +kernel
theorem dX2_make_9 : decode cX2_make 9 = .ok (.if_icmp .lt 13, 3) := by decide +kernel
theorem dX2_make_12 : decode cX2_make 12 = .ok (.new 48, 3) := by decide +kernel
theorem dX2_make_15 : decode cX2_make 15 = .ok (.dup, 1) := by decide +kernel
theorem dX2_make_16 : decode cX2_make 16 = .ok (.ldc 50, 2) := by decide +kernel
theorem dX2_make_18 : decode cX2_make 18 = .ok (.invokespecial 52, 3) := by decide +kernel
theorem dX2_make_21 : decode cX2_make 21 = .ok (.athrow, 1) := by decide +kernel
theorem dX2_make_22 : decode cX2_make 22 = .ok (.aload_n 0, 1) := by decide +kernel
theorem dX2_make_23 : decode cX2_make 23 = .ok (.getfield 35, 3) := by decide +kernel
theorem dX2_make_26 : decode cX2_make 26 = .ok (.istore_n 1, 1) := by decide +kernel
theorem dX2_make_27 : decode cX2_make 27 = .ok (.aload_n 0, 1) := by decide +kernel
theorem dX2_make_28 : decode cX2_make 28 = .ok (.getfield 11, 3) := by decide +kernel
theorem dX2_make_31 : decode cX2_make 31 = .ok (.iload_n 1, 1) := by decide +kernel
theorem dX2_make_32 : decode cX2_make 32 = .ok (.new 9, 3) := by decide +kernel
theorem dX2_make_35 : decode cX2_make 35 = .ok (.dup, 1) := by decide +kernel
theorem dX2_make_36 : decode cX2_make 36 = .ok (.invokespecial 30, 3) := by decide +kernel
theorem dX2_make_39 : decode cX2_make 39 = .ok (.aastore, 1) := by decide +kernel
theorem dX2_make_40 : decode cX2_make 40 = .ok (.aload_n 0, 1) := by decide +kernel
theorem dX2_make_41 : decode cX2_make 41 = .ok (.dup, 1) := by decide +kernel
theorem dX2_make_42 : decode cX2_make 42 = .ok (.getfield 35, 3) := by decide +kernel
theorem dX2_make_45 : decode cX2_make 45 = .ok (.iconst 1, 1) := by decide +kernel
theorem dX2_make_46 : decode cX2_make 46 = .ok (.iadd, 1) := by decide +kernel
theorem dX2_make_47 : decode cX2_make 47 = .ok (.putfield 35, 3) := by decide +kernel
theorem dX2_make_50 : decode cX2_make 50 = .ok (.iload_n 1, 1) := by decide +kernel
theorem dX2_make_51 : decode cX2_make 51 = .ok (.ireturn, 1) := by decide +kernel
set_option maxRecDepth 20000 in
theorem ggX2_pose_X2_isAngle : GoodIn wsX2_pose wsX2_isAngle := goodIn_r _ [14] (by decide +kernel) (by decide +kernel)
set_option maxRecDepth 20000 in
theorem gX2_pose_X2_isAngle : GoodIn wsX2_pose (va_wsS RX2 55 yX2_isAngle wsX2_isAngle) := goodIn_app (goodIn_of _ (by decide +kernel)) ggX2_pose_X2_isAngle
set_option maxRecDepth 20000 in
theorem ggX2_pose_X1_init : GoodIn wsX2_pose wsX1_init := goodIn_r _ [16, 17, 18, 19, 20, 21, 31] (by decide +kernel) (by decide +kernel)
set_option maxRecDepth 20000 in
theorem gX2_pose_X1_init_n25 : GoodIn wsX2_pose (wsX1_init) := ggX2_pose_X1_init
theorem dX2_pose_0 : decode cX2_pose 0 = .ok (.iload_n 1, 1) := by decide +kernel
theorem dX2_pose_1 : decode cX2_pose 1 = .ok (.invokestatic 55, 3) := by decide +kernel
theorem dX2_pose_4 : decode cX2_pose 4 = .ok (.ifCond .eq 41, 3) := by decide +kernel
theorem dX2_pose_7 : decode cX2_pose 7 = .ok (.iload_n 2, 1) := by decide +kernel
theorem dX2_pose_8 : decode cX2_pose 8 = .ok (.invokestatic 55, 3) := by decide +kernel
theorem dX2_pose_11 : decode cX2_pose 11 = .ok (.ifCond .eq 34, 3) := by decide +kernel
theorem dX2_pose_14 : decode cX2_pose 14 = .ok (.iload_n 3, 1) := by decide +kernel
theorem dX2_pose_15 : decode cX2_pose 15 = .ok (.invokestatic 55, 3) := by decide +kernel
theorem dX2_pose_18 : decode cX2_pose 18 = .ok (.ifCond .eq 27, 3) := by decide +kernel
theorem dX2_pose_21 : decode cX2_pose 21 = .ok (.iload 4, 2) := by decide +kernel
theorem dX2_pose_23 : decode cX2_pose 23 = .ok (.invokestatic 55, 3) := by decide +kernel
theorem dX2_pose_26 : decode cX2_pose 26 = .ok (.ifCond .eq 19, 3) := by decide +kernel
theorem dX2_pose_29 : decode cX2_pose 29 = .ok (.iload 5, 2) := by decide +kernel
theorem dX2_pose_31 : decode cX2_pose 31 = .ok (.invokestatic 55, 3) := by decide +kernel
theorem dX2_pose_34 : decode cX2_pose 34 = .ok (.ifCond .eq 11, 3) := by decide +kernel
theorem dX2_pose_37 : decode cX2_pose 37 = .ok (.iload 6, 2) := by decide +kernel
theorem dX2_pose_39 : decode cX2_pose 39 = .ok (.invokestatic 55, 3) := by decide +kernel
theorem dX2_pose_42 : decode cX2_pose 42 = .ok (.ifCond .ne 13, 3) := by decide +kernel
theorem dX2_pose_45 : decode cX2_pose 45 = .ok (.new 59, 3) := by decide +kernel
theorem dX2_pose_48 : decode cX2_pose 48 = .ok (.dup, 1) := by decide +kernel
theorem dX2_pose_49 : decode cX2_pose 49 = .ok (.ldc 61, 2) := by decide +kernel
theorem dX2_pose_51 : decode cX2_pose 51 = .ok (.invokespecial 63, 3) := by decide +kernel
theorem dX2_pose_54 : decode cX2_pose 54 = .ok (.athrow, 1) := by decide +kernel
theorem dX2_pose_55 : decode cX2_pose 55 = .ok (.aload_n 0, 1) := by decide +kernel
theorem dX2_pose_56 : decode cX2_pose 56 = .ok (.getfield 39, 3) := by decide +kernel
theorem dX2_pose_59 : decode cX2_pose 59 = .ok (.aload_n 0, 1) := by decide +kernel
theorem dX2_pose_60 : decode cX2_pose 60 = .ok (.getfield 17, 3) := by decide +kernel
theorem dX2_pose_63 : decode cX2_pose 63 = .ok (.arraylength, 1) := by decide +kernel
theorem dX2_pose_64 : decode cX2_pose 64 = .ok (.if_icmp .lt 13, 3) := by decide +kernel
theorem dX2_pose_67 : decode cX2_pose 67 = .ok (.new 48, 3) := by decide +kernel
theorem dX2_pose_70 : decode cX2_pose 70 = .ok (.dup, 1) := by decide +kernel
theorem dX2_pose_71 : decode cX2_pose 71 = .ok (.ldc 64, 2) := by decide +kernel
theorem dX2_pose_73 : decode cX2_pose 73 = .ok (.invokespecial 52, 3) := by decide +kernel
theorem dX2_pose_76 : decode cX2_pose 76 = .ok (.athrow, 1) := by decide +kernel
theorem dX2_pose_77 : decode cX2_pose 77 = .ok (.aload_n 0, 1) := by decide +kernel
theorem dX2_pose_78 : decode cX2_pose 78 = .ok (.getfield 39, 3) := by decide +kernel
theorem dX2_pose_81 : decode cX2_pose 81 = .ok (.istore 7, 2) := by decide +kernel
theorem dX2_pose_83 : decode cX2_pose 83 = .ok (.new 15, 3) := by decide +kernel
theorem dX2_pose_86 : decode cX2_pose 86 = .ok (.dup, 1) := by decide +kernel
theorem dX2_pose_87 : decode cX2_pose 87 = .ok (.invokespecial 25, 3) := by decide +kernel
theorem dX2_pose_90 : decode cX2_pose 90 = .ok (.astore 8, 2) := by decide +kernel
theorem dX2_pose_92 : decode cX2_pose 92 = .ok (.aload 8, 2) := by decide +kernel
theorem dX2_pose_94 : decode cX2_pose 94 = .ok (.getfield 66, 3) := by decide +kernel
theorem dX2_pose_97 : decode cX2_pose 97 = .ok (.iconst 0, 1) := by decide +kernel
theorem dX2_pose_98 : decode cX2_pose 98 = .ok (.iload_n 1, 1) := by decide +kernel
theorem dX2_pose_99 : decode cX2_pose 99 = .ok (.iastore, 1) := by decide +kernel
theorem dX2_pose_100 : decode cX2_pose 100 = .ok (.aload 8, 2) := by decide +kernel
theorem dX2_pose_102 : decode cX2_pose 102 = .ok (.getfield 66, 3) := by decide +kernel
theorem dX2_pose_105 : decode cX2_pose 105 = .ok (.iconst 1, 1) := by decide +kernel
theorem dX2_pose_106 : decode cX2_pose 106 = .ok (.iload_n 2, 1) := by decide +kernel
theorem dX2_pose_107 : decode cX2_pose 107 = .ok (.iastore, 1) := by decide +kernel
theorem dX2_pose_108 : decode cX2_pose 108 = .ok (.aload 8, 2) := by decide +kernel
theorem dX2_pose_110 : decode cX2_pose 110 = .ok (.getfield 66, 3) := by decide +kernel
theorem dX2_pose_113 : decode cX2_pose 113 = .ok (.iconst 2, 1) := by decide +kernel
theorem dX2_pose_114 : decode cX2_pose 114 = .ok (.iload_n 3, 1) := by decide +kernel
theorem dX2_pose_115 : decode cX2_pose 115 = .ok (.iastore, 1) := by decide +kernel
theorem dX2_pose_116 : decode cX2_pose 116 = .ok (.aload 8, 2) := by decide +kernel
theorem dX2_pose_118 : decode cX2_pose 118 = .ok (.getfield 66, 3) := by decide +kernel
theorem dX2_pose_121 : decode cX2_pose 121 = .ok (.iconst 3, 1) := by decide +kernel
theorem dX2_pose_122 : decode cX2_pose 122 = .ok (.iload 4, 2) := by decide +kernel
theorem dX2_pose_124 : decode cX2_pose 124 = .ok (.iastore, 1) := by decide +kernel
theorem dX2_pose_125 : decode cX2_pose 125 = .ok (.aload 8, 2) := by decide +kernel
theorem dX2_pose_127 : decode cX2_pose 127 = .ok (.getfield 66, 3) := by decide +kernel
theorem dX2_pose_130 : decode cX2_pose 130 = .ok (.iconst 4, 1) := by decide +kernel
theorem dX2_pose_131 : decode cX2_pose 131 = .ok (.iload 5, 2) := by decide +kernel
theorem dX2_pose_133 : decode cX2_pose 133 = .ok (.iastore, 1) := by decide +kernel
theorem dX2_pose_134 : decode cX2_pose 134 = .ok (.aload 8, 2) := by decide +kernel
theorem dX2_pose_136 : decode cX2_pose 136 = .ok (.getfield 66, 3) := by decide +kernel
theorem dX2_pose_139 : decode cX2_pose 139 = .ok (.iconst 5, 1) := by decide +kernel
theorem dX2_pose_140 : decode cX2_pose 140 = .ok (.iload 6, 2) := by decide +kernel
theorem dX2_pose_142 : decode cX2_pose 142 = .ok (.iastore, 1) := by decide +kernel
theorem dX2_pose_143 : decode cX2_pose 143 = .ok (.aload_n 0, 1) := by decide +kernel
theorem dX2_pose_144 : decode cX2_pose 144 = .ok (.getfield 17, 3) := by decide +kernel
theorem dX2_pose_147 : decode cX2_pose 147 = .ok (.iload 7, 2) := by decide +kernel
theorem dX2_pose_149 : decode cX2_pose 149 = .ok (.aload 8, 2) := by decide +kernel
theorem dX2_pose_151 : decode cX2_pose 151 = .ok (.aastore, 1) := by decide +kernel
theorem dX2_pose_152 : decode cX2_pose 152 = .ok (.aload_n 0, 1) := by decide +kernel
theorem dX2_pose_153 : decode cX2_pose 153 = .ok (.dup, 1) := by decide +kernel
theorem dX2_pose_154 : decode cX2_pose 154 = .ok (.getfield 39, 3) := by decide +kernel
theorem dX2_pose_157 : decode cX2_pose 157 = .ok (.iconst 1, 1) := by decide +kernel
theorem dX2_pose_158 : decode cX2_pose 158 = .ok (.iadd, 1) := by decide +kernel
theorem dX2_pose_159 : decode cX2_pose 159 = .ok (.putfield 39, 3) := by decide +kernel
theorem dX2_pose_162 : decode cX2_pose 162 = .ok (.iload 7, 2) := by decide +kernel
theorem dX2_pose_164 : decode cX2_pose 164 = .ok (.ireturn, 1) := by decide +kernel
set_option maxRecDepth 20000 in
theorem ggX2_take_X2_knownDoll : GoodIn wsX2_take wsX2_knownDoll := goodIn_ca (goodIn_r _ [8, 9, 10, 11, 60, 61, 62, 63, 64, 65, 66, 67, 68] (by decide +kernel) (by decide +kernel)) (goodIn_sub (fun _ h => List.mem_cons_of_mem _ (List.mem_append_right _ h)) (by decide +kernel))
set_option maxRecDepth 20000 in
theorem gX2_take_X2_knownDoll : GoodIn wsX2_take (wsV RX2 69 RX2 yX2_knownDoll wsX2_knownDoll) := goodIn_app (goodIn_of _ (by decide +kernel)) ggX2_take_X2_knownDoll
set_option maxRecDepth 20000 in
theorem ggX2_take_X2_knownPose : GoodIn wsX2_take wsX2_knownPose := goodIn_ca (goodIn_r _ [15, 9, 10, 16, 60, 61, 62, 63, 64, 65, 66, 67, 68] (by decide +kernel) (by decide +kernel)) (goodIn_sub (fun _ h => List.mem_cons_of_mem _ (List.mem_append_right _ h)) (by decide +kernel))
set_option maxRecDepth 20000 in
theorem gX2_take_X2_knownPose : GoodIn wsX2_take (wsV RX2 73 RX2 yX2_knownPose wsX2_knownPose) := goodIn_app (goodIn_of _ (by decide +kernel)) ggX2_take_X2_knownPose
set_option maxRecDepth 20000 in
theorem ggX2_take_X0_canTurnTo : GoodIn wsX2_take wsX0_canTurnTo := goodIn_r _ [21, 22, 23, 24, 51, 52, 53, 54, 55, 56, 57, 58, 59, 69] (by decide +kernel) (by decide +kernel)
set_option maxRecDepth 20000 in
theorem gX2_take_X0_canTurnTo : GoodIn wsX2_take (wsV RX2 77 RX0 yX0_canTurnTo wsX0_canTurnTo) := goodIn_app (goodIn_of _ (by decide +kernel)) ggX2_take_X0_canTurnTo
set_option maxRecDepth 20000 in
theorem ggX2_take_X0_brokenJoints : GoodIn wsX2_take wsX0_brokenJoints := goodIn_r _ [28, 29, 30, 31, 20, 32, 22, 51, 52, 53, 54, 55, 56, 57, 58, 59] (by decide +kernel) (by decide +kernel)
set_option maxRecDepth 20000 in
theorem gX2_take_X0_brokenJoints : GoodIn wsX2_take (wsV RX2 83 RX0 yX0_brokenJoints wsX0_brokenJoints) := goodIn_app (goodIn_of _ (by decide +kernel)) ggX2_take_X0_brokenJoints
set_option maxRecDepth 20000 in
theorem ggX2_take_X0_turnTo : GoodIn wsX2_take wsX0_turnTo := goodIn_r _ [36, 24, 23, 37, 38, 39, 40, 22, 41, 42, 43, 44, 45, 46, 20, 47, 48, 49, 50, 69, 51, 52, 53, 54, 55, 56, 57, 58, 59] (by decide +kernel) (by decide +kernel)
set_option maxRecDepth 20000 in
theorem gX2_take_X0_turnTo : GoodIn wsX2_take (wsV RX2 87 RX0 yX0_turnTo wsX0_turnTo) := goodIn_app (goodIn_of _ (by decide +kernel)) ggX2_take_X0_turnTo
theorem dX2_take_0 : decode cX2_take 0 = .ok (.aload_n 0, 1) := by decide +kernel
theorem dX2_take_1 : decode cX2_take 1 = .ok (.iload_n 1, 1) := by decide +kernel
theorem dX2_take_2 : decode cX2_take 2 = .ok (.invokevirtual 69, 3) := by decide +kernel
theorem dX2_take_5 : decode cX2_take 5 = .ok (.astore_n 3, 1) := by decide +kernel
theorem dX2_take_6 : decode cX2_take 6 = .ok (.aload_n 0, 1) := by decide +kernel
theorem dX2_take_7 : decode cX2_take 7 = .ok (.iload_n 2, 1) := by decide +kernel
theorem dX2_take_8 : decode cX2_take 8 = .ok (.invokevirtual 73, 3) := by decide +kernel
theorem dX2_take_11 : decode cX2_take 11 = .ok (.astore 4, 2) := by decide +kernel
theorem dX2_take_13 : decode cX2_take 13 = .ok (.aload_n 3, 1) := by decide +kernel
theorem dX2_take_14 : decode cX2_take 14 = .ok (.aload 4, 2) := by decide +kernel
theorem dX2_take_16 : decode cX2_take 16 = .ok (.invokevirtual 77, 3) := by decide +kernel
theorem dX2_take_19 : decode cX2_take 19 = .ok (.ifCond .ne 13, 3) := by decide +kernel
theorem dX2_take_22 : decode cX2_take 22 = .ok (.new 48, 3) := by decide +kernel
theorem dX2_take_25 : decode cX2_take 25 = .ok (.dup, 1) := by decide +kernel
theorem dX2_take_26 : decode cX2_take 26 = .ok (.ldc 81, 2) := by decide +kernel
theorem dX2_take_28 : decode cX2_take 28 = .ok (.invokespecial 52, 3) := by decide +kernel
theorem dX2_take_31 : decode cX2_take 31 = .ok (.athrow, 1) := by decide +kernel
theorem dX2_take_32 : decode cX2_take 32 = .ok (.aload_n 3, 1) := by decide +kernel
theorem dX2_take_33 : decode cX2_take 33 = .ok (.invokevirtual 83, 3) := by decide +kernel
theorem dX2_take_36 : decode cX2_take 36 = .ok (.istore 5, 2) := by decide +kernel
theorem dX2_take_38 : decode cX2_take 38 = .ok (.aload_n 3, 1) := by decide +kernel
theorem dX2_take_39 : decode cX2_take 39 = .ok (.aload 4, 2) := by decide +kernel
theorem dX2_take_41 : decode cX2_take 41 = .ok (.invokevirtual 87, 3) := by decide +kernel
theorem dX2_take_44 : decode cX2_take 44 = .ok (.aload_n 3, 1) := by decide +kernel
theorem dX2_take_45 : decode cX2_take 45 = .ok (.dup, 1) := by decide +kernel
theorem dX2_take_46 : decode cX2_take 46 = .ok (.getfield 91, 3) := by decide +kernel
theorem dX2_take_49 : decode cX2_take 49 = .ok (.iconst 1, 1) := by decide +kernel
theorem dX2_take_50 : decode cX2_take 50 = .ok (.iadd, 1) := by decide +kernel
theorem dX2_take_51 : decode cX2_take 51 = .ok (.putfield 91, 3) := by decide +kernel
theorem dX2_take_54 : decode cX2_take 54 = .ok (.aload_n 3, 1) := by decide +kernel
theorem dX2_take_55 : decode cX2_take 55 = .ok (.invokevirtual 83, 3) := by decide +kernel
theorem dX2_take_58 : decode cX2_take 58 = .ok (.iload 5, 2) := by decide +kernel
theorem dX2_take_60 : decode cX2_take 60 = .ok (.isub, 1) := by decide +kernel
theorem dX2_take_61 : decode cX2_take 61 = .ok (.ireturn, 1) := by decide +kernel
set_option maxRecDepth 20000 in
theorem ggX2_blink_X2_knownDoll : GoodIn wsX2_blink wsX2_knownDoll := goodIn_ca (goodIn_r _ [11, 1, 2, 12, 22, 23, 24, 25, 26, 27, 28, 29, 30] (by decide +kernel) (by decide +kernel)) (goodIn_sub (fun _ h => List.mem_cons_of_mem _ (List.mem_append_left _ (List.mem_append_right _ h))) (by decide +kernel))
set_option maxRecDepth 20000 in
theorem gX2_blink_X2_knownDoll : GoodIn wsX2_blink (wsV RX2 69 RX2 yX2_knownDoll wsX2_knownDoll) := goodIn_app (goodIn_of _ (by decide +kernel)) ggX2_blink_X2_knownDoll
theorem dX2_blink_0 : decode cX2_blink 0 = .ok (.aload_n 0, 1) := by decide +kernel
theorem dX2_blink_1 : decode cX2_blink 1 = .ok (.iload_n 1, 1) := by decide +kernel
theorem dX2_blink_2 : decode cX2_blink 2 = .ok (.invokevirtual 69, 3) := by decide +kernel
theorem dX2_blink_5 : decode cX2_blink 5 = .ok (.astore_n 3, 1) := by decide +kernel
theorem dX2_blink_6 : decode cX2_blink 6 = .ok (.iload_n 2, 1) := by decide +kernel
theorem dX2_blink_7 : decode cX2_blink 7 = .ok (.ifCond .lt 8, 3) := by decide +kernel
theorem dX2_blink_10 : decode cX2_blink 10 = .ok (.iload_n 2, 1) := by decide +kernel
theorem dX2_blink_11 : decode cX2_blink 11 = .ok (.iconst 2, 1) := by decide +kernel
theorem dX2_blink_12 : decode cX2_blink 12 = .ok (.if_icmp .lt 13, 3) := by decide +kernel
theorem dX2_blink_15 : decode cX2_blink 15 = .ok (.new 94, 3) := by decide +kernel
theorem dX2_blink_18 : decode cX2_blink 18 = .ok (.dup, 1) := by decide +kernel
theorem dX2_blink_19 : decode cX2_blink 19 = .ok (.ldc 96, 2) := by decide +kernel
theorem dX2_blink_21 : decode cX2_blink 21 = .ok (.invokespecial 98, 3) := by decide +kernel
theorem dX2_blink_24 : decode cX2_blink 24 = .ok (.athrow, 1) := by decide +kernel
theorem dX2_blink_25 : decode cX2_blink 25 = .ok (.aload_n 3, 1) := by decide +kernel
theorem dX2_blink_26 : decode cX2_blink 26 = .ok (.getfield 99, 3) := by decide +kernel
theorem dX2_blink_29 : decode cX2_blink 29 = .ok (.iload_n 2, 1) := by decide +kernel
theorem dX2_blink_30 : decode cX2_blink 30 = .ok (.iaload, 1) := by decide +kernel
theorem dX2_blink_31 : decode cX2_blink 31 = .ok (.bipush 9, 2) := by decide +kernel
theorem dX2_blink_33 : decode cX2_blink 33 = .ok (.if_icmp .lt 13, 3) := by decide +kernel
theorem dX2_blink_36 : decode cX2_blink 36 = .ok (.new 48, 3) := by decide +kernel
theorem dX2_blink_39 : decode cX2_blink 39 = .ok (.dup, 1) := by decide +kernel
theorem dX2_blink_40 : decode cX2_blink 40 = .ok (.ldc 102, 2) := by decide +kernel
theorem dX2_blink_42 : decode cX2_blink 42 = .ok (.invokespecial 52, 3) := by decide +kernel
theorem dX2_blink_45 : decode cX2_blink 45 = .ok (.athrow, 1) := by decide +kernel
theorem dX2_blink_46 : decode cX2_blink 46 = .ok (.aload_n 3, 1) := by decide +kernel
theorem dX2_blink_47 : decode cX2_blink 47 = .ok (.getfield 104, 3) := by decide +kernel
theorem dX2_blink_50 : decode cX2_blink 50 = .ok (.iload_n 2, 1) := by decide +kernel
theorem dX2_blink_51 : decode cX2_blink 51 = .ok (.aload_n 3, 1) := by decide +kernel
theorem dX2_blink_52 : decode cX2_blink 52 = .ok (.getfield 104, 3) := by decide +kernel
theorem dX2_blink_55 : decode cX2_blink 55 = .ok (.iload_n 2, 1) := by decide +kernel
theorem dX2_blink_56 : decode cX2_blink 56 = .ok (.baload, 1) := by decide +kernel
theorem dX2_blink_57 : decode cX2_blink 57 = .ok (.ifCond .ne 7, 3) := by decide +kernel
theorem dX2_blink_60 : decode cX2_blink 60 = .ok (.iconst 1, 1) := by decide +kernel
theorem dX2_blink_61 : decode cX2_blink 61 = .ok (.goto 4, 3) := by decide +kernel
theorem dX2_blink_64 : decode cX2_blink 64 = .ok (.iconst 0, 1) := by decide +kernel
theorem dX2_blink_65 : decode cX2_blink 65 = .ok (.bastore, 1) := by decide +kernel
theorem dX2_blink_66 : decode cX2_blink 66 = .ok (.aload_n 3, 1) := by decide +kernel
theorem dX2_blink_67 : decode cX2_blink 67 = .ok (.getfield 104, 3) := by decide +kernel
theorem dX2_blink_70 : decode cX2_blink 70 = .ok (.iload_n 2, 1) := by decide +kernel
theorem dX2_blink_71 : decode cX2_blink 71 = .ok (.baload, 1) := by decide +kernel
theorem dX2_blink_72 : decode cX2_blink 72 = .ok (.ireturn, 1) := by decide +kernel
set_option maxRecDepth 20000 in
theorem ggX2_dress_X2_knownDoll : GoodIn wsX2_dress wsX2_knownDoll := goodIn_ca (goodIn_r _ [16, 17, 18, 19, 20, 21, 22, 23, 24, 25, 26, 27, 28] (by decide +kernel) (by decide +kernel)) (goodIn_sub (fun _ h => List.mem_cons_of_mem _ (List.mem_append_right _ h)) (by decide +kernel))
set_option maxRecDepth 20000 in
theorem gX2_dress_X2_knownDoll : GoodIn wsX2_dress (wsV RX2 69 RX2 yX2_knownDoll wsX2_knownDoll) := goodIn_app (goodIn_of _ (by decide +kernel)) ggX2_dress_X2_knownDoll
theorem dX2_dress_0 : decode cX2_dress 0 = .ok (.aload_n 0, 1) := by decide +kernel
theorem dX2_dress_1 : decode cX2_dress 1 = .ok (.iload_n 1, 1) := by decide +kernel
theorem dX2_dress_2 : decode cX2_dress 2 = .ok (.invokevirtual 69, 3) := by decide +kernel
theorem dX2_dress_5 : decode cX2_dress 5 = .ok (.astore 4, 2) := by decide +kernel
theorem dX2_dress_7 : decode cX2_dress 7 = .ok (.iload_n 2, 1) := by decide +kernel
theorem dX2_dress_8 : decode cX2_dress 8 = .ok (.iconst 1, 1) := by decide +kernel
theorem dX2_dress_9 : decode cX2_dress 9 = .ok (.if_icmp .lt 19, 3) := by decide +kernel
theorem dX2_dress_12 : decode cX2_dress 12 = .ok (.iload_n 2, 1) := by decide +kernel
theorem dX2_dress_13 : decode cX2_dress 13 = .ok (.bipush 9, 2) := by decide +kernel
theorem dX2_dress_15 : decode cX2_dress 15 = .ok (.if_icmp .gt 13, 3) := by decide +kernel
theorem dX2_dress_18 : decode cX2_dress 18 = .ok (.iload_n 3, 1) := by decide +kernel
theorem dX2_dress_19 : decode cX2_dress 19 = .ok (.ifCond .lt 9, 3) := by decide +kernel
theorem dX2_dress_22 : decode cX2_dress 22 = .ok (.iload_n 3, 1) := by decide +kernel
theorem dX2_dress_23 : decode cX2_dress 23 = .ok (.bipush 12, 2) := by decide +kernel
theorem dX2_dress_25 : decode cX2_dress 25 = .ok (.if_icmp .le 13, 3) := by decide +kernel
theorem dX2_dress_28 : decode cX2_dress 28 = .ok (.new 59, 3) := by decide +kernel
theorem dX2_dress_31 : decode cX2_dress 31 = .ok (.dup, 1) := by decide +kernel
theorem dX2_dress_32 : decode cX2_dress 32 = .ok (.ldc 108, 2) := by decide +kernel
theorem dX2_dress_34 : decode cX2_dress 34 = .ok (.invokespecial 63, 3) := by decide +kernel
theorem dX2_dress_37 : decode cX2_dress 37 = .ok (.athrow, 1) := by decide +kernel
theorem dX2_dress_38 : decode cX2_dress 38 = .ok (.iload_n 3, 1) := by decide +kernel
theorem dX2_dress_39 : decode cX2_dress 39 = .ok (.iload_n 2, 1) := by decide +kernel
theorem dX2_dress_40 : decode cX2_dress 40 = .ok (.if_icmp .lt 13, 3) := by decide +kernel
theorem dX2_dress_43 : decode cX2_dress 43 = .ok (.iload_n 3, 1) := by decide +kernel
theorem dX2_dress_44 : decode cX2_dress 44 = .ok (.aload_n 0, 1) := by decide +kernel
theorem dX2_dress_45 : decode cX2_dress 45 = .ok (.getfield 21, 3) := by decide +kernel
theorem dX2_dress_48 : decode cX2_dress 48 = .ok (.iconst 2, 1) := by decide +kernel
theorem dX2_dress_49 : decode cX2_dress 49 = .ok (.iaload, 1) := by decide +kernel
theorem dX2_dress_50 : decode cX2_dress 50 = .ok (.if_icmp .le 13, 3) := by decide +kernel
theorem dX2_dress_53 : decode cX2_dress 53 = .ok (.new 48, 3) := by decide +kernel
theorem dX2_dress_56 : decode cX2_dress 56 = .ok (.dup, 1) := by decide +kernel
theorem dX2_dress_57 : decode cX2_dress 57 = .ok (.ldc 110, 2) := by decide +kernel
theorem dX2_dress_59 : decode cX2_dress 59 = .ok (.invokespecial 52, 3) := by decide +kernel
theorem dX2_dress_62 : decode cX2_dress 62 = .ok (.athrow, 1) := by decide +kernel
theorem dX2_dress_63 : decode cX2_dress 63 = .ok (.aload 4, 2) := by decide +kernel
theorem dX2_dress_65 : decode cX2_dress 65 = .ok (.getfield 112, 3) := by decide +kernel
theorem dX2_dress_68 : decode cX2_dress 68 = .ok (.istore 5, 2) := by decide +kernel
theorem dX2_dress_70 : decode cX2_dress 70 = .ok (.aload 4, 2) := by decide +kernel
theorem dX2_dress_72 : decode cX2_dress 72 = .ok (.iload_n 2, 1) := by decide +kernel
theorem dX2_dress_73 : decode cX2_dress 73 = .ok (.putfield 115, 3) := by decide +kernel
theorem dX2_dress_76 : decode cX2_dress 76 = .ok (.aload 4, 2) := by decide +kernel
theorem dX2_dress_78 : decode cX2_dress 78 = .ok (.iload_n 3, 1) := by decide +kernel
theorem dX2_dress_79 : decode cX2_dress 79 = .ok (.putfield 112, 3) := by decide +kernel
theorem dX2_dress_82 : decode cX2_dress 82 = .ok (.aload_n 0, 1) := by decide +kernel
theorem dX2_dress_83 : decode cX2_dress 83 = .ok (.getfield 21, 3) := by decide +kernel
theorem dX2_dress_86 : decode cX2_dress 86 = .ok (.iconst 2, 1) := by decide +kernel
theorem dX2_dress_87 : decode cX2_dress 87 = .ok (.bipush 99, 2) := by decide +kernel
theorem dX2_dress_89 : decode cX2_dress 89 = .ok (.aload_n 0, 1) := by decide +kernel
theorem dX2_dress_90 : decode cX2_dress 90 = .ok (.getfield 21, 3) := by decide +kernel
theorem dX2_dress_93 : decode cX2_dress 93 = .ok (.iconst 2, 1) := by decide +kernel
theorem dX2_dress_94 : decode cX2_dress 94 = .ok (.iaload, 1) := by decide +kernel
theorem dX2_dress_95 : decode cX2_dress 95 = .ok (.iload_n 3, 1) := by decide +kernel
theorem dX2_dress_96 : decode cX2_dress 96 = .ok (.isub, 1) := by decide +kernel
theorem dX2_dress_97 : decode cX2_dress 97 = .ok (.iload 5, 2) := by decide +kernel
theorem dX2_dress_99 : decode cX2_dress 99 = .ok (.iadd, 1) := by decide +kernel
theorem dX2_dress_100 : decode cX2_dress 100 = .ok (.invokestatic 118, 3) := by decide +kernel
theorem dX2_dress_103 : decode cX2_dress 103 = .ok (.iastore, 1) := by decide +kernel
theorem dX2_dress_104 : decode cX2_dress 104 = .ok (.aload_n 0, 1) := by decide +kernel
theorem dX2_dress_105 : decode cX2_dress 105 = .ok (.getfield 21, 3) := by decide +kernel
theorem dX2_dress_108 : decode cX2_dress 108 = .ok (.iconst 2, 1) := by decide +kernel
theorem dX2_dress_109 : decode cX2_dress 109 = .ok (.iaload, 1) := by decide +kernel
theorem dX2_dress_110 : decode cX2_dress 110 = .ok (.ireturn, 1) := by decide +kernel
theorem dX2_bring_0 : decode cX2_bring 0 = .ok (.iload_n 1, 1) := by decide +kernel
theorem dX2_bring_1 : decode cX2_bring 1 = .ok (.ifCond .lt 19, 3) := by decide +kernel
theorem dX2_bring_4 : decode cX2_bring 4 = .ok (.iload_n 1, 1) := by decide +kernel
theorem dX2_bring_5 : decode cX2_bring 5 = .ok (.iconst 5, 1) := by decide +kernel
theorem dX2_bring_6 : decode cX2_bring 6 = .ok (.if_icmp .ge 14, 3) := by decide +kernel
theorem dX2_bring_9 : decode cX2_bring 9 = .ok (.iload_n 2, 1) := by decide +kernel
theorem dX2_bring_10 : decode cX2_bring 10 = .ok (.iconst 1, 1) := by decide +kernel
theorem dX2_bring_11 : decode cX2_bring 11 = .ok (.if_icmp .lt 9, 3) := by decide +kernel
theorem dX2_bring_14 : decode cX2_bring 14 = .ok (.iload_n 2, 1) := by decide +kernel
theorem dX2_bring_15 : decode cX2_bring 15 = .ok (.bipush 99, 2) := by decide +kernel
theorem dX2_bring_17 : decode cX2_bring 17 = .ok (.if_icmp .le 13, 3) := by decide +kernel
theorem dX2_bring_20 : decode cX2_bring 20 = .ok (.new 59, 3) := by decide +kernel
theorem dX2_bring_23 : decode cX2_bring 23 = .ok (.dup, 1) := by decide +kernel
theorem dX2_bring_24 : decode cX2_bring 24 = .ok (.ldc 124, 2) := by decide +kernel
theorem dX2_bring_26 : decode cX2_bring 26 = .ok (.invokespecial 63, 3) := by decide +kernel
theorem dX2_bring_29 : decode cX2_bring 29 = .ok (.athrow, 1) := by decide +kernel
theorem dX2_bring_30 : decode cX2_bring 30 = .ok (.aload_n 0, 1) := by decide +kernel
theorem dX2_bring_31 : decode cX2_bring 31 = .ok (.getfield 21, 3) := by decide +kernel
theorem dX2_bring_34 : decode cX2_bring 34 = .ok (.iload_n 1, 1) := by decide +kernel
theorem dX2_bring_35 : decode cX2_bring 35 = .ok (.bipush 99, 2) := by decide +kernel
theorem dX2_bring_37 : decode cX2_bring 37 = .ok (.aload_n 0, 1) := by decide +kernel
theorem dX2_bring_38 : decode cX2_bring 38 = .ok (.getfield 21, 3) := by decide +kernel
theorem dX2_bring_41 : decode cX2_bring 41 = .ok (.iload_n 1, 1) := by decide +kernel
theorem dX2_bring_42 : decode cX2_bring 42 = .ok (.iaload, 1) := by decide +kernel
theorem dX2_bring_43 : decode cX2_bring 43 = .ok (.iload_n 2, 1) := by decide +kernel
theorem dX2_bring_44 : decode cX2_bring 44 = .ok (.iadd, 1) := by decide +kernel
theorem dX2_bring_45 : decode cX2_bring 45 = .ok (.invokestatic 118, 3) := by decide +kernel
theorem dX2_bring_48 : decode cX2_bring 48 = .ok (.iastore, 1) := by decide +kernel
theorem dX2_bring_49 : decode cX2_bring 49 = .ok (.aload_n 0, 1) := by decide +kernel
theorem dX2_bring_50 : decode cX2_bring 50 = .ok (.getfield 21, 3) := by decide +kernel
theorem dX2_bring_53 : decode cX2_bring 53 = .ok (.iload_n 1, 1) := by decide +kernel
theorem dX2_bring_54 : decode cX2_bring 54 = .ok (.iaload, 1) := by decide +kernel
theorem dX2_bring_55 : decode cX2_bring 55 = .ok (.ireturn, 1) := by decide +kernel
theorem dX2_setMoths_0 : decode cX2_setMoths 0 = .ok (.iload_n 1, 1) := by decide +kernel
theorem dX2_setMoths_1 : decode cX2_setMoths 1 = .ok (.ifCond .lt 8, 3) := by decide +kernel
theorem dX2_setMoths_4 : decode cX2_setMoths 4 = .ok (.iload_n 1, 1) := by decide +kernel
theorem dX2_setMoths_5 : decode cX2_setMoths 5 = .ok (.iconst 3, 1) := by decide +kernel
theorem dX2_setMoths_6 : decode cX2_setMoths 6 = .ok (.if_icmp .le 13, 3) := by decide +kernel
theorem dX2_setMoths_9 : decode cX2_setMoths 9 = .ok (.new 59, 3) := by decide +kernel
theorem dX2_setMoths_12 : decode cX2_setMoths 12 = .ok (.dup, 1) := by decide +kernel
theorem dX2_setMoths_13 : decode cX2_setMoths 13 = .ok (.ldc 126, 2) := by decide +kernel
theorem dX2_setMoths_15 : decode cX2_setMoths 15 = .ok (.invokespecial 63, 3) := by decide +kernel
theorem dX2_setMoths_18 : decode cX2_setMoths 18 = .ok (.athrow, 1) := by decide +kernel
theorem dX2_setMoths_19 : decode cX2_setMoths 19 = .ok (.aload_n 0, 1) := by decide +kernel
theorem dX2_setMoths_20 : decode cX2_setMoths 20 = .ok (.getfield 45, 3) := by decide +kernel
theorem dX2_setMoths_23 : decode cX2_setMoths 23 = .ok (.istore_n 2, 1) := by decide +kernel
theorem dX2_setMoths_24 : decode cX2_setMoths 24 = .ok (.aload_n 0, 1) := by decide +kernel
theorem dX2_setMoths_25 : decode cX2_setMoths 25 = .ok (.iload_n 1, 1) := by decide +kernel
theorem dX2_setMoths_26 : decode cX2_setMoths 26 = .ok (.putfield 45, 3) := by decide +kernel
theorem dX2_setMoths_29 : decode cX2_setMoths 29 = .ok (.iload_n 2, 1) := by decide +kernel
theorem dX2_setMoths_30 : decode cX2_setMoths 30 = .ok (.ireturn, 1) := by decide +kernel
set_option maxRecDepth 20000 in
theorem ggX2_mend_X2_knownDoll : GoodIn wsX2_mend wsX2_knownDoll := goodIn_ca (goodIn_r _ [16, 1, 2, 17, 30, 31, 32, 33, 34, 35, 36, 37, 38] (by decide +kernel) (by decide +kernel)) (goodIn_sub (fun _ h => List.mem_cons_of_mem _ (List.mem_append_left _ (List.mem_append_left _ (List.mem_append_right _ h)))) (by decide +kernel))
set_option maxRecDepth 20000 in
theorem gX2_mend_X2_knownDoll : GoodIn wsX2_mend (wsV RX2 69 RX2 yX2_knownDoll wsX2_knownDoll) := goodIn_app (goodIn_of _ (by decide +kernel)) ggX2_mend_X2_knownDoll
set_option maxRecDepth 20000 in
theorem ggX2_mend_X0_hasRoomForPin : GoodIn wsX2_mend wsX0_hasRoomForPin := goodIn_r _ [22, 23, 24, 39, 40, 41, 42, 43, 44, 45, 46, 47] (by decide +kernel) (by decide +kernel)
set_option maxRecDepth 20000 in
theorem gX2_mend_X0_hasRoomForPin : GoodIn wsX2_mend (wsV RX2 132 RX0 yX0_hasRoomForPin wsX0_hasRoomForPin) := goodIn_app (goodIn_of _ (by decide +kernel)) ggX2_mend_X0_hasRoomForPin
set_option maxRecDepth 20000 in
theorem ggX2_mend_X0_wipeEyes : GoodIn wsX2_mend wsX0_wipeEyes := goodIn_r _ [28, 29, 39, 40, 41, 42, 43, 44, 45, 46, 47] (by decide +kernel) (by decide +kernel)
set_option maxRecDepth 20000 in
theorem gX2_mend_X0_wipeEyes : GoodIn wsX2_mend (wsV RX2 144 RX0 yX0_wipeEyes wsX0_wipeEyes) := goodIn_app (goodIn_of _ (by decide +kernel)) ggX2_mend_X0_wipeEyes
theorem dX2_mend_0 : decode cX2_mend 0 = .ok (.aload_n 0, 1) := by decide +kernel
theorem dX2_mend_1 : decode cX2_mend 1 = .ok (.iload_n 1, 1) := by decide +kernel
theorem dX2_mend_2 : decode cX2_mend 2 = .ok (.invokevirtual 69, 3) := by decide +kernel
theorem dX2_mend_5 : decode cX2_mend 5 = .ok (.astore 4, 2) := by decide +kernel
theorem dX2_mend_7 : decode cX2_mend 7 = .ok (.iload_n 3, 1) := by decide +kernel
theorem dX2_mend_8 : decode cX2_mend 8 = .ok (.ifCond .lt 9, 3) := by decide +kernel
theorem dX2_mend_11 : decode cX2_mend 11 = .ok (.iload_n 3, 1) := by decide +kernel
theorem dX2_mend_12 : decode cX2_mend 12 = .ok (.bipush 6, 2) := by decide +kernel
theorem dX2_mend_14 : decode cX2_mend 14 = .ok (.if_icmp .lt 13, 3) := by decide +kernel
theorem dX2_mend_17 : decode cX2_mend 17 = .ok (.new 94, 3) := by decide +kernel
theorem dX2_mend_20 : decode cX2_mend 20 = .ok (.dup, 1) := by decide +kernel
theorem dX2_mend_21 : decode cX2_mend 21 = .ok (.ldc 128, 2) := by decide +kernel
theorem dX2_mend_23 : decode cX2_mend 23 = .ok (.invokespecial 98, 3) := by decide +kernel
theorem dX2_mend_26 : decode cX2_mend 26 = .ok (.athrow, 1) := by decide +kernel
theorem dX2_mend_27 : decode cX2_mend 27 = .ok (.iload_n 2, 1) := by decide +kernel
theorem dX2_mend_28 : decode cX2_mend 28 = .ok (.ifCond .lt 8, 3) := by decide +kernel
theorem dX2_mend_31 : decode cX2_mend 31 = .ok (.iload_n 2, 1) := by decide +kernel
theorem dX2_mend_32 : decode cX2_mend 32 = .ok (.iconst 5, 1) := by decide +kernel
theorem dX2_mend_33 : decode cX2_mend 33 = .ok (.if_icmp .lt 13, 3) := by decide +kernel
theorem dX2_mend_36 : decode cX2_mend 36 = .ok (.new 59, 3) := by decide +kernel
theorem dX2_mend_39 : decode cX2_mend 39 = .ok (.dup, 1) := by decide +kernel
theorem dX2_mend_40 : decode cX2_mend 40 = .ok (.ldc 130, 2) := by decide +kernel
theorem dX2_mend_42 : decode cX2_mend 42 = .ok (.invokespecial 63, 3) := by decide +kernel
theorem dX2_mend_45 : decode cX2_mend 45 = .ok (.athrow, 1) := by decide +kernel
theorem dX2_mend_46 : decode cX2_mend 46 = .ok (.aload_n 0, 1) := by decide +kernel
theorem dX2_mend_47 : decode cX2_mend 47 = .ok (.getfield 21, 3) := by decide +kernel
theorem dX2_mend_50 : decode cX2_mend 50 = .ok (.iload_n 2, 1) := by decide +kernel
theorem dX2_mend_51 : decode cX2_mend 51 = .ok (.iaload, 1) := by decide +kernel
theorem dX2_mend_52 : decode cX2_mend 52 = .ok (.ifCond .le 16, 3) := by decide +kernel
theorem dX2_mend_55 : decode cX2_mend 55 = .ok (.iload_n 2, 1) := by decide +kernel
theorem dX2_mend_56 : decode cX2_mend 56 = .ok (.iconst 2, 1) := by decide +kernel
theorem dX2_mend_57 : decode cX2_mend 57 = .ok (.if_icmp .ne 21, 3) := by decide +kernel
theorem dX2_mend_60 : decode cX2_mend 60 = .ok (.aload 4, 2) := by decide +kernel
theorem dX2_mend_62 : decode cX2_mend 62 = .ok (.invokevirtual 132, 3) := by decide +kernel
theorem dX2_mend_65 : decode cX2_mend 65 = .ok (.ifCond .ne 13, 3) := by decide +kernel
theorem dX2_mend_68 : decode cX2_mend 68 = .ok (.new 48, 3) := by decide +kernel
theorem dX2_mend_71 : decode cX2_mend 71 = .ok (.dup, 1) := by decide +kernel
theorem dX2_mend_72 : decode cX2_mend 72 = .ok (.ldc 136, 2) := by decide +kernel
theorem dX2_mend_74 : decode cX2_mend 74 = .ok (.invokespecial 52, 3) := by decide +kernel
theorem dX2_mend_77 : decode cX2_mend 77 = .ok (.athrow, 1) := by decide +kernel
theorem dX2_mend_78 : decode cX2_mend 78 = .ok (.iload_n 2, 1) := by decide +kernel
theorem dX2_mend_79 : decode cX2_mend 79 = .ok (.tableswitch 82 0 3 #[29, 48, 60, 74], 29) := by decide +kernel
theorem dX2_mend_108 : decode cX2_mend 108 = .ok (.aload 4, 2) := by decide +kernel
theorem dX2_mend_110 : decode cX2_mend 110 = .ok (.getfield 138, 3) := by decide +kernel
theorem dX2_mend_113 : decode cX2_mend 113 = .ok (.iload_n 3, 1) := by decide +kernel
theorem dX2_mend_114 : decode cX2_mend 114 = .ok (.iconst 0, 1) := by decide +kernel
theorem dX2_mend_115 : decode cX2_mend 115 = .ok (.iastore, 1) := by decide +kernel
theorem dX2_mend_116 : decode cX2_mend 116 = .ok (.aload 4, 2) := by decide +kernel
theorem dX2_mend_118 : decode cX2_mend 118 = .ok (.getfield 141, 3) := by decide +kernel
theorem dX2_mend_121 : decode cX2_mend 121 = .ok (.iload_n 3, 1) := by decide +kernel
theorem dX2_mend_122 : decode cX2_mend 122 = .ok (.iconst 0, 1) := by decide +kernel
theorem dX2_mend_123 : decode cX2_mend 123 = .ok (.iastore, 1) := by decide +kernel
theorem dX2_mend_124 : decode cX2_mend 124 = .ok (.goto 43, 3) := by decide +kernel
theorem dX2_mend_127 : decode cX2_mend 127 = .ok (.aload 4, 2) := by decide +kernel
theorem dX2_mend_129 : decode cX2_mend 129 = .ok (.getfield 141, 3) := by decide +kernel
theorem dX2_mend_132 : decode cX2_mend 132 = .ok (.iload_n 3, 1) := by decide +kernel
theorem dX2_mend_133 : decode cX2_mend 133 = .ok (.bipush 20, 2) := by decide +kernel
theorem dX2_mend_135 : decode cX2_mend 135 = .ok (.iastore, 1) := by decide +kernel
theorem dX2_mend_136 : decode cX2_mend 136 = .ok (.goto 31, 3) := by decide +kernel
theorem dX2_mend_139 : decode cX2_mend 139 = .ok (.aload 4, 2) := by decide +kernel
theorem dX2_mend_141 : decode cX2_mend 141 = .ok (.dup, 1) := by decide +kernel
theorem dX2_mend_142 : decode cX2_mend 142 = .ok (.getfield 112, 3) := by decide +kernel
theorem dX2_mend_145 : decode cX2_mend 145 = .ok (.iconst 1, 1) := by decide +kernel
theorem dX2_mend_146 : decode cX2_mend 146 = .ok (.iadd, 1) := by decide +kernel
theorem dX2_mend_147 : decode cX2_mend 147 = .ok (.putfield 112, 3) := by decide +kernel
theorem dX2_mend_150 : decode cX2_mend 150 = .ok (.goto 17, 3) := by decide +kernel
theorem dX2_mend_153 : decode cX2_mend 153 = .ok (.aload 4, 2) := by decide +kernel
theorem dX2_mend_155 : decode cX2_mend 155 = .ok (.invokevirtual 144, 3) := by decide +kernel
theorem dX2_mend_158 : decode cX2_mend 158 = .ok (.goto 9, 3) := by decide +kernel
theorem dX2_mend_161 : decode cX2_mend 161 = .ok (.aload 4, 2) := by decide +kernel
theorem dX2_mend_163 : decode cX2_mend 163 = .ok (.iconst 0, 1) := by decide +kernel
theorem dX2_mend_164 : decode cX2_mend 164 = .ok (.putfield 147, 3) := by decide +kernel
theorem dX2_mend_167 : decode cX2_mend 167 = .ok (.aload_n 0, 1) := by decide +kernel
theorem dX2_mend_168 : decode cX2_mend 168 = .ok (.getfield 21, 3) := by decide +kernel
theorem dX2_mend_171 : decode cX2_mend 171 = .ok (.iload_n 2, 1) := by decide +kernel
theorem dX2_mend_172 : decode cX2_mend 172 = .ok (.dup2, 1) := by decide +kernel
theorem dX2_mend_173 : decode cX2_mend 173 = .ok (.iaload, 1) := by decide +kernel
theorem dX2_mend_174 : decode cX2_mend 174 = .ok (.iconst 1, 1) := by decide +kernel
theorem dX2_mend_175 : decode cX2_mend 175 = .ok (.isub, 1) := by decide +kernel
theorem dX2_mend_176 : decode cX2_mend 176 = .ok (.iastore, 1) := by decide +kernel
theorem dX2_mend_177 : decode cX2_mend 177 = .ok (.aload_n 0, 1) := by decide +kernel
theorem dX2_mend_178 : decode cX2_mend 178 = .ok (.getfield 21, 3) := by decide +kernel
theorem dX2_mend_181 : decode cX2_mend 181 = .ok (.iload_n 2, 1) := by decide +kernel
theorem dX2_mend_182 : decode cX2_mend 182 = .ok (.iaload, 1) := by decide +kernel
theorem dX2_mend_183 : decode cX2_mend 183 = .ok (.ireturn, 1) := by decide +kernel
set_option maxRecDepth 20000 in
theorem ggX2_joint_X2_knownDoll : GoodIn wsX2_joint wsX2_knownDoll := goodIn_ca (goodIn_r _ [10, 1, 2, 11, 21, 22, 23, 24, 25, 26, 27, 28, 29] (by decide +kernel) (by decide +kernel)) (goodIn_sub (fun _ h => List.mem_cons_of_mem _ (List.mem_append_right _ h)) (by decide +kernel))
set_option maxRecDepth 20000 in
theorem gX2_joint_X2_knownDoll : GoodIn wsX2_joint (wsV RX2 69 RX2 yX2_knownDoll wsX2_knownDoll) := goodIn_app (goodIn_of _ (by decide +kernel)) ggX2_joint_X2_knownDoll
theorem dX2_joint_0 : decode cX2_joint 0 = .ok (.aload_n 0, 1) := by decide +kernel
theorem dX2_joint_1 : decode cX2_joint 1 = .ok (.iload_n 1, 1) := by decide +kernel
theorem dX2_joint_2 : decode cX2_joint 2 = .ok (.invokevirtual 69, 3) := by decide +kernel
theorem dX2_joint_5 : decode cX2_joint 5 = .ok (.astore 4, 2) := by decide +kernel
theorem dX2_joint_7 : decode cX2_joint 7 = .ok (.iload_n 2, 1) := by decide +kernel
theorem dX2_joint_8 : decode cX2_joint 8 = .ok (.ifCond .lt 18, 3) := by decide +kernel
theorem dX2_joint_11 : decode cX2_joint 11 = .ok (.iload_n 2, 1) := by decide +kernel
theorem dX2_joint_12 : decode cX2_joint 12 = .ok (.bipush 6, 2) := by decide +kernel
theorem dX2_joint_14 : decode cX2_joint 14 = .ok (.if_icmp .ge 12, 3) := by decide +kernel
theorem dX2_joint_17 : decode cX2_joint 17 = .ok (.iload_n 3, 1) := by decide +kernel
theorem dX2_joint_18 : decode cX2_joint 18 = .ok (.ifCond .lt 8, 3) := by decide +kernel
theorem dX2_joint_21 : decode cX2_joint 21 = .ok (.iload_n 3, 1) := by decide +kernel
theorem dX2_joint_22 : decode cX2_joint 22 = .ok (.iconst 4, 1) := by decide +kernel
theorem dX2_joint_23 : decode cX2_joint 23 = .ok (.if_icmp .lt 13, 3) := by decide +kernel
theorem dX2_joint_26 : decode cX2_joint 26 = .ok (.new 94, 3) := by decide +kernel
theorem dX2_joint_29 : decode cX2_joint 29 = .ok (.dup, 1) := by decide +kernel
theorem dX2_joint_30 : decode cX2_joint 30 = .ok (.ldc 150, 2) := by decide +kernel
theorem dX2_joint_32 : decode cX2_joint 32 = .ok (.invokespecial 98, 3) := by decide +kernel
theorem dX2_joint_35 : decode cX2_joint 35 = .ok (.athrow, 1) := by decide +kernel
theorem dX2_joint_36 : decode cX2_joint 36 = .ok (.iload_n 3, 1) := by decide +kernel
theorem dX2_joint_37 : decode cX2_joint 37 = .ok (.tableswitch 51 0 2 #[27, 35, 43], 27) := by decide +kernel
theorem dX2_joint_64 : decode cX2_joint 64 = .ok (.aload 4, 2) := by decide +kernel
theorem dX2_joint_66 : decode cX2_joint 66 = .ok (.getfield 152, 3) := by decide +kernel
theorem dX2_joint_69 : decode cX2_joint 69 = .ok (.iload_n 2, 1) := by decide +kernel
theorem dX2_joint_70 : decode cX2_joint 70 = .ok (.iaload, 1) := by decide +kernel
theorem dX2_joint_71 : decode cX2_joint 71 = .ok (.ireturn, 1) := by decide +kernel
theorem dX2_joint_72 : decode cX2_joint 72 = .ok (.aload 4, 2) := by decide +kernel
theorem dX2_joint_74 : decode cX2_joint 74 = .ok (.getfield 138, 3) := by decide +kernel
theorem dX2_joint_77 : decode cX2_joint 77 = .ok (.iload_n 2, 1) := by decide +kernel
theorem dX2_joint_78 : decode cX2_joint 78 = .ok (.iaload, 1) := by decide +kernel
theorem dX2_joint_79 : decode cX2_joint 79 = .ok (.ireturn, 1) := by decide +kernel
theorem dX2_joint_80 : decode cX2_joint 80 = .ok (.aload 4, 2) := by decide +kernel
theorem dX2_joint_82 : decode cX2_joint 82 = .ok (.getfield 141, 3) := by decide +kernel
theorem dX2_joint_85 : decode cX2_joint 85 = .ok (.iload_n 2, 1) := by decide +kernel
theorem dX2_joint_86 : decode cX2_joint 86 = .ok (.iaload, 1) := by decide +kernel
theorem dX2_joint_87 : decode cX2_joint 87 = .ok (.ireturn, 1) := by decide +kernel
theorem dX2_joint_88 : decode cX2_joint 88 = .ok (.aload 4, 2) := by decide +kernel
theorem dX2_joint_90 : decode cX2_joint 90 = .ok (.getfield 138, 3) := by decide +kernel
theorem dX2_joint_93 : decode cX2_joint 93 = .ok (.iload_n 2, 1) := by decide +kernel
theorem dX2_joint_94 : decode cX2_joint 94 = .ok (.iaload, 1) := by decide +kernel
theorem dX2_joint_95 : decode cX2_joint 95 = .ok (.bipush 100, 2) := by decide +kernel
theorem dX2_joint_97 : decode cX2_joint 97 = .ok (.if_icmp .lt 7, 3) := by decide +kernel
theorem dX2_joint_100 : decode cX2_joint 100 = .ok (.iconst 1, 1) := by decide +kernel
theorem dX2_joint_101 : decode cX2_joint 101 = .ok (.goto 4, 3) := by decide +kernel
theorem dX2_joint_104 : decode cX2_joint 104 = .ok (.iconst 0, 1) := by decide +kernel
theorem dX2_joint_105 : decode cX2_joint 105 = .ok (.ireturn, 1) := by decide +kernel
set_option maxRecDepth 20000 in
theorem ggX2_doll_X2_knownDoll : GoodIn wsX2_doll wsX2_knownDoll := goodIn_ca (goodIn_r _ [13, 1, 2, 14, 24, 25, 26, 27, 28, 29, 30, 31, 32] (by decide +kernel) (by decide +kernel)) (goodIn_sub (fun _ h => List.mem_cons_of_mem _ (List.mem_append_right _ h)) (by decide +kernel))
set_option maxRecDepth 20000 in
theorem gX2_doll_X2_knownDoll : GoodIn wsX2_doll (wsV RX2 69 RX2 yX2_knownDoll wsX2_knownDoll) := goodIn_app (goodIn_of _ (by decide +kernel)) ggX2_doll_X2_knownDoll
theorem dX2_doll_0 : decode cX2_doll 0 = .ok (.aload_n 0, 1) := by decide +kernel
theorem dX2_doll_1 : decode cX2_doll 1 = .ok (.iload_n 1, 1) := by decide +kernel
theorem dX2_doll_2 : decode cX2_doll 2 = .ok (.invokevirtual 69, 3) := by decide +kernel
theorem dX2_doll_5 : decode cX2_doll 5 = .ok (.astore_n 3, 1) := by decide +kernel
theorem dX2_doll_6 : decode cX2_doll 6 = .ok (.iload_n 2, 1) := by decide +kernel
theorem dX2_doll_7 : decode cX2_doll 7 = .ok (.ifCond .lt 9, 3) := by decide +kernel
theorem dX2_doll_10 : decode cX2_doll 10 = .ok (.iload_n 2, 1) := by decide +kernel
theorem dX2_doll_11 : decode cX2_doll 11 = .ok (.bipush 8, 2) := by decide +kernel
theorem dX2_doll_13 : decode cX2_doll 13 = .ok (.if_icmp .lt 13, 3) := by decide +kernel
theorem dX2_doll_16 : decode cX2_doll 16 = .ok (.new 94, 3) := by decide +kernel
theorem dX2_doll_19 : decode cX2_doll 19 = .ok (.dup, 1) := by decide +kernel
theorem dX2_doll_20 : decode cX2_doll 20 = .ok (.ldc 153, 2) := by decide +kernel
theorem dX2_doll_22 : decode cX2_doll 22 = .ok (.invokespecial 98, 3) := by decide +kernel
theorem dX2_doll_25 : decode cX2_doll 25 = .ok (.athrow, 1) := by decide +kernel
theorem dX2_doll_26 : decode cX2_doll 26 = .ok (.iload_n 2, 1) := by decide +kernel
theorem dX2_doll_27 : decode cX2_doll 27 = .ok (.tableswitch 100 0 6 #[41, 56, 71, 78, 85, 90, 95], 41) := by decide +kernel
theorem dX2_doll_68 : decode cX2_doll 68 = .ok (.aload_n 3, 1) := by decide +kernel
theorem dX2_doll_69 : decode cX2_doll 69 = .ok (.getfield 104, 3) := by decide +kernel
theorem dX2_doll_72 : decode cX2_doll 72 = .ok (.iconst 0, 1) := by decide +kernel
theorem dX2_doll_73 : decode cX2_doll 73 = .ok (.baload, 1) := by decide +kernel
theorem dX2_doll_74 : decode cX2_doll 74 = .ok (.ifCond .eq 7, 3) := by decide +kernel
theorem dX2_doll_77 : decode cX2_doll 77 = .ok (.iconst 1, 1) := by decide +kernel
theorem dX2_doll_78 : decode cX2_doll 78 = .ok (.goto 4, 3) := by decide +kernel
theorem dX2_doll_81 : decode cX2_doll 81 = .ok (.iconst 0, 1) := by decide +kernel
theorem dX2_doll_82 : decode cX2_doll 82 = .ok (.ireturn, 1) := by decide +kernel
theorem dX2_doll_83 : decode cX2_doll 83 = .ok (.aload_n 3, 1) := by decide +kernel
theorem dX2_doll_84 : decode cX2_doll 84 = .ok (.getfield 104, 3) := by decide +kernel
theorem dX2_doll_87 : decode cX2_doll 87 = .ok (.iconst 1, 1) := by decide +kernel
theorem dX2_doll_88 : decode cX2_doll 88 = .ok (.baload, 1) := by decide +kernel
theorem dX2_doll_89 : decode cX2_doll 89 = .ok (.ifCond .eq 7, 3) := by decide +kernel
theorem dX2_doll_92 : decode cX2_doll 92 = .ok (.iconst 1, 1) := by decide +kernel
theorem dX2_doll_93 : decode cX2_doll 93 = .ok (.goto 4, 3) := by decide +kernel
theorem dX2_doll_96 : decode cX2_doll 96 = .ok (.iconst 0, 1) := by decide +kernel
theorem dX2_doll_97 : decode cX2_doll 97 = .ok (.ireturn, 1) := by decide +kernel
theorem dX2_doll_98 : decode cX2_doll 98 = .ok (.aload_n 3, 1) := by decide +kernel
theorem dX2_doll_99 : decode cX2_doll 99 = .ok (.getfield 99, 3) := by decide +kernel
theorem dX2_doll_102 : decode cX2_doll 102 = .ok (.iconst 0, 1) := by decide +kernel
theorem dX2_doll_103 : decode cX2_doll 103 = .ok (.iaload, 1) := by decide +kernel
theorem dX2_doll_104 : decode cX2_doll 104 = .ok (.ireturn, 1) := by decide +kernel
theorem dX2_doll_105 : decode cX2_doll 105 = .ok (.aload_n 3, 1) := by decide +kernel
theorem dX2_doll_106 : decode cX2_doll 106 = .ok (.getfield 99, 3) := by decide +kernel
theorem dX2_doll_109 : decode cX2_doll 109 = .ok (.iconst 1, 1) := by decide +kernel
theorem dX2_doll_110 : decode cX2_doll 110 = .ok (.iaload, 1) := by decide +kernel
theorem dX2_doll_111 : decode cX2_doll 111 = .ok (.ireturn, 1) := by decide +kernel
theorem dX2_doll_112 : decode cX2_doll 112 = .ok (.aload_n 3, 1) := by decide +kernel
theorem dX2_doll_113 : decode cX2_doll 113 = .ok (.getfield 147, 3) := by decide +kernel
theorem dX2_doll_116 : decode cX2_doll 116 = .ok (.ireturn, 1) := by decide +kernel
theorem dX2_doll_117 : decode cX2_doll 117 = .ok (.aload_n 3, 1) := by decide +kernel
theorem dX2_doll_118 : decode cX2_doll 118 = .ok (.getfield 115, 3) := by decide +kernel
theorem dX2_doll_121 : decode cX2_doll 121 = .ok (.ireturn, 1) := by decide +kernel
theorem dX2_doll_122 : decode cX2_doll 122 = .ok (.aload_n 3, 1) := by decide +kernel
theorem dX2_doll_123 : decode cX2_doll 123 = .ok (.getfield 112, 3) := by decide +kernel
theorem dX2_doll_126 : decode cX2_doll 126 = .ok (.ireturn, 1) := by decide +kernel
theorem dX2_doll_127 : decode cX2_doll 127 = .ok (.aload_n 3, 1) := by decide +kernel
theorem dX2_doll_128 : decode cX2_doll 128 = .ok (.getfield 91, 3) := by decide +kernel
theorem dX2_doll_131 : decode cX2_doll 131 = .ok (.ireturn, 1) := by decide +kernel
set_option maxRecDepth 20000 in
theorem ggX2_count_X2_tallyOfAll : GoodIn wsX2_count wsX2_tallyOfAll := goodIn_r _ [12, 13, 14, 15, 16, 17, 18, 19, 20, 21, 22, 23, 24, 25, 26, 27, 28, 29, 30, 31, 32, 33, 34, 35, 36, 37, 38, 39, 40, 41, 42, 43, 44, 45, 46, 47, 48, 49, 50, 51, 52] (by decide +kernel) (by decide +kernel)
set_option maxRecDepth 20000 in
theorem gX2_count_X2_tallyOfAll : GoodIn wsX2_count (wsV RX2 157 RX2 yX2_tallyOfAll wsX2_tallyOfAll) := goodIn_app (goodIn_of _ (by decide +kernel)) ggX2_count_X2_tallyOfAll
theorem dX2_count_0 : decode cX2_count 0 = .ok (.iload_n 1, 1) := by decide +kernel
theorem dX2_count_1 : decode cX2_count 1 = .ok (.ifCond .lt 9, 3) := by decide +kernel
theorem dX2_count_4 : decode cX2_count 4 = .ok (.iload_n 1, 1) := by decide +kernel
theorem dX2_count_5 : decode cX2_count 5 = .ok (.bipush 13, 2) := by decide +kernel
theorem dX2_count_7 : decode cX2_count 7 = .ok (.if_icmp .lt 13, 3) := by decide +kernel
theorem dX2_count_10 : decode cX2_count 10 = .ok (.new 94, 3) := by decide +kernel
theorem dX2_count_13 : decode cX2_count 13 = .ok (.dup, 1) := by decide +kernel
theorem dX2_count_14 : decode cX2_count 14 = .ok (.ldc 155, 2) := by decide +kernel
theorem dX2_count_16 : decode cX2_count 16 = .ok (.invokespecial 98, 3) := by decide +kernel
theorem dX2_count_19 : decode cX2_count 19 = .ok (.athrow, 1) := by decide +kernel
theorem dX2_count_20 : decode cX2_count 20 = .ok (.iload_n 1, 1) := by decide +kernel
theorem dX2_count_21 : decode cX2_count 21 = .ok (.bipush 8, 2) := by decide +kernel
theorem dX2_count_23 : decode cX2_count 23 = .ok (.if_icmp .lt 13, 3) := by decide +kernel
theorem dX2_count_26 : decode cX2_count 26 = .ok (.aload_n 0, 1) := by decide +kernel
theorem dX2_count_27 : decode cX2_count 27 = .ok (.getfield 21, 3) := by decide +kernel
theorem dX2_count_30 : decode cX2_count 30 = .ok (.iload_n 1, 1) := by decide +kernel
theorem dX2_count_31 : decode cX2_count 31 = .ok (.bipush 8, 2) := by decide +kernel
theorem dX2_count_33 : decode cX2_count 33 = .ok (.isub, 1) := by decide +kernel
theorem dX2_count_34 : decode cX2_count 34 = .ok (.iaload, 1) := by decide +kernel
theorem dX2_count_35 : decode cX2_count 35 = .ok (.ireturn, 1) := by decide +kernel
theorem dX2_count_36 : decode cX2_count 36 = .ok (.iload_n 1, 1) := by decide +kernel
theorem dX2_count_37 : decode cX2_count 37 = .ok (.tableswitch 51 0 3 #[31, 36, 41, 46], 31) := by decide +kernel
theorem dX2_count_68 : decode cX2_count 68 = .ok (.aload_n 0, 1) := by decide +kernel
theorem dX2_count_69 : decode cX2_count 69 = .ok (.getfield 42, 3) := by decide +kernel
theorem dX2_count_72 : decode cX2_count 72 = .ok (.ireturn, 1) := by decide +kernel
theorem dX2_count_73 : decode cX2_count 73 = .ok (.aload_n 0, 1) := by decide +kernel
theorem dX2_count_74 : decode cX2_count 74 = .ok (.getfield 35, 3) := by decide +kernel
theorem dX2_count_77 : decode cX2_count 77 = .ok (.ireturn, 1) := by decide +kernel
theorem dX2_count_78 : decode cX2_count 78 = .ok (.aload_n 0, 1) := by decide +kernel
theorem dX2_count_79 : decode cX2_count 79 = .ok (.getfield 39, 3) := by decide +kernel
theorem dX2_count_82 : decode cX2_count 82 = .ok (.ireturn, 1) := by decide +kernel
theorem dX2_count_83 : decode cX2_count 83 = .ok (.aload_n 0, 1) := by decide +kernel
theorem dX2_count_84 : decode cX2_count 84 = .ok (.getfield 45, 3) := by decide +kernel
theorem dX2_count_87 : decode cX2_count 87 = .ok (.ireturn, 1) := by decide +kernel
theorem dX2_count_88 : decode cX2_count 88 = .ok (.aload_n 0, 1) := by decide +kernel
theorem dX2_count_89 : decode cX2_count 89 = .ok (.iload_n 1, 1) := by decide +kernel
theorem dX2_count_90 : decode cX2_count 90 = .ok (.invokevirtual 157, 3) := by decide +kernel
theorem dX2_count_93 : decode cX2_count 93 = .ok (.ireturn, 1) := by decide +kernel
set_option maxRecDepth 20000 in
theorem ggX2_costs_X2_knownDoll : GoodIn wsX2_costs wsX2_knownDoll := goodIn_ca (goodIn_r _ [6, 7, 8, 9, 55, 56, 57, 58, 59, 60, 61, 62, 63] (by decide +kernel) (by decide +kernel)) (goodIn_sub (fun _ h => List.mem_cons_of_mem _ (List.mem_append_right _ h)) (by decide +kernel))
set_option maxRecDepth 20000 in
theorem gX2_costs_X2_knownDoll : GoodIn wsX2_costs (wsV RX2 69 RX2 yX2_knownDoll wsX2_knownDoll) := goodIn_app (goodIn_of _ (by decide +kernel)) ggX2_costs_X2_knownDoll
set_option maxRecDepth 20000 in
theorem ggX2_costs_X2_knownPose : GoodIn wsX2_costs wsX2_knownPose := goodIn_ca (goodIn_r _ [13, 7, 8, 14, 55, 56, 57, 58, 59, 60, 61, 62, 63] (by decide +kernel) (by decide +kernel)) (goodIn_sub (fun _ h => List.mem_cons_of_mem _ (List.mem_append_right _ h)) (by decide +kernel))
set_option maxRecDepth 20000 in
theorem gX2_costs_X2_knownPose : GoodIn wsX2_costs (wsV RX2 73 RX2 yX2_knownPose wsX2_knownPose) := goodIn_app (goodIn_of _ (by decide +kernel)) ggX2_costs_X2_knownPose
set_option maxRecDepth 20000 in
theorem ggX2_costs_X0_canTurnTo : GoodIn wsX2_costs wsX0_canTurnTo := goodIn_r _ [19, 20, 21, 22, 64, 65, 66, 67, 68, 69, 70, 71, 72, 73] (by decide +kernel) (by decide +kernel)
set_option maxRecDepth 20000 in
theorem gX2_costs_X0_canTurnTo : GoodIn wsX2_costs (wsV RX2 77 RX0 yX0_canTurnTo wsX0_canTurnTo) := goodIn_app (goodIn_of _ (by decide +kernel)) ggX2_costs_X0_canTurnTo
set_option maxRecDepth 20000 in
theorem ggX2_costs_X0_becomeLike : GoodIn wsX2_costs wsX0_becomeLike := goodIn_r _ [26, 21, 20, 27, 28, 29, 30, 31, 32, 33, 64, 65, 66, 67, 68, 69, 70, 71, 72] (by decide +kernel) (by decide +kernel)
set_option maxRecDepth 20000 in
theorem gX2_costs_X0_becomeLike : GoodIn wsX2_costs (wsV RX2 161 RX0 yX0_becomeLike wsX0_becomeLike) := goodIn_app (goodIn_of _ (by decide +kernel)) ggX2_costs_X0_becomeLike
set_option maxRecDepth 20000 in
theorem ggX2_costs_X0_turnTo : GoodIn wsX2_costs wsX0_turnTo := goodIn_r _ [37, 22, 21, 38, 39, 40, 41, 20, 27, 42, 43, 44, 45, 46, 18, 47, 48, 49, 50, 73, 64, 65, 66, 67, 68, 69, 70, 71, 72] (by decide +kernel) (by decide +kernel)
set_option maxRecDepth 20000 in
theorem gX2_costs_X0_turnTo : GoodIn wsX2_costs (wsV RX2 87 RX0 yX0_turnTo wsX0_turnTo) := goodIn_app (goodIn_of _ (by decide +kernel)) ggX2_costs_X0_turnTo
set_option maxRecDepth 20000 in
theorem ggX2_costs_X0_wearOfAllJoints : GoodIn wsX2_costs wsX0_wearOfAllJoints := goodIn_r _ [54, 20, 64, 65, 66, 67, 68, 69, 70, 71, 72] (by decide +kernel) (by decide +kernel)
set_option maxRecDepth 20000 in
theorem gX2_costs_X0_wearOfAllJoints : GoodIn wsX2_costs (wsV RX2 165 RX0 yX0_wearOfAllJoints wsX0_wearOfAllJoints) := goodIn_app (goodIn_of _ (by decide +kernel)) ggX2_costs_X0_wearOfAllJoints
theorem dX2_costs_0 : decode cX2_costs 0 = .ok (.aload_n 0, 1) := by decide +kernel
theorem dX2_costs_1 : decode cX2_costs 1 = .ok (.iload_n 1, 1) := by decide +kernel
theorem dX2_costs_2 : decode cX2_costs 2 = .ok (.invokevirtual 69, 3) := by decide +kernel
theorem dX2_costs_5 : decode cX2_costs 5 = .ok (.astore_n 3, 1) := by decide +kernel
theorem dX2_costs_6 : decode cX2_costs 6 = .ok (.aload_n 0, 1) := by decide +kernel
theorem dX2_costs_7 : decode cX2_costs 7 = .ok (.iload_n 2, 1) := by decide +kernel
theorem dX2_costs_8 : decode cX2_costs 8 = .ok (.invokevirtual 73, 3) := by decide +kernel
theorem dX2_costs_11 : decode cX2_costs 11 = .ok (.astore 4, 2) := by decide +kernel
theorem dX2_costs_13 : decode cX2_costs 13 = .ok (.aload_n 3, 1) := by decide +kernel
theorem dX2_costs_14 : decode cX2_costs 14 = .ok (.aload 4, 2) := by decide +kernel
theorem dX2_costs_16 : decode cX2_costs 16 = .ok (.invokevirtual 77, 3) := by decide +kernel
theorem dX2_costs_19 : decode cX2_costs 19 = .ok (.ifCond .ne 5, 3) := by decide +kernel
theorem dX2_costs_22 : decode cX2_costs 22 = .ok (.iconst (-1), 1) := by decide +kernel
theorem dX2_costs_23 : decode cX2_costs 23 = .ok (.ireturn, 1) := by decide +kernel
theorem dX2_costs_24 : decode cX2_costs 24 = .ok (.aload_n 0, 1) := by decide +kernel
theorem dX2_costs_25 : decode cX2_costs 25 = .ok (.getfield 31, 3) := by decide +kernel
theorem dX2_costs_28 : decode cX2_costs 28 = .ok (.aload_n 3, 1) := by decide +kernel
theorem dX2_costs_29 : decode cX2_costs 29 = .ok (.invokevirtual 161, 3) := by decide +kernel
theorem dX2_costs_32 : decode cX2_costs 32 = .ok (.aload_n 0, 1) := by decide +kernel
theorem dX2_costs_33 : decode cX2_costs 33 = .ok (.getfield 31, 3) := by decide +kernel
theorem dX2_costs_36 : decode cX2_costs 36 = .ok (.aload 4, 2) := by decide +kernel
theorem dX2_costs_38 : decode cX2_costs 38 = .ok (.invokevirtual 87, 3) := by decide +kernel
theorem dX2_costs_41 : decode cX2_costs 41 = .ok (.aload_n 0, 1) := by decide +kernel
theorem dX2_costs_42 : decode cX2_costs 42 = .ok (.getfield 31, 3) := by decide +kernel
theorem dX2_costs_45 : decode cX2_costs 45 = .ok (.invokevirtual 165, 3) := by decide +kernel
theorem dX2_costs_48 : decode cX2_costs 48 = .ok (.aload_n 3, 1) := by decide +kernel
theorem dX2_costs_49 : decode cX2_costs 49 = .ok (.invokevirtual 165, 3) := by decide +kernel
theorem dX2_costs_52 : decode cX2_costs 52 = .ok (.isub, 1) := by decide +kernel
theorem dX2_costs_53 : decode cX2_costs 53 = .ok (.ireturn, 1) := by decide +kernel
set_option maxRecDepth 20000 in
theorem ggX2_often_X2_knownDoll : GoodIn wsX2_often wsX2_knownDoll := goodIn_ca (goodIn_r _ [7, 8, 9, 10, 52, 53, 54, 55, 56, 57, 58, 59, 60] (by decide +kernel) (by decide +kernel)) (goodIn_sub (fun _ h => List.mem_cons_of_mem _ (List.mem_append_right _ h)) (by decide +kernel))
set_option maxRecDepth 20000 in
theorem gX2_often_X2_knownDoll : GoodIn wsX2_often (wsV RX2 69 RX2 yX2_knownDoll wsX2_knownDoll) := goodIn_app (goodIn_of _ (by decide +kernel)) ggX2_often_X2_knownDoll
set_option maxRecDepth 20000 in
theorem ggX2_often_X2_knownPose : GoodIn wsX2_often wsX2_knownPose := goodIn_ca (goodIn_r _ [14, 8, 9, 15, 52, 53, 54, 55, 56, 57, 58, 59, 60] (by decide +kernel) (by decide +kernel)) (goodIn_sub (fun _ h => List.mem_cons_of_mem _ (List.mem_append_right _ h)) (by decide +kernel))
set_option maxRecDepth 20000 in
theorem gX2_often_X2_knownPose : GoodIn wsX2_often (wsV RX2 73 RX2 yX2_knownPose wsX2_knownPose) := goodIn_app (goodIn_of _ (by decide +kernel)) ggX2_often_X2_knownPose
set_option maxRecDepth 20000 in
theorem ggX2_often_X0_becomeLike : GoodIn wsX2_often wsX0_becomeLike := goodIn_r _ [20, 21, 22, 23, 24, 25, 26, 27, 28, 29, 61, 62, 63, 64, 65, 66, 67, 68, 69] (by decide +kernel) (by decide +kernel)
set_option maxRecDepth 20000 in
theorem gX2_often_X0_becomeLike : GoodIn wsX2_often (wsV RX2 161 RX0 yX0_becomeLike wsX0_becomeLike) := goodIn_app (goodIn_of _ (by decide +kernel)) ggX2_often_X0_becomeLike
set_option maxRecDepth 20000 in
theorem ggX2_often_X0_canTurnTo : GoodIn wsX2_often wsX0_canTurnTo := goodIn_r _ [33, 22, 21, 34, 61, 62, 63, 64, 65, 66, 67, 68, 69, 70] (by decide +kernel) (by decide +kernel)
set_option maxRecDepth 20000 in
theorem gX2_often_X0_canTurnTo : GoodIn wsX2_often (wsV RX2 77 RX0 yX0_canTurnTo wsX0_canTurnTo) := goodIn_app (goodIn_of _ (by decide +kernel)) ggX2_often_X0_canTurnTo
set_option maxRecDepth 20000 in
theorem ggX2_often_X0_turnTo : GoodIn wsX2_often wsX0_turnTo := goodIn_r _ [38, 34, 21, 39, 40, 41, 42, 22, 23, 43, 44, 45, 46, 47, 19, 48, 49, 50, 51, 70, 61, 62, 63, 64, 65, 66, 67, 68, 69] (by decide +kernel) (by decide +kernel)
set_option maxRecDepth 20000 in
theorem gX2_often_X0_turnTo : GoodIn wsX2_often (wsV RX2 87 RX0 yX0_turnTo wsX0_turnTo) := goodIn_app (goodIn_of _ (by decide +kernel)) ggX2_often_X0_turnTo
theorem dX2_often_0 : decode cX2_often 0 = .ok (.aload_n 0, 1) := by decide +kernel
theorem dX2_often_1 : decode cX2_often 1 = .ok (.iload_n 1, 1) := by decide +kernel
theorem dX2_often_2 : decode cX2_often 2 = .ok (.invokevirtual 69, 3) := by decide +kernel
theorem dX2_often_5 : decode cX2_often 5 = .ok (.astore_n 3, 1) := by decide +kernel
theorem dX2_often_6 : decode cX2_often 6 = .ok (.aload_n 0, 1) := by decide +kernel
theorem dX2_often_7 : decode cX2_often 7 = .ok (.iload_n 2, 1) := by decide +kernel
theorem dX2_often_8 : decode cX2_often 8 = .ok (.invokevirtual 73, 3) := by decide +kernel
theorem dX2_often_11 : decode cX2_often 11 = .ok (.astore 4, 2) := by decide +kernel
theorem dX2_often_13 : decode cX2_often 13 = .ok (.aload_n 0, 1) := by decide +kernel
theorem dX2_often_14 : decode cX2_often 14 = .ok (.getfield 31, 3) := by decide +kernel
theorem dX2_often_17 : decode cX2_often 17 = .ok (.aload_n 3, 1) := by decide +kernel
theorem dX2_often_18 : decode cX2_often 18 = .ok (.invokevirtual 161, 3) := by decide +kernel
theorem dX2_often_21 : decode cX2_often 21 = .ok (.iconst 0, 1) := by decide +kernel
theorem dX2_often_22 : decode cX2_often 22 = .ok (.istore 5, 2) := by decide +kernel
theorem dX2_often_24 : decode cX2_often 24 = .ok (.iload 5, 2) := by decide +kernel
theorem dX2_often_26 : decode cX2_often 26 = .ok (.bipush 50, 2) := by decide +kernel
theorem dX2_often_28 : decode cX2_often 28 = .ok (.if_icmp .ge 41, 3) := by decide +kernel
theorem dX2_often_31 : decode cX2_often 31 = .ok (.aload_n 0, 1) := by decide +kernel
theorem dX2_often_32 : decode cX2_often 32 = .ok (.getfield 31, 3) := by decide +kernel
theorem dX2_often_35 : decode cX2_often 35 = .ok (.aload 4, 2) := by decide +kernel
theorem dX2_often_37 : decode cX2_often 37 = .ok (.invokevirtual 77, 3) := by decide +kernel
theorem dX2_often_40 : decode cX2_often 40 = .ok (.ifCond .eq 29, 3) := by decide +kernel
theorem dX2_often_43 : decode cX2_often 43 = .ok (.aload_n 0, 1) := by decide +kernel
theorem dX2_often_44 : decode cX2_often 44 = .ok (.getfield 31, 3) := by decide +kernel
theorem dX2_often_47 : decode cX2_often 47 = .ok (.aload 4, 2) := by decide +kernel
theorem dX2_often_49 : decode cX2_often 49 = .ok (.invokevirtual 87, 3) := by decide +kernel
theorem dX2_often_52 : decode cX2_often 52 = .ok (.aload_n 0, 1) := by decide +kernel
theorem dX2_often_53 : decode cX2_often 53 = .ok (.getfield 31, 3) := by decide +kernel
theorem dX2_often_56 : decode cX2_often 56 = .ok (.aload_n 0, 1) := by decide +kernel
theorem dX2_often_57 : decode cX2_often 57 = .ok (.getfield 26, 3) := by decide +kernel
theorem dX2_often_60 : decode cX2_often 60 = .ok (.invokevirtual 87, 3) := by decide +kernel
theorem dX2_often_63 : decode cX2_often 63 = .ok (.iinc 5 1, 3) := by decide +kernel
theorem dX2_often_66 : decode cX2_often 66 = .ok (.goto (-42), 3) := by decide +kernel
theorem dX2_often_69 : decode cX2_often 69 = .ok (.iload 5, 2) := by decide +kernel
theorem dX2_often_71 : decode cX2_often 71 = .ok (.ireturn, 1) := by decide +kernel
set_option maxRecDepth 20000 in
theorem ggX2_foresee_X0_becomeLike : GoodIn wsX2_foresee wsX0_becomeLike := goodIn_r _ [11, 12, 13, 14, 15, 16, 17, 18, 19, 20, 81, 82, 83, 84, 85, 86, 87, 88, 89] (by decide +kernel) (by decide +kernel)
set_option maxRecDepth 20000 in
theorem gX2_foresee_X0_becomeLike : GoodIn wsX2_foresee (wsV RX2 161 RX0 yX0_becomeLike wsX0_becomeLike) := goodIn_app (goodIn_of _ (by decide +kernel)) ggX2_foresee_X0_becomeLike
set_option maxRecDepth 20000 in
theorem ggX2_foresee_X2_liveThrough : GoodIn wsX2_foresee wsX2_liveThrough := goodIn_r _ [25, 26, 27, 28, 29, 30, 10, 31, 32, 33, 34, 35, 17, 18, 36, 37, 38, 39, 40, 41, 42, 43, 13, 44, 45, 46, 47, 16, 48, 49, 50, 51, 52, 53, 54, 55, 19, 56, 57, 58, 59, 60, 61, 62, 63, 14, 64, 65, 66, 67, 15, 68, 69, 70, 72, 73, 74, 75, 76, 77, 78, 79, 80, 81, 82, 83, 84, 85, 86, 87, 88, 89] (by decide +kernel) (by decide +kernel)
set_option maxRecDepth 20000 in
theorem gX2_foresee_X2_liveThrough : GoodIn wsX2_foresee (wsV RX2 181 RX2 yX2_liveThrough wsX2_liveThrough) := goodIn_app (goodIn_of _ (by decide +kernel)) ggX2_foresee_X2_liveThrough
set_option maxRecDepth 20000 in
theorem ggX2_foresee_X0_tally : GoodIn wsX2_foresee wsX0_tally := goodIn_r _ [35, 17, 18, 36, 37, 38, 10, 39, 40, 41, 42, 43, 13, 44, 45, 46, 47, 16, 81, 82, 83, 84, 85, 86, 87, 88, 89] (by decide +kernel) (by decide +kernel)
set_option maxRecDepth 20000 in
theorem gX2_foresee_X0_tally : GoodIn wsX2_foresee (wsV RX2 185 RX0 yX0_tally wsX0_tally) := goodIn_app (goodIn_of _ (by decide +kernel)) ggX2_foresee_X0_tally
theorem dX2_foresee_0 : decode cX2_foresee 0 = .ok (.iload_n 1, 1) := by decide +kernel
theorem dX2_foresee_1 : decode cX2_foresee 1 = .ok (.iconst 1, 1) := by decide +kernel
theorem dX2_foresee_2 : decode cX2_foresee 2 = .ok (.if_icmp .lt 9, 3) := by decide +kernel
theorem dX2_foresee_5 : decode cX2_foresee 5 = .ok (.iload_n 1, 1) := by decide +kernel
theorem dX2_foresee_6 : decode cX2_foresee 6 = .ok (.bipush 60, 2) := by decide +kernel
theorem dX2_foresee_8 : decode cX2_foresee 8 = .ok (.if_icmp .le 13, 3) := by decide +kernel
theorem dX2_foresee_11 : decode cX2_foresee 11 = .ok (.new 59, 3) := by decide +kernel
theorem dX2_foresee_14 : decode cX2_foresee 14 = .ok (.dup, 1) := by decide +kernel
theorem dX2_foresee_15 : decode cX2_foresee 15 = .ok (.ldc 177, 2) := by decide +kernel
theorem dX2_foresee_17 : decode cX2_foresee 17 = .ok (.invokespecial 63, 3) := by decide +kernel
theorem dX2_foresee_20 : decode cX2_foresee 20 = .ok (.athrow, 1) := by decide +kernel
theorem dX2_foresee_21 : decode cX2_foresee 21 = .ok (.iload_n 2, 1) := by decide +kernel
theorem dX2_foresee_22 : decode cX2_foresee 22 = .ok (.iconst 4, 1) := by decide +kernel
theorem dX2_foresee_23 : decode cX2_foresee 23 = .ok (.if_icmp .lt 9, 3) := by decide +kernel
theorem dX2_foresee_26 : decode cX2_foresee 26 = .ok (.iload_n 2, 1) := by decide +kernel
theorem dX2_foresee_27 : decode cX2_foresee 27 = .ok (.bipush 7, 2) := by decide +kernel
theorem dX2_foresee_29 : decode cX2_foresee 29 = .ok (.if_icmp .le 13, 3) := by decide +kernel
theorem dX2_foresee_32 : decode cX2_foresee 32 = .ok (.new 94, 3) := by decide +kernel
theorem dX2_foresee_35 : decode cX2_foresee 35 = .ok (.dup, 1) := by decide +kernel
theorem dX2_foresee_36 : decode cX2_foresee 36 = .ok (.ldc 179, 2) := by decide +kernel
theorem dX2_foresee_38 : decode cX2_foresee 38 = .ok (.invokespecial 98, 3) := by decide +kernel
theorem dX2_foresee_41 : decode cX2_foresee 41 = .ok (.athrow, 1) := by decide +kernel
theorem dX2_foresee_42 : decode cX2_foresee 42 = .ok (.iconst 0, 1) := by decide +kernel
theorem dX2_foresee_43 : decode cX2_foresee 43 = .ok (.istore_n 3, 1) := by decide +kernel
theorem dX2_foresee_44 : decode cX2_foresee 44 = .ok (.aload_n 0, 1) := by decide +kernel
theorem dX2_foresee_45 : decode cX2_foresee 45 = .ok (.getfield 11, 3) := by decide +kernel
theorem dX2_foresee_48 : decode cX2_foresee 48 = .ok (.astore 4, 2) := by decide +kernel
theorem dX2_foresee_50 : decode cX2_foresee 50 = .ok (.aload 4, 2) := by decide +kernel
theorem dX2_foresee_52 : decode cX2_foresee 52 = .ok (.arraylength, 1) := by decide +kernel
theorem dX2_foresee_53 : decode cX2_foresee 53 = .ok (.istore 5, 2) := by decide +kernel
theorem dX2_foresee_55 : decode cX2_foresee 55 = .ok (.iconst 0, 1) := by decide +kernel
theorem dX2_foresee_56 : decode cX2_foresee 56 = .ok (.istore 6, 2) := by decide +kernel
theorem dX2_foresee_58 : decode cX2_foresee 58 = .ok (.iload 6, 2) := by decide +kernel
theorem dX2_foresee_60 : decode cX2_foresee 60 = .ok (.iload 5, 2) := by decide +kernel
theorem dX2_foresee_62 : decode cX2_foresee 62 = .ok (.if_icmp .ge 51, 3) := by decide +kernel
theorem dX2_foresee_65 : decode cX2_foresee 65 = .ok (.aload 4, 2) := by decide +kernel
theorem dX2_foresee_67 : decode cX2_foresee 67 = .ok (.iload 6, 2) := by decide +kernel
theorem dX2_foresee_69 : decode cX2_foresee 69 = .ok (.aaload, 1) := by decide +kernel
theorem dX2_foresee_70 : decode cX2_foresee 70 = .ok (.astore 7, 2) := by decide +kernel
theorem dX2_foresee_72 : decode cX2_foresee 72 = .ok (.aload 7, 2) := by decide +kernel
theorem dX2_foresee_74 : decode cX2_foresee 74 = .ok (.ifnull 33, 3) := by decide +kernel
theorem dX2_foresee_77 : decode cX2_foresee 77 = .ok (.aload_n 0, 1) := by decide +kernel
theorem dX2_foresee_78 : decode cX2_foresee 78 = .ok (.getfield 31, 3) := by decide +kernel
theorem dX2_foresee_81 : decode cX2_foresee 81 = .ok (.aload 7, 2) := by decide +kernel
theorem dX2_foresee_83 : decode cX2_foresee 83 = .ok (.invokevirtual 161, 3) := by decide +kernel
theorem dX2_foresee_86 : decode cX2_foresee 86 = .ok (.aload_n 0, 1) := by decide +kernel
theorem dX2_foresee_87 : decode cX2_foresee 87 = .ok (.aload_n 0, 1) := by decide +kernel
theorem dX2_foresee_88 : decode cX2_foresee 88 = .ok (.getfield 31, 3) := by decide +kernel
theorem dX2_foresee_91 : decode cX2_foresee 91 = .ok (.iload_n 1, 1) := by decide +kernel
theorem dX2_foresee_92 : decode cX2_foresee 92 = .ok (.invokevirtual 181, 3) := by decide +kernel
theorem dX2_foresee_95 : decode cX2_foresee 95 = .ok (.pop, 1) := by decide +kernel
theorem dX2_foresee_96 : decode cX2_foresee 96 = .ok (.iload_n 3, 1) := by decide +kernel
theorem dX2_foresee_97 : decode cX2_foresee 97 = .ok (.aload_n 0, 1) := by decide +kernel
theorem dX2_foresee_98 : decode cX2_foresee 98 = .ok (.getfield 31, 3) := by decide +kernel
theorem dX2_foresee_101 : decode cX2_foresee 101 = .ok (.iload_n 2, 1) := by decide +kernel
theorem dX2_foresee_102 : decode cX2_foresee 102 = .ok (.invokevirtual 185, 3) := by decide +kernel
theorem dX2_foresee_105 : decode cX2_foresee 105 = .ok (.iadd, 1) := by decide +kernel
theorem dX2_foresee_106 : decode cX2_foresee 106 = .ok (.istore_n 3, 1) := by decide +kernel
theorem dX2_foresee_107 : decode cX2_foresee 107 = .ok (.iinc 6 1, 3) := by decide +kernel
theorem dX2_foresee_110 : decode cX2_foresee 110 = .ok (.goto (-52), 3) := by decide +kernel
theorem dX2_foresee_113 : decode cX2_foresee 113 = .ok (.iload_n 3, 1) := by decide +kernel
theorem dX2_foresee_114 : decode cX2_foresee 114 = .ok (.ireturn, 1) := by decide +kernel
set_option maxRecDepth 20000 in
theorem ggX2_pass_X2_liveThrough : GoodIn wsX2_pass wsX2_liveThrough := goodIn_r _ [9, 4, 10, 11, 12, 13, 14, 15, 16, 17, 18, 19, 20, 21, 22, 23, 24, 25, 26, 27, 28, 29, 30, 31, 32, 33, 34, 35, 36, 37, 38, 39, 40, 41, 42, 43, 44, 45, 46, 47, 48, 49, 50, 51, 52, 53, 54, 55, 56, 57, 58, 59, 60, 61, 62, 63, 64, 65, 66, 67, 68, 69, 70, 71, 72, 73, 74, 75, 76, 77, 78, 79] (by decide +kernel) (by decide +kernel)
set_option maxRecDepth 20000 in
theorem gX2_pass_X2_liveThrough : GoodIn wsX2_pass (wsV RX2 181 RX2 yX2_liveThrough wsX2_liveThrough) := goodIn_app (goodIn_of _ (by decide +kernel)) ggX2_pass_X2_liveThrough
theorem dX2_pass_0 : decode cX2_pass 0 = .ok (.iload_n 1, 1) := by decide +kernel
theorem dX2_pass_1 : decode cX2_pass 1 = .ok (.iconst 1, 1) := by decide +kernel
theorem dX2_pass_2 : decode cX2_pass 2 = .ok (.if_icmp .lt 9, 3) := by decide +kernel
theorem dX2_pass_5 : decode cX2_pass 5 = .ok (.iload_n 1, 1) := by decide +kernel
theorem dX2_pass_6 : decode cX2_pass 6 = .ok (.bipush 60, 2) := by decide +kernel
theorem dX2_pass_8 : decode cX2_pass 8 = .ok (.if_icmp .le 13, 3) := by decide +kernel
theorem dX2_pass_11 : decode cX2_pass 11 = .ok (.new 59, 3) := by decide +kernel
theorem dX2_pass_14 : decode cX2_pass 14 = .ok (.dup, 1) := by decide +kernel
theorem dX2_pass_15 : decode cX2_pass 15 = .ok (.ldc 177, 2) := by decide +kernel
theorem dX2_pass_17 : decode cX2_pass 17 = .ok (.invokespecial 63, 3) := by decide +kernel
theorem dX2_pass_20 : decode cX2_pass 20 = .ok (.athrow, 1) := by decide +kernel
theorem dX2_pass_21 : decode cX2_pass 21 = .ok (.iconst 0, 1) := by decide +kernel
theorem dX2_pass_22 : decode cX2_pass 22 = .ok (.istore_n 2, 1) := by decide +kernel
theorem dX2_pass_23 : decode cX2_pass 23 = .ok (.aload_n 0, 1) := by decide +kernel
theorem dX2_pass_24 : decode cX2_pass 24 = .ok (.getfield 11, 3) := by decide +kernel
theorem dX2_pass_27 : decode cX2_pass 27 = .ok (.astore_n 3, 1) := by decide +kernel
theorem dX2_pass_28 : decode cX2_pass 28 = .ok (.aload_n 3, 1) := by decide +kernel
theorem dX2_pass_29 : decode cX2_pass 29 = .ok (.arraylength, 1) := by decide +kernel
theorem dX2_pass_30 : decode cX2_pass 30 = .ok (.istore 4, 2) := by decide +kernel
theorem dX2_pass_32 : decode cX2_pass 32 = .ok (.iconst 0, 1) := by decide +kernel
theorem dX2_pass_33 : decode cX2_pass 33 = .ok (.istore 5, 2) := by decide +kernel
theorem dX2_pass_35 : decode cX2_pass 35 = .ok (.iload 5, 2) := by decide +kernel
theorem dX2_pass_37 : decode cX2_pass 37 = .ok (.iload 4, 2) := by decide +kernel
theorem dX2_pass_39 : decode cX2_pass 39 = .ok (.if_icmp .ge 30, 3) := by decide +kernel
theorem dX2_pass_42 : decode cX2_pass 42 = .ok (.aload_n 3, 1) := by decide +kernel
theorem dX2_pass_43 : decode cX2_pass 43 = .ok (.iload 5, 2) := by decide +kernel
theorem dX2_pass_45 : decode cX2_pass 45 = .ok (.aaload, 1) := by decide +kernel
theorem dX2_pass_46 : decode cX2_pass 46 = .ok (.astore 6, 2) := by decide +kernel
theorem dX2_pass_48 : decode cX2_pass 48 = .ok (.aload 6, 2) := by decide +kernel
theorem dX2_pass_50 : decode cX2_pass 50 = .ok (.ifnull 13, 3) := by decide +kernel
theorem dX2_pass_53 : decode cX2_pass 53 = .ok (.iload_n 2, 1) := by decide +kernel
theorem dX2_pass_54 : decode cX2_pass 54 = .ok (.aload_n 0, 1) := by decide +kernel
theorem dX2_pass_55 : decode cX2_pass 55 = .ok (.aload 6, 2) := by decide +kernel
theorem dX2_pass_57 : decode cX2_pass 57 = .ok (.iload_n 1, 1) := by decide +kernel
theorem dX2_pass_58 : decode cX2_pass 58 = .ok (.invokevirtual 181, 3) := by decide +kernel
theorem dX2_pass_61 : decode cX2_pass 61 = .ok (.iadd, 1) := by decide +kernel
theorem dX2_pass_62 : decode cX2_pass 62 = .ok (.istore_n 2, 1) := by decide +kernel
theorem dX2_pass_63 : decode cX2_pass 63 = .ok (.iinc 5 1, 3) := by decide +kernel
theorem dX2_pass_66 : decode cX2_pass 66 = .ok (.goto (-31), 3) := by decide +kernel
theorem dX2_pass_69 : decode cX2_pass 69 = .ok (.aload_n 0, 1) := by decide +kernel
theorem dX2_pass_70 : decode cX2_pass 70 = .ok (.dup, 1) := by decide +kernel
theorem dX2_pass_71 : decode cX2_pass 71 = .ok (.getfield 42, 3) := by decide +kernel
theorem dX2_pass_74 : decode cX2_pass 74 = .ok (.iload_n 1, 1) := by decide +kernel
theorem dX2_pass_75 : decode cX2_pass 75 = .ok (.iadd, 1) := by decide +kernel
theorem dX2_pass_76 : decode cX2_pass 76 = .ok (.putfield 42, 3) := by decide +kernel
theorem dX2_pass_79 : decode cX2_pass 79 = .ok (.iload_n 2, 1) := by decide +kernel
theorem dX2_pass_80 : decode cX2_pass 80 = .ok (.ireturn, 1) := by decide +kernel
set_option maxRecDepth 20000 in
theorem ggX2_mean_X0_wearOfAllJoints : GoodIn wsX2_mean wsX0_wearOfAllJoints := goodIn_r _ [7, 8, 18, 19, 20, 21, 22, 23, 24, 25, 26] (by decide +kernel) (by decide +kernel)
set_option maxRecDepth 20000 in
theorem gX2_mean_X0_wearOfAllJoints : GoodIn wsX2_mean (wsV RX2 165 RX0 yX0_wearOfAllJoints wsX0_wearOfAllJoints) := goodIn_app (goodIn_of _ (by decide +kernel)) ggX2_mean_X0_wearOfAllJoints
theorem dX2_mean_0 : decode cX2_mean 0 = .ok (.aload_n 0, 1) := by decide +kernel
theorem dX2_mean_1 : decode cX2_mean 1 = .ok (.getfield 35, 3) := by decide +kernel
theorem dX2_mean_4 : decode cX2_mean 4 = .ok (.ifCond .gt 5, 3) := by decide +kernel
theorem dX2_mean_7 : decode cX2_mean 7 = .ok (.dconst 0, 1) := by decide +kernel
theorem dX2_mean_8 : decode cX2_mean 8 = .ok (.dreturn, 1) := by decide +kernel
theorem dX2_mean_9 : decode cX2_mean 9 = .ok (.iconst 0, 1) := by decide +kernel
theorem dX2_mean_10 : decode cX2_mean 10 = .ok (.istore_n 1, 1) := by decide +kernel
theorem dX2_mean_11 : decode cX2_mean 11 = .ok (.aload_n 0, 1) := by decide +kernel
theorem dX2_mean_12 : decode cX2_mean 12 = .ok (.getfield 11, 3) := by decide +kernel
theorem dX2_mean_15 : decode cX2_mean 15 = .ok (.astore_n 2, 1) := by decide +kernel
theorem dX2_mean_16 : decode cX2_mean 16 = .ok (.aload_n 2, 1) := by decide +kernel
theorem dX2_mean_17 : decode cX2_mean 17 = .ok (.arraylength, 1) := by decide +kernel
theorem dX2_mean_18 : decode cX2_mean 18 = .ok (.istore_n 3, 1) := by decide +kernel
theorem dX2_mean_19 : decode cX2_mean 19 = .ok (.iconst 0, 1) := by decide +kernel
theorem dX2_mean_20 : decode cX2_mean 20 = .ok (.istore 4, 2) := by decide +kernel
theorem dX2_mean_22 : decode cX2_mean 22 = .ok (.iload 4, 2) := by decide +kernel
theorem dX2_mean_24 : decode cX2_mean 24 = .ok (.iload_n 3, 1) := by decide +kernel
theorem dX2_mean_25 : decode cX2_mean 25 = .ok (.if_icmp .ge 28, 3) := by decide +kernel
theorem dX2_mean_28 : decode cX2_mean 28 = .ok (.aload_n 2, 1) := by decide +kernel
theorem dX2_mean_29 : decode cX2_mean 29 = .ok (.iload 4, 2) := by decide +kernel
theorem dX2_mean_31 : decode cX2_mean 31 = .ok (.aaload, 1) := by decide +kernel
theorem dX2_mean_32 : decode cX2_mean 32 = .ok (.astore 5, 2) := by decide +kernel
theorem dX2_mean_34 : decode cX2_mean 34 = .ok (.aload 5, 2) := by decide +kernel
theorem dX2_mean_36 : decode cX2_mean 36 = .ok (.ifnull 11, 3) := by decide +kernel
theorem dX2_mean_39 : decode cX2_mean 39 = .ok (.iload_n 1, 1) := by decide +kernel
theorem dX2_mean_40 : decode cX2_mean 40 = .ok (.aload 5, 2) := by decide +kernel
theorem dX2_mean_42 : decode cX2_mean 42 = .ok (.invokevirtual 165, 3) := by decide +kernel
theorem dX2_mean_45 : decode cX2_mean 45 = .ok (.iadd, 1) := by decide +kernel
theorem dX2_mean_46 : decode cX2_mean 46 = .ok (.istore_n 1, 1) := by decide +kernel
theorem dX2_mean_47 : decode cX2_mean 47 = .ok (.iinc 4 1, 3) := by decide +kernel
theorem dX2_mean_50 : decode cX2_mean 50 = .ok (.goto (-28), 3) := by decide +kernel
theorem dX2_mean_53 : decode cX2_mean 53 = .ok (.iload_n 1, 1) := by decide +kernel
theorem dX2_mean_54 : decode cX2_mean 54 = .ok (.i2d, 1) := by decide +kernel
theorem dX2_mean_55 : decode cX2_mean 55 = .ok (.aload_n 0, 1) := by decide +kernel
theorem dX2_mean_56 : decode cX2_mean 56 = .ok (.getfield 35, 3) := by decide +kernel
theorem dX2_mean_59 : decode cX2_mean 59 = .ok (.bipush 6, 2) := by decide +kernel
theorem dX2_mean_61 : decode cX2_mean 61 = .ok (.imul, 1) := by decide +kernel
theorem dX2_mean_62 : decode cX2_mean 62 = .ok (.i2d, 1) := by decide +kernel
theorem dX2_mean_63 : decode cX2_mean 63 = .ok (.ddiv, 1) := by decide +kernel
theorem dX2_mean_64 : decode cX2_mean 64 = .ok (.dreturn, 1) := by decide +kernel
theorem dX2_isAngle_0 : decode cX2_isAngle 0 = .ok (.iload_n 0, 1) := by decide +kernel
theorem dX2_isAngle_1 : decode cX2_isAngle 1 = .ok (.ifCond .lt 13, 3) := by decide +kernel
theorem dX2_isAngle_4 : decode cX2_isAngle 4 = .ok (.iload_n 0, 1) := by decide +kernel
theorem dX2_isAngle_5 : decode cX2_isAngle 5 = .ok (.bipush 90, 2) := by decide +kernel
theorem dX2_isAngle_7 : decode cX2_isAngle 7 = .ok (.if_icmp .gt 7, 3) := by decide +kernel
theorem dX2_isAngle_10 : decode cX2_isAngle 10 = .ok (.iconst 1, 1) := by decide +kernel
theorem dX2_isAngle_11 : decode cX2_isAngle 11 = .ok (.goto 4, 3) := by decide +kernel
theorem dX2_isAngle_14 : decode cX2_isAngle 14 = .ok (.iconst 0, 1) := by decide +kernel
theorem dX2_isAngle_15 : decode cX2_isAngle 15 = .ok (.ireturn, 1) := by decide +kernel
theorem dX2_knownDoll_0 : decode cX2_knownDoll 0 = .ok (.iload_n 1, 1) := by decide +kernel
theorem dX2_knownDoll_1 : decode cX2_knownDoll 1 = .ok (.ifCond .lt 21, 3) := by decide +kernel
theorem dX2_knownDoll_4 : decode cX2_knownDoll 4 = .ok (.iload_n 1, 1) := by decide +kernel
theorem dX2_knownDoll_5 : decode cX2_knownDoll 5 = .ok (.aload_n 0, 1) := by decide +kernel
theorem dX2_knownDoll_6 : decode cX2_knownDoll 6 = .ok (.getfield 11, 3) := by decide +kernel
theorem dX2_knownDoll_9 : decode cX2_knownDoll 9 = .ok (.arraylength, 1) := by decide +kernel
theorem dX2_knownDoll_10 : decode cX2_knownDoll 10 = .ok (.if_icmp .ge 12, 3) := by decide +kernel
theorem dX2_knownDoll_13 : decode cX2_knownDoll 13 = .ok (.aload_n 0, 1) := by decide +kernel
theorem dX2_knownDoll_14 : decode cX2_knownDoll 14 = .ok (.getfield 11, 3) := by decide +kernel
theorem dX2_knownDoll_17 : decode cX2_knownDoll 17 = .ok (.iload_n 1, 1) := by decide +kernel
theorem dX2_knownDoll_18 : decode cX2_knownDoll 18 = .ok (.aaload, 1) := by decide +kernel
theorem dX2_knownDoll_19 : decode cX2_knownDoll 19 = .ok (.goto 4, 3) := by decide +kernel
theorem dX2_knownDoll_22 : decode cX2_knownDoll 22 = .ok (.aconst_null, 1) := by decide +kernel
theorem dX2_knownDoll_23 : decode cX2_knownDoll 23 = .ok (.astore_n 2, 1) := by decide +kernel
theorem dX2_knownDoll_24 : decode cX2_knownDoll 24 = .ok (.aload_n 2, 1) := by decide +kernel
theorem dX2_knownDoll_25 : decode cX2_knownDoll 25 = .ok (.ifnonnull 13, 3) := by decide +kernel
theorem dX2_knownDoll_28 : decode cX2_knownDoll 28 = .ok (.new 94, 3) := by decide +kernel
theorem dX2_knownDoll_31 : decode cX2_knownDoll 31 = .ok (.dup, 1) := by decide +kernel
theorem dX2_knownDoll_32 : decode cX2_knownDoll 32 = .ok (.ldc 210, 2) := by decide +kernel
theorem dX2_knownDoll_34 : decode cX2_knownDoll 34 = .ok (.invokespecial 98, 3) := by decide +kernel
theorem dX2_knownDoll_37 : decode cX2_knownDoll 37 = .ok (.athrow, 1) := by decide +kernel
theorem dX2_knownDoll_38 : decode cX2_knownDoll 38 = .ok (.aload_n 2, 1) := by decide +kernel
theorem dX2_knownDoll_39 : decode cX2_knownDoll 39 = .ok (.areturn, 1) := by decide +kernel
theorem dX2_knownPose_0 : decode cX2_knownPose 0 = .ok (.iload_n 1, 1) := by decide +kernel
theorem dX2_knownPose_1 : decode cX2_knownPose 1 = .ok (.ifCond .lt 21, 3) := by decide +kernel
theorem dX2_knownPose_4 : decode cX2_knownPose 4 = .ok (.iload_n 1, 1) := by decide +kernel
theorem dX2_knownPose_5 : decode cX2_knownPose 5 = .ok (.aload_n 0, 1) := by decide +kernel
theorem dX2_knownPose_6 : decode cX2_knownPose 6 = .ok (.getfield 17, 3) := by decide +kernel
theorem dX2_knownPose_9 : decode cX2_knownPose 9 = .ok (.arraylength, 1) := by decide +kernel
theorem dX2_knownPose_10 : decode cX2_knownPose 10 = .ok (.if_icmp .ge 12, 3) := by decide +kernel
theorem dX2_knownPose_13 : decode cX2_knownPose 13 = .ok (.aload_n 0, 1) := by decide +kernel
theorem dX2_knownPose_14 : decode cX2_knownPose 14 = .ok (.getfield 17, 3) := by decide +kernel
theorem dX2_knownPose_17 : decode cX2_knownPose 17 = .ok (.iload_n 1, 1) := by decide +kernel
theorem dX2_knownPose_18 : decode cX2_knownPose 18 = .ok (.aaload, 1) := by decide +kernel
theorem dX2_knownPose_19 : decode cX2_knownPose 19 = .ok (.goto 4, 3) := by decide +kernel
theorem dX2_knownPose_22 : decode cX2_knownPose 22 = .ok (.aconst_null, 1) := by decide +kernel
theorem dX2_knownPose_23 : decode cX2_knownPose 23 = .ok (.astore_n 2, 1) := by decide +kernel
theorem dX2_knownPose_24 : decode cX2_knownPose 24 = .ok (.aload_n 2, 1) := by decide +kernel
theorem dX2_knownPose_25 : decode cX2_knownPose 25 = .ok (.ifnonnull 13, 3) := by decide +kernel
theorem dX2_knownPose_28 : decode cX2_knownPose 28 = .ok (.new 94, 3) := by decide +kernel
theorem dX2_knownPose_31 : decode cX2_knownPose 31 = .ok (.dup, 1) := by decide +kernel
theorem dX2_knownPose_32 : decode cX2_knownPose 32 = .ok (.ldc 212, 2) := by decide +kernel
theorem dX2_knownPose_34 : decode cX2_knownPose 34 = .ok (.invokespecial 98, 3) := by decide +kernel
theorem dX2_knownPose_37 : decode cX2_knownPose 37 = .ok (.athrow, 1) := by decide +kernel
theorem dX2_knownPose_38 : decode cX2_knownPose 38 = .ok (.aload_n 2, 1) := by decide +kernel
theorem dX2_knownPose_39 : decode cX2_knownPose 39 = .ok (.areturn, 1) := by decide +kernel
set_option maxRecDepth 20000 in
theorem ggX2_tallyOfAll_X0_tally : GoodIn wsX2_tallyOfAll wsX0_tally := goodIn_r _ [6, 7, 8, 9, 10, 11, 5, 12, 13, 14, 15, 16, 17, 18, 19, 20, 21, 22, 32, 33, 34, 35, 36, 37, 38, 39, 40] (by decide +kernel) (by decide +kernel)
set_option maxRecDepth 20000 in
theorem gX2_tallyOfAll_X0_tally : GoodIn wsX2_tallyOfAll (wsV RX2 185 RX0 yX0_tally wsX0_tally) := goodIn_app (goodIn_of _ (by decide +kernel)) ggX2_tallyOfAll_X0_tally
theorem dX2_tallyOfAll_0 : decode cX2_tallyOfAll 0 = .ok (.iconst 0, 1) := by decide +kernel
theorem dX2_tallyOfAll_1 : decode cX2_tallyOfAll 1 = .ok (.istore_n 2, 1) := by decide +kernel
theorem dX2_tallyOfAll_2 : decode cX2_tallyOfAll 2 = .ok (.aload_n 0, 1) := by decide +kernel
theorem dX2_tallyOfAll_3 : decode cX2_tallyOfAll 3 = .ok (.getfield 11, 3) := by decide +kernel
theorem dX2_tallyOfAll_6 : decode cX2_tallyOfAll 6 = .ok (.astore_n 3, 1) := by decide +kernel
theorem dX2_tallyOfAll_7 : decode cX2_tallyOfAll 7 = .ok (.aload_n 3, 1) := by decide +kernel
theorem dX2_tallyOfAll_8 : decode cX2_tallyOfAll 8 = .ok (.arraylength, 1) := by decide +kernel
theorem dX2_tallyOfAll_9 : decode cX2_tallyOfAll 9 = .ok (.istore 4, 2) := by decide +kernel
theorem dX2_tallyOfAll_11 : decode cX2_tallyOfAll 11 = .ok (.iconst 0, 1) := by decide +kernel
theorem dX2_tallyOfAll_12 : decode cX2_tallyOfAll 12 = .ok (.istore 5, 2) := by decide +kernel
theorem dX2_tallyOfAll_14 : decode cX2_tallyOfAll 14 = .ok (.iload 5, 2) := by decide +kernel
theorem dX2_tallyOfAll_16 : decode cX2_tallyOfAll 16 = .ok (.iload 4, 2) := by decide +kernel
theorem dX2_tallyOfAll_18 : decode cX2_tallyOfAll 18 = .ok (.if_icmp .ge 29, 3) := by decide +kernel
theorem dX2_tallyOfAll_21 : decode cX2_tallyOfAll 21 = .ok (.aload_n 3, 1) := by decide +kernel
theorem dX2_tallyOfAll_22 : decode cX2_tallyOfAll 22 = .ok (.iload 5, 2) := by decide +kernel
theorem dX2_tallyOfAll_24 : decode cX2_tallyOfAll 24 = .ok (.aaload, 1) := by decide +kernel
theorem dX2_tallyOfAll_25 : decode cX2_tallyOfAll 25 = .ok (.astore 6, 2) := by decide +kernel
theorem dX2_tallyOfAll_27 : decode cX2_tallyOfAll 27 = .ok (.aload 6, 2) := by decide +kernel
theorem dX2_tallyOfAll_29 : decode cX2_tallyOfAll 29 = .ok (.ifnull 12, 3) := by decide +kernel
theorem dX2_tallyOfAll_32 : decode cX2_tallyOfAll 32 = .ok (.iload_n 2, 1) := by decide +kernel
theorem dX2_tallyOfAll_33 : decode cX2_tallyOfAll 33 = .ok (.aload 6, 2) := by decide +kernel
theorem dX2_tallyOfAll_35 : decode cX2_tallyOfAll 35 = .ok (.iload_n 1, 1) := by decide +kernel
theorem dX2_tallyOfAll_36 : decode cX2_tallyOfAll 36 = .ok (.invokevirtual 185, 3) := by decide +kernel
theorem dX2_tallyOfAll_39 : decode cX2_tallyOfAll 39 = .ok (.iadd, 1) := by decide +kernel
theorem dX2_tallyOfAll_40 : decode cX2_tallyOfAll 40 = .ok (.istore_n 2, 1) := by decide +kernel
theorem dX2_tallyOfAll_41 : decode cX2_tallyOfAll 41 = .ok (.iinc 5 1, 3) := by decide +kernel
theorem dX2_tallyOfAll_44 : decode cX2_tallyOfAll 44 = .ok (.goto (-30), 3) := by decide +kernel
theorem dX2_tallyOfAll_47 : decode cX2_tallyOfAll 47 = .ok (.iload_n 2, 1) := by decide +kernel
theorem dX2_tallyOfAll_48 : decode cX2_tallyOfAll 48 = .ok (.ireturn, 1) := by decide +kernel
set_option maxRecDepth 20000 in
theorem ggX2_liveThrough_X0_liveOneDay : GoodIn wsX2_liveThrough wsX0_liveOneDay := goodIn_r _ [7, 8, 9, 10, 6, 11, 12, 13, 14, 15, 16, 17, 18, 19, 20, 21, 22, 23, 24, 25, 26, 27, 28, 29, 30, 31, 32, 33, 34, 35, 36, 37, 38, 39, 40, 41, 42, 43, 44, 45, 46, 47, 48, 49, 50, 51, 52, 53, 63, 64, 65, 66, 67, 68, 69, 70, 71] (by decide +kernel) (by decide +kernel)
set_option maxRecDepth 20000 in
theorem gX2_liveThrough_X0_liveOneDay : GoodIn wsX2_liveThrough (wsV RX2 214 RX0 yX0_liveOneDay wsX0_liveOneDay) := goodIn_app (goodIn_of _ (by decide +kernel)) ggX2_liveThrough_X0_liveOneDay
theorem dX2_liveThrough_0 : decode cX2_liveThrough 0 = .ok (.iconst 0, 1) := by decide +kernel
theorem dX2_liveThrough_1 : decode cX2_liveThrough 1 = .ok (.istore_n 3, 1) := by decide +kernel
theorem dX2_liveThrough_2 : decode cX2_liveThrough 2 = .ok (.iconst 0, 1) := by decide +kernel
theorem dX2_liveThrough_3 : decode cX2_liveThrough 3 = .ok (.istore 4, 2) := by decide +kernel
theorem dX2_liveThrough_5 : decode cX2_liveThrough 5 = .ok (.iload 4, 2) := by decide +kernel
theorem dX2_liveThrough_7 : decode cX2_liveThrough 7 = .ok (.iload_n 2, 1) := by decide +kernel
theorem dX2_liveThrough_8 : decode cX2_liveThrough 8 = .ok (.if_icmp .ge 27, 3) := by decide +kernel
theorem dX2_liveThrough_11 : decode cX2_liveThrough 11 = .ok (.iload_n 3, 1) := by decide +kernel
theorem dX2_liveThrough_12 : decode cX2_liveThrough 12 = .ok (.aload_n 1, 1) := by decide +kernel
theorem dX2_liveThrough_13 : decode cX2_liveThrough 13 = .ok (.aload_n 0, 1) := by decide +kernel
theorem dX2_liveThrough_14 : decode cX2_liveThrough 14 = .ok (.getfield 42, 3) := by decide +kernel
theorem dX2_liveThrough_17 : decode cX2_liveThrough 17 = .ok (.iload 4, 2) := by decide +kernel
theorem dX2_liveThrough_19 : decode cX2_liveThrough 19 = .ok (.iadd, 1) := by decide +kernel
theorem dX2_liveThrough_20 : decode cX2_liveThrough 20 = .ok (.aload_n 0, 1) := by decide +kernel
theorem dX2_liveThrough_21 : decode cX2_liveThrough 21 = .ok (.getfield 45, 3) := by decide +kernel
theorem dX2_liveThrough_24 : decode cX2_liveThrough 24 = .ok (.invokevirtual 214, 3) := by decide +kernel
theorem dX2_liveThrough_27 : decode cX2_liveThrough 27 = .ok (.iadd, 1) := by decide +kernel
theorem dX2_liveThrough_28 : decode cX2_liveThrough 28 = .ok (.istore_n 3, 1) := by decide +kernel
theorem dX2_liveThrough_29 : decode cX2_liveThrough 29 = .ok (.iinc 4 1, 3) := by decide +kernel
theorem dX2_liveThrough_32 : decode cX2_liveThrough 32 = .ok (.goto (-27), 3) := by decide +kernel
theorem dX2_liveThrough_35 : decode cX2_liveThrough 35 = .ok (.iload_n 3, 1) := by decide +kernel
theorem dX2_liveThrough_36 : decode cX2_liveThrough 36 = .ok (.ireturn, 1) := by decide +kernel
