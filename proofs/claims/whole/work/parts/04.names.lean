set_option maxRecDepth 20000 in
theorem ggX0_weigh_X0_weighSinks : GoodIn wsX0_weigh wsX0_weighSinks := goodIn_r _ [7, 1, 8, 9, 10, 11, 12, 13, 14, 54, 55, 56, 57, 58, 59, 60, 61, 62, 63, 64, 65, 66, 67, 68, 69, 70, 71, 72, 73, 74, 75, 76, 77, 78, 79, 80, 81, 82] (by decide +kernel) (by decide +kernel)
set_option maxRecDepth 20000 in
theorem gX0_weigh_X0_weighSinks : GoodIn wsX0_weigh (wsV RX0 44 RX0 yX0_weighSinks wsX0_weighSinks) := goodIn_app (goodIn_of _ (by decide +kernel)) ggX0_weigh_X0_weighSinks
set_option maxRecDepth 20000 in
theorem ggX0_weigh_X2_bitOf : GoodIn wsX0_weigh wsX2_bitOf := goodIn_r _ [19, 20, 54, 55, 56, 57, 58, 59, 60, 61, 62, 63, 64, 65, 66, 67] (by decide +kernel) (by decide +kernel)
set_option maxRecDepth 20000 in
theorem gX0_weigh_X2_bitOf : GoodIn wsX0_weigh (wsV RX0 56 RX2 yX2_bitOf wsX2_bitOf) := goodIn_app (goodIn_of _ (by decide +kernel)) ggX0_weigh_X2_bitOf
set_option maxRecDepth 20000 in
theorem ggX0_weigh_X0_weighJoin : GoodIn wsX0_weigh wsX0_weighJoin := goodIn_r _ [24, 25, 26, 8, 11, 12, 27, 28, 29, 30, 9, 31, 32, 33, 34, 6, 35, 36, 37, 38, 39, 40, 41, 42, 43, 44, 45, 46, 47, 48, 49, 50, 51, 52, 53, 54, 55, 56, 57, 58, 59, 60, 61, 62, 63, 64, 65, 66, 67, 68, 69, 70, 71, 72, 73, 74, 75, 76, 77] (by decide +kernel) (by decide +kernel)
set_option maxRecDepth 20000 in
theorem gX0_weigh_X0_weighJoin : GoodIn wsX0_weigh (wsV RX0 60 RX0 yX0_weighJoin wsX0_weighJoin) := goodIn_app (goodIn_of _ (by decide +kernel)) ggX0_weigh_X0_weighJoin
theorem dX0_weigh_0 : decode cX0_weigh 0 = .ok (.aload_n 0, 1) := by decide +kernel
theorem dX0_weigh_1 : decode cX0_weigh 1 = .ok (.aload_n 1, 1) := by decide +kernel
theorem dX0_weigh_2 : decode cX0_weigh 2 = .ok (.aload_n 2, 1) := by decide +kernel
theorem dX0_weigh_3 : decode cX0_weigh 3 = .ok (.invokevirtual 44, 3) := by decide +kernel
theorem dX0_weigh_6 : decode cX0_weigh 6 = .ok (.aload_n 1, 1) := by decide +kernel
theorem dX0_weigh_7 : decode cX0_weigh 7 = .ok (.getfield 48, 3) := by decide +kernel
theorem dX0_weigh_10 : decode cX0_weigh 10 = .ok (.istore 4, 2) := by decide +kernel
theorem dX0_weigh_12 : decode cX0_weigh 12 = .ok (.iload 4, 2) := by decide +kernel
theorem dX0_weigh_14 : decode cX0_weigh 14 = .ok (.aload_n 1, 1) := by decide +kernel
theorem dX0_weigh_15 : decode cX0_weigh 15 = .ok (.getfield 53, 3) := by decide +kernel
theorem dX0_weigh_18 : decode cX0_weigh 18 = .ok (.if_icmp .ge 32, 3) := by decide +kernel
theorem dX0_weigh_21 : decode cX0_weigh 21 = .ok (.aload_n 0, 1) := by decide +kernel
theorem dX0_weigh_22 : decode cX0_weigh 22 = .ok (.aload_n 1, 1) := by decide +kernel
theorem dX0_weigh_23 : decode cX0_weigh 23 = .ok (.iload 4, 2) := by decide +kernel
theorem dX0_weigh_25 : decode cX0_weigh 25 = .ok (.iload_n 3, 1) := by decide +kernel
theorem dX0_weigh_26 : decode cX0_weigh 26 = .ok (.aload_n 1, 1) := by decide +kernel
theorem dX0_weigh_27 : decode cX0_weigh 27 = .ok (.iload 4, 2) := by decide +kernel
theorem dX0_weigh_29 : decode cX0_weigh 29 = .ok (.invokevirtual 56, 3) := by decide +kernel
theorem dX0_weigh_32 : decode cX0_weigh 32 = .ok (.iand, 1) := by decide +kernel
theorem dX0_weigh_33 : decode cX0_weigh 33 = .ok (.ifCond .eq 7, 3) := by decide +kernel
theorem dX0_weigh_36 : decode cX0_weigh 36 = .ok (.iconst 1, 1) := by decide +kernel
theorem dX0_weigh_37 : decode cX0_weigh 37 = .ok (.goto 4, 3) := by decide +kernel
theorem dX0_weigh_40 : decode cX0_weigh 40 = .ok (.iconst 0, 1) := by decide +kernel
theorem dX0_weigh_41 : decode cX0_weigh 41 = .ok (.invokevirtual 60, 3) := by decide +kernel
theorem dX0_weigh_44 : decode cX0_weigh 44 = .ok (.iinc 4 1, 3) := by decide +kernel
theorem dX0_weigh_47 : decode cX0_weigh 47 = .ok (.goto (-35), 3) := by decide +kernel
theorem dX0_weigh_50 : decode cX0_weigh 50 = .ok (.return_, 1) := by decide +kernel
theorem dX0_weighSinks_0 : decode cX0_weighSinks 0 = .ok (.iconst 0, 1) := by decide +kernel
theorem dX0_weighSinks_1 : decode cX0_weighSinks 1 = .ok (.istore_n 3, 1) := by decide +kernel
theorem dX0_weighSinks_2 : decode cX0_weighSinks 2 = .ok (.iload_n 3, 1) := by decide +kernel
theorem dX0_weighSinks_3 : decode cX0_weighSinks 3 = .ok (.aload_n 1, 1) := by decide +kernel
theorem dX0_weighSinks_4 : decode cX0_weighSinks 4 = .ok (.getfield 48, 3) := by decide +kernel
theorem dX0_weighSinks_7 : decode cX0_weighSinks 7 = .ok (.if_icmp .ge 55, 3) := by decide +kernel
theorem dX0_weighSinks_10 : decode cX0_weighSinks 10 = .ok (.aload_n 0, 1) := by decide +kernel
theorem dX0_weighSinks_11 : decode cX0_weighSinks 11 = .ok (.getfield 9, 3) := by decide +kernel
theorem dX0_weighSinks_14 : decode cX0_weighSinks 14 = .ok (.iload_n 3, 1) := by decide +kernel
theorem dX0_weighSinks_15 : decode cX0_weighSinks 15 = .ok (.ldc2_w 64, 3) := by decide +kernel
theorem dX0_weighSinks_18 : decode cX0_weighSinks 18 = .ok (.aload_n 2, 1) := by decide +kernel
theorem dX0_weighSinks_19 : decode cX0_weighSinks 19 = .ok (.getfield 66, 3) := by decide +kernel
theorem dX0_weighSinks_22 : decode cX0_weighSinks 22 = .ok (.iload_n 3, 1) := by decide +kernel
theorem dX0_weighSinks_23 : decode cX0_weighSinks 23 = .ok (.iaload, 1) := by decide +kernel
theorem dX0_weighSinks_24 : decode cX0_weighSinks 24 = .ok (.i2l, 1) := by decide +kernel
theorem dX0_weighSinks_25 : decode cX0_weighSinks 25 = .ok (.lmul, 1) := by decide +kernel
theorem dX0_weighSinks_26 : decode cX0_weighSinks 26 = .ok (.lastore, 1) := by decide +kernel
theorem dX0_weighSinks_27 : decode cX0_weighSinks 27 = .ok (.aload_n 0, 1) := by decide +kernel
theorem dX0_weighSinks_28 : decode cX0_weighSinks 28 = .ok (.getfield 15, 3) := by decide +kernel
theorem dX0_weighSinks_31 : decode cX0_weighSinks 31 = .ok (.iload_n 3, 1) := by decide +kernel
theorem dX0_weighSinks_32 : decode cX0_weighSinks 32 = .ok (.aload_n 0, 1) := by decide +kernel
theorem dX0_weighSinks_33 : decode cX0_weighSinks 33 = .ok (.getfield 9, 3) := by decide +kernel
theorem dX0_weighSinks_36 : decode cX0_weighSinks 36 = .ok (.iload_n 3, 1) := by decide +kernel
theorem dX0_weighSinks_37 : decode cX0_weighSinks 37 = .ok (.laload, 1) := by decide +kernel
theorem dX0_weighSinks_38 : decode cX0_weighSinks 38 = .ok (.lastore, 1) := by decide +kernel
theorem dX0_weighSinks_39 : decode cX0_weighSinks 39 = .ok (.aload_n 0, 1) := by decide +kernel
theorem dX0_weighSinks_40 : decode cX0_weighSinks 40 = .ok (.getfield 18, 3) := by decide +kernel
theorem dX0_weighSinks_43 : decode cX0_weighSinks 43 = .ok (.iload_n 3, 1) := by decide +kernel
theorem dX0_weighSinks_44 : decode cX0_weighSinks 44 = .ok (.ldc2_w 72, 3) := by decide +kernel
theorem dX0_weighSinks_47 : decode cX0_weighSinks 47 = .ok (.aload_n 2, 1) := by decide +kernel
theorem dX0_weighSinks_48 : decode cX0_weighSinks 48 = .ok (.getfield 74, 3) := by decide +kernel
theorem dX0_weighSinks_51 : decode cX0_weighSinks 51 = .ok (.iload_n 3, 1) := by decide +kernel
theorem dX0_weighSinks_52 : decode cX0_weighSinks 52 = .ok (.iaload, 1) := by decide +kernel
theorem dX0_weighSinks_53 : decode cX0_weighSinks 53 = .ok (.i2l, 1) := by decide +kernel
theorem dX0_weighSinks_54 : decode cX0_weighSinks 54 = .ok (.lmul, 1) := by decide +kernel
theorem dX0_weighSinks_55 : decode cX0_weighSinks 55 = .ok (.lastore, 1) := by decide +kernel
theorem dX0_weighSinks_56 : decode cX0_weighSinks 56 = .ok (.iinc 3 1, 3) := by decide +kernel
theorem dX0_weighSinks_59 : decode cX0_weighSinks 59 = .ok (.goto (-57), 3) := by decide +kernel
theorem dX0_weighSinks_62 : decode cX0_weighSinks 62 = .ok (.return_, 1) := by decide +kernel
set_option maxRecDepth 20000 in
theorem ggX0_weighJoin_X0_wireCapacity : GoodIn wsX0_weighJoin wsX0_wireCapacity := goodIn_r _ [16, 17, 18, 49, 50, 51, 52, 53, 54, 55, 56, 57, 58, 35, 36, 37, 38, 39, 40, 41, 42, 43, 44, 45, 46, 47, 48] (by decide +kernel) (by decide +kernel)
set_option maxRecDepth 20000 in
theorem gX0_weighJoin_X0_wireCapacity : GoodIn wsX0_weighJoin (wsV RX0 83 RX0 yX0_wireCapacity wsX0_wireCapacity) := goodIn_app (goodIn_of _ (by decide +kernel)) ggX0_weighJoin_X0_wireCapacity
set_option maxRecDepth 20000 in
theorem ggX0_weighJoin_X0_slackAbove : GoodIn wsX0_weighJoin wsX0_slackAbove := goodIn_r _ [22, 5, 23, 24, 25, 15, 26, 27, 18, 28, 4, 12, 13, 14, 16, 17, 49, 50, 51, 52, 53, 54, 55, 56, 57, 58, 35, 36, 37, 38, 39, 40, 41, 42, 43, 44, 45, 46, 47, 48] (by decide +kernel) (by decide +kernel)
set_option maxRecDepth 20000 in
theorem gX0_weighJoin_X0_slackAbove : GoodIn wsX0_weighJoin (wsV RX0 87 RX0 yX0_slackAbove wsX0_slackAbove) := goodIn_app (goodIn_of _ (by decide +kernel)) ggX0_weighJoin_X0_slackAbove
set_option maxRecDepth 20000 in
theorem ggX0_weighJoin_X0_bufferDelay : GoodIn wsX0_weighJoin wsX0_bufferDelay := goodIn_r _ [32, 33, 28, 34, 3, 49, 50, 51, 52, 53, 54, 55, 56, 57, 58] (by decide +kernel) (by decide +kernel)
set_option maxRecDepth 20000 in
theorem gX0_weighJoin_X0_bufferDelay : GoodIn wsX0_weighJoin (wsV RX0 96 RX0 yX0_bufferDelay wsX0_bufferDelay) := goodIn_app (goodIn_of _ (by decide +kernel)) ggX0_weighJoin_X0_bufferDelay
theorem dX0_weighJoin_0 : decode cX0_weighJoin 0 = .ok (.aload_n 1, 1) := by decide +kernel
theorem dX0_weighJoin_1 : decode cX0_weighJoin 1 = .ok (.getfield 77, 3) := by decide +kernel
theorem dX0_weighJoin_4 : decode cX0_weighJoin 4 = .ok (.iload_n 2, 1) := by decide +kernel
theorem dX0_weighJoin_5 : decode cX0_weighJoin 5 = .ok (.iaload, 1) := by decide +kernel
theorem dX0_weighJoin_6 : decode cX0_weighJoin 6 = .ok (.istore 4, 2) := by decide +kernel
theorem dX0_weighJoin_8 : decode cX0_weighJoin 8 = .ok (.aload_n 1, 1) := by decide +kernel
theorem dX0_weighJoin_9 : decode cX0_weighJoin 9 = .ok (.getfield 80, 3) := by decide +kernel
theorem dX0_weighJoin_12 : decode cX0_weighJoin 12 = .ok (.iload_n 2, 1) := by decide +kernel
theorem dX0_weighJoin_13 : decode cX0_weighJoin 13 = .ok (.iaload, 1) := by decide +kernel
theorem dX0_weighJoin_14 : decode cX0_weighJoin 14 = .ok (.istore 5, 2) := by decide +kernel
theorem dX0_weighJoin_16 : decode cX0_weighJoin 16 = .ok (.aload_n 0, 1) := by decide +kernel
theorem dX0_weighJoin_17 : decode cX0_weighJoin 17 = .ok (.getfield 9, 3) := by decide +kernel
theorem dX0_weighJoin_20 : decode cX0_weighJoin 20 = .ok (.iload_n 2, 1) := by decide +kernel
theorem dX0_weighJoin_21 : decode cX0_weighJoin 21 = .ok (.aload_n 0, 1) := by decide +kernel
theorem dX0_weighJoin_22 : decode cX0_weighJoin 22 = .ok (.getfield 15, 3) := by decide +kernel
theorem dX0_weighJoin_25 : decode cX0_weighJoin 25 = .ok (.iload 4, 2) := by decide +kernel
theorem dX0_weighJoin_27 : decode cX0_weighJoin 27 = .ok (.laload, 1) := by decide +kernel
theorem dX0_weighJoin_28 : decode cX0_weighJoin 28 = .ok (.aload_n 0, 1) := by decide +kernel
theorem dX0_weighJoin_29 : decode cX0_weighJoin 29 = .ok (.aload_n 1, 1) := by decide +kernel
theorem dX0_weighJoin_30 : decode cX0_weighJoin 30 = .ok (.iload 4, 2) := by decide +kernel
theorem dX0_weighJoin_32 : decode cX0_weighJoin 32 = .ok (.invokevirtual 83, 3) := by decide +kernel
theorem dX0_weighJoin_35 : decode cX0_weighJoin 35 = .ok (.ladd, 1) := by decide +kernel
theorem dX0_weighJoin_36 : decode cX0_weighJoin 36 = .ok (.aload_n 0, 1) := by decide +kernel
theorem dX0_weighJoin_37 : decode cX0_weighJoin 37 = .ok (.getfield 15, 3) := by decide +kernel
theorem dX0_weighJoin_40 : decode cX0_weighJoin 40 = .ok (.iload 5, 2) := by decide +kernel
theorem dX0_weighJoin_42 : decode cX0_weighJoin 42 = .ok (.laload, 1) := by decide +kernel
theorem dX0_weighJoin_43 : decode cX0_weighJoin 43 = .ok (.ladd, 1) := by decide +kernel
theorem dX0_weighJoin_44 : decode cX0_weighJoin 44 = .ok (.aload_n 0, 1) := by decide +kernel
theorem dX0_weighJoin_45 : decode cX0_weighJoin 45 = .ok (.aload_n 1, 1) := by decide +kernel
theorem dX0_weighJoin_46 : decode cX0_weighJoin 46 = .ok (.iload 5, 2) := by decide +kernel
theorem dX0_weighJoin_48 : decode cX0_weighJoin 48 = .ok (.invokevirtual 83, 3) := by decide +kernel
theorem dX0_weighJoin_51 : decode cX0_weighJoin 51 = .ok (.ladd, 1) := by decide +kernel
theorem dX0_weighJoin_52 : decode cX0_weighJoin 52 = .ok (.lastore, 1) := by decide +kernel
theorem dX0_weighJoin_53 : decode cX0_weighJoin 53 = .ok (.aload_n 0, 1) := by decide +kernel
theorem dX0_weighJoin_54 : decode cX0_weighJoin 54 = .ok (.getfield 15, 3) := by decide +kernel
theorem dX0_weighJoin_57 : decode cX0_weighJoin 57 = .ok (.iload_n 2, 1) := by decide +kernel
theorem dX0_weighJoin_58 : decode cX0_weighJoin 58 = .ok (.aload_n 0, 1) := by decide +kernel
theorem dX0_weighJoin_59 : decode cX0_weighJoin 59 = .ok (.getfield 9, 3) := by decide +kernel
theorem dX0_weighJoin_62 : decode cX0_weighJoin 62 = .ok (.iload_n 2, 1) := by decide +kernel
theorem dX0_weighJoin_63 : decode cX0_weighJoin 63 = .ok (.laload, 1) := by decide +kernel
theorem dX0_weighJoin_64 : decode cX0_weighJoin 64 = .ok (.lastore, 1) := by decide +kernel
theorem dX0_weighJoin_65 : decode cX0_weighJoin 65 = .ok (.aload_n 0, 1) := by decide +kernel
theorem dX0_weighJoin_66 : decode cX0_weighJoin 66 = .ok (.getfield 18, 3) := by decide +kernel
theorem dX0_weighJoin_69 : decode cX0_weighJoin 69 = .ok (.iload_n 2, 1) := by decide +kernel
theorem dX0_weighJoin_70 : decode cX0_weighJoin 70 = .ok (.aload_n 0, 1) := by decide +kernel
theorem dX0_weighJoin_71 : decode cX0_weighJoin 71 = .ok (.aload_n 1, 1) := by decide +kernel
theorem dX0_weighJoin_72 : decode cX0_weighJoin 72 = .ok (.iload 4, 2) := by decide +kernel
theorem dX0_weighJoin_74 : decode cX0_weighJoin 74 = .ok (.invokevirtual 87, 3) := by decide +kernel
theorem dX0_weighJoin_77 : decode cX0_weighJoin 77 = .ok (.aload_n 0, 1) := by decide +kernel
theorem dX0_weighJoin_78 : decode cX0_weighJoin 78 = .ok (.aload_n 1, 1) := by decide +kernel
theorem dX0_weighJoin_79 : decode cX0_weighJoin 79 = .ok (.iload 5, 2) := by decide +kernel
theorem dX0_weighJoin_81 : decode cX0_weighJoin 81 = .ok (.invokevirtual 87, 3) := by decide +kernel
theorem dX0_weighJoin_84 : decode cX0_weighJoin 84 = .ok (.invokestatic 90, 3) := by decide +kernel
theorem dX0_weighJoin_87 : decode cX0_weighJoin 87 = .ok (.lastore, 1) := by decide +kernel
theorem dX0_weighJoin_88 : decode cX0_weighJoin 88 = .ok (.iload_n 3, 1) := by decide +kernel
theorem dX0_weighJoin_89 : decode cX0_weighJoin 89 = .ok (.ifCond .eq 32, 3) := by decide +kernel
theorem dX0_weighJoin_92 : decode cX0_weighJoin 92 = .ok (.aload_n 0, 1) := by decide +kernel
theorem dX0_weighJoin_93 : decode cX0_weighJoin 93 = .ok (.getfield 15, 3) := by decide +kernel
theorem dX0_weighJoin_96 : decode cX0_weighJoin 96 = .ok (.iload_n 2, 1) := by decide +kernel
theorem dX0_weighJoin_97 : decode cX0_weighJoin 97 = .ok (.ldc2_w 64, 3) := by decide +kernel
theorem dX0_weighJoin_100 : decode cX0_weighJoin 100 = .ok (.aload_n 0, 1) := by decide +kernel
theorem dX0_weighJoin_101 : decode cX0_weighJoin 101 = .ok (.getfield 28, 3) := by decide +kernel
theorem dX0_weighJoin_104 : decode cX0_weighJoin 104 = .ok (.i2l, 1) := by decide +kernel
theorem dX0_weighJoin_105 : decode cX0_weighJoin 105 = .ok (.lmul, 1) := by decide +kernel
theorem dX0_weighJoin_106 : decode cX0_weighJoin 106 = .ok (.lastore, 1) := by decide +kernel
theorem dX0_weighJoin_107 : decode cX0_weighJoin 107 = .ok (.aload_n 0, 1) := by decide +kernel
theorem dX0_weighJoin_108 : decode cX0_weighJoin 108 = .ok (.getfield 18, 3) := by decide +kernel
theorem dX0_weighJoin_111 : decode cX0_weighJoin 111 = .ok (.iload_n 2, 1) := by decide +kernel
theorem dX0_weighJoin_112 : decode cX0_weighJoin 112 = .ok (.dup2, 1) := by decide +kernel
theorem dX0_weighJoin_113 : decode cX0_weighJoin 113 = .ok (.laload, 1) := by decide +kernel
theorem dX0_weighJoin_114 : decode cX0_weighJoin 114 = .ok (.aload_n 0, 1) := by decide +kernel
theorem dX0_weighJoin_115 : decode cX0_weighJoin 115 = .ok (.iload_n 2, 1) := by decide +kernel
theorem dX0_weighJoin_116 : decode cX0_weighJoin 116 = .ok (.invokevirtual 96, 3) := by decide +kernel
theorem dX0_weighJoin_119 : decode cX0_weighJoin 119 = .ok (.lsub, 1) := by decide +kernel
theorem dX0_weighJoin_120 : decode cX0_weighJoin 120 = .ok (.lastore, 1) := by decide +kernel
theorem dX0_weighJoin_121 : decode cX0_weighJoin 121 = .ok (.return_, 1) := by decide +kernel
theorem dX0_wireCapacity_0 : decode cX0_wireCapacity 0 = .ok (.aload_n 0, 1) := by decide +kernel
theorem dX0_wireCapacity_1 : decode cX0_wireCapacity 1 = .ok (.getfield 25, 3) := by decide +kernel
theorem dX0_wireCapacity_4 : decode cX0_wireCapacity 4 = .ok (.i2l, 1) := by decide +kernel
theorem dX0_wireCapacity_5 : decode cX0_wireCapacity 5 = .ok (.aload_n 1, 1) := by decide +kernel
theorem dX0_wireCapacity_6 : decode cX0_wireCapacity 6 = .ok (.getfield 100, 3) := by decide +kernel
theorem dX0_wireCapacity_9 : decode cX0_wireCapacity 9 = .ok (.iload_n 2, 1) := by decide +kernel
theorem dX0_wireCapacity_10 : decode cX0_wireCapacity 10 = .ok (.iaload, 1) := by decide +kernel
theorem dX0_wireCapacity_11 : decode cX0_wireCapacity 11 = .ok (.i2l, 1) := by decide +kernel
theorem dX0_wireCapacity_12 : decode cX0_wireCapacity 12 = .ok (.lmul, 1) := by decide +kernel
theorem dX0_wireCapacity_13 : decode cX0_wireCapacity 13 = .ok (.lreturn, 1) := by decide +kernel
set_option maxRecDepth 20000 in
theorem ggX0_wireDelay_X0_wireCapacity : GoodIn wsX0_wireDelay wsX0_wireCapacity := goodIn_r _ [9, 10, 2, 11, 12, 13, 14, 15, 16, 17, 18, 19, 20, 21, 22, 23, 24, 25, 26, 27, 28, 29, 30, 31, 32, 33, 34] (by decide +kernel) (by decide +kernel)
set_option maxRecDepth 20000 in
theorem gX0_wireDelay_X0_wireCapacity : GoodIn wsX0_wireDelay (wsV RX0 83 RX0 yX0_wireCapacity wsX0_wireCapacity) := goodIn_app (goodIn_of _ (by decide +kernel)) ggX0_wireDelay_X0_wireCapacity
theorem dX0_wireDelay_0 : decode cX0_wireDelay 0 = .ok (.aload_n 0, 1) := by decide +kernel
theorem dX0_wireDelay_1 : decode cX0_wireDelay 1 = .ok (.getfield 21, 3) := by decide +kernel
theorem dX0_wireDelay_4 : decode cX0_wireDelay 4 = .ok (.i2l, 1) := by decide +kernel
theorem dX0_wireDelay_5 : decode cX0_wireDelay 5 = .ok (.aload_n 1, 1) := by decide +kernel
theorem dX0_wireDelay_6 : decode cX0_wireDelay 6 = .ok (.getfield 100, 3) := by decide +kernel
theorem dX0_wireDelay_9 : decode cX0_wireDelay 9 = .ok (.iload_n 2, 1) := by decide +kernel
theorem dX0_wireDelay_10 : decode cX0_wireDelay 10 = .ok (.iaload, 1) := by decide +kernel
theorem dX0_wireDelay_11 : decode cX0_wireDelay 11 = .ok (.i2l, 1) := by decide +kernel
theorem dX0_wireDelay_12 : decode cX0_wireDelay 12 = .ok (.lmul, 1) := by decide +kernel
theorem dX0_wireDelay_13 : decode cX0_wireDelay 13 = .ok (.aload_n 0, 1) := by decide +kernel
theorem dX0_wireDelay_14 : decode cX0_wireDelay 14 = .ok (.aload_n 1, 1) := by decide +kernel
theorem dX0_wireDelay_15 : decode cX0_wireDelay 15 = .ok (.iload_n 2, 1) := by decide +kernel
theorem dX0_wireDelay_16 : decode cX0_wireDelay 16 = .ok (.invokevirtual 83, 3) := by decide +kernel
theorem dX0_wireDelay_19 : decode cX0_wireDelay 19 = .ok (.ldc2_w 103, 3) := by decide +kernel
theorem dX0_wireDelay_22 : decode cX0_wireDelay 22 = .ok (.aload_n 0, 1) := by decide +kernel
theorem dX0_wireDelay_23 : decode cX0_wireDelay 23 = .ok (.getfield 15, 3) := by decide +kernel
theorem dX0_wireDelay_26 : decode cX0_wireDelay 26 = .ok (.iload_n 2, 1) := by decide +kernel
theorem dX0_wireDelay_27 : decode cX0_wireDelay 27 = .ok (.laload, 1) := by decide +kernel
theorem dX0_wireDelay_28 : decode cX0_wireDelay 28 = .ok (.lmul, 1) := by decide +kernel
theorem dX0_wireDelay_29 : decode cX0_wireDelay 29 = .ok (.ladd, 1) := by decide +kernel
theorem dX0_wireDelay_30 : decode cX0_wireDelay 30 = .ok (.lmul, 1) := by decide +kernel
theorem dX0_wireDelay_31 : decode cX0_wireDelay 31 = .ok (.lreturn, 1) := by decide +kernel
theorem dX0_bufferDelay_0 : decode cX0_bufferDelay 0 = .ok (.aload_n 0, 1) := by decide +kernel
theorem dX0_bufferDelay_1 : decode cX0_bufferDelay 1 = .ok (.getfield 34, 3) := by decide +kernel
theorem dX0_bufferDelay_4 : decode cX0_bufferDelay 4 = .ok (.i2l, 1) := by decide +kernel
theorem dX0_bufferDelay_5 : decode cX0_bufferDelay 5 = .ok (.ldc2_w 103, 3) := by decide +kernel
theorem dX0_bufferDelay_8 : decode cX0_bufferDelay 8 = .ok (.aload_n 0, 1) := by decide +kernel
theorem dX0_bufferDelay_9 : decode cX0_bufferDelay 9 = .ok (.getfield 31, 3) := by decide +kernel
theorem dX0_bufferDelay_12 : decode cX0_bufferDelay 12 = .ok (.i2l, 1) := by decide +kernel
theorem dX0_bufferDelay_13 : decode cX0_bufferDelay 13 = .ok (.lmul, 1) := by decide +kernel
theorem dX0_bufferDelay_14 : decode cX0_bufferDelay 14 = .ok (.aload_n 0, 1) := by decide +kernel
theorem dX0_bufferDelay_15 : decode cX0_bufferDelay 15 = .ok (.getfield 9, 3) := by decide +kernel
theorem dX0_bufferDelay_18 : decode cX0_bufferDelay 18 = .ok (.iload_n 1, 1) := by decide +kernel
theorem dX0_bufferDelay_19 : decode cX0_bufferDelay 19 = .ok (.laload, 1) := by decide +kernel
theorem dX0_bufferDelay_20 : decode cX0_bufferDelay 20 = .ok (.lmul, 1) := by decide +kernel
theorem dX0_bufferDelay_21 : decode cX0_bufferDelay 21 = .ok (.ladd, 1) := by decide +kernel
theorem dX0_bufferDelay_22 : decode cX0_bufferDelay 22 = .ok (.lreturn, 1) := by decide +kernel
set_option maxRecDepth 20000 in
theorem ggX0_slackAbove_X0_wireDelay : GoodIn wsX0_slackAbove wsX0_wireDelay := goodIn_r _ [6, 7, 8, 9, 10, 11, 12, 13, 5, 14, 15, 16, 17, 18, 19, 20, 21, 22, 23, 24, 25, 26, 27, 28, 29, 30, 31, 32, 33, 34, 35, 36, 37, 38, 39] (by decide +kernel) (by decide +kernel)
set_option maxRecDepth 20000 in
theorem gX0_slackAbove_X0_wireDelay : GoodIn wsX0_slackAbove (wsV RX0 105 RX0 yX0_wireDelay wsX0_wireDelay) := goodIn_app (goodIn_of _ (by decide +kernel)) ggX0_slackAbove_X0_wireDelay
theorem dX0_slackAbove_0 : decode cX0_slackAbove 0 = .ok (.aload_n 0, 1) := by decide +kernel
theorem dX0_slackAbove_1 : decode cX0_slackAbove 1 = .ok (.getfield 18, 3) := by decide +kernel
theorem dX0_slackAbove_4 : decode cX0_slackAbove 4 = .ok (.iload_n 2, 1) := by decide +kernel
theorem dX0_slackAbove_5 : decode cX0_slackAbove 5 = .ok (.laload, 1) := by decide +kernel
theorem dX0_slackAbove_6 : decode cX0_slackAbove 6 = .ok (.aload_n 0, 1) := by decide +kernel
theorem dX0_slackAbove_7 : decode cX0_slackAbove 7 = .ok (.aload_n 1, 1) := by decide +kernel
theorem dX0_slackAbove_8 : decode cX0_slackAbove 8 = .ok (.iload_n 2, 1) := by decide +kernel
theorem dX0_slackAbove_9 : decode cX0_slackAbove 9 = .ok (.invokevirtual 105, 3) := by decide +kernel
theorem dX0_slackAbove_12 : decode cX0_slackAbove 12 = .ok (.lsub, 1) := by decide +kernel
theorem dX0_slackAbove_13 : decode cX0_slackAbove 13 = .ok (.lreturn, 1) := by decide +kernel
set_option maxRecDepth 20000 in
theorem ggX0_slackAtSource_X0_slackAbove : GoodIn wsX0_slackAtSource wsX0_slackAbove := goodIn_r _ [6, 7, 8, 9, 10, 5, 11, 12, 13, 14, 15, 16, 17, 18, 19, 20, 35, 36, 37, 38, 39, 40, 41, 42, 43, 44, 21, 22, 23, 24, 25, 26, 27, 28, 29, 30, 31, 32, 33, 34] (by decide +kernel) (by decide +kernel)
set_option maxRecDepth 20000 in
theorem gX0_slackAtSource_X0_slackAbove : GoodIn wsX0_slackAtSource (wsV RX0 87 RX0 yX0_slackAbove wsX0_slackAbove) := goodIn_app (goodIn_of _ (by decide +kernel)) ggX0_slackAtSource_X0_slackAbove
theorem dX0_slackAtSource_0 : decode cX0_slackAtSource 0 = .ok (.aload_n 0, 1) := by decide +kernel
theorem dX0_slackAtSource_1 : decode cX0_slackAtSource 1 = .ok (.aload_n 1, 1) := by decide +kernel
theorem dX0_slackAtSource_2 : decode cX0_slackAtSource 2 = .ok (.aload_n 1, 1) := by decide +kernel
theorem dX0_slackAtSource_3 : decode cX0_slackAtSource 3 = .ok (.getfield 53, 3) := by decide +kernel
theorem dX0_slackAtSource_6 : decode cX0_slackAtSource 6 = .ok (.iconst 1, 1) := by decide +kernel
theorem dX0_slackAtSource_7 : decode cX0_slackAtSource 7 = .ok (.isub, 1) := by decide +kernel
theorem dX0_slackAtSource_8 : decode cX0_slackAtSource 8 = .ok (.invokevirtual 87, 3) := by decide +kernel
theorem dX0_slackAtSource_11 : decode cX0_slackAtSource 11 = .ok (.lreturn, 1) := by decide +kernel
set_option maxRecDepth 20000 in
theorem ggX0_delayTo_X0_wireDelay : GoodIn wsX0_delayTo wsX0_wireDelay := goodIn_r _ [8, 9, 10, 11, 12, 13, 14, 15, 7, 16, 17, 45, 46, 47, 48, 49, 50, 51, 52, 53, 54, 31, 32, 33, 34, 35, 36, 37, 38, 39, 40, 41, 42, 43, 44] (by decide +kernel) (by decide +kernel)
set_option maxRecDepth 20000 in
theorem gX0_delayTo_X0_wireDelay : GoodIn wsX0_delayTo (wsV RX0 105 RX0 yX0_wireDelay wsX0_wireDelay) := goodIn_app (goodIn_of _ (by decide +kernel)) ggX0_delayTo_X0_wireDelay
set_option maxRecDepth 20000 in
theorem ggX0_delayTo_X2_bitOf : GoodIn wsX0_delayTo wsX2_bitOf := goodIn_r _ [22, 23, 31, 32, 33, 34, 35, 36, 37, 38, 39, 40, 41, 42, 43, 44] (by decide +kernel) (by decide +kernel)
set_option maxRecDepth 20000 in
theorem gX0_delayTo_X2_bitOf : GoodIn wsX0_delayTo (wsV RX0 56 RX2 yX2_bitOf wsX2_bitOf) := goodIn_app (goodIn_of _ (by decide +kernel)) ggX0_delayTo_X2_bitOf
set_option maxRecDepth 20000 in
theorem ggX0_delayTo_X0_bufferDelay : GoodIn wsX0_delayTo wsX0_bufferDelay := goodIn_r _ [27, 28, 11, 29, 30, 45, 46, 47, 48, 49, 50, 51, 52, 53, 54] (by decide +kernel) (by decide +kernel)
set_option maxRecDepth 20000 in
theorem gX0_delayTo_X0_bufferDelay : GoodIn wsX0_delayTo (wsV RX0 96 RX0 yX0_bufferDelay wsX0_bufferDelay) := goodIn_app (goodIn_of _ (by decide +kernel)) ggX0_delayTo_X0_bufferDelay
theorem dX0_delayTo_0 : decode cX0_delayTo 0 = .ok (.iload_n 2, 1) := by decide +kernel
theorem dX0_delayTo_1 : decode cX0_delayTo 1 = .ok (.istore 4, 2) := by decide +kernel
theorem dX0_delayTo_3 : decode cX0_delayTo 3 = .ok (.aload_n 0, 1) := by decide +kernel
theorem dX0_delayTo_4 : decode cX0_delayTo 4 = .ok (.aload_n 1, 1) := by decide +kernel
theorem dX0_delayTo_5 : decode cX0_delayTo 5 = .ok (.iload_n 2, 1) := by decide +kernel
theorem dX0_delayTo_6 : decode cX0_delayTo 6 = .ok (.invokevirtual 105, 3) := by decide +kernel
theorem dX0_delayTo_9 : decode cX0_delayTo 9 = .ok (.lstore 5, 2) := by decide +kernel
theorem dX0_delayTo_11 : decode cX0_delayTo 11 = .ok (.aload_n 1, 1) := by decide +kernel
theorem dX0_delayTo_12 : decode cX0_delayTo 12 = .ok (.getfield 48, 3) := by decide +kernel
theorem dX0_delayTo_15 : decode cX0_delayTo 15 = .ok (.istore 7, 2) := by decide +kernel
theorem dX0_delayTo_17 : decode cX0_delayTo 17 = .ok (.iload 7, 2) := by decide +kernel
theorem dX0_delayTo_19 : decode cX0_delayTo 19 = .ok (.aload_n 1, 1) := by decide +kernel
theorem dX0_delayTo_20 : decode cX0_delayTo 20 = .ok (.getfield 53, 3) := by decide +kernel
theorem dX0_delayTo_23 : decode cX0_delayTo 23 = .ok (.if_icmp .ge 63, 3) := by decide +kernel
theorem dX0_delayTo_26 : decode cX0_delayTo 26 = .ok (.aload_n 1, 1) := by decide +kernel
theorem dX0_delayTo_27 : decode cX0_delayTo 27 = .ok (.getfield 108, 3) := by decide +kernel
theorem dX0_delayTo_30 : decode cX0_delayTo 30 = .ok (.iload 4, 2) := by decide +kernel
theorem dX0_delayTo_32 : decode cX0_delayTo 32 = .ok (.iaload, 1) := by decide +kernel
theorem dX0_delayTo_33 : decode cX0_delayTo 33 = .ok (.iload 7, 2) := by decide +kernel
theorem dX0_delayTo_35 : decode cX0_delayTo 35 = .ok (.if_icmp .ne 45, 3) := by decide +kernel
theorem dX0_delayTo_38 : decode cX0_delayTo 38 = .ok (.iload 7, 2) := by decide +kernel
theorem dX0_delayTo_40 : decode cX0_delayTo 40 = .ok (.istore 4, 2) := by decide +kernel
theorem dX0_delayTo_42 : decode cX0_delayTo 42 = .ok (.lload 5, 2) := by decide +kernel
theorem dX0_delayTo_44 : decode cX0_delayTo 44 = .ok (.aload_n 0, 1) := by decide +kernel
theorem dX0_delayTo_45 : decode cX0_delayTo 45 = .ok (.aload_n 1, 1) := by decide +kernel
theorem dX0_delayTo_46 : decode cX0_delayTo 46 = .ok (.iload 7, 2) := by decide +kernel
theorem dX0_delayTo_48 : decode cX0_delayTo 48 = .ok (.invokevirtual 105, 3) := by decide +kernel
theorem dX0_delayTo_51 : decode cX0_delayTo 51 = .ok (.ladd, 1) := by decide +kernel
theorem dX0_delayTo_52 : decode cX0_delayTo 52 = .ok (.lstore 5, 2) := by decide +kernel
theorem dX0_delayTo_54 : decode cX0_delayTo 54 = .ok (.lload 5, 2) := by decide +kernel
theorem dX0_delayTo_56 : decode cX0_delayTo 56 = .ok (.iload_n 3, 1) := by decide +kernel
theorem dX0_delayTo_57 : decode cX0_delayTo 57 = .ok (.aload_n 1, 1) := by decide +kernel
theorem dX0_delayTo_58 : decode cX0_delayTo 58 = .ok (.iload 7, 2) := by decide +kernel
theorem dX0_delayTo_60 : decode cX0_delayTo 60 = .ok (.invokevirtual 56, 3) := by decide +kernel
theorem dX0_delayTo_63 : decode cX0_delayTo 63 = .ok (.iand, 1) := by decide +kernel
theorem dX0_delayTo_64 : decode cX0_delayTo 64 = .ok (.ifCond .eq 12, 3) := by decide +kernel
theorem dX0_delayTo_67 : decode cX0_delayTo 67 = .ok (.aload_n 0, 1) := by decide +kernel
theorem dX0_delayTo_68 : decode cX0_delayTo 68 = .ok (.iload 7, 2) := by decide +kernel
theorem dX0_delayTo_70 : decode cX0_delayTo 70 = .ok (.invokevirtual 96, 3) := by decide +kernel
theorem dX0_delayTo_73 : decode cX0_delayTo 73 = .ok (.goto 4, 3) := by decide +kernel
theorem dX0_delayTo_76 : decode cX0_delayTo 76 = .ok (.lconst 0, 1) := by decide +kernel
theorem dX0_delayTo_77 : decode cX0_delayTo 77 = .ok (.ladd, 1) := by decide +kernel
theorem dX0_delayTo_78 : decode cX0_delayTo 78 = .ok (.lstore 5, 2) := by decide +kernel
theorem dX0_delayTo_80 : decode cX0_delayTo 80 = .ok (.iinc 7 1, 3) := by decide +kernel
theorem dX0_delayTo_83 : decode cX0_delayTo 83 = .ok (.goto (-66), 3) := by decide +kernel
theorem dX0_delayTo_86 : decode cX0_delayTo 86 = .ok (.lload 5, 2) := by decide +kernel
theorem dX0_delayTo_88 : decode cX0_delayTo 88 = .ok (.lreturn, 1) := by decide +kernel
set_option maxRecDepth 20000 in
theorem ggX0_findBest_X0_weighSinks : GoodIn wsX0_findBest wsX0_weighSinks := goodIn_r _ [7, 2, 8, 9, 10, 11, 12, 13, 14, 77, 78, 79, 80, 81, 82, 83, 84, 85, 86, 87, 88, 89, 90, 67, 68, 69, 70, 71, 72, 73, 74, 75, 76, 91, 92, 93, 94, 95] (by decide +kernel) (by decide +kernel)
set_option maxRecDepth 20000 in
theorem gX0_findBest_X0_weighSinks : GoodIn wsX0_findBest (wsV RX0 44 RX0 yX0_weighSinks wsX0_weighSinks) := goodIn_app (goodIn_of _ (by decide +kernel)) ggX0_findBest_X0_weighSinks
set_option maxRecDepth 20000 in
theorem ggX0_findBest_X0_tryFrom : GoodIn wsX0_findBest wsX0_tryFrom := goodIn_r _ [17, 18, 19, 20, 21, 6, 22, 23, 24, 25, 26, 12, 27, 28, 29, 30, 31, 32, 33, 11, 34, 35, 36, 37, 38, 39, 40, 41, 42, 1, 43, 44, 45, 46, 47, 48, 49, 8, 50, 51, 52, 53, 9, 54, 55, 56, 57, 58, 59, 60, 15, 16, 61, 62, 63, 64, 65, 66, 77, 78, 79, 80, 81, 82, 83, 84, 85, 86, 87, 88, 89, 90, 67, 68, 69, 70, 71, 72, 73, 74, 75, 76] (by decide +kernel) (by decide +kernel)
set_option maxRecDepth 20000 in
theorem gX0_findBest_X0_tryFrom : GoodIn wsX0_findBest (va_wsS RX0 111 yX0_tryFrom wsX0_tryFrom) := goodIn_app (goodIn_of _ (by decide +kernel)) ggX0_findBest_X0_tryFrom
theorem dX0_findBest_0 : decode cX0_findBest 0 = .ok (.aload_n 0, 1) := by decide +kernel
theorem dX0_findBest_1 : decode cX0_findBest 1 = .ok (.iconst (-1), 1) := by decide +kernel
theorem dX0_findBest_2 : decode cX0_findBest 2 = .ok (.putfield 41, 3) := by decide +kernel
theorem dX0_findBest_5 : decode cX0_findBest 5 = .ok (.aload_n 0, 1) := by decide +kernel
theorem dX0_findBest_6 : decode cX0_findBest 6 = .ok (.aload_n 1, 1) := by decide +kernel
theorem dX0_findBest_7 : decode cX0_findBest 7 = .ok (.aload_n 2, 1) := by decide +kernel
theorem dX0_findBest_8 : decode cX0_findBest 8 = .ok (.invokevirtual 44, 3) := by decide +kernel
theorem dX0_findBest_11 : decode cX0_findBest 11 = .ok (.aload_n 0, 1) := by decide +kernel
theorem dX0_findBest_12 : decode cX0_findBest 12 = .ok (.aload_n 1, 1) := by decide +kernel
theorem dX0_findBest_13 : decode cX0_findBest 13 = .ok (.aload_n 1, 1) := by decide +kernel
theorem dX0_findBest_14 : decode cX0_findBest 14 = .ok (.getfield 48, 3) := by decide +kernel
theorem dX0_findBest_17 : decode cX0_findBest 17 = .ok (.iconst 0, 1) := by decide +kernel
theorem dX0_findBest_18 : decode cX0_findBest 18 = .ok (.invokestatic 111, 3) := by decide +kernel
theorem dX0_findBest_21 : decode cX0_findBest 21 = .ok (.return_, 1) := by decide +kernel
set_option maxRecDepth 20000 in
theorem ggX0_tryFrom_X0_slackAtSource : GoodIn wsX0_tryFrom wsX0_slackAtSource := goodIn_r _ [6, 1, 7, 8, 9, 5, 10, 11, 12, 13, 14, 15, 16, 17, 18, 19, 20, 21, 22, 23, 24, 58, 59, 60, 61, 62, 63, 64, 65, 66, 67, 68, 69, 70, 71, 72, 73, 74, 75, 76, 77, 78, 79, 80, 81] (by decide +kernel) (by decide +kernel)
set_option maxRecDepth 20000 in
theorem gX0_tryFrom_X0_slackAtSource : GoodIn wsX0_tryFrom (wsV RX0 115 RX0 yX0_slackAtSource wsX0_slackAtSource) := goodIn_app (goodIn_of _ (by decide +kernel)) ggX0_tryFrom_X0_slackAtSource
set_option maxRecDepth 20000 in
theorem ggX0_tryFrom_X0_keepIfBetter : GoodIn wsX0_tryFrom wsX0_keepIfBetter := goodIn_r _ [28, 29, 30, 72, 73, 74, 75, 76, 77, 78, 79, 80, 81] (by decide +kernel) (by decide +kernel)
set_option maxRecDepth 20000 in
theorem gX0_tryFrom_X0_keepIfBetter : GoodIn wsX0_tryFrom (wsV RX0 119 RX0 yX0_keepIfBetter wsX0_keepIfBetter) := goodIn_app (goodIn_of _ (by decide +kernel)) ggX0_tryFrom_X0_keepIfBetter
set_option maxRecDepth 20000 in
theorem ggX0_tryFrom_X0_weighJoin : GoodIn wsX0_tryFrom wsX0_weighJoin := goodIn_r _ [34, 35, 36, 37, 19, 11, 38, 39, 40, 41, 42, 43, 20, 21, 22, 5, 23, 24, 17, 7, 8, 9, 10, 12, 13, 14, 15, 16, 18, 44, 45, 46, 47, 48, 49, 58, 59, 60, 61, 62, 63, 64, 65, 66, 67, 68, 69, 70, 71, 72, 73, 74, 75, 76, 77, 78, 79, 80, 81] (by decide +kernel) (by decide +kernel)
set_option maxRecDepth 20000 in
theorem gX0_tryFrom_X0_weighJoin : GoodIn wsX0_tryFrom (wsV RX0 60 RX0 yX0_weighJoin wsX0_weighJoin) := goodIn_app (goodIn_of _ (by decide +kernel)) ggX0_tryFrom_X0_weighJoin
set_option maxRecDepth 20000 in
theorem ggX0_tryFrom_X0_tryFrom : GoodIn wsX0_tryFrom wsX0_tryFrom := goodIn_r _ [0, 1, 2, 3, 4, 5, 6, 7, 8, 9, 10, 11, 12, 13, 14, 15, 16, 17, 18, 19, 20, 21, 22, 23, 24, 25, 26, 27, 28, 29, 30, 31, 32, 33, 34, 35, 36, 37, 38, 39, 40, 41, 42, 43, 44, 45, 46, 47, 48, 49, 50, 51, 52, 53, 54, 55, 56, 57, 58, 59, 60, 61, 62, 63, 64, 65, 66, 67, 68, 69, 70, 71, 72, 73, 74, 75, 76, 77, 78, 79, 80, 81] (by decide +kernel) (by decide +kernel)
set_option maxRecDepth 20000 in
theorem gX0_tryFrom_X0_tryFrom : GoodIn wsX0_tryFrom (va_wsS RX0 111 yX0_tryFrom wsX0_tryFrom) := goodIn_app (goodIn_of _ (by decide +kernel)) ggX0_tryFrom_X0_tryFrom
set_option maxRecDepth 20000 in
theorem ggX0_tryFrom_X2_bitOf : GoodIn wsX0_tryFrom wsX2_bitOf := goodIn_r _ [56, 57, 58, 59, 60, 61, 62, 63, 64, 65, 66, 67, 68, 69, 70, 71] (by decide +kernel) (by decide +kernel)
set_option maxRecDepth 20000 in
theorem gX0_tryFrom_X2_bitOf : GoodIn wsX0_tryFrom (wsV RX0 56 RX2 yX2_bitOf wsX2_bitOf) := goodIn_app (goodIn_of _ (by decide +kernel)) ggX0_tryFrom_X2_bitOf
theorem dX0_tryFrom_0 : decode cX0_tryFrom 0 = .ok (.iload_n 2, 1) := by decide +kernel
theorem dX0_tryFrom_1 : decode cX0_tryFrom 1 = .ok (.aload_n 1, 1) := by decide +kernel
theorem dX0_tryFrom_2 : decode cX0_tryFrom 2 = .ok (.getfield 53, 3) := by decide +kernel
theorem dX0_tryFrom_5 : decode cX0_tryFrom 5 = .ok (.if_icmp .lt 14, 3) := by decide +kernel
theorem dX0_tryFrom_8 : decode cX0_tryFrom 8 = .ok (.aload_n 0, 1) := by decide +kernel
theorem dX0_tryFrom_9 : decode cX0_tryFrom 9 = .ok (.aload_n 0, 1) := by decide +kernel
theorem dX0_tryFrom_10 : decode cX0_tryFrom 10 = .ok (.aload_n 1, 1) := by decide +kernel
theorem dX0_tryFrom_11 : decode cX0_tryFrom 11 = .ok (.invokevirtual 115, 3) := by decide +kernel
theorem dX0_tryFrom_14 : decode cX0_tryFrom 14 = .ok (.iload_n 3, 1) := by decide +kernel
theorem dX0_tryFrom_15 : decode cX0_tryFrom 15 = .ok (.invokevirtual 119, 3) := by decide +kernel
theorem dX0_tryFrom_18 : decode cX0_tryFrom 18 = .ok (.return_, 1) := by decide +kernel
theorem dX0_tryFrom_19 : decode cX0_tryFrom 19 = .ok (.aload_n 0, 1) := by decide +kernel
theorem dX0_tryFrom_20 : decode cX0_tryFrom 20 = .ok (.aload_n 1, 1) := by decide +kernel
theorem dX0_tryFrom_21 : decode cX0_tryFrom 21 = .ok (.iload_n 2, 1) := by decide +kernel
theorem dX0_tryFrom_22 : decode cX0_tryFrom 22 = .ok (.iconst 0, 1) := by decide +kernel
theorem dX0_tryFrom_23 : decode cX0_tryFrom 23 = .ok (.invokevirtual 60, 3) := by decide +kernel
theorem dX0_tryFrom_26 : decode cX0_tryFrom 26 = .ok (.aload_n 0, 1) := by decide +kernel
theorem dX0_tryFrom_27 : decode cX0_tryFrom 27 = .ok (.aload_n 1, 1) := by decide +kernel
theorem dX0_tryFrom_28 : decode cX0_tryFrom 28 = .ok (.iload_n 2, 1) := by decide +kernel
theorem dX0_tryFrom_29 : decode cX0_tryFrom 29 = .ok (.iconst 1, 1) := by decide +kernel
theorem dX0_tryFrom_30 : decode cX0_tryFrom 30 = .ok (.iadd, 1) := by decide +kernel
theorem dX0_tryFrom_31 : decode cX0_tryFrom 31 = .ok (.iload_n 3, 1) := by decide +kernel
theorem dX0_tryFrom_32 : decode cX0_tryFrom 32 = .ok (.invokestatic 111, 3) := by decide +kernel
theorem dX0_tryFrom_35 : decode cX0_tryFrom 35 = .ok (.aload_n 0, 1) := by decide +kernel
theorem dX0_tryFrom_36 : decode cX0_tryFrom 36 = .ok (.aload_n 1, 1) := by decide +kernel
theorem dX0_tryFrom_37 : decode cX0_tryFrom 37 = .ok (.iload_n 2, 1) := by decide +kernel
theorem dX0_tryFrom_38 : decode cX0_tryFrom 38 = .ok (.iconst 1, 1) := by decide +kernel
theorem dX0_tryFrom_39 : decode cX0_tryFrom 39 = .ok (.invokevirtual 60, 3) := by decide +kernel
theorem dX0_tryFrom_42 : decode cX0_tryFrom 42 = .ok (.aload_n 0, 1) := by decide +kernel
theorem dX0_tryFrom_43 : decode cX0_tryFrom 43 = .ok (.aload_n 1, 1) := by decide +kernel
theorem dX0_tryFrom_44 : decode cX0_tryFrom 44 = .ok (.iload_n 2, 1) := by decide +kernel
theorem dX0_tryFrom_45 : decode cX0_tryFrom 45 = .ok (.iconst 1, 1) := by decide +kernel
theorem dX0_tryFrom_46 : decode cX0_tryFrom 46 = .ok (.iadd, 1) := by decide +kernel
theorem dX0_tryFrom_47 : decode cX0_tryFrom 47 = .ok (.iload_n 3, 1) := by decide +kernel
theorem dX0_tryFrom_48 : decode cX0_tryFrom 48 = .ok (.aload_n 1, 1) := by decide +kernel
theorem dX0_tryFrom_49 : decode cX0_tryFrom 49 = .ok (.iload_n 2, 1) := by decide +kernel
theorem dX0_tryFrom_50 : decode cX0_tryFrom 50 = .ok (.invokevirtual 56, 3) := by decide +kernel
theorem dX0_tryFrom_53 : decode cX0_tryFrom 53 = .ok (.ior, 1) := by decide +kernel
theorem dX0_tryFrom_54 : decode cX0_tryFrom 54 = .ok (.invokestatic 111, 3) := by decide +kernel
theorem dX0_tryFrom_57 : decode cX0_tryFrom 57 = .ok (.return_, 1) := by decide +kernel
theorem dX0_keepIfBetter_0 : decode cX0_keepIfBetter 0 = .ok (.aload_n 0, 1) := by decide +kernel
theorem dX0_keepIfBetter_1 : decode cX0_keepIfBetter 1 = .ok (.getfield 41, 3) := by decide +kernel
theorem dX0_keepIfBetter_4 : decode cX0_keepIfBetter 4 = .ok (.iconst (-1), 1) := by decide +kernel
theorem dX0_keepIfBetter_5 : decode cX0_keepIfBetter 5 = .ok (.if_icmp .eq 29, 3) := by decide +kernel
theorem dX0_keepIfBetter_8 : decode cX0_keepIfBetter 8 = .ok (.lload_n 1, 1) := by decide +kernel
theorem dX0_keepIfBetter_9 : decode cX0_keepIfBetter 9 = .ok (.aload_n 0, 1) := by decide +kernel
theorem dX0_keepIfBetter_10 : decode cX0_keepIfBetter 10 = .ok (.getfield 37, 3) := by decide +kernel
theorem dX0_keepIfBetter_13 : decode cX0_keepIfBetter 13 = .ok (.lcmp, 1) := by decide +kernel
theorem dX0_keepIfBetter_14 : decode cX0_keepIfBetter 14 = .ok (.ifCond .gt 20, 3) := by decide +kernel
theorem dX0_keepIfBetter_17 : decode cX0_keepIfBetter 17 = .ok (.lload_n 1, 1) := by decide +kernel
theorem dX0_keepIfBetter_18 : decode cX0_keepIfBetter 18 = .ok (.aload_n 0, 1) := by decide +kernel
theorem dX0_keepIfBetter_19 : decode cX0_keepIfBetter 19 = .ok (.getfield 37, 3) := by decide +kernel
theorem dX0_keepIfBetter_22 : decode cX0_keepIfBetter 22 = .ok (.lcmp, 1) := by decide +kernel
theorem dX0_keepIfBetter_23 : decode cX0_keepIfBetter 23 = .ok (.ifCond .ne 15, 3) := by decide +kernel
theorem dX0_keepIfBetter_26 : decode cX0_keepIfBetter 26 = .ok (.iload_n 3, 1) := by decide +kernel
theorem dX0_keepIfBetter_27 : decode cX0_keepIfBetter 27 = .ok (.aload_n 0, 1) := by decide +kernel
theorem dX0_keepIfBetter_28 : decode cX0_keepIfBetter 28 = .ok (.getfield 41, 3) := by decide +kernel
theorem dX0_keepIfBetter_31 : decode cX0_keepIfBetter 31 = .ok (.if_icmp .ge 7, 3) := by decide +kernel
theorem dX0_keepIfBetter_34 : decode cX0_keepIfBetter 34 = .ok (.iconst 1, 1) := by decide +kernel
theorem dX0_keepIfBetter_35 : decode cX0_keepIfBetter 35 = .ok (.goto 4, 3) := by decide +kernel
theorem dX0_keepIfBetter_38 : decode cX0_keepIfBetter 38 = .ok (.iconst 0, 1) := by decide +kernel
theorem dX0_keepIfBetter_39 : decode cX0_keepIfBetter 39 = .ok (.istore 4, 2) := by decide +kernel
theorem dX0_keepIfBetter_41 : decode cX0_keepIfBetter 41 = .ok (.iload 4, 2) := by decide +kernel
theorem dX0_keepIfBetter_43 : decode cX0_keepIfBetter 43 = .ok (.ifCond .eq 13, 3) := by decide +kernel
theorem dX0_keepIfBetter_46 : decode cX0_keepIfBetter 46 = .ok (.aload_n 0, 1) := by decide +kernel
theorem dX0_keepIfBetter_47 : decode cX0_keepIfBetter 47 = .ok (.lload_n 1, 1) := by decide +kernel
theorem dX0_keepIfBetter_48 : decode cX0_keepIfBetter 48 = .ok (.putfield 37, 3) := by decide +kernel
theorem dX0_keepIfBetter_51 : decode cX0_keepIfBetter 51 = .ok (.aload_n 0, 1) := by decide +kernel
theorem dX0_keepIfBetter_52 : decode cX0_keepIfBetter 52 = .ok (.iload_n 3, 1) := by decide +kernel
theorem dX0_keepIfBetter_53 : decode cX0_keepIfBetter 53 = .ok (.putfield 41, 3) := by decide +kernel
theorem dX0_keepIfBetter_56 : decode cX0_keepIfBetter 56 = .ok (.return_, 1) := by decide +kernel
theorem dX1_init_0 : decode cX1_init 0 = .ok (.aload_n 0, 1) := by decide +kernel
theorem dX1_init_1 : decode cX1_init 1 = .ok (.invokespecial 3, 3) := by decide +kernel
theorem dX1_init_4 : decode cX1_init 4 = .ok (.aload_n 0, 1) := by decide +kernel
theorem dX1_init_5 : decode cX1_init 5 = .ok (.bipush 10, 2) := by decide +kernel
theorem dX1_init_7 : decode cX1_init 7 = .ok (.newarray .int, 2) := by decide +kernel
theorem dX1_init_9 : decode cX1_init 9 = .ok (.putfield 9, 3) := by decide +kernel
theorem dX1_init_12 : decode cX1_init 12 = .ok (.aload_n 0, 1) := by decide +kernel
theorem dX1_init_13 : decode cX1_init 13 = .ok (.bipush 10, 2) := by decide +kernel
theorem dX1_init_15 : decode cX1_init 15 = .ok (.newarray .int, 2) := by decide +kernel
theorem dX1_init_17 : decode cX1_init 17 = .ok (.putfield 15, 3) := by decide +kernel
theorem dX1_init_20 : decode cX1_init 20 = .ok (.aload_n 0, 1) := by decide +kernel
theorem dX1_init_21 : decode cX1_init 21 = .ok (.bipush 10, 2) := by decide +kernel
theorem dX1_init_23 : decode cX1_init 23 = .ok (.newarray .int, 2) := by decide +kernel
theorem dX1_init_25 : decode cX1_init 25 = .ok (.putfield 18, 3) := by decide +kernel
theorem dX1_init_28 : decode cX1_init 28 = .ok (.aload_n 0, 1) := by decide +kernel
theorem dX1_init_29 : decode cX1_init 29 = .ok (.bipush 10, 2) := by decide +kernel
theorem dX1_init_31 : decode cX1_init 31 = .ok (.newarray .int, 2) := by decide +kernel
theorem dX1_init_33 : decode cX1_init 33 = .ok (.putfield 21, 3) := by decide +kernel
theorem dX1_init_36 : decode cX1_init 36 = .ok (.aload_n 0, 1) := by decide +kernel
theorem dX1_init_37 : decode cX1_init 37 = .ok (.iconst 0, 1) := by decide +kernel
theorem dX1_init_38 : decode cX1_init 38 = .ok (.putfield 24, 3) := by decide +kernel
theorem dX1_init_41 : decode cX1_init 41 = .ok (.return_, 1) := by decide +kernel
theorem dX1_append_0 : decode cX1_append 0 = .ok (.aload_n 0, 1) := by decide +kernel
theorem dX1_append_1 : decode cX1_append 1 = .ok (.getfield 24, 3) := by decide +kernel
theorem dX1_append_4 : decode cX1_append 4 = .ok (.istore 5, 2) := by decide +kernel
theorem dX1_append_6 : decode cX1_append 6 = .ok (.aload_n 0, 1) := by decide +kernel
theorem dX1_append_7 : decode cX1_append 7 = .ok (.getfield 9, 3) := by decide +kernel
theorem dX1_append_10 : decode cX1_append 10 = .ok (.iload 5, 2) := by decide +kernel
theorem dX1_append_12 : decode cX1_append 12 = .ok (.iload_n 1, 1) := by decide +kernel
theorem dX1_append_13 : decode cX1_append 13 = .ok (.iastore, 1) := by decide +kernel
theorem dX1_append_14 : decode cX1_append 14 = .ok (.aload_n 0, 1) := by decide +kernel
theorem dX1_append_15 : decode cX1_append 15 = .ok (.getfield 15, 3) := by decide +kernel
theorem dX1_append_18 : decode cX1_append 18 = .ok (.iload 5, 2) := by decide +kernel
theorem dX1_append_20 : decode cX1_append 20 = .ok (.iload_n 2, 1) := by decide +kernel
theorem dX1_append_21 : decode cX1_append 21 = .ok (.iastore, 1) := by decide +kernel
theorem dX1_append_22 : decode cX1_append 22 = .ok (.aload_n 0, 1) := by decide +kernel
theorem dX1_append_23 : decode cX1_append 23 = .ok (.getfield 18, 3) := by decide +kernel
theorem dX1_append_26 : decode cX1_append 26 = .ok (.iload 5, 2) := by decide +kernel
theorem dX1_append_28 : decode cX1_append 28 = .ok (.iload_n 3, 1) := by decide +kernel
theorem dX1_append_29 : decode cX1_append 29 = .ok (.iastore, 1) := by decide +kernel
theorem dX1_append_30 : decode cX1_append 30 = .ok (.aload_n 0, 1) := by decide +kernel
theorem dX1_append_31 : decode cX1_append 31 = .ok (.getfield 21, 3) := by decide +kernel
theorem dX1_append_34 : decode cX1_append 34 = .ok (.iload 5, 2) := by decide +kernel
theorem dX1_append_36 : decode cX1_append 36 = .ok (.iload 4, 2) := by decide +kernel
theorem dX1_append_38 : decode cX1_append 38 = .ok (.iastore, 1) := by decide +kernel
theorem dX1_append_39 : decode cX1_append 39 = .ok (.aload_n 0, 1) := by decide +kernel
theorem dX1_append_40 : decode cX1_append 40 = .ok (.iload 5, 2) := by decide +kernel
theorem dX1_append_42 : decode cX1_append 42 = .ok (.iconst 1, 1) := by decide +kernel
theorem dX1_append_43 : decode cX1_append 43 = .ok (.iadd, 1) := by decide +kernel
theorem dX1_append_44 : decode cX1_append 44 = .ok (.putfield 24, 3) := by decide +kernel
theorem dX1_append_47 : decode cX1_append 47 = .ok (.iload 5, 2) := by decide +kernel
theorem dX1_append_49 : decode cX1_append 49 = .ok (.ireturn, 1) := by decide +kernel
theorem dX1_isBefore_0 : decode cX1_isBefore 0 = .ok (.iload_n 3, 1) := by decide +kernel
theorem dX1_isBefore_1 : decode cX1_isBefore 1 = .ok (.ifCond .eq 12, 3) := by decide +kernel
theorem dX1_isBefore_4 : decode cX1_isBefore 4 = .ok (.aload_n 0, 1) := by decide +kernel
theorem dX1_isBefore_5 : decode cX1_isBefore 5 = .ok (.getfield 9, 3) := by decide +kernel
theorem dX1_isBefore_8 : decode cX1_isBefore 8 = .ok (.iload_n 1, 1) := by decide +kernel
theorem dX1_isBefore_9 : decode cX1_isBefore 9 = .ok (.iaload, 1) := by decide +kernel
theorem dX1_isBefore_10 : decode cX1_isBefore 10 = .ok (.goto 9, 3) := by decide +kernel
theorem dX1_isBefore_13 : decode cX1_isBefore 13 = .ok (.aload_n 0, 1) := by decide +kernel
theorem dX1_isBefore_14 : decode cX1_isBefore 14 = .ok (.getfield 15, 3) := by decide +kernel
theorem dX1_isBefore_17 : decode cX1_isBefore 17 = .ok (.iload_n 1, 1) := by decide +kernel
theorem dX1_isBefore_18 : decode cX1_isBefore 18 = .ok (.iaload, 1) := by decide +kernel
theorem dX1_isBefore_19 : decode cX1_isBefore 19 = .ok (.istore 4, 2) := by decide +kernel
theorem dX1_isBefore_21 : decode cX1_isBefore 21 = .ok (.iload_n 3, 1) := by decide +kernel
theorem dX1_isBefore_22 : decode cX1_isBefore 22 = .ok (.ifCond .eq 12, 3) := by decide +kernel
theorem dX1_isBefore_25 : decode cX1_isBefore 25 = .ok (.aload_n 0, 1) := by decide +kernel
theorem dX1_isBefore_26 : decode cX1_isBefore 26 = .ok (.getfield 9, 3) := by decide +kernel
theorem dX1_isBefore_29 : decode cX1_isBefore 29 = .ok (.iload_n 2, 1) := by decide +kernel
theorem dX1_isBefore_30 : decode cX1_isBefore 30 = .ok (.iaload, 1) := by decide +kernel
theorem dX1_isBefore_31 : decode cX1_isBefore 31 = .ok (.goto 9, 3) := by decide +kernel
theorem dX1_isBefore_34 : decode cX1_isBefore 34 = .ok (.aload_n 0, 1) := by decide +kernel
theorem dX1_isBefore_35 : decode cX1_isBefore 35 = .ok (.getfield 15, 3) := by decide +kernel
theorem dX1_isBefore_38 : decode cX1_isBefore 38 = .ok (.iload_n 2, 1) := by decide +kernel
theorem dX1_isBefore_39 : decode cX1_isBefore 39 = .ok (.iaload, 1) := by decide +kernel
theorem dX1_isBefore_40 : decode cX1_isBefore 40 = .ok (.istore 5, 2) := by decide +kernel
theorem dX1_isBefore_42 : decode cX1_isBefore 42 = .ok (.iload 4, 2) := by decide +kernel
theorem dX1_isBefore_44 : decode cX1_isBefore 44 = .ok (.iload 5, 2) := by decide +kernel
theorem dX1_isBefore_46 : decode cX1_isBefore 46 = .ok (.if_icmp .eq 16, 3) := by decide +kernel
theorem dX1_isBefore_49 : decode cX1_isBefore 49 = .ok (.iload 4, 2) := by decide +kernel
theorem dX1_isBefore_51 : decode cX1_isBefore 51 = .ok (.iload 5, 2) := by decide +kernel
theorem dX1_isBefore_53 : decode cX1_isBefore 53 = .ok (.if_icmp .ge 7, 3) := by decide +kernel
theorem dX1_isBefore_56 : decode cX1_isBefore 56 = .ok (.iconst 1, 1) := by decide +kernel
theorem dX1_isBefore_57 : decode cX1_isBefore 57 = .ok (.goto 4, 3) := by decide +kernel
theorem dX1_isBefore_60 : decode cX1_isBefore 60 = .ok (.iconst 0, 1) := by decide +kernel
theorem dX1_isBefore_61 : decode cX1_isBefore 61 = .ok (.ireturn, 1) := by decide +kernel
theorem dX1_isBefore_62 : decode cX1_isBefore 62 = .ok (.iload_n 3, 1) := by decide +kernel
theorem dX1_isBefore_63 : decode cX1_isBefore 63 = .ok (.ifCond .eq 12, 3) := by decide +kernel
theorem dX1_isBefore_66 : decode cX1_isBefore 66 = .ok (.aload_n 0, 1) := by decide +kernel
theorem dX1_isBefore_67 : decode cX1_isBefore 67 = .ok (.getfield 15, 3) := by decide +kernel
theorem dX1_isBefore_70 : decode cX1_isBefore 70 = .ok (.iload_n 1, 1) := by decide +kernel
theorem dX1_isBefore_71 : decode cX1_isBefore 71 = .ok (.iaload, 1) := by decide +kernel
theorem dX1_isBefore_72 : decode cX1_isBefore 72 = .ok (.goto 9, 3) := by decide +kernel
theorem dX1_isBefore_75 : decode cX1_isBefore 75 = .ok (.aload_n 0, 1) := by decide +kernel
theorem dX1_isBefore_76 : decode cX1_isBefore 76 = .ok (.getfield 9, 3) := by decide +kernel
theorem dX1_isBefore_79 : decode cX1_isBefore 79 = .ok (.iload_n 1, 1) := by decide +kernel
theorem dX1_isBefore_80 : decode cX1_isBefore 80 = .ok (.iaload, 1) := by decide +kernel
theorem dX1_isBefore_81 : decode cX1_isBefore 81 = .ok (.istore 6, 2) := by decide +kernel
theorem dX1_isBefore_83 : decode cX1_isBefore 83 = .ok (.iload_n 3, 1) := by decide +kernel
theorem dX1_isBefore_84 : decode cX1_isBefore 84 = .ok (.ifCond .eq 12, 3) := by decide +kernel
theorem dX1_isBefore_87 : decode cX1_isBefore 87 = .ok (.aload_n 0, 1) := by decide +kernel
theorem dX1_isBefore_88 : decode cX1_isBefore 88 = .ok (.getfield 15, 3) := by decide +kernel
theorem dX1_isBefore_91 : decode cX1_isBefore 91 = .ok (.iload_n 2, 1) := by decide +kernel
theorem dX1_isBefore_92 : decode cX1_isBefore 92 = .ok (.iaload, 1) := by decide +kernel
theorem dX1_isBefore_93 : decode cX1_isBefore 93 = .ok (.goto 9, 3) := by decide +kernel
theorem dX1_isBefore_96 : decode cX1_isBefore 96 = .ok (.aload_n 0, 1) := by decide +kernel
theorem dX1_isBefore_97 : decode cX1_isBefore 97 = .ok (.getfield 9, 3) := by decide +kernel
theorem dX1_isBefore_100 : decode cX1_isBefore 100 = .ok (.iload_n 2, 1) := by decide +kernel
theorem dX1_isBefore_101 : decode cX1_isBefore 101 = .ok (.iaload, 1) := by decide +kernel
theorem dX1_isBefore_102 : decode cX1_isBefore 102 = .ok (.istore 7, 2) := by decide +kernel
theorem dX1_isBefore_104 : decode cX1_isBefore 104 = .ok (.iload 6, 2) := by decide +kernel
theorem dX1_isBefore_106 : decode cX1_isBefore 106 = .ok (.iload 7, 2) := by decide +kernel
theorem dX1_isBefore_108 : decode cX1_isBefore 108 = .ok (.if_icmp .eq 18, 3) := by decide +kernel
theorem dX1_isBefore_111 : decode cX1_isBefore 111 = .ok (.iload 6, 2) := by decide +kernel
theorem dX1_isBefore_113 : decode cX1_isBefore 113 = .ok (.iload 7, 2) := by decide +kernel
theorem dX1_isBefore_115 : decode cX1_isBefore 115 = .ok (.if_icmp .ge 7, 3) := by decide +kernel
theorem dX1_isBefore_118 : decode cX1_isBefore 118 = .ok (.iconst 1, 1) := by decide +kernel
theorem dX1_isBefore_119 : decode cX1_isBefore 119 = .ok (.goto 17, 3) := by decide +kernel
theorem dX1_isBefore_122 : decode cX1_isBefore 122 = .ok (.iconst 0, 1) := by decide +kernel
theorem dX1_isBefore_123 : decode cX1_isBefore 123 = .ok (.goto 13, 3) := by decide +kernel
theorem dX1_isBefore_126 : decode cX1_isBefore 126 = .ok (.iload_n 1, 1) := by decide +kernel
theorem dX1_isBefore_127 : decode cX1_isBefore 127 = .ok (.iload_n 2, 1) := by decide +kernel
theorem dX1_isBefore_128 : decode cX1_isBefore 128 = .ok (.if_icmp .ge 7, 3) := by decide +kernel
theorem dX1_isBefore_131 : decode cX1_isBefore 131 = .ok (.iconst 1, 1) := by decide +kernel
theorem dX1_isBefore_132 : decode cX1_isBefore 132 = .ok (.goto 4, 3) := by decide +kernel
theorem dX1_isBefore_135 : decode cX1_isBefore 135 = .ok (.iconst 0, 1) := by decide +kernel
theorem dX1_isBefore_136 : decode cX1_isBefore 136 = .ok (.ireturn, 1) := by decide +kernel
theorem dX2_init_0 : decode cX2_init 0 = .ok (.aload_n 0, 1) := by decide +kernel
theorem dX2_init_1 : decode cX2_init 1 = .ok (.invokespecial 3, 3) := by decide +kernel
theorem dX2_init_4 : decode cX2_init 4 = .ok (.aload_n 0, 1) := by decide +kernel
theorem dX2_init_5 : decode cX2_init 5 = .ok (.bipush 19, 2) := by decide +kernel
theorem dX2_init_7 : decode cX2_init 7 = .ok (.newarray .int, 2) := by decide +kernel
theorem dX2_init_9 : decode cX2_init 9 = .ok (.putfield 9, 3) := by decide +kernel
theorem dX2_init_12 : decode cX2_init 12 = .ok (.aload_n 0, 1) := by decide +kernel
theorem dX2_init_13 : decode cX2_init 13 = .ok (.bipush 19, 2) := by decide +kernel
theorem dX2_init_15 : decode cX2_init 15 = .ok (.newarray .int, 2) := by decide +kernel
theorem dX2_init_17 : decode cX2_init 17 = .ok (.putfield 15, 3) := by decide +kernel
theorem dX2_init_20 : decode cX2_init 20 = .ok (.aload_n 0, 1) := by decide +kernel
theorem dX2_init_21 : decode cX2_init 21 = .ok (.bipush 19, 2) := by decide +kernel
theorem dX2_init_23 : decode cX2_init 23 = .ok (.newarray .int, 2) := by decide +kernel
theorem dX2_init_25 : decode cX2_init 25 = .ok (.putfield 18, 3) := by decide +kernel
theorem dX2_init_28 : decode cX2_init 28 = .ok (.aload_n 0, 1) := by decide +kernel
theorem dX2_init_29 : decode cX2_init 29 = .ok (.bipush 19, 2) := by decide +kernel
theorem dX2_init_31 : decode cX2_init 31 = .ok (.newarray .int, 2) := by decide +kernel
theorem dX2_init_33 : decode cX2_init 33 = .ok (.putfield 21, 3) := by decide +kernel
theorem dX2_init_36 : decode cX2_init 36 = .ok (.aload_n 0, 1) := by decide +kernel
theorem dX2_init_37 : decode cX2_init 37 = .ok (.bipush 19, 2) := by decide +kernel
theorem dX2_init_39 : decode cX2_init 39 = .ok (.newarray .int, 2) := by decide +kernel
theorem dX2_init_41 : decode cX2_init 41 = .ok (.putfield 24, 3) := by decide +kernel
theorem dX2_init_44 : decode cX2_init 44 = .ok (.aload_n 0, 1) := by decide +kernel
theorem dX2_init_45 : decode cX2_init 45 = .ok (.bipush 19, 2) := by decide +kernel
theorem dX2_init_47 : decode cX2_init 47 = .ok (.newarray .int, 2) := by decide +kernel
theorem dX2_init_49 : decode cX2_init 49 = .ok (.putfield 27, 3) := by decide +kernel
theorem dX2_init_52 : decode cX2_init 52 = .ok (.aload_n 0, 1) := by decide +kernel
theorem dX2_init_53 : decode cX2_init 53 = .ok (.bipush 19, 2) := by decide +kernel
theorem dX2_init_55 : decode cX2_init 55 = .ok (.newarray .int, 2) := by decide +kernel
theorem dX2_init_57 : decode cX2_init 57 = .ok (.putfield 30, 3) := by decide +kernel
theorem dX2_init_60 : decode cX2_init 60 = .ok (.aload_n 0, 1) := by decide +kernel
theorem dX2_init_61 : decode cX2_init 61 = .ok (.bipush 19, 2) := by decide +kernel
theorem dX2_init_63 : decode cX2_init 63 = .ok (.newarray .int, 2) := by decide +kernel
theorem dX2_init_65 : decode cX2_init 65 = .ok (.putfield 33, 3) := by decide +kernel
theorem dX2_init_68 : decode cX2_init 68 = .ok (.aload_n 0, 1) := by decide +kernel
theorem dX2_init_69 : decode cX2_init 69 = .ok (.bipush 19, 2) := by decide +kernel
theorem dX2_init_71 : decode cX2_init 71 = .ok (.newarray .int, 2) := by decide +kernel
theorem dX2_init_73 : decode cX2_init 73 = .ok (.putfield 36, 3) := by decide +kernel
theorem dX2_init_76 : decode cX2_init 76 = .ok (.aload_n 0, 1) := by decide +kernel
theorem dX2_init_77 : decode cX2_init 77 = .ok (.bipush 19, 2) := by decide +kernel
theorem dX2_init_79 : decode cX2_init 79 = .ok (.newarray .int, 2) := by decide +kernel
theorem dX2_init_81 : decode cX2_init 81 = .ok (.putfield 39, 3) := by decide +kernel
theorem dX2_init_84 : decode cX2_init 84 = .ok (.aload_n 0, 1) := by decide +kernel
theorem dX2_init_85 : decode cX2_init 85 = .ok (.bipush 19, 2) := by decide +kernel
theorem dX2_init_87 : decode cX2_init 87 = .ok (.newarray .int, 2) := by decide +kernel
theorem dX2_init_89 : decode cX2_init 89 = .ok (.putfield 42, 3) := by decide +kernel
theorem dX2_init_92 : decode cX2_init 92 = .ok (.aload_n 0, 1) := by decide +kernel
theorem dX2_init_93 : decode cX2_init 93 = .ok (.bipush 10, 2) := by decide +kernel
theorem dX2_init_95 : decode cX2_init 95 = .ok (.newarray .int, 2) := by decide +kernel
theorem dX2_init_97 : decode cX2_init 97 = .ok (.putfield 45, 3) := by decide +kernel
theorem dX2_init_100 : decode cX2_init 100 = .ok (.aload_n 0, 1) := by decide +kernel
theorem dX2_init_101 : decode cX2_init 101 = .ok (.iconst 0, 1) := by decide +kernel
theorem dX2_init_102 : decode cX2_init 102 = .ok (.putfield 48, 3) := by decide +kernel
theorem dX2_init_105 : decode cX2_init 105 = .ok (.aload_n 0, 1) := by decide +kernel
theorem dX2_init_106 : decode cX2_init 106 = .ok (.iconst 0, 1) := by decide +kernel
theorem dX2_init_107 : decode cX2_init 107 = .ok (.putfield 52, 3) := by decide +kernel
theorem dX2_init_110 : decode cX2_init 110 = .ok (.return_, 1) := by decide +kernel
set_option maxRecDepth 20000 in
theorem ggX2_plantSinks_X3_placeU : GoodIn wsX2_plantSinks wsX3_placeU := goodIn_r _ [16] (by decide +kernel) (by decide +kernel)
set_option maxRecDepth 20000 in
theorem gX2_plantSinks_X3_placeU_n66 : GoodIn wsX2_plantSinks (wsX3_placeU) := ggX2_plantSinks_X3_placeU
set_option maxRecDepth 20000 in
theorem ggX2_plantSinks_X3_placeV : GoodIn wsX2_plantSinks wsX3_placeV := goodIn_r _ [18] (by decide +kernel) (by decide +kernel)
set_option maxRecDepth 20000 in
theorem gX2_plantSinks_X3_placeV_n70 : GoodIn wsX2_plantSinks (wsX3_placeV) := ggX2_plantSinks_X3_placeV
theorem dX2_plantSinks_0 : decode cX2_plantSinks 0 = .ok (.aload_n 0, 1) := by decide +kernel
theorem dX2_plantSinks_1 : decode cX2_plantSinks 1 = .ok (.aload_n 1, 1) := by decide +kernel
theorem dX2_plantSinks_2 : decode cX2_plantSinks 2 = .ok (.getfield 55, 3) := by decide +kernel
theorem dX2_plantSinks_5 : decode cX2_plantSinks 5 = .ok (.putfield 48, 3) := by decide +kernel
theorem dX2_plantSinks_8 : decode cX2_plantSinks 8 = .ok (.aload_n 0, 1) := by decide +kernel
theorem dX2_plantSinks_9 : decode cX2_plantSinks 9 = .ok (.aload_n 0, 1) := by decide +kernel
theorem dX2_plantSinks_10 : decode cX2_plantSinks 10 = .ok (.getfield 48, 3) := by decide +kernel
theorem dX2_plantSinks_13 : decode cX2_plantSinks 13 = .ok (.putfield 52, 3) := by decide +kernel
theorem dX2_plantSinks_16 : decode cX2_plantSinks 16 = .ok (.iconst 0, 1) := by decide +kernel
theorem dX2_plantSinks_17 : decode cX2_plantSinks 17 = .ok (.istore_n 2, 1) := by decide +kernel
theorem dX2_plantSinks_18 : decode cX2_plantSinks 18 = .ok (.iload_n 2, 1) := by decide +kernel
theorem dX2_plantSinks_19 : decode cX2_plantSinks 19 = .ok (.aload_n 0, 1) := by decide +kernel
theorem dX2_plantSinks_20 : decode cX2_plantSinks 20 = .ok (.getfield 48, 3) := by decide +kernel
theorem dX2_plantSinks_23 : decode cX2_plantSinks 23 = .ok (.if_icmp .ge 100, 3) := by decide +kernel
theorem dX2_plantSinks_26 : decode cX2_plantSinks 26 = .ok (.aload_n 1, 1) := by decide +kernel
theorem dX2_plantSinks_27 : decode cX2_plantSinks 27 = .ok (.getfield 60, 3) := by decide +kernel
theorem dX2_plantSinks_30 : decode cX2_plantSinks 30 = .ok (.iload_n 2, 1) := by decide +kernel
theorem dX2_plantSinks_31 : decode cX2_plantSinks 31 = .ok (.iaload, 1) := by decide +kernel
theorem dX2_plantSinks_32 : decode cX2_plantSinks 32 = .ok (.aload_n 1, 1) := by decide +kernel
theorem dX2_plantSinks_33 : decode cX2_plantSinks 33 = .ok (.getfield 63, 3) := by decide +kernel
theorem dX2_plantSinks_36 : decode cX2_plantSinks 36 = .ok (.iload_n 2, 1) := by decide +kernel
theorem dX2_plantSinks_37 : decode cX2_plantSinks 37 = .ok (.iaload, 1) := by decide +kernel
theorem dX2_plantSinks_38 : decode cX2_plantSinks 38 = .ok (.invokestatic 66, 3) := by decide +kernel
theorem dX2_plantSinks_41 : decode cX2_plantSinks 41 = .ok (.istore_n 3, 1) := by decide +kernel
theorem dX2_plantSinks_42 : decode cX2_plantSinks 42 = .ok (.aload_n 1, 1) := by decide +kernel
theorem dX2_plantSinks_43 : decode cX2_plantSinks 43 = .ok (.getfield 60, 3) := by decide +kernel
theorem dX2_plantSinks_46 : decode cX2_plantSinks 46 = .ok (.iload_n 2, 1) := by decide +kernel
theorem dX2_plantSinks_47 : decode cX2_plantSinks 47 = .ok (.iaload, 1) := by decide +kernel
theorem dX2_plantSinks_48 : decode cX2_plantSinks 48 = .ok (.aload_n 1, 1) := by decide +kernel
theorem dX2_plantSinks_49 : decode cX2_plantSinks 49 = .ok (.getfield 63, 3) := by decide +kernel
theorem dX2_plantSinks_52 : decode cX2_plantSinks 52 = .ok (.iload_n 2, 1) := by decide +kernel
theorem dX2_plantSinks_53 : decode cX2_plantSinks 53 = .ok (.iaload, 1) := by decide +kernel
theorem dX2_plantSinks_54 : decode cX2_plantSinks 54 = .ok (.invokestatic 70, 3) := by decide +kernel
theorem dX2_plantSinks_57 : decode cX2_plantSinks 57 = .ok (.istore 4, 2) := by decide +kernel
theorem dX2_plantSinks_59 : decode cX2_plantSinks 59 = .ok (.aload_n 0, 1) := by decide +kernel
theorem dX2_plantSinks_60 : decode cX2_plantSinks 60 = .ok (.getfield 9, 3) := by decide +kernel
theorem dX2_plantSinks_63 : decode cX2_plantSinks 63 = .ok (.iload_n 2, 1) := by decide +kernel
theorem dX2_plantSinks_64 : decode cX2_plantSinks 64 = .ok (.iconst (-1), 1) := by decide +kernel
theorem dX2_plantSinks_65 : decode cX2_plantSinks 65 = .ok (.iastore, 1) := by decide +kernel
theorem dX2_plantSinks_66 : decode cX2_plantSinks 66 = .ok (.aload_n 0, 1) := by decide +kernel
theorem dX2_plantSinks_67 : decode cX2_plantSinks 67 = .ok (.getfield 15, 3) := by decide +kernel
theorem dX2_plantSinks_70 : decode cX2_plantSinks 70 = .ok (.iload_n 2, 1) := by decide +kernel
theorem dX2_plantSinks_71 : decode cX2_plantSinks 71 = .ok (.iconst (-1), 1) := by decide +kernel
theorem dX2_plantSinks_72 : decode cX2_plantSinks 72 = .ok (.iastore, 1) := by decide +kernel
theorem dX2_plantSinks_73 : decode cX2_plantSinks 73 = .ok (.aload_n 0, 1) := by decide +kernel
theorem dX2_plantSinks_74 : decode cX2_plantSinks 74 = .ok (.getfield 18, 3) := by decide +kernel
theorem dX2_plantSinks_77 : decode cX2_plantSinks 77 = .ok (.iload_n 2, 1) := by decide +kernel
theorem dX2_plantSinks_78 : decode cX2_plantSinks 78 = .ok (.iconst (-1), 1) := by decide +kernel
theorem dX2_plantSinks_79 : decode cX2_plantSinks 79 = .ok (.iastore, 1) := by decide +kernel
theorem dX2_plantSinks_80 : decode cX2_plantSinks 80 = .ok (.aload_n 0, 1) := by decide +kernel
theorem dX2_plantSinks_81 : decode cX2_plantSinks 81 = .ok (.getfield 21, 3) := by decide +kernel
theorem dX2_plantSinks_84 : decode cX2_plantSinks 84 = .ok (.iload_n 2, 1) := by decide +kernel
theorem dX2_plantSinks_85 : decode cX2_plantSinks 85 = .ok (.iload_n 3, 1) := by decide +kernel
theorem dX2_plantSinks_86 : decode cX2_plantSinks 86 = .ok (.iastore, 1) := by decide +kernel
theorem dX2_plantSinks_87 : decode cX2_plantSinks 87 = .ok (.aload_n 0, 1) := by decide +kernel
theorem dX2_plantSinks_88 : decode cX2_plantSinks 88 = .ok (.getfield 24, 3) := by decide +kernel
theorem dX2_plantSinks_91 : decode cX2_plantSinks 91 = .ok (.iload_n 2, 1) := by decide +kernel
theorem dX2_plantSinks_92 : decode cX2_plantSinks 92 = .ok (.iload_n 3, 1) := by decide +kernel
theorem dX2_plantSinks_93 : decode cX2_plantSinks 93 = .ok (.iastore, 1) := by decide +kernel
theorem dX2_plantSinks_94 : decode cX2_plantSinks 94 = .ok (.aload_n 0, 1) := by decide +kernel
theorem dX2_plantSinks_95 : decode cX2_plantSinks 95 = .ok (.getfield 27, 3) := by decide +kernel
theorem dX2_plantSinks_98 : decode cX2_plantSinks 98 = .ok (.iload_n 2, 1) := by decide +kernel
theorem dX2_plantSinks_99 : decode cX2_plantSinks 99 = .ok (.iload 4, 2) := by decide +kernel
theorem dX2_plantSinks_101 : decode cX2_plantSinks 101 = .ok (.iastore, 1) := by decide +kernel
theorem dX2_plantSinks_102 : decode cX2_plantSinks 102 = .ok (.aload_n 0, 1) := by decide +kernel
theorem dX2_plantSinks_103 : decode cX2_plantSinks 103 = .ok (.getfield 30, 3) := by decide +kernel
theorem dX2_plantSinks_106 : decode cX2_plantSinks 106 = .ok (.iload_n 2, 1) := by decide +kernel
theorem dX2_plantSinks_107 : decode cX2_plantSinks 107 = .ok (.iload 4, 2) := by decide +kernel
theorem dX2_plantSinks_109 : decode cX2_plantSinks 109 = .ok (.iastore, 1) := by decide +kernel
theorem dX2_plantSinks_110 : decode cX2_plantSinks 110 = .ok (.aload_n 0, 1) := by decide +kernel
theorem dX2_plantSinks_111 : decode cX2_plantSinks 111 = .ok (.getfield 33, 3) := by decide +kernel
theorem dX2_plantSinks_114 : decode cX2_plantSinks 114 = .ok (.iload_n 2, 1) := by decide +kernel
theorem dX2_plantSinks_115 : decode cX2_plantSinks 115 = .ok (.iconst 0, 1) := by decide +kernel
theorem dX2_plantSinks_116 : decode cX2_plantSinks 116 = .ok (.iastore, 1) := by decide +kernel
theorem dX2_plantSinks_117 : decode cX2_plantSinks 117 = .ok (.iinc 2 1, 3) := by decide +kernel
theorem dX2_plantSinks_120 : decode cX2_plantSinks 120 = .ok (.goto (-102), 3) := by decide +kernel
theorem dX2_plantSinks_123 : decode cX2_plantSinks 123 = .ok (.return_, 1) := by decide +kernel
set_option maxRecDepth 20000 in
theorem ggX2_joinByDistance_X2_joinNearestPair : GoodIn wsX2_joinByDistance wsX2_joinNearestPair := goodIn_r _ [6, 7, 8, 9, 10, 11, 12, 5, 13, 14, 15, 16, 17, 18, 19, 20, 21, 22, 23, 24, 25, 26, 27, 28, 29, 30, 31, 32, 33, 34, 35, 36, 37, 38, 39, 40, 41, 42, 43, 44, 45, 46, 47, 48, 49, 50, 51, 52, 53] (by decide +kernel) (by decide +kernel)
set_option maxRecDepth 20000 in
theorem gX2_joinByDistance_X2_joinNearestPair : GoodIn wsX2_joinByDistance (wsV RX2 73 RX2 yX2_joinNearestPair wsX2_joinNearestPair) := goodIn_app (goodIn_of _ (by decide +kernel)) ggX2_joinByDistance_X2_joinNearestPair
theorem dX2_joinByDistance_0 : decode cX2_joinByDistance 0 = .ok (.iconst 1, 1) := by decide +kernel
theorem dX2_joinByDistance_1 : decode cX2_joinByDistance 1 = .ok (.istore_n 1, 1) := by decide +kernel
theorem dX2_joinByDistance_2 : decode cX2_joinByDistance 2 = .ok (.iload_n 1, 1) := by decide +kernel
theorem dX2_joinByDistance_3 : decode cX2_joinByDistance 3 = .ok (.aload_n 0, 1) := by decide +kernel
theorem dX2_joinByDistance_4 : decode cX2_joinByDistance 4 = .ok (.getfield 48, 3) := by decide +kernel
theorem dX2_joinByDistance_7 : decode cX2_joinByDistance 7 = .ok (.if_icmp .ge 13, 3) := by decide +kernel
theorem dX2_joinByDistance_10 : decode cX2_joinByDistance 10 = .ok (.aload_n 0, 1) := by decide +kernel
theorem dX2_joinByDistance_11 : decode cX2_joinByDistance 11 = .ok (.invokevirtual 73, 3) := by decide +kernel
theorem dX2_joinByDistance_14 : decode cX2_joinByDistance 14 = .ok (.iinc 1 1, 3) := by decide +kernel
theorem dX2_joinByDistance_17 : decode cX2_joinByDistance 17 = .ok (.goto (-15), 3) := by decide +kernel
theorem dX2_joinByDistance_20 : decode cX2_joinByDistance 20 = .ok (.return_, 1) := by decide +kernel
set_option maxRecDepth 20000 in
theorem ggX2_joinNearestPair_X2_distanceOf : GoodIn wsX2_joinNearestPair wsX2_distanceOf := goodIn_r _ [8, 9, 10, 11, 12, 13, 14, 15, 16, 17, 18, 7, 19, 35, 36, 37, 38, 39, 40, 41, 42, 43, 44, 45, 46, 47, 48] (by decide +kernel) (by decide +kernel)
set_option maxRecDepth 20000 in
theorem gX2_joinNearestPair_X2_distanceOf : GoodIn wsX2_joinNearestPair (wsV RX2 77 RX2 yX2_distanceOf wsX2_distanceOf) := goodIn_app (goodIn_of _ (by decide +kernel)) ggX2_joinNearestPair_X2_distanceOf
set_option maxRecDepth 20000 in
theorem ggX2_joinNearestPair_X2_joinTwo : GoodIn wsX2_joinNearestPair wsX2_joinTwo := goodIn_r _ [23, 2, 24, 25, 3, 9, 26, 13, 14, 15, 16, 10, 27, 28, 29, 11, 12, 30, 4, 5, 6, 7, 8, 17, 18, 19, 31, 32, 33, 34, 35, 36, 37, 38, 39, 40, 41, 42, 43, 44, 45, 46, 47, 48] (by decide +kernel) (by decide +kernel)
set_option maxRecDepth 20000 in
theorem gX2_joinNearestPair_X2_joinTwo : GoodIn wsX2_joinNearestPair (wsV RX2 80 RX2 yX2_joinTwo wsX2_joinTwo) := goodIn_app (goodIn_of _ (by decide +kernel)) ggX2_joinNearestPair_X2_joinTwo
theorem dX2_joinNearestPair_0 : decode cX2_joinNearestPair 0 = .ok (.iconst (-1), 1) := by decide +kernel
theorem dX2_joinNearestPair_1 : decode cX2_joinNearestPair 1 = .ok (.istore_n 1, 1) := by decide +kernel
theorem dX2_joinNearestPair_2 : decode cX2_joinNearestPair 2 = .ok (.iconst (-1), 1) := by decide +kernel
theorem dX2_joinNearestPair_3 : decode cX2_joinNearestPair 3 = .ok (.istore_n 2, 1) := by decide +kernel
theorem dX2_joinNearestPair_4 : decode cX2_joinNearestPair 4 = .ok (.ldc 76, 2) := by decide +kernel
theorem dX2_joinNearestPair_6 : decode cX2_joinNearestPair 6 = .ok (.istore_n 3, 1) := by decide +kernel
theorem dX2_joinNearestPair_7 : decode cX2_joinNearestPair 7 = .ok (.iconst 0, 1) := by decide +kernel
theorem dX2_joinNearestPair_8 : decode cX2_joinNearestPair 8 = .ok (.istore 4, 2) := by decide +kernel
theorem dX2_joinNearestPair_10 : decode cX2_joinNearestPair 10 = .ok (.iload 4, 2) := by decide +kernel
theorem dX2_joinNearestPair_12 : decode cX2_joinNearestPair 12 = .ok (.aload_n 0, 1) := by decide +kernel
theorem dX2_joinNearestPair_13 : decode cX2_joinNearestPair 13 = .ok (.getfield 52, 3) := by decide +kernel
theorem dX2_joinNearestPair_16 : decode cX2_joinNearestPair 16 = .ok (.if_icmp .ge 94, 3) := by decide +kernel
theorem dX2_joinNearestPair_19 : decode cX2_joinNearestPair 19 = .ok (.iload 4, 2) := by decide +kernel
theorem dX2_joinNearestPair_21 : decode cX2_joinNearestPair 21 = .ok (.iconst 1, 1) := by decide +kernel
theorem dX2_joinNearestPair_22 : decode cX2_joinNearestPair 22 = .ok (.iadd, 1) := by decide +kernel
theorem dX2_joinNearestPair_23 : decode cX2_joinNearestPair 23 = .ok (.istore 5, 2) := by decide +kernel
theorem dX2_joinNearestPair_25 : decode cX2_joinNearestPair 25 = .ok (.iload 5, 2) := by decide +kernel
theorem dX2_joinNearestPair_27 : decode cX2_joinNearestPair 27 = .ok (.aload_n 0, 1) := by decide +kernel
theorem dX2_joinNearestPair_28 : decode cX2_joinNearestPair 28 = .ok (.getfield 52, 3) := by decide +kernel
theorem dX2_joinNearestPair_31 : decode cX2_joinNearestPair 31 = .ok (.if_icmp .ge 73, 3) := by decide +kernel
theorem dX2_joinNearestPair_34 : decode cX2_joinNearestPair 34 = .ok (.aload_n 0, 1) := by decide +kernel
theorem dX2_joinNearestPair_35 : decode cX2_joinNearestPair 35 = .ok (.getfield 18, 3) := by decide +kernel
theorem dX2_joinNearestPair_38 : decode cX2_joinNearestPair 38 = .ok (.iload 4, 2) := by decide +kernel
theorem dX2_joinNearestPair_40 : decode cX2_joinNearestPair 40 = .ok (.iaload, 1) := by decide +kernel
theorem dX2_joinNearestPair_41 : decode cX2_joinNearestPair 41 = .ok (.iconst (-1), 1) := by decide +kernel
theorem dX2_joinNearestPair_42 : decode cX2_joinNearestPair 42 = .ok (.if_icmp .ne 18, 3) := by decide +kernel
theorem dX2_joinNearestPair_45 : decode cX2_joinNearestPair 45 = .ok (.aload_n 0, 1) := by decide +kernel
theorem dX2_joinNearestPair_46 : decode cX2_joinNearestPair 46 = .ok (.getfield 18, 3) := by decide +kernel
theorem dX2_joinNearestPair_49 : decode cX2_joinNearestPair 49 = .ok (.iload 5, 2) := by decide +kernel
theorem dX2_joinNearestPair_51 : decode cX2_joinNearestPair 51 = .ok (.iaload, 1) := by decide +kernel
theorem dX2_joinNearestPair_52 : decode cX2_joinNearestPair 52 = .ok (.iconst (-1), 1) := by decide +kernel
theorem dX2_joinNearestPair_53 : decode cX2_joinNearestPair 53 = .ok (.if_icmp .ne 7, 3) := by decide +kernel
theorem dX2_joinNearestPair_56 : decode cX2_joinNearestPair 56 = .ok (.iconst 1, 1) := by decide +kernel
theorem dX2_joinNearestPair_57 : decode cX2_joinNearestPair 57 = .ok (.goto 4, 3) := by decide +kernel
theorem dX2_joinNearestPair_60 : decode cX2_joinNearestPair 60 = .ok (.iconst 0, 1) := by decide +kernel
theorem dX2_joinNearestPair_61 : decode cX2_joinNearestPair 61 = .ok (.istore 6, 2) := by decide +kernel
theorem dX2_joinNearestPair_63 : decode cX2_joinNearestPair 63 = .ok (.iload 6, 2) := by decide +kernel
theorem dX2_joinNearestPair_65 : decode cX2_joinNearestPair 65 = .ok (.ifCond .eq 14, 3) := by decide +kernel
theorem dX2_joinNearestPair_68 : decode cX2_joinNearestPair 68 = .ok (.aload_n 0, 1) := by decide +kernel
theorem dX2_joinNearestPair_69 : decode cX2_joinNearestPair 69 = .ok (.iload 4, 2) := by decide +kernel
theorem dX2_joinNearestPair_71 : decode cX2_joinNearestPair 71 = .ok (.iload 5, 2) := by decide +kernel
theorem dX2_joinNearestPair_73 : decode cX2_joinNearestPair 73 = .ok (.invokevirtual 77, 3) := by decide +kernel
theorem dX2_joinNearestPair_76 : decode cX2_joinNearestPair 76 = .ok (.goto 5, 3) := by decide +kernel
theorem dX2_joinNearestPair_79 : decode cX2_joinNearestPair 79 = .ok (.ldc 76, 2) := by decide +kernel
theorem dX2_joinNearestPair_81 : decode cX2_joinNearestPair 81 = .ok (.istore 7, 2) := by decide +kernel
theorem dX2_joinNearestPair_83 : decode cX2_joinNearestPair 83 = .ok (.iload 7, 2) := by decide +kernel
theorem dX2_joinNearestPair_85 : decode cX2_joinNearestPair 85 = .ok (.iload_n 3, 1) := by decide +kernel
theorem dX2_joinNearestPair_86 : decode cX2_joinNearestPair 86 = .ok (.if_icmp .ge 12, 3) := by decide +kernel
theorem dX2_joinNearestPair_89 : decode cX2_joinNearestPair 89 = .ok (.iload 7, 2) := by decide +kernel
theorem dX2_joinNearestPair_91 : decode cX2_joinNearestPair 91 = .ok (.istore_n 3, 1) := by decide +kernel
theorem dX2_joinNearestPair_92 : decode cX2_joinNearestPair 92 = .ok (.iload 4, 2) := by decide +kernel
theorem dX2_joinNearestPair_94 : decode cX2_joinNearestPair 94 = .ok (.istore_n 1, 1) := by decide +kernel
theorem dX2_joinNearestPair_95 : decode cX2_joinNearestPair 95 = .ok (.iload 5, 2) := by decide +kernel
theorem dX2_joinNearestPair_97 : decode cX2_joinNearestPair 97 = .ok (.istore_n 2, 1) := by decide +kernel
theorem dX2_joinNearestPair_98 : decode cX2_joinNearestPair 98 = .ok (.iinc 5 1, 3) := by decide +kernel
theorem dX2_joinNearestPair_101 : decode cX2_joinNearestPair 101 = .ok (.goto (-76), 3) := by decide +kernel
theorem dX2_joinNearestPair_104 : decode cX2_joinNearestPair 104 = .ok (.iinc 4 1, 3) := by decide +kernel
theorem dX2_joinNearestPair_107 : decode cX2_joinNearestPair 107 = .ok (.goto (-97), 3) := by decide +kernel
theorem dX2_joinNearestPair_110 : decode cX2_joinNearestPair 110 = .ok (.iload_n 1, 1) := by decide +kernel
theorem dX2_joinNearestPair_111 : decode cX2_joinNearestPair 111 = .ok (.iconst (-1), 1) := by decide +kernel
theorem dX2_joinNearestPair_112 : decode cX2_joinNearestPair 112 = .ok (.if_icmp .eq 10, 3) := by decide +kernel
theorem dX2_joinNearestPair_115 : decode cX2_joinNearestPair 115 = .ok (.aload_n 0, 1) := by decide +kernel
theorem dX2_joinNearestPair_116 : decode cX2_joinNearestPair 116 = .ok (.iload_n 1, 1) := by decide +kernel
theorem dX2_joinNearestPair_117 : decode cX2_joinNearestPair 117 = .ok (.iload_n 2, 1) := by decide +kernel
theorem dX2_joinNearestPair_118 : decode cX2_joinNearestPair 118 = .ok (.invokevirtual 80, 3) := by decide +kernel
theorem dX2_joinNearestPair_121 : decode cX2_joinNearestPair 121 = .ok (.pop, 1) := by decide +kernel
theorem dX2_joinNearestPair_122 : decode cX2_joinNearestPair 122 = .ok (.return_, 1) := by decide +kernel
set_option maxRecDepth 20000 in
theorem ggX2_joinByCutting_X2_joinRow : GoodIn wsX2_joinByCutting wsX2_joinRow := goodIn_r _ [6, 2, 7, 8, 9, 5, 10, 11, 12, 13, 14, 15, 16, 17, 3, 4, 18, 19, 20, 21, 22, 23, 24, 25, 26, 27, 28, 29, 30, 31, 32, 33, 34, 35, 36, 37, 38, 39, 40, 41, 42, 43, 44, 45, 46, 47, 48, 49, 50, 51, 52, 53, 54, 55, 56, 57, 58, 59, 60, 61, 62, 63, 64, 65, 66, 67, 68] (by decide +kernel) (by decide +kernel)
set_option maxRecDepth 20000 in
theorem gX2_joinByCutting_X2_joinRow : GoodIn wsX2_joinByCutting (va_wsS RX2 83 yX2_joinRow wsX2_joinRow) := goodIn_app (goodIn_of _ (by decide +kernel)) ggX2_joinByCutting_X2_joinRow
theorem dX2_joinByCutting_0 : decode cX2_joinByCutting 0 = .ok (.iconst 0, 1) := by decide +kernel
theorem dX2_joinByCutting_1 : decode cX2_joinByCutting 1 = .ok (.istore_n 2, 1) := by decide +kernel
theorem dX2_joinByCutting_2 : decode cX2_joinByCutting 2 = .ok (.iload_n 2, 1) := by decide +kernel
theorem dX2_joinByCutting_3 : decode cX2_joinByCutting 3 = .ok (.aload_n 0, 1) := by decide +kernel
theorem dX2_joinByCutting_4 : decode cX2_joinByCutting 4 = .ok (.getfield 48, 3) := by decide +kernel
theorem dX2_joinByCutting_7 : decode cX2_joinByCutting 7 = .ok (.if_icmp .ge 16, 3) := by decide +kernel
theorem dX2_joinByCutting_10 : decode cX2_joinByCutting 10 = .ok (.aload_n 0, 1) := by decide +kernel
theorem dX2_joinByCutting_11 : decode cX2_joinByCutting 11 = .ok (.getfield 45, 3) := by decide +kernel
theorem dX2_joinByCutting_14 : decode cX2_joinByCutting 14 = .ok (.iload_n 2, 1) := by decide +kernel
theorem dX2_joinByCutting_15 : decode cX2_joinByCutting 15 = .ok (.iload_n 2, 1) := by decide +kernel
theorem dX2_joinByCutting_16 : decode cX2_joinByCutting 16 = .ok (.iastore, 1) := by decide +kernel
theorem dX2_joinByCutting_17 : decode cX2_joinByCutting 17 = .ok (.iinc 2 1, 3) := by decide +kernel
theorem dX2_joinByCutting_20 : decode cX2_joinByCutting 20 = .ok (.goto (-18), 3) := by decide +kernel
theorem dX2_joinByCutting_23 : decode cX2_joinByCutting 23 = .ok (.aload_n 0, 1) := by decide +kernel
theorem dX2_joinByCutting_24 : decode cX2_joinByCutting 24 = .ok (.aload_n 1, 1) := by decide +kernel
theorem dX2_joinByCutting_25 : decode cX2_joinByCutting 25 = .ok (.iconst 0, 1) := by decide +kernel
theorem dX2_joinByCutting_26 : decode cX2_joinByCutting 26 = .ok (.aload_n 0, 1) := by decide +kernel
theorem dX2_joinByCutting_27 : decode cX2_joinByCutting 27 = .ok (.getfield 48, 3) := by decide +kernel
theorem dX2_joinByCutting_30 : decode cX2_joinByCutting 30 = .ok (.iconst 0, 1) := by decide +kernel
theorem dX2_joinByCutting_31 : decode cX2_joinByCutting 31 = .ok (.invokestatic 83, 3) := by decide +kernel
theorem dX2_joinByCutting_34 : decode cX2_joinByCutting 34 = .ok (.pop, 1) := by decide +kernel
theorem dX2_joinByCutting_35 : decode cX2_joinByCutting 35 = .ok (.return_, 1) := by decide +kernel
set_option maxRecDepth 20000 in
theorem ggX2_joinRow_X2_orderRow : GoodIn wsX2_joinRow wsX2_orderRow := goodIn_r _ [6, 1, 7, 8, 9, 10, 11, 12, 13, 48, 49, 50, 51, 52, 53, 54, 55, 56, 57, 58, 59, 60, 61, 62, 63, 64, 65, 66] (by decide +kernel) (by decide +kernel)
set_option maxRecDepth 20000 in
theorem gX2_joinRow_X2_orderRow : GoodIn wsX2_joinRow (wsV RX2 87 RX2 yX2_orderRow wsX2_orderRow) := goodIn_app (goodIn_of _ (by decide +kernel)) ggX2_joinRow_X2_orderRow
set_option maxRecDepth 20000 in
theorem ggX2_joinRow_X2_joinRow : GoodIn wsX2_joinRow wsX2_joinRow := goodIn_r _ [0, 1, 2, 3, 4, 5, 6, 7, 8, 9, 10, 11, 12, 13, 14, 15, 16, 17, 18, 19, 20, 21, 22, 23, 24, 25, 26, 27, 28, 29, 30, 31, 32, 33, 34, 35, 36, 37, 38, 39, 40, 41, 42, 43, 44, 45, 46, 47, 48, 49, 50, 51, 52, 53, 54, 55, 56, 57, 58, 59, 60, 61, 62, 63, 64, 65, 66] (by decide +kernel) (by decide +kernel)
set_option maxRecDepth 20000 in
theorem gX2_joinRow_X2_joinRow : GoodIn wsX2_joinRow (va_wsS RX2 83 yX2_joinRow wsX2_joinRow) := goodIn_app (goodIn_of _ (by decide +kernel)) ggX2_joinRow_X2_joinRow
set_option maxRecDepth 20000 in
theorem ggX2_joinRow_X2_joinTwo : GoodIn wsX2_joinRow wsX2_joinTwo := goodIn_r _ [19, 20, 21, 22, 23, 24, 25, 26, 27, 28, 29, 30, 31, 32, 33, 34, 35, 36, 37, 38, 39, 5, 40, 41, 42, 43, 44, 45, 46, 47, 48, 49, 50, 51, 52, 53, 54, 55, 56, 57, 58, 59, 60, 61] (by decide +kernel) (by decide +kernel)
set_option maxRecDepth 20000 in
theorem gX2_joinRow_X2_joinTwo : GoodIn wsX2_joinRow (wsV RX2 80 RX2 yX2_joinTwo wsX2_joinTwo) := goodIn_app (goodIn_of _ (by decide +kernel)) ggX2_joinRow_X2_joinTwo
theorem dX2_joinRow_0 : decode cX2_joinRow 0 = .ok (.iload_n 3, 1) := by decide +kernel
theorem dX2_joinRow_1 : decode cX2_joinRow 1 = .ok (.iload_n 2, 1) := by decide +kernel
theorem dX2_joinRow_2 : decode cX2_joinRow 2 = .ok (.isub, 1) := by decide +kernel
theorem dX2_joinRow_3 : decode cX2_joinRow 3 = .ok (.iconst 2, 1) := by decide +kernel
theorem dX2_joinRow_4 : decode cX2_joinRow 4 = .ok (.if_icmp .lt 10, 3) := by decide +kernel
theorem dX2_joinRow_7 : decode cX2_joinRow 7 = .ok (.iload 4, 2) := by decide +kernel
theorem dX2_joinRow_9 : decode cX2_joinRow 9 = .ok (.bipush 10, 2) := by decide +kernel
theorem dX2_joinRow_11 : decode cX2_joinRow 11 = .ok (.if_icmp .lt 10, 3) := by decide +kernel
theorem dX2_joinRow_14 : decode cX2_joinRow 14 = .ok (.aload_n 0, 1) := by decide +kernel
theorem dX2_joinRow_15 : decode cX2_joinRow 15 = .ok (.getfield 45, 3) := by decide +kernel
theorem dX2_joinRow_18 : decode cX2_joinRow 18 = .ok (.iload_n 2, 1) := by decide +kernel
theorem dX2_joinRow_19 : decode cX2_joinRow 19 = .ok (.iaload, 1) := by decide +kernel
theorem dX2_joinRow_20 : decode cX2_joinRow 20 = .ok (.ireturn, 1) := by decide +kernel
theorem dX2_joinRow_21 : decode cX2_joinRow 21 = .ok (.aload_n 0, 1) := by decide +kernel
theorem dX2_joinRow_22 : decode cX2_joinRow 22 = .ok (.aload_n 1, 1) := by decide +kernel
theorem dX2_joinRow_23 : decode cX2_joinRow 23 = .ok (.iload_n 2, 1) := by decide +kernel
theorem dX2_joinRow_24 : decode cX2_joinRow 24 = .ok (.iload_n 3, 1) := by decide +kernel
theorem dX2_joinRow_25 : decode cX2_joinRow 25 = .ok (.iload 4, 2) := by decide +kernel
theorem dX2_joinRow_27 : decode cX2_joinRow 27 = .ok (.iconst 2, 1) := by decide +kernel
theorem dX2_joinRow_28 : decode cX2_joinRow 28 = .ok (.irem, 1) := by decide +kernel
theorem dX2_joinRow_29 : decode cX2_joinRow 29 = .ok (.ifCond .ne 7, 3) := by decide +kernel
theorem dX2_joinRow_32 : decode cX2_joinRow 32 = .ok (.iconst 1, 1) := by decide +kernel
theorem dX2_joinRow_33 : decode cX2_joinRow 33 = .ok (.goto 4, 3) := by decide +kernel
theorem dX2_joinRow_36 : decode cX2_joinRow 36 = .ok (.iconst 0, 1) := by decide +kernel
theorem dX2_joinRow_37 : decode cX2_joinRow 37 = .ok (.invokevirtual 87, 3) := by decide +kernel
theorem dX2_joinRow_40 : decode cX2_joinRow 40 = .ok (.iload_n 2, 1) := by decide +kernel
theorem dX2_joinRow_41 : decode cX2_joinRow 41 = .ok (.iload_n 3, 1) := by decide +kernel
theorem dX2_joinRow_42 : decode cX2_joinRow 42 = .ok (.iload_n 2, 1) := by decide +kernel
theorem dX2_joinRow_43 : decode cX2_joinRow 43 = .ok (.isub, 1) := by decide +kernel
theorem dX2_joinRow_44 : decode cX2_joinRow 44 = .ok (.iconst 1, 1) := by decide +kernel
theorem dX2_joinRow_45 : decode cX2_joinRow 45 = .ok (.iadd, 1) := by decide +kernel
theorem dX2_joinRow_46 : decode cX2_joinRow 46 = .ok (.iconst 2, 1) := by decide +kernel
theorem dX2_joinRow_47 : decode cX2_joinRow 47 = .ok (.idiv, 1) := by decide +kernel
theorem dX2_joinRow_48 : decode cX2_joinRow 48 = .ok (.iadd, 1) := by decide +kernel
theorem dX2_joinRow_49 : decode cX2_joinRow 49 = .ok (.istore 5, 2) := by decide +kernel
theorem dX2_joinRow_51 : decode cX2_joinRow 51 = .ok (.aload_n 0, 1) := by decide +kernel
theorem dX2_joinRow_52 : decode cX2_joinRow 52 = .ok (.aload_n 1, 1) := by decide +kernel
theorem dX2_joinRow_53 : decode cX2_joinRow 53 = .ok (.iload_n 2, 1) := by decide +kernel
theorem dX2_joinRow_54 : decode cX2_joinRow 54 = .ok (.iload 5, 2) := by decide +kernel
theorem dX2_joinRow_56 : decode cX2_joinRow 56 = .ok (.iload 4, 2) := by decide +kernel
theorem dX2_joinRow_58 : decode cX2_joinRow 58 = .ok (.iconst 1, 1) := by decide +kernel
theorem dX2_joinRow_59 : decode cX2_joinRow 59 = .ok (.iadd, 1) := by decide +kernel
theorem dX2_joinRow_60 : decode cX2_joinRow 60 = .ok (.invokestatic 83, 3) := by decide +kernel
theorem dX2_joinRow_63 : decode cX2_joinRow 63 = .ok (.istore 6, 2) := by decide +kernel
theorem dX2_joinRow_65 : decode cX2_joinRow 65 = .ok (.aload_n 0, 1) := by decide +kernel
theorem dX2_joinRow_66 : decode cX2_joinRow 66 = .ok (.aload_n 1, 1) := by decide +kernel
theorem dX2_joinRow_67 : decode cX2_joinRow 67 = .ok (.iload 5, 2) := by decide +kernel
theorem dX2_joinRow_69 : decode cX2_joinRow 69 = .ok (.iload_n 3, 1) := by decide +kernel
theorem dX2_joinRow_70 : decode cX2_joinRow 70 = .ok (.iload 4, 2) := by decide +kernel
theorem dX2_joinRow_72 : decode cX2_joinRow 72 = .ok (.iconst 1, 1) := by decide +kernel
theorem dX2_joinRow_73 : decode cX2_joinRow 73 = .ok (.iadd, 1) := by decide +kernel
theorem dX2_joinRow_74 : decode cX2_joinRow 74 = .ok (.invokestatic 83, 3) := by decide +kernel
theorem dX2_joinRow_77 : decode cX2_joinRow 77 = .ok (.istore 7, 2) := by decide +kernel
theorem dX2_joinRow_79 : decode cX2_joinRow 79 = .ok (.aload_n 0, 1) := by decide +kernel
theorem dX2_joinRow_80 : decode cX2_joinRow 80 = .ok (.iload 6, 2) := by decide +kernel
theorem dX2_joinRow_82 : decode cX2_joinRow 82 = .ok (.iload 7, 2) := by decide +kernel
theorem dX2_joinRow_84 : decode cX2_joinRow 84 = .ok (.invokevirtual 80, 3) := by decide +kernel
theorem dX2_joinRow_87 : decode cX2_joinRow 87 = .ok (.ireturn, 1) := by decide +kernel
set_option maxRecDepth 20000 in
theorem ggX2_orderRow_X1_isBefore : GoodIn wsX2_orderRow wsX1_isBefore := goodIn_r _ [6, 7, 8, 23, 24, 25, 26, 27] (by decide +kernel) (by decide +kernel)
set_option maxRecDepth 20000 in
theorem gX2_orderRow_X1_isBefore : GoodIn wsX2_orderRow (wsV RX2 91 RX1 yX1_isBefore wsX1_isBefore) := goodIn_app (goodIn_of _ (by decide +kernel)) ggX2_orderRow_X1_isBefore
theorem dX2_orderRow_0 : decode cX2_orderRow 0 = .ok (.iload_n 2, 1) := by decide +kernel
theorem dX2_orderRow_1 : decode cX2_orderRow 1 = .ok (.iconst 1, 1) := by decide +kernel
theorem dX2_orderRow_2 : decode cX2_orderRow 2 = .ok (.iadd, 1) := by decide +kernel
theorem dX2_orderRow_3 : decode cX2_orderRow 3 = .ok (.istore 5, 2) := by decide +kernel
theorem dX2_orderRow_5 : decode cX2_orderRow 5 = .ok (.iload 5, 2) := by decide +kernel
theorem dX2_orderRow_7 : decode cX2_orderRow 7 = .ok (.iload_n 3, 1) := by decide +kernel
theorem dX2_orderRow_8 : decode cX2_orderRow 8 = .ok (.if_icmp .ge 79, 3) := by decide +kernel
theorem dX2_orderRow_11 : decode cX2_orderRow 11 = .ok (.aload_n 0, 1) := by decide +kernel
theorem dX2_orderRow_12 : decode cX2_orderRow 12 = .ok (.getfield 45, 3) := by decide +kernel
theorem dX2_orderRow_15 : decode cX2_orderRow 15 = .ok (.iload 5, 2) := by decide +kernel
theorem dX2_orderRow_17 : decode cX2_orderRow 17 = .ok (.iaload, 1) := by decide +kernel
theorem dX2_orderRow_18 : decode cX2_orderRow 18 = .ok (.istore 6, 2) := by decide +kernel
theorem dX2_orderRow_20 : decode cX2_orderRow 20 = .ok (.iload 5, 2) := by decide +kernel
theorem dX2_orderRow_22 : decode cX2_orderRow 22 = .ok (.istore 7, 2) := by decide +kernel
theorem dX2_orderRow_24 : decode cX2_orderRow 24 = .ok (.iload 7, 2) := by decide +kernel
theorem dX2_orderRow_26 : decode cX2_orderRow 26 = .ok (.iload_n 2, 1) := by decide +kernel
theorem dX2_orderRow_27 : decode cX2_orderRow 27 = .ok (.if_icmp .le 45, 3) := by decide +kernel
theorem dX2_orderRow_30 : decode cX2_orderRow 30 = .ok (.aload_n 1, 1) := by decide +kernel
theorem dX2_orderRow_31 : decode cX2_orderRow 31 = .ok (.iload 6, 2) := by decide +kernel
theorem dX2_orderRow_33 : decode cX2_orderRow 33 = .ok (.aload_n 0, 1) := by decide +kernel
theorem dX2_orderRow_34 : decode cX2_orderRow 34 = .ok (.getfield 45, 3) := by decide +kernel
theorem dX2_orderRow_37 : decode cX2_orderRow 37 = .ok (.iload 7, 2) := by decide +kernel
theorem dX2_orderRow_39 : decode cX2_orderRow 39 = .ok (.iconst 1, 1) := by decide +kernel
theorem dX2_orderRow_40 : decode cX2_orderRow 40 = .ok (.isub, 1) := by decide +kernel
theorem dX2_orderRow_41 : decode cX2_orderRow 41 = .ok (.iaload, 1) := by decide +kernel
theorem dX2_orderRow_42 : decode cX2_orderRow 42 = .ok (.iload 4, 2) := by decide +kernel
theorem dX2_orderRow_44 : decode cX2_orderRow 44 = .ok (.invokevirtual 91, 3) := by decide +kernel
theorem dX2_orderRow_47 : decode cX2_orderRow 47 = .ok (.ifCond .eq 25, 3) := by decide +kernel
theorem dX2_orderRow_50 : decode cX2_orderRow 50 = .ok (.aload_n 0, 1) := by decide +kernel
theorem dX2_orderRow_51 : decode cX2_orderRow 51 = .ok (.getfield 45, 3) := by decide +kernel
theorem dX2_orderRow_54 : decode cX2_orderRow 54 = .ok (.iload 7, 2) := by decide +kernel
theorem dX2_orderRow_56 : decode cX2_orderRow 56 = .ok (.aload_n 0, 1) := by decide +kernel
theorem dX2_orderRow_57 : decode cX2_orderRow 57 = .ok (.getfield 45, 3) := by decide +kernel
theorem dX2_orderRow_60 : decode cX2_orderRow 60 = .ok (.iload 7, 2) := by decide +kernel
theorem dX2_orderRow_62 : decode cX2_orderRow 62 = .ok (.iconst 1, 1) := by decide +kernel
theorem dX2_orderRow_63 : decode cX2_orderRow 63 = .ok (.isub, 1) := by decide +kernel
theorem dX2_orderRow_64 : decode cX2_orderRow 64 = .ok (.iaload, 1) := by decide +kernel
theorem dX2_orderRow_65 : decode cX2_orderRow 65 = .ok (.iastore, 1) := by decide +kernel
theorem dX2_orderRow_66 : decode cX2_orderRow 66 = .ok (.iinc 7 (-1), 3) := by decide +kernel
theorem dX2_orderRow_69 : decode cX2_orderRow 69 = .ok (.goto (-45), 3) := by decide +kernel
theorem dX2_orderRow_72 : decode cX2_orderRow 72 = .ok (.aload_n 0, 1) := by decide +kernel
theorem dX2_orderRow_73 : decode cX2_orderRow 73 = .ok (.getfield 45, 3) := by decide +kernel
theorem dX2_orderRow_76 : decode cX2_orderRow 76 = .ok (.iload 7, 2) := by decide +kernel
theorem dX2_orderRow_78 : decode cX2_orderRow 78 = .ok (.iload 6, 2) := by decide +kernel
theorem dX2_orderRow_80 : decode cX2_orderRow 80 = .ok (.iastore, 1) := by decide +kernel
theorem dX2_orderRow_81 : decode cX2_orderRow 81 = .ok (.iinc 5 1, 3) := by decide +kernel
theorem dX2_orderRow_84 : decode cX2_orderRow 84 = .ok (.goto (-79), 3) := by decide +kernel
theorem dX2_orderRow_87 : decode cX2_orderRow 87 = .ok (.return_, 1) := by decide +kernel
set_option maxRecDepth 20000 in
theorem ggX2_distanceOf_X2_gapOf : GoodIn wsX2_distanceOf wsX2_gapOf := goodIn_r _ [12, 5, 6, 7, 8] (by decide +kernel) (by decide +kernel)
set_option maxRecDepth 20000 in
theorem gX2_distanceOf_X2_gapOf : GoodIn wsX2_distanceOf (va_wsS RX2 95 yX2_gapOf wsX2_gapOf) := goodIn_app (goodIn_of _ (by decide +kernel)) ggX2_distanceOf_X2_gapOf
theorem dX2_distanceOf_0 : decode cX2_distanceOf 0 = .ok (.aload_n 0, 1) := by decide +kernel
theorem dX2_distanceOf_1 : decode cX2_distanceOf 1 = .ok (.getfield 21, 3) := by decide +kernel
theorem dX2_distanceOf_4 : decode cX2_distanceOf 4 = .ok (.iload_n 1, 1) := by decide +kernel
theorem dX2_distanceOf_5 : decode cX2_distanceOf 5 = .ok (.iaload, 1) := by decide +kernel
theorem dX2_distanceOf_6 : decode cX2_distanceOf 6 = .ok (.aload_n 0, 1) := by decide +kernel
theorem dX2_distanceOf_7 : decode cX2_distanceOf 7 = .ok (.getfield 24, 3) := by decide +kernel
theorem dX2_distanceOf_10 : decode cX2_distanceOf 10 = .ok (.iload_n 1, 1) := by decide +kernel
theorem dX2_distanceOf_11 : decode cX2_distanceOf 11 = .ok (.iaload, 1) := by decide +kernel
theorem dX2_distanceOf_12 : decode cX2_distanceOf 12 = .ok (.aload_n 0, 1) := by decide +kernel
theorem dX2_distanceOf_13 : decode cX2_distanceOf 13 = .ok (.getfield 21, 3) := by decide +kernel
theorem dX2_distanceOf_16 : decode cX2_distanceOf 16 = .ok (.iload_n 2, 1) := by decide +kernel
theorem dX2_distanceOf_17 : decode cX2_distanceOf 17 = .ok (.iaload, 1) := by decide +kernel
theorem dX2_distanceOf_18 : decode cX2_distanceOf 18 = .ok (.aload_n 0, 1) := by decide +kernel
theorem dX2_distanceOf_19 : decode cX2_distanceOf 19 = .ok (.getfield 24, 3) := by decide +kernel
theorem dX2_distanceOf_22 : decode cX2_distanceOf 22 = .ok (.iload_n 2, 1) := by decide +kernel
theorem dX2_distanceOf_23 : decode cX2_distanceOf 23 = .ok (.iaload, 1) := by decide +kernel
theorem dX2_distanceOf_24 : decode cX2_distanceOf 24 = .ok (.invokestatic 95, 3) := by decide +kernel
theorem dX2_distanceOf_27 : decode cX2_distanceOf 27 = .ok (.istore_n 3, 1) := by decide +kernel
theorem dX2_distanceOf_28 : decode cX2_distanceOf 28 = .ok (.aload_n 0, 1) := by decide +kernel
theorem dX2_distanceOf_29 : decode cX2_distanceOf 29 = .ok (.getfield 27, 3) := by decide +kernel
theorem dX2_distanceOf_32 : decode cX2_distanceOf 32 = .ok (.iload_n 1, 1) := by decide +kernel
theorem dX2_distanceOf_33 : decode cX2_distanceOf 33 = .ok (.iaload, 1) := by decide +kernel
theorem dX2_distanceOf_34 : decode cX2_distanceOf 34 = .ok (.aload_n 0, 1) := by decide +kernel
theorem dX2_distanceOf_35 : decode cX2_distanceOf 35 = .ok (.getfield 30, 3) := by decide +kernel
theorem dX2_distanceOf_38 : decode cX2_distanceOf 38 = .ok (.iload_n 1, 1) := by decide +kernel
theorem dX2_distanceOf_39 : decode cX2_distanceOf 39 = .ok (.iaload, 1) := by decide +kernel
theorem dX2_distanceOf_40 : decode cX2_distanceOf 40 = .ok (.aload_n 0, 1) := by decide +kernel
theorem dX2_distanceOf_41 : decode cX2_distanceOf 41 = .ok (.getfield 27, 3) := by decide +kernel
theorem dX2_distanceOf_44 : decode cX2_distanceOf 44 = .ok (.iload_n 2, 1) := by decide +kernel
theorem dX2_distanceOf_45 : decode cX2_distanceOf 45 = .ok (.iaload, 1) := by decide +kernel
theorem dX2_distanceOf_46 : decode cX2_distanceOf 46 = .ok (.aload_n 0, 1) := by decide +kernel
theorem dX2_distanceOf_47 : decode cX2_distanceOf 47 = .ok (.getfield 30, 3) := by decide +kernel
theorem dX2_distanceOf_50 : decode cX2_distanceOf 50 = .ok (.iload_n 2, 1) := by decide +kernel
theorem dX2_distanceOf_51 : decode cX2_distanceOf 51 = .ok (.iaload, 1) := by decide +kernel
theorem dX2_distanceOf_52 : decode cX2_distanceOf 52 = .ok (.invokestatic 95, 3) := by decide +kernel
theorem dX2_distanceOf_55 : decode cX2_distanceOf 55 = .ok (.istore 4, 2) := by decide +kernel
theorem dX2_distanceOf_57 : decode cX2_distanceOf 57 = .ok (.iload_n 3, 1) := by decide +kernel
theorem dX2_distanceOf_58 : decode cX2_distanceOf 58 = .ok (.iload 4, 2) := by decide +kernel
theorem dX2_distanceOf_60 : decode cX2_distanceOf 60 = .ok (.invokestatic 99, 3) := by decide +kernel
theorem dX2_distanceOf_63 : decode cX2_distanceOf 63 = .ok (.ireturn, 1) := by decide +kernel
theorem dX2_gapOf_0 : decode cX2_gapOf 0 = .ok (.iconst 0, 1) := by decide +kernel
theorem dX2_gapOf_1 : decode cX2_gapOf 1 = .ok (.iload_n 0, 1) := by decide +kernel
theorem dX2_gapOf_2 : decode cX2_gapOf 2 = .ok (.iload_n 3, 1) := by decide +kernel
theorem dX2_gapOf_3 : decode cX2_gapOf 3 = .ok (.isub, 1) := by decide +kernel
theorem dX2_gapOf_4 : decode cX2_gapOf 4 = .ok (.iload_n 2, 1) := by decide +kernel
theorem dX2_gapOf_5 : decode cX2_gapOf 5 = .ok (.iload_n 1, 1) := by decide +kernel
theorem dX2_gapOf_6 : decode cX2_gapOf 6 = .ok (.isub, 1) := by decide +kernel
theorem dX2_gapOf_7 : decode cX2_gapOf 7 = .ok (.invokestatic 99, 3) := by decide +kernel
theorem dX2_gapOf_10 : decode cX2_gapOf 10 = .ok (.invokestatic 99, 3) := by decide +kernel
theorem dX2_gapOf_13 : decode cX2_gapOf 13 = .ok (.ireturn, 1) := by decide +kernel
set_option maxRecDepth 20000 in
theorem ggX2_joinTwo_X2_distanceOf : GoodIn wsX2_joinTwo wsX2_distanceOf := goodIn_r _ [22, 5, 11, 15, 16, 7, 8, 9, 10, 23, 24, 21, 25, 30, 31, 32, 33, 34, 35, 36, 37, 38, 39, 40, 41, 42, 43] (by decide +kernel) (by decide +kernel)
set_option maxRecDepth 20000 in
theorem gX2_joinTwo_X2_distanceOf : GoodIn wsX2_joinTwo (wsV RX2 77 RX2 yX2_distanceOf wsX2_distanceOf) := goodIn_app (goodIn_of _ (by decide +kernel)) ggX2_joinTwo_X2_distanceOf
set_option maxRecDepth 20000 in
theorem ggX2_joinTwo_X2_setWires : GoodIn wsX2_joinTwo wsX2_setWires := goodIn_r _ [29, 17, 6, 30, 31, 32, 33, 34, 35, 36, 37, 38, 39, 40, 41, 42, 43] (by decide +kernel) (by decide +kernel)
