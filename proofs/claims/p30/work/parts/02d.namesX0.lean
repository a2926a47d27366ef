theorem dX0_init_0 : decode cX0_init 0 = .ok (.aload_n 0, 1) := by decide +kernel
theorem dX0_init_1 : decode cX0_init 1 = .ok (.invokespecial 3, 3) := by decide +kernel
theorem dX0_init_4 : decode cX0_init 4 = .ok (.aload_n 0, 1) := by decide +kernel
theorem dX0_init_5 : decode cX0_init 5 = .ok (.bipush 12, 2) := by decide +kernel
theorem dX0_init_7 : decode cX0_init 7 = .ok (.newarray .int, 2) := by decide +kernel
theorem dX0_init_9 : decode cX0_init 9 = .ok (.putfield 9, 3) := by decide +kernel
theorem dX0_init_12 : decode cX0_init 12 = .ok (.aload_n 0, 1) := by decide +kernel
theorem dX0_init_13 : decode cX0_init 13 = .ok (.bipush 12, 2) := by decide +kernel
theorem dX0_init_15 : decode cX0_init 15 = .ok (.newarray .boolean, 2) := by decide +kernel
theorem dX0_init_17 : decode cX0_init 17 = .ok (.putfield 15, 3) := by decide +kernel
theorem dX0_init_20 : decode cX0_init 20 = .ok (.aload_n 0, 1) := by decide +kernel
theorem dX0_init_21 : decode cX0_init 21 = .ok (.bipush 6, 2) := by decide +kernel
theorem dX0_init_23 : decode cX0_init 23 = .ok (.newarray .int, 2) := by decide +kernel
theorem dX0_init_25 : decode cX0_init 25 = .ok (.putfield 19, 3) := by decide +kernel
theorem dX0_init_28 : decode cX0_init 28 = .ok (.return_, 1) := by decide +kernel
set_option maxRecDepth 20000 in
theorem ggX0_firstToRun_X0_makeOrder : GoodIn wsX0_firstToRun wsX0_makeOrder := goodIn_r _ [7, 1, 8, 9, 2, 10, 11, 12, 13, 14, 15, 16, 17, 18, 19, 20, 21, 6, 22, 23, 24, 25, 26, 27, 28, 29, 30, 31, 32, 33, 34, 35, 36, 37, 38, 39, 40, 41, 42, 43] (by decide +kernel) (by decide +kernel)
set_option maxRecDepth 20000 in
theorem gX0_firstToRun_X0_makeOrder : GoodIn wsX0_firstToRun (wsV RX0 22 RX0 yX0_makeOrder wsX0_makeOrder) := goodIn_app (goodIn_of _ (by decide +kernel)) ggX0_firstToRun_X0_makeOrder
theorem dX0_firstToRun_0 : decode cX0_firstToRun 0 = .ok (.aload_n 0, 1) := by decide +kernel
theorem dX0_firstToRun_1 : decode cX0_firstToRun 1 = .ok (.aload_n 1, 1) := by decide +kernel
theorem dX0_firstToRun_2 : decode cX0_firstToRun 2 = .ok (.invokevirtual 22, 3) := by decide +kernel
theorem dX0_firstToRun_5 : decode cX0_firstToRun 5 = .ok (.aload_n 0, 1) := by decide +kernel
theorem dX0_firstToRun_6 : decode cX0_firstToRun 6 = .ok (.getfield 26, 3) := by decide +kernel
theorem dX0_firstToRun_9 : decode cX0_firstToRun 9 = .ok (.ifCond .le 12, 3) := by decide +kernel
theorem dX0_firstToRun_12 : decode cX0_firstToRun 12 = .ok (.aload_n 0, 1) := by decide +kernel
theorem dX0_firstToRun_13 : decode cX0_firstToRun 13 = .ok (.getfield 9, 3) := by decide +kernel
theorem dX0_firstToRun_16 : decode cX0_firstToRun 16 = .ok (.iconst 0, 1) := by decide +kernel
theorem dX0_firstToRun_17 : decode cX0_firstToRun 17 = .ok (.iaload, 1) := by decide +kernel
theorem dX0_firstToRun_18 : decode cX0_firstToRun 18 = .ok (.goto 5, 3) := by decide +kernel
theorem dX0_firstToRun_21 : decode cX0_firstToRun 21 = .ok (.bipush (-9), 2) := by decide +kernel
theorem dX0_firstToRun_23 : decode cX0_firstToRun 23 = .ok (.ireturn, 1) := by decide +kernel
set_option maxRecDepth 20000 in
theorem ggX0_dogInOrder_X0_makeOrder : GoodIn wsX0_dogInOrder wsX0_makeOrder := goodIn_r _ [7, 1, 8, 9, 2, 10, 11, 12, 13, 14, 15, 16, 17, 18, 19, 20, 21, 6, 22, 23, 24, 25, 26, 27, 28, 29, 30, 31, 32, 33, 34, 35, 36, 37, 38, 39, 40, 41, 42, 43] (by decide +kernel) (by decide +kernel)
set_option maxRecDepth 20000 in
theorem gX0_dogInOrder_X0_makeOrder : GoodIn wsX0_dogInOrder (wsV RX0 22 RX0 yX0_makeOrder wsX0_makeOrder) := goodIn_app (goodIn_of _ (by decide +kernel)) ggX0_dogInOrder_X0_makeOrder
theorem dX0_dogInOrder_0 : decode cX0_dogInOrder 0 = .ok (.aload_n 0, 1) := by decide +kernel
theorem dX0_dogInOrder_1 : decode cX0_dogInOrder 1 = .ok (.aload_n 1, 1) := by decide +kernel
theorem dX0_dogInOrder_2 : decode cX0_dogInOrder 2 = .ok (.invokevirtual 22, 3) := by decide +kernel
theorem dX0_dogInOrder_5 : decode cX0_dogInOrder 5 = .ok (.iload_n 2, 1) := by decide +kernel
theorem dX0_dogInOrder_6 : decode cX0_dogInOrder 6 = .ok (.ifCond .lt 20, 3) := by decide +kernel
theorem dX0_dogInOrder_9 : decode cX0_dogInOrder 9 = .ok (.iload_n 2, 1) := by decide +kernel
theorem dX0_dogInOrder_10 : decode cX0_dogInOrder 10 = .ok (.aload_n 0, 1) := by decide +kernel
theorem dX0_dogInOrder_11 : decode cX0_dogInOrder 11 = .ok (.getfield 26, 3) := by decide +kernel
theorem dX0_dogInOrder_14 : decode cX0_dogInOrder 14 = .ok (.if_icmp .ge 12, 3) := by decide +kernel
theorem dX0_dogInOrder_17 : decode cX0_dogInOrder 17 = .ok (.aload_n 0, 1) := by decide +kernel
theorem dX0_dogInOrder_18 : decode cX0_dogInOrder 18 = .ok (.getfield 9, 3) := by decide +kernel
theorem dX0_dogInOrder_21 : decode cX0_dogInOrder 21 = .ok (.iload_n 2, 1) := by decide +kernel
theorem dX0_dogInOrder_22 : decode cX0_dogInOrder 22 = .ok (.iaload, 1) := by decide +kernel
theorem dX0_dogInOrder_23 : decode cX0_dogInOrder 23 = .ok (.goto 5, 3) := by decide +kernel
theorem dX0_dogInOrder_26 : decode cX0_dogInOrder 26 = .ok (.bipush (-9), 2) := by decide +kernel
theorem dX0_dogInOrder_28 : decode cX0_dogInOrder 28 = .ok (.ireturn, 1) := by decide +kernel
set_option maxRecDepth 20000 in
theorem ggX0_placeInOrder_X0_makeOrder : GoodIn wsX0_placeInOrder wsX0_makeOrder := goodIn_r _ [7, 1, 8, 9, 2, 10, 11, 12, 13, 14, 15, 16, 17, 18, 19, 20, 21, 6, 22, 23, 24, 25, 26, 27, 28, 29, 30, 31, 32, 33, 34, 35, 36, 37, 38, 39, 40, 41, 42, 43] (by decide +kernel) (by decide +kernel)
set_option maxRecDepth 20000 in
theorem gX0_placeInOrder_X0_makeOrder : GoodIn wsX0_placeInOrder (wsV RX0 22 RX0 yX0_makeOrder wsX0_makeOrder) := goodIn_app (goodIn_of _ (by decide +kernel)) ggX0_placeInOrder_X0_makeOrder
theorem dX0_placeInOrder_0 : decode cX0_placeInOrder 0 = .ok (.aload_n 0, 1) := by decide +kernel
theorem dX0_placeInOrder_1 : decode cX0_placeInOrder 1 = .ok (.aload_n 1, 1) := by decide +kernel
theorem dX0_placeInOrder_2 : decode cX0_placeInOrder 2 = .ok (.invokevirtual 22, 3) := by decide +kernel
theorem dX0_placeInOrder_5 : decode cX0_placeInOrder 5 = .ok (.iconst 0, 1) := by decide +kernel
theorem dX0_placeInOrder_6 : decode cX0_placeInOrder 6 = .ok (.istore_n 3, 1) := by decide +kernel
theorem dX0_placeInOrder_7 : decode cX0_placeInOrder 7 = .ok (.iload_n 3, 1) := by decide +kernel
theorem dX0_placeInOrder_8 : decode cX0_placeInOrder 8 = .ok (.aload_n 0, 1) := by decide +kernel
theorem dX0_placeInOrder_9 : decode cX0_placeInOrder 9 = .ok (.getfield 26, 3) := by decide +kernel
theorem dX0_placeInOrder_12 : decode cX0_placeInOrder 12 = .ok (.if_icmp .ge 21, 3) := by decide +kernel
theorem dX0_placeInOrder_15 : decode cX0_placeInOrder 15 = .ok (.aload_n 0, 1) := by decide +kernel
theorem dX0_placeInOrder_16 : decode cX0_placeInOrder 16 = .ok (.getfield 9, 3) := by decide +kernel
theorem dX0_placeInOrder_19 : decode cX0_placeInOrder 19 = .ok (.iload_n 3, 1) := by decide +kernel
theorem dX0_placeInOrder_20 : decode cX0_placeInOrder 20 = .ok (.iaload, 1) := by decide +kernel
theorem dX0_placeInOrder_21 : decode cX0_placeInOrder 21 = .ok (.iload_n 2, 1) := by decide +kernel
theorem dX0_placeInOrder_22 : decode cX0_placeInOrder 22 = .ok (.if_icmp .ne 5, 3) := by decide +kernel
theorem dX0_placeInOrder_25 : decode cX0_placeInOrder 25 = .ok (.iload_n 3, 1) := by decide +kernel
theorem dX0_placeInOrder_26 : decode cX0_placeInOrder 26 = .ok (.ireturn, 1) := by decide +kernel
theorem dX0_placeInOrder_27 : decode cX0_placeInOrder 27 = .ok (.iinc 3 1, 3) := by decide +kernel
theorem dX0_placeInOrder_30 : decode cX0_placeInOrder 30 = .ok (.goto (-23), 3) := by decide +kernel
theorem dX0_placeInOrder_33 : decode cX0_placeInOrder 33 = .ok (.bipush (-9), 2) := by decide +kernel
theorem dX0_placeInOrder_35 : decode cX0_placeInOrder 35 = .ok (.ireturn, 1) := by decide +kernel
set_option maxRecDepth 20000 in
theorem ggX0_makeOrder_X3_ownerThatRanLast : GoodIn wsX0_makeOrder wsX3_ownerThatRanLast := goodIn_r _ [10, 11, 12, 13, 25, 26, 27, 28, 29, 30, 31, 32, 33, 34, 35, 36, 37, 38, 39] (by decide +kernel) (by decide +kernel)
set_option maxRecDepth 20000 in
theorem gX0_makeOrder_X3_ownerThatRanLast : GoodIn wsX0_makeOrder (wsV RX0 30 RX3 yX3_ownerThatRanLast wsX3_ownerThatRanLast) := goodIn_app (goodIn_of _ (by decide +kernel)) ggX0_makeOrder_X3_ownerThatRanLast
set_option maxRecDepth 20000 in
theorem ggX0_makeOrder_X0_nextDog : GoodIn wsX0_makeOrder wsX0_nextDog := goodIn_r _ [18, 19, 3, 2, 20, 5, 25, 26, 27, 28, 29, 30, 31, 32, 33, 34, 35, 36, 37, 38, 39, 21, 22, 23, 24] (by decide +kernel) (by decide +kernel)
set_option maxRecDepth 20000 in
theorem gX0_makeOrder_X0_nextDog : GoodIn wsX0_makeOrder (wsV RX0 39 RX0 yX0_nextDog wsX0_nextDog) := goodIn_app (goodIn_of _ (by decide +kernel)) ggX0_makeOrder_X0_nextDog
theorem dX0_makeOrder_0 : decode cX0_makeOrder 0 = .ok (.aload_n 0, 1) := by decide +kernel
theorem dX0_makeOrder_1 : decode cX0_makeOrder 1 = .ok (.iconst 0, 1) := by decide +kernel
theorem dX0_makeOrder_2 : decode cX0_makeOrder 2 = .ok (.putfield 26, 3) := by decide +kernel
theorem dX0_makeOrder_5 : decode cX0_makeOrder 5 = .ok (.iconst 0, 1) := by decide +kernel
theorem dX0_makeOrder_6 : decode cX0_makeOrder 6 = .ok (.istore_n 2, 1) := by decide +kernel
theorem dX0_makeOrder_7 : decode cX0_makeOrder 7 = .ok (.iload_n 2, 1) := by decide +kernel
theorem dX0_makeOrder_8 : decode cX0_makeOrder 8 = .ok (.bipush 12, 2) := by decide +kernel
theorem dX0_makeOrder_10 : decode cX0_makeOrder 10 = .ok (.if_icmp .ge 16, 3) := by decide +kernel
theorem dX0_makeOrder_13 : decode cX0_makeOrder 13 = .ok (.aload_n 0, 1) := by decide +kernel
theorem dX0_makeOrder_14 : decode cX0_makeOrder 14 = .ok (.getfield 15, 3) := by decide +kernel
theorem dX0_makeOrder_17 : decode cX0_makeOrder 17 = .ok (.iload_n 2, 1) := by decide +kernel
theorem dX0_makeOrder_18 : decode cX0_makeOrder 18 = .ok (.iconst 0, 1) := by decide +kernel
theorem dX0_makeOrder_19 : decode cX0_makeOrder 19 = .ok (.bastore, 1) := by decide +kernel
theorem dX0_makeOrder_20 : decode cX0_makeOrder 20 = .ok (.iinc 2 1, 3) := by decide +kernel
theorem dX0_makeOrder_23 : decode cX0_makeOrder 23 = .ok (.goto (-16), 3) := by decide +kernel
theorem dX0_makeOrder_26 : decode cX0_makeOrder 26 = .ok (.aload_n 1, 1) := by decide +kernel
theorem dX0_makeOrder_27 : decode cX0_makeOrder 27 = .ok (.invokevirtual 30, 3) := by decide +kernel
theorem dX0_makeOrder_30 : decode cX0_makeOrder 30 = .ok (.istore_n 2, 1) := by decide +kernel
theorem dX0_makeOrder_31 : decode cX0_makeOrder 31 = .ok (.iconst 0, 1) := by decide +kernel
theorem dX0_makeOrder_32 : decode cX0_makeOrder 32 = .ok (.istore_n 3, 1) := by decide +kernel
theorem dX0_makeOrder_33 : decode cX0_makeOrder 33 = .ok (.iload_n 3, 1) := by decide +kernel
theorem dX0_makeOrder_34 : decode cX0_makeOrder 34 = .ok (.aload_n 1, 1) := by decide +kernel
theorem dX0_makeOrder_35 : decode cX0_makeOrder 35 = .ok (.getfield 36, 3) := by decide +kernel
theorem dX0_makeOrder_38 : decode cX0_makeOrder 38 = .ok (.if_icmp .ge 73, 3) := by decide +kernel
theorem dX0_makeOrder_41 : decode cX0_makeOrder 41 = .ok (.aload_n 0, 1) := by decide +kernel
theorem dX0_makeOrder_42 : decode cX0_makeOrder 42 = .ok (.aload_n 1, 1) := by decide +kernel
theorem dX0_makeOrder_43 : decode cX0_makeOrder 43 = .ok (.iconst 0, 1) := by decide +kernel
theorem dX0_makeOrder_44 : decode cX0_makeOrder 44 = .ok (.iload_n 2, 1) := by decide +kernel
theorem dX0_makeOrder_45 : decode cX0_makeOrder 45 = .ok (.invokevirtual 39, 3) := by decide +kernel
theorem dX0_makeOrder_48 : decode cX0_makeOrder 48 = .ok (.istore 4, 2) := by decide +kernel
theorem dX0_makeOrder_50 : decode cX0_makeOrder 50 = .ok (.iload 4, 2) := by decide +kernel
theorem dX0_makeOrder_52 : decode cX0_makeOrder 52 = .ok (.bipush (-9), 2) := by decide +kernel
theorem dX0_makeOrder_54 : decode cX0_makeOrder 54 = .ok (.if_icmp .ne 12, 3) := by decide +kernel
theorem dX0_makeOrder_57 : decode cX0_makeOrder 57 = .ok (.aload_n 0, 1) := by decide +kernel
theorem dX0_makeOrder_58 : decode cX0_makeOrder 58 = .ok (.aload_n 1, 1) := by decide +kernel
theorem dX0_makeOrder_59 : decode cX0_makeOrder 59 = .ok (.iconst 2, 1) := by decide +kernel
theorem dX0_makeOrder_60 : decode cX0_makeOrder 60 = .ok (.iload_n 2, 1) := by decide +kernel
theorem dX0_makeOrder_61 : decode cX0_makeOrder 61 = .ok (.invokevirtual 39, 3) := by decide +kernel
theorem dX0_makeOrder_64 : decode cX0_makeOrder 64 = .ok (.istore 4, 2) := by decide +kernel
theorem dX0_makeOrder_66 : decode cX0_makeOrder 66 = .ok (.iload 4, 2) := by decide +kernel
theorem dX0_makeOrder_68 : decode cX0_makeOrder 68 = .ok (.bipush (-9), 2) := by decide +kernel
theorem dX0_makeOrder_70 : decode cX0_makeOrder 70 = .ok (.if_icmp .ne 4, 3) := by decide +kernel
theorem dX0_makeOrder_73 : decode cX0_makeOrder 73 = .ok (.return_, 1) := by decide +kernel
theorem dX0_makeOrder_74 : decode cX0_makeOrder 74 = .ok (.aload_n 0, 1) := by decide +kernel
theorem dX0_makeOrder_75 : decode cX0_makeOrder 75 = .ok (.getfield 9, 3) := by decide +kernel
theorem dX0_makeOrder_78 : decode cX0_makeOrder 78 = .ok (.iload_n 3, 1) := by decide +kernel
theorem dX0_makeOrder_79 : decode cX0_makeOrder 79 = .ok (.iload 4, 2) := by decide +kernel
theorem dX0_makeOrder_81 : decode cX0_makeOrder 81 = .ok (.iastore, 1) := by decide +kernel
theorem dX0_makeOrder_82 : decode cX0_makeOrder 82 = .ok (.aload_n 0, 1) := by decide +kernel
theorem dX0_makeOrder_83 : decode cX0_makeOrder 83 = .ok (.iload_n 3, 1) := by decide +kernel
theorem dX0_makeOrder_84 : decode cX0_makeOrder 84 = .ok (.iconst 1, 1) := by decide +kernel
theorem dX0_makeOrder_85 : decode cX0_makeOrder 85 = .ok (.iadd, 1) := by decide +kernel
theorem dX0_makeOrder_86 : decode cX0_makeOrder 86 = .ok (.putfield 26, 3) := by decide +kernel
theorem dX0_makeOrder_89 : decode cX0_makeOrder 89 = .ok (.aload_n 0, 1) := by decide +kernel
theorem dX0_makeOrder_90 : decode cX0_makeOrder 90 = .ok (.getfield 15, 3) := by decide +kernel
theorem dX0_makeOrder_93 : decode cX0_makeOrder 93 = .ok (.iload 4, 2) := by decide +kernel
theorem dX0_makeOrder_95 : decode cX0_makeOrder 95 = .ok (.iconst 1, 1) := by decide +kernel
theorem dX0_makeOrder_96 : decode cX0_makeOrder 96 = .ok (.bastore, 1) := by decide +kernel
theorem dX0_makeOrder_97 : decode cX0_makeOrder 97 = .ok (.aload_n 1, 1) := by decide +kernel
theorem dX0_makeOrder_98 : decode cX0_makeOrder 98 = .ok (.getfield 43, 3) := by decide +kernel
theorem dX0_makeOrder_101 : decode cX0_makeOrder 101 = .ok (.iload 4, 2) := by decide +kernel
theorem dX0_makeOrder_103 : decode cX0_makeOrder 103 = .ok (.iaload, 1) := by decide +kernel
theorem dX0_makeOrder_104 : decode cX0_makeOrder 104 = .ok (.istore_n 2, 1) := by decide +kernel
theorem dX0_makeOrder_105 : decode cX0_makeOrder 105 = .ok (.iinc 3 1, 3) := by decide +kernel
theorem dX0_makeOrder_108 : decode cX0_makeOrder 108 = .ok (.goto (-75), 3) := by decide +kernel
theorem dX0_makeOrder_111 : decode cX0_makeOrder 111 = .ok (.return_, 1) := by decide +kernel
theorem dX0_nextDog_0 : decode cX0_nextDog 0 = .ok (.aload_n 1, 1) := by decide +kernel
theorem dX0_nextDog_1 : decode cX0_nextDog 1 = .ok (.getfield 46, 3) := by decide +kernel
theorem dX0_nextDog_4 : decode cX0_nextDog 4 = .ok (.astore 4, 2) := by decide +kernel
theorem dX0_nextDog_6 : decode cX0_nextDog 6 = .ok (.bipush (-9), 2) := by decide +kernel
theorem dX0_nextDog_8 : decode cX0_nextDog 8 = .ok (.istore 5, 2) := by decide +kernel
theorem dX0_nextDog_10 : decode cX0_nextDog 10 = .ok (.bipush (-9), 2) := by decide +kernel
theorem dX0_nextDog_12 : decode cX0_nextDog 12 = .ok (.istore 6, 2) := by decide +kernel
theorem dX0_nextDog_14 : decode cX0_nextDog 14 = .ok (.iconst 0, 1) := by decide +kernel
theorem dX0_nextDog_15 : decode cX0_nextDog 15 = .ok (.istore 7, 2) := by decide +kernel
theorem dX0_nextDog_17 : decode cX0_nextDog 17 = .ok (.iload 7, 2) := by decide +kernel
theorem dX0_nextDog_19 : decode cX0_nextDog 19 = .ok (.aload_n 1, 1) := by decide +kernel
theorem dX0_nextDog_20 : decode cX0_nextDog 20 = .ok (.getfield 36, 3) := by decide +kernel
theorem dX0_nextDog_23 : decode cX0_nextDog 23 = .ok (.if_icmp .ge 88, 3) := by decide +kernel
theorem dX0_nextDog_26 : decode cX0_nextDog 26 = .ok (.aload_n 0, 1) := by decide +kernel
theorem dX0_nextDog_27 : decode cX0_nextDog 27 = .ok (.getfield 15, 3) := by decide +kernel
theorem dX0_nextDog_30 : decode cX0_nextDog 30 = .ok (.iload 7, 2) := by decide +kernel
theorem dX0_nextDog_32 : decode cX0_nextDog 32 = .ok (.baload, 1) := by decide +kernel
theorem dX0_nextDog_33 : decode cX0_nextDog 33 = .ok (.ifCond .ne 72, 3) := by decide +kernel
theorem dX0_nextDog_36 : decode cX0_nextDog 36 = .ok (.aload_n 1, 1) := by decide +kernel
theorem dX0_nextDog_37 : decode cX0_nextDog 37 = .ok (.getfield 49, 3) := by decide +kernel
theorem dX0_nextDog_40 : decode cX0_nextDog 40 = .ok (.iload 7, 2) := by decide +kernel
theorem dX0_nextDog_42 : decode cX0_nextDog 42 = .ok (.iaload, 1) := by decide +kernel
theorem dX0_nextDog_43 : decode cX0_nextDog 43 = .ok (.iload_n 2, 1) := by decide +kernel
theorem dX0_nextDog_44 : decode cX0_nextDog 44 = .ok (.if_icmp .eq 6, 3) := by decide +kernel
theorem dX0_nextDog_47 : decode cX0_nextDog 47 = .ok (.goto 58, 3) := by decide +kernel
theorem dX0_nextDog_50 : decode cX0_nextDog 50 = .ok (.iload 5, 2) := by decide +kernel
theorem dX0_nextDog_52 : decode cX0_nextDog 52 = .ok (.ifCond .lt 16, 3) := by decide +kernel
theorem dX0_nextDog_55 : decode cX0_nextDog 55 = .ok (.aload 4, 2) := by decide +kernel
theorem dX0_nextDog_57 : decode cX0_nextDog 57 = .ok (.iload 7, 2) := by decide +kernel
theorem dX0_nextDog_59 : decode cX0_nextDog 59 = .ok (.iaload, 1) := by decide +kernel
theorem dX0_nextDog_60 : decode cX0_nextDog 60 = .ok (.aload 4, 2) := by decide +kernel
theorem dX0_nextDog_62 : decode cX0_nextDog 62 = .ok (.iload 5, 2) := by decide +kernel
theorem dX0_nextDog_64 : decode cX0_nextDog 64 = .ok (.iaload, 1) := by decide +kernel
theorem dX0_nextDog_65 : decode cX0_nextDog 65 = .ok (.if_icmp .ge 7, 3) := by decide +kernel
theorem dX0_nextDog_68 : decode cX0_nextDog 68 = .ok (.iload 7, 2) := by decide +kernel
theorem dX0_nextDog_70 : decode cX0_nextDog 70 = .ok (.istore 5, 2) := by decide +kernel
theorem dX0_nextDog_72 : decode cX0_nextDog 72 = .ok (.aload_n 1, 1) := by decide +kernel
theorem dX0_nextDog_73 : decode cX0_nextDog 73 = .ok (.getfield 43, 3) := by decide +kernel
theorem dX0_nextDog_76 : decode cX0_nextDog 76 = .ok (.iload 7, 2) := by decide +kernel
theorem dX0_nextDog_78 : decode cX0_nextDog 78 = .ok (.iaload, 1) := by decide +kernel
theorem dX0_nextDog_79 : decode cX0_nextDog 79 = .ok (.iload_n 3, 1) := by decide +kernel
theorem dX0_nextDog_80 : decode cX0_nextDog 80 = .ok (.if_icmp .eq 25, 3) := by decide +kernel
theorem dX0_nextDog_83 : decode cX0_nextDog 83 = .ok (.iload 6, 2) := by decide +kernel
theorem dX0_nextDog_85 : decode cX0_nextDog 85 = .ok (.ifCond .lt 16, 3) := by decide +kernel
theorem dX0_nextDog_88 : decode cX0_nextDog 88 = .ok (.aload 4, 2) := by decide +kernel
theorem dX0_nextDog_90 : decode cX0_nextDog 90 = .ok (.iload 7, 2) := by decide +kernel
theorem dX0_nextDog_92 : decode cX0_nextDog 92 = .ok (.iaload, 1) := by decide +kernel
theorem dX0_nextDog_93 : decode cX0_nextDog 93 = .ok (.aload 4, 2) := by decide +kernel
theorem dX0_nextDog_95 : decode cX0_nextDog 95 = .ok (.iload 6, 2) := by decide +kernel
theorem dX0_nextDog_97 : decode cX0_nextDog 97 = .ok (.iaload, 1) := by decide +kernel
theorem dX0_nextDog_98 : decode cX0_nextDog 98 = .ok (.if_icmp .ge 7, 3) := by decide +kernel
theorem dX0_nextDog_101 : decode cX0_nextDog 101 = .ok (.iload 7, 2) := by decide +kernel
theorem dX0_nextDog_103 : decode cX0_nextDog 103 = .ok (.istore 6, 2) := by decide +kernel
theorem dX0_nextDog_105 : decode cX0_nextDog 105 = .ok (.iinc 7 1, 3) := by decide +kernel
theorem dX0_nextDog_108 : decode cX0_nextDog 108 = .ok (.goto (-91), 3) := by decide +kernel
theorem dX0_nextDog_111 : decode cX0_nextDog 111 = .ok (.iload 6, 2) := by decide +kernel
theorem dX0_nextDog_113 : decode cX0_nextDog 113 = .ok (.bipush (-9), 2) := by decide +kernel
theorem dX0_nextDog_115 : decode cX0_nextDog 115 = .ok (.if_icmp .ne 8, 3) := by decide +kernel
theorem dX0_nextDog_118 : decode cX0_nextDog 118 = .ok (.iload 5, 2) := by decide +kernel
theorem dX0_nextDog_120 : decode cX0_nextDog 120 = .ok (.goto 5, 3) := by decide +kernel
theorem dX0_nextDog_123 : decode cX0_nextDog 123 = .ok (.iload 6, 2) := by decide +kernel
theorem dX0_nextDog_125 : decode cX0_nextDog 125 = .ok (.ireturn, 1) := by decide +kernel
theorem dX0_setLosses_0 : decode cX0_setLosses 0 = .ok (.lload_n 1, 1) := by decide +kernel
theorem dX0_setLosses_1 : decode cX0_setLosses 1 = .ok (.lconst 0, 1) := by decide +kernel
theorem dX0_setLosses_2 : decode cX0_setLosses 2 = .ok (.lcmp, 1) := by decide +kernel
theorem dX0_setLosses_3 : decode cX0_setLosses 3 = .ok (.ifCond .lt 11, 3) := by decide +kernel
theorem dX0_setLosses_6 : decode cX0_setLosses 6 = .ok (.lload_n 1, 1) := by decide +kernel
theorem dX0_setLosses_7 : decode cX0_setLosses 7 = .ok (.ldc2_w 52, 3) := by decide +kernel
theorem dX0_setLosses_10 : decode cX0_setLosses 10 = .ok (.lcmp, 1) := by decide +kernel
theorem dX0_setLosses_11 : decode cX0_setLosses 11 = .ok (.ifCond .le 5, 3) := by decide +kernel
theorem dX0_setLosses_14 : decode cX0_setLosses 14 = .ok (.iconst 0, 1) := by decide +kernel
theorem dX0_setLosses_15 : decode cX0_setLosses 15 = .ok (.ireturn, 1) := by decide +kernel
theorem dX0_setLosses_16 : decode cX0_setLosses 16 = .ok (.lload_n 1, 1) := by decide +kernel
theorem dX0_setLosses_17 : decode cX0_setLosses 17 = .ok (.lstore_n 3, 1) := by decide +kernel
theorem dX0_setLosses_18 : decode cX0_setLosses 18 = .ok (.iconst 5, 1) := by decide +kernel
theorem dX0_setLosses_19 : decode cX0_setLosses 19 = .ok (.istore 5, 2) := by decide +kernel
theorem dX0_setLosses_21 : decode cX0_setLosses 21 = .ok (.iload 5, 2) := by decide +kernel
theorem dX0_setLosses_23 : decode cX0_setLosses 23 = .ok (.ifCond .lt 46, 3) := by decide +kernel
theorem dX0_setLosses_26 : decode cX0_setLosses 26 = .ok (.aload_n 0, 1) := by decide +kernel
theorem dX0_setLosses_27 : decode cX0_setLosses 27 = .ok (.getfield 19, 3) := by decide +kernel
theorem dX0_setLosses_30 : decode cX0_setLosses 30 = .ok (.iload 5, 2) := by decide +kernel
theorem dX0_setLosses_32 : decode cX0_setLosses 32 = .ok (.lload_n 3, 1) := by decide +kernel
theorem dX0_setLosses_33 : decode cX0_setLosses 33 = .ok (.ldc2_w 54, 3) := by decide +kernel
theorem dX0_setLosses_36 : decode cX0_setLosses 36 = .ok (.lrem, 1) := by decide +kernel
theorem dX0_setLosses_37 : decode cX0_setLosses 37 = .ok (.l2i, 1) := by decide +kernel
theorem dX0_setLosses_38 : decode cX0_setLosses 38 = .ok (.iastore, 1) := by decide +kernel
theorem dX0_setLosses_39 : decode cX0_setLosses 39 = .ok (.aload_n 0, 1) := by decide +kernel
theorem dX0_setLosses_40 : decode cX0_setLosses 40 = .ok (.getfield 19, 3) := by decide +kernel
theorem dX0_setLosses_43 : decode cX0_setLosses 43 = .ok (.iload 5, 2) := by decide +kernel
theorem dX0_setLosses_45 : decode cX0_setLosses 45 = .ok (.iaload, 1) := by decide +kernel
theorem dX0_setLosses_46 : decode cX0_setLosses 46 = .ok (.getstatic 56, 3) := by decide +kernel
theorem dX0_setLosses_49 : decode cX0_setLosses 49 = .ok (.iload 5, 2) := by decide +kernel
theorem dX0_setLosses_51 : decode cX0_setLosses 51 = .ok (.iaload, 1) := by decide +kernel
theorem dX0_setLosses_52 : decode cX0_setLosses 52 = .ok (.if_icmp .le 5, 3) := by decide +kernel
theorem dX0_setLosses_55 : decode cX0_setLosses 55 = .ok (.iconst 0, 1) := by decide +kernel
theorem dX0_setLosses_56 : decode cX0_setLosses 56 = .ok (.ireturn, 1) := by decide +kernel
theorem dX0_setLosses_57 : decode cX0_setLosses 57 = .ok (.lload_n 3, 1) := by decide +kernel
theorem dX0_setLosses_58 : decode cX0_setLosses 58 = .ok (.ldc2_w 54, 3) := by decide +kernel
theorem dX0_setLosses_61 : decode cX0_setLosses 61 = .ok (.ldiv, 1) := by decide +kernel
theorem dX0_setLosses_62 : decode cX0_setLosses 62 = .ok (.lstore_n 3, 1) := by decide +kernel
theorem dX0_setLosses_63 : decode cX0_setLosses 63 = .ok (.iinc 5 (-1), 3) := by decide +kernel
theorem dX0_setLosses_66 : decode cX0_setLosses 66 = .ok (.goto (-45), 3) := by decide +kernel
theorem dX0_setLosses_69 : decode cX0_setLosses 69 = .ok (.iconst 1, 1) := by decide +kernel
theorem dX0_setLosses_70 : decode cX0_setLosses 70 = .ok (.ireturn, 1) := by decide +kernel
theorem dX0_setSameLosses_0 : decode cX0_setSameLosses 0 = .ok (.iconst 0, 1) := by decide +kernel
theorem dX0_setSameLosses_1 : decode cX0_setSameLosses 1 = .ok (.istore_n 2, 1) := by decide +kernel
theorem dX0_setSameLosses_2 : decode cX0_setSameLosses 2 = .ok (.iload_n 2, 1) := by decide +kernel
theorem dX0_setSameLosses_3 : decode cX0_setSameLosses 3 = .ok (.bipush 6, 2) := by decide +kernel
theorem dX0_setSameLosses_5 : decode cX0_setSameLosses 5 = .ok (.if_icmp .ge 16, 3) := by decide +kernel
theorem dX0_setSameLosses_8 : decode cX0_setSameLosses 8 = .ok (.aload_n 0, 1) := by decide +kernel
theorem dX0_setSameLosses_9 : decode cX0_setSameLosses 9 = .ok (.getfield 19, 3) := by decide +kernel
theorem dX0_setSameLosses_12 : decode cX0_setSameLosses 12 = .ok (.iload_n 2, 1) := by decide +kernel
theorem dX0_setSameLosses_13 : decode cX0_setSameLosses 13 = .ok (.iload_n 1, 1) := by decide +kernel
theorem dX0_setSameLosses_14 : decode cX0_setSameLosses 14 = .ok (.iastore, 1) := by decide +kernel
theorem dX0_setSameLosses_15 : decode cX0_setSameLosses 15 = .ok (.iinc 2 1, 3) := by decide +kernel
theorem dX0_setSameLosses_18 : decode cX0_setSameLosses 18 = .ok (.goto (-16), 3) := by decide +kernel
theorem dX0_setSameLosses_21 : decode cX0_setSameLosses 21 = .ok (.return_, 1) := by decide +kernel
set_option maxRecDepth 20000 in
theorem ggX0_letRun_X3_noteRun : GoodIn wsX0_letRun wsX3_noteRun := goodIn_r _ [11, 12, 13, 14, 15, 16, 17, 18, 10, 19, 20, 21, 22, 23, 24, 25, 26, 27, 28, 29, 30, 31, 32, 33, 34] (by decide +kernel) (by decide +kernel)
set_option maxRecDepth 20000 in
theorem gX0_letRun_X3_noteRun : GoodIn wsX0_letRun (wsV RX0 74 RX3 yX3_noteRun wsX3_noteRun) := goodIn_app (goodIn_of _ (by decide +kernel)) ggX0_letRun_X3_noteRun
theorem dX0_letRun_0 : decode cX0_letRun 0 = .ok (.aload_n 1, 1) := by decide +kernel
theorem dX0_letRun_1 : decode cX0_letRun 1 = .ok (.iload_n 2, 1) := by decide +kernel
theorem dX0_letRun_2 : decode cX0_letRun 2 = .ok (.putfield 59, 3) := by decide +kernel
theorem dX0_letRun_5 : decode cX0_letRun 5 = .ok (.aload_n 1, 1) := by decide +kernel
theorem dX0_letRun_6 : decode cX0_letRun 6 = .ok (.getfield 62, 3) := by decide +kernel
theorem dX0_letRun_9 : decode cX0_letRun 9 = .ok (.iload_n 3, 1) := by decide +kernel
theorem dX0_letRun_10 : decode cX0_letRun 10 = .ok (.iadd, 1) := by decide +kernel
theorem dX0_letRun_11 : decode cX0_letRun 11 = .ok (.aload_n 1, 1) := by decide +kernel
theorem dX0_letRun_12 : decode cX0_letRun 12 = .ok (.getfield 65, 3) := by decide +kernel
theorem dX0_letRun_15 : decode cX0_letRun 15 = .ok (.if_icmp .le 23, 3) := by decide +kernel
theorem dX0_letRun_18 : decode cX0_letRun 18 = .ok (.aload_n 1, 1) := by decide +kernel
theorem dX0_letRun_19 : decode cX0_letRun 19 = .ok (.aload_n 1, 1) := by decide +kernel
theorem dX0_letRun_20 : decode cX0_letRun 20 = .ok (.getfield 65, 3) := by decide +kernel
theorem dX0_letRun_23 : decode cX0_letRun 23 = .ok (.putfield 62, 3) := by decide +kernel
theorem dX0_letRun_26 : decode cX0_letRun 26 = .ok (.aload_n 1, 1) := by decide +kernel
theorem dX0_letRun_27 : decode cX0_letRun 27 = .ok (.dup, 1) := by decide +kernel
theorem dX0_letRun_28 : decode cX0_letRun 28 = .ok (.getfield 68, 3) := by decide +kernel
theorem dX0_letRun_31 : decode cX0_letRun 31 = .ok (.iconst 1, 1) := by decide +kernel
theorem dX0_letRun_32 : decode cX0_letRun 32 = .ok (.iadd, 1) := by decide +kernel
theorem dX0_letRun_33 : decode cX0_letRun 33 = .ok (.putfield 68, 3) := by decide +kernel
theorem dX0_letRun_36 : decode cX0_letRun 36 = .ok (.iconst 0, 1) := by decide +kernel
theorem dX0_letRun_37 : decode cX0_letRun 37 = .ok (.ireturn, 1) := by decide +kernel
theorem dX0_letRun_38 : decode cX0_letRun 38 = .ok (.aload_n 1, 1) := by decide +kernel
theorem dX0_letRun_39 : decode cX0_letRun 39 = .ok (.dup, 1) := by decide +kernel
theorem dX0_letRun_40 : decode cX0_letRun 40 = .ok (.getfield 62, 3) := by decide +kernel
theorem dX0_letRun_43 : decode cX0_letRun 43 = .ok (.iload_n 3, 1) := by decide +kernel
theorem dX0_letRun_44 : decode cX0_letRun 44 = .ok (.iadd, 1) := by decide +kernel
theorem dX0_letRun_45 : decode cX0_letRun 45 = .ok (.putfield 62, 3) := by decide +kernel
theorem dX0_letRun_48 : decode cX0_letRun 48 = .ok (.aload_n 1, 1) := by decide +kernel
theorem dX0_letRun_49 : decode cX0_letRun 49 = .ok (.dup, 1) := by decide +kernel
theorem dX0_letRun_50 : decode cX0_letRun 50 = .ok (.getfield 71, 3) := by decide +kernel
theorem dX0_letRun_53 : decode cX0_letRun 53 = .ok (.iconst 1, 1) := by decide +kernel
theorem dX0_letRun_54 : decode cX0_letRun 54 = .ok (.iadd, 1) := by decide +kernel
theorem dX0_letRun_55 : decode cX0_letRun 55 = .ok (.putfield 71, 3) := by decide +kernel
theorem dX0_letRun_58 : decode cX0_letRun 58 = .ok (.aload_n 1, 1) := by decide +kernel
theorem dX0_letRun_59 : decode cX0_letRun 59 = .ok (.iload_n 2, 1) := by decide +kernel
theorem dX0_letRun_60 : decode cX0_letRun 60 = .ok (.aload_n 0, 1) := by decide +kernel
theorem dX0_letRun_61 : decode cX0_letRun 61 = .ok (.getfield 19, 3) := by decide +kernel
theorem dX0_letRun_64 : decode cX0_letRun 64 = .ok (.invokevirtual 74, 3) := by decide +kernel
theorem dX0_letRun_67 : decode cX0_letRun 67 = .ok (.iconst 1, 1) := by decide +kernel
theorem dX0_letRun_68 : decode cX0_letRun 68 = .ok (.ireturn, 1) := by decide +kernel
