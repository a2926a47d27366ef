set_option maxRecDepth 20000 in
theorem ggX2_init_X3_init : GoodIn wsX2_init wsX3_init := goodIn_r _ [16, 17, 2, 3, 12, 18, 19, 20, 21, 22, 23, 24, 25, 26, 27, 28, 6, 29, 30, 31, 32, 33, 34, 35, 36, 37, 44, 45, 46, 47, 48, 49, 50, 51, 52, 53, 54, 55, 56, 57, 58] (by decide +kernel) (by decide +kernel)
set_option maxRecDepth 20000 in
theorem gX2_init_X3_init : GoodIn wsX2_init (wsX3_init) := ggX2_init_X3_init
set_option maxRecDepth 20000 in
theorem ggX2_init_X0_init : GoodIn wsX2_init wsX0_init := goodIn_r _ [39, 40, 2, 3, 12, 41, 21, 42, 43, 62, 63, 64, 65] (by decide +kernel) (by decide +kernel)
set_option maxRecDepth 20000 in
theorem gX2_init_X0_init_n20 : GoodIn wsX2_init (wsX0_init) := ggX2_init_X0_init
theorem dX2_init_0 : decode cX2_init 0 = .ok (.aload_n 0, 1) := by decide +kernel
theorem dX2_init_1 : decode cX2_init 1 = .ok (.invokespecial 3, 3) := by decide +kernel
theorem dX2_init_4 : decode cX2_init 4 = .ok (.aload_n 0, 1) := by decide +kernel
theorem dX2_init_5 : decode cX2_init 5 = .ok (.new 9, 3) := by decide +kernel
theorem dX2_init_8 : decode cX2_init 8 = .ok (.dup, 1) := by decide +kernel
theorem dX2_init_9 : decode cX2_init 9 = .ok (.invokespecial 11, 3) := by decide +kernel
theorem dX2_init_12 : decode cX2_init 12 = .ok (.putfield 12, 3) := by decide +kernel
theorem dX2_init_15 : decode cX2_init 15 = .ok (.aload_n 0, 1) := by decide +kernel
theorem dX2_init_16 : decode cX2_init 16 = .ok (.new 18, 3) := by decide +kernel
theorem dX2_init_19 : decode cX2_init 19 = .ok (.dup, 1) := by decide +kernel
theorem dX2_init_20 : decode cX2_init 20 = .ok (.invokespecial 20, 3) := by decide +kernel
theorem dX2_init_23 : decode cX2_init 23 = .ok (.putfield 21, 3) := by decide +kernel
theorem dX2_init_26 : decode cX2_init 26 = .ok (.aload_n 0, 1) := by decide +kernel
theorem dX2_init_27 : decode cX2_init 27 = .ok (.iconst 4, 1) := by decide +kernel
theorem dX2_init_28 : decode cX2_init 28 = .ok (.newarray .int, 2) := by decide +kernel
theorem dX2_init_30 : decode cX2_init 30 = .ok (.putfield 25, 3) := by decide +kernel
theorem dX2_init_33 : decode cX2_init 33 = .ok (.return_, 1) := by decide +kernel
theorem dX2_readScript_0 : decode cX2_readScript 0 = .ok (.lload_n 2, 1) := by decide +kernel
theorem dX2_readScript_1 : decode cX2_readScript 1 = .ok (.lconst 0, 1) := by decide +kernel
theorem dX2_readScript_2 : decode cX2_readScript 2 = .ok (.lcmp, 1) := by decide +kernel
theorem dX2_readScript_3 : decode cX2_readScript 3 = .ok (.ifCond .ge 5, 3) := by decide +kernel
theorem dX2_readScript_6 : decode cX2_readScript 6 = .ok (.iconst 0, 1) := by decide +kernel
theorem dX2_readScript_7 : decode cX2_readScript 7 = .ok (.ireturn, 1) := by decide +kernel
theorem dX2_readScript_8 : decode cX2_readScript 8 = .ok (.lload_n 2, 1) := by decide +kernel
theorem dX2_readScript_9 : decode cX2_readScript 9 = .ok (.lstore 4, 2) := by decide +kernel
theorem dX2_readScript_11 : decode cX2_readScript 11 = .ok (.iload_n 1, 1) := by decide +kernel
theorem dX2_readScript_12 : decode cX2_readScript 12 = .ok (.iconst 1, 1) := by decide +kernel
theorem dX2_readScript_13 : decode cX2_readScript 13 = .ok (.isub, 1) := by decide +kernel
theorem dX2_readScript_14 : decode cX2_readScript 14 = .ok (.istore 6, 2) := by decide +kernel
theorem dX2_readScript_16 : decode cX2_readScript 16 = .ok (.iload 6, 2) := by decide +kernel
theorem dX2_readScript_18 : decode cX2_readScript 18 = .ok (.ifCond .lt 31, 3) := by decide +kernel
theorem dX2_readScript_21 : decode cX2_readScript 21 = .ok (.aload_n 0, 1) := by decide +kernel
theorem dX2_readScript_22 : decode cX2_readScript 22 = .ok (.getfield 25, 3) := by decide +kernel
theorem dX2_readScript_25 : decode cX2_readScript 25 = .ok (.iload 6, 2) := by decide +kernel
theorem dX2_readScript_27 : decode cX2_readScript 27 = .ok (.lload 4, 2) := by decide +kernel
theorem dX2_readScript_29 : decode cX2_readScript 29 = .ok (.ldc2_w 29, 3) := by decide +kernel
theorem dX2_readScript_32 : decode cX2_readScript 32 = .ok (.lrem, 1) := by decide +kernel
theorem dX2_readScript_33 : decode cX2_readScript 33 = .ok (.l2i, 1) := by decide +kernel
theorem dX2_readScript_34 : decode cX2_readScript 34 = .ok (.iastore, 1) := by decide +kernel
theorem dX2_readScript_35 : decode cX2_readScript 35 = .ok (.lload 4, 2) := by decide +kernel
theorem dX2_readScript_37 : decode cX2_readScript 37 = .ok (.ldc2_w 29, 3) := by decide +kernel
theorem dX2_readScript_40 : decode cX2_readScript 40 = .ok (.ldiv, 1) := by decide +kernel
theorem dX2_readScript_41 : decode cX2_readScript 41 = .ok (.lstore 4, 2) := by decide +kernel
theorem dX2_readScript_43 : decode cX2_readScript 43 = .ok (.iinc 6 (-1), 3) := by decide +kernel
theorem dX2_readScript_46 : decode cX2_readScript 46 = .ok (.goto (-30), 3) := by decide +kernel
theorem dX2_readScript_49 : decode cX2_readScript 49 = .ok (.lload 4, 2) := by decide +kernel
theorem dX2_readScript_51 : decode cX2_readScript 51 = .ok (.lconst 0, 1) := by decide +kernel
theorem dX2_readScript_52 : decode cX2_readScript 52 = .ok (.lcmp, 1) := by decide +kernel
theorem dX2_readScript_53 : decode cX2_readScript 53 = .ok (.ifCond .ne 7, 3) := by decide +kernel
theorem dX2_readScript_56 : decode cX2_readScript 56 = .ok (.iconst 1, 1) := by decide +kernel
theorem dX2_readScript_57 : decode cX2_readScript 57 = .ok (.goto 4, 3) := by decide +kernel
theorem dX2_readScript_60 : decode cX2_readScript 60 = .ok (.iconst 0, 1) := by decide +kernel
theorem dX2_readScript_61 : decode cX2_readScript 61 = .ok (.ireturn, 1) := by decide +kernel
set_option maxRecDepth 20000 in
theorem ggX2_firstFailure_X3_copyFrom : GoodIn wsX2_firstFailure wsX3_copyFrom := goodIn_r _ [7, 8, 9, 10, 11, 12, 13, 14, 15, 16, 17, 18, 19, 20, 21, 22, 23, 24, 25, 26, 156, 157, 158, 159, 160, 161, 162, 163, 164, 165, 166, 167, 168, 169, 170] (by decide +kernel) (by decide +kernel)
set_option maxRecDepth 20000 in
theorem gX2_firstFailure_X3_copyFrom : GoodIn wsX2_firstFailure (wsV RX2 31 RX3 yX3_copyFrom wsX3_copyFrom) := goodIn_app (goodIn_of _ (by decide +kernel)) ggX2_firstFailure_X3_copyFrom
set_option maxRecDepth 20000 in
theorem ggX2_firstFailure_X2_succeeds : GoodIn wsX2_firstFailure wsX2_succeeds := goodIn_r _ [31, 1, 32, 33, 34, 35, 30, 36, 37, 38, 39, 40, 41, 42, 43, 44, 45, 46, 47, 48, 49, 50, 51, 52, 53, 54, 6, 55, 23, 8, 9, 56, 57, 58, 59, 60, 61, 62, 63, 64, 65, 66, 67, 68, 21, 22, 69, 70, 71, 72, 73, 74, 75, 76, 15, 77, 78, 79, 80, 81, 82, 83, 84, 85, 86, 87, 88, 89, 90, 91, 92, 93, 94, 17, 19, 16, 95, 96, 97, 98, 99, 100, 101, 102, 103, 104, 105, 106, 107, 108, 109, 110, 111, 112, 113, 114, 115, 116, 117, 26, 118, 119, 120, 121, 122, 123, 124, 125, 126, 127, 20, 128, 129, 130, 131, 132, 133, 134, 135, 136, 137, 138, 139, 140, 141, 142, 143, 18, 144, 145, 146, 147, 148, 149, 150, 151, 152, 153, 154, 155, 156, 157, 158, 159, 160, 161, 162, 163, 164, 165, 166, 167, 168, 169, 170, 171, 172, 173, 174] (by decide +kernel) (by decide +kernel)
set_option maxRecDepth 20000 in
theorem gX2_firstFailure_X2_succeeds : GoodIn wsX2_firstFailure (wsV RX2 35 RX2 yX2_succeeds wsX2_succeeds) := goodIn_app (goodIn_of _ (by decide +kernel)) ggX2_firstFailure_X2_succeeds
theorem dX2_firstFailure_0 : decode cX2_firstFailure 0 = .ok (.aload_n 0, 1) := by decide +kernel
theorem dX2_firstFailure_1 : decode cX2_firstFailure 1 = .ok (.getfield 12, 3) := by decide +kernel
theorem dX2_firstFailure_4 : decode cX2_firstFailure 4 = .ok (.aload_n 1, 1) := by decide +kernel
theorem dX2_firstFailure_5 : decode cX2_firstFailure 5 = .ok (.invokevirtual 31, 3) := by decide +kernel
theorem dX2_firstFailure_8 : decode cX2_firstFailure 8 = .ok (.iconst 0, 1) := by decide +kernel
theorem dX2_firstFailure_9 : decode cX2_firstFailure 9 = .ok (.istore_n 3, 1) := by decide +kernel
theorem dX2_firstFailure_10 : decode cX2_firstFailure 10 = .ok (.iload_n 3, 1) := by decide +kernel
theorem dX2_firstFailure_11 : decode cX2_firstFailure 11 = .ok (.iload_n 2, 1) := by decide +kernel
theorem dX2_firstFailure_12 : decode cX2_firstFailure 12 = .ok (.if_icmp .ge 24, 3) := by decide +kernel
theorem dX2_firstFailure_15 : decode cX2_firstFailure 15 = .ok (.aload_n 0, 1) := by decide +kernel
theorem dX2_firstFailure_16 : decode cX2_firstFailure 16 = .ok (.aload_n 0, 1) := by decide +kernel
theorem dX2_firstFailure_17 : decode cX2_firstFailure 17 = .ok (.getfield 25, 3) := by decide +kernel
theorem dX2_firstFailure_20 : decode cX2_firstFailure 20 = .ok (.iload_n 3, 1) := by decide +kernel
theorem dX2_firstFailure_21 : decode cX2_firstFailure 21 = .ok (.iaload, 1) := by decide +kernel
theorem dX2_firstFailure_22 : decode cX2_firstFailure 22 = .ok (.invokevirtual 35, 3) := by decide +kernel
theorem dX2_firstFailure_25 : decode cX2_firstFailure 25 = .ok (.ifCond .ne 5, 3) := by decide +kernel
theorem dX2_firstFailure_28 : decode cX2_firstFailure 28 = .ok (.iload_n 3, 1) := by decide +kernel
theorem dX2_firstFailure_29 : decode cX2_firstFailure 29 = .ok (.ireturn, 1) := by decide +kernel
theorem dX2_firstFailure_30 : decode cX2_firstFailure 30 = .ok (.iinc 3 1, 3) := by decide +kernel
theorem dX2_firstFailure_33 : decode cX2_firstFailure 33 = .ok (.goto (-23), 3) := by decide +kernel
theorem dX2_firstFailure_36 : decode cX2_firstFailure 36 = .ok (.bipush (-9), 2) := by decide +kernel
theorem dX2_firstFailure_38 : decode cX2_firstFailure 38 = .ok (.ireturn, 1) := by decide +kernel
set_option maxRecDepth 20000 in
theorem ggX2_succeeds_X2_letFirstRun : GoodIn wsX2_succeeds wsX2_letFirstRun := goodIn_r _ [7, 8, 1, 9, 10, 11, 12, 13, 14, 15, 16, 17, 18, 19, 20, 21, 22, 23, 24, 25, 26, 27, 28, 29, 30, 31, 32, 33, 34, 35, 36, 37, 38, 39, 40, 41, 42, 43, 44, 45, 46, 47, 48, 49, 50, 51, 52, 53, 54, 55, 56, 57, 58, 59, 60, 61, 62, 63, 64, 65, 66, 67, 68, 69, 70, 71, 72, 73, 74, 75, 76, 77, 78, 79, 137, 138, 139, 155, 156, 157, 158, 140, 141, 142, 143, 144, 145, 146, 147, 148, 149, 150, 151, 152, 153, 154] (by decide +kernel) (by decide +kernel)
set_option maxRecDepth 20000 in
theorem gX2_succeeds_X2_letFirstRun : GoodIn wsX2_succeeds (wsV RX2 39 RX2 yX2_letFirstRun wsX2_letFirstRun) := goodIn_app (goodIn_of _ (by decide +kernel)) ggX2_succeeds_X2_letFirstRun
set_option maxRecDepth 20000 in
theorem ggX2_succeeds_X2_takeOut : GoodIn wsX2_succeeds wsX2_takeOut := goodIn_r _ [83, 1, 84, 85, 86, 87, 26, 88, 29, 137, 138, 139, 140, 141, 142, 143, 144, 145, 146, 147, 148, 149, 150, 151, 152, 153, 154] (by decide +kernel) (by decide +kernel)
set_option maxRecDepth 20000 in
theorem gX2_succeeds_X2_takeOut : GoodIn wsX2_succeeds (wsV RX2 43 RX2 yX2_takeOut wsX2_takeOut) := goodIn_app (goodIn_of _ (by decide +kernel)) ggX2_succeeds_X2_takeOut
set_option maxRecDepth 20000 in
theorem ggX2_succeeds_X2_tellInterference : GoodIn wsX2_succeeds wsX2_tellInterference := goodIn_r _ [92, 1, 84, 85, 86, 87, 26, 88, 29, 93, 38, 94, 95, 96, 97, 98, 54, 75, 99, 137, 138, 139, 140, 141, 142, 143, 144, 145, 146, 147, 148, 149, 150, 151, 152, 153, 154] (by decide +kernel) (by decide +kernel)
set_option maxRecDepth 20000 in
theorem gX2_succeeds_X2_tellInterference : GoodIn wsX2_succeeds (wsV RX2 46 RX2 yX2_tellInterference wsX2_tellInterference) := goodIn_app (goodIn_of _ (by decide +kernel)) ggX2_succeeds_X2_tellInterference
set_option maxRecDepth 20000 in
theorem ggX2_succeeds_X2_startDay : GoodIn wsX2_succeeds wsX2_startDay := goodIn_r _ [103, 1, 104, 38, 105, 106, 107, 108, 26, 109, 110, 44, 45, 137, 138, 139, 140, 141, 142, 143, 144, 145, 146, 147, 148, 149, 150, 151, 152, 153, 154] (by decide +kernel) (by decide +kernel)
set_option maxRecDepth 20000 in
theorem gX2_succeeds_X2_startDay : GoodIn wsX2_succeeds (wsV RX2 49 RX2 yX2_startDay wsX2_startDay) := goodIn_app (goodIn_of _ (by decide +kernel)) ggX2_succeeds_X2_startDay
set_option maxRecDepth 20000 in
theorem ggX2_succeeds_X2_isInOrder : GoodIn wsX2_succeeds wsX2_isInOrder := goodIn_r _ [114, 1, 8, 85, 86, 87, 26, 88, 29, 115, 116, 117, 12, 118, 14, 15, 16, 17, 18, 19, 20, 21, 22, 23, 24, 25, 27, 28, 30, 31, 32, 33, 34, 35, 36, 137, 138, 139, 140, 141, 142, 143, 144, 145, 146, 147, 148, 149, 150, 151, 152, 153, 154, 155, 156, 157, 158] (by decide +kernel) (by decide +kernel)
set_option maxRecDepth 20000 in
theorem gX2_succeeds_X2_isInOrder : GoodIn wsX2_succeeds (wsV RX2 52 RX2 yX2_isInOrder wsX2_isInOrder) := goodIn_app (goodIn_of _ (by decide +kernel)) ggX2_succeeds_X2_isInOrder
set_option maxRecDepth 20000 in
theorem ggX2_succeeds_X3_hasDog : GoodIn wsX2_succeeds wsX3_hasDog := goodIn_r _ [88, 29, 140, 141, 142, 143, 144, 145, 146, 147, 148, 149, 150, 151, 152, 153, 154] (by decide +kernel) (by decide +kernel)
set_option maxRecDepth 20000 in
theorem gX2_succeeds_X3_hasDog : GoodIn wsX2_succeeds (wsV RX2 55 RX3 yX3_hasDog wsX3_hasDog) := goodIn_app (goodIn_of _ (by decide +kernel)) ggX2_succeeds_X3_hasDog
set_option maxRecDepth 20000 in
theorem ggX2_succeeds_X3_placeOf : GoodIn wsX2_succeeds wsX3_placeOf := goodIn_r _ [122, 74, 29, 123, 124, 125, 26, 126, 127, 128, 129, 130, 131, 132, 133, 134, 135, 75, 73, 140, 141, 142, 143, 144, 145, 146, 147, 148, 149, 150, 151, 152, 153, 154] (by decide +kernel) (by decide +kernel)
set_option maxRecDepth 20000 in
theorem gX2_succeeds_X3_placeOf : GoodIn wsX2_succeeds (wsV RX2 58 RX3 yX3_placeOf wsX3_placeOf) := goodIn_app (goodIn_of _ (by decide +kernel)) ggX2_succeeds_X3_placeOf
set_option maxRecDepth 20000 in
theorem ggX2_succeeds_X3_dogsToRun : GoodIn wsX2_succeeds wsX3_dogsToRun := goodIn_r _ [49, 29, 50, 51, 52, 26, 53, 54, 140, 141, 142, 143, 144, 145, 146, 147, 148, 149, 150, 151, 152, 153, 154] (by decide +kernel) (by decide +kernel)
set_option maxRecDepth 20000 in
theorem gX2_succeeds_X3_dogsToRun : GoodIn wsX2_succeeds (wsV RX2 66 RX3 yX3_dogsToRun wsX3_dogsToRun) := goodIn_app (goodIn_of _ (by decide +kernel)) ggX2_succeeds_X3_dogsToRun
set_option maxRecDepth 20000 in
theorem ggX2_succeeds_X3_obstacle : GoodIn wsX2_succeeds wsX3_obstacle := goodIn_r _ [43, 44, 45, 46, 47, 48, 26, 49, 29, 50, 51, 52, 53, 54, 140, 141, 142, 143, 144, 145, 146, 147, 148, 149, 150, 151, 152, 153, 154] (by decide +kernel) (by decide +kernel)
set_option maxRecDepth 20000 in
theorem gX2_succeeds_X3_obstacle : GoodIn wsX2_succeeds (wsV RX2 70 RX3 yX3_obstacle wsX3_obstacle) := goodIn_app (goodIn_of _ (by decide +kernel)) ggX2_succeeds_X3_obstacle
theorem dX2_succeeds_0 : decode cX2_succeeds 0 = .ok (.iload_n 1, 1) := by decide +kernel
theorem dX2_succeeds_1 : decode cX2_succeeds 1 = .ok (.bipush 100, 2) := by decide +kernel
theorem dX2_succeeds_3 : decode cX2_succeeds 3 = .ok (.idiv, 1) := by decide +kernel
theorem dX2_succeeds_4 : decode cX2_succeeds 4 = .ok (.bipush 10, 2) := by decide +kernel
theorem dX2_succeeds_6 : decode cX2_succeeds 6 = .ok (.irem, 1) := by decide +kernel
theorem dX2_succeeds_7 : decode cX2_succeeds 7 = .ok (.istore_n 2, 1) := by decide +kernel
theorem dX2_succeeds_8 : decode cX2_succeeds 8 = .ok (.iload_n 1, 1) := by decide +kernel
theorem dX2_succeeds_9 : decode cX2_succeeds 9 = .ok (.bipush 100, 2) := by decide +kernel
theorem dX2_succeeds_11 : decode cX2_succeeds 11 = .ok (.irem, 1) := by decide +kernel
theorem dX2_succeeds_12 : decode cX2_succeeds 12 = .ok (.istore_n 3, 1) := by decide +kernel
theorem dX2_succeeds_13 : decode cX2_succeeds 13 = .ok (.iload_n 1, 1) := by decide +kernel
theorem dX2_succeeds_14 : decode cX2_succeeds 14 = .ok (.sipush 1000, 3) := by decide +kernel
theorem dX2_succeeds_17 : decode cX2_succeeds 17 = .ok (.irem, 1) := by decide +kernel
theorem dX2_succeeds_18 : decode cX2_succeeds 18 = .ok (.istore 4, 2) := by decide +kernel
theorem dX2_succeeds_20 : decode cX2_succeeds 20 = .ok (.iload_n 1, 1) := by decide +kernel
theorem dX2_succeeds_21 : decode cX2_succeeds 21 = .ok (.sipush 1000, 3) := by decide +kernel
theorem dX2_succeeds_24 : decode cX2_succeeds 24 = .ok (.idiv, 1) := by decide +kernel
theorem dX2_succeeds_25 : decode cX2_succeeds 25 = .ok (.tableswitch 204 1 9 #[51, 58, 76, 83, 90, 115, 144, 162, 183], 51) := by decide +kernel
theorem dX2_succeeds_76 : decode cX2_succeeds 76 = .ok (.aload_n 0, 1) := by decide +kernel
theorem dX2_succeeds_77 : decode cX2_succeeds 77 = .ok (.iload_n 2, 1) := by decide +kernel
theorem dX2_succeeds_78 : decode cX2_succeeds 78 = .ok (.iload_n 3, 1) := by decide +kernel
theorem dX2_succeeds_79 : decode cX2_succeeds 79 = .ok (.invokevirtual 39, 3) := by decide +kernel
theorem dX2_succeeds_82 : decode cX2_succeeds 82 = .ok (.ireturn, 1) := by decide +kernel
theorem dX2_succeeds_83 : decode cX2_succeeds 83 = .ok (.iload_n 2, 1) := by decide +kernel
theorem dX2_succeeds_84 : decode cX2_succeeds 84 = .ok (.ifCond .ne 15, 3) := by decide +kernel
theorem dX2_succeeds_87 : decode cX2_succeeds 87 = .ok (.aload_n 0, 1) := by decide +kernel
theorem dX2_succeeds_88 : decode cX2_succeeds 88 = .ok (.iload_n 3, 1) := by decide +kernel
theorem dX2_succeeds_89 : decode cX2_succeeds 89 = .ok (.invokevirtual 43, 3) := by decide +kernel
theorem dX2_succeeds_92 : decode cX2_succeeds 92 = .ok (.ifCond .eq 7, 3) := by decide +kernel
theorem dX2_succeeds_95 : decode cX2_succeeds 95 = .ok (.iconst 1, 1) := by decide +kernel
theorem dX2_succeeds_96 : decode cX2_succeeds 96 = .ok (.goto 4, 3) := by decide +kernel
theorem dX2_succeeds_99 : decode cX2_succeeds 99 = .ok (.iconst 0, 1) := by decide +kernel
theorem dX2_succeeds_100 : decode cX2_succeeds 100 = .ok (.ireturn, 1) := by decide +kernel
theorem dX2_succeeds_101 : decode cX2_succeeds 101 = .ok (.aload_n 0, 1) := by decide +kernel
theorem dX2_succeeds_102 : decode cX2_succeeds 102 = .ok (.iload_n 3, 1) := by decide +kernel
theorem dX2_succeeds_103 : decode cX2_succeeds 103 = .ok (.iload_n 2, 1) := by decide +kernel
theorem dX2_succeeds_104 : decode cX2_succeeds 104 = .ok (.invokevirtual 46, 3) := by decide +kernel
theorem dX2_succeeds_107 : decode cX2_succeeds 107 = .ok (.ireturn, 1) := by decide +kernel
theorem dX2_succeeds_108 : decode cX2_succeeds 108 = .ok (.aload_n 0, 1) := by decide +kernel
theorem dX2_succeeds_109 : decode cX2_succeeds 109 = .ok (.iload 4, 2) := by decide +kernel
theorem dX2_succeeds_111 : decode cX2_succeeds 111 = .ok (.invokevirtual 49, 3) := by decide +kernel
theorem dX2_succeeds_114 : decode cX2_succeeds 114 = .ok (.ireturn, 1) := by decide +kernel
theorem dX2_succeeds_115 : decode cX2_succeeds 115 = .ok (.iload_n 2, 1) := by decide +kernel
theorem dX2_succeeds_116 : decode cX2_succeeds 116 = .ok (.ifCond .ne 22, 3) := by decide +kernel
theorem dX2_succeeds_119 : decode cX2_succeeds 119 = .ok (.aload_n 0, 1) := by decide +kernel
theorem dX2_succeeds_120 : decode cX2_succeeds 120 = .ok (.iload_n 1, 1) := by decide +kernel
theorem dX2_succeeds_121 : decode cX2_succeeds 121 = .ok (.bipush 10, 2) := by decide +kernel
theorem dX2_succeeds_123 : decode cX2_succeeds 123 = .ok (.irem, 1) := by decide +kernel
theorem dX2_succeeds_124 : decode cX2_succeeds 124 = .ok (.iload_n 3, 1) := by decide +kernel
theorem dX2_succeeds_125 : decode cX2_succeeds 125 = .ok (.bipush 10, 2) := by decide +kernel
theorem dX2_succeeds_127 : decode cX2_succeeds 127 = .ok (.idiv, 1) := by decide +kernel
theorem dX2_succeeds_128 : decode cX2_succeeds 128 = .ok (.invokevirtual 52, 3) := by decide +kernel
theorem dX2_succeeds_131 : decode cX2_succeeds 131 = .ok (.ifCond .eq 7, 3) := by decide +kernel
theorem dX2_succeeds_134 : decode cX2_succeeds 134 = .ok (.iconst 1, 1) := by decide +kernel
theorem dX2_succeeds_135 : decode cX2_succeeds 135 = .ok (.goto 4, 3) := by decide +kernel
theorem dX2_succeeds_138 : decode cX2_succeeds 138 = .ok (.iconst 0, 1) := by decide +kernel
theorem dX2_succeeds_139 : decode cX2_succeeds 139 = .ok (.ireturn, 1) := by decide +kernel
theorem dX2_succeeds_140 : decode cX2_succeeds 140 = .ok (.aload_n 0, 1) := by decide +kernel
theorem dX2_succeeds_141 : decode cX2_succeeds 141 = .ok (.getfield 12, 3) := by decide +kernel
theorem dX2_succeeds_144 : decode cX2_succeeds 144 = .ok (.iload_n 3, 1) := by decide +kernel
theorem dX2_succeeds_145 : decode cX2_succeeds 145 = .ok (.invokevirtual 55, 3) := by decide +kernel
theorem dX2_succeeds_148 : decode cX2_succeeds 148 = .ok (.ifCond .eq 19, 3) := by decide +kernel
theorem dX2_succeeds_151 : decode cX2_succeeds 151 = .ok (.aload_n 0, 1) := by decide +kernel
theorem dX2_succeeds_152 : decode cX2_succeeds 152 = .ok (.getfield 12, 3) := by decide +kernel
theorem dX2_succeeds_155 : decode cX2_succeeds 155 = .ok (.iload_n 3, 1) := by decide +kernel
theorem dX2_succeeds_156 : decode cX2_succeeds 156 = .ok (.invokevirtual 58, 3) := by decide +kernel
theorem dX2_succeeds_159 : decode cX2_succeeds 159 = .ok (.iload_n 2, 1) := by decide +kernel
theorem dX2_succeeds_160 : decode cX2_succeeds 160 = .ok (.if_icmp .ne 7, 3) := by decide +kernel
theorem dX2_succeeds_163 : decode cX2_succeeds 163 = .ok (.iconst 1, 1) := by decide +kernel
theorem dX2_succeeds_164 : decode cX2_succeeds 164 = .ok (.goto 4, 3) := by decide +kernel
theorem dX2_succeeds_167 : decode cX2_succeeds 167 = .ok (.iconst 0, 1) := by decide +kernel
theorem dX2_succeeds_168 : decode cX2_succeeds 168 = .ok (.ireturn, 1) := by decide +kernel
theorem dX2_succeeds_169 : decode cX2_succeeds 169 = .ok (.aload_n 0, 1) := by decide +kernel
theorem dX2_succeeds_170 : decode cX2_succeeds 170 = .ok (.getfield 12, 3) := by decide +kernel
theorem dX2_succeeds_173 : decode cX2_succeeds 173 = .ok (.getfield 62, 3) := by decide +kernel
theorem dX2_succeeds_176 : decode cX2_succeeds 176 = .ok (.iload 4, 2) := by decide +kernel
theorem dX2_succeeds_178 : decode cX2_succeeds 178 = .ok (.if_icmp .lt 7, 3) := by decide +kernel
theorem dX2_succeeds_181 : decode cX2_succeeds 181 = .ok (.iconst 1, 1) := by decide +kernel
theorem dX2_succeeds_182 : decode cX2_succeeds 182 = .ok (.goto 4, 3) := by decide +kernel
theorem dX2_succeeds_185 : decode cX2_succeeds 185 = .ok (.iconst 0, 1) := by decide +kernel
theorem dX2_succeeds_186 : decode cX2_succeeds 186 = .ok (.ireturn, 1) := by decide +kernel
theorem dX2_succeeds_187 : decode cX2_succeeds 187 = .ok (.iload_n 2, 1) := by decide +kernel
theorem dX2_succeeds_188 : decode cX2_succeeds 188 = .ok (.ifCond .ne 18, 3) := by decide +kernel
theorem dX2_succeeds_191 : decode cX2_succeeds 191 = .ok (.aload_n 0, 1) := by decide +kernel
theorem dX2_succeeds_192 : decode cX2_succeeds 192 = .ok (.getfield 12, 3) := by decide +kernel
theorem dX2_succeeds_195 : decode cX2_succeeds 195 = .ok (.invokevirtual 66, 3) := by decide +kernel
theorem dX2_succeeds_198 : decode cX2_succeeds 198 = .ok (.iload_n 3, 1) := by decide +kernel
theorem dX2_succeeds_199 : decode cX2_succeeds 199 = .ok (.if_icmp .ne 7, 3) := by decide +kernel
theorem dX2_succeeds_202 : decode cX2_succeeds 202 = .ok (.iconst 1, 1) := by decide +kernel
theorem dX2_succeeds_203 : decode cX2_succeeds 203 = .ok (.goto 4, 3) := by decide +kernel
theorem dX2_succeeds_206 : decode cX2_succeeds 206 = .ok (.iconst 0, 1) := by decide +kernel
theorem dX2_succeeds_207 : decode cX2_succeeds 207 = .ok (.ireturn, 1) := by decide +kernel
theorem dX2_succeeds_208 : decode cX2_succeeds 208 = .ok (.iload_n 2, 1) := by decide +kernel
theorem dX2_succeeds_209 : decode cX2_succeeds 209 = .ok (.ifCond .ne 18, 3) := by decide +kernel
theorem dX2_succeeds_212 : decode cX2_succeeds 212 = .ok (.aload_n 0, 1) := by decide +kernel
theorem dX2_succeeds_213 : decode cX2_succeeds 213 = .ok (.getfield 12, 3) := by decide +kernel
theorem dX2_succeeds_216 : decode cX2_succeeds 216 = .ok (.invokevirtual 70, 3) := by decide +kernel
theorem dX2_succeeds_219 : decode cX2_succeeds 219 = .ok (.iload_n 3, 1) := by decide +kernel
theorem dX2_succeeds_220 : decode cX2_succeeds 220 = .ok (.if_icmp .ne 7, 3) := by decide +kernel
theorem dX2_succeeds_223 : decode cX2_succeeds 223 = .ok (.iconst 1, 1) := by decide +kernel
theorem dX2_succeeds_224 : decode cX2_succeeds 224 = .ok (.goto 4, 3) := by decide +kernel
theorem dX2_succeeds_227 : decode cX2_succeeds 227 = .ok (.iconst 0, 1) := by decide +kernel
theorem dX2_succeeds_228 : decode cX2_succeeds 228 = .ok (.ireturn, 1) := by decide +kernel
theorem dX2_succeeds_229 : decode cX2_succeeds 229 = .ok (.iconst 0, 1) := by decide +kernel
theorem dX2_succeeds_230 : decode cX2_succeeds 230 = .ok (.ireturn, 1) := by decide +kernel
set_option maxRecDepth 20000 in
theorem ggX2_letFirstRun_X0_firstToRun : GoodIn wsX2_letFirstRun wsX0_firstToRun := goodIn_r _ [7, 8, 9, 10, 11, 12, 6, 13, 14, 15, 16, 17, 18, 19, 20, 21, 22, 23, 24, 25, 26, 27, 28, 29, 30, 77, 78, 79, 80, 81, 82, 83, 84, 85, 86, 87, 88, 89, 90, 91, 92, 93, 94, 95] (by decide +kernel) (by decide +kernel)
set_option maxRecDepth 20000 in
theorem gX2_letFirstRun_X0_firstToRun : GoodIn wsX2_letFirstRun (wsV RX2 73 RX0 yX0_firstToRun wsX0_firstToRun) := goodIn_app (goodIn_of _ (by decide +kernel)) ggX2_letFirstRun_X0_firstToRun
set_option maxRecDepth 20000 in
theorem ggX2_letFirstRun_X5_isMinutes : GoodIn wsX2_letFirstRun wsX5_isMinutes := goodIn_r _ [33] (by decide +kernel) (by decide +kernel)
set_option maxRecDepth 20000 in
theorem gX2_letFirstRun_X5_isMinutes_n77 : GoodIn wsX2_letFirstRun (wsX5_isMinutes) := ggX2_letFirstRun_X5_isMinutes
set_option maxRecDepth 20000 in
theorem ggX2_letFirstRun_X3_obstacle : GoodIn wsX2_letFirstRun wsX3_obstacle := goodIn_r _ [37, 38, 39, 40, 41, 42, 20, 43, 23, 44, 45, 46, 47, 48, 81, 82, 83, 84, 85, 86, 87, 88, 89, 90, 91, 92, 93, 94, 95] (by decide +kernel) (by decide +kernel)
set_option maxRecDepth 20000 in
theorem gX2_letFirstRun_X3_obstacle : GoodIn wsX2_letFirstRun (wsV RX2 70 RX3 yX3_obstacle wsX3_obstacle) := goodIn_app (goodIn_of _ (by decide +kernel)) ggX2_letFirstRun_X3_obstacle
set_option maxRecDepth 20000 in
theorem ggX2_letFirstRun_X0_setSameLosses : GoodIn wsX2_letFirstRun wsX0_setSameLosses := goodIn_r _ [52, 53, 77, 78, 79, 80] (by decide +kernel) (by decide +kernel)
set_option maxRecDepth 20000 in
theorem gX2_letFirstRun_X0_setSameLosses : GoodIn wsX2_letFirstRun (wsV RX2 80 RX0 yX0_setSameLosses wsX0_setSameLosses) := goodIn_app (goodIn_of _ (by decide +kernel)) ggX2_letFirstRun_X0_setSameLosses
set_option maxRecDepth 20000 in
theorem ggX2_letFirstRun_X0_letRun : GoodIn wsX2_letFirstRun wsX0_letRun := goodIn_r _ [57, 58, 59, 60, 61, 62, 53, 63, 64, 65, 20, 66, 67, 48, 68, 69, 70, 71, 72, 73, 81, 82, 83, 84, 85, 86, 87, 88, 89, 90, 91, 92, 93, 94, 95, 77, 78, 79, 80] (by decide +kernel) (by decide +kernel)
set_option maxRecDepth 20000 in
theorem gX2_letFirstRun_X0_letRun : GoodIn wsX2_letFirstRun (wsV RX2 84 RX0 yX0_letRun wsX0_letRun) := goodIn_app (goodIn_of _ (by decide +kernel)) ggX2_letFirstRun_X0_letRun
theorem dX2_letFirstRun_0 : decode cX2_letFirstRun 0 = .ok (.aload_n 0, 1) := by decide +kernel
theorem dX2_letFirstRun_1 : decode cX2_letFirstRun 1 = .ok (.getfield 21, 3) := by decide +kernel
theorem dX2_letFirstRun_4 : decode cX2_letFirstRun 4 = .ok (.aload_n 0, 1) := by decide +kernel
theorem dX2_letFirstRun_5 : decode cX2_letFirstRun 5 = .ok (.getfield 12, 3) := by decide +kernel
theorem dX2_letFirstRun_8 : decode cX2_letFirstRun 8 = .ok (.invokevirtual 73, 3) := by decide +kernel
theorem dX2_letFirstRun_11 : decode cX2_letFirstRun 11 = .ok (.istore_n 3, 1) := by decide +kernel
theorem dX2_letFirstRun_12 : decode cX2_letFirstRun 12 = .ok (.iload_n 2, 1) := by decide +kernel
theorem dX2_letFirstRun_13 : decode cX2_letFirstRun 13 = .ok (.invokestatic 77, 3) := by decide +kernel
theorem dX2_letFirstRun_16 : decode cX2_letFirstRun 16 = .ok (.ifCond .eq 19, 3) := by decide +kernel
theorem dX2_letFirstRun_19 : decode cX2_letFirstRun 19 = .ok (.iload_n 3, 1) := by decide +kernel
theorem dX2_letFirstRun_20 : decode cX2_letFirstRun 20 = .ok (.bipush (-9), 2) := by decide +kernel
theorem dX2_letFirstRun_22 : decode cX2_letFirstRun 22 = .ok (.if_icmp .eq 13, 3) := by decide +kernel
theorem dX2_letFirstRun_25 : decode cX2_letFirstRun 25 = .ok (.aload_n 0, 1) := by decide +kernel
theorem dX2_letFirstRun_26 : decode cX2_letFirstRun 26 = .ok (.getfield 12, 3) := by decide +kernel
theorem dX2_letFirstRun_29 : decode cX2_letFirstRun 29 = .ok (.invokevirtual 70, 3) := by decide +kernel
theorem dX2_letFirstRun_32 : decode cX2_letFirstRun 32 = .ok (.ifCond .eq 5, 3) := by decide +kernel
theorem dX2_letFirstRun_35 : decode cX2_letFirstRun 35 = .ok (.iconst 0, 1) := by decide +kernel
theorem dX2_letFirstRun_36 : decode cX2_letFirstRun 36 = .ok (.ireturn, 1) := by decide +kernel
theorem dX2_letFirstRun_37 : decode cX2_letFirstRun 37 = .ok (.aload_n 0, 1) := by decide +kernel
theorem dX2_letFirstRun_38 : decode cX2_letFirstRun 38 = .ok (.getfield 21, 3) := by decide +kernel
theorem dX2_letFirstRun_41 : decode cX2_letFirstRun 41 = .ok (.iload_n 1, 1) := by decide +kernel
theorem dX2_letFirstRun_42 : decode cX2_letFirstRun 42 = .ok (.invokevirtual 80, 3) := by decide +kernel
theorem dX2_letFirstRun_45 : decode cX2_letFirstRun 45 = .ok (.aload_n 0, 1) := by decide +kernel
theorem dX2_letFirstRun_46 : decode cX2_letFirstRun 46 = .ok (.getfield 21, 3) := by decide +kernel
theorem dX2_letFirstRun_49 : decode cX2_letFirstRun 49 = .ok (.aload_n 0, 1) := by decide +kernel
theorem dX2_letFirstRun_50 : decode cX2_letFirstRun 50 = .ok (.getfield 12, 3) := by decide +kernel
theorem dX2_letFirstRun_53 : decode cX2_letFirstRun 53 = .ok (.iload_n 3, 1) := by decide +kernel
theorem dX2_letFirstRun_54 : decode cX2_letFirstRun 54 = .ok (.iload_n 2, 1) := by decide +kernel
theorem dX2_letFirstRun_55 : decode cX2_letFirstRun 55 = .ok (.invokevirtual 84, 3) := by decide +kernel
theorem dX2_letFirstRun_58 : decode cX2_letFirstRun 58 = .ok (.ireturn, 1) := by decide +kernel
set_option maxRecDepth 20000 in
theorem ggX2_takeOut_X3_hasDog : GoodIn wsX2_takeOut wsX3_hasDog := goodIn_r _ [7, 8, 12, 13, 14, 15, 16, 17, 18, 19, 20, 21, 22, 23, 24, 25, 26] (by decide +kernel) (by decide +kernel)
set_option maxRecDepth 20000 in
theorem gX2_takeOut_X3_hasDog : GoodIn wsX2_takeOut (wsV RX2 55 RX3 yX3_hasDog wsX3_hasDog) := goodIn_app (goodIn_of _ (by decide +kernel)) ggX2_takeOut_X3_hasDog
theorem dX2_takeOut_0 : decode cX2_takeOut 0 = .ok (.aload_n 0, 1) := by decide +kernel
theorem dX2_takeOut_1 : decode cX2_takeOut 1 = .ok (.getfield 12, 3) := by decide +kernel
theorem dX2_takeOut_4 : decode cX2_takeOut 4 = .ok (.iload_n 1, 1) := by decide +kernel
theorem dX2_takeOut_5 : decode cX2_takeOut 5 = .ok (.invokevirtual 55, 3) := by decide +kernel
theorem dX2_takeOut_8 : decode cX2_takeOut 8 = .ok (.ifCond .eq 16, 3) := by decide +kernel
theorem dX2_takeOut_11 : decode cX2_takeOut 11 = .ok (.aload_n 0, 1) := by decide +kernel
theorem dX2_takeOut_12 : decode cX2_takeOut 12 = .ok (.getfield 12, 3) := by decide +kernel
theorem dX2_takeOut_15 : decode cX2_takeOut 15 = .ok (.getfield 88, 3) := by decide +kernel
theorem dX2_takeOut_18 : decode cX2_takeOut 18 = .ok (.iload_n 1, 1) := by decide +kernel
theorem dX2_takeOut_19 : decode cX2_takeOut 19 = .ok (.iaload, 1) := by decide +kernel
theorem dX2_takeOut_20 : decode cX2_takeOut 20 = .ok (.iconst 3, 1) := by decide +kernel
theorem dX2_takeOut_21 : decode cX2_takeOut 21 = .ok (.if_icmp .ne 5, 3) := by decide +kernel
theorem dX2_takeOut_24 : decode cX2_takeOut 24 = .ok (.iconst 0, 1) := by decide +kernel
theorem dX2_takeOut_25 : decode cX2_takeOut 25 = .ok (.ireturn, 1) := by decide +kernel
theorem dX2_takeOut_26 : decode cX2_takeOut 26 = .ok (.aload_n 0, 1) := by decide +kernel
theorem dX2_takeOut_27 : decode cX2_takeOut 27 = .ok (.getfield 12, 3) := by decide +kernel
theorem dX2_takeOut_30 : decode cX2_takeOut 30 = .ok (.getfield 88, 3) := by decide +kernel
theorem dX2_takeOut_33 : decode cX2_takeOut 33 = .ok (.iload_n 1, 1) := by decide +kernel
theorem dX2_takeOut_34 : decode cX2_takeOut 34 = .ok (.iconst 3, 1) := by decide +kernel
theorem dX2_takeOut_35 : decode cX2_takeOut 35 = .ok (.iastore, 1) := by decide +kernel
theorem dX2_takeOut_36 : decode cX2_takeOut 36 = .ok (.iconst 1, 1) := by decide +kernel
theorem dX2_takeOut_37 : decode cX2_takeOut 37 = .ok (.ireturn, 1) := by decide +kernel
set_option maxRecDepth 20000 in
theorem ggX2_tellInterference_X3_hasDog : GoodIn wsX2_tellInterference wsX3_hasDog := goodIn_r _ [7, 8, 22, 23, 24, 25, 26, 27, 28, 29, 30, 31, 32, 33, 34, 35, 36] (by decide +kernel) (by decide +kernel)
set_option maxRecDepth 20000 in
theorem gX2_tellInterference_X3_hasDog : GoodIn wsX2_tellInterference (wsV RX2 55 RX3 yX3_hasDog wsX3_hasDog) := goodIn_app (goodIn_of _ (by decide +kernel)) ggX2_tellInterference_X3_hasDog
set_option maxRecDepth 20000 in
theorem ggX2_tellInterference_X5_isPhase : GoodIn wsX2_tellInterference wsX5_isPhase := goodIn_r _ [11] (by decide +kernel) (by decide +kernel)
set_option maxRecDepth 20000 in
theorem gX2_tellInterference_X5_isPhase_n91 : GoodIn wsX2_tellInterference (wsX5_isPhase) := ggX2_tellInterference_X5_isPhase
set_option maxRecDepth 20000 in
theorem ggX2_tellInterference_X3_interfereWith : GoodIn wsX2_tellInterference wsX3_interfereWith := goodIn_r _ [15, 16, 17, 18, 22, 23, 24, 25, 26, 27, 28, 29, 30, 31, 32, 33, 34, 35, 36] (by decide +kernel) (by decide +kernel)
set_option maxRecDepth 20000 in
theorem gX2_tellInterference_X3_interfereWith : GoodIn wsX2_tellInterference (wsV RX2 94 RX3 yX3_interfereWith wsX3_interfereWith) := goodIn_app (goodIn_of _ (by decide +kernel)) ggX2_tellInterference_X3_interfereWith
theorem dX2_tellInterference_0 : decode cX2_tellInterference 0 = .ok (.aload_n 0, 1) := by decide +kernel
theorem dX2_tellInterference_1 : decode cX2_tellInterference 1 = .ok (.getfield 12, 3) := by decide +kernel
theorem dX2_tellInterference_4 : decode cX2_tellInterference 4 = .ok (.iload_n 1, 1) := by decide +kernel
theorem dX2_tellInterference_5 : decode cX2_tellInterference 5 = .ok (.invokevirtual 55, 3) := by decide +kernel
theorem dX2_tellInterference_8 : decode cX2_tellInterference 8 = .ok (.ifCond .eq 23, 3) := by decide +kernel
theorem dX2_tellInterference_11 : decode cX2_tellInterference 11 = .ok (.iload_n 2, 1) := by decide +kernel
theorem dX2_tellInterference_12 : decode cX2_tellInterference 12 = .ok (.invokestatic 91, 3) := by decide +kernel
theorem dX2_tellInterference_15 : decode cX2_tellInterference 15 = .ok (.ifCond .eq 16, 3) := by decide +kernel
theorem dX2_tellInterference_18 : decode cX2_tellInterference 18 = .ok (.aload_n 0, 1) := by decide +kernel
theorem dX2_tellInterference_19 : decode cX2_tellInterference 19 = .ok (.getfield 12, 3) := by decide +kernel
theorem dX2_tellInterference_22 : decode cX2_tellInterference 22 = .ok (.getfield 88, 3) := by decide +kernel
theorem dX2_tellInterference_25 : decode cX2_tellInterference 25 = .ok (.iload_n 1, 1) := by decide +kernel
theorem dX2_tellInterference_26 : decode cX2_tellInterference 26 = .ok (.iaload, 1) := by decide +kernel
theorem dX2_tellInterference_27 : decode cX2_tellInterference 27 = .ok (.iconst 1, 1) := by decide +kernel
theorem dX2_tellInterference_28 : decode cX2_tellInterference 28 = .ok (.if_icmp .eq 5, 3) := by decide +kernel
theorem dX2_tellInterference_31 : decode cX2_tellInterference 31 = .ok (.iconst 0, 1) := by decide +kernel
theorem dX2_tellInterference_32 : decode cX2_tellInterference 32 = .ok (.ireturn, 1) := by decide +kernel
theorem dX2_tellInterference_33 : decode cX2_tellInterference 33 = .ok (.aload_n 0, 1) := by decide +kernel
theorem dX2_tellInterference_34 : decode cX2_tellInterference 34 = .ok (.getfield 12, 3) := by decide +kernel
theorem dX2_tellInterference_37 : decode cX2_tellInterference 37 = .ok (.iload_n 1, 1) := by decide +kernel
theorem dX2_tellInterference_38 : decode cX2_tellInterference 38 = .ok (.iload_n 2, 1) := by decide +kernel
theorem dX2_tellInterference_39 : decode cX2_tellInterference 39 = .ok (.invokevirtual 94, 3) := by decide +kernel
theorem dX2_tellInterference_42 : decode cX2_tellInterference 42 = .ok (.iconst 1, 1) := by decide +kernel
theorem dX2_tellInterference_43 : decode cX2_tellInterference 43 = .ok (.ireturn, 1) := by decide +kernel
set_option maxRecDepth 20000 in
theorem ggX2_startDay_X5_isSunset : GoodIn wsX2_startDay wsX5_isSunset := goodIn_r _ [4] (by decide +kernel) (by decide +kernel)
set_option maxRecDepth 20000 in
theorem gX2_startDay_X5_isSunset_n98 : GoodIn wsX2_startDay (wsX5_isSunset) := ggX2_startDay_X5_isSunset
set_option maxRecDepth 20000 in
theorem ggX2_startDay_X3_beginDay : GoodIn wsX2_startDay wsX3_beginDay := goodIn_r _ [9, 10, 11, 12, 16, 17, 18, 19, 20, 21, 22, 23, 24, 25, 26, 27, 28, 29, 30] (by decide +kernel) (by decide +kernel)
set_option maxRecDepth 20000 in
theorem gX2_startDay_X3_beginDay : GoodIn wsX2_startDay (wsV RX2 101 RX3 yX3_beginDay wsX3_beginDay) := goodIn_app (goodIn_of _ (by decide +kernel)) ggX2_startDay_X3_beginDay
theorem dX2_startDay_0 : decode cX2_startDay 0 = .ok (.iload_n 1, 1) := by decide +kernel
theorem dX2_startDay_1 : decode cX2_startDay 1 = .ok (.invokestatic 98, 3) := by decide +kernel
theorem dX2_startDay_4 : decode cX2_startDay 4 = .ok (.ifCond .ne 5, 3) := by decide +kernel
theorem dX2_startDay_7 : decode cX2_startDay 7 = .ok (.iconst 0, 1) := by decide +kernel
theorem dX2_startDay_8 : decode cX2_startDay 8 = .ok (.ireturn, 1) := by decide +kernel
theorem dX2_startDay_9 : decode cX2_startDay 9 = .ok (.aload_n 0, 1) := by decide +kernel
theorem dX2_startDay_10 : decode cX2_startDay 10 = .ok (.getfield 12, 3) := by decide +kernel
theorem dX2_startDay_13 : decode cX2_startDay 13 = .ok (.iload_n 1, 1) := by decide +kernel
theorem dX2_startDay_14 : decode cX2_startDay 14 = .ok (.invokevirtual 101, 3) := by decide +kernel
theorem dX2_startDay_17 : decode cX2_startDay 17 = .ok (.iconst 1, 1) := by decide +kernel
theorem dX2_startDay_18 : decode cX2_startDay 18 = .ok (.ireturn, 1) := by decide +kernel
set_option maxRecDepth 20000 in
theorem ggX2_isInOrder_X3_hasDog : GoodIn wsX2_isInOrder wsX3_hasDog := goodIn_r _ [7, 8, 38, 39, 40, 41, 42, 43, 44, 45, 46, 47, 48, 49, 50, 51, 52] (by decide +kernel) (by decide +kernel)
set_option maxRecDepth 20000 in
theorem gX2_isInOrder_X3_hasDog : GoodIn wsX2_isInOrder (wsV RX2 55 RX3 yX3_hasDog wsX3_hasDog) := goodIn_app (goodIn_of _ (by decide +kernel)) ggX2_isInOrder_X3_hasDog
set_option maxRecDepth 20000 in
theorem ggX2_isInOrder_X0_dogInOrder : GoodIn wsX2_isInOrder wsX0_dogInOrder := goodIn_r _ [13, 14, 15, 16, 17, 18, 12, 19, 20, 21, 22, 23, 24, 25, 6, 26, 27, 8, 28, 29, 30, 31, 32, 33, 34, 53, 54, 55, 56, 38, 39, 40, 41, 42, 43, 44, 45, 46, 47, 48, 49, 50, 51, 52] (by decide +kernel) (by decide +kernel)
set_option maxRecDepth 20000 in
theorem gX2_isInOrder_X0_dogInOrder : GoodIn wsX2_isInOrder (wsV RX2 104 RX0 yX0_dogInOrder wsX0_dogInOrder) := goodIn_app (goodIn_of _ (by decide +kernel)) ggX2_isInOrder_X0_dogInOrder
theorem dX2_isInOrder_0 : decode cX2_isInOrder 0 = .ok (.aload_n 0, 1) := by decide +kernel
theorem dX2_isInOrder_1 : decode cX2_isInOrder 1 = .ok (.getfield 12, 3) := by decide +kernel
theorem dX2_isInOrder_4 : decode cX2_isInOrder 4 = .ok (.iload_n 1, 1) := by decide +kernel
theorem dX2_isInOrder_5 : decode cX2_isInOrder 5 = .ok (.invokevirtual 55, 3) := by decide +kernel
theorem dX2_isInOrder_8 : decode cX2_isInOrder 8 = .ok (.ifCond .eq 23, 3) := by decide +kernel
theorem dX2_isInOrder_11 : decode cX2_isInOrder 11 = .ok (.aload_n 0, 1) := by decide +kernel
theorem dX2_isInOrder_12 : decode cX2_isInOrder 12 = .ok (.getfield 21, 3) := by decide +kernel
theorem dX2_isInOrder_15 : decode cX2_isInOrder 15 = .ok (.aload_n 0, 1) := by decide +kernel
theorem dX2_isInOrder_16 : decode cX2_isInOrder 16 = .ok (.getfield 12, 3) := by decide +kernel
theorem dX2_isInOrder_19 : decode cX2_isInOrder 19 = .ok (.iload_n 2, 1) := by decide +kernel
theorem dX2_isInOrder_20 : decode cX2_isInOrder 20 = .ok (.invokevirtual 104, 3) := by decide +kernel
theorem dX2_isInOrder_23 : decode cX2_isInOrder 23 = .ok (.iload_n 1, 1) := by decide +kernel
theorem dX2_isInOrder_24 : decode cX2_isInOrder 24 = .ok (.if_icmp .ne 7, 3) := by decide +kernel
theorem dX2_isInOrder_27 : decode cX2_isInOrder 27 = .ok (.iconst 1, 1) := by decide +kernel
theorem dX2_isInOrder_28 : decode cX2_isInOrder 28 = .ok (.goto 4, 3) := by decide +kernel
theorem dX2_isInOrder_31 : decode cX2_isInOrder 31 = .ok (.iconst 0, 1) := by decide +kernel
theorem dX2_isInOrder_32 : decode cX2_isInOrder 32 = .ok (.ireturn, 1) := by decide +kernel
set_option maxRecDepth 20000 in
theorem ggX2_playRounds_X3_copyFrom : GoodIn wsX2_playRounds wsX3_copyFrom := goodIn_r _ [9, 10, 11, 12, 13, 14, 15, 16, 17, 18, 19, 20, 21, 22, 23, 24, 25, 26, 27, 28, 130, 131, 132, 133, 134, 135, 136, 137, 138, 139, 140, 141, 142, 143, 144] (by decide +kernel) (by decide +kernel)
set_option maxRecDepth 20000 in
theorem gX2_playRounds_X3_copyFrom : GoodIn wsX2_playRounds (wsV RX2 31 RX3 yX3_copyFrom wsX3_copyFrom) := goodIn_app (goodIn_of _ (by decide +kernel)) ggX2_playRounds_X3_copyFrom
set_option maxRecDepth 20000 in
theorem ggX2_playRounds_X2_playRound : GoodIn wsX2_playRounds wsX2_playRound := goodIn_r _ [33, 1, 34, 35, 36, 37, 8, 38, 23, 24, 39, 40, 41, 42, 10, 43, 44, 45, 46, 17, 47, 48, 49, 50, 22, 51, 52, 53, 32, 54, 55, 56, 57, 58, 59, 60, 61, 62, 63, 64, 65, 66, 67, 68, 69, 70, 71, 72, 73, 74, 25, 11, 75, 76, 77, 78, 79, 80, 81, 82, 83, 84, 85, 86, 87, 88, 89, 90, 91, 92, 93, 94, 19, 21, 18, 95, 96, 97, 98, 99, 100, 101, 102, 103, 104, 105, 106, 107, 108, 109, 110, 111, 112, 113, 114, 28, 127, 128, 129, 130, 131, 132, 133, 134, 135, 136, 137, 138, 139, 140, 141, 142, 143, 144, 145, 146, 147, 148] (by decide +kernel) (by decide +kernel)
set_option maxRecDepth 20000 in
theorem gX2_playRounds_X2_playRound : GoodIn wsX2_playRounds (wsV RX2 112 RX2 yX2_playRound wsX2_playRound) := goodIn_app (goodIn_of _ (by decide +kernel)) ggX2_playRounds_X2_playRound
set_option maxRecDepth 20000 in
theorem ggX2_playRounds_X3_sumOfScores : GoodIn wsX2_playRounds wsX3_sumOfScores := goodIn_r _ [118, 10, 119, 120, 121, 8, 122, 21, 123, 124, 125, 126, 18, 19, 130, 131, 132, 133, 134, 135, 136, 137, 138, 139, 140, 141, 142, 143, 144] (by decide +kernel) (by decide +kernel)
set_option maxRecDepth 20000 in
theorem gX2_playRounds_X3_sumOfScores : GoodIn wsX2_playRounds (wsV RX2 118 RX3 yX3_sumOfScores wsX3_sumOfScores) := goodIn_app (goodIn_of _ (by decide +kernel)) ggX2_playRounds_X3_sumOfScores
theorem dX2_playRounds_0 : decode cX2_playRounds 0 = .ok (.aload_n 0, 1) := by decide +kernel
theorem dX2_playRounds_1 : decode cX2_playRounds 1 = .ok (.getfield 12, 3) := by decide +kernel
theorem dX2_playRounds_4 : decode cX2_playRounds 4 = .ok (.aload_n 1, 1) := by decide +kernel
theorem dX2_playRounds_5 : decode cX2_playRounds 5 = .ok (.invokevirtual 31, 3) := by decide +kernel
theorem dX2_playRounds_8 : decode cX2_playRounds 8 = .ok (.lload_n 2, 1) := by decide +kernel
theorem dX2_playRounds_9 : decode cX2_playRounds 9 = .ok (.lstore 5, 2) := by decide +kernel
theorem dX2_playRounds_11 : decode cX2_playRounds 11 = .ok (.iconst 0, 1) := by decide +kernel
theorem dX2_playRounds_12 : decode cX2_playRounds 12 = .ok (.istore 7, 2) := by decide +kernel
theorem dX2_playRounds_14 : decode cX2_playRounds 14 = .ok (.iload 7, 2) := by decide +kernel
theorem dX2_playRounds_16 : decode cX2_playRounds 16 = .ok (.iload 4, 2) := by decide +kernel
theorem dX2_playRounds_18 : decode cX2_playRounds 18 = .ok (.if_icmp .ge 31, 3) := by decide +kernel
theorem dX2_playRounds_21 : decode cX2_playRounds 21 = .ok (.lload 5, 2) := by decide +kernel
theorem dX2_playRounds_23 : decode cX2_playRounds 23 = .ok (.ldc2_w 108, 3) := by decide +kernel
theorem dX2_playRounds_26 : decode cX2_playRounds 26 = .ok (.lmul, 1) := by decide +kernel
theorem dX2_playRounds_27 : decode cX2_playRounds 27 = .ok (.ldc2_w 110, 3) := by decide +kernel
theorem dX2_playRounds_30 : decode cX2_playRounds 30 = .ok (.ladd, 1) := by decide +kernel
theorem dX2_playRounds_31 : decode cX2_playRounds 31 = .ok (.lstore 5, 2) := by decide +kernel
theorem dX2_playRounds_33 : decode cX2_playRounds 33 = .ok (.aload_n 0, 1) := by decide +kernel
theorem dX2_playRounds_34 : decode cX2_playRounds 34 = .ok (.lload 5, 2) := by decide +kernel
theorem dX2_playRounds_36 : decode cX2_playRounds 36 = .ok (.bipush 33, 2) := by decide +kernel
theorem dX2_playRounds_38 : decode cX2_playRounds 38 = .ok (.lushr, 1) := by decide +kernel
theorem dX2_playRounds_39 : decode cX2_playRounds 39 = .ok (.l2i, 1) := by decide +kernel
theorem dX2_playRounds_40 : decode cX2_playRounds 40 = .ok (.invokevirtual 112, 3) := by decide +kernel
theorem dX2_playRounds_43 : decode cX2_playRounds 43 = .ok (.iinc 7 1, 3) := by decide +kernel
theorem dX2_playRounds_46 : decode cX2_playRounds 46 = .ok (.goto (-32), 3) := by decide +kernel
theorem dX2_playRounds_49 : decode cX2_playRounds 49 = .ok (.sipush 1000, 3) := by decide +kernel
theorem dX2_playRounds_52 : decode cX2_playRounds 52 = .ok (.aload_n 0, 1) := by decide +kernel
theorem dX2_playRounds_53 : decode cX2_playRounds 53 = .ok (.getfield 12, 3) := by decide +kernel
theorem dX2_playRounds_56 : decode cX2_playRounds 56 = .ok (.getfield 115, 3) := by decide +kernel
theorem dX2_playRounds_59 : decode cX2_playRounds 59 = .ok (.imul, 1) := by decide +kernel
theorem dX2_playRounds_60 : decode cX2_playRounds 60 = .ok (.aload_n 0, 1) := by decide +kernel
theorem dX2_playRounds_61 : decode cX2_playRounds 61 = .ok (.getfield 12, 3) := by decide +kernel
theorem dX2_playRounds_64 : decode cX2_playRounds 64 = .ok (.invokevirtual 118, 3) := by decide +kernel
theorem dX2_playRounds_67 : decode cX2_playRounds 67 = .ok (.iadd, 1) := by decide +kernel
theorem dX2_playRounds_68 : decode cX2_playRounds 68 = .ok (.ireturn, 1) := by decide +kernel
set_option maxRecDepth 20000 in
theorem ggX2_playRound_X3_obstacle : GoodIn wsX2_playRound wsX3_obstacle := goodIn_r _ [7, 8, 9, 10, 11, 12, 6, 13, 14, 15, 16, 17, 18, 19, 99, 100, 101, 102, 103, 104, 105, 106, 107, 108, 109, 110, 111, 112, 113] (by decide +kernel) (by decide +kernel)
set_option maxRecDepth 20000 in
theorem gX2_playRound_X3_obstacle : GoodIn wsX2_playRound (wsV RX2 70 RX3 yX3_obstacle wsX3_obstacle) := goodIn_app (goodIn_of _ (by decide +kernel)) ggX2_playRound_X3_obstacle
set_option maxRecDepth 20000 in
theorem ggX2_playRound_X3_beginDay : GoodIn wsX2_playRound wsX3_beginDay := goodIn_r _ [23, 24, 8, 9, 99, 100, 101, 102, 103, 104, 105, 106, 107, 108, 109, 110, 111, 112, 113] (by decide +kernel) (by decide +kernel)
set_option maxRecDepth 20000 in
theorem gX2_playRound_X3_beginDay : GoodIn wsX2_playRound (wsV RX2 101 RX3 yX3_beginDay wsX3_beginDay) := goodIn_app (goodIn_of _ (by decide +kernel)) ggX2_playRound_X3_beginDay
set_option maxRecDepth 20000 in
theorem ggX2_playRound_X2_playRun : GoodIn wsX2_playRound wsX2_playRun := goodIn_r _ [29, 30, 1, 31, 32, 33, 34, 35, 36, 37, 38, 39, 40, 41, 42, 43, 44, 45, 46, 47, 48, 6, 49, 50, 14, 51, 52, 53, 54, 55, 56, 57, 58, 59, 60, 61, 62, 63, 64, 65, 66, 67, 68, 69, 70, 71, 72, 19, 73, 74, 75, 76, 77, 78, 96, 97, 98, 114, 115, 116, 117, 99, 100, 101, 102, 103, 104, 105, 106, 107, 108, 109, 110, 111, 112, 113] (by decide +kernel) (by decide +kernel)
set_option maxRecDepth 20000 in
theorem gX2_playRound_X2_playRun : GoodIn wsX2_playRound (wsV RX2 121 RX2 yX2_playRun wsX2_playRun) := goodIn_app (goodIn_of _ (by decide +kernel)) ggX2_playRound_X2_playRun
set_option maxRecDepth 20000 in
theorem ggX2_playRound_X2_tellInterference : GoodIn wsX2_playRound wsX2_tellInterference := goodIn_r _ [82, 1, 83, 84, 85, 86, 6, 87, 14, 88, 89, 90, 91, 92, 93, 94, 19, 74, 95, 96, 97, 98, 99, 100, 101, 102, 103, 104, 105, 106, 107, 108, 109, 110, 111, 112, 113] (by decide +kernel) (by decide +kernel)
set_option maxRecDepth 20000 in
theorem gX2_playRound_X2_tellInterference : GoodIn wsX2_playRound (wsV RX2 46 RX2 yX2_tellInterference wsX2_tellInterference) := goodIn_app (goodIn_of _ (by decide +kernel)) ggX2_playRound_X2_tellInterference
theorem dX2_playRound_0 : decode cX2_playRound 0 = .ok (.aload_n 0, 1) := by decide +kernel
theorem dX2_playRound_1 : decode cX2_playRound 1 = .ok (.getfield 12, 3) := by decide +kernel
theorem dX2_playRound_4 : decode cX2_playRound 4 = .ok (.invokevirtual 70, 3) := by decide +kernel
theorem dX2_playRound_7 : decode cX2_playRound 7 = .ok (.istore_n 2, 1) := by decide +kernel
theorem dX2_playRound_8 : decode cX2_playRound 8 = .ok (.iload_n 2, 1) := by decide +kernel
theorem dX2_playRound_9 : decode cX2_playRound 9 = .ok (.iconst 2, 1) := by decide +kernel
theorem dX2_playRound_10 : decode cX2_playRound 10 = .ok (.if_icmp .ne 24, 3) := by decide +kernel
theorem dX2_playRound_13 : decode cX2_playRound 13 = .ok (.aload_n 0, 1) := by decide +kernel
theorem dX2_playRound_14 : decode cX2_playRound 14 = .ok (.getfield 12, 3) := by decide +kernel
theorem dX2_playRound_17 : decode cX2_playRound 17 = .ok (.bipush 60, 2) := by decide +kernel
theorem dX2_playRound_19 : decode cX2_playRound 19 = .ok (.iload_n 1, 1) := by decide +kernel
theorem dX2_playRound_20 : decode cX2_playRound 20 = .ok (.bipush 8, 2) := by decide +kernel
theorem dX2_playRound_22 : decode cX2_playRound 22 = .ok (.idiv, 1) := by decide +kernel
theorem dX2_playRound_23 : decode cX2_playRound 23 = .ok (.sipush 541, 3) := by decide +kernel
theorem dX2_playRound_26 : decode cX2_playRound 26 = .ok (.irem, 1) := by decide +kernel
theorem dX2_playRound_27 : decode cX2_playRound 27 = .ok (.iadd, 1) := by decide +kernel
theorem dX2_playRound_28 : decode cX2_playRound 28 = .ok (.invokevirtual 101, 3) := by decide +kernel
theorem dX2_playRound_31 : decode cX2_playRound 31 = .ok (.goto 50, 3) := by decide +kernel
theorem dX2_playRound_34 : decode cX2_playRound 34 = .ok (.iload_n 2, 1) := by decide +kernel
theorem dX2_playRound_35 : decode cX2_playRound 35 = .ok (.ifCond .ne 11, 3) := by decide +kernel
theorem dX2_playRound_38 : decode cX2_playRound 38 = .ok (.aload_n 0, 1) := by decide +kernel
theorem dX2_playRound_39 : decode cX2_playRound 39 = .ok (.iload_n 1, 1) := by decide +kernel
theorem dX2_playRound_40 : decode cX2_playRound 40 = .ok (.invokevirtual 121, 3) := by decide +kernel
theorem dX2_playRound_43 : decode cX2_playRound 43 = .ok (.goto 38, 3) := by decide +kernel
theorem dX2_playRound_46 : decode cX2_playRound 46 = .ok (.aload_n 0, 1) := by decide +kernel
theorem dX2_playRound_47 : decode cX2_playRound 47 = .ok (.getfield 12, 3) := by decide +kernel
theorem dX2_playRound_50 : decode cX2_playRound 50 = .ok (.getfield 124, 3) := by decide +kernel
theorem dX2_playRound_53 : decode cX2_playRound 53 = .ok (.ifCond .le 28, 3) := by decide +kernel
theorem dX2_playRound_56 : decode cX2_playRound 56 = .ok (.aload_n 0, 1) := by decide +kernel
theorem dX2_playRound_57 : decode cX2_playRound 57 = .ok (.iload_n 1, 1) := by decide +kernel
theorem dX2_playRound_58 : decode cX2_playRound 58 = .ok (.bipush 8, 2) := by decide +kernel
theorem dX2_playRound_60 : decode cX2_playRound 60 = .ok (.idiv, 1) := by decide +kernel
theorem dX2_playRound_61 : decode cX2_playRound 61 = .ok (.aload_n 0, 1) := by decide +kernel
theorem dX2_playRound_62 : decode cX2_playRound 62 = .ok (.getfield 12, 3) := by decide +kernel
theorem dX2_playRound_65 : decode cX2_playRound 65 = .ok (.getfield 124, 3) := by decide +kernel
theorem dX2_playRound_68 : decode cX2_playRound 68 = .ok (.irem, 1) := by decide +kernel
theorem dX2_playRound_69 : decode cX2_playRound 69 = .ok (.iload_n 1, 1) := by decide +kernel
theorem dX2_playRound_70 : decode cX2_playRound 70 = .ok (.sipush 128, 3) := by decide +kernel
theorem dX2_playRound_73 : decode cX2_playRound 73 = .ok (.idiv, 1) := by decide +kernel
theorem dX2_playRound_74 : decode cX2_playRound 74 = .ok (.bipush 6, 2) := by decide +kernel
theorem dX2_playRound_76 : decode cX2_playRound 76 = .ok (.irem, 1) := by decide +kernel
theorem dX2_playRound_77 : decode cX2_playRound 77 = .ok (.invokevirtual 46, 3) := by decide +kernel
theorem dX2_playRound_80 : decode cX2_playRound 80 = .ok (.pop, 1) := by decide +kernel
theorem dX2_playRound_81 : decode cX2_playRound 81 = .ok (.return_, 1) := by decide +kernel
set_option maxRecDepth 20000 in
theorem ggX2_playRun_X0_firstToRun : GoodIn wsX2_playRun wsX0_firstToRun := goodIn_r _ [8, 9, 10, 11, 12, 13, 7, 14, 15, 16, 17, 18, 19, 20, 21, 22, 23, 24, 25, 26, 27, 28, 29, 30, 31, 57, 58, 59, 60, 61, 62, 63, 64, 65, 66, 67, 68, 69, 70, 71, 72, 73, 74, 75] (by decide +kernel) (by decide +kernel)
set_option maxRecDepth 20000 in
theorem gX2_playRun_X0_firstToRun : GoodIn wsX2_playRun (wsV RX2 73 RX0 yX0_firstToRun wsX0_firstToRun) := goodIn_app (goodIn_of _ (by decide +kernel)) ggX2_playRun_X0_firstToRun
set_option maxRecDepth 20000 in
theorem ggX2_playRun_X0_letRun : GoodIn wsX2_playRun wsX0_letRun := goodIn_r _ [35, 36, 37, 38, 39, 40, 41, 42, 43, 44, 21, 45, 46, 47, 48, 49, 50, 51, 52, 53, 61, 62, 63, 64, 65, 66, 67, 68, 69, 70, 71, 72, 73, 74, 75, 57, 58, 59, 60] (by decide +kernel) (by decide +kernel)
set_option maxRecDepth 20000 in
theorem gX2_playRun_X0_letRun : GoodIn wsX2_playRun (wsV RX2 84 RX0 yX0_letRun wsX0_letRun) := goodIn_app (goodIn_of _ (by decide +kernel)) ggX2_playRun_X0_letRun
theorem dX2_playRun_0 : decode cX2_playRun 0 = .ok (.aload_n 0, 1) := by decide +kernel
theorem dX2_playRun_1 : decode cX2_playRun 1 = .ok (.getfield 21, 3) := by decide +kernel
theorem dX2_playRun_4 : decode cX2_playRun 4 = .ok (.aload_n 0, 1) := by decide +kernel
theorem dX2_playRun_5 : decode cX2_playRun 5 = .ok (.getfield 12, 3) := by decide +kernel
theorem dX2_playRun_8 : decode cX2_playRun 8 = .ok (.invokevirtual 73, 3) := by decide +kernel
theorem dX2_playRun_11 : decode cX2_playRun 11 = .ok (.istore_n 2, 1) := by decide +kernel
theorem dX2_playRun_12 : decode cX2_playRun 12 = .ok (.iload_n 2, 1) := by decide +kernel
theorem dX2_playRun_13 : decode cX2_playRun 13 = .ok (.bipush (-9), 2) := by decide +kernel
theorem dX2_playRun_15 : decode cX2_playRun 15 = .ok (.if_icmp .ne 4, 3) := by decide +kernel
theorem dX2_playRun_18 : decode cX2_playRun 18 = .ok (.return_, 1) := by decide +kernel
theorem dX2_playRun_19 : decode cX2_playRun 19 = .ok (.iconst 0, 1) := by decide +kernel
theorem dX2_playRun_20 : decode cX2_playRun 20 = .ok (.istore_n 3, 1) := by decide +kernel
theorem dX2_playRun_21 : decode cX2_playRun 21 = .ok (.iload_n 3, 1) := by decide +kernel
theorem dX2_playRun_22 : decode cX2_playRun 22 = .ok (.bipush 6, 2) := by decide +kernel
theorem dX2_playRun_24 : decode cX2_playRun 24 = .ok (.if_icmp .ge 31, 3) := by decide +kernel
theorem dX2_playRun_27 : decode cX2_playRun 27 = .ok (.aload_n 0, 1) := by decide +kernel
theorem dX2_playRun_28 : decode cX2_playRun 28 = .ok (.getfield 21, 3) := by decide +kernel
theorem dX2_playRun_31 : decode cX2_playRun 31 = .ok (.getfield 127, 3) := by decide +kernel
theorem dX2_playRun_34 : decode cX2_playRun 34 = .ok (.iload_n 3, 1) := by decide +kernel
theorem dX2_playRun_35 : decode cX2_playRun 35 = .ok (.iload_n 1, 1) := by decide +kernel
theorem dX2_playRun_36 : decode cX2_playRun 36 = .ok (.sipush 256, 3) := by decide +kernel
theorem dX2_playRun_39 : decode cX2_playRun 39 = .ok (.idiv, 1) := by decide +kernel
theorem dX2_playRun_40 : decode cX2_playRun 40 = .ok (.getstatic 130, 3) := by decide +kernel
theorem dX2_playRun_43 : decode cX2_playRun 43 = .ok (.iload_n 3, 1) := by decide +kernel
theorem dX2_playRun_44 : decode cX2_playRun 44 = .ok (.iaload, 1) := by decide +kernel
theorem dX2_playRun_45 : decode cX2_playRun 45 = .ok (.iconst 1, 1) := by decide +kernel
theorem dX2_playRun_46 : decode cX2_playRun 46 = .ok (.iadd, 1) := by decide +kernel
theorem dX2_playRun_47 : decode cX2_playRun 47 = .ok (.irem, 1) := by decide +kernel
theorem dX2_playRun_48 : decode cX2_playRun 48 = .ok (.iastore, 1) := by decide +kernel
theorem dX2_playRun_49 : decode cX2_playRun 49 = .ok (.iinc 3 1, 3) := by decide +kernel
theorem dX2_playRun_52 : decode cX2_playRun 52 = .ok (.goto (-31), 3) := by decide +kernel
theorem dX2_playRun_55 : decode cX2_playRun 55 = .ok (.aload_n 0, 1) := by decide +kernel
theorem dX2_playRun_56 : decode cX2_playRun 56 = .ok (.getfield 21, 3) := by decide +kernel
theorem dX2_playRun_59 : decode cX2_playRun 59 = .ok (.aload_n 0, 1) := by decide +kernel
theorem dX2_playRun_60 : decode cX2_playRun 60 = .ok (.getfield 12, 3) := by decide +kernel
theorem dX2_playRun_63 : decode cX2_playRun 63 = .ok (.iload_n 2, 1) := by decide +kernel
theorem dX2_playRun_64 : decode cX2_playRun 64 = .ok (.iconst 1, 1) := by decide +kernel
theorem dX2_playRun_65 : decode cX2_playRun 65 = .ok (.iload_n 1, 1) := by decide +kernel
theorem dX2_playRun_66 : decode cX2_playRun 66 = .ok (.bipush 8, 2) := by decide +kernel
theorem dX2_playRun_68 : decode cX2_playRun 68 = .ok (.idiv, 1) := by decide +kernel
theorem dX2_playRun_69 : decode cX2_playRun 69 = .ok (.bipush 30, 2) := by decide +kernel
theorem dX2_playRun_71 : decode cX2_playRun 71 = .ok (.irem, 1) := by decide +kernel
theorem dX2_playRun_72 : decode cX2_playRun 72 = .ok (.iadd, 1) := by decide +kernel
theorem dX2_playRun_73 : decode cX2_playRun 73 = .ok (.invokevirtual 84, 3) := by decide +kernel
theorem dX2_playRun_76 : decode cX2_playRun 76 = .ok (.pop, 1) := by decide +kernel
theorem dX2_playRun_77 : decode cX2_playRun 77 = .ok (.return_, 1) := by decide +kernel
