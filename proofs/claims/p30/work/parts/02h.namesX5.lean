set_option maxRecDepth 20000 in
theorem ggX5_init_X3_init : GoodIn wsX5_init wsX3_init := goodIn_r _ [30, 31, 2, 3, 32, 33, 34, 35, 26, 36, 37, 38, 39, 40, 41, 42, 6, 43, 44, 45, 46, 47, 48, 49, 50, 51, 78, 79, 80, 81, 82, 83, 84, 85, 86, 87, 88, 89, 90, 91, 92] (by decide +kernel) (by decide +kernel)
set_option maxRecDepth 20000 in
theorem gX5_init_X3_init : GoodIn wsX5_init (wsX3_init) := ggX5_init_X3_init
set_option maxRecDepth 20000 in
theorem ggX5_init_X0_init : GoodIn wsX5_init wsX0_init := goodIn_r _ [53, 54, 2, 3, 32, 55, 26, 56, 57, 101, 102, 103, 104] (by decide +kernel) (by decide +kernel)
set_option maxRecDepth 20000 in
theorem gX5_init_X0_init_n21 : GoodIn wsX5_init (wsX0_init) := ggX5_init_X0_init
set_option maxRecDepth 20000 in
theorem ggX5_init_X2_init : GoodIn wsX5_init wsX2_init := goodIn_r _ [59, 60, 2, 3, 61, 5, 6, 62, 63, 10, 11, 64, 32, 65, 66, 29, 30, 31, 33, 34, 35, 26, 36, 37, 38, 39, 40, 41, 42, 43, 44, 45, 46, 47, 48, 49, 50, 51, 52, 53, 54, 55, 56, 57, 78, 79, 80, 81, 82, 83, 84, 85, 86, 87, 88, 89, 90, 91, 92, 105, 106, 107, 101, 102, 103, 104] (by decide +kernel) (by decide +kernel)
set_option maxRecDepth 20000 in
theorem gX5_init_X2_init_n28 : GoodIn wsX5_init (wsX2_init) := ggX5_init_X2_init
set_option maxRecDepth 20000 in
theorem ggX5_init_X1_init : GoodIn wsX5_init wsX1_init := goodIn_r _ [69, 70, 2, 3, 71, 72, 5, 6, 73, 29, 30, 31, 32, 33, 34, 35, 26, 36, 37, 38, 39, 40, 41, 42, 43, 44, 45, 46, 47, 48, 49, 50, 51, 108, 109, 110, 78, 79, 80, 81, 82, 83, 84, 85, 86, 87, 88, 89, 90, 91, 92] (by decide +kernel) (by decide +kernel)
set_option maxRecDepth 20000 in
theorem gX5_init_X1_init : GoodIn wsX5_init (wsX1_init) := ggX5_init_X1_init
set_option maxRecDepth 20000 in
theorem ggX5_init_X4_init : GoodIn wsX5_init wsX4_init := goodIn_r _ [75, 76, 2, 3, 32, 77, 111, 112, 113] (by decide +kernel) (by decide +kernel)
set_option maxRecDepth 20000 in
theorem gX5_init_X4_init_n42 : GoodIn wsX5_init (wsX4_init) := ggX5_init_X4_init
theorem dX5_init_0 : decode cX5_init 0 = .ok (.aload_n 0, 1) := by decide +kernel
theorem dX5_init_1 : decode cX5_init 1 = .ok (.invokespecial 1, 3) := by decide +kernel
theorem dX5_init_4 : decode cX5_init 4 = .ok (.aload_n 0, 1) := by decide +kernel
theorem dX5_init_5 : decode cX5_init 5 = .ok (.new 7, 3) := by decide +kernel
theorem dX5_init_8 : decode cX5_init 8 = .ok (.dup, 1) := by decide +kernel
theorem dX5_init_9 : decode cX5_init 9 = .ok (.invokespecial 9, 3) := by decide +kernel
theorem dX5_init_12 : decode cX5_init 12 = .ok (.putfield 10, 3) := by decide +kernel
theorem dX5_init_15 : decode cX5_init 15 = .ok (.aload_n 0, 1) := by decide +kernel
theorem dX5_init_16 : decode cX5_init 16 = .ok (.new 7, 3) := by decide +kernel
theorem dX5_init_19 : decode cX5_init 19 = .ok (.dup, 1) := by decide +kernel
theorem dX5_init_20 : decode cX5_init 20 = .ok (.invokespecial 9, 3) := by decide +kernel
theorem dX5_init_23 : decode cX5_init 23 = .ok (.putfield 16, 3) := by decide +kernel
theorem dX5_init_26 : decode cX5_init 26 = .ok (.aload_n 0, 1) := by decide +kernel
theorem dX5_init_27 : decode cX5_init 27 = .ok (.new 19, 3) := by decide +kernel
theorem dX5_init_30 : decode cX5_init 30 = .ok (.dup, 1) := by decide +kernel
theorem dX5_init_31 : decode cX5_init 31 = .ok (.invokespecial 21, 3) := by decide +kernel
theorem dX5_init_34 : decode cX5_init 34 = .ok (.putfield 22, 3) := by decide +kernel
theorem dX5_init_37 : decode cX5_init 37 = .ok (.aload_n 0, 1) := by decide +kernel
theorem dX5_init_38 : decode cX5_init 38 = .ok (.new 26, 3) := by decide +kernel
theorem dX5_init_41 : decode cX5_init 41 = .ok (.dup, 1) := by decide +kernel
theorem dX5_init_42 : decode cX5_init 42 = .ok (.invokespecial 28, 3) := by decide +kernel
theorem dX5_init_45 : decode cX5_init 45 = .ok (.putfield 29, 3) := by decide +kernel
theorem dX5_init_48 : decode cX5_init 48 = .ok (.aload_n 0, 1) := by decide +kernel
theorem dX5_init_49 : decode cX5_init 49 = .ok (.new 33, 3) := by decide +kernel
theorem dX5_init_52 : decode cX5_init 52 = .ok (.dup, 1) := by decide +kernel
theorem dX5_init_53 : decode cX5_init 53 = .ok (.invokespecial 35, 3) := by decide +kernel
theorem dX5_init_56 : decode cX5_init 56 = .ok (.putfield 36, 3) := by decide +kernel
theorem dX5_init_59 : decode cX5_init 59 = .ok (.aload_n 0, 1) := by decide +kernel
theorem dX5_init_60 : decode cX5_init 60 = .ok (.new 40, 3) := by decide +kernel
theorem dX5_init_63 : decode cX5_init 63 = .ok (.dup, 1) := by decide +kernel
theorem dX5_init_64 : decode cX5_init 64 = .ok (.invokespecial 42, 3) := by decide +kernel
theorem dX5_init_67 : decode cX5_init 67 = .ok (.putfield 43, 3) := by decide +kernel
theorem dX5_init_70 : decode cX5_init 70 = .ok (.aload_n 0, 1) := by decide +kernel
theorem dX5_init_71 : decode cX5_init 71 = .ok (.iconst 2, 1) := by decide +kernel
theorem dX5_init_72 : decode cX5_init 72 = .ok (.anewarray 7, 3) := by decide +kernel
theorem dX5_init_75 : decode cX5_init 75 = .ok (.putfield 47, 3) := by decide +kernel
theorem dX5_init_78 : decode cX5_init 78 = .ok (.aload_n 0, 1) := by decide +kernel
theorem dX5_init_79 : decode cX5_init 79 = .ok (.iconst 2, 1) := by decide +kernel
theorem dX5_init_80 : decode cX5_init 80 = .ok (.newarray .boolean, 2) := by decide +kernel
theorem dX5_init_82 : decode cX5_init 82 = .ok (.putfield 51, 3) := by decide +kernel
theorem dX5_init_85 : decode cX5_init 85 = .ok (.iconst 0, 1) := by decide +kernel
theorem dX5_init_86 : decode cX5_init 86 = .ok (.istore_n 1, 1) := by decide +kernel
theorem dX5_init_87 : decode cX5_init 87 = .ok (.iload_n 1, 1) := by decide +kernel
theorem dX5_init_88 : decode cX5_init 88 = .ok (.iconst 2, 1) := by decide +kernel
theorem dX5_init_89 : decode cX5_init 89 = .ok (.if_icmp .ge 22, 3) := by decide +kernel
theorem dX5_init_92 : decode cX5_init 92 = .ok (.aload_n 0, 1) := by decide +kernel
theorem dX5_init_93 : decode cX5_init 93 = .ok (.getfield 47, 3) := by decide +kernel
theorem dX5_init_96 : decode cX5_init 96 = .ok (.iload_n 1, 1) := by decide +kernel
theorem dX5_init_97 : decode cX5_init 97 = .ok (.new 7, 3) := by decide +kernel
theorem dX5_init_100 : decode cX5_init 100 = .ok (.dup, 1) := by decide +kernel
theorem dX5_init_101 : decode cX5_init 101 = .ok (.invokespecial 9, 3) := by decide +kernel
theorem dX5_init_104 : decode cX5_init 104 = .ok (.aastore, 1) := by decide +kernel
theorem dX5_init_105 : decode cX5_init 105 = .ok (.iinc 1 1, 3) := by decide +kernel
theorem dX5_init_108 : decode cX5_init 108 = .ok (.goto (-21), 3) := by decide +kernel
theorem dX5_init_111 : decode cX5_init 111 = .ok (.return_, 1) := by decide +kernel
set_option maxRecDepth 20000 in
theorem ggX5_append_X4_isFull : GoodIn wsX5_append wsX4_isFull := goodIn_r _ [10, 11, 25, 26, 27] (by decide +kernel) (by decide +kernel)
set_option maxRecDepth 20000 in
theorem gX5_append_X4_isFull : GoodIn wsX5_append (wsV RX5 62 RX4 yX4_isFull wsX4_isFull) := goodIn_app (goodIn_of _ (by decide +kernel)) ggX5_append_X4_isFull
set_option maxRecDepth 20000 in
theorem ggX5_append_X4_add : GoodIn wsX5_append wsX4_add := goodIn_r _ [15, 11, 16, 25, 26, 27] (by decide +kernel) (by decide +kernel)
set_option maxRecDepth 20000 in
theorem gX5_append_X4_add : GoodIn wsX5_append (wsV RX5 71 RX4 yX4_add wsX4_add) := goodIn_app (goodIn_of _ (by decide +kernel)) ggX5_append_X4_add
theorem dX5_append_0 : decode cX5_append 0 = .ok (.iload_n 1, 1) := by decide +kernel
theorem dX5_append_1 : decode cX5_append 1 = .ok (.ifCond .lt 10, 3) := by decide +kernel
theorem dX5_append_4 : decode cX5_append 4 = .ok (.iload_n 1, 1) := by decide +kernel
theorem dX5_append_5 : decode cX5_append 5 = .ok (.sipush 255, 3) := by decide +kernel
theorem dX5_append_8 : decode cX5_append 8 = .ok (.if_icmp .le 13, 3) := by decide +kernel
theorem dX5_append_11 : decode cX5_append 11 = .ok (.new 55, 3) := by decide +kernel
theorem dX5_append_14 : decode cX5_append 14 = .ok (.dup, 1) := by decide +kernel
theorem dX5_append_15 : decode cX5_append 15 = .ok (.ldc 57, 2) := by decide +kernel
theorem dX5_append_17 : decode cX5_append 17 = .ok (.invokespecial 59, 3) := by decide +kernel
theorem dX5_append_20 : decode cX5_append 20 = .ok (.athrow, 1) := by decide +kernel
theorem dX5_append_21 : decode cX5_append 21 = .ok (.aload_n 0, 1) := by decide +kernel
theorem dX5_append_22 : decode cX5_append 22 = .ok (.getfield 43, 3) := by decide +kernel
theorem dX5_append_25 : decode cX5_append 25 = .ok (.invokevirtual 62, 3) := by decide +kernel
theorem dX5_append_28 : decode cX5_append 28 = .ok (.ifCond .eq 13, 3) := by decide +kernel
theorem dX5_append_31 : decode cX5_append 31 = .ok (.new 66, 3) := by decide +kernel
theorem dX5_append_34 : decode cX5_append 34 = .ok (.dup, 1) := by decide +kernel
theorem dX5_append_35 : decode cX5_append 35 = .ok (.ldc 68, 2) := by decide +kernel
theorem dX5_append_37 : decode cX5_append 37 = .ok (.invokespecial 70, 3) := by decide +kernel
theorem dX5_append_40 : decode cX5_append 40 = .ok (.athrow, 1) := by decide +kernel
theorem dX5_append_41 : decode cX5_append 41 = .ok (.aload_n 0, 1) := by decide +kernel
theorem dX5_append_42 : decode cX5_append 42 = .ok (.getfield 43, 3) := by decide +kernel
theorem dX5_append_45 : decode cX5_append 45 = .ok (.iload_n 1, 1) := by decide +kernel
theorem dX5_append_46 : decode cX5_append 46 = .ok (.invokevirtual 71, 3) := by decide +kernel
theorem dX5_append_49 : decode cX5_append 49 = .ok (.ireturn, 1) := by decide +kernel
set_option maxRecDepth 20000 in
theorem ggX5_errorPosition_X4_readInto : GoodIn wsX5_errorPosition wsX4_readInto := goodIn_r _ [7, 8, 9, 10, 11, 12, 13, 14, 15, 16, 17, 18, 19, 20, 21, 22, 23, 24, 25, 26, 6, 27, 28, 29, 30, 31, 32, 33, 34, 35, 36, 37, 38, 39, 40, 41, 42, 43, 44, 45, 46, 47, 48, 49, 50, 51, 52, 53, 54, 55, 56, 57, 58, 59, 60, 61, 62, 63, 64, 65, 66, 67, 68, 69, 70, 71, 72, 73, 74, 75, 76, 77, 78, 79, 88, 89, 90, 91, 92, 93, 94, 95, 96, 97, 98, 99, 100, 101, 102, 103, 104, 105] (by decide +kernel) (by decide +kernel)
set_option maxRecDepth 20000 in
theorem gX5_errorPosition_X4_readInto : GoodIn wsX5_errorPosition (wsV RX5 79 RX4 yX4_readInto wsX4_readInto) := goodIn_app (goodIn_of _ (by decide +kernel)) ggX5_errorPosition_X4_readInto
theorem dX5_errorPosition_0 : decode cX5_errorPosition 0 = .ok (.aload_n 0, 1) := by decide +kernel
theorem dX5_errorPosition_1 : decode cX5_errorPosition 1 = .ok (.getfield 43, 3) := by decide +kernel
theorem dX5_errorPosition_4 : decode cX5_errorPosition 4 = .ok (.aload_n 0, 1) := by decide +kernel
theorem dX5_errorPosition_5 : decode cX5_errorPosition 5 = .ok (.getfield 16, 3) := by decide +kernel
theorem dX5_errorPosition_8 : decode cX5_errorPosition 8 = .ok (.invokevirtual 79, 3) := by decide +kernel
theorem dX5_errorPosition_11 : decode cX5_errorPosition 11 = .ok (.ireturn, 1) := by decide +kernel
set_option maxRecDepth 20000 in
theorem ggX5_load_X4_readInto : GoodIn wsX5_load wsX4_readInto := goodIn_r _ [13, 14, 15, 16, 17, 18, 19, 20, 21, 22, 23, 24, 25, 26, 27, 28, 29, 30, 31, 32, 12, 33, 34, 35, 36, 37, 38, 39, 40, 41, 42, 43, 44, 45, 46, 47, 48, 49, 50, 51, 52, 53, 54, 55, 56, 57, 58, 59, 60, 61, 62, 63, 64, 65, 66, 67, 68, 69, 70, 71, 72, 73, 74, 75, 76, 77, 78, 79, 80, 81, 82, 83, 84, 85, 124, 125, 126, 109, 110, 111, 112, 113, 114, 115, 116, 117, 118, 119, 120, 121, 122, 123] (by decide +kernel) (by decide +kernel)
set_option maxRecDepth 20000 in
theorem gX5_load_X4_readInto : GoodIn wsX5_load (wsV RX5 79 RX4 yX4_readInto wsX4_readInto) := goodIn_app (goodIn_of _ (by decide +kernel)) ggX5_load_X4_readInto
set_option maxRecDepth 20000 in
theorem ggX5_load_X3_copyFrom : GoodIn wsX5_load wsX3_copyFrom := goodIn_r _ [89, 21, 75, 90, 91, 92, 93, 70, 76, 78, 94, 22, 77, 23, 24, 25, 26, 27, 28, 29, 109, 110, 111, 112, 113, 114, 115, 116, 117, 118, 119, 120, 121, 122, 123] (by decide +kernel) (by decide +kernel)
set_option maxRecDepth 20000 in
theorem gX5_load_X3_copyFrom : GoodIn wsX5_load (wsV RX5 85 RX3 yX3_copyFrom wsX3_copyFrom) := goodIn_app (goodIn_of _ (by decide +kernel)) ggX5_load_X3_copyFrom
set_option maxRecDepth 20000 in
theorem ggX5_load_X1_forgetAll : GoodIn wsX5_load wsX1_forgetAll := goodIn_r _ [99, 100, 127, 128, 129] (by decide +kernel) (by decide +kernel)
set_option maxRecDepth 20000 in
theorem gX5_load_X1_forgetAll : GoodIn wsX5_load (wsV RX5 89 RX1 yX1_forgetAll wsX1_forgetAll) := goodIn_app (goodIn_of _ (by decide +kernel)) ggX5_load_X1_forgetAll
theorem dX5_load_0 : decode cX5_load 0 = .ok (.aload_n 0, 1) := by decide +kernel
theorem dX5_load_1 : decode cX5_load 1 = .ok (.getfield 43, 3) := by decide +kernel
theorem dX5_load_4 : decode cX5_load 4 = .ok (.aload_n 0, 1) := by decide +kernel
theorem dX5_load_5 : decode cX5_load 5 = .ok (.getfield 16, 3) := by decide +kernel
theorem dX5_load_8 : decode cX5_load 8 = .ok (.invokevirtual 79, 3) := by decide +kernel
theorem dX5_load_11 : decode cX5_load 11 = .ok (.bipush (-9), 2) := by decide +kernel
theorem dX5_load_13 : decode cX5_load 13 = .ok (.if_icmp .eq 13, 3) := by decide +kernel
theorem dX5_load_16 : decode cX5_load 16 = .ok (.new 66, 3) := by decide +kernel
theorem dX5_load_19 : decode cX5_load 19 = .ok (.dup, 1) := by decide +kernel
theorem dX5_load_20 : decode cX5_load 20 = .ok (.ldc 83, 2) := by decide +kernel
theorem dX5_load_22 : decode cX5_load 22 = .ok (.invokespecial 70, 3) := by decide +kernel
theorem dX5_load_25 : decode cX5_load 25 = .ok (.athrow, 1) := by decide +kernel
theorem dX5_load_26 : decode cX5_load 26 = .ok (.aload_n 0, 1) := by decide +kernel
theorem dX5_load_27 : decode cX5_load 27 = .ok (.getfield 10, 3) := by decide +kernel
theorem dX5_load_30 : decode cX5_load 30 = .ok (.aload_n 0, 1) := by decide +kernel
theorem dX5_load_31 : decode cX5_load 31 = .ok (.getfield 16, 3) := by decide +kernel
theorem dX5_load_34 : decode cX5_load 34 = .ok (.invokevirtual 85, 3) := by decide +kernel
theorem dX5_load_37 : decode cX5_load 37 = .ok (.aload_n 0, 1) := by decide +kernel
theorem dX5_load_38 : decode cX5_load 38 = .ok (.getfield 36, 3) := by decide +kernel
theorem dX5_load_41 : decode cX5_load 41 = .ok (.invokevirtual 89, 3) := by decide +kernel
theorem dX5_load_44 : decode cX5_load 44 = .ok (.iconst 0, 1) := by decide +kernel
theorem dX5_load_45 : decode cX5_load 45 = .ok (.istore_n 1, 1) := by decide +kernel
theorem dX5_load_46 : decode cX5_load 46 = .ok (.iload_n 1, 1) := by decide +kernel
theorem dX5_load_47 : decode cX5_load 47 = .ok (.iconst 2, 1) := by decide +kernel
theorem dX5_load_48 : decode cX5_load 48 = .ok (.if_icmp .ge 16, 3) := by decide +kernel
theorem dX5_load_51 : decode cX5_load 51 = .ok (.aload_n 0, 1) := by decide +kernel
theorem dX5_load_52 : decode cX5_load 52 = .ok (.getfield 51, 3) := by decide +kernel
theorem dX5_load_55 : decode cX5_load 55 = .ok (.iload_n 1, 1) := by decide +kernel
theorem dX5_load_56 : decode cX5_load 56 = .ok (.iconst 0, 1) := by decide +kernel
theorem dX5_load_57 : decode cX5_load 57 = .ok (.bastore, 1) := by decide +kernel
theorem dX5_load_58 : decode cX5_load 58 = .ok (.iinc 1 1, 3) := by decide +kernel
theorem dX5_load_61 : decode cX5_load 61 = .ok (.goto (-15), 3) := by decide +kernel
theorem dX5_load_64 : decode cX5_load 64 = .ok (.aload_n 0, 1) := by decide +kernel
theorem dX5_load_65 : decode cX5_load 65 = .ok (.getfield 10, 3) := by decide +kernel
theorem dX5_load_68 : decode cX5_load 68 = .ok (.getfield 92, 3) := by decide +kernel
theorem dX5_load_71 : decode cX5_load 71 = .ok (.ireturn, 1) := by decide +kernel
set_option maxRecDepth 20000 in
theorem ggX5_about_X3_dogsToRun : GoodIn wsX5_about wsX3_dogsToRun := goodIn_r _ [17, 18, 19, 20, 21, 16, 22, 23, 41, 42, 43, 44, 45, 46, 47, 48, 49, 50, 51, 52, 53, 54, 55] (by decide +kernel) (by decide +kernel)
set_option maxRecDepth 20000 in
theorem gX5_about_X3_dogsToRun : GoodIn wsX5_about (wsV RX5 98 RX3 yX3_dogsToRun wsX3_dogsToRun) := goodIn_app (goodIn_of _ (by decide +kernel)) ggX5_about_X3_dogsToRun
set_option maxRecDepth 20000 in
theorem ggX5_about_X3_dogsWithRun : GoodIn wsX5_about wsX3_dogsWithRun := goodIn_r _ [27, 18, 28, 41, 42, 43, 44, 45, 46, 47, 48, 49, 50, 51, 52, 53, 54, 55] (by decide +kernel) (by decide +kernel)
set_option maxRecDepth 20000 in
theorem gX5_about_X3_dogsWithRun : GoodIn wsX5_about (wsV RX5 101 RX3 yX3_dogsWithRun wsX3_dogsWithRun) := goodIn_app (goodIn_of _ (by decide +kernel)) ggX5_about_X3_dogsWithRun
set_option maxRecDepth 20000 in
theorem ggX5_about_X3_dogsWithdrawn : GoodIn wsX5_about wsX3_dogsWithdrawn := goodIn_r _ [32, 18, 23, 41, 42, 43, 44, 45, 46, 47, 48, 49, 50, 51, 52, 53, 54, 55] (by decide +kernel) (by decide +kernel)
set_option maxRecDepth 20000 in
theorem gX5_about_X3_dogsWithdrawn : GoodIn wsX5_about (wsV RX5 104 RX3 yX3_dogsWithdrawn wsX3_dogsWithdrawn) := goodIn_app (goodIn_of _ (by decide +kernel)) ggX5_about_X3_dogsWithdrawn
theorem dX5_about_0 : decode cX5_about 0 = .ok (.iload_n 1, 1) := by decide +kernel
theorem dX5_about_1 : decode cX5_about 1 = .ok (.ifCond .lt 9, 3) := by decide +kernel
theorem dX5_about_4 : decode cX5_about 4 = .ok (.iload_n 1, 1) := by decide +kernel
theorem dX5_about_5 : decode cX5_about 5 = .ok (.bipush 16, 2) := by decide +kernel
theorem dX5_about_7 : decode cX5_about 7 = .ok (.if_icmp .le 13, 3) := by decide +kernel
theorem dX5_about_10 : decode cX5_about 10 = .ok (.new 55, 3) := by decide +kernel
theorem dX5_about_13 : decode cX5_about 13 = .ok (.dup, 1) := by decide +kernel
theorem dX5_about_14 : decode cX5_about 14 = .ok (.ldc 96, 2) := by decide +kernel
theorem dX5_about_16 : decode cX5_about 16 = .ok (.invokespecial 59, 3) := by decide +kernel
theorem dX5_about_19 : decode cX5_about 19 = .ok (.athrow, 1) := by decide +kernel
theorem dX5_about_20 : decode cX5_about 20 = .ok (.iload_n 1, 1) := by decide +kernel
theorem dX5_about_21 : decode cX5_about 21 = .ok (.tableswitch 147 0 10 #[59, 67, 75, 83, 91, 99, 107, 115, 123, 131, 139], 59) := by decide +kernel
theorem dX5_about_80 : decode cX5_about 80 = .ok (.aload_n 0, 1) := by decide +kernel
theorem dX5_about_81 : decode cX5_about 81 = .ok (.getfield 10, 3) := by decide +kernel
theorem dX5_about_84 : decode cX5_about 84 = .ok (.getfield 92, 3) := by decide +kernel
theorem dX5_about_87 : decode cX5_about 87 = .ok (.ireturn, 1) := by decide +kernel
theorem dX5_about_88 : decode cX5_about 88 = .ok (.aload_n 0, 1) := by decide +kernel
theorem dX5_about_89 : decode cX5_about 89 = .ok (.getfield 10, 3) := by decide +kernel
theorem dX5_about_92 : decode cX5_about 92 = .ok (.invokevirtual 98, 3) := by decide +kernel
theorem dX5_about_95 : decode cX5_about 95 = .ok (.ireturn, 1) := by decide +kernel
theorem dX5_about_96 : decode cX5_about 96 = .ok (.aload_n 0, 1) := by decide +kernel
theorem dX5_about_97 : decode cX5_about 97 = .ok (.getfield 10, 3) := by decide +kernel
theorem dX5_about_100 : decode cX5_about 100 = .ok (.invokevirtual 101, 3) := by decide +kernel
theorem dX5_about_103 : decode cX5_about 103 = .ok (.ireturn, 1) := by decide +kernel
theorem dX5_about_104 : decode cX5_about 104 = .ok (.aload_n 0, 1) := by decide +kernel
theorem dX5_about_105 : decode cX5_about 105 = .ok (.getfield 10, 3) := by decide +kernel
theorem dX5_about_108 : decode cX5_about 108 = .ok (.invokevirtual 104, 3) := by decide +kernel
theorem dX5_about_111 : decode cX5_about 111 = .ok (.ireturn, 1) := by decide +kernel
theorem dX5_about_112 : decode cX5_about 112 = .ok (.aload_n 0, 1) := by decide +kernel
theorem dX5_about_113 : decode cX5_about 113 = .ok (.getfield 10, 3) := by decide +kernel
theorem dX5_about_116 : decode cX5_about 116 = .ok (.getfield 107, 3) := by decide +kernel
theorem dX5_about_119 : decode cX5_about 119 = .ok (.ireturn, 1) := by decide +kernel
theorem dX5_about_120 : decode cX5_about 120 = .ok (.aload_n 0, 1) := by decide +kernel
theorem dX5_about_121 : decode cX5_about 121 = .ok (.getfield 10, 3) := by decide +kernel
theorem dX5_about_124 : decode cX5_about 124 = .ok (.getfield 110, 3) := by decide +kernel
theorem dX5_about_127 : decode cX5_about 127 = .ok (.ireturn, 1) := by decide +kernel
theorem dX5_about_128 : decode cX5_about 128 = .ok (.aload_n 0, 1) := by decide +kernel
theorem dX5_about_129 : decode cX5_about 129 = .ok (.getfield 10, 3) := by decide +kernel
theorem dX5_about_132 : decode cX5_about 132 = .ok (.getfield 113, 3) := by decide +kernel
theorem dX5_about_135 : decode cX5_about 135 = .ok (.ireturn, 1) := by decide +kernel
theorem dX5_about_136 : decode cX5_about 136 = .ok (.aload_n 0, 1) := by decide +kernel
theorem dX5_about_137 : decode cX5_about 137 = .ok (.getfield 10, 3) := by decide +kernel
theorem dX5_about_140 : decode cX5_about 140 = .ok (.getfield 116, 3) := by decide +kernel
theorem dX5_about_143 : decode cX5_about 143 = .ok (.ireturn, 1) := by decide +kernel
theorem dX5_about_144 : decode cX5_about 144 = .ok (.aload_n 0, 1) := by decide +kernel
theorem dX5_about_145 : decode cX5_about 145 = .ok (.getfield 10, 3) := by decide +kernel
theorem dX5_about_148 : decode cX5_about 148 = .ok (.getfield 119, 3) := by decide +kernel
theorem dX5_about_151 : decode cX5_about 151 = .ok (.ireturn, 1) := by decide +kernel
theorem dX5_about_152 : decode cX5_about 152 = .ok (.aload_n 0, 1) := by decide +kernel
theorem dX5_about_153 : decode cX5_about 153 = .ok (.getfield 10, 3) := by decide +kernel
theorem dX5_about_156 : decode cX5_about 156 = .ok (.getfield 122, 3) := by decide +kernel
theorem dX5_about_159 : decode cX5_about 159 = .ok (.ireturn, 1) := by decide +kernel
theorem dX5_about_160 : decode cX5_about 160 = .ok (.aload_n 0, 1) := by decide +kernel
theorem dX5_about_161 : decode cX5_about 161 = .ok (.getfield 10, 3) := by decide +kernel
theorem dX5_about_164 : decode cX5_about 164 = .ok (.getfield 125, 3) := by decide +kernel
theorem dX5_about_167 : decode cX5_about 167 = .ok (.ireturn, 1) := by decide +kernel
theorem dX5_about_168 : decode cX5_about 168 = .ok (.aload_n 0, 1) := by decide +kernel
theorem dX5_about_169 : decode cX5_about 169 = .ok (.getfield 10, 3) := by decide +kernel
theorem dX5_about_172 : decode cX5_about 172 = .ok (.getfield 128, 3) := by decide +kernel
theorem dX5_about_175 : decode cX5_about 175 = .ok (.iload_n 1, 1) := by decide +kernel
theorem dX5_about_176 : decode cX5_about 176 = .ok (.bipush 11, 2) := by decide +kernel
theorem dX5_about_178 : decode cX5_about 178 = .ok (.isub, 1) := by decide +kernel
theorem dX5_about_179 : decode cX5_about 179 = .ok (.iaload, 1) := by decide +kernel
theorem dX5_about_180 : decode cX5_about 180 = .ok (.ireturn, 1) := by decide +kernel
set_option maxRecDepth 20000 in
theorem ggX5_dog_X3_hasDog : GoodIn wsX5_dog wsX3_hasDog := goodIn_r _ [16, 17, 73, 74, 75, 76, 77, 78, 79, 80, 81, 82, 83, 84, 85, 86, 87] (by decide +kernel) (by decide +kernel)
set_option maxRecDepth 20000 in
theorem gX5_dog_X3_hasDog : GoodIn wsX5_dog (wsV RX5 132 RX3 yX3_hasDog wsX3_hasDog) := goodIn_app (goodIn_of _ (by decide +kernel)) ggX5_dog_X3_hasDog
set_option maxRecDepth 20000 in
theorem ggX5_dog_X3_scoreOf : GoodIn wsX5_dog wsX3_scoreOf := goodIn_r _ [21, 22, 23, 24, 25, 15, 26, 27, 28, 73, 74, 75, 76, 77, 78, 79, 80, 81, 82, 83, 84, 85, 86, 87] (by decide +kernel) (by decide +kernel)
set_option maxRecDepth 20000 in
theorem gX5_dog_X3_scoreOf : GoodIn wsX5_dog (wsV RX5 153 RX3 yX3_scoreOf wsX3_scoreOf) := goodIn_app (goodIn_of _ (by decide +kernel)) ggX5_dog_X3_scoreOf
set_option maxRecDepth 20000 in
theorem ggX5_dog_X3_placeOf : GoodIn wsX5_dog wsX3_placeOf := goodIn_r _ [32, 22, 17, 33, 34, 35, 15, 36, 37, 38, 19, 20, 21, 23, 24, 25, 26, 27, 28, 73, 74, 75, 76, 77, 78, 79, 80, 81, 82, 83, 84, 85, 86, 87] (by decide +kernel) (by decide +kernel)
set_option maxRecDepth 20000 in
theorem gX5_dog_X3_placeOf : GoodIn wsX5_dog (wsV RX5 159 RX3 yX3_placeOf wsX3_placeOf) := goodIn_app (goodIn_of _ (by decide +kernel)) ggX5_dog_X3_placeOf
set_option maxRecDepth 20000 in
theorem ggX5_dog_X0_placeInOrder : GoodIn wsX5_dog wsX0_placeInOrder := goodIn_r _ [43, 44, 45, 46, 47, 48, 42, 49, 50, 51, 52, 53, 54, 55, 15, 56, 57, 17, 58, 59, 60, 61, 62, 63, 64, 88, 89, 90, 91, 73, 74, 75, 76, 77, 78, 79, 80, 81, 82, 83, 84, 85, 86, 87] (by decide +kernel) (by decide +kernel)
set_option maxRecDepth 20000 in
theorem gX5_dog_X0_placeInOrder : GoodIn wsX5_dog (wsV RX5 162 RX0 yX0_placeInOrder wsX0_placeInOrder) := goodIn_app (goodIn_of _ (by decide +kernel)) ggX5_dog_X0_placeInOrder
theorem dX5_dog_0 : decode cX5_dog 0 = .ok (.aload_n 0, 1) := by decide +kernel
theorem dX5_dog_1 : decode cX5_dog 1 = .ok (.getfield 10, 3) := by decide +kernel
theorem dX5_dog_4 : decode cX5_dog 4 = .ok (.iload_n 1, 1) := by decide +kernel
theorem dX5_dog_5 : decode cX5_dog 5 = .ok (.invokevirtual 132, 3) := by decide +kernel
theorem dX5_dog_8 : decode cX5_dog 8 = .ok (.ifCond .ne 13, 3) := by decide +kernel
theorem dX5_dog_11 : decode cX5_dog 11 = .ok (.new 136, 3) := by decide +kernel
theorem dX5_dog_14 : decode cX5_dog 14 = .ok (.dup, 1) := by decide +kernel
theorem dX5_dog_15 : decode cX5_dog 15 = .ok (.ldc 138, 2) := by decide +kernel
theorem dX5_dog_17 : decode cX5_dog 17 = .ok (.invokespecial 140, 3) := by decide +kernel
theorem dX5_dog_20 : decode cX5_dog 20 = .ok (.athrow, 1) := by decide +kernel
theorem dX5_dog_21 : decode cX5_dog 21 = .ok (.iload_n 2, 1) := by decide +kernel
theorem dX5_dog_22 : decode cX5_dog 22 = .ok (.ifCond .lt 9, 3) := by decide +kernel
theorem dX5_dog_25 : decode cX5_dog 25 = .ok (.iload_n 2, 1) := by decide +kernel
theorem dX5_dog_26 : decode cX5_dog 26 = .ok (.bipush 7, 2) := by decide +kernel
theorem dX5_dog_28 : decode cX5_dog 28 = .ok (.if_icmp .le 13, 3) := by decide +kernel
theorem dX5_dog_31 : decode cX5_dog 31 = .ok (.new 55, 3) := by decide +kernel
theorem dX5_dog_34 : decode cX5_dog 34 = .ok (.dup, 1) := by decide +kernel
theorem dX5_dog_35 : decode cX5_dog 35 = .ok (.ldc 96, 2) := by decide +kernel
theorem dX5_dog_37 : decode cX5_dog 37 = .ok (.invokespecial 59, 3) := by decide +kernel
theorem dX5_dog_40 : decode cX5_dog 40 = .ok (.athrow, 1) := by decide +kernel
theorem dX5_dog_41 : decode cX5_dog 41 = .ok (.iload_n 2, 1) := by decide +kernel
theorem dX5_dog_42 : decode cX5_dog 42 = .ok (.tableswitch 118 0 6 #[42, 52, 62, 72, 90, 99, 109], 42) := by decide +kernel
theorem dX5_dog_84 : decode cX5_dog 84 = .ok (.aload_n 0, 1) := by decide +kernel
theorem dX5_dog_85 : decode cX5_dog 85 = .ok (.getfield 10, 3) := by decide +kernel
theorem dX5_dog_88 : decode cX5_dog 88 = .ok (.getfield 141, 3) := by decide +kernel
theorem dX5_dog_91 : decode cX5_dog 91 = .ok (.iload_n 1, 1) := by decide +kernel
theorem dX5_dog_92 : decode cX5_dog 92 = .ok (.iaload, 1) := by decide +kernel
theorem dX5_dog_93 : decode cX5_dog 93 = .ok (.ireturn, 1) := by decide +kernel
theorem dX5_dog_94 : decode cX5_dog 94 = .ok (.aload_n 0, 1) := by decide +kernel
theorem dX5_dog_95 : decode cX5_dog 95 = .ok (.getfield 10, 3) := by decide +kernel
theorem dX5_dog_98 : decode cX5_dog 98 = .ok (.getfield 144, 3) := by decide +kernel
theorem dX5_dog_101 : decode cX5_dog 101 = .ok (.iload_n 1, 1) := by decide +kernel
theorem dX5_dog_102 : decode cX5_dog 102 = .ok (.iaload, 1) := by decide +kernel
theorem dX5_dog_103 : decode cX5_dog 103 = .ok (.ireturn, 1) := by decide +kernel
theorem dX5_dog_104 : decode cX5_dog 104 = .ok (.aload_n 0, 1) := by decide +kernel
theorem dX5_dog_105 : decode cX5_dog 105 = .ok (.getfield 10, 3) := by decide +kernel
theorem dX5_dog_108 : decode cX5_dog 108 = .ok (.getfield 147, 3) := by decide +kernel
theorem dX5_dog_111 : decode cX5_dog 111 = .ok (.iload_n 1, 1) := by decide +kernel
theorem dX5_dog_112 : decode cX5_dog 112 = .ok (.iaload, 1) := by decide +kernel
theorem dX5_dog_113 : decode cX5_dog 113 = .ok (.ireturn, 1) := by decide +kernel
theorem dX5_dog_114 : decode cX5_dog 114 = .ok (.aload_n 0, 1) := by decide +kernel
theorem dX5_dog_115 : decode cX5_dog 115 = .ok (.getfield 10, 3) := by decide +kernel
theorem dX5_dog_118 : decode cX5_dog 118 = .ok (.getfield 150, 3) := by decide +kernel
theorem dX5_dog_121 : decode cX5_dog 121 = .ok (.iload_n 1, 1) := by decide +kernel
theorem dX5_dog_122 : decode cX5_dog 122 = .ok (.baload, 1) := by decide +kernel
theorem dX5_dog_123 : decode cX5_dog 123 = .ok (.ifCond .eq 7, 3) := by decide +kernel
theorem dX5_dog_126 : decode cX5_dog 126 = .ok (.iconst 1, 1) := by decide +kernel
theorem dX5_dog_127 : decode cX5_dog 127 = .ok (.goto 4, 3) := by decide +kernel
theorem dX5_dog_130 : decode cX5_dog 130 = .ok (.iconst 0, 1) := by decide +kernel
theorem dX5_dog_131 : decode cX5_dog 131 = .ok (.ireturn, 1) := by decide +kernel
theorem dX5_dog_132 : decode cX5_dog 132 = .ok (.aload_n 0, 1) := by decide +kernel
theorem dX5_dog_133 : decode cX5_dog 133 = .ok (.getfield 10, 3) := by decide +kernel
theorem dX5_dog_136 : decode cX5_dog 136 = .ok (.iload_n 1, 1) := by decide +kernel
theorem dX5_dog_137 : decode cX5_dog 137 = .ok (.invokevirtual 153, 3) := by decide +kernel
theorem dX5_dog_140 : decode cX5_dog 140 = .ok (.ireturn, 1) := by decide +kernel
theorem dX5_dog_141 : decode cX5_dog 141 = .ok (.aload_n 0, 1) := by decide +kernel
theorem dX5_dog_142 : decode cX5_dog 142 = .ok (.getfield 10, 3) := by decide +kernel
theorem dX5_dog_145 : decode cX5_dog 145 = .ok (.getfield 156, 3) := by decide +kernel
theorem dX5_dog_148 : decode cX5_dog 148 = .ok (.iload_n 1, 1) := by decide +kernel
theorem dX5_dog_149 : decode cX5_dog 149 = .ok (.iaload, 1) := by decide +kernel
theorem dX5_dog_150 : decode cX5_dog 150 = .ok (.ireturn, 1) := by decide +kernel
theorem dX5_dog_151 : decode cX5_dog 151 = .ok (.aload_n 0, 1) := by decide +kernel
theorem dX5_dog_152 : decode cX5_dog 152 = .ok (.getfield 10, 3) := by decide +kernel
theorem dX5_dog_155 : decode cX5_dog 155 = .ok (.iload_n 1, 1) := by decide +kernel
theorem dX5_dog_156 : decode cX5_dog 156 = .ok (.invokevirtual 159, 3) := by decide +kernel
theorem dX5_dog_159 : decode cX5_dog 159 = .ok (.ireturn, 1) := by decide +kernel
theorem dX5_dog_160 : decode cX5_dog 160 = .ok (.aload_n 0, 1) := by decide +kernel
theorem dX5_dog_161 : decode cX5_dog 161 = .ok (.getfield 22, 3) := by decide +kernel
theorem dX5_dog_164 : decode cX5_dog 164 = .ok (.aload_n 0, 1) := by decide +kernel
theorem dX5_dog_165 : decode cX5_dog 165 = .ok (.getfield 10, 3) := by decide +kernel
theorem dX5_dog_168 : decode cX5_dog 168 = .ok (.iload_n 1, 1) := by decide +kernel
theorem dX5_dog_169 : decode cX5_dog 169 = .ok (.invokevirtual 162, 3) := by decide +kernel
theorem dX5_dog_172 : decode cX5_dog 172 = .ok (.ireturn, 1) := by decide +kernel
set_option maxRecDepth 20000 in
theorem ggX5_lost_X3_hasDog : GoodIn wsX5_lost wsX3_hasDog := goodIn_r _ [9, 10, 29, 30, 31, 32, 33, 34, 35, 36, 37, 38, 39, 40, 41, 42, 43] (by decide +kernel) (by decide +kernel)
set_option maxRecDepth 20000 in
theorem gX5_lost_X3_hasDog : GoodIn wsX5_lost (wsV RX5 132 RX3 yX3_hasDog wsX3_hasDog) := goodIn_app (goodIn_of _ (by decide +kernel)) ggX5_lost_X3_hasDog
set_option maxRecDepth 20000 in
theorem ggX5_lost_X5_isPhase : GoodIn wsX5_lost wsX5_isPhase := goodIn_r _ [14] (by decide +kernel) (by decide +kernel)
set_option maxRecDepth 20000 in
theorem gX5_lost_X5_isPhase : GoodIn wsX5_lost (va_wsS RX5 166 yX5_isPhase wsX5_isPhase) := goodIn_app (goodIn_of _ (by decide +kernel)) ggX5_lost_X5_isPhase
set_option maxRecDepth 20000 in
theorem ggX5_lost_X3_lossOf : GoodIn wsX5_lost wsX3_lossOf := goodIn_r _ [18, 19, 20, 29, 30, 31, 32, 33, 34, 35, 36, 37, 38, 39, 40, 41, 42, 43] (by decide +kernel) (by decide +kernel)
set_option maxRecDepth 20000 in
theorem gX5_lost_X3_lossOf : GoodIn wsX5_lost (wsV RX5 171 RX3 yX3_lossOf wsX3_lossOf) := goodIn_app (goodIn_of _ (by decide +kernel)) ggX5_lost_X3_lossOf
theorem dX5_lost_0 : decode cX5_lost 0 = .ok (.aload_n 0, 1) := by decide +kernel
theorem dX5_lost_1 : decode cX5_lost 1 = .ok (.getfield 10, 3) := by decide +kernel
theorem dX5_lost_4 : decode cX5_lost 4 = .ok (.iload_n 1, 1) := by decide +kernel
theorem dX5_lost_5 : decode cX5_lost 5 = .ok (.invokevirtual 132, 3) := by decide +kernel
theorem dX5_lost_8 : decode cX5_lost 8 = .ok (.ifCond .eq 10, 3) := by decide +kernel
theorem dX5_lost_11 : decode cX5_lost 11 = .ok (.iload_n 2, 1) := by decide +kernel
theorem dX5_lost_12 : decode cX5_lost 12 = .ok (.invokestatic 166, 3) := by decide +kernel
theorem dX5_lost_15 : decode cX5_lost 15 = .ok (.ifCond .ne 13, 3) := by decide +kernel
theorem dX5_lost_18 : decode cX5_lost 18 = .ok (.new 136, 3) := by decide +kernel
theorem dX5_lost_21 : decode cX5_lost 21 = .ok (.dup, 1) := by decide +kernel
theorem dX5_lost_22 : decode cX5_lost 22 = .ok (.ldc 169, 2) := by decide +kernel
theorem dX5_lost_24 : decode cX5_lost 24 = .ok (.invokespecial 140, 3) := by decide +kernel
theorem dX5_lost_27 : decode cX5_lost 27 = .ok (.athrow, 1) := by decide +kernel
theorem dX5_lost_28 : decode cX5_lost 28 = .ok (.aload_n 0, 1) := by decide +kernel
theorem dX5_lost_29 : decode cX5_lost 29 = .ok (.getfield 10, 3) := by decide +kernel
theorem dX5_lost_32 : decode cX5_lost 32 = .ok (.getfield 150, 3) := by decide +kernel
theorem dX5_lost_35 : decode cX5_lost 35 = .ok (.iload_n 1, 1) := by decide +kernel
theorem dX5_lost_36 : decode cX5_lost 36 = .ok (.baload, 1) := by decide +kernel
theorem dX5_lost_37 : decode cX5_lost 37 = .ok (.ifCond .eq 15, 3) := by decide +kernel
theorem dX5_lost_40 : decode cX5_lost 40 = .ok (.aload_n 0, 1) := by decide +kernel
theorem dX5_lost_41 : decode cX5_lost 41 = .ok (.getfield 10, 3) := by decide +kernel
theorem dX5_lost_44 : decode cX5_lost 44 = .ok (.iload_n 1, 1) := by decide +kernel
theorem dX5_lost_45 : decode cX5_lost 45 = .ok (.iload_n 2, 1) := by decide +kernel
theorem dX5_lost_46 : decode cX5_lost 46 = .ok (.invokevirtual 171, 3) := by decide +kernel
theorem dX5_lost_49 : decode cX5_lost 49 = .ok (.goto 5, 3) := by decide +kernel
theorem dX5_lost_52 : decode cX5_lost 52 = .ok (.bipush (-9), 2) := by decide +kernel
theorem dX5_lost_54 : decode cX5_lost 54 = .ok (.ireturn, 1) := by decide +kernel
set_option maxRecDepth 20000 in
theorem ggX5_order_X0_dogInOrder : GoodIn wsX5_order wsX0_dogInOrder := goodIn_r _ [9, 10, 11, 12, 13, 14, 8, 15, 16, 17, 18, 19, 20, 21, 22, 23, 24, 25, 26, 27, 28, 29, 30, 31, 32, 41, 42, 43, 44, 45, 46, 47, 48, 49, 50, 51, 52, 53, 54, 55, 56, 57, 58, 59] (by decide +kernel) (by decide +kernel)
set_option maxRecDepth 20000 in
theorem gX5_order_X0_dogInOrder : GoodIn wsX5_order (wsV RX5 177 RX0 yX0_dogInOrder wsX0_dogInOrder) := goodIn_app (goodIn_of _ (by decide +kernel)) ggX5_order_X0_dogInOrder
theorem dX5_order_0 : decode cX5_order 0 = .ok (.iload_n 1, 1) := by decide +kernel
theorem dX5_order_1 : decode cX5_order 1 = .ok (.ifCond .ge 13, 3) := by decide +kernel
theorem dX5_order_4 : decode cX5_order 4 = .ok (.new 55, 3) := by decide +kernel
theorem dX5_order_7 : decode cX5_order 7 = .ok (.dup, 1) := by decide +kernel
theorem dX5_order_8 : decode cX5_order 8 = .ok (.ldc 175, 2) := by decide +kernel
theorem dX5_order_10 : decode cX5_order 10 = .ok (.invokespecial 59, 3) := by decide +kernel
theorem dX5_order_13 : decode cX5_order 13 = .ok (.athrow, 1) := by decide +kernel
theorem dX5_order_14 : decode cX5_order 14 = .ok (.aload_n 0, 1) := by decide +kernel
theorem dX5_order_15 : decode cX5_order 15 = .ok (.getfield 22, 3) := by decide +kernel
theorem dX5_order_18 : decode cX5_order 18 = .ok (.aload_n 0, 1) := by decide +kernel
theorem dX5_order_19 : decode cX5_order 19 = .ok (.getfield 10, 3) := by decide +kernel
theorem dX5_order_22 : decode cX5_order 22 = .ok (.iload_n 1, 1) := by decide +kernel
theorem dX5_order_23 : decode cX5_order 23 = .ok (.invokevirtual 177, 3) := by decide +kernel
theorem dX5_order_26 : decode cX5_order 26 = .ok (.ireturn, 1) := by decide +kernel
set_option maxRecDepth 20000 in
theorem ggX5_standing_X3_dogsAheadInStanding : GoodIn wsX5_standing wsX3_dogsAheadInStanding := goodIn_r _ [10, 11, 12, 13, 14, 15, 9, 16, 17, 18, 19, 20, 21, 22, 23, 24, 25, 26, 27, 28, 29, 30, 31, 32, 41, 42, 43, 44, 45, 46, 47, 48, 49, 50, 51, 52, 53, 54, 55] (by decide +kernel) (by decide +kernel)
set_option maxRecDepth 20000 in
theorem gX5_standing_X3_dogsAheadInStanding : GoodIn wsX5_standing (wsV RX5 180 RX3 yX3_dogsAheadInStanding wsX3_dogsAheadInStanding) := goodIn_app (goodIn_of _ (by decide +kernel)) ggX5_standing_X3_dogsAheadInStanding
theorem dX5_standing_0 : decode cX5_standing 0 = .ok (.iload_n 1, 1) := by decide +kernel
theorem dX5_standing_1 : decode cX5_standing 1 = .ok (.ifCond .ge 13, 3) := by decide +kernel
theorem dX5_standing_4 : decode cX5_standing 4 = .ok (.new 55, 3) := by decide +kernel
theorem dX5_standing_7 : decode cX5_standing 7 = .ok (.dup, 1) := by decide +kernel
theorem dX5_standing_8 : decode cX5_standing 8 = .ok (.ldc 175, 2) := by decide +kernel
theorem dX5_standing_10 : decode cX5_standing 10 = .ok (.invokespecial 59, 3) := by decide +kernel
theorem dX5_standing_13 : decode cX5_standing 13 = .ok (.athrow, 1) := by decide +kernel
theorem dX5_standing_14 : decode cX5_standing 14 = .ok (.iconst 0, 1) := by decide +kernel
theorem dX5_standing_15 : decode cX5_standing 15 = .ok (.istore_n 2, 1) := by decide +kernel
theorem dX5_standing_16 : decode cX5_standing 16 = .ok (.iload_n 2, 1) := by decide +kernel
theorem dX5_standing_17 : decode cX5_standing 17 = .ok (.aload_n 0, 1) := by decide +kernel
theorem dX5_standing_18 : decode cX5_standing 18 = .ok (.getfield 10, 3) := by decide +kernel
theorem dX5_standing_21 : decode cX5_standing 21 = .ok (.getfield 92, 3) := by decide +kernel
theorem dX5_standing_24 : decode cX5_standing 24 = .ok (.if_icmp .ge 35, 3) := by decide +kernel
theorem dX5_standing_27 : decode cX5_standing 27 = .ok (.aload_n 0, 1) := by decide +kernel
theorem dX5_standing_28 : decode cX5_standing 28 = .ok (.getfield 10, 3) := by decide +kernel
theorem dX5_standing_31 : decode cX5_standing 31 = .ok (.getfield 150, 3) := by decide +kernel
theorem dX5_standing_34 : decode cX5_standing 34 = .ok (.iload_n 2, 1) := by decide +kernel
theorem dX5_standing_35 : decode cX5_standing 35 = .ok (.baload, 1) := by decide +kernel
theorem dX5_standing_36 : decode cX5_standing 36 = .ok (.ifCond .eq 17, 3) := by decide +kernel
theorem dX5_standing_39 : decode cX5_standing 39 = .ok (.aload_n 0, 1) := by decide +kernel
theorem dX5_standing_40 : decode cX5_standing 40 = .ok (.getfield 10, 3) := by decide +kernel
theorem dX5_standing_43 : decode cX5_standing 43 = .ok (.iload_n 2, 1) := by decide +kernel
theorem dX5_standing_44 : decode cX5_standing 44 = .ok (.invokevirtual 180, 3) := by decide +kernel
theorem dX5_standing_47 : decode cX5_standing 47 = .ok (.iload_n 1, 1) := by decide +kernel
theorem dX5_standing_48 : decode cX5_standing 48 = .ok (.if_icmp .ne 5, 3) := by decide +kernel
theorem dX5_standing_51 : decode cX5_standing 51 = .ok (.iload_n 2, 1) := by decide +kernel
theorem dX5_standing_52 : decode cX5_standing 52 = .ok (.ireturn, 1) := by decide +kernel
theorem dX5_standing_53 : decode cX5_standing 53 = .ok (.iinc 2 1, 3) := by decide +kernel
theorem dX5_standing_56 : decode cX5_standing 56 = .ok (.goto (-40), 3) := by decide +kernel
theorem dX5_standing_59 : decode cX5_standing 59 = .ok (.bipush (-9), 2) := by decide +kernel
theorem dX5_standing_61 : decode cX5_standing 61 = .ok (.ireturn, 1) := by decide +kernel
set_option maxRecDepth 20000 in
theorem ggX5_owner_X5_isOwner : GoodIn wsX5_owner wsX5_isOwner := goodIn_r _ [7] (by decide +kernel) (by decide +kernel)
set_option maxRecDepth 20000 in
theorem gX5_owner_X5_isOwner : GoodIn wsX5_owner (va_wsS RX5 183 yX5_isOwner wsX5_isOwner) := goodIn_app (goodIn_of _ (by decide +kernel)) ggX5_owner_X5_isOwner
set_option maxRecDepth 20000 in
theorem ggX5_owner_X3_scoreOfOwner : GoodIn wsX5_owner wsX3_scoreOfOwner := goodIn_r _ [12, 13, 14, 15, 16, 17, 18, 19, 20, 21, 22, 23, 24, 11, 25, 26, 27, 28, 29, 30, 31, 32, 41, 42, 43, 44, 45, 46, 47, 48, 49, 50, 51, 52, 53, 54, 55] (by decide +kernel) (by decide +kernel)
set_option maxRecDepth 20000 in
theorem gX5_owner_X3_scoreOfOwner : GoodIn wsX5_owner (wsV RX5 188 RX3 yX3_scoreOfOwner wsX3_scoreOfOwner) := goodIn_app (goodIn_of _ (by decide +kernel)) ggX5_owner_X3_scoreOfOwner
theorem dX5_owner_0 : decode cX5_owner 0 = .ok (.iload_n 1, 1) := by decide +kernel
theorem dX5_owner_1 : decode cX5_owner 1 = .ok (.invokestatic 183, 3) := by decide +kernel
theorem dX5_owner_4 : decode cX5_owner 4 = .ok (.ifCond .ne 13, 3) := by decide +kernel
theorem dX5_owner_7 : decode cX5_owner 7 = .ok (.new 55, 3) := by decide +kernel
theorem dX5_owner_10 : decode cX5_owner 10 = .ok (.dup, 1) := by decide +kernel
theorem dX5_owner_11 : decode cX5_owner 11 = .ok (.ldc 186, 2) := by decide +kernel
theorem dX5_owner_13 : decode cX5_owner 13 = .ok (.invokespecial 59, 3) := by decide +kernel
theorem dX5_owner_16 : decode cX5_owner 16 = .ok (.athrow, 1) := by decide +kernel
theorem dX5_owner_17 : decode cX5_owner 17 = .ok (.aload_n 0, 1) := by decide +kernel
theorem dX5_owner_18 : decode cX5_owner 18 = .ok (.getfield 10, 3) := by decide +kernel
theorem dX5_owner_21 : decode cX5_owner 21 = .ok (.iload_n 1, 1) := by decide +kernel
theorem dX5_owner_22 : decode cX5_owner 22 = .ok (.invokevirtual 188, 3) := by decide +kernel
theorem dX5_owner_25 : decode cX5_owner 25 = .ok (.ireturn, 1) := by decide +kernel
set_option maxRecDepth 20000 in
theorem ggX5_enter_X5_isOwner : GoodIn wsX5_enter wsX5_isOwner := goodIn_r _ [11] (by decide +kernel) (by decide +kernel)
set_option maxRecDepth 20000 in
theorem gX5_enter_X5_isOwner : GoodIn wsX5_enter (va_wsS RX5 183 yX5_isOwner wsX5_isOwner) := goodIn_app (goodIn_of _ (by decide +kernel)) ggX5_enter_X5_isOwner
set_option maxRecDepth 20000 in
theorem ggX5_enter_X5_isDraw : GoodIn wsX5_enter wsX5_isDraw := goodIn_r _ [14] (by decide +kernel) (by decide +kernel)
set_option maxRecDepth 20000 in
theorem gX5_enter_X5_isDraw : GoodIn wsX5_enter (va_wsS RX5 191 yX5_isDraw wsX5_isDraw) := goodIn_app (goodIn_of _ (by decide +kernel)) ggX5_enter_X5_isDraw
set_option maxRecDepth 20000 in
theorem ggX5_enter_X3_dogWithDraw : GoodIn wsX5_enter wsX3_dogWithDraw := goodIn_r _ [19, 20, 21, 63, 64, 65, 66, 67, 68, 69, 70, 71, 72, 73, 74, 75, 76, 77] (by decide +kernel) (by decide +kernel)
set_option maxRecDepth 20000 in
theorem gX5_enter_X3_dogWithDraw : GoodIn wsX5_enter (wsV RX5 196 RX3 yX3_dogWithDraw wsX3_dogWithDraw) := goodIn_app (goodIn_of _ (by decide +kernel)) ggX5_enter_X3_dogWithDraw
set_option maxRecDepth 20000 in
theorem ggX5_enter_X1_remember : GoodIn wsX5_enter wsX1_remember := goodIn_r _ [26, 27, 28, 29, 30, 31, 32, 18, 33, 20, 34, 35, 36, 37, 38, 21, 39, 40, 41, 42, 43, 44, 45, 46, 47, 48, 49, 50, 78, 79, 80, 63, 64, 65, 66, 67, 68, 69, 70, 71, 72, 73, 74, 75, 76, 77] (by decide +kernel) (by decide +kernel)
set_option maxRecDepth 20000 in
theorem gX5_enter_X1_remember : GoodIn wsX5_enter (wsV RX5 201 RX1 yX1_remember wsX1_remember) := goodIn_app (goodIn_of _ (by decide +kernel)) ggX5_enter_X1_remember
set_option maxRecDepth 20000 in
theorem ggX5_enter_X3_addDog : GoodIn wsX5_enter wsX3_addDog := goodIn_r _ [54, 20, 34, 21, 39, 43, 40, 63, 64, 65, 66, 67, 68, 69, 70, 71, 72, 73, 74, 75, 76, 77] (by decide +kernel) (by decide +kernel)
set_option maxRecDepth 20000 in
theorem gX5_enter_X3_addDog : GoodIn wsX5_enter (wsV RX5 204 RX3 yX3_addDog wsX3_addDog) := goodIn_app (goodIn_of _ (by decide +kernel)) ggX5_enter_X3_addDog
theorem dX5_enter_0 : decode cX5_enter 0 = .ok (.iload_n 1, 1) := by decide +kernel
theorem dX5_enter_1 : decode cX5_enter 1 = .ok (.invokestatic 183, 3) := by decide +kernel
theorem dX5_enter_4 : decode cX5_enter 4 = .ok (.ifCond .eq 10, 3) := by decide +kernel
theorem dX5_enter_7 : decode cX5_enter 7 = .ok (.iload_n 2, 1) := by decide +kernel
theorem dX5_enter_8 : decode cX5_enter 8 = .ok (.invokestatic 191, 3) := by decide +kernel
theorem dX5_enter_11 : decode cX5_enter 11 = .ok (.ifCond .ne 13, 3) := by decide +kernel
theorem dX5_enter_14 : decode cX5_enter 14 = .ok (.new 55, 3) := by decide +kernel
theorem dX5_enter_17 : decode cX5_enter 17 = .ok (.dup, 1) := by decide +kernel
theorem dX5_enter_18 : decode cX5_enter 18 = .ok (.ldc 194, 2) := by decide +kernel
theorem dX5_enter_20 : decode cX5_enter 20 = .ok (.invokespecial 59, 3) := by decide +kernel
theorem dX5_enter_23 : decode cX5_enter 23 = .ok (.athrow, 1) := by decide +kernel
theorem dX5_enter_24 : decode cX5_enter 24 = .ok (.aload_n 0, 1) := by decide +kernel
theorem dX5_enter_25 : decode cX5_enter 25 = .ok (.getfield 10, 3) := by decide +kernel
theorem dX5_enter_28 : decode cX5_enter 28 = .ok (.getfield 92, 3) := by decide +kernel
theorem dX5_enter_31 : decode cX5_enter 31 = .ok (.bipush 12, 2) := by decide +kernel
theorem dX5_enter_33 : decode cX5_enter 33 = .ok (.if_icmp .ge 16, 3) := by decide +kernel
theorem dX5_enter_36 : decode cX5_enter 36 = .ok (.aload_n 0, 1) := by decide +kernel
theorem dX5_enter_37 : decode cX5_enter 37 = .ok (.getfield 10, 3) := by decide +kernel
theorem dX5_enter_40 : decode cX5_enter 40 = .ok (.iload_n 2, 1) := by decide +kernel
theorem dX5_enter_41 : decode cX5_enter 41 = .ok (.invokevirtual 196, 3) := by decide +kernel
theorem dX5_enter_44 : decode cX5_enter 44 = .ok (.bipush (-9), 2) := by decide +kernel
theorem dX5_enter_46 : decode cX5_enter 46 = .ok (.if_icmp .eq 13, 3) := by decide +kernel
theorem dX5_enter_49 : decode cX5_enter 49 = .ok (.new 66, 3) := by decide +kernel
theorem dX5_enter_52 : decode cX5_enter 52 = .ok (.dup, 1) := by decide +kernel
theorem dX5_enter_53 : decode cX5_enter 53 = .ok (.ldc 199, 2) := by decide +kernel
theorem dX5_enter_55 : decode cX5_enter 55 = .ok (.invokespecial 70, 3) := by decide +kernel
theorem dX5_enter_58 : decode cX5_enter 58 = .ok (.athrow, 1) := by decide +kernel
theorem dX5_enter_59 : decode cX5_enter 59 = .ok (.aload_n 0, 1) := by decide +kernel
theorem dX5_enter_60 : decode cX5_enter 60 = .ok (.getfield 36, 3) := by decide +kernel
theorem dX5_enter_63 : decode cX5_enter 63 = .ok (.aload_n 0, 1) := by decide +kernel
theorem dX5_enter_64 : decode cX5_enter 64 = .ok (.getfield 10, 3) := by decide +kernel
theorem dX5_enter_67 : decode cX5_enter 67 = .ok (.invokevirtual 201, 3) := by decide +kernel
theorem dX5_enter_70 : decode cX5_enter 70 = .ok (.aload_n 0, 1) := by decide +kernel
theorem dX5_enter_71 : decode cX5_enter 71 = .ok (.getfield 10, 3) := by decide +kernel
theorem dX5_enter_74 : decode cX5_enter 74 = .ok (.iload_n 1, 1) := by decide +kernel
theorem dX5_enter_75 : decode cX5_enter 75 = .ok (.iload_n 2, 1) := by decide +kernel
theorem dX5_enter_76 : decode cX5_enter 76 = .ok (.invokevirtual 204, 3) := by decide +kernel
theorem dX5_enter_79 : decode cX5_enter 79 = .ok (.ireturn, 1) := by decide +kernel
set_option maxRecDepth 20000 in
theorem ggX5_withdraw_X3_hasDog : GoodIn wsX5_withdraw wsX3_hasDog := goodIn_r _ [12, 13, 52, 53, 54, 55, 56, 57, 58, 59, 60, 61, 62, 63, 64, 65, 66] (by decide +kernel) (by decide +kernel)
set_option maxRecDepth 20000 in
theorem gX5_withdraw_X3_hasDog : GoodIn wsX5_withdraw (wsV RX5 132 RX3 yX3_hasDog wsX3_hasDog) := goodIn_app (goodIn_of _ (by decide +kernel)) ggX5_withdraw_X3_hasDog
set_option maxRecDepth 20000 in
theorem ggX5_withdraw_X1_remember : GoodIn wsX5_withdraw wsX1_remember := goodIn_r _ [18, 19, 20, 21, 22, 23, 24, 11, 25, 13, 26, 27, 28, 29, 30, 31, 32, 33, 34, 35, 36, 37, 38, 39, 40, 41, 42, 43, 67, 68, 69, 52, 53, 54, 55, 56, 57, 58, 59, 60, 61, 62, 63, 64, 65, 66] (by decide +kernel) (by decide +kernel)
set_option maxRecDepth 20000 in
theorem gX5_withdraw_X1_remember : GoodIn wsX5_withdraw (wsV RX5 201 RX1 yX1_remember wsX1_remember) := goodIn_app (goodIn_of _ (by decide +kernel)) ggX5_withdraw_X1_remember
theorem dX5_withdraw_0 : decode cX5_withdraw 0 = .ok (.aload_n 0, 1) := by decide +kernel
theorem dX5_withdraw_1 : decode cX5_withdraw 1 = .ok (.getfield 10, 3) := by decide +kernel
theorem dX5_withdraw_4 : decode cX5_withdraw 4 = .ok (.iload_n 1, 1) := by decide +kernel
theorem dX5_withdraw_5 : decode cX5_withdraw 5 = .ok (.invokevirtual 132, 3) := by decide +kernel
theorem dX5_withdraw_8 : decode cX5_withdraw 8 = .ok (.ifCond .ne 13, 3) := by decide +kernel
theorem dX5_withdraw_11 : decode cX5_withdraw 11 = .ok (.new 136, 3) := by decide +kernel
theorem dX5_withdraw_14 : decode cX5_withdraw 14 = .ok (.dup, 1) := by decide +kernel
theorem dX5_withdraw_15 : decode cX5_withdraw 15 = .ok (.ldc 138, 2) := by decide +kernel
theorem dX5_withdraw_17 : decode cX5_withdraw 17 = .ok (.invokespecial 140, 3) := by decide +kernel
theorem dX5_withdraw_20 : decode cX5_withdraw 20 = .ok (.athrow, 1) := by decide +kernel
theorem dX5_withdraw_21 : decode cX5_withdraw 21 = .ok (.aload_n 0, 1) := by decide +kernel
theorem dX5_withdraw_22 : decode cX5_withdraw 22 = .ok (.getfield 10, 3) := by decide +kernel
theorem dX5_withdraw_25 : decode cX5_withdraw 25 = .ok (.getfield 147, 3) := by decide +kernel
theorem dX5_withdraw_28 : decode cX5_withdraw 28 = .ok (.iload_n 1, 1) := by decide +kernel
theorem dX5_withdraw_29 : decode cX5_withdraw 29 = .ok (.iaload, 1) := by decide +kernel
theorem dX5_withdraw_30 : decode cX5_withdraw 30 = .ok (.iconst 3, 1) := by decide +kernel
theorem dX5_withdraw_31 : decode cX5_withdraw 31 = .ok (.if_icmp .ne 13, 3) := by decide +kernel
theorem dX5_withdraw_34 : decode cX5_withdraw 34 = .ok (.new 66, 3) := by decide +kernel
theorem dX5_withdraw_37 : decode cX5_withdraw 37 = .ok (.dup, 1) := by decide +kernel
theorem dX5_withdraw_38 : decode cX5_withdraw 38 = .ok (.ldc 207, 2) := by decide +kernel
theorem dX5_withdraw_40 : decode cX5_withdraw 40 = .ok (.invokespecial 70, 3) := by decide +kernel
theorem dX5_withdraw_43 : decode cX5_withdraw 43 = .ok (.athrow, 1) := by decide +kernel
theorem dX5_withdraw_44 : decode cX5_withdraw 44 = .ok (.aload_n 0, 1) := by decide +kernel
theorem dX5_withdraw_45 : decode cX5_withdraw 45 = .ok (.getfield 36, 3) := by decide +kernel
theorem dX5_withdraw_48 : decode cX5_withdraw 48 = .ok (.aload_n 0, 1) := by decide +kernel
theorem dX5_withdraw_49 : decode cX5_withdraw 49 = .ok (.getfield 10, 3) := by decide +kernel
theorem dX5_withdraw_52 : decode cX5_withdraw 52 = .ok (.invokevirtual 201, 3) := by decide +kernel
theorem dX5_withdraw_55 : decode cX5_withdraw 55 = .ok (.aload_n 0, 1) := by decide +kernel
theorem dX5_withdraw_56 : decode cX5_withdraw 56 = .ok (.getfield 10, 3) := by decide +kernel
theorem dX5_withdraw_59 : decode cX5_withdraw 59 = .ok (.getfield 147, 3) := by decide +kernel
theorem dX5_withdraw_62 : decode cX5_withdraw 62 = .ok (.iload_n 1, 1) := by decide +kernel
theorem dX5_withdraw_63 : decode cX5_withdraw 63 = .ok (.iaload, 1) := by decide +kernel
theorem dX5_withdraw_64 : decode cX5_withdraw 64 = .ok (.istore_n 2, 1) := by decide +kernel
theorem dX5_withdraw_65 : decode cX5_withdraw 65 = .ok (.aload_n 0, 1) := by decide +kernel
theorem dX5_withdraw_66 : decode cX5_withdraw 66 = .ok (.getfield 10, 3) := by decide +kernel
theorem dX5_withdraw_69 : decode cX5_withdraw 69 = .ok (.getfield 147, 3) := by decide +kernel
theorem dX5_withdraw_72 : decode cX5_withdraw 72 = .ok (.iload_n 1, 1) := by decide +kernel
theorem dX5_withdraw_73 : decode cX5_withdraw 73 = .ok (.iconst 3, 1) := by decide +kernel
theorem dX5_withdraw_74 : decode cX5_withdraw 74 = .ok (.iastore, 1) := by decide +kernel
theorem dX5_withdraw_75 : decode cX5_withdraw 75 = .ok (.iload_n 2, 1) := by decide +kernel
theorem dX5_withdraw_76 : decode cX5_withdraw 76 = .ok (.ireturn, 1) := by decide +kernel
set_option maxRecDepth 20000 in
theorem ggX5_run_X0_setLosses : GoodIn wsX5_run wsX0_setLosses := goodIn_r _ [12, 13, 14, 15, 120, 121, 122, 123] (by decide +kernel) (by decide +kernel)
set_option maxRecDepth 20000 in
theorem gX5_run_X0_setLosses : GoodIn wsX5_run (wsV RX5 209 RX0 yX0_setLosses wsX0_setLosses) := goodIn_app (goodIn_of _ (by decide +kernel)) ggX5_run_X0_setLosses
set_option maxRecDepth 20000 in
theorem ggX5_run_X5_isMinutes : GoodIn wsX5_run wsX5_isMinutes := goodIn_r _ [19] (by decide +kernel) (by decide +kernel)
set_option maxRecDepth 20000 in
theorem gX5_run_X5_isMinutes : GoodIn wsX5_run (va_wsS RX5 213 yX5_isMinutes wsX5_isMinutes) := goodIn_app (goodIn_of _ (by decide +kernel)) ggX5_run_X5_isMinutes
set_option maxRecDepth 20000 in
theorem ggX5_run_X0_firstToRun : GoodIn wsX5_run wsX0_firstToRun := goodIn_r _ [23, 24, 25, 26, 27, 28, 11, 29, 30, 31, 32, 33, 34, 35, 36, 37, 38, 39, 40, 41, 42, 43, 44, 45, 46, 120, 121, 122, 123, 124, 125, 126, 127, 128, 129, 130, 131, 132, 133, 134, 135, 136, 137, 138] (by decide +kernel) (by decide +kernel)
set_option maxRecDepth 20000 in
theorem gX5_run_X0_firstToRun : GoodIn wsX5_run (wsV RX5 218 RX0 yX0_firstToRun wsX0_firstToRun) := goodIn_app (goodIn_of _ (by decide +kernel)) ggX5_run_X0_firstToRun
set_option maxRecDepth 20000 in
theorem ggX5_run_X3_obstacle : GoodIn wsX5_run wsX3_obstacle := goodIn_r _ [50, 51, 52, 53, 54, 55, 36, 56, 39, 57, 58, 59, 60, 61, 124, 125, 126, 127, 128, 129, 130, 131, 132, 133, 134, 135, 136, 137, 138] (by decide +kernel) (by decide +kernel)
set_option maxRecDepth 20000 in
theorem gX5_run_X3_obstacle : GoodIn wsX5_run (wsV RX5 221 RX3 yX3_obstacle wsX3_obstacle) := goodIn_app (goodIn_of _ (by decide +kernel)) ggX5_run_X3_obstacle
set_option maxRecDepth 20000 in
theorem ggX5_run_X1_remember : GoodIn wsX5_run wsX1_remember := goodIn_r _ [66, 67, 68, 69, 70, 71, 72, 36, 73, 39, 40, 74, 75, 76, 77, 78, 61, 79, 80, 81, 82, 83, 51, 52, 38, 84, 85, 86, 139, 140, 141, 124, 125, 126, 127, 128, 129, 130, 131, 132, 133, 134, 135, 136, 137, 138] (by decide +kernel) (by decide +kernel)
set_option maxRecDepth 20000 in
theorem gX5_run_X1_remember : GoodIn wsX5_run (wsV RX5 201 RX1 yX1_remember wsX1_remember) := goodIn_app (goodIn_of _ (by decide +kernel)) ggX5_run_X1_remember
set_option maxRecDepth 20000 in
theorem ggX5_run_X0_letRun : GoodIn wsX5_run wsX0_letRun := goodIn_r _ [90, 91, 92, 93, 94, 95, 14, 96, 97, 98, 36, 99, 80, 61, 82, 79, 100, 101, 102, 103, 124, 125, 126, 127, 128, 129, 130, 131, 132, 133, 134, 135, 136, 137, 138, 120, 121, 122, 123] (by decide +kernel) (by decide +kernel)
set_option maxRecDepth 20000 in
theorem gX5_run_X0_letRun : GoodIn wsX5_run (wsV RX5 226 RX0 yX0_letRun wsX0_letRun) := goodIn_app (goodIn_of _ (by decide +kernel)) ggX5_run_X0_letRun
set_option maxRecDepth 20000 in
theorem ggX5_run_X3_scoreOf : GoodIn wsX5_run wsX3_scoreOf := goodIn_r _ [107, 82, 108, 109, 110, 36, 111, 79, 80, 124, 125, 126, 127, 128, 129, 130, 131, 132, 133, 134, 135, 136, 137, 138] (by decide +kernel) (by decide +kernel)
set_option maxRecDepth 20000 in
theorem gX5_run_X3_scoreOf : GoodIn wsX5_run (wsV RX5 153 RX3 yX3_scoreOf wsX3_scoreOf) := goodIn_app (goodIn_of _ (by decide +kernel)) ggX5_run_X3_scoreOf
theorem dX5_run_0 : decode cX5_run 0 = .ok (.aload_n 0, 1) := by decide +kernel
theorem dX5_run_1 : decode cX5_run 1 = .ok (.getfield 22, 3) := by decide +kernel
theorem dX5_run_4 : decode cX5_run 4 = .ok (.lload_n 1, 1) := by decide +kernel
theorem dX5_run_5 : decode cX5_run 5 = .ok (.invokevirtual 209, 3) := by decide +kernel
theorem dX5_run_8 : decode cX5_run 8 = .ok (.ifCond .eq 10, 3) := by decide +kernel
theorem dX5_run_11 : decode cX5_run 11 = .ok (.iload_n 3, 1) := by decide +kernel
theorem dX5_run_12 : decode cX5_run 12 = .ok (.invokestatic 213, 3) := by decide +kernel
theorem dX5_run_15 : decode cX5_run 15 = .ok (.ifCond .ne 13, 3) := by decide +kernel
theorem dX5_run_18 : decode cX5_run 18 = .ok (.new 55, 3) := by decide +kernel
theorem dX5_run_21 : decode cX5_run 21 = .ok (.dup, 1) := by decide +kernel
theorem dX5_run_22 : decode cX5_run 22 = .ok (.ldc 216, 2) := by decide +kernel
theorem dX5_run_24 : decode cX5_run 24 = .ok (.invokespecial 59, 3) := by decide +kernel
theorem dX5_run_27 : decode cX5_run 27 = .ok (.athrow, 1) := by decide +kernel
theorem dX5_run_28 : decode cX5_run 28 = .ok (.aload_n 0, 1) := by decide +kernel
theorem dX5_run_29 : decode cX5_run 29 = .ok (.getfield 22, 3) := by decide +kernel
theorem dX5_run_32 : decode cX5_run 32 = .ok (.aload_n 0, 1) := by decide +kernel
theorem dX5_run_33 : decode cX5_run 33 = .ok (.getfield 10, 3) := by decide +kernel
theorem dX5_run_36 : decode cX5_run 36 = .ok (.invokevirtual 218, 3) := by decide +kernel
theorem dX5_run_39 : decode cX5_run 39 = .ok (.istore 4, 2) := by decide +kernel
theorem dX5_run_41 : decode cX5_run 41 = .ok (.iload 4, 2) := by decide +kernel
theorem dX5_run_43 : decode cX5_run 43 = .ok (.bipush (-9), 2) := by decide +kernel
theorem dX5_run_45 : decode cX5_run 45 = .ok (.if_icmp .eq 13, 3) := by decide +kernel
theorem dX5_run_48 : decode cX5_run 48 = .ok (.aload_n 0, 1) := by decide +kernel
theorem dX5_run_49 : decode cX5_run 49 = .ok (.getfield 10, 3) := by decide +kernel
theorem dX5_run_52 : decode cX5_run 52 = .ok (.invokevirtual 221, 3) := by decide +kernel
theorem dX5_run_55 : decode cX5_run 55 = .ok (.ifCond .eq 13, 3) := by decide +kernel
theorem dX5_run_58 : decode cX5_run 58 = .ok (.new 66, 3) := by decide +kernel
theorem dX5_run_61 : decode cX5_run 61 = .ok (.dup, 1) := by decide +kernel
theorem dX5_run_62 : decode cX5_run 62 = .ok (.ldc 224, 2) := by decide +kernel
theorem dX5_run_64 : decode cX5_run 64 = .ok (.invokespecial 70, 3) := by decide +kernel
theorem dX5_run_67 : decode cX5_run 67 = .ok (.athrow, 1) := by decide +kernel
theorem dX5_run_68 : decode cX5_run 68 = .ok (.aload_n 0, 1) := by decide +kernel
theorem dX5_run_69 : decode cX5_run 69 = .ok (.getfield 36, 3) := by decide +kernel
theorem dX5_run_72 : decode cX5_run 72 = .ok (.aload_n 0, 1) := by decide +kernel
theorem dX5_run_73 : decode cX5_run 73 = .ok (.getfield 10, 3) := by decide +kernel
theorem dX5_run_76 : decode cX5_run 76 = .ok (.invokevirtual 201, 3) := by decide +kernel
theorem dX5_run_79 : decode cX5_run 79 = .ok (.aload_n 0, 1) := by decide +kernel
theorem dX5_run_80 : decode cX5_run 80 = .ok (.getfield 22, 3) := by decide +kernel
theorem dX5_run_83 : decode cX5_run 83 = .ok (.aload_n 0, 1) := by decide +kernel
theorem dX5_run_84 : decode cX5_run 84 = .ok (.getfield 10, 3) := by decide +kernel
theorem dX5_run_87 : decode cX5_run 87 = .ok (.iload 4, 2) := by decide +kernel
theorem dX5_run_89 : decode cX5_run 89 = .ok (.iload_n 3, 1) := by decide +kernel
theorem dX5_run_90 : decode cX5_run 90 = .ok (.invokevirtual 226, 3) := by decide +kernel
theorem dX5_run_93 : decode cX5_run 93 = .ok (.ifCond .eq 15, 3) := by decide +kernel
theorem dX5_run_96 : decode cX5_run 96 = .ok (.aload_n 0, 1) := by decide +kernel
theorem dX5_run_97 : decode cX5_run 97 = .ok (.getfield 10, 3) := by decide +kernel
theorem dX5_run_100 : decode cX5_run 100 = .ok (.iload 4, 2) := by decide +kernel
theorem dX5_run_102 : decode cX5_run 102 = .ok (.invokevirtual 153, 3) := by decide +kernel
theorem dX5_run_105 : decode cX5_run 105 = .ok (.goto 5, 3) := by decide +kernel
theorem dX5_run_108 : decode cX5_run 108 = .ok (.bipush (-9), 2) := by decide +kernel
theorem dX5_run_110 : decode cX5_run 110 = .ok (.ireturn, 1) := by decide +kernel
set_option maxRecDepth 20000 in
theorem ggX5_interfere_X3_hasDog : GoodIn wsX5_interfere wsX3_hasDog := goodIn_r _ [12, 13, 68, 69, 70, 71, 72, 73, 74, 75, 76, 77, 78, 79, 80, 81, 82] (by decide +kernel) (by decide +kernel)
set_option maxRecDepth 20000 in
theorem gX5_interfere_X3_hasDog : GoodIn wsX5_interfere (wsV RX5 132 RX3 yX3_hasDog wsX3_hasDog) := goodIn_app (goodIn_of _ (by decide +kernel)) ggX5_interfere_X3_hasDog
set_option maxRecDepth 20000 in
theorem ggX5_interfere_X5_isPhase : GoodIn wsX5_interfere wsX5_isPhase := goodIn_r _ [17] (by decide +kernel) (by decide +kernel)
set_option maxRecDepth 20000 in
theorem gX5_interfere_X5_isPhase : GoodIn wsX5_interfere (va_wsS RX5 166 yX5_isPhase wsX5_isPhase) := goodIn_app (goodIn_of _ (by decide +kernel)) ggX5_interfere_X5_isPhase
set_option maxRecDepth 20000 in
theorem ggX5_interfere_X1_remember : GoodIn wsX5_interfere wsX1_remember := goodIn_r _ [22, 23, 24, 25, 26, 27, 28, 11, 29, 13, 30, 31, 32, 33, 34, 35, 36, 37, 38, 39, 40, 41, 42, 43, 44, 45, 46, 47, 83, 84, 85, 68, 69, 70, 71, 72, 73, 74, 75, 76, 77, 78, 79, 80, 81, 82] (by decide +kernel) (by decide +kernel)
set_option maxRecDepth 20000 in
theorem gX5_interfere_X1_remember : GoodIn wsX5_interfere (wsV RX5 201 RX1 yX1_remember wsX1_remember) := goodIn_app (goodIn_of _ (by decide +kernel)) ggX5_interfere_X1_remember
set_option maxRecDepth 20000 in
theorem ggX5_interfere_X3_interfereWith : GoodIn wsX5_interfere wsX3_interfereWith := goodIn_r _ [51, 36, 37, 47, 68, 69, 70, 71, 72, 73, 74, 75, 76, 77, 78, 79, 80, 81, 82] (by decide +kernel) (by decide +kernel)
set_option maxRecDepth 20000 in
theorem gX5_interfere_X3_interfereWith : GoodIn wsX5_interfere (wsV RX5 232 RX3 yX3_interfereWith wsX3_interfereWith) := goodIn_app (goodIn_of _ (by decide +kernel)) ggX5_interfere_X3_interfereWith
set_option maxRecDepth 20000 in
theorem ggX5_interfere_X3_scoreOf : GoodIn wsX5_interfere wsX3_scoreOf := goodIn_r _ [55, 40, 56, 57, 58, 11, 59, 37, 38, 68, 69, 70, 71, 72, 73, 74, 75, 76, 77, 78, 79, 80, 81, 82] (by decide +kernel) (by decide +kernel)
set_option maxRecDepth 20000 in
theorem gX5_interfere_X3_scoreOf : GoodIn wsX5_interfere (wsV RX5 153 RX3 yX3_scoreOf wsX3_scoreOf) := goodIn_app (goodIn_of _ (by decide +kernel)) ggX5_interfere_X3_scoreOf
theorem dX5_interfere_0 : decode cX5_interfere 0 = .ok (.aload_n 0, 1) := by decide +kernel
theorem dX5_interfere_1 : decode cX5_interfere 1 = .ok (.getfield 10, 3) := by decide +kernel
theorem dX5_interfere_4 : decode cX5_interfere 4 = .ok (.iload_n 1, 1) := by decide +kernel
theorem dX5_interfere_5 : decode cX5_interfere 5 = .ok (.invokevirtual 132, 3) := by decide +kernel
theorem dX5_interfere_8 : decode cX5_interfere 8 = .ok (.ifCond .eq 10, 3) := by decide +kernel
theorem dX5_interfere_11 : decode cX5_interfere 11 = .ok (.iload_n 2, 1) := by decide +kernel
theorem dX5_interfere_12 : decode cX5_interfere 12 = .ok (.invokestatic 166, 3) := by decide +kernel
theorem dX5_interfere_15 : decode cX5_interfere 15 = .ok (.ifCond .ne 13, 3) := by decide +kernel
theorem dX5_interfere_18 : decode cX5_interfere 18 = .ok (.new 136, 3) := by decide +kernel
theorem dX5_interfere_21 : decode cX5_interfere 21 = .ok (.dup, 1) := by decide +kernel
theorem dX5_interfere_22 : decode cX5_interfere 22 = .ok (.ldc 169, 2) := by decide +kernel
theorem dX5_interfere_24 : decode cX5_interfere 24 = .ok (.invokespecial 140, 3) := by decide +kernel
theorem dX5_interfere_27 : decode cX5_interfere 27 = .ok (.athrow, 1) := by decide +kernel
theorem dX5_interfere_28 : decode cX5_interfere 28 = .ok (.aload_n 0, 1) := by decide +kernel
theorem dX5_interfere_29 : decode cX5_interfere 29 = .ok (.getfield 10, 3) := by decide +kernel
theorem dX5_interfere_32 : decode cX5_interfere 32 = .ok (.getfield 147, 3) := by decide +kernel
theorem dX5_interfere_35 : decode cX5_interfere 35 = .ok (.iload_n 1, 1) := by decide +kernel
theorem dX5_interfere_36 : decode cX5_interfere 36 = .ok (.iaload, 1) := by decide +kernel
theorem dX5_interfere_37 : decode cX5_interfere 37 = .ok (.iconst 1, 1) := by decide +kernel
theorem dX5_interfere_38 : decode cX5_interfere 38 = .ok (.if_icmp .eq 13, 3) := by decide +kernel
theorem dX5_interfere_41 : decode cX5_interfere 41 = .ok (.new 66, 3) := by decide +kernel
theorem dX5_interfere_44 : decode cX5_interfere 44 = .ok (.dup, 1) := by decide +kernel
theorem dX5_interfere_45 : decode cX5_interfere 45 = .ok (.ldc 230, 2) := by decide +kernel
theorem dX5_interfere_47 : decode cX5_interfere 47 = .ok (.invokespecial 70, 3) := by decide +kernel
theorem dX5_interfere_50 : decode cX5_interfere 50 = .ok (.athrow, 1) := by decide +kernel
theorem dX5_interfere_51 : decode cX5_interfere 51 = .ok (.aload_n 0, 1) := by decide +kernel
theorem dX5_interfere_52 : decode cX5_interfere 52 = .ok (.getfield 36, 3) := by decide +kernel
theorem dX5_interfere_55 : decode cX5_interfere 55 = .ok (.aload_n 0, 1) := by decide +kernel
theorem dX5_interfere_56 : decode cX5_interfere 56 = .ok (.getfield 10, 3) := by decide +kernel
theorem dX5_interfere_59 : decode cX5_interfere 59 = .ok (.invokevirtual 201, 3) := by decide +kernel
theorem dX5_interfere_62 : decode cX5_interfere 62 = .ok (.aload_n 0, 1) := by decide +kernel
theorem dX5_interfere_63 : decode cX5_interfere 63 = .ok (.getfield 10, 3) := by decide +kernel
theorem dX5_interfere_66 : decode cX5_interfere 66 = .ok (.iload_n 1, 1) := by decide +kernel
theorem dX5_interfere_67 : decode cX5_interfere 67 = .ok (.iload_n 2, 1) := by decide +kernel
theorem dX5_interfere_68 : decode cX5_interfere 68 = .ok (.invokevirtual 232, 3) := by decide +kernel
theorem dX5_interfere_71 : decode cX5_interfere 71 = .ok (.aload_n 0, 1) := by decide +kernel
theorem dX5_interfere_72 : decode cX5_interfere 72 = .ok (.getfield 10, 3) := by decide +kernel
theorem dX5_interfere_75 : decode cX5_interfere 75 = .ok (.iload_n 1, 1) := by decide +kernel
theorem dX5_interfere_76 : decode cX5_interfere 76 = .ok (.invokevirtual 153, 3) := by decide +kernel
theorem dX5_interfere_79 : decode cX5_interfere 79 = .ok (.ireturn, 1) := by decide +kernel
set_option maxRecDepth 20000 in
theorem ggX5_nextDay_X5_isSunset : GoodIn wsX5_nextDay wsX5_isSunset := goodIn_r _ [9] (by decide +kernel) (by decide +kernel)
set_option maxRecDepth 20000 in
theorem gX5_nextDay_X5_isSunset : GoodIn wsX5_nextDay (va_wsS RX5 236 yX5_isSunset wsX5_isSunset) := goodIn_app (goodIn_of _ (by decide +kernel)) ggX5_nextDay_X5_isSunset
set_option maxRecDepth 20000 in
theorem ggX5_nextDay_X1_remember : GoodIn wsX5_nextDay wsX1_remember := goodIn_r _ [14, 15, 16, 17, 18, 19, 20, 21, 22, 23, 24, 25, 26, 27, 28, 29, 30, 31, 32, 33, 34, 35, 36, 37, 38, 39, 40, 41, 69, 70, 71, 54, 55, 56, 57, 58, 59, 60, 61, 62, 63, 64, 65, 66, 67, 68] (by decide +kernel) (by decide +kernel)
set_option maxRecDepth 20000 in
theorem gX5_nextDay_X1_remember : GoodIn wsX5_nextDay (wsV RX5 201 RX1 yX1_remember wsX1_remember) := goodIn_app (goodIn_of _ (by decide +kernel)) ggX5_nextDay_X1_remember
set_option maxRecDepth 20000 in
theorem ggX5_nextDay_X3_beginDay : GoodIn wsX5_nextDay wsX3_beginDay := goodIn_r _ [45, 35, 36, 37, 54, 55, 56, 57, 58, 59, 60, 61, 62, 63, 64, 65, 66, 67, 68] (by decide +kernel) (by decide +kernel)
set_option maxRecDepth 20000 in
theorem gX5_nextDay_X3_beginDay : GoodIn wsX5_nextDay (wsV RX5 241 RX3 yX3_beginDay wsX3_beginDay) := goodIn_app (goodIn_of _ (by decide +kernel)) ggX5_nextDay_X3_beginDay
theorem dX5_nextDay_0 : decode cX5_nextDay 0 = .ok (.iload_n 1, 1) := by decide +kernel
theorem dX5_nextDay_1 : decode cX5_nextDay 1 = .ok (.invokestatic 236, 3) := by decide +kernel
theorem dX5_nextDay_4 : decode cX5_nextDay 4 = .ok (.ifCond .ne 13, 3) := by decide +kernel
theorem dX5_nextDay_7 : decode cX5_nextDay 7 = .ok (.new 55, 3) := by decide +kernel
theorem dX5_nextDay_10 : decode cX5_nextDay 10 = .ok (.dup, 1) := by decide +kernel
theorem dX5_nextDay_11 : decode cX5_nextDay 11 = .ok (.ldc 239, 2) := by decide +kernel
theorem dX5_nextDay_13 : decode cX5_nextDay 13 = .ok (.invokespecial 59, 3) := by decide +kernel
theorem dX5_nextDay_16 : decode cX5_nextDay 16 = .ok (.athrow, 1) := by decide +kernel
theorem dX5_nextDay_17 : decode cX5_nextDay 17 = .ok (.aload_n 0, 1) := by decide +kernel
theorem dX5_nextDay_18 : decode cX5_nextDay 18 = .ok (.getfield 36, 3) := by decide +kernel
theorem dX5_nextDay_21 : decode cX5_nextDay 21 = .ok (.aload_n 0, 1) := by decide +kernel
theorem dX5_nextDay_22 : decode cX5_nextDay 22 = .ok (.getfield 10, 3) := by decide +kernel
theorem dX5_nextDay_25 : decode cX5_nextDay 25 = .ok (.invokevirtual 201, 3) := by decide +kernel
theorem dX5_nextDay_28 : decode cX5_nextDay 28 = .ok (.aload_n 0, 1) := by decide +kernel
theorem dX5_nextDay_29 : decode cX5_nextDay 29 = .ok (.getfield 10, 3) := by decide +kernel
theorem dX5_nextDay_32 : decode cX5_nextDay 32 = .ok (.iload_n 1, 1) := by decide +kernel
theorem dX5_nextDay_33 : decode cX5_nextDay 33 = .ok (.invokevirtual 241, 3) := by decide +kernel
theorem dX5_nextDay_36 : decode cX5_nextDay 36 = .ok (.aload_n 0, 1) := by decide +kernel
theorem dX5_nextDay_37 : decode cX5_nextDay 37 = .ok (.getfield 10, 3) := by decide +kernel
theorem dX5_nextDay_40 : decode cX5_nextDay 40 = .ok (.getfield 107, 3) := by decide +kernel
theorem dX5_nextDay_43 : decode cX5_nextDay 43 = .ok (.ireturn, 1) := by decide +kernel
set_option maxRecDepth 20000 in
theorem ggX5_setRank_X3_copyFrom : GoodIn wsX5_setRank wsX3_copyFrom := goodIn_r _ [11, 12, 13, 14, 15, 16, 17, 18, 19, 20, 21, 22, 23, 24, 25, 26, 27, 28, 29, 30, 68, 69, 70, 71, 72, 73, 74, 75, 76, 77, 78, 79, 80, 81, 82] (by decide +kernel) (by decide +kernel)
set_option maxRecDepth 20000 in
theorem gX5_setRank_X3_copyFrom : GoodIn wsX5_setRank (wsV RX5 85 RX3 yX3_copyFrom wsX3_copyFrom) := goodIn_app (goodIn_of _ (by decide +kernel)) ggX5_setRank_X3_copyFrom
set_option maxRecDepth 20000 in
theorem ggX5_setRank_X3_takeRank : GoodIn wsX5_setRank wsX3_takeRank := goodIn_r _ [34, 22, 68, 69, 70, 71, 72, 73, 74, 75, 76, 77, 78, 79, 80, 81, 82] (by decide +kernel) (by decide +kernel)
set_option maxRecDepth 20000 in
theorem gX5_setRank_X3_takeRank : GoodIn wsX5_setRank (wsV RX5 245 RX3 yX3_takeRank wsX3_takeRank) := goodIn_app (goodIn_of _ (by decide +kernel)) ggX5_setRank_X3_takeRank
set_option maxRecDepth 20000 in
theorem ggX5_setRank_X3_placeOf : GoodIn wsX5_setRank wsX3_placeOf := goodIn_r _ [38, 23, 12, 39, 40, 41, 10, 42, 22, 43, 44, 45, 46, 47, 48, 49, 50, 20, 21, 68, 69, 70, 71, 72, 73, 74, 75, 76, 77, 78, 79, 80, 81, 82] (by decide +kernel) (by decide +kernel)
set_option maxRecDepth 20000 in
theorem gX5_setRank_X3_placeOf : GoodIn wsX5_setRank (wsV RX5 159 RX3 yX3_placeOf wsX3_placeOf) := goodIn_app (goodIn_of _ (by decide +kernel)) ggX5_setRank_X3_placeOf
set_option maxRecDepth 20000 in
theorem ggX5_setRank_X1_remember : GoodIn wsX5_setRank wsX1_remember := goodIn_r _ [55, 56, 57, 58, 59, 8, 9, 10, 11, 12, 13, 14, 15, 16, 17, 18, 19, 20, 21, 22, 23, 24, 25, 26, 27, 28, 29, 30, 83, 84, 85, 68, 69, 70, 71, 72, 73, 74, 75, 76, 77, 78, 79, 80, 81, 82] (by decide +kernel) (by decide +kernel)
set_option maxRecDepth 20000 in
theorem gX5_setRank_X1_remember : GoodIn wsX5_setRank (wsV RX5 201 RX1 yX1_remember wsX1_remember) := goodIn_app (goodIn_of _ (by decide +kernel)) ggX5_setRank_X1_remember
theorem dX5_setRank_0 : decode cX5_setRank 0 = .ok (.aload_n 0, 1) := by decide +kernel
theorem dX5_setRank_1 : decode cX5_setRank 1 = .ok (.getfield 16, 3) := by decide +kernel
theorem dX5_setRank_4 : decode cX5_setRank 4 = .ok (.aload_n 0, 1) := by decide +kernel
theorem dX5_setRank_5 : decode cX5_setRank 5 = .ok (.getfield 10, 3) := by decide +kernel
theorem dX5_setRank_8 : decode cX5_setRank 8 = .ok (.invokevirtual 85, 3) := by decide +kernel
theorem dX5_setRank_11 : decode cX5_setRank 11 = .ok (.aload_n 0, 1) := by decide +kernel
theorem dX5_setRank_12 : decode cX5_setRank 12 = .ok (.getfield 16, 3) := by decide +kernel
theorem dX5_setRank_15 : decode cX5_setRank 15 = .ok (.iload_n 1, 1) := by decide +kernel
theorem dX5_setRank_16 : decode cX5_setRank 16 = .ok (.invokevirtual 245, 3) := by decide +kernel
theorem dX5_setRank_19 : decode cX5_setRank 19 = .ok (.ifCond .ne 13, 3) := by decide +kernel
theorem dX5_setRank_22 : decode cX5_setRank 22 = .ok (.new 55, 3) := by decide +kernel
theorem dX5_setRank_25 : decode cX5_setRank 25 = .ok (.dup, 1) := by decide +kernel
theorem dX5_setRank_26 : decode cX5_setRank 26 = .ok (.ldc 248, 2) := by decide +kernel
theorem dX5_setRank_28 : decode cX5_setRank 28 = .ok (.invokespecial 59, 3) := by decide +kernel
theorem dX5_setRank_31 : decode cX5_setRank 31 = .ok (.athrow, 1) := by decide +kernel
theorem dX5_setRank_32 : decode cX5_setRank 32 = .ok (.iconst 0, 1) := by decide +kernel
theorem dX5_setRank_33 : decode cX5_setRank 33 = .ok (.istore_n 2, 1) := by decide +kernel
theorem dX5_setRank_34 : decode cX5_setRank 34 = .ok (.iconst 0, 1) := by decide +kernel
theorem dX5_setRank_35 : decode cX5_setRank 35 = .ok (.istore_n 3, 1) := by decide +kernel
theorem dX5_setRank_36 : decode cX5_setRank 36 = .ok (.iload_n 3, 1) := by decide +kernel
theorem dX5_setRank_37 : decode cX5_setRank 37 = .ok (.aload_n 0, 1) := by decide +kernel
theorem dX5_setRank_38 : decode cX5_setRank 38 = .ok (.getfield 10, 3) := by decide +kernel
theorem dX5_setRank_41 : decode cX5_setRank 41 = .ok (.getfield 92, 3) := by decide +kernel
theorem dX5_setRank_44 : decode cX5_setRank 44 = .ok (.if_icmp .ge 31, 3) := by decide +kernel
theorem dX5_setRank_47 : decode cX5_setRank 47 = .ok (.aload_n 0, 1) := by decide +kernel
theorem dX5_setRank_48 : decode cX5_setRank 48 = .ok (.getfield 10, 3) := by decide +kernel
theorem dX5_setRank_51 : decode cX5_setRank 51 = .ok (.iload_n 3, 1) := by decide +kernel
theorem dX5_setRank_52 : decode cX5_setRank 52 = .ok (.invokevirtual 159, 3) := by decide +kernel
theorem dX5_setRank_55 : decode cX5_setRank 55 = .ok (.aload_n 0, 1) := by decide +kernel
theorem dX5_setRank_56 : decode cX5_setRank 56 = .ok (.getfield 16, 3) := by decide +kernel
theorem dX5_setRank_59 : decode cX5_setRank 59 = .ok (.iload_n 3, 1) := by decide +kernel
theorem dX5_setRank_60 : decode cX5_setRank 60 = .ok (.invokevirtual 159, 3) := by decide +kernel
theorem dX5_setRank_63 : decode cX5_setRank 63 = .ok (.if_icmp .eq 6, 3) := by decide +kernel
theorem dX5_setRank_66 : decode cX5_setRank 66 = .ok (.iinc 2 1, 3) := by decide +kernel
theorem dX5_setRank_69 : decode cX5_setRank 69 = .ok (.iinc 3 1, 3) := by decide +kernel
theorem dX5_setRank_72 : decode cX5_setRank 72 = .ok (.goto (-36), 3) := by decide +kernel
theorem dX5_setRank_75 : decode cX5_setRank 75 = .ok (.aload_n 0, 1) := by decide +kernel
theorem dX5_setRank_76 : decode cX5_setRank 76 = .ok (.getfield 36, 3) := by decide +kernel
theorem dX5_setRank_79 : decode cX5_setRank 79 = .ok (.aload_n 0, 1) := by decide +kernel
theorem dX5_setRank_80 : decode cX5_setRank 80 = .ok (.getfield 10, 3) := by decide +kernel
theorem dX5_setRank_83 : decode cX5_setRank 83 = .ok (.invokevirtual 201, 3) := by decide +kernel
theorem dX5_setRank_86 : decode cX5_setRank 86 = .ok (.aload_n 0, 1) := by decide +kernel
theorem dX5_setRank_87 : decode cX5_setRank 87 = .ok (.getfield 10, 3) := by decide +kernel
theorem dX5_setRank_90 : decode cX5_setRank 90 = .ok (.aload_n 0, 1) := by decide +kernel
theorem dX5_setRank_91 : decode cX5_setRank 91 = .ok (.getfield 16, 3) := by decide +kernel
theorem dX5_setRank_94 : decode cX5_setRank 94 = .ok (.invokevirtual 85, 3) := by decide +kernel
theorem dX5_setRank_97 : decode cX5_setRank 97 = .ok (.iload_n 2, 1) := by decide +kernel
theorem dX5_setRank_98 : decode cX5_setRank 98 = .ok (.ireturn, 1) := by decide +kernel
set_option maxRecDepth 20000 in
theorem ggX5_setDraw_X3_hasDog : GoodIn wsX5_setDraw wsX3_hasDog := goodIn_r _ [14, 15, 62, 63, 64, 65, 66, 67, 68, 69, 70, 71, 72, 73, 74, 75, 76] (by decide +kernel) (by decide +kernel)
set_option maxRecDepth 20000 in
theorem gX5_setDraw_X3_hasDog : GoodIn wsX5_setDraw (wsV RX5 132 RX3 yX3_hasDog wsX3_hasDog) := goodIn_app (goodIn_of _ (by decide +kernel)) ggX5_setDraw_X3_hasDog
set_option maxRecDepth 20000 in
theorem ggX5_setDraw_X5_isDraw : GoodIn wsX5_setDraw wsX5_isDraw := goodIn_r _ [19] (by decide +kernel) (by decide +kernel)
set_option maxRecDepth 20000 in
theorem gX5_setDraw_X5_isDraw : GoodIn wsX5_setDraw (va_wsS RX5 191 yX5_isDraw wsX5_isDraw) := goodIn_app (goodIn_of _ (by decide +kernel)) ggX5_setDraw_X5_isDraw
set_option maxRecDepth 20000 in
theorem ggX5_setDraw_X3_dogWithDraw : GoodIn wsX5_setDraw wsX3_dogWithDraw := goodIn_r _ [23, 15, 24, 62, 63, 64, 65, 66, 67, 68, 69, 70, 71, 72, 73, 74, 75, 76] (by decide +kernel) (by decide +kernel)
set_option maxRecDepth 20000 in
theorem gX5_setDraw_X3_dogWithDraw : GoodIn wsX5_setDraw (wsV RX5 196 RX3 yX3_dogWithDraw wsX3_dogWithDraw) := goodIn_app (goodIn_of _ (by decide +kernel)) ggX5_setDraw_X3_dogWithDraw
set_option maxRecDepth 20000 in
theorem ggX5_setDraw_X1_remember : GoodIn wsX5_setDraw wsX1_remember := goodIn_r _ [29, 30, 31, 32, 33, 34, 35, 13, 36, 15, 37, 38, 39, 40, 41, 24, 42, 43, 44, 45, 46, 47, 48, 49, 50, 51, 52, 53, 77, 78, 79, 62, 63, 64, 65, 66, 67, 68, 69, 70, 71, 72, 73, 74, 75, 76] (by decide +kernel) (by decide +kernel)
set_option maxRecDepth 20000 in
theorem gX5_setDraw_X1_remember : GoodIn wsX5_setDraw (wsV RX5 201 RX1 yX1_remember wsX1_remember) := goodIn_app (goodIn_of _ (by decide +kernel)) ggX5_setDraw_X1_remember
theorem dX5_setDraw_0 : decode cX5_setDraw 0 = .ok (.aload_n 0, 1) := by decide +kernel
theorem dX5_setDraw_1 : decode cX5_setDraw 1 = .ok (.getfield 10, 3) := by decide +kernel
theorem dX5_setDraw_4 : decode cX5_setDraw 4 = .ok (.iload_n 1, 1) := by decide +kernel
theorem dX5_setDraw_5 : decode cX5_setDraw 5 = .ok (.invokevirtual 132, 3) := by decide +kernel
theorem dX5_setDraw_8 : decode cX5_setDraw 8 = .ok (.ifCond .ne 13, 3) := by decide +kernel
theorem dX5_setDraw_11 : decode cX5_setDraw 11 = .ok (.new 136, 3) := by decide +kernel
theorem dX5_setDraw_14 : decode cX5_setDraw 14 = .ok (.dup, 1) := by decide +kernel
theorem dX5_setDraw_15 : decode cX5_setDraw 15 = .ok (.ldc 138, 2) := by decide +kernel
theorem dX5_setDraw_17 : decode cX5_setDraw 17 = .ok (.invokespecial 140, 3) := by decide +kernel
theorem dX5_setDraw_20 : decode cX5_setDraw 20 = .ok (.athrow, 1) := by decide +kernel
theorem dX5_setDraw_21 : decode cX5_setDraw 21 = .ok (.iload_n 2, 1) := by decide +kernel
theorem dX5_setDraw_22 : decode cX5_setDraw 22 = .ok (.invokestatic 191, 3) := by decide +kernel
theorem dX5_setDraw_25 : decode cX5_setDraw 25 = .ok (.ifCond .ne 13, 3) := by decide +kernel
theorem dX5_setDraw_28 : decode cX5_setDraw 28 = .ok (.new 55, 3) := by decide +kernel
theorem dX5_setDraw_31 : decode cX5_setDraw 31 = .ok (.dup, 1) := by decide +kernel
theorem dX5_setDraw_32 : decode cX5_setDraw 32 = .ok (.ldc 250, 2) := by decide +kernel
theorem dX5_setDraw_34 : decode cX5_setDraw 34 = .ok (.invokespecial 59, 3) := by decide +kernel
theorem dX5_setDraw_37 : decode cX5_setDraw 37 = .ok (.athrow, 1) := by decide +kernel
theorem dX5_setDraw_38 : decode cX5_setDraw 38 = .ok (.aload_n 0, 1) := by decide +kernel
theorem dX5_setDraw_39 : decode cX5_setDraw 39 = .ok (.getfield 10, 3) := by decide +kernel
theorem dX5_setDraw_42 : decode cX5_setDraw 42 = .ok (.iload_n 2, 1) := by decide +kernel
theorem dX5_setDraw_43 : decode cX5_setDraw 43 = .ok (.invokevirtual 196, 3) := by decide +kernel
theorem dX5_setDraw_46 : decode cX5_setDraw 46 = .ok (.istore_n 3, 1) := by decide +kernel
theorem dX5_setDraw_47 : decode cX5_setDraw 47 = .ok (.iload_n 3, 1) := by decide +kernel
theorem dX5_setDraw_48 : decode cX5_setDraw 48 = .ok (.bipush (-9), 2) := by decide +kernel
theorem dX5_setDraw_50 : decode cX5_setDraw 50 = .ok (.if_icmp .eq 18, 3) := by decide +kernel
theorem dX5_setDraw_53 : decode cX5_setDraw 53 = .ok (.iload_n 3, 1) := by decide +kernel
theorem dX5_setDraw_54 : decode cX5_setDraw 54 = .ok (.iload_n 1, 1) := by decide +kernel
theorem dX5_setDraw_55 : decode cX5_setDraw 55 = .ok (.if_icmp .eq 13, 3) := by decide +kernel
theorem dX5_setDraw_58 : decode cX5_setDraw 58 = .ok (.new 66, 3) := by decide +kernel
theorem dX5_setDraw_61 : decode cX5_setDraw 61 = .ok (.dup, 1) := by decide +kernel
theorem dX5_setDraw_62 : decode cX5_setDraw 62 = .ok (.ldc 252, 2) := by decide +kernel
theorem dX5_setDraw_64 : decode cX5_setDraw 64 = .ok (.invokespecial 70, 3) := by decide +kernel
theorem dX5_setDraw_67 : decode cX5_setDraw 67 = .ok (.athrow, 1) := by decide +kernel
theorem dX5_setDraw_68 : decode cX5_setDraw 68 = .ok (.aload_n 0, 1) := by decide +kernel
theorem dX5_setDraw_69 : decode cX5_setDraw 69 = .ok (.getfield 36, 3) := by decide +kernel
theorem dX5_setDraw_72 : decode cX5_setDraw 72 = .ok (.aload_n 0, 1) := by decide +kernel
theorem dX5_setDraw_73 : decode cX5_setDraw 73 = .ok (.getfield 10, 3) := by decide +kernel
theorem dX5_setDraw_76 : decode cX5_setDraw 76 = .ok (.invokevirtual 201, 3) := by decide +kernel
theorem dX5_setDraw_79 : decode cX5_setDraw 79 = .ok (.aload_n 0, 1) := by decide +kernel
theorem dX5_setDraw_80 : decode cX5_setDraw 80 = .ok (.getfield 10, 3) := by decide +kernel
theorem dX5_setDraw_83 : decode cX5_setDraw 83 = .ok (.getfield 144, 3) := by decide +kernel
theorem dX5_setDraw_86 : decode cX5_setDraw 86 = .ok (.iload_n 1, 1) := by decide +kernel
theorem dX5_setDraw_87 : decode cX5_setDraw 87 = .ok (.iaload, 1) := by decide +kernel
theorem dX5_setDraw_88 : decode cX5_setDraw 88 = .ok (.istore 4, 2) := by decide +kernel
theorem dX5_setDraw_90 : decode cX5_setDraw 90 = .ok (.aload_n 0, 1) := by decide +kernel
theorem dX5_setDraw_91 : decode cX5_setDraw 91 = .ok (.getfield 10, 3) := by decide +kernel
theorem dX5_setDraw_94 : decode cX5_setDraw 94 = .ok (.getfield 144, 3) := by decide +kernel
theorem dX5_setDraw_97 : decode cX5_setDraw 97 = .ok (.iload_n 1, 1) := by decide +kernel
theorem dX5_setDraw_98 : decode cX5_setDraw 98 = .ok (.iload_n 2, 1) := by decide +kernel
theorem dX5_setDraw_99 : decode cX5_setDraw 99 = .ok (.iastore, 1) := by decide +kernel
theorem dX5_setDraw_100 : decode cX5_setDraw 100 = .ok (.iload 4, 2) := by decide +kernel
theorem dX5_setDraw_102 : decode cX5_setDraw 102 = .ok (.ireturn, 1) := by decide +kernel
set_option maxRecDepth 20000 in
theorem ggX5_undo_X1_isEmpty : GoodIn wsX5_undo wsX1_isEmpty := goodIn_r _ [9, 10, 49, 50, 51] (by decide +kernel) (by decide +kernel)
set_option maxRecDepth 20000 in
theorem gX5_undo_X1_isEmpty : GoodIn wsX5_undo (wsV RX5 254 RX1 yX1_isEmpty wsX1_isEmpty) := goodIn_app (goodIn_of _ (by decide +kernel)) ggX5_undo_X1_isEmpty
set_option maxRecDepth 20000 in
theorem ggX5_undo_X1_takeBack : GoodIn wsX5_undo wsX1_takeBack := goodIn_r _ [14, 10, 15, 16, 17, 18, 19, 20, 21, 22, 23, 24, 25, 26, 27, 28, 29, 30, 31, 32, 33, 34, 35, 36, 37, 38, 39, 40, 49, 50, 51, 52, 53, 54, 55, 56, 57, 58, 59, 60, 61, 62, 63, 64, 65, 66] (by decide +kernel) (by decide +kernel)
set_option maxRecDepth 20000 in
theorem gX5_undo_X1_takeBack : GoodIn wsX5_undo (wsV RX5 259 RX1 yX1_takeBack wsX1_takeBack) := goodIn_app (goodIn_of _ (by decide +kernel)) ggX5_undo_X1_takeBack
theorem dX5_undo_0 : decode cX5_undo 0 = .ok (.aload_n 0, 1) := by decide +kernel
theorem dX5_undo_1 : decode cX5_undo 1 = .ok (.getfield 36, 3) := by decide +kernel
theorem dX5_undo_4 : decode cX5_undo 4 = .ok (.invokevirtual 254, 3) := by decide +kernel
theorem dX5_undo_7 : decode cX5_undo 7 = .ok (.ifCond .eq 14, 3) := by decide +kernel
theorem dX5_undo_10 : decode cX5_undo 10 = .ok (.new 66, 3) := by decide +kernel
theorem dX5_undo_13 : decode cX5_undo 13 = .ok (.dup, 1) := by decide +kernel
theorem dX5_undo_14 : decode cX5_undo 14 = .ok (.ldc_w 257, 3) := by decide +kernel
theorem dX5_undo_17 : decode cX5_undo 17 = .ok (.invokespecial 70, 3) := by decide +kernel
theorem dX5_undo_20 : decode cX5_undo 20 = .ok (.athrow, 1) := by decide +kernel
theorem dX5_undo_21 : decode cX5_undo 21 = .ok (.aload_n 0, 1) := by decide +kernel
theorem dX5_undo_22 : decode cX5_undo 22 = .ok (.getfield 36, 3) := by decide +kernel
theorem dX5_undo_25 : decode cX5_undo 25 = .ok (.aload_n 0, 1) := by decide +kernel
theorem dX5_undo_26 : decode cX5_undo 26 = .ok (.getfield 10, 3) := by decide +kernel
theorem dX5_undo_29 : decode cX5_undo 29 = .ok (.invokevirtual 259, 3) := by decide +kernel
theorem dX5_undo_32 : decode cX5_undo 32 = .ok (.ireturn, 1) := by decide +kernel
set_option maxRecDepth 20000 in
theorem ggX5_whyNot_X3_obstacle : GoodIn wsX5_whyNot wsX3_obstacle := goodIn_r _ [6, 7, 8, 9, 10, 11, 5, 12, 13, 14, 15, 16, 17, 18, 27, 28, 29, 30, 31, 32, 33, 34, 35, 36, 37, 38, 39, 40, 41] (by decide +kernel) (by decide +kernel)
set_option maxRecDepth 20000 in
theorem gX5_whyNot_X3_obstacle : GoodIn wsX5_whyNot (wsV RX5 221 RX3 yX3_obstacle wsX3_obstacle) := goodIn_app (goodIn_of _ (by decide +kernel)) ggX5_whyNot_X3_obstacle
theorem dX5_whyNot_0 : decode cX5_whyNot 0 = .ok (.aload_n 0, 1) := by decide +kernel
theorem dX5_whyNot_1 : decode cX5_whyNot 1 = .ok (.getfield 10, 3) := by decide +kernel
theorem dX5_whyNot_4 : decode cX5_whyNot 4 = .ok (.invokevirtual 221, 3) := by decide +kernel
theorem dX5_whyNot_7 : decode cX5_whyNot 7 = .ok (.ireturn, 1) := by decide +kernel
set_option maxRecDepth 20000 in
theorem ggX5_runsLeft_X5_isMinutes : GoodIn wsX5_runsLeft wsX5_isMinutes := goodIn_r _ [13] (by decide +kernel) (by decide +kernel)
set_option maxRecDepth 20000 in
theorem gX5_runsLeft_X5_isMinutes : GoodIn wsX5_runsLeft (va_wsS RX5 213 yX5_isMinutes wsX5_isMinutes) := goodIn_app (goodIn_of _ (by decide +kernel)) ggX5_runsLeft_X5_isMinutes
set_option maxRecDepth 20000 in
theorem ggX5_runsLeft_X3_dogsToRun : GoodIn wsX5_runsLeft wsX3_dogsToRun := goodIn_r _ [18, 19, 20, 21, 22, 17, 23, 24, 33, 34, 35, 36, 37, 38, 39, 40, 41, 42, 43, 44, 45, 46, 47] (by decide +kernel) (by decide +kernel)
set_option maxRecDepth 20000 in
theorem gX5_runsLeft_X3_dogsToRun : GoodIn wsX5_runsLeft (wsV RX5 98 RX3 yX3_dogsToRun wsX3_dogsToRun) := goodIn_app (goodIn_of _ (by decide +kernel)) ggX5_runsLeft_X3_dogsToRun
theorem dX5_runsLeft_0 : decode cX5_runsLeft 0 = .ok (.iload_n 1, 1) := by decide +kernel
theorem dX5_runsLeft_1 : decode cX5_runsLeft 1 = .ok (.invokestatic 213, 3) := by decide +kernel
theorem dX5_runsLeft_4 : decode cX5_runsLeft 4 = .ok (.ifCond .ne 14, 3) := by decide +kernel
theorem dX5_runsLeft_7 : decode cX5_runsLeft 7 = .ok (.new 55, 3) := by decide +kernel
theorem dX5_runsLeft_10 : decode cX5_runsLeft 10 = .ok (.dup, 1) := by decide +kernel
theorem dX5_runsLeft_11 : decode cX5_runsLeft 11 = .ok (.ldc_w 262, 3) := by decide +kernel
theorem dX5_runsLeft_14 : decode cX5_runsLeft 14 = .ok (.invokespecial 59, 3) := by decide +kernel
theorem dX5_runsLeft_17 : decode cX5_runsLeft 17 = .ok (.athrow, 1) := by decide +kernel
theorem dX5_runsLeft_18 : decode cX5_runsLeft 18 = .ok (.aload_n 0, 1) := by decide +kernel
theorem dX5_runsLeft_19 : decode cX5_runsLeft 19 = .ok (.getfield 10, 3) := by decide +kernel
theorem dX5_runsLeft_22 : decode cX5_runsLeft 22 = .ok (.invokevirtual 98, 3) := by decide +kernel
theorem dX5_runsLeft_25 : decode cX5_runsLeft 25 = .ok (.aload_n 0, 1) := by decide +kernel
theorem dX5_runsLeft_26 : decode cX5_runsLeft 26 = .ok (.getfield 10, 3) := by decide +kernel
theorem dX5_runsLeft_29 : decode cX5_runsLeft 29 = .ok (.getfield 113, 3) := by decide +kernel
theorem dX5_runsLeft_32 : decode cX5_runsLeft 32 = .ok (.aload_n 0, 1) := by decide +kernel
theorem dX5_runsLeft_33 : decode cX5_runsLeft 33 = .ok (.getfield 10, 3) := by decide +kernel
theorem dX5_runsLeft_36 : decode cX5_runsLeft 36 = .ok (.getfield 110, 3) := by decide +kernel
theorem dX5_runsLeft_39 : decode cX5_runsLeft 39 = .ok (.isub, 1) := by decide +kernel
theorem dX5_runsLeft_40 : decode cX5_runsLeft 40 = .ok (.iload_n 1, 1) := by decide +kernel
theorem dX5_runsLeft_41 : decode cX5_runsLeft 41 = .ok (.idiv, 1) := by decide +kernel
theorem dX5_runsLeft_42 : decode cX5_runsLeft 42 = .ok (.invokestatic 264, 3) := by decide +kernel
theorem dX5_runsLeft_45 : decode cX5_runsLeft 45 = .ok (.ireturn, 1) := by decide +kernel
set_option maxRecDepth 20000 in
theorem ggX5_bestPlace_X3_hasDog : GoodIn wsX5_bestPlace wsX3_hasDog := goodIn_r _ [8, 9, 86, 87, 88, 89, 90, 91, 92, 93, 94, 95, 96, 97, 98, 99, 100] (by decide +kernel) (by decide +kernel)
set_option maxRecDepth 20000 in
theorem gX5_bestPlace_X3_hasDog : GoodIn wsX5_bestPlace (wsV RX5 132 RX3 yX3_hasDog wsX3_hasDog) := goodIn_app (goodIn_of _ (by decide +kernel)) ggX5_bestPlace_X3_hasDog
set_option maxRecDepth 20000 in
theorem ggX5_bestPlace_X5_bestPlaceOf : GoodIn wsX5_bestPlace wsX5_bestPlaceOf := goodIn_r _ [14, 3, 15, 16, 17, 18, 7, 19, 20, 21, 22, 23, 24, 25, 9, 26, 27, 28, 29, 30, 31, 32, 33, 34, 35, 36, 37, 38, 39, 40, 41, 42, 43, 13, 44, 45, 46, 47, 48, 49, 50, 51, 52, 53, 54, 55, 56, 57, 58, 59, 60, 61, 62, 63, 64, 65, 66, 67, 68, 69, 70, 71, 72, 73, 74, 75, 76, 77, 78, 79, 80, 81, 82, 83, 84, 85, 86, 87, 88, 89, 90, 91, 92, 93, 94, 95, 96, 97, 98, 99, 100, 101, 102, 103, 104] (by decide +kernel) (by decide +kernel)
set_option maxRecDepth 20000 in
theorem gX5_bestPlace_X5_bestPlaceOf : GoodIn wsX5_bestPlace (wsV RX5 269 RX5 yX5_bestPlaceOf wsX5_bestPlaceOf) := goodIn_app (goodIn_of _ (by decide +kernel)) ggX5_bestPlace_X5_bestPlaceOf
theorem dX5_bestPlace_0 : decode cX5_bestPlace 0 = .ok (.aload_n 0, 1) := by decide +kernel
theorem dX5_bestPlace_1 : decode cX5_bestPlace 1 = .ok (.getfield 10, 3) := by decide +kernel
theorem dX5_bestPlace_4 : decode cX5_bestPlace 4 = .ok (.iload_n 1, 1) := by decide +kernel
theorem dX5_bestPlace_5 : decode cX5_bestPlace 5 = .ok (.invokevirtual 132, 3) := by decide +kernel
theorem dX5_bestPlace_8 : decode cX5_bestPlace 8 = .ok (.ifCond .ne 13, 3) := by decide +kernel
theorem dX5_bestPlace_11 : decode cX5_bestPlace 11 = .ok (.new 136, 3) := by decide +kernel
theorem dX5_bestPlace_14 : decode cX5_bestPlace 14 = .ok (.dup, 1) := by decide +kernel
theorem dX5_bestPlace_15 : decode cX5_bestPlace 15 = .ok (.ldc 138, 2) := by decide +kernel
theorem dX5_bestPlace_17 : decode cX5_bestPlace 17 = .ok (.invokespecial 140, 3) := by decide +kernel
theorem dX5_bestPlace_20 : decode cX5_bestPlace 20 = .ok (.athrow, 1) := by decide +kernel
theorem dX5_bestPlace_21 : decode cX5_bestPlace 21 = .ok (.aload_n 0, 1) := by decide +kernel
theorem dX5_bestPlace_22 : decode cX5_bestPlace 22 = .ok (.iload_n 1, 1) := by decide +kernel
theorem dX5_bestPlace_23 : decode cX5_bestPlace 23 = .ok (.invokevirtual 269, 3) := by decide +kernel
theorem dX5_bestPlace_26 : decode cX5_bestPlace 26 = .ok (.ireturn, 1) := by decide +kernel
set_option maxRecDepth 20000 in
theorem ggX5_mayLose_X3_hasDog : GoodIn wsX5_mayLose wsX3_hasDog := goodIn_r _ [11, 12, 85, 86, 87, 88, 89, 90, 91, 92, 93, 94, 95, 96, 97, 98, 99] (by decide +kernel) (by decide +kernel)
set_option maxRecDepth 20000 in
theorem gX5_mayLose_X3_hasDog : GoodIn wsX5_mayLose (wsV RX5 132 RX3 yX3_hasDog wsX3_hasDog) := goodIn_app (goodIn_of _ (by decide +kernel)) ggX5_mayLose_X3_hasDog
set_option maxRecDepth 20000 in
theorem ggX5_mayLose_X3_isToRun : GoodIn wsX5_mayLose wsX3_isToRun := goodIn_r _ [16, 17, 85, 86, 87, 88, 89, 90, 91, 92, 93, 94, 95, 96, 97, 98, 99] (by decide +kernel) (by decide +kernel)
set_option maxRecDepth 20000 in
theorem gX5_mayLose_X3_isToRun : GoodIn wsX5_mayLose (wsV RX5 274 RX3 yX3_isToRun wsX3_isToRun) := goodIn_app (goodIn_of _ (by decide +kernel)) ggX5_mayLose_X3_isToRun
set_option maxRecDepth 20000 in
theorem ggX5_mayLose_X5_supposeFaultlessRun : GoodIn wsX5_mayLose wsX5_supposeFaultlessRun := goodIn_r _ [22, 6, 5, 23, 24, 25, 26, 27, 10, 28, 12, 29, 30, 31, 32, 33, 34, 17, 35, 36, 37, 38, 39, 40, 41, 42, 43, 44, 45, 46, 47, 48, 49, 50, 51, 52, 53, 54, 55, 56, 57, 58, 59, 77, 78, 79, 80, 81, 82, 83, 84, 100, 101, 102, 103, 85, 86, 87, 88, 89, 90, 91, 92, 93, 94, 95, 96, 97, 98, 99] (by decide +kernel) (by decide +kernel)
set_option maxRecDepth 20000 in
theorem gX5_mayLose_X5_supposeFaultlessRun : GoodIn wsX5_mayLose (wsV RX5 277 RX5 yX5_supposeFaultlessRun wsX5_supposeFaultlessRun) := goodIn_app (goodIn_of _ (by decide +kernel)) ggX5_mayLose_X5_supposeFaultlessRun
set_option maxRecDepth 20000 in
theorem ggX5_mayLose_X3_scoreOf : GoodIn wsX5_mayLose wsX3_scoreOf := goodIn_r _ [63, 38, 64, 65, 66, 10, 67, 35, 36, 85, 86, 87, 88, 89, 90, 91, 92, 93, 94, 95, 96, 97, 98, 99] (by decide +kernel) (by decide +kernel)
set_option maxRecDepth 20000 in
theorem gX5_mayLose_X3_scoreOf : GoodIn wsX5_mayLose (wsV RX5 153 RX3 yX3_scoreOf wsX3_scoreOf) := goodIn_app (goodIn_of _ (by decide +kernel)) ggX5_mayLose_X3_scoreOf
set_option maxRecDepth 20000 in
theorem ggX5_mayLose_X3_worthToRun : GoodIn wsX5_mayLose wsX3_worthToRun := goodIn_r _ [71, 56, 57, 58, 10, 59, 17, 35, 85, 86, 87, 88, 89, 90, 91, 92, 93, 94, 95, 96, 97, 98, 99] (by decide +kernel) (by decide +kernel)
set_option maxRecDepth 20000 in
theorem gX5_mayLose_X3_worthToRun : GoodIn wsX5_mayLose (wsV RX5 280 RX3 yX3_worthToRun wsX3_worthToRun) := goodIn_app (goodIn_of _ (by decide +kernel)) ggX5_mayLose_X3_worthToRun
set_option maxRecDepth 20000 in
theorem ggX5_mayLose_X3_dogsWithScoreAbove : GoodIn wsX5_mayLose wsX3_dogsWithScoreAbove := goodIn_r _ [75, 12, 76, 61, 62, 10, 63, 38, 64, 65, 66, 67, 35, 36, 85, 86, 87, 88, 89, 90, 91, 92, 93, 94, 95, 96, 97, 98, 99] (by decide +kernel) (by decide +kernel)
set_option maxRecDepth 20000 in
theorem gX5_mayLose_X3_dogsWithScoreAbove : GoodIn wsX5_mayLose (wsV RX5 283 RX3 yX3_dogsWithScoreAbove wsX3_dogsWithScoreAbove) := goodIn_app (goodIn_of _ (by decide +kernel)) ggX5_mayLose_X3_dogsWithScoreAbove
theorem dX5_mayLose_0 : decode cX5_mayLose 0 = .ok (.aload_n 0, 1) := by decide +kernel
theorem dX5_mayLose_1 : decode cX5_mayLose 1 = .ok (.getfield 10, 3) := by decide +kernel
theorem dX5_mayLose_4 : decode cX5_mayLose 4 = .ok (.iload_n 1, 1) := by decide +kernel
theorem dX5_mayLose_5 : decode cX5_mayLose 5 = .ok (.invokevirtual 132, 3) := by decide +kernel
theorem dX5_mayLose_8 : decode cX5_mayLose 8 = .ok (.ifCond .ne 13, 3) := by decide +kernel
theorem dX5_mayLose_11 : decode cX5_mayLose 11 = .ok (.new 136, 3) := by decide +kernel
theorem dX5_mayLose_14 : decode cX5_mayLose 14 = .ok (.dup, 1) := by decide +kernel
theorem dX5_mayLose_15 : decode cX5_mayLose 15 = .ok (.ldc 138, 2) := by decide +kernel
theorem dX5_mayLose_17 : decode cX5_mayLose 17 = .ok (.invokespecial 140, 3) := by decide +kernel
theorem dX5_mayLose_20 : decode cX5_mayLose 20 = .ok (.athrow, 1) := by decide +kernel
theorem dX5_mayLose_21 : decode cX5_mayLose 21 = .ok (.iload_n 2, 1) := by decide +kernel
theorem dX5_mayLose_22 : decode cX5_mayLose 22 = .ok (.iconst 1, 1) := by decide +kernel
theorem dX5_mayLose_23 : decode cX5_mayLose 23 = .ok (.if_icmp .lt 9, 3) := by decide +kernel
theorem dX5_mayLose_26 : decode cX5_mayLose 26 = .ok (.iload_n 2, 1) := by decide +kernel
theorem dX5_mayLose_27 : decode cX5_mayLose 27 = .ok (.bipush 12, 2) := by decide +kernel
theorem dX5_mayLose_29 : decode cX5_mayLose 29 = .ok (.if_icmp .le 14, 3) := by decide +kernel
theorem dX5_mayLose_32 : decode cX5_mayLose 32 = .ok (.new 55, 3) := by decide +kernel
theorem dX5_mayLose_35 : decode cX5_mayLose 35 = .ok (.dup, 1) := by decide +kernel
theorem dX5_mayLose_36 : decode cX5_mayLose 36 = .ok (.ldc_w 272, 3) := by decide +kernel
theorem dX5_mayLose_39 : decode cX5_mayLose 39 = .ok (.invokespecial 59, 3) := by decide +kernel
theorem dX5_mayLose_42 : decode cX5_mayLose 42 = .ok (.athrow, 1) := by decide +kernel
theorem dX5_mayLose_43 : decode cX5_mayLose 43 = .ok (.aload_n 0, 1) := by decide +kernel
theorem dX5_mayLose_44 : decode cX5_mayLose 44 = .ok (.getfield 10, 3) := by decide +kernel
theorem dX5_mayLose_47 : decode cX5_mayLose 47 = .ok (.iload_n 1, 1) := by decide +kernel
theorem dX5_mayLose_48 : decode cX5_mayLose 48 = .ok (.invokevirtual 274, 3) := by decide +kernel
theorem dX5_mayLose_51 : decode cX5_mayLose 51 = .ok (.ifCond .ne 6, 3) := by decide +kernel
theorem dX5_mayLose_54 : decode cX5_mayLose 54 = .ok (.bipush (-9), 2) := by decide +kernel
theorem dX5_mayLose_56 : decode cX5_mayLose 56 = .ok (.ireturn, 1) := by decide +kernel
theorem dX5_mayLose_57 : decode cX5_mayLose 57 = .ok (.aload_n 0, 1) := by decide +kernel
theorem dX5_mayLose_58 : decode cX5_mayLose 58 = .ok (.iload_n 1, 1) := by decide +kernel
theorem dX5_mayLose_59 : decode cX5_mayLose 59 = .ok (.invokevirtual 277, 3) := by decide +kernel
theorem dX5_mayLose_62 : decode cX5_mayLose 62 = .ok (.aload_n 0, 1) := by decide +kernel
theorem dX5_mayLose_63 : decode cX5_mayLose 63 = .ok (.getfield 16, 3) := by decide +kernel
theorem dX5_mayLose_66 : decode cX5_mayLose 66 = .ok (.iload_n 1, 1) := by decide +kernel
theorem dX5_mayLose_67 : decode cX5_mayLose 67 = .ok (.invokevirtual 153, 3) := by decide +kernel
theorem dX5_mayLose_70 : decode cX5_mayLose 70 = .ok (.istore_n 3, 1) := by decide +kernel
theorem dX5_mayLose_71 : decode cX5_mayLose 71 = .ok (.aload_n 0, 1) := by decide +kernel
theorem dX5_mayLose_72 : decode cX5_mayLose 72 = .ok (.getfield 10, 3) := by decide +kernel
theorem dX5_mayLose_75 : decode cX5_mayLose 75 = .ok (.iload_n 1, 1) := by decide +kernel
theorem dX5_mayLose_76 : decode cX5_mayLose 76 = .ok (.invokevirtual 280, 3) := by decide +kernel
theorem dX5_mayLose_79 : decode cX5_mayLose 79 = .ok (.istore 4, 2) := by decide +kernel
theorem dX5_mayLose_81 : decode cX5_mayLose 81 = .ok (.iload 4, 2) := by decide +kernel
theorem dX5_mayLose_83 : decode cX5_mayLose 83 = .ok (.ifCond .lt 29, 3) := by decide +kernel
theorem dX5_mayLose_86 : decode cX5_mayLose 86 = .ok (.aload_n 0, 1) := by decide +kernel
theorem dX5_mayLose_87 : decode cX5_mayLose 87 = .ok (.getfield 10, 3) := by decide +kernel
theorem dX5_mayLose_90 : decode cX5_mayLose 90 = .ok (.iload_n 3, 1) := by decide +kernel
theorem dX5_mayLose_91 : decode cX5_mayLose 91 = .ok (.iload 4, 2) := by decide +kernel
theorem dX5_mayLose_93 : decode cX5_mayLose 93 = .ok (.isub, 1) := by decide +kernel
theorem dX5_mayLose_94 : decode cX5_mayLose 94 = .ok (.invokevirtual 283, 3) := by decide +kernel
theorem dX5_mayLose_97 : decode cX5_mayLose 97 = .ok (.iload_n 2, 1) := by decide +kernel
theorem dX5_mayLose_98 : decode cX5_mayLose 98 = .ok (.iconst 1, 1) := by decide +kernel
theorem dX5_mayLose_99 : decode cX5_mayLose 99 = .ok (.isub, 1) := by decide +kernel
theorem dX5_mayLose_100 : decode cX5_mayLose 100 = .ok (.if_icmp .gt 6, 3) := by decide +kernel
theorem dX5_mayLose_103 : decode cX5_mayLose 103 = .ok (.iload 4, 2) := by decide +kernel
theorem dX5_mayLose_105 : decode cX5_mayLose 105 = .ok (.ireturn, 1) := by decide +kernel
theorem dX5_mayLose_106 : decode cX5_mayLose 106 = .ok (.iinc 4 (-1), 3) := by decide +kernel
theorem dX5_mayLose_109 : decode cX5_mayLose 109 = .ok (.goto (-28), 3) := by decide +kernel
theorem dX5_mayLose_112 : decode cX5_mayLose 112 = .ok (.bipush (-9), 2) := by decide +kernel
theorem dX5_mayLose_114 : decode cX5_mayLose 114 = .ok (.ireturn, 1) := by decide +kernel
set_option maxRecDepth 20000 in
theorem ggX5_bestPlaceOf_X3_isToRun : GoodIn wsX5_bestPlaceOf wsX3_isToRun := goodIn_r _ [7, 8, 76, 77, 78, 79, 80, 81, 82, 83, 84, 85, 86, 87, 88, 89, 90] (by decide +kernel) (by decide +kernel)
set_option maxRecDepth 20000 in
theorem gX5_bestPlaceOf_X3_isToRun : GoodIn wsX5_bestPlaceOf (wsV RX5 274 RX3 yX3_isToRun wsX3_isToRun) := goodIn_app (goodIn_of _ (by decide +kernel)) ggX5_bestPlaceOf_X3_isToRun
set_option maxRecDepth 20000 in
theorem ggX5_bestPlaceOf_X3_placeOf : GoodIn wsX5_bestPlaceOf wsX3_placeOf := goodIn_r _ [12, 13, 14, 15, 16, 17, 6, 18, 19, 20, 21, 22, 23, 24, 25, 26, 27, 28, 29, 76, 77, 78, 79, 80, 81, 82, 83, 84, 85, 86, 87, 88, 89, 90] (by decide +kernel) (by decide +kernel)
set_option maxRecDepth 20000 in
theorem gX5_bestPlaceOf_X3_placeOf : GoodIn wsX5_bestPlaceOf (wsV RX5 159 RX3 yX3_placeOf wsX3_placeOf) := goodIn_app (goodIn_of _ (by decide +kernel)) ggX5_bestPlaceOf_X3_placeOf
set_option maxRecDepth 20000 in
theorem ggX5_bestPlaceOf_X5_supposeFaultlessRun : GoodIn wsX5_bestPlaceOf wsX5_supposeFaultlessRun := goodIn_r _ [34, 2, 1, 35, 36, 37, 38, 39, 6, 40, 14, 41, 42, 43, 44, 45, 46, 8, 28, 29, 19, 13, 47, 48, 49, 50, 51, 52, 53, 54, 55, 56, 57, 58, 59, 60, 61, 62, 63, 64, 65, 66, 67, 68, 69, 70, 71, 72, 73, 74, 75, 91, 92, 93, 94, 76, 77, 78, 79, 80, 81, 82, 83, 84, 85, 86, 87, 88, 89, 90] (by decide +kernel) (by decide +kernel)
set_option maxRecDepth 20000 in
theorem gX5_bestPlaceOf_X5_supposeFaultlessRun : GoodIn wsX5_bestPlaceOf (wsV RX5 277 RX5 yX5_supposeFaultlessRun wsX5_supposeFaultlessRun) := goodIn_app (goodIn_of _ (by decide +kernel)) ggX5_bestPlaceOf_X5_supposeFaultlessRun
theorem dX5_bestPlaceOf_0 : decode cX5_bestPlaceOf 0 = .ok (.aload_n 0, 1) := by decide +kernel
theorem dX5_bestPlaceOf_1 : decode cX5_bestPlaceOf 1 = .ok (.getfield 10, 3) := by decide +kernel
theorem dX5_bestPlaceOf_4 : decode cX5_bestPlaceOf 4 = .ok (.iload_n 1, 1) := by decide +kernel
theorem dX5_bestPlaceOf_5 : decode cX5_bestPlaceOf 5 = .ok (.invokevirtual 274, 3) := by decide +kernel
theorem dX5_bestPlaceOf_8 : decode cX5_bestPlaceOf 8 = .ok (.ifCond .ne 12, 3) := by decide +kernel
theorem dX5_bestPlaceOf_11 : decode cX5_bestPlaceOf 11 = .ok (.aload_n 0, 1) := by decide +kernel
theorem dX5_bestPlaceOf_12 : decode cX5_bestPlaceOf 12 = .ok (.getfield 10, 3) := by decide +kernel
theorem dX5_bestPlaceOf_15 : decode cX5_bestPlaceOf 15 = .ok (.iload_n 1, 1) := by decide +kernel
theorem dX5_bestPlaceOf_16 : decode cX5_bestPlaceOf 16 = .ok (.invokevirtual 159, 3) := by decide +kernel
theorem dX5_bestPlaceOf_19 : decode cX5_bestPlaceOf 19 = .ok (.ireturn, 1) := by decide +kernel
theorem dX5_bestPlaceOf_20 : decode cX5_bestPlaceOf 20 = .ok (.aload_n 0, 1) := by decide +kernel
theorem dX5_bestPlaceOf_21 : decode cX5_bestPlaceOf 21 = .ok (.iload_n 1, 1) := by decide +kernel
theorem dX5_bestPlaceOf_22 : decode cX5_bestPlaceOf 22 = .ok (.invokevirtual 277, 3) := by decide +kernel
theorem dX5_bestPlaceOf_25 : decode cX5_bestPlaceOf 25 = .ok (.aload_n 0, 1) := by decide +kernel
theorem dX5_bestPlaceOf_26 : decode cX5_bestPlaceOf 26 = .ok (.getfield 16, 3) := by decide +kernel
theorem dX5_bestPlaceOf_29 : decode cX5_bestPlaceOf 29 = .ok (.iload_n 1, 1) := by decide +kernel
theorem dX5_bestPlaceOf_30 : decode cX5_bestPlaceOf 30 = .ok (.invokevirtual 159, 3) := by decide +kernel
theorem dX5_bestPlaceOf_33 : decode cX5_bestPlaceOf 33 = .ok (.ireturn, 1) := by decide +kernel
set_option maxRecDepth 20000 in
theorem ggX5_supposeFaultlessRun_X3_copyFrom : GoodIn wsX5_supposeFaultlessRun wsX3_copyFrom := goodIn_r _ [9, 10, 11, 12, 13, 14, 15, 16, 17, 18, 19, 20, 21, 22, 23, 24, 25, 26, 27, 28, 55, 56, 57, 58, 59, 60, 61, 62, 63, 64, 65, 66, 67, 68, 69] (by decide +kernel) (by decide +kernel)
set_option maxRecDepth 20000 in
theorem gX5_supposeFaultlessRun_X3_copyFrom : GoodIn wsX5_supposeFaultlessRun (wsV RX5 85 RX3 yX3_copyFrom wsX3_copyFrom) := goodIn_app (goodIn_of _ (by decide +kernel)) ggX5_supposeFaultlessRun_X3_copyFrom
set_option maxRecDepth 20000 in
theorem ggX5_supposeFaultlessRun_X0_setSameLosses : GoodIn wsX5_supposeFaultlessRun wsX0_setSameLosses := goodIn_r _ [33, 34, 51, 52, 53, 54] (by decide +kernel) (by decide +kernel)
set_option maxRecDepth 20000 in
theorem gX5_supposeFaultlessRun_X0_setSameLosses : GoodIn wsX5_supposeFaultlessRun (wsV RX5 286 RX0 yX0_setSameLosses wsX0_setSameLosses) := goodIn_app (goodIn_of _ (by decide +kernel)) ggX5_supposeFaultlessRun_X0_setSameLosses
set_option maxRecDepth 20000 in
theorem ggX5_supposeFaultlessRun_X3_noteRun : GoodIn wsX5_supposeFaultlessRun wsX3_noteRun := goodIn_r _ [38, 19, 17, 21, 18, 39, 40, 41, 8, 42, 55, 56, 57, 58, 59, 60, 61, 62, 63, 64, 65, 66, 67, 68, 69] (by decide +kernel) (by decide +kernel)
set_option maxRecDepth 20000 in
theorem gX5_supposeFaultlessRun_X3_noteRun : GoodIn wsX5_supposeFaultlessRun (wsV RX5 292 RX3 yX3_noteRun wsX3_noteRun) := goodIn_app (goodIn_of _ (by decide +kernel)) ggX5_supposeFaultlessRun_X3_noteRun
theorem dX5_supposeFaultlessRun_0 : decode cX5_supposeFaultlessRun 0 = .ok (.aload_n 0, 1) := by decide +kernel
theorem dX5_supposeFaultlessRun_1 : decode cX5_supposeFaultlessRun 1 = .ok (.getfield 16, 3) := by decide +kernel
theorem dX5_supposeFaultlessRun_4 : decode cX5_supposeFaultlessRun 4 = .ok (.aload_n 0, 1) := by decide +kernel
theorem dX5_supposeFaultlessRun_5 : decode cX5_supposeFaultlessRun 5 = .ok (.getfield 10, 3) := by decide +kernel
theorem dX5_supposeFaultlessRun_8 : decode cX5_supposeFaultlessRun 8 = .ok (.invokevirtual 85, 3) := by decide +kernel
theorem dX5_supposeFaultlessRun_11 : decode cX5_supposeFaultlessRun 11 = .ok (.aload_n 0, 1) := by decide +kernel
theorem dX5_supposeFaultlessRun_12 : decode cX5_supposeFaultlessRun 12 = .ok (.getfield 22, 3) := by decide +kernel
theorem dX5_supposeFaultlessRun_15 : decode cX5_supposeFaultlessRun 15 = .ok (.iconst 0, 1) := by decide +kernel
theorem dX5_supposeFaultlessRun_16 : decode cX5_supposeFaultlessRun 16 = .ok (.invokevirtual 286, 3) := by decide +kernel
theorem dX5_supposeFaultlessRun_19 : decode cX5_supposeFaultlessRun 19 = .ok (.aload_n 0, 1) := by decide +kernel
theorem dX5_supposeFaultlessRun_20 : decode cX5_supposeFaultlessRun 20 = .ok (.getfield 16, 3) := by decide +kernel
theorem dX5_supposeFaultlessRun_23 : decode cX5_supposeFaultlessRun 23 = .ok (.iload_n 1, 1) := by decide +kernel
theorem dX5_supposeFaultlessRun_24 : decode cX5_supposeFaultlessRun 24 = .ok (.aload_n 0, 1) := by decide +kernel
theorem dX5_supposeFaultlessRun_25 : decode cX5_supposeFaultlessRun 25 = .ok (.getfield 22, 3) := by decide +kernel
theorem dX5_supposeFaultlessRun_28 : decode cX5_supposeFaultlessRun 28 = .ok (.getfield 289, 3) := by decide +kernel
theorem dX5_supposeFaultlessRun_31 : decode cX5_supposeFaultlessRun 31 = .ok (.invokevirtual 292, 3) := by decide +kernel
theorem dX5_supposeFaultlessRun_34 : decode cX5_supposeFaultlessRun 34 = .ok (.return_, 1) := by decide +kernel
set_option maxRecDepth 20000 in
theorem ggX5_runScript_X2_readScript : GoodIn wsX5_runScript wsX2_readScript := goodIn_r _ [9, 10, 11, 174, 175, 176] (by decide +kernel) (by decide +kernel)
set_option maxRecDepth 20000 in
theorem gX5_runScript_X2_readScript : GoodIn wsX5_runScript (wsV RX5 296 RX2 yX2_readScript wsX2_readScript) := goodIn_app (goodIn_of _ (by decide +kernel)) ggX5_runScript_X2_readScript
set_option maxRecDepth 20000 in
theorem ggX5_runScript_X2_firstFailure : GoodIn wsX5_runScript wsX2_firstFailure := goodIn_r _ [15, 16, 10, 17, 18, 19, 20, 21, 22, 23, 24, 25, 26, 27, 28, 29, 30, 31, 32, 33, 34, 35, 36, 37, 38, 39, 40, 41, 42, 43, 8, 44, 45, 46, 47, 48, 49, 50, 51, 52, 53, 54, 55, 56, 57, 58, 59, 60, 61, 62, 63, 64, 65, 66, 67, 68, 69, 70, 71, 72, 73, 74, 75, 76, 77, 78, 79, 80, 81, 82, 83, 84, 85, 86, 87, 88, 89, 90, 91, 92, 93, 94, 95, 96, 97, 98, 99, 100, 101, 102, 103, 104, 105, 106, 107, 108, 109, 110, 111, 112, 113, 114, 115, 116, 117, 118, 119, 120, 121, 122, 123, 124, 125, 126, 127, 128, 129, 130, 131, 132, 133, 134, 135, 136, 137, 138, 139, 140, 141, 142, 143, 144, 145, 146, 147, 148, 149, 150, 151, 152, 153, 154, 155, 156, 157, 158, 159, 160, 161, 162, 163, 164, 165, 174, 175, 176, 177, 178, 179, 180, 181, 182, 183, 184, 185, 186, 187, 188, 189, 190, 191, 192, 193, 194, 195] (by decide +kernel) (by decide +kernel)
set_option maxRecDepth 20000 in
theorem gX5_runScript_X2_firstFailure : GoodIn wsX5_runScript (wsV RX5 302 RX2 yX2_firstFailure wsX2_firstFailure) := goodIn_app (goodIn_of _ (by decide +kernel)) ggX5_runScript_X2_firstFailure
theorem dX5_runScript_0 : decode cX5_runScript 0 = .ok (.iload_n 1, 1) := by decide +kernel
theorem dX5_runScript_1 : decode cX5_runScript 1 = .ok (.iconst 1, 1) := by decide +kernel
theorem dX5_runScript_2 : decode cX5_runScript 2 = .ok (.if_icmp .lt 20, 3) := by decide +kernel
theorem dX5_runScript_5 : decode cX5_runScript 5 = .ok (.iload_n 1, 1) := by decide +kernel
theorem dX5_runScript_6 : decode cX5_runScript 6 = .ok (.iconst 4, 1) := by decide +kernel
theorem dX5_runScript_7 : decode cX5_runScript 7 = .ok (.if_icmp .gt 15, 3) := by decide +kernel
theorem dX5_runScript_10 : decode cX5_runScript 10 = .ok (.aload_n 0, 1) := by decide +kernel
theorem dX5_runScript_11 : decode cX5_runScript 11 = .ok (.getfield 29, 3) := by decide +kernel
theorem dX5_runScript_14 : decode cX5_runScript 14 = .ok (.iload_n 1, 1) := by decide +kernel
theorem dX5_runScript_15 : decode cX5_runScript 15 = .ok (.lload_n 2, 1) := by decide +kernel
theorem dX5_runScript_16 : decode cX5_runScript 16 = .ok (.invokevirtual 296, 3) := by decide +kernel
theorem dX5_runScript_19 : decode cX5_runScript 19 = .ok (.ifCond .ne 14, 3) := by decide +kernel
theorem dX5_runScript_22 : decode cX5_runScript 22 = .ok (.new 55, 3) := by decide +kernel
theorem dX5_runScript_25 : decode cX5_runScript 25 = .ok (.dup, 1) := by decide +kernel
theorem dX5_runScript_26 : decode cX5_runScript 26 = .ok (.ldc_w 300, 3) := by decide +kernel
theorem dX5_runScript_29 : decode cX5_runScript 29 = .ok (.invokespecial 59, 3) := by decide +kernel
theorem dX5_runScript_32 : decode cX5_runScript 32 = .ok (.athrow, 1) := by decide +kernel
theorem dX5_runScript_33 : decode cX5_runScript 33 = .ok (.aload_n 0, 1) := by decide +kernel
theorem dX5_runScript_34 : decode cX5_runScript 34 = .ok (.getfield 29, 3) := by decide +kernel
theorem dX5_runScript_37 : decode cX5_runScript 37 = .ok (.aload_n 0, 1) := by decide +kernel
theorem dX5_runScript_38 : decode cX5_runScript 38 = .ok (.getfield 10, 3) := by decide +kernel
theorem dX5_runScript_41 : decode cX5_runScript 41 = .ok (.iload_n 1, 1) := by decide +kernel
theorem dX5_runScript_42 : decode cX5_runScript 42 = .ok (.invokevirtual 302, 3) := by decide +kernel
theorem dX5_runScript_45 : decode cX5_runScript 45 = .ok (.ireturn, 1) := by decide +kernel
set_option maxRecDepth 20000 in
theorem ggX5_simulate_X2_playRounds : GoodIn wsX5_simulate wsX2_playRounds := goodIn_r _ [9, 10, 11, 12, 13, 14, 15, 16, 17, 18, 19, 20, 21, 22, 23, 24, 25, 26, 27, 28, 29, 30, 31, 32, 33, 34, 35, 36, 37, 38, 39, 40, 8, 41, 42, 43, 44, 45, 46, 47, 48, 49, 50, 51, 52, 53, 54, 55, 56, 57, 58, 59, 60, 61, 62, 63, 64, 65, 66, 67, 68, 69, 70, 71, 72, 73, 74, 75, 76, 77, 78, 79, 80, 81, 82, 83, 84, 85, 86, 87, 88, 89, 90, 91, 92, 93, 94, 95, 96, 97, 98, 99, 100, 101, 102, 103, 104, 105, 106, 107, 108, 109, 110, 111, 112, 113, 114, 115, 116, 117, 118, 119, 120, 121, 122, 123, 124, 125, 126, 127, 128, 129, 130, 131, 132, 133, 134, 143, 144, 145, 146, 147, 148, 149, 150, 151, 152, 153, 154, 155, 156, 157, 158, 159, 160, 161, 162, 163, 164] (by decide +kernel) (by decide +kernel)
set_option maxRecDepth 20000 in
theorem gX5_simulate_X2_playRounds : GoodIn wsX5_simulate (wsV RX5 307 RX2 yX2_playRounds wsX2_playRounds) := goodIn_app (goodIn_of _ (by decide +kernel)) ggX5_simulate_X2_playRounds
theorem dX5_simulate_0 : decode cX5_simulate 0 = .ok (.iload_n 3, 1) := by decide +kernel
theorem dX5_simulate_1 : decode cX5_simulate 1 = .ok (.iconst 1, 1) := by decide +kernel
theorem dX5_simulate_2 : decode cX5_simulate 2 = .ok (.if_icmp .lt 9, 3) := by decide +kernel
theorem dX5_simulate_5 : decode cX5_simulate 5 = .ok (.iload_n 3, 1) := by decide +kernel
theorem dX5_simulate_6 : decode cX5_simulate 6 = .ok (.bipush 99, 2) := by decide +kernel
theorem dX5_simulate_8 : decode cX5_simulate 8 = .ok (.if_icmp .le 14, 3) := by decide +kernel
theorem dX5_simulate_11 : decode cX5_simulate 11 = .ok (.new 55, 3) := by decide +kernel
theorem dX5_simulate_14 : decode cX5_simulate 14 = .ok (.dup, 1) := by decide +kernel
theorem dX5_simulate_15 : decode cX5_simulate 15 = .ok (.ldc_w 305, 3) := by decide +kernel
theorem dX5_simulate_18 : decode cX5_simulate 18 = .ok (.invokespecial 59, 3) := by decide +kernel
theorem dX5_simulate_21 : decode cX5_simulate 21 = .ok (.athrow, 1) := by decide +kernel
theorem dX5_simulate_22 : decode cX5_simulate 22 = .ok (.aload_n 0, 1) := by decide +kernel
theorem dX5_simulate_23 : decode cX5_simulate 23 = .ok (.getfield 29, 3) := by decide +kernel
theorem dX5_simulate_26 : decode cX5_simulate 26 = .ok (.aload_n 0, 1) := by decide +kernel
theorem dX5_simulate_27 : decode cX5_simulate 27 = .ok (.getfield 10, 3) := by decide +kernel
theorem dX5_simulate_30 : decode cX5_simulate 30 = .ok (.lload_n 1, 1) := by decide +kernel
theorem dX5_simulate_31 : decode cX5_simulate 31 = .ok (.iload_n 3, 1) := by decide +kernel
theorem dX5_simulate_32 : decode cX5_simulate 32 = .ok (.invokevirtual 307, 3) := by decide +kernel
theorem dX5_simulate_35 : decode cX5_simulate 35 = .ok (.ireturn, 1) := by decide +kernel
set_option maxRecDepth 20000 in
theorem ggX5_save_X3_copyFrom : GoodIn wsX5_save wsX3_copyFrom := goodIn_r _ [10, 11, 12, 13, 14, 15, 16, 17, 18, 19, 20, 21, 22, 23, 24, 25, 26, 27, 28, 29, 42, 43, 44, 45, 46, 47, 48, 49, 50, 51, 52, 53, 54, 55, 56] (by decide +kernel) (by decide +kernel)
set_option maxRecDepth 20000 in
theorem gX5_save_X3_copyFrom : GoodIn wsX5_save (wsV RX5 85 RX3 yX3_copyFrom wsX3_copyFrom) := goodIn_app (goodIn_of _ (by decide +kernel)) ggX5_save_X3_copyFrom
set_option maxRecDepth 20000 in
theorem ggX5_save_X3_dogsWithRun : GoodIn wsX5_save wsX3_dogsWithRun := goodIn_r _ [33, 11, 22, 42, 43, 44, 45, 46, 47, 48, 49, 50, 51, 52, 53, 54, 55, 56] (by decide +kernel) (by decide +kernel)
set_option maxRecDepth 20000 in
theorem gX5_save_X3_dogsWithRun : GoodIn wsX5_save (wsV RX5 101 RX3 yX3_dogsWithRun wsX3_dogsWithRun) := goodIn_app (goodIn_of _ (by decide +kernel)) ggX5_save_X3_dogsWithRun
theorem dX5_save_0 : decode cX5_save 0 = .ok (.iload_n 1, 1) := by decide +kernel
theorem dX5_save_1 : decode cX5_save 1 = .ok (.ifCond .lt 8, 3) := by decide +kernel
theorem dX5_save_4 : decode cX5_save 4 = .ok (.iload_n 1, 1) := by decide +kernel
theorem dX5_save_5 : decode cX5_save 5 = .ok (.iconst 2, 1) := by decide +kernel
theorem dX5_save_6 : decode cX5_save 6 = .ok (.if_icmp .lt 14, 3) := by decide +kernel
theorem dX5_save_9 : decode cX5_save 9 = .ok (.new 136, 3) := by decide +kernel
theorem dX5_save_12 : decode cX5_save 12 = .ok (.dup, 1) := by decide +kernel
theorem dX5_save_13 : decode cX5_save 13 = .ok (.ldc_w 311, 3) := by decide +kernel
theorem dX5_save_16 : decode cX5_save 16 = .ok (.invokespecial 140, 3) := by decide +kernel
theorem dX5_save_19 : decode cX5_save 19 = .ok (.athrow, 1) := by decide +kernel
theorem dX5_save_20 : decode cX5_save 20 = .ok (.aload_n 0, 1) := by decide +kernel
theorem dX5_save_21 : decode cX5_save 21 = .ok (.getfield 47, 3) := by decide +kernel
theorem dX5_save_24 : decode cX5_save 24 = .ok (.iload_n 1, 1) := by decide +kernel
theorem dX5_save_25 : decode cX5_save 25 = .ok (.aaload, 1) := by decide +kernel
theorem dX5_save_26 : decode cX5_save 26 = .ok (.aload_n 0, 1) := by decide +kernel
theorem dX5_save_27 : decode cX5_save 27 = .ok (.getfield 10, 3) := by decide +kernel
theorem dX5_save_30 : decode cX5_save 30 = .ok (.invokevirtual 85, 3) := by decide +kernel
theorem dX5_save_33 : decode cX5_save 33 = .ok (.aload_n 0, 1) := by decide +kernel
theorem dX5_save_34 : decode cX5_save 34 = .ok (.getfield 51, 3) := by decide +kernel
theorem dX5_save_37 : decode cX5_save 37 = .ok (.iload_n 1, 1) := by decide +kernel
theorem dX5_save_38 : decode cX5_save 38 = .ok (.iconst 1, 1) := by decide +kernel
theorem dX5_save_39 : decode cX5_save 39 = .ok (.bastore, 1) := by decide +kernel
theorem dX5_save_40 : decode cX5_save 40 = .ok (.aload_n 0, 1) := by decide +kernel
theorem dX5_save_41 : decode cX5_save 41 = .ok (.getfield 10, 3) := by decide +kernel
theorem dX5_save_44 : decode cX5_save 44 = .ok (.invokevirtual 101, 3) := by decide +kernel
theorem dX5_save_47 : decode cX5_save 47 = .ok (.ireturn, 1) := by decide +kernel
set_option maxRecDepth 20000 in
theorem ggX5_restore_X3_copyFrom : GoodIn wsX5_restore wsX3_copyFrom := goodIn_r _ [13, 14, 15, 16, 17, 18, 19, 20, 21, 22, 23, 24, 25, 26, 27, 28, 29, 30, 31, 32, 51, 52, 53, 54, 55, 56, 57, 58, 59, 60, 61, 62, 63, 64, 65] (by decide +kernel) (by decide +kernel)
set_option maxRecDepth 20000 in
theorem gX5_restore_X3_copyFrom : GoodIn wsX5_restore (wsV RX5 85 RX3 yX3_copyFrom wsX3_copyFrom) := goodIn_app (goodIn_of _ (by decide +kernel)) ggX5_restore_X3_copyFrom
set_option maxRecDepth 20000 in
theorem ggX5_restore_X1_forgetAll : GoodIn wsX5_restore wsX1_forgetAll := goodIn_r _ [37, 38, 66, 67, 68] (by decide +kernel) (by decide +kernel)
set_option maxRecDepth 20000 in
theorem gX5_restore_X1_forgetAll : GoodIn wsX5_restore (wsV RX5 89 RX1 yX1_forgetAll wsX1_forgetAll) := goodIn_app (goodIn_of _ (by decide +kernel)) ggX5_restore_X1_forgetAll
set_option maxRecDepth 20000 in
theorem ggX5_restore_X3_dogsWithRun : GoodIn wsX5_restore wsX3_dogsWithRun := goodIn_r _ [42, 14, 25, 51, 52, 53, 54, 55, 56, 57, 58, 59, 60, 61, 62, 63, 64, 65] (by decide +kernel) (by decide +kernel)
set_option maxRecDepth 20000 in
theorem gX5_restore_X3_dogsWithRun : GoodIn wsX5_restore (wsV RX5 101 RX3 yX3_dogsWithRun wsX3_dogsWithRun) := goodIn_app (goodIn_of _ (by decide +kernel)) ggX5_restore_X3_dogsWithRun
theorem dX5_restore_0 : decode cX5_restore 0 = .ok (.iload_n 1, 1) := by decide +kernel
theorem dX5_restore_1 : decode cX5_restore 1 = .ok (.ifCond .lt 8, 3) := by decide +kernel
theorem dX5_restore_4 : decode cX5_restore 4 = .ok (.iload_n 1, 1) := by decide +kernel
theorem dX5_restore_5 : decode cX5_restore 5 = .ok (.iconst 2, 1) := by decide +kernel
theorem dX5_restore_6 : decode cX5_restore 6 = .ok (.if_icmp .lt 14, 3) := by decide +kernel
theorem dX5_restore_9 : decode cX5_restore 9 = .ok (.new 136, 3) := by decide +kernel
theorem dX5_restore_12 : decode cX5_restore 12 = .ok (.dup, 1) := by decide +kernel
theorem dX5_restore_13 : decode cX5_restore 13 = .ok (.ldc_w 311, 3) := by decide +kernel
theorem dX5_restore_16 : decode cX5_restore 16 = .ok (.invokespecial 140, 3) := by decide +kernel
theorem dX5_restore_19 : decode cX5_restore 19 = .ok (.athrow, 1) := by decide +kernel
theorem dX5_restore_20 : decode cX5_restore 20 = .ok (.aload_n 0, 1) := by decide +kernel
theorem dX5_restore_21 : decode cX5_restore 21 = .ok (.getfield 51, 3) := by decide +kernel
theorem dX5_restore_24 : decode cX5_restore 24 = .ok (.iload_n 1, 1) := by decide +kernel
theorem dX5_restore_25 : decode cX5_restore 25 = .ok (.baload, 1) := by decide +kernel
theorem dX5_restore_26 : decode cX5_restore 26 = .ok (.ifCond .ne 14, 3) := by decide +kernel
theorem dX5_restore_29 : decode cX5_restore 29 = .ok (.new 66, 3) := by decide +kernel
theorem dX5_restore_32 : decode cX5_restore 32 = .ok (.dup, 1) := by decide +kernel
theorem dX5_restore_33 : decode cX5_restore 33 = .ok (.ldc_w 313, 3) := by decide +kernel
theorem dX5_restore_36 : decode cX5_restore 36 = .ok (.invokespecial 70, 3) := by decide +kernel
theorem dX5_restore_39 : decode cX5_restore 39 = .ok (.athrow, 1) := by decide +kernel
theorem dX5_restore_40 : decode cX5_restore 40 = .ok (.aload_n 0, 1) := by decide +kernel
theorem dX5_restore_41 : decode cX5_restore 41 = .ok (.getfield 10, 3) := by decide +kernel
theorem dX5_restore_44 : decode cX5_restore 44 = .ok (.aload_n 0, 1) := by decide +kernel
theorem dX5_restore_45 : decode cX5_restore 45 = .ok (.getfield 47, 3) := by decide +kernel
theorem dX5_restore_48 : decode cX5_restore 48 = .ok (.iload_n 1, 1) := by decide +kernel
theorem dX5_restore_49 : decode cX5_restore 49 = .ok (.aaload, 1) := by decide +kernel
theorem dX5_restore_50 : decode cX5_restore 50 = .ok (.invokevirtual 85, 3) := by decide +kernel
theorem dX5_restore_53 : decode cX5_restore 53 = .ok (.aload_n 0, 1) := by decide +kernel
theorem dX5_restore_54 : decode cX5_restore 54 = .ok (.getfield 36, 3) := by decide +kernel
theorem dX5_restore_57 : decode cX5_restore 57 = .ok (.invokevirtual 89, 3) := by decide +kernel
theorem dX5_restore_60 : decode cX5_restore 60 = .ok (.aload_n 0, 1) := by decide +kernel
theorem dX5_restore_61 : decode cX5_restore 61 = .ok (.getfield 10, 3) := by decide +kernel
theorem dX5_restore_64 : decode cX5_restore 64 = .ok (.invokevirtual 101, 3) := by decide +kernel
theorem dX5_restore_67 : decode cX5_restore 67 = .ok (.ireturn, 1) := by decide +kernel
theorem dX5_isOwner_0 : decode cX5_isOwner 0 = .ok (.iload_n 0, 1) := by decide +kernel
theorem dX5_isOwner_1 : decode cX5_isOwner 1 = .ok (.ifCond .lt 13, 3) := by decide +kernel
theorem dX5_isOwner_4 : decode cX5_isOwner 4 = .ok (.iload_n 0, 1) := by decide +kernel
theorem dX5_isOwner_5 : decode cX5_isOwner 5 = .ok (.bipush 6, 2) := by decide +kernel
theorem dX5_isOwner_7 : decode cX5_isOwner 7 = .ok (.if_icmp .ge 7, 3) := by decide +kernel
theorem dX5_isOwner_10 : decode cX5_isOwner 10 = .ok (.iconst 1, 1) := by decide +kernel
theorem dX5_isOwner_11 : decode cX5_isOwner 11 = .ok (.goto 4, 3) := by decide +kernel
theorem dX5_isOwner_14 : decode cX5_isOwner 14 = .ok (.iconst 0, 1) := by decide +kernel
theorem dX5_isOwner_15 : decode cX5_isOwner 15 = .ok (.ireturn, 1) := by decide +kernel
theorem dX5_isPhase_0 : decode cX5_isPhase 0 = .ok (.iload_n 0, 1) := by decide +kernel
theorem dX5_isPhase_1 : decode cX5_isPhase 1 = .ok (.ifCond .lt 13, 3) := by decide +kernel
theorem dX5_isPhase_4 : decode cX5_isPhase 4 = .ok (.iload_n 0, 1) := by decide +kernel
theorem dX5_isPhase_5 : decode cX5_isPhase 5 = .ok (.bipush 6, 2) := by decide +kernel
theorem dX5_isPhase_7 : decode cX5_isPhase 7 = .ok (.if_icmp .ge 7, 3) := by decide +kernel
theorem dX5_isPhase_10 : decode cX5_isPhase 10 = .ok (.iconst 1, 1) := by decide +kernel
theorem dX5_isPhase_11 : decode cX5_isPhase 11 = .ok (.goto 4, 3) := by decide +kernel
theorem dX5_isPhase_14 : decode cX5_isPhase 14 = .ok (.iconst 0, 1) := by decide +kernel
theorem dX5_isPhase_15 : decode cX5_isPhase 15 = .ok (.ireturn, 1) := by decide +kernel
theorem dX5_isDraw_0 : decode cX5_isDraw 0 = .ok (.iload_n 0, 1) := by decide +kernel
theorem dX5_isDraw_1 : decode cX5_isDraw 1 = .ok (.iconst 1, 1) := by decide +kernel
theorem dX5_isDraw_2 : decode cX5_isDraw 2 = .ok (.if_icmp .lt 13, 3) := by decide +kernel
theorem dX5_isDraw_5 : decode cX5_isDraw 5 = .ok (.iload_n 0, 1) := by decide +kernel
theorem dX5_isDraw_6 : decode cX5_isDraw 6 = .ok (.bipush 99, 2) := by decide +kernel
theorem dX5_isDraw_8 : decode cX5_isDraw 8 = .ok (.if_icmp .gt 7, 3) := by decide +kernel
theorem dX5_isDraw_11 : decode cX5_isDraw 11 = .ok (.iconst 1, 1) := by decide +kernel
theorem dX5_isDraw_12 : decode cX5_isDraw 12 = .ok (.goto 4, 3) := by decide +kernel
theorem dX5_isDraw_15 : decode cX5_isDraw 15 = .ok (.iconst 0, 1) := by decide +kernel
theorem dX5_isDraw_16 : decode cX5_isDraw 16 = .ok (.ireturn, 1) := by decide +kernel
theorem dX5_isMinutes_0 : decode cX5_isMinutes 0 = .ok (.iload_n 0, 1) := by decide +kernel
theorem dX5_isMinutes_1 : decode cX5_isMinutes 1 = .ok (.iconst 1, 1) := by decide +kernel
theorem dX5_isMinutes_2 : decode cX5_isMinutes 2 = .ok (.if_icmp .lt 13, 3) := by decide +kernel
theorem dX5_isMinutes_5 : decode cX5_isMinutes 5 = .ok (.iload_n 0, 1) := by decide +kernel
theorem dX5_isMinutes_6 : decode cX5_isMinutes 6 = .ok (.bipush 30, 2) := by decide +kernel
theorem dX5_isMinutes_8 : decode cX5_isMinutes 8 = .ok (.if_icmp .gt 7, 3) := by decide +kernel
theorem dX5_isMinutes_11 : decode cX5_isMinutes 11 = .ok (.iconst 1, 1) := by decide +kernel
theorem dX5_isMinutes_12 : decode cX5_isMinutes 12 = .ok (.goto 4, 3) := by decide +kernel
theorem dX5_isMinutes_15 : decode cX5_isMinutes 15 = .ok (.iconst 0, 1) := by decide +kernel
theorem dX5_isMinutes_16 : decode cX5_isMinutes 16 = .ok (.ireturn, 1) := by decide +kernel
theorem dX5_isSunset_0 : decode cX5_isSunset 0 = .ok (.iload_n 0, 1) := by decide +kernel
theorem dX5_isSunset_1 : decode cX5_isSunset 1 = .ok (.bipush 60, 2) := by decide +kernel
theorem dX5_isSunset_3 : decode cX5_isSunset 3 = .ok (.if_icmp .lt 14, 3) := by decide +kernel
theorem dX5_isSunset_6 : decode cX5_isSunset 6 = .ok (.iload_n 0, 1) := by decide +kernel
theorem dX5_isSunset_7 : decode cX5_isSunset 7 = .ok (.sipush 600, 3) := by decide +kernel
theorem dX5_isSunset_10 : decode cX5_isSunset 10 = .ok (.if_icmp .gt 7, 3) := by decide +kernel
theorem dX5_isSunset_13 : decode cX5_isSunset 13 = .ok (.iconst 1, 1) := by decide +kernel
theorem dX5_isSunset_14 : decode cX5_isSunset 14 = .ok (.goto 4, 3) := by decide +kernel
theorem dX5_isSunset_17 : decode cX5_isSunset 17 = .ok (.iconst 0, 1) := by decide +kernel
theorem dX5_isSunset_18 : decode cX5_isSunset 18 = .ok (.ireturn, 1) := by decide +kernel
