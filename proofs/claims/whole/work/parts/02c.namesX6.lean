set_option maxRecDepth 20000 in
theorem ggX6_init_X6_clear : GoodIn wsX6_init wsX6_clear := goodIn_r _ [17] (by decide +kernel) (by decide +kernel)
set_option maxRecDepth 20000 in
theorem gX6_init_X6_clear : GoodIn wsX6_init (va_wsS RX6 35 yX6_clear wsX6_clear) := goodIn_app (goodIn_of _ (by decide +kernel)) ggX6_init_X6_clear
theorem dX6_init_0 : decode cX6_init 0 = .ok (.aload_n 0, 1) := by decide +kernel
theorem dX6_init_1 : decode cX6_init 1 = .ok (.invokespecial 1, 3) := by decide +kernel
theorem dX6_init_4 : decode cX6_init 4 = .ok (.aload_n 0, 1) := by decide +kernel
theorem dX6_init_5 : decode cX6_init 5 = .ok (.bipush 70, 2) := by decide +kernel
theorem dX6_init_7 : decode cX6_init 7 = .ok (.newarray .int, 2) := by decide +kernel
theorem dX6_init_9 : decode cX6_init 9 = .ok (.putfield 7, 3) := by decide +kernel
theorem dX6_init_12 : decode cX6_init 12 = .ok (.aload_n 0, 1) := by decide +kernel
theorem dX6_init_13 : decode cX6_init 13 = .ok (.sipush 146, 3) := by decide +kernel
theorem dX6_init_16 : decode cX6_init 16 = .ok (.newarray .int, 2) := by decide +kernel
theorem dX6_init_18 : decode cX6_init 18 = .ok (.putfield 13, 3) := by decide +kernel
theorem dX6_init_21 : decode cX6_init 21 = .ok (.aload_n 0, 1) := by decide +kernel
theorem dX6_init_22 : decode cX6_init 22 = .ok (.sipush 146, 3) := by decide +kernel
theorem dX6_init_25 : decode cX6_init 25 = .ok (.newarray .int, 2) := by decide +kernel
theorem dX6_init_27 : decode cX6_init 27 = .ok (.putfield 16, 3) := by decide +kernel
theorem dX6_init_30 : decode cX6_init 30 = .ok (.aload_n 0, 1) := by decide +kernel
theorem dX6_init_31 : decode cX6_init 31 = .ok (.sipush 146, 3) := by decide +kernel
theorem dX6_init_34 : decode cX6_init 34 = .ok (.newarray .int, 2) := by decide +kernel
theorem dX6_init_36 : decode cX6_init 36 = .ok (.putfield 19, 3) := by decide +kernel
theorem dX6_init_39 : decode cX6_init 39 = .ok (.aload_n 0, 1) := by decide +kernel
theorem dX6_init_40 : decode cX6_init 40 = .ok (.sipush 2044, 3) := by decide +kernel
theorem dX6_init_43 : decode cX6_init 43 = .ok (.newarray .int, 2) := by decide +kernel
theorem dX6_init_45 : decode cX6_init 45 = .ok (.putfield 22, 3) := by decide +kernel
theorem dX6_init_48 : decode cX6_init 48 = .ok (.aload_n 0, 1) := by decide +kernel
theorem dX6_init_49 : decode cX6_init 49 = .ok (.sipush 292, 3) := by decide +kernel
theorem dX6_init_52 : decode cX6_init 52 = .ok (.newarray .int, 2) := by decide +kernel
theorem dX6_init_54 : decode cX6_init 54 = .ok (.putfield 25, 3) := by decide +kernel
theorem dX6_init_57 : decode cX6_init 57 = .ok (.aload_n 0, 1) := by decide +kernel
theorem dX6_init_58 : decode cX6_init 58 = .ok (.iconst 2, 1) := by decide +kernel
theorem dX6_init_59 : decode cX6_init 59 = .ok (.newarray .boolean, 2) := by decide +kernel
theorem dX6_init_61 : decode cX6_init 61 = .ok (.putfield 28, 3) := by decide +kernel
theorem dX6_init_64 : decode cX6_init 64 = .ok (.aload_n 0, 1) := by decide +kernel
theorem dX6_init_65 : decode cX6_init 65 = .ok (.bipush 12, 2) := by decide +kernel
theorem dX6_init_67 : decode cX6_init 67 = .ok (.newarray .int, 2) := by decide +kernel
theorem dX6_init_69 : decode cX6_init 69 = .ok (.putfield 32, 3) := by decide +kernel
theorem dX6_init_72 : decode cX6_init 72 = .ok (.aload_n 0, 1) := by decide +kernel
theorem dX6_init_73 : decode cX6_init 73 = .ok (.getfield 16, 3) := by decide +kernel
theorem dX6_init_76 : decode cX6_init 76 = .ok (.invokestatic 35, 3) := by decide +kernel
theorem dX6_init_79 : decode cX6_init 79 = .ok (.return_, 1) := by decide +kernel
theorem dX6_thrown_0 : decode cX6_thrown 0 = .ok (.aload_n 0, 1) := by decide +kernel
theorem dX6_thrown_1 : decode cX6_thrown 1 = .ok (.getfield 39, 3) := by decide +kernel
theorem dX6_thrown_4 : decode cX6_thrown 4 = .ok (.ireturn, 1) := by decide +kernel
theorem dX6_refused_0 : decode cX6_refused 0 = .ok (.aload_n 0, 1) := by decide +kernel
theorem dX6_refused_1 : decode cX6_refused 1 = .ok (.iload_n 1, 1) := by decide +kernel
theorem dX6_refused_2 : decode cX6_refused 2 = .ok (.putfield 39, 3) := by decide +kernel
theorem dX6_refused_5 : decode cX6_refused 5 = .ok (.iload_n 1, 1) := by decide +kernel
theorem dX6_refused_6 : decode cX6_refused 6 = .ok (.ifCond .le 7, 3) := by decide +kernel
theorem dX6_refused_9 : decode cX6_refused 9 = .ok (.iconst 1, 1) := by decide +kernel
theorem dX6_refused_10 : decode cX6_refused 10 = .ok (.goto 4, 3) := by decide +kernel
theorem dX6_refused_13 : decode cX6_refused 13 = .ok (.iconst 0, 1) := by decide +kernel
theorem dX6_refused_14 : decode cX6_refused 14 = .ok (.ireturn, 1) := by decide +kernel
theorem dX6_in_0 : decode cX6_in 0 = .ok (.lload_n 0, 1) := by decide +kernel
theorem dX6_in_1 : decode cX6_in 1 = .ok (.lload_n 2, 1) := by decide +kernel
theorem dX6_in_2 : decode cX6_in 2 = .ok (.lcmp, 1) := by decide +kernel
theorem dX6_in_3 : decode cX6_in 3 = .ok (.ifCond .lt 14, 3) := by decide +kernel
theorem dX6_in_6 : decode cX6_in 6 = .ok (.lload_n 0, 1) := by decide +kernel
theorem dX6_in_7 : decode cX6_in 7 = .ok (.lload 4, 2) := by decide +kernel
theorem dX6_in_9 : decode cX6_in 9 = .ok (.lcmp, 1) := by decide +kernel
theorem dX6_in_10 : decode cX6_in 10 = .ok (.ifCond .gt 7, 3) := by decide +kernel
theorem dX6_in_13 : decode cX6_in 13 = .ok (.iconst 1, 1) := by decide +kernel
theorem dX6_in_14 : decode cX6_in 14 = .ok (.goto 4, 3) := by decide +kernel
theorem dX6_in_17 : decode cX6_in 17 = .ok (.iconst 0, 1) := by decide +kernel
theorem dX6_in_18 : decode cX6_in 18 = .ok (.ireturn, 1) := by decide +kernel
theorem dX6_copyPage_0 : decode cX6_copyPage 0 = .ok (.iconst 0, 1) := by decide +kernel
theorem dX6_copyPage_1 : decode cX6_copyPage 1 = .ok (.istore 4, 2) := by decide +kernel
theorem dX6_copyPage_3 : decode cX6_copyPage 3 = .ok (.iload 4, 2) := by decide +kernel
theorem dX6_copyPage_5 : decode cX6_copyPage 5 = .ok (.sipush 146, 3) := by decide +kernel
theorem dX6_copyPage_8 : decode cX6_copyPage 8 = .ok (.if_icmp .ge 21, 3) := by decide +kernel
theorem dX6_copyPage_11 : decode cX6_copyPage 11 = .ok (.aload_n 2, 1) := by decide +kernel
theorem dX6_copyPage_12 : decode cX6_copyPage 12 = .ok (.iload_n 3, 1) := by decide +kernel
theorem dX6_copyPage_13 : decode cX6_copyPage 13 = .ok (.iload 4, 2) := by decide +kernel
theorem dX6_copyPage_15 : decode cX6_copyPage 15 = .ok (.iadd, 1) := by decide +kernel
theorem dX6_copyPage_16 : decode cX6_copyPage 16 = .ok (.aload_n 0, 1) := by decide +kernel
theorem dX6_copyPage_17 : decode cX6_copyPage 17 = .ok (.iload_n 1, 1) := by decide +kernel
theorem dX6_copyPage_18 : decode cX6_copyPage 18 = .ok (.iload 4, 2) := by decide +kernel
theorem dX6_copyPage_20 : decode cX6_copyPage 20 = .ok (.iadd, 1) := by decide +kernel
theorem dX6_copyPage_21 : decode cX6_copyPage 21 = .ok (.iaload, 1) := by decide +kernel
theorem dX6_copyPage_22 : decode cX6_copyPage 22 = .ok (.iastore, 1) := by decide +kernel
theorem dX6_copyPage_23 : decode cX6_copyPage 23 = .ok (.iinc 4 1, 3) := by decide +kernel
theorem dX6_copyPage_26 : decode cX6_copyPage 26 = .ok (.goto (-23), 3) := by decide +kernel
theorem dX6_copyPage_29 : decode cX6_copyPage 29 = .ok (.return_, 1) := by decide +kernel
theorem dX6_clear_0 : decode cX6_clear 0 = .ok (.iconst 0, 1) := by decide +kernel
theorem dX6_clear_1 : decode cX6_clear 1 = .ok (.istore_n 1, 1) := by decide +kernel
theorem dX6_clear_2 : decode cX6_clear 2 = .ok (.iload_n 1, 1) := by decide +kernel
theorem dX6_clear_3 : decode cX6_clear 3 = .ok (.sipush 146, 3) := by decide +kernel
theorem dX6_clear_6 : decode cX6_clear 6 = .ok (.if_icmp .ge 13, 3) := by decide +kernel
theorem dX6_clear_9 : decode cX6_clear 9 = .ok (.aload_n 0, 1) := by decide +kernel
theorem dX6_clear_10 : decode cX6_clear 10 = .ok (.iload_n 1, 1) := by decide +kernel
theorem dX6_clear_11 : decode cX6_clear 11 = .ok (.iconst 0, 1) := by decide +kernel
theorem dX6_clear_12 : decode cX6_clear 12 = .ok (.iastore, 1) := by decide +kernel
theorem dX6_clear_13 : decode cX6_clear 13 = .ok (.iinc 1 1, 3) := by decide +kernel
theorem dX6_clear_16 : decode cX6_clear 16 = .ok (.goto (-14), 3) := by decide +kernel
theorem dX6_clear_19 : decode cX6_clear 19 = .ok (.aload_n 0, 1) := by decide +kernel
theorem dX6_clear_20 : decode cX6_clear 20 = .ok (.iconst 2, 1) := by decide +kernel
theorem dX6_clear_21 : decode cX6_clear 21 = .ok (.sipush 300, 3) := by decide +kernel
theorem dX6_clear_24 : decode cX6_clear 24 = .ok (.iastore, 1) := by decide +kernel
theorem dX6_clear_25 : decode cX6_clear 25 = .ok (.aload_n 0, 1) := by decide +kernel
theorem dX6_clear_26 : decode cX6_clear 26 = .ok (.iconst 3, 1) := by decide +kernel
theorem dX6_clear_27 : decode cX6_clear 27 = .ok (.bipush (-9), 2) := by decide +kernel
theorem dX6_clear_29 : decode cX6_clear 29 = .ok (.iastore, 1) := by decide +kernel
theorem dX6_clear_30 : decode cX6_clear 30 = .ok (.iconst 0, 1) := by decide +kernel
theorem dX6_clear_31 : decode cX6_clear 31 = .ok (.istore_n 1, 1) := by decide +kernel
theorem dX6_clear_32 : decode cX6_clear 32 = .ok (.iload_n 1, 1) := by decide +kernel
theorem dX6_clear_33 : decode cX6_clear 33 = .ok (.bipush 6, 2) := by decide +kernel
theorem dX6_clear_35 : decode cX6_clear 35 = .ok (.if_icmp .ge 16, 3) := by decide +kernel
theorem dX6_clear_38 : decode cX6_clear 38 = .ok (.aload_n 0, 1) := by decide +kernel
theorem dX6_clear_39 : decode cX6_clear 39 = .ok (.bipush 8, 2) := by decide +kernel
theorem dX6_clear_41 : decode cX6_clear 41 = .ok (.iload_n 1, 1) := by decide +kernel
theorem dX6_clear_42 : decode cX6_clear 42 = .ok (.iadd, 1) := by decide +kernel
theorem dX6_clear_43 : decode cX6_clear 43 = .ok (.iload_n 1, 1) := by decide +kernel
theorem dX6_clear_44 : decode cX6_clear 44 = .ok (.iastore, 1) := by decide +kernel
theorem dX6_clear_45 : decode cX6_clear 45 = .ok (.iinc 1 1, 3) := by decide +kernel
theorem dX6_clear_48 : decode cX6_clear 48 = .ok (.goto (-16), 3) := by decide +kernel
theorem dX6_clear_51 : decode cX6_clear 51 = .ok (.return_, 1) := by decide +kernel
theorem dX6_worth_0 : decode cX6_worth 0 = .ok (.iload_n 0, 1) := by decide +kernel
theorem dX6_worth_1 : decode cX6_worth 1 = .ok (.tableswitch 37 0 3 #[31, 37, 31, 34], 31) := by decide +kernel
theorem dX6_worth_32 : decode cX6_worth 32 = .ok (.bipush 20, 2) := by decide +kernel
theorem dX6_worth_34 : decode cX6_worth 34 = .ok (.ireturn, 1) := by decide +kernel
theorem dX6_worth_35 : decode cX6_worth 35 = .ok (.bipush 30, 2) := by decide +kernel
theorem dX6_worth_37 : decode cX6_worth 37 = .ok (.ireturn, 1) := by decide +kernel
theorem dX6_worth_38 : decode cX6_worth 38 = .ok (.bipush 10, 2) := by decide +kernel
theorem dX6_worth_40 : decode cX6_worth 40 = .ok (.ireturn, 1) := by decide +kernel
theorem dX6_dogAt_0 : decode cX6_dogAt 0 = .ok (.bipush 14, 2) := by decide +kernel
theorem dX6_dogAt_2 : decode cX6_dogAt 2 = .ok (.bipush 11, 2) := by decide +kernel
theorem dX6_dogAt_4 : decode cX6_dogAt 4 = .ok (.iload_n 0, 1) := by decide +kernel
theorem dX6_dogAt_5 : decode cX6_dogAt 5 = .ok (.imul, 1) := by decide +kernel
theorem dX6_dogAt_6 : decode cX6_dogAt 6 = .ok (.iadd, 1) := by decide +kernel
theorem dX6_dogAt_7 : decode cX6_dogAt 7 = .ok (.ireturn, 1) := by decide +kernel
set_option maxRecDepth 20000 in
theorem ggX6_stateOf_X6_dogAt : GoodIn wsX6_stateOf wsX6_dogAt := goodIn_r _ [4] (by decide +kernel) (by decide +kernel)
set_option maxRecDepth 20000 in
theorem gX6_stateOf_X6_dogAt : GoodIn wsX6_stateOf (va_wsS RX6 43 yX6_dogAt wsX6_dogAt) := goodIn_app (goodIn_of _ (by decide +kernel)) ggX6_stateOf_X6_dogAt
theorem dX6_stateOf_0 : decode cX6_stateOf 0 = .ok (.aload_n 0, 1) := by decide +kernel
theorem dX6_stateOf_1 : decode cX6_stateOf 1 = .ok (.iload_n 1, 1) := by decide +kernel
theorem dX6_stateOf_2 : decode cX6_stateOf 2 = .ok (.invokestatic 43, 3) := by decide +kernel
theorem dX6_stateOf_5 : decode cX6_stateOf 5 = .ok (.iconst 2, 1) := by decide +kernel
theorem dX6_stateOf_6 : decode cX6_stateOf 6 = .ok (.iadd, 1) := by decide +kernel
theorem dX6_stateOf_7 : decode cX6_stateOf 7 = .ok (.iaload, 1) := by decide +kernel
theorem dX6_stateOf_8 : decode cX6_stateOf 8 = .ok (.ireturn, 1) := by decide +kernel
set_option maxRecDepth 20000 in
theorem ggX6_hasRun_X6_dogAt : GoodIn wsX6_hasRun wsX6_dogAt := goodIn_r _ [4] (by decide +kernel) (by decide +kernel)
set_option maxRecDepth 20000 in
theorem gX6_hasRun_X6_dogAt : GoodIn wsX6_hasRun (va_wsS RX6 43 yX6_dogAt wsX6_dogAt) := goodIn_app (goodIn_of _ (by decide +kernel)) ggX6_hasRun_X6_dogAt
theorem dX6_hasRun_0 : decode cX6_hasRun 0 = .ok (.aload_n 0, 1) := by decide +kernel
theorem dX6_hasRun_1 : decode cX6_hasRun 1 = .ok (.iload_n 1, 1) := by decide +kernel
theorem dX6_hasRun_2 : decode cX6_hasRun 2 = .ok (.invokestatic 43, 3) := by decide +kernel
theorem dX6_hasRun_5 : decode cX6_hasRun 5 = .ok (.iconst 3, 1) := by decide +kernel
theorem dX6_hasRun_6 : decode cX6_hasRun 6 = .ok (.iadd, 1) := by decide +kernel
theorem dX6_hasRun_7 : decode cX6_hasRun 7 = .ok (.iaload, 1) := by decide +kernel
theorem dX6_hasRun_8 : decode cX6_hasRun 8 = .ok (.iconst 1, 1) := by decide +kernel
theorem dX6_hasRun_9 : decode cX6_hasRun 9 = .ok (.if_icmp .ne 7, 3) := by decide +kernel
theorem dX6_hasRun_12 : decode cX6_hasRun 12 = .ok (.iconst 1, 1) := by decide +kernel
theorem dX6_hasRun_13 : decode cX6_hasRun 13 = .ok (.goto 4, 3) := by decide +kernel
theorem dX6_hasRun_16 : decode cX6_hasRun 16 = .ok (.iconst 0, 1) := by decide +kernel
theorem dX6_hasRun_17 : decode cX6_hasRun 17 = .ok (.ireturn, 1) := by decide +kernel
set_option maxRecDepth 20000 in
theorem ggX6_isToRun_X6_stateOf : GoodIn wsX6_isToRun wsX6_stateOf := goodIn_r _ [4, 5, 6, 3, 7] (by decide +kernel) (by decide +kernel)
set_option maxRecDepth 20000 in
theorem gX6_isToRun_X6_stateOf : GoodIn wsX6_isToRun (va_wsS RX6 47 yX6_stateOf wsX6_stateOf) := goodIn_app (goodIn_of _ (by decide +kernel)) ggX6_isToRun_X6_stateOf
theorem dX6_isToRun_0 : decode cX6_isToRun 0 = .ok (.aload_n 0, 1) := by decide +kernel
theorem dX6_isToRun_1 : decode cX6_isToRun 1 = .ok (.iload_n 1, 1) := by decide +kernel
theorem dX6_isToRun_2 : decode cX6_isToRun 2 = .ok (.invokestatic 47, 3) := by decide +kernel
theorem dX6_isToRun_5 : decode cX6_isToRun 5 = .ok (.ifCond .eq 12, 3) := by decide +kernel
theorem dX6_isToRun_8 : decode cX6_isToRun 8 = .ok (.aload_n 0, 1) := by decide +kernel
theorem dX6_isToRun_9 : decode cX6_isToRun 9 = .ok (.iload_n 1, 1) := by decide +kernel
theorem dX6_isToRun_10 : decode cX6_isToRun 10 = .ok (.invokestatic 47, 3) := by decide +kernel
theorem dX6_isToRun_13 : decode cX6_isToRun 13 = .ok (.iconst 2, 1) := by decide +kernel
theorem dX6_isToRun_14 : decode cX6_isToRun 14 = .ok (.if_icmp .ne 7, 3) := by decide +kernel
theorem dX6_isToRun_17 : decode cX6_isToRun 17 = .ok (.iconst 1, 1) := by decide +kernel
theorem dX6_isToRun_18 : decode cX6_isToRun 18 = .ok (.goto 4, 3) := by decide +kernel
theorem dX6_isToRun_21 : decode cX6_isToRun 21 = .ok (.iconst 0, 1) := by decide +kernel
theorem dX6_isToRun_22 : decode cX6_isToRun 22 = .ok (.ireturn, 1) := by decide +kernel
set_option maxRecDepth 20000 in
theorem ggX6_isDog_X6_in : GoodIn wsX6_isDog wsX6_in := goodIn_r _ [4] (by decide +kernel) (by decide +kernel)
set_option maxRecDepth 20000 in
theorem gX6_isDog_X6_in : GoodIn wsX6_isDog (va_wsS RX6 51 yX6_in wsX6_in) := goodIn_app (goodIn_of _ (by decide +kernel)) ggX6_isDog_X6_in
theorem dX6_isDog_0 : decode cX6_isDog 0 = .ok (.iload_n 1, 1) := by decide +kernel
theorem dX6_isDog_1 : decode cX6_isDog 1 = .ok (.i2l, 1) := by decide +kernel
theorem dX6_isDog_2 : decode cX6_isDog 2 = .ok (.lconst 0, 1) := by decide +kernel
theorem dX6_isDog_3 : decode cX6_isDog 3 = .ok (.aload_n 0, 1) := by decide +kernel
theorem dX6_isDog_4 : decode cX6_isDog 4 = .ok (.bipush 7, 2) := by decide +kernel
theorem dX6_isDog_6 : decode cX6_isDog 6 = .ok (.iaload, 1) := by decide +kernel
theorem dX6_isDog_7 : decode cX6_isDog 7 = .ok (.iconst 1, 1) := by decide +kernel
theorem dX6_isDog_8 : decode cX6_isDog 8 = .ok (.isub, 1) := by decide +kernel
theorem dX6_isDog_9 : decode cX6_isDog 9 = .ok (.i2l, 1) := by decide +kernel
theorem dX6_isDog_10 : decode cX6_isDog 10 = .ok (.invokestatic 51, 3) := by decide +kernel
theorem dX6_isDog_13 : decode cX6_isDog 13 = .ok (.ireturn, 1) := by decide +kernel
set_option maxRecDepth 20000 in
theorem ggX6_isPhase_X6_in : GoodIn wsX6_isPhase wsX6_in := goodIn_r _ [5] (by decide +kernel) (by decide +kernel)
set_option maxRecDepth 20000 in
theorem gX6_isPhase_X6_in : GoodIn wsX6_isPhase (va_wsS RX6 51 yX6_in wsX6_in) := goodIn_app (goodIn_of _ (by decide +kernel)) ggX6_isPhase_X6_in
theorem dX6_isPhase_0 : decode cX6_isPhase 0 = .ok (.iload_n 0, 1) := by decide +kernel
theorem dX6_isPhase_1 : decode cX6_isPhase 1 = .ok (.i2l, 1) := by decide +kernel
theorem dX6_isPhase_2 : decode cX6_isPhase 2 = .ok (.lconst 0, 1) := by decide +kernel
theorem dX6_isPhase_3 : decode cX6_isPhase 3 = .ok (.ldc2_w 55, 3) := by decide +kernel
theorem dX6_isPhase_6 : decode cX6_isPhase 6 = .ok (.invokestatic 51, 3) := by decide +kernel
theorem dX6_isPhase_9 : decode cX6_isPhase 9 = .ok (.ireturn, 1) := by decide +kernel
set_option maxRecDepth 20000 in
theorem ggX6_isDrawn_X6_dogAt : GoodIn wsX6_isDrawn wsX6_dogAt := goodIn_r _ [4] (by decide +kernel) (by decide +kernel)
set_option maxRecDepth 20000 in
theorem gX6_isDrawn_X6_dogAt : GoodIn wsX6_isDrawn (va_wsS RX6 43 yX6_dogAt wsX6_dogAt) := goodIn_app (goodIn_of _ (by decide +kernel)) ggX6_isDrawn_X6_dogAt
theorem dX6_isDrawn_0 : decode cX6_isDrawn 0 = .ok (.iconst 0, 1) := by decide +kernel
theorem dX6_isDrawn_1 : decode cX6_isDrawn 1 = .ok (.istore_n 3, 1) := by decide +kernel
theorem dX6_isDrawn_2 : decode cX6_isDrawn 2 = .ok (.iconst 0, 1) := by decide +kernel
theorem dX6_isDrawn_3 : decode cX6_isDrawn 3 = .ok (.istore 4, 2) := by decide +kernel
theorem dX6_isDrawn_5 : decode cX6_isDrawn 5 = .ok (.iload 4, 2) := by decide +kernel
theorem dX6_isDrawn_7 : decode cX6_isDrawn 7 = .ok (.aload_n 0, 1) := by decide +kernel
theorem dX6_isDrawn_8 : decode cX6_isDrawn 8 = .ok (.bipush 7, 2) := by decide +kernel
theorem dX6_isDrawn_10 : decode cX6_isDrawn 10 = .ok (.iaload, 1) := by decide +kernel
theorem dX6_isDrawn_11 : decode cX6_isDrawn 11 = .ok (.if_icmp .ge 36, 3) := by decide +kernel
theorem dX6_isDrawn_14 : decode cX6_isDrawn 14 = .ok (.iload_n 3, 1) := by decide +kernel
theorem dX6_isDrawn_15 : decode cX6_isDrawn 15 = .ok (.iload 4, 2) := by decide +kernel
theorem dX6_isDrawn_17 : decode cX6_isDrawn 17 = .ok (.iload_n 2, 1) := by decide +kernel
theorem dX6_isDrawn_18 : decode cX6_isDrawn 18 = .ok (.if_icmp .eq 20, 3) := by decide +kernel
theorem dX6_isDrawn_21 : decode cX6_isDrawn 21 = .ok (.aload_n 0, 1) := by decide +kernel
theorem dX6_isDrawn_22 : decode cX6_isDrawn 22 = .ok (.iload 4, 2) := by decide +kernel
theorem dX6_isDrawn_24 : decode cX6_isDrawn 24 = .ok (.invokestatic 43, 3) := by decide +kernel
theorem dX6_isDrawn_27 : decode cX6_isDrawn 27 = .ok (.iconst 1, 1) := by decide +kernel
theorem dX6_isDrawn_28 : decode cX6_isDrawn 28 = .ok (.iadd, 1) := by decide +kernel
theorem dX6_isDrawn_29 : decode cX6_isDrawn 29 = .ok (.iaload, 1) := by decide +kernel
theorem dX6_isDrawn_30 : decode cX6_isDrawn 30 = .ok (.iload_n 1, 1) := by decide +kernel
theorem dX6_isDrawn_31 : decode cX6_isDrawn 31 = .ok (.if_icmp .ne 7, 3) := by decide +kernel
theorem dX6_isDrawn_34 : decode cX6_isDrawn 34 = .ok (.iconst 1, 1) := by decide +kernel
theorem dX6_isDrawn_35 : decode cX6_isDrawn 35 = .ok (.goto 4, 3) := by decide +kernel
theorem dX6_isDrawn_38 : decode cX6_isDrawn 38 = .ok (.iconst 0, 1) := by decide +kernel
theorem dX6_isDrawn_39 : decode cX6_isDrawn 39 = .ok (.ior, 1) := by decide +kernel
theorem dX6_isDrawn_40 : decode cX6_isDrawn 40 = .ok (.istore_n 3, 1) := by decide +kernel
theorem dX6_isDrawn_41 : decode cX6_isDrawn 41 = .ok (.iinc 4 1, 3) := by decide +kernel
theorem dX6_isDrawn_44 : decode cX6_isDrawn 44 = .ok (.goto (-39), 3) := by decide +kernel
theorem dX6_isDrawn_47 : decode cX6_isDrawn 47 = .ok (.iload_n 3, 1) := by decide +kernel
theorem dX6_isDrawn_48 : decode cX6_isDrawn 48 = .ok (.ireturn, 1) := by decide +kernel
set_option maxRecDepth 20000 in
theorem ggX6_lostIn_X6_dogAt : GoodIn wsX6_lostIn wsX6_dogAt := goodIn_r _ [4] (by decide +kernel) (by decide +kernel)
set_option maxRecDepth 20000 in
theorem gX6_lostIn_X6_dogAt : GoodIn wsX6_lostIn (va_wsS RX6 43 yX6_dogAt wsX6_dogAt) := goodIn_app (goodIn_of _ (by decide +kernel)) ggX6_lostIn_X6_dogAt
set_option maxRecDepth 20000 in
theorem ggX6_lostIn_X6_worth : GoodIn wsX6_lostIn wsX6_worth := goodIn_r _ [7] (by decide +kernel) (by decide +kernel)
set_option maxRecDepth 20000 in
theorem gX6_lostIn_X6_worth : GoodIn wsX6_lostIn (va_wsS RX6 57 yX6_worth wsX6_worth) := goodIn_app (goodIn_of _ (by decide +kernel)) ggX6_lostIn_X6_worth
theorem dX6_lostIn_0 : decode cX6_lostIn 0 = .ok (.iload_n 2, 1) := by decide +kernel
theorem dX6_lostIn_1 : decode cX6_lostIn 1 = .ok (.aload_n 0, 1) := by decide +kernel
theorem dX6_lostIn_2 : decode cX6_lostIn 2 = .ok (.iload_n 1, 1) := by decide +kernel
theorem dX6_lostIn_3 : decode cX6_lostIn 3 = .ok (.invokestatic 43, 3) := by decide +kernel
theorem dX6_lostIn_6 : decode cX6_lostIn 6 = .ok (.iconst 4, 1) := by decide +kernel
theorem dX6_lostIn_7 : decode cX6_lostIn 7 = .ok (.iadd, 1) := by decide +kernel
theorem dX6_lostIn_8 : decode cX6_lostIn 8 = .ok (.iaload, 1) := by decide +kernel
theorem dX6_lostIn_9 : decode cX6_lostIn 9 = .ok (.if_icmp .lt 10, 3) := by decide +kernel
theorem dX6_lostIn_12 : decode cX6_lostIn 12 = .ok (.iload_n 2, 1) := by decide +kernel
theorem dX6_lostIn_13 : decode cX6_lostIn 13 = .ok (.invokestatic 57, 3) := by decide +kernel
theorem dX6_lostIn_16 : decode cX6_lostIn 16 = .ok (.goto 13, 3) := by decide +kernel
theorem dX6_lostIn_19 : decode cX6_lostIn 19 = .ok (.aload_n 0, 1) := by decide +kernel
theorem dX6_lostIn_20 : decode cX6_lostIn 20 = .ok (.iload_n 1, 1) := by decide +kernel
theorem dX6_lostIn_21 : decode cX6_lostIn 21 = .ok (.invokestatic 43, 3) := by decide +kernel
theorem dX6_lostIn_24 : decode cX6_lostIn 24 = .ok (.iconst 5, 1) := by decide +kernel
theorem dX6_lostIn_25 : decode cX6_lostIn 25 = .ok (.iadd, 1) := by decide +kernel
theorem dX6_lostIn_26 : decode cX6_lostIn 26 = .ok (.iload_n 2, 1) := by decide +kernel
theorem dX6_lostIn_27 : decode cX6_lostIn 27 = .ok (.iadd, 1) := by decide +kernel
theorem dX6_lostIn_28 : decode cX6_lostIn 28 = .ok (.iaload, 1) := by decide +kernel
theorem dX6_lostIn_29 : decode cX6_lostIn 29 = .ok (.ireturn, 1) := by decide +kernel
set_option maxRecDepth 20000 in
theorem ggX6_score_X6_hasRun : GoodIn wsX6_score wsX6_hasRun := goodIn_r _ [4, 5, 6, 3, 7] (by decide +kernel) (by decide +kernel)
set_option maxRecDepth 20000 in
theorem gX6_score_X6_hasRun : GoodIn wsX6_score (va_wsS RX6 60 yX6_hasRun wsX6_hasRun) := goodIn_app (goodIn_of _ (by decide +kernel)) ggX6_score_X6_hasRun
set_option maxRecDepth 20000 in
theorem ggX6_score_X6_lostIn : GoodIn wsX6_score wsX6_lostIn := goodIn_r _ [10, 5, 6, 3, 7, 11, 12, 13] (by decide +kernel) (by decide +kernel)
set_option maxRecDepth 20000 in
theorem gX6_score_X6_lostIn : GoodIn wsX6_score (va_wsS RX6 64 yX6_lostIn wsX6_lostIn) := goodIn_app (goodIn_of _ (by decide +kernel)) ggX6_score_X6_lostIn
theorem dX6_score_0 : decode cX6_score 0 = .ok (.aload_n 0, 1) := by decide +kernel
theorem dX6_score_1 : decode cX6_score 1 = .ok (.iload_n 1, 1) := by decide +kernel
theorem dX6_score_2 : decode cX6_score 2 = .ok (.invokestatic 60, 3) := by decide +kernel
theorem dX6_score_5 : decode cX6_score 5 = .ok (.ifCond .eq 8, 3) := by decide +kernel
theorem dX6_score_8 : decode cX6_score 8 = .ok (.bipush 100, 2) := by decide +kernel
theorem dX6_score_10 : decode cX6_score 10 = .ok (.goto 4, 3) := by decide +kernel
theorem dX6_score_13 : decode cX6_score 13 = .ok (.iconst 0, 1) := by decide +kernel
theorem dX6_score_14 : decode cX6_score 14 = .ok (.istore_n 2, 1) := by decide +kernel
theorem dX6_score_15 : decode cX6_score 15 = .ok (.iconst 0, 1) := by decide +kernel
theorem dX6_score_16 : decode cX6_score 16 = .ok (.istore_n 3, 1) := by decide +kernel
theorem dX6_score_17 : decode cX6_score 17 = .ok (.iload_n 3, 1) := by decide +kernel
theorem dX6_score_18 : decode cX6_score 18 = .ok (.bipush 6, 2) := by decide +kernel
theorem dX6_score_20 : decode cX6_score 20 = .ok (.if_icmp .ge 22, 3) := by decide +kernel
theorem dX6_score_23 : decode cX6_score 23 = .ok (.iload_n 2, 1) := by decide +kernel
theorem dX6_score_24 : decode cX6_score 24 = .ok (.ifCond .le 18, 3) := by decide +kernel
theorem dX6_score_27 : decode cX6_score 27 = .ok (.iload_n 2, 1) := by decide +kernel
theorem dX6_score_28 : decode cX6_score 28 = .ok (.aload_n 0, 1) := by decide +kernel
theorem dX6_score_29 : decode cX6_score 29 = .ok (.iload_n 1, 1) := by decide +kernel
theorem dX6_score_30 : decode cX6_score 30 = .ok (.iload_n 3, 1) := by decide +kernel
theorem dX6_score_31 : decode cX6_score 31 = .ok (.invokestatic 64, 3) := by decide +kernel
theorem dX6_score_34 : decode cX6_score 34 = .ok (.isub, 1) := by decide +kernel
theorem dX6_score_35 : decode cX6_score 35 = .ok (.istore_n 2, 1) := by decide +kernel
theorem dX6_score_36 : decode cX6_score 36 = .ok (.iinc 3 1, 3) := by decide +kernel
theorem dX6_score_39 : decode cX6_score 39 = .ok (.goto (-22), 3) := by decide +kernel
theorem dX6_score_42 : decode cX6_score 42 = .ok (.iload_n 2, 1) := by decide +kernel
theorem dX6_score_43 : decode cX6_score 43 = .ok (.ireturn, 1) := by decide +kernel
set_option maxRecDepth 20000 in
theorem ggX6_isBetter_X6_score : GoodIn wsX6_isBetter wsX6_score := goodIn_r _ [4, 5, 6, 3, 7, 8, 9, 10, 11, 12, 13, 14, 15, 16] (by decide +kernel) (by decide +kernel)
set_option maxRecDepth 20000 in
theorem gX6_isBetter_X6_score : GoodIn wsX6_isBetter (va_wsS RX6 68 yX6_score wsX6_score) := goodIn_app (goodIn_of _ (by decide +kernel)) ggX6_isBetter_X6_score
set_option maxRecDepth 20000 in
theorem ggX6_isBetter_X6_lostIn : GoodIn wsX6_isBetter wsX6_lostIn := goodIn_r _ [13, 8, 9, 3, 10, 14, 15, 16] (by decide +kernel) (by decide +kernel)
set_option maxRecDepth 20000 in
theorem gX6_isBetter_X6_lostIn : GoodIn wsX6_isBetter (va_wsS RX6 64 yX6_lostIn wsX6_lostIn) := goodIn_app (goodIn_of _ (by decide +kernel)) ggX6_isBetter_X6_lostIn
theorem dX6_isBetter_0 : decode cX6_isBetter 0 = .ok (.aload_n 0, 1) := by decide +kernel
theorem dX6_isBetter_1 : decode cX6_isBetter 1 = .ok (.iload_n 1, 1) := by decide +kernel
theorem dX6_isBetter_2 : decode cX6_isBetter 2 = .ok (.invokestatic 68, 3) := by decide +kernel
theorem dX6_isBetter_5 : decode cX6_isBetter 5 = .ok (.aload_n 0, 1) := by decide +kernel
theorem dX6_isBetter_6 : decode cX6_isBetter 6 = .ok (.iload_n 2, 1) := by decide +kernel
theorem dX6_isBetter_7 : decode cX6_isBetter 7 = .ok (.invokestatic 68, 3) := by decide +kernel
theorem dX6_isBetter_10 : decode cX6_isBetter 10 = .ok (.isub, 1) := by decide +kernel
theorem dX6_isBetter_11 : decode cX6_isBetter 11 = .ok (.istore_n 3, 1) := by decide +kernel
theorem dX6_isBetter_12 : decode cX6_isBetter 12 = .ok (.iconst 0, 1) := by decide +kernel
theorem dX6_isBetter_13 : decode cX6_isBetter 13 = .ok (.istore 4, 2) := by decide +kernel
theorem dX6_isBetter_15 : decode cX6_isBetter 15 = .ok (.iload 4, 2) := by decide +kernel
theorem dX6_isBetter_17 : decode cX6_isBetter 17 = .ok (.bipush 6, 2) := by decide +kernel
theorem dX6_isBetter_19 : decode cX6_isBetter 19 = .ok (.if_icmp .ge 52, 3) := by decide +kernel
theorem dX6_isBetter_22 : decode cX6_isBetter 22 = .ok (.iload_n 3, 1) := by decide +kernel
theorem dX6_isBetter_23 : decode cX6_isBetter 23 = .ok (.ifCond .ne 48, 3) := by decide +kernel
theorem dX6_isBetter_26 : decode cX6_isBetter 26 = .ok (.aload_n 0, 1) := by decide +kernel
theorem dX6_isBetter_27 : decode cX6_isBetter 27 = .ok (.bipush 8, 2) := by decide +kernel
theorem dX6_isBetter_29 : decode cX6_isBetter 29 = .ok (.iload 4, 2) := by decide +kernel
theorem dX6_isBetter_31 : decode cX6_isBetter 31 = .ok (.iadd, 1) := by decide +kernel
theorem dX6_isBetter_32 : decode cX6_isBetter 32 = .ok (.iaload, 1) := by decide +kernel
theorem dX6_isBetter_33 : decode cX6_isBetter 33 = .ok (.istore 5, 2) := by decide +kernel
theorem dX6_isBetter_35 : decode cX6_isBetter 35 = .ok (.aload_n 0, 1) := by decide +kernel
theorem dX6_isBetter_36 : decode cX6_isBetter 36 = .ok (.iload_n 2, 1) := by decide +kernel
theorem dX6_isBetter_37 : decode cX6_isBetter 37 = .ok (.iload 5, 2) := by decide +kernel
theorem dX6_isBetter_39 : decode cX6_isBetter 39 = .ok (.invokestatic 64, 3) := by decide +kernel
theorem dX6_isBetter_42 : decode cX6_isBetter 42 = .ok (.aload_n 0, 1) := by decide +kernel
theorem dX6_isBetter_43 : decode cX6_isBetter 43 = .ok (.iload_n 1, 1) := by decide +kernel
theorem dX6_isBetter_44 : decode cX6_isBetter 44 = .ok (.iload 5, 2) := by decide +kernel
theorem dX6_isBetter_46 : decode cX6_isBetter 46 = .ok (.invokestatic 64, 3) := by decide +kernel
theorem dX6_isBetter_49 : decode cX6_isBetter 49 = .ok (.isub, 1) := by decide +kernel
theorem dX6_isBetter_50 : decode cX6_isBetter 50 = .ok (.istore_n 3, 1) := by decide +kernel
theorem dX6_isBetter_51 : decode cX6_isBetter 51 = .ok (.iload_n 3, 1) := by decide +kernel
theorem dX6_isBetter_52 : decode cX6_isBetter 52 = .ok (.ifCond .eq 13, 3) := by decide +kernel
theorem dX6_isBetter_55 : decode cX6_isBetter 55 = .ok (.iload_n 3, 1) := by decide +kernel
theorem dX6_isBetter_56 : decode cX6_isBetter 56 = .ok (.ifCond .le 7, 3) := by decide +kernel
theorem dX6_isBetter_59 : decode cX6_isBetter 59 = .ok (.iconst 1, 1) := by decide +kernel
theorem dX6_isBetter_60 : decode cX6_isBetter 60 = .ok (.goto 4, 3) := by decide +kernel
theorem dX6_isBetter_63 : decode cX6_isBetter 63 = .ok (.iconst 0, 1) := by decide +kernel
theorem dX6_isBetter_64 : decode cX6_isBetter 64 = .ok (.ireturn, 1) := by decide +kernel
theorem dX6_isBetter_65 : decode cX6_isBetter 65 = .ok (.iinc 4 1, 3) := by decide +kernel
theorem dX6_isBetter_68 : decode cX6_isBetter 68 = .ok (.goto (-53), 3) := by decide +kernel
theorem dX6_isBetter_71 : decode cX6_isBetter 71 = .ok (.iload_n 3, 1) := by decide +kernel
theorem dX6_isBetter_72 : decode cX6_isBetter 72 = .ok (.ifCond .le 7, 3) := by decide +kernel
theorem dX6_isBetter_75 : decode cX6_isBetter 75 = .ok (.iconst 1, 1) := by decide +kernel
theorem dX6_isBetter_76 : decode cX6_isBetter 76 = .ok (.goto 4, 3) := by decide +kernel
theorem dX6_isBetter_79 : decode cX6_isBetter 79 = .ok (.iconst 0, 1) := by decide +kernel
theorem dX6_isBetter_80 : decode cX6_isBetter 80 = .ok (.ireturn, 1) := by decide +kernel
set_option maxRecDepth 20000 in
theorem ggX6_placeOf_X6_hasRun : GoodIn wsX6_placeOf wsX6_hasRun := goodIn_r _ [4, 5, 6, 3, 7] (by decide +kernel) (by decide +kernel)
set_option maxRecDepth 20000 in
theorem gX6_placeOf_X6_hasRun : GoodIn wsX6_placeOf (va_wsS RX6 60 yX6_hasRun wsX6_hasRun) := goodIn_app (goodIn_of _ (by decide +kernel)) ggX6_placeOf_X6_hasRun
set_option maxRecDepth 20000 in
theorem ggX6_placeOf_X6_isBetter : GoodIn wsX6_placeOf wsX6_isBetter := goodIn_r _ [10, 11, 12, 3, 13, 1, 2, 4, 5, 6, 7, 14, 15, 16, 17, 18, 19] (by decide +kernel) (by decide +kernel)
set_option maxRecDepth 20000 in
theorem gX6_placeOf_X6_isBetter : GoodIn wsX6_placeOf (va_wsS RX6 71 yX6_isBetter wsX6_isBetter) := goodIn_app (goodIn_of _ (by decide +kernel)) ggX6_placeOf_X6_isBetter
theorem dX6_placeOf_0 : decode cX6_placeOf 0 = .ok (.iconst 1, 1) := by decide +kernel
theorem dX6_placeOf_1 : decode cX6_placeOf 1 = .ok (.istore_n 2, 1) := by decide +kernel
theorem dX6_placeOf_2 : decode cX6_placeOf 2 = .ok (.iconst 0, 1) := by decide +kernel
theorem dX6_placeOf_3 : decode cX6_placeOf 3 = .ok (.istore_n 3, 1) := by decide +kernel
theorem dX6_placeOf_4 : decode cX6_placeOf 4 = .ok (.iload_n 3, 1) := by decide +kernel
theorem dX6_placeOf_5 : decode cX6_placeOf 5 = .ok (.aload_n 0, 1) := by decide +kernel
theorem dX6_placeOf_6 : decode cX6_placeOf 6 = .ok (.bipush 7, 2) := by decide +kernel
theorem dX6_placeOf_8 : decode cX6_placeOf 8 = .ok (.iaload, 1) := by decide +kernel
theorem dX6_placeOf_9 : decode cX6_placeOf 9 = .ok (.if_icmp .ge 34, 3) := by decide +kernel
theorem dX6_placeOf_12 : decode cX6_placeOf 12 = .ok (.iload_n 2, 1) := by decide +kernel
theorem dX6_placeOf_13 : decode cX6_placeOf 13 = .ok (.aload_n 0, 1) := by decide +kernel
theorem dX6_placeOf_14 : decode cX6_placeOf 14 = .ok (.iload_n 3, 1) := by decide +kernel
theorem dX6_placeOf_15 : decode cX6_placeOf 15 = .ok (.invokestatic 60, 3) := by decide +kernel
theorem dX6_placeOf_18 : decode cX6_placeOf 18 = .ok (.ifCond .eq 16, 3) := by decide +kernel
theorem dX6_placeOf_21 : decode cX6_placeOf 21 = .ok (.aload_n 0, 1) := by decide +kernel
theorem dX6_placeOf_22 : decode cX6_placeOf 22 = .ok (.iload_n 3, 1) := by decide +kernel
theorem dX6_placeOf_23 : decode cX6_placeOf 23 = .ok (.iload_n 1, 1) := by decide +kernel
theorem dX6_placeOf_24 : decode cX6_placeOf 24 = .ok (.invokestatic 71, 3) := by decide +kernel
theorem dX6_placeOf_27 : decode cX6_placeOf 27 = .ok (.ifCond .eq 7, 3) := by decide +kernel
theorem dX6_placeOf_30 : decode cX6_placeOf 30 = .ok (.iconst 1, 1) := by decide +kernel
theorem dX6_placeOf_31 : decode cX6_placeOf 31 = .ok (.goto 4, 3) := by decide +kernel
theorem dX6_placeOf_34 : decode cX6_placeOf 34 = .ok (.iconst 0, 1) := by decide +kernel
theorem dX6_placeOf_35 : decode cX6_placeOf 35 = .ok (.iadd, 1) := by decide +kernel
theorem dX6_placeOf_36 : decode cX6_placeOf 36 = .ok (.istore_n 2, 1) := by decide +kernel
theorem dX6_placeOf_37 : decode cX6_placeOf 37 = .ok (.iinc 3 1, 3) := by decide +kernel
theorem dX6_placeOf_40 : decode cX6_placeOf 40 = .ok (.goto (-36), 3) := by decide +kernel
theorem dX6_placeOf_43 : decode cX6_placeOf 43 = .ok (.aload_n 0, 1) := by decide +kernel
theorem dX6_placeOf_44 : decode cX6_placeOf 44 = .ok (.iload_n 1, 1) := by decide +kernel
theorem dX6_placeOf_45 : decode cX6_placeOf 45 = .ok (.invokestatic 60, 3) := by decide +kernel
theorem dX6_placeOf_48 : decode cX6_placeOf 48 = .ok (.ifCond .eq 7, 3) := by decide +kernel
theorem dX6_placeOf_51 : decode cX6_placeOf 51 = .ok (.iload_n 2, 1) := by decide +kernel
theorem dX6_placeOf_52 : decode cX6_placeOf 52 = .ok (.goto 5, 3) := by decide +kernel
theorem dX6_placeOf_55 : decode cX6_placeOf 55 = .ok (.bipush (-9), 2) := by decide +kernel
theorem dX6_placeOf_57 : decode cX6_placeOf 57 = .ok (.ireturn, 1) := by decide +kernel
set_option maxRecDepth 20000 in
theorem ggX6_runners_X6_hasRun : GoodIn wsX6_runners wsX6_hasRun := goodIn_r _ [4, 5, 6, 3, 7] (by decide +kernel) (by decide +kernel)
set_option maxRecDepth 20000 in
theorem gX6_runners_X6_hasRun : GoodIn wsX6_runners (va_wsS RX6 60 yX6_hasRun wsX6_hasRun) := goodIn_app (goodIn_of _ (by decide +kernel)) ggX6_runners_X6_hasRun
theorem dX6_runners_0 : decode cX6_runners 0 = .ok (.iconst 0, 1) := by decide +kernel
theorem dX6_runners_1 : decode cX6_runners 1 = .ok (.istore_n 1, 1) := by decide +kernel
theorem dX6_runners_2 : decode cX6_runners 2 = .ok (.iconst 0, 1) := by decide +kernel
theorem dX6_runners_3 : decode cX6_runners 3 = .ok (.istore_n 2, 1) := by decide +kernel
theorem dX6_runners_4 : decode cX6_runners 4 = .ok (.iload_n 2, 1) := by decide +kernel
theorem dX6_runners_5 : decode cX6_runners 5 = .ok (.aload_n 0, 1) := by decide +kernel
theorem dX6_runners_6 : decode cX6_runners 6 = .ok (.bipush 7, 2) := by decide +kernel
theorem dX6_runners_8 : decode cX6_runners 8 = .ok (.iaload, 1) := by decide +kernel
theorem dX6_runners_9 : decode cX6_runners 9 = .ok (.if_icmp .ge 25, 3) := by decide +kernel
theorem dX6_runners_12 : decode cX6_runners 12 = .ok (.iload_n 1, 1) := by decide +kernel
theorem dX6_runners_13 : decode cX6_runners 13 = .ok (.aload_n 0, 1) := by decide +kernel
theorem dX6_runners_14 : decode cX6_runners 14 = .ok (.iload_n 2, 1) := by decide +kernel
theorem dX6_runners_15 : decode cX6_runners 15 = .ok (.invokestatic 60, 3) := by decide +kernel
theorem dX6_runners_18 : decode cX6_runners 18 = .ok (.ifCond .eq 7, 3) := by decide +kernel
theorem dX6_runners_21 : decode cX6_runners 21 = .ok (.iconst 1, 1) := by decide +kernel
theorem dX6_runners_22 : decode cX6_runners 22 = .ok (.goto 4, 3) := by decide +kernel
theorem dX6_runners_25 : decode cX6_runners 25 = .ok (.iconst 0, 1) := by decide +kernel
theorem dX6_runners_26 : decode cX6_runners 26 = .ok (.iadd, 1) := by decide +kernel
theorem dX6_runners_27 : decode cX6_runners 27 = .ok (.istore_n 1, 1) := by decide +kernel
theorem dX6_runners_28 : decode cX6_runners 28 = .ok (.iinc 2 1, 3) := by decide +kernel
theorem dX6_runners_31 : decode cX6_runners 31 = .ok (.goto (-27), 3) := by decide +kernel
theorem dX6_runners_34 : decode cX6_runners 34 = .ok (.iload_n 1, 1) := by decide +kernel
theorem dX6_runners_35 : decode cX6_runners 35 = .ok (.ireturn, 1) := by decide +kernel
set_option maxRecDepth 20000 in
theorem ggX6_waiting_X6_isToRun : GoodIn wsX6_waiting wsX6_isToRun := goodIn_r _ [4, 5, 6, 3, 7, 8, 9, 10] (by decide +kernel) (by decide +kernel)
set_option maxRecDepth 20000 in
theorem gX6_waiting_X6_isToRun : GoodIn wsX6_waiting (va_wsS RX6 75 yX6_isToRun wsX6_isToRun) := goodIn_app (goodIn_of _ (by decide +kernel)) ggX6_waiting_X6_isToRun
theorem dX6_waiting_0 : decode cX6_waiting 0 = .ok (.iconst 0, 1) := by decide +kernel
theorem dX6_waiting_1 : decode cX6_waiting 1 = .ok (.istore_n 1, 1) := by decide +kernel
theorem dX6_waiting_2 : decode cX6_waiting 2 = .ok (.iconst 0, 1) := by decide +kernel
theorem dX6_waiting_3 : decode cX6_waiting 3 = .ok (.istore_n 2, 1) := by decide +kernel
theorem dX6_waiting_4 : decode cX6_waiting 4 = .ok (.iload_n 2, 1) := by decide +kernel
theorem dX6_waiting_5 : decode cX6_waiting 5 = .ok (.aload_n 0, 1) := by decide +kernel
theorem dX6_waiting_6 : decode cX6_waiting 6 = .ok (.bipush 7, 2) := by decide +kernel
theorem dX6_waiting_8 : decode cX6_waiting 8 = .ok (.iaload, 1) := by decide +kernel
theorem dX6_waiting_9 : decode cX6_waiting 9 = .ok (.if_icmp .ge 25, 3) := by decide +kernel
theorem dX6_waiting_12 : decode cX6_waiting 12 = .ok (.iload_n 1, 1) := by decide +kernel
theorem dX6_waiting_13 : decode cX6_waiting 13 = .ok (.aload_n 0, 1) := by decide +kernel
theorem dX6_waiting_14 : decode cX6_waiting 14 = .ok (.iload_n 2, 1) := by decide +kernel
theorem dX6_waiting_15 : decode cX6_waiting 15 = .ok (.invokestatic 75, 3) := by decide +kernel
theorem dX6_waiting_18 : decode cX6_waiting 18 = .ok (.ifCond .eq 7, 3) := by decide +kernel
theorem dX6_waiting_21 : decode cX6_waiting 21 = .ok (.iconst 1, 1) := by decide +kernel
theorem dX6_waiting_22 : decode cX6_waiting 22 = .ok (.goto 4, 3) := by decide +kernel
theorem dX6_waiting_25 : decode cX6_waiting 25 = .ok (.iconst 0, 1) := by decide +kernel
theorem dX6_waiting_26 : decode cX6_waiting 26 = .ok (.iadd, 1) := by decide +kernel
theorem dX6_waiting_27 : decode cX6_waiting 27 = .ok (.istore_n 1, 1) := by decide +kernel
theorem dX6_waiting_28 : decode cX6_waiting 28 = .ok (.iinc 2 1, 3) := by decide +kernel
theorem dX6_waiting_31 : decode cX6_waiting 31 = .ok (.goto (-27), 3) := by decide +kernel
theorem dX6_waiting_34 : decode cX6_waiting 34 = .ok (.iload_n 1, 1) := by decide +kernel
theorem dX6_waiting_35 : decode cX6_waiting 35 = .ok (.ireturn, 1) := by decide +kernel
theorem dX6_isInRow_0 : decode cX6_isInRow 0 = .ok (.iconst 0, 1) := by decide +kernel
theorem dX6_isInRow_1 : decode cX6_isInRow 1 = .ok (.istore_n 2, 1) := by decide +kernel
theorem dX6_isInRow_2 : decode cX6_isInRow 2 = .ok (.iconst 0, 1) := by decide +kernel
theorem dX6_isInRow_3 : decode cX6_isInRow 3 = .ok (.istore_n 3, 1) := by decide +kernel
theorem dX6_isInRow_4 : decode cX6_isInRow 4 = .ok (.iload_n 3, 1) := by decide +kernel
theorem dX6_isInRow_5 : decode cX6_isInRow 5 = .ok (.aload_n 0, 1) := by decide +kernel
theorem dX6_isInRow_6 : decode cX6_isInRow 6 = .ok (.getfield 78, 3) := by decide +kernel
theorem dX6_isInRow_9 : decode cX6_isInRow 9 = .ok (.if_icmp .ge 27, 3) := by decide +kernel
theorem dX6_isInRow_12 : decode cX6_isInRow 12 = .ok (.iload_n 2, 1) := by decide +kernel
theorem dX6_isInRow_13 : decode cX6_isInRow 13 = .ok (.aload_n 0, 1) := by decide +kernel
theorem dX6_isInRow_14 : decode cX6_isInRow 14 = .ok (.getfield 32, 3) := by decide +kernel
theorem dX6_isInRow_17 : decode cX6_isInRow 17 = .ok (.iload_n 3, 1) := by decide +kernel
theorem dX6_isInRow_18 : decode cX6_isInRow 18 = .ok (.iaload, 1) := by decide +kernel
theorem dX6_isInRow_19 : decode cX6_isInRow 19 = .ok (.iload_n 1, 1) := by decide +kernel
theorem dX6_isInRow_20 : decode cX6_isInRow 20 = .ok (.if_icmp .ne 7, 3) := by decide +kernel
theorem dX6_isInRow_23 : decode cX6_isInRow 23 = .ok (.iconst 1, 1) := by decide +kernel
theorem dX6_isInRow_24 : decode cX6_isInRow 24 = .ok (.goto 4, 3) := by decide +kernel
theorem dX6_isInRow_27 : decode cX6_isInRow 27 = .ok (.iconst 0, 1) := by decide +kernel
theorem dX6_isInRow_28 : decode cX6_isInRow 28 = .ok (.ior, 1) := by decide +kernel
theorem dX6_isInRow_29 : decode cX6_isInRow 29 = .ok (.istore_n 2, 1) := by decide +kernel
theorem dX6_isInRow_30 : decode cX6_isInRow 30 = .ok (.iinc 3 1, 3) := by decide +kernel
theorem dX6_isInRow_33 : decode cX6_isInRow 33 = .ok (.goto (-29), 3) := by decide +kernel
theorem dX6_isInRow_36 : decode cX6_isInRow 36 = .ok (.iload_n 2, 1) := by decide +kernel
theorem dX6_isInRow_37 : decode cX6_isInRow 37 = .ok (.ireturn, 1) := by decide +kernel
set_option maxRecDepth 20000 in
theorem ggX6_nextOf_X6_stateOf : GoodIn wsX6_nextOf wsX6_stateOf := goodIn_r _ [4, 5, 6, 3, 7] (by decide +kernel) (by decide +kernel)
set_option maxRecDepth 20000 in
theorem gX6_nextOf_X6_stateOf : GoodIn wsX6_nextOf (va_wsS RX6 47 yX6_stateOf wsX6_stateOf) := goodIn_app (goodIn_of _ (by decide +kernel)) ggX6_nextOf_X6_stateOf
set_option maxRecDepth 20000 in
theorem ggX6_nextOf_X6_isInRow : GoodIn wsX6_nextOf wsX6_isInRow := goodIn_r _ [11, 12, 13, 14, 15, 16, 17, 18, 19, 20, 21, 22, 23, 24, 25, 26] (by decide +kernel) (by decide +kernel)
set_option maxRecDepth 20000 in
theorem gX6_nextOf_X6_isInRow : GoodIn wsX6_nextOf (wsV RX6 81 RX6 yX6_isInRow wsX6_isInRow) := goodIn_app (goodIn_of _ (by decide +kernel)) ggX6_nextOf_X6_isInRow
set_option maxRecDepth 20000 in
theorem ggX6_nextOf_X6_dogAt : GoodIn wsX6_nextOf wsX6_dogAt := goodIn_r _ [7] (by decide +kernel) (by decide +kernel)
set_option maxRecDepth 20000 in
theorem gX6_nextOf_X6_dogAt : GoodIn wsX6_nextOf (va_wsS RX6 43 yX6_dogAt wsX6_dogAt) := goodIn_app (goodIn_of _ (by decide +kernel)) ggX6_nextOf_X6_dogAt
theorem dX6_nextOf_0 : decode cX6_nextOf 0 = .ok (.bipush (-9), 2) := by decide +kernel
theorem dX6_nextOf_2 : decode cX6_nextOf 2 = .ok (.istore 4, 2) := by decide +kernel
theorem dX6_nextOf_4 : decode cX6_nextOf 4 = .ok (.bipush (-9), 2) := by decide +kernel
theorem dX6_nextOf_6 : decode cX6_nextOf 6 = .ok (.istore 5, 2) := by decide +kernel
theorem dX6_nextOf_8 : decode cX6_nextOf 8 = .ok (.iconst 0, 1) := by decide +kernel
theorem dX6_nextOf_9 : decode cX6_nextOf 9 = .ok (.istore 6, 2) := by decide +kernel
theorem dX6_nextOf_11 : decode cX6_nextOf 11 = .ok (.iload 6, 2) := by decide +kernel
theorem dX6_nextOf_13 : decode cX6_nextOf 13 = .ok (.aload_n 1, 1) := by decide +kernel
theorem dX6_nextOf_14 : decode cX6_nextOf 14 = .ok (.bipush 7, 2) := by decide +kernel
theorem dX6_nextOf_16 : decode cX6_nextOf 16 = .ok (.iaload, 1) := by decide +kernel
theorem dX6_nextOf_17 : decode cX6_nextOf 17 = .ok (.if_icmp .ge 100, 3) := by decide +kernel
theorem dX6_nextOf_20 : decode cX6_nextOf 20 = .ok (.aload_n 1, 1) := by decide +kernel
theorem dX6_nextOf_21 : decode cX6_nextOf 21 = .ok (.iload 6, 2) := by decide +kernel
theorem dX6_nextOf_23 : decode cX6_nextOf 23 = .ok (.invokestatic 47, 3) := by decide +kernel
theorem dX6_nextOf_26 : decode cX6_nextOf 26 = .ok (.iload_n 2, 1) := by decide +kernel
theorem dX6_nextOf_27 : decode cX6_nextOf 27 = .ok (.if_icmp .ne 84, 3) := by decide +kernel
theorem dX6_nextOf_30 : decode cX6_nextOf 30 = .ok (.aload_n 0, 1) := by decide +kernel
theorem dX6_nextOf_31 : decode cX6_nextOf 31 = .ok (.iload 6, 2) := by decide +kernel
theorem dX6_nextOf_33 : decode cX6_nextOf 33 = .ok (.invokevirtual 81, 3) := by decide +kernel
theorem dX6_nextOf_36 : decode cX6_nextOf 36 = .ok (.ifCond .ne 75, 3) := by decide +kernel
theorem dX6_nextOf_39 : decode cX6_nextOf 39 = .ok (.aload_n 1, 1) := by decide +kernel
theorem dX6_nextOf_40 : decode cX6_nextOf 40 = .ok (.iload 6, 2) := by decide +kernel
theorem dX6_nextOf_42 : decode cX6_nextOf 42 = .ok (.invokestatic 43, 3) := by decide +kernel
theorem dX6_nextOf_45 : decode cX6_nextOf 45 = .ok (.iconst 1, 1) := by decide +kernel
theorem dX6_nextOf_46 : decode cX6_nextOf 46 = .ok (.iadd, 1) := by decide +kernel
theorem dX6_nextOf_47 : decode cX6_nextOf 47 = .ok (.iaload, 1) := by decide +kernel
theorem dX6_nextOf_48 : decode cX6_nextOf 48 = .ok (.istore 7, 2) := by decide +kernel
theorem dX6_nextOf_50 : decode cX6_nextOf 50 = .ok (.iload 5, 2) := by decide +kernel
theorem dX6_nextOf_52 : decode cX6_nextOf 52 = .ok (.bipush (-9), 2) := by decide +kernel
theorem dX6_nextOf_54 : decode cX6_nextOf 54 = .ok (.if_icmp .eq 17, 3) := by decide +kernel
theorem dX6_nextOf_57 : decode cX6_nextOf 57 = .ok (.iload 7, 2) := by decide +kernel
theorem dX6_nextOf_59 : decode cX6_nextOf 59 = .ok (.aload_n 1, 1) := by decide +kernel
theorem dX6_nextOf_60 : decode cX6_nextOf 60 = .ok (.iload 5, 2) := by decide +kernel
theorem dX6_nextOf_62 : decode cX6_nextOf 62 = .ok (.invokestatic 43, 3) := by decide +kernel
theorem dX6_nextOf_65 : decode cX6_nextOf 65 = .ok (.iconst 1, 1) := by decide +kernel
theorem dX6_nextOf_66 : decode cX6_nextOf 66 = .ok (.iadd, 1) := by decide +kernel
theorem dX6_nextOf_67 : decode cX6_nextOf 67 = .ok (.iaload, 1) := by decide +kernel
theorem dX6_nextOf_68 : decode cX6_nextOf 68 = .ok (.if_icmp .ge 7, 3) := by decide +kernel
theorem dX6_nextOf_71 : decode cX6_nextOf 71 = .ok (.iload 6, 2) := by decide +kernel
theorem dX6_nextOf_73 : decode cX6_nextOf 73 = .ok (.istore 5, 2) := by decide +kernel
theorem dX6_nextOf_75 : decode cX6_nextOf 75 = .ok (.aload_n 1, 1) := by decide +kernel
theorem dX6_nextOf_76 : decode cX6_nextOf 76 = .ok (.iload 6, 2) := by decide +kernel
theorem dX6_nextOf_78 : decode cX6_nextOf 78 = .ok (.invokestatic 43, 3) := by decide +kernel
theorem dX6_nextOf_81 : decode cX6_nextOf 81 = .ok (.iaload, 1) := by decide +kernel
theorem dX6_nextOf_82 : decode cX6_nextOf 82 = .ok (.iload_n 3, 1) := by decide +kernel
theorem dX6_nextOf_83 : decode cX6_nextOf 83 = .ok (.if_icmp .eq 28, 3) := by decide +kernel
theorem dX6_nextOf_86 : decode cX6_nextOf 86 = .ok (.iload 4, 2) := by decide +kernel
theorem dX6_nextOf_88 : decode cX6_nextOf 88 = .ok (.bipush (-9), 2) := by decide +kernel
theorem dX6_nextOf_90 : decode cX6_nextOf 90 = .ok (.if_icmp .eq 17, 3) := by decide +kernel
theorem dX6_nextOf_93 : decode cX6_nextOf 93 = .ok (.iload 7, 2) := by decide +kernel
theorem dX6_nextOf_95 : decode cX6_nextOf 95 = .ok (.aload_n 1, 1) := by decide +kernel
theorem dX6_nextOf_96 : decode cX6_nextOf 96 = .ok (.iload 4, 2) := by decide +kernel
theorem dX6_nextOf_98 : decode cX6_nextOf 98 = .ok (.invokestatic 43, 3) := by decide +kernel
theorem dX6_nextOf_101 : decode cX6_nextOf 101 = .ok (.iconst 1, 1) := by decide +kernel
theorem dX6_nextOf_102 : decode cX6_nextOf 102 = .ok (.iadd, 1) := by decide +kernel
theorem dX6_nextOf_103 : decode cX6_nextOf 103 = .ok (.iaload, 1) := by decide +kernel
theorem dX6_nextOf_104 : decode cX6_nextOf 104 = .ok (.if_icmp .ge 7, 3) := by decide +kernel
theorem dX6_nextOf_107 : decode cX6_nextOf 107 = .ok (.iload 6, 2) := by decide +kernel
theorem dX6_nextOf_109 : decode cX6_nextOf 109 = .ok (.istore 4, 2) := by decide +kernel
theorem dX6_nextOf_111 : decode cX6_nextOf 111 = .ok (.iinc 6 1, 3) := by decide +kernel
theorem dX6_nextOf_114 : decode cX6_nextOf 114 = .ok (.goto (-103), 3) := by decide +kernel
theorem dX6_nextOf_117 : decode cX6_nextOf 117 = .ok (.iload 4, 2) := by decide +kernel
theorem dX6_nextOf_119 : decode cX6_nextOf 119 = .ok (.bipush (-9), 2) := by decide +kernel
theorem dX6_nextOf_121 : decode cX6_nextOf 121 = .ok (.if_icmp .ne 8, 3) := by decide +kernel
theorem dX6_nextOf_124 : decode cX6_nextOf 124 = .ok (.iload 5, 2) := by decide +kernel
theorem dX6_nextOf_126 : decode cX6_nextOf 126 = .ok (.goto 5, 3) := by decide +kernel
theorem dX6_nextOf_129 : decode cX6_nextOf 129 = .ok (.iload 4, 2) := by decide +kernel
theorem dX6_nextOf_131 : decode cX6_nextOf 131 = .ok (.ireturn, 1) := by decide +kernel
set_option maxRecDepth 20000 in
theorem ggX6_layRow_X6_dogAt : GoodIn wsX6_layRow wsX6_dogAt := goodIn_r _ [6] (by decide +kernel) (by decide +kernel)
set_option maxRecDepth 20000 in
theorem gX6_layRow_X6_dogAt : GoodIn wsX6_layRow (va_wsS RX6 43 yX6_dogAt wsX6_dogAt) := goodIn_app (goodIn_of _ (by decide +kernel)) ggX6_layRow_X6_dogAt
set_option maxRecDepth 20000 in
theorem ggX6_layRow_X6_nextOf : GoodIn wsX6_layRow wsX6_nextOf := goodIn_r _ [10, 11, 12, 5, 13, 3, 4, 6, 14, 15, 16, 17, 1, 2, 18, 19, 20, 21, 22, 23, 24, 25, 26, 27, 28, 29, 30] (by decide +kernel) (by decide +kernel)
set_option maxRecDepth 20000 in
theorem gX6_layRow_X6_nextOf : GoodIn wsX6_layRow (wsV RX6 85 RX6 yX6_nextOf wsX6_nextOf) := goodIn_app (goodIn_of _ (by decide +kernel)) ggX6_layRow_X6_nextOf
theorem dX6_layRow_0 : decode cX6_layRow 0 = .ok (.aload_n 0, 1) := by decide +kernel
theorem dX6_layRow_1 : decode cX6_layRow 1 = .ok (.iconst 0, 1) := by decide +kernel
theorem dX6_layRow_2 : decode cX6_layRow 2 = .ok (.putfield 78, 3) := by decide +kernel
theorem dX6_layRow_5 : decode cX6_layRow 5 = .ok (.aload_n 1, 1) := by decide +kernel
theorem dX6_layRow_6 : decode cX6_layRow 6 = .ok (.iconst 3, 1) := by decide +kernel
theorem dX6_layRow_7 : decode cX6_layRow 7 = .ok (.iaload, 1) := by decide +kernel
theorem dX6_layRow_8 : decode cX6_layRow 8 = .ok (.bipush (-9), 2) := by decide +kernel
theorem dX6_layRow_10 : decode cX6_layRow 10 = .ok (.if_icmp .ne 8, 3) := by decide +kernel
theorem dX6_layRow_13 : decode cX6_layRow 13 = .ok (.bipush (-9), 2) := by decide +kernel
theorem dX6_layRow_15 : decode cX6_layRow 15 = .ok (.goto 11, 3) := by decide +kernel
theorem dX6_layRow_18 : decode cX6_layRow 18 = .ok (.aload_n 1, 1) := by decide +kernel
theorem dX6_layRow_19 : decode cX6_layRow 19 = .ok (.aload_n 1, 1) := by decide +kernel
theorem dX6_layRow_20 : decode cX6_layRow 20 = .ok (.iconst 3, 1) := by decide +kernel
theorem dX6_layRow_21 : decode cX6_layRow 21 = .ok (.iaload, 1) := by decide +kernel
theorem dX6_layRow_22 : decode cX6_layRow 22 = .ok (.invokestatic 43, 3) := by decide +kernel
theorem dX6_layRow_25 : decode cX6_layRow 25 = .ok (.iaload, 1) := by decide +kernel
theorem dX6_layRow_26 : decode cX6_layRow 26 = .ok (.istore_n 2, 1) := by decide +kernel
theorem dX6_layRow_27 : decode cX6_layRow 27 = .ok (.iconst 0, 1) := by decide +kernel
theorem dX6_layRow_28 : decode cX6_layRow 28 = .ok (.istore_n 3, 1) := by decide +kernel
theorem dX6_layRow_29 : decode cX6_layRow 29 = .ok (.iload_n 3, 1) := by decide +kernel
theorem dX6_layRow_30 : decode cX6_layRow 30 = .ok (.iconst 2, 1) := by decide +kernel
theorem dX6_layRow_31 : decode cX6_layRow 31 = .ok (.if_icmp .gt 66, 3) := by decide +kernel
theorem dX6_layRow_34 : decode cX6_layRow 34 = .ok (.aload_n 0, 1) := by decide +kernel
theorem dX6_layRow_35 : decode cX6_layRow 35 = .ok (.aload_n 1, 1) := by decide +kernel
theorem dX6_layRow_36 : decode cX6_layRow 36 = .ok (.iload_n 3, 1) := by decide +kernel
theorem dX6_layRow_37 : decode cX6_layRow 37 = .ok (.iload_n 2, 1) := by decide +kernel
theorem dX6_layRow_38 : decode cX6_layRow 38 = .ok (.invokevirtual 85, 3) := by decide +kernel
theorem dX6_layRow_41 : decode cX6_layRow 41 = .ok (.istore 4, 2) := by decide +kernel
theorem dX6_layRow_43 : decode cX6_layRow 43 = .ok (.iload 4, 2) := by decide +kernel
theorem dX6_layRow_45 : decode cX6_layRow 45 = .ok (.bipush (-9), 2) := by decide +kernel
theorem dX6_layRow_47 : decode cX6_layRow 47 = .ok (.if_icmp .eq 44, 3) := by decide +kernel
theorem dX6_layRow_50 : decode cX6_layRow 50 = .ok (.aload_n 0, 1) := by decide +kernel
theorem dX6_layRow_51 : decode cX6_layRow 51 = .ok (.getfield 32, 3) := by decide +kernel
theorem dX6_layRow_54 : decode cX6_layRow 54 = .ok (.aload_n 0, 1) := by decide +kernel
theorem dX6_layRow_55 : decode cX6_layRow 55 = .ok (.getfield 78, 3) := by decide +kernel
theorem dX6_layRow_58 : decode cX6_layRow 58 = .ok (.iload 4, 2) := by decide +kernel
theorem dX6_layRow_60 : decode cX6_layRow 60 = .ok (.iastore, 1) := by decide +kernel
theorem dX6_layRow_61 : decode cX6_layRow 61 = .ok (.aload_n 0, 1) := by decide +kernel
theorem dX6_layRow_62 : decode cX6_layRow 62 = .ok (.dup, 1) := by decide +kernel
theorem dX6_layRow_63 : decode cX6_layRow 63 = .ok (.getfield 78, 3) := by decide +kernel
theorem dX6_layRow_66 : decode cX6_layRow 66 = .ok (.iconst 1, 1) := by decide +kernel
theorem dX6_layRow_67 : decode cX6_layRow 67 = .ok (.iadd, 1) := by decide +kernel
theorem dX6_layRow_68 : decode cX6_layRow 68 = .ok (.putfield 78, 3) := by decide +kernel
theorem dX6_layRow_71 : decode cX6_layRow 71 = .ok (.aload_n 1, 1) := by decide +kernel
theorem dX6_layRow_72 : decode cX6_layRow 72 = .ok (.iload 4, 2) := by decide +kernel
theorem dX6_layRow_74 : decode cX6_layRow 74 = .ok (.invokestatic 43, 3) := by decide +kernel
theorem dX6_layRow_77 : decode cX6_layRow 77 = .ok (.iaload, 1) := by decide +kernel
theorem dX6_layRow_78 : decode cX6_layRow 78 = .ok (.istore_n 2, 1) := by decide +kernel
theorem dX6_layRow_79 : decode cX6_layRow 79 = .ok (.aload_n 0, 1) := by decide +kernel
theorem dX6_layRow_80 : decode cX6_layRow 80 = .ok (.aload_n 1, 1) := by decide +kernel
theorem dX6_layRow_81 : decode cX6_layRow 81 = .ok (.iload_n 3, 1) := by decide +kernel
theorem dX6_layRow_82 : decode cX6_layRow 82 = .ok (.iload_n 2, 1) := by decide +kernel
theorem dX6_layRow_83 : decode cX6_layRow 83 = .ok (.invokevirtual 85, 3) := by decide +kernel
theorem dX6_layRow_86 : decode cX6_layRow 86 = .ok (.istore 4, 2) := by decide +kernel
theorem dX6_layRow_88 : decode cX6_layRow 88 = .ok (.goto (-45), 3) := by decide +kernel
theorem dX6_layRow_91 : decode cX6_layRow 91 = .ok (.iinc 3 2, 3) := by decide +kernel
theorem dX6_layRow_94 : decode cX6_layRow 94 = .ok (.goto (-65), 3) := by decide +kernel
theorem dX6_layRow_97 : decode cX6_layRow 97 = .ok (.return_, 1) := by decide +kernel
set_option maxRecDepth 20000 in
theorem ggX6_firstOf_X6_layRow : GoodIn wsX6_firstOf wsX6_layRow := goodIn_r _ [7, 1, 2, 8, 9, 6, 10, 11, 12, 13, 14, 15, 16, 17, 18, 19, 20, 21, 22, 23, 24, 25, 26, 27, 28, 29, 30, 31, 32, 33, 34] (by decide +kernel) (by decide +kernel)
set_option maxRecDepth 20000 in
theorem gX6_firstOf_X6_layRow : GoodIn wsX6_firstOf (wsV RX6 88 RX6 yX6_layRow wsX6_layRow) := goodIn_app (goodIn_of _ (by decide +kernel)) ggX6_firstOf_X6_layRow
theorem dX6_firstOf_0 : decode cX6_firstOf 0 = .ok (.aload_n 0, 1) := by decide +kernel
theorem dX6_firstOf_1 : decode cX6_firstOf 1 = .ok (.aload_n 1, 1) := by decide +kernel
theorem dX6_firstOf_2 : decode cX6_firstOf 2 = .ok (.invokevirtual 88, 3) := by decide +kernel
theorem dX6_firstOf_5 : decode cX6_firstOf 5 = .ok (.aload_n 0, 1) := by decide +kernel
theorem dX6_firstOf_6 : decode cX6_firstOf 6 = .ok (.getfield 78, 3) := by decide +kernel
theorem dX6_firstOf_9 : decode cX6_firstOf 9 = .ok (.ifCond .ne 8, 3) := by decide +kernel
theorem dX6_firstOf_12 : decode cX6_firstOf 12 = .ok (.bipush (-9), 2) := by decide +kernel
theorem dX6_firstOf_14 : decode cX6_firstOf 14 = .ok (.goto 9, 3) := by decide +kernel
theorem dX6_firstOf_17 : decode cX6_firstOf 17 = .ok (.aload_n 0, 1) := by decide +kernel
theorem dX6_firstOf_18 : decode cX6_firstOf 18 = .ok (.getfield 32, 3) := by decide +kernel
theorem dX6_firstOf_21 : decode cX6_firstOf 21 = .ok (.iconst 0, 1) := by decide +kernel
theorem dX6_firstOf_22 : decode cX6_firstOf 22 = .ok (.iaload, 1) := by decide +kernel
theorem dX6_firstOf_23 : decode cX6_firstOf 23 = .ok (.ireturn, 1) := by decide +kernel
set_option maxRecDepth 20000 in
theorem ggX6_why_X6_waiting : GoodIn wsX6_why wsX6_waiting := goodIn_r _ [4, 5, 6, 3, 7, 8, 9, 10, 11, 12, 13] (by decide +kernel) (by decide +kernel)
set_option maxRecDepth 20000 in
theorem gX6_why_X6_waiting : GoodIn wsX6_why (va_wsS RX6 91 yX6_waiting wsX6_waiting) := goodIn_app (goodIn_of _ (by decide +kernel)) ggX6_why_X6_waiting
theorem dX6_why_0 : decode cX6_why 0 = .ok (.aload_n 0, 1) := by decide +kernel
theorem dX6_why_1 : decode cX6_why 1 = .ok (.invokestatic 91, 3) := by decide +kernel
theorem dX6_why_4 : decode cX6_why 4 = .ok (.ifCond .ne 7, 3) := by decide +kernel
theorem dX6_why_7 : decode cX6_why 7 = .ok (.iconst 1, 1) := by decide +kernel
theorem dX6_why_8 : decode cX6_why 8 = .ok (.goto 17, 3) := by decide +kernel
theorem dX6_why_11 : decode cX6_why 11 = .ok (.aload_n 0, 1) := by decide +kernel
theorem dX6_why_12 : decode cX6_why 12 = .ok (.iconst 1, 1) := by decide +kernel
theorem dX6_why_13 : decode cX6_why 13 = .ok (.iaload, 1) := by decide +kernel
theorem dX6_why_14 : decode cX6_why 14 = .ok (.aload_n 0, 1) := by decide +kernel
theorem dX6_why_15 : decode cX6_why 15 = .ok (.iconst 2, 1) := by decide +kernel
theorem dX6_why_16 : decode cX6_why 16 = .ok (.iaload, 1) := by decide +kernel
theorem dX6_why_17 : decode cX6_why 17 = .ok (.if_icmp .ne 7, 3) := by decide +kernel
theorem dX6_why_20 : decode cX6_why 20 = .ok (.iconst 2, 1) := by decide +kernel
theorem dX6_why_21 : decode cX6_why 21 = .ok (.goto 4, 3) := by decide +kernel
theorem dX6_why_24 : decode cX6_why 24 = .ok (.iconst 0, 1) := by decide +kernel
theorem dX6_why_25 : decode cX6_why 25 = .ok (.ireturn, 1) := by decide +kernel
set_option maxRecDepth 20000 in
theorem ggX6_enterOn_X6_dogAt : GoodIn wsX6_enterOn wsX6_dogAt := goodIn_r _ [4] (by decide +kernel) (by decide +kernel)
set_option maxRecDepth 20000 in
theorem gX6_enterOn_X6_dogAt : GoodIn wsX6_enterOn (va_wsS RX6 43 yX6_dogAt wsX6_dogAt) := goodIn_app (goodIn_of _ (by decide +kernel)) ggX6_enterOn_X6_dogAt
theorem dX6_enterOn_0 : decode cX6_enterOn 0 = .ok (.aload_n 0, 1) := by decide +kernel
theorem dX6_enterOn_1 : decode cX6_enterOn 1 = .ok (.bipush 7, 2) := by decide +kernel
theorem dX6_enterOn_3 : decode cX6_enterOn 3 = .ok (.iaload, 1) := by decide +kernel
theorem dX6_enterOn_4 : decode cX6_enterOn 4 = .ok (.invokestatic 43, 3) := by decide +kernel
theorem dX6_enterOn_7 : decode cX6_enterOn 7 = .ok (.istore_n 3, 1) := by decide +kernel
theorem dX6_enterOn_8 : decode cX6_enterOn 8 = .ok (.iconst 0, 1) := by decide +kernel
theorem dX6_enterOn_9 : decode cX6_enterOn 9 = .ok (.istore 4, 2) := by decide +kernel
theorem dX6_enterOn_11 : decode cX6_enterOn 11 = .ok (.iload 4, 2) := by decide +kernel
theorem dX6_enterOn_13 : decode cX6_enterOn 13 = .ok (.bipush 11, 2) := by decide +kernel
theorem dX6_enterOn_15 : decode cX6_enterOn 15 = .ok (.if_icmp .ge 16, 3) := by decide +kernel
theorem dX6_enterOn_18 : decode cX6_enterOn 18 = .ok (.aload_n 0, 1) := by decide +kernel
theorem dX6_enterOn_19 : decode cX6_enterOn 19 = .ok (.iload_n 3, 1) := by decide +kernel
theorem dX6_enterOn_20 : decode cX6_enterOn 20 = .ok (.iload 4, 2) := by decide +kernel
theorem dX6_enterOn_22 : decode cX6_enterOn 22 = .ok (.iadd, 1) := by decide +kernel
theorem dX6_enterOn_23 : decode cX6_enterOn 23 = .ok (.iconst 0, 1) := by decide +kernel
theorem dX6_enterOn_24 : decode cX6_enterOn 24 = .ok (.iastore, 1) := by decide +kernel
theorem dX6_enterOn_25 : decode cX6_enterOn 25 = .ok (.iinc 4 1, 3) := by decide +kernel
theorem dX6_enterOn_28 : decode cX6_enterOn 28 = .ok (.goto (-17), 3) := by decide +kernel
theorem dX6_enterOn_31 : decode cX6_enterOn 31 = .ok (.aload_n 0, 1) := by decide +kernel
theorem dX6_enterOn_32 : decode cX6_enterOn 32 = .ok (.iload_n 3, 1) := by decide +kernel
theorem dX6_enterOn_33 : decode cX6_enterOn 33 = .ok (.iload_n 1, 1) := by decide +kernel
theorem dX6_enterOn_34 : decode cX6_enterOn 34 = .ok (.iastore, 1) := by decide +kernel
theorem dX6_enterOn_35 : decode cX6_enterOn 35 = .ok (.aload_n 0, 1) := by decide +kernel
theorem dX6_enterOn_36 : decode cX6_enterOn 36 = .ok (.iload_n 3, 1) := by decide +kernel
theorem dX6_enterOn_37 : decode cX6_enterOn 37 = .ok (.iconst 1, 1) := by decide +kernel
theorem dX6_enterOn_38 : decode cX6_enterOn 38 = .ok (.iadd, 1) := by decide +kernel
theorem dX6_enterOn_39 : decode cX6_enterOn 39 = .ok (.iload_n 2, 1) := by decide +kernel
theorem dX6_enterOn_40 : decode cX6_enterOn 40 = .ok (.iastore, 1) := by decide +kernel
theorem dX6_enterOn_41 : decode cX6_enterOn 41 = .ok (.aload_n 0, 1) := by decide +kernel
theorem dX6_enterOn_42 : decode cX6_enterOn 42 = .ok (.iload_n 3, 1) := by decide +kernel
theorem dX6_enterOn_43 : decode cX6_enterOn 43 = .ok (.iconst 4, 1) := by decide +kernel
theorem dX6_enterOn_44 : decode cX6_enterOn 44 = .ok (.iadd, 1) := by decide +kernel
theorem dX6_enterOn_45 : decode cX6_enterOn 45 = .ok (.bipush 6, 2) := by decide +kernel
theorem dX6_enterOn_47 : decode cX6_enterOn 47 = .ok (.iastore, 1) := by decide +kernel
theorem dX6_enterOn_48 : decode cX6_enterOn 48 = .ok (.aload_n 0, 1) := by decide +kernel
theorem dX6_enterOn_49 : decode cX6_enterOn 49 = .ok (.bipush 7, 2) := by decide +kernel
theorem dX6_enterOn_51 : decode cX6_enterOn 51 = .ok (.dup2, 1) := by decide +kernel
theorem dX6_enterOn_52 : decode cX6_enterOn 52 = .ok (.iaload, 1) := by decide +kernel
theorem dX6_enterOn_53 : decode cX6_enterOn 53 = .ok (.iconst 1, 1) := by decide +kernel
theorem dX6_enterOn_54 : decode cX6_enterOn 54 = .ok (.iadd, 1) := by decide +kernel
theorem dX6_enterOn_55 : decode cX6_enterOn 55 = .ok (.iastore, 1) := by decide +kernel
theorem dX6_enterOn_56 : decode cX6_enterOn 56 = .ok (.return_, 1) := by decide +kernel
set_option maxRecDepth 20000 in
theorem ggX6_runOn_X6_dogAt : GoodIn wsX6_runOn wsX6_dogAt := goodIn_r _ [5] (by decide +kernel) (by decide +kernel)
set_option maxRecDepth 20000 in
theorem gX6_runOn_X6_dogAt : GoodIn wsX6_runOn (va_wsS RX6 43 yX6_dogAt wsX6_dogAt) := goodIn_app (goodIn_of _ (by decide +kernel)) ggX6_runOn_X6_dogAt
theorem dX6_runOn_0 : decode cX6_runOn 0 = .ok (.iload_n 1, 1) := by decide +kernel
theorem dX6_runOn_1 : decode cX6_runOn 1 = .ok (.invokestatic 43, 3) := by decide +kernel
theorem dX6_runOn_4 : decode cX6_runOn 4 = .ok (.istore 5, 2) := by decide +kernel
theorem dX6_runOn_6 : decode cX6_runOn 6 = .ok (.aload_n 0, 1) := by decide +kernel
theorem dX6_runOn_7 : decode cX6_runOn 7 = .ok (.iconst 3, 1) := by decide +kernel
theorem dX6_runOn_8 : decode cX6_runOn 8 = .ok (.iload_n 1, 1) := by decide +kernel
theorem dX6_runOn_9 : decode cX6_runOn 9 = .ok (.iastore, 1) := by decide +kernel
theorem dX6_runOn_10 : decode cX6_runOn 10 = .ok (.aload_n 0, 1) := by decide +kernel
theorem dX6_runOn_11 : decode cX6_runOn 11 = .ok (.iconst 1, 1) := by decide +kernel
theorem dX6_runOn_12 : decode cX6_runOn 12 = .ok (.iaload, 1) := by decide +kernel
theorem dX6_runOn_13 : decode cX6_runOn 13 = .ok (.iload 4, 2) := by decide +kernel
theorem dX6_runOn_15 : decode cX6_runOn 15 = .ok (.iadd, 1) := by decide +kernel
theorem dX6_runOn_16 : decode cX6_runOn 16 = .ok (.aload_n 0, 1) := by decide +kernel
theorem dX6_runOn_17 : decode cX6_runOn 17 = .ok (.iconst 2, 1) := by decide +kernel
theorem dX6_runOn_18 : decode cX6_runOn 18 = .ok (.iaload, 1) := by decide +kernel
theorem dX6_runOn_19 : decode cX6_runOn 19 = .ok (.if_icmp .le 18, 3) := by decide +kernel
theorem dX6_runOn_22 : decode cX6_runOn 22 = .ok (.aload_n 0, 1) := by decide +kernel
theorem dX6_runOn_23 : decode cX6_runOn 23 = .ok (.iconst 1, 1) := by decide +kernel
theorem dX6_runOn_24 : decode cX6_runOn 24 = .ok (.aload_n 0, 1) := by decide +kernel
theorem dX6_runOn_25 : decode cX6_runOn 25 = .ok (.iconst 2, 1) := by decide +kernel
theorem dX6_runOn_26 : decode cX6_runOn 26 = .ok (.iaload, 1) := by decide +kernel
theorem dX6_runOn_27 : decode cX6_runOn 27 = .ok (.iastore, 1) := by decide +kernel
theorem dX6_runOn_28 : decode cX6_runOn 28 = .ok (.aload_n 0, 1) := by decide +kernel
theorem dX6_runOn_29 : decode cX6_runOn 29 = .ok (.iconst 5, 1) := by decide +kernel
theorem dX6_runOn_30 : decode cX6_runOn 30 = .ok (.dup2, 1) := by decide +kernel
theorem dX6_runOn_31 : decode cX6_runOn 31 = .ok (.iaload, 1) := by decide +kernel
theorem dX6_runOn_32 : decode cX6_runOn 32 = .ok (.iconst 1, 1) := by decide +kernel
theorem dX6_runOn_33 : decode cX6_runOn 33 = .ok (.iadd, 1) := by decide +kernel
theorem dX6_runOn_34 : decode cX6_runOn 34 = .ok (.iastore, 1) := by decide +kernel
theorem dX6_runOn_35 : decode cX6_runOn 35 = .ok (.iconst 0, 1) := by decide +kernel
theorem dX6_runOn_36 : decode cX6_runOn 36 = .ok (.ireturn, 1) := by decide +kernel
theorem dX6_runOn_37 : decode cX6_runOn 37 = .ok (.aload_n 0, 1) := by decide +kernel
theorem dX6_runOn_38 : decode cX6_runOn 38 = .ok (.iconst 1, 1) := by decide +kernel
theorem dX6_runOn_39 : decode cX6_runOn 39 = .ok (.dup2, 1) := by decide +kernel
theorem dX6_runOn_40 : decode cX6_runOn 40 = .ok (.iaload, 1) := by decide +kernel
theorem dX6_runOn_41 : decode cX6_runOn 41 = .ok (.iload 4, 2) := by decide +kernel
theorem dX6_runOn_43 : decode cX6_runOn 43 = .ok (.iadd, 1) := by decide +kernel
theorem dX6_runOn_44 : decode cX6_runOn 44 = .ok (.iastore, 1) := by decide +kernel
theorem dX6_runOn_45 : decode cX6_runOn 45 = .ok (.aload_n 0, 1) := by decide +kernel
theorem dX6_runOn_46 : decode cX6_runOn 46 = .ok (.iconst 4, 1) := by decide +kernel
theorem dX6_runOn_47 : decode cX6_runOn 47 = .ok (.dup2, 1) := by decide +kernel
theorem dX6_runOn_48 : decode cX6_runOn 48 = .ok (.iaload, 1) := by decide +kernel
theorem dX6_runOn_49 : decode cX6_runOn 49 = .ok (.iconst 1, 1) := by decide +kernel
theorem dX6_runOn_50 : decode cX6_runOn 50 = .ok (.iadd, 1) := by decide +kernel
theorem dX6_runOn_51 : decode cX6_runOn 51 = .ok (.iastore, 1) := by decide +kernel
theorem dX6_runOn_52 : decode cX6_runOn 52 = .ok (.lload_n 2, 1) := by decide +kernel
theorem dX6_runOn_53 : decode cX6_runOn 53 = .ok (.lstore 6, 2) := by decide +kernel
theorem dX6_runOn_55 : decode cX6_runOn 55 = .ok (.aload_n 0, 1) := by decide +kernel
theorem dX6_runOn_56 : decode cX6_runOn 56 = .ok (.iload 5, 2) := by decide +kernel
theorem dX6_runOn_58 : decode cX6_runOn 58 = .ok (.iconst 2, 1) := by decide +kernel
theorem dX6_runOn_59 : decode cX6_runOn 59 = .ok (.iadd, 1) := by decide +kernel
theorem dX6_runOn_60 : decode cX6_runOn 60 = .ok (.iaload, 1) := by decide +kernel
theorem dX6_runOn_61 : decode cX6_runOn 61 = .ok (.iconst 2, 1) := by decide +kernel
theorem dX6_runOn_62 : decode cX6_runOn 62 = .ok (.if_icmp .ne 12, 3) := by decide +kernel
theorem dX6_runOn_65 : decode cX6_runOn 65 = .ok (.aload_n 0, 1) := by decide +kernel
theorem dX6_runOn_66 : decode cX6_runOn 66 = .ok (.iload 5, 2) := by decide +kernel
theorem dX6_runOn_68 : decode cX6_runOn 68 = .ok (.iconst 4, 1) := by decide +kernel
theorem dX6_runOn_69 : decode cX6_runOn 69 = .ok (.iadd, 1) := by decide +kernel
theorem dX6_runOn_70 : decode cX6_runOn 70 = .ok (.iaload, 1) := by decide +kernel
theorem dX6_runOn_71 : decode cX6_runOn 71 = .ok (.goto 4, 3) := by decide +kernel
theorem dX6_runOn_74 : decode cX6_runOn 74 = .ok (.iconst 0, 1) := by decide +kernel
theorem dX6_runOn_75 : decode cX6_runOn 75 = .ok (.istore 8, 2) := by decide +kernel
theorem dX6_runOn_77 : decode cX6_runOn 77 = .ok (.iconst 5, 1) := by decide +kernel
theorem dX6_runOn_78 : decode cX6_runOn 78 = .ok (.istore 9, 2) := by decide +kernel
theorem dX6_runOn_80 : decode cX6_runOn 80 = .ok (.iload 9, 2) := by decide +kernel
theorem dX6_runOn_82 : decode cX6_runOn 82 = .ok (.ifCond .lt 40, 3) := by decide +kernel
theorem dX6_runOn_85 : decode cX6_runOn 85 = .ok (.iload 9, 2) := by decide +kernel
theorem dX6_runOn_87 : decode cX6_runOn 87 = .ok (.iload 8, 2) := by decide +kernel
theorem dX6_runOn_89 : decode cX6_runOn 89 = .ok (.if_icmp .lt 19, 3) := by decide +kernel
theorem dX6_runOn_92 : decode cX6_runOn 92 = .ok (.aload_n 0, 1) := by decide +kernel
theorem dX6_runOn_93 : decode cX6_runOn 93 = .ok (.iload 5, 2) := by decide +kernel
theorem dX6_runOn_95 : decode cX6_runOn 95 = .ok (.iconst 5, 1) := by decide +kernel
theorem dX6_runOn_96 : decode cX6_runOn 96 = .ok (.iadd, 1) := by decide +kernel
theorem dX6_runOn_97 : decode cX6_runOn 97 = .ok (.iload 9, 2) := by decide +kernel
theorem dX6_runOn_99 : decode cX6_runOn 99 = .ok (.iadd, 1) := by decide +kernel
theorem dX6_runOn_100 : decode cX6_runOn 100 = .ok (.lload 6, 2) := by decide +kernel
theorem dX6_runOn_102 : decode cX6_runOn 102 = .ok (.ldc2_w 95, 3) := by decide +kernel
theorem dX6_runOn_105 : decode cX6_runOn 105 = .ok (.lrem, 1) := by decide +kernel
theorem dX6_runOn_106 : decode cX6_runOn 106 = .ok (.l2i, 1) := by decide +kernel
theorem dX6_runOn_107 : decode cX6_runOn 107 = .ok (.iastore, 1) := by decide +kernel
theorem dX6_runOn_108 : decode cX6_runOn 108 = .ok (.lload 6, 2) := by decide +kernel
theorem dX6_runOn_110 : decode cX6_runOn 110 = .ok (.ldc2_w 95, 3) := by decide +kernel
theorem dX6_runOn_113 : decode cX6_runOn 113 = .ok (.ldiv, 1) := by decide +kernel
theorem dX6_runOn_114 : decode cX6_runOn 114 = .ok (.lstore 6, 2) := by decide +kernel
theorem dX6_runOn_116 : decode cX6_runOn 116 = .ok (.iinc 9 (-1), 3) := by decide +kernel
theorem dX6_runOn_119 : decode cX6_runOn 119 = .ok (.goto (-39), 3) := by decide +kernel
theorem dX6_runOn_122 : decode cX6_runOn 122 = .ok (.aload_n 0, 1) := by decide +kernel
theorem dX6_runOn_123 : decode cX6_runOn 123 = .ok (.iload 5, 2) := by decide +kernel
theorem dX6_runOn_125 : decode cX6_runOn 125 = .ok (.iconst 2, 1) := by decide +kernel
theorem dX6_runOn_126 : decode cX6_runOn 126 = .ok (.iadd, 1) := by decide +kernel
theorem dX6_runOn_127 : decode cX6_runOn 127 = .ok (.iconst 1, 1) := by decide +kernel
theorem dX6_runOn_128 : decode cX6_runOn 128 = .ok (.iastore, 1) := by decide +kernel
theorem dX6_runOn_129 : decode cX6_runOn 129 = .ok (.aload_n 0, 1) := by decide +kernel
theorem dX6_runOn_130 : decode cX6_runOn 130 = .ok (.iload 5, 2) := by decide +kernel
theorem dX6_runOn_132 : decode cX6_runOn 132 = .ok (.iconst 3, 1) := by decide +kernel
theorem dX6_runOn_133 : decode cX6_runOn 133 = .ok (.iadd, 1) := by decide +kernel
theorem dX6_runOn_134 : decode cX6_runOn 134 = .ok (.iconst 1, 1) := by decide +kernel
theorem dX6_runOn_135 : decode cX6_runOn 135 = .ok (.iastore, 1) := by decide +kernel
theorem dX6_runOn_136 : decode cX6_runOn 136 = .ok (.aload_n 0, 1) := by decide +kernel
theorem dX6_runOn_137 : decode cX6_runOn 137 = .ok (.iload 5, 2) := by decide +kernel
theorem dX6_runOn_139 : decode cX6_runOn 139 = .ok (.iconst 4, 1) := by decide +kernel
theorem dX6_runOn_140 : decode cX6_runOn 140 = .ok (.iadd, 1) := by decide +kernel
theorem dX6_runOn_141 : decode cX6_runOn 141 = .ok (.bipush 6, 2) := by decide +kernel
theorem dX6_runOn_143 : decode cX6_runOn 143 = .ok (.iastore, 1) := by decide +kernel
theorem dX6_runOn_144 : decode cX6_runOn 144 = .ok (.iconst 1, 1) := by decide +kernel
theorem dX6_runOn_145 : decode cX6_runOn 145 = .ok (.ireturn, 1) := by decide +kernel
set_option maxRecDepth 20000 in
theorem ggX6_breakOn_X6_dogAt : GoodIn wsX6_breakOn wsX6_dogAt := goodIn_r _ [4] (by decide +kernel) (by decide +kernel)
set_option maxRecDepth 20000 in
theorem gX6_breakOn_X6_dogAt : GoodIn wsX6_breakOn (va_wsS RX6 43 yX6_dogAt wsX6_dogAt) := goodIn_app (goodIn_of _ (by decide +kernel)) ggX6_breakOn_X6_dogAt
theorem dX6_breakOn_0 : decode cX6_breakOn 0 = .ok (.aload_n 0, 1) := by decide +kernel
theorem dX6_breakOn_1 : decode cX6_breakOn 1 = .ok (.iload_n 1, 1) := by decide +kernel
theorem dX6_breakOn_2 : decode cX6_breakOn 2 = .ok (.invokestatic 43, 3) := by decide +kernel
theorem dX6_breakOn_5 : decode cX6_breakOn 5 = .ok (.iconst 2, 1) := by decide +kernel
theorem dX6_breakOn_6 : decode cX6_breakOn 6 = .ok (.iadd, 1) := by decide +kernel
theorem dX6_breakOn_7 : decode cX6_breakOn 7 = .ok (.iconst 2, 1) := by decide +kernel
theorem dX6_breakOn_8 : decode cX6_breakOn 8 = .ok (.iastore, 1) := by decide +kernel
theorem dX6_breakOn_9 : decode cX6_breakOn 9 = .ok (.aload_n 0, 1) := by decide +kernel
theorem dX6_breakOn_10 : decode cX6_breakOn 10 = .ok (.iload_n 1, 1) := by decide +kernel
theorem dX6_breakOn_11 : decode cX6_breakOn 11 = .ok (.invokestatic 43, 3) := by decide +kernel
theorem dX6_breakOn_14 : decode cX6_breakOn 14 = .ok (.iconst 4, 1) := by decide +kernel
theorem dX6_breakOn_15 : decode cX6_breakOn 15 = .ok (.iadd, 1) := by decide +kernel
theorem dX6_breakOn_16 : decode cX6_breakOn 16 = .ok (.iload_n 2, 1) := by decide +kernel
theorem dX6_breakOn_17 : decode cX6_breakOn 17 = .ok (.iastore, 1) := by decide +kernel
theorem dX6_breakOn_18 : decode cX6_breakOn 18 = .ok (.aload_n 0, 1) := by decide +kernel
theorem dX6_breakOn_19 : decode cX6_breakOn 19 = .ok (.bipush 6, 2) := by decide +kernel
theorem dX6_breakOn_21 : decode cX6_breakOn 21 = .ok (.dup2, 1) := by decide +kernel
theorem dX6_breakOn_22 : decode cX6_breakOn 22 = .ok (.iaload, 1) := by decide +kernel
theorem dX6_breakOn_23 : decode cX6_breakOn 23 = .ok (.iconst 1, 1) := by decide +kernel
theorem dX6_breakOn_24 : decode cX6_breakOn 24 = .ok (.iadd, 1) := by decide +kernel
theorem dX6_breakOn_25 : decode cX6_breakOn 25 = .ok (.iastore, 1) := by decide +kernel
theorem dX6_breakOn_26 : decode cX6_breakOn 26 = .ok (.return_, 1) := by decide +kernel
theorem dX6_nextOn_0 : decode cX6_nextOn 0 = .ok (.aload_n 0, 1) := by decide +kernel
theorem dX6_nextOn_1 : decode cX6_nextOn 1 = .ok (.iconst 0, 1) := by decide +kernel
theorem dX6_nextOn_2 : decode cX6_nextOn 2 = .ok (.dup2, 1) := by decide +kernel
theorem dX6_nextOn_3 : decode cX6_nextOn 3 = .ok (.iaload, 1) := by decide +kernel
theorem dX6_nextOn_4 : decode cX6_nextOn 4 = .ok (.iconst 1, 1) := by decide +kernel
theorem dX6_nextOn_5 : decode cX6_nextOn 5 = .ok (.iadd, 1) := by decide +kernel
theorem dX6_nextOn_6 : decode cX6_nextOn 6 = .ok (.iastore, 1) := by decide +kernel
theorem dX6_nextOn_7 : decode cX6_nextOn 7 = .ok (.aload_n 0, 1) := by decide +kernel
theorem dX6_nextOn_8 : decode cX6_nextOn 8 = .ok (.iconst 1, 1) := by decide +kernel
theorem dX6_nextOn_9 : decode cX6_nextOn 9 = .ok (.iconst 0, 1) := by decide +kernel
theorem dX6_nextOn_10 : decode cX6_nextOn 10 = .ok (.iastore, 1) := by decide +kernel
theorem dX6_nextOn_11 : decode cX6_nextOn 11 = .ok (.aload_n 0, 1) := by decide +kernel
theorem dX6_nextOn_12 : decode cX6_nextOn 12 = .ok (.iconst 2, 1) := by decide +kernel
theorem dX6_nextOn_13 : decode cX6_nextOn 13 = .ok (.iload_n 1, 1) := by decide +kernel
theorem dX6_nextOn_14 : decode cX6_nextOn 14 = .ok (.iastore, 1) := by decide +kernel
theorem dX6_nextOn_15 : decode cX6_nextOn 15 = .ok (.return_, 1) := by decide +kernel
set_option maxRecDepth 20000 in
theorem ggX6_append_X6_in : GoodIn wsX6_append wsX6_in := goodIn_r _ [7] (by decide +kernel) (by decide +kernel)
set_option maxRecDepth 20000 in
theorem gX6_append_X6_in : GoodIn wsX6_append (va_wsS RX6 51 yX6_in wsX6_in) := goodIn_app (goodIn_of _ (by decide +kernel)) ggX6_append_X6_in
set_option maxRecDepth 20000 in
theorem ggX6_append_X6_refused : GoodIn wsX6_append wsX6_refused := goodIn_r _ [11, 12, 13, 14, 15, 16, 17, 18, 19, 20, 21, 22, 23, 24, 25] (by decide +kernel) (by decide +kernel)
set_option maxRecDepth 20000 in
theorem gX6_append_X6_refused : GoodIn wsX6_append (wsV RX6 102 RX6 yX6_refused wsX6_refused) := goodIn_app (goodIn_of _ (by decide +kernel)) ggX6_append_X6_refused
theorem dX6_append_0 : decode cX6_append 0 = .ok (.aload_n 0, 1) := by decide +kernel
theorem dX6_append_1 : decode cX6_append 1 = .ok (.iload_n 1, 1) := by decide +kernel
theorem dX6_append_2 : decode cX6_append 2 = .ok (.i2l, 1) := by decide +kernel
theorem dX6_append_3 : decode cX6_append 3 = .ok (.lconst 0, 1) := by decide +kernel
theorem dX6_append_4 : decode cX6_append 4 = .ok (.ldc2_w 97, 3) := by decide +kernel
theorem dX6_append_7 : decode cX6_append 7 = .ok (.invokestatic 51, 3) := by decide +kernel
theorem dX6_append_10 : decode cX6_append 10 = .ok (.ifCond .ne 7, 3) := by decide +kernel
theorem dX6_append_13 : decode cX6_append 13 = .ok (.iconst 1, 1) := by decide +kernel
theorem dX6_append_14 : decode cX6_append 14 = .ok (.goto 17, 3) := by decide +kernel
theorem dX6_append_17 : decode cX6_append 17 = .ok (.aload_n 0, 1) := by decide +kernel
theorem dX6_append_18 : decode cX6_append 18 = .ok (.getfield 99, 3) := by decide +kernel
theorem dX6_append_21 : decode cX6_append 21 = .ok (.bipush 70, 2) := by decide +kernel
theorem dX6_append_23 : decode cX6_append 23 = .ok (.if_icmp .ne 7, 3) := by decide +kernel
theorem dX6_append_26 : decode cX6_append 26 = .ok (.iconst 2, 1) := by decide +kernel
theorem dX6_append_27 : decode cX6_append 27 = .ok (.goto 4, 3) := by decide +kernel
theorem dX6_append_30 : decode cX6_append 30 = .ok (.iconst 0, 1) := by decide +kernel
theorem dX6_append_31 : decode cX6_append 31 = .ok (.invokevirtual 102, 3) := by decide +kernel
theorem dX6_append_34 : decode cX6_append 34 = .ok (.ifCond .eq 5, 3) := by decide +kernel
theorem dX6_append_37 : decode cX6_append 37 = .ok (.iconst 0, 1) := by decide +kernel
theorem dX6_append_38 : decode cX6_append 38 = .ok (.ireturn, 1) := by decide +kernel
theorem dX6_append_39 : decode cX6_append 39 = .ok (.aload_n 0, 1) := by decide +kernel
theorem dX6_append_40 : decode cX6_append 40 = .ok (.getfield 7, 3) := by decide +kernel
theorem dX6_append_43 : decode cX6_append 43 = .ok (.aload_n 0, 1) := by decide +kernel
theorem dX6_append_44 : decode cX6_append 44 = .ok (.getfield 99, 3) := by decide +kernel
theorem dX6_append_47 : decode cX6_append 47 = .ok (.iload_n 1, 1) := by decide +kernel
theorem dX6_append_48 : decode cX6_append 48 = .ok (.iastore, 1) := by decide +kernel
theorem dX6_append_49 : decode cX6_append 49 = .ok (.aload_n 0, 1) := by decide +kernel
theorem dX6_append_50 : decode cX6_append 50 = .ok (.dup, 1) := by decide +kernel
theorem dX6_append_51 : decode cX6_append 51 = .ok (.getfield 99, 3) := by decide +kernel
theorem dX6_append_54 : decode cX6_append 54 = .ok (.iconst 1, 1) := by decide +kernel
theorem dX6_append_55 : decode cX6_append 55 = .ok (.iadd, 1) := by decide +kernel
theorem dX6_append_56 : decode cX6_append 56 = .ok (.putfield 99, 3) := by decide +kernel
theorem dX6_append_59 : decode cX6_append 59 = .ok (.aload_n 0, 1) := by decide +kernel
theorem dX6_append_60 : decode cX6_append 60 = .ok (.getfield 99, 3) := by decide +kernel
theorem dX6_append_63 : decode cX6_append 63 = .ok (.ireturn, 1) := by decide +kernel
theorem dX6_clearText_0 : decode cX6_clearText 0 = .ok (.aload_n 0, 1) := by decide +kernel
theorem dX6_clearText_1 : decode cX6_clearText 1 = .ok (.iconst 0, 1) := by decide +kernel
theorem dX6_clearText_2 : decode cX6_clearText 2 = .ok (.putfield 39, 3) := by decide +kernel
theorem dX6_clearText_5 : decode cX6_clearText 5 = .ok (.aload_n 0, 1) := by decide +kernel
theorem dX6_clearText_6 : decode cX6_clearText 6 = .ok (.getfield 99, 3) := by decide +kernel
theorem dX6_clearText_9 : decode cX6_clearText 9 = .ok (.istore_n 1, 1) := by decide +kernel
theorem dX6_clearText_10 : decode cX6_clearText 10 = .ok (.aload_n 0, 1) := by decide +kernel
theorem dX6_clearText_11 : decode cX6_clearText 11 = .ok (.iconst 0, 1) := by decide +kernel
theorem dX6_clearText_12 : decode cX6_clearText 12 = .ok (.putfield 99, 3) := by decide +kernel
theorem dX6_clearText_15 : decode cX6_clearText 15 = .ok (.iload_n 1, 1) := by decide +kernel
theorem dX6_clearText_16 : decode cX6_clearText 16 = .ok (.ireturn, 1) := by decide +kernel
theorem dX6_eat_0 : decode cX6_eat 0 = .ok (.aload_n 0, 1) := by decide +kernel
theorem dX6_eat_1 : decode cX6_eat 1 = .ok (.getfield 105, 3) := by decide +kernel
theorem dX6_eat_4 : decode cX6_eat 4 = .ok (.aload_n 0, 1) := by decide +kernel
theorem dX6_eat_5 : decode cX6_eat 5 = .ok (.getfield 99, 3) := by decide +kernel
theorem dX6_eat_8 : decode cX6_eat 8 = .ok (.if_icmp .ge 20, 3) := by decide +kernel
theorem dX6_eat_11 : decode cX6_eat 11 = .ok (.aload_n 0, 1) := by decide +kernel
theorem dX6_eat_12 : decode cX6_eat 12 = .ok (.getfield 7, 3) := by decide +kernel
theorem dX6_eat_15 : decode cX6_eat 15 = .ok (.aload_n 0, 1) := by decide +kernel
theorem dX6_eat_16 : decode cX6_eat 16 = .ok (.getfield 105, 3) := by decide +kernel
theorem dX6_eat_19 : decode cX6_eat 19 = .ok (.iaload, 1) := by decide +kernel
theorem dX6_eat_20 : decode cX6_eat 20 = .ok (.iload_n 1, 1) := by decide +kernel
theorem dX6_eat_21 : decode cX6_eat 21 = .ok (.if_icmp .ne 7, 3) := by decide +kernel
theorem dX6_eat_24 : decode cX6_eat 24 = .ok (.iconst 1, 1) := by decide +kernel
theorem dX6_eat_25 : decode cX6_eat 25 = .ok (.goto 4, 3) := by decide +kernel
theorem dX6_eat_28 : decode cX6_eat 28 = .ok (.iconst 0, 1) := by decide +kernel
theorem dX6_eat_29 : decode cX6_eat 29 = .ok (.istore_n 2, 1) := by decide +kernel
theorem dX6_eat_30 : decode cX6_eat 30 = .ok (.aload_n 0, 1) := by decide +kernel
theorem dX6_eat_31 : decode cX6_eat 31 = .ok (.dup, 1) := by decide +kernel
theorem dX6_eat_32 : decode cX6_eat 32 = .ok (.getfield 105, 3) := by decide +kernel
theorem dX6_eat_35 : decode cX6_eat 35 = .ok (.iload_n 2, 1) := by decide +kernel
theorem dX6_eat_36 : decode cX6_eat 36 = .ok (.ifCond .eq 7, 3) := by decide +kernel
theorem dX6_eat_39 : decode cX6_eat 39 = .ok (.iconst 1, 1) := by decide +kernel
theorem dX6_eat_40 : decode cX6_eat 40 = .ok (.goto 4, 3) := by decide +kernel
theorem dX6_eat_43 : decode cX6_eat 43 = .ok (.iconst 0, 1) := by decide +kernel
theorem dX6_eat_44 : decode cX6_eat 44 = .ok (.iadd, 1) := by decide +kernel
theorem dX6_eat_45 : decode cX6_eat 45 = .ok (.putfield 105, 3) := by decide +kernel
theorem dX6_eat_48 : decode cX6_eat 48 = .ok (.iload_n 2, 1) := by decide +kernel
theorem dX6_eat_49 : decode cX6_eat 49 = .ok (.ireturn, 1) := by decide +kernel
set_option maxRecDepth 20000 in
theorem ggX6_digit_X6_in : GoodIn wsX6_digit wsX6_in := goodIn_r _ [8] (by decide +kernel) (by decide +kernel)
set_option maxRecDepth 20000 in
theorem gX6_digit_X6_in : GoodIn wsX6_digit (va_wsS RX6 51 yX6_in wsX6_in) := goodIn_app (goodIn_of _ (by decide +kernel)) ggX6_digit_X6_in
theorem dX6_digit_0 : decode cX6_digit 0 = .ok (.aload_n 0, 1) := by decide +kernel
theorem dX6_digit_1 : decode cX6_digit 1 = .ok (.getfield 105, 3) := by decide +kernel
theorem dX6_digit_4 : decode cX6_digit 4 = .ok (.aload_n 0, 1) := by decide +kernel
theorem dX6_digit_5 : decode cX6_digit 5 = .ok (.getfield 99, 3) := by decide +kernel
theorem dX6_digit_8 : decode cX6_digit 8 = .ok (.if_icmp .ge 18, 3) := by decide +kernel
theorem dX6_digit_11 : decode cX6_digit 11 = .ok (.aload_n 0, 1) := by decide +kernel
theorem dX6_digit_12 : decode cX6_digit 12 = .ok (.getfield 7, 3) := by decide +kernel
theorem dX6_digit_15 : decode cX6_digit 15 = .ok (.aload_n 0, 1) := by decide +kernel
theorem dX6_digit_16 : decode cX6_digit 16 = .ok (.getfield 105, 3) := by decide +kernel
theorem dX6_digit_19 : decode cX6_digit 19 = .ok (.iaload, 1) := by decide +kernel
theorem dX6_digit_20 : decode cX6_digit 20 = .ok (.bipush 48, 2) := by decide +kernel
theorem dX6_digit_22 : decode cX6_digit 22 = .ok (.isub, 1) := by decide +kernel
theorem dX6_digit_23 : decode cX6_digit 23 = .ok (.goto 4, 3) := by decide +kernel
theorem dX6_digit_26 : decode cX6_digit 26 = .ok (.iconst (-1), 1) := by decide +kernel
theorem dX6_digit_27 : decode cX6_digit 27 = .ok (.istore_n 3, 1) := by decide +kernel
theorem dX6_digit_28 : decode cX6_digit 28 = .ok (.iload_n 3, 1) := by decide +kernel
theorem dX6_digit_29 : decode cX6_digit 29 = .ok (.i2l, 1) := by decide +kernel
theorem dX6_digit_30 : decode cX6_digit 30 = .ok (.lconst 0, 1) := by decide +kernel
theorem dX6_digit_31 : decode cX6_digit 31 = .ok (.ldc2_w 108, 3) := by decide +kernel
theorem dX6_digit_34 : decode cX6_digit 34 = .ok (.invokestatic 51, 3) := by decide +kernel
theorem dX6_digit_37 : decode cX6_digit 37 = .ok (.ifCond .eq 19, 3) := by decide +kernel
theorem dX6_digit_40 : decode cX6_digit 40 = .ok (.iload_n 3, 1) := by decide +kernel
theorem dX6_digit_41 : decode cX6_digit 41 = .ok (.i2l, 1) := by decide +kernel
theorem dX6_digit_42 : decode cX6_digit 42 = .ok (.iload_n 1, 1) := by decide +kernel
theorem dX6_digit_43 : decode cX6_digit 43 = .ok (.i2l, 1) := by decide +kernel
theorem dX6_digit_44 : decode cX6_digit 44 = .ok (.iload_n 2, 1) := by decide +kernel
theorem dX6_digit_45 : decode cX6_digit 45 = .ok (.i2l, 1) := by decide +kernel
theorem dX6_digit_46 : decode cX6_digit 46 = .ok (.invokestatic 51, 3) := by decide +kernel
theorem dX6_digit_49 : decode cX6_digit 49 = .ok (.ifCond .eq 7, 3) := by decide +kernel
theorem dX6_digit_52 : decode cX6_digit 52 = .ok (.iconst 1, 1) := by decide +kernel
theorem dX6_digit_53 : decode cX6_digit 53 = .ok (.goto 4, 3) := by decide +kernel
theorem dX6_digit_56 : decode cX6_digit 56 = .ok (.iconst 0, 1) := by decide +kernel
theorem dX6_digit_57 : decode cX6_digit 57 = .ok (.istore 4, 2) := by decide +kernel
theorem dX6_digit_59 : decode cX6_digit 59 = .ok (.aload_n 0, 1) := by decide +kernel
theorem dX6_digit_60 : decode cX6_digit 60 = .ok (.dup, 1) := by decide +kernel
theorem dX6_digit_61 : decode cX6_digit 61 = .ok (.getfield 105, 3) := by decide +kernel
theorem dX6_digit_64 : decode cX6_digit 64 = .ok (.iload 4, 2) := by decide +kernel
theorem dX6_digit_66 : decode cX6_digit 66 = .ok (.ifCond .eq 7, 3) := by decide +kernel
theorem dX6_digit_69 : decode cX6_digit 69 = .ok (.iconst 1, 1) := by decide +kernel
theorem dX6_digit_70 : decode cX6_digit 70 = .ok (.goto 4, 3) := by decide +kernel
theorem dX6_digit_73 : decode cX6_digit 73 = .ok (.iconst 0, 1) := by decide +kernel
theorem dX6_digit_74 : decode cX6_digit 74 = .ok (.iadd, 1) := by decide +kernel
theorem dX6_digit_75 : decode cX6_digit 75 = .ok (.putfield 105, 3) := by decide +kernel
theorem dX6_digit_78 : decode cX6_digit 78 = .ok (.iload 4, 2) := by decide +kernel
theorem dX6_digit_80 : decode cX6_digit 80 = .ok (.ifCond .eq 7, 3) := by decide +kernel
theorem dX6_digit_83 : decode cX6_digit 83 = .ok (.iload_n 3, 1) := by decide +kernel
theorem dX6_digit_84 : decode cX6_digit 84 = .ok (.goto 5, 3) := by decide +kernel
theorem dX6_digit_87 : decode cX6_digit 87 = .ok (.bipush (-9), 2) := by decide +kernel
theorem dX6_digit_89 : decode cX6_digit 89 = .ok (.ireturn, 1) := by decide +kernel
set_option maxRecDepth 20000 in
theorem ggX6_readSunset_X6_digit : GoodIn wsX6_readSunset wsX6_digit := goodIn_r _ [6, 7, 8, 9, 10, 11, 12, 5, 13, 14, 15, 16, 17, 18, 19, 20, 21, 22, 23, 24, 25, 26] (by decide +kernel) (by decide +kernel)
set_option maxRecDepth 20000 in
theorem gX6_readSunset_X6_digit : GoodIn wsX6_readSunset (wsV RX6 110 RX6 yX6_digit wsX6_digit) := goodIn_app (goodIn_of _ (by decide +kernel)) ggX6_readSunset_X6_digit
theorem dX6_readSunset_0 : decode cX6_readSunset 0 = .ok (.aload_n 0, 1) := by decide +kernel
theorem dX6_readSunset_1 : decode cX6_readSunset 1 = .ok (.iconst 0, 1) := by decide +kernel
theorem dX6_readSunset_2 : decode cX6_readSunset 2 = .ok (.bipush 6, 2) := by decide +kernel
theorem dX6_readSunset_4 : decode cX6_readSunset 4 = .ok (.invokevirtual 110, 3) := by decide +kernel
theorem dX6_readSunset_7 : decode cX6_readSunset 7 = .ok (.istore_n 1, 1) := by decide +kernel
theorem dX6_readSunset_8 : decode cX6_readSunset 8 = .ok (.iload_n 1, 1) := by decide +kernel
theorem dX6_readSunset_9 : decode cX6_readSunset 9 = .ok (.bipush (-9), 2) := by decide +kernel
theorem dX6_readSunset_11 : decode cX6_readSunset 11 = .ok (.if_icmp .ne 8, 3) := by decide +kernel
theorem dX6_readSunset_14 : decode cX6_readSunset 14 = .ok (.bipush (-9), 2) := by decide +kernel
theorem dX6_readSunset_16 : decode cX6_readSunset 16 = .ok (.goto 29, 3) := by decide +kernel
theorem dX6_readSunset_19 : decode cX6_readSunset 19 = .ok (.aload_n 0, 1) := by decide +kernel
theorem dX6_readSunset_20 : decode cX6_readSunset 20 = .ok (.iload_n 1, 1) := by decide +kernel
theorem dX6_readSunset_21 : decode cX6_readSunset 21 = .ok (.ifCond .ne 8, 3) := by decide +kernel
theorem dX6_readSunset_24 : decode cX6_readSunset 24 = .ok (.bipush 6, 2) := by decide +kernel
theorem dX6_readSunset_26 : decode cX6_readSunset 26 = .ok (.goto 4, 3) := by decide +kernel
theorem dX6_readSunset_29 : decode cX6_readSunset 29 = .ok (.iconst 0, 1) := by decide +kernel
theorem dX6_readSunset_30 : decode cX6_readSunset 30 = .ok (.iload_n 1, 1) := by decide +kernel
theorem dX6_readSunset_31 : decode cX6_readSunset 31 = .ok (.bipush 6, 2) := by decide +kernel
theorem dX6_readSunset_33 : decode cX6_readSunset 33 = .ok (.if_icmp .ne 7, 3) := by decide +kernel
theorem dX6_readSunset_36 : decode cX6_readSunset 36 = .ok (.iconst 0, 1) := by decide +kernel
theorem dX6_readSunset_37 : decode cX6_readSunset 37 = .ok (.goto 5, 3) := by decide +kernel
theorem dX6_readSunset_40 : decode cX6_readSunset 40 = .ok (.bipush 9, 2) := by decide +kernel
theorem dX6_readSunset_42 : decode cX6_readSunset 42 = .ok (.invokevirtual 110, 3) := by decide +kernel
theorem dX6_readSunset_45 : decode cX6_readSunset 45 = .ok (.istore_n 2, 1) := by decide +kernel
theorem dX6_readSunset_46 : decode cX6_readSunset 46 = .ok (.iload_n 2, 1) := by decide +kernel
theorem dX6_readSunset_47 : decode cX6_readSunset 47 = .ok (.bipush (-9), 2) := by decide +kernel
theorem dX6_readSunset_49 : decode cX6_readSunset 49 = .ok (.if_icmp .ne 8, 3) := by decide +kernel
theorem dX6_readSunset_52 : decode cX6_readSunset 52 = .ok (.bipush (-9), 2) := by decide +kernel
theorem dX6_readSunset_54 : decode cX6_readSunset 54 = .ok (.goto 20, 3) := by decide +kernel
theorem dX6_readSunset_57 : decode cX6_readSunset 57 = .ok (.aload_n 0, 1) := by decide +kernel
theorem dX6_readSunset_58 : decode cX6_readSunset 58 = .ok (.iconst 0, 1) := by decide +kernel
theorem dX6_readSunset_59 : decode cX6_readSunset 59 = .ok (.iload_n 1, 1) := by decide +kernel
theorem dX6_readSunset_60 : decode cX6_readSunset 60 = .ok (.bipush 6, 2) := by decide +kernel
theorem dX6_readSunset_62 : decode cX6_readSunset 62 = .ok (.if_icmp .ne 7, 3) := by decide +kernel
theorem dX6_readSunset_65 : decode cX6_readSunset 65 = .ok (.iconst 0, 1) := by decide +kernel
theorem dX6_readSunset_66 : decode cX6_readSunset 66 = .ok (.goto 5, 3) := by decide +kernel
theorem dX6_readSunset_69 : decode cX6_readSunset 69 = .ok (.bipush 9, 2) := by decide +kernel
theorem dX6_readSunset_71 : decode cX6_readSunset 71 = .ok (.invokevirtual 110, 3) := by decide +kernel
theorem dX6_readSunset_74 : decode cX6_readSunset 74 = .ok (.istore_n 3, 1) := by decide +kernel
theorem dX6_readSunset_75 : decode cX6_readSunset 75 = .ok (.aload_n 0, 1) := by decide +kernel
theorem dX6_readSunset_76 : decode cX6_readSunset 76 = .ok (.getfield 13, 3) := by decide +kernel
theorem dX6_readSunset_79 : decode cX6_readSunset 79 = .ok (.iconst 2, 1) := by decide +kernel
theorem dX6_readSunset_80 : decode cX6_readSunset 80 = .ok (.bipush 100, 2) := by decide +kernel
theorem dX6_readSunset_82 : decode cX6_readSunset 82 = .ok (.iload_n 1, 1) := by decide +kernel
theorem dX6_readSunset_83 : decode cX6_readSunset 83 = .ok (.imul, 1) := by decide +kernel
theorem dX6_readSunset_84 : decode cX6_readSunset 84 = .ok (.bipush 10, 2) := by decide +kernel
theorem dX6_readSunset_86 : decode cX6_readSunset 86 = .ok (.iload_n 2, 1) := by decide +kernel
theorem dX6_readSunset_87 : decode cX6_readSunset 87 = .ok (.imul, 1) := by decide +kernel
theorem dX6_readSunset_88 : decode cX6_readSunset 88 = .ok (.iadd, 1) := by decide +kernel
theorem dX6_readSunset_89 : decode cX6_readSunset 89 = .ok (.iload_n 3, 1) := by decide +kernel
theorem dX6_readSunset_90 : decode cX6_readSunset 90 = .ok (.iadd, 1) := by decide +kernel
theorem dX6_readSunset_91 : decode cX6_readSunset 91 = .ok (.iastore, 1) := by decide +kernel
theorem dX6_readSunset_92 : decode cX6_readSunset 92 = .ok (.iload_n 3, 1) := by decide +kernel
theorem dX6_readSunset_93 : decode cX6_readSunset 93 = .ok (.bipush (-9), 2) := by decide +kernel
theorem dX6_readSunset_95 : decode cX6_readSunset 95 = .ok (.if_icmp .eq 7, 3) := by decide +kernel
theorem dX6_readSunset_98 : decode cX6_readSunset 98 = .ok (.iconst 1, 1) := by decide +kernel
theorem dX6_readSunset_99 : decode cX6_readSunset 99 = .ok (.goto 4, 3) := by decide +kernel
theorem dX6_readSunset_102 : decode cX6_readSunset 102 = .ok (.iconst 0, 1) := by decide +kernel
theorem dX6_readSunset_103 : decode cX6_readSunset 103 = .ok (.ireturn, 1) := by decide +kernel
set_option maxRecDepth 20000 in
theorem ggX6_isFree_X6_in : GoodIn wsX6_isFree wsX6_in := goodIn_r _ [6] (by decide +kernel) (by decide +kernel)
set_option maxRecDepth 20000 in
theorem gX6_isFree_X6_in : GoodIn wsX6_isFree (va_wsS RX6 51 yX6_in wsX6_in) := goodIn_app (goodIn_of _ (by decide +kernel)) ggX6_isFree_X6_in
set_option maxRecDepth 20000 in
theorem ggX6_isFree_X6_isDrawn : GoodIn wsX6_isFree wsX6_isDrawn := goodIn_r _ [9, 10, 11, 5, 12] (by decide +kernel) (by decide +kernel)
set_option maxRecDepth 20000 in
theorem gX6_isFree_X6_isDrawn : GoodIn wsX6_isFree (va_wsS RX6 116 yX6_isDrawn wsX6_isDrawn) := goodIn_app (goodIn_of _ (by decide +kernel)) ggX6_isFree_X6_isDrawn
theorem dX6_isFree_0 : decode cX6_isFree 0 = .ok (.iload_n 1, 1) := by decide +kernel
theorem dX6_isFree_1 : decode cX6_isFree 1 = .ok (.i2l, 1) := by decide +kernel
theorem dX6_isFree_2 : decode cX6_isFree 2 = .ok (.lconst 1, 1) := by decide +kernel
theorem dX6_isFree_3 : decode cX6_isFree 3 = .ok (.ldc2_w 114, 3) := by decide +kernel
theorem dX6_isFree_6 : decode cX6_isFree 6 = .ok (.invokestatic 51, 3) := by decide +kernel
theorem dX6_isFree_9 : decode cX6_isFree 9 = .ok (.ifCond .eq 20, 3) := by decide +kernel
theorem dX6_isFree_12 : decode cX6_isFree 12 = .ok (.aload_n 0, 1) := by decide +kernel
theorem dX6_isFree_13 : decode cX6_isFree 13 = .ok (.getfield 13, 3) := by decide +kernel
theorem dX6_isFree_16 : decode cX6_isFree 16 = .ok (.iload_n 1, 1) := by decide +kernel
theorem dX6_isFree_17 : decode cX6_isFree 17 = .ok (.bipush (-9), 2) := by decide +kernel
theorem dX6_isFree_19 : decode cX6_isFree 19 = .ok (.invokestatic 116, 3) := by decide +kernel
theorem dX6_isFree_22 : decode cX6_isFree 22 = .ok (.ifCond .ne 7, 3) := by decide +kernel
theorem dX6_isFree_25 : decode cX6_isFree 25 = .ok (.iconst 1, 1) := by decide +kernel
theorem dX6_isFree_26 : decode cX6_isFree 26 = .ok (.goto 4, 3) := by decide +kernel
theorem dX6_isFree_29 : decode cX6_isFree 29 = .ok (.iconst 0, 1) := by decide +kernel
theorem dX6_isFree_30 : decode cX6_isFree 30 = .ok (.ireturn, 1) := by decide +kernel
set_option maxRecDepth 20000 in
theorem ggX6_isOpen_X6_isFree : GoodIn wsX6_isOpen wsX6_isFree := goodIn_r _ [5, 6, 7, 8, 9, 4, 10, 11, 12, 13, 14, 15, 16, 17, 18, 19, 20, 21, 22, 23, 24, 25, 26, 27, 28, 29] (by decide +kernel) (by decide +kernel)
set_option maxRecDepth 20000 in
theorem gX6_isOpen_X6_isFree : GoodIn wsX6_isOpen (wsV RX6 119 RX6 yX6_isFree wsX6_isFree) := goodIn_app (goodIn_of _ (by decide +kernel)) ggX6_isOpen_X6_isFree
theorem dX6_isOpen_0 : decode cX6_isOpen 0 = .ok (.iconst 0, 1) := by decide +kernel
theorem dX6_isOpen_1 : decode cX6_isOpen 1 = .ok (.istore_n 2, 1) := by decide +kernel
theorem dX6_isOpen_2 : decode cX6_isOpen 2 = .ok (.iconst 0, 1) := by decide +kernel
theorem dX6_isOpen_3 : decode cX6_isOpen 3 = .ok (.istore_n 3, 1) := by decide +kernel
theorem dX6_isOpen_4 : decode cX6_isOpen 4 = .ok (.iload_n 3, 1) := by decide +kernel
theorem dX6_isOpen_5 : decode cX6_isOpen 5 = .ok (.bipush 10, 2) := by decide +kernel
theorem dX6_isOpen_7 : decode cX6_isOpen 7 = .ok (.if_icmp .ge 22, 3) := by decide +kernel
theorem dX6_isOpen_10 : decode cX6_isOpen 10 = .ok (.iload_n 2, 1) := by decide +kernel
theorem dX6_isOpen_11 : decode cX6_isOpen 11 = .ok (.aload_n 0, 1) := by decide +kernel
theorem dX6_isOpen_12 : decode cX6_isOpen 12 = .ok (.bipush 10, 2) := by decide +kernel
theorem dX6_isOpen_14 : decode cX6_isOpen 14 = .ok (.iload_n 1, 1) := by decide +kernel
theorem dX6_isOpen_15 : decode cX6_isOpen 15 = .ok (.imul, 1) := by decide +kernel
theorem dX6_isOpen_16 : decode cX6_isOpen 16 = .ok (.iload_n 3, 1) := by decide +kernel
theorem dX6_isOpen_17 : decode cX6_isOpen 17 = .ok (.iadd, 1) := by decide +kernel
theorem dX6_isOpen_18 : decode cX6_isOpen 18 = .ok (.invokevirtual 119, 3) := by decide +kernel
theorem dX6_isOpen_21 : decode cX6_isOpen 21 = .ok (.ior, 1) := by decide +kernel
theorem dX6_isOpen_22 : decode cX6_isOpen 22 = .ok (.istore_n 2, 1) := by decide +kernel
theorem dX6_isOpen_23 : decode cX6_isOpen 23 = .ok (.iinc 3 1, 3) := by decide +kernel
theorem dX6_isOpen_26 : decode cX6_isOpen 26 = .ok (.goto (-22), 3) := by decide +kernel
theorem dX6_isOpen_29 : decode cX6_isOpen 29 = .ok (.iload_n 2, 1) := by decide +kernel
theorem dX6_isOpen_30 : decode cX6_isOpen 30 = .ok (.ireturn, 1) := by decide +kernel
set_option maxRecDepth 20000 in
theorem ggX6_readDog_X6_digit : GoodIn wsX6_readDog wsX6_digit := goodIn_r _ [7, 1, 8, 9, 10, 11, 12, 6, 13, 32, 33, 34, 35, 36, 37, 38, 39, 40, 41, 42, 43, 44] (by decide +kernel) (by decide +kernel)
set_option maxRecDepth 20000 in
theorem gX6_readDog_X6_digit : GoodIn wsX6_readDog (wsV RX6 110 RX6 yX6_digit wsX6_digit) := goodIn_app (goodIn_of _ (by decide +kernel)) ggX6_readDog_X6_digit
set_option maxRecDepth 20000 in
theorem ggX6_readDog_X6_isOpen : GoodIn wsX6_readDog wsX6_isOpen := goodIn_r _ [17, 18, 19, 20, 6, 21, 22, 2, 11, 12, 13, 23, 24, 25, 26, 27, 28, 32, 33, 34, 35, 36, 37, 38, 39, 40, 41, 42, 43, 44] (by decide +kernel) (by decide +kernel)
set_option maxRecDepth 20000 in
theorem gX6_readDog_X6_isOpen : GoodIn wsX6_readDog (wsV RX6 122 RX6 yX6_isOpen wsX6_isOpen) := goodIn_app (goodIn_of _ (by decide +kernel)) ggX6_readDog_X6_isOpen
set_option maxRecDepth 20000 in
theorem ggX6_readDog_X6_isFree : GoodIn wsX6_readDog wsX6_isFree := goodIn_r _ [21, 22, 2, 11, 12, 6, 13, 23, 24, 25, 26, 27, 28, 32, 33, 34, 35, 36, 37, 38, 39, 40, 41, 42, 43, 44] (by decide +kernel) (by decide +kernel)
set_option maxRecDepth 20000 in
theorem gX6_readDog_X6_isFree : GoodIn wsX6_readDog (wsV RX6 119 RX6 yX6_isFree wsX6_isFree) := goodIn_app (goodIn_of _ (by decide +kernel)) ggX6_readDog_X6_isFree
set_option maxRecDepth 20000 in
theorem ggX6_readDog_X6_enterOn : GoodIn wsX6_readDog wsX6_enterOn := goodIn_r _ [31, 26, 27, 6, 28] (by decide +kernel) (by decide +kernel)
set_option maxRecDepth 20000 in
theorem gX6_readDog_X6_enterOn : GoodIn wsX6_readDog (va_wsS RX6 125 yX6_enterOn wsX6_enterOn) := goodIn_app (goodIn_of _ (by decide +kernel)) ggX6_readDog_X6_enterOn
theorem dX6_readDog_0 : decode cX6_readDog 0 = .ok (.aload_n 0, 1) := by decide +kernel
theorem dX6_readDog_1 : decode cX6_readDog 1 = .ok (.iconst 0, 1) := by decide +kernel
theorem dX6_readDog_2 : decode cX6_readDog 2 = .ok (.iconst 5, 1) := by decide +kernel
theorem dX6_readDog_3 : decode cX6_readDog 3 = .ok (.invokevirtual 110, 3) := by decide +kernel
theorem dX6_readDog_6 : decode cX6_readDog 6 = .ok (.istore_n 1, 1) := by decide +kernel
theorem dX6_readDog_7 : decode cX6_readDog 7 = .ok (.iload_n 1, 1) := by decide +kernel
theorem dX6_readDog_8 : decode cX6_readDog 8 = .ok (.bipush (-9), 2) := by decide +kernel
theorem dX6_readDog_10 : decode cX6_readDog 10 = .ok (.if_icmp .ne 8, 3) := by decide +kernel
theorem dX6_readDog_13 : decode cX6_readDog 13 = .ok (.bipush (-9), 2) := by decide +kernel
theorem dX6_readDog_15 : decode cX6_readDog 15 = .ok (.goto 10, 3) := by decide +kernel
theorem dX6_readDog_18 : decode cX6_readDog 18 = .ok (.aload_n 0, 1) := by decide +kernel
theorem dX6_readDog_19 : decode cX6_readDog 19 = .ok (.iconst 0, 1) := by decide +kernel
theorem dX6_readDog_20 : decode cX6_readDog 20 = .ok (.bipush 9, 2) := by decide +kernel
theorem dX6_readDog_22 : decode cX6_readDog 22 = .ok (.invokevirtual 110, 3) := by decide +kernel
theorem dX6_readDog_25 : decode cX6_readDog 25 = .ok (.istore_n 2, 1) := by decide +kernel
theorem dX6_readDog_26 : decode cX6_readDog 26 = .ok (.iload_n 2, 1) := by decide +kernel
theorem dX6_readDog_27 : decode cX6_readDog 27 = .ok (.bipush (-9), 2) := by decide +kernel
theorem dX6_readDog_29 : decode cX6_readDog 29 = .ok (.if_icmp .ne 5, 3) := by decide +kernel
theorem dX6_readDog_32 : decode cX6_readDog 32 = .ok (.iconst 0, 1) := by decide +kernel
theorem dX6_readDog_33 : decode cX6_readDog 33 = .ok (.ireturn, 1) := by decide +kernel
theorem dX6_readDog_34 : decode cX6_readDog 34 = .ok (.aload_n 0, 1) := by decide +kernel
theorem dX6_readDog_35 : decode cX6_readDog 35 = .ok (.iload_n 2, 1) := by decide +kernel
theorem dX6_readDog_36 : decode cX6_readDog 36 = .ok (.invokevirtual 122, 3) := by decide +kernel
theorem dX6_readDog_39 : decode cX6_readDog 39 = .ok (.ifCond .ne 15, 3) := by decide +kernel
theorem dX6_readDog_42 : decode cX6_readDog 42 = .ok (.aload_n 0, 1) := by decide +kernel
theorem dX6_readDog_43 : decode cX6_readDog 43 = .ok (.dup, 1) := by decide +kernel
theorem dX6_readDog_44 : decode cX6_readDog 44 = .ok (.getfield 105, 3) := by decide +kernel
theorem dX6_readDog_47 : decode cX6_readDog 47 = .ok (.iconst 1, 1) := by decide +kernel
theorem dX6_readDog_48 : decode cX6_readDog 48 = .ok (.isub, 1) := by decide +kernel
theorem dX6_readDog_49 : decode cX6_readDog 49 = .ok (.putfield 105, 3) := by decide +kernel
theorem dX6_readDog_52 : decode cX6_readDog 52 = .ok (.iconst 0, 1) := by decide +kernel
theorem dX6_readDog_53 : decode cX6_readDog 53 = .ok (.ireturn, 1) := by decide +kernel
theorem dX6_readDog_54 : decode cX6_readDog 54 = .ok (.aload_n 0, 1) := by decide +kernel
theorem dX6_readDog_55 : decode cX6_readDog 55 = .ok (.iconst 0, 1) := by decide +kernel
theorem dX6_readDog_56 : decode cX6_readDog 56 = .ok (.bipush 9, 2) := by decide +kernel
theorem dX6_readDog_58 : decode cX6_readDog 58 = .ok (.invokevirtual 110, 3) := by decide +kernel
theorem dX6_readDog_61 : decode cX6_readDog 61 = .ok (.istore_n 3, 1) := by decide +kernel
theorem dX6_readDog_62 : decode cX6_readDog 62 = .ok (.iload_n 3, 1) := by decide +kernel
theorem dX6_readDog_63 : decode cX6_readDog 63 = .ok (.bipush (-9), 2) := by decide +kernel
theorem dX6_readDog_65 : decode cX6_readDog 65 = .ok (.if_icmp .ne 5, 3) := by decide +kernel
theorem dX6_readDog_68 : decode cX6_readDog 68 = .ok (.iconst 0, 1) := by decide +kernel
theorem dX6_readDog_69 : decode cX6_readDog 69 = .ok (.ireturn, 1) := by decide +kernel
theorem dX6_readDog_70 : decode cX6_readDog 70 = .ok (.aload_n 0, 1) := by decide +kernel
theorem dX6_readDog_71 : decode cX6_readDog 71 = .ok (.bipush 10, 2) := by decide +kernel
theorem dX6_readDog_73 : decode cX6_readDog 73 = .ok (.iload_n 2, 1) := by decide +kernel
theorem dX6_readDog_74 : decode cX6_readDog 74 = .ok (.imul, 1) := by decide +kernel
theorem dX6_readDog_75 : decode cX6_readDog 75 = .ok (.iload_n 3, 1) := by decide +kernel
theorem dX6_readDog_76 : decode cX6_readDog 76 = .ok (.iadd, 1) := by decide +kernel
theorem dX6_readDog_77 : decode cX6_readDog 77 = .ok (.invokevirtual 119, 3) := by decide +kernel
theorem dX6_readDog_80 : decode cX6_readDog 80 = .ok (.ifCond .ne 15, 3) := by decide +kernel
theorem dX6_readDog_83 : decode cX6_readDog 83 = .ok (.aload_n 0, 1) := by decide +kernel
theorem dX6_readDog_84 : decode cX6_readDog 84 = .ok (.dup, 1) := by decide +kernel
theorem dX6_readDog_85 : decode cX6_readDog 85 = .ok (.getfield 105, 3) := by decide +kernel
theorem dX6_readDog_88 : decode cX6_readDog 88 = .ok (.iconst 1, 1) := by decide +kernel
theorem dX6_readDog_89 : decode cX6_readDog 89 = .ok (.isub, 1) := by decide +kernel
theorem dX6_readDog_90 : decode cX6_readDog 90 = .ok (.putfield 105, 3) := by decide +kernel
theorem dX6_readDog_93 : decode cX6_readDog 93 = .ok (.iconst 0, 1) := by decide +kernel
theorem dX6_readDog_94 : decode cX6_readDog 94 = .ok (.ireturn, 1) := by decide +kernel
theorem dX6_readDog_95 : decode cX6_readDog 95 = .ok (.aload_n 0, 1) := by decide +kernel
theorem dX6_readDog_96 : decode cX6_readDog 96 = .ok (.getfield 13, 3) := by decide +kernel
theorem dX6_readDog_99 : decode cX6_readDog 99 = .ok (.iload_n 1, 1) := by decide +kernel
theorem dX6_readDog_100 : decode cX6_readDog 100 = .ok (.bipush 10, 2) := by decide +kernel
theorem dX6_readDog_102 : decode cX6_readDog 102 = .ok (.iload_n 2, 1) := by decide +kernel
theorem dX6_readDog_103 : decode cX6_readDog 103 = .ok (.imul, 1) := by decide +kernel
theorem dX6_readDog_104 : decode cX6_readDog 104 = .ok (.iload_n 3, 1) := by decide +kernel
theorem dX6_readDog_105 : decode cX6_readDog 105 = .ok (.iadd, 1) := by decide +kernel
theorem dX6_readDog_106 : decode cX6_readDog 106 = .ok (.invokestatic 125, 3) := by decide +kernel
theorem dX6_readDog_109 : decode cX6_readDog 109 = .ok (.iconst 1, 1) := by decide +kernel
theorem dX6_readDog_110 : decode cX6_readDog 110 = .ok (.ireturn, 1) := by decide +kernel
set_option maxRecDepth 20000 in
theorem ggX6_readRank_X6_digit : GoodIn wsX6_readRank wsX6_digit := goodIn_r _ [7, 1, 8, 9, 10, 11, 12, 6, 13, 14, 15, 16, 17, 18, 19, 20, 21, 22, 23, 24, 25, 26] (by decide +kernel) (by decide +kernel)
set_option maxRecDepth 20000 in
theorem gX6_readRank_X6_digit : GoodIn wsX6_readRank (wsV RX6 110 RX6 yX6_digit wsX6_digit) := goodIn_app (goodIn_of _ (by decide +kernel)) ggX6_readRank_X6_digit
theorem dX6_readRank_0 : decode cX6_readRank 0 = .ok (.iconst 0, 1) := by decide +kernel
theorem dX6_readRank_1 : decode cX6_readRank 1 = .ok (.istore_n 1, 1) := by decide +kernel
theorem dX6_readRank_2 : decode cX6_readRank 2 = .ok (.iconst 0, 1) := by decide +kernel
theorem dX6_readRank_3 : decode cX6_readRank 3 = .ok (.istore_n 2, 1) := by decide +kernel
theorem dX6_readRank_4 : decode cX6_readRank 4 = .ok (.iload_n 2, 1) := by decide +kernel
theorem dX6_readRank_5 : decode cX6_readRank 5 = .ok (.bipush 6, 2) := by decide +kernel
theorem dX6_readRank_7 : decode cX6_readRank 7 = .ok (.if_icmp .ge 61, 3) := by decide +kernel
theorem dX6_readRank_10 : decode cX6_readRank 10 = .ok (.aload_n 0, 1) := by decide +kernel
theorem dX6_readRank_11 : decode cX6_readRank 11 = .ok (.iconst 0, 1) := by decide +kernel
theorem dX6_readRank_12 : decode cX6_readRank 12 = .ok (.iconst 5, 1) := by decide +kernel
theorem dX6_readRank_13 : decode cX6_readRank 13 = .ok (.invokevirtual 110, 3) := by decide +kernel
theorem dX6_readRank_16 : decode cX6_readRank 16 = .ok (.istore_n 3, 1) := by decide +kernel
theorem dX6_readRank_17 : decode cX6_readRank 17 = .ok (.iload_n 3, 1) := by decide +kernel
theorem dX6_readRank_18 : decode cX6_readRank 18 = .ok (.bipush (-9), 2) := by decide +kernel
theorem dX6_readRank_20 : decode cX6_readRank 20 = .ok (.if_icmp .ne 5, 3) := by decide +kernel
theorem dX6_readRank_23 : decode cX6_readRank 23 = .ok (.iconst 0, 1) := by decide +kernel
theorem dX6_readRank_24 : decode cX6_readRank 24 = .ok (.ireturn, 1) := by decide +kernel
theorem dX6_readRank_25 : decode cX6_readRank 25 = .ok (.iload_n 1, 1) := by decide +kernel
theorem dX6_readRank_26 : decode cX6_readRank 26 = .ok (.iload_n 3, 1) := by decide +kernel
theorem dX6_readRank_27 : decode cX6_readRank 27 = .ok (.ishr, 1) := by decide +kernel
theorem dX6_readRank_28 : decode cX6_readRank 28 = .ok (.iconst 1, 1) := by decide +kernel
theorem dX6_readRank_29 : decode cX6_readRank 29 = .ok (.iand, 1) := by decide +kernel
theorem dX6_readRank_30 : decode cX6_readRank 30 = .ok (.iconst 1, 1) := by decide +kernel
theorem dX6_readRank_31 : decode cX6_readRank 31 = .ok (.if_icmp .ne 15, 3) := by decide +kernel
theorem dX6_readRank_34 : decode cX6_readRank 34 = .ok (.aload_n 0, 1) := by decide +kernel
theorem dX6_readRank_35 : decode cX6_readRank 35 = .ok (.dup, 1) := by decide +kernel
theorem dX6_readRank_36 : decode cX6_readRank 36 = .ok (.getfield 105, 3) := by decide +kernel
theorem dX6_readRank_39 : decode cX6_readRank 39 = .ok (.iconst 1, 1) := by decide +kernel
theorem dX6_readRank_40 : decode cX6_readRank 40 = .ok (.isub, 1) := by decide +kernel
theorem dX6_readRank_41 : decode cX6_readRank 41 = .ok (.putfield 105, 3) := by decide +kernel
theorem dX6_readRank_44 : decode cX6_readRank 44 = .ok (.iconst 0, 1) := by decide +kernel
theorem dX6_readRank_45 : decode cX6_readRank 45 = .ok (.ireturn, 1) := by decide +kernel
theorem dX6_readRank_46 : decode cX6_readRank 46 = .ok (.iload_n 1, 1) := by decide +kernel
theorem dX6_readRank_47 : decode cX6_readRank 47 = .ok (.iconst 1, 1) := by decide +kernel
theorem dX6_readRank_48 : decode cX6_readRank 48 = .ok (.iload_n 3, 1) := by decide +kernel
theorem dX6_readRank_49 : decode cX6_readRank 49 = .ok (.ishl, 1) := by decide +kernel
theorem dX6_readRank_50 : decode cX6_readRank 50 = .ok (.ior, 1) := by decide +kernel
theorem dX6_readRank_51 : decode cX6_readRank 51 = .ok (.istore_n 1, 1) := by decide +kernel
theorem dX6_readRank_52 : decode cX6_readRank 52 = .ok (.aload_n 0, 1) := by decide +kernel
theorem dX6_readRank_53 : decode cX6_readRank 53 = .ok (.getfield 13, 3) := by decide +kernel
theorem dX6_readRank_56 : decode cX6_readRank 56 = .ok (.bipush 8, 2) := by decide +kernel
theorem dX6_readRank_58 : decode cX6_readRank 58 = .ok (.iload_n 2, 1) := by decide +kernel
theorem dX6_readRank_59 : decode cX6_readRank 59 = .ok (.iadd, 1) := by decide +kernel
theorem dX6_readRank_60 : decode cX6_readRank 60 = .ok (.iload_n 3, 1) := by decide +kernel
theorem dX6_readRank_61 : decode cX6_readRank 61 = .ok (.iastore, 1) := by decide +kernel
theorem dX6_readRank_62 : decode cX6_readRank 62 = .ok (.iinc 2 1, 3) := by decide +kernel
theorem dX6_readRank_65 : decode cX6_readRank 65 = .ok (.goto (-61), 3) := by decide +kernel
theorem dX6_readRank_68 : decode cX6_readRank 68 = .ok (.iconst 1, 1) := by decide +kernel
theorem dX6_readRank_69 : decode cX6_readRank 69 = .ok (.ireturn, 1) := by decide +kernel
set_option maxRecDepth 20000 in
theorem ggX6_readAll_X6_clear : GoodIn wsX6_readAll wsX6_clear := goodIn_r _ [7] (by decide +kernel) (by decide +kernel)
set_option maxRecDepth 20000 in
theorem gX6_readAll_X6_clear : GoodIn wsX6_readAll (va_wsS RX6 35 yX6_clear wsX6_clear) := goodIn_app (goodIn_of _ (by decide +kernel)) ggX6_readAll_X6_clear
set_option maxRecDepth 20000 in
theorem ggX6_readAll_X6_eat : GoodIn wsX6_readAll wsX6_eat := goodIn_r _ [11, 1, 3, 12, 51, 52, 53, 54, 55, 56, 57, 58, 59, 60, 61, 62, 63] (by decide +kernel) (by decide +kernel)
set_option maxRecDepth 20000 in
theorem gX6_readAll_X6_eat : GoodIn wsX6_readAll (wsV RX6 129 RX6 yX6_eat wsX6_eat) := goodIn_app (goodIn_of _ (by decide +kernel)) ggX6_readAll_X6_eat
set_option maxRecDepth 20000 in
theorem ggX6_readAll_X6_readSunset : GoodIn wsX6_readAll wsX6_readSunset := goodIn_r _ [16, 2, 17, 18, 19, 6, 20, 1, 3, 12, 21, 22, 23, 24, 51, 52, 53, 54, 55, 56, 57, 58, 59, 60, 61, 62, 63] (by decide +kernel) (by decide +kernel)
set_option maxRecDepth 20000 in
theorem gX6_readAll_X6_readSunset : GoodIn wsX6_readAll (wsV RX6 132 RX6 yX6_readSunset wsX6_readSunset) := goodIn_app (goodIn_of _ (by decide +kernel)) ggX6_readAll_X6_readSunset
set_option maxRecDepth 20000 in
theorem ggX6_readAll_X6_readDog : GoodIn wsX6_readAll wsX6_readDog := goodIn_r _ [28, 1, 2, 17, 18, 19, 6, 20, 3, 12, 21, 22, 23, 24, 29, 30, 31, 32, 33, 34, 35, 36, 37, 38, 39, 40, 41, 42, 43, 44, 45, 46, 51, 52, 53, 54, 55, 56, 57, 58, 59, 60, 61, 62, 63] (by decide +kernel) (by decide +kernel)
set_option maxRecDepth 20000 in
theorem gX6_readAll_X6_readDog : GoodIn wsX6_readAll (wsV RX6 136 RX6 yX6_readDog wsX6_readDog) := goodIn_app (goodIn_of _ (by decide +kernel)) ggX6_readAll_X6_readDog
set_option maxRecDepth 20000 in
theorem ggX6_readAll_X6_readRank : GoodIn wsX6_readAll wsX6_readRank := goodIn_r _ [50, 1, 2, 17, 18, 19, 6, 20, 3, 12, 21, 22, 23, 24, 51, 52, 53, 54, 55, 56, 57, 58, 59, 60, 61, 62, 63] (by decide +kernel) (by decide +kernel)
set_option maxRecDepth 20000 in
theorem gX6_readAll_X6_readRank : GoodIn wsX6_readAll (wsV RX6 139 RX6 yX6_readRank wsX6_readRank) := goodIn_app (goodIn_of _ (by decide +kernel)) ggX6_readAll_X6_readRank
theorem dX6_readAll_0 : decode cX6_readAll 0 = .ok (.aload_n 0, 1) := by decide +kernel
theorem dX6_readAll_1 : decode cX6_readAll 1 = .ok (.iconst 0, 1) := by decide +kernel
theorem dX6_readAll_2 : decode cX6_readAll 2 = .ok (.putfield 105, 3) := by decide +kernel
theorem dX6_readAll_5 : decode cX6_readAll 5 = .ok (.aload_n 0, 1) := by decide +kernel
theorem dX6_readAll_6 : decode cX6_readAll 6 = .ok (.getfield 13, 3) := by decide +kernel
theorem dX6_readAll_9 : decode cX6_readAll 9 = .ok (.invokestatic 35, 3) := by decide +kernel
theorem dX6_readAll_12 : decode cX6_readAll 12 = .ok (.aload_n 0, 1) := by decide +kernel
theorem dX6_readAll_13 : decode cX6_readAll 13 = .ok (.bipush 84, 2) := by decide +kernel
theorem dX6_readAll_15 : decode cX6_readAll 15 = .ok (.invokevirtual 129, 3) := by decide +kernel
theorem dX6_readAll_18 : decode cX6_readAll 18 = .ok (.ifCond .eq 10, 3) := by decide +kernel
theorem dX6_readAll_21 : decode cX6_readAll 21 = .ok (.aload_n 0, 1) := by decide +kernel
theorem dX6_readAll_22 : decode cX6_readAll 22 = .ok (.invokevirtual 132, 3) := by decide +kernel
theorem dX6_readAll_25 : decode cX6_readAll 25 = .ok (.ifCond .ne 5, 3) := by decide +kernel
theorem dX6_readAll_28 : decode cX6_readAll 28 = .ok (.iconst 0, 1) := by decide +kernel
theorem dX6_readAll_29 : decode cX6_readAll 29 = .ok (.ireturn, 1) := by decide +kernel
theorem dX6_readAll_30 : decode cX6_readAll 30 = .ok (.aload_n 0, 1) := by decide +kernel
theorem dX6_readAll_31 : decode cX6_readAll 31 = .ok (.getfield 13, 3) := by decide +kernel
theorem dX6_readAll_34 : decode cX6_readAll 34 = .ok (.bipush 7, 2) := by decide +kernel
theorem dX6_readAll_36 : decode cX6_readAll 36 = .ok (.iaload, 1) := by decide +kernel
theorem dX6_readAll_37 : decode cX6_readAll 37 = .ok (.bipush 12, 2) := by decide +kernel
theorem dX6_readAll_39 : decode cX6_readAll 39 = .ok (.if_icmp .ge 21, 3) := by decide +kernel
theorem dX6_readAll_42 : decode cX6_readAll 42 = .ok (.aload_n 0, 1) := by decide +kernel
theorem dX6_readAll_43 : decode cX6_readAll 43 = .ok (.bipush 100, 2) := by decide +kernel
theorem dX6_readAll_45 : decode cX6_readAll 45 = .ok (.invokevirtual 129, 3) := by decide +kernel
theorem dX6_readAll_48 : decode cX6_readAll 48 = .ok (.ifCond .eq 12, 3) := by decide +kernel
theorem dX6_readAll_51 : decode cX6_readAll 51 = .ok (.aload_n 0, 1) := by decide +kernel
theorem dX6_readAll_52 : decode cX6_readAll 52 = .ok (.invokevirtual 136, 3) := by decide +kernel
theorem dX6_readAll_55 : decode cX6_readAll 55 = .ok (.ifCond .ne (-25), 3) := by decide +kernel
theorem dX6_readAll_58 : decode cX6_readAll 58 = .ok (.iconst 0, 1) := by decide +kernel
theorem dX6_readAll_59 : decode cX6_readAll 59 = .ok (.ireturn, 1) := by decide +kernel
theorem dX6_readAll_60 : decode cX6_readAll 60 = .ok (.aload_n 0, 1) := by decide +kernel
theorem dX6_readAll_61 : decode cX6_readAll 61 = .ok (.bipush 114, 2) := by decide +kernel
theorem dX6_readAll_63 : decode cX6_readAll 63 = .ok (.invokevirtual 129, 3) := by decide +kernel
theorem dX6_readAll_66 : decode cX6_readAll 66 = .ok (.ifCond .eq 10, 3) := by decide +kernel
theorem dX6_readAll_69 : decode cX6_readAll 69 = .ok (.aload_n 0, 1) := by decide +kernel
theorem dX6_readAll_70 : decode cX6_readAll 70 = .ok (.invokevirtual 139, 3) := by decide +kernel
theorem dX6_readAll_73 : decode cX6_readAll 73 = .ok (.ifCond .eq 18, 3) := by decide +kernel
theorem dX6_readAll_76 : decode cX6_readAll 76 = .ok (.aload_n 0, 1) := by decide +kernel
theorem dX6_readAll_77 : decode cX6_readAll 77 = .ok (.getfield 105, 3) := by decide +kernel
theorem dX6_readAll_80 : decode cX6_readAll 80 = .ok (.aload_n 0, 1) := by decide +kernel
theorem dX6_readAll_81 : decode cX6_readAll 81 = .ok (.getfield 99, 3) := by decide +kernel
theorem dX6_readAll_84 : decode cX6_readAll 84 = .ok (.if_icmp .ne 7, 3) := by decide +kernel
theorem dX6_readAll_87 : decode cX6_readAll 87 = .ok (.iconst 1, 1) := by decide +kernel
theorem dX6_readAll_88 : decode cX6_readAll 88 = .ok (.goto 4, 3) := by decide +kernel
theorem dX6_readAll_91 : decode cX6_readAll 91 = .ok (.iconst 0, 1) := by decide +kernel
theorem dX6_readAll_92 : decode cX6_readAll 92 = .ok (.ireturn, 1) := by decide +kernel
set_option maxRecDepth 20000 in
theorem ggX6_errorPosition_X6_readAll : GoodIn wsX6_errorPosition wsX6_readAll := goodIn_r _ [7, 2, 8, 9, 10, 11, 6, 12, 13, 14, 15, 16, 17, 18, 19, 20, 21, 22, 23, 24, 25, 26, 27, 28, 29, 30, 31, 32, 33, 34, 35, 36, 37, 38, 39, 40, 41, 42, 43, 44, 45, 46, 47, 48, 49, 50, 51, 52, 53, 54, 55, 56, 57, 58, 59, 60, 61, 62, 63, 64, 65, 66, 67, 68] (by decide +kernel) (by decide +kernel)
set_option maxRecDepth 20000 in
theorem gX6_errorPosition_X6_readAll : GoodIn wsX6_errorPosition (wsV RX6 142 RX6 yX6_readAll wsX6_readAll) := goodIn_app (goodIn_of _ (by decide +kernel)) ggX6_errorPosition_X6_readAll
theorem dX6_errorPosition_0 : decode cX6_errorPosition 0 = .ok (.aload_n 0, 1) := by decide +kernel
theorem dX6_errorPosition_1 : decode cX6_errorPosition 1 = .ok (.iconst 0, 1) := by decide +kernel
theorem dX6_errorPosition_2 : decode cX6_errorPosition 2 = .ok (.putfield 39, 3) := by decide +kernel
theorem dX6_errorPosition_5 : decode cX6_errorPosition 5 = .ok (.aload_n 0, 1) := by decide +kernel
theorem dX6_errorPosition_6 : decode cX6_errorPosition 6 = .ok (.invokevirtual 142, 3) := by decide +kernel
theorem dX6_errorPosition_9 : decode cX6_errorPosition 9 = .ok (.ifCond .eq 8, 3) := by decide +kernel
theorem dX6_errorPosition_12 : decode cX6_errorPosition 12 = .ok (.bipush (-9), 2) := by decide +kernel
theorem dX6_errorPosition_14 : decode cX6_errorPosition 14 = .ok (.goto 7, 3) := by decide +kernel
theorem dX6_errorPosition_17 : decode cX6_errorPosition 17 = .ok (.aload_n 0, 1) := by decide +kernel
theorem dX6_errorPosition_18 : decode cX6_errorPosition 18 = .ok (.getfield 105, 3) := by decide +kernel
theorem dX6_errorPosition_21 : decode cX6_errorPosition 21 = .ok (.ireturn, 1) := by decide +kernel
set_option maxRecDepth 20000 in
theorem ggX6_load_X6_readAll : GoodIn wsX6_load wsX6_readAll := goodIn_r _ [9, 10, 1, 11, 12, 13, 8, 14, 15, 16, 17, 18, 19, 20, 21, 22, 23, 24, 25, 26, 27, 28, 29, 30, 31, 32, 33, 34, 35, 36, 37, 38, 39, 40, 41, 42, 43, 44, 45, 46, 47, 48, 49, 50, 51, 52, 53, 54, 55, 56, 57, 66, 67, 68, 69, 70, 71, 72, 73, 74, 75, 76, 77, 78] (by decide +kernel) (by decide +kernel)
set_option maxRecDepth 20000 in
theorem gX6_load_X6_readAll : GoodIn wsX6_load (wsV RX6 142 RX6 yX6_readAll wsX6_readAll) := goodIn_app (goodIn_of _ (by decide +kernel)) ggX6_load_X6_readAll
set_option maxRecDepth 20000 in
theorem ggX6_load_X6_refused : GoodIn wsX6_load wsX6_refused := goodIn_r _ [61, 62, 66, 67, 68, 69, 70, 71, 72, 73, 74, 75, 76, 77, 78] (by decide +kernel) (by decide +kernel)
set_option maxRecDepth 20000 in
theorem gX6_load_X6_refused : GoodIn wsX6_load (wsV RX6 102 RX6 yX6_refused wsX6_refused) := goodIn_app (goodIn_of _ (by decide +kernel)) ggX6_load_X6_refused
set_option maxRecDepth 20000 in
theorem ggX6_load_X6_copyPage : GoodIn wsX6_load wsX6_copyPage := goodIn_r _ [65] (by decide +kernel) (by decide +kernel)
set_option maxRecDepth 20000 in
theorem gX6_load_X6_copyPage : GoodIn wsX6_load (va_wsS RX6 145 yX6_copyPage wsX6_copyPage) := goodIn_app (goodIn_of _ (by decide +kernel)) ggX6_load_X6_copyPage
theorem dX6_load_0 : decode cX6_load 0 = .ok (.aload_n 0, 1) := by decide +kernel
theorem dX6_load_1 : decode cX6_load 1 = .ok (.aload_n 0, 1) := by decide +kernel
theorem dX6_load_2 : decode cX6_load 2 = .ok (.invokevirtual 142, 3) := by decide +kernel
theorem dX6_load_5 : decode cX6_load 5 = .ok (.ifCond .eq 7, 3) := by decide +kernel
theorem dX6_load_8 : decode cX6_load 8 = .ok (.iconst 0, 1) := by decide +kernel
theorem dX6_load_9 : decode cX6_load 9 = .ok (.goto 4, 3) := by decide +kernel
theorem dX6_load_12 : decode cX6_load 12 = .ok (.iconst 1, 1) := by decide +kernel
theorem dX6_load_13 : decode cX6_load 13 = .ok (.invokevirtual 102, 3) := by decide +kernel
theorem dX6_load_16 : decode cX6_load 16 = .ok (.ifCond .eq 5, 3) := by decide +kernel
theorem dX6_load_19 : decode cX6_load 19 = .ok (.iconst 0, 1) := by decide +kernel
theorem dX6_load_20 : decode cX6_load 20 = .ok (.ireturn, 1) := by decide +kernel
theorem dX6_load_21 : decode cX6_load 21 = .ok (.aload_n 0, 1) := by decide +kernel
theorem dX6_load_22 : decode cX6_load 22 = .ok (.getfield 13, 3) := by decide +kernel
theorem dX6_load_25 : decode cX6_load 25 = .ok (.iconst 0, 1) := by decide +kernel
theorem dX6_load_26 : decode cX6_load 26 = .ok (.aload_n 0, 1) := by decide +kernel
theorem dX6_load_27 : decode cX6_load 27 = .ok (.getfield 16, 3) := by decide +kernel
theorem dX6_load_30 : decode cX6_load 30 = .ok (.iconst 0, 1) := by decide +kernel
theorem dX6_load_31 : decode cX6_load 31 = .ok (.invokestatic 145, 3) := by decide +kernel
theorem dX6_load_34 : decode cX6_load 34 = .ok (.aload_n 0, 1) := by decide +kernel
theorem dX6_load_35 : decode cX6_load 35 = .ok (.iconst 0, 1) := by decide +kernel
theorem dX6_load_36 : decode cX6_load 36 = .ok (.putfield 149, 3) := by decide +kernel
theorem dX6_load_39 : decode cX6_load 39 = .ok (.aload_n 0, 1) := by decide +kernel
theorem dX6_load_40 : decode cX6_load 40 = .ok (.getfield 28, 3) := by decide +kernel
theorem dX6_load_43 : decode cX6_load 43 = .ok (.iconst 0, 1) := by decide +kernel
theorem dX6_load_44 : decode cX6_load 44 = .ok (.iconst 0, 1) := by decide +kernel
theorem dX6_load_45 : decode cX6_load 45 = .ok (.bastore, 1) := by decide +kernel
theorem dX6_load_46 : decode cX6_load 46 = .ok (.aload_n 0, 1) := by decide +kernel
theorem dX6_load_47 : decode cX6_load 47 = .ok (.getfield 28, 3) := by decide +kernel
theorem dX6_load_50 : decode cX6_load 50 = .ok (.iconst 1, 1) := by decide +kernel
theorem dX6_load_51 : decode cX6_load 51 = .ok (.iconst 0, 1) := by decide +kernel
theorem dX6_load_52 : decode cX6_load 52 = .ok (.bastore, 1) := by decide +kernel
theorem dX6_load_53 : decode cX6_load 53 = .ok (.aload_n 0, 1) := by decide +kernel
theorem dX6_load_54 : decode cX6_load 54 = .ok (.getfield 16, 3) := by decide +kernel
theorem dX6_load_57 : decode cX6_load 57 = .ok (.bipush 7, 2) := by decide +kernel
theorem dX6_load_59 : decode cX6_load 59 = .ok (.iaload, 1) := by decide +kernel
theorem dX6_load_60 : decode cX6_load 60 = .ok (.ireturn, 1) := by decide +kernel
set_option maxRecDepth 20000 in
theorem ggX6_gone_X6_stateOf : GoodIn wsX6_gone wsX6_stateOf := goodIn_r _ [5, 6, 7, 4, 8] (by decide +kernel) (by decide +kernel)
set_option maxRecDepth 20000 in
theorem gX6_gone_X6_stateOf : GoodIn wsX6_gone (va_wsS RX6 47 yX6_stateOf wsX6_stateOf) := goodIn_app (goodIn_of _ (by decide +kernel)) ggX6_gone_X6_stateOf
theorem dX6_gone_0 : decode cX6_gone 0 = .ok (.iconst 0, 1) := by decide +kernel
theorem dX6_gone_1 : decode cX6_gone 1 = .ok (.istore_n 1, 1) := by decide +kernel
theorem dX6_gone_2 : decode cX6_gone 2 = .ok (.iconst 0, 1) := by decide +kernel
theorem dX6_gone_3 : decode cX6_gone 3 = .ok (.istore_n 2, 1) := by decide +kernel
theorem dX6_gone_4 : decode cX6_gone 4 = .ok (.iload_n 2, 1) := by decide +kernel
theorem dX6_gone_5 : decode cX6_gone 5 = .ok (.aload_n 0, 1) := by decide +kernel
theorem dX6_gone_6 : decode cX6_gone 6 = .ok (.getfield 16, 3) := by decide +kernel
theorem dX6_gone_9 : decode cX6_gone 9 = .ok (.bipush 7, 2) := by decide +kernel
theorem dX6_gone_11 : decode cX6_gone 11 = .ok (.iaload, 1) := by decide +kernel
theorem dX6_gone_12 : decode cX6_gone 12 = .ok (.if_icmp .ge 29, 3) := by decide +kernel
theorem dX6_gone_15 : decode cX6_gone 15 = .ok (.iload_n 1, 1) := by decide +kernel
theorem dX6_gone_16 : decode cX6_gone 16 = .ok (.aload_n 0, 1) := by decide +kernel
theorem dX6_gone_17 : decode cX6_gone 17 = .ok (.getfield 16, 3) := by decide +kernel
theorem dX6_gone_20 : decode cX6_gone 20 = .ok (.iload_n 2, 1) := by decide +kernel
theorem dX6_gone_21 : decode cX6_gone 21 = .ok (.invokestatic 47, 3) := by decide +kernel
theorem dX6_gone_24 : decode cX6_gone 24 = .ok (.iconst 3, 1) := by decide +kernel
theorem dX6_gone_25 : decode cX6_gone 25 = .ok (.if_icmp .ne 7, 3) := by decide +kernel
theorem dX6_gone_28 : decode cX6_gone 28 = .ok (.iconst 1, 1) := by decide +kernel
theorem dX6_gone_29 : decode cX6_gone 29 = .ok (.goto 4, 3) := by decide +kernel
theorem dX6_gone_32 : decode cX6_gone 32 = .ok (.iconst 0, 1) := by decide +kernel
theorem dX6_gone_33 : decode cX6_gone 33 = .ok (.iadd, 1) := by decide +kernel
theorem dX6_gone_34 : decode cX6_gone 34 = .ok (.istore_n 1, 1) := by decide +kernel
theorem dX6_gone_35 : decode cX6_gone 35 = .ok (.iinc 2 1, 3) := by decide +kernel
theorem dX6_gone_38 : decode cX6_gone 38 = .ok (.goto (-34), 3) := by decide +kernel
theorem dX6_gone_41 : decode cX6_gone 41 = .ok (.iload_n 1, 1) := by decide +kernel
theorem dX6_gone_42 : decode cX6_gone 42 = .ok (.ireturn, 1) := by decide +kernel
set_option maxRecDepth 20000 in
theorem ggX6_about_X6_in : GoodIn wsX6_about wsX6_in := goodIn_r _ [6] (by decide +kernel) (by decide +kernel)
set_option maxRecDepth 20000 in
theorem gX6_about_X6_in : GoodIn wsX6_about (va_wsS RX6 51 yX6_in wsX6_in) := goodIn_app (goodIn_of _ (by decide +kernel)) ggX6_about_X6_in
set_option maxRecDepth 20000 in
theorem ggX6_about_X6_refused : GoodIn wsX6_about wsX6_refused := goodIn_r _ [10, 11, 34, 35, 36, 37, 38, 39, 40, 41, 42, 43, 44, 45, 46] (by decide +kernel) (by decide +kernel)
set_option maxRecDepth 20000 in
theorem gX6_about_X6_refused : GoodIn wsX6_about (wsV RX6 102 RX6 yX6_refused wsX6_refused) := goodIn_app (goodIn_of _ (by decide +kernel)) ggX6_about_X6_refused
set_option maxRecDepth 20000 in
theorem ggX6_about_X6_waiting : GoodIn wsX6_about wsX6_waiting := goodIn_r _ [14, 15, 16, 5, 17, 18, 19, 20, 21, 22, 23] (by decide +kernel) (by decide +kernel)
set_option maxRecDepth 20000 in
theorem gX6_about_X6_waiting : GoodIn wsX6_about (va_wsS RX6 91 yX6_waiting wsX6_waiting) := goodIn_app (goodIn_of _ (by decide +kernel)) ggX6_about_X6_waiting
set_option maxRecDepth 20000 in
theorem ggX6_about_X6_runners : GoodIn wsX6_about wsX6_runners := goodIn_r _ [26, 27, 28, 5, 29, 21, 22, 23] (by decide +kernel) (by decide +kernel)
set_option maxRecDepth 20000 in
theorem gX6_about_X6_runners : GoodIn wsX6_about (va_wsS RX6 154 yX6_runners wsX6_runners) := goodIn_app (goodIn_of _ (by decide +kernel)) ggX6_about_X6_runners
set_option maxRecDepth 20000 in
theorem ggX6_about_X6_gone : GoodIn wsX6_about wsX6_gone := goodIn_r _ [33, 2, 18, 19, 5, 20, 21, 22, 23, 34, 35, 36, 37, 38, 39, 40, 41, 42, 43, 44, 45, 46] (by decide +kernel) (by decide +kernel)
set_option maxRecDepth 20000 in
theorem gX6_about_X6_gone : GoodIn wsX6_about (wsV RX6 157 RX6 yX6_gone wsX6_gone) := goodIn_app (goodIn_of _ (by decide +kernel)) ggX6_about_X6_gone
theorem dX6_about_0 : decode cX6_about 0 = .ok (.aload_n 0, 1) := by decide +kernel
theorem dX6_about_1 : decode cX6_about 1 = .ok (.iload_n 1, 1) := by decide +kernel
theorem dX6_about_2 : decode cX6_about 2 = .ok (.i2l, 1) := by decide +kernel
theorem dX6_about_3 : decode cX6_about 3 = .ok (.lconst 0, 1) := by decide +kernel
theorem dX6_about_4 : decode cX6_about 4 = .ok (.ldc2_w 152, 3) := by decide +kernel
theorem dX6_about_7 : decode cX6_about 7 = .ok (.invokestatic 51, 3) := by decide +kernel
theorem dX6_about_10 : decode cX6_about 10 = .ok (.ifCond .eq 7, 3) := by decide +kernel
theorem dX6_about_13 : decode cX6_about 13 = .ok (.iconst 0, 1) := by decide +kernel
theorem dX6_about_14 : decode cX6_about 14 = .ok (.goto 4, 3) := by decide +kernel
theorem dX6_about_17 : decode cX6_about 17 = .ok (.iconst 1, 1) := by decide +kernel
theorem dX6_about_18 : decode cX6_about 18 = .ok (.invokevirtual 102, 3) := by decide +kernel
theorem dX6_about_21 : decode cX6_about 21 = .ok (.ifCond .eq 5, 3) := by decide +kernel
theorem dX6_about_24 : decode cX6_about 24 = .ok (.iconst 0, 1) := by decide +kernel
theorem dX6_about_25 : decode cX6_about 25 = .ok (.ireturn, 1) := by decide +kernel
theorem dX6_about_26 : decode cX6_about 26 = .ok (.iload_n 1, 1) := by decide +kernel
theorem dX6_about_27 : decode cX6_about 27 = .ok (.tableswitch 95 0 10 #[57, 65, 73, 81, 86, 86, 86, 86, 86, 86, 86], 57) := by decide +kernel
theorem dX6_about_84 : decode cX6_about 84 = .ok (.aload_n 0, 1) := by decide +kernel
theorem dX6_about_85 : decode cX6_about 85 = .ok (.getfield 16, 3) := by decide +kernel
theorem dX6_about_88 : decode cX6_about 88 = .ok (.bipush 7, 2) := by decide +kernel
theorem dX6_about_90 : decode cX6_about 90 = .ok (.iaload, 1) := by decide +kernel
theorem dX6_about_91 : decode cX6_about 91 = .ok (.ireturn, 1) := by decide +kernel
theorem dX6_about_92 : decode cX6_about 92 = .ok (.aload_n 0, 1) := by decide +kernel
theorem dX6_about_93 : decode cX6_about 93 = .ok (.getfield 16, 3) := by decide +kernel
theorem dX6_about_96 : decode cX6_about 96 = .ok (.invokestatic 91, 3) := by decide +kernel
theorem dX6_about_99 : decode cX6_about 99 = .ok (.ireturn, 1) := by decide +kernel
theorem dX6_about_100 : decode cX6_about 100 = .ok (.aload_n 0, 1) := by decide +kernel
theorem dX6_about_101 : decode cX6_about 101 = .ok (.getfield 16, 3) := by decide +kernel
theorem dX6_about_104 : decode cX6_about 104 = .ok (.invokestatic 154, 3) := by decide +kernel
theorem dX6_about_107 : decode cX6_about 107 = .ok (.ireturn, 1) := by decide +kernel
theorem dX6_about_108 : decode cX6_about 108 = .ok (.aload_n 0, 1) := by decide +kernel
theorem dX6_about_109 : decode cX6_about 109 = .ok (.invokevirtual 157, 3) := by decide +kernel
theorem dX6_about_112 : decode cX6_about 112 = .ok (.ireturn, 1) := by decide +kernel
theorem dX6_about_113 : decode cX6_about 113 = .ok (.aload_n 0, 1) := by decide +kernel
theorem dX6_about_114 : decode cX6_about 114 = .ok (.getfield 16, 3) := by decide +kernel
theorem dX6_about_117 : decode cX6_about 117 = .ok (.iload_n 1, 1) := by decide +kernel
theorem dX6_about_118 : decode cX6_about 118 = .ok (.iconst 4, 1) := by decide +kernel
theorem dX6_about_119 : decode cX6_about 119 = .ok (.isub, 1) := by decide +kernel
theorem dX6_about_120 : decode cX6_about 120 = .ok (.iaload, 1) := by decide +kernel
theorem dX6_about_121 : decode cX6_about 121 = .ok (.ireturn, 1) := by decide +kernel
theorem dX6_about_122 : decode cX6_about 122 = .ok (.aload_n 0, 1) := by decide +kernel
theorem dX6_about_123 : decode cX6_about 123 = .ok (.getfield 16, 3) := by decide +kernel
theorem dX6_about_126 : decode cX6_about 126 = .ok (.bipush 8, 2) := by decide +kernel
theorem dX6_about_128 : decode cX6_about 128 = .ok (.iload_n 1, 1) := by decide +kernel
theorem dX6_about_129 : decode cX6_about 129 = .ok (.iadd, 1) := by decide +kernel
theorem dX6_about_130 : decode cX6_about 130 = .ok (.bipush 11, 2) := by decide +kernel
theorem dX6_about_132 : decode cX6_about 132 = .ok (.isub, 1) := by decide +kernel
theorem dX6_about_133 : decode cX6_about 133 = .ok (.iaload, 1) := by decide +kernel
theorem dX6_about_134 : decode cX6_about 134 = .ok (.ireturn, 1) := by decide +kernel
set_option maxRecDepth 20000 in
theorem ggX6_inOrder_X6_layRow : GoodIn wsX6_inOrder wsX6_layRow := goodIn_r _ [8, 2, 3, 9, 10, 7, 11, 12, 13, 14, 15, 16, 17, 18, 19, 20, 21, 22, 23, 24, 25, 26, 27, 28, 29, 30, 31, 32, 33, 34, 35] (by decide +kernel) (by decide +kernel)
set_option maxRecDepth 20000 in
theorem gX6_inOrder_X6_layRow : GoodIn wsX6_inOrder (wsV RX6 88 RX6 yX6_layRow wsX6_layRow) := goodIn_app (goodIn_of _ (by decide +kernel)) ggX6_inOrder_X6_layRow
theorem dX6_inOrder_0 : decode cX6_inOrder 0 = .ok (.aload_n 0, 1) := by decide +kernel
theorem dX6_inOrder_1 : decode cX6_inOrder 1 = .ok (.aload_n 0, 1) := by decide +kernel
theorem dX6_inOrder_2 : decode cX6_inOrder 2 = .ok (.getfield 16, 3) := by decide +kernel
theorem dX6_inOrder_5 : decode cX6_inOrder 5 = .ok (.invokevirtual 88, 3) := by decide +kernel
theorem dX6_inOrder_8 : decode cX6_inOrder 8 = .ok (.iconst 0, 1) := by decide +kernel
theorem dX6_inOrder_9 : decode cX6_inOrder 9 = .ok (.istore_n 2, 1) := by decide +kernel
theorem dX6_inOrder_10 : decode cX6_inOrder 10 = .ok (.iload_n 2, 1) := by decide +kernel
theorem dX6_inOrder_11 : decode cX6_inOrder 11 = .ok (.aload_n 0, 1) := by decide +kernel
theorem dX6_inOrder_12 : decode cX6_inOrder 12 = .ok (.getfield 78, 3) := by decide +kernel
theorem dX6_inOrder_15 : decode cX6_inOrder 15 = .ok (.if_icmp .ge 21, 3) := by decide +kernel
theorem dX6_inOrder_18 : decode cX6_inOrder 18 = .ok (.aload_n 0, 1) := by decide +kernel
theorem dX6_inOrder_19 : decode cX6_inOrder 19 = .ok (.getfield 32, 3) := by decide +kernel
theorem dX6_inOrder_22 : decode cX6_inOrder 22 = .ok (.iload_n 2, 1) := by decide +kernel
theorem dX6_inOrder_23 : decode cX6_inOrder 23 = .ok (.iaload, 1) := by decide +kernel
theorem dX6_inOrder_24 : decode cX6_inOrder 24 = .ok (.iload_n 1, 1) := by decide +kernel
theorem dX6_inOrder_25 : decode cX6_inOrder 25 = .ok (.if_icmp .ne 5, 3) := by decide +kernel
theorem dX6_inOrder_28 : decode cX6_inOrder 28 = .ok (.iload_n 2, 1) := by decide +kernel
theorem dX6_inOrder_29 : decode cX6_inOrder 29 = .ok (.ireturn, 1) := by decide +kernel
theorem dX6_inOrder_30 : decode cX6_inOrder 30 = .ok (.iinc 2 1, 3) := by decide +kernel
theorem dX6_inOrder_33 : decode cX6_inOrder 33 = .ok (.goto (-23), 3) := by decide +kernel
theorem dX6_inOrder_36 : decode cX6_inOrder 36 = .ok (.bipush (-9), 2) := by decide +kernel
theorem dX6_inOrder_38 : decode cX6_inOrder 38 = .ok (.ireturn, 1) := by decide +kernel
set_option maxRecDepth 20000 in
theorem ggX6_dog_X6_isDog : GoodIn wsX6_dog wsX6_isDog := goodIn_r _ [6, 7, 8, 5, 9] (by decide +kernel) (by decide +kernel)
set_option maxRecDepth 20000 in
theorem gX6_dog_X6_isDog : GoodIn wsX6_dog (va_wsS RX6 161 yX6_isDog wsX6_isDog) := goodIn_app (goodIn_of _ (by decide +kernel)) ggX6_dog_X6_isDog
set_option maxRecDepth 20000 in
theorem ggX6_dog_X6_in : GoodIn wsX6_dog wsX6_in := goodIn_r _ [9] (by decide +kernel) (by decide +kernel)
set_option maxRecDepth 20000 in
theorem gX6_dog_X6_in : GoodIn wsX6_dog (va_wsS RX6 51 yX6_in wsX6_in) := goodIn_app (goodIn_of _ (by decide +kernel)) ggX6_dog_X6_in
set_option maxRecDepth 20000 in
theorem ggX6_dog_X6_refused : GoodIn wsX6_dog wsX6_refused := goodIn_r _ [13, 14, 57, 58, 59, 60, 61, 62, 63, 64, 65, 66, 67, 68, 69] (by decide +kernel) (by decide +kernel)
set_option maxRecDepth 20000 in
theorem gX6_dog_X6_refused : GoodIn wsX6_dog (wsV RX6 102 RX6 yX6_refused wsX6_refused) := goodIn_app (goodIn_of _ (by decide +kernel)) ggX6_dog_X6_refused
set_option maxRecDepth 20000 in
theorem ggX6_dog_X6_score : GoodIn wsX6_dog wsX6_score := goodIn_r _ [17, 18, 19, 5, 20, 21, 22, 23, 24, 25, 26, 27, 28, 29] (by decide +kernel) (by decide +kernel)
set_option maxRecDepth 20000 in
theorem gX6_dog_X6_score : GoodIn wsX6_dog (va_wsS RX6 68 yX6_score wsX6_score) := goodIn_app (goodIn_of _ (by decide +kernel)) ggX6_dog_X6_score
set_option maxRecDepth 20000 in
theorem ggX6_dog_X6_dogAt : GoodIn wsX6_dog wsX6_dogAt := goodIn_r _ [23] (by decide +kernel) (by decide +kernel)
set_option maxRecDepth 20000 in
theorem gX6_dog_X6_dogAt : GoodIn wsX6_dog (va_wsS RX6 43 yX6_dogAt wsX6_dogAt) := goodIn_app (goodIn_of _ (by decide +kernel)) ggX6_dog_X6_dogAt
set_option maxRecDepth 20000 in
theorem ggX6_dog_X6_placeOf : GoodIn wsX6_dog wsX6_placeOf := goodIn_r _ [32, 18, 19, 5, 20, 21, 22, 23, 33, 34, 35, 15, 16, 17, 24, 25, 26, 27, 28, 29] (by decide +kernel) (by decide +kernel)
set_option maxRecDepth 20000 in
theorem gX6_dog_X6_placeOf : GoodIn wsX6_dog (va_wsS RX6 166 yX6_placeOf wsX6_placeOf) := goodIn_app (goodIn_of _ (by decide +kernel)) ggX6_dog_X6_placeOf
set_option maxRecDepth 20000 in
theorem ggX6_dog_X6_inOrder : GoodIn wsX6_dog wsX6_inOrder := goodIn_r _ [39, 1, 40, 41, 42, 43, 44, 5, 45, 21, 22, 23, 46, 47, 48, 49, 50, 51, 52, 53, 54, 55, 56, 57, 58, 59, 60, 61, 62, 63, 64, 65, 66, 67, 68, 69] (by decide +kernel) (by decide +kernel)
set_option maxRecDepth 20000 in
theorem gX6_dog_X6_inOrder : GoodIn wsX6_dog (wsV RX6 169 RX6 yX6_inOrder wsX6_inOrder) := goodIn_app (goodIn_of _ (by decide +kernel)) ggX6_dog_X6_inOrder
theorem dX6_dog_0 : decode cX6_dog 0 = .ok (.aload_n 0, 1) := by decide +kernel
theorem dX6_dog_1 : decode cX6_dog 1 = .ok (.aload_n 0, 1) := by decide +kernel
theorem dX6_dog_2 : decode cX6_dog 2 = .ok (.getfield 16, 3) := by decide +kernel
theorem dX6_dog_5 : decode cX6_dog 5 = .ok (.iload_n 1, 1) := by decide +kernel
theorem dX6_dog_6 : decode cX6_dog 6 = .ok (.invokestatic 161, 3) := by decide +kernel
theorem dX6_dog_9 : decode cX6_dog 9 = .ok (.ifCond .ne 7, 3) := by decide +kernel
theorem dX6_dog_12 : decode cX6_dog 12 = .ok (.iconst 1, 1) := by decide +kernel
theorem dX6_dog_13 : decode cX6_dog 13 = .ok (.goto 20, 3) := by decide +kernel
theorem dX6_dog_16 : decode cX6_dog 16 = .ok (.iload_n 2, 1) := by decide +kernel
theorem dX6_dog_17 : decode cX6_dog 17 = .ok (.i2l, 1) := by decide +kernel
theorem dX6_dog_18 : decode cX6_dog 18 = .ok (.lconst 0, 1) := by decide +kernel
theorem dX6_dog_19 : decode cX6_dog 19 = .ok (.ldc2_w 164, 3) := by decide +kernel
theorem dX6_dog_22 : decode cX6_dog 22 = .ok (.invokestatic 51, 3) := by decide +kernel
theorem dX6_dog_25 : decode cX6_dog 25 = .ok (.ifCond .ne 7, 3) := by decide +kernel
theorem dX6_dog_28 : decode cX6_dog 28 = .ok (.iconst 2, 1) := by decide +kernel
theorem dX6_dog_29 : decode cX6_dog 29 = .ok (.goto 4, 3) := by decide +kernel
theorem dX6_dog_32 : decode cX6_dog 32 = .ok (.iconst 0, 1) := by decide +kernel
theorem dX6_dog_33 : decode cX6_dog 33 = .ok (.invokevirtual 102, 3) := by decide +kernel
theorem dX6_dog_36 : decode cX6_dog 36 = .ok (.ifCond .eq 5, 3) := by decide +kernel
theorem dX6_dog_39 : decode cX6_dog 39 = .ok (.iconst 0, 1) := by decide +kernel
theorem dX6_dog_40 : decode cX6_dog 40 = .ok (.ireturn, 1) := by decide +kernel
theorem dX6_dog_41 : decode cX6_dog 41 = .ok (.iload_n 2, 1) := by decide +kernel
theorem dX6_dog_42 : decode cX6_dog 42 = .ok (.tableswitch 66 4 7 #[30, 39, 51, 60], 30) := by decide +kernel
theorem dX6_dog_72 : decode cX6_dog 72 = .ok (.aload_n 0, 1) := by decide +kernel
theorem dX6_dog_73 : decode cX6_dog 73 = .ok (.getfield 16, 3) := by decide +kernel
theorem dX6_dog_76 : decode cX6_dog 76 = .ok (.iload_n 1, 1) := by decide +kernel
theorem dX6_dog_77 : decode cX6_dog 77 = .ok (.invokestatic 68, 3) := by decide +kernel
theorem dX6_dog_80 : decode cX6_dog 80 = .ok (.ireturn, 1) := by decide +kernel
theorem dX6_dog_81 : decode cX6_dog 81 = .ok (.aload_n 0, 1) := by decide +kernel
theorem dX6_dog_82 : decode cX6_dog 82 = .ok (.getfield 16, 3) := by decide +kernel
theorem dX6_dog_85 : decode cX6_dog 85 = .ok (.iload_n 1, 1) := by decide +kernel
theorem dX6_dog_86 : decode cX6_dog 86 = .ok (.invokestatic 43, 3) := by decide +kernel
theorem dX6_dog_89 : decode cX6_dog 89 = .ok (.iconst 4, 1) := by decide +kernel
theorem dX6_dog_90 : decode cX6_dog 90 = .ok (.iadd, 1) := by decide +kernel
theorem dX6_dog_91 : decode cX6_dog 91 = .ok (.iaload, 1) := by decide +kernel
theorem dX6_dog_92 : decode cX6_dog 92 = .ok (.ireturn, 1) := by decide +kernel
theorem dX6_dog_93 : decode cX6_dog 93 = .ok (.aload_n 0, 1) := by decide +kernel
theorem dX6_dog_94 : decode cX6_dog 94 = .ok (.getfield 16, 3) := by decide +kernel
theorem dX6_dog_97 : decode cX6_dog 97 = .ok (.iload_n 1, 1) := by decide +kernel
theorem dX6_dog_98 : decode cX6_dog 98 = .ok (.invokestatic 166, 3) := by decide +kernel
theorem dX6_dog_101 : decode cX6_dog 101 = .ok (.ireturn, 1) := by decide +kernel
theorem dX6_dog_102 : decode cX6_dog 102 = .ok (.aload_n 0, 1) := by decide +kernel
theorem dX6_dog_103 : decode cX6_dog 103 = .ok (.iload_n 1, 1) := by decide +kernel
theorem dX6_dog_104 : decode cX6_dog 104 = .ok (.invokevirtual 169, 3) := by decide +kernel
theorem dX6_dog_107 : decode cX6_dog 107 = .ok (.ireturn, 1) := by decide +kernel
theorem dX6_dog_108 : decode cX6_dog 108 = .ok (.aload_n 0, 1) := by decide +kernel
theorem dX6_dog_109 : decode cX6_dog 109 = .ok (.getfield 16, 3) := by decide +kernel
theorem dX6_dog_112 : decode cX6_dog 112 = .ok (.iload_n 1, 1) := by decide +kernel
theorem dX6_dog_113 : decode cX6_dog 113 = .ok (.invokestatic 43, 3) := by decide +kernel
theorem dX6_dog_116 : decode cX6_dog 116 = .ok (.iload_n 2, 1) := by decide +kernel
theorem dX6_dog_117 : decode cX6_dog 117 = .ok (.iadd, 1) := by decide +kernel
theorem dX6_dog_118 : decode cX6_dog 118 = .ok (.iaload, 1) := by decide +kernel
theorem dX6_dog_119 : decode cX6_dog 119 = .ok (.ireturn, 1) := by decide +kernel
set_option maxRecDepth 20000 in
theorem ggX6_lost_X6_isDog : GoodIn wsX6_lost wsX6_isDog := goodIn_r _ [5, 6, 7, 4, 8] (by decide +kernel) (by decide +kernel)
set_option maxRecDepth 20000 in
theorem gX6_lost_X6_isDog : GoodIn wsX6_lost (va_wsS RX6 161 yX6_isDog wsX6_isDog) := goodIn_app (goodIn_of _ (by decide +kernel)) ggX6_lost_X6_isDog
set_option maxRecDepth 20000 in
theorem ggX6_lost_X6_isPhase : GoodIn wsX6_lost wsX6_isPhase := goodIn_r _ [11, 12, 6, 7, 4, 8] (by decide +kernel) (by decide +kernel)
set_option maxRecDepth 20000 in
theorem gX6_lost_X6_isPhase : GoodIn wsX6_lost (va_wsS RX6 172 yX6_isPhase wsX6_isPhase) := goodIn_app (goodIn_of _ (by decide +kernel)) ggX6_lost_X6_isPhase
set_option maxRecDepth 20000 in
theorem ggX6_lost_X6_refused : GoodIn wsX6_lost wsX6_refused := goodIn_r _ [16, 17, 30, 31, 32, 33, 34, 35, 36, 37, 38, 39, 40, 41, 42] (by decide +kernel) (by decide +kernel)
set_option maxRecDepth 20000 in
theorem gX6_lost_X6_refused : GoodIn wsX6_lost (wsV RX6 102 RX6 yX6_refused wsX6_refused) := goodIn_app (goodIn_of _ (by decide +kernel)) ggX6_lost_X6_refused
set_option maxRecDepth 20000 in
theorem ggX6_lost_X6_hasRun : GoodIn wsX6_lost wsX6_hasRun := goodIn_r _ [20, 21, 22, 4, 23] (by decide +kernel) (by decide +kernel)
set_option maxRecDepth 20000 in
theorem gX6_lost_X6_hasRun : GoodIn wsX6_lost (va_wsS RX6 60 yX6_hasRun wsX6_hasRun) := goodIn_app (goodIn_of _ (by decide +kernel)) ggX6_lost_X6_hasRun
set_option maxRecDepth 20000 in
theorem ggX6_lost_X6_lostIn : GoodIn wsX6_lost wsX6_lostIn := goodIn_r _ [26, 21, 22, 4, 23, 27, 28, 29] (by decide +kernel) (by decide +kernel)
set_option maxRecDepth 20000 in
theorem gX6_lost_X6_lostIn : GoodIn wsX6_lost (va_wsS RX6 64 yX6_lostIn wsX6_lostIn) := goodIn_app (goodIn_of _ (by decide +kernel)) ggX6_lost_X6_lostIn
theorem dX6_lost_0 : decode cX6_lost 0 = .ok (.aload_n 0, 1) := by decide +kernel
theorem dX6_lost_1 : decode cX6_lost 1 = .ok (.aload_n 0, 1) := by decide +kernel
theorem dX6_lost_2 : decode cX6_lost 2 = .ok (.getfield 16, 3) := by decide +kernel
theorem dX6_lost_5 : decode cX6_lost 5 = .ok (.iload_n 1, 1) := by decide +kernel
theorem dX6_lost_6 : decode cX6_lost 6 = .ok (.invokestatic 161, 3) := by decide +kernel
theorem dX6_lost_9 : decode cX6_lost 9 = .ok (.ifCond .eq 14, 3) := by decide +kernel
theorem dX6_lost_12 : decode cX6_lost 12 = .ok (.iload_n 2, 1) := by decide +kernel
theorem dX6_lost_13 : decode cX6_lost 13 = .ok (.invokestatic 172, 3) := by decide +kernel
theorem dX6_lost_16 : decode cX6_lost 16 = .ok (.ifCond .eq 7, 3) := by decide +kernel
theorem dX6_lost_19 : decode cX6_lost 19 = .ok (.iconst 0, 1) := by decide +kernel
theorem dX6_lost_20 : decode cX6_lost 20 = .ok (.goto 4, 3) := by decide +kernel
theorem dX6_lost_23 : decode cX6_lost 23 = .ok (.iconst 1, 1) := by decide +kernel
theorem dX6_lost_24 : decode cX6_lost 24 = .ok (.invokevirtual 102, 3) := by decide +kernel
theorem dX6_lost_27 : decode cX6_lost 27 = .ok (.ifCond .eq 5, 3) := by decide +kernel
theorem dX6_lost_30 : decode cX6_lost 30 = .ok (.iconst 0, 1) := by decide +kernel
theorem dX6_lost_31 : decode cX6_lost 31 = .ok (.ireturn, 1) := by decide +kernel
theorem dX6_lost_32 : decode cX6_lost 32 = .ok (.aload_n 0, 1) := by decide +kernel
theorem dX6_lost_33 : decode cX6_lost 33 = .ok (.getfield 16, 3) := by decide +kernel
theorem dX6_lost_36 : decode cX6_lost 36 = .ok (.iload_n 1, 1) := by decide +kernel
theorem dX6_lost_37 : decode cX6_lost 37 = .ok (.invokestatic 60, 3) := by decide +kernel
theorem dX6_lost_40 : decode cX6_lost 40 = .ok (.ifCond .eq 15, 3) := by decide +kernel
theorem dX6_lost_43 : decode cX6_lost 43 = .ok (.aload_n 0, 1) := by decide +kernel
theorem dX6_lost_44 : decode cX6_lost 44 = .ok (.getfield 16, 3) := by decide +kernel
theorem dX6_lost_47 : decode cX6_lost 47 = .ok (.iload_n 1, 1) := by decide +kernel
theorem dX6_lost_48 : decode cX6_lost 48 = .ok (.iload_n 2, 1) := by decide +kernel
theorem dX6_lost_49 : decode cX6_lost 49 = .ok (.invokestatic 64, 3) := by decide +kernel
theorem dX6_lost_52 : decode cX6_lost 52 = .ok (.goto 5, 3) := by decide +kernel
theorem dX6_lost_55 : decode cX6_lost 55 = .ok (.bipush (-9), 2) := by decide +kernel
theorem dX6_lost_57 : decode cX6_lost 57 = .ok (.ireturn, 1) := by decide +kernel
set_option maxRecDepth 20000 in
theorem ggX6_order_X6_refused : GoodIn wsX6_order wsX6_refused := goodIn_r _ [8, 9, 28, 29, 30, 31, 32, 33, 34, 35, 36, 37, 38, 39, 40] (by decide +kernel) (by decide +kernel)
set_option maxRecDepth 20000 in
theorem gX6_order_X6_refused : GoodIn wsX6_order (wsV RX6 102 RX6 yX6_refused wsX6_refused) := goodIn_app (goodIn_of _ (by decide +kernel)) ggX6_order_X6_refused
set_option maxRecDepth 20000 in
theorem ggX6_order_X6_layRow : GoodIn wsX6_order wsX6_layRow := goodIn_r _ [13, 2, 3, 14, 15, 7, 16, 17, 18, 19, 20, 21, 22, 23, 24, 25, 26, 27, 28, 29, 30, 31, 32, 33, 34, 35, 36, 37, 38, 39, 40] (by decide +kernel) (by decide +kernel)
set_option maxRecDepth 20000 in
theorem gX6_order_X6_layRow : GoodIn wsX6_order (wsV RX6 88 RX6 yX6_layRow wsX6_layRow) := goodIn_app (goodIn_of _ (by decide +kernel)) ggX6_order_X6_layRow
theorem dX6_order_0 : decode cX6_order 0 = .ok (.aload_n 0, 1) := by decide +kernel
theorem dX6_order_1 : decode cX6_order 1 = .ok (.iload_n 1, 1) := by decide +kernel
theorem dX6_order_2 : decode cX6_order 2 = .ok (.ifCond .ge 7, 3) := by decide +kernel
theorem dX6_order_5 : decode cX6_order 5 = .ok (.iconst 1, 1) := by decide +kernel
theorem dX6_order_6 : decode cX6_order 6 = .ok (.goto 4, 3) := by decide +kernel
theorem dX6_order_9 : decode cX6_order 9 = .ok (.iconst 0, 1) := by decide +kernel
theorem dX6_order_10 : decode cX6_order 10 = .ok (.invokevirtual 102, 3) := by decide +kernel
theorem dX6_order_13 : decode cX6_order 13 = .ok (.ifCond .eq 5, 3) := by decide +kernel
theorem dX6_order_16 : decode cX6_order 16 = .ok (.iconst 0, 1) := by decide +kernel
theorem dX6_order_17 : decode cX6_order 17 = .ok (.ireturn, 1) := by decide +kernel
theorem dX6_order_18 : decode cX6_order 18 = .ok (.aload_n 0, 1) := by decide +kernel
theorem dX6_order_19 : decode cX6_order 19 = .ok (.aload_n 0, 1) := by decide +kernel
theorem dX6_order_20 : decode cX6_order 20 = .ok (.getfield 16, 3) := by decide +kernel
theorem dX6_order_23 : decode cX6_order 23 = .ok (.invokevirtual 88, 3) := by decide +kernel
theorem dX6_order_26 : decode cX6_order 26 = .ok (.iload_n 1, 1) := by decide +kernel
theorem dX6_order_27 : decode cX6_order 27 = .ok (.aload_n 0, 1) := by decide +kernel
theorem dX6_order_28 : decode cX6_order 28 = .ok (.getfield 78, 3) := by decide +kernel
theorem dX6_order_31 : decode cX6_order 31 = .ok (.if_icmp .ge 12, 3) := by decide +kernel
theorem dX6_order_34 : decode cX6_order 34 = .ok (.aload_n 0, 1) := by decide +kernel
theorem dX6_order_35 : decode cX6_order 35 = .ok (.getfield 32, 3) := by decide +kernel
theorem dX6_order_38 : decode cX6_order 38 = .ok (.iload_n 1, 1) := by decide +kernel
theorem dX6_order_39 : decode cX6_order 39 = .ok (.iaload, 1) := by decide +kernel
theorem dX6_order_40 : decode cX6_order 40 = .ok (.goto 5, 3) := by decide +kernel
theorem dX6_order_43 : decode cX6_order 43 = .ok (.bipush (-9), 2) := by decide +kernel
theorem dX6_order_45 : decode cX6_order 45 = .ok (.ireturn, 1) := by decide +kernel
set_option maxRecDepth 20000 in
theorem ggX6_ahead_X6_isBetter : GoodIn wsX6_ahead wsX6_isBetter := goodIn_r _ [5, 6, 7, 4, 8, 9, 10, 11, 12, 13, 14, 15, 16, 17, 18, 19, 20] (by decide +kernel) (by decide +kernel)
set_option maxRecDepth 20000 in
theorem gX6_ahead_X6_isBetter : GoodIn wsX6_ahead (va_wsS RX6 71 yX6_isBetter wsX6_isBetter) := goodIn_app (goodIn_of _ (by decide +kernel)) ggX6_ahead_X6_isBetter
set_option maxRecDepth 20000 in
theorem ggX6_ahead_X6_dogAt : GoodIn wsX6_ahead wsX6_dogAt := goodIn_r _ [14] (by decide +kernel) (by decide +kernel)
set_option maxRecDepth 20000 in
theorem gX6_ahead_X6_dogAt : GoodIn wsX6_ahead (va_wsS RX6 43 yX6_dogAt wsX6_dogAt) := goodIn_app (goodIn_of _ (by decide +kernel)) ggX6_ahead_X6_dogAt
set_option maxRecDepth 20000 in
theorem ggX6_ahead_X6_hasRun : GoodIn wsX6_ahead wsX6_hasRun := goodIn_r _ [11, 12, 13, 4, 14] (by decide +kernel) (by decide +kernel)
set_option maxRecDepth 20000 in
theorem gX6_ahead_X6_hasRun : GoodIn wsX6_ahead (va_wsS RX6 60 yX6_hasRun wsX6_hasRun) := goodIn_app (goodIn_of _ (by decide +kernel)) ggX6_ahead_X6_hasRun
theorem dX6_ahead_0 : decode cX6_ahead 0 = .ok (.iconst 0, 1) := by decide +kernel
theorem dX6_ahead_1 : decode cX6_ahead 1 = .ok (.istore_n 2, 1) := by decide +kernel
theorem dX6_ahead_2 : decode cX6_ahead 2 = .ok (.iconst 0, 1) := by decide +kernel
theorem dX6_ahead_3 : decode cX6_ahead 3 = .ok (.istore_n 3, 1) := by decide +kernel
theorem dX6_ahead_4 : decode cX6_ahead 4 = .ok (.iload_n 3, 1) := by decide +kernel
theorem dX6_ahead_5 : decode cX6_ahead 5 = .ok (.aload_n 0, 1) := by decide +kernel
theorem dX6_ahead_6 : decode cX6_ahead 6 = .ok (.getfield 16, 3) := by decide +kernel
theorem dX6_ahead_9 : decode cX6_ahead 9 = .ok (.bipush 7, 2) := by decide +kernel
theorem dX6_ahead_11 : decode cX6_ahead 11 = .ok (.iaload, 1) := by decide +kernel
theorem dX6_ahead_12 : decode cX6_ahead 12 = .ok (.if_icmp .ge 113, 3) := by decide +kernel
theorem dX6_ahead_15 : decode cX6_ahead 15 = .ok (.aload_n 0, 1) := by decide +kernel
theorem dX6_ahead_16 : decode cX6_ahead 16 = .ok (.getfield 16, 3) := by decide +kernel
theorem dX6_ahead_19 : decode cX6_ahead 19 = .ok (.iload_n 1, 1) := by decide +kernel
theorem dX6_ahead_20 : decode cX6_ahead 20 = .ok (.iload_n 3, 1) := by decide +kernel
theorem dX6_ahead_21 : decode cX6_ahead 21 = .ok (.invokestatic 71, 3) := by decide +kernel
theorem dX6_ahead_24 : decode cX6_ahead 24 = .ok (.ifCond .ne 19, 3) := by decide +kernel
theorem dX6_ahead_27 : decode cX6_ahead 27 = .ok (.aload_n 0, 1) := by decide +kernel
theorem dX6_ahead_28 : decode cX6_ahead 28 = .ok (.getfield 16, 3) := by decide +kernel
theorem dX6_ahead_31 : decode cX6_ahead 31 = .ok (.iload_n 3, 1) := by decide +kernel
theorem dX6_ahead_32 : decode cX6_ahead 32 = .ok (.iload_n 1, 1) := by decide +kernel
theorem dX6_ahead_33 : decode cX6_ahead 33 = .ok (.invokestatic 71, 3) := by decide +kernel
theorem dX6_ahead_36 : decode cX6_ahead 36 = .ok (.ifCond .ne 7, 3) := by decide +kernel
theorem dX6_ahead_39 : decode cX6_ahead 39 = .ok (.iconst 1, 1) := by decide +kernel
theorem dX6_ahead_40 : decode cX6_ahead 40 = .ok (.goto 4, 3) := by decide +kernel
theorem dX6_ahead_43 : decode cX6_ahead 43 = .ok (.iconst 0, 1) := by decide +kernel
theorem dX6_ahead_44 : decode cX6_ahead 44 = .ok (.istore 4, 2) := by decide +kernel
theorem dX6_ahead_46 : decode cX6_ahead 46 = .ok (.aload_n 0, 1) := by decide +kernel
theorem dX6_ahead_47 : decode cX6_ahead 47 = .ok (.getfield 16, 3) := by decide +kernel
theorem dX6_ahead_50 : decode cX6_ahead 50 = .ok (.iload_n 3, 1) := by decide +kernel
theorem dX6_ahead_51 : decode cX6_ahead 51 = .ok (.invokestatic 43, 3) := by decide +kernel
theorem dX6_ahead_54 : decode cX6_ahead 54 = .ok (.iconst 1, 1) := by decide +kernel
theorem dX6_ahead_55 : decode cX6_ahead 55 = .ok (.iadd, 1) := by decide +kernel
theorem dX6_ahead_56 : decode cX6_ahead 56 = .ok (.iaload, 1) := by decide +kernel
theorem dX6_ahead_57 : decode cX6_ahead 57 = .ok (.aload_n 0, 1) := by decide +kernel
theorem dX6_ahead_58 : decode cX6_ahead 58 = .ok (.getfield 16, 3) := by decide +kernel
theorem dX6_ahead_61 : decode cX6_ahead 61 = .ok (.iload_n 1, 1) := by decide +kernel
theorem dX6_ahead_62 : decode cX6_ahead 62 = .ok (.invokestatic 43, 3) := by decide +kernel
theorem dX6_ahead_65 : decode cX6_ahead 65 = .ok (.iconst 1, 1) := by decide +kernel
theorem dX6_ahead_66 : decode cX6_ahead 66 = .ok (.iadd, 1) := by decide +kernel
theorem dX6_ahead_67 : decode cX6_ahead 67 = .ok (.iaload, 1) := by decide +kernel
theorem dX6_ahead_68 : decode cX6_ahead 68 = .ok (.if_icmp .ge 7, 3) := by decide +kernel
theorem dX6_ahead_71 : decode cX6_ahead 71 = .ok (.iconst 1, 1) := by decide +kernel
theorem dX6_ahead_72 : decode cX6_ahead 72 = .ok (.goto 4, 3) := by decide +kernel
theorem dX6_ahead_75 : decode cX6_ahead 75 = .ok (.iconst 0, 1) := by decide +kernel
theorem dX6_ahead_76 : decode cX6_ahead 76 = .ok (.istore 5, 2) := by decide +kernel
theorem dX6_ahead_78 : decode cX6_ahead 78 = .ok (.iload_n 2, 1) := by decide +kernel
theorem dX6_ahead_79 : decode cX6_ahead 79 = .ok (.aload_n 0, 1) := by decide +kernel
theorem dX6_ahead_80 : decode cX6_ahead 80 = .ok (.getfield 16, 3) := by decide +kernel
theorem dX6_ahead_83 : decode cX6_ahead 83 = .ok (.iload_n 3, 1) := by decide +kernel
theorem dX6_ahead_84 : decode cX6_ahead 84 = .ok (.invokestatic 60, 3) := by decide +kernel
theorem dX6_ahead_87 : decode cX6_ahead 87 = .ok (.ifCond .eq 29, 3) := by decide +kernel
theorem dX6_ahead_90 : decode cX6_ahead 90 = .ok (.aload_n 0, 1) := by decide +kernel
theorem dX6_ahead_91 : decode cX6_ahead 91 = .ok (.getfield 16, 3) := by decide +kernel
theorem dX6_ahead_94 : decode cX6_ahead 94 = .ok (.iload_n 3, 1) := by decide +kernel
theorem dX6_ahead_95 : decode cX6_ahead 95 = .ok (.iload_n 1, 1) := by decide +kernel
theorem dX6_ahead_96 : decode cX6_ahead 96 = .ok (.invokestatic 71, 3) := by decide +kernel
theorem dX6_ahead_99 : decode cX6_ahead 99 = .ok (.ifCond .ne 13, 3) := by decide +kernel
theorem dX6_ahead_102 : decode cX6_ahead 102 = .ok (.iload 4, 2) := by decide +kernel
theorem dX6_ahead_104 : decode cX6_ahead 104 = .ok (.ifCond .eq 12, 3) := by decide +kernel
theorem dX6_ahead_107 : decode cX6_ahead 107 = .ok (.iload 5, 2) := by decide +kernel
theorem dX6_ahead_109 : decode cX6_ahead 109 = .ok (.ifCond .eq 7, 3) := by decide +kernel
theorem dX6_ahead_112 : decode cX6_ahead 112 = .ok (.iconst 1, 1) := by decide +kernel
theorem dX6_ahead_113 : decode cX6_ahead 113 = .ok (.goto 4, 3) := by decide +kernel
theorem dX6_ahead_116 : decode cX6_ahead 116 = .ok (.iconst 0, 1) := by decide +kernel
theorem dX6_ahead_117 : decode cX6_ahead 117 = .ok (.iadd, 1) := by decide +kernel
theorem dX6_ahead_118 : decode cX6_ahead 118 = .ok (.istore_n 2, 1) := by decide +kernel
theorem dX6_ahead_119 : decode cX6_ahead 119 = .ok (.iinc 3 1, 3) := by decide +kernel
theorem dX6_ahead_122 : decode cX6_ahead 122 = .ok (.goto (-118), 3) := by decide +kernel
theorem dX6_ahead_125 : decode cX6_ahead 125 = .ok (.iload_n 2, 1) := by decide +kernel
theorem dX6_ahead_126 : decode cX6_ahead 126 = .ok (.ireturn, 1) := by decide +kernel
set_option maxRecDepth 20000 in
theorem ggX6_standing_X6_refused : GoodIn wsX6_standing wsX6_refused := goodIn_r _ [6, 7, 30, 31, 32, 33, 34, 35, 36, 37, 38, 39, 40, 41, 42] (by decide +kernel) (by decide +kernel)
set_option maxRecDepth 20000 in
theorem gX6_standing_X6_refused : GoodIn wsX6_standing (wsV RX6 102 RX6 yX6_refused wsX6_refused) := goodIn_app (goodIn_of _ (by decide +kernel)) ggX6_standing_X6_refused
set_option maxRecDepth 20000 in
theorem ggX6_standing_X6_hasRun : GoodIn wsX6_standing wsX6_hasRun := goodIn_r _ [10, 11, 12, 5, 13] (by decide +kernel) (by decide +kernel)
set_option maxRecDepth 20000 in
theorem gX6_standing_X6_hasRun : GoodIn wsX6_standing (va_wsS RX6 60 yX6_hasRun wsX6_hasRun) := goodIn_app (goodIn_of _ (by decide +kernel)) ggX6_standing_X6_hasRun
set_option maxRecDepth 20000 in
theorem ggX6_standing_X6_ahead : GoodIn wsX6_standing wsX6_ahead := goodIn_r _ [17, 1, 18, 19, 5, 20, 21, 22, 23, 8, 9, 10, 11, 12, 13, 24, 25, 26, 27, 28, 29, 30, 31, 32, 33, 34, 35, 36, 37, 38, 39, 40, 41, 42] (by decide +kernel) (by decide +kernel)
set_option maxRecDepth 20000 in
theorem gX6_standing_X6_ahead : GoodIn wsX6_standing (wsV RX6 175 RX6 yX6_ahead wsX6_ahead) := goodIn_app (goodIn_of _ (by decide +kernel)) ggX6_standing_X6_ahead
theorem dX6_standing_0 : decode cX6_standing 0 = .ok (.aload_n 0, 1) := by decide +kernel
theorem dX6_standing_1 : decode cX6_standing 1 = .ok (.iload_n 1, 1) := by decide +kernel
theorem dX6_standing_2 : decode cX6_standing 2 = .ok (.ifCond .ge 7, 3) := by decide +kernel
theorem dX6_standing_5 : decode cX6_standing 5 = .ok (.iconst 1, 1) := by decide +kernel
theorem dX6_standing_6 : decode cX6_standing 6 = .ok (.goto 4, 3) := by decide +kernel
theorem dX6_standing_9 : decode cX6_standing 9 = .ok (.iconst 0, 1) := by decide +kernel
theorem dX6_standing_10 : decode cX6_standing 10 = .ok (.invokevirtual 102, 3) := by decide +kernel
theorem dX6_standing_13 : decode cX6_standing 13 = .ok (.ifCond .eq 5, 3) := by decide +kernel
theorem dX6_standing_16 : decode cX6_standing 16 = .ok (.iconst 0, 1) := by decide +kernel
theorem dX6_standing_17 : decode cX6_standing 17 = .ok (.ireturn, 1) := by decide +kernel
theorem dX6_standing_18 : decode cX6_standing 18 = .ok (.iconst 0, 1) := by decide +kernel
theorem dX6_standing_19 : decode cX6_standing 19 = .ok (.istore_n 2, 1) := by decide +kernel
theorem dX6_standing_20 : decode cX6_standing 20 = .ok (.iload_n 2, 1) := by decide +kernel
theorem dX6_standing_21 : decode cX6_standing 21 = .ok (.aload_n 0, 1) := by decide +kernel
theorem dX6_standing_22 : decode cX6_standing 22 = .ok (.getfield 16, 3) := by decide +kernel
theorem dX6_standing_25 : decode cX6_standing 25 = .ok (.bipush 7, 2) := by decide +kernel
theorem dX6_standing_27 : decode cX6_standing 27 = .ok (.iaload, 1) := by decide +kernel
theorem dX6_standing_28 : decode cX6_standing 28 = .ok (.if_icmp .ge 31, 3) := by decide +kernel
theorem dX6_standing_31 : decode cX6_standing 31 = .ok (.aload_n 0, 1) := by decide +kernel
theorem dX6_standing_32 : decode cX6_standing 32 = .ok (.getfield 16, 3) := by decide +kernel
theorem dX6_standing_35 : decode cX6_standing 35 = .ok (.iload_n 2, 1) := by decide +kernel
theorem dX6_standing_36 : decode cX6_standing 36 = .ok (.invokestatic 60, 3) := by decide +kernel
theorem dX6_standing_39 : decode cX6_standing 39 = .ok (.ifCond .eq 14, 3) := by decide +kernel
theorem dX6_standing_42 : decode cX6_standing 42 = .ok (.aload_n 0, 1) := by decide +kernel
theorem dX6_standing_43 : decode cX6_standing 43 = .ok (.iload_n 2, 1) := by decide +kernel
theorem dX6_standing_44 : decode cX6_standing 44 = .ok (.invokevirtual 175, 3) := by decide +kernel
theorem dX6_standing_47 : decode cX6_standing 47 = .ok (.iload_n 1, 1) := by decide +kernel
theorem dX6_standing_48 : decode cX6_standing 48 = .ok (.if_icmp .ne 5, 3) := by decide +kernel
theorem dX6_standing_51 : decode cX6_standing 51 = .ok (.iload_n 2, 1) := by decide +kernel
theorem dX6_standing_52 : decode cX6_standing 52 = .ok (.ireturn, 1) := by decide +kernel
theorem dX6_standing_53 : decode cX6_standing 53 = .ok (.iinc 2 1, 3) := by decide +kernel
theorem dX6_standing_56 : decode cX6_standing 56 = .ok (.goto (-36), 3) := by decide +kernel
theorem dX6_standing_59 : decode cX6_standing 59 = .ok (.bipush (-9), 2) := by decide +kernel
theorem dX6_standing_61 : decode cX6_standing 61 = .ok (.ireturn, 1) := by decide +kernel
set_option maxRecDepth 20000 in
theorem ggX6_owner_X6_in : GoodIn wsX6_owner wsX6_in := goodIn_r _ [6] (by decide +kernel) (by decide +kernel)
set_option maxRecDepth 20000 in
theorem gX6_owner_X6_in : GoodIn wsX6_owner (va_wsS RX6 51 yX6_in wsX6_in) := goodIn_app (goodIn_of _ (by decide +kernel)) ggX6_owner_X6_in
set_option maxRecDepth 20000 in
theorem ggX6_owner_X6_refused : GoodIn wsX6_owner wsX6_refused := goodIn_r _ [10, 11, 27, 28, 29, 30, 31, 32, 33, 34, 35, 36, 37, 38, 39] (by decide +kernel) (by decide +kernel)
set_option maxRecDepth 20000 in
theorem gX6_owner_X6_refused : GoodIn wsX6_owner (wsV RX6 102 RX6 yX6_refused wsX6_refused) := goodIn_app (goodIn_of _ (by decide +kernel)) ggX6_owner_X6_refused
set_option maxRecDepth 20000 in
theorem ggX6_owner_X6_dogAt : GoodIn wsX6_owner wsX6_dogAt := goodIn_r _ [14] (by decide +kernel) (by decide +kernel)
set_option maxRecDepth 20000 in
theorem gX6_owner_X6_dogAt : GoodIn wsX6_owner (va_wsS RX6 43 yX6_dogAt wsX6_dogAt) := goodIn_app (goodIn_of _ (by decide +kernel)) ggX6_owner_X6_dogAt
set_option maxRecDepth 20000 in
theorem ggX6_owner_X6_score : GoodIn wsX6_owner wsX6_score := goodIn_r _ [17, 18, 19, 5, 20, 12, 13, 14, 21, 22, 23, 24, 25, 26] (by decide +kernel) (by decide +kernel)
set_option maxRecDepth 20000 in
theorem gX6_owner_X6_score : GoodIn wsX6_owner (va_wsS RX6 68 yX6_score wsX6_score) := goodIn_app (goodIn_of _ (by decide +kernel)) ggX6_owner_X6_score
theorem dX6_owner_0 : decode cX6_owner 0 = .ok (.aload_n 0, 1) := by decide +kernel
theorem dX6_owner_1 : decode cX6_owner 1 = .ok (.iload_n 1, 1) := by decide +kernel
theorem dX6_owner_2 : decode cX6_owner 2 = .ok (.i2l, 1) := by decide +kernel
theorem dX6_owner_3 : decode cX6_owner 3 = .ok (.lconst 0, 1) := by decide +kernel
theorem dX6_owner_4 : decode cX6_owner 4 = .ok (.ldc2_w 55, 3) := by decide +kernel
theorem dX6_owner_7 : decode cX6_owner 7 = .ok (.invokestatic 51, 3) := by decide +kernel
theorem dX6_owner_10 : decode cX6_owner 10 = .ok (.ifCond .eq 7, 3) := by decide +kernel
theorem dX6_owner_13 : decode cX6_owner 13 = .ok (.iconst 0, 1) := by decide +kernel
theorem dX6_owner_14 : decode cX6_owner 14 = .ok (.goto 4, 3) := by decide +kernel
theorem dX6_owner_17 : decode cX6_owner 17 = .ok (.iconst 1, 1) := by decide +kernel
theorem dX6_owner_18 : decode cX6_owner 18 = .ok (.invokevirtual 102, 3) := by decide +kernel
theorem dX6_owner_21 : decode cX6_owner 21 = .ok (.ifCond .eq 5, 3) := by decide +kernel
theorem dX6_owner_24 : decode cX6_owner 24 = .ok (.iconst 0, 1) := by decide +kernel
theorem dX6_owner_25 : decode cX6_owner 25 = .ok (.ireturn, 1) := by decide +kernel
theorem dX6_owner_26 : decode cX6_owner 26 = .ok (.iconst 0, 1) := by decide +kernel
theorem dX6_owner_27 : decode cX6_owner 27 = .ok (.istore_n 2, 1) := by decide +kernel
theorem dX6_owner_28 : decode cX6_owner 28 = .ok (.iconst 0, 1) := by decide +kernel
theorem dX6_owner_29 : decode cX6_owner 29 = .ok (.istore_n 3, 1) := by decide +kernel
theorem dX6_owner_30 : decode cX6_owner 30 = .ok (.iconst 0, 1) := by decide +kernel
theorem dX6_owner_31 : decode cX6_owner 31 = .ok (.istore 4, 2) := by decide +kernel
theorem dX6_owner_33 : decode cX6_owner 33 = .ok (.iload 4, 2) := by decide +kernel
theorem dX6_owner_35 : decode cX6_owner 35 = .ok (.aload_n 0, 1) := by decide +kernel
theorem dX6_owner_36 : decode cX6_owner 36 = .ok (.getfield 16, 3) := by decide +kernel
theorem dX6_owner_39 : decode cX6_owner 39 = .ok (.bipush 7, 2) := by decide +kernel
theorem dX6_owner_41 : decode cX6_owner 41 = .ok (.iaload, 1) := by decide +kernel
theorem dX6_owner_42 : decode cX6_owner 42 = .ok (.if_icmp .ge 70, 3) := by decide +kernel
theorem dX6_owner_45 : decode cX6_owner 45 = .ok (.aload_n 0, 1) := by decide +kernel
theorem dX6_owner_46 : decode cX6_owner 46 = .ok (.getfield 16, 3) := by decide +kernel
theorem dX6_owner_49 : decode cX6_owner 49 = .ok (.iload 4, 2) := by decide +kernel
theorem dX6_owner_51 : decode cX6_owner 51 = .ok (.invokestatic 43, 3) := by decide +kernel
theorem dX6_owner_54 : decode cX6_owner 54 = .ok (.iaload, 1) := by decide +kernel
theorem dX6_owner_55 : decode cX6_owner 55 = .ok (.iload_n 1, 1) := by decide +kernel
theorem dX6_owner_56 : decode cX6_owner 56 = .ok (.if_icmp .ne 50, 3) := by decide +kernel
theorem dX6_owner_59 : decode cX6_owner 59 = .ok (.aload_n 0, 1) := by decide +kernel
theorem dX6_owner_60 : decode cX6_owner 60 = .ok (.getfield 16, 3) := by decide +kernel
theorem dX6_owner_63 : decode cX6_owner 63 = .ok (.iload 4, 2) := by decide +kernel
theorem dX6_owner_65 : decode cX6_owner 65 = .ok (.invokestatic 68, 3) := by decide +kernel
theorem dX6_owner_68 : decode cX6_owner 68 = .ok (.istore 5, 2) := by decide +kernel
theorem dX6_owner_70 : decode cX6_owner 70 = .ok (.iload 5, 2) := by decide +kernel
theorem dX6_owner_72 : decode cX6_owner 72 = .ok (.iload_n 2, 1) := by decide +kernel
theorem dX6_owner_73 : decode cX6_owner 73 = .ok (.if_icmp .le 7, 3) := by decide +kernel
theorem dX6_owner_76 : decode cX6_owner 76 = .ok (.iload_n 2, 1) := by decide +kernel
theorem dX6_owner_77 : decode cX6_owner 77 = .ok (.goto 15, 3) := by decide +kernel
theorem dX6_owner_80 : decode cX6_owner 80 = .ok (.iload 5, 2) := by decide +kernel
theorem dX6_owner_82 : decode cX6_owner 82 = .ok (.iload_n 3, 1) := by decide +kernel
theorem dX6_owner_83 : decode cX6_owner 83 = .ok (.if_icmp .le 8, 3) := by decide +kernel
theorem dX6_owner_86 : decode cX6_owner 86 = .ok (.iload 5, 2) := by decide +kernel
theorem dX6_owner_88 : decode cX6_owner 88 = .ok (.goto 4, 3) := by decide +kernel
theorem dX6_owner_91 : decode cX6_owner 91 = .ok (.iload_n 3, 1) := by decide +kernel
theorem dX6_owner_92 : decode cX6_owner 92 = .ok (.istore_n 3, 1) := by decide +kernel
theorem dX6_owner_93 : decode cX6_owner 93 = .ok (.iload 5, 2) := by decide +kernel
theorem dX6_owner_95 : decode cX6_owner 95 = .ok (.iload_n 2, 1) := by decide +kernel
theorem dX6_owner_96 : decode cX6_owner 96 = .ok (.if_icmp .le 8, 3) := by decide +kernel
theorem dX6_owner_99 : decode cX6_owner 99 = .ok (.iload 5, 2) := by decide +kernel
theorem dX6_owner_101 : decode cX6_owner 101 = .ok (.goto 4, 3) := by decide +kernel
theorem dX6_owner_104 : decode cX6_owner 104 = .ok (.iload_n 2, 1) := by decide +kernel
theorem dX6_owner_105 : decode cX6_owner 105 = .ok (.istore_n 2, 1) := by decide +kernel
theorem dX6_owner_106 : decode cX6_owner 106 = .ok (.iinc 4 1, 3) := by decide +kernel
theorem dX6_owner_109 : decode cX6_owner 109 = .ok (.goto (-76), 3) := by decide +kernel
theorem dX6_owner_112 : decode cX6_owner 112 = .ok (.iload_n 2, 1) := by decide +kernel
theorem dX6_owner_113 : decode cX6_owner 113 = .ok (.iload_n 3, 1) := by decide +kernel
theorem dX6_owner_114 : decode cX6_owner 114 = .ok (.iadd, 1) := by decide +kernel
theorem dX6_owner_115 : decode cX6_owner 115 = .ok (.ireturn, 1) := by decide +kernel
set_option maxRecDepth 20000 in
theorem ggX6_note_X6_copyPage : GoodIn wsX6_note wsX6_copyPage := goodIn_r _ [7] (by decide +kernel) (by decide +kernel)
set_option maxRecDepth 20000 in
theorem gX6_note_X6_copyPage : GoodIn wsX6_note (va_wsS RX6 145 yX6_copyPage wsX6_copyPage) := goodIn_app (goodIn_of _ (by decide +kernel)) ggX6_note_X6_copyPage
theorem dX6_note_0 : decode cX6_note 0 = .ok (.aload_n 0, 1) := by decide +kernel
theorem dX6_note_1 : decode cX6_note 1 = .ok (.getfield 149, 3) := by decide +kernel
theorem dX6_note_4 : decode cX6_note 4 = .ok (.bipush 14, 2) := by decide +kernel
theorem dX6_note_6 : decode cX6_note 6 = .ok (.if_icmp .ne 44, 3) := by decide +kernel
theorem dX6_note_9 : decode cX6_note 9 = .ok (.iconst 0, 1) := by decide +kernel
theorem dX6_note_10 : decode cX6_note 10 = .ok (.istore_n 1, 1) := by decide +kernel
theorem dX6_note_11 : decode cX6_note 11 = .ok (.iload_n 1, 1) := by decide +kernel
theorem dX6_note_12 : decode cX6_note 12 = .ok (.sipush 1898, 3) := by decide +kernel
theorem dX6_note_15 : decode cX6_note 15 = .ok (.if_icmp .ge 25, 3) := by decide +kernel
theorem dX6_note_18 : decode cX6_note 18 = .ok (.aload_n 0, 1) := by decide +kernel
theorem dX6_note_19 : decode cX6_note 19 = .ok (.getfield 22, 3) := by decide +kernel
theorem dX6_note_22 : decode cX6_note 22 = .ok (.iload_n 1, 1) := by decide +kernel
theorem dX6_note_23 : decode cX6_note 23 = .ok (.aload_n 0, 1) := by decide +kernel
theorem dX6_note_24 : decode cX6_note 24 = .ok (.getfield 22, 3) := by decide +kernel
theorem dX6_note_27 : decode cX6_note 27 = .ok (.iload_n 1, 1) := by decide +kernel
theorem dX6_note_28 : decode cX6_note 28 = .ok (.sipush 146, 3) := by decide +kernel
theorem dX6_note_31 : decode cX6_note 31 = .ok (.iadd, 1) := by decide +kernel
theorem dX6_note_32 : decode cX6_note 32 = .ok (.iaload, 1) := by decide +kernel
theorem dX6_note_33 : decode cX6_note 33 = .ok (.iastore, 1) := by decide +kernel
theorem dX6_note_34 : decode cX6_note 34 = .ok (.iinc 1 1, 3) := by decide +kernel
theorem dX6_note_37 : decode cX6_note 37 = .ok (.goto (-26), 3) := by decide +kernel
theorem dX6_note_40 : decode cX6_note 40 = .ok (.aload_n 0, 1) := by decide +kernel
theorem dX6_note_41 : decode cX6_note 41 = .ok (.dup, 1) := by decide +kernel
theorem dX6_note_42 : decode cX6_note 42 = .ok (.getfield 149, 3) := by decide +kernel
theorem dX6_note_45 : decode cX6_note 45 = .ok (.iconst 1, 1) := by decide +kernel
theorem dX6_note_46 : decode cX6_note 46 = .ok (.isub, 1) := by decide +kernel
theorem dX6_note_47 : decode cX6_note 47 = .ok (.putfield 149, 3) := by decide +kernel
theorem dX6_note_50 : decode cX6_note 50 = .ok (.aload_n 0, 1) := by decide +kernel
theorem dX6_note_51 : decode cX6_note 51 = .ok (.getfield 16, 3) := by decide +kernel
theorem dX6_note_54 : decode cX6_note 54 = .ok (.iconst 0, 1) := by decide +kernel
theorem dX6_note_55 : decode cX6_note 55 = .ok (.aload_n 0, 1) := by decide +kernel
theorem dX6_note_56 : decode cX6_note 56 = .ok (.getfield 22, 3) := by decide +kernel
theorem dX6_note_59 : decode cX6_note 59 = .ok (.sipush 146, 3) := by decide +kernel
theorem dX6_note_62 : decode cX6_note 62 = .ok (.aload_n 0, 1) := by decide +kernel
theorem dX6_note_63 : decode cX6_note 63 = .ok (.getfield 149, 3) := by decide +kernel
theorem dX6_note_66 : decode cX6_note 66 = .ok (.imul, 1) := by decide +kernel
theorem dX6_note_67 : decode cX6_note 67 = .ok (.invokestatic 145, 3) := by decide +kernel
theorem dX6_note_70 : decode cX6_note 70 = .ok (.aload_n 0, 1) := by decide +kernel
theorem dX6_note_71 : decode cX6_note 71 = .ok (.dup, 1) := by decide +kernel
theorem dX6_note_72 : decode cX6_note 72 = .ok (.getfield 149, 3) := by decide +kernel
theorem dX6_note_75 : decode cX6_note 75 = .ok (.iconst 1, 1) := by decide +kernel
theorem dX6_note_76 : decode cX6_note 76 = .ok (.iadd, 1) := by decide +kernel
theorem dX6_note_77 : decode cX6_note 77 = .ok (.putfield 149, 3) := by decide +kernel
theorem dX6_note_80 : decode cX6_note 80 = .ok (.return_, 1) := by decide +kernel
set_option maxRecDepth 20000 in
theorem ggX6_enter_X6_in : GoodIn wsX6_enter wsX6_in := goodIn_r _ [7] (by decide +kernel) (by decide +kernel)
set_option maxRecDepth 20000 in
theorem gX6_enter_X6_in : GoodIn wsX6_enter (va_wsS RX6 51 yX6_in wsX6_in) := goodIn_app (goodIn_of _ (by decide +kernel)) ggX6_enter_X6_in
set_option maxRecDepth 20000 in
theorem ggX6_enter_X6_isDrawn : GoodIn wsX6_enter wsX6_isDrawn := goodIn_r _ [10, 11, 12, 6, 13] (by decide +kernel) (by decide +kernel)
set_option maxRecDepth 20000 in
theorem gX6_enter_X6_isDrawn : GoodIn wsX6_enter (va_wsS RX6 116 yX6_isDrawn wsX6_isDrawn) := goodIn_app (goodIn_of _ (by decide +kernel)) ggX6_enter_X6_isDrawn
set_option maxRecDepth 20000 in
theorem ggX6_enter_X6_refused : GoodIn wsX6_enter wsX6_refused := goodIn_r _ [17, 18, 31, 32, 33, 34, 35, 36, 37, 38, 39, 40, 41, 42, 43] (by decide +kernel) (by decide +kernel)
set_option maxRecDepth 20000 in
theorem gX6_enter_X6_refused : GoodIn wsX6_enter (wsV RX6 102 RX6 yX6_refused wsX6_refused) := goodIn_app (goodIn_of _ (by decide +kernel)) ggX6_enter_X6_refused
set_option maxRecDepth 20000 in
theorem ggX6_enter_X6_note : GoodIn wsX6_enter wsX6_note := goodIn_r _ [22, 23, 24, 3, 25, 26, 6, 27, 31, 32, 33, 34, 35, 36, 37, 38, 39, 40, 41, 42, 43] (by decide +kernel) (by decide +kernel)
set_option maxRecDepth 20000 in
theorem gX6_enter_X6_note : GoodIn wsX6_enter (wsV RX6 178 RX6 yX6_note wsX6_note) := goodIn_app (goodIn_of _ (by decide +kernel)) ggX6_enter_X6_note
set_option maxRecDepth 20000 in
theorem ggX6_enter_X6_enterOn : GoodIn wsX6_enter wsX6_enterOn := goodIn_r _ [30, 11, 12, 6, 13] (by decide +kernel) (by decide +kernel)
set_option maxRecDepth 20000 in
theorem gX6_enter_X6_enterOn : GoodIn wsX6_enter (va_wsS RX6 125 yX6_enterOn wsX6_enterOn) := goodIn_app (goodIn_of _ (by decide +kernel)) ggX6_enter_X6_enterOn
theorem dX6_enter_0 : decode cX6_enter 0 = .ok (.iload_n 1, 1) := by decide +kernel
theorem dX6_enter_1 : decode cX6_enter 1 = .ok (.i2l, 1) := by decide +kernel
theorem dX6_enter_2 : decode cX6_enter 2 = .ok (.lconst 0, 1) := by decide +kernel
theorem dX6_enter_3 : decode cX6_enter 3 = .ok (.ldc2_w 55, 3) := by decide +kernel
theorem dX6_enter_6 : decode cX6_enter 6 = .ok (.invokestatic 51, 3) := by decide +kernel
theorem dX6_enter_9 : decode cX6_enter 9 = .ok (.ifCond .eq 19, 3) := by decide +kernel
theorem dX6_enter_12 : decode cX6_enter 12 = .ok (.iload_n 2, 1) := by decide +kernel
theorem dX6_enter_13 : decode cX6_enter 13 = .ok (.i2l, 1) := by decide +kernel
theorem dX6_enter_14 : decode cX6_enter 14 = .ok (.lconst 1, 1) := by decide +kernel
theorem dX6_enter_15 : decode cX6_enter 15 = .ok (.ldc2_w 114, 3) := by decide +kernel
theorem dX6_enter_18 : decode cX6_enter 18 = .ok (.invokestatic 51, 3) := by decide +kernel
theorem dX6_enter_21 : decode cX6_enter 21 = .ok (.ifCond .eq 7, 3) := by decide +kernel
theorem dX6_enter_24 : decode cX6_enter 24 = .ok (.iconst 1, 1) := by decide +kernel
theorem dX6_enter_25 : decode cX6_enter 25 = .ok (.goto 4, 3) := by decide +kernel
theorem dX6_enter_28 : decode cX6_enter 28 = .ok (.iconst 0, 1) := by decide +kernel
theorem dX6_enter_29 : decode cX6_enter 29 = .ok (.istore_n 3, 1) := by decide +kernel
theorem dX6_enter_30 : decode cX6_enter 30 = .ok (.aload_n 0, 1) := by decide +kernel
theorem dX6_enter_31 : decode cX6_enter 31 = .ok (.iload_n 3, 1) := by decide +kernel
theorem dX6_enter_32 : decode cX6_enter 32 = .ok (.ifCond .ne 7, 3) := by decide +kernel
theorem dX6_enter_35 : decode cX6_enter 35 = .ok (.iconst 1, 1) := by decide +kernel
theorem dX6_enter_36 : decode cX6_enter 36 = .ok (.goto 33, 3) := by decide +kernel
theorem dX6_enter_39 : decode cX6_enter 39 = .ok (.aload_n 0, 1) := by decide +kernel
theorem dX6_enter_40 : decode cX6_enter 40 = .ok (.getfield 16, 3) := by decide +kernel
theorem dX6_enter_43 : decode cX6_enter 43 = .ok (.bipush 7, 2) := by decide +kernel
theorem dX6_enter_45 : decode cX6_enter 45 = .ok (.iaload, 1) := by decide +kernel
theorem dX6_enter_46 : decode cX6_enter 46 = .ok (.bipush 12, 2) := by decide +kernel
theorem dX6_enter_48 : decode cX6_enter 48 = .ok (.if_icmp .eq 16, 3) := by decide +kernel
theorem dX6_enter_51 : decode cX6_enter 51 = .ok (.aload_n 0, 1) := by decide +kernel
theorem dX6_enter_52 : decode cX6_enter 52 = .ok (.getfield 16, 3) := by decide +kernel
theorem dX6_enter_55 : decode cX6_enter 55 = .ok (.iload_n 2, 1) := by decide +kernel
theorem dX6_enter_56 : decode cX6_enter 56 = .ok (.bipush (-9), 2) := by decide +kernel
theorem dX6_enter_58 : decode cX6_enter 58 = .ok (.invokestatic 116, 3) := by decide +kernel
theorem dX6_enter_61 : decode cX6_enter 61 = .ok (.ifCond .eq 7, 3) := by decide +kernel
theorem dX6_enter_64 : decode cX6_enter 64 = .ok (.iconst 2, 1) := by decide +kernel
theorem dX6_enter_65 : decode cX6_enter 65 = .ok (.goto 4, 3) := by decide +kernel
theorem dX6_enter_68 : decode cX6_enter 68 = .ok (.iconst 0, 1) := by decide +kernel
theorem dX6_enter_69 : decode cX6_enter 69 = .ok (.invokevirtual 102, 3) := by decide +kernel
theorem dX6_enter_72 : decode cX6_enter 72 = .ok (.ifCond .eq 5, 3) := by decide +kernel
theorem dX6_enter_75 : decode cX6_enter 75 = .ok (.iconst 0, 1) := by decide +kernel
theorem dX6_enter_76 : decode cX6_enter 76 = .ok (.ireturn, 1) := by decide +kernel
theorem dX6_enter_77 : decode cX6_enter 77 = .ok (.aload_n 0, 1) := by decide +kernel
theorem dX6_enter_78 : decode cX6_enter 78 = .ok (.invokevirtual 178, 3) := by decide +kernel
theorem dX6_enter_81 : decode cX6_enter 81 = .ok (.aload_n 0, 1) := by decide +kernel
theorem dX6_enter_82 : decode cX6_enter 82 = .ok (.getfield 16, 3) := by decide +kernel
theorem dX6_enter_85 : decode cX6_enter 85 = .ok (.iload_n 1, 1) := by decide +kernel
theorem dX6_enter_86 : decode cX6_enter 86 = .ok (.iload_n 2, 1) := by decide +kernel
theorem dX6_enter_87 : decode cX6_enter 87 = .ok (.invokestatic 125, 3) := by decide +kernel
theorem dX6_enter_90 : decode cX6_enter 90 = .ok (.aload_n 0, 1) := by decide +kernel
theorem dX6_enter_91 : decode cX6_enter 91 = .ok (.getfield 16, 3) := by decide +kernel
theorem dX6_enter_94 : decode cX6_enter 94 = .ok (.bipush 7, 2) := by decide +kernel
theorem dX6_enter_96 : decode cX6_enter 96 = .ok (.iaload, 1) := by decide +kernel
theorem dX6_enter_97 : decode cX6_enter 97 = .ok (.iconst 1, 1) := by decide +kernel
theorem dX6_enter_98 : decode cX6_enter 98 = .ok (.isub, 1) := by decide +kernel
theorem dX6_enter_99 : decode cX6_enter 99 = .ok (.ireturn, 1) := by decide +kernel
set_option maxRecDepth 20000 in
theorem ggX6_withdraw_X6_isDog : GoodIn wsX6_withdraw wsX6_isDog := goodIn_r _ [5, 6, 7, 4, 8] (by decide +kernel) (by decide +kernel)
set_option maxRecDepth 20000 in
theorem gX6_withdraw_X6_isDog : GoodIn wsX6_withdraw (va_wsS RX6 161 yX6_isDog wsX6_isDog) := goodIn_app (goodIn_of _ (by decide +kernel)) ggX6_withdraw_X6_isDog
set_option maxRecDepth 20000 in
theorem ggX6_withdraw_X6_stateOf : GoodIn wsX6_withdraw wsX6_stateOf := goodIn_r _ [11, 12, 13, 4, 14] (by decide +kernel) (by decide +kernel)
set_option maxRecDepth 20000 in
theorem gX6_withdraw_X6_stateOf : GoodIn wsX6_withdraw (va_wsS RX6 47 yX6_stateOf wsX6_stateOf) := goodIn_app (goodIn_of _ (by decide +kernel)) ggX6_withdraw_X6_stateOf
set_option maxRecDepth 20000 in
theorem ggX6_withdraw_X6_refused : GoodIn wsX6_withdraw wsX6_refused := goodIn_r _ [18, 19, 29, 30, 31, 32, 33, 34, 35, 36, 37, 38, 39, 40, 41] (by decide +kernel) (by decide +kernel)
set_option maxRecDepth 20000 in
theorem gX6_withdraw_X6_refused : GoodIn wsX6_withdraw (wsV RX6 102 RX6 yX6_refused wsX6_refused) := goodIn_app (goodIn_of _ (by decide +kernel)) ggX6_withdraw_X6_refused
set_option maxRecDepth 20000 in
theorem ggX6_withdraw_X6_note : GoodIn wsX6_withdraw wsX6_note := goodIn_r _ [23, 24, 25, 1, 26, 27, 4, 28, 29, 30, 31, 32, 33, 34, 35, 36, 37, 38, 39, 40, 41] (by decide +kernel) (by decide +kernel)
set_option maxRecDepth 20000 in
theorem gX6_withdraw_X6_note : GoodIn wsX6_withdraw (wsV RX6 178 RX6 yX6_note wsX6_note) := goodIn_app (goodIn_of _ (by decide +kernel)) ggX6_withdraw_X6_note
set_option maxRecDepth 20000 in
theorem ggX6_withdraw_X6_dogAt : GoodIn wsX6_withdraw wsX6_dogAt := goodIn_r _ [14] (by decide +kernel) (by decide +kernel)
set_option maxRecDepth 20000 in
theorem gX6_withdraw_X6_dogAt : GoodIn wsX6_withdraw (va_wsS RX6 43 yX6_dogAt wsX6_dogAt) := goodIn_app (goodIn_of _ (by decide +kernel)) ggX6_withdraw_X6_dogAt
theorem dX6_withdraw_0 : decode cX6_withdraw 0 = .ok (.aload_n 0, 1) := by decide +kernel
theorem dX6_withdraw_1 : decode cX6_withdraw 1 = .ok (.aload_n 0, 1) := by decide +kernel
theorem dX6_withdraw_2 : decode cX6_withdraw 2 = .ok (.getfield 16, 3) := by decide +kernel
theorem dX6_withdraw_5 : decode cX6_withdraw 5 = .ok (.iload_n 1, 1) := by decide +kernel
theorem dX6_withdraw_6 : decode cX6_withdraw 6 = .ok (.invokestatic 161, 3) := by decide +kernel
theorem dX6_withdraw_9 : decode cX6_withdraw 9 = .ok (.ifCond .ne 7, 3) := by decide +kernel
theorem dX6_withdraw_12 : decode cX6_withdraw 12 = .ok (.iconst 1, 1) := by decide +kernel
theorem dX6_withdraw_13 : decode cX6_withdraw 13 = .ok (.goto 20, 3) := by decide +kernel
theorem dX6_withdraw_16 : decode cX6_withdraw 16 = .ok (.aload_n 0, 1) := by decide +kernel
theorem dX6_withdraw_17 : decode cX6_withdraw 17 = .ok (.getfield 16, 3) := by decide +kernel
theorem dX6_withdraw_20 : decode cX6_withdraw 20 = .ok (.iload_n 1, 1) := by decide +kernel
theorem dX6_withdraw_21 : decode cX6_withdraw 21 = .ok (.invokestatic 47, 3) := by decide +kernel
theorem dX6_withdraw_24 : decode cX6_withdraw 24 = .ok (.iconst 3, 1) := by decide +kernel
theorem dX6_withdraw_25 : decode cX6_withdraw 25 = .ok (.if_icmp .ne 7, 3) := by decide +kernel
theorem dX6_withdraw_28 : decode cX6_withdraw 28 = .ok (.iconst 2, 1) := by decide +kernel
theorem dX6_withdraw_29 : decode cX6_withdraw 29 = .ok (.goto 4, 3) := by decide +kernel
theorem dX6_withdraw_32 : decode cX6_withdraw 32 = .ok (.iconst 0, 1) := by decide +kernel
theorem dX6_withdraw_33 : decode cX6_withdraw 33 = .ok (.invokevirtual 102, 3) := by decide +kernel
theorem dX6_withdraw_36 : decode cX6_withdraw 36 = .ok (.ifCond .eq 5, 3) := by decide +kernel
theorem dX6_withdraw_39 : decode cX6_withdraw 39 = .ok (.iconst 0, 1) := by decide +kernel
theorem dX6_withdraw_40 : decode cX6_withdraw 40 = .ok (.ireturn, 1) := by decide +kernel
theorem dX6_withdraw_41 : decode cX6_withdraw 41 = .ok (.aload_n 0, 1) := by decide +kernel
theorem dX6_withdraw_42 : decode cX6_withdraw 42 = .ok (.invokevirtual 178, 3) := by decide +kernel
theorem dX6_withdraw_45 : decode cX6_withdraw 45 = .ok (.aload_n 0, 1) := by decide +kernel
theorem dX6_withdraw_46 : decode cX6_withdraw 46 = .ok (.getfield 16, 3) := by decide +kernel
theorem dX6_withdraw_49 : decode cX6_withdraw 49 = .ok (.iload_n 1, 1) := by decide +kernel
theorem dX6_withdraw_50 : decode cX6_withdraw 50 = .ok (.invokestatic 47, 3) := by decide +kernel
theorem dX6_withdraw_53 : decode cX6_withdraw 53 = .ok (.istore_n 2, 1) := by decide +kernel
theorem dX6_withdraw_54 : decode cX6_withdraw 54 = .ok (.aload_n 0, 1) := by decide +kernel
theorem dX6_withdraw_55 : decode cX6_withdraw 55 = .ok (.getfield 16, 3) := by decide +kernel
theorem dX6_withdraw_58 : decode cX6_withdraw 58 = .ok (.iload_n 1, 1) := by decide +kernel
theorem dX6_withdraw_59 : decode cX6_withdraw 59 = .ok (.invokestatic 43, 3) := by decide +kernel
theorem dX6_withdraw_62 : decode cX6_withdraw 62 = .ok (.iconst 2, 1) := by decide +kernel
theorem dX6_withdraw_63 : decode cX6_withdraw 63 = .ok (.iadd, 1) := by decide +kernel
theorem dX6_withdraw_64 : decode cX6_withdraw 64 = .ok (.iconst 3, 1) := by decide +kernel
theorem dX6_withdraw_65 : decode cX6_withdraw 65 = .ok (.iastore, 1) := by decide +kernel
theorem dX6_withdraw_66 : decode cX6_withdraw 66 = .ok (.iload_n 2, 1) := by decide +kernel
theorem dX6_withdraw_67 : decode cX6_withdraw 67 = .ok (.ireturn, 1) := by decide +kernel
set_option maxRecDepth 20000 in
theorem ggX6_arePoints_X6_in : GoodIn wsX6_arePoints wsX6_in := goodIn_r _ [6] (by decide +kernel) (by decide +kernel)
set_option maxRecDepth 20000 in
theorem gX6_arePoints_X6_in : GoodIn wsX6_arePoints (va_wsS RX6 51 yX6_in wsX6_in) := goodIn_app (goodIn_of _ (by decide +kernel)) ggX6_arePoints_X6_in
set_option maxRecDepth 20000 in
theorem ggX6_arePoints_X6_worth : GoodIn wsX6_arePoints wsX6_worth := goodIn_r _ [9] (by decide +kernel) (by decide +kernel)
set_option maxRecDepth 20000 in
theorem gX6_arePoints_X6_worth : GoodIn wsX6_arePoints (va_wsS RX6 57 yX6_worth wsX6_worth) := goodIn_app (goodIn_of _ (by decide +kernel)) ggX6_arePoints_X6_worth
theorem dX6_arePoints_0 : decode cX6_arePoints 0 = .ok (.lload_n 0, 1) := by decide +kernel
theorem dX6_arePoints_1 : decode cX6_arePoints 1 = .ok (.lconst 0, 1) := by decide +kernel
theorem dX6_arePoints_2 : decode cX6_arePoints 2 = .ok (.ldc2_w 181, 3) := by decide +kernel
theorem dX6_arePoints_5 : decode cX6_arePoints 5 = .ok (.invokestatic 51, 3) := by decide +kernel
theorem dX6_arePoints_8 : decode cX6_arePoints 8 = .ok (.istore_n 2, 1) := by decide +kernel
theorem dX6_arePoints_9 : decode cX6_arePoints 9 = .ok (.lload_n 0, 1) := by decide +kernel
theorem dX6_arePoints_10 : decode cX6_arePoints 10 = .ok (.lstore_n 3, 1) := by decide +kernel
theorem dX6_arePoints_11 : decode cX6_arePoints 11 = .ok (.iconst 5, 1) := by decide +kernel
theorem dX6_arePoints_12 : decode cX6_arePoints 12 = .ok (.istore 5, 2) := by decide +kernel
theorem dX6_arePoints_14 : decode cX6_arePoints 14 = .ok (.iload 5, 2) := by decide +kernel
theorem dX6_arePoints_16 : decode cX6_arePoints 16 = .ok (.ifCond .lt 38, 3) := by decide +kernel
theorem dX6_arePoints_19 : decode cX6_arePoints 19 = .ok (.iload_n 2, 1) := by decide +kernel
theorem dX6_arePoints_20 : decode cX6_arePoints 20 = .ok (.lload_n 3, 1) := by decide +kernel
theorem dX6_arePoints_21 : decode cX6_arePoints 21 = .ok (.ldc2_w 95, 3) := by decide +kernel
theorem dX6_arePoints_24 : decode cX6_arePoints 24 = .ok (.lrem, 1) := by decide +kernel
theorem dX6_arePoints_25 : decode cX6_arePoints 25 = .ok (.iload 5, 2) := by decide +kernel
theorem dX6_arePoints_27 : decode cX6_arePoints 27 = .ok (.invokestatic 57, 3) := by decide +kernel
theorem dX6_arePoints_30 : decode cX6_arePoints 30 = .ok (.i2l, 1) := by decide +kernel
theorem dX6_arePoints_31 : decode cX6_arePoints 31 = .ok (.lcmp, 1) := by decide +kernel
theorem dX6_arePoints_32 : decode cX6_arePoints 32 = .ok (.ifCond .gt 7, 3) := by decide +kernel
theorem dX6_arePoints_35 : decode cX6_arePoints 35 = .ok (.iconst 1, 1) := by decide +kernel
theorem dX6_arePoints_36 : decode cX6_arePoints 36 = .ok (.goto 4, 3) := by decide +kernel
theorem dX6_arePoints_39 : decode cX6_arePoints 39 = .ok (.iconst 0, 1) := by decide +kernel
theorem dX6_arePoints_40 : decode cX6_arePoints 40 = .ok (.iand, 1) := by decide +kernel
theorem dX6_arePoints_41 : decode cX6_arePoints 41 = .ok (.istore_n 2, 1) := by decide +kernel
theorem dX6_arePoints_42 : decode cX6_arePoints 42 = .ok (.lload_n 3, 1) := by decide +kernel
theorem dX6_arePoints_43 : decode cX6_arePoints 43 = .ok (.ldc2_w 95, 3) := by decide +kernel
theorem dX6_arePoints_46 : decode cX6_arePoints 46 = .ok (.ldiv, 1) := by decide +kernel
theorem dX6_arePoints_47 : decode cX6_arePoints 47 = .ok (.lstore_n 3, 1) := by decide +kernel
theorem dX6_arePoints_48 : decode cX6_arePoints 48 = .ok (.iinc 5 (-1), 3) := by decide +kernel
theorem dX6_arePoints_51 : decode cX6_arePoints 51 = .ok (.goto (-37), 3) := by decide +kernel
theorem dX6_arePoints_54 : decode cX6_arePoints 54 = .ok (.iload_n 2, 1) := by decide +kernel
theorem dX6_arePoints_55 : decode cX6_arePoints 55 = .ok (.ireturn, 1) := by decide +kernel
set_option maxRecDepth 20000 in
theorem ggX6_run_X6_arePoints : GoodIn wsX6_run wsX6_arePoints := goodIn_r _ [6, 7, 8, 9, 10, 5, 11, 12, 13, 14] (by decide +kernel) (by decide +kernel)
set_option maxRecDepth 20000 in
theorem gX6_run_X6_arePoints : GoodIn wsX6_run (va_wsS RX6 183 yX6_arePoints wsX6_arePoints) := goodIn_app (goodIn_of _ (by decide +kernel)) ggX6_run_X6_arePoints
set_option maxRecDepth 20000 in
theorem ggX6_run_X6_in : GoodIn wsX6_run wsX6_in := goodIn_r _ [11] (by decide +kernel) (by decide +kernel)
set_option maxRecDepth 20000 in
theorem gX6_run_X6_in : GoodIn wsX6_run (va_wsS RX6 51 yX6_in wsX6_in) := goodIn_app (goodIn_of _ (by decide +kernel)) ggX6_run_X6_in
set_option maxRecDepth 20000 in
theorem ggX6_run_X6_why : GoodIn wsX6_run wsX6_why := goodIn_r _ [17, 18, 19, 5, 20, 21, 22, 23, 24, 25, 26, 27, 28, 29] (by decide +kernel) (by decide +kernel)
set_option maxRecDepth 20000 in
theorem gX6_run_X6_why : GoodIn wsX6_run (va_wsS RX6 189 yX6_why wsX6_why) := goodIn_app (goodIn_of _ (by decide +kernel)) ggX6_run_X6_why
set_option maxRecDepth 20000 in
theorem ggX6_run_X6_refused : GoodIn wsX6_run wsX6_refused := goodIn_r _ [33, 34, 74, 75, 76, 77, 78, 79, 80, 81, 82, 83, 84, 85, 86] (by decide +kernel) (by decide +kernel)
set_option maxRecDepth 20000 in
theorem gX6_run_X6_refused : GoodIn wsX6_run (wsV RX6 102 RX6 yX6_refused wsX6_refused) := goodIn_app (goodIn_of _ (by decide +kernel)) ggX6_run_X6_refused
set_option maxRecDepth 20000 in
theorem ggX6_run_X6_note : GoodIn wsX6_run wsX6_note := goodIn_r _ [38, 39, 40, 2, 41, 42, 5, 43, 74, 75, 76, 77, 78, 79, 80, 81, 82, 83, 84, 85, 86] (by decide +kernel) (by decide +kernel)
set_option maxRecDepth 20000 in
theorem gX6_run_X6_note : GoodIn wsX6_run (wsV RX6 178 RX6 yX6_note wsX6_note) := goodIn_app (goodIn_of _ (by decide +kernel)) ggX6_run_X6_note
set_option maxRecDepth 20000 in
theorem ggX6_run_X6_firstOf : GoodIn wsX6_run wsX6_firstOf := goodIn_r _ [47, 48, 49, 50, 51, 52, 5, 53, 27, 28, 29, 54, 55, 56, 57, 24, 25, 26, 58, 59, 60, 61, 74, 75, 76, 77, 78, 79, 80, 81, 82, 83, 84, 85, 86] (by decide +kernel) (by decide +kernel)
set_option maxRecDepth 20000 in
theorem gX6_run_X6_firstOf : GoodIn wsX6_run (wsV RX6 192 RX6 yX6_firstOf wsX6_firstOf) := goodIn_app (goodIn_of _ (by decide +kernel)) ggX6_run_X6_firstOf
set_option maxRecDepth 20000 in
theorem ggX6_run_X6_runOn : GoodIn wsX6_run wsX6_runOn := goodIn_r _ [64, 8, 27, 28, 5, 29] (by decide +kernel) (by decide +kernel)
set_option maxRecDepth 20000 in
theorem gX6_run_X6_runOn : GoodIn wsX6_run (va_wsS RX6 195 yX6_runOn wsX6_runOn) := goodIn_app (goodIn_of _ (by decide +kernel)) ggX6_run_X6_runOn
set_option maxRecDepth 20000 in
theorem ggX6_run_X6_score : GoodIn wsX6_run wsX6_score := goodIn_r _ [67, 68, 69, 5, 70, 27, 28, 29, 71, 72, 73, 12, 13, 14] (by decide +kernel) (by decide +kernel)
set_option maxRecDepth 20000 in
theorem gX6_run_X6_score : GoodIn wsX6_run (va_wsS RX6 68 yX6_score wsX6_score) := goodIn_app (goodIn_of _ (by decide +kernel)) ggX6_run_X6_score
theorem dX6_run_0 : decode cX6_run 0 = .ok (.aload_n 0, 1) := by decide +kernel
theorem dX6_run_1 : decode cX6_run 1 = .ok (.lload_n 1, 1) := by decide +kernel
theorem dX6_run_2 : decode cX6_run 2 = .ok (.invokestatic 183, 3) := by decide +kernel
theorem dX6_run_5 : decode cX6_run 5 = .ok (.ifCond .eq 15, 3) := by decide +kernel
theorem dX6_run_8 : decode cX6_run 8 = .ok (.iload_n 3, 1) := by decide +kernel
theorem dX6_run_9 : decode cX6_run 9 = .ok (.i2l, 1) := by decide +kernel
theorem dX6_run_10 : decode cX6_run 10 = .ok (.lconst 1, 1) := by decide +kernel
theorem dX6_run_11 : decode cX6_run 11 = .ok (.ldc2_w 187, 3) := by decide +kernel
theorem dX6_run_14 : decode cX6_run 14 = .ok (.invokestatic 51, 3) := by decide +kernel
theorem dX6_run_17 : decode cX6_run 17 = .ok (.ifCond .ne 7, 3) := by decide +kernel
theorem dX6_run_20 : decode cX6_run 20 = .ok (.iconst 1, 1) := by decide +kernel
theorem dX6_run_21 : decode cX6_run 21 = .ok (.goto 18, 3) := by decide +kernel
theorem dX6_run_24 : decode cX6_run 24 = .ok (.aload_n 0, 1) := by decide +kernel
theorem dX6_run_25 : decode cX6_run 25 = .ok (.getfield 16, 3) := by decide +kernel
theorem dX6_run_28 : decode cX6_run 28 = .ok (.invokestatic 189, 3) := by decide +kernel
theorem dX6_run_31 : decode cX6_run 31 = .ok (.ifCond .eq 7, 3) := by decide +kernel
theorem dX6_run_34 : decode cX6_run 34 = .ok (.iconst 2, 1) := by decide +kernel
theorem dX6_run_35 : decode cX6_run 35 = .ok (.goto 4, 3) := by decide +kernel
theorem dX6_run_38 : decode cX6_run 38 = .ok (.iconst 0, 1) := by decide +kernel
theorem dX6_run_39 : decode cX6_run 39 = .ok (.invokevirtual 102, 3) := by decide +kernel
theorem dX6_run_42 : decode cX6_run 42 = .ok (.ifCond .eq 5, 3) := by decide +kernel
theorem dX6_run_45 : decode cX6_run 45 = .ok (.iconst 0, 1) := by decide +kernel
theorem dX6_run_46 : decode cX6_run 46 = .ok (.ireturn, 1) := by decide +kernel
theorem dX6_run_47 : decode cX6_run 47 = .ok (.aload_n 0, 1) := by decide +kernel
theorem dX6_run_48 : decode cX6_run 48 = .ok (.invokevirtual 178, 3) := by decide +kernel
theorem dX6_run_51 : decode cX6_run 51 = .ok (.aload_n 0, 1) := by decide +kernel
theorem dX6_run_52 : decode cX6_run 52 = .ok (.aload_n 0, 1) := by decide +kernel
theorem dX6_run_53 : decode cX6_run 53 = .ok (.getfield 16, 3) := by decide +kernel
theorem dX6_run_56 : decode cX6_run 56 = .ok (.invokevirtual 192, 3) := by decide +kernel
theorem dX6_run_59 : decode cX6_run 59 = .ok (.istore 4, 2) := by decide +kernel
theorem dX6_run_61 : decode cX6_run 61 = .ok (.aload_n 0, 1) := by decide +kernel
theorem dX6_run_62 : decode cX6_run 62 = .ok (.getfield 16, 3) := by decide +kernel
theorem dX6_run_65 : decode cX6_run 65 = .ok (.iload 4, 2) := by decide +kernel
theorem dX6_run_67 : decode cX6_run 67 = .ok (.lload_n 1, 1) := by decide +kernel
theorem dX6_run_68 : decode cX6_run 68 = .ok (.iload_n 3, 1) := by decide +kernel
theorem dX6_run_69 : decode cX6_run 69 = .ok (.invokestatic 195, 3) := by decide +kernel
theorem dX6_run_72 : decode cX6_run 72 = .ok (.ifCond .eq 15, 3) := by decide +kernel
theorem dX6_run_75 : decode cX6_run 75 = .ok (.aload_n 0, 1) := by decide +kernel
theorem dX6_run_76 : decode cX6_run 76 = .ok (.getfield 16, 3) := by decide +kernel
theorem dX6_run_79 : decode cX6_run 79 = .ok (.iload 4, 2) := by decide +kernel
theorem dX6_run_81 : decode cX6_run 81 = .ok (.invokestatic 68, 3) := by decide +kernel
theorem dX6_run_84 : decode cX6_run 84 = .ok (.goto 5, 3) := by decide +kernel
theorem dX6_run_87 : decode cX6_run 87 = .ok (.bipush (-9), 2) := by decide +kernel
theorem dX6_run_89 : decode cX6_run 89 = .ok (.ireturn, 1) := by decide +kernel
set_option maxRecDepth 20000 in
theorem ggX6_interfere_X6_isDog : GoodIn wsX6_interfere wsX6_isDog := goodIn_r _ [5, 6, 7, 4, 8] (by decide +kernel) (by decide +kernel)
set_option maxRecDepth 20000 in
theorem gX6_interfere_X6_isDog : GoodIn wsX6_interfere (va_wsS RX6 161 yX6_isDog wsX6_isDog) := goodIn_app (goodIn_of _ (by decide +kernel)) ggX6_interfere_X6_isDog
set_option maxRecDepth 20000 in
theorem ggX6_interfere_X6_isPhase : GoodIn wsX6_interfere wsX6_isPhase := goodIn_r _ [11, 12, 6, 7, 4, 8] (by decide +kernel) (by decide +kernel)
set_option maxRecDepth 20000 in
theorem gX6_interfere_X6_isPhase : GoodIn wsX6_interfere (va_wsS RX6 172 yX6_isPhase wsX6_isPhase) := goodIn_app (goodIn_of _ (by decide +kernel)) ggX6_interfere_X6_isPhase
set_option maxRecDepth 20000 in
theorem ggX6_interfere_X6_stateOf : GoodIn wsX6_interfere wsX6_stateOf := goodIn_r _ [15, 16, 17, 4, 18] (by decide +kernel) (by decide +kernel)
set_option maxRecDepth 20000 in
theorem gX6_interfere_X6_stateOf : GoodIn wsX6_interfere (va_wsS RX6 47 yX6_stateOf wsX6_stateOf) := goodIn_app (goodIn_of _ (by decide +kernel)) ggX6_interfere_X6_stateOf
set_option maxRecDepth 20000 in
theorem ggX6_interfere_X6_refused : GoodIn wsX6_interfere wsX6_refused := goodIn_r _ [22, 23, 48, 49, 50, 51, 52, 53, 54, 55, 56, 57, 58, 59, 60] (by decide +kernel) (by decide +kernel)
set_option maxRecDepth 20000 in
theorem gX6_interfere_X6_refused : GoodIn wsX6_interfere (wsV RX6 102 RX6 yX6_refused wsX6_refused) := goodIn_app (goodIn_of _ (by decide +kernel)) ggX6_interfere_X6_refused
set_option maxRecDepth 20000 in
theorem ggX6_interfere_X6_note : GoodIn wsX6_interfere wsX6_note := goodIn_r _ [27, 28, 29, 1, 30, 31, 4, 32, 48, 49, 50, 51, 52, 53, 54, 55, 56, 57, 58, 59, 60] (by decide +kernel) (by decide +kernel)
set_option maxRecDepth 20000 in
theorem gX6_interfere_X6_note : GoodIn wsX6_interfere (wsV RX6 178 RX6 yX6_note wsX6_note) := goodIn_app (goodIn_of _ (by decide +kernel)) ggX6_interfere_X6_note
set_option maxRecDepth 20000 in
theorem ggX6_interfere_X6_breakOn : GoodIn wsX6_interfere wsX6_breakOn := goodIn_r _ [35, 16, 17, 4, 18] (by decide +kernel) (by decide +kernel)
set_option maxRecDepth 20000 in
theorem gX6_interfere_X6_breakOn : GoodIn wsX6_interfere (va_wsS RX6 199 yX6_breakOn wsX6_breakOn) := goodIn_app (goodIn_of _ (by decide +kernel)) ggX6_interfere_X6_breakOn
set_option maxRecDepth 20000 in
theorem ggX6_interfere_X6_score : GoodIn wsX6_interfere wsX6_score := goodIn_r _ [38, 39, 40, 4, 41, 16, 17, 18, 42, 43, 44, 45, 46, 47] (by decide +kernel) (by decide +kernel)
set_option maxRecDepth 20000 in
theorem gX6_interfere_X6_score : GoodIn wsX6_interfere (va_wsS RX6 68 yX6_score wsX6_score) := goodIn_app (goodIn_of _ (by decide +kernel)) ggX6_interfere_X6_score
theorem dX6_interfere_0 : decode cX6_interfere 0 = .ok (.aload_n 0, 1) := by decide +kernel
theorem dX6_interfere_1 : decode cX6_interfere 1 = .ok (.aload_n 0, 1) := by decide +kernel
theorem dX6_interfere_2 : decode cX6_interfere 2 = .ok (.getfield 16, 3) := by decide +kernel
theorem dX6_interfere_5 : decode cX6_interfere 5 = .ok (.iload_n 1, 1) := by decide +kernel
theorem dX6_interfere_6 : decode cX6_interfere 6 = .ok (.invokestatic 161, 3) := by decide +kernel
theorem dX6_interfere_9 : decode cX6_interfere 9 = .ok (.ifCond .eq 10, 3) := by decide +kernel
theorem dX6_interfere_12 : decode cX6_interfere 12 = .ok (.iload_n 2, 1) := by decide +kernel
theorem dX6_interfere_13 : decode cX6_interfere 13 = .ok (.invokestatic 172, 3) := by decide +kernel
theorem dX6_interfere_16 : decode cX6_interfere 16 = .ok (.ifCond .ne 7, 3) := by decide +kernel
theorem dX6_interfere_19 : decode cX6_interfere 19 = .ok (.iconst 1, 1) := by decide +kernel
theorem dX6_interfere_20 : decode cX6_interfere 20 = .ok (.goto 20, 3) := by decide +kernel
theorem dX6_interfere_23 : decode cX6_interfere 23 = .ok (.aload_n 0, 1) := by decide +kernel
theorem dX6_interfere_24 : decode cX6_interfere 24 = .ok (.getfield 16, 3) := by decide +kernel
theorem dX6_interfere_27 : decode cX6_interfere 27 = .ok (.iload_n 1, 1) := by decide +kernel
theorem dX6_interfere_28 : decode cX6_interfere 28 = .ok (.invokestatic 47, 3) := by decide +kernel
theorem dX6_interfere_31 : decode cX6_interfere 31 = .ok (.iconst 1, 1) := by decide +kernel
theorem dX6_interfere_32 : decode cX6_interfere 32 = .ok (.if_icmp .eq 7, 3) := by decide +kernel
theorem dX6_interfere_35 : decode cX6_interfere 35 = .ok (.iconst 2, 1) := by decide +kernel
theorem dX6_interfere_36 : decode cX6_interfere 36 = .ok (.goto 4, 3) := by decide +kernel
theorem dX6_interfere_39 : decode cX6_interfere 39 = .ok (.iconst 0, 1) := by decide +kernel
theorem dX6_interfere_40 : decode cX6_interfere 40 = .ok (.invokevirtual 102, 3) := by decide +kernel
theorem dX6_interfere_43 : decode cX6_interfere 43 = .ok (.ifCond .eq 5, 3) := by decide +kernel
theorem dX6_interfere_46 : decode cX6_interfere 46 = .ok (.iconst 0, 1) := by decide +kernel
theorem dX6_interfere_47 : decode cX6_interfere 47 = .ok (.ireturn, 1) := by decide +kernel
theorem dX6_interfere_48 : decode cX6_interfere 48 = .ok (.aload_n 0, 1) := by decide +kernel
theorem dX6_interfere_49 : decode cX6_interfere 49 = .ok (.invokevirtual 178, 3) := by decide +kernel
theorem dX6_interfere_52 : decode cX6_interfere 52 = .ok (.aload_n 0, 1) := by decide +kernel
theorem dX6_interfere_53 : decode cX6_interfere 53 = .ok (.getfield 16, 3) := by decide +kernel
theorem dX6_interfere_56 : decode cX6_interfere 56 = .ok (.iload_n 1, 1) := by decide +kernel
theorem dX6_interfere_57 : decode cX6_interfere 57 = .ok (.iload_n 2, 1) := by decide +kernel
theorem dX6_interfere_58 : decode cX6_interfere 58 = .ok (.invokestatic 199, 3) := by decide +kernel
theorem dX6_interfere_61 : decode cX6_interfere 61 = .ok (.aload_n 0, 1) := by decide +kernel
theorem dX6_interfere_62 : decode cX6_interfere 62 = .ok (.getfield 16, 3) := by decide +kernel
theorem dX6_interfere_65 : decode cX6_interfere 65 = .ok (.iload_n 1, 1) := by decide +kernel
theorem dX6_interfere_66 : decode cX6_interfere 66 = .ok (.invokestatic 68, 3) := by decide +kernel
theorem dX6_interfere_69 : decode cX6_interfere 69 = .ok (.ireturn, 1) := by decide +kernel
set_option maxRecDepth 20000 in
theorem ggX6_isSunset_X6_in : GoodIn wsX6_isSunset wsX6_in := goodIn_r _ [6] (by decide +kernel) (by decide +kernel)
set_option maxRecDepth 20000 in
theorem gX6_isSunset_X6_in : GoodIn wsX6_isSunset (va_wsS RX6 51 yX6_in wsX6_in) := goodIn_app (goodIn_of _ (by decide +kernel)) ggX6_isSunset_X6_in
theorem dX6_isSunset_0 : decode cX6_isSunset 0 = .ok (.iload_n 0, 1) := by decide +kernel
theorem dX6_isSunset_1 : decode cX6_isSunset 1 = .ok (.i2l, 1) := by decide +kernel
theorem dX6_isSunset_2 : decode cX6_isSunset 2 = .ok (.ldc2_w 202, 3) := by decide +kernel
theorem dX6_isSunset_5 : decode cX6_isSunset 5 = .ok (.ldc2_w 204, 3) := by decide +kernel
theorem dX6_isSunset_8 : decode cX6_isSunset 8 = .ok (.invokestatic 51, 3) := by decide +kernel
theorem dX6_isSunset_11 : decode cX6_isSunset 11 = .ok (.ireturn, 1) := by decide +kernel
set_option maxRecDepth 20000 in
theorem ggX6_nextDay_X6_isSunset : GoodIn wsX6_nextDay wsX6_isSunset := goodIn_r _ [5, 6, 7, 8, 9, 4, 10] (by decide +kernel) (by decide +kernel)
set_option maxRecDepth 20000 in
theorem gX6_nextDay_X6_isSunset : GoodIn wsX6_nextDay (va_wsS RX6 206 yX6_isSunset wsX6_isSunset) := goodIn_app (goodIn_of _ (by decide +kernel)) ggX6_nextDay_X6_isSunset
set_option maxRecDepth 20000 in
theorem ggX6_nextDay_X6_refused : GoodIn wsX6_nextDay wsX6_refused := goodIn_r _ [14, 15, 28, 29, 30, 31, 32, 33, 34, 35, 36, 37, 38, 39, 40] (by decide +kernel) (by decide +kernel)
set_option maxRecDepth 20000 in
theorem gX6_nextDay_X6_refused : GoodIn wsX6_nextDay (wsV RX6 102 RX6 yX6_refused wsX6_refused) := goodIn_app (goodIn_of _ (by decide +kernel)) ggX6_nextDay_X6_refused
set_option maxRecDepth 20000 in
theorem ggX6_nextDay_X6_note : GoodIn wsX6_nextDay wsX6_note := goodIn_r _ [19, 20, 21, 1, 22, 23, 4, 24, 28, 29, 30, 31, 32, 33, 34, 35, 36, 37, 38, 39, 40] (by decide +kernel) (by decide +kernel)
set_option maxRecDepth 20000 in
theorem gX6_nextDay_X6_note : GoodIn wsX6_nextDay (wsV RX6 178 RX6 yX6_note wsX6_note) := goodIn_app (goodIn_of _ (by decide +kernel)) ggX6_nextDay_X6_note
set_option maxRecDepth 20000 in
theorem ggX6_nextDay_X6_nextOn : GoodIn wsX6_nextDay wsX6_nextOn := goodIn_r _ [27] (by decide +kernel) (by decide +kernel)
set_option maxRecDepth 20000 in
theorem gX6_nextDay_X6_nextOn : GoodIn wsX6_nextDay (va_wsS RX6 209 yX6_nextOn wsX6_nextOn) := goodIn_app (goodIn_of _ (by decide +kernel)) ggX6_nextDay_X6_nextOn
theorem dX6_nextDay_0 : decode cX6_nextDay 0 = .ok (.aload_n 0, 1) := by decide +kernel
theorem dX6_nextDay_1 : decode cX6_nextDay 1 = .ok (.iload_n 1, 1) := by decide +kernel
theorem dX6_nextDay_2 : decode cX6_nextDay 2 = .ok (.invokestatic 206, 3) := by decide +kernel
theorem dX6_nextDay_5 : decode cX6_nextDay 5 = .ok (.ifCond .eq 7, 3) := by decide +kernel
theorem dX6_nextDay_8 : decode cX6_nextDay 8 = .ok (.iconst 0, 1) := by decide +kernel
theorem dX6_nextDay_9 : decode cX6_nextDay 9 = .ok (.goto 4, 3) := by decide +kernel
theorem dX6_nextDay_12 : decode cX6_nextDay 12 = .ok (.iconst 1, 1) := by decide +kernel
theorem dX6_nextDay_13 : decode cX6_nextDay 13 = .ok (.invokevirtual 102, 3) := by decide +kernel
theorem dX6_nextDay_16 : decode cX6_nextDay 16 = .ok (.ifCond .eq 5, 3) := by decide +kernel
theorem dX6_nextDay_19 : decode cX6_nextDay 19 = .ok (.iconst 0, 1) := by decide +kernel
theorem dX6_nextDay_20 : decode cX6_nextDay 20 = .ok (.ireturn, 1) := by decide +kernel
theorem dX6_nextDay_21 : decode cX6_nextDay 21 = .ok (.aload_n 0, 1) := by decide +kernel
theorem dX6_nextDay_22 : decode cX6_nextDay 22 = .ok (.invokevirtual 178, 3) := by decide +kernel
theorem dX6_nextDay_25 : decode cX6_nextDay 25 = .ok (.aload_n 0, 1) := by decide +kernel
theorem dX6_nextDay_26 : decode cX6_nextDay 26 = .ok (.getfield 16, 3) := by decide +kernel
theorem dX6_nextDay_29 : decode cX6_nextDay 29 = .ok (.iload_n 1, 1) := by decide +kernel
theorem dX6_nextDay_30 : decode cX6_nextDay 30 = .ok (.invokestatic 209, 3) := by decide +kernel
theorem dX6_nextDay_33 : decode cX6_nextDay 33 = .ok (.aload_n 0, 1) := by decide +kernel
theorem dX6_nextDay_34 : decode cX6_nextDay 34 = .ok (.getfield 16, 3) := by decide +kernel
theorem dX6_nextDay_37 : decode cX6_nextDay 37 = .ok (.iconst 0, 1) := by decide +kernel
theorem dX6_nextDay_38 : decode cX6_nextDay 38 = .ok (.iaload, 1) := by decide +kernel
theorem dX6_nextDay_39 : decode cX6_nextDay 39 = .ok (.ireturn, 1) := by decide +kernel
theorem dX6_isRank_0 : decode cX6_isRank 0 = .ok (.iconst 0, 1) := by decide +kernel
theorem dX6_isRank_1 : decode cX6_isRank 1 = .ok (.istore_n 1, 1) := by decide +kernel
theorem dX6_isRank_2 : decode cX6_isRank 2 = .ok (.iload_n 0, 1) := by decide +kernel
theorem dX6_isRank_3 : decode cX6_isRank 3 = .ok (.istore_n 2, 1) := by decide +kernel
theorem dX6_isRank_4 : decode cX6_isRank 4 = .ok (.iconst 0, 1) := by decide +kernel
theorem dX6_isRank_5 : decode cX6_isRank 5 = .ok (.istore_n 3, 1) := by decide +kernel
theorem dX6_isRank_6 : decode cX6_isRank 6 = .ok (.iload_n 3, 1) := by decide +kernel
theorem dX6_isRank_7 : decode cX6_isRank 7 = .ok (.bipush 6, 2) := by decide +kernel
theorem dX6_isRank_9 : decode cX6_isRank 9 = .ok (.if_icmp .ge 40, 3) := by decide +kernel
theorem dX6_isRank_12 : decode cX6_isRank 12 = .ok (.iload_n 1, 1) := by decide +kernel
theorem dX6_isRank_13 : decode cX6_isRank 13 = .ok (.iload_n 2, 1) := by decide +kernel
theorem dX6_isRank_14 : decode cX6_isRank 14 = .ok (.ifCond .lt 21, 3) := by decide +kernel
theorem dX6_isRank_17 : decode cX6_isRank 17 = .ok (.iload_n 2, 1) := by decide +kernel
theorem dX6_isRank_18 : decode cX6_isRank 18 = .ok (.bipush 10, 2) := by decide +kernel
theorem dX6_isRank_20 : decode cX6_isRank 20 = .ok (.irem, 1) := by decide +kernel
theorem dX6_isRank_21 : decode cX6_isRank 21 = .ok (.bipush 6, 2) := by decide +kernel
theorem dX6_isRank_23 : decode cX6_isRank 23 = .ok (.if_icmp .ge 12, 3) := by decide +kernel
theorem dX6_isRank_26 : decode cX6_isRank 26 = .ok (.iconst 1, 1) := by decide +kernel
theorem dX6_isRank_27 : decode cX6_isRank 27 = .ok (.iload_n 2, 1) := by decide +kernel
theorem dX6_isRank_28 : decode cX6_isRank 28 = .ok (.bipush 10, 2) := by decide +kernel
theorem dX6_isRank_30 : decode cX6_isRank 30 = .ok (.irem, 1) := by decide +kernel
theorem dX6_isRank_31 : decode cX6_isRank 31 = .ok (.ishl, 1) := by decide +kernel
theorem dX6_isRank_32 : decode cX6_isRank 32 = .ok (.goto 4, 3) := by decide +kernel
theorem dX6_isRank_35 : decode cX6_isRank 35 = .ok (.iconst 0, 1) := by decide +kernel
theorem dX6_isRank_36 : decode cX6_isRank 36 = .ok (.ior, 1) := by decide +kernel
theorem dX6_isRank_37 : decode cX6_isRank 37 = .ok (.istore_n 1, 1) := by decide +kernel
theorem dX6_isRank_38 : decode cX6_isRank 38 = .ok (.iload_n 2, 1) := by decide +kernel
theorem dX6_isRank_39 : decode cX6_isRank 39 = .ok (.bipush 10, 2) := by decide +kernel
theorem dX6_isRank_41 : decode cX6_isRank 41 = .ok (.idiv, 1) := by decide +kernel
theorem dX6_isRank_42 : decode cX6_isRank 42 = .ok (.istore_n 2, 1) := by decide +kernel
theorem dX6_isRank_43 : decode cX6_isRank 43 = .ok (.iinc 3 1, 3) := by decide +kernel
theorem dX6_isRank_46 : decode cX6_isRank 46 = .ok (.goto (-40), 3) := by decide +kernel
theorem dX6_isRank_49 : decode cX6_isRank 49 = .ok (.iload_n 1, 1) := by decide +kernel
theorem dX6_isRank_50 : decode cX6_isRank 50 = .ok (.bipush 63, 2) := by decide +kernel
theorem dX6_isRank_52 : decode cX6_isRank 52 = .ok (.if_icmp .ne 11, 3) := by decide +kernel
theorem dX6_isRank_55 : decode cX6_isRank 55 = .ok (.iload_n 2, 1) := by decide +kernel
theorem dX6_isRank_56 : decode cX6_isRank 56 = .ok (.ifCond .ne 7, 3) := by decide +kernel
theorem dX6_isRank_59 : decode cX6_isRank 59 = .ok (.iconst 1, 1) := by decide +kernel
theorem dX6_isRank_60 : decode cX6_isRank 60 = .ok (.goto 4, 3) := by decide +kernel
theorem dX6_isRank_63 : decode cX6_isRank 63 = .ok (.iconst 0, 1) := by decide +kernel
theorem dX6_isRank_64 : decode cX6_isRank 64 = .ok (.ireturn, 1) := by decide +kernel
set_option maxRecDepth 20000 in
theorem ggX6_setRank_X6_isRank : GoodIn wsX6_setRank wsX6_isRank := goodIn_r _ [6] (by decide +kernel) (by decide +kernel)
set_option maxRecDepth 20000 in
theorem gX6_setRank_X6_isRank : GoodIn wsX6_setRank (va_wsS RX6 213 yX6_isRank wsX6_isRank) := goodIn_app (goodIn_of _ (by decide +kernel)) ggX6_setRank_X6_isRank
set_option maxRecDepth 20000 in
theorem ggX6_setRank_X6_refused : GoodIn wsX6_setRank wsX6_refused := goodIn_r _ [10, 11, 42, 43, 44, 45, 46, 47, 48, 49, 50, 51, 52, 53, 54] (by decide +kernel) (by decide +kernel)
set_option maxRecDepth 20000 in
theorem gX6_setRank_X6_refused : GoodIn wsX6_setRank (wsV RX6 102 RX6 yX6_refused wsX6_refused) := goodIn_app (goodIn_of _ (by decide +kernel)) ggX6_setRank_X6_refused
set_option maxRecDepth 20000 in
theorem ggX6_setRank_X6_note : GoodIn wsX6_setRank wsX6_note := goodIn_r _ [15, 16, 17, 1, 18, 19, 5, 20, 42, 43, 44, 45, 46, 47, 48, 49, 50, 51, 52, 53, 54] (by decide +kernel) (by decide +kernel)
set_option maxRecDepth 20000 in
theorem gX6_setRank_X6_note : GoodIn wsX6_setRank (wsV RX6 178 RX6 yX6_note wsX6_note) := goodIn_app (goodIn_of _ (by decide +kernel)) ggX6_setRank_X6_note
set_option maxRecDepth 20000 in
theorem ggX6_setRank_X6_copyPage : GoodIn wsX6_setRank wsX6_copyPage := goodIn_r _ [20] (by decide +kernel) (by decide +kernel)
set_option maxRecDepth 20000 in
theorem gX6_setRank_X6_copyPage : GoodIn wsX6_setRank (va_wsS RX6 145 yX6_copyPage wsX6_copyPage) := goodIn_app (goodIn_of _ (by decide +kernel)) ggX6_setRank_X6_copyPage
set_option maxRecDepth 20000 in
theorem ggX6_setRank_X6_placeOf : GoodIn wsX6_setRank wsX6_placeOf := goodIn_r _ [23, 24, 25, 5, 26, 27, 28, 29, 30, 31, 32, 33, 34, 35, 36, 37, 38, 39, 40, 41] (by decide +kernel) (by decide +kernel)
set_option maxRecDepth 20000 in
theorem gX6_setRank_X6_placeOf : GoodIn wsX6_setRank (va_wsS RX6 166 yX6_placeOf wsX6_placeOf) := goodIn_app (goodIn_of _ (by decide +kernel)) ggX6_setRank_X6_placeOf
theorem dX6_setRank_0 : decode cX6_setRank 0 = .ok (.aload_n 0, 1) := by decide +kernel
theorem dX6_setRank_1 : decode cX6_setRank 1 = .ok (.iload_n 1, 1) := by decide +kernel
theorem dX6_setRank_2 : decode cX6_setRank 2 = .ok (.invokestatic 213, 3) := by decide +kernel
theorem dX6_setRank_5 : decode cX6_setRank 5 = .ok (.ifCond .eq 7, 3) := by decide +kernel
theorem dX6_setRank_8 : decode cX6_setRank 8 = .ok (.iconst 0, 1) := by decide +kernel
theorem dX6_setRank_9 : decode cX6_setRank 9 = .ok (.goto 4, 3) := by decide +kernel
theorem dX6_setRank_12 : decode cX6_setRank 12 = .ok (.iconst 1, 1) := by decide +kernel
theorem dX6_setRank_13 : decode cX6_setRank 13 = .ok (.invokevirtual 102, 3) := by decide +kernel
theorem dX6_setRank_16 : decode cX6_setRank 16 = .ok (.ifCond .eq 5, 3) := by decide +kernel
theorem dX6_setRank_19 : decode cX6_setRank 19 = .ok (.iconst 0, 1) := by decide +kernel
theorem dX6_setRank_20 : decode cX6_setRank 20 = .ok (.ireturn, 1) := by decide +kernel
theorem dX6_setRank_21 : decode cX6_setRank 21 = .ok (.aload_n 0, 1) := by decide +kernel
theorem dX6_setRank_22 : decode cX6_setRank 22 = .ok (.invokevirtual 178, 3) := by decide +kernel
theorem dX6_setRank_25 : decode cX6_setRank 25 = .ok (.aload_n 0, 1) := by decide +kernel
theorem dX6_setRank_26 : decode cX6_setRank 26 = .ok (.getfield 16, 3) := by decide +kernel
theorem dX6_setRank_29 : decode cX6_setRank 29 = .ok (.iconst 0, 1) := by decide +kernel
theorem dX6_setRank_30 : decode cX6_setRank 30 = .ok (.aload_n 0, 1) := by decide +kernel
theorem dX6_setRank_31 : decode cX6_setRank 31 = .ok (.getfield 19, 3) := by decide +kernel
theorem dX6_setRank_34 : decode cX6_setRank 34 = .ok (.iconst 0, 1) := by decide +kernel
theorem dX6_setRank_35 : decode cX6_setRank 35 = .ok (.invokestatic 145, 3) := by decide +kernel
theorem dX6_setRank_38 : decode cX6_setRank 38 = .ok (.iload_n 1, 1) := by decide +kernel
theorem dX6_setRank_39 : decode cX6_setRank 39 = .ok (.istore_n 2, 1) := by decide +kernel
theorem dX6_setRank_40 : decode cX6_setRank 40 = .ok (.iconst 5, 1) := by decide +kernel
theorem dX6_setRank_41 : decode cX6_setRank 41 = .ok (.istore_n 3, 1) := by decide +kernel
theorem dX6_setRank_42 : decode cX6_setRank 42 = .ok (.iload_n 3, 1) := by decide +kernel
theorem dX6_setRank_43 : decode cX6_setRank 43 = .ok (.ifCond .lt 27, 3) := by decide +kernel
theorem dX6_setRank_46 : decode cX6_setRank 46 = .ok (.aload_n 0, 1) := by decide +kernel
theorem dX6_setRank_47 : decode cX6_setRank 47 = .ok (.getfield 16, 3) := by decide +kernel
theorem dX6_setRank_50 : decode cX6_setRank 50 = .ok (.bipush 8, 2) := by decide +kernel
theorem dX6_setRank_52 : decode cX6_setRank 52 = .ok (.iload_n 3, 1) := by decide +kernel
theorem dX6_setRank_53 : decode cX6_setRank 53 = .ok (.iadd, 1) := by decide +kernel
theorem dX6_setRank_54 : decode cX6_setRank 54 = .ok (.iload_n 2, 1) := by decide +kernel
theorem dX6_setRank_55 : decode cX6_setRank 55 = .ok (.bipush 10, 2) := by decide +kernel
theorem dX6_setRank_57 : decode cX6_setRank 57 = .ok (.irem, 1) := by decide +kernel
theorem dX6_setRank_58 : decode cX6_setRank 58 = .ok (.iastore, 1) := by decide +kernel
theorem dX6_setRank_59 : decode cX6_setRank 59 = .ok (.iload_n 2, 1) := by decide +kernel
theorem dX6_setRank_60 : decode cX6_setRank 60 = .ok (.bipush 10, 2) := by decide +kernel
theorem dX6_setRank_62 : decode cX6_setRank 62 = .ok (.idiv, 1) := by decide +kernel
theorem dX6_setRank_63 : decode cX6_setRank 63 = .ok (.istore_n 2, 1) := by decide +kernel
theorem dX6_setRank_64 : decode cX6_setRank 64 = .ok (.iinc 3 (-1), 3) := by decide +kernel
theorem dX6_setRank_67 : decode cX6_setRank 67 = .ok (.goto (-25), 3) := by decide +kernel
theorem dX6_setRank_70 : decode cX6_setRank 70 = .ok (.iconst 0, 1) := by decide +kernel
theorem dX6_setRank_71 : decode cX6_setRank 71 = .ok (.istore_n 3, 1) := by decide +kernel
theorem dX6_setRank_72 : decode cX6_setRank 72 = .ok (.iconst 0, 1) := by decide +kernel
theorem dX6_setRank_73 : decode cX6_setRank 73 = .ok (.istore 4, 2) := by decide +kernel
theorem dX6_setRank_75 : decode cX6_setRank 75 = .ok (.iload 4, 2) := by decide +kernel
theorem dX6_setRank_77 : decode cX6_setRank 77 = .ok (.aload_n 0, 1) := by decide +kernel
theorem dX6_setRank_78 : decode cX6_setRank 78 = .ok (.getfield 16, 3) := by decide +kernel
theorem dX6_setRank_81 : decode cX6_setRank 81 = .ok (.bipush 7, 2) := by decide +kernel
theorem dX6_setRank_83 : decode cX6_setRank 83 = .ok (.iaload, 1) := by decide +kernel
theorem dX6_setRank_84 : decode cX6_setRank 84 = .ok (.if_icmp .ge 38, 3) := by decide +kernel
theorem dX6_setRank_87 : decode cX6_setRank 87 = .ok (.iload_n 3, 1) := by decide +kernel
theorem dX6_setRank_88 : decode cX6_setRank 88 = .ok (.aload_n 0, 1) := by decide +kernel
theorem dX6_setRank_89 : decode cX6_setRank 89 = .ok (.getfield 16, 3) := by decide +kernel
theorem dX6_setRank_92 : decode cX6_setRank 92 = .ok (.iload 4, 2) := by decide +kernel
theorem dX6_setRank_94 : decode cX6_setRank 94 = .ok (.invokestatic 166, 3) := by decide +kernel
theorem dX6_setRank_97 : decode cX6_setRank 97 = .ok (.aload_n 0, 1) := by decide +kernel
theorem dX6_setRank_98 : decode cX6_setRank 98 = .ok (.getfield 19, 3) := by decide +kernel
theorem dX6_setRank_101 : decode cX6_setRank 101 = .ok (.iload 4, 2) := by decide +kernel
theorem dX6_setRank_103 : decode cX6_setRank 103 = .ok (.invokestatic 166, 3) := by decide +kernel
theorem dX6_setRank_106 : decode cX6_setRank 106 = .ok (.if_icmp .eq 7, 3) := by decide +kernel
theorem dX6_setRank_109 : decode cX6_setRank 109 = .ok (.iconst 1, 1) := by decide +kernel
theorem dX6_setRank_110 : decode cX6_setRank 110 = .ok (.goto 4, 3) := by decide +kernel
theorem dX6_setRank_113 : decode cX6_setRank 113 = .ok (.iconst 0, 1) := by decide +kernel
theorem dX6_setRank_114 : decode cX6_setRank 114 = .ok (.iadd, 1) := by decide +kernel
theorem dX6_setRank_115 : decode cX6_setRank 115 = .ok (.istore_n 3, 1) := by decide +kernel
theorem dX6_setRank_116 : decode cX6_setRank 116 = .ok (.iinc 4 1, 3) := by decide +kernel
theorem dX6_setRank_119 : decode cX6_setRank 119 = .ok (.goto (-44), 3) := by decide +kernel
theorem dX6_setRank_122 : decode cX6_setRank 122 = .ok (.iload_n 3, 1) := by decide +kernel
theorem dX6_setRank_123 : decode cX6_setRank 123 = .ok (.ireturn, 1) := by decide +kernel
set_option maxRecDepth 20000 in
theorem ggX6_setDraw_X6_isDog : GoodIn wsX6_setDraw wsX6_isDog := goodIn_r _ [6, 7, 8, 5, 9] (by decide +kernel) (by decide +kernel)
set_option maxRecDepth 20000 in
theorem gX6_setDraw_X6_isDog : GoodIn wsX6_setDraw (va_wsS RX6 161 yX6_isDog wsX6_isDog) := goodIn_app (goodIn_of _ (by decide +kernel)) ggX6_setDraw_X6_isDog
set_option maxRecDepth 20000 in
theorem ggX6_setDraw_X6_in : GoodIn wsX6_setDraw wsX6_in := goodIn_r _ [9] (by decide +kernel) (by decide +kernel)
set_option maxRecDepth 20000 in
theorem gX6_setDraw_X6_in : GoodIn wsX6_setDraw (va_wsS RX6 51 yX6_in wsX6_in) := goodIn_app (goodIn_of _ (by decide +kernel)) ggX6_setDraw_X6_in
set_option maxRecDepth 20000 in
theorem ggX6_setDraw_X6_isDrawn : GoodIn wsX6_setDraw wsX6_isDrawn := goodIn_r _ [12, 13, 14, 5, 15] (by decide +kernel) (by decide +kernel)
set_option maxRecDepth 20000 in
theorem gX6_setDraw_X6_isDrawn : GoodIn wsX6_setDraw (va_wsS RX6 116 yX6_isDrawn wsX6_isDrawn) := goodIn_app (goodIn_of _ (by decide +kernel)) ggX6_setDraw_X6_isDrawn
set_option maxRecDepth 20000 in
theorem ggX6_setDraw_X6_refused : GoodIn wsX6_setDraw wsX6_refused := goodIn_r _ [19, 20, 30, 31, 32, 33, 34, 35, 36, 37, 38, 39, 40, 41, 42] (by decide +kernel) (by decide +kernel)
set_option maxRecDepth 20000 in
theorem gX6_setDraw_X6_refused : GoodIn wsX6_setDraw (wsV RX6 102 RX6 yX6_refused wsX6_refused) := goodIn_app (goodIn_of _ (by decide +kernel)) ggX6_setDraw_X6_refused
set_option maxRecDepth 20000 in
theorem ggX6_setDraw_X6_note : GoodIn wsX6_setDraw wsX6_note := goodIn_r _ [24, 25, 26, 1, 27, 28, 5, 29, 30, 31, 32, 33, 34, 35, 36, 37, 38, 39, 40, 41, 42] (by decide +kernel) (by decide +kernel)
set_option maxRecDepth 20000 in
theorem gX6_setDraw_X6_note : GoodIn wsX6_setDraw (wsV RX6 178 RX6 yX6_note wsX6_note) := goodIn_app (goodIn_of _ (by decide +kernel)) ggX6_setDraw_X6_note
set_option maxRecDepth 20000 in
theorem ggX6_setDraw_X6_dogAt : GoodIn wsX6_setDraw wsX6_dogAt := goodIn_r _ [15] (by decide +kernel) (by decide +kernel)
set_option maxRecDepth 20000 in
theorem gX6_setDraw_X6_dogAt : GoodIn wsX6_setDraw (va_wsS RX6 43 yX6_dogAt wsX6_dogAt) := goodIn_app (goodIn_of _ (by decide +kernel)) ggX6_setDraw_X6_dogAt
theorem dX6_setDraw_0 : decode cX6_setDraw 0 = .ok (.aload_n 0, 1) := by decide +kernel
theorem dX6_setDraw_1 : decode cX6_setDraw 1 = .ok (.aload_n 0, 1) := by decide +kernel
theorem dX6_setDraw_2 : decode cX6_setDraw 2 = .ok (.getfield 16, 3) := by decide +kernel
theorem dX6_setDraw_5 : decode cX6_setDraw 5 = .ok (.iload_n 1, 1) := by decide +kernel
theorem dX6_setDraw_6 : decode cX6_setDraw 6 = .ok (.invokestatic 161, 3) := by decide +kernel
theorem dX6_setDraw_9 : decode cX6_setDraw 9 = .ok (.ifCond .ne 7, 3) := by decide +kernel
theorem dX6_setDraw_12 : decode cX6_setDraw 12 = .ok (.iconst 1, 1) := by decide +kernel
theorem dX6_setDraw_13 : decode cX6_setDraw 13 = .ok (.goto 36, 3) := by decide +kernel
theorem dX6_setDraw_16 : decode cX6_setDraw 16 = .ok (.iload_n 2, 1) := by decide +kernel
theorem dX6_setDraw_17 : decode cX6_setDraw 17 = .ok (.i2l, 1) := by decide +kernel
theorem dX6_setDraw_18 : decode cX6_setDraw 18 = .ok (.lconst 1, 1) := by decide +kernel
theorem dX6_setDraw_19 : decode cX6_setDraw 19 = .ok (.ldc2_w 114, 3) := by decide +kernel
theorem dX6_setDraw_22 : decode cX6_setDraw 22 = .ok (.invokestatic 51, 3) := by decide +kernel
theorem dX6_setDraw_25 : decode cX6_setDraw 25 = .ok (.ifCond .ne 7, 3) := by decide +kernel
theorem dX6_setDraw_28 : decode cX6_setDraw 28 = .ok (.iconst 2, 1) := by decide +kernel
theorem dX6_setDraw_29 : decode cX6_setDraw 29 = .ok (.goto 20, 3) := by decide +kernel
theorem dX6_setDraw_32 : decode cX6_setDraw 32 = .ok (.aload_n 0, 1) := by decide +kernel
theorem dX6_setDraw_33 : decode cX6_setDraw 33 = .ok (.getfield 16, 3) := by decide +kernel
theorem dX6_setDraw_36 : decode cX6_setDraw 36 = .ok (.iload_n 2, 1) := by decide +kernel
theorem dX6_setDraw_37 : decode cX6_setDraw 37 = .ok (.iload_n 1, 1) := by decide +kernel
theorem dX6_setDraw_38 : decode cX6_setDraw 38 = .ok (.invokestatic 116, 3) := by decide +kernel
theorem dX6_setDraw_41 : decode cX6_setDraw 41 = .ok (.ifCond .eq 7, 3) := by decide +kernel
theorem dX6_setDraw_44 : decode cX6_setDraw 44 = .ok (.iconst 3, 1) := by decide +kernel
theorem dX6_setDraw_45 : decode cX6_setDraw 45 = .ok (.goto 4, 3) := by decide +kernel
theorem dX6_setDraw_48 : decode cX6_setDraw 48 = .ok (.iconst 0, 1) := by decide +kernel
theorem dX6_setDraw_49 : decode cX6_setDraw 49 = .ok (.invokevirtual 102, 3) := by decide +kernel
theorem dX6_setDraw_52 : decode cX6_setDraw 52 = .ok (.ifCond .eq 5, 3) := by decide +kernel
theorem dX6_setDraw_55 : decode cX6_setDraw 55 = .ok (.iconst 0, 1) := by decide +kernel
theorem dX6_setDraw_56 : decode cX6_setDraw 56 = .ok (.ireturn, 1) := by decide +kernel
theorem dX6_setDraw_57 : decode cX6_setDraw 57 = .ok (.aload_n 0, 1) := by decide +kernel
theorem dX6_setDraw_58 : decode cX6_setDraw 58 = .ok (.invokevirtual 178, 3) := by decide +kernel
theorem dX6_setDraw_61 : decode cX6_setDraw 61 = .ok (.aload_n 0, 1) := by decide +kernel
theorem dX6_setDraw_62 : decode cX6_setDraw 62 = .ok (.getfield 16, 3) := by decide +kernel
theorem dX6_setDraw_65 : decode cX6_setDraw 65 = .ok (.iload_n 1, 1) := by decide +kernel
theorem dX6_setDraw_66 : decode cX6_setDraw 66 = .ok (.invokestatic 43, 3) := by decide +kernel
theorem dX6_setDraw_69 : decode cX6_setDraw 69 = .ok (.iconst 1, 1) := by decide +kernel
theorem dX6_setDraw_70 : decode cX6_setDraw 70 = .ok (.iadd, 1) := by decide +kernel
theorem dX6_setDraw_71 : decode cX6_setDraw 71 = .ok (.iaload, 1) := by decide +kernel
theorem dX6_setDraw_72 : decode cX6_setDraw 72 = .ok (.istore_n 3, 1) := by decide +kernel
theorem dX6_setDraw_73 : decode cX6_setDraw 73 = .ok (.aload_n 0, 1) := by decide +kernel
theorem dX6_setDraw_74 : decode cX6_setDraw 74 = .ok (.getfield 16, 3) := by decide +kernel
theorem dX6_setDraw_77 : decode cX6_setDraw 77 = .ok (.iload_n 1, 1) := by decide +kernel
theorem dX6_setDraw_78 : decode cX6_setDraw 78 = .ok (.invokestatic 43, 3) := by decide +kernel
theorem dX6_setDraw_81 : decode cX6_setDraw 81 = .ok (.iconst 1, 1) := by decide +kernel
theorem dX6_setDraw_82 : decode cX6_setDraw 82 = .ok (.iadd, 1) := by decide +kernel
theorem dX6_setDraw_83 : decode cX6_setDraw 83 = .ok (.iload_n 2, 1) := by decide +kernel
theorem dX6_setDraw_84 : decode cX6_setDraw 84 = .ok (.iastore, 1) := by decide +kernel
theorem dX6_setDraw_85 : decode cX6_setDraw 85 = .ok (.iload_n 3, 1) := by decide +kernel
theorem dX6_setDraw_86 : decode cX6_setDraw 86 = .ok (.ireturn, 1) := by decide +kernel
set_option maxRecDepth 20000 in
theorem ggX6_undo_X6_refused : GoodIn wsX6_undo wsX6_refused := goodIn_r _ [8, 9, 13, 14, 15, 16, 17, 18, 19, 20, 21, 22, 23, 24, 25] (by decide +kernel) (by decide +kernel)
set_option maxRecDepth 20000 in
theorem gX6_undo_X6_refused : GoodIn wsX6_undo (wsV RX6 102 RX6 yX6_refused wsX6_refused) := goodIn_app (goodIn_of _ (by decide +kernel)) ggX6_undo_X6_refused
set_option maxRecDepth 20000 in
theorem ggX6_undo_X6_copyPage : GoodIn wsX6_undo wsX6_copyPage := goodIn_r _ [12] (by decide +kernel) (by decide +kernel)
set_option maxRecDepth 20000 in
theorem gX6_undo_X6_copyPage : GoodIn wsX6_undo (va_wsS RX6 145 yX6_copyPage wsX6_copyPage) := goodIn_app (goodIn_of _ (by decide +kernel)) ggX6_undo_X6_copyPage
theorem dX6_undo_0 : decode cX6_undo 0 = .ok (.aload_n 0, 1) := by decide +kernel
theorem dX6_undo_1 : decode cX6_undo 1 = .ok (.aload_n 0, 1) := by decide +kernel
theorem dX6_undo_2 : decode cX6_undo 2 = .ok (.getfield 149, 3) := by decide +kernel
theorem dX6_undo_5 : decode cX6_undo 5 = .ok (.ifCond .ne 7, 3) := by decide +kernel
theorem dX6_undo_8 : decode cX6_undo 8 = .ok (.iconst 1, 1) := by decide +kernel
theorem dX6_undo_9 : decode cX6_undo 9 = .ok (.goto 4, 3) := by decide +kernel
theorem dX6_undo_12 : decode cX6_undo 12 = .ok (.iconst 0, 1) := by decide +kernel
theorem dX6_undo_13 : decode cX6_undo 13 = .ok (.invokevirtual 102, 3) := by decide +kernel
theorem dX6_undo_16 : decode cX6_undo 16 = .ok (.ifCond .eq 5, 3) := by decide +kernel
theorem dX6_undo_19 : decode cX6_undo 19 = .ok (.iconst 0, 1) := by decide +kernel
theorem dX6_undo_20 : decode cX6_undo 20 = .ok (.ireturn, 1) := by decide +kernel
theorem dX6_undo_21 : decode cX6_undo 21 = .ok (.aload_n 0, 1) := by decide +kernel
theorem dX6_undo_22 : decode cX6_undo 22 = .ok (.dup, 1) := by decide +kernel
theorem dX6_undo_23 : decode cX6_undo 23 = .ok (.getfield 149, 3) := by decide +kernel
theorem dX6_undo_26 : decode cX6_undo 26 = .ok (.iconst 1, 1) := by decide +kernel
theorem dX6_undo_27 : decode cX6_undo 27 = .ok (.isub, 1) := by decide +kernel
theorem dX6_undo_28 : decode cX6_undo 28 = .ok (.putfield 149, 3) := by decide +kernel
theorem dX6_undo_31 : decode cX6_undo 31 = .ok (.aload_n 0, 1) := by decide +kernel
theorem dX6_undo_32 : decode cX6_undo 32 = .ok (.getfield 22, 3) := by decide +kernel
theorem dX6_undo_35 : decode cX6_undo 35 = .ok (.sipush 146, 3) := by decide +kernel
theorem dX6_undo_38 : decode cX6_undo 38 = .ok (.aload_n 0, 1) := by decide +kernel
theorem dX6_undo_39 : decode cX6_undo 39 = .ok (.getfield 149, 3) := by decide +kernel
theorem dX6_undo_42 : decode cX6_undo 42 = .ok (.imul, 1) := by decide +kernel
theorem dX6_undo_43 : decode cX6_undo 43 = .ok (.aload_n 0, 1) := by decide +kernel
theorem dX6_undo_44 : decode cX6_undo 44 = .ok (.getfield 16, 3) := by decide +kernel
theorem dX6_undo_47 : decode cX6_undo 47 = .ok (.iconst 0, 1) := by decide +kernel
theorem dX6_undo_48 : decode cX6_undo 48 = .ok (.invokestatic 145, 3) := by decide +kernel
theorem dX6_undo_51 : decode cX6_undo 51 = .ok (.aload_n 0, 1) := by decide +kernel
theorem dX6_undo_52 : decode cX6_undo 52 = .ok (.getfield 149, 3) := by decide +kernel
theorem dX6_undo_55 : decode cX6_undo 55 = .ok (.ireturn, 1) := by decide +kernel
set_option maxRecDepth 20000 in
theorem ggX6_whyNot_X6_why : GoodIn wsX6_whyNot wsX6_why := goodIn_r _ [6, 7, 8, 5, 9, 10, 11, 12, 13, 14, 15, 16, 17, 18] (by decide +kernel) (by decide +kernel)
set_option maxRecDepth 20000 in
theorem gX6_whyNot_X6_why : GoodIn wsX6_whyNot (va_wsS RX6 189 yX6_why wsX6_why) := goodIn_app (goodIn_of _ (by decide +kernel)) ggX6_whyNot_X6_why
theorem dX6_whyNot_0 : decode cX6_whyNot 0 = .ok (.aload_n 0, 1) := by decide +kernel
theorem dX6_whyNot_1 : decode cX6_whyNot 1 = .ok (.iconst 0, 1) := by decide +kernel
theorem dX6_whyNot_2 : decode cX6_whyNot 2 = .ok (.putfield 39, 3) := by decide +kernel
theorem dX6_whyNot_5 : decode cX6_whyNot 5 = .ok (.aload_n 0, 1) := by decide +kernel
theorem dX6_whyNot_6 : decode cX6_whyNot 6 = .ok (.getfield 16, 3) := by decide +kernel
theorem dX6_whyNot_9 : decode cX6_whyNot 9 = .ok (.invokestatic 189, 3) := by decide +kernel
theorem dX6_whyNot_12 : decode cX6_whyNot 12 = .ok (.ireturn, 1) := by decide +kernel
set_option maxRecDepth 20000 in
theorem ggX6_runsLeft_X6_in : GoodIn wsX6_runsLeft wsX6_in := goodIn_r _ [6] (by decide +kernel) (by decide +kernel)
set_option maxRecDepth 20000 in
theorem gX6_runsLeft_X6_in : GoodIn wsX6_runsLeft (va_wsS RX6 51 yX6_in wsX6_in) := goodIn_app (goodIn_of _ (by decide +kernel)) ggX6_runsLeft_X6_in
set_option maxRecDepth 20000 in
theorem ggX6_runsLeft_X6_refused : GoodIn wsX6_runsLeft wsX6_refused := goodIn_r _ [10, 11, 24, 25, 26, 27, 28, 29, 30, 31, 32, 33, 34, 35, 36] (by decide +kernel) (by decide +kernel)
set_option maxRecDepth 20000 in
theorem gX6_runsLeft_X6_refused : GoodIn wsX6_runsLeft (wsV RX6 102 RX6 yX6_refused wsX6_refused) := goodIn_app (goodIn_of _ (by decide +kernel)) ggX6_runsLeft_X6_refused
set_option maxRecDepth 20000 in
theorem ggX6_runsLeft_X6_waiting : GoodIn wsX6_runsLeft wsX6_waiting := goodIn_r _ [14, 15, 16, 5, 17, 18, 19, 20, 21, 22, 23] (by decide +kernel) (by decide +kernel)
set_option maxRecDepth 20000 in
theorem gX6_runsLeft_X6_waiting : GoodIn wsX6_runsLeft (va_wsS RX6 91 yX6_waiting wsX6_waiting) := goodIn_app (goodIn_of _ (by decide +kernel)) ggX6_runsLeft_X6_waiting
theorem dX6_runsLeft_0 : decode cX6_runsLeft 0 = .ok (.aload_n 0, 1) := by decide +kernel
theorem dX6_runsLeft_1 : decode cX6_runsLeft 1 = .ok (.iload_n 1, 1) := by decide +kernel
theorem dX6_runsLeft_2 : decode cX6_runsLeft 2 = .ok (.i2l, 1) := by decide +kernel
theorem dX6_runsLeft_3 : decode cX6_runsLeft 3 = .ok (.lconst 1, 1) := by decide +kernel
theorem dX6_runsLeft_4 : decode cX6_runsLeft 4 = .ok (.ldc2_w 187, 3) := by decide +kernel
theorem dX6_runsLeft_7 : decode cX6_runsLeft 7 = .ok (.invokestatic 51, 3) := by decide +kernel
theorem dX6_runsLeft_10 : decode cX6_runsLeft 10 = .ok (.ifCond .eq 7, 3) := by decide +kernel
theorem dX6_runsLeft_13 : decode cX6_runsLeft 13 = .ok (.iconst 0, 1) := by decide +kernel
theorem dX6_runsLeft_14 : decode cX6_runsLeft 14 = .ok (.goto 4, 3) := by decide +kernel
theorem dX6_runsLeft_17 : decode cX6_runsLeft 17 = .ok (.iconst 1, 1) := by decide +kernel
theorem dX6_runsLeft_18 : decode cX6_runsLeft 18 = .ok (.invokevirtual 102, 3) := by decide +kernel
theorem dX6_runsLeft_21 : decode cX6_runsLeft 21 = .ok (.ifCond .eq 5, 3) := by decide +kernel
theorem dX6_runsLeft_24 : decode cX6_runsLeft 24 = .ok (.iconst 0, 1) := by decide +kernel
theorem dX6_runsLeft_25 : decode cX6_runsLeft 25 = .ok (.ireturn, 1) := by decide +kernel
theorem dX6_runsLeft_26 : decode cX6_runsLeft 26 = .ok (.aload_n 0, 1) := by decide +kernel
theorem dX6_runsLeft_27 : decode cX6_runsLeft 27 = .ok (.getfield 16, 3) := by decide +kernel
theorem dX6_runsLeft_30 : decode cX6_runsLeft 30 = .ok (.iconst 2, 1) := by decide +kernel
theorem dX6_runsLeft_31 : decode cX6_runsLeft 31 = .ok (.iaload, 1) := by decide +kernel
theorem dX6_runsLeft_32 : decode cX6_runsLeft 32 = .ok (.aload_n 0, 1) := by decide +kernel
theorem dX6_runsLeft_33 : decode cX6_runsLeft 33 = .ok (.getfield 16, 3) := by decide +kernel
theorem dX6_runsLeft_36 : decode cX6_runsLeft 36 = .ok (.iconst 1, 1) := by decide +kernel
theorem dX6_runsLeft_37 : decode cX6_runsLeft 37 = .ok (.iaload, 1) := by decide +kernel
theorem dX6_runsLeft_38 : decode cX6_runsLeft 38 = .ok (.isub, 1) := by decide +kernel
theorem dX6_runsLeft_39 : decode cX6_runsLeft 39 = .ok (.iload_n 1, 1) := by decide +kernel
theorem dX6_runsLeft_40 : decode cX6_runsLeft 40 = .ok (.idiv, 1) := by decide +kernel
theorem dX6_runsLeft_41 : decode cX6_runsLeft 41 = .ok (.istore_n 2, 1) := by decide +kernel
theorem dX6_runsLeft_42 : decode cX6_runsLeft 42 = .ok (.aload_n 0, 1) := by decide +kernel
theorem dX6_runsLeft_43 : decode cX6_runsLeft 43 = .ok (.getfield 16, 3) := by decide +kernel
theorem dX6_runsLeft_46 : decode cX6_runsLeft 46 = .ok (.invokestatic 91, 3) := by decide +kernel
theorem dX6_runsLeft_49 : decode cX6_runsLeft 49 = .ok (.istore_n 3, 1) := by decide +kernel
theorem dX6_runsLeft_50 : decode cX6_runsLeft 50 = .ok (.iload_n 3, 1) := by decide +kernel
theorem dX6_runsLeft_51 : decode cX6_runsLeft 51 = .ok (.iload_n 2, 1) := by decide +kernel
theorem dX6_runsLeft_52 : decode cX6_runsLeft 52 = .ok (.if_icmp .ge 7, 3) := by decide +kernel
theorem dX6_runsLeft_55 : decode cX6_runsLeft 55 = .ok (.iload_n 3, 1) := by decide +kernel
theorem dX6_runsLeft_56 : decode cX6_runsLeft 56 = .ok (.goto 4, 3) := by decide +kernel
theorem dX6_runsLeft_59 : decode cX6_runsLeft 59 = .ok (.iload_n 2, 1) := by decide +kernel
theorem dX6_runsLeft_60 : decode cX6_runsLeft 60 = .ok (.ireturn, 1) := by decide +kernel
set_option maxRecDepth 20000 in
theorem ggX6_bestOf_X6_copyPage : GoodIn wsX6_bestOf wsX6_copyPage := goodIn_r _ [6] (by decide +kernel) (by decide +kernel)
set_option maxRecDepth 20000 in
theorem gX6_bestOf_X6_copyPage : GoodIn wsX6_bestOf (va_wsS RX6 145 yX6_copyPage wsX6_copyPage) := goodIn_app (goodIn_of _ (by decide +kernel)) ggX6_bestOf_X6_copyPage
set_option maxRecDepth 20000 in
theorem ggX6_bestOf_X6_dogAt : GoodIn wsX6_bestOf wsX6_dogAt := goodIn_r _ [9] (by decide +kernel) (by decide +kernel)
set_option maxRecDepth 20000 in
theorem gX6_bestOf_X6_dogAt : GoodIn wsX6_bestOf (va_wsS RX6 43 yX6_dogAt wsX6_dogAt) := goodIn_app (goodIn_of _ (by decide +kernel)) ggX6_bestOf_X6_dogAt
set_option maxRecDepth 20000 in
theorem ggX6_bestOf_X6_isToRun : GoodIn wsX6_bestOf wsX6_isToRun := goodIn_r _ [12, 13, 14, 5, 15, 7, 8, 9] (by decide +kernel) (by decide +kernel)
set_option maxRecDepth 20000 in
theorem gX6_bestOf_X6_isToRun : GoodIn wsX6_bestOf (va_wsS RX6 75 yX6_isToRun wsX6_isToRun) := goodIn_app (goodIn_of _ (by decide +kernel)) ggX6_bestOf_X6_isToRun
set_option maxRecDepth 20000 in
theorem ggX6_bestOf_X6_placeOf : GoodIn wsX6_bestOf wsX6_placeOf := goodIn_r _ [18, 19, 20, 5, 21, 7, 8, 9, 22, 23, 24, 25, 26, 27, 28, 29, 30, 31, 32, 33] (by decide +kernel) (by decide +kernel)
set_option maxRecDepth 20000 in
theorem gX6_bestOf_X6_placeOf : GoodIn wsX6_bestOf (va_wsS RX6 166 yX6_placeOf wsX6_placeOf) := goodIn_app (goodIn_of _ (by decide +kernel)) ggX6_bestOf_X6_placeOf
theorem dX6_bestOf_0 : decode cX6_bestOf 0 = .ok (.aload_n 0, 1) := by decide +kernel
theorem dX6_bestOf_1 : decode cX6_bestOf 1 = .ok (.getfield 16, 3) := by decide +kernel
theorem dX6_bestOf_4 : decode cX6_bestOf 4 = .ok (.iconst 0, 1) := by decide +kernel
theorem dX6_bestOf_5 : decode cX6_bestOf 5 = .ok (.aload_n 0, 1) := by decide +kernel
theorem dX6_bestOf_6 : decode cX6_bestOf 6 = .ok (.getfield 19, 3) := by decide +kernel
theorem dX6_bestOf_9 : decode cX6_bestOf 9 = .ok (.iconst 0, 1) := by decide +kernel
theorem dX6_bestOf_10 : decode cX6_bestOf 10 = .ok (.invokestatic 145, 3) := by decide +kernel
theorem dX6_bestOf_13 : decode cX6_bestOf 13 = .ok (.iload_n 1, 1) := by decide +kernel
theorem dX6_bestOf_14 : decode cX6_bestOf 14 = .ok (.invokestatic 43, 3) := by decide +kernel
theorem dX6_bestOf_17 : decode cX6_bestOf 17 = .ok (.istore_n 2, 1) := by decide +kernel
theorem dX6_bestOf_18 : decode cX6_bestOf 18 = .ok (.aload_n 0, 1) := by decide +kernel
theorem dX6_bestOf_19 : decode cX6_bestOf 19 = .ok (.getfield 16, 3) := by decide +kernel
theorem dX6_bestOf_22 : decode cX6_bestOf 22 = .ok (.iload_n 1, 1) := by decide +kernel
theorem dX6_bestOf_23 : decode cX6_bestOf 23 = .ok (.invokestatic 75, 3) := by decide +kernel
theorem dX6_bestOf_26 : decode cX6_bestOf 26 = .ok (.ifCond .eq 75, 3) := by decide +kernel
theorem dX6_bestOf_29 : decode cX6_bestOf 29 = .ok (.aload_n 0, 1) := by decide +kernel
theorem dX6_bestOf_30 : decode cX6_bestOf 30 = .ok (.getfield 16, 3) := by decide +kernel
theorem dX6_bestOf_33 : decode cX6_bestOf 33 = .ok (.iload_n 2, 1) := by decide +kernel
theorem dX6_bestOf_34 : decode cX6_bestOf 34 = .ok (.iconst 2, 1) := by decide +kernel
theorem dX6_bestOf_35 : decode cX6_bestOf 35 = .ok (.iadd, 1) := by decide +kernel
theorem dX6_bestOf_36 : decode cX6_bestOf 36 = .ok (.iaload, 1) := by decide +kernel
theorem dX6_bestOf_37 : decode cX6_bestOf 37 = .ok (.iconst 2, 1) := by decide +kernel
theorem dX6_bestOf_38 : decode cX6_bestOf 38 = .ok (.if_icmp .ne 14, 3) := by decide +kernel
theorem dX6_bestOf_41 : decode cX6_bestOf 41 = .ok (.aload_n 0, 1) := by decide +kernel
theorem dX6_bestOf_42 : decode cX6_bestOf 42 = .ok (.getfield 16, 3) := by decide +kernel
theorem dX6_bestOf_45 : decode cX6_bestOf 45 = .ok (.iload_n 2, 1) := by decide +kernel
theorem dX6_bestOf_46 : decode cX6_bestOf 46 = .ok (.iconst 4, 1) := by decide +kernel
theorem dX6_bestOf_47 : decode cX6_bestOf 47 = .ok (.iadd, 1) := by decide +kernel
theorem dX6_bestOf_48 : decode cX6_bestOf 48 = .ok (.iaload, 1) := by decide +kernel
theorem dX6_bestOf_49 : decode cX6_bestOf 49 = .ok (.goto 4, 3) := by decide +kernel
theorem dX6_bestOf_52 : decode cX6_bestOf 52 = .ok (.iconst 0, 1) := by decide +kernel
theorem dX6_bestOf_53 : decode cX6_bestOf 53 = .ok (.istore_n 3, 1) := by decide +kernel
theorem dX6_bestOf_54 : decode cX6_bestOf 54 = .ok (.iload_n 3, 1) := by decide +kernel
theorem dX6_bestOf_55 : decode cX6_bestOf 55 = .ok (.istore 4, 2) := by decide +kernel
theorem dX6_bestOf_57 : decode cX6_bestOf 57 = .ok (.iload 4, 2) := by decide +kernel
theorem dX6_bestOf_59 : decode cX6_bestOf 59 = .ok (.bipush 6, 2) := by decide +kernel
theorem dX6_bestOf_61 : decode cX6_bestOf 61 = .ok (.if_icmp .ge 21, 3) := by decide +kernel
theorem dX6_bestOf_64 : decode cX6_bestOf 64 = .ok (.aload_n 0, 1) := by decide +kernel
theorem dX6_bestOf_65 : decode cX6_bestOf 65 = .ok (.getfield 19, 3) := by decide +kernel
theorem dX6_bestOf_68 : decode cX6_bestOf 68 = .ok (.iload_n 2, 1) := by decide +kernel
theorem dX6_bestOf_69 : decode cX6_bestOf 69 = .ok (.iconst 5, 1) := by decide +kernel
theorem dX6_bestOf_70 : decode cX6_bestOf 70 = .ok (.iadd, 1) := by decide +kernel
theorem dX6_bestOf_71 : decode cX6_bestOf 71 = .ok (.iload 4, 2) := by decide +kernel
theorem dX6_bestOf_73 : decode cX6_bestOf 73 = .ok (.iadd, 1) := by decide +kernel
theorem dX6_bestOf_74 : decode cX6_bestOf 74 = .ok (.iconst 0, 1) := by decide +kernel
theorem dX6_bestOf_75 : decode cX6_bestOf 75 = .ok (.iastore, 1) := by decide +kernel
theorem dX6_bestOf_76 : decode cX6_bestOf 76 = .ok (.iinc 4 1, 3) := by decide +kernel
theorem dX6_bestOf_79 : decode cX6_bestOf 79 = .ok (.goto (-22), 3) := by decide +kernel
theorem dX6_bestOf_82 : decode cX6_bestOf 82 = .ok (.aload_n 0, 1) := by decide +kernel
theorem dX6_bestOf_83 : decode cX6_bestOf 83 = .ok (.getfield 19, 3) := by decide +kernel
theorem dX6_bestOf_86 : decode cX6_bestOf 86 = .ok (.iload_n 2, 1) := by decide +kernel
theorem dX6_bestOf_87 : decode cX6_bestOf 87 = .ok (.iconst 4, 1) := by decide +kernel
theorem dX6_bestOf_88 : decode cX6_bestOf 88 = .ok (.iadd, 1) := by decide +kernel
theorem dX6_bestOf_89 : decode cX6_bestOf 89 = .ok (.bipush 6, 2) := by decide +kernel
theorem dX6_bestOf_91 : decode cX6_bestOf 91 = .ok (.iastore, 1) := by decide +kernel
theorem dX6_bestOf_92 : decode cX6_bestOf 92 = .ok (.aload_n 0, 1) := by decide +kernel
theorem dX6_bestOf_93 : decode cX6_bestOf 93 = .ok (.getfield 19, 3) := by decide +kernel
theorem dX6_bestOf_96 : decode cX6_bestOf 96 = .ok (.iload_n 2, 1) := by decide +kernel
theorem dX6_bestOf_97 : decode cX6_bestOf 97 = .ok (.iconst 3, 1) := by decide +kernel
theorem dX6_bestOf_98 : decode cX6_bestOf 98 = .ok (.iadd, 1) := by decide +kernel
theorem dX6_bestOf_99 : decode cX6_bestOf 99 = .ok (.iconst 1, 1) := by decide +kernel
theorem dX6_bestOf_100 : decode cX6_bestOf 100 = .ok (.iastore, 1) := by decide +kernel
theorem dX6_bestOf_101 : decode cX6_bestOf 101 = .ok (.aload_n 0, 1) := by decide +kernel
theorem dX6_bestOf_102 : decode cX6_bestOf 102 = .ok (.getfield 19, 3) := by decide +kernel
theorem dX6_bestOf_105 : decode cX6_bestOf 105 = .ok (.iload_n 1, 1) := by decide +kernel
theorem dX6_bestOf_106 : decode cX6_bestOf 106 = .ok (.invokestatic 166, 3) := by decide +kernel
theorem dX6_bestOf_109 : decode cX6_bestOf 109 = .ok (.ireturn, 1) := by decide +kernel
set_option maxRecDepth 20000 in
theorem ggX6_bestPlace_X6_isDog : GoodIn wsX6_bestPlace wsX6_isDog := goodIn_r _ [5, 6, 7, 4, 8] (by decide +kernel) (by decide +kernel)
set_option maxRecDepth 20000 in
theorem gX6_bestPlace_X6_isDog : GoodIn wsX6_bestPlace (va_wsS RX6 161 yX6_isDog wsX6_isDog) := goodIn_app (goodIn_of _ (by decide +kernel)) ggX6_bestPlace_X6_isDog
set_option maxRecDepth 20000 in
theorem ggX6_bestPlace_X6_refused : GoodIn wsX6_bestPlace wsX6_refused := goodIn_r _ [12, 13, 49, 50, 51, 52, 53, 54, 55, 56, 57, 58, 59, 60, 61] (by decide +kernel) (by decide +kernel)
set_option maxRecDepth 20000 in
theorem gX6_bestPlace_X6_refused : GoodIn wsX6_bestPlace (wsV RX6 102 RX6 yX6_refused wsX6_refused) := goodIn_app (goodIn_of _ (by decide +kernel)) ggX6_bestPlace_X6_refused
set_option maxRecDepth 20000 in
theorem ggX6_bestPlace_X6_bestOf : GoodIn wsX6_bestPlace wsX6_bestOf := goodIn_r _ [17, 1, 18, 19, 20, 4, 21, 22, 23, 24, 25, 26, 27, 28, 29, 30, 31, 32, 33, 34, 35, 36, 37, 38, 39, 40, 41, 42, 43, 44, 45, 46, 47, 48, 49, 50, 51, 52, 53, 54, 55, 56, 57, 58, 59, 60, 61] (by decide +kernel) (by decide +kernel)
set_option maxRecDepth 20000 in
theorem gX6_bestPlace_X6_bestOf : GoodIn wsX6_bestPlace (wsV RX6 216 RX6 yX6_bestOf wsX6_bestOf) := goodIn_app (goodIn_of _ (by decide +kernel)) ggX6_bestPlace_X6_bestOf
theorem dX6_bestPlace_0 : decode cX6_bestPlace 0 = .ok (.aload_n 0, 1) := by decide +kernel
theorem dX6_bestPlace_1 : decode cX6_bestPlace 1 = .ok (.aload_n 0, 1) := by decide +kernel
theorem dX6_bestPlace_2 : decode cX6_bestPlace 2 = .ok (.getfield 16, 3) := by decide +kernel
theorem dX6_bestPlace_5 : decode cX6_bestPlace 5 = .ok (.iload_n 1, 1) := by decide +kernel
theorem dX6_bestPlace_6 : decode cX6_bestPlace 6 = .ok (.invokestatic 161, 3) := by decide +kernel
theorem dX6_bestPlace_9 : decode cX6_bestPlace 9 = .ok (.ifCond .eq 7, 3) := by decide +kernel
theorem dX6_bestPlace_12 : decode cX6_bestPlace 12 = .ok (.iconst 0, 1) := by decide +kernel
theorem dX6_bestPlace_13 : decode cX6_bestPlace 13 = .ok (.goto 4, 3) := by decide +kernel
theorem dX6_bestPlace_16 : decode cX6_bestPlace 16 = .ok (.iconst 1, 1) := by decide +kernel
theorem dX6_bestPlace_17 : decode cX6_bestPlace 17 = .ok (.invokevirtual 102, 3) := by decide +kernel
theorem dX6_bestPlace_20 : decode cX6_bestPlace 20 = .ok (.ifCond .eq 7, 3) := by decide +kernel
theorem dX6_bestPlace_23 : decode cX6_bestPlace 23 = .ok (.iconst 0, 1) := by decide +kernel
theorem dX6_bestPlace_24 : decode cX6_bestPlace 24 = .ok (.goto 8, 3) := by decide +kernel
theorem dX6_bestPlace_27 : decode cX6_bestPlace 27 = .ok (.aload_n 0, 1) := by decide +kernel
theorem dX6_bestPlace_28 : decode cX6_bestPlace 28 = .ok (.iload_n 1, 1) := by decide +kernel
theorem dX6_bestPlace_29 : decode cX6_bestPlace 29 = .ok (.invokevirtual 216, 3) := by decide +kernel
theorem dX6_bestPlace_32 : decode cX6_bestPlace 32 = .ok (.ireturn, 1) := by decide +kernel
set_option maxRecDepth 20000 in
theorem ggX6_mayLose_X6_isDog : GoodIn wsX6_mayLose wsX6_isDog := goodIn_r _ [6, 7, 8, 5, 9] (by decide +kernel) (by decide +kernel)
set_option maxRecDepth 20000 in
theorem gX6_mayLose_X6_isDog : GoodIn wsX6_mayLose (va_wsS RX6 161 yX6_isDog wsX6_isDog) := goodIn_app (goodIn_of _ (by decide +kernel)) ggX6_mayLose_X6_isDog
set_option maxRecDepth 20000 in
theorem ggX6_mayLose_X6_in : GoodIn wsX6_mayLose wsX6_in := goodIn_r _ [9] (by decide +kernel) (by decide +kernel)
set_option maxRecDepth 20000 in
theorem gX6_mayLose_X6_in : GoodIn wsX6_mayLose (va_wsS RX6 51 yX6_in wsX6_in) := goodIn_app (goodIn_of _ (by decide +kernel)) ggX6_mayLose_X6_in
set_option maxRecDepth 20000 in
theorem ggX6_mayLose_X6_refused : GoodIn wsX6_mayLose wsX6_refused := goodIn_r _ [13, 14, 36, 37, 38, 39, 40, 41, 42, 43, 44, 45, 46, 47, 48] (by decide +kernel) (by decide +kernel)
set_option maxRecDepth 20000 in
theorem gX6_mayLose_X6_refused : GoodIn wsX6_mayLose (wsV RX6 102 RX6 yX6_refused wsX6_refused) := goodIn_app (goodIn_of _ (by decide +kernel)) ggX6_mayLose_X6_refused
set_option maxRecDepth 20000 in
theorem ggX6_mayLose_X6_isToRun : GoodIn wsX6_mayLose wsX6_isToRun := goodIn_r _ [17, 18, 19, 5, 20, 21, 22, 23] (by decide +kernel) (by decide +kernel)
set_option maxRecDepth 20000 in
theorem gX6_mayLose_X6_isToRun : GoodIn wsX6_mayLose (va_wsS RX6 75 yX6_isToRun wsX6_isToRun) := goodIn_app (goodIn_of _ (by decide +kernel)) ggX6_mayLose_X6_isToRun
set_option maxRecDepth 20000 in
theorem ggX6_mayLose_X6_score : GoodIn wsX6_mayLose wsX6_score := goodIn_r _ [26, 27, 28, 5, 29, 21, 22, 23, 30, 31, 32, 33, 34, 35] (by decide +kernel) (by decide +kernel)
set_option maxRecDepth 20000 in
theorem gX6_mayLose_X6_score : GoodIn wsX6_mayLose (va_wsS RX6 68 yX6_score wsX6_score) := goodIn_app (goodIn_of _ (by decide +kernel)) ggX6_mayLose_X6_score
set_option maxRecDepth 20000 in
theorem ggX6_mayLose_X6_stateOf : GoodIn wsX6_mayLose wsX6_stateOf := goodIn_r _ [20, 21, 22, 5, 23] (by decide +kernel) (by decide +kernel)
set_option maxRecDepth 20000 in
theorem gX6_mayLose_X6_stateOf : GoodIn wsX6_mayLose (va_wsS RX6 47 yX6_stateOf wsX6_stateOf) := goodIn_app (goodIn_of _ (by decide +kernel)) ggX6_mayLose_X6_stateOf
set_option maxRecDepth 20000 in
theorem ggX6_mayLose_X6_dogAt : GoodIn wsX6_mayLose wsX6_dogAt := goodIn_r _ [23] (by decide +kernel) (by decide +kernel)
set_option maxRecDepth 20000 in
theorem gX6_mayLose_X6_dogAt : GoodIn wsX6_mayLose (va_wsS RX6 43 yX6_dogAt wsX6_dogAt) := goodIn_app (goodIn_of _ (by decide +kernel)) ggX6_mayLose_X6_dogAt
set_option maxRecDepth 20000 in
theorem ggX6_mayLose_X6_worth : GoodIn wsX6_mayLose wsX6_worth := goodIn_r _ [35] (by decide +kernel) (by decide +kernel)
set_option maxRecDepth 20000 in
theorem gX6_mayLose_X6_worth : GoodIn wsX6_mayLose (va_wsS RX6 57 yX6_worth wsX6_worth) := goodIn_app (goodIn_of _ (by decide +kernel)) ggX6_mayLose_X6_worth
theorem dX6_mayLose_0 : decode cX6_mayLose 0 = .ok (.aload_n 0, 1) := by decide +kernel
theorem dX6_mayLose_1 : decode cX6_mayLose 1 = .ok (.aload_n 0, 1) := by decide +kernel
theorem dX6_mayLose_2 : decode cX6_mayLose 2 = .ok (.getfield 16, 3) := by decide +kernel
theorem dX6_mayLose_5 : decode cX6_mayLose 5 = .ok (.iload_n 1, 1) := by decide +kernel
theorem dX6_mayLose_6 : decode cX6_mayLose 6 = .ok (.invokestatic 161, 3) := by decide +kernel
theorem dX6_mayLose_9 : decode cX6_mayLose 9 = .ok (.ifCond .ne 7, 3) := by decide +kernel
theorem dX6_mayLose_12 : decode cX6_mayLose 12 = .ok (.iconst 1, 1) := by decide +kernel
theorem dX6_mayLose_13 : decode cX6_mayLose 13 = .ok (.goto 20, 3) := by decide +kernel
theorem dX6_mayLose_16 : decode cX6_mayLose 16 = .ok (.iload_n 2, 1) := by decide +kernel
theorem dX6_mayLose_17 : decode cX6_mayLose 17 = .ok (.i2l, 1) := by decide +kernel
theorem dX6_mayLose_18 : decode cX6_mayLose 18 = .ok (.lconst 1, 1) := by decide +kernel
theorem dX6_mayLose_19 : decode cX6_mayLose 19 = .ok (.ldc2_w 219, 3) := by decide +kernel
theorem dX6_mayLose_22 : decode cX6_mayLose 22 = .ok (.invokestatic 51, 3) := by decide +kernel
theorem dX6_mayLose_25 : decode cX6_mayLose 25 = .ok (.ifCond .ne 7, 3) := by decide +kernel
theorem dX6_mayLose_28 : decode cX6_mayLose 28 = .ok (.iconst 2, 1) := by decide +kernel
theorem dX6_mayLose_29 : decode cX6_mayLose 29 = .ok (.goto 4, 3) := by decide +kernel
theorem dX6_mayLose_32 : decode cX6_mayLose 32 = .ok (.iconst 0, 1) := by decide +kernel
theorem dX6_mayLose_33 : decode cX6_mayLose 33 = .ok (.invokevirtual 102, 3) := by decide +kernel
theorem dX6_mayLose_36 : decode cX6_mayLose 36 = .ok (.ifCond .eq 5, 3) := by decide +kernel
theorem dX6_mayLose_39 : decode cX6_mayLose 39 = .ok (.iconst 0, 1) := by decide +kernel
theorem dX6_mayLose_40 : decode cX6_mayLose 40 = .ok (.ireturn, 1) := by decide +kernel
theorem dX6_mayLose_41 : decode cX6_mayLose 41 = .ok (.aload_n 0, 1) := by decide +kernel
theorem dX6_mayLose_42 : decode cX6_mayLose 42 = .ok (.getfield 16, 3) := by decide +kernel
theorem dX6_mayLose_45 : decode cX6_mayLose 45 = .ok (.iload_n 1, 1) := by decide +kernel
theorem dX6_mayLose_46 : decode cX6_mayLose 46 = .ok (.invokestatic 75, 3) := by decide +kernel
theorem dX6_mayLose_49 : decode cX6_mayLose 49 = .ok (.ifCond .ne 6, 3) := by decide +kernel
theorem dX6_mayLose_52 : decode cX6_mayLose 52 = .ok (.bipush (-9), 2) := by decide +kernel
theorem dX6_mayLose_54 : decode cX6_mayLose 54 = .ok (.ireturn, 1) := by decide +kernel
theorem dX6_mayLose_55 : decode cX6_mayLose 55 = .ok (.aload_n 0, 1) := by decide +kernel
theorem dX6_mayLose_56 : decode cX6_mayLose 56 = .ok (.getfield 16, 3) := by decide +kernel
theorem dX6_mayLose_59 : decode cX6_mayLose 59 = .ok (.iload_n 1, 1) := by decide +kernel
theorem dX6_mayLose_60 : decode cX6_mayLose 60 = .ok (.invokestatic 68, 3) := by decide +kernel
theorem dX6_mayLose_63 : decode cX6_mayLose 63 = .ok (.istore_n 3, 1) := by decide +kernel
theorem dX6_mayLose_64 : decode cX6_mayLose 64 = .ok (.iconst 0, 1) := by decide +kernel
theorem dX6_mayLose_65 : decode cX6_mayLose 65 = .ok (.istore 4, 2) := by decide +kernel
theorem dX6_mayLose_67 : decode cX6_mayLose 67 = .ok (.aload_n 0, 1) := by decide +kernel
theorem dX6_mayLose_68 : decode cX6_mayLose 68 = .ok (.getfield 16, 3) := by decide +kernel
theorem dX6_mayLose_71 : decode cX6_mayLose 71 = .ok (.iload_n 1, 1) := by decide +kernel
theorem dX6_mayLose_72 : decode cX6_mayLose 72 = .ok (.invokestatic 47, 3) := by decide +kernel
theorem dX6_mayLose_75 : decode cX6_mayLose 75 = .ok (.iconst 2, 1) := by decide +kernel
theorem dX6_mayLose_76 : decode cX6_mayLose 76 = .ok (.if_icmp .ne 17, 3) := by decide +kernel
theorem dX6_mayLose_79 : decode cX6_mayLose 79 = .ok (.aload_n 0, 1) := by decide +kernel
theorem dX6_mayLose_80 : decode cX6_mayLose 80 = .ok (.getfield 16, 3) := by decide +kernel
theorem dX6_mayLose_83 : decode cX6_mayLose 83 = .ok (.iload_n 1, 1) := by decide +kernel
theorem dX6_mayLose_84 : decode cX6_mayLose 84 = .ok (.invokestatic 43, 3) := by decide +kernel
theorem dX6_mayLose_87 : decode cX6_mayLose 87 = .ok (.iconst 4, 1) := by decide +kernel
theorem dX6_mayLose_88 : decode cX6_mayLose 88 = .ok (.iadd, 1) := by decide +kernel
theorem dX6_mayLose_89 : decode cX6_mayLose 89 = .ok (.iaload, 1) := by decide +kernel
theorem dX6_mayLose_90 : decode cX6_mayLose 90 = .ok (.goto 4, 3) := by decide +kernel
theorem dX6_mayLose_93 : decode cX6_mayLose 93 = .ok (.iconst 0, 1) := by decide +kernel
theorem dX6_mayLose_94 : decode cX6_mayLose 94 = .ok (.istore 5, 2) := by decide +kernel
theorem dX6_mayLose_96 : decode cX6_mayLose 96 = .ok (.iload 5, 2) := by decide +kernel
theorem dX6_mayLose_98 : decode cX6_mayLose 98 = .ok (.istore 6, 2) := by decide +kernel
theorem dX6_mayLose_100 : decode cX6_mayLose 100 = .ok (.iload 6, 2) := by decide +kernel
theorem dX6_mayLose_102 : decode cX6_mayLose 102 = .ok (.bipush 6, 2) := by decide +kernel
theorem dX6_mayLose_104 : decode cX6_mayLose 104 = .ok (.if_icmp .ge 19, 3) := by decide +kernel
theorem dX6_mayLose_107 : decode cX6_mayLose 107 = .ok (.iload 4, 2) := by decide +kernel
theorem dX6_mayLose_109 : decode cX6_mayLose 109 = .ok (.iload 6, 2) := by decide +kernel
theorem dX6_mayLose_111 : decode cX6_mayLose 111 = .ok (.invokestatic 57, 3) := by decide +kernel
theorem dX6_mayLose_114 : decode cX6_mayLose 114 = .ok (.iadd, 1) := by decide +kernel
theorem dX6_mayLose_115 : decode cX6_mayLose 115 = .ok (.istore 4, 2) := by decide +kernel
theorem dX6_mayLose_117 : decode cX6_mayLose 117 = .ok (.iinc 6 1, 3) := by decide +kernel
theorem dX6_mayLose_120 : decode cX6_mayLose 120 = .ok (.goto (-20), 3) := by decide +kernel
theorem dX6_mayLose_123 : decode cX6_mayLose 123 = .ok (.iload 4, 2) := by decide +kernel
theorem dX6_mayLose_125 : decode cX6_mayLose 125 = .ok (.istore 6, 2) := by decide +kernel
theorem dX6_mayLose_127 : decode cX6_mayLose 127 = .ok (.iload 6, 2) := by decide +kernel
theorem dX6_mayLose_129 : decode cX6_mayLose 129 = .ok (.ifCond .lt 77, 3) := by decide +kernel
theorem dX6_mayLose_132 : decode cX6_mayLose 132 = .ok (.iconst 0, 1) := by decide +kernel
theorem dX6_mayLose_133 : decode cX6_mayLose 133 = .ok (.istore 7, 2) := by decide +kernel
theorem dX6_mayLose_135 : decode cX6_mayLose 135 = .ok (.iconst 0, 1) := by decide +kernel
theorem dX6_mayLose_136 : decode cX6_mayLose 136 = .ok (.istore 8, 2) := by decide +kernel
theorem dX6_mayLose_138 : decode cX6_mayLose 138 = .ok (.iload 8, 2) := by decide +kernel
theorem dX6_mayLose_140 : decode cX6_mayLose 140 = .ok (.aload_n 0, 1) := by decide +kernel
theorem dX6_mayLose_141 : decode cX6_mayLose 141 = .ok (.getfield 16, 3) := by decide +kernel
theorem dX6_mayLose_144 : decode cX6_mayLose 144 = .ok (.bipush 7, 2) := by decide +kernel
theorem dX6_mayLose_146 : decode cX6_mayLose 146 = .ok (.iaload, 1) := by decide +kernel
theorem dX6_mayLose_147 : decode cX6_mayLose 147 = .ok (.if_icmp .ge 44, 3) := by decide +kernel
theorem dX6_mayLose_150 : decode cX6_mayLose 150 = .ok (.iload 7, 2) := by decide +kernel
theorem dX6_mayLose_152 : decode cX6_mayLose 152 = .ok (.iload 8, 2) := by decide +kernel
theorem dX6_mayLose_154 : decode cX6_mayLose 154 = .ok (.iload_n 1, 1) := by decide +kernel
theorem dX6_mayLose_155 : decode cX6_mayLose 155 = .ok (.if_icmp .eq 26, 3) := by decide +kernel
theorem dX6_mayLose_158 : decode cX6_mayLose 158 = .ok (.aload_n 0, 1) := by decide +kernel
theorem dX6_mayLose_159 : decode cX6_mayLose 159 = .ok (.getfield 16, 3) := by decide +kernel
theorem dX6_mayLose_162 : decode cX6_mayLose 162 = .ok (.iload 8, 2) := by decide +kernel
theorem dX6_mayLose_164 : decode cX6_mayLose 164 = .ok (.invokestatic 68, 3) := by decide +kernel
theorem dX6_mayLose_167 : decode cX6_mayLose 167 = .ok (.iload_n 3, 1) := by decide +kernel
theorem dX6_mayLose_168 : decode cX6_mayLose 168 = .ok (.iload 4, 2) := by decide +kernel
theorem dX6_mayLose_170 : decode cX6_mayLose 170 = .ok (.iadd, 1) := by decide +kernel
theorem dX6_mayLose_171 : decode cX6_mayLose 171 = .ok (.iload 6, 2) := by decide +kernel
theorem dX6_mayLose_173 : decode cX6_mayLose 173 = .ok (.isub, 1) := by decide +kernel
theorem dX6_mayLose_174 : decode cX6_mayLose 174 = .ok (.if_icmp .le 7, 3) := by decide +kernel
theorem dX6_mayLose_177 : decode cX6_mayLose 177 = .ok (.iconst 1, 1) := by decide +kernel
theorem dX6_mayLose_178 : decode cX6_mayLose 178 = .ok (.goto 4, 3) := by decide +kernel
theorem dX6_mayLose_181 : decode cX6_mayLose 181 = .ok (.iconst 0, 1) := by decide +kernel
theorem dX6_mayLose_182 : decode cX6_mayLose 182 = .ok (.iadd, 1) := by decide +kernel
theorem dX6_mayLose_183 : decode cX6_mayLose 183 = .ok (.istore 7, 2) := by decide +kernel
theorem dX6_mayLose_185 : decode cX6_mayLose 185 = .ok (.iinc 8 1, 3) := by decide +kernel
theorem dX6_mayLose_188 : decode cX6_mayLose 188 = .ok (.goto (-50), 3) := by decide +kernel
theorem dX6_mayLose_191 : decode cX6_mayLose 191 = .ok (.iload 7, 2) := by decide +kernel
theorem dX6_mayLose_193 : decode cX6_mayLose 193 = .ok (.iload_n 2, 1) := by decide +kernel
theorem dX6_mayLose_194 : decode cX6_mayLose 194 = .ok (.if_icmp .ge 6, 3) := by decide +kernel
theorem dX6_mayLose_197 : decode cX6_mayLose 197 = .ok (.iload 6, 2) := by decide +kernel
theorem dX6_mayLose_199 : decode cX6_mayLose 199 = .ok (.ireturn, 1) := by decide +kernel
theorem dX6_mayLose_200 : decode cX6_mayLose 200 = .ok (.iinc 6 (-1), 3) := by decide +kernel
theorem dX6_mayLose_203 : decode cX6_mayLose 203 = .ok (.goto (-76), 3) := by decide +kernel
theorem dX6_mayLose_206 : decode cX6_mayLose 206 = .ok (.bipush (-9), 2) := by decide +kernel
theorem dX6_mayLose_208 : decode cX6_mayLose 208 = .ok (.ireturn, 1) := by decide +kernel
set_option maxRecDepth 20000 in
theorem ggX6_contenders_X6_bestOf : GoodIn wsX6_contenders wsX6_bestOf := goodIn_r _ [7, 2, 8, 9, 10, 6, 11, 12, 13, 14, 15, 16, 17, 18, 19, 20, 21, 22, 23, 24, 25, 26, 27, 28, 29, 30, 31, 32, 33, 34, 35, 36, 37, 38, 39, 40, 41, 42, 43, 44, 45, 46, 47, 48, 49, 50, 51] (by decide +kernel) (by decide +kernel)
set_option maxRecDepth 20000 in
theorem gX6_contenders_X6_bestOf : GoodIn wsX6_contenders (wsV RX6 216 RX6 yX6_bestOf wsX6_bestOf) := goodIn_app (goodIn_of _ (by decide +kernel)) ggX6_contenders_X6_bestOf
theorem dX6_contenders_0 : decode cX6_contenders 0 = .ok (.aload_n 0, 1) := by decide +kernel
theorem dX6_contenders_1 : decode cX6_contenders 1 = .ok (.iconst 0, 1) := by decide +kernel
theorem dX6_contenders_2 : decode cX6_contenders 2 = .ok (.putfield 39, 3) := by decide +kernel
theorem dX6_contenders_5 : decode cX6_contenders 5 = .ok (.iconst 0, 1) := by decide +kernel
theorem dX6_contenders_6 : decode cX6_contenders 6 = .ok (.istore_n 1, 1) := by decide +kernel
theorem dX6_contenders_7 : decode cX6_contenders 7 = .ok (.iconst 0, 1) := by decide +kernel
theorem dX6_contenders_8 : decode cX6_contenders 8 = .ok (.istore_n 2, 1) := by decide +kernel
theorem dX6_contenders_9 : decode cX6_contenders 9 = .ok (.iload_n 2, 1) := by decide +kernel
theorem dX6_contenders_10 : decode cX6_contenders 10 = .ok (.aload_n 0, 1) := by decide +kernel
theorem dX6_contenders_11 : decode cX6_contenders 11 = .ok (.getfield 16, 3) := by decide +kernel
theorem dX6_contenders_14 : decode cX6_contenders 14 = .ok (.bipush 7, 2) := by decide +kernel
theorem dX6_contenders_16 : decode cX6_contenders 16 = .ok (.iaload, 1) := by decide +kernel
theorem dX6_contenders_17 : decode cX6_contenders 17 = .ok (.if_icmp .ge 26, 3) := by decide +kernel
theorem dX6_contenders_20 : decode cX6_contenders 20 = .ok (.iload_n 1, 1) := by decide +kernel
theorem dX6_contenders_21 : decode cX6_contenders 21 = .ok (.aload_n 0, 1) := by decide +kernel
theorem dX6_contenders_22 : decode cX6_contenders 22 = .ok (.iload_n 2, 1) := by decide +kernel
theorem dX6_contenders_23 : decode cX6_contenders 23 = .ok (.invokevirtual 216, 3) := by decide +kernel
theorem dX6_contenders_26 : decode cX6_contenders 26 = .ok (.iconst 1, 1) := by decide +kernel
theorem dX6_contenders_27 : decode cX6_contenders 27 = .ok (.if_icmp .ne 7, 3) := by decide +kernel
theorem dX6_contenders_30 : decode cX6_contenders 30 = .ok (.iconst 1, 1) := by decide +kernel
theorem dX6_contenders_31 : decode cX6_contenders 31 = .ok (.goto 4, 3) := by decide +kernel
theorem dX6_contenders_34 : decode cX6_contenders 34 = .ok (.iconst 0, 1) := by decide +kernel
theorem dX6_contenders_35 : decode cX6_contenders 35 = .ok (.iadd, 1) := by decide +kernel
theorem dX6_contenders_36 : decode cX6_contenders 36 = .ok (.istore_n 1, 1) := by decide +kernel
theorem dX6_contenders_37 : decode cX6_contenders 37 = .ok (.iinc 2 1, 3) := by decide +kernel
theorem dX6_contenders_40 : decode cX6_contenders 40 = .ok (.goto (-31), 3) := by decide +kernel
theorem dX6_contenders_43 : decode cX6_contenders 43 = .ok (.iload_n 1, 1) := by decide +kernel
theorem dX6_contenders_44 : decode cX6_contenders 44 = .ok (.ireturn, 1) := by decide +kernel
set_option maxRecDepth 20000 in
theorem ggX6_does_X6_in : GoodIn wsX6_does wsX6_in := goodIn_r _ [9] (by decide +kernel) (by decide +kernel)
set_option maxRecDepth 20000 in
theorem gX6_does_X6_in : GoodIn wsX6_does (va_wsS RX6 51 yX6_in wsX6_in) := goodIn_app (goodIn_of _ (by decide +kernel)) ggX6_does_X6_in
set_option maxRecDepth 20000 in
theorem ggX6_does_X6_why : GoodIn wsX6_does wsX6_why := goodIn_r _ [12, 13, 14, 8, 15, 16, 17, 18, 19, 20, 21, 22, 23, 24] (by decide +kernel) (by decide +kernel)
set_option maxRecDepth 20000 in
theorem gX6_does_X6_why : GoodIn wsX6_does (va_wsS RX6 189 yX6_why wsX6_why) := goodIn_app (goodIn_of _ (by decide +kernel)) ggX6_does_X6_why
set_option maxRecDepth 20000 in
theorem ggX6_does_X6_firstOf : GoodIn wsX6_does wsX6_firstOf := goodIn_r _ [28, 4, 5, 29, 30, 31, 8, 32, 22, 23, 24, 33, 34, 35, 36, 19, 20, 21, 37, 38, 39, 40, 81, 82, 83, 84, 85, 86, 87, 88, 89, 90, 91, 92, 93] (by decide +kernel) (by decide +kernel)
set_option maxRecDepth 20000 in
theorem gX6_does_X6_firstOf : GoodIn wsX6_does (wsV RX6 192 RX6 yX6_firstOf wsX6_firstOf) := goodIn_app (goodIn_of _ (by decide +kernel)) ggX6_does_X6_firstOf
set_option maxRecDepth 20000 in
theorem ggX6_does_X6_runOn : GoodIn wsX6_does wsX6_runOn := goodIn_r _ [43, 44, 22, 23, 8, 24] (by decide +kernel) (by decide +kernel)
set_option maxRecDepth 20000 in
theorem gX6_does_X6_runOn : GoodIn wsX6_does (va_wsS RX6 195 yX6_runOn wsX6_runOn) := goodIn_app (goodIn_of _ (by decide +kernel)) ggX6_does_X6_runOn
set_option maxRecDepth 20000 in
theorem ggX6_does_X6_isDog : GoodIn wsX6_does wsX6_isDog := goodIn_r _ [47, 6, 7, 8, 9] (by decide +kernel) (by decide +kernel)
set_option maxRecDepth 20000 in
theorem gX6_does_X6_isDog : GoodIn wsX6_does (va_wsS RX6 161 yX6_isDog wsX6_isDog) := goodIn_app (goodIn_of _ (by decide +kernel)) ggX6_does_X6_isDog
set_option maxRecDepth 20000 in
theorem ggX6_does_X6_stateOf : GoodIn wsX6_does wsX6_stateOf := goodIn_r _ [21, 22, 23, 8, 24] (by decide +kernel) (by decide +kernel)
set_option maxRecDepth 20000 in
theorem gX6_does_X6_stateOf : GoodIn wsX6_does (va_wsS RX6 47 yX6_stateOf wsX6_stateOf) := goodIn_app (goodIn_of _ (by decide +kernel)) ggX6_does_X6_stateOf
set_option maxRecDepth 20000 in
theorem ggX6_does_X6_dogAt : GoodIn wsX6_does wsX6_dogAt := goodIn_r _ [24] (by decide +kernel) (by decide +kernel)
set_option maxRecDepth 20000 in
theorem gX6_does_X6_dogAt : GoodIn wsX6_does (va_wsS RX6 43 yX6_dogAt wsX6_dogAt) := goodIn_app (goodIn_of _ (by decide +kernel)) ggX6_does_X6_dogAt
set_option maxRecDepth 20000 in
theorem ggX6_does_X6_isPhase : GoodIn wsX6_does wsX6_isPhase := goodIn_r _ [50, 51, 6, 7, 8, 9] (by decide +kernel) (by decide +kernel)
set_option maxRecDepth 20000 in
theorem gX6_does_X6_isPhase : GoodIn wsX6_does (va_wsS RX6 172 yX6_isPhase wsX6_isPhase) := goodIn_app (goodIn_of _ (by decide +kernel)) ggX6_does_X6_isPhase
set_option maxRecDepth 20000 in
theorem ggX6_does_X6_breakOn : GoodIn wsX6_does wsX6_breakOn := goodIn_r _ [54, 22, 23, 8, 24] (by decide +kernel) (by decide +kernel)
set_option maxRecDepth 20000 in
theorem gX6_does_X6_breakOn : GoodIn wsX6_does (va_wsS RX6 199 yX6_breakOn wsX6_breakOn) := goodIn_app (goodIn_of _ (by decide +kernel)) ggX6_does_X6_breakOn
set_option maxRecDepth 20000 in
theorem ggX6_does_X6_isSunset : GoodIn wsX6_does wsX6_isSunset := goodIn_r _ [57, 58, 59, 6, 7, 8, 9] (by decide +kernel) (by decide +kernel)
set_option maxRecDepth 20000 in
theorem gX6_does_X6_isSunset : GoodIn wsX6_does (va_wsS RX6 206 yX6_isSunset wsX6_isSunset) := goodIn_app (goodIn_of _ (by decide +kernel)) ggX6_does_X6_isSunset
set_option maxRecDepth 20000 in
theorem ggX6_does_X6_nextOn : GoodIn wsX6_does wsX6_nextOn := goodIn_r _ [62] (by decide +kernel) (by decide +kernel)
set_option maxRecDepth 20000 in
theorem gX6_does_X6_nextOn : GoodIn wsX6_does (va_wsS RX6 209 yX6_nextOn wsX6_nextOn) := goodIn_app (goodIn_of _ (by decide +kernel)) ggX6_does_X6_nextOn
set_option maxRecDepth 20000 in
theorem ggX6_does_X6_layRow : GoodIn wsX6_does wsX6_layRow := goodIn_r _ [32, 4, 5, 22, 23, 8, 24, 33, 34, 35, 36, 19, 20, 21, 37, 38, 39, 40, 81, 82, 83, 84, 85, 86, 87, 88, 89, 90, 91, 92, 93] (by decide +kernel) (by decide +kernel)
set_option maxRecDepth 20000 in
theorem gX6_does_X6_layRow : GoodIn wsX6_does (wsV RX6 88 RX6 yX6_layRow wsX6_layRow) := goodIn_app (goodIn_of _ (by decide +kernel)) ggX6_does_X6_layRow
set_option maxRecDepth 20000 in
theorem ggX6_does_X6_placeOf : GoodIn wsX6_does wsX6_placeOf := goodIn_r _ [65, 66, 67, 8, 68, 22, 23, 24, 69, 70, 71, 72, 73, 74, 75, 76, 77, 78, 79, 80] (by decide +kernel) (by decide +kernel)
set_option maxRecDepth 20000 in
theorem gX6_does_X6_placeOf : GoodIn wsX6_does (va_wsS RX6 166 yX6_placeOf wsX6_placeOf) := goodIn_app (goodIn_of _ (by decide +kernel)) ggX6_does_X6_placeOf
set_option maxRecDepth 20000 in
theorem ggX6_does_X6_waiting : GoodIn wsX6_does wsX6_waiting := goodIn_r _ [15, 16, 17, 8, 18, 19, 20, 21, 22, 23, 24] (by decide +kernel) (by decide +kernel)
set_option maxRecDepth 20000 in
theorem gX6_does_X6_waiting : GoodIn wsX6_does (va_wsS RX6 91 yX6_waiting wsX6_waiting) := goodIn_app (goodIn_of _ (by decide +kernel)) ggX6_does_X6_waiting
theorem dX6_does_0 : decode cX6_does 0 = .ok (.iload_n 2, 1) := by decide +kernel
theorem dX6_does_1 : decode cX6_does 1 = .ok (.bipush 100, 2) := by decide +kernel
theorem dX6_does_3 : decode cX6_does 3 = .ok (.idiv, 1) := by decide +kernel
theorem dX6_does_4 : decode cX6_does 4 = .ok (.istore_n 3, 1) := by decide +kernel
theorem dX6_does_5 : decode cX6_does 5 = .ok (.iload_n 2, 1) := by decide +kernel
theorem dX6_does_6 : decode cX6_does 6 = .ok (.bipush 100, 2) := by decide +kernel
theorem dX6_does_8 : decode cX6_does 8 = .ok (.irem, 1) := by decide +kernel
theorem dX6_does_9 : decode cX6_does 9 = .ok (.istore 4, 2) := by decide +kernel
theorem dX6_does_11 : decode cX6_does 11 = .ok (.iload_n 1, 1) := by decide +kernel
theorem dX6_does_12 : decode cX6_does 12 = .ok (.tableswitch 362 1 9 #[52, 107, 153, 199, 218, 266, 301, 317, 339], 52) := by decide +kernel
theorem dX6_does_64 : decode cX6_does 64 = .ok (.iload 4, 2) := by decide +kernel
theorem dX6_does_66 : decode cX6_does 66 = .ok (.i2l, 1) := by decide +kernel
theorem dX6_does_67 : decode cX6_does 67 = .ok (.lconst 1, 1) := by decide +kernel
theorem dX6_does_68 : decode cX6_does 68 = .ok (.ldc2_w 187, 3) := by decide +kernel
theorem dX6_does_71 : decode cX6_does 71 = .ok (.invokestatic 51, 3) := by decide +kernel
theorem dX6_does_74 : decode cX6_does 74 = .ok (.ifCond .eq 43, 3) := by decide +kernel
theorem dX6_does_77 : decode cX6_does 77 = .ok (.aload_n 0, 1) := by decide +kernel
theorem dX6_does_78 : decode cX6_does 78 = .ok (.getfield 19, 3) := by decide +kernel
theorem dX6_does_81 : decode cX6_does 81 = .ok (.invokestatic 189, 3) := by decide +kernel
theorem dX6_does_84 : decode cX6_does 84 = .ok (.ifCond .ne 33, 3) := by decide +kernel
theorem dX6_does_87 : decode cX6_does 87 = .ok (.aload_n 0, 1) := by decide +kernel
theorem dX6_does_88 : decode cX6_does 88 = .ok (.getfield 19, 3) := by decide +kernel
theorem dX6_does_91 : decode cX6_does 91 = .ok (.aload_n 0, 1) := by decide +kernel
theorem dX6_does_92 : decode cX6_does 92 = .ok (.aload_n 0, 1) := by decide +kernel
theorem dX6_does_93 : decode cX6_does 93 = .ok (.getfield 19, 3) := by decide +kernel
theorem dX6_does_96 : decode cX6_does 96 = .ok (.invokevirtual 192, 3) := by decide +kernel
theorem dX6_does_99 : decode cX6_does 99 = .ok (.ldc2_w 221, 3) := by decide +kernel
theorem dX6_does_102 : decode cX6_does 102 = .ok (.iload_n 3, 1) := by decide +kernel
theorem dX6_does_103 : decode cX6_does 103 = .ok (.i2l, 1) := by decide +kernel
theorem dX6_does_104 : decode cX6_does 104 = .ok (.lmul, 1) := by decide +kernel
theorem dX6_does_105 : decode cX6_does 105 = .ok (.iload 4, 2) := by decide +kernel
theorem dX6_does_107 : decode cX6_does 107 = .ok (.invokestatic 195, 3) := by decide +kernel
theorem dX6_does_110 : decode cX6_does 110 = .ok (.ifCond .eq 7, 3) := by decide +kernel
theorem dX6_does_113 : decode cX6_does 113 = .ok (.iconst 1, 1) := by decide +kernel
theorem dX6_does_114 : decode cX6_does 114 = .ok (.goto 4, 3) := by decide +kernel
theorem dX6_does_117 : decode cX6_does 117 = .ok (.iconst 0, 1) := by decide +kernel
theorem dX6_does_118 : decode cX6_does 118 = .ok (.ireturn, 1) := by decide +kernel
theorem dX6_does_119 : decode cX6_does 119 = .ok (.iload_n 3, 1) := by decide +kernel
theorem dX6_does_120 : decode cX6_does 120 = .ok (.ifCond .ne 28, 3) := by decide +kernel
theorem dX6_does_123 : decode cX6_does 123 = .ok (.aload_n 0, 1) := by decide +kernel
theorem dX6_does_124 : decode cX6_does 124 = .ok (.getfield 19, 3) := by decide +kernel
theorem dX6_does_127 : decode cX6_does 127 = .ok (.iload 4, 2) := by decide +kernel
theorem dX6_does_129 : decode cX6_does 129 = .ok (.invokestatic 161, 3) := by decide +kernel
theorem dX6_does_132 : decode cX6_does 132 = .ok (.ifCond .eq 16, 3) := by decide +kernel
theorem dX6_does_135 : decode cX6_does 135 = .ok (.aload_n 0, 1) := by decide +kernel
theorem dX6_does_136 : decode cX6_does 136 = .ok (.getfield 19, 3) := by decide +kernel
theorem dX6_does_139 : decode cX6_does 139 = .ok (.iload 4, 2) := by decide +kernel
theorem dX6_does_141 : decode cX6_does 141 = .ok (.invokestatic 47, 3) := by decide +kernel
theorem dX6_does_144 : decode cX6_does 144 = .ok (.iconst 3, 1) := by decide +kernel
theorem dX6_does_145 : decode cX6_does 145 = .ok (.if_icmp .ne 5, 3) := by decide +kernel
theorem dX6_does_148 : decode cX6_does 148 = .ok (.iconst 0, 1) := by decide +kernel
theorem dX6_does_149 : decode cX6_does 149 = .ok (.ireturn, 1) := by decide +kernel
theorem dX6_does_150 : decode cX6_does 150 = .ok (.aload_n 0, 1) := by decide +kernel
theorem dX6_does_151 : decode cX6_does 151 = .ok (.getfield 19, 3) := by decide +kernel
theorem dX6_does_154 : decode cX6_does 154 = .ok (.iload 4, 2) := by decide +kernel
theorem dX6_does_156 : decode cX6_does 156 = .ok (.invokestatic 43, 3) := by decide +kernel
theorem dX6_does_159 : decode cX6_does 159 = .ok (.iconst 2, 1) := by decide +kernel
theorem dX6_does_160 : decode cX6_does 160 = .ok (.iadd, 1) := by decide +kernel
theorem dX6_does_161 : decode cX6_does 161 = .ok (.iconst 3, 1) := by decide +kernel
theorem dX6_does_162 : decode cX6_does 162 = .ok (.iastore, 1) := by decide +kernel
theorem dX6_does_163 : decode cX6_does 163 = .ok (.iconst 1, 1) := by decide +kernel
theorem dX6_does_164 : decode cX6_does 164 = .ok (.ireturn, 1) := by decide +kernel
theorem dX6_does_165 : decode cX6_does 165 = .ok (.iload_n 3, 1) := by decide +kernel
theorem dX6_does_166 : decode cX6_does 166 = .ok (.invokestatic 172, 3) := by decide +kernel
theorem dX6_does_169 : decode cX6_does 169 = .ok (.ifCond .eq 28, 3) := by decide +kernel
theorem dX6_does_172 : decode cX6_does 172 = .ok (.aload_n 0, 1) := by decide +kernel
theorem dX6_does_173 : decode cX6_does 173 = .ok (.getfield 19, 3) := by decide +kernel
theorem dX6_does_176 : decode cX6_does 176 = .ok (.iload 4, 2) := by decide +kernel
theorem dX6_does_178 : decode cX6_does 178 = .ok (.invokestatic 161, 3) := by decide +kernel
theorem dX6_does_181 : decode cX6_does 181 = .ok (.ifCond .eq 16, 3) := by decide +kernel
theorem dX6_does_184 : decode cX6_does 184 = .ok (.aload_n 0, 1) := by decide +kernel
theorem dX6_does_185 : decode cX6_does 185 = .ok (.getfield 19, 3) := by decide +kernel
theorem dX6_does_188 : decode cX6_does 188 = .ok (.iload 4, 2) := by decide +kernel
theorem dX6_does_190 : decode cX6_does 190 = .ok (.invokestatic 47, 3) := by decide +kernel
theorem dX6_does_193 : decode cX6_does 193 = .ok (.iconst 1, 1) := by decide +kernel
theorem dX6_does_194 : decode cX6_does 194 = .ok (.if_icmp .eq 5, 3) := by decide +kernel
theorem dX6_does_197 : decode cX6_does 197 = .ok (.iconst 0, 1) := by decide +kernel
theorem dX6_does_198 : decode cX6_does 198 = .ok (.ireturn, 1) := by decide +kernel
theorem dX6_does_199 : decode cX6_does 199 = .ok (.aload_n 0, 1) := by decide +kernel
theorem dX6_does_200 : decode cX6_does 200 = .ok (.getfield 19, 3) := by decide +kernel
theorem dX6_does_203 : decode cX6_does 203 = .ok (.iload 4, 2) := by decide +kernel
theorem dX6_does_205 : decode cX6_does 205 = .ok (.iload_n 3, 1) := by decide +kernel
theorem dX6_does_206 : decode cX6_does 206 = .ok (.invokestatic 199, 3) := by decide +kernel
theorem dX6_does_209 : decode cX6_does 209 = .ok (.iconst 1, 1) := by decide +kernel
theorem dX6_does_210 : decode cX6_does 210 = .ok (.ireturn, 1) := by decide +kernel
theorem dX6_does_211 : decode cX6_does 211 = .ok (.iload_n 2, 1) := by decide +kernel
theorem dX6_does_212 : decode cX6_does 212 = .ok (.invokestatic 206, 3) := by decide +kernel
theorem dX6_does_215 : decode cX6_does 215 = .ok (.ifCond .ne 5, 3) := by decide +kernel
theorem dX6_does_218 : decode cX6_does 218 = .ok (.iconst 0, 1) := by decide +kernel
theorem dX6_does_219 : decode cX6_does 219 = .ok (.ireturn, 1) := by decide +kernel
theorem dX6_does_220 : decode cX6_does 220 = .ok (.aload_n 0, 1) := by decide +kernel
theorem dX6_does_221 : decode cX6_does 221 = .ok (.getfield 19, 3) := by decide +kernel
theorem dX6_does_224 : decode cX6_does 224 = .ok (.iload_n 2, 1) := by decide +kernel
theorem dX6_does_225 : decode cX6_does 225 = .ok (.invokestatic 209, 3) := by decide +kernel
theorem dX6_does_228 : decode cX6_does 228 = .ok (.iconst 1, 1) := by decide +kernel
theorem dX6_does_229 : decode cX6_does 229 = .ok (.ireturn, 1) := by decide +kernel
theorem dX6_does_230 : decode cX6_does 230 = .ok (.aload_n 0, 1) := by decide +kernel
theorem dX6_does_231 : decode cX6_does 231 = .ok (.aload_n 0, 1) := by decide +kernel
theorem dX6_does_232 : decode cX6_does 232 = .ok (.getfield 19, 3) := by decide +kernel
theorem dX6_does_235 : decode cX6_does 235 = .ok (.invokevirtual 88, 3) := by decide +kernel
theorem dX6_does_238 : decode cX6_does 238 = .ok (.iload_n 3, 1) := by decide +kernel
theorem dX6_does_239 : decode cX6_does 239 = .ok (.ifCond .ne 37, 3) := by decide +kernel
theorem dX6_does_242 : decode cX6_does 242 = .ok (.iload 4, 2) := by decide +kernel
theorem dX6_does_244 : decode cX6_does 244 = .ok (.bipush 10, 2) := by decide +kernel
theorem dX6_does_246 : decode cX6_does 246 = .ok (.idiv, 1) := by decide +kernel
theorem dX6_does_247 : decode cX6_does 247 = .ok (.aload_n 0, 1) := by decide +kernel
theorem dX6_does_248 : decode cX6_does 248 = .ok (.getfield 78, 3) := by decide +kernel
theorem dX6_does_251 : decode cX6_does 251 = .ok (.if_icmp .ge 25, 3) := by decide +kernel
theorem dX6_does_254 : decode cX6_does 254 = .ok (.aload_n 0, 1) := by decide +kernel
theorem dX6_does_255 : decode cX6_does 255 = .ok (.getfield 32, 3) := by decide +kernel
theorem dX6_does_258 : decode cX6_does 258 = .ok (.iload 4, 2) := by decide +kernel
theorem dX6_does_260 : decode cX6_does 260 = .ok (.bipush 10, 2) := by decide +kernel
theorem dX6_does_262 : decode cX6_does 262 = .ok (.idiv, 1) := by decide +kernel
theorem dX6_does_263 : decode cX6_does 263 = .ok (.iaload, 1) := by decide +kernel
theorem dX6_does_264 : decode cX6_does 264 = .ok (.iload 4, 2) := by decide +kernel
theorem dX6_does_266 : decode cX6_does 266 = .ok (.bipush 10, 2) := by decide +kernel
theorem dX6_does_268 : decode cX6_does 268 = .ok (.irem, 1) := by decide +kernel
theorem dX6_does_269 : decode cX6_does 269 = .ok (.if_icmp .ne 7, 3) := by decide +kernel
theorem dX6_does_272 : decode cX6_does 272 = .ok (.iconst 1, 1) := by decide +kernel
theorem dX6_does_273 : decode cX6_does 273 = .ok (.goto 4, 3) := by decide +kernel
theorem dX6_does_276 : decode cX6_does 276 = .ok (.iconst 0, 1) := by decide +kernel
theorem dX6_does_277 : decode cX6_does 277 = .ok (.ireturn, 1) := by decide +kernel
theorem dX6_does_278 : decode cX6_does 278 = .ok (.aload_n 0, 1) := by decide +kernel
theorem dX6_does_279 : decode cX6_does 279 = .ok (.getfield 19, 3) := by decide +kernel
theorem dX6_does_282 : decode cX6_does 282 = .ok (.iload 4, 2) := by decide +kernel
theorem dX6_does_284 : decode cX6_does 284 = .ok (.invokestatic 161, 3) := by decide +kernel
theorem dX6_does_287 : decode cX6_does 287 = .ok (.ifCond .eq 24, 3) := by decide +kernel
theorem dX6_does_290 : decode cX6_does 290 = .ok (.iload_n 3, 1) := by decide +kernel
theorem dX6_does_291 : decode cX6_does 291 = .ok (.ifCond .le 20, 3) := by decide +kernel
theorem dX6_does_294 : decode cX6_does 294 = .ok (.aload_n 0, 1) := by decide +kernel
theorem dX6_does_295 : decode cX6_does 295 = .ok (.getfield 19, 3) := by decide +kernel
theorem dX6_does_298 : decode cX6_does 298 = .ok (.iload 4, 2) := by decide +kernel
theorem dX6_does_300 : decode cX6_does 300 = .ok (.invokestatic 166, 3) := by decide +kernel
theorem dX6_does_303 : decode cX6_does 303 = .ok (.iload_n 3, 1) := by decide +kernel
theorem dX6_does_304 : decode cX6_does 304 = .ok (.if_icmp .ne 7, 3) := by decide +kernel
theorem dX6_does_307 : decode cX6_does 307 = .ok (.iconst 1, 1) := by decide +kernel
theorem dX6_does_308 : decode cX6_does 308 = .ok (.goto 4, 3) := by decide +kernel
theorem dX6_does_311 : decode cX6_does 311 = .ok (.iconst 0, 1) := by decide +kernel
theorem dX6_does_312 : decode cX6_does 312 = .ok (.ireturn, 1) := by decide +kernel
theorem dX6_does_313 : decode cX6_does 313 = .ok (.aload_n 0, 1) := by decide +kernel
theorem dX6_does_314 : decode cX6_does 314 = .ok (.getfield 19, 3) := by decide +kernel
theorem dX6_does_317 : decode cX6_does 317 = .ok (.iconst 1, 1) := by decide +kernel
theorem dX6_does_318 : decode cX6_does 318 = .ok (.iaload, 1) := by decide +kernel
theorem dX6_does_319 : decode cX6_does 319 = .ok (.iload_n 2, 1) := by decide +kernel
theorem dX6_does_320 : decode cX6_does 320 = .ok (.if_icmp .lt 7, 3) := by decide +kernel
theorem dX6_does_323 : decode cX6_does 323 = .ok (.iconst 1, 1) := by decide +kernel
theorem dX6_does_324 : decode cX6_does 324 = .ok (.goto 4, 3) := by decide +kernel
theorem dX6_does_327 : decode cX6_does 327 = .ok (.iconst 0, 1) := by decide +kernel
theorem dX6_does_328 : decode cX6_does 328 = .ok (.ireturn, 1) := by decide +kernel
theorem dX6_does_329 : decode cX6_does 329 = .ok (.iload_n 3, 1) := by decide +kernel
theorem dX6_does_330 : decode cX6_does 330 = .ok (.ifCond .ne 19, 3) := by decide +kernel
theorem dX6_does_333 : decode cX6_does 333 = .ok (.aload_n 0, 1) := by decide +kernel
theorem dX6_does_334 : decode cX6_does 334 = .ok (.getfield 19, 3) := by decide +kernel
theorem dX6_does_337 : decode cX6_does 337 = .ok (.invokestatic 91, 3) := by decide +kernel
theorem dX6_does_340 : decode cX6_does 340 = .ok (.iload 4, 2) := by decide +kernel
theorem dX6_does_342 : decode cX6_does 342 = .ok (.if_icmp .ne 7, 3) := by decide +kernel
theorem dX6_does_345 : decode cX6_does 345 = .ok (.iconst 1, 1) := by decide +kernel
theorem dX6_does_346 : decode cX6_does 346 = .ok (.goto 4, 3) := by decide +kernel
theorem dX6_does_349 : decode cX6_does 349 = .ok (.iconst 0, 1) := by decide +kernel
theorem dX6_does_350 : decode cX6_does 350 = .ok (.ireturn, 1) := by decide +kernel
theorem dX6_does_351 : decode cX6_does 351 = .ok (.iload_n 2, 1) := by decide +kernel
theorem dX6_does_352 : decode cX6_does 352 = .ok (.bipush 10, 2) := by decide +kernel
theorem dX6_does_354 : decode cX6_does 354 = .ok (.if_icmp .ge 18, 3) := by decide +kernel
theorem dX6_does_357 : decode cX6_does 357 = .ok (.aload_n 0, 1) := by decide +kernel
theorem dX6_does_358 : decode cX6_does 358 = .ok (.getfield 19, 3) := by decide +kernel
theorem dX6_does_361 : decode cX6_does 361 = .ok (.invokestatic 189, 3) := by decide +kernel
theorem dX6_does_364 : decode cX6_does 364 = .ok (.iload_n 2, 1) := by decide +kernel
theorem dX6_does_365 : decode cX6_does 365 = .ok (.if_icmp .ne 7, 3) := by decide +kernel
theorem dX6_does_368 : decode cX6_does 368 = .ok (.iconst 1, 1) := by decide +kernel
theorem dX6_does_369 : decode cX6_does 369 = .ok (.goto 4, 3) := by decide +kernel
theorem dX6_does_372 : decode cX6_does 372 = .ok (.iconst 0, 1) := by decide +kernel
theorem dX6_does_373 : decode cX6_does 373 = .ok (.ireturn, 1) := by decide +kernel
theorem dX6_does_374 : decode cX6_does 374 = .ok (.iconst 0, 1) := by decide +kernel
theorem dX6_does_375 : decode cX6_does 375 = .ok (.ireturn, 1) := by decide +kernel
set_option maxRecDepth 20000 in
theorem ggX6_runScript_X6_in : GoodIn wsX6_runScript wsX6_in := goodIn_r _ [11] (by decide +kernel) (by decide +kernel)
set_option maxRecDepth 20000 in
theorem gX6_runScript_X6_in : GoodIn wsX6_runScript (va_wsS RX6 51 yX6_in wsX6_in) := goodIn_app (goodIn_of _ (by decide +kernel)) ggX6_runScript_X6_in
set_option maxRecDepth 20000 in
theorem ggX6_runScript_X6_refused : GoodIn wsX6_runScript wsX6_refused := goodIn_r _ [15, 16, 99, 100, 101, 102, 103, 104, 105, 106, 107, 108, 109, 110, 111] (by decide +kernel) (by decide +kernel)
set_option maxRecDepth 20000 in
theorem gX6_runScript_X6_refused : GoodIn wsX6_runScript (wsV RX6 102 RX6 yX6_refused wsX6_refused) := goodIn_app (goodIn_of _ (by decide +kernel)) ggX6_runScript_X6_refused
set_option maxRecDepth 20000 in
theorem ggX6_runScript_X6_copyPage : GoodIn wsX6_runScript wsX6_copyPage := goodIn_r _ [19] (by decide +kernel) (by decide +kernel)
set_option maxRecDepth 20000 in
theorem gX6_runScript_X6_copyPage : GoodIn wsX6_runScript (va_wsS RX6 145 yX6_copyPage wsX6_copyPage) := goodIn_app (goodIn_of _ (by decide +kernel)) ggX6_runScript_X6_copyPage
set_option maxRecDepth 20000 in
theorem ggX6_runScript_X6_does : GoodIn wsX6_runScript wsX6_does := goodIn_r _ [23, 24, 7, 25, 26, 27, 8, 9, 10, 11, 28, 29, 30, 31, 32, 33, 34, 35, 36, 37, 38, 39, 40, 41, 42, 43, 44, 45, 46, 47, 48, 49, 50, 51, 52, 53, 54, 55, 56, 57, 58, 59, 60, 61, 62, 63, 64, 65, 66, 67, 68, 69, 70, 71, 72, 73, 74, 75, 76, 77, 78, 79, 80, 81, 82, 83, 84, 85, 86, 87, 88, 89, 90, 91, 92, 93, 94, 95, 96, 97, 98, 99, 100, 101, 102, 103, 104, 105, 106, 107, 108, 109, 110, 111] (by decide +kernel) (by decide +kernel)
set_option maxRecDepth 20000 in
theorem gX6_runScript_X6_does : GoodIn wsX6_runScript (wsV RX6 233 RX6 yX6_does wsX6_does) := goodIn_app (goodIn_of _ (by decide +kernel)) ggX6_runScript_X6_does
theorem dX6_runScript_0 : decode cX6_runScript 0 = .ok (.iload_n 1, 1) := by decide +kernel
theorem dX6_runScript_1 : decode cX6_runScript 1 = .ok (.iconst 1, 1) := by decide +kernel
theorem dX6_runScript_2 : decode cX6_runScript 2 = .ok (.if_icmp .ne 9, 3) := by decide +kernel
theorem dX6_runScript_5 : decode cX6_runScript 5 = .ok (.ldc2_w 223, 3) := by decide +kernel
theorem dX6_runScript_8 : decode cX6_runScript 8 = .ok (.goto 28, 3) := by decide +kernel
theorem dX6_runScript_11 : decode cX6_runScript 11 = .ok (.iload_n 1, 1) := by decide +kernel
theorem dX6_runScript_12 : decode cX6_runScript 12 = .ok (.iconst 2, 1) := by decide +kernel
theorem dX6_runScript_13 : decode cX6_runScript 13 = .ok (.if_icmp .ne 9, 3) := by decide +kernel
theorem dX6_runScript_16 : decode cX6_runScript 16 = .ok (.ldc2_w 225, 3) := by decide +kernel
theorem dX6_runScript_19 : decode cX6_runScript 19 = .ok (.goto 17, 3) := by decide +kernel
theorem dX6_runScript_22 : decode cX6_runScript 22 = .ok (.iload_n 1, 1) := by decide +kernel
theorem dX6_runScript_23 : decode cX6_runScript 23 = .ok (.iconst 3, 1) := by decide +kernel
theorem dX6_runScript_24 : decode cX6_runScript 24 = .ok (.if_icmp .ne 9, 3) := by decide +kernel
theorem dX6_runScript_27 : decode cX6_runScript 27 = .ok (.ldc2_w 227, 3) := by decide +kernel
theorem dX6_runScript_30 : decode cX6_runScript 30 = .ok (.goto 6, 3) := by decide +kernel
theorem dX6_runScript_33 : decode cX6_runScript 33 = .ok (.ldc2_w 229, 3) := by decide +kernel
theorem dX6_runScript_36 : decode cX6_runScript 36 = .ok (.lstore 4, 2) := by decide +kernel
theorem dX6_runScript_38 : decode cX6_runScript 38 = .ok (.aload_n 0, 1) := by decide +kernel
theorem dX6_runScript_39 : decode cX6_runScript 39 = .ok (.iload_n 1, 1) := by decide +kernel
theorem dX6_runScript_40 : decode cX6_runScript 40 = .ok (.i2l, 1) := by decide +kernel
theorem dX6_runScript_41 : decode cX6_runScript 41 = .ok (.lconst 1, 1) := by decide +kernel
theorem dX6_runScript_42 : decode cX6_runScript 42 = .ok (.ldc2_w 231, 3) := by decide +kernel
theorem dX6_runScript_45 : decode cX6_runScript 45 = .ok (.invokestatic 51, 3) := by decide +kernel
theorem dX6_runScript_48 : decode cX6_runScript 48 = .ok (.ifCond .eq 19, 3) := by decide +kernel
theorem dX6_runScript_51 : decode cX6_runScript 51 = .ok (.lload_n 2, 1) := by decide +kernel
theorem dX6_runScript_52 : decode cX6_runScript 52 = .ok (.lconst 0, 1) := by decide +kernel
theorem dX6_runScript_53 : decode cX6_runScript 53 = .ok (.lload 4, 2) := by decide +kernel
theorem dX6_runScript_55 : decode cX6_runScript 55 = .ok (.lconst 1, 1) := by decide +kernel
theorem dX6_runScript_56 : decode cX6_runScript 56 = .ok (.lsub, 1) := by decide +kernel
theorem dX6_runScript_57 : decode cX6_runScript 57 = .ok (.invokestatic 51, 3) := by decide +kernel
theorem dX6_runScript_60 : decode cX6_runScript 60 = .ok (.ifCond .eq 7, 3) := by decide +kernel
theorem dX6_runScript_63 : decode cX6_runScript 63 = .ok (.iconst 0, 1) := by decide +kernel
theorem dX6_runScript_64 : decode cX6_runScript 64 = .ok (.goto 4, 3) := by decide +kernel
theorem dX6_runScript_67 : decode cX6_runScript 67 = .ok (.iconst 1, 1) := by decide +kernel
theorem dX6_runScript_68 : decode cX6_runScript 68 = .ok (.invokevirtual 102, 3) := by decide +kernel
theorem dX6_runScript_71 : decode cX6_runScript 71 = .ok (.ifCond .eq 5, 3) := by decide +kernel
theorem dX6_runScript_74 : decode cX6_runScript 74 = .ok (.iconst 0, 1) := by decide +kernel
theorem dX6_runScript_75 : decode cX6_runScript 75 = .ok (.ireturn, 1) := by decide +kernel
theorem dX6_runScript_76 : decode cX6_runScript 76 = .ok (.aload_n 0, 1) := by decide +kernel
theorem dX6_runScript_77 : decode cX6_runScript 77 = .ok (.getfield 16, 3) := by decide +kernel
theorem dX6_runScript_80 : decode cX6_runScript 80 = .ok (.iconst 0, 1) := by decide +kernel
theorem dX6_runScript_81 : decode cX6_runScript 81 = .ok (.aload_n 0, 1) := by decide +kernel
theorem dX6_runScript_82 : decode cX6_runScript 82 = .ok (.getfield 19, 3) := by decide +kernel
theorem dX6_runScript_85 : decode cX6_runScript 85 = .ok (.iconst 0, 1) := by decide +kernel
theorem dX6_runScript_86 : decode cX6_runScript 86 = .ok (.invokestatic 145, 3) := by decide +kernel
theorem dX6_runScript_89 : decode cX6_runScript 89 = .ok (.lload_n 2, 1) := by decide +kernel
theorem dX6_runScript_90 : decode cX6_runScript 90 = .ok (.lstore 6, 2) := by decide +kernel
theorem dX6_runScript_92 : decode cX6_runScript 92 = .ok (.iconst 0, 1) := by decide +kernel
theorem dX6_runScript_93 : decode cX6_runScript 93 = .ok (.istore 8, 2) := by decide +kernel
theorem dX6_runScript_95 : decode cX6_runScript 95 = .ok (.iload 8, 2) := by decide +kernel
theorem dX6_runScript_97 : decode cX6_runScript 97 = .ok (.iload_n 1, 1) := by decide +kernel
theorem dX6_runScript_98 : decode cX6_runScript 98 = .ok (.if_icmp .ge 54, 3) := by decide +kernel
theorem dX6_runScript_101 : decode cX6_runScript 101 = .ok (.lload 4, 2) := by decide +kernel
theorem dX6_runScript_103 : decode cX6_runScript 103 = .ok (.ldc2_w 223, 3) := by decide +kernel
theorem dX6_runScript_106 : decode cX6_runScript 106 = .ok (.ldiv, 1) := by decide +kernel
theorem dX6_runScript_107 : decode cX6_runScript 107 = .ok (.lstore 4, 2) := by decide +kernel
theorem dX6_runScript_109 : decode cX6_runScript 109 = .ok (.lload 6, 2) := by decide +kernel
theorem dX6_runScript_111 : decode cX6_runScript 111 = .ok (.lload 4, 2) := by decide +kernel
theorem dX6_runScript_113 : decode cX6_runScript 113 = .ok (.ldiv, 1) := by decide +kernel
theorem dX6_runScript_114 : decode cX6_runScript 114 = .ok (.l2i, 1) := by decide +kernel
theorem dX6_runScript_115 : decode cX6_runScript 115 = .ok (.istore 9, 2) := by decide +kernel
theorem dX6_runScript_117 : decode cX6_runScript 117 = .ok (.lload 6, 2) := by decide +kernel
theorem dX6_runScript_119 : decode cX6_runScript 119 = .ok (.lload 4, 2) := by decide +kernel
theorem dX6_runScript_121 : decode cX6_runScript 121 = .ok (.lrem, 1) := by decide +kernel
theorem dX6_runScript_122 : decode cX6_runScript 122 = .ok (.lstore 6, 2) := by decide +kernel
theorem dX6_runScript_124 : decode cX6_runScript 124 = .ok (.aload_n 0, 1) := by decide +kernel
theorem dX6_runScript_125 : decode cX6_runScript 125 = .ok (.iload 9, 2) := by decide +kernel
theorem dX6_runScript_127 : decode cX6_runScript 127 = .ok (.sipush 1000, 3) := by decide +kernel
theorem dX6_runScript_130 : decode cX6_runScript 130 = .ok (.idiv, 1) := by decide +kernel
theorem dX6_runScript_131 : decode cX6_runScript 131 = .ok (.iload 9, 2) := by decide +kernel
theorem dX6_runScript_133 : decode cX6_runScript 133 = .ok (.sipush 1000, 3) := by decide +kernel
theorem dX6_runScript_136 : decode cX6_runScript 136 = .ok (.irem, 1) := by decide +kernel
theorem dX6_runScript_137 : decode cX6_runScript 137 = .ok (.invokevirtual 233, 3) := by decide +kernel
theorem dX6_runScript_140 : decode cX6_runScript 140 = .ok (.ifCond .ne 6, 3) := by decide +kernel
theorem dX6_runScript_143 : decode cX6_runScript 143 = .ok (.iload 8, 2) := by decide +kernel
theorem dX6_runScript_145 : decode cX6_runScript 145 = .ok (.ireturn, 1) := by decide +kernel
theorem dX6_runScript_146 : decode cX6_runScript 146 = .ok (.iinc 8 1, 3) := by decide +kernel
theorem dX6_runScript_149 : decode cX6_runScript 149 = .ok (.goto (-54), 3) := by decide +kernel
theorem dX6_runScript_152 : decode cX6_runScript 152 = .ok (.bipush (-9), 2) := by decide +kernel
theorem dX6_runScript_154 : decode cX6_runScript 154 = .ok (.ireturn, 1) := by decide +kernel
set_option maxRecDepth 20000 in
theorem ggX6_pointsBy_X6_worth : GoodIn wsX6_pointsBy wsX6_worth := goodIn_r _ [5] (by decide +kernel) (by decide +kernel)
set_option maxRecDepth 20000 in
theorem gX6_pointsBy_X6_worth : GoodIn wsX6_pointsBy (va_wsS RX6 57 yX6_worth wsX6_worth) := goodIn_app (goodIn_of _ (by decide +kernel)) ggX6_pointsBy_X6_worth
theorem dX6_pointsBy_0 : decode cX6_pointsBy 0 = .ok (.lconst 0, 1) := by decide +kernel
theorem dX6_pointsBy_1 : decode cX6_pointsBy 1 = .ok (.lstore_n 1, 1) := by decide +kernel
theorem dX6_pointsBy_2 : decode cX6_pointsBy 2 = .ok (.iconst 0, 1) := by decide +kernel
theorem dX6_pointsBy_3 : decode cX6_pointsBy 3 = .ok (.istore_n 3, 1) := by decide +kernel
theorem dX6_pointsBy_4 : decode cX6_pointsBy 4 = .ok (.iload_n 3, 1) := by decide +kernel
theorem dX6_pointsBy_5 : decode cX6_pointsBy 5 = .ok (.bipush 6, 2) := by decide +kernel
theorem dX6_pointsBy_7 : decode cX6_pointsBy 7 = .ok (.if_icmp .ge 25, 3) := by decide +kernel
theorem dX6_pointsBy_10 : decode cX6_pointsBy 10 = .ok (.ldc2_w 95, 3) := by decide +kernel
theorem dX6_pointsBy_13 : decode cX6_pointsBy 13 = .ok (.lload_n 1, 1) := by decide +kernel
theorem dX6_pointsBy_14 : decode cX6_pointsBy 14 = .ok (.lmul, 1) := by decide +kernel
theorem dX6_pointsBy_15 : decode cX6_pointsBy 15 = .ok (.iload_n 0, 1) := by decide +kernel
theorem dX6_pointsBy_16 : decode cX6_pointsBy 16 = .ok (.iload_n 3, 1) := by decide +kernel
theorem dX6_pointsBy_17 : decode cX6_pointsBy 17 = .ok (.invokestatic 57, 3) := by decide +kernel
theorem dX6_pointsBy_20 : decode cX6_pointsBy 20 = .ok (.iconst 1, 1) := by decide +kernel
theorem dX6_pointsBy_21 : decode cX6_pointsBy 21 = .ok (.iadd, 1) := by decide +kernel
theorem dX6_pointsBy_22 : decode cX6_pointsBy 22 = .ok (.irem, 1) := by decide +kernel
theorem dX6_pointsBy_23 : decode cX6_pointsBy 23 = .ok (.i2l, 1) := by decide +kernel
theorem dX6_pointsBy_24 : decode cX6_pointsBy 24 = .ok (.ladd, 1) := by decide +kernel
theorem dX6_pointsBy_25 : decode cX6_pointsBy 25 = .ok (.lstore_n 1, 1) := by decide +kernel
theorem dX6_pointsBy_26 : decode cX6_pointsBy 26 = .ok (.iinc 3 1, 3) := by decide +kernel
theorem dX6_pointsBy_29 : decode cX6_pointsBy 29 = .ok (.goto (-25), 3) := by decide +kernel
theorem dX6_pointsBy_32 : decode cX6_pointsBy 32 = .ok (.lload_n 1, 1) := by decide +kernel
theorem dX6_pointsBy_33 : decode cX6_pointsBy 33 = .ok (.lreturn, 1) := by decide +kernel
set_option maxRecDepth 20000 in
theorem ggX6_round_X6_why : GoodIn wsX6_round wsX6_why := goodIn_r _ [5, 6, 7, 4, 8, 9, 10, 11, 12, 13, 14, 15, 16, 17] (by decide +kernel) (by decide +kernel)
set_option maxRecDepth 20000 in
theorem gX6_round_X6_why : GoodIn wsX6_round (va_wsS RX6 189 yX6_why wsX6_why) := goodIn_app (goodIn_of _ (by decide +kernel)) ggX6_round_X6_why
set_option maxRecDepth 20000 in
theorem ggX6_round_X6_nextOn : GoodIn wsX6_round wsX6_nextOn := goodIn_r _ [20] (by decide +kernel) (by decide +kernel)
set_option maxRecDepth 20000 in
theorem gX6_round_X6_nextOn : GoodIn wsX6_round (va_wsS RX6 209 yX6_nextOn wsX6_nextOn) := goodIn_app (goodIn_of _ (by decide +kernel)) ggX6_round_X6_nextOn
set_option maxRecDepth 20000 in
theorem ggX6_round_X6_firstOf : GoodIn wsX6_round wsX6_firstOf := goodIn_r _ [24, 25, 26, 27, 28, 29, 4, 30, 15, 16, 17, 31, 32, 33, 34, 12, 13, 14, 35, 36, 37, 38, 52, 53, 54, 55, 56, 57, 58, 59, 60, 61, 62, 63, 64] (by decide +kernel) (by decide +kernel)
set_option maxRecDepth 20000 in
theorem gX6_round_X6_firstOf : GoodIn wsX6_round (wsV RX6 192 RX6 yX6_firstOf wsX6_firstOf) := goodIn_app (goodIn_of _ (by decide +kernel)) ggX6_round_X6_firstOf
set_option maxRecDepth 20000 in
theorem ggX6_round_X6_pointsBy : GoodIn wsX6_round wsX6_pointsBy := goodIn_r _ [41, 42, 43, 44, 4, 45] (by decide +kernel) (by decide +kernel)
set_option maxRecDepth 20000 in
theorem gX6_round_X6_pointsBy : GoodIn wsX6_round (va_wsS RX6 237 yX6_pointsBy wsX6_pointsBy) := goodIn_app (goodIn_of _ (by decide +kernel)) ggX6_round_X6_pointsBy
set_option maxRecDepth 20000 in
theorem ggX6_round_X6_runOn : GoodIn wsX6_round wsX6_runOn := goodIn_r _ [48, 42, 15, 16, 4, 17] (by decide +kernel) (by decide +kernel)
set_option maxRecDepth 20000 in
theorem gX6_round_X6_runOn : GoodIn wsX6_round (va_wsS RX6 195 yX6_runOn wsX6_runOn) := goodIn_app (goodIn_of _ (by decide +kernel)) ggX6_round_X6_runOn
set_option maxRecDepth 20000 in
theorem ggX6_round_X6_stateOf : GoodIn wsX6_round wsX6_stateOf := goodIn_r _ [14, 15, 16, 4, 17] (by decide +kernel) (by decide +kernel)
set_option maxRecDepth 20000 in
theorem gX6_round_X6_stateOf : GoodIn wsX6_round (va_wsS RX6 47 yX6_stateOf wsX6_stateOf) := goodIn_app (goodIn_of _ (by decide +kernel)) ggX6_round_X6_stateOf
set_option maxRecDepth 20000 in
theorem ggX6_round_X6_breakOn : GoodIn wsX6_round wsX6_breakOn := goodIn_r _ [51, 15, 16, 4, 17] (by decide +kernel) (by decide +kernel)
set_option maxRecDepth 20000 in
theorem gX6_round_X6_breakOn : GoodIn wsX6_round (va_wsS RX6 199 yX6_breakOn wsX6_breakOn) := goodIn_app (goodIn_of _ (by decide +kernel)) ggX6_round_X6_breakOn
theorem dX6_round_0 : decode cX6_round 0 = .ok (.aload_n 0, 1) := by decide +kernel
theorem dX6_round_1 : decode cX6_round 1 = .ok (.getfield 19, 3) := by decide +kernel
theorem dX6_round_4 : decode cX6_round 4 = .ok (.invokestatic 189, 3) := by decide +kernel
theorem dX6_round_7 : decode cX6_round 7 = .ok (.istore_n 2, 1) := by decide +kernel
theorem dX6_round_8 : decode cX6_round 8 = .ok (.iload_n 2, 1) := by decide +kernel
theorem dX6_round_9 : decode cX6_round 9 = .ok (.iconst 2, 1) := by decide +kernel
theorem dX6_round_10 : decode cX6_round 10 = .ok (.if_icmp .ne 24, 3) := by decide +kernel
theorem dX6_round_13 : decode cX6_round 13 = .ok (.aload_n 0, 1) := by decide +kernel
theorem dX6_round_14 : decode cX6_round 14 = .ok (.getfield 19, 3) := by decide +kernel
theorem dX6_round_17 : decode cX6_round 17 = .ok (.bipush 60, 2) := by decide +kernel
theorem dX6_round_19 : decode cX6_round 19 = .ok (.iload_n 1, 1) := by decide +kernel
theorem dX6_round_20 : decode cX6_round 20 = .ok (.bipush 8, 2) := by decide +kernel
theorem dX6_round_22 : decode cX6_round 22 = .ok (.idiv, 1) := by decide +kernel
theorem dX6_round_23 : decode cX6_round 23 = .ok (.sipush 541, 3) := by decide +kernel
theorem dX6_round_26 : decode cX6_round 26 = .ok (.irem, 1) := by decide +kernel
theorem dX6_round_27 : decode cX6_round 27 = .ok (.iadd, 1) := by decide +kernel
theorem dX6_round_28 : decode cX6_round 28 = .ok (.invokestatic 209, 3) := by decide +kernel
theorem dX6_round_31 : decode cX6_round 31 = .ok (.goto 94, 3) := by decide +kernel
theorem dX6_round_34 : decode cX6_round 34 = .ok (.iload_n 2, 1) := by decide +kernel
theorem dX6_round_35 : decode cX6_round 35 = .ok (.ifCond .ne 39, 3) := by decide +kernel
theorem dX6_round_38 : decode cX6_round 38 = .ok (.aload_n 0, 1) := by decide +kernel
theorem dX6_round_39 : decode cX6_round 39 = .ok (.getfield 19, 3) := by decide +kernel
theorem dX6_round_42 : decode cX6_round 42 = .ok (.aload_n 0, 1) := by decide +kernel
theorem dX6_round_43 : decode cX6_round 43 = .ok (.aload_n 0, 1) := by decide +kernel
theorem dX6_round_44 : decode cX6_round 44 = .ok (.getfield 19, 3) := by decide +kernel
theorem dX6_round_47 : decode cX6_round 47 = .ok (.invokevirtual 192, 3) := by decide +kernel
theorem dX6_round_50 : decode cX6_round 50 = .ok (.iload_n 1, 1) := by decide +kernel
theorem dX6_round_51 : decode cX6_round 51 = .ok (.sipush 256, 3) := by decide +kernel
theorem dX6_round_54 : decode cX6_round 54 = .ok (.idiv, 1) := by decide +kernel
theorem dX6_round_55 : decode cX6_round 55 = .ok (.invokestatic 237, 3) := by decide +kernel
theorem dX6_round_58 : decode cX6_round 58 = .ok (.iconst 1, 1) := by decide +kernel
theorem dX6_round_59 : decode cX6_round 59 = .ok (.iload_n 1, 1) := by decide +kernel
theorem dX6_round_60 : decode cX6_round 60 = .ok (.bipush 8, 2) := by decide +kernel
theorem dX6_round_62 : decode cX6_round 62 = .ok (.idiv, 1) := by decide +kernel
theorem dX6_round_63 : decode cX6_round 63 = .ok (.bipush 30, 2) := by decide +kernel
theorem dX6_round_65 : decode cX6_round 65 = .ok (.irem, 1) := by decide +kernel
theorem dX6_round_66 : decode cX6_round 66 = .ok (.iadd, 1) := by decide +kernel
theorem dX6_round_67 : decode cX6_round 67 = .ok (.invokestatic 195, 3) := by decide +kernel
theorem dX6_round_70 : decode cX6_round 70 = .ok (.pop, 1) := by decide +kernel
theorem dX6_round_71 : decode cX6_round 71 = .ok (.goto 54, 3) := by decide +kernel
theorem dX6_round_74 : decode cX6_round 74 = .ok (.aload_n 0, 1) := by decide +kernel
theorem dX6_round_75 : decode cX6_round 75 = .ok (.getfield 19, 3) := by decide +kernel
theorem dX6_round_78 : decode cX6_round 78 = .ok (.bipush 7, 2) := by decide +kernel
theorem dX6_round_80 : decode cX6_round 80 = .ok (.iaload, 1) := by decide +kernel
theorem dX6_round_81 : decode cX6_round 81 = .ok (.ifCond .le 44, 3) := by decide +kernel
theorem dX6_round_84 : decode cX6_round 84 = .ok (.iload_n 1, 1) := by decide +kernel
theorem dX6_round_85 : decode cX6_round 85 = .ok (.bipush 8, 2) := by decide +kernel
theorem dX6_round_87 : decode cX6_round 87 = .ok (.idiv, 1) := by decide +kernel
theorem dX6_round_88 : decode cX6_round 88 = .ok (.aload_n 0, 1) := by decide +kernel
theorem dX6_round_89 : decode cX6_round 89 = .ok (.getfield 19, 3) := by decide +kernel
theorem dX6_round_92 : decode cX6_round 92 = .ok (.bipush 7, 2) := by decide +kernel
theorem dX6_round_94 : decode cX6_round 94 = .ok (.iaload, 1) := by decide +kernel
theorem dX6_round_95 : decode cX6_round 95 = .ok (.irem, 1) := by decide +kernel
theorem dX6_round_96 : decode cX6_round 96 = .ok (.istore_n 3, 1) := by decide +kernel
theorem dX6_round_97 : decode cX6_round 97 = .ok (.aload_n 0, 1) := by decide +kernel
theorem dX6_round_98 : decode cX6_round 98 = .ok (.getfield 19, 3) := by decide +kernel
theorem dX6_round_101 : decode cX6_round 101 = .ok (.iload_n 3, 1) := by decide +kernel
theorem dX6_round_102 : decode cX6_round 102 = .ok (.invokestatic 47, 3) := by decide +kernel
theorem dX6_round_105 : decode cX6_round 105 = .ok (.iconst 1, 1) := by decide +kernel
theorem dX6_round_106 : decode cX6_round 106 = .ok (.if_icmp .ne 19, 3) := by decide +kernel
theorem dX6_round_109 : decode cX6_round 109 = .ok (.aload_n 0, 1) := by decide +kernel
theorem dX6_round_110 : decode cX6_round 110 = .ok (.getfield 19, 3) := by decide +kernel
theorem dX6_round_113 : decode cX6_round 113 = .ok (.iload_n 3, 1) := by decide +kernel
theorem dX6_round_114 : decode cX6_round 114 = .ok (.iload_n 1, 1) := by decide +kernel
theorem dX6_round_115 : decode cX6_round 115 = .ok (.sipush 128, 3) := by decide +kernel
theorem dX6_round_118 : decode cX6_round 118 = .ok (.idiv, 1) := by decide +kernel
theorem dX6_round_119 : decode cX6_round 119 = .ok (.bipush 6, 2) := by decide +kernel
theorem dX6_round_121 : decode cX6_round 121 = .ok (.irem, 1) := by decide +kernel
theorem dX6_round_122 : decode cX6_round 122 = .ok (.invokestatic 199, 3) := by decide +kernel
theorem dX6_round_125 : decode cX6_round 125 = .ok (.return_, 1) := by decide +kernel
set_option maxRecDepth 20000 in
theorem ggX6_simulate_X6_in : GoodIn wsX6_simulate wsX6_in := goodIn_r _ [9] (by decide +kernel) (by decide +kernel)
set_option maxRecDepth 20000 in
theorem gX6_simulate_X6_in : GoodIn wsX6_simulate (va_wsS RX6 51 yX6_in wsX6_in) := goodIn_app (goodIn_of _ (by decide +kernel)) ggX6_simulate_X6_in
set_option maxRecDepth 20000 in
theorem ggX6_simulate_X6_refused : GoodIn wsX6_simulate wsX6_refused := goodIn_r _ [13, 14, 80, 81, 82, 83, 84, 85, 86, 87, 88, 89, 90, 91, 92] (by decide +kernel) (by decide +kernel)
set_option maxRecDepth 20000 in
theorem gX6_simulate_X6_refused : GoodIn wsX6_simulate (wsV RX6 102 RX6 yX6_refused wsX6_refused) := goodIn_app (goodIn_of _ (by decide +kernel)) ggX6_simulate_X6_refused
set_option maxRecDepth 20000 in
theorem ggX6_simulate_X6_copyPage : GoodIn wsX6_simulate wsX6_copyPage := goodIn_r _ [17] (by decide +kernel) (by decide +kernel)
set_option maxRecDepth 20000 in
theorem gX6_simulate_X6_copyPage : GoodIn wsX6_simulate (va_wsS RX6 145 yX6_copyPage wsX6_copyPage) := goodIn_app (goodIn_of _ (by decide +kernel)) ggX6_simulate_X6_copyPage
set_option maxRecDepth 20000 in
theorem ggX6_simulate_X6_round : GoodIn wsX6_simulate wsX6_round := goodIn_r _ [21, 3, 22, 23, 8, 24, 25, 26, 27, 28, 29, 30, 31, 32, 33, 34, 35, 36, 37, 38, 39, 40, 41, 42, 43, 44, 45, 46, 47, 48, 49, 50, 51, 52, 53, 54, 55, 56, 57, 58, 59, 60, 61, 62, 63, 64, 65, 66, 67, 68, 69, 70, 80, 81, 82, 83, 84, 85, 86, 87, 88, 89, 90, 91, 92] (by decide +kernel) (by decide +kernel)
set_option maxRecDepth 20000 in
theorem gX6_simulate_X6_round : GoodIn wsX6_simulate (wsV RX6 245 RX6 yX6_round wsX6_round) := goodIn_app (goodIn_of _ (by decide +kernel)) ggX6_simulate_X6_round
set_option maxRecDepth 20000 in
theorem ggX6_simulate_X6_score : GoodIn wsX6_simulate wsX6_score := goodIn_r _ [73, 74, 75, 8, 76, 34, 35, 36, 77, 78, 79, 62, 63, 64] (by decide +kernel) (by decide +kernel)
set_option maxRecDepth 20000 in
theorem gX6_simulate_X6_score : GoodIn wsX6_simulate (va_wsS RX6 68 yX6_score wsX6_score) := goodIn_app (goodIn_of _ (by decide +kernel)) ggX6_simulate_X6_score
theorem dX6_simulate_0 : decode cX6_simulate 0 = .ok (.aload_n 0, 1) := by decide +kernel
theorem dX6_simulate_1 : decode cX6_simulate 1 = .ok (.iload_n 3, 1) := by decide +kernel
theorem dX6_simulate_2 : decode cX6_simulate 2 = .ok (.i2l, 1) := by decide +kernel
theorem dX6_simulate_3 : decode cX6_simulate 3 = .ok (.lconst 1, 1) := by decide +kernel
theorem dX6_simulate_4 : decode cX6_simulate 4 = .ok (.ldc2_w 114, 3) := by decide +kernel
theorem dX6_simulate_7 : decode cX6_simulate 7 = .ok (.invokestatic 51, 3) := by decide +kernel
theorem dX6_simulate_10 : decode cX6_simulate 10 = .ok (.ifCond .eq 7, 3) := by decide +kernel
theorem dX6_simulate_13 : decode cX6_simulate 13 = .ok (.iconst 0, 1) := by decide +kernel
theorem dX6_simulate_14 : decode cX6_simulate 14 = .ok (.goto 4, 3) := by decide +kernel
theorem dX6_simulate_17 : decode cX6_simulate 17 = .ok (.iconst 1, 1) := by decide +kernel
theorem dX6_simulate_18 : decode cX6_simulate 18 = .ok (.invokevirtual 102, 3) := by decide +kernel
theorem dX6_simulate_21 : decode cX6_simulate 21 = .ok (.ifCond .eq 5, 3) := by decide +kernel
theorem dX6_simulate_24 : decode cX6_simulate 24 = .ok (.iconst 0, 1) := by decide +kernel
theorem dX6_simulate_25 : decode cX6_simulate 25 = .ok (.ireturn, 1) := by decide +kernel
theorem dX6_simulate_26 : decode cX6_simulate 26 = .ok (.aload_n 0, 1) := by decide +kernel
theorem dX6_simulate_27 : decode cX6_simulate 27 = .ok (.getfield 16, 3) := by decide +kernel
theorem dX6_simulate_30 : decode cX6_simulate 30 = .ok (.iconst 0, 1) := by decide +kernel
theorem dX6_simulate_31 : decode cX6_simulate 31 = .ok (.aload_n 0, 1) := by decide +kernel
theorem dX6_simulate_32 : decode cX6_simulate 32 = .ok (.getfield 19, 3) := by decide +kernel
theorem dX6_simulate_35 : decode cX6_simulate 35 = .ok (.iconst 0, 1) := by decide +kernel
theorem dX6_simulate_36 : decode cX6_simulate 36 = .ok (.invokestatic 145, 3) := by decide +kernel
theorem dX6_simulate_39 : decode cX6_simulate 39 = .ok (.lload_n 1, 1) := by decide +kernel
theorem dX6_simulate_40 : decode cX6_simulate 40 = .ok (.lstore 4, 2) := by decide +kernel
theorem dX6_simulate_42 : decode cX6_simulate 42 = .ok (.iconst 0, 1) := by decide +kernel
theorem dX6_simulate_43 : decode cX6_simulate 43 = .ok (.istore 6, 2) := by decide +kernel
theorem dX6_simulate_45 : decode cX6_simulate 45 = .ok (.iload 6, 2) := by decide +kernel
theorem dX6_simulate_47 : decode cX6_simulate 47 = .ok (.iload_n 3, 1) := by decide +kernel
theorem dX6_simulate_48 : decode cX6_simulate 48 = .ok (.if_icmp .ge 31, 3) := by decide +kernel
theorem dX6_simulate_51 : decode cX6_simulate 51 = .ok (.lload 4, 2) := by decide +kernel
theorem dX6_simulate_53 : decode cX6_simulate 53 = .ok (.ldc2_w 241, 3) := by decide +kernel
theorem dX6_simulate_56 : decode cX6_simulate 56 = .ok (.lmul, 1) := by decide +kernel
theorem dX6_simulate_57 : decode cX6_simulate 57 = .ok (.ldc2_w 243, 3) := by decide +kernel
theorem dX6_simulate_60 : decode cX6_simulate 60 = .ok (.ladd, 1) := by decide +kernel
theorem dX6_simulate_61 : decode cX6_simulate 61 = .ok (.lstore 4, 2) := by decide +kernel
theorem dX6_simulate_63 : decode cX6_simulate 63 = .ok (.aload_n 0, 1) := by decide +kernel
theorem dX6_simulate_64 : decode cX6_simulate 64 = .ok (.lload 4, 2) := by decide +kernel
theorem dX6_simulate_66 : decode cX6_simulate 66 = .ok (.bipush 33, 2) := by decide +kernel
theorem dX6_simulate_68 : decode cX6_simulate 68 = .ok (.lushr, 1) := by decide +kernel
theorem dX6_simulate_69 : decode cX6_simulate 69 = .ok (.l2i, 1) := by decide +kernel
theorem dX6_simulate_70 : decode cX6_simulate 70 = .ok (.invokevirtual 245, 3) := by decide +kernel
theorem dX6_simulate_73 : decode cX6_simulate 73 = .ok (.iinc 6 1, 3) := by decide +kernel
theorem dX6_simulate_76 : decode cX6_simulate 76 = .ok (.goto (-31), 3) := by decide +kernel
theorem dX6_simulate_79 : decode cX6_simulate 79 = .ok (.sipush 1000, 3) := by decide +kernel
theorem dX6_simulate_82 : decode cX6_simulate 82 = .ok (.aload_n 0, 1) := by decide +kernel
theorem dX6_simulate_83 : decode cX6_simulate 83 = .ok (.getfield 19, 3) := by decide +kernel
theorem dX6_simulate_86 : decode cX6_simulate 86 = .ok (.iconst 0, 1) := by decide +kernel
theorem dX6_simulate_87 : decode cX6_simulate 87 = .ok (.iaload, 1) := by decide +kernel
theorem dX6_simulate_88 : decode cX6_simulate 88 = .ok (.imul, 1) := by decide +kernel
theorem dX6_simulate_89 : decode cX6_simulate 89 = .ok (.istore 6, 2) := by decide +kernel
theorem dX6_simulate_91 : decode cX6_simulate 91 = .ok (.iconst 0, 1) := by decide +kernel
theorem dX6_simulate_92 : decode cX6_simulate 92 = .ok (.istore 7, 2) := by decide +kernel
theorem dX6_simulate_94 : decode cX6_simulate 94 = .ok (.iload 7, 2) := by decide +kernel
theorem dX6_simulate_96 : decode cX6_simulate 96 = .ok (.aload_n 0, 1) := by decide +kernel
theorem dX6_simulate_97 : decode cX6_simulate 97 = .ok (.getfield 19, 3) := by decide +kernel
theorem dX6_simulate_100 : decode cX6_simulate 100 = .ok (.bipush 7, 2) := by decide +kernel
theorem dX6_simulate_102 : decode cX6_simulate 102 = .ok (.iaload, 1) := by decide +kernel
theorem dX6_simulate_103 : decode cX6_simulate 103 = .ok (.if_icmp .ge 23, 3) := by decide +kernel
theorem dX6_simulate_106 : decode cX6_simulate 106 = .ok (.iload 6, 2) := by decide +kernel
theorem dX6_simulate_108 : decode cX6_simulate 108 = .ok (.aload_n 0, 1) := by decide +kernel
theorem dX6_simulate_109 : decode cX6_simulate 109 = .ok (.getfield 19, 3) := by decide +kernel
theorem dX6_simulate_112 : decode cX6_simulate 112 = .ok (.iload 7, 2) := by decide +kernel
theorem dX6_simulate_114 : decode cX6_simulate 114 = .ok (.invokestatic 68, 3) := by decide +kernel
theorem dX6_simulate_117 : decode cX6_simulate 117 = .ok (.iadd, 1) := by decide +kernel
theorem dX6_simulate_118 : decode cX6_simulate 118 = .ok (.istore 6, 2) := by decide +kernel
theorem dX6_simulate_120 : decode cX6_simulate 120 = .ok (.iinc 7 1, 3) := by decide +kernel
theorem dX6_simulate_123 : decode cX6_simulate 123 = .ok (.goto (-29), 3) := by decide +kernel
theorem dX6_simulate_126 : decode cX6_simulate 126 = .ok (.iload 6, 2) := by decide +kernel
theorem dX6_simulate_128 : decode cX6_simulate 128 = .ok (.ireturn, 1) := by decide +kernel
set_option maxRecDepth 20000 in
theorem ggX6_save_X6_in : GoodIn wsX6_save wsX6_in := goodIn_r _ [7] (by decide +kernel) (by decide +kernel)
set_option maxRecDepth 20000 in
theorem gX6_save_X6_in : GoodIn wsX6_save (va_wsS RX6 51 yX6_in wsX6_in) := goodIn_app (goodIn_of _ (by decide +kernel)) ggX6_save_X6_in
set_option maxRecDepth 20000 in
theorem ggX6_save_X6_refused : GoodIn wsX6_save wsX6_refused := goodIn_r _ [11, 12, 25, 26, 27, 28, 29, 30, 31, 32, 33, 34, 35, 36, 37] (by decide +kernel) (by decide +kernel)
set_option maxRecDepth 20000 in
theorem gX6_save_X6_refused : GoodIn wsX6_save (wsV RX6 102 RX6 yX6_refused wsX6_refused) := goodIn_app (goodIn_of _ (by decide +kernel)) ggX6_save_X6_refused
set_option maxRecDepth 20000 in
theorem ggX6_save_X6_copyPage : GoodIn wsX6_save wsX6_copyPage := goodIn_r _ [15] (by decide +kernel) (by decide +kernel)
set_option maxRecDepth 20000 in
theorem gX6_save_X6_copyPage : GoodIn wsX6_save (va_wsS RX6 145 yX6_copyPage wsX6_copyPage) := goodIn_app (goodIn_of _ (by decide +kernel)) ggX6_save_X6_copyPage
set_option maxRecDepth 20000 in
theorem ggX6_save_X6_runners : GoodIn wsX6_save wsX6_runners := goodIn_r _ [18, 19, 20, 6, 21, 22, 23, 24] (by decide +kernel) (by decide +kernel)
set_option maxRecDepth 20000 in
theorem gX6_save_X6_runners : GoodIn wsX6_save (va_wsS RX6 154 yX6_runners wsX6_runners) := goodIn_app (goodIn_of _ (by decide +kernel)) ggX6_save_X6_runners
theorem dX6_save_0 : decode cX6_save 0 = .ok (.aload_n 0, 1) := by decide +kernel
theorem dX6_save_1 : decode cX6_save 1 = .ok (.iload_n 1, 1) := by decide +kernel
theorem dX6_save_2 : decode cX6_save 2 = .ok (.i2l, 1) := by decide +kernel
theorem dX6_save_3 : decode cX6_save 3 = .ok (.lconst 0, 1) := by decide +kernel
theorem dX6_save_4 : decode cX6_save 4 = .ok (.lconst 1, 1) := by decide +kernel
theorem dX6_save_5 : decode cX6_save 5 = .ok (.invokestatic 51, 3) := by decide +kernel
theorem dX6_save_8 : decode cX6_save 8 = .ok (.ifCond .eq 7, 3) := by decide +kernel
theorem dX6_save_11 : decode cX6_save 11 = .ok (.iconst 0, 1) := by decide +kernel
theorem dX6_save_12 : decode cX6_save 12 = .ok (.goto 4, 3) := by decide +kernel
theorem dX6_save_15 : decode cX6_save 15 = .ok (.iconst 1, 1) := by decide +kernel
theorem dX6_save_16 : decode cX6_save 16 = .ok (.invokevirtual 102, 3) := by decide +kernel
theorem dX6_save_19 : decode cX6_save 19 = .ok (.ifCond .eq 5, 3) := by decide +kernel
theorem dX6_save_22 : decode cX6_save 22 = .ok (.iconst 0, 1) := by decide +kernel
theorem dX6_save_23 : decode cX6_save 23 = .ok (.ireturn, 1) := by decide +kernel
theorem dX6_save_24 : decode cX6_save 24 = .ok (.aload_n 0, 1) := by decide +kernel
theorem dX6_save_25 : decode cX6_save 25 = .ok (.getfield 28, 3) := by decide +kernel
theorem dX6_save_28 : decode cX6_save 28 = .ok (.iload_n 1, 1) := by decide +kernel
theorem dX6_save_29 : decode cX6_save 29 = .ok (.iconst 1, 1) := by decide +kernel
theorem dX6_save_30 : decode cX6_save 30 = .ok (.bastore, 1) := by decide +kernel
theorem dX6_save_31 : decode cX6_save 31 = .ok (.aload_n 0, 1) := by decide +kernel
theorem dX6_save_32 : decode cX6_save 32 = .ok (.getfield 16, 3) := by decide +kernel
theorem dX6_save_35 : decode cX6_save 35 = .ok (.iconst 0, 1) := by decide +kernel
theorem dX6_save_36 : decode cX6_save 36 = .ok (.aload_n 0, 1) := by decide +kernel
theorem dX6_save_37 : decode cX6_save 37 = .ok (.getfield 25, 3) := by decide +kernel
theorem dX6_save_40 : decode cX6_save 40 = .ok (.sipush 146, 3) := by decide +kernel
theorem dX6_save_43 : decode cX6_save 43 = .ok (.iload_n 1, 1) := by decide +kernel
theorem dX6_save_44 : decode cX6_save 44 = .ok (.imul, 1) := by decide +kernel
theorem dX6_save_45 : decode cX6_save 45 = .ok (.invokestatic 145, 3) := by decide +kernel
theorem dX6_save_48 : decode cX6_save 48 = .ok (.aload_n 0, 1) := by decide +kernel
theorem dX6_save_49 : decode cX6_save 49 = .ok (.getfield 16, 3) := by decide +kernel
theorem dX6_save_52 : decode cX6_save 52 = .ok (.invokestatic 154, 3) := by decide +kernel
theorem dX6_save_55 : decode cX6_save 55 = .ok (.ireturn, 1) := by decide +kernel
set_option maxRecDepth 20000 in
theorem ggX6_restore_X6_in : GoodIn wsX6_restore wsX6_in := goodIn_r _ [8] (by decide +kernel) (by decide +kernel)
set_option maxRecDepth 20000 in
theorem gX6_restore_X6_in : GoodIn wsX6_restore (va_wsS RX6 51 yX6_in wsX6_in) := goodIn_app (goodIn_of _ (by decide +kernel)) ggX6_restore_X6_in
set_option maxRecDepth 20000 in
theorem ggX6_restore_X6_refused : GoodIn wsX6_restore wsX6_refused := goodIn_r _ [12, 13, 26, 27, 28, 29, 30, 31, 32, 33, 34, 35, 36, 37, 38] (by decide +kernel) (by decide +kernel)
set_option maxRecDepth 20000 in
theorem gX6_restore_X6_refused : GoodIn wsX6_restore (wsV RX6 102 RX6 yX6_refused wsX6_refused) := goodIn_app (goodIn_of _ (by decide +kernel)) ggX6_restore_X6_refused
set_option maxRecDepth 20000 in
theorem ggX6_restore_X6_copyPage : GoodIn wsX6_restore wsX6_copyPage := goodIn_r _ [16] (by decide +kernel) (by decide +kernel)
set_option maxRecDepth 20000 in
theorem gX6_restore_X6_copyPage : GoodIn wsX6_restore (va_wsS RX6 145 yX6_copyPage wsX6_copyPage) := goodIn_app (goodIn_of _ (by decide +kernel)) ggX6_restore_X6_copyPage
set_option maxRecDepth 20000 in
theorem ggX6_restore_X6_runners : GoodIn wsX6_restore wsX6_runners := goodIn_r _ [19, 20, 21, 7, 22, 23, 24, 25] (by decide +kernel) (by decide +kernel)
set_option maxRecDepth 20000 in
theorem gX6_restore_X6_runners : GoodIn wsX6_restore (va_wsS RX6 154 yX6_runners wsX6_runners) := goodIn_app (goodIn_of _ (by decide +kernel)) ggX6_restore_X6_runners
theorem dX6_restore_0 : decode cX6_restore 0 = .ok (.aload_n 0, 1) := by decide +kernel
theorem dX6_restore_1 : decode cX6_restore 1 = .ok (.iload_n 1, 1) := by decide +kernel
theorem dX6_restore_2 : decode cX6_restore 2 = .ok (.i2l, 1) := by decide +kernel
theorem dX6_restore_3 : decode cX6_restore 3 = .ok (.lconst 0, 1) := by decide +kernel
theorem dX6_restore_4 : decode cX6_restore 4 = .ok (.lconst 1, 1) := by decide +kernel
theorem dX6_restore_5 : decode cX6_restore 5 = .ok (.invokestatic 51, 3) := by decide +kernel
theorem dX6_restore_8 : decode cX6_restore 8 = .ok (.ifCond .ne 7, 3) := by decide +kernel
theorem dX6_restore_11 : decode cX6_restore 11 = .ok (.iconst 1, 1) := by decide +kernel
theorem dX6_restore_12 : decode cX6_restore 12 = .ok (.goto 17, 3) := by decide +kernel
theorem dX6_restore_15 : decode cX6_restore 15 = .ok (.aload_n 0, 1) := by decide +kernel
theorem dX6_restore_16 : decode cX6_restore 16 = .ok (.getfield 28, 3) := by decide +kernel
theorem dX6_restore_19 : decode cX6_restore 19 = .ok (.iload_n 1, 1) := by decide +kernel
theorem dX6_restore_20 : decode cX6_restore 20 = .ok (.baload, 1) := by decide +kernel
theorem dX6_restore_21 : decode cX6_restore 21 = .ok (.ifCond .ne 7, 3) := by decide +kernel
theorem dX6_restore_24 : decode cX6_restore 24 = .ok (.iconst 2, 1) := by decide +kernel
theorem dX6_restore_25 : decode cX6_restore 25 = .ok (.goto 4, 3) := by decide +kernel
theorem dX6_restore_28 : decode cX6_restore 28 = .ok (.iconst 0, 1) := by decide +kernel
theorem dX6_restore_29 : decode cX6_restore 29 = .ok (.invokevirtual 102, 3) := by decide +kernel
theorem dX6_restore_32 : decode cX6_restore 32 = .ok (.ifCond .eq 5, 3) := by decide +kernel
theorem dX6_restore_35 : decode cX6_restore 35 = .ok (.iconst 0, 1) := by decide +kernel
theorem dX6_restore_36 : decode cX6_restore 36 = .ok (.ireturn, 1) := by decide +kernel
theorem dX6_restore_37 : decode cX6_restore 37 = .ok (.aload_n 0, 1) := by decide +kernel
theorem dX6_restore_38 : decode cX6_restore 38 = .ok (.getfield 25, 3) := by decide +kernel
theorem dX6_restore_41 : decode cX6_restore 41 = .ok (.sipush 146, 3) := by decide +kernel
theorem dX6_restore_44 : decode cX6_restore 44 = .ok (.iload_n 1, 1) := by decide +kernel
theorem dX6_restore_45 : decode cX6_restore 45 = .ok (.imul, 1) := by decide +kernel
theorem dX6_restore_46 : decode cX6_restore 46 = .ok (.aload_n 0, 1) := by decide +kernel
theorem dX6_restore_47 : decode cX6_restore 47 = .ok (.getfield 16, 3) := by decide +kernel
theorem dX6_restore_50 : decode cX6_restore 50 = .ok (.iconst 0, 1) := by decide +kernel
theorem dX6_restore_51 : decode cX6_restore 51 = .ok (.invokestatic 145, 3) := by decide +kernel
theorem dX6_restore_54 : decode cX6_restore 54 = .ok (.aload_n 0, 1) := by decide +kernel
theorem dX6_restore_55 : decode cX6_restore 55 = .ok (.iconst 0, 1) := by decide +kernel
theorem dX6_restore_56 : decode cX6_restore 56 = .ok (.putfield 149, 3) := by decide +kernel
theorem dX6_restore_59 : decode cX6_restore 59 = .ok (.aload_n 0, 1) := by decide +kernel
theorem dX6_restore_60 : decode cX6_restore 60 = .ok (.getfield 16, 3) := by decide +kernel
theorem dX6_restore_63 : decode cX6_restore 63 = .ok (.invokestatic 154, 3) := by decide +kernel
theorem dX6_restore_66 : decode cX6_restore 66 = .ok (.ireturn, 1) := by decide +kernel
