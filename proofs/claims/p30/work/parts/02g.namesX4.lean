theorem dX4_init_0 : decode cX4_init 0 = .ok (.aload_n 0, 1) := by decide +kernel
theorem dX4_init_1 : decode cX4_init 1 = .ok (.invokespecial 3, 3) := by decide +kernel
theorem dX4_init_4 : decode cX4_init 4 = .ok (.aload_n 0, 1) := by decide +kernel
theorem dX4_init_5 : decode cX4_init 5 = .ok (.bipush 70, 2) := by decide +kernel
theorem dX4_init_7 : decode cX4_init 7 = .ok (.newarray .int, 2) := by decide +kernel
theorem dX4_init_9 : decode cX4_init 9 = .ok (.putfield 9, 3) := by decide +kernel
theorem dX4_init_12 : decode cX4_init 12 = .ok (.return_, 1) := by decide +kernel
theorem dX4_isFull_0 : decode cX4_isFull 0 = .ok (.aload_n 0, 1) := by decide +kernel
theorem dX4_isFull_1 : decode cX4_isFull 1 = .ok (.getfield 15, 3) := by decide +kernel
theorem dX4_isFull_4 : decode cX4_isFull 4 = .ok (.bipush 70, 2) := by decide +kernel
theorem dX4_isFull_6 : decode cX4_isFull 6 = .ok (.if_icmp .lt 7, 3) := by decide +kernel
theorem dX4_isFull_9 : decode cX4_isFull 9 = .ok (.iconst 1, 1) := by decide +kernel
theorem dX4_isFull_10 : decode cX4_isFull 10 = .ok (.goto 4, 3) := by decide +kernel
theorem dX4_isFull_13 : decode cX4_isFull 13 = .ok (.iconst 0, 1) := by decide +kernel
theorem dX4_isFull_14 : decode cX4_isFull 14 = .ok (.ireturn, 1) := by decide +kernel
theorem dX4_add_0 : decode cX4_add 0 = .ok (.aload_n 0, 1) := by decide +kernel
theorem dX4_add_1 : decode cX4_add 1 = .ok (.getfield 15, 3) := by decide +kernel
theorem dX4_add_4 : decode cX4_add 4 = .ok (.bipush 70, 2) := by decide +kernel
theorem dX4_add_6 : decode cX4_add 6 = .ok (.if_icmp .ge 23, 3) := by decide +kernel
theorem dX4_add_9 : decode cX4_add 9 = .ok (.aload_n 0, 1) := by decide +kernel
theorem dX4_add_10 : decode cX4_add 10 = .ok (.getfield 9, 3) := by decide +kernel
theorem dX4_add_13 : decode cX4_add 13 = .ok (.aload_n 0, 1) := by decide +kernel
theorem dX4_add_14 : decode cX4_add 14 = .ok (.getfield 15, 3) := by decide +kernel
theorem dX4_add_17 : decode cX4_add 17 = .ok (.iload_n 1, 1) := by decide +kernel
theorem dX4_add_18 : decode cX4_add 18 = .ok (.iastore, 1) := by decide +kernel
theorem dX4_add_19 : decode cX4_add 19 = .ok (.aload_n 0, 1) := by decide +kernel
theorem dX4_add_20 : decode cX4_add 20 = .ok (.dup, 1) := by decide +kernel
theorem dX4_add_21 : decode cX4_add 21 = .ok (.getfield 15, 3) := by decide +kernel
theorem dX4_add_24 : decode cX4_add 24 = .ok (.iconst 1, 1) := by decide +kernel
theorem dX4_add_25 : decode cX4_add 25 = .ok (.iadd, 1) := by decide +kernel
theorem dX4_add_26 : decode cX4_add 26 = .ok (.putfield 15, 3) := by decide +kernel
theorem dX4_add_29 : decode cX4_add 29 = .ok (.aload_n 0, 1) := by decide +kernel
theorem dX4_add_30 : decode cX4_add 30 = .ok (.getfield 15, 3) := by decide +kernel
theorem dX4_add_33 : decode cX4_add 33 = .ok (.ireturn, 1) := by decide +kernel
set_option maxRecDepth 20000 in
theorem ggX4_readInto_X3_makeNew : GoodIn wsX4_readInto wsX3_makeNew := goodIn_r _ [7, 8, 9, 10, 11, 12, 13, 14, 15, 16, 77, 78, 79, 80, 81, 82, 83, 84, 85, 86, 87, 88, 89, 90, 91] (by decide +kernel) (by decide +kernel)
set_option maxRecDepth 20000 in
theorem gX4_readInto_X3_makeNew : GoodIn wsX4_readInto (wsV RX4 19 RX3 yX3_makeNew wsX3_makeNew) := goodIn_app (goodIn_of _ (by decide +kernel)) ggX4_readInto_X3_makeNew
set_option maxRecDepth 20000 in
theorem ggX4_readInto_X4_readTrial : GoodIn wsX4_readInto wsX4_readTrial := goodIn_r _ [21, 22, 23, 24, 20, 25, 1, 2, 26, 27, 28, 29, 30, 31, 32, 33, 34, 35, 36, 37, 38, 39, 40, 41, 42, 43, 44, 45, 46, 47, 48, 49, 50, 51, 52, 53, 54, 55, 56, 6, 57, 8, 58, 59, 60, 61, 62, 63, 64, 65, 66, 67, 68, 69, 70, 71, 72, 73, 74, 75, 76, 77, 78, 79, 80, 81, 82, 83, 84, 85, 86, 87, 88, 89, 90, 91] (by decide +kernel) (by decide +kernel)
set_option maxRecDepth 20000 in
theorem gX4_readInto_X4_readTrial : GoodIn wsX4_readInto (wsV RX4 27 RX4 yX4_readTrial wsX4_readTrial) := goodIn_app (goodIn_of _ (by decide +kernel)) ggX4_readInto_X4_readTrial
theorem dX4_readInto_0 : decode cX4_readInto 0 = .ok (.aload_n 1, 1) := by decide +kernel
theorem dX4_readInto_1 : decode cX4_readInto 1 = .ok (.invokevirtual 19, 3) := by decide +kernel
theorem dX4_readInto_4 : decode cX4_readInto 4 = .ok (.aload_n 0, 1) := by decide +kernel
theorem dX4_readInto_5 : decode cX4_readInto 5 = .ok (.iconst 0, 1) := by decide +kernel
theorem dX4_readInto_6 : decode cX4_readInto 6 = .ok (.putfield 24, 3) := by decide +kernel
theorem dX4_readInto_9 : decode cX4_readInto 9 = .ok (.aload_n 0, 1) := by decide +kernel
theorem dX4_readInto_10 : decode cX4_readInto 10 = .ok (.aload_n 1, 1) := by decide +kernel
theorem dX4_readInto_11 : decode cX4_readInto 11 = .ok (.invokevirtual 27, 3) := by decide +kernel
theorem dX4_readInto_14 : decode cX4_readInto 14 = .ok (.ifCond .ne 8, 3) := by decide +kernel
theorem dX4_readInto_17 : decode cX4_readInto 17 = .ok (.aload_n 0, 1) := by decide +kernel
theorem dX4_readInto_18 : decode cX4_readInto 18 = .ok (.getfield 24, 3) := by decide +kernel
theorem dX4_readInto_21 : decode cX4_readInto 21 = .ok (.ireturn, 1) := by decide +kernel
theorem dX4_readInto_22 : decode cX4_readInto 22 = .ok (.aload_n 0, 1) := by decide +kernel
theorem dX4_readInto_23 : decode cX4_readInto 23 = .ok (.getfield 24, 3) := by decide +kernel
theorem dX4_readInto_26 : decode cX4_readInto 26 = .ok (.aload_n 0, 1) := by decide +kernel
theorem dX4_readInto_27 : decode cX4_readInto 27 = .ok (.getfield 15, 3) := by decide +kernel
theorem dX4_readInto_30 : decode cX4_readInto 30 = .ok (.if_icmp .ge 10, 3) := by decide +kernel
theorem dX4_readInto_33 : decode cX4_readInto 33 = .ok (.aload_n 0, 1) := by decide +kernel
theorem dX4_readInto_34 : decode cX4_readInto 34 = .ok (.getfield 24, 3) := by decide +kernel
theorem dX4_readInto_37 : decode cX4_readInto 37 = .ok (.goto 5, 3) := by decide +kernel
theorem dX4_readInto_40 : decode cX4_readInto 40 = .ok (.bipush (-9), 2) := by decide +kernel
theorem dX4_readInto_42 : decode cX4_readInto 42 = .ok (.ireturn, 1) := by decide +kernel
set_option maxRecDepth 20000 in
theorem ggX4_readTrial_X4_readSign : GoodIn wsX4_readTrial wsX4_readSign := goodIn_r _ [5, 6, 7, 8, 58, 59, 60] (by decide +kernel) (by decide +kernel)
set_option maxRecDepth 20000 in
theorem gX4_readTrial_X4_readSign : GoodIn wsX4_readTrial (wsV RX4 31 RX4 yX4_readSign wsX4_readSign) := goodIn_app (goodIn_of _ (by decide +kernel)) ggX4_readTrial_X4_readSign
set_option maxRecDepth 20000 in
theorem ggX4_readTrial_X4_readSunset : GoodIn wsX4_readTrial wsX4_readSunset := goodIn_r _ [12, 6, 13, 14, 15, 16, 4, 17, 7, 8, 18, 19, 20, 58, 59, 60, 61, 62, 63, 64, 65, 66, 67, 68, 69, 70, 71, 72, 73, 74, 75] (by decide +kernel) (by decide +kernel)
set_option maxRecDepth 20000 in
theorem gX4_readTrial_X4_readSunset : GoodIn wsX4_readTrial (wsV RX4 35 RX4 yX4_readSunset wsX4_readSunset) := goodIn_app (goodIn_of _ (by decide +kernel)) ggX4_readTrial_X4_readSunset
set_option maxRecDepth 20000 in
theorem ggX4_readTrial_X4_readDog : GoodIn wsX4_readTrial wsX4_readDog := goodIn_r _ [24, 6, 14, 15, 16, 4, 17, 7, 8, 25, 26, 27, 28, 29, 30, 31, 32, 33, 34, 35, 36, 37, 38, 39, 40, 41, 42, 43, 44, 45, 46, 47, 48, 49, 50, 58, 59, 60, 61, 62, 63, 64, 65, 66, 67, 68, 69, 70, 71, 72, 73, 74, 75] (by decide +kernel) (by decide +kernel)
set_option maxRecDepth 20000 in
theorem gX4_readTrial_X4_readDog : GoodIn wsX4_readTrial (wsV RX4 38 RX4 yX4_readDog wsX4_readDog) := goodIn_app (goodIn_of _ (by decide +kernel)) ggX4_readTrial_X4_readDog
set_option maxRecDepth 20000 in
theorem ggX4_readTrial_X4_readRank : GoodIn wsX4_readTrial wsX4_readRank := goodIn_r _ [54, 55, 6, 14, 15, 16, 4, 17, 7, 8, 56, 26, 57, 61, 62, 63, 64, 65, 66, 67, 68, 69, 70, 71, 72, 73, 74, 75, 58, 59, 60] (by decide +kernel) (by decide +kernel)
set_option maxRecDepth 20000 in
theorem gX4_readTrial_X4_readRank : GoodIn wsX4_readTrial (wsV RX4 41 RX4 yX4_readRank wsX4_readRank) := goodIn_app (goodIn_of _ (by decide +kernel)) ggX4_readTrial_X4_readRank
theorem dX4_readTrial_0 : decode cX4_readTrial 0 = .ok (.aload_n 0, 1) := by decide +kernel
theorem dX4_readTrial_1 : decode cX4_readTrial 1 = .ok (.bipush 84, 2) := by decide +kernel
theorem dX4_readTrial_3 : decode cX4_readTrial 3 = .ok (.invokevirtual 31, 3) := by decide +kernel
theorem dX4_readTrial_6 : decode cX4_readTrial 6 = .ok (.ifCond .eq 11, 3) := by decide +kernel
theorem dX4_readTrial_9 : decode cX4_readTrial 9 = .ok (.aload_n 0, 1) := by decide +kernel
theorem dX4_readTrial_10 : decode cX4_readTrial 10 = .ok (.aload_n 1, 1) := by decide +kernel
theorem dX4_readTrial_11 : decode cX4_readTrial 11 = .ok (.invokevirtual 35, 3) := by decide +kernel
theorem dX4_readTrial_14 : decode cX4_readTrial 14 = .ok (.ifCond .ne 5, 3) := by decide +kernel
theorem dX4_readTrial_17 : decode cX4_readTrial 17 = .ok (.iconst 0, 1) := by decide +kernel
theorem dX4_readTrial_18 : decode cX4_readTrial 18 = .ok (.ireturn, 1) := by decide +kernel
theorem dX4_readTrial_19 : decode cX4_readTrial 19 = .ok (.iconst 0, 1) := by decide +kernel
theorem dX4_readTrial_20 : decode cX4_readTrial 20 = .ok (.istore_n 2, 1) := by decide +kernel
theorem dX4_readTrial_21 : decode cX4_readTrial 21 = .ok (.iload_n 2, 1) := by decide +kernel
theorem dX4_readTrial_22 : decode cX4_readTrial 22 = .ok (.bipush 12, 2) := by decide +kernel
theorem dX4_readTrial_24 : decode cX4_readTrial 24 = .ok (.if_icmp .ge 28, 3) := by decide +kernel
theorem dX4_readTrial_27 : decode cX4_readTrial 27 = .ok (.aload_n 0, 1) := by decide +kernel
theorem dX4_readTrial_28 : decode cX4_readTrial 28 = .ok (.bipush 100, 2) := by decide +kernel
theorem dX4_readTrial_30 : decode cX4_readTrial 30 = .ok (.invokevirtual 31, 3) := by decide +kernel
theorem dX4_readTrial_33 : decode cX4_readTrial 33 = .ok (.ifCond .eq 19, 3) := by decide +kernel
theorem dX4_readTrial_36 : decode cX4_readTrial 36 = .ok (.aload_n 0, 1) := by decide +kernel
theorem dX4_readTrial_37 : decode cX4_readTrial 37 = .ok (.aload_n 1, 1) := by decide +kernel
theorem dX4_readTrial_38 : decode cX4_readTrial 38 = .ok (.invokevirtual 38, 3) := by decide +kernel
theorem dX4_readTrial_41 : decode cX4_readTrial 41 = .ok (.ifCond .ne 5, 3) := by decide +kernel
theorem dX4_readTrial_44 : decode cX4_readTrial 44 = .ok (.iconst 0, 1) := by decide +kernel
theorem dX4_readTrial_45 : decode cX4_readTrial 45 = .ok (.ireturn, 1) := by decide +kernel
theorem dX4_readTrial_46 : decode cX4_readTrial 46 = .ok (.iinc 2 1, 3) := by decide +kernel
theorem dX4_readTrial_49 : decode cX4_readTrial 49 = .ok (.goto (-28), 3) := by decide +kernel
theorem dX4_readTrial_52 : decode cX4_readTrial 52 = .ok (.aload_n 0, 1) := by decide +kernel
theorem dX4_readTrial_53 : decode cX4_readTrial 53 = .ok (.bipush 114, 2) := by decide +kernel
theorem dX4_readTrial_55 : decode cX4_readTrial 55 = .ok (.invokevirtual 31, 3) := by decide +kernel
theorem dX4_readTrial_58 : decode cX4_readTrial 58 = .ok (.ifCond .eq 11, 3) := by decide +kernel
theorem dX4_readTrial_61 : decode cX4_readTrial 61 = .ok (.aload_n 0, 1) := by decide +kernel
theorem dX4_readTrial_62 : decode cX4_readTrial 62 = .ok (.aload_n 1, 1) := by decide +kernel
theorem dX4_readTrial_63 : decode cX4_readTrial 63 = .ok (.invokevirtual 41, 3) := by decide +kernel
theorem dX4_readTrial_66 : decode cX4_readTrial 66 = .ok (.ifCond .eq 7, 3) := by decide +kernel
theorem dX4_readTrial_69 : decode cX4_readTrial 69 = .ok (.iconst 1, 1) := by decide +kernel
theorem dX4_readTrial_70 : decode cX4_readTrial 70 = .ok (.goto 4, 3) := by decide +kernel
theorem dX4_readTrial_73 : decode cX4_readTrial 73 = .ok (.iconst 0, 1) := by decide +kernel
theorem dX4_readTrial_74 : decode cX4_readTrial 74 = .ok (.ireturn, 1) := by decide +kernel
theorem dX4_readSign_0 : decode cX4_readSign 0 = .ok (.aload_n 0, 1) := by decide +kernel
theorem dX4_readSign_1 : decode cX4_readSign 1 = .ok (.getfield 24, 3) := by decide +kernel
theorem dX4_readSign_4 : decode cX4_readSign 4 = .ok (.aload_n 0, 1) := by decide +kernel
theorem dX4_readSign_5 : decode cX4_readSign 5 = .ok (.getfield 15, 3) := by decide +kernel
theorem dX4_readSign_8 : decode cX4_readSign 8 = .ok (.if_icmp .ge 16, 3) := by decide +kernel
theorem dX4_readSign_11 : decode cX4_readSign 11 = .ok (.aload_n 0, 1) := by decide +kernel
theorem dX4_readSign_12 : decode cX4_readSign 12 = .ok (.getfield 9, 3) := by decide +kernel
theorem dX4_readSign_15 : decode cX4_readSign 15 = .ok (.aload_n 0, 1) := by decide +kernel
theorem dX4_readSign_16 : decode cX4_readSign 16 = .ok (.getfield 24, 3) := by decide +kernel
theorem dX4_readSign_19 : decode cX4_readSign 19 = .ok (.iaload, 1) := by decide +kernel
theorem dX4_readSign_20 : decode cX4_readSign 20 = .ok (.iload_n 1, 1) := by decide +kernel
theorem dX4_readSign_21 : decode cX4_readSign 21 = .ok (.if_icmp .eq 5, 3) := by decide +kernel
theorem dX4_readSign_24 : decode cX4_readSign 24 = .ok (.iconst 0, 1) := by decide +kernel
theorem dX4_readSign_25 : decode cX4_readSign 25 = .ok (.ireturn, 1) := by decide +kernel
theorem dX4_readSign_26 : decode cX4_readSign 26 = .ok (.aload_n 0, 1) := by decide +kernel
theorem dX4_readSign_27 : decode cX4_readSign 27 = .ok (.dup, 1) := by decide +kernel
theorem dX4_readSign_28 : decode cX4_readSign 28 = .ok (.getfield 24, 3) := by decide +kernel
theorem dX4_readSign_31 : decode cX4_readSign 31 = .ok (.iconst 1, 1) := by decide +kernel
theorem dX4_readSign_32 : decode cX4_readSign 32 = .ok (.iadd, 1) := by decide +kernel
theorem dX4_readSign_33 : decode cX4_readSign 33 = .ok (.putfield 24, 3) := by decide +kernel
theorem dX4_readSign_36 : decode cX4_readSign 36 = .ok (.iconst 1, 1) := by decide +kernel
theorem dX4_readSign_37 : decode cX4_readSign 37 = .ok (.ireturn, 1) := by decide +kernel
theorem dX4_digit_0 : decode cX4_digit 0 = .ok (.aload_n 0, 1) := by decide +kernel
theorem dX4_digit_1 : decode cX4_digit 1 = .ok (.getfield 24, 3) := by decide +kernel
theorem dX4_digit_4 : decode cX4_digit 4 = .ok (.aload_n 0, 1) := by decide +kernel
theorem dX4_digit_5 : decode cX4_digit 5 = .ok (.getfield 15, 3) := by decide +kernel
theorem dX4_digit_8 : decode cX4_digit 8 = .ok (.if_icmp .ge 31, 3) := by decide +kernel
theorem dX4_digit_11 : decode cX4_digit 11 = .ok (.aload_n 0, 1) := by decide +kernel
theorem dX4_digit_12 : decode cX4_digit 12 = .ok (.getfield 9, 3) := by decide +kernel
theorem dX4_digit_15 : decode cX4_digit 15 = .ok (.aload_n 0, 1) := by decide +kernel
theorem dX4_digit_16 : decode cX4_digit 16 = .ok (.getfield 24, 3) := by decide +kernel
theorem dX4_digit_19 : decode cX4_digit 19 = .ok (.iaload, 1) := by decide +kernel
theorem dX4_digit_20 : decode cX4_digit 20 = .ok (.bipush 48, 2) := by decide +kernel
theorem dX4_digit_22 : decode cX4_digit 22 = .ok (.if_icmp .lt 17, 3) := by decide +kernel
theorem dX4_digit_25 : decode cX4_digit 25 = .ok (.aload_n 0, 1) := by decide +kernel
theorem dX4_digit_26 : decode cX4_digit 26 = .ok (.getfield 9, 3) := by decide +kernel
theorem dX4_digit_29 : decode cX4_digit 29 = .ok (.aload_n 0, 1) := by decide +kernel
theorem dX4_digit_30 : decode cX4_digit 30 = .ok (.getfield 24, 3) := by decide +kernel
theorem dX4_digit_33 : decode cX4_digit 33 = .ok (.iaload, 1) := by decide +kernel
theorem dX4_digit_34 : decode cX4_digit 34 = .ok (.bipush 57, 2) := by decide +kernel
theorem dX4_digit_36 : decode cX4_digit 36 = .ok (.if_icmp .le 6, 3) := by decide +kernel
theorem dX4_digit_39 : decode cX4_digit 39 = .ok (.bipush (-9), 2) := by decide +kernel
theorem dX4_digit_41 : decode cX4_digit 41 = .ok (.ireturn, 1) := by decide +kernel
theorem dX4_digit_42 : decode cX4_digit 42 = .ok (.aload_n 0, 1) := by decide +kernel
theorem dX4_digit_43 : decode cX4_digit 43 = .ok (.getfield 9, 3) := by decide +kernel
theorem dX4_digit_46 : decode cX4_digit 46 = .ok (.aload_n 0, 1) := by decide +kernel
theorem dX4_digit_47 : decode cX4_digit 47 = .ok (.getfield 24, 3) := by decide +kernel
theorem dX4_digit_50 : decode cX4_digit 50 = .ok (.iaload, 1) := by decide +kernel
theorem dX4_digit_51 : decode cX4_digit 51 = .ok (.bipush 48, 2) := by decide +kernel
theorem dX4_digit_53 : decode cX4_digit 53 = .ok (.isub, 1) := by decide +kernel
theorem dX4_digit_54 : decode cX4_digit 54 = .ok (.ireturn, 1) := by decide +kernel
set_option maxRecDepth 20000 in
theorem ggX4_readSunset_X4_digit : GoodIn wsX4_readSunset wsX4_digit := goodIn_r _ [7, 1, 8, 9, 13, 14, 15] (by decide +kernel) (by decide +kernel)
set_option maxRecDepth 20000 in
theorem gX4_readSunset_X4_digit : GoodIn wsX4_readSunset (wsV RX4 44 RX4 yX4_digit wsX4_digit) := goodIn_app (goodIn_of _ (by decide +kernel)) ggX4_readSunset_X4_digit
set_option maxRecDepth 20000 in
theorem ggX4_readSunset_X4_beginsSunset : GoodIn wsX4_readSunset wsX4_beginsSunset := goodIn_r _ [12] (by decide +kernel) (by decide +kernel)
set_option maxRecDepth 20000 in
theorem gX4_readSunset_X4_beginsSunset : GoodIn wsX4_readSunset (va_wsS RX4 48 yX4_beginsSunset wsX4_beginsSunset) := goodIn_app (goodIn_of _ (by decide +kernel)) ggX4_readSunset_X4_beginsSunset
theorem dX4_readSunset_0 : decode cX4_readSunset 0 = .ok (.iconst 0, 1) := by decide +kernel
theorem dX4_readSunset_1 : decode cX4_readSunset 1 = .ok (.istore_n 2, 1) := by decide +kernel
theorem dX4_readSunset_2 : decode cX4_readSunset 2 = .ok (.bipush 100, 2) := by decide +kernel
theorem dX4_readSunset_4 : decode cX4_readSunset 4 = .ok (.istore_n 3, 1) := by decide +kernel
theorem dX4_readSunset_5 : decode cX4_readSunset 5 = .ok (.iconst 0, 1) := by decide +kernel
theorem dX4_readSunset_6 : decode cX4_readSunset 6 = .ok (.istore 4, 2) := by decide +kernel
theorem dX4_readSunset_8 : decode cX4_readSunset 8 = .ok (.iload 4, 2) := by decide +kernel
theorem dX4_readSunset_10 : decode cX4_readSunset 10 = .ok (.iconst 3, 1) := by decide +kernel
theorem dX4_readSunset_11 : decode cX4_readSunset 11 = .ok (.if_icmp .ge 59, 3) := by decide +kernel
theorem dX4_readSunset_14 : decode cX4_readSunset 14 = .ok (.aload_n 0, 1) := by decide +kernel
theorem dX4_readSunset_15 : decode cX4_readSunset 15 = .ok (.invokevirtual 44, 3) := by decide +kernel
theorem dX4_readSunset_18 : decode cX4_readSunset 18 = .ok (.istore 5, 2) := by decide +kernel
theorem dX4_readSunset_20 : decode cX4_readSunset 20 = .ok (.iload 5, 2) := by decide +kernel
theorem dX4_readSunset_22 : decode cX4_readSunset 22 = .ok (.bipush (-9), 2) := by decide +kernel
theorem dX4_readSunset_24 : decode cX4_readSunset 24 = .ok (.if_icmp .eq 16, 3) := by decide +kernel
theorem dX4_readSunset_27 : decode cX4_readSunset 27 = .ok (.iload_n 2, 1) := by decide +kernel
theorem dX4_readSunset_28 : decode cX4_readSunset 28 = .ok (.iload 5, 2) := by decide +kernel
theorem dX4_readSunset_30 : decode cX4_readSunset 30 = .ok (.iload_n 3, 1) := by decide +kernel
theorem dX4_readSunset_31 : decode cX4_readSunset 31 = .ok (.imul, 1) := by decide +kernel
theorem dX4_readSunset_32 : decode cX4_readSunset 32 = .ok (.iadd, 1) := by decide +kernel
theorem dX4_readSunset_33 : decode cX4_readSunset 33 = .ok (.iload_n 3, 1) := by decide +kernel
theorem dX4_readSunset_34 : decode cX4_readSunset 34 = .ok (.invokestatic 48, 3) := by decide +kernel
theorem dX4_readSunset_37 : decode cX4_readSunset 37 = .ok (.ifCond .ne 5, 3) := by decide +kernel
theorem dX4_readSunset_40 : decode cX4_readSunset 40 = .ok (.iconst 0, 1) := by decide +kernel
theorem dX4_readSunset_41 : decode cX4_readSunset 41 = .ok (.ireturn, 1) := by decide +kernel
theorem dX4_readSunset_42 : decode cX4_readSunset 42 = .ok (.iload_n 2, 1) := by decide +kernel
theorem dX4_readSunset_43 : decode cX4_readSunset 43 = .ok (.iload 5, 2) := by decide +kernel
theorem dX4_readSunset_45 : decode cX4_readSunset 45 = .ok (.iload_n 3, 1) := by decide +kernel
theorem dX4_readSunset_46 : decode cX4_readSunset 46 = .ok (.imul, 1) := by decide +kernel
theorem dX4_readSunset_47 : decode cX4_readSunset 47 = .ok (.iadd, 1) := by decide +kernel
theorem dX4_readSunset_48 : decode cX4_readSunset 48 = .ok (.istore_n 2, 1) := by decide +kernel
theorem dX4_readSunset_49 : decode cX4_readSunset 49 = .ok (.iload_n 3, 1) := by decide +kernel
theorem dX4_readSunset_50 : decode cX4_readSunset 50 = .ok (.bipush 10, 2) := by decide +kernel
theorem dX4_readSunset_52 : decode cX4_readSunset 52 = .ok (.idiv, 1) := by decide +kernel
theorem dX4_readSunset_53 : decode cX4_readSunset 53 = .ok (.istore_n 3, 1) := by decide +kernel
theorem dX4_readSunset_54 : decode cX4_readSunset 54 = .ok (.aload_n 0, 1) := by decide +kernel
theorem dX4_readSunset_55 : decode cX4_readSunset 55 = .ok (.dup, 1) := by decide +kernel
theorem dX4_readSunset_56 : decode cX4_readSunset 56 = .ok (.getfield 24, 3) := by decide +kernel
theorem dX4_readSunset_59 : decode cX4_readSunset 59 = .ok (.iconst 1, 1) := by decide +kernel
theorem dX4_readSunset_60 : decode cX4_readSunset 60 = .ok (.iadd, 1) := by decide +kernel
theorem dX4_readSunset_61 : decode cX4_readSunset 61 = .ok (.putfield 24, 3) := by decide +kernel
theorem dX4_readSunset_64 : decode cX4_readSunset 64 = .ok (.iinc 4 1, 3) := by decide +kernel
theorem dX4_readSunset_67 : decode cX4_readSunset 67 = .ok (.goto (-59), 3) := by decide +kernel
theorem dX4_readSunset_70 : decode cX4_readSunset 70 = .ok (.aload_n 1, 1) := by decide +kernel
theorem dX4_readSunset_71 : decode cX4_readSunset 71 = .ok (.iload_n 2, 1) := by decide +kernel
theorem dX4_readSunset_72 : decode cX4_readSunset 72 = .ok (.putfield 52, 3) := by decide +kernel
theorem dX4_readSunset_75 : decode cX4_readSunset 75 = .ok (.iconst 1, 1) := by decide +kernel
theorem dX4_readSunset_76 : decode cX4_readSunset 76 = .ok (.ireturn, 1) := by decide +kernel
theorem dX4_beginsSunset_0 : decode cX4_beginsSunset 0 = .ok (.iload_n 0, 1) := by decide +kernel
theorem dX4_beginsSunset_1 : decode cX4_beginsSunset 1 = .ok (.iload_n 1, 1) := by decide +kernel
theorem dX4_beginsSunset_2 : decode cX4_beginsSunset 2 = .ok (.iadd, 1) := by decide +kernel
theorem dX4_beginsSunset_3 : decode cX4_beginsSunset 3 = .ok (.iconst 1, 1) := by decide +kernel
theorem dX4_beginsSunset_4 : decode cX4_beginsSunset 4 = .ok (.isub, 1) := by decide +kernel
theorem dX4_beginsSunset_5 : decode cX4_beginsSunset 5 = .ok (.bipush 60, 2) := by decide +kernel
theorem dX4_beginsSunset_7 : decode cX4_beginsSunset 7 = .ok (.if_icmp .lt 14, 3) := by decide +kernel
theorem dX4_beginsSunset_10 : decode cX4_beginsSunset 10 = .ok (.iload_n 0, 1) := by decide +kernel
theorem dX4_beginsSunset_11 : decode cX4_beginsSunset 11 = .ok (.sipush 600, 3) := by decide +kernel
theorem dX4_beginsSunset_14 : decode cX4_beginsSunset 14 = .ok (.if_icmp .gt 7, 3) := by decide +kernel
theorem dX4_beginsSunset_17 : decode cX4_beginsSunset 17 = .ok (.iconst 1, 1) := by decide +kernel
theorem dX4_beginsSunset_18 : decode cX4_beginsSunset 18 = .ok (.goto 4, 3) := by decide +kernel
theorem dX4_beginsSunset_21 : decode cX4_beginsSunset 21 = .ok (.iconst 0, 1) := by decide +kernel
theorem dX4_beginsSunset_22 : decode cX4_beginsSunset 22 = .ok (.ireturn, 1) := by decide +kernel
set_option maxRecDepth 20000 in
theorem ggX4_readDog_X4_digit : GoodIn wsX4_readDog wsX4_digit := goodIn_r _ [6, 1, 7, 8, 35, 36, 37] (by decide +kernel) (by decide +kernel)
set_option maxRecDepth 20000 in
theorem gX4_readDog_X4_digit : GoodIn wsX4_readDog (wsV RX4 44 RX4 yX4_digit wsX4_digit) := goodIn_app (goodIn_of _ (by decide +kernel)) ggX4_readDog_X4_digit
set_option maxRecDepth 20000 in
theorem ggX4_readDog_X5_isOwner : GoodIn wsX4_readDog wsX5_isOwner := goodIn_r _ [11] (by decide +kernel) (by decide +kernel)
set_option maxRecDepth 20000 in
theorem gX4_readDog_X5_isOwner_n55 : GoodIn wsX4_readDog (wsX5_isOwner) := ggX4_readDog_X5_isOwner
set_option maxRecDepth 20000 in
theorem ggX4_readDog_X4_beginsFreeDraw : GoodIn wsX4_readDog wsX4_beginsFreeDraw := goodIn_r _ [14, 15, 16, 5, 17, 18, 10, 19, 20, 21, 22, 23, 24, 25, 26, 38, 39, 40, 41, 42, 43, 44, 45, 46, 47, 48, 49, 50, 51, 52] (by decide +kernel) (by decide +kernel)
set_option maxRecDepth 20000 in
theorem gX4_readDog_X4_beginsFreeDraw : GoodIn wsX4_readDog (va_wsS RX4 59 yX4_beginsFreeDraw wsX4_beginsFreeDraw) := goodIn_app (goodIn_of _ (by decide +kernel)) ggX4_readDog_X4_beginsFreeDraw
set_option maxRecDepth 20000 in
theorem ggX4_readDog_X4_isFreeDraw : GoodIn wsX4_readDog wsX4_isFreeDraw := goodIn_r _ [17, 18, 10, 19, 20, 21, 22, 23, 24, 25, 26, 38, 39, 40, 41, 42, 43, 44, 45, 46, 47, 48, 49, 50, 51, 52] (by decide +kernel) (by decide +kernel)
set_option maxRecDepth 20000 in
theorem gX4_readDog_X4_isFreeDraw : GoodIn wsX4_readDog (va_wsS RX4 63 yX4_isFreeDraw wsX4_isFreeDraw) := goodIn_app (goodIn_of _ (by decide +kernel)) ggX4_readDog_X4_isFreeDraw
set_option maxRecDepth 20000 in
theorem ggX4_readDog_X3_addDog : GoodIn wsX4_readDog wsX3_addDog := goodIn_r _ [30, 25, 31, 26, 32, 33, 34, 38, 39, 40, 41, 42, 43, 44, 45, 46, 47, 48, 49, 50, 51, 52] (by decide +kernel) (by decide +kernel)
set_option maxRecDepth 20000 in
theorem gX4_readDog_X3_addDog : GoodIn wsX4_readDog (wsV RX4 66 RX3 yX3_addDog wsX3_addDog) := goodIn_app (goodIn_of _ (by decide +kernel)) ggX4_readDog_X3_addDog
theorem dX4_readDog_0 : decode cX4_readDog 0 = .ok (.aload_n 0, 1) := by decide +kernel
theorem dX4_readDog_1 : decode cX4_readDog 1 = .ok (.invokevirtual 44, 3) := by decide +kernel
theorem dX4_readDog_4 : decode cX4_readDog 4 = .ok (.istore_n 2, 1) := by decide +kernel
theorem dX4_readDog_5 : decode cX4_readDog 5 = .ok (.iload_n 2, 1) := by decide +kernel
theorem dX4_readDog_6 : decode cX4_readDog 6 = .ok (.bipush (-9), 2) := by decide +kernel
theorem dX4_readDog_8 : decode cX4_readDog 8 = .ok (.if_icmp .eq 10, 3) := by decide +kernel
theorem dX4_readDog_11 : decode cX4_readDog 11 = .ok (.iload_n 2, 1) := by decide +kernel
theorem dX4_readDog_12 : decode cX4_readDog 12 = .ok (.invokestatic 55, 3) := by decide +kernel
theorem dX4_readDog_15 : decode cX4_readDog 15 = .ok (.ifCond .ne 5, 3) := by decide +kernel
theorem dX4_readDog_18 : decode cX4_readDog 18 = .ok (.iconst 0, 1) := by decide +kernel
theorem dX4_readDog_19 : decode cX4_readDog 19 = .ok (.ireturn, 1) := by decide +kernel
theorem dX4_readDog_20 : decode cX4_readDog 20 = .ok (.aload_n 0, 1) := by decide +kernel
theorem dX4_readDog_21 : decode cX4_readDog 21 = .ok (.dup, 1) := by decide +kernel
theorem dX4_readDog_22 : decode cX4_readDog 22 = .ok (.getfield 24, 3) := by decide +kernel
theorem dX4_readDog_25 : decode cX4_readDog 25 = .ok (.iconst 1, 1) := by decide +kernel
theorem dX4_readDog_26 : decode cX4_readDog 26 = .ok (.iadd, 1) := by decide +kernel
theorem dX4_readDog_27 : decode cX4_readDog 27 = .ok (.putfield 24, 3) := by decide +kernel
theorem dX4_readDog_30 : decode cX4_readDog 30 = .ok (.aload_n 0, 1) := by decide +kernel
theorem dX4_readDog_31 : decode cX4_readDog 31 = .ok (.invokevirtual 44, 3) := by decide +kernel
theorem dX4_readDog_34 : decode cX4_readDog 34 = .ok (.istore_n 3, 1) := by decide +kernel
theorem dX4_readDog_35 : decode cX4_readDog 35 = .ok (.iload_n 3, 1) := by decide +kernel
theorem dX4_readDog_36 : decode cX4_readDog 36 = .ok (.bipush (-9), 2) := by decide +kernel
theorem dX4_readDog_38 : decode cX4_readDog 38 = .ok (.if_icmp .eq 11, 3) := by decide +kernel
theorem dX4_readDog_41 : decode cX4_readDog 41 = .ok (.aload_n 1, 1) := by decide +kernel
theorem dX4_readDog_42 : decode cX4_readDog 42 = .ok (.iload_n 3, 1) := by decide +kernel
theorem dX4_readDog_43 : decode cX4_readDog 43 = .ok (.invokestatic 59, 3) := by decide +kernel
theorem dX4_readDog_46 : decode cX4_readDog 46 = .ok (.ifCond .ne 5, 3) := by decide +kernel
theorem dX4_readDog_49 : decode cX4_readDog 49 = .ok (.iconst 0, 1) := by decide +kernel
theorem dX4_readDog_50 : decode cX4_readDog 50 = .ok (.ireturn, 1) := by decide +kernel
theorem dX4_readDog_51 : decode cX4_readDog 51 = .ok (.aload_n 0, 1) := by decide +kernel
theorem dX4_readDog_52 : decode cX4_readDog 52 = .ok (.dup, 1) := by decide +kernel
theorem dX4_readDog_53 : decode cX4_readDog 53 = .ok (.getfield 24, 3) := by decide +kernel
theorem dX4_readDog_56 : decode cX4_readDog 56 = .ok (.iconst 1, 1) := by decide +kernel
theorem dX4_readDog_57 : decode cX4_readDog 57 = .ok (.iadd, 1) := by decide +kernel
theorem dX4_readDog_58 : decode cX4_readDog 58 = .ok (.putfield 24, 3) := by decide +kernel
theorem dX4_readDog_61 : decode cX4_readDog 61 = .ok (.aload_n 0, 1) := by decide +kernel
theorem dX4_readDog_62 : decode cX4_readDog 62 = .ok (.invokevirtual 44, 3) := by decide +kernel
theorem dX4_readDog_65 : decode cX4_readDog 65 = .ok (.istore 4, 2) := by decide +kernel
theorem dX4_readDog_67 : decode cX4_readDog 67 = .ok (.iload 4, 2) := by decide +kernel
theorem dX4_readDog_69 : decode cX4_readDog 69 = .ok (.bipush (-9), 2) := by decide +kernel
theorem dX4_readDog_71 : decode cX4_readDog 71 = .ok (.if_icmp .eq 17, 3) := by decide +kernel
theorem dX4_readDog_74 : decode cX4_readDog 74 = .ok (.aload_n 1, 1) := by decide +kernel
theorem dX4_readDog_75 : decode cX4_readDog 75 = .ok (.bipush 10, 2) := by decide +kernel
theorem dX4_readDog_77 : decode cX4_readDog 77 = .ok (.iload_n 3, 1) := by decide +kernel
theorem dX4_readDog_78 : decode cX4_readDog 78 = .ok (.imul, 1) := by decide +kernel
theorem dX4_readDog_79 : decode cX4_readDog 79 = .ok (.iload 4, 2) := by decide +kernel
theorem dX4_readDog_81 : decode cX4_readDog 81 = .ok (.iadd, 1) := by decide +kernel
theorem dX4_readDog_82 : decode cX4_readDog 82 = .ok (.invokestatic 63, 3) := by decide +kernel
theorem dX4_readDog_85 : decode cX4_readDog 85 = .ok (.ifCond .ne 5, 3) := by decide +kernel
theorem dX4_readDog_88 : decode cX4_readDog 88 = .ok (.iconst 0, 1) := by decide +kernel
theorem dX4_readDog_89 : decode cX4_readDog 89 = .ok (.ireturn, 1) := by decide +kernel
theorem dX4_readDog_90 : decode cX4_readDog 90 = .ok (.aload_n 0, 1) := by decide +kernel
theorem dX4_readDog_91 : decode cX4_readDog 91 = .ok (.dup, 1) := by decide +kernel
theorem dX4_readDog_92 : decode cX4_readDog 92 = .ok (.getfield 24, 3) := by decide +kernel
theorem dX4_readDog_95 : decode cX4_readDog 95 = .ok (.iconst 1, 1) := by decide +kernel
theorem dX4_readDog_96 : decode cX4_readDog 96 = .ok (.iadd, 1) := by decide +kernel
theorem dX4_readDog_97 : decode cX4_readDog 97 = .ok (.putfield 24, 3) := by decide +kernel
theorem dX4_readDog_100 : decode cX4_readDog 100 = .ok (.aload_n 1, 1) := by decide +kernel
theorem dX4_readDog_101 : decode cX4_readDog 101 = .ok (.iload_n 2, 1) := by decide +kernel
theorem dX4_readDog_102 : decode cX4_readDog 102 = .ok (.bipush 10, 2) := by decide +kernel
theorem dX4_readDog_104 : decode cX4_readDog 104 = .ok (.iload_n 3, 1) := by decide +kernel
theorem dX4_readDog_105 : decode cX4_readDog 105 = .ok (.imul, 1) := by decide +kernel
theorem dX4_readDog_106 : decode cX4_readDog 106 = .ok (.iload 4, 2) := by decide +kernel
theorem dX4_readDog_108 : decode cX4_readDog 108 = .ok (.iadd, 1) := by decide +kernel
theorem dX4_readDog_109 : decode cX4_readDog 109 = .ok (.invokevirtual 66, 3) := by decide +kernel
theorem dX4_readDog_112 : decode cX4_readDog 112 = .ok (.pop, 1) := by decide +kernel
theorem dX4_readDog_113 : decode cX4_readDog 113 = .ok (.iconst 1, 1) := by decide +kernel
theorem dX4_readDog_114 : decode cX4_readDog 114 = .ok (.ireturn, 1) := by decide +kernel
set_option maxRecDepth 20000 in
theorem ggX4_beginsFreeDraw_X4_isFreeDraw : GoodIn wsX4_beginsFreeDraw wsX4_isFreeDraw := goodIn_r _ [4, 5, 6, 7, 8, 9, 10, 11, 12, 13, 14, 15, 16, 17, 18, 19, 20, 21, 22, 23, 24, 25, 26, 27, 28, 29] (by decide +kernel) (by decide +kernel)
set_option maxRecDepth 20000 in
theorem gX4_beginsFreeDraw_X4_isFreeDraw : GoodIn wsX4_beginsFreeDraw (va_wsS RX4 63 yX4_isFreeDraw wsX4_isFreeDraw) := goodIn_app (goodIn_of _ (by decide +kernel)) ggX4_beginsFreeDraw_X4_isFreeDraw
theorem dX4_beginsFreeDraw_0 : decode cX4_beginsFreeDraw 0 = .ok (.iconst 0, 1) := by decide +kernel
theorem dX4_beginsFreeDraw_1 : decode cX4_beginsFreeDraw 1 = .ok (.istore_n 2, 1) := by decide +kernel
theorem dX4_beginsFreeDraw_2 : decode cX4_beginsFreeDraw 2 = .ok (.iload_n 2, 1) := by decide +kernel
theorem dX4_beginsFreeDraw_3 : decode cX4_beginsFreeDraw 3 = .ok (.bipush 10, 2) := by decide +kernel
theorem dX4_beginsFreeDraw_5 : decode cX4_beginsFreeDraw 5 = .ok (.if_icmp .ge 24, 3) := by decide +kernel
theorem dX4_beginsFreeDraw_8 : decode cX4_beginsFreeDraw 8 = .ok (.aload_n 0, 1) := by decide +kernel
theorem dX4_beginsFreeDraw_9 : decode cX4_beginsFreeDraw 9 = .ok (.bipush 10, 2) := by decide +kernel
theorem dX4_beginsFreeDraw_11 : decode cX4_beginsFreeDraw 11 = .ok (.iload_n 1, 1) := by decide +kernel
theorem dX4_beginsFreeDraw_12 : decode cX4_beginsFreeDraw 12 = .ok (.imul, 1) := by decide +kernel
theorem dX4_beginsFreeDraw_13 : decode cX4_beginsFreeDraw 13 = .ok (.iload_n 2, 1) := by decide +kernel
theorem dX4_beginsFreeDraw_14 : decode cX4_beginsFreeDraw 14 = .ok (.iadd, 1) := by decide +kernel
theorem dX4_beginsFreeDraw_15 : decode cX4_beginsFreeDraw 15 = .ok (.invokestatic 63, 3) := by decide +kernel
theorem dX4_beginsFreeDraw_18 : decode cX4_beginsFreeDraw 18 = .ok (.ifCond .eq 5, 3) := by decide +kernel
theorem dX4_beginsFreeDraw_21 : decode cX4_beginsFreeDraw 21 = .ok (.iconst 1, 1) := by decide +kernel
theorem dX4_beginsFreeDraw_22 : decode cX4_beginsFreeDraw 22 = .ok (.ireturn, 1) := by decide +kernel
theorem dX4_beginsFreeDraw_23 : decode cX4_beginsFreeDraw 23 = .ok (.iinc 2 1, 3) := by decide +kernel
theorem dX4_beginsFreeDraw_26 : decode cX4_beginsFreeDraw 26 = .ok (.goto (-24), 3) := by decide +kernel
theorem dX4_beginsFreeDraw_29 : decode cX4_beginsFreeDraw 29 = .ok (.iconst 0, 1) := by decide +kernel
theorem dX4_beginsFreeDraw_30 : decode cX4_beginsFreeDraw 30 = .ok (.ireturn, 1) := by decide +kernel
set_option maxRecDepth 20000 in
theorem ggX4_isFreeDraw_X5_isDraw : GoodIn wsX4_isFreeDraw wsX5_isDraw := goodIn_r _ [3] (by decide +kernel) (by decide +kernel)
set_option maxRecDepth 20000 in
theorem gX4_isFreeDraw_X5_isDraw_n70 : GoodIn wsX4_isFreeDraw (wsX5_isDraw) := ggX4_isFreeDraw_X5_isDraw
set_option maxRecDepth 20000 in
theorem ggX4_isFreeDraw_X3_dogWithDraw : GoodIn wsX4_isFreeDraw wsX3_dogWithDraw := goodIn_r _ [8, 9, 10, 11, 12, 13, 14, 15, 16, 17, 18, 19, 20, 21, 22, 23, 24, 25] (by decide +kernel) (by decide +kernel)
set_option maxRecDepth 20000 in
theorem gX4_isFreeDraw_X3_dogWithDraw : GoodIn wsX4_isFreeDraw (wsV RX4 73 RX3 yX3_dogWithDraw wsX3_dogWithDraw) := goodIn_app (goodIn_of _ (by decide +kernel)) ggX4_isFreeDraw_X3_dogWithDraw
theorem dX4_isFreeDraw_0 : decode cX4_isFreeDraw 0 = .ok (.iload_n 1, 1) := by decide +kernel
theorem dX4_isFreeDraw_1 : decode cX4_isFreeDraw 1 = .ok (.invokestatic 70, 3) := by decide +kernel
theorem dX4_isFreeDraw_4 : decode cX4_isFreeDraw 4 = .ok (.ifCond .eq 17, 3) := by decide +kernel
theorem dX4_isFreeDraw_7 : decode cX4_isFreeDraw 7 = .ok (.aload_n 0, 1) := by decide +kernel
theorem dX4_isFreeDraw_8 : decode cX4_isFreeDraw 8 = .ok (.iload_n 1, 1) := by decide +kernel
theorem dX4_isFreeDraw_9 : decode cX4_isFreeDraw 9 = .ok (.invokevirtual 73, 3) := by decide +kernel
theorem dX4_isFreeDraw_12 : decode cX4_isFreeDraw 12 = .ok (.bipush (-9), 2) := by decide +kernel
theorem dX4_isFreeDraw_14 : decode cX4_isFreeDraw 14 = .ok (.if_icmp .ne 7, 3) := by decide +kernel
theorem dX4_isFreeDraw_17 : decode cX4_isFreeDraw 17 = .ok (.iconst 1, 1) := by decide +kernel
theorem dX4_isFreeDraw_18 : decode cX4_isFreeDraw 18 = .ok (.goto 4, 3) := by decide +kernel
theorem dX4_isFreeDraw_21 : decode cX4_isFreeDraw 21 = .ok (.iconst 0, 1) := by decide +kernel
theorem dX4_isFreeDraw_22 : decode cX4_isFreeDraw 22 = .ok (.ireturn, 1) := by decide +kernel
set_option maxRecDepth 20000 in
theorem ggX4_readRank_X4_digit : GoodIn wsX4_readRank wsX4_digit := goodIn_r _ [7, 2, 8, 9, 28, 29, 30] (by decide +kernel) (by decide +kernel)
set_option maxRecDepth 20000 in
theorem gX4_readRank_X4_digit : GoodIn wsX4_readRank (wsV RX4 44 RX4 yX4_digit wsX4_digit) := goodIn_app (goodIn_of _ (by decide +kernel)) ggX4_readRank_X4_digit
set_option maxRecDepth 20000 in
theorem ggX4_readRank_X5_isPhase : GoodIn wsX4_readRank wsX5_isPhase := goodIn_r _ [12] (by decide +kernel) (by decide +kernel)
set_option maxRecDepth 20000 in
theorem gX4_readRank_X5_isPhase_n77 : GoodIn wsX4_readRank (wsX5_isPhase) := ggX4_readRank_X5_isPhase
theorem dX4_readRank_0 : decode cX4_readRank 0 = .ok (.iconst 0, 1) := by decide +kernel
theorem dX4_readRank_1 : decode cX4_readRank 1 = .ok (.istore_n 2, 1) := by decide +kernel
theorem dX4_readRank_2 : decode cX4_readRank 2 = .ok (.iconst 0, 1) := by decide +kernel
theorem dX4_readRank_3 : decode cX4_readRank 3 = .ok (.istore_n 3, 1) := by decide +kernel
theorem dX4_readRank_4 : decode cX4_readRank 4 = .ok (.iload_n 3, 1) := by decide +kernel
theorem dX4_readRank_5 : decode cX4_readRank 5 = .ok (.bipush 6, 2) := by decide +kernel
theorem dX4_readRank_7 : decode cX4_readRank 7 = .ok (.if_icmp .ge 66, 3) := by decide +kernel
theorem dX4_readRank_10 : decode cX4_readRank 10 = .ok (.aload_n 0, 1) := by decide +kernel
theorem dX4_readRank_11 : decode cX4_readRank 11 = .ok (.invokevirtual 44, 3) := by decide +kernel
theorem dX4_readRank_14 : decode cX4_readRank 14 = .ok (.istore 4, 2) := by decide +kernel
theorem dX4_readRank_16 : decode cX4_readRank 16 = .ok (.iload 4, 2) := by decide +kernel
theorem dX4_readRank_18 : decode cX4_readRank 18 = .ok (.bipush (-9), 2) := by decide +kernel
theorem dX4_readRank_20 : decode cX4_readRank 20 = .ok (.if_icmp .eq 20, 3) := by decide +kernel
theorem dX4_readRank_23 : decode cX4_readRank 23 = .ok (.iload 4, 2) := by decide +kernel
theorem dX4_readRank_25 : decode cX4_readRank 25 = .ok (.invokestatic 77, 3) := by decide +kernel
theorem dX4_readRank_28 : decode cX4_readRank 28 = .ok (.ifCond .eq 12, 3) := by decide +kernel
theorem dX4_readRank_31 : decode cX4_readRank 31 = .ok (.iload_n 2, 1) := by decide +kernel
theorem dX4_readRank_32 : decode cX4_readRank 32 = .ok (.iload 4, 2) := by decide +kernel
theorem dX4_readRank_34 : decode cX4_readRank 34 = .ok (.ishr, 1) := by decide +kernel
theorem dX4_readRank_35 : decode cX4_readRank 35 = .ok (.iconst 1, 1) := by decide +kernel
theorem dX4_readRank_36 : decode cX4_readRank 36 = .ok (.iand, 1) := by decide +kernel
theorem dX4_readRank_37 : decode cX4_readRank 37 = .ok (.ifCond .eq 5, 3) := by decide +kernel
theorem dX4_readRank_40 : decode cX4_readRank 40 = .ok (.iconst 0, 1) := by decide +kernel
theorem dX4_readRank_41 : decode cX4_readRank 41 = .ok (.ireturn, 1) := by decide +kernel
theorem dX4_readRank_42 : decode cX4_readRank 42 = .ok (.iload_n 2, 1) := by decide +kernel
theorem dX4_readRank_43 : decode cX4_readRank 43 = .ok (.iconst 1, 1) := by decide +kernel
theorem dX4_readRank_44 : decode cX4_readRank 44 = .ok (.iload 4, 2) := by decide +kernel
theorem dX4_readRank_46 : decode cX4_readRank 46 = .ok (.ishl, 1) := by decide +kernel
theorem dX4_readRank_47 : decode cX4_readRank 47 = .ok (.ior, 1) := by decide +kernel
theorem dX4_readRank_48 : decode cX4_readRank 48 = .ok (.istore_n 2, 1) := by decide +kernel
theorem dX4_readRank_49 : decode cX4_readRank 49 = .ok (.aload_n 1, 1) := by decide +kernel
theorem dX4_readRank_50 : decode cX4_readRank 50 = .ok (.getfield 80, 3) := by decide +kernel
theorem dX4_readRank_53 : decode cX4_readRank 53 = .ok (.iload_n 3, 1) := by decide +kernel
theorem dX4_readRank_54 : decode cX4_readRank 54 = .ok (.iload 4, 2) := by decide +kernel
theorem dX4_readRank_56 : decode cX4_readRank 56 = .ok (.iastore, 1) := by decide +kernel
theorem dX4_readRank_57 : decode cX4_readRank 57 = .ok (.aload_n 0, 1) := by decide +kernel
theorem dX4_readRank_58 : decode cX4_readRank 58 = .ok (.dup, 1) := by decide +kernel
theorem dX4_readRank_59 : decode cX4_readRank 59 = .ok (.getfield 24, 3) := by decide +kernel
theorem dX4_readRank_62 : decode cX4_readRank 62 = .ok (.iconst 1, 1) := by decide +kernel
theorem dX4_readRank_63 : decode cX4_readRank 63 = .ok (.iadd, 1) := by decide +kernel
theorem dX4_readRank_64 : decode cX4_readRank 64 = .ok (.putfield 24, 3) := by decide +kernel
theorem dX4_readRank_67 : decode cX4_readRank 67 = .ok (.iinc 3 1, 3) := by decide +kernel
theorem dX4_readRank_70 : decode cX4_readRank 70 = .ok (.goto (-66), 3) := by decide +kernel
theorem dX4_readRank_73 : decode cX4_readRank 73 = .ok (.iconst 1, 1) := by decide +kernel
theorem dX4_readRank_74 : decode cX4_readRank 74 = .ok (.ireturn, 1) := by decide +kernel
