set_option maxRecDepth 20000 in
theorem ggX3_init_X3_makeNew : GoodIn wsX3_init wsX3_makeNew := goodIn_r _ [17, 18, 12, 19, 20, 21, 22, 23, 24, 25, 26, 27, 28, 29, 30, 31, 32, 33, 34, 35, 36, 37, 38, 39, 40] (by decide +kernel) (by decide +kernel)
set_option maxRecDepth 20000 in
theorem gX3_init_X3_makeNew : GoodIn wsX3_init (wsV RX3 34 RX3 yX3_makeNew wsX3_makeNew) := goodIn_app (goodIn_of _ (by decide +kernel)) ggX3_init_X3_makeNew
theorem dX3_init_0 : decode cX3_init 0 = .ok (.aload_n 0, 1) := by decide +kernel
theorem dX3_init_1 : decode cX3_init 1 = .ok (.invokespecial 3, 3) := by decide +kernel
theorem dX3_init_4 : decode cX3_init 4 = .ok (.aload_n 0, 1) := by decide +kernel
theorem dX3_init_5 : decode cX3_init 5 = .ok (.bipush 12, 2) := by decide +kernel
theorem dX3_init_7 : decode cX3_init 7 = .ok (.newarray .int, 2) := by decide +kernel
theorem dX3_init_9 : decode cX3_init 9 = .ok (.putfield 9, 3) := by decide +kernel
theorem dX3_init_12 : decode cX3_init 12 = .ok (.aload_n 0, 1) := by decide +kernel
theorem dX3_init_13 : decode cX3_init 13 = .ok (.bipush 12, 2) := by decide +kernel
theorem dX3_init_15 : decode cX3_init 15 = .ok (.newarray .int, 2) := by decide +kernel
theorem dX3_init_17 : decode cX3_init 17 = .ok (.putfield 15, 3) := by decide +kernel
theorem dX3_init_20 : decode cX3_init 20 = .ok (.aload_n 0, 1) := by decide +kernel
theorem dX3_init_21 : decode cX3_init 21 = .ok (.bipush 12, 2) := by decide +kernel
theorem dX3_init_23 : decode cX3_init 23 = .ok (.newarray .int, 2) := by decide +kernel
theorem dX3_init_25 : decode cX3_init 25 = .ok (.putfield 18, 3) := by decide +kernel
theorem dX3_init_28 : decode cX3_init 28 = .ok (.aload_n 0, 1) := by decide +kernel
theorem dX3_init_29 : decode cX3_init 29 = .ok (.bipush 12, 2) := by decide +kernel
theorem dX3_init_31 : decode cX3_init 31 = .ok (.newarray .boolean, 2) := by decide +kernel
theorem dX3_init_33 : decode cX3_init 33 = .ok (.putfield 21, 3) := by decide +kernel
theorem dX3_init_36 : decode cX3_init 36 = .ok (.aload_n 0, 1) := by decide +kernel
theorem dX3_init_37 : decode cX3_init 37 = .ok (.bipush 12, 2) := by decide +kernel
theorem dX3_init_39 : decode cX3_init 39 = .ok (.newarray .int, 2) := by decide +kernel
theorem dX3_init_41 : decode cX3_init 41 = .ok (.putfield 25, 3) := by decide +kernel
theorem dX3_init_44 : decode cX3_init 44 = .ok (.aload_n 0, 1) := by decide +kernel
theorem dX3_init_45 : decode cX3_init 45 = .ok (.bipush 72, 2) := by decide +kernel
theorem dX3_init_47 : decode cX3_init 47 = .ok (.newarray .int, 2) := by decide +kernel
theorem dX3_init_49 : decode cX3_init 49 = .ok (.putfield 28, 3) := by decide +kernel
theorem dX3_init_52 : decode cX3_init 52 = .ok (.aload_n 0, 1) := by decide +kernel
theorem dX3_init_53 : decode cX3_init 53 = .ok (.bipush 6, 2) := by decide +kernel
theorem dX3_init_55 : decode cX3_init 55 = .ok (.newarray .int, 2) := by decide +kernel
theorem dX3_init_57 : decode cX3_init 57 = .ok (.putfield 31, 3) := by decide +kernel
theorem dX3_init_60 : decode cX3_init 60 = .ok (.aload_n 0, 1) := by decide +kernel
theorem dX3_init_61 : decode cX3_init 61 = .ok (.invokevirtual 34, 3) := by decide +kernel
theorem dX3_init_64 : decode cX3_init 64 = .ok (.return_, 1) := by decide +kernel
theorem dX3_makeNew_0 : decode cX3_makeNew 0 = .ok (.aload_n 0, 1) := by decide +kernel
theorem dX3_makeNew_1 : decode cX3_makeNew 1 = .ok (.iconst 0, 1) := by decide +kernel
theorem dX3_makeNew_2 : decode cX3_makeNew 2 = .ok (.putfield 37, 3) := by decide +kernel
theorem dX3_makeNew_5 : decode cX3_makeNew 5 = .ok (.iconst 0, 1) := by decide +kernel
theorem dX3_makeNew_6 : decode cX3_makeNew 6 = .ok (.istore_n 1, 1) := by decide +kernel
theorem dX3_makeNew_7 : decode cX3_makeNew 7 = .ok (.iload_n 1, 1) := by decide +kernel
theorem dX3_makeNew_8 : decode cX3_makeNew 8 = .ok (.bipush 6, 2) := by decide +kernel
theorem dX3_makeNew_10 : decode cX3_makeNew 10 = .ok (.if_icmp .ge 16, 3) := by decide +kernel
theorem dX3_makeNew_13 : decode cX3_makeNew 13 = .ok (.aload_n 0, 1) := by decide +kernel
theorem dX3_makeNew_14 : decode cX3_makeNew 14 = .ok (.getfield 31, 3) := by decide +kernel
theorem dX3_makeNew_17 : decode cX3_makeNew 17 = .ok (.iload_n 1, 1) := by decide +kernel
theorem dX3_makeNew_18 : decode cX3_makeNew 18 = .ok (.iload_n 1, 1) := by decide +kernel
theorem dX3_makeNew_19 : decode cX3_makeNew 19 = .ok (.iastore, 1) := by decide +kernel
theorem dX3_makeNew_20 : decode cX3_makeNew 20 = .ok (.iinc 1 1, 3) := by decide +kernel
theorem dX3_makeNew_23 : decode cX3_makeNew 23 = .ok (.goto (-16), 3) := by decide +kernel
theorem dX3_makeNew_26 : decode cX3_makeNew 26 = .ok (.aload_n 0, 1) := by decide +kernel
theorem dX3_makeNew_27 : decode cX3_makeNew 27 = .ok (.iconst 0, 1) := by decide +kernel
theorem dX3_makeNew_28 : decode cX3_makeNew 28 = .ok (.putfield 41, 3) := by decide +kernel
theorem dX3_makeNew_31 : decode cX3_makeNew 31 = .ok (.aload_n 0, 1) := by decide +kernel
theorem dX3_makeNew_32 : decode cX3_makeNew 32 = .ok (.iconst 0, 1) := by decide +kernel
theorem dX3_makeNew_33 : decode cX3_makeNew 33 = .ok (.putfield 44, 3) := by decide +kernel
theorem dX3_makeNew_36 : decode cX3_makeNew 36 = .ok (.aload_n 0, 1) := by decide +kernel
theorem dX3_makeNew_37 : decode cX3_makeNew 37 = .ok (.sipush 300, 3) := by decide +kernel
theorem dX3_makeNew_40 : decode cX3_makeNew 40 = .ok (.putfield 47, 3) := by decide +kernel
theorem dX3_makeNew_43 : decode cX3_makeNew 43 = .ok (.aload_n 0, 1) := by decide +kernel
theorem dX3_makeNew_44 : decode cX3_makeNew 44 = .ok (.bipush (-9), 2) := by decide +kernel
theorem dX3_makeNew_46 : decode cX3_makeNew 46 = .ok (.putfield 50, 3) := by decide +kernel
theorem dX3_makeNew_49 : decode cX3_makeNew 49 = .ok (.aload_n 0, 1) := by decide +kernel
theorem dX3_makeNew_50 : decode cX3_makeNew 50 = .ok (.iconst 0, 1) := by decide +kernel
theorem dX3_makeNew_51 : decode cX3_makeNew 51 = .ok (.putfield 53, 3) := by decide +kernel
theorem dX3_makeNew_54 : decode cX3_makeNew 54 = .ok (.aload_n 0, 1) := by decide +kernel
theorem dX3_makeNew_55 : decode cX3_makeNew 55 = .ok (.iconst 0, 1) := by decide +kernel
theorem dX3_makeNew_56 : decode cX3_makeNew 56 = .ok (.putfield 56, 3) := by decide +kernel
theorem dX3_makeNew_59 : decode cX3_makeNew 59 = .ok (.aload_n 0, 1) := by decide +kernel
theorem dX3_makeNew_60 : decode cX3_makeNew 60 = .ok (.iconst 0, 1) := by decide +kernel
theorem dX3_makeNew_61 : decode cX3_makeNew 61 = .ok (.putfield 59, 3) := by decide +kernel
theorem dX3_makeNew_64 : decode cX3_makeNew 64 = .ok (.return_, 1) := by decide +kernel
theorem dX3_copyFrom_0 : decode cX3_copyFrom 0 = .ok (.aload_n 0, 1) := by decide +kernel
theorem dX3_copyFrom_1 : decode cX3_copyFrom 1 = .ok (.aload_n 1, 1) := by decide +kernel
theorem dX3_copyFrom_2 : decode cX3_copyFrom 2 = .ok (.getfield 37, 3) := by decide +kernel
theorem dX3_copyFrom_5 : decode cX3_copyFrom 5 = .ok (.putfield 37, 3) := by decide +kernel
theorem dX3_copyFrom_8 : decode cX3_copyFrom 8 = .ok (.aload_n 1, 1) := by decide +kernel
theorem dX3_copyFrom_9 : decode cX3_copyFrom 9 = .ok (.getfield 9, 3) := by decide +kernel
theorem dX3_copyFrom_12 : decode cX3_copyFrom 12 = .ok (.iconst 0, 1) := by decide +kernel
theorem dX3_copyFrom_13 : decode cX3_copyFrom 13 = .ok (.aload_n 0, 1) := by decide +kernel
theorem dX3_copyFrom_14 : decode cX3_copyFrom 14 = .ok (.getfield 9, 3) := by decide +kernel
theorem dX3_copyFrom_17 : decode cX3_copyFrom 17 = .ok (.iconst 0, 1) := by decide +kernel
theorem dX3_copyFrom_18 : decode cX3_copyFrom 18 = .ok (.bipush 12, 2) := by decide +kernel
theorem dX3_copyFrom_20 : decode cX3_copyFrom 20 = .ok (.invokestatic 62, 3) := by decide +kernel
theorem dX3_copyFrom_23 : decode cX3_copyFrom 23 = .ok (.aload_n 1, 1) := by decide +kernel
theorem dX3_copyFrom_24 : decode cX3_copyFrom 24 = .ok (.getfield 15, 3) := by decide +kernel
theorem dX3_copyFrom_27 : decode cX3_copyFrom 27 = .ok (.iconst 0, 1) := by decide +kernel
theorem dX3_copyFrom_28 : decode cX3_copyFrom 28 = .ok (.aload_n 0, 1) := by decide +kernel
theorem dX3_copyFrom_29 : decode cX3_copyFrom 29 = .ok (.getfield 15, 3) := by decide +kernel
theorem dX3_copyFrom_32 : decode cX3_copyFrom 32 = .ok (.iconst 0, 1) := by decide +kernel
theorem dX3_copyFrom_33 : decode cX3_copyFrom 33 = .ok (.bipush 12, 2) := by decide +kernel
theorem dX3_copyFrom_35 : decode cX3_copyFrom 35 = .ok (.invokestatic 62, 3) := by decide +kernel
theorem dX3_copyFrom_38 : decode cX3_copyFrom 38 = .ok (.aload_n 1, 1) := by decide +kernel
theorem dX3_copyFrom_39 : decode cX3_copyFrom 39 = .ok (.getfield 18, 3) := by decide +kernel
theorem dX3_copyFrom_42 : decode cX3_copyFrom 42 = .ok (.iconst 0, 1) := by decide +kernel
theorem dX3_copyFrom_43 : decode cX3_copyFrom 43 = .ok (.aload_n 0, 1) := by decide +kernel
theorem dX3_copyFrom_44 : decode cX3_copyFrom 44 = .ok (.getfield 18, 3) := by decide +kernel
theorem dX3_copyFrom_47 : decode cX3_copyFrom 47 = .ok (.iconst 0, 1) := by decide +kernel
theorem dX3_copyFrom_48 : decode cX3_copyFrom 48 = .ok (.bipush 12, 2) := by decide +kernel
theorem dX3_copyFrom_50 : decode cX3_copyFrom 50 = .ok (.invokestatic 62, 3) := by decide +kernel
theorem dX3_copyFrom_53 : decode cX3_copyFrom 53 = .ok (.aload_n 1, 1) := by decide +kernel
theorem dX3_copyFrom_54 : decode cX3_copyFrom 54 = .ok (.getfield 25, 3) := by decide +kernel
theorem dX3_copyFrom_57 : decode cX3_copyFrom 57 = .ok (.iconst 0, 1) := by decide +kernel
theorem dX3_copyFrom_58 : decode cX3_copyFrom 58 = .ok (.aload_n 0, 1) := by decide +kernel
theorem dX3_copyFrom_59 : decode cX3_copyFrom 59 = .ok (.getfield 25, 3) := by decide +kernel
theorem dX3_copyFrom_62 : decode cX3_copyFrom 62 = .ok (.iconst 0, 1) := by decide +kernel
theorem dX3_copyFrom_63 : decode cX3_copyFrom 63 = .ok (.bipush 12, 2) := by decide +kernel
theorem dX3_copyFrom_65 : decode cX3_copyFrom 65 = .ok (.invokestatic 62, 3) := by decide +kernel
theorem dX3_copyFrom_68 : decode cX3_copyFrom 68 = .ok (.aload_n 1, 1) := by decide +kernel
theorem dX3_copyFrom_69 : decode cX3_copyFrom 69 = .ok (.getfield 28, 3) := by decide +kernel
theorem dX3_copyFrom_72 : decode cX3_copyFrom 72 = .ok (.iconst 0, 1) := by decide +kernel
theorem dX3_copyFrom_73 : decode cX3_copyFrom 73 = .ok (.aload_n 0, 1) := by decide +kernel
theorem dX3_copyFrom_74 : decode cX3_copyFrom 74 = .ok (.getfield 28, 3) := by decide +kernel
theorem dX3_copyFrom_77 : decode cX3_copyFrom 77 = .ok (.iconst 0, 1) := by decide +kernel
theorem dX3_copyFrom_78 : decode cX3_copyFrom 78 = .ok (.bipush 72, 2) := by decide +kernel
theorem dX3_copyFrom_80 : decode cX3_copyFrom 80 = .ok (.invokestatic 62, 3) := by decide +kernel
theorem dX3_copyFrom_83 : decode cX3_copyFrom 83 = .ok (.aload_n 1, 1) := by decide +kernel
theorem dX3_copyFrom_84 : decode cX3_copyFrom 84 = .ok (.getfield 31, 3) := by decide +kernel
theorem dX3_copyFrom_87 : decode cX3_copyFrom 87 = .ok (.iconst 0, 1) := by decide +kernel
theorem dX3_copyFrom_88 : decode cX3_copyFrom 88 = .ok (.aload_n 0, 1) := by decide +kernel
theorem dX3_copyFrom_89 : decode cX3_copyFrom 89 = .ok (.getfield 31, 3) := by decide +kernel
theorem dX3_copyFrom_92 : decode cX3_copyFrom 92 = .ok (.iconst 0, 1) := by decide +kernel
theorem dX3_copyFrom_93 : decode cX3_copyFrom 93 = .ok (.bipush 6, 2) := by decide +kernel
theorem dX3_copyFrom_95 : decode cX3_copyFrom 95 = .ok (.invokestatic 62, 3) := by decide +kernel
theorem dX3_copyFrom_98 : decode cX3_copyFrom 98 = .ok (.iconst 0, 1) := by decide +kernel
theorem dX3_copyFrom_99 : decode cX3_copyFrom 99 = .ok (.istore_n 2, 1) := by decide +kernel
theorem dX3_copyFrom_100 : decode cX3_copyFrom 100 = .ok (.iload_n 2, 1) := by decide +kernel
theorem dX3_copyFrom_101 : decode cX3_copyFrom 101 = .ok (.bipush 12, 2) := by decide +kernel
theorem dX3_copyFrom_103 : decode cX3_copyFrom 103 = .ok (.if_icmp .ge 21, 3) := by decide +kernel
theorem dX3_copyFrom_106 : decode cX3_copyFrom 106 = .ok (.aload_n 0, 1) := by decide +kernel
theorem dX3_copyFrom_107 : decode cX3_copyFrom 107 = .ok (.getfield 21, 3) := by decide +kernel
theorem dX3_copyFrom_110 : decode cX3_copyFrom 110 = .ok (.iload_n 2, 1) := by decide +kernel
theorem dX3_copyFrom_111 : decode cX3_copyFrom 111 = .ok (.aload_n 1, 1) := by decide +kernel
theorem dX3_copyFrom_112 : decode cX3_copyFrom 112 = .ok (.getfield 21, 3) := by decide +kernel
theorem dX3_copyFrom_115 : decode cX3_copyFrom 115 = .ok (.iload_n 2, 1) := by decide +kernel
theorem dX3_copyFrom_116 : decode cX3_copyFrom 116 = .ok (.baload, 1) := by decide +kernel
theorem dX3_copyFrom_117 : decode cX3_copyFrom 117 = .ok (.bastore, 1) := by decide +kernel
theorem dX3_copyFrom_118 : decode cX3_copyFrom 118 = .ok (.iinc 2 1, 3) := by decide +kernel
theorem dX3_copyFrom_121 : decode cX3_copyFrom 121 = .ok (.goto (-21), 3) := by decide +kernel
theorem dX3_copyFrom_124 : decode cX3_copyFrom 124 = .ok (.aload_n 0, 1) := by decide +kernel
theorem dX3_copyFrom_125 : decode cX3_copyFrom 125 = .ok (.aload_n 1, 1) := by decide +kernel
theorem dX3_copyFrom_126 : decode cX3_copyFrom 126 = .ok (.getfield 41, 3) := by decide +kernel
theorem dX3_copyFrom_129 : decode cX3_copyFrom 129 = .ok (.putfield 41, 3) := by decide +kernel
theorem dX3_copyFrom_132 : decode cX3_copyFrom 132 = .ok (.aload_n 0, 1) := by decide +kernel
theorem dX3_copyFrom_133 : decode cX3_copyFrom 133 = .ok (.aload_n 1, 1) := by decide +kernel
theorem dX3_copyFrom_134 : decode cX3_copyFrom 134 = .ok (.getfield 44, 3) := by decide +kernel
theorem dX3_copyFrom_137 : decode cX3_copyFrom 137 = .ok (.putfield 44, 3) := by decide +kernel
theorem dX3_copyFrom_140 : decode cX3_copyFrom 140 = .ok (.aload_n 0, 1) := by decide +kernel
theorem dX3_copyFrom_141 : decode cX3_copyFrom 141 = .ok (.aload_n 1, 1) := by decide +kernel
theorem dX3_copyFrom_142 : decode cX3_copyFrom 142 = .ok (.getfield 47, 3) := by decide +kernel
theorem dX3_copyFrom_145 : decode cX3_copyFrom 145 = .ok (.putfield 47, 3) := by decide +kernel
theorem dX3_copyFrom_148 : decode cX3_copyFrom 148 = .ok (.aload_n 0, 1) := by decide +kernel
theorem dX3_copyFrom_149 : decode cX3_copyFrom 149 = .ok (.aload_n 1, 1) := by decide +kernel
theorem dX3_copyFrom_150 : decode cX3_copyFrom 150 = .ok (.getfield 50, 3) := by decide +kernel
theorem dX3_copyFrom_153 : decode cX3_copyFrom 153 = .ok (.putfield 50, 3) := by decide +kernel
theorem dX3_copyFrom_156 : decode cX3_copyFrom 156 = .ok (.aload_n 0, 1) := by decide +kernel
theorem dX3_copyFrom_157 : decode cX3_copyFrom 157 = .ok (.aload_n 1, 1) := by decide +kernel
theorem dX3_copyFrom_158 : decode cX3_copyFrom 158 = .ok (.getfield 53, 3) := by decide +kernel
theorem dX3_copyFrom_161 : decode cX3_copyFrom 161 = .ok (.putfield 53, 3) := by decide +kernel
theorem dX3_copyFrom_164 : decode cX3_copyFrom 164 = .ok (.aload_n 0, 1) := by decide +kernel
theorem dX3_copyFrom_165 : decode cX3_copyFrom 165 = .ok (.aload_n 1, 1) := by decide +kernel
theorem dX3_copyFrom_166 : decode cX3_copyFrom 166 = .ok (.getfield 56, 3) := by decide +kernel
theorem dX3_copyFrom_169 : decode cX3_copyFrom 169 = .ok (.putfield 56, 3) := by decide +kernel
theorem dX3_copyFrom_172 : decode cX3_copyFrom 172 = .ok (.aload_n 0, 1) := by decide +kernel
theorem dX3_copyFrom_173 : decode cX3_copyFrom 173 = .ok (.aload_n 1, 1) := by decide +kernel
theorem dX3_copyFrom_174 : decode cX3_copyFrom 174 = .ok (.getfield 59, 3) := by decide +kernel
theorem dX3_copyFrom_177 : decode cX3_copyFrom 177 = .ok (.putfield 59, 3) := by decide +kernel
theorem dX3_copyFrom_180 : decode cX3_copyFrom 180 = .ok (.return_, 1) := by decide +kernel
theorem dX3_hasDog_0 : decode cX3_hasDog 0 = .ok (.iload_n 1, 1) := by decide +kernel
theorem dX3_hasDog_1 : decode cX3_hasDog 1 = .ok (.ifCond .lt 15, 3) := by decide +kernel
theorem dX3_hasDog_4 : decode cX3_hasDog 4 = .ok (.iload_n 1, 1) := by decide +kernel
theorem dX3_hasDog_5 : decode cX3_hasDog 5 = .ok (.aload_n 0, 1) := by decide +kernel
theorem dX3_hasDog_6 : decode cX3_hasDog 6 = .ok (.getfield 37, 3) := by decide +kernel
theorem dX3_hasDog_9 : decode cX3_hasDog 9 = .ok (.if_icmp .ge 7, 3) := by decide +kernel
theorem dX3_hasDog_12 : decode cX3_hasDog 12 = .ok (.iconst 1, 1) := by decide +kernel
theorem dX3_hasDog_13 : decode cX3_hasDog 13 = .ok (.goto 4, 3) := by decide +kernel
theorem dX3_hasDog_16 : decode cX3_hasDog 16 = .ok (.iconst 0, 1) := by decide +kernel
theorem dX3_hasDog_17 : decode cX3_hasDog 17 = .ok (.ireturn, 1) := by decide +kernel
theorem dX3_isToRun_0 : decode cX3_isToRun 0 = .ok (.aload_n 0, 1) := by decide +kernel
theorem dX3_isToRun_1 : decode cX3_isToRun 1 = .ok (.getfield 18, 3) := by decide +kernel
theorem dX3_isToRun_4 : decode cX3_isToRun 4 = .ok (.iload_n 1, 1) := by decide +kernel
theorem dX3_isToRun_5 : decode cX3_isToRun 5 = .ok (.iaload, 1) := by decide +kernel
theorem dX3_isToRun_6 : decode cX3_isToRun 6 = .ok (.ifCond .eq 13, 3) := by decide +kernel
theorem dX3_isToRun_9 : decode cX3_isToRun 9 = .ok (.aload_n 0, 1) := by decide +kernel
theorem dX3_isToRun_10 : decode cX3_isToRun 10 = .ok (.getfield 18, 3) := by decide +kernel
theorem dX3_isToRun_13 : decode cX3_isToRun 13 = .ok (.iload_n 1, 1) := by decide +kernel
theorem dX3_isToRun_14 : decode cX3_isToRun 14 = .ok (.iaload, 1) := by decide +kernel
theorem dX3_isToRun_15 : decode cX3_isToRun 15 = .ok (.iconst 2, 1) := by decide +kernel
theorem dX3_isToRun_16 : decode cX3_isToRun 16 = .ok (.if_icmp .ne 7, 3) := by decide +kernel
theorem dX3_isToRun_19 : decode cX3_isToRun 19 = .ok (.iconst 1, 1) := by decide +kernel
theorem dX3_isToRun_20 : decode cX3_isToRun 20 = .ok (.goto 4, 3) := by decide +kernel
theorem dX3_isToRun_23 : decode cX3_isToRun 23 = .ok (.iconst 0, 1) := by decide +kernel
theorem dX3_isToRun_24 : decode cX3_isToRun 24 = .ok (.ireturn, 1) := by decide +kernel
set_option maxRecDepth 20000 in
theorem ggX3_dogsToRun_X3_isToRun : GoodIn wsX3_dogsToRun wsX3_isToRun := goodIn_r _ [6, 7, 8, 9, 10, 11, 12, 13, 14, 15, 16, 17, 18, 19, 20, 21, 22] (by decide +kernel) (by decide +kernel)
set_option maxRecDepth 20000 in
theorem gX3_dogsToRun_X3_isToRun : GoodIn wsX3_dogsToRun (wsV RX3 68 RX3 yX3_isToRun wsX3_isToRun) := goodIn_app (goodIn_of _ (by decide +kernel)) ggX3_dogsToRun_X3_isToRun
theorem dX3_dogsToRun_0 : decode cX3_dogsToRun 0 = .ok (.iconst 0, 1) := by decide +kernel
theorem dX3_dogsToRun_1 : decode cX3_dogsToRun 1 = .ok (.istore_n 1, 1) := by decide +kernel
theorem dX3_dogsToRun_2 : decode cX3_dogsToRun 2 = .ok (.iconst 0, 1) := by decide +kernel
theorem dX3_dogsToRun_3 : decode cX3_dogsToRun 3 = .ok (.istore_n 2, 1) := by decide +kernel
theorem dX3_dogsToRun_4 : decode cX3_dogsToRun 4 = .ok (.iload_n 2, 1) := by decide +kernel
theorem dX3_dogsToRun_5 : decode cX3_dogsToRun 5 = .ok (.aload_n 0, 1) := by decide +kernel
theorem dX3_dogsToRun_6 : decode cX3_dogsToRun 6 = .ok (.getfield 37, 3) := by decide +kernel
theorem dX3_dogsToRun_9 : decode cX3_dogsToRun 9 = .ok (.if_icmp .ge 20, 3) := by decide +kernel
theorem dX3_dogsToRun_12 : decode cX3_dogsToRun 12 = .ok (.aload_n 0, 1) := by decide +kernel
theorem dX3_dogsToRun_13 : decode cX3_dogsToRun 13 = .ok (.iload_n 2, 1) := by decide +kernel
theorem dX3_dogsToRun_14 : decode cX3_dogsToRun 14 = .ok (.invokevirtual 68, 3) := by decide +kernel
theorem dX3_dogsToRun_17 : decode cX3_dogsToRun 17 = .ok (.ifCond .eq 6, 3) := by decide +kernel
theorem dX3_dogsToRun_20 : decode cX3_dogsToRun 20 = .ok (.iinc 1 1, 3) := by decide +kernel
theorem dX3_dogsToRun_23 : decode cX3_dogsToRun 23 = .ok (.iinc 2 1, 3) := by decide +kernel
theorem dX3_dogsToRun_26 : decode cX3_dogsToRun 26 = .ok (.goto (-22), 3) := by decide +kernel
theorem dX3_dogsToRun_29 : decode cX3_dogsToRun 29 = .ok (.iload_n 1, 1) := by decide +kernel
theorem dX3_dogsToRun_30 : decode cX3_dogsToRun 30 = .ok (.ireturn, 1) := by decide +kernel
theorem dX3_dogsWithRun_0 : decode cX3_dogsWithRun 0 = .ok (.iconst 0, 1) := by decide +kernel
theorem dX3_dogsWithRun_1 : decode cX3_dogsWithRun 1 = .ok (.istore_n 1, 1) := by decide +kernel
theorem dX3_dogsWithRun_2 : decode cX3_dogsWithRun 2 = .ok (.iconst 0, 1) := by decide +kernel
theorem dX3_dogsWithRun_3 : decode cX3_dogsWithRun 3 = .ok (.istore_n 2, 1) := by decide +kernel
theorem dX3_dogsWithRun_4 : decode cX3_dogsWithRun 4 = .ok (.iload_n 2, 1) := by decide +kernel
theorem dX3_dogsWithRun_5 : decode cX3_dogsWithRun 5 = .ok (.aload_n 0, 1) := by decide +kernel
theorem dX3_dogsWithRun_6 : decode cX3_dogsWithRun 6 = .ok (.getfield 37, 3) := by decide +kernel
theorem dX3_dogsWithRun_9 : decode cX3_dogsWithRun 9 = .ok (.if_icmp .ge 21, 3) := by decide +kernel
theorem dX3_dogsWithRun_12 : decode cX3_dogsWithRun 12 = .ok (.aload_n 0, 1) := by decide +kernel
theorem dX3_dogsWithRun_13 : decode cX3_dogsWithRun 13 = .ok (.getfield 21, 3) := by decide +kernel
theorem dX3_dogsWithRun_16 : decode cX3_dogsWithRun 16 = .ok (.iload_n 2, 1) := by decide +kernel
theorem dX3_dogsWithRun_17 : decode cX3_dogsWithRun 17 = .ok (.baload, 1) := by decide +kernel
theorem dX3_dogsWithRun_18 : decode cX3_dogsWithRun 18 = .ok (.ifCond .eq 6, 3) := by decide +kernel
theorem dX3_dogsWithRun_21 : decode cX3_dogsWithRun 21 = .ok (.iinc 1 1, 3) := by decide +kernel
theorem dX3_dogsWithRun_24 : decode cX3_dogsWithRun 24 = .ok (.iinc 2 1, 3) := by decide +kernel
theorem dX3_dogsWithRun_27 : decode cX3_dogsWithRun 27 = .ok (.goto (-23), 3) := by decide +kernel
theorem dX3_dogsWithRun_30 : decode cX3_dogsWithRun 30 = .ok (.iload_n 1, 1) := by decide +kernel
theorem dX3_dogsWithRun_31 : decode cX3_dogsWithRun 31 = .ok (.ireturn, 1) := by decide +kernel
theorem dX3_dogsWithdrawn_0 : decode cX3_dogsWithdrawn 0 = .ok (.iconst 0, 1) := by decide +kernel
theorem dX3_dogsWithdrawn_1 : decode cX3_dogsWithdrawn 1 = .ok (.istore_n 1, 1) := by decide +kernel
theorem dX3_dogsWithdrawn_2 : decode cX3_dogsWithdrawn 2 = .ok (.iconst 0, 1) := by decide +kernel
theorem dX3_dogsWithdrawn_3 : decode cX3_dogsWithdrawn 3 = .ok (.istore_n 2, 1) := by decide +kernel
theorem dX3_dogsWithdrawn_4 : decode cX3_dogsWithdrawn 4 = .ok (.iload_n 2, 1) := by decide +kernel
theorem dX3_dogsWithdrawn_5 : decode cX3_dogsWithdrawn 5 = .ok (.aload_n 0, 1) := by decide +kernel
theorem dX3_dogsWithdrawn_6 : decode cX3_dogsWithdrawn 6 = .ok (.getfield 37, 3) := by decide +kernel
theorem dX3_dogsWithdrawn_9 : decode cX3_dogsWithdrawn 9 = .ok (.if_icmp .ge 22, 3) := by decide +kernel
theorem dX3_dogsWithdrawn_12 : decode cX3_dogsWithdrawn 12 = .ok (.aload_n 0, 1) := by decide +kernel
theorem dX3_dogsWithdrawn_13 : decode cX3_dogsWithdrawn 13 = .ok (.getfield 18, 3) := by decide +kernel
theorem dX3_dogsWithdrawn_16 : decode cX3_dogsWithdrawn 16 = .ok (.iload_n 2, 1) := by decide +kernel
theorem dX3_dogsWithdrawn_17 : decode cX3_dogsWithdrawn 17 = .ok (.iaload, 1) := by decide +kernel
theorem dX3_dogsWithdrawn_18 : decode cX3_dogsWithdrawn 18 = .ok (.iconst 3, 1) := by decide +kernel
theorem dX3_dogsWithdrawn_19 : decode cX3_dogsWithdrawn 19 = .ok (.if_icmp .ne 6, 3) := by decide +kernel
theorem dX3_dogsWithdrawn_22 : decode cX3_dogsWithdrawn 22 = .ok (.iinc 1 1, 3) := by decide +kernel
theorem dX3_dogsWithdrawn_25 : decode cX3_dogsWithdrawn 25 = .ok (.iinc 2 1, 3) := by decide +kernel
theorem dX3_dogsWithdrawn_28 : decode cX3_dogsWithdrawn 28 = .ok (.goto (-24), 3) := by decide +kernel
theorem dX3_dogsWithdrawn_31 : decode cX3_dogsWithdrawn 31 = .ok (.iload_n 1, 1) := by decide +kernel
theorem dX3_dogsWithdrawn_32 : decode cX3_dogsWithdrawn 32 = .ok (.ireturn, 1) := by decide +kernel
theorem dX3_dogWithDraw_0 : decode cX3_dogWithDraw 0 = .ok (.iconst 0, 1) := by decide +kernel
theorem dX3_dogWithDraw_1 : decode cX3_dogWithDraw 1 = .ok (.istore_n 2, 1) := by decide +kernel
theorem dX3_dogWithDraw_2 : decode cX3_dogWithDraw 2 = .ok (.iload_n 2, 1) := by decide +kernel
theorem dX3_dogWithDraw_3 : decode cX3_dogWithDraw 3 = .ok (.aload_n 0, 1) := by decide +kernel
theorem dX3_dogWithDraw_4 : decode cX3_dogWithDraw 4 = .ok (.getfield 37, 3) := by decide +kernel
theorem dX3_dogWithDraw_7 : decode cX3_dogWithDraw 7 = .ok (.if_icmp .ge 21, 3) := by decide +kernel
theorem dX3_dogWithDraw_10 : decode cX3_dogWithDraw 10 = .ok (.aload_n 0, 1) := by decide +kernel
theorem dX3_dogWithDraw_11 : decode cX3_dogWithDraw 11 = .ok (.getfield 15, 3) := by decide +kernel
theorem dX3_dogWithDraw_14 : decode cX3_dogWithDraw 14 = .ok (.iload_n 2, 1) := by decide +kernel
theorem dX3_dogWithDraw_15 : decode cX3_dogWithDraw 15 = .ok (.iaload, 1) := by decide +kernel
theorem dX3_dogWithDraw_16 : decode cX3_dogWithDraw 16 = .ok (.iload_n 1, 1) := by decide +kernel
theorem dX3_dogWithDraw_17 : decode cX3_dogWithDraw 17 = .ok (.if_icmp .ne 5, 3) := by decide +kernel
theorem dX3_dogWithDraw_20 : decode cX3_dogWithDraw 20 = .ok (.iload_n 2, 1) := by decide +kernel
theorem dX3_dogWithDraw_21 : decode cX3_dogWithDraw 21 = .ok (.ireturn, 1) := by decide +kernel
theorem dX3_dogWithDraw_22 : decode cX3_dogWithDraw 22 = .ok (.iinc 2 1, 3) := by decide +kernel
theorem dX3_dogWithDraw_25 : decode cX3_dogWithDraw 25 = .ok (.goto (-23), 3) := by decide +kernel
theorem dX3_dogWithDraw_28 : decode cX3_dogWithDraw 28 = .ok (.bipush (-9), 2) := by decide +kernel
theorem dX3_dogWithDraw_30 : decode cX3_dogWithDraw 30 = .ok (.ireturn, 1) := by decide +kernel
theorem dX3_ownerThatRanLast_0 : decode cX3_ownerThatRanLast 0 = .ok (.aload_n 0, 1) := by decide +kernel
theorem dX3_ownerThatRanLast_1 : decode cX3_ownerThatRanLast 1 = .ok (.getfield 50, 3) := by decide +kernel
theorem dX3_ownerThatRanLast_4 : decode cX3_ownerThatRanLast 4 = .ok (.ifCond .lt 26, 3) := by decide +kernel
theorem dX3_ownerThatRanLast_7 : decode cX3_ownerThatRanLast 7 = .ok (.aload_n 0, 1) := by decide +kernel
theorem dX3_ownerThatRanLast_8 : decode cX3_ownerThatRanLast 8 = .ok (.getfield 50, 3) := by decide +kernel
theorem dX3_ownerThatRanLast_11 : decode cX3_ownerThatRanLast 11 = .ok (.aload_n 0, 1) := by decide +kernel
theorem dX3_ownerThatRanLast_12 : decode cX3_ownerThatRanLast 12 = .ok (.getfield 37, 3) := by decide +kernel
theorem dX3_ownerThatRanLast_15 : decode cX3_ownerThatRanLast 15 = .ok (.if_icmp .ge 15, 3) := by decide +kernel
theorem dX3_ownerThatRanLast_18 : decode cX3_ownerThatRanLast 18 = .ok (.aload_n 0, 1) := by decide +kernel
theorem dX3_ownerThatRanLast_19 : decode cX3_ownerThatRanLast 19 = .ok (.getfield 9, 3) := by decide +kernel
theorem dX3_ownerThatRanLast_22 : decode cX3_ownerThatRanLast 22 = .ok (.aload_n 0, 1) := by decide +kernel
theorem dX3_ownerThatRanLast_23 : decode cX3_ownerThatRanLast 23 = .ok (.getfield 50, 3) := by decide +kernel
theorem dX3_ownerThatRanLast_26 : decode cX3_ownerThatRanLast 26 = .ok (.iaload, 1) := by decide +kernel
theorem dX3_ownerThatRanLast_27 : decode cX3_ownerThatRanLast 27 = .ok (.goto 5, 3) := by decide +kernel
theorem dX3_ownerThatRanLast_30 : decode cX3_ownerThatRanLast 30 = .ok (.bipush (-9), 2) := by decide +kernel
theorem dX3_ownerThatRanLast_32 : decode cX3_ownerThatRanLast 32 = .ok (.ireturn, 1) := by decide +kernel
theorem dX3_lossOf_0 : decode cX3_lossOf 0 = .ok (.iload_n 2, 1) := by decide +kernel
theorem dX3_lossOf_1 : decode cX3_lossOf 1 = .ok (.aload_n 0, 1) := by decide +kernel
theorem dX3_lossOf_2 : decode cX3_lossOf 2 = .ok (.getfield 25, 3) := by decide +kernel
theorem dX3_lossOf_5 : decode cX3_lossOf 5 = .ok (.iload_n 1, 1) := by decide +kernel
theorem dX3_lossOf_6 : decode cX3_lossOf 6 = .ok (.iaload, 1) := by decide +kernel
theorem dX3_lossOf_7 : decode cX3_lossOf 7 = .ok (.if_icmp .ge 17, 3) := by decide +kernel
theorem dX3_lossOf_10 : decode cX3_lossOf 10 = .ok (.aload_n 0, 1) := by decide +kernel
theorem dX3_lossOf_11 : decode cX3_lossOf 11 = .ok (.getfield 28, 3) := by decide +kernel
theorem dX3_lossOf_14 : decode cX3_lossOf 14 = .ok (.iload_n 1, 1) := by decide +kernel
theorem dX3_lossOf_15 : decode cX3_lossOf 15 = .ok (.bipush 6, 2) := by decide +kernel
theorem dX3_lossOf_17 : decode cX3_lossOf 17 = .ok (.imul, 1) := by decide +kernel
theorem dX3_lossOf_18 : decode cX3_lossOf 18 = .ok (.iload_n 2, 1) := by decide +kernel
theorem dX3_lossOf_19 : decode cX3_lossOf 19 = .ok (.iadd, 1) := by decide +kernel
theorem dX3_lossOf_20 : decode cX3_lossOf 20 = .ok (.iaload, 1) := by decide +kernel
theorem dX3_lossOf_21 : decode cX3_lossOf 21 = .ok (.goto 8, 3) := by decide +kernel
theorem dX3_lossOf_24 : decode cX3_lossOf 24 = .ok (.getstatic 72, 3) := by decide +kernel
theorem dX3_lossOf_27 : decode cX3_lossOf 27 = .ok (.iload_n 2, 1) := by decide +kernel
theorem dX3_lossOf_28 : decode cX3_lossOf 28 = .ok (.iaload, 1) := by decide +kernel
theorem dX3_lossOf_29 : decode cX3_lossOf 29 = .ok (.ireturn, 1) := by decide +kernel
set_option maxRecDepth 20000 in
theorem ggX3_scoreOf_X3_lossOf : GoodIn wsX3_scoreOf wsX3_lossOf := goodIn_r _ [6, 7, 8, 9, 10, 11, 12, 13, 14, 15, 16, 17, 18, 19, 20, 21, 22, 23] (by decide +kernel) (by decide +kernel)
set_option maxRecDepth 20000 in
theorem gX3_scoreOf_X3_lossOf : GoodIn wsX3_scoreOf (wsV RX3 75 RX3 yX3_lossOf wsX3_lossOf) := goodIn_app (goodIn_of _ (by decide +kernel)) ggX3_scoreOf_X3_lossOf
theorem dX3_scoreOf_0 : decode cX3_scoreOf 0 = .ok (.aload_n 0, 1) := by decide +kernel
theorem dX3_scoreOf_1 : decode cX3_scoreOf 1 = .ok (.getfield 21, 3) := by decide +kernel
theorem dX3_scoreOf_4 : decode cX3_scoreOf 4 = .ok (.iload_n 1, 1) := by decide +kernel
theorem dX3_scoreOf_5 : decode cX3_scoreOf 5 = .ok (.baload, 1) := by decide +kernel
theorem dX3_scoreOf_6 : decode cX3_scoreOf 6 = .ok (.ifCond .ne 5, 3) := by decide +kernel
theorem dX3_scoreOf_9 : decode cX3_scoreOf 9 = .ok (.iconst 0, 1) := by decide +kernel
theorem dX3_scoreOf_10 : decode cX3_scoreOf 10 = .ok (.ireturn, 1) := by decide +kernel
theorem dX3_scoreOf_11 : decode cX3_scoreOf 11 = .ok (.bipush 100, 2) := by decide +kernel
theorem dX3_scoreOf_13 : decode cX3_scoreOf 13 = .ok (.istore_n 2, 1) := by decide +kernel
theorem dX3_scoreOf_14 : decode cX3_scoreOf 14 = .ok (.iconst 0, 1) := by decide +kernel
theorem dX3_scoreOf_15 : decode cX3_scoreOf 15 = .ok (.istore_n 3, 1) := by decide +kernel
theorem dX3_scoreOf_16 : decode cX3_scoreOf 16 = .ok (.iload_n 3, 1) := by decide +kernel
theorem dX3_scoreOf_17 : decode cX3_scoreOf 17 = .ok (.bipush 6, 2) := by decide +kernel
theorem dX3_scoreOf_19 : decode cX3_scoreOf 19 = .ok (.if_icmp .ge 18, 3) := by decide +kernel
theorem dX3_scoreOf_22 : decode cX3_scoreOf 22 = .ok (.iload_n 2, 1) := by decide +kernel
theorem dX3_scoreOf_23 : decode cX3_scoreOf 23 = .ok (.aload_n 0, 1) := by decide +kernel
theorem dX3_scoreOf_24 : decode cX3_scoreOf 24 = .ok (.iload_n 1, 1) := by decide +kernel
theorem dX3_scoreOf_25 : decode cX3_scoreOf 25 = .ok (.iload_n 3, 1) := by decide +kernel
theorem dX3_scoreOf_26 : decode cX3_scoreOf 26 = .ok (.invokevirtual 75, 3) := by decide +kernel
theorem dX3_scoreOf_29 : decode cX3_scoreOf 29 = .ok (.isub, 1) := by decide +kernel
theorem dX3_scoreOf_30 : decode cX3_scoreOf 30 = .ok (.istore_n 2, 1) := by decide +kernel
theorem dX3_scoreOf_31 : decode cX3_scoreOf 31 = .ok (.iinc 3 1, 3) := by decide +kernel
theorem dX3_scoreOf_34 : decode cX3_scoreOf 34 = .ok (.goto (-18), 3) := by decide +kernel
theorem dX3_scoreOf_37 : decode cX3_scoreOf 37 = .ok (.iload_n 2, 1) := by decide +kernel
theorem dX3_scoreOf_38 : decode cX3_scoreOf 38 = .ok (.ireturn, 1) := by decide +kernel
set_option maxRecDepth 20000 in
theorem ggX3_sumOfScores_X3_scoreOf : GoodIn wsX3_sumOfScores wsX3_scoreOf := goodIn_r _ [6, 7, 8, 9, 10, 5, 11, 12, 13, 14, 15, 16, 17, 18, 19, 20, 21, 22, 23, 24, 25, 26, 27, 28] (by decide +kernel) (by decide +kernel)
set_option maxRecDepth 20000 in
theorem gX3_sumOfScores_X3_scoreOf : GoodIn wsX3_sumOfScores (wsV RX3 79 RX3 yX3_scoreOf wsX3_scoreOf) := goodIn_app (goodIn_of _ (by decide +kernel)) ggX3_sumOfScores_X3_scoreOf
theorem dX3_sumOfScores_0 : decode cX3_sumOfScores 0 = .ok (.iconst 0, 1) := by decide +kernel
theorem dX3_sumOfScores_1 : decode cX3_sumOfScores 1 = .ok (.istore_n 1, 1) := by decide +kernel
theorem dX3_sumOfScores_2 : decode cX3_sumOfScores 2 = .ok (.iconst 0, 1) := by decide +kernel
theorem dX3_sumOfScores_3 : decode cX3_sumOfScores 3 = .ok (.istore_n 2, 1) := by decide +kernel
theorem dX3_sumOfScores_4 : decode cX3_sumOfScores 4 = .ok (.iload_n 2, 1) := by decide +kernel
theorem dX3_sumOfScores_5 : decode cX3_sumOfScores 5 = .ok (.aload_n 0, 1) := by decide +kernel
theorem dX3_sumOfScores_6 : decode cX3_sumOfScores 6 = .ok (.getfield 37, 3) := by decide +kernel
theorem dX3_sumOfScores_9 : decode cX3_sumOfScores 9 = .ok (.if_icmp .ge 17, 3) := by decide +kernel
theorem dX3_sumOfScores_12 : decode cX3_sumOfScores 12 = .ok (.iload_n 1, 1) := by decide +kernel
theorem dX3_sumOfScores_13 : decode cX3_sumOfScores 13 = .ok (.aload_n 0, 1) := by decide +kernel
theorem dX3_sumOfScores_14 : decode cX3_sumOfScores 14 = .ok (.iload_n 2, 1) := by decide +kernel
theorem dX3_sumOfScores_15 : decode cX3_sumOfScores 15 = .ok (.invokevirtual 79, 3) := by decide +kernel
theorem dX3_sumOfScores_18 : decode cX3_sumOfScores 18 = .ok (.iadd, 1) := by decide +kernel
theorem dX3_sumOfScores_19 : decode cX3_sumOfScores 19 = .ok (.istore_n 1, 1) := by decide +kernel
theorem dX3_sumOfScores_20 : decode cX3_sumOfScores 20 = .ok (.iinc 2 1, 3) := by decide +kernel
theorem dX3_sumOfScores_23 : decode cX3_sumOfScores 23 = .ok (.goto (-19), 3) := by decide +kernel
theorem dX3_sumOfScores_26 : decode cX3_sumOfScores 26 = .ok (.iload_n 1, 1) := by decide +kernel
theorem dX3_sumOfScores_27 : decode cX3_sumOfScores 27 = .ok (.ireturn, 1) := by decide +kernel
set_option maxRecDepth 20000 in
theorem ggX3_scoreOfOwner_X3_scoreOf : GoodIn wsX3_scoreOfOwner wsX3_scoreOf := goodIn_r _ [14, 15, 16, 17, 18, 13, 19, 20, 21, 22, 23, 24, 25, 26, 27, 28, 29, 30, 31, 32, 33, 34, 35, 36] (by decide +kernel) (by decide +kernel)
set_option maxRecDepth 20000 in
theorem gX3_scoreOfOwner_X3_scoreOf : GoodIn wsX3_scoreOfOwner (wsV RX3 79 RX3 yX3_scoreOf wsX3_scoreOf) := goodIn_app (goodIn_of _ (by decide +kernel)) ggX3_scoreOfOwner_X3_scoreOf
theorem dX3_scoreOfOwner_0 : decode cX3_scoreOfOwner 0 = .ok (.iconst 0, 1) := by decide +kernel
theorem dX3_scoreOfOwner_1 : decode cX3_scoreOfOwner 1 = .ok (.istore_n 2, 1) := by decide +kernel
theorem dX3_scoreOfOwner_2 : decode cX3_scoreOfOwner 2 = .ok (.iconst 0, 1) := by decide +kernel
theorem dX3_scoreOfOwner_3 : decode cX3_scoreOfOwner 3 = .ok (.istore_n 3, 1) := by decide +kernel
theorem dX3_scoreOfOwner_4 : decode cX3_scoreOfOwner 4 = .ok (.iconst 0, 1) := by decide +kernel
theorem dX3_scoreOfOwner_5 : decode cX3_scoreOfOwner 5 = .ok (.istore 4, 2) := by decide +kernel
theorem dX3_scoreOfOwner_7 : decode cX3_scoreOfOwner 7 = .ok (.iload 4, 2) := by decide +kernel
theorem dX3_scoreOfOwner_9 : decode cX3_scoreOfOwner 9 = .ok (.aload_n 0, 1) := by decide +kernel
theorem dX3_scoreOfOwner_10 : decode cX3_scoreOfOwner 10 = .ok (.getfield 37, 3) := by decide +kernel
theorem dX3_scoreOfOwner_13 : decode cX3_scoreOfOwner 13 = .ok (.if_icmp .ge 46, 3) := by decide +kernel
theorem dX3_scoreOfOwner_16 : decode cX3_scoreOfOwner 16 = .ok (.aload_n 0, 1) := by decide +kernel
theorem dX3_scoreOfOwner_17 : decode cX3_scoreOfOwner 17 = .ok (.getfield 9, 3) := by decide +kernel
theorem dX3_scoreOfOwner_20 : decode cX3_scoreOfOwner 20 = .ok (.iload 4, 2) := by decide +kernel
theorem dX3_scoreOfOwner_22 : decode cX3_scoreOfOwner 22 = .ok (.iaload, 1) := by decide +kernel
theorem dX3_scoreOfOwner_23 : decode cX3_scoreOfOwner 23 = .ok (.iload_n 1, 1) := by decide +kernel
theorem dX3_scoreOfOwner_24 : decode cX3_scoreOfOwner 24 = .ok (.if_icmp .ne 29, 3) := by decide +kernel
theorem dX3_scoreOfOwner_27 : decode cX3_scoreOfOwner 27 = .ok (.aload_n 0, 1) := by decide +kernel
theorem dX3_scoreOfOwner_28 : decode cX3_scoreOfOwner 28 = .ok (.iload 4, 2) := by decide +kernel
theorem dX3_scoreOfOwner_30 : decode cX3_scoreOfOwner 30 = .ok (.invokevirtual 79, 3) := by decide +kernel
theorem dX3_scoreOfOwner_33 : decode cX3_scoreOfOwner 33 = .ok (.istore 5, 2) := by decide +kernel
theorem dX3_scoreOfOwner_35 : decode cX3_scoreOfOwner 35 = .ok (.iload_n 3, 1) := by decide +kernel
theorem dX3_scoreOfOwner_36 : decode cX3_scoreOfOwner 36 = .ok (.iload_n 2, 1) := by decide +kernel
theorem dX3_scoreOfOwner_37 : decode cX3_scoreOfOwner 37 = .ok (.iload 5, 2) := by decide +kernel
theorem dX3_scoreOfOwner_39 : decode cX3_scoreOfOwner 39 = .ok (.invokestatic 83, 3) := by decide +kernel
theorem dX3_scoreOfOwner_42 : decode cX3_scoreOfOwner 42 = .ok (.invokestatic 88, 3) := by decide +kernel
theorem dX3_scoreOfOwner_45 : decode cX3_scoreOfOwner 45 = .ok (.istore_n 3, 1) := by decide +kernel
theorem dX3_scoreOfOwner_46 : decode cX3_scoreOfOwner 46 = .ok (.iload_n 2, 1) := by decide +kernel
theorem dX3_scoreOfOwner_47 : decode cX3_scoreOfOwner 47 = .ok (.iload 5, 2) := by decide +kernel
theorem dX3_scoreOfOwner_49 : decode cX3_scoreOfOwner 49 = .ok (.invokestatic 88, 3) := by decide +kernel
theorem dX3_scoreOfOwner_52 : decode cX3_scoreOfOwner 52 = .ok (.istore_n 2, 1) := by decide +kernel
theorem dX3_scoreOfOwner_53 : decode cX3_scoreOfOwner 53 = .ok (.iinc 4 1, 3) := by decide +kernel
theorem dX3_scoreOfOwner_56 : decode cX3_scoreOfOwner 56 = .ok (.goto (-49), 3) := by decide +kernel
theorem dX3_scoreOfOwner_59 : decode cX3_scoreOfOwner 59 = .ok (.iload_n 2, 1) := by decide +kernel
theorem dX3_scoreOfOwner_60 : decode cX3_scoreOfOwner 60 = .ok (.iload_n 3, 1) := by decide +kernel
theorem dX3_scoreOfOwner_61 : decode cX3_scoreOfOwner 61 = .ok (.iadd, 1) := by decide +kernel
theorem dX3_scoreOfOwner_62 : decode cX3_scoreOfOwner 62 = .ok (.ireturn, 1) := by decide +kernel
set_option maxRecDepth 20000 in
theorem ggX3_isBetter_X3_scoreOf : GoodIn wsX3_isBetter wsX3_scoreOf := goodIn_r _ [6, 7, 8, 9, 10, 5, 11, 12, 13, 14, 15, 16, 17, 18, 19, 20, 21, 22, 23, 24, 25, 26, 27, 28] (by decide +kernel) (by decide +kernel)
set_option maxRecDepth 20000 in
theorem gX3_isBetter_X3_scoreOf : GoodIn wsX3_isBetter (wsV RX3 79 RX3 yX3_scoreOf wsX3_scoreOf) := goodIn_app (goodIn_of _ (by decide +kernel)) ggX3_isBetter_X3_scoreOf
set_option maxRecDepth 20000 in
theorem ggX3_isBetter_X3_lossOf : GoodIn wsX3_isBetter wsX3_lossOf := goodIn_r _ [11, 12, 13, 14, 15, 16, 17, 18, 19, 20, 21, 22, 23, 24, 25, 26, 27, 28] (by decide +kernel) (by decide +kernel)
set_option maxRecDepth 20000 in
theorem gX3_isBetter_X3_lossOf : GoodIn wsX3_isBetter (wsV RX3 75 RX3 yX3_lossOf wsX3_lossOf) := goodIn_app (goodIn_of _ (by decide +kernel)) ggX3_isBetter_X3_lossOf
theorem dX3_isBetter_0 : decode cX3_isBetter 0 = .ok (.aload_n 0, 1) := by decide +kernel
theorem dX3_isBetter_1 : decode cX3_isBetter 1 = .ok (.iload_n 1, 1) := by decide +kernel
theorem dX3_isBetter_2 : decode cX3_isBetter 2 = .ok (.invokevirtual 79, 3) := by decide +kernel
theorem dX3_isBetter_5 : decode cX3_isBetter 5 = .ok (.istore_n 3, 1) := by decide +kernel
theorem dX3_isBetter_6 : decode cX3_isBetter 6 = .ok (.aload_n 0, 1) := by decide +kernel
theorem dX3_isBetter_7 : decode cX3_isBetter 7 = .ok (.iload_n 2, 1) := by decide +kernel
theorem dX3_isBetter_8 : decode cX3_isBetter 8 = .ok (.invokevirtual 79, 3) := by decide +kernel
theorem dX3_isBetter_11 : decode cX3_isBetter 11 = .ok (.istore 4, 2) := by decide +kernel
theorem dX3_isBetter_13 : decode cX3_isBetter 13 = .ok (.iload_n 3, 1) := by decide +kernel
theorem dX3_isBetter_14 : decode cX3_isBetter 14 = .ok (.iload 4, 2) := by decide +kernel
theorem dX3_isBetter_16 : decode cX3_isBetter 16 = .ok (.if_icmp .eq 15, 3) := by decide +kernel
theorem dX3_isBetter_19 : decode cX3_isBetter 19 = .ok (.iload_n 3, 1) := by decide +kernel
theorem dX3_isBetter_20 : decode cX3_isBetter 20 = .ok (.iload 4, 2) := by decide +kernel
theorem dX3_isBetter_22 : decode cX3_isBetter 22 = .ok (.if_icmp .le 7, 3) := by decide +kernel
theorem dX3_isBetter_25 : decode cX3_isBetter 25 = .ok (.iconst 1, 1) := by decide +kernel
theorem dX3_isBetter_26 : decode cX3_isBetter 26 = .ok (.goto 4, 3) := by decide +kernel
theorem dX3_isBetter_29 : decode cX3_isBetter 29 = .ok (.iconst 0, 1) := by decide +kernel
theorem dX3_isBetter_30 : decode cX3_isBetter 30 = .ok (.ireturn, 1) := by decide +kernel
theorem dX3_isBetter_31 : decode cX3_isBetter 31 = .ok (.iconst 0, 1) := by decide +kernel
theorem dX3_isBetter_32 : decode cX3_isBetter 32 = .ok (.istore 5, 2) := by decide +kernel
theorem dX3_isBetter_34 : decode cX3_isBetter 34 = .ok (.iload 5, 2) := by decide +kernel
theorem dX3_isBetter_36 : decode cX3_isBetter 36 = .ok (.bipush 6, 2) := by decide +kernel
theorem dX3_isBetter_38 : decode cX3_isBetter 38 = .ok (.if_icmp .ge 56, 3) := by decide +kernel
theorem dX3_isBetter_41 : decode cX3_isBetter 41 = .ok (.aload_n 0, 1) := by decide +kernel
theorem dX3_isBetter_42 : decode cX3_isBetter 42 = .ok (.getfield 31, 3) := by decide +kernel
theorem dX3_isBetter_45 : decode cX3_isBetter 45 = .ok (.iload 5, 2) := by decide +kernel
theorem dX3_isBetter_47 : decode cX3_isBetter 47 = .ok (.iaload, 1) := by decide +kernel
theorem dX3_isBetter_48 : decode cX3_isBetter 48 = .ok (.istore 6, 2) := by decide +kernel
theorem dX3_isBetter_50 : decode cX3_isBetter 50 = .ok (.aload_n 0, 1) := by decide +kernel
theorem dX3_isBetter_51 : decode cX3_isBetter 51 = .ok (.iload_n 1, 1) := by decide +kernel
theorem dX3_isBetter_52 : decode cX3_isBetter 52 = .ok (.iload 6, 2) := by decide +kernel
theorem dX3_isBetter_54 : decode cX3_isBetter 54 = .ok (.invokevirtual 75, 3) := by decide +kernel
theorem dX3_isBetter_57 : decode cX3_isBetter 57 = .ok (.istore 7, 2) := by decide +kernel
theorem dX3_isBetter_59 : decode cX3_isBetter 59 = .ok (.aload_n 0, 1) := by decide +kernel
theorem dX3_isBetter_60 : decode cX3_isBetter 60 = .ok (.iload_n 2, 1) := by decide +kernel
theorem dX3_isBetter_61 : decode cX3_isBetter 61 = .ok (.iload 6, 2) := by decide +kernel
theorem dX3_isBetter_63 : decode cX3_isBetter 63 = .ok (.invokevirtual 75, 3) := by decide +kernel
theorem dX3_isBetter_66 : decode cX3_isBetter 66 = .ok (.istore 8, 2) := by decide +kernel
theorem dX3_isBetter_68 : decode cX3_isBetter 68 = .ok (.iload 7, 2) := by decide +kernel
theorem dX3_isBetter_70 : decode cX3_isBetter 70 = .ok (.iload 8, 2) := by decide +kernel
theorem dX3_isBetter_72 : decode cX3_isBetter 72 = .ok (.if_icmp .eq 16, 3) := by decide +kernel
theorem dX3_isBetter_75 : decode cX3_isBetter 75 = .ok (.iload 7, 2) := by decide +kernel
theorem dX3_isBetter_77 : decode cX3_isBetter 77 = .ok (.iload 8, 2) := by decide +kernel
theorem dX3_isBetter_79 : decode cX3_isBetter 79 = .ok (.if_icmp .ge 7, 3) := by decide +kernel
theorem dX3_isBetter_82 : decode cX3_isBetter 82 = .ok (.iconst 1, 1) := by decide +kernel
theorem dX3_isBetter_83 : decode cX3_isBetter 83 = .ok (.goto 4, 3) := by decide +kernel
theorem dX3_isBetter_86 : decode cX3_isBetter 86 = .ok (.iconst 0, 1) := by decide +kernel
theorem dX3_isBetter_87 : decode cX3_isBetter 87 = .ok (.ireturn, 1) := by decide +kernel
theorem dX3_isBetter_88 : decode cX3_isBetter 88 = .ok (.iinc 5 1, 3) := by decide +kernel
theorem dX3_isBetter_91 : decode cX3_isBetter 91 = .ok (.goto (-57), 3) := by decide +kernel
theorem dX3_isBetter_94 : decode cX3_isBetter 94 = .ok (.iconst 0, 1) := by decide +kernel
theorem dX3_isBetter_95 : decode cX3_isBetter 95 = .ok (.ireturn, 1) := by decide +kernel
set_option maxRecDepth 20000 in
theorem ggX3_placeOf_X3_isBetter : GoodIn wsX3_placeOf wsX3_isBetter := goodIn_r _ [7, 8, 9, 10, 11, 6, 12, 1, 13, 14, 15, 16, 17, 18, 19, 20, 21, 22, 23, 24, 25, 26, 27, 28, 29, 30, 31, 32, 33] (by decide +kernel) (by decide +kernel)
set_option maxRecDepth 20000 in
theorem gX3_placeOf_X3_isBetter : GoodIn wsX3_placeOf (wsV RX3 91 RX3 yX3_isBetter wsX3_isBetter) := goodIn_app (goodIn_of _ (by decide +kernel)) ggX3_placeOf_X3_isBetter
theorem dX3_placeOf_0 : decode cX3_placeOf 0 = .ok (.aload_n 0, 1) := by decide +kernel
theorem dX3_placeOf_1 : decode cX3_placeOf 1 = .ok (.getfield 21, 3) := by decide +kernel
theorem dX3_placeOf_4 : decode cX3_placeOf 4 = .ok (.iload_n 1, 1) := by decide +kernel
theorem dX3_placeOf_5 : decode cX3_placeOf 5 = .ok (.baload, 1) := by decide +kernel
theorem dX3_placeOf_6 : decode cX3_placeOf 6 = .ok (.ifCond .ne 6, 3) := by decide +kernel
theorem dX3_placeOf_9 : decode cX3_placeOf 9 = .ok (.bipush (-9), 2) := by decide +kernel
theorem dX3_placeOf_11 : decode cX3_placeOf 11 = .ok (.ireturn, 1) := by decide +kernel
theorem dX3_placeOf_12 : decode cX3_placeOf 12 = .ok (.iconst 1, 1) := by decide +kernel
theorem dX3_placeOf_13 : decode cX3_placeOf 13 = .ok (.istore_n 2, 1) := by decide +kernel
theorem dX3_placeOf_14 : decode cX3_placeOf 14 = .ok (.iconst 0, 1) := by decide +kernel
theorem dX3_placeOf_15 : decode cX3_placeOf 15 = .ok (.istore_n 3, 1) := by decide +kernel
theorem dX3_placeOf_16 : decode cX3_placeOf 16 = .ok (.iload_n 3, 1) := by decide +kernel
theorem dX3_placeOf_17 : decode cX3_placeOf 17 = .ok (.aload_n 0, 1) := by decide +kernel
theorem dX3_placeOf_18 : decode cX3_placeOf 18 = .ok (.getfield 37, 3) := by decide +kernel
theorem dX3_placeOf_21 : decode cX3_placeOf 21 = .ok (.if_icmp .ge 30, 3) := by decide +kernel
theorem dX3_placeOf_24 : decode cX3_placeOf 24 = .ok (.aload_n 0, 1) := by decide +kernel
theorem dX3_placeOf_25 : decode cX3_placeOf 25 = .ok (.getfield 21, 3) := by decide +kernel
theorem dX3_placeOf_28 : decode cX3_placeOf 28 = .ok (.iload_n 3, 1) := by decide +kernel
theorem dX3_placeOf_29 : decode cX3_placeOf 29 = .ok (.baload, 1) := by decide +kernel
theorem dX3_placeOf_30 : decode cX3_placeOf 30 = .ok (.ifCond .eq 15, 3) := by decide +kernel
theorem dX3_placeOf_33 : decode cX3_placeOf 33 = .ok (.aload_n 0, 1) := by decide +kernel
theorem dX3_placeOf_34 : decode cX3_placeOf 34 = .ok (.iload_n 3, 1) := by decide +kernel
theorem dX3_placeOf_35 : decode cX3_placeOf 35 = .ok (.iload_n 1, 1) := by decide +kernel
theorem dX3_placeOf_36 : decode cX3_placeOf 36 = .ok (.invokevirtual 91, 3) := by decide +kernel
theorem dX3_placeOf_39 : decode cX3_placeOf 39 = .ok (.ifCond .eq 6, 3) := by decide +kernel
theorem dX3_placeOf_42 : decode cX3_placeOf 42 = .ok (.iinc 2 1, 3) := by decide +kernel
theorem dX3_placeOf_45 : decode cX3_placeOf 45 = .ok (.iinc 3 1, 3) := by decide +kernel
theorem dX3_placeOf_48 : decode cX3_placeOf 48 = .ok (.goto (-32), 3) := by decide +kernel
theorem dX3_placeOf_51 : decode cX3_placeOf 51 = .ok (.iload_n 2, 1) := by decide +kernel
theorem dX3_placeOf_52 : decode cX3_placeOf 52 = .ok (.ireturn, 1) := by decide +kernel
set_option maxRecDepth 20000 in
theorem ggX3_dogsAheadInStanding_X3_isAheadInStanding : GoodIn wsX3_dogsAheadInStanding wsX3_isAheadInStanding := goodIn_r _ [7, 8, 9, 10, 11, 6, 12, 13, 14, 15, 16, 17, 2, 18, 19, 20, 21, 22, 23, 24, 25, 26, 27, 28, 29, 30, 31, 32, 33, 34, 35, 36, 37, 38] (by decide +kernel) (by decide +kernel)
set_option maxRecDepth 20000 in
theorem gX3_dogsAheadInStanding_X3_isAheadInStanding : GoodIn wsX3_dogsAheadInStanding (wsV RX3 95 RX3 yX3_isAheadInStanding wsX3_isAheadInStanding) := goodIn_app (goodIn_of _ (by decide +kernel)) ggX3_dogsAheadInStanding_X3_isAheadInStanding
theorem dX3_dogsAheadInStanding_0 : decode cX3_dogsAheadInStanding 0 = .ok (.iconst 0, 1) := by decide +kernel
theorem dX3_dogsAheadInStanding_1 : decode cX3_dogsAheadInStanding 1 = .ok (.istore_n 2, 1) := by decide +kernel
theorem dX3_dogsAheadInStanding_2 : decode cX3_dogsAheadInStanding 2 = .ok (.iconst 0, 1) := by decide +kernel
theorem dX3_dogsAheadInStanding_3 : decode cX3_dogsAheadInStanding 3 = .ok (.istore_n 3, 1) := by decide +kernel
theorem dX3_dogsAheadInStanding_4 : decode cX3_dogsAheadInStanding 4 = .ok (.iload_n 3, 1) := by decide +kernel
theorem dX3_dogsAheadInStanding_5 : decode cX3_dogsAheadInStanding 5 = .ok (.aload_n 0, 1) := by decide +kernel
theorem dX3_dogsAheadInStanding_6 : decode cX3_dogsAheadInStanding 6 = .ok (.getfield 37, 3) := by decide +kernel
theorem dX3_dogsAheadInStanding_9 : decode cX3_dogsAheadInStanding 9 = .ok (.if_icmp .ge 30, 3) := by decide +kernel
theorem dX3_dogsAheadInStanding_12 : decode cX3_dogsAheadInStanding 12 = .ok (.aload_n 0, 1) := by decide +kernel
theorem dX3_dogsAheadInStanding_13 : decode cX3_dogsAheadInStanding 13 = .ok (.getfield 21, 3) := by decide +kernel
theorem dX3_dogsAheadInStanding_16 : decode cX3_dogsAheadInStanding 16 = .ok (.iload_n 3, 1) := by decide +kernel
theorem dX3_dogsAheadInStanding_17 : decode cX3_dogsAheadInStanding 17 = .ok (.baload, 1) := by decide +kernel
theorem dX3_dogsAheadInStanding_18 : decode cX3_dogsAheadInStanding 18 = .ok (.ifCond .eq 15, 3) := by decide +kernel
theorem dX3_dogsAheadInStanding_21 : decode cX3_dogsAheadInStanding 21 = .ok (.aload_n 0, 1) := by decide +kernel
theorem dX3_dogsAheadInStanding_22 : decode cX3_dogsAheadInStanding 22 = .ok (.iload_n 3, 1) := by decide +kernel
theorem dX3_dogsAheadInStanding_23 : decode cX3_dogsAheadInStanding 23 = .ok (.iload_n 1, 1) := by decide +kernel
theorem dX3_dogsAheadInStanding_24 : decode cX3_dogsAheadInStanding 24 = .ok (.invokevirtual 95, 3) := by decide +kernel
theorem dX3_dogsAheadInStanding_27 : decode cX3_dogsAheadInStanding 27 = .ok (.ifCond .eq 6, 3) := by decide +kernel
theorem dX3_dogsAheadInStanding_30 : decode cX3_dogsAheadInStanding 30 = .ok (.iinc 2 1, 3) := by decide +kernel
theorem dX3_dogsAheadInStanding_33 : decode cX3_dogsAheadInStanding 33 = .ok (.iinc 3 1, 3) := by decide +kernel
theorem dX3_dogsAheadInStanding_36 : decode cX3_dogsAheadInStanding 36 = .ok (.goto (-32), 3) := by decide +kernel
theorem dX3_dogsAheadInStanding_39 : decode cX3_dogsAheadInStanding 39 = .ok (.iload_n 2, 1) := by decide +kernel
theorem dX3_dogsAheadInStanding_40 : decode cX3_dogsAheadInStanding 40 = .ok (.ireturn, 1) := by decide +kernel
set_option maxRecDepth 20000 in
theorem ggX3_isAheadInStanding_X3_isBetter : GoodIn wsX3_isAheadInStanding wsX3_isBetter := goodIn_r _ [6, 7, 8, 9, 10, 5, 11, 12, 13, 14, 15, 16, 17, 18, 19, 20, 21, 22, 23, 24, 25, 26, 27, 28, 29, 30, 31, 32, 33] (by decide +kernel) (by decide +kernel)
set_option maxRecDepth 20000 in
theorem gX3_isAheadInStanding_X3_isBetter : GoodIn wsX3_isAheadInStanding (wsV RX3 91 RX3 yX3_isBetter wsX3_isBetter) := goodIn_app (goodIn_of _ (by decide +kernel)) ggX3_isAheadInStanding_X3_isBetter
theorem dX3_isAheadInStanding_0 : decode cX3_isAheadInStanding 0 = .ok (.aload_n 0, 1) := by decide +kernel
theorem dX3_isAheadInStanding_1 : decode cX3_isAheadInStanding 1 = .ok (.iload_n 1, 1) := by decide +kernel
theorem dX3_isAheadInStanding_2 : decode cX3_isAheadInStanding 2 = .ok (.iload_n 2, 1) := by decide +kernel
theorem dX3_isAheadInStanding_3 : decode cX3_isAheadInStanding 3 = .ok (.invokevirtual 91, 3) := by decide +kernel
theorem dX3_isAheadInStanding_6 : decode cX3_isAheadInStanding 6 = .ok (.ifCond .ne 27, 3) := by decide +kernel
theorem dX3_isAheadInStanding_9 : decode cX3_isAheadInStanding 9 = .ok (.aload_n 0, 1) := by decide +kernel
theorem dX3_isAheadInStanding_10 : decode cX3_isAheadInStanding 10 = .ok (.iload_n 2, 1) := by decide +kernel
theorem dX3_isAheadInStanding_11 : decode cX3_isAheadInStanding 11 = .ok (.iload_n 1, 1) := by decide +kernel
theorem dX3_isAheadInStanding_12 : decode cX3_isAheadInStanding 12 = .ok (.invokevirtual 91, 3) := by decide +kernel
theorem dX3_isAheadInStanding_15 : decode cX3_isAheadInStanding 15 = .ok (.ifCond .ne 22, 3) := by decide +kernel
theorem dX3_isAheadInStanding_18 : decode cX3_isAheadInStanding 18 = .ok (.aload_n 0, 1) := by decide +kernel
theorem dX3_isAheadInStanding_19 : decode cX3_isAheadInStanding 19 = .ok (.getfield 15, 3) := by decide +kernel
theorem dX3_isAheadInStanding_22 : decode cX3_isAheadInStanding 22 = .ok (.iload_n 1, 1) := by decide +kernel
theorem dX3_isAheadInStanding_23 : decode cX3_isAheadInStanding 23 = .ok (.iaload, 1) := by decide +kernel
theorem dX3_isAheadInStanding_24 : decode cX3_isAheadInStanding 24 = .ok (.aload_n 0, 1) := by decide +kernel
theorem dX3_isAheadInStanding_25 : decode cX3_isAheadInStanding 25 = .ok (.getfield 15, 3) := by decide +kernel
theorem dX3_isAheadInStanding_28 : decode cX3_isAheadInStanding 28 = .ok (.iload_n 2, 1) := by decide +kernel
theorem dX3_isAheadInStanding_29 : decode cX3_isAheadInStanding 29 = .ok (.iaload, 1) := by decide +kernel
theorem dX3_isAheadInStanding_30 : decode cX3_isAheadInStanding 30 = .ok (.if_icmp .ge 7, 3) := by decide +kernel
theorem dX3_isAheadInStanding_33 : decode cX3_isAheadInStanding 33 = .ok (.iconst 1, 1) := by decide +kernel
theorem dX3_isAheadInStanding_34 : decode cX3_isAheadInStanding 34 = .ok (.goto 4, 3) := by decide +kernel
theorem dX3_isAheadInStanding_37 : decode cX3_isAheadInStanding 37 = .ok (.iconst 0, 1) := by decide +kernel
theorem dX3_isAheadInStanding_38 : decode cX3_isAheadInStanding 38 = .ok (.ireturn, 1) := by decide +kernel
set_option maxRecDepth 20000 in
theorem ggX3_dogsWithScoreAbove_X3_scoreOf : GoodIn wsX3_dogsWithScoreAbove wsX3_scoreOf := goodIn_r _ [6, 7, 8, 9, 10, 5, 11, 12, 13, 14, 15, 16, 17, 18, 19, 20, 21, 22, 23, 24, 25, 26, 27, 28] (by decide +kernel) (by decide +kernel)
set_option maxRecDepth 20000 in
theorem gX3_dogsWithScoreAbove_X3_scoreOf : GoodIn wsX3_dogsWithScoreAbove (wsV RX3 79 RX3 yX3_scoreOf wsX3_scoreOf) := goodIn_app (goodIn_of _ (by decide +kernel)) ggX3_dogsWithScoreAbove_X3_scoreOf
theorem dX3_dogsWithScoreAbove_0 : decode cX3_dogsWithScoreAbove 0 = .ok (.iconst 0, 1) := by decide +kernel
theorem dX3_dogsWithScoreAbove_1 : decode cX3_dogsWithScoreAbove 1 = .ok (.istore_n 2, 1) := by decide +kernel
theorem dX3_dogsWithScoreAbove_2 : decode cX3_dogsWithScoreAbove 2 = .ok (.iconst 0, 1) := by decide +kernel
theorem dX3_dogsWithScoreAbove_3 : decode cX3_dogsWithScoreAbove 3 = .ok (.istore_n 3, 1) := by decide +kernel
theorem dX3_dogsWithScoreAbove_4 : decode cX3_dogsWithScoreAbove 4 = .ok (.iload_n 3, 1) := by decide +kernel
theorem dX3_dogsWithScoreAbove_5 : decode cX3_dogsWithScoreAbove 5 = .ok (.aload_n 0, 1) := by decide +kernel
theorem dX3_dogsWithScoreAbove_6 : decode cX3_dogsWithScoreAbove 6 = .ok (.getfield 37, 3) := by decide +kernel
theorem dX3_dogsWithScoreAbove_9 : decode cX3_dogsWithScoreAbove 9 = .ok (.if_icmp .ge 21, 3) := by decide +kernel
theorem dX3_dogsWithScoreAbove_12 : decode cX3_dogsWithScoreAbove 12 = .ok (.aload_n 0, 1) := by decide +kernel
theorem dX3_dogsWithScoreAbove_13 : decode cX3_dogsWithScoreAbove 13 = .ok (.iload_n 3, 1) := by decide +kernel
theorem dX3_dogsWithScoreAbove_14 : decode cX3_dogsWithScoreAbove 14 = .ok (.invokevirtual 79, 3) := by decide +kernel
theorem dX3_dogsWithScoreAbove_17 : decode cX3_dogsWithScoreAbove 17 = .ok (.iload_n 1, 1) := by decide +kernel
theorem dX3_dogsWithScoreAbove_18 : decode cX3_dogsWithScoreAbove 18 = .ok (.if_icmp .le 6, 3) := by decide +kernel
theorem dX3_dogsWithScoreAbove_21 : decode cX3_dogsWithScoreAbove 21 = .ok (.iinc 2 1, 3) := by decide +kernel
theorem dX3_dogsWithScoreAbove_24 : decode cX3_dogsWithScoreAbove 24 = .ok (.iinc 3 1, 3) := by decide +kernel
theorem dX3_dogsWithScoreAbove_27 : decode cX3_dogsWithScoreAbove 27 = .ok (.goto (-23), 3) := by decide +kernel
theorem dX3_dogsWithScoreAbove_30 : decode cX3_dogsWithScoreAbove 30 = .ok (.iload_n 2, 1) := by decide +kernel
theorem dX3_dogsWithScoreAbove_31 : decode cX3_dogsWithScoreAbove 31 = .ok (.ireturn, 1) := by decide +kernel
theorem dX3_firstPhaseToRun_0 : decode cX3_firstPhaseToRun 0 = .ok (.aload_n 0, 1) := by decide +kernel
theorem dX3_firstPhaseToRun_1 : decode cX3_firstPhaseToRun 1 = .ok (.getfield 18, 3) := by decide +kernel
theorem dX3_firstPhaseToRun_4 : decode cX3_firstPhaseToRun 4 = .ok (.iload_n 1, 1) := by decide +kernel
theorem dX3_firstPhaseToRun_5 : decode cX3_firstPhaseToRun 5 = .ok (.iaload, 1) := by decide +kernel
theorem dX3_firstPhaseToRun_6 : decode cX3_firstPhaseToRun 6 = .ok (.iconst 2, 1) := by decide +kernel
theorem dX3_firstPhaseToRun_7 : decode cX3_firstPhaseToRun 7 = .ok (.if_icmp .ne 12, 3) := by decide +kernel
theorem dX3_firstPhaseToRun_10 : decode cX3_firstPhaseToRun 10 = .ok (.aload_n 0, 1) := by decide +kernel
theorem dX3_firstPhaseToRun_11 : decode cX3_firstPhaseToRun 11 = .ok (.getfield 25, 3) := by decide +kernel
theorem dX3_firstPhaseToRun_14 : decode cX3_firstPhaseToRun 14 = .ok (.iload_n 1, 1) := by decide +kernel
theorem dX3_firstPhaseToRun_15 : decode cX3_firstPhaseToRun 15 = .ok (.iaload, 1) := by decide +kernel
theorem dX3_firstPhaseToRun_16 : decode cX3_firstPhaseToRun 16 = .ok (.goto 4, 3) := by decide +kernel
theorem dX3_firstPhaseToRun_19 : decode cX3_firstPhaseToRun 19 = .ok (.iconst 0, 1) := by decide +kernel
theorem dX3_firstPhaseToRun_20 : decode cX3_firstPhaseToRun 20 = .ok (.ireturn, 1) := by decide +kernel
set_option maxRecDepth 20000 in
theorem ggX3_worthToRun_X3_firstPhaseToRun : GoodIn wsX3_worthToRun wsX3_firstPhaseToRun := goodIn_r _ [5, 6, 7, 8, 9, 10, 11, 12, 13, 14, 15, 16, 17, 18, 19, 20, 21, 22] (by decide +kernel) (by decide +kernel)
set_option maxRecDepth 20000 in
theorem gX3_worthToRun_X3_firstPhaseToRun : GoodIn wsX3_worthToRun (wsV RX3 98 RX3 yX3_firstPhaseToRun wsX3_firstPhaseToRun) := goodIn_app (goodIn_of _ (by decide +kernel)) ggX3_worthToRun_X3_firstPhaseToRun
theorem dX3_worthToRun_0 : decode cX3_worthToRun 0 = .ok (.iconst 0, 1) := by decide +kernel
theorem dX3_worthToRun_1 : decode cX3_worthToRun 1 = .ok (.istore_n 2, 1) := by decide +kernel
theorem dX3_worthToRun_2 : decode cX3_worthToRun 2 = .ok (.aload_n 0, 1) := by decide +kernel
theorem dX3_worthToRun_3 : decode cX3_worthToRun 3 = .ok (.iload_n 1, 1) := by decide +kernel
theorem dX3_worthToRun_4 : decode cX3_worthToRun 4 = .ok (.invokevirtual 98, 3) := by decide +kernel
theorem dX3_worthToRun_7 : decode cX3_worthToRun 7 = .ok (.istore_n 3, 1) := by decide +kernel
theorem dX3_worthToRun_8 : decode cX3_worthToRun 8 = .ok (.iload_n 3, 1) := by decide +kernel
theorem dX3_worthToRun_9 : decode cX3_worthToRun 9 = .ok (.bipush 6, 2) := by decide +kernel
theorem dX3_worthToRun_11 : decode cX3_worthToRun 11 = .ok (.if_icmp .ge 17, 3) := by decide +kernel
theorem dX3_worthToRun_14 : decode cX3_worthToRun 14 = .ok (.iload_n 2, 1) := by decide +kernel
theorem dX3_worthToRun_15 : decode cX3_worthToRun 15 = .ok (.getstatic 72, 3) := by decide +kernel
theorem dX3_worthToRun_18 : decode cX3_worthToRun 18 = .ok (.iload_n 3, 1) := by decide +kernel
theorem dX3_worthToRun_19 : decode cX3_worthToRun 19 = .ok (.iaload, 1) := by decide +kernel
theorem dX3_worthToRun_20 : decode cX3_worthToRun 20 = .ok (.iadd, 1) := by decide +kernel
theorem dX3_worthToRun_21 : decode cX3_worthToRun 21 = .ok (.istore_n 2, 1) := by decide +kernel
theorem dX3_worthToRun_22 : decode cX3_worthToRun 22 = .ok (.iinc 3 1, 3) := by decide +kernel
theorem dX3_worthToRun_25 : decode cX3_worthToRun 25 = .ok (.goto (-17), 3) := by decide +kernel
theorem dX3_worthToRun_28 : decode cX3_worthToRun 28 = .ok (.iload_n 2, 1) := by decide +kernel
theorem dX3_worthToRun_29 : decode cX3_worthToRun 29 = .ok (.ireturn, 1) := by decide +kernel
set_option maxRecDepth 20000 in
theorem ggX3_obstacle_X3_dogsToRun : GoodIn wsX3_obstacle wsX3_dogsToRun := goodIn_r _ [7, 8, 9, 10, 11, 6, 12, 13, 14, 15, 16, 17, 18, 19, 20, 21, 22, 23, 24, 25, 26, 27, 28] (by decide +kernel) (by decide +kernel)
set_option maxRecDepth 20000 in
theorem gX3_obstacle_X3_dogsToRun : GoodIn wsX3_obstacle (wsV RX3 101 RX3 yX3_dogsToRun wsX3_dogsToRun) := goodIn_app (goodIn_of _ (by decide +kernel)) ggX3_obstacle_X3_dogsToRun
theorem dX3_obstacle_0 : decode cX3_obstacle 0 = .ok (.aload_n 0, 1) := by decide +kernel
theorem dX3_obstacle_1 : decode cX3_obstacle 1 = .ok (.invokevirtual 101, 3) := by decide +kernel
theorem dX3_obstacle_4 : decode cX3_obstacle 4 = .ok (.ifCond .ne 5, 3) := by decide +kernel
theorem dX3_obstacle_7 : decode cX3_obstacle 7 = .ok (.iconst 1, 1) := by decide +kernel
theorem dX3_obstacle_8 : decode cX3_obstacle 8 = .ok (.ireturn, 1) := by decide +kernel
theorem dX3_obstacle_9 : decode cX3_obstacle 9 = .ok (.aload_n 0, 1) := by decide +kernel
theorem dX3_obstacle_10 : decode cX3_obstacle 10 = .ok (.getfield 44, 3) := by decide +kernel
theorem dX3_obstacle_13 : decode cX3_obstacle 13 = .ok (.aload_n 0, 1) := by decide +kernel
theorem dX3_obstacle_14 : decode cX3_obstacle 14 = .ok (.getfield 47, 3) := by decide +kernel
theorem dX3_obstacle_17 : decode cX3_obstacle 17 = .ok (.if_icmp .lt 7, 3) := by decide +kernel
theorem dX3_obstacle_20 : decode cX3_obstacle 20 = .ok (.iconst 2, 1) := by decide +kernel
theorem dX3_obstacle_21 : decode cX3_obstacle 21 = .ok (.goto 4, 3) := by decide +kernel
theorem dX3_obstacle_24 : decode cX3_obstacle 24 = .ok (.iconst 0, 1) := by decide +kernel
theorem dX3_obstacle_25 : decode cX3_obstacle 25 = .ok (.ireturn, 1) := by decide +kernel
theorem dX3_addDog_0 : decode cX3_addDog 0 = .ok (.aload_n 0, 1) := by decide +kernel
theorem dX3_addDog_1 : decode cX3_addDog 1 = .ok (.getfield 37, 3) := by decide +kernel
theorem dX3_addDog_4 : decode cX3_addDog 4 = .ok (.istore_n 3, 1) := by decide +kernel
theorem dX3_addDog_5 : decode cX3_addDog 5 = .ok (.iload_n 3, 1) := by decide +kernel
theorem dX3_addDog_6 : decode cX3_addDog 6 = .ok (.bipush 12, 2) := by decide +kernel
theorem dX3_addDog_8 : decode cX3_addDog 8 = .ok (.if_icmp .lt 6, 3) := by decide +kernel
theorem dX3_addDog_11 : decode cX3_addDog 11 = .ok (.bipush (-9), 2) := by decide +kernel
theorem dX3_addDog_13 : decode cX3_addDog 13 = .ok (.ireturn, 1) := by decide +kernel
theorem dX3_addDog_14 : decode cX3_addDog 14 = .ok (.aload_n 0, 1) := by decide +kernel
theorem dX3_addDog_15 : decode cX3_addDog 15 = .ok (.getfield 9, 3) := by decide +kernel
theorem dX3_addDog_18 : decode cX3_addDog 18 = .ok (.iload_n 3, 1) := by decide +kernel
theorem dX3_addDog_19 : decode cX3_addDog 19 = .ok (.iload_n 1, 1) := by decide +kernel
theorem dX3_addDog_20 : decode cX3_addDog 20 = .ok (.iastore, 1) := by decide +kernel
theorem dX3_addDog_21 : decode cX3_addDog 21 = .ok (.aload_n 0, 1) := by decide +kernel
theorem dX3_addDog_22 : decode cX3_addDog 22 = .ok (.getfield 15, 3) := by decide +kernel
theorem dX3_addDog_25 : decode cX3_addDog 25 = .ok (.iload_n 3, 1) := by decide +kernel
theorem dX3_addDog_26 : decode cX3_addDog 26 = .ok (.iload_n 2, 1) := by decide +kernel
theorem dX3_addDog_27 : decode cX3_addDog 27 = .ok (.iastore, 1) := by decide +kernel
theorem dX3_addDog_28 : decode cX3_addDog 28 = .ok (.aload_n 0, 1) := by decide +kernel
theorem dX3_addDog_29 : decode cX3_addDog 29 = .ok (.getfield 18, 3) := by decide +kernel
theorem dX3_addDog_32 : decode cX3_addDog 32 = .ok (.iload_n 3, 1) := by decide +kernel
theorem dX3_addDog_33 : decode cX3_addDog 33 = .ok (.iconst 0, 1) := by decide +kernel
theorem dX3_addDog_34 : decode cX3_addDog 34 = .ok (.iastore, 1) := by decide +kernel
theorem dX3_addDog_35 : decode cX3_addDog 35 = .ok (.aload_n 0, 1) := by decide +kernel
theorem dX3_addDog_36 : decode cX3_addDog 36 = .ok (.getfield 21, 3) := by decide +kernel
theorem dX3_addDog_39 : decode cX3_addDog 39 = .ok (.iload_n 3, 1) := by decide +kernel
theorem dX3_addDog_40 : decode cX3_addDog 40 = .ok (.iconst 0, 1) := by decide +kernel
theorem dX3_addDog_41 : decode cX3_addDog 41 = .ok (.bastore, 1) := by decide +kernel
theorem dX3_addDog_42 : decode cX3_addDog 42 = .ok (.aload_n 0, 1) := by decide +kernel
theorem dX3_addDog_43 : decode cX3_addDog 43 = .ok (.getfield 25, 3) := by decide +kernel
theorem dX3_addDog_46 : decode cX3_addDog 46 = .ok (.iload_n 3, 1) := by decide +kernel
theorem dX3_addDog_47 : decode cX3_addDog 47 = .ok (.bipush 6, 2) := by decide +kernel
theorem dX3_addDog_49 : decode cX3_addDog 49 = .ok (.iastore, 1) := by decide +kernel
theorem dX3_addDog_50 : decode cX3_addDog 50 = .ok (.aload_n 0, 1) := by decide +kernel
theorem dX3_addDog_51 : decode cX3_addDog 51 = .ok (.dup, 1) := by decide +kernel
theorem dX3_addDog_52 : decode cX3_addDog 52 = .ok (.getfield 37, 3) := by decide +kernel
theorem dX3_addDog_55 : decode cX3_addDog 55 = .ok (.iconst 1, 1) := by decide +kernel
theorem dX3_addDog_56 : decode cX3_addDog 56 = .ok (.iadd, 1) := by decide +kernel
theorem dX3_addDog_57 : decode cX3_addDog 57 = .ok (.putfield 37, 3) := by decide +kernel
theorem dX3_addDog_60 : decode cX3_addDog 60 = .ok (.iload_n 3, 1) := by decide +kernel
theorem dX3_addDog_61 : decode cX3_addDog 61 = .ok (.ireturn, 1) := by decide +kernel
set_option maxRecDepth 20000 in
theorem ggX3_noteRun_X3_firstPhaseToRun : GoodIn wsX3_noteRun wsX3_firstPhaseToRun := goodIn_r _ [9, 2, 4, 10, 11, 12, 13, 14, 15, 16, 17, 18, 19, 20, 21, 22, 23, 24] (by decide +kernel) (by decide +kernel)
set_option maxRecDepth 20000 in
theorem gX3_noteRun_X3_firstPhaseToRun : GoodIn wsX3_noteRun (wsV RX3 98 RX3 yX3_firstPhaseToRun wsX3_firstPhaseToRun) := goodIn_app (goodIn_of _ (by decide +kernel)) ggX3_noteRun_X3_firstPhaseToRun
theorem dX3_noteRun_0 : decode cX3_noteRun 0 = .ok (.aload_n 0, 1) := by decide +kernel
theorem dX3_noteRun_1 : decode cX3_noteRun 1 = .ok (.iload_n 1, 1) := by decide +kernel
theorem dX3_noteRun_2 : decode cX3_noteRun 2 = .ok (.invokevirtual 98, 3) := by decide +kernel
theorem dX3_noteRun_5 : decode cX3_noteRun 5 = .ok (.istore_n 3, 1) := by decide +kernel
theorem dX3_noteRun_6 : decode cX3_noteRun 6 = .ok (.iload_n 3, 1) := by decide +kernel
theorem dX3_noteRun_7 : decode cX3_noteRun 7 = .ok (.bipush 6, 2) := by decide +kernel
theorem dX3_noteRun_9 : decode cX3_noteRun 9 = .ok (.if_icmp .ge 23, 3) := by decide +kernel
theorem dX3_noteRun_12 : decode cX3_noteRun 12 = .ok (.aload_n 0, 1) := by decide +kernel
theorem dX3_noteRun_13 : decode cX3_noteRun 13 = .ok (.getfield 28, 3) := by decide +kernel
theorem dX3_noteRun_16 : decode cX3_noteRun 16 = .ok (.iload_n 1, 1) := by decide +kernel
theorem dX3_noteRun_17 : decode cX3_noteRun 17 = .ok (.bipush 6, 2) := by decide +kernel
theorem dX3_noteRun_19 : decode cX3_noteRun 19 = .ok (.imul, 1) := by decide +kernel
theorem dX3_noteRun_20 : decode cX3_noteRun 20 = .ok (.iload_n 3, 1) := by decide +kernel
theorem dX3_noteRun_21 : decode cX3_noteRun 21 = .ok (.iadd, 1) := by decide +kernel
theorem dX3_noteRun_22 : decode cX3_noteRun 22 = .ok (.aload_n 2, 1) := by decide +kernel
theorem dX3_noteRun_23 : decode cX3_noteRun 23 = .ok (.iload_n 3, 1) := by decide +kernel
theorem dX3_noteRun_24 : decode cX3_noteRun 24 = .ok (.iaload, 1) := by decide +kernel
theorem dX3_noteRun_25 : decode cX3_noteRun 25 = .ok (.iastore, 1) := by decide +kernel
theorem dX3_noteRun_26 : decode cX3_noteRun 26 = .ok (.iinc 3 1, 3) := by decide +kernel
theorem dX3_noteRun_29 : decode cX3_noteRun 29 = .ok (.goto (-23), 3) := by decide +kernel
theorem dX3_noteRun_32 : decode cX3_noteRun 32 = .ok (.aload_n 0, 1) := by decide +kernel
theorem dX3_noteRun_33 : decode cX3_noteRun 33 = .ok (.getfield 18, 3) := by decide +kernel
theorem dX3_noteRun_36 : decode cX3_noteRun 36 = .ok (.iload_n 1, 1) := by decide +kernel
theorem dX3_noteRun_37 : decode cX3_noteRun 37 = .ok (.iconst 1, 1) := by decide +kernel
theorem dX3_noteRun_38 : decode cX3_noteRun 38 = .ok (.iastore, 1) := by decide +kernel
theorem dX3_noteRun_39 : decode cX3_noteRun 39 = .ok (.aload_n 0, 1) := by decide +kernel
theorem dX3_noteRun_40 : decode cX3_noteRun 40 = .ok (.getfield 21, 3) := by decide +kernel
theorem dX3_noteRun_43 : decode cX3_noteRun 43 = .ok (.iload_n 1, 1) := by decide +kernel
theorem dX3_noteRun_44 : decode cX3_noteRun 44 = .ok (.iconst 1, 1) := by decide +kernel
theorem dX3_noteRun_45 : decode cX3_noteRun 45 = .ok (.bastore, 1) := by decide +kernel
theorem dX3_noteRun_46 : decode cX3_noteRun 46 = .ok (.aload_n 0, 1) := by decide +kernel
theorem dX3_noteRun_47 : decode cX3_noteRun 47 = .ok (.getfield 25, 3) := by decide +kernel
theorem dX3_noteRun_50 : decode cX3_noteRun 50 = .ok (.iload_n 1, 1) := by decide +kernel
theorem dX3_noteRun_51 : decode cX3_noteRun 51 = .ok (.bipush 6, 2) := by decide +kernel
theorem dX3_noteRun_53 : decode cX3_noteRun 53 = .ok (.iastore, 1) := by decide +kernel
theorem dX3_noteRun_54 : decode cX3_noteRun 54 = .ok (.return_, 1) := by decide +kernel
theorem dX3_interfereWith_0 : decode cX3_interfereWith 0 = .ok (.aload_n 0, 1) := by decide +kernel
theorem dX3_interfereWith_1 : decode cX3_interfereWith 1 = .ok (.getfield 18, 3) := by decide +kernel
theorem dX3_interfereWith_4 : decode cX3_interfereWith 4 = .ok (.iload_n 1, 1) := by decide +kernel
theorem dX3_interfereWith_5 : decode cX3_interfereWith 5 = .ok (.iconst 2, 1) := by decide +kernel
theorem dX3_interfereWith_6 : decode cX3_interfereWith 6 = .ok (.iastore, 1) := by decide +kernel
theorem dX3_interfereWith_7 : decode cX3_interfereWith 7 = .ok (.aload_n 0, 1) := by decide +kernel
theorem dX3_interfereWith_8 : decode cX3_interfereWith 8 = .ok (.getfield 25, 3) := by decide +kernel
theorem dX3_interfereWith_11 : decode cX3_interfereWith 11 = .ok (.iload_n 1, 1) := by decide +kernel
theorem dX3_interfereWith_12 : decode cX3_interfereWith 12 = .ok (.iload_n 2, 1) := by decide +kernel
theorem dX3_interfereWith_13 : decode cX3_interfereWith 13 = .ok (.iastore, 1) := by decide +kernel
theorem dX3_interfereWith_14 : decode cX3_interfereWith 14 = .ok (.aload_n 0, 1) := by decide +kernel
theorem dX3_interfereWith_15 : decode cX3_interfereWith 15 = .ok (.dup, 1) := by decide +kernel
theorem dX3_interfereWith_16 : decode cX3_interfereWith 16 = .ok (.getfield 59, 3) := by decide +kernel
theorem dX3_interfereWith_19 : decode cX3_interfereWith 19 = .ok (.iconst 1, 1) := by decide +kernel
theorem dX3_interfereWith_20 : decode cX3_interfereWith 20 = .ok (.iadd, 1) := by decide +kernel
theorem dX3_interfereWith_21 : decode cX3_interfereWith 21 = .ok (.putfield 59, 3) := by decide +kernel
theorem dX3_interfereWith_24 : decode cX3_interfereWith 24 = .ok (.return_, 1) := by decide +kernel
theorem dX3_beginDay_0 : decode cX3_beginDay 0 = .ok (.aload_n 0, 1) := by decide +kernel
theorem dX3_beginDay_1 : decode cX3_beginDay 1 = .ok (.dup, 1) := by decide +kernel
theorem dX3_beginDay_2 : decode cX3_beginDay 2 = .ok (.getfield 41, 3) := by decide +kernel
theorem dX3_beginDay_5 : decode cX3_beginDay 5 = .ok (.iconst 1, 1) := by decide +kernel
theorem dX3_beginDay_6 : decode cX3_beginDay 6 = .ok (.iadd, 1) := by decide +kernel
theorem dX3_beginDay_7 : decode cX3_beginDay 7 = .ok (.putfield 41, 3) := by decide +kernel
theorem dX3_beginDay_10 : decode cX3_beginDay 10 = .ok (.aload_n 0, 1) := by decide +kernel
theorem dX3_beginDay_11 : decode cX3_beginDay 11 = .ok (.iconst 0, 1) := by decide +kernel
theorem dX3_beginDay_12 : decode cX3_beginDay 12 = .ok (.putfield 44, 3) := by decide +kernel
theorem dX3_beginDay_15 : decode cX3_beginDay 15 = .ok (.aload_n 0, 1) := by decide +kernel
theorem dX3_beginDay_16 : decode cX3_beginDay 16 = .ok (.iload_n 1, 1) := by decide +kernel
theorem dX3_beginDay_17 : decode cX3_beginDay 17 = .ok (.putfield 47, 3) := by decide +kernel
theorem dX3_beginDay_20 : decode cX3_beginDay 20 = .ok (.return_, 1) := by decide +kernel
theorem dX3_takeRank_0 : decode cX3_takeRank 0 = .ok (.iload_n 1, 1) := by decide +kernel
theorem dX3_takeRank_1 : decode cX3_takeRank 1 = .ok (.ifCond .ge 5, 3) := by decide +kernel
theorem dX3_takeRank_4 : decode cX3_takeRank 4 = .ok (.iconst 0, 1) := by decide +kernel
theorem dX3_takeRank_5 : decode cX3_takeRank 5 = .ok (.ireturn, 1) := by decide +kernel
theorem dX3_takeRank_6 : decode cX3_takeRank 6 = .ok (.iload_n 1, 1) := by decide +kernel
theorem dX3_takeRank_7 : decode cX3_takeRank 7 = .ok (.istore_n 2, 1) := by decide +kernel
theorem dX3_takeRank_8 : decode cX3_takeRank 8 = .ok (.iconst 0, 1) := by decide +kernel
theorem dX3_takeRank_9 : decode cX3_takeRank 9 = .ok (.istore_n 3, 1) := by decide +kernel
theorem dX3_takeRank_10 : decode cX3_takeRank 10 = .ok (.iconst 5, 1) := by decide +kernel
theorem dX3_takeRank_11 : decode cX3_takeRank 11 = .ok (.istore 4, 2) := by decide +kernel
theorem dX3_takeRank_13 : decode cX3_takeRank 13 = .ok (.iload 4, 2) := by decide +kernel
theorem dX3_takeRank_15 : decode cX3_takeRank 15 = .ok (.ifCond .lt 54, 3) := by decide +kernel
theorem dX3_takeRank_18 : decode cX3_takeRank 18 = .ok (.iload_n 2, 1) := by decide +kernel
theorem dX3_takeRank_19 : decode cX3_takeRank 19 = .ok (.bipush 10, 2) := by decide +kernel
theorem dX3_takeRank_21 : decode cX3_takeRank 21 = .ok (.irem, 1) := by decide +kernel
theorem dX3_takeRank_22 : decode cX3_takeRank 22 = .ok (.istore 5, 2) := by decide +kernel
theorem dX3_takeRank_24 : decode cX3_takeRank 24 = .ok (.iload 5, 2) := by decide +kernel
theorem dX3_takeRank_26 : decode cX3_takeRank 26 = .ok (.bipush 6, 2) := by decide +kernel
theorem dX3_takeRank_28 : decode cX3_takeRank 28 = .ok (.if_icmp .ge 12, 3) := by decide +kernel
theorem dX3_takeRank_31 : decode cX3_takeRank 31 = .ok (.iload_n 3, 1) := by decide +kernel
theorem dX3_takeRank_32 : decode cX3_takeRank 32 = .ok (.iload 5, 2) := by decide +kernel
theorem dX3_takeRank_34 : decode cX3_takeRank 34 = .ok (.ishr, 1) := by decide +kernel
theorem dX3_takeRank_35 : decode cX3_takeRank 35 = .ok (.iconst 1, 1) := by decide +kernel
theorem dX3_takeRank_36 : decode cX3_takeRank 36 = .ok (.iand, 1) := by decide +kernel
theorem dX3_takeRank_37 : decode cX3_takeRank 37 = .ok (.ifCond .eq 5, 3) := by decide +kernel
theorem dX3_takeRank_40 : decode cX3_takeRank 40 = .ok (.iconst 0, 1) := by decide +kernel
theorem dX3_takeRank_41 : decode cX3_takeRank 41 = .ok (.ireturn, 1) := by decide +kernel
theorem dX3_takeRank_42 : decode cX3_takeRank 42 = .ok (.iload_n 3, 1) := by decide +kernel
theorem dX3_takeRank_43 : decode cX3_takeRank 43 = .ok (.iconst 1, 1) := by decide +kernel
theorem dX3_takeRank_44 : decode cX3_takeRank 44 = .ok (.iload 5, 2) := by decide +kernel
theorem dX3_takeRank_46 : decode cX3_takeRank 46 = .ok (.ishl, 1) := by decide +kernel
theorem dX3_takeRank_47 : decode cX3_takeRank 47 = .ok (.ior, 1) := by decide +kernel
theorem dX3_takeRank_48 : decode cX3_takeRank 48 = .ok (.istore_n 3, 1) := by decide +kernel
theorem dX3_takeRank_49 : decode cX3_takeRank 49 = .ok (.aload_n 0, 1) := by decide +kernel
theorem dX3_takeRank_50 : decode cX3_takeRank 50 = .ok (.getfield 31, 3) := by decide +kernel
theorem dX3_takeRank_53 : decode cX3_takeRank 53 = .ok (.iload 4, 2) := by decide +kernel
theorem dX3_takeRank_55 : decode cX3_takeRank 55 = .ok (.iload 5, 2) := by decide +kernel
theorem dX3_takeRank_57 : decode cX3_takeRank 57 = .ok (.iastore, 1) := by decide +kernel
theorem dX3_takeRank_58 : decode cX3_takeRank 58 = .ok (.iload_n 2, 1) := by decide +kernel
theorem dX3_takeRank_59 : decode cX3_takeRank 59 = .ok (.bipush 10, 2) := by decide +kernel
theorem dX3_takeRank_61 : decode cX3_takeRank 61 = .ok (.idiv, 1) := by decide +kernel
theorem dX3_takeRank_62 : decode cX3_takeRank 62 = .ok (.istore_n 2, 1) := by decide +kernel
theorem dX3_takeRank_63 : decode cX3_takeRank 63 = .ok (.iinc 4 (-1), 3) := by decide +kernel
theorem dX3_takeRank_66 : decode cX3_takeRank 66 = .ok (.goto (-53), 3) := by decide +kernel
theorem dX3_takeRank_69 : decode cX3_takeRank 69 = .ok (.iload_n 2, 1) := by decide +kernel
theorem dX3_takeRank_70 : decode cX3_takeRank 70 = .ok (.ifCond .ne 7, 3) := by decide +kernel
theorem dX3_takeRank_73 : decode cX3_takeRank 73 = .ok (.iconst 1, 1) := by decide +kernel
theorem dX3_takeRank_74 : decode cX3_takeRank 74 = .ok (.goto 4, 3) := by decide +kernel
theorem dX3_takeRank_77 : decode cX3_takeRank 77 = .ok (.iconst 0, 1) := by decide +kernel
theorem dX3_takeRank_78 : decode cX3_takeRank 78 = .ok (.ireturn, 1) := by decide +kernel
