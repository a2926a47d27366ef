set_option maxRecDepth 20000 in
theorem ggL_law_L_standing : GoodIn wsL_law wsL_standing := goodIn_ca (goodIn_r _ [478, 107, 479, 480, 481, 2, 482, 113, 114, 17, 270, 360, 483, 484, 485, 16, 486, 54, 46, 487, 488, 489, 490, 44, 378, 379, 380, 381, 49, 382, 367, 368, 369, 370, 371, 372, 373, 47, 48, 919, 920, 921, 922, 923, 924, 925, 926, 940, 941, 942, 943, 944, 945, 946, 947, 948, 949, 950, 951, 952, 953, 954] (by decide +kernel) (by decide +kernel)) (goodIn_sub (fun _ h => List.mem_append_left _ (List.mem_append_left _ (List.mem_append_right _ h))) (by decide +kernel))
set_option maxRecDepth 20000 in
theorem gL_law_L_standing : GoodIn wsL_law (va_wsS RL 127 yL_standing wsL_standing) := goodIn_app (goodIn_of _ (by decide +kernel)) ggL_law_L_standing
set_option maxRecDepth 20000 in
theorem ggL_law_X6_standing : GoodIn wsL_law wsX6_standing := goodIn_r _ [494, 94, 135, 136, 137, 5, 138, 139, 340, 341, 342, 253, 254, 255, 495, 496, 497, 498, 424, 425, 426, 412, 413, 414, 415, 416, 417, 418, 419, 420, 927, 928, 929, 930, 931, 932, 933, 934, 935, 936, 937, 938, 939] (by decide +kernel) (by decide +kernel)
set_option maxRecDepth 20000 in
theorem gL_law_X6_standing : GoodIn wsL_law (wsV RL 129 RX6 yX6_standing wsX6_standing) := goodIn_app (goodIn_of _ (by decide +kernel)) ggL_law_X6_standing
set_option maxRecDepth 20000 in
theorem ggL_law_L_owner : GoodIn wsL_law wsL_owner := goodIn_ca (goodIn_r _ [501, 107, 502, 503, 504, 2, 505, 113, 114, 17, 506, 190, 191, 507, 508, 509, 16, 510, 54, 43, 511, 512, 513, 514, 515, 516, 517, 382, 367, 368, 369, 46, 370, 371, 372, 373, 47, 48, 919, 920, 921, 922, 923, 924, 925, 926, 940, 941, 942, 943, 944, 945, 946, 947, 948, 949, 950, 951, 952, 953, 954] (by decide +kernel) (by decide +kernel)) (goodIn_sub (fun _ h => List.mem_append_left _ (List.mem_append_left _ (List.mem_append_right _ h))) (by decide +kernel))
set_option maxRecDepth 20000 in
theorem gL_law_L_owner : GoodIn wsL_law (va_wsS RL 130 yL_owner wsL_owner) := goodIn_app (goodIn_of _ (by decide +kernel)) ggL_law_L_owner
set_option maxRecDepth 20000 in
theorem ggL_law_X6_owner : GoodIn wsL_law wsX6_owner := goodIn_r _ [521, 460, 94, 132, 133, 5, 134, 135, 136, 137, 138, 139, 253, 254, 255, 412, 413, 414, 340, 341, 342, 415, 416, 417, 418, 419, 420, 927, 928, 929, 930, 931, 932, 933, 934, 935, 936, 937, 938, 939] (by decide +kernel) (by decide +kernel)
set_option maxRecDepth 20000 in
theorem gL_law_X6_owner : GoodIn wsL_law (wsV RL 132 RX6 yX6_owner wsX6_owner) := goodIn_app (goodIn_of _ (by decide +kernel)) ggL_law_X6_owner
set_option maxRecDepth 20000 in
theorem ggL_law_L_enter : GoodIn wsL_law wsL_enter := goodIn_ca (goodIn_ca (goodIn_r _ [524, 107, 108, 525, 526, 527, 2, 528, 113, 114, 115, 116, 17, 270, 30, 506, 190, 191, 529, 198, 199, 530, 201, 202, 16, 203, 54, 44, 531, 532, 533, 29, 534, 283, 535, 82, 536, 272, 273, 274, 43, 275, 276, 277, 278, 45, 47, 48, 49, 46, 55, 56, 57, 58, 59, 60, 61, 537, 205, 206, 207, 919, 920, 921, 922, 923, 924, 925, 926, 940, 941, 942, 943, 944, 945, 946, 947, 948, 949, 950, 951, 952, 953, 954, 962, 963, 964] (by decide +kernel) (by decide +kernel)) (goodIn_sub (fun _ h => List.mem_append_left _ (List.mem_append_left _ (List.mem_append_right _ h))) (by decide +kernel))) (goodIn_sub (fun _ h => List.mem_append_left _ (List.mem_append_right _ h)) (by decide +kernel))
set_option maxRecDepth 20000 in
theorem gL_law_L_enter : GoodIn wsL_law (va_wsS RL 133 yL_enter wsL_enter) := goodIn_app (goodIn_of _ (by decide +kernel)) ggL_law_L_enter
set_option maxRecDepth 20000 in
theorem ggL_law_X6_enter : GoodIn wsL_law wsX6_enter := goodIn_r _ [541, 460, 249, 94, 132, 133, 5, 134, 250, 251, 252, 253, 254, 255, 135, 136, 137, 138, 139, 542, 543, 544, 545, 288, 96, 289, 290, 291, 256, 257, 258, 927, 928, 929, 930, 931, 932, 933, 934, 935, 936, 937, 938, 939] (by decide +kernel) (by decide +kernel)
set_option maxRecDepth 20000 in
theorem gL_law_X6_enter : GoodIn wsL_law (wsV RL 135 RX6 yX6_enter wsX6_enter) := goodIn_app (goodIn_of _ (by decide +kernel)) ggL_law_X6_enter
set_option maxRecDepth 20000 in
theorem ggL_law_L_withdraw : GoodIn wsL_law wsL_withdraw := goodIn_ca (goodIn_ca (goodIn_r _ [548, 350, 108, 549, 550, 551, 2, 552, 355, 356, 115, 116, 17, 359, 30, 362, 363, 364, 16, 365, 54, 531, 532, 533, 29, 534, 283, 535, 82, 536, 272, 273, 274, 43, 275, 276, 277, 278, 44, 45, 47, 48, 49, 46, 55, 56, 57, 58, 59, 60, 61, 919, 920, 921, 922, 923, 924, 925, 926, 940, 941, 942, 943, 944, 945, 946, 947, 948, 949, 950, 951, 952, 953, 954, 962, 963, 964] (by decide +kernel) (by decide +kernel)) (goodIn_sub (fun _ h => List.mem_append_right _ h) (by decide +kernel))) (goodIn_sub (fun _ h => List.mem_append_left _ (List.mem_append_right _ h)) (by decide +kernel))
set_option maxRecDepth 20000 in
theorem gL_law_L_withdraw : GoodIn wsL_law (va_wsS RL 136 yL_withdraw wsL_withdraw) := goodIn_app (goodIn_of _ (by decide +kernel)) ggL_law_L_withdraw
set_option maxRecDepth 20000 in
theorem ggL_law_X6_withdraw : GoodIn wsL_law wsX6_withdraw := goodIn_r _ [556, 94, 409, 410, 5, 411, 132, 133, 134, 334, 335, 336, 253, 254, 255, 135, 136, 137, 138, 139, 542, 543, 544, 545, 288, 96, 289, 290, 291, 927, 928, 929, 930, 931, 932, 933, 934, 935, 936, 937, 938, 939] (by decide +kernel) (by decide +kernel)
set_option maxRecDepth 20000 in
theorem gL_law_X6_withdraw : GoodIn wsL_law (wsV RL 138 RX6 yX6_withdraw wsX6_withdraw) := goodIn_app (goodIn_of _ (by decide +kernel)) ggL_law_X6_withdraw
set_option maxRecDepth 20000 in
theorem ggL_law_L_run : GoodIn wsL_law wsL_run := goodIn_ca (goodIn_ca (goodIn_r _ [559, 107, 108, 560, 561, 562, 2, 563, 113, 114, 115, 116, 22, 17, 30, 564, 565, 566, 21, 567, 568, 67, 569, 570, 571, 572, 573, 574, 575, 576, 387, 65, 388, 389, 390, 391, 66, 392, 393, 394, 395, 396, 16, 397, 58, 54, 43, 398, 399, 400, 401, 402, 403, 577, 578, 579, 580, 56, 57, 581, 308, 309, 310, 311, 312, 313, 314, 45, 531, 532, 533, 29, 534, 283, 535, 82, 536, 272, 273, 274, 275, 276, 277, 278, 44, 47, 48, 49, 46, 55, 59, 60, 61, 582, 583, 584, 585, 586, 587, 588, 589, 590, 591, 592, 593, 594, 595, 596, 597, 598, 366, 367, 368, 369, 370, 371, 372, 373, 919, 920, 921, 922, 923, 924, 925, 926, 955, 956, 957, 958, 940, 941, 942, 943, 944, 945, 946, 947, 948, 949, 950, 951, 952, 953, 954, 962, 963, 964] (by decide +kernel) (by decide +kernel)) (goodIn_sub (fun _ h => List.mem_append_left _ (List.mem_append_left _ (List.mem_append_right _ h))) (by decide +kernel))) (goodIn_sub (fun _ h => List.mem_append_left _ (List.mem_append_right _ h)) (by decide +kernel))
set_option maxRecDepth 20000 in
theorem gL_law_L_run : GoodIn wsL_law (va_wsS RL 141 yL_run wsL_run) := goodIn_app (goodIn_of _ (by decide +kernel)) ggL_law_L_run
set_option maxRecDepth 20000 in
theorem ggL_law_X6_run : GoodIn wsL_law wsX6_run := goodIn_r _ [602, 603, 94, 604, 605, 5, 606, 607, 608, 132, 133, 134, 418, 419, 420, 609, 610, 611, 328, 329, 330, 331, 332, 333, 334, 335, 336, 253, 254, 255, 135, 136, 137, 138, 139, 542, 543, 544, 545, 288, 96, 289, 290, 291, 612, 613, 614, 615, 431, 99, 432, 433, 434, 435, 436, 437, 438, 439, 440, 441, 442, 443, 616, 617, 618, 412, 413, 414, 340, 341, 342, 415, 416, 417, 927, 928, 929, 930, 931, 932, 933, 934, 935, 936, 937, 938, 939] (by decide +kernel) (by decide +kernel)
set_option maxRecDepth 20000 in
theorem gL_law_X6_run : GoodIn wsL_law (wsV RL 144 RX6 yX6_run wsX6_run) := goodIn_app (goodIn_of _ (by decide +kernel)) ggL_law_X6_run
set_option maxRecDepth 20000 in
theorem ggL_law_L_interfere : GoodIn wsL_law wsL_interfere := goodIn_ca (goodIn_ca (goodIn_r _ [621, 350, 108, 622, 623, 624, 2, 625, 355, 356, 115, 116, 17, 359, 30, 362, 363, 364, 16, 365, 54, 451, 213, 214, 531, 532, 533, 29, 534, 283, 535, 82, 536, 272, 273, 274, 43, 275, 276, 277, 278, 44, 45, 47, 48, 49, 46, 55, 56, 57, 58, 59, 60, 61, 626, 627, 628, 629, 366, 367, 368, 369, 370, 371, 372, 373, 919, 920, 921, 922, 923, 924, 925, 926, 940, 941, 942, 943, 944, 945, 946, 947, 948, 949, 950, 951, 952, 953, 954, 962, 963, 964] (by decide +kernel) (by decide +kernel)) (goodIn_sub (fun _ h => List.mem_append_right _ h) (by decide +kernel))) (goodIn_sub (fun _ h => List.mem_append_left _ (List.mem_append_right _ h)) (by decide +kernel))
set_option maxRecDepth 20000 in
theorem gL_law_L_interfere : GoodIn wsL_law (va_wsS RL 145 yL_interfere wsL_interfere) := goodIn_app (goodIn_of _ (by decide +kernel)) ggL_law_L_interfere
set_option maxRecDepth 20000 in
theorem ggL_law_X6_interfere : GoodIn wsL_law wsX6_interfere := goodIn_r _ [633, 94, 409, 410, 5, 411, 132, 133, 134, 457, 458, 459, 460, 334, 335, 336, 253, 254, 255, 135, 136, 137, 138, 139, 542, 543, 544, 545, 288, 96, 289, 290, 291, 634, 635, 636, 412, 413, 414, 340, 341, 342, 415, 416, 417, 418, 419, 420, 927, 928, 929, 930, 931, 932, 933, 934, 935, 936, 937, 938, 939] (by decide +kernel) (by decide +kernel)
set_option maxRecDepth 20000 in
theorem gL_law_X6_interfere : GoodIn wsL_law (wsV RL 147 RX6 yX6_interfere wsX6_interfere) := goodIn_app (goodIn_of _ (by decide +kernel)) ggL_law_X6_interfere
set_option maxRecDepth 20000 in
theorem ggL_law_L_nextDay : GoodIn wsL_law wsL_nextDay := goodIn_ca (goodIn_r _ [639, 107, 640, 641, 642, 2, 643, 113, 114, 30, 17, 299, 644, 645, 646, 531, 532, 533, 29, 534, 283, 535, 82, 536, 272, 273, 16, 274, 54, 43, 275, 276, 277, 278, 44, 45, 47, 48, 49, 46, 55, 56, 57, 58, 59, 60, 61, 647, 648, 649, 650, 919, 920, 921, 922, 923, 924, 925, 926, 940, 941, 942, 943, 944, 945, 946, 947, 948, 949, 950, 951, 952, 953, 954, 962, 963, 964] (by decide +kernel) (by decide +kernel)) (goodIn_sub (fun _ h => List.mem_append_left _ (List.mem_append_left _ (List.mem_append_right _ h))) (by decide +kernel))
set_option maxRecDepth 20000 in
theorem gL_law_L_nextDay : GoodIn wsL_law (va_wsS RL 148 yL_nextDay wsL_nextDay) := goodIn_app (goodIn_of _ (by decide +kernel)) ggL_law_L_nextDay
set_option maxRecDepth 20000 in
theorem ggL_law_X6_nextDay : GoodIn wsL_law wsX6_nextDay := goodIn_r _ [654, 94, 655, 656, 5, 657, 658, 659, 132, 133, 134, 135, 136, 137, 138, 139, 542, 543, 544, 545, 288, 96, 289, 290, 291, 660, 661, 662, 927, 928, 929, 930, 931, 932, 933, 934, 935, 936, 937, 938, 939] (by decide +kernel) (by decide +kernel)
set_option maxRecDepth 20000 in
theorem gL_law_X6_nextDay : GoodIn wsL_law (wsV RL 150 RX6 yX6_nextDay wsX6_nextDay) := goodIn_app (goodIn_of _ (by decide +kernel)) ggL_law_X6_nextDay
set_option maxRecDepth 20000 in
theorem ggL_law_L_setRank : GoodIn wsL_law wsL_setRank := goodIn_ca (goodIn_r _ [665, 107, 666, 667, 668, 2, 669, 113, 114, 18, 17, 270, 30, 271, 272, 273, 16, 274, 54, 43, 275, 276, 277, 278, 44, 45, 47, 48, 49, 46, 55, 56, 57, 58, 59, 60, 61, 670, 671, 672, 673, 374, 375, 376, 377, 378, 379, 380, 381, 382, 367, 368, 369, 370, 371, 372, 373, 531, 532, 533, 29, 534, 283, 535, 82, 536, 919, 920, 921, 922, 923, 924, 925, 926, 940, 941, 942, 943, 944, 945, 946, 947, 948, 949, 950, 951, 952, 953, 954, 962, 963, 964] (by decide +kernel) (by decide +kernel)) (goodIn_sub (fun _ h => List.mem_append_left _ (List.mem_append_left _ (List.mem_append_right _ h))) (by decide +kernel))
set_option maxRecDepth 20000 in
theorem gL_law_L_setRank : GoodIn wsL_law (va_wsS RL 151 yL_setRank wsL_setRank) := goodIn_app (goodIn_of _ (by decide +kernel)) ggL_law_L_setRank
set_option maxRecDepth 20000 in
theorem ggL_law_X6_setRank : GoodIn wsL_law wsX6_setRank := goodIn_r _ [677, 94, 95, 678, 679, 5, 680, 135, 136, 137, 138, 139, 542, 543, 544, 545, 288, 96, 289, 290, 291, 421, 422, 423, 340, 341, 342, 253, 254, 255, 424, 425, 426, 412, 413, 414, 415, 416, 417, 418, 419, 420, 927, 928, 929, 930, 931, 932, 933, 934, 935, 936, 937, 938, 939] (by decide +kernel) (by decide +kernel)
set_option maxRecDepth 20000 in
theorem gL_law_X6_setRank : GoodIn wsL_law (wsV RL 153 RX6 yX6_setRank wsX6_setRank) := goodIn_app (goodIn_of _ (by decide +kernel)) ggL_law_X6_setRank
set_option maxRecDepth 20000 in
theorem ggL_law_L_setDraw : GoodIn wsL_law wsL_setDraw := goodIn_ca (goodIn_ca (goodIn_ca (goodIn_r _ [683, 350, 107, 108, 684, 685, 686, 2, 687, 355, 356, 113, 114, 115, 116, 17, 30, 358, 362, 363, 364, 16, 365, 54, 529, 198, 199, 530, 201, 202, 203, 44, 531, 532, 533, 29, 534, 283, 535, 82, 536, 272, 273, 274, 43, 275, 276, 277, 278, 45, 47, 48, 49, 46, 55, 56, 57, 58, 59, 60, 61, 919, 920, 921, 922, 923, 924, 925, 926, 940, 941, 942, 943, 944, 945, 946, 947, 948, 949, 950, 951, 952, 953, 954, 962, 963, 964] (by decide +kernel) (by decide +kernel)) (goodIn_sub (fun _ h => List.mem_append_right _ h) (by decide +kernel))) (goodIn_sub (fun _ h => List.mem_append_left _ (List.mem_append_left _ (List.mem_append_right _ h))) (by decide +kernel))) (goodIn_sub (fun _ h => List.mem_append_left _ (List.mem_append_right _ h)) (by decide +kernel))
set_option maxRecDepth 20000 in
theorem gL_law_L_setDraw : GoodIn wsL_law (va_wsS RL 154 yL_setDraw wsL_setDraw) := goodIn_app (goodIn_of _ (by decide +kernel)) ggL_law_L_setDraw
set_option maxRecDepth 20000 in
theorem ggL_law_X6_setDraw : GoodIn wsL_law wsX6_setDraw := goodIn_r _ [691, 94, 249, 409, 410, 5, 411, 132, 133, 134, 250, 251, 252, 253, 254, 255, 135, 136, 137, 138, 139, 542, 543, 544, 545, 288, 96, 289, 290, 291, 927, 928, 929, 930, 931, 932, 933, 934, 935, 936, 937, 938, 939] (by decide +kernel) (by decide +kernel)
set_option maxRecDepth 20000 in
theorem gL_law_X6_setDraw : GoodIn wsL_law (wsV RL 156 RX6 yX6_setDraw wsX6_setDraw) := goodIn_app (goodIn_of _ (by decide +kernel)) ggL_law_X6_setDraw
set_option maxRecDepth 20000 in
theorem ggL_law_L_undo : GoodIn wsL_law wsL_undo := goodIn_ca (goodIn_r _ [694, 108, 695, 696, 697, 2, 698, 115, 116, 30, 17, 699, 700, 701, 29, 702, 283, 703, 704, 705, 706, 82, 535, 536, 272, 273, 16, 274, 54, 43, 275, 276, 277, 278, 44, 45, 47, 48, 49, 46, 55, 56, 57, 58, 59, 60, 61, 919, 920, 921, 922, 923, 924, 925, 926, 962, 963, 964, 940, 941, 942, 943, 944, 945, 946, 947, 948, 949, 950, 951, 952, 953, 954] (by decide +kernel) (by decide +kernel)) (goodIn_sub (fun _ h => List.mem_append_left _ (List.mem_append_right _ h)) (by decide +kernel))
set_option maxRecDepth 20000 in
theorem gL_law_L_undo : GoodIn wsL_law (va_wsS RL 157 yL_undo wsL_undo) := goodIn_app (goodIn_of _ (by decide +kernel)) ggL_law_L_undo
