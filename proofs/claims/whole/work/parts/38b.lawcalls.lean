set_option maxRecDepth 20000 in
theorem ggL_law_L_standing : GoodIn wsL_law wsL_standing := goodIn_ca (goodIn_r _ [479, 107, 480, 481, 482, 2, 483, 113, 114, 17, 270, 360, 484, 485, 486, 16, 487, 54, 46, 488, 489, 490, 491, 44, 378, 379, 380, 381, 49, 382, 367, 368, 369, 370, 371, 372, 373, 47, 48, 920, 921, 922, 923, 924, 925, 926, 927, 941, 942, 943, 944, 945, 946, 947, 948, 949, 950, 951, 952, 953, 954, 955] (by decide +kernel) (by decide +kernel)) (goodIn_sub (fun _ h => List.mem_append_left _ (List.mem_append_left _ (List.mem_append_right _ h))) (by decide +kernel))
set_option maxRecDepth 20000 in
theorem gL_law_L_standing : GoodIn wsL_law (va_wsS RL 127 yL_standing wsL_standing) := goodIn_app (goodIn_of _ (by decide +kernel)) ggL_law_L_standing
set_option maxRecDepth 20000 in
theorem ggL_law_X6_standing : GoodIn wsL_law wsX6_standing := goodIn_r _ [495, 94, 135, 136, 137, 5, 138, 139, 340, 341, 342, 253, 254, 255, 496, 497, 498, 499, 425, 426, 427, 413, 414, 415, 416, 417, 418, 419, 420, 421, 928, 929, 930, 931, 932, 933, 934, 935, 936, 937, 938, 939, 940] (by decide +kernel) (by decide +kernel)
set_option maxRecDepth 20000 in
theorem gL_law_X6_standing : GoodIn wsL_law (wsV RL 129 RX6 yX6_standing wsX6_standing) := goodIn_app (goodIn_of _ (by decide +kernel)) ggL_law_X6_standing
set_option maxRecDepth 20000 in
theorem ggL_law_L_owner : GoodIn wsL_law wsL_owner := goodIn_ca (goodIn_r _ [502, 107, 503, 504, 505, 2, 506, 113, 114, 17, 507, 190, 191, 508, 509, 510, 16, 511, 54, 43, 512, 513, 514, 515, 516, 517, 518, 382, 367, 368, 369, 46, 370, 371, 372, 373, 47, 48, 920, 921, 922, 923, 924, 925, 926, 927, 941, 942, 943, 944, 945, 946, 947, 948, 949, 950, 951, 952, 953, 954, 955] (by decide +kernel) (by decide +kernel)) (goodIn_sub (fun _ h => List.mem_append_left _ (List.mem_append_left _ (List.mem_append_right _ h))) (by decide +kernel))
set_option maxRecDepth 20000 in
theorem gL_law_L_owner : GoodIn wsL_law (va_wsS RL 130 yL_owner wsL_owner) := goodIn_app (goodIn_of _ (by decide +kernel)) ggL_law_L_owner
set_option maxRecDepth 20000 in
theorem ggL_law_X6_owner : GoodIn wsL_law wsX6_owner := goodIn_r _ [522, 461, 94, 132, 133, 5, 134, 135, 136, 137, 138, 139, 253, 254, 255, 413, 414, 415, 340, 341, 342, 416, 417, 418, 419, 420, 421, 928, 929, 930, 931, 932, 933, 934, 935, 936, 937, 938, 939, 940] (by decide +kernel) (by decide +kernel)
set_option maxRecDepth 20000 in
theorem gL_law_X6_owner : GoodIn wsL_law (wsV RL 132 RX6 yX6_owner wsX6_owner) := goodIn_app (goodIn_of _ (by decide +kernel)) ggL_law_X6_owner
set_option maxRecDepth 20000 in
theorem ggL_law_L_enter : GoodIn wsL_law wsL_enter := goodIn_ca (goodIn_ca (goodIn_r _ [525, 107, 108, 526, 527, 528, 2, 529, 113, 114, 115, 116, 17, 270, 30, 507, 190, 191, 530, 198, 199, 531, 201, 202, 16, 203, 54, 44, 532, 533, 534, 29, 535, 283, 536, 82, 537, 272, 273, 274, 43, 275, 276, 277, 278, 45, 47, 48, 49, 46, 55, 56, 57, 58, 59, 60, 61, 538, 205, 206, 207, 920, 921, 922, 923, 924, 925, 926, 927, 941, 942, 943, 944, 945, 946, 947, 948, 949, 950, 951, 952, 953, 954, 955, 963, 964, 965] (by decide +kernel) (by decide +kernel)) (goodIn_sub (fun _ h => List.mem_append_left _ (List.mem_append_left _ (List.mem_append_right _ h))) (by decide +kernel))) (goodIn_sub (fun _ h => List.mem_append_left _ (List.mem_append_right _ h)) (by decide +kernel))
set_option maxRecDepth 20000 in
theorem gL_law_L_enter : GoodIn wsL_law (va_wsS RL 133 yL_enter wsL_enter) := goodIn_app (goodIn_of _ (by decide +kernel)) ggL_law_L_enter
set_option maxRecDepth 20000 in
theorem ggL_law_X6_enter : GoodIn wsL_law wsX6_enter := goodIn_r _ [542, 461, 249, 94, 132, 133, 5, 134, 250, 251, 252, 253, 254, 255, 135, 136, 137, 138, 139, 543, 544, 545, 546, 288, 96, 289, 290, 291, 256, 257, 258, 928, 929, 930, 931, 932, 933, 934, 935, 936, 937, 938, 939, 940] (by decide +kernel) (by decide +kernel)
set_option maxRecDepth 20000 in
theorem gL_law_X6_enter : GoodIn wsL_law (wsV RL 135 RX6 yX6_enter wsX6_enter) := goodIn_app (goodIn_of _ (by decide +kernel)) ggL_law_X6_enter
set_option maxRecDepth 20000 in
theorem ggL_law_L_withdraw : GoodIn wsL_law wsL_withdraw := goodIn_ca (goodIn_ca (goodIn_r _ [549, 350, 108, 550, 551, 552, 2, 553, 355, 356, 115, 116, 17, 359, 30, 362, 363, 364, 16, 365, 54, 532, 533, 534, 29, 535, 283, 536, 82, 537, 272, 273, 274, 43, 275, 276, 277, 278, 44, 45, 47, 48, 49, 46, 55, 56, 57, 58, 59, 60, 61, 920, 921, 922, 923, 924, 925, 926, 927, 941, 942, 943, 944, 945, 946, 947, 948, 949, 950, 951, 952, 953, 954, 955, 963, 964, 965] (by decide +kernel) (by decide +kernel)) (goodIn_sub (fun _ h => List.mem_append_right _ h) (by decide +kernel))) (goodIn_sub (fun _ h => List.mem_append_left _ (List.mem_append_right _ h)) (by decide +kernel))
set_option maxRecDepth 20000 in
theorem gL_law_L_withdraw : GoodIn wsL_law (va_wsS RL 136 yL_withdraw wsL_withdraw) := goodIn_app (goodIn_of _ (by decide +kernel)) ggL_law_L_withdraw
set_option maxRecDepth 20000 in
theorem ggL_law_X6_withdraw : GoodIn wsL_law wsX6_withdraw := goodIn_r _ [557, 94, 410, 411, 5, 412, 132, 133, 134, 334, 335, 336, 253, 254, 255, 135, 136, 137, 138, 139, 543, 544, 545, 546, 288, 96, 289, 290, 291, 928, 929, 930, 931, 932, 933, 934, 935, 936, 937, 938, 939, 940] (by decide +kernel) (by decide +kernel)
set_option maxRecDepth 20000 in
theorem gL_law_X6_withdraw : GoodIn wsL_law (wsV RL 138 RX6 yX6_withdraw wsX6_withdraw) := goodIn_app (goodIn_of _ (by decide +kernel)) ggL_law_X6_withdraw
set_option maxRecDepth 20000 in
theorem ggL_law_L_run : GoodIn wsL_law wsL_run := goodIn_ca (goodIn_ca (goodIn_r _ [560, 107, 108, 561, 562, 563, 2, 564, 113, 114, 115, 116, 22, 17, 30, 565, 566, 567, 21, 568, 569, 67, 570, 571, 572, 573, 574, 575, 576, 577, 387, 65, 388, 389, 390, 391, 66, 392, 393, 394, 395, 396, 16, 397, 58, 43, 398, 363, 364, 365, 54, 399, 400, 401, 402, 403, 404, 578, 579, 580, 581, 56, 57, 582, 308, 309, 310, 311, 312, 313, 314, 45, 532, 533, 534, 29, 535, 283, 536, 82, 537, 272, 273, 274, 275, 276, 277, 278, 44, 47, 48, 49, 46, 55, 59, 60, 61, 583, 584, 585, 586, 587, 588, 589, 590, 591, 592, 593, 594, 595, 596, 597, 598, 599, 366, 367, 368, 369, 370, 371, 372, 373, 920, 921, 922, 923, 924, 925, 926, 927, 956, 957, 958, 959, 941, 942, 943, 944, 945, 946, 947, 948, 949, 950, 951, 952, 953, 954, 955, 963, 964, 965] (by decide +kernel) (by decide +kernel)) (goodIn_sub (fun _ h => List.mem_append_left _ (List.mem_append_left _ (List.mem_append_right _ h))) (by decide +kernel))) (goodIn_sub (fun _ h => List.mem_append_left _ (List.mem_append_right _ h)) (by decide +kernel))
set_option maxRecDepth 20000 in
theorem gL_law_L_run : GoodIn wsL_law (va_wsS RL 141 yL_run wsL_run) := goodIn_app (goodIn_of _ (by decide +kernel)) ggL_law_L_run
set_option maxRecDepth 20000 in
theorem ggL_law_X6_run : GoodIn wsL_law wsX6_run := goodIn_r _ [603, 604, 94, 605, 606, 5, 607, 608, 609, 132, 133, 134, 419, 420, 421, 610, 611, 612, 328, 329, 330, 331, 332, 333, 334, 335, 336, 253, 254, 255, 135, 136, 137, 138, 139, 543, 544, 545, 546, 288, 96, 289, 290, 291, 613, 614, 615, 616, 432, 99, 433, 434, 435, 436, 437, 438, 439, 440, 441, 442, 443, 444, 617, 618, 619, 413, 414, 415, 340, 341, 342, 416, 417, 418, 928, 929, 930, 931, 932, 933, 934, 935, 936, 937, 938, 939, 940] (by decide +kernel) (by decide +kernel)
set_option maxRecDepth 20000 in
theorem gL_law_X6_run : GoodIn wsL_law (wsV RL 144 RX6 yX6_run wsX6_run) := goodIn_app (goodIn_of _ (by decide +kernel)) ggL_law_X6_run
set_option maxRecDepth 20000 in
theorem ggL_law_L_interfere : GoodIn wsL_law wsL_interfere := goodIn_ca (goodIn_ca (goodIn_r _ [622, 350, 108, 623, 624, 625, 2, 626, 355, 356, 115, 116, 17, 359, 30, 362, 363, 364, 16, 365, 54, 452, 213, 214, 532, 533, 534, 29, 535, 283, 536, 82, 537, 272, 273, 274, 43, 275, 276, 277, 278, 44, 45, 47, 48, 49, 46, 55, 56, 57, 58, 59, 60, 61, 627, 628, 629, 630, 366, 367, 368, 369, 370, 371, 372, 373, 920, 921, 922, 923, 924, 925, 926, 927, 941, 942, 943, 944, 945, 946, 947, 948, 949, 950, 951, 952, 953, 954, 955, 963, 964, 965] (by decide +kernel) (by decide +kernel)) (goodIn_sub (fun _ h => List.mem_append_right _ h) (by decide +kernel))) (goodIn_sub (fun _ h => List.mem_append_left _ (List.mem_append_right _ h)) (by decide +kernel))
set_option maxRecDepth 20000 in
theorem gL_law_L_interfere : GoodIn wsL_law (va_wsS RL 145 yL_interfere wsL_interfere) := goodIn_app (goodIn_of _ (by decide +kernel)) ggL_law_L_interfere
set_option maxRecDepth 20000 in
theorem ggL_law_X6_interfere : GoodIn wsL_law wsX6_interfere := goodIn_r _ [634, 94, 410, 411, 5, 412, 132, 133, 134, 458, 459, 460, 461, 334, 335, 336, 253, 254, 255, 135, 136, 137, 138, 139, 543, 544, 545, 546, 288, 96, 289, 290, 291, 635, 636, 637, 413, 414, 415, 340, 341, 342, 416, 417, 418, 419, 420, 421, 928, 929, 930, 931, 932, 933, 934, 935, 936, 937, 938, 939, 940] (by decide +kernel) (by decide +kernel)
set_option maxRecDepth 20000 in
theorem gL_law_X6_interfere : GoodIn wsL_law (wsV RL 147 RX6 yX6_interfere wsX6_interfere) := goodIn_app (goodIn_of _ (by decide +kernel)) ggL_law_X6_interfere
set_option maxRecDepth 20000 in
theorem ggL_law_L_nextDay : GoodIn wsL_law wsL_nextDay := goodIn_ca (goodIn_r _ [640, 107, 641, 642, 643, 2, 644, 113, 114, 30, 17, 299, 645, 646, 647, 532, 533, 534, 29, 535, 283, 536, 82, 537, 272, 273, 16, 274, 54, 43, 275, 276, 277, 278, 44, 45, 47, 48, 49, 46, 55, 56, 57, 58, 59, 60, 61, 648, 649, 650, 651, 920, 921, 922, 923, 924, 925, 926, 927, 941, 942, 943, 944, 945, 946, 947, 948, 949, 950, 951, 952, 953, 954, 955, 963, 964, 965] (by decide +kernel) (by decide +kernel)) (goodIn_sub (fun _ h => List.mem_append_left _ (List.mem_append_left _ (List.mem_append_right _ h))) (by decide +kernel))
set_option maxRecDepth 20000 in
theorem gL_law_L_nextDay : GoodIn wsL_law (va_wsS RL 148 yL_nextDay wsL_nextDay) := goodIn_app (goodIn_of _ (by decide +kernel)) ggL_law_L_nextDay
set_option maxRecDepth 20000 in
theorem ggL_law_X6_nextDay : GoodIn wsL_law wsX6_nextDay := goodIn_r _ [655, 94, 656, 657, 5, 658, 659, 660, 132, 133, 134, 135, 136, 137, 138, 139, 543, 544, 545, 546, 288, 96, 289, 290, 291, 661, 662, 663, 928, 929, 930, 931, 932, 933, 934, 935, 936, 937, 938, 939, 940] (by decide +kernel) (by decide +kernel)
set_option maxRecDepth 20000 in
theorem gL_law_X6_nextDay : GoodIn wsL_law (wsV RL 150 RX6 yX6_nextDay wsX6_nextDay) := goodIn_app (goodIn_of _ (by decide +kernel)) ggL_law_X6_nextDay
set_option maxRecDepth 20000 in
theorem ggL_law_L_setRank : GoodIn wsL_law wsL_setRank := goodIn_ca (goodIn_r _ [666, 107, 667, 668, 669, 2, 670, 113, 114, 18, 17, 270, 30, 271, 272, 273, 16, 274, 54, 43, 275, 276, 277, 278, 44, 45, 47, 48, 49, 46, 55, 56, 57, 58, 59, 60, 61, 671, 672, 673, 674, 374, 375, 376, 377, 378, 379, 380, 381, 382, 367, 368, 369, 370, 371, 372, 373, 532, 533, 534, 29, 535, 283, 536, 82, 537, 920, 921, 922, 923, 924, 925, 926, 927, 941, 942, 943, 944, 945, 946, 947, 948, 949, 950, 951, 952, 953, 954, 955, 963, 964, 965] (by decide +kernel) (by decide +kernel)) (goodIn_sub (fun _ h => List.mem_append_left _ (List.mem_append_left _ (List.mem_append_right _ h))) (by decide +kernel))
set_option maxRecDepth 20000 in
theorem gL_law_L_setRank : GoodIn wsL_law (va_wsS RL 151 yL_setRank wsL_setRank) := goodIn_app (goodIn_of _ (by decide +kernel)) ggL_law_L_setRank
set_option maxRecDepth 20000 in
theorem ggL_law_X6_setRank : GoodIn wsL_law wsX6_setRank := goodIn_r _ [678, 94, 95, 679, 680, 5, 681, 135, 136, 137, 138, 139, 543, 544, 545, 546, 288, 96, 289, 290, 291, 422, 423, 424, 340, 341, 342, 253, 254, 255, 425, 426, 427, 413, 414, 415, 416, 417, 418, 419, 420, 421, 928, 929, 930, 931, 932, 933, 934, 935, 936, 937, 938, 939, 940] (by decide +kernel) (by decide +kernel)
set_option maxRecDepth 20000 in
theorem gL_law_X6_setRank : GoodIn wsL_law (wsV RL 153 RX6 yX6_setRank wsX6_setRank) := goodIn_app (goodIn_of _ (by decide +kernel)) ggL_law_X6_setRank
set_option maxRecDepth 20000 in
theorem ggL_law_L_setDraw : GoodIn wsL_law wsL_setDraw := goodIn_ca (goodIn_ca (goodIn_ca (goodIn_r _ [684, 350, 107, 108, 685, 686, 687, 2, 688, 355, 356, 113, 114, 115, 116, 17, 30, 358, 362, 363, 364, 16, 365, 54, 530, 198, 199, 531, 201, 202, 203, 44, 532, 533, 534, 29, 535, 283, 536, 82, 537, 272, 273, 274, 43, 275, 276, 277, 278, 45, 47, 48, 49, 46, 55, 56, 57, 58, 59, 60, 61, 920, 921, 922, 923, 924, 925, 926, 927, 941, 942, 943, 944, 945, 946, 947, 948, 949, 950, 951, 952, 953, 954, 955, 963, 964, 965] (by decide +kernel) (by decide +kernel)) (goodIn_sub (fun _ h => List.mem_append_right _ h) (by decide +kernel))) (goodIn_sub (fun _ h => List.mem_append_left _ (List.mem_append_left _ (List.mem_append_right _ h))) (by decide +kernel))) (goodIn_sub (fun _ h => List.mem_append_left _ (List.mem_append_right _ h)) (by decide +kernel))
set_option maxRecDepth 20000 in
theorem gL_law_L_setDraw : GoodIn wsL_law (va_wsS RL 154 yL_setDraw wsL_setDraw) := goodIn_app (goodIn_of _ (by decide +kernel)) ggL_law_L_setDraw
set_option maxRecDepth 20000 in
theorem ggL_law_X6_setDraw : GoodIn wsL_law wsX6_setDraw := goodIn_r _ [692, 94, 249, 410, 411, 5, 412, 132, 133, 134, 250, 251, 252, 253, 254, 255, 135, 136, 137, 138, 139, 543, 544, 545, 546, 288, 96, 289, 290, 291, 928, 929, 930, 931, 932, 933, 934, 935, 936, 937, 938, 939, 940] (by decide +kernel) (by decide +kernel)
set_option maxRecDepth 20000 in
theorem gL_law_X6_setDraw : GoodIn wsL_law (wsV RL 156 RX6 yX6_setDraw wsX6_setDraw) := goodIn_app (goodIn_of _ (by decide +kernel)) ggL_law_X6_setDraw
set_option maxRecDepth 20000 in
theorem ggL_law_L_undo : GoodIn wsL_law wsL_undo := goodIn_ca (goodIn_r _ [695, 108, 696, 697, 698, 2, 699, 115, 116, 30, 17, 700, 701, 702, 29, 703, 283, 704, 705, 706, 707, 82, 536, 537, 272, 273, 16, 274, 54, 43, 275, 276, 277, 278, 44, 45, 47, 48, 49, 46, 55, 56, 57, 58, 59, 60, 61, 920, 921, 922, 923, 924, 925, 926, 927, 963, 964, 965, 941, 942, 943, 944, 945, 946, 947, 948, 949, 950, 951, 952, 953, 954, 955] (by decide +kernel) (by decide +kernel)) (goodIn_sub (fun _ h => List.mem_append_left _ (List.mem_append_right _ h)) (by decide +kernel))
set_option maxRecDepth 20000 in
theorem gL_law_L_undo : GoodIn wsL_law (va_wsS RL 157 yL_undo wsL_undo) := goodIn_app (goodIn_of _ (by decide +kernel)) ggL_law_L_undo
