set_option maxRecDepth 20000 in
theorem ggL_law_X6_undo : GoodIn wsL_law wsX6_undo := goodIn_r _ [710, 288, 96, 94, 135, 136, 137, 5, 138, 139, 289, 290, 291, 927, 928, 929, 930, 931, 932, 933, 934, 935, 936, 937, 938, 939] (by decide +kernel) (by decide +kernel)
set_option maxRecDepth 20000 in
theorem gL_law_X6_undo : GoodIn wsL_law (wsV RL 159 RX6 yX6_undo wsX6_undo) := goodIn_app (goodIn_of _ (by decide +kernel)) ggL_law_X6_undo
set_option maxRecDepth 20000 in
theorem ggL_law_X5_whyNot : GoodIn wsL_law wsX5_whyNot := goodIn_r _ [714, 17, 577, 578, 579, 16, 580, 56, 57, 581, 308, 309, 310, 54, 311, 312, 313, 314, 45, 919, 920, 921, 922, 923, 924, 925, 926, 940, 941, 942, 943, 944, 945, 946, 947, 948, 949, 950, 951, 952, 953, 954] (by decide +kernel) (by decide +kernel)
set_option maxRecDepth 20000 in
theorem gL_law_X5_whyNot : GoodIn wsL_law (wsV RL 160 RX5 yX5_whyNot wsX5_whyNot) := goodIn_app (goodIn_of _ (by decide +kernel)) ggL_law_X5_whyNot
set_option maxRecDepth 20000 in
theorem ggL_law_X6_whyNot : GoodIn wsL_law wsX6_whyNot := goodIn_r _ [718, 139, 94, 609, 610, 5, 611, 328, 329, 330, 331, 332, 333, 334, 335, 336, 253, 254, 255, 927, 928, 929, 930, 931, 932, 933, 934, 935, 936, 937, 938, 939] (by decide +kernel) (by decide +kernel)
set_option maxRecDepth 20000 in
theorem gL_law_X6_whyNot : GoodIn wsL_law (wsV RL 163 RX6 yX6_whyNot wsX6_whyNot) := goodIn_app (goodIn_of _ (by decide +kernel)) ggL_law_X6_whyNot
set_option maxRecDepth 20000 in
theorem ggL_law_L_runsLeft : GoodIn wsL_law wsL_runsLeft := goodIn_ca (goodIn_r _ [721, 107, 722, 723, 724, 2, 725, 113, 114, 17, 301, 300, 726, 512, 513, 514, 570, 571, 572, 307, 308, 309, 16, 310, 54, 311, 312, 313, 314, 45, 919, 920, 921, 922, 923, 924, 925, 926, 940, 941, 942, 943, 944, 945, 946, 947, 948, 949, 950, 951, 952, 953, 954] (by decide +kernel) (by decide +kernel)) (goodIn_sub (fun _ h => List.mem_append_left _ (List.mem_append_left _ (List.mem_append_right _ h))) (by decide +kernel))
set_option maxRecDepth 20000 in
theorem gL_law_L_runsLeft : GoodIn wsL_law (va_wsS RL 164 yL_runsLeft wsL_runsLeft) := goodIn_app (goodIn_of _ (by decide +kernel)) ggL_law_L_runsLeft
set_option maxRecDepth 20000 in
theorem ggL_law_X6_runsLeft : GoodIn wsL_law wsX6_runsLeft := goodIn_r _ [730, 603, 94, 132, 133, 5, 134, 135, 136, 137, 138, 139, 328, 329, 330, 331, 332, 333, 334, 335, 336, 253, 254, 255, 927, 928, 929, 930, 931, 932, 933, 934, 935, 936, 937, 938, 939] (by decide +kernel) (by decide +kernel)
set_option maxRecDepth 20000 in
theorem gL_law_X6_runsLeft : GoodIn wsL_law (wsV RL 166 RX6 yX6_runsLeft wsX6_runsLeft) := goodIn_app (goodIn_of _ (by decide +kernel)) ggL_law_X6_runsLeft
set_option maxRecDepth 20000 in
theorem ggL_law_L_bestPlace : GoodIn wsL_law wsL_bestPlace := goodIn_ca (goodIn_r _ [733, 350, 734, 735, 736, 2, 737, 355, 356, 17, 362, 363, 364, 16, 365, 54, 738, 739, 740, 741, 18, 742, 312, 313, 314, 45, 374, 375, 376, 377, 46, 378, 379, 380, 381, 49, 382, 367, 368, 369, 370, 371, 372, 373, 47, 48, 743, 744, 745, 746, 22, 747, 271, 272, 273, 274, 43, 275, 276, 277, 278, 44, 55, 56, 57, 58, 59, 60, 61, 748, 749, 750, 21, 751, 67, 752, 592, 593, 594, 595, 596, 597, 598, 919, 920, 921, 922, 923, 924, 925, 926, 940, 941, 942, 943, 944, 945, 946, 947, 948, 949, 950, 951, 952, 953, 954, 955, 956, 957, 958] (by decide +kernel) (by decide +kernel)) (goodIn_sub (fun _ h => List.mem_append_right _ h) (by decide +kernel))
set_option maxRecDepth 20000 in
theorem gL_law_L_bestPlace : GoodIn wsL_law (va_wsS RL 167 yL_bestPlace wsL_bestPlace) := goodIn_app (goodIn_of _ (by decide +kernel)) ggL_law_L_bestPlace
set_option maxRecDepth 20000 in
theorem ggL_law_X6_bestPlace : GoodIn wsL_law wsX6_bestPlace := goodIn_r _ [756, 94, 409, 410, 5, 411, 132, 133, 134, 135, 136, 137, 138, 139, 757, 758, 759, 760, 95, 289, 290, 291, 253, 254, 255, 331, 332, 333, 334, 335, 336, 421, 422, 423, 340, 341, 342, 424, 425, 426, 412, 413, 414, 415, 416, 417, 418, 419, 420, 927, 928, 929, 930, 931, 932, 933, 934, 935, 936, 937, 938, 939] (by decide +kernel) (by decide +kernel)
set_option maxRecDepth 20000 in
theorem gL_law_X6_bestPlace : GoodIn wsL_law (wsV RL 169 RX6 yX6_bestPlace wsX6_bestPlace) := goodIn_app (goodIn_of _ (by decide +kernel)) ggL_law_X6_bestPlace
set_option maxRecDepth 20000 in
theorem ggL_law_L_mayLose : GoodIn wsL_law wsL_mayLose := goodIn_ca (goodIn_ca (goodIn_r _ [763, 350, 107, 764, 765, 766, 2, 767, 355, 356, 113, 114, 17, 18, 362, 363, 364, 16, 365, 54, 742, 312, 313, 314, 45, 743, 744, 745, 746, 22, 747, 271, 272, 273, 274, 43, 275, 276, 277, 278, 44, 47, 48, 49, 46, 55, 56, 57, 58, 59, 60, 61, 748, 749, 750, 21, 751, 67, 752, 592, 593, 594, 595, 596, 597, 598, 366, 367, 368, 369, 370, 371, 372, 373, 768, 769, 770, 771, 772, 773, 774, 775, 382, 919, 920, 921, 922, 923, 924, 925, 926, 940, 941, 942, 943, 944, 945, 946, 947, 948, 949, 950, 951, 952, 953, 954, 955, 956, 957, 958] (by decide +kernel) (by decide +kernel)) (goodIn_sub (fun _ h => List.mem_append_right _ h) (by decide +kernel))) (goodIn_sub (fun _ h => List.mem_append_left _ (List.mem_append_left _ (List.mem_append_right _ h))) (by decide +kernel))
set_option maxRecDepth 20000 in
theorem gL_law_L_mayLose : GoodIn wsL_law (va_wsS RL 170 yL_mayLose wsL_mayLose) := goodIn_app (goodIn_of _ (by decide +kernel)) ggL_law_L_mayLose
set_option maxRecDepth 20000 in
theorem ggL_law_X6_mayLose : GoodIn wsL_law wsX6_mayLose := goodIn_r _ [779, 94, 780, 409, 410, 5, 411, 132, 133, 134, 135, 136, 137, 138, 139, 331, 332, 333, 334, 335, 336, 253, 254, 255, 412, 413, 414, 340, 341, 342, 415, 416, 417, 418, 419, 420, 927, 928, 929, 930, 931, 932, 933, 934, 935, 936, 937, 938, 939] (by decide +kernel) (by decide +kernel)
set_option maxRecDepth 20000 in
theorem gL_law_X6_mayLose : GoodIn wsL_law (wsV RL 172 RX6 yX6_mayLose wsX6_mayLose) := goodIn_app (goodIn_of _ (by decide +kernel)) ggL_law_X6_mayLose
set_option maxRecDepth 20000 in
theorem ggL_law_X5_contenders : GoodIn wsL_law wsX5_contenders := goodIn_r _ [784, 17, 270, 738, 739, 740, 2, 741, 18, 742, 312, 313, 16, 314, 45, 374, 375, 376, 377, 46, 54, 378, 379, 380, 381, 49, 382, 367, 368, 369, 370, 371, 372, 373, 47, 48, 743, 744, 745, 746, 22, 747, 271, 272, 273, 274, 43, 275, 276, 277, 278, 44, 55, 56, 57, 58, 59, 60, 61, 748, 749, 750, 21, 751, 67, 752, 592, 593, 594, 595, 596, 597, 598, 919, 920, 921, 922, 923, 924, 925, 926, 940, 941, 942, 943, 944, 945, 946, 947, 948, 949, 950, 951, 952, 953, 954, 955, 956, 957, 958] (by decide +kernel) (by decide +kernel)
set_option maxRecDepth 20000 in
theorem gL_law_X5_contenders : GoodIn wsL_law (wsV RL 173 RX5 yX5_contenders wsX5_contenders) := goodIn_app (goodIn_of _ (by decide +kernel)) ggL_law_X5_contenders
set_option maxRecDepth 20000 in
theorem ggL_law_X6_contenders : GoodIn wsL_law wsX6_contenders := goodIn_r _ [788, 139, 94, 757, 758, 759, 5, 760, 95, 289, 290, 291, 253, 254, 255, 331, 332, 333, 334, 335, 336, 421, 422, 423, 340, 341, 342, 424, 425, 426, 412, 413, 414, 415, 416, 417, 418, 419, 420, 927, 928, 929, 930, 931, 932, 933, 934, 935, 936, 937, 938, 939] (by decide +kernel) (by decide +kernel)
set_option maxRecDepth 20000 in
theorem gL_law_X6_contenders : GoodIn wsL_law (wsV RL 176 RX6 yX6_contenders wsX6_contenders) := goodIn_app (goodIn_of _ (by decide +kernel)) ggL_law_X6_contenders
set_option maxRecDepth 20000 in
theorem ggL_law_L_runScript : GoodIn wsL_law wsL_runScript := goodIn_ca (goodIn_r _ [791, 107, 792, 793, 794, 2, 795, 113, 114, 26, 17, 796, 797, 798, 25, 799, 75, 800, 801, 802, 803, 804, 72, 805, 272, 273, 16, 274, 54, 43, 275, 276, 277, 278, 44, 45, 47, 48, 49, 46, 55, 56, 57, 58, 59, 60, 61, 806, 807, 808, 809, 810, 811, 812, 813, 814, 74, 815, 574, 575, 21, 576, 387, 65, 388, 389, 390, 391, 66, 392, 393, 394, 395, 396, 397, 398, 399, 400, 401, 402, 403, 571, 572, 816, 578, 579, 580, 581, 308, 309, 310, 311, 312, 313, 314, 817, 749, 750, 751, 67, 818, 583, 584, 585, 586, 587, 588, 589, 590, 591, 592, 593, 594, 595, 596, 597, 598, 819, 820, 821, 822, 823, 824, 363, 364, 365, 825, 826, 827, 828, 213, 214, 829, 627, 628, 629, 830, 831, 832, 833, 645, 646, 834, 648, 649, 650, 835, 836, 837, 838, 839, 469, 470, 471, 840, 375, 376, 377, 378, 379, 380, 381, 382, 367, 368, 369, 370, 371, 372, 373, 841, 919, 920, 921, 922, 923, 924, 925, 926, 959, 960, 961, 940, 941, 942, 943, 944, 945, 946, 947, 948, 949, 950, 951, 952, 953, 954, 955, 956, 957, 958] (by decide +kernel) (by decide +kernel)) (goodIn_sub (fun _ h => List.mem_append_left _ (List.mem_append_left _ (List.mem_append_right _ h))) (by decide +kernel))
set_option maxRecDepth 20000 in
theorem gL_law_L_runScript : GoodIn wsL_law (va_wsS RL 177 yL_runScript wsL_runScript) := goodIn_app (goodIn_of _ (by decide +kernel)) ggL_law_L_runScript
set_option maxRecDepth 20000 in
theorem ggL_law_X6_runScript : GoodIn wsL_law wsX6_runScript := goodIn_r _ [845, 846, 847, 848, 849, 850, 94, 95, 132, 133, 5, 134, 135, 136, 137, 138, 139, 289, 290, 291, 851, 852, 853, 854, 603, 855, 431, 99, 609, 610, 611, 328, 329, 330, 331, 332, 333, 334, 335, 336, 253, 254, 255, 612, 613, 614, 615, 432, 433, 434, 435, 436, 437, 438, 439, 440, 441, 442, 443, 616, 617, 618, 608, 409, 410, 411, 457, 458, 459, 460, 634, 635, 636, 655, 656, 657, 658, 659, 660, 661, 662, 421, 422, 423, 340, 341, 342, 424, 425, 426, 412, 413, 414, 415, 416, 417, 418, 419, 420, 927, 928, 929, 930, 931, 932, 933, 934, 935, 936, 937, 938, 939] (by decide +kernel) (by decide +kernel)
set_option maxRecDepth 20000 in
theorem gL_law_X6_runScript : GoodIn wsL_law (wsV RL 180 RX6 yX6_runScript wsX6_runScript) := goodIn_app (goodIn_of _ (by decide +kernel)) ggL_law_X6_runScript
set_option maxRecDepth 20000 in
theorem ggL_law_L_simulate : GoodIn wsL_law wsL_simulate := goodIn_ca (goodIn_r _ [858, 107, 859, 860, 861, 2, 862, 113, 114, 26, 17, 863, 864, 865, 25, 866, 72, 867, 868, 869, 805, 272, 273, 16, 274, 54, 43, 275, 276, 277, 278, 44, 45, 47, 48, 49, 46, 55, 56, 57, 58, 59, 60, 61, 870, 871, 872, 873, 874, 816, 578, 579, 580, 581, 308, 309, 310, 311, 312, 313, 314, 834, 648, 649, 650, 875, 876, 877, 878, 74, 879, 815, 574, 575, 21, 576, 387, 65, 388, 389, 390, 391, 66, 392, 393, 394, 395, 396, 397, 398, 399, 400, 401, 402, 403, 818, 583, 584, 585, 586, 587, 588, 589, 590, 67, 591, 592, 593, 594, 595, 596, 597, 598, 825, 826, 827, 828, 823, 824, 363, 364, 365, 213, 214, 829, 627, 628, 629, 880, 881, 882, 883, 382, 367, 368, 369, 370, 371, 372, 373, 919, 920, 921, 922, 923, 924, 925, 926, 959, 960, 961, 940, 941, 942, 943, 944, 945, 946, 947, 948, 949, 950, 951, 952, 953, 954, 955, 956, 957, 958] (by decide +kernel) (by decide +kernel)) (goodIn_sub (fun _ h => List.mem_append_left _ (List.mem_append_left _ (List.mem_append_right _ h))) (by decide +kernel))
set_option maxRecDepth 20000 in
theorem gL_law_L_simulate : GoodIn wsL_law (va_wsS RL 181 yL_simulate wsL_simulate) := goodIn_app (goodIn_of _ (by decide +kernel)) ggL_law_L_simulate
set_option maxRecDepth 20000 in
theorem ggL_law_X6_simulate : GoodIn wsL_law wsX6_simulate := goodIn_r _ [887, 249, 94, 95, 888, 889, 132, 133, 5, 134, 135, 136, 137, 138, 139, 289, 290, 291, 890, 891, 892, 893, 609, 610, 611, 328, 329, 330, 331, 332, 333, 334, 335, 336, 253, 254, 255, 660, 661, 662, 612, 613, 614, 615, 431, 99, 432, 433, 434, 435, 436, 437, 438, 439, 440, 441, 442, 443, 894, 895, 896, 608, 418, 419, 420, 616, 617, 618, 634, 635, 636, 412, 413, 414, 340, 341, 342, 415, 416, 417, 927, 928, 929, 930, 931, 932, 933, 934, 935, 936, 937, 938, 939] (by decide +kernel) (by decide +kernel)
set_option maxRecDepth 20000 in
theorem gL_law_X6_simulate : GoodIn wsL_law (wsV RL 183 RX6 yX6_simulate wsX6_simulate) := goodIn_app (goodIn_of _ (by decide +kernel)) ggL_law_X6_simulate
set_option maxRecDepth 20000 in
theorem ggL_law_L_save : GoodIn wsL_law wsL_save := goodIn_ca (goodIn_r _ [899, 350, 900, 901, 902, 2, 903, 355, 356, 35, 17, 37, 271, 272, 273, 16, 274, 54, 43, 275, 276, 277, 278, 44, 45, 47, 48, 49, 46, 55, 56, 57, 58, 59, 60, 61, 315, 316, 317, 318, 919, 920, 921, 922, 923, 924, 925, 926, 940, 941, 942, 943, 944, 945, 946, 947, 948, 949, 950, 951, 952, 953, 954] (by decide +kernel) (by decide +kernel)) (goodIn_sub (fun _ h => List.mem_append_right _ h) (by decide +kernel))
set_option maxRecDepth 20000 in
theorem gL_law_L_save : GoodIn wsL_law (va_wsS RL 184 yL_save wsL_save) := goodIn_app (goodIn_of _ (by decide +kernel)) ggL_law_L_save
set_option maxRecDepth 20000 in
theorem ggL_law_X6_save : GoodIn wsL_law wsX6_save := goodIn_r _ [907, 98, 94, 97, 132, 133, 5, 134, 135, 136, 137, 138, 139, 289, 290, 291, 337, 338, 339, 340, 341, 342, 253, 254, 255, 927, 928, 929, 930, 931, 932, 933, 934, 935, 936, 937, 938, 939] (by decide +kernel) (by decide +kernel)
set_option maxRecDepth 20000 in
theorem gL_law_X6_save : GoodIn wsL_law (wsV RL 186 RX6 yX6_save wsX6_save) := goodIn_app (goodIn_of _ (by decide +kernel)) ggL_law_X6_save
set_option maxRecDepth 20000 in
theorem ggL_law_L_restore : GoodIn wsL_law wsL_restore := goodIn_ca (goodIn_ca (goodIn_r _ [910, 350, 108, 911, 912, 913, 2, 914, 355, 356, 115, 116, 37, 17, 35, 30, 271, 272, 273, 16, 274, 54, 43, 275, 276, 277, 278, 44, 45, 47, 48, 49, 46, 55, 56, 57, 58, 59, 60, 61, 279, 280, 281, 29, 282, 283, 315, 316, 317, 318, 919, 920, 921, 922, 923, 924, 925, 926, 940, 941, 942, 943, 944, 945, 946, 947, 948, 949, 950, 951, 952, 953, 954, 962, 963, 964] (by decide +kernel) (by decide +kernel)) (goodIn_sub (fun _ h => List.mem_append_right _ h) (by decide +kernel))) (goodIn_sub (fun _ h => List.mem_append_left _ (List.mem_append_right _ h)) (by decide +kernel))
set_option maxRecDepth 20000 in
theorem gL_law_L_restore : GoodIn wsL_law (va_wsS RL 187 yL_restore wsL_restore) := goodIn_app (goodIn_of _ (by decide +kernel)) ggL_law_L_restore
set_option maxRecDepth 20000 in
theorem ggL_law_X6_restore : GoodIn wsL_law wsX6_restore := goodIn_r _ [918, 98, 97, 94, 288, 132, 133, 5, 134, 135, 136, 137, 138, 139, 289, 290, 291, 337, 338, 339, 340, 341, 342, 253, 254, 255, 927, 928, 929, 930, 931, 932, 933, 934, 935, 936, 937, 938, 939] (by decide +kernel) (by decide +kernel)
set_option maxRecDepth 20000 in
theorem gL_law_X6_restore : GoodIn wsL_law (wsV RL 189 RX6 yX6_restore wsX6_restore) := goodIn_app (goodIn_of _ (by decide +kernel)) ggL_law_X6_restore
