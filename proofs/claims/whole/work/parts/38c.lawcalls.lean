set_option maxRecDepth 20000 in
theorem ggL_law_X6_undo : GoodIn wsL_law wsX6_undo := goodIn_r _ [711, 288, 96, 94, 135, 136, 137, 5, 138, 139, 289, 290, 291, 928, 929, 930, 931, 932, 933, 934, 935, 936, 937, 938, 939, 940] (by decide +kernel) (by decide +kernel)
set_option maxRecDepth 20000 in
theorem gL_law_X6_undo : GoodIn wsL_law (wsV RL 159 RX6 yX6_undo wsX6_undo) := goodIn_app (goodIn_of _ (by decide +kernel)) ggL_law_X6_undo
set_option maxRecDepth 20000 in
theorem ggL_law_X5_whyNot : GoodIn wsL_law wsX5_whyNot := goodIn_r _ [715, 17, 578, 579, 580, 16, 581, 56, 57, 582, 308, 309, 310, 54, 311, 312, 313, 314, 45, 920, 921, 922, 923, 924, 925, 926, 927, 941, 942, 943, 944, 945, 946, 947, 948, 949, 950, 951, 952, 953, 954, 955] (by decide +kernel) (by decide +kernel)
set_option maxRecDepth 20000 in
theorem gL_law_X5_whyNot : GoodIn wsL_law (wsV RL 160 RX5 yX5_whyNot wsX5_whyNot) := goodIn_app (goodIn_of _ (by decide +kernel)) ggL_law_X5_whyNot
set_option maxRecDepth 20000 in
theorem ggL_law_X6_whyNot : GoodIn wsL_law wsX6_whyNot := goodIn_r _ [719, 139, 94, 610, 611, 5, 612, 328, 329, 330, 331, 332, 333, 334, 335, 336, 253, 254, 255, 928, 929, 930, 931, 932, 933, 934, 935, 936, 937, 938, 939, 940] (by decide +kernel) (by decide +kernel)
set_option maxRecDepth 20000 in
theorem gL_law_X6_whyNot : GoodIn wsL_law (wsV RL 163 RX6 yX6_whyNot wsX6_whyNot) := goodIn_app (goodIn_of _ (by decide +kernel)) ggL_law_X6_whyNot
set_option maxRecDepth 20000 in
theorem ggL_law_L_runsLeft : GoodIn wsL_law wsL_runsLeft := goodIn_ca (goodIn_r _ [722, 107, 723, 724, 725, 2, 726, 113, 114, 17, 301, 300, 727, 513, 514, 515, 571, 572, 573, 307, 308, 309, 16, 310, 54, 311, 312, 313, 314, 45, 920, 921, 922, 923, 924, 925, 926, 927, 941, 942, 943, 944, 945, 946, 947, 948, 949, 950, 951, 952, 953, 954, 955] (by decide +kernel) (by decide +kernel)) (goodIn_sub (fun _ h => List.mem_append_left _ (List.mem_append_left _ (List.mem_append_right _ h))) (by decide +kernel))
set_option maxRecDepth 20000 in
theorem gL_law_L_runsLeft : GoodIn wsL_law (va_wsS RL 164 yL_runsLeft wsL_runsLeft) := goodIn_app (goodIn_of _ (by decide +kernel)) ggL_law_L_runsLeft
set_option maxRecDepth 20000 in
theorem ggL_law_X6_runsLeft : GoodIn wsL_law wsX6_runsLeft := goodIn_r _ [731, 604, 94, 132, 133, 5, 134, 135, 136, 137, 138, 139, 328, 329, 330, 331, 332, 333, 334, 335, 336, 253, 254, 255, 928, 929, 930, 931, 932, 933, 934, 935, 936, 937, 938, 939, 940] (by decide +kernel) (by decide +kernel)
set_option maxRecDepth 20000 in
theorem gL_law_X6_runsLeft : GoodIn wsL_law (wsV RL 166 RX6 yX6_runsLeft wsX6_runsLeft) := goodIn_app (goodIn_of _ (by decide +kernel)) ggL_law_X6_runsLeft
set_option maxRecDepth 20000 in
theorem ggL_law_L_bestPlace : GoodIn wsL_law wsL_bestPlace := goodIn_ca (goodIn_r _ [734, 350, 735, 736, 737, 2, 738, 355, 356, 17, 362, 363, 364, 16, 365, 54, 739, 740, 741, 742, 18, 743, 312, 313, 314, 45, 374, 375, 376, 377, 46, 378, 379, 380, 381, 49, 382, 367, 368, 369, 370, 371, 372, 373, 47, 48, 744, 745, 746, 747, 22, 748, 271, 272, 273, 274, 43, 275, 276, 277, 278, 44, 55, 56, 57, 58, 59, 60, 61, 749, 750, 751, 21, 752, 67, 753, 593, 594, 595, 596, 597, 598, 599, 920, 921, 922, 923, 924, 925, 926, 927, 941, 942, 943, 944, 945, 946, 947, 948, 949, 950, 951, 952, 953, 954, 955, 956, 957, 958, 959] (by decide +kernel) (by decide +kernel)) (goodIn_sub (fun _ h => List.mem_append_right _ h) (by decide +kernel))
set_option maxRecDepth 20000 in
theorem gL_law_L_bestPlace : GoodIn wsL_law (va_wsS RL 167 yL_bestPlace wsL_bestPlace) := goodIn_app (goodIn_of _ (by decide +kernel)) ggL_law_L_bestPlace
set_option maxRecDepth 20000 in
theorem ggL_law_X6_bestPlace : GoodIn wsL_law wsX6_bestPlace := goodIn_r _ [757, 94, 410, 411, 5, 412, 132, 133, 134, 135, 136, 137, 138, 139, 758, 759, 760, 761, 95, 289, 290, 291, 253, 254, 255, 331, 332, 333, 334, 335, 336, 422, 423, 424, 340, 341, 342, 425, 426, 427, 413, 414, 415, 416, 417, 418, 419, 420, 421, 928, 929, 930, 931, 932, 933, 934, 935, 936, 937, 938, 939, 940] (by decide +kernel) (by decide +kernel)
set_option maxRecDepth 20000 in
theorem gL_law_X6_bestPlace : GoodIn wsL_law (wsV RL 169 RX6 yX6_bestPlace wsX6_bestPlace) := goodIn_app (goodIn_of _ (by decide +kernel)) ggL_law_X6_bestPlace
set_option maxRecDepth 20000 in
theorem ggL_law_L_mayLose : GoodIn wsL_law wsL_mayLose := goodIn_ca (goodIn_ca (goodIn_r _ [764, 350, 107, 765, 766, 767, 2, 768, 355, 356, 113, 114, 17, 18, 362, 363, 364, 16, 365, 54, 743, 312, 313, 314, 45, 744, 745, 746, 747, 22, 748, 271, 272, 273, 274, 43, 275, 276, 277, 278, 44, 47, 48, 49, 46, 55, 56, 57, 58, 59, 60, 61, 749, 750, 751, 21, 752, 67, 753, 593, 594, 595, 596, 597, 598, 599, 366, 367, 368, 369, 370, 371, 372, 373, 769, 770, 771, 772, 773, 774, 775, 776, 382, 920, 921, 922, 923, 924, 925, 926, 927, 941, 942, 943, 944, 945, 946, 947, 948, 949, 950, 951, 952, 953, 954, 955, 956, 957, 958, 959] (by decide +kernel) (by decide +kernel)) (goodIn_sub (fun _ h => List.mem_append_right _ h) (by decide +kernel))) (goodIn_sub (fun _ h => List.mem_append_left _ (List.mem_append_left _ (List.mem_append_right _ h))) (by decide +kernel))
set_option maxRecDepth 20000 in
theorem gL_law_L_mayLose : GoodIn wsL_law (va_wsS RL 170 yL_mayLose wsL_mayLose) := goodIn_app (goodIn_of _ (by decide +kernel)) ggL_law_L_mayLose
set_option maxRecDepth 20000 in
theorem ggL_law_X6_mayLose : GoodIn wsL_law wsX6_mayLose := goodIn_r _ [780, 94, 781, 410, 411, 5, 412, 132, 133, 134, 135, 136, 137, 138, 139, 331, 332, 333, 334, 335, 336, 253, 254, 255, 413, 414, 415, 340, 341, 342, 416, 417, 418, 419, 420, 421, 928, 929, 930, 931, 932, 933, 934, 935, 936, 937, 938, 939, 940] (by decide +kernel) (by decide +kernel)
set_option maxRecDepth 20000 in
theorem gL_law_X6_mayLose : GoodIn wsL_law (wsV RL 172 RX6 yX6_mayLose wsX6_mayLose) := goodIn_app (goodIn_of _ (by decide +kernel)) ggL_law_X6_mayLose
set_option maxRecDepth 20000 in
theorem ggL_law_X5_contenders : GoodIn wsL_law wsX5_contenders := goodIn_r _ [785, 17, 270, 739, 740, 741, 2, 742, 18, 743, 312, 313, 16, 314, 45, 374, 375, 376, 377, 46, 54, 378, 379, 380, 381, 49, 382, 367, 368, 369, 370, 371, 372, 373, 47, 48, 744, 745, 746, 747, 22, 748, 271, 272, 273, 274, 43, 275, 276, 277, 278, 44, 55, 56, 57, 58, 59, 60, 61, 749, 750, 751, 21, 752, 67, 753, 593, 594, 595, 596, 597, 598, 599, 920, 921, 922, 923, 924, 925, 926, 927, 941, 942, 943, 944, 945, 946, 947, 948, 949, 950, 951, 952, 953, 954, 955, 956, 957, 958, 959] (by decide +kernel) (by decide +kernel)
set_option maxRecDepth 20000 in
theorem gL_law_X5_contenders : GoodIn wsL_law (wsV RL 173 RX5 yX5_contenders wsX5_contenders) := goodIn_app (goodIn_of _ (by decide +kernel)) ggL_law_X5_contenders
set_option maxRecDepth 20000 in
theorem ggL_law_X6_contenders : GoodIn wsL_law wsX6_contenders := goodIn_r _ [789, 139, 94, 758, 759, 760, 5, 761, 95, 289, 290, 291, 253, 254, 255, 331, 332, 333, 334, 335, 336, 422, 423, 424, 340, 341, 342, 425, 426, 427, 413, 414, 415, 416, 417, 418, 419, 420, 421, 928, 929, 930, 931, 932, 933, 934, 935, 936, 937, 938, 939, 940] (by decide +kernel) (by decide +kernel)
set_option maxRecDepth 20000 in
theorem gL_law_X6_contenders : GoodIn wsL_law (wsV RL 176 RX6 yX6_contenders wsX6_contenders) := goodIn_app (goodIn_of _ (by decide +kernel)) ggL_law_X6_contenders
set_option maxRecDepth 20000 in
theorem ggL_law_L_runScript : GoodIn wsL_law wsL_runScript := goodIn_ca (goodIn_r _ [792, 107, 793, 794, 795, 2, 796, 113, 114, 26, 17, 797, 798, 799, 25, 800, 75, 801, 802, 803, 804, 805, 72, 806, 272, 273, 16, 274, 54, 43, 275, 276, 277, 278, 44, 45, 47, 48, 49, 46, 55, 56, 57, 58, 59, 60, 61, 807, 808, 809, 810, 811, 812, 813, 814, 815, 74, 816, 575, 576, 21, 577, 387, 65, 388, 389, 390, 391, 66, 392, 393, 394, 395, 396, 397, 398, 363, 364, 365, 399, 400, 401, 402, 403, 404, 572, 573, 817, 579, 580, 581, 582, 308, 309, 310, 311, 312, 313, 314, 818, 750, 751, 752, 67, 819, 584, 585, 586, 587, 588, 589, 590, 591, 592, 593, 594, 595, 596, 597, 598, 599, 820, 821, 822, 823, 824, 825, 826, 827, 828, 829, 213, 214, 830, 628, 629, 630, 831, 832, 833, 834, 646, 647, 835, 649, 650, 651, 836, 837, 838, 839, 840, 470, 471, 472, 841, 375, 376, 377, 378, 379, 380, 381, 382, 367, 368, 369, 370, 371, 372, 373, 842, 920, 921, 922, 923, 924, 925, 926, 927, 960, 961, 962, 941, 942, 943, 944, 945, 946, 947, 948, 949, 950, 951, 952, 953, 954, 955, 956, 957, 958, 959] (by decide +kernel) (by decide +kernel)) (goodIn_sub (fun _ h => List.mem_append_left _ (List.mem_append_left _ (List.mem_append_right _ h))) (by decide +kernel))
set_option maxRecDepth 20000 in
theorem gL_law_L_runScript : GoodIn wsL_law (va_wsS RL 177 yL_runScript wsL_runScript) := goodIn_app (goodIn_of _ (by decide +kernel)) ggL_law_L_runScript
set_option maxRecDepth 20000 in
theorem ggL_law_X6_runScript : GoodIn wsL_law wsX6_runScript := goodIn_r _ [846, 847, 848, 849, 850, 851, 94, 95, 132, 133, 5, 134, 135, 136, 137, 138, 139, 289, 290, 291, 852, 853, 854, 855, 604, 856, 432, 99, 610, 611, 612, 328, 329, 330, 331, 332, 333, 334, 335, 336, 253, 254, 255, 613, 614, 615, 616, 433, 434, 435, 436, 437, 438, 439, 440, 441, 442, 443, 444, 617, 618, 619, 609, 410, 411, 412, 458, 459, 460, 461, 635, 636, 637, 656, 657, 658, 659, 660, 661, 662, 663, 422, 423, 424, 340, 341, 342, 425, 426, 427, 413, 414, 415, 416, 417, 418, 419, 420, 421, 928, 929, 930, 931, 932, 933, 934, 935, 936, 937, 938, 939, 940] (by decide +kernel) (by decide +kernel)
set_option maxRecDepth 20000 in
theorem gL_law_X6_runScript : GoodIn wsL_law (wsV RL 180 RX6 yX6_runScript wsX6_runScript) := goodIn_app (goodIn_of _ (by decide +kernel)) ggL_law_X6_runScript
set_option maxRecDepth 20000 in
theorem ggL_law_L_simulate : GoodIn wsL_law wsL_simulate := goodIn_ca (goodIn_r _ [859, 107, 860, 861, 862, 2, 863, 113, 114, 26, 17, 864, 865, 866, 25, 867, 72, 868, 869, 870, 806, 272, 273, 16, 274, 54, 43, 275, 276, 277, 278, 44, 45, 47, 48, 49, 46, 55, 56, 57, 58, 59, 60, 61, 871, 872, 873, 874, 875, 817, 579, 580, 581, 582, 308, 309, 310, 311, 312, 313, 314, 835, 649, 650, 651, 876, 877, 878, 879, 74, 880, 816, 575, 576, 21, 577, 387, 65, 388, 389, 390, 391, 66, 392, 393, 394, 395, 396, 397, 398, 363, 364, 365, 399, 400, 401, 402, 403, 404, 819, 584, 585, 586, 587, 588, 589, 590, 591, 67, 592, 593, 594, 595, 596, 597, 598, 599, 826, 827, 828, 829, 824, 825, 213, 214, 830, 628, 629, 630, 881, 882, 883, 884, 382, 367, 368, 369, 370, 371, 372, 373, 920, 921, 922, 923, 924, 925, 926, 927, 960, 961, 962, 941, 942, 943, 944, 945, 946, 947, 948, 949, 950, 951, 952, 953, 954, 955, 956, 957, 958, 959] (by decide +kernel) (by decide +kernel)) (goodIn_sub (fun _ h => List.mem_append_left _ (List.mem_append_left _ (List.mem_append_right _ h))) (by decide +kernel))
set_option maxRecDepth 20000 in
theorem gL_law_L_simulate : GoodIn wsL_law (va_wsS RL 181 yL_simulate wsL_simulate) := goodIn_app (goodIn_of _ (by decide +kernel)) ggL_law_L_simulate
set_option maxRecDepth 20000 in
theorem ggL_law_X6_simulate : GoodIn wsL_law wsX6_simulate := goodIn_r _ [888, 249, 94, 95, 889, 890, 132, 133, 5, 134, 135, 136, 137, 138, 139, 289, 290, 291, 891, 892, 893, 894, 610, 611, 612, 328, 329, 330, 331, 332, 333, 334, 335, 336, 253, 254, 255, 661, 662, 663, 613, 614, 615, 616, 432, 99, 433, 434, 435, 436, 437, 438, 439, 440, 441, 442, 443, 444, 895, 896, 897, 609, 419, 420, 421, 617, 618, 619, 635, 636, 637, 413, 414, 415, 340, 341, 342, 416, 417, 418, 928, 929, 930, 931, 932, 933, 934, 935, 936, 937, 938, 939, 940] (by decide +kernel) (by decide +kernel)
set_option maxRecDepth 20000 in
theorem gL_law_X6_simulate : GoodIn wsL_law (wsV RL 183 RX6 yX6_simulate wsX6_simulate) := goodIn_app (goodIn_of _ (by decide +kernel)) ggL_law_X6_simulate
set_option maxRecDepth 20000 in
theorem ggL_law_L_save : GoodIn wsL_law wsL_save := goodIn_ca (goodIn_r _ [900, 350, 901, 902, 903, 2, 904, 355, 356, 35, 17, 37, 271, 272, 273, 16, 274, 54, 43, 275, 276, 277, 278, 44, 45, 47, 48, 49, 46, 55, 56, 57, 58, 59, 60, 61, 315, 316, 317, 318, 920, 921, 922, 923, 924, 925, 926, 927, 941, 942, 943, 944, 945, 946, 947, 948, 949, 950, 951, 952, 953, 954, 955] (by decide +kernel) (by decide +kernel)) (goodIn_sub (fun _ h => List.mem_append_right _ h) (by decide +kernel))
set_option maxRecDepth 20000 in
theorem gL_law_L_save : GoodIn wsL_law (va_wsS RL 184 yL_save wsL_save) := goodIn_app (goodIn_of _ (by decide +kernel)) ggL_law_L_save
set_option maxRecDepth 20000 in
theorem ggL_law_X6_save : GoodIn wsL_law wsX6_save := goodIn_r _ [908, 98, 94, 97, 132, 133, 5, 134, 135, 136, 137, 138, 139, 289, 290, 291, 337, 338, 339, 340, 341, 342, 253, 254, 255, 928, 929, 930, 931, 932, 933, 934, 935, 936, 937, 938, 939, 940] (by decide +kernel) (by decide +kernel)
set_option maxRecDepth 20000 in
theorem gL_law_X6_save : GoodIn wsL_law (wsV RL 186 RX6 yX6_save wsX6_save) := goodIn_app (goodIn_of _ (by decide +kernel)) ggL_law_X6_save
set_option maxRecDepth 20000 in
theorem ggL_law_L_restore : GoodIn wsL_law wsL_restore := goodIn_ca (goodIn_ca (goodIn_r _ [911, 350, 108, 912, 913, 914, 2, 915, 355, 356, 115, 116, 37, 17, 35, 30, 271, 272, 273, 16, 274, 54, 43, 275, 276, 277, 278, 44, 45, 47, 48, 49, 46, 55, 56, 57, 58, 59, 60, 61, 279, 280, 281, 29, 282, 283, 315, 316, 317, 318, 920, 921, 922, 923, 924, 925, 926, 927, 941, 942, 943, 944, 945, 946, 947, 948, 949, 950, 951, 952, 953, 954, 955, 963, 964, 965] (by decide +kernel) (by decide +kernel)) (goodIn_sub (fun _ h => List.mem_append_right _ h) (by decide +kernel))) (goodIn_sub (fun _ h => List.mem_append_left _ (List.mem_append_right _ h)) (by decide +kernel))
set_option maxRecDepth 20000 in
theorem gL_law_L_restore : GoodIn wsL_law (va_wsS RL 187 yL_restore wsL_restore) := goodIn_app (goodIn_of _ (by decide +kernel)) ggL_law_L_restore
set_option maxRecDepth 20000 in
theorem ggL_law_X6_restore : GoodIn wsL_law wsX6_restore := goodIn_r _ [919, 98, 97, 94, 288, 132, 133, 5, 134, 135, 136, 137, 138, 139, 289, 290, 291, 337, 338, 339, 340, 341, 342, 253, 254, 255, 928, 929, 930, 931, 932, 933, 934, 935, 936, 937, 938, 939, 940] (by decide +kernel) (by decide +kernel)
set_option maxRecDepth 20000 in
theorem gL_law_X6_restore : GoodIn wsL_law (wsV RL 189 RX6 yX6_restore wsX6_restore) := goodIn_app (goodIn_of _ (by decide +kernel)) ggL_law_X6_restore
