set_option maxRecDepth 20000 in
theorem in_wsL_law0_r1 : GoodIn lw_tbl wsL_law0_r1 := goodIn_r _ [57, 58, 42, 865, 866, 48, 1202, 1201, 59, 60, 61, 62, 63, 64, 65, 66, 43, 228, 229, 152, 153, 44, 230, 173] (by decide +kernel) (by decide +kernel)
set_option maxRecDepth 20000 in
theorem in_wsL_law0_r2 : GoodIn lw_tbl wsL_law0_r2 := goodIn_r _ [174, 45, 231, 193, 194, 46, 232, 212, 213, 47, 233, 234, 151, 235, 67, 68, 69, 70, 150, 79, 82, 85, 89, 91] (by decide +kernel) (by decide +kernel)
set_option maxRecDepth 20000 in
theorem in_wsL_law0_r3 : GoodIn lw_tbl wsL_law0_r3 := goodIn_r _ [93, 94, 71, 72, 73, 74, 75, 97, 100, 104, 108, 111, 114, 117, 155, 156, 157, 158, 159, 161, 176, 177, 178, 179] (by decide +kernel) (by decide +kernel)
set_option maxRecDepth 20000 in
theorem in_wsL_law0_r4 : GoodIn lw_tbl wsL_law0_r4 := goodIn_r _ [183, 181, 184, 185, 180, 195, 196, 197, 198, 199, 202, 201, 215, 216, 217, 218, 867, 868, 869, 870, 875, 878, 879, 880] (by decide +kernel) (by decide +kernel)
set_option maxRecDepth 20000 in
theorem in_wsL_law0_r5 : GoodIn lw_tbl wsL_law0_r5 := goodIn_r _ [881, 883, 884, 885, 871, 872, 873, 386, 387, 41, 388, 389, 390, 391, 392, 393, 394, 395, 52, 467, 53, 463, 464, 465] (by decide +kernel) (by decide +kernel)
set_option maxRecDepth 20000 in
theorem in_wsL_law0_r6 : GoodIn lw_tbl wsL_law0_r6 := goodIn_r _ [466, 219, 483, 484, 485, 486, 918, 919, 920, 921, 922, 876, 923, 924, 925, 926, 928, 21, 929, 874, 914, 915, 916, 917] (by decide +kernel) (by decide +kernel)
set_option maxRecDepth 20000 in
theorem in_wsL_law0_r7 : GoodIn lw_tbl wsL_law0_r7 := goodIn_r _ [253, 254, 255, 256, 257, 258, 259, 260, 930, 931, 932, 933, 261, 262, 263, 264, 265, 266, 267, 268, 220, 269, 270, 272] (by decide +kernel) (by decide +kernel)
set_option maxRecDepth 20000 in
theorem in_wsL_law0_r8 : GoodIn lw_tbl wsL_law0_r8 := goodIn_r _ [0, 273, 274, 276, 1, 277, 278, 280, 2, 281, 107, 282, 284, 3, 285, 286, 287, 288, 289, 291, 4, 292, 294, 295] (by decide +kernel) (by decide +kernel)
set_option maxRecDepth 20000 in
theorem in_wsL_law0_r9 : GoodIn lw_tbl wsL_law0_r9 := goodIn_r _ [296, 297, 298, 299, 300, 301, 303, 304, 305, 306, 307, 308, 309, 310, 311, 312, 313, 315, 5, 316, 96, 318, 319, 934] (by decide +kernel) (by decide +kernel)
set_option maxRecDepth 20000 in
theorem in_wsL_law0_r10 : GoodIn lw_tbl wsL_law0_r10 := goodIn_r _ [935, 936, 937, 877, 938, 940, 22, 941, 942, 944, 23, 945, 946, 948, 24, 949, 950, 952, 25, 953, 954, 955, 957, 26] (by decide +kernel) (by decide +kernel)
set_option maxRecDepth 20000 in
theorem in_wsL_law0_r11 : GoodIn lw_tbl wsL_law0_r11 := goodIn_r _ [958, 959, 961, 27, 962, 963, 965, 28, 966, 967, 968, 969, 970, 971, 972, 973, 974, 975, 976, 977, 979, 29, 980, 487] (by decide +kernel) (by decide +kernel)
set_option maxRecDepth 20000 in
theorem in_wsL_law0_r12 : GoodIn lw_tbl wsL_law0_r12 := goodIn_r _ [488, 489, 490, 491, 492, 493, 77, 367, 368, 369, 370, 371, 373, 372, 54, 495, 496, 497, 498, 204, 981, 982, 983, 984] (by decide +kernel) (by decide +kernel)
set_option maxRecDepth 20000 in
theorem in_wsL_law0_r13 : GoodIn lw_tbl wsL_law0_r13 := goodIn_r _ [882, 985, 986, 987, 499, 500, 501, 502, 503, 504, 505, 98, 102, 105, 109, 112, 115, 118, 95, 507, 329, 330, 331, 332] (by decide +kernel) (by decide +kernel)
set_option maxRecDepth 20000 in
theorem in_wsL_law0_r14 : GoodIn lw_tbl wsL_law0_r14 := goodIn_r _ [333, 334, 335, 508, 509, 510, 511, 512, 513, 514, 515, 988, 989, 990, 991, 992, 993, 994, 995, 996, 997, 998, 999, 1000] (by decide +kernel) (by decide +kernel)
set_option maxRecDepth 20000 in
theorem in_wsL_law0_r15 : GoodIn lw_tbl wsL_law0_r15 := goodIn_r _ [1001, 1002, 1003, 1004, 1005, 1006, 1007, 1008, 1010, 30, 1011, 516, 517, 518, 519, 520, 521, 522, 523, 528, 55, 81, 84, 88] (by decide +kernel) (by decide +kernel)
set_option maxRecDepth 20000 in
theorem in_wsL_law0_r16 : GoodIn lw_tbl wsL_law0_r16 := goodIn_r _ [90, 92, 524, 525, 526, 527, 544, 354, 355, 356, 357, 358, 359, 360, 345, 346, 347, 348, 349, 350, 351, 352, 353, 545] (by decide +kernel) (by decide +kernel)
set_option maxRecDepth 20000 in
theorem in_wsL_law0_r17 : GoodIn lw_tbl wsL_law0_r17 := goodIn_r _ [546, 547, 548, 160, 549, 551, 10, 552, 76, 80, 553, 554, 555, 556, 557, 558, 560, 11, 561, 83, 87, 1012, 1013, 1014] (by decide +kernel) (by decide +kernel)
set_option maxRecDepth 20000 in
theorem in_wsL_law0_r18 : GoodIn lw_tbl wsL_law0_r18 := goodIn_r _ [1015, 1019, 1016, 1017, 1018, 1020, 1021, 1022, 1023, 1024, 1025, 1026, 1027, 1028, 1029, 1030, 1031, 1032, 1033, 1034, 1035, 1037, 31, 1038] (by decide +kernel) (by decide +kernel)
set_option maxRecDepth 20000 in
theorem in_wsL_law0_r19 : GoodIn lw_tbl wsL_law0_r19 := goodIn_r _ [886, 1039, 1041, 32, 1042, 1043, 1045, 33, 1046, 1047, 1049, 34, 1050, 562, 563, 564, 565, 566, 567, 568, 569, 571, 1051, 1052] (by decide +kernel) (by decide +kernel)
set_option maxRecDepth 20000 in
theorem in_wsL_law0_r20 : GoodIn lw_tbl wsL_law0_r20 := goodIn_r _ [1053, 1054, 1055, 1056, 1057, 1058, 572, 573, 574, 575, 576, 577, 578, 580, 581, 582, 583, 1059, 1060, 1061, 1062, 584, 585, 586] (by decide +kernel) (by decide +kernel)
set_option maxRecDepth 20000 in
theorem in_wsL_law0_r21 : GoodIn lw_tbl wsL_law0_r21 := goodIn_r _ [587, 588, 589, 590, 591, 592, 593, 594, 595, 597, 12, 598, 1063, 1064, 1065, 1066, 1067, 1069, 35, 1070, 599, 600, 601, 602] (by decide +kernel) (by decide +kernel)
set_option maxRecDepth 20000 in
theorem in_wsL_law0_r22 : GoodIn lw_tbl wsL_law0_r22 := goodIn_r _ [603, 604, 605, 606, 608, 609, 610, 611, 612, 613, 56, 614, 615, 616, 617, 1071, 1072, 1073, 1074, 618, 619, 620, 621, 622] (by decide +kernel) (by decide +kernel)
set_option maxRecDepth 20000 in
theorem in_wsL_law0_r23 : GoodIn lw_tbl wsL_law0_r23 := goodIn_r _ [623, 624, 625, 627, 629, 630, 631, 632, 203, 633, 634, 1075, 1076, 1077, 1078, 1079, 1081, 36, 1082, 635, 636, 637, 638, 639] (by decide +kernel) (by decide +kernel)
set_option maxRecDepth 20000 in
theorem in_wsL_law0_r24 : GoodIn lw_tbl wsL_law0_r24 := goodIn_r _ [640, 641, 1083, 1084, 1085, 1086, 643, 644, 645, 646, 647, 648, 649, 650, 651, 652, 653, 654, 655, 657, 658, 659, 661, 662] (by decide +kernel) (by decide +kernel)
set_option maxRecDepth 20000 in
theorem in_wsL_law0_r25 : GoodIn lw_tbl wsL_law0_r25 := goodIn_r _ [663, 664, 324, 325, 326, 327, 328, 666, 667, 668, 669, 110, 103, 106, 116, 113, 670, 379, 380, 381, 382, 384, 8, 385] (by decide +kernel) (by decide +kernel)
set_option maxRecDepth 20000 in
theorem in_wsL_law0_r26 : GoodIn lw_tbl wsL_law0_r26 := goodIn_r _ [1087, 1088, 1089, 1090, 1096, 1091, 1092, 1093, 1094, 1095, 1097, 1098, 1099, 1100, 1102, 37, 1103, 1104, 1105, 1106, 671, 672, 673, 674] (by decide +kernel) (by decide +kernel)
set_option maxRecDepth 20000 in
theorem in_wsL_law0_r27 : GoodIn lw_tbl wsL_law0_r27 := goodIn_r _ [675, 676, 677, 679, 680, 681, 682, 1107, 1108, 1109, 1110, 1111, 1112, 1113, 683, 684, 685, 686, 687, 688, 689, 690, 691, 692] (by decide +kernel) (by decide +kernel)
set_option maxRecDepth 20000 in
theorem in_wsL_law0_r28 : GoodIn lw_tbl wsL_law0_r28 := goodIn_r _ [694, 695, 696, 697, 1114, 1115, 1116, 1117, 1118, 1119, 1120, 1121, 1122, 1123, 1124, 1125, 698, 699, 700, 701, 702, 703, 704, 705] (by decide +kernel) (by decide +kernel)
set_option maxRecDepth 20000 in
theorem in_wsL_law0_r29 : GoodIn lw_tbl wsL_law0_r29 := goodIn_r _ [706, 707, 708, 1126, 1127, 1128, 1129, 1130, 1131, 1132, 710, 711, 712, 713, 714, 715, 716, 1133, 1134, 1135, 1136, 719, 720, 721] (by decide +kernel) (by decide +kernel)
set_option maxRecDepth 20000 in
theorem in_wsL_law0_r30 : GoodIn lw_tbl wsL_law0_r30 := goodIn_r _ [722, 723, 724, 725, 726, 727, 728, 729, 731, 732, 733, 734, 1137, 1138, 1139, 1140, 320, 321, 322, 323, 1141, 1142, 1143, 1144] (by decide +kernel) (by decide +kernel)
set_option maxRecDepth 20000 in
theorem in_wsL_law0_r31 : GoodIn lw_tbl wsL_law0_r31 := goodIn_r _ [735, 736, 737, 738, 739, 740, 741, 743, 1145, 1146, 1147, 1148, 744, 745, 746, 747, 748, 749, 750, 340, 342, 6, 343, 344] (by decide +kernel) (by decide +kernel)
set_option maxRecDepth 20000 in
theorem in_wsL_law0_r32 : GoodIn lw_tbl wsL_law0_r32 := goodIn_r _ [363, 365, 7, 366, 163, 374, 375, 376, 377, 378, 1149, 1150, 1151, 1152, 1153, 1155, 38, 1156, 751, 752, 753, 754, 755, 756] (by decide +kernel) (by decide +kernel)
set_option maxRecDepth 20000 in
theorem in_wsL_law0_r33 : GoodIn lw_tbl wsL_law0_r33 := goodIn_r _ [757, 759, 760, 761, 762, 763, 764, 765, 766, 1157, 1158, 1159, 1160, 1161, 336, 337, 338, 339, 1162, 1163, 1164, 1165, 767, 768] (by decide +kernel) (by decide +kernel)
set_option maxRecDepth 20000 in
theorem in_wsL_law0_r34 : GoodIn lw_tbl wsL_law0_r34 := goodIn_r _ [769, 770, 771, 772, 773, 774, 775, 776, 777, 778, 780, 781, 782, 783, 784, 785, 787, 13, 788, 101, 789, 791, 14, 792] (by decide +kernel) (by decide +kernel)
set_option maxRecDepth 20000 in
theorem in_wsL_law0_r35 : GoodIn lw_tbl wsL_law0_r35 := goodIn_r _ [793, 795, 796, 797, 798, 800, 15, 801, 86, 802, 803, 805, 16, 806, 808, 809, 811, 17, 812, 814, 815, 817, 18, 818] (by decide +kernel) (by decide +kernel)
set_option maxRecDepth 20000 in
theorem in_wsL_law0_r36 : GoodIn lw_tbl wsL_law0_r36 := goodIn_r _ [819, 820, 821, 1166, 1167, 1168, 1169, 1170, 1171, 1172, 1173, 1174, 1175, 1177, 39, 1178, 1179, 822, 823, 824, 825, 826, 827, 828] (by decide +kernel) (by decide +kernel)
set_option maxRecDepth 20000 in
theorem in_wsL_law0_r37 : GoodIn lw_tbl wsL_law0_r37 := goodIn_r _ [830, 831, 832, 833, 834, 835, 99, 836, 838, 19, 839, 78, 840, 842, 20, 843, 162, 845, 846, 847, 848, 1180, 1181, 1182] (by decide +kernel) (by decide +kernel)
set_option maxRecDepth 20000 in
theorem in_wsL_law0_r38 : GoodIn lw_tbl wsL_law0_r38 := goodIn_r _ [1183, 1184, 1185, 1186, 1188, 40, 1189, 1190, 1191, 1192, 849, 850, 851, 852, 853, 854, 855, 1193, 1194, 1195, 1196, 857, 858, 859] (by decide +kernel) (by decide +kernel)
set_option maxRecDepth 20000 in
theorem in_wsL_law0_r39 : GoodIn lw_tbl wsL_law0_r39 := goodIn_r _ [860, 861, 862, 863, 1197, 1198, 1199, 1200] (by decide +kernel) (by decide +kernel)
set_option maxRecDepth 20000 in
theorem in_wsX50 : GoodIn lw_tbl wsX50 := goodIn_of _ (by decide +kernel)
set_option maxRecDepth 20000 in
theorem in_wsX60 : GoodIn lw_tbl wsX60 := goodIn_of _ (by decide +kernel)
set_option maxRecDepth 20000 in
theorem in_wsX30 : GoodIn lw_tbl wsX30 := goodIn_of _ (by decide +kernel)
set_option maxRecDepth 20000 in
theorem in_wsX00 : GoodIn lw_tbl wsX00 := goodIn_of _ (by decide +kernel)
set_option maxRecDepth 20000 in
theorem in_wsX20 : GoodIn lw_tbl wsX20 := goodIn_of _ (by decide +kernel)
set_option maxRecDepth 20000 in
theorem in_wsX10 : GoodIn lw_tbl wsX10 := goodIn_of _ (by decide +kernel)
set_option maxRecDepth 20000 in
theorem in_wsX40 : GoodIn lw_tbl wsX40 := goodIn_of _ (by decide +kernel)
theorem in_wsL_law0 : GoodIn lw_tbl wsL_law0 := goodIn_app (goodIn_app (goodIn_app (goodIn_app (goodIn_app (goodIn_app (goodIn_app (goodIn_app (goodIn_app in_wsL_law0_r1 (goodIn_app in_wsL_law0_r2 (goodIn_app in_wsL_law0_r3 (goodIn_app in_wsL_law0_r4 (goodIn_app in_wsL_law0_r5 (goodIn_app in_wsL_law0_r6 (goodIn_app in_wsL_law0_r7 (goodIn_app in_wsL_law0_r8 (goodIn_app in_wsL_law0_r9 (goodIn_app in_wsL_law0_r10 (goodIn_app in_wsL_law0_r11 (goodIn_app in_wsL_law0_r12 (goodIn_app in_wsL_law0_r13 (goodIn_app in_wsL_law0_r14 (goodIn_app in_wsL_law0_r15 (goodIn_app in_wsL_law0_r16 (goodIn_app in_wsL_law0_r17 (goodIn_app in_wsL_law0_r18 (goodIn_app in_wsL_law0_r19 (goodIn_app in_wsL_law0_r20 (goodIn_app in_wsL_law0_r21 (goodIn_app in_wsL_law0_r22 (goodIn_app in_wsL_law0_r23 (goodIn_app in_wsL_law0_r24 (goodIn_app in_wsL_law0_r25 (goodIn_app in_wsL_law0_r26 (goodIn_app in_wsL_law0_r27 (goodIn_app in_wsL_law0_r28 (goodIn_app in_wsL_law0_r29 (goodIn_app in_wsL_law0_r30 (goodIn_app in_wsL_law0_r31 (goodIn_app in_wsL_law0_r32 (goodIn_app in_wsL_law0_r33 (goodIn_app in_wsL_law0_r34 (goodIn_app in_wsL_law0_r35 (goodIn_app in_wsL_law0_r36 (goodIn_app in_wsL_law0_r37 (goodIn_app in_wsL_law0_r38 (in_wsL_law0_r39))))))))))))))))))))))))))))))))))))))) in_wsX50) in_wsX60) in_wsX30) in_wsX00) in_wsX20) in_wsX10) in_wsX40) (fun w h => absurd h List.not_mem_nil)
theorem wsL_law_in0 : ∀ w ∈ wsL_law0, w ∈ lw_tbl := fun w h => (in_wsL_law0 w h).1
set_option maxRecDepth 20000 in
theorem wsL_law_x0 : ∀ w ∈ (vx_atS RX5 59 "java/lang/IllegalArgumentException" ["java/lang/RuntimeException", "java/lang/Exception"]).filter goodWord, w ∈ lw_tbl := by decide +kernel
set_option maxRecDepth 20000 in
theorem wsL_law_x1 : ∀ w ∈ (vx_atS RX5 70 "java/lang/IllegalStateException" ["java/lang/RuntimeException", "java/lang/Exception"]).filter goodWord, w ∈ lw_tbl := by decide +kernel
set_option maxRecDepth 20000 in
theorem wsL_law_x2 : ∀ w ∈ (vx_atS RX5 140 "java/lang/IndexOutOfBoundsException" ["java/lang/RuntimeException", "java/lang/Exception"]).filter goodWord, w ∈ lw_tbl := by decide +kernel
set_option maxRecDepth 20000 in
theorem wsL_law_in : ∀ w ∈ wsL_law, w ∈ lw_tbl := fun w h => (List.mem_append.mp h).elim (fun h => (List.mem_append.mp h).elim (fun h => (List.mem_append.mp h).elim (fun h => wsL_law_in0 w h) (fun h => wsL_law_x0 w h)) (fun h => wsL_law_x1 w h)) (fun h => wsL_law_x2 w h)
set_option maxRecDepth 20000 in
theorem inlX0 : ∀ w ∈ wsX00, w ∈ wsL_law := fun _ h => List.mem_append_left _ (List.mem_append_left _ (List.mem_append_left _ (List.mem_append_left _ (List.mem_append_left _ (List.mem_append_left _ (List.mem_append_left _ (List.mem_append_right _ h)))))))
set_option maxRecDepth 20000 in
theorem inX0 : ∀ w ∈ wsX00, w ∈ lw_tbl := fun w h => wsL_law_in w (inlX0 w h)
set_option maxRecDepth 20000 in
theorem inlX1 : ∀ w ∈ wsX10, w ∈ wsL_law := fun _ h => List.mem_append_left _ (List.mem_append_left _ (List.mem_append_left _ (List.mem_append_left _ (List.mem_append_left _ (List.mem_append_right _ h)))))
set_option maxRecDepth 20000 in
theorem inX1 : ∀ w ∈ wsX10, w ∈ lw_tbl := fun w h => wsL_law_in w (inlX1 w h)
set_option maxRecDepth 20000 in
theorem inlX2 : ∀ w ∈ wsX20, w ∈ wsL_law := fun _ h => List.mem_append_left _ (List.mem_append_left _ (List.mem_append_left _ (List.mem_append_left _ (List.mem_append_left _ (List.mem_append_left _ (List.mem_append_right _ h))))))
set_option maxRecDepth 20000 in
theorem inX2 : ∀ w ∈ wsX20, w ∈ lw_tbl := fun w h => wsL_law_in w (inlX2 w h)
set_option maxRecDepth 20000 in
theorem inlX3 : ∀ w ∈ wsX30, w ∈ wsL_law := fun _ h => List.mem_append_left _ (List.mem_append_left _ (List.mem_append_left _ (List.mem_append_left _ (List.mem_append_left _ (List.mem_append_left _ (List.mem_append_left _ (List.mem_append_left _ (List.mem_append_right _ h))))))))
set_option maxRecDepth 20000 in
theorem inX3 : ∀ w ∈ wsX30, w ∈ lw_tbl := fun w h => wsL_law_in w (inlX3 w h)
set_option maxRecDepth 20000 in
theorem inlX4 : ∀ w ∈ wsX40, w ∈ wsL_law := fun _ h => List.mem_append_left _ (List.mem_append_left _ (List.mem_append_left _ (List.mem_append_left _ (List.mem_append_right _ h))))
set_option maxRecDepth 20000 in
theorem inX4 : ∀ w ∈ wsX40, w ∈ lw_tbl := fun w h => wsL_law_in w (inlX4 w h)
set_option maxRecDepth 20000 in
theorem inlX5 : ∀ w ∈ wsX50, w ∈ wsL_law := fun _ h => List.mem_append_left _ (List.mem_append_left _ (List.mem_append_left _ (List.mem_append_left _ (List.mem_append_left _ (List.mem_append_left _ (List.mem_append_left _ (List.mem_append_left _ (List.mem_append_left _ (List.mem_append_left _ (List.mem_append_right _ h))))))))))
set_option maxRecDepth 20000 in
theorem inX5 : ∀ w ∈ wsX50, w ∈ lw_tbl := fun w h => wsL_law_in w (inlX5 w h)
set_option maxRecDepth 20000 in
theorem inlX6 : ∀ w ∈ wsX60, w ∈ wsL_law := fun _ h => List.mem_append_left _ (List.mem_append_left _ (List.mem_append_left _ (List.mem_append_left _ (List.mem_append_left _ (List.mem_append_left _ (List.mem_append_left _ (List.mem_append_left _ (List.mem_append_left _ (List.mem_append_right _ h)))))))))
set_option maxRecDepth 20000 in
theorem inX6 : ∀ w ∈ wsX60, w ∈ lw_tbl := fun w h => wsL_law_in w (inlX6 w h)
