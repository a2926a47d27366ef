/-! WORDS of the law's callees, in the tables -/
theorem gi_cons {big R : List Cond} {c : Cond} (hc : GoodIn big [c]) (hR : GoodIn big R) : GoodIn big (c :: R) := fun w h => (List.mem_cons.mp h).elim (fun e => hc w (by rw [e]; exact List.mem_cons_self)) (hR w)
theorem gi_nil {big : List Cond} : GoodIn big [] := fun w h => absurd h List.not_mem_nil
theorem gi_filter {big ws : List Cond} (h : ∀ w ∈ ws.filter goodWord, w ∈ big) : GoodIn big (ws.filter goodWord) := fun w hw => ⟨h w hw, good_of_word (List.mem_filter.mp hw).2⟩
set_option maxRecDepth 20000 in
theorem in_wsL_call_r1 : GoodIn lw_tbl wsL_call_r1 := goodIn_r _ [419, 420, 21, 421, 235, 422, 403, 452, 423, 424, 425, 22, 426, 240, 31, 432, 32, 212, 428, 429, 430, 27, 431, 198] (by decide +kernel) (by decide +kernel)
set_option maxRecDepth 20000 in
theorem in_wsL_call_r2 : GoodIn lw_tbl wsL_call_r2 := goodIn_r _ [448, 449, 450, 451, 197, 453, 454, 455, 456, 457, 458, 459, 208, 207, 211, 214, 56, 460, 461, 462, 463, 199, 464, 51] (by decide +kernel) (by decide +kernel)
set_option maxRecDepth 20000 in
theorem in_wsL_call_r3 : GoodIn lw_tbl wsL_call_r3 := goodIn_r _ [52, 23, 53, 54, 73, 76, 79, 83, 87, 90, 93, 96, 465, 467, 7, 468, 469, 471, 8, 472, 473, 475, 9, 476] (by decide +kernel) (by decide +kernel)
set_option maxRecDepth 20000 in
theorem in_wsL_call_r4 : GoodIn lw_tbl wsL_call_r4 := goodIn_r _ [86, 477, 479, 10, 480, 481, 482, 483, 484, 486, 11, 487, 489, 490, 491, 492, 493, 494, 495, 496, 498, 499, 500, 501] (by decide +kernel) (by decide +kernel)
set_option maxRecDepth 20000 in
theorem in_wsL_call_r5 : GoodIn lw_tbl wsL_call_r5 := goodIn_r _ [502, 503, 61, 504, 505, 506, 507, 58, 64, 68, 70, 508, 510, 12, 511, 75, 384, 385, 514, 313, 314, 315, 316, 318] (by decide +kernel) (by decide +kernel)
set_option maxRecDepth 20000 in
theorem in_wsL_call_r6 : GoodIn lw_tbl wsL_call_r6 := goodIn_r _ [317, 33, 72, 515, 516, 517, 26, 518, 183, 519, 520, 521, 522, 523, 524, 525, 77, 81, 84, 88, 91, 94, 97, 74] (by decide +kernel) (by decide +kernel)
set_option maxRecDepth 20000 in
theorem in_wsL_call_r7 : GoodIn lw_tbl wsL_call_r7 := goodIn_r _ [527, 330, 331, 332, 333, 334, 335, 336, 528, 529, 530, 531, 532, 533, 534, 535, 536, 537, 538, 539, 574, 540, 541, 542] (by decide +kernel) (by decide +kernel)
set_option maxRecDepth 20000 in
theorem in_wsL_call_r8 : GoodIn lw_tbl wsL_call_r8 := goodIn_r _ [543, 545, 34, 60, 63, 67, 69, 71, 209, 544, 380, 381, 382, 561, 395, 396, 397, 398, 399, 400, 401, 562, 563, 564] (by decide +kernel) (by decide +kernel)
set_option maxRecDepth 20000 in
theorem in_wsL_call_r9 : GoodIn lw_tbl wsL_call_r9 := goodIn_r _ [565, 566, 567, 568, 569, 394, 570, 571, 572, 24, 573, 139, 137, 349, 351, 3, 352, 138, 55, 59, 353, 354, 355, 356] (by decide +kernel) (by decide +kernel)
set_option maxRecDepth 20000 in
theorem in_wsL_call_r10 : GoodIn lw_tbl wsL_call_r10 := goodIn_r _ [357, 359, 4, 360, 62, 66, 575, 576, 577, 578, 579, 580, 581, 582, 584, 585, 586, 587, 588, 589, 590, 591, 593, 594] (by decide +kernel) (by decide +kernel)
set_option maxRecDepth 20000 in
theorem in_wsL_call_r11 : GoodIn lw_tbl wsL_call_r11 := goodIn_r _ [595, 596, 597, 598, 599, 600, 601, 602, 603, 604, 606, 607, 608, 609, 610, 611, 35, 612, 613, 614, 615, 616, 617, 618] (by decide +kernel) (by decide +kernel)
set_option maxRecDepth 20000 in
theorem in_wsL_call_r12 : GoodIn lw_tbl wsL_call_r12 := goodIn_r _ [619, 620, 621, 622, 623, 625, 627, 628, 629, 630, 182, 181, 631, 632, 633, 634, 635, 636, 637, 638, 639, 641, 642, 643] (by decide +kernel) (by decide +kernel)
set_option maxRecDepth 20000 in
theorem in_wsL_call_r13 : GoodIn lw_tbl wsL_call_r13 := goodIn_r _ [644, 645, 646, 647, 649, 387, 388, 389, 650, 651, 652, 653, 654, 655, 656, 657, 658, 659, 661, 338, 339, 340, 662, 663] (by decide +kernel) (by decide +kernel)
set_option maxRecDepth 20000 in
theorem in_wsL_call_r14 : GoodIn lw_tbl wsL_call_r14 := goodIn_r _ [664, 665, 666, 667, 668, 669, 670, 671, 672, 674, 675, 676, 677, 678, 679, 680, 683, 684, 685, 686, 687, 688, 689, 690] (by decide +kernel) (by decide +kernel)
set_option maxRecDepth 20000 in
theorem in_wsL_call_r15 : GoodIn lw_tbl wsL_call_r15 := goodIn_r _ [691, 692, 693, 695, 696, 697, 698, 699, 700, 701, 702, 703, 704, 705, 710, 706, 707, 708, 711, 712, 713, 714, 715, 716] (by decide +kernel) (by decide +kernel)
set_option maxRecDepth 20000 in
theorem in_wsL_call_r16 : GoodIn lw_tbl wsL_call_r16 := goodIn_r _ [717, 718, 720, 13, 721, 722, 723, 725, 14, 726, 142, 727, 728, 729, 730, 140, 731, 368, 369, 370, 371, 373, 5, 374] (by decide +kernel) (by decide +kernel)
set_option maxRecDepth 20000 in
theorem in_wsL_call_r17 : GoodIn lw_tbl wsL_call_r17 := goodIn_r _ [732, 733, 734, 735, 736, 737, 738, 740, 741, 742, 743, 744, 745, 746, 747, 748, 749, 750, 751, 752, 753, 754, 213, 756] (by decide +kernel) (by decide +kernel)
set_option maxRecDepth 20000 in
theorem in_wsL_call_r18 : GoodIn lw_tbl wsL_call_r18 := goodIn_r _ [757, 758, 759, 760, 761, 762] (by decide +kernel) (by decide +kernel)
set_option maxRecDepth 20000 in
theorem in_wsX50 : GoodIn lw_tbl wsX50 := goodIn_of _ (by decide +kernel)
set_option maxRecDepth 20000 in
theorem in_wsX40 : GoodIn lw_tbl wsX40 := goodIn_of _ (by decide +kernel)
set_option maxRecDepth 20000 in
theorem in_wsX30 : GoodIn lw_tbl wsX30 := goodIn_of _ (by decide +kernel)
set_option maxRecDepth 20000 in
theorem in_wsX10 : GoodIn lw_tbl wsX10 := goodIn_of _ (by decide +kernel)
set_option maxRecDepth 20000 in
theorem in_wsX00 : GoodIn lw_tbl wsX00 := goodIn_of _ (by decide +kernel)
set_option maxRecDepth 20000 in
theorem in_flt0 : GoodIn lw_tbl ((vx_atS RX5 59 "java/lang/IllegalArgumentException" ["java/lang/RuntimeException", "java/lang/Exception"]).filter goodWord) := gi_filter (by decide +kernel)
set_option maxRecDepth 20000 in
theorem in_flt1 : GoodIn lw_tbl ((vx_atS RX5 70 "java/lang/IllegalStateException" ["java/lang/RuntimeException", "java/lang/Exception"]).filter goodWord) := gi_filter (by decide +kernel)
set_option maxRecDepth 20000 in
theorem in_flt2 : GoodIn lw_tbl ((vx_atS RX5 140 "java/lang/IndexOutOfBoundsException" ["java/lang/RuntimeException", "java/lang/Exception"]).filter goodWord) := gi_filter (by decide +kernel)
set_option maxRecDepth 20000 in
theorem in_wsL_call : GoodIn lw_tbl wsL_call := (gi_cons (goodIn_r _ [418] (by decide +kernel) (by decide +kernel)) (goodIn_app (goodIn_app (goodIn_app (goodIn_app (goodIn_app (goodIn_app (goodIn_app (goodIn_app (goodIn_app in_wsL_call_r1 (goodIn_app in_wsL_call_r2 (goodIn_app in_wsL_call_r3 (goodIn_app in_wsL_call_r4 (goodIn_app in_wsL_call_r5 (goodIn_app in_wsL_call_r6 (goodIn_app in_wsL_call_r7 (goodIn_app in_wsL_call_r8 (goodIn_app in_wsL_call_r9 (goodIn_app in_wsL_call_r10 (goodIn_app in_wsL_call_r11 (goodIn_app in_wsL_call_r12 (goodIn_app in_wsL_call_r13 (goodIn_app in_wsL_call_r14 (goodIn_app in_wsL_call_r15 (goodIn_app in_wsL_call_r16 (goodIn_app in_wsL_call_r17 in_wsL_call_r18))))))))))))))))) in_wsX50) in_wsX40) in_wsX30) in_wsX10) in_wsX00) in_flt0) in_flt1) in_flt2))
set_option maxRecDepth 20000 in
theorem in_wsL_tryRun_r1 : GoodIn lw_tbl wsL_tryRun_r1 := goodIn_r _ [235, 422, 403, 452, 802, 803, 804, 22, 805, 240, 31, 432, 32, 209, 207, 211, 806, 807, 808, 24, 809, 810, 140, 811] (by decide +kernel) (by decide +kernel)
set_option maxRecDepth 20000 in
theorem in_wsL_tryRun_r2 : GoodIn lw_tbl wsL_tryRun_r2 := goodIn_r _ [706, 707, 708, 814, 346, 347, 348, 139, 137, 349, 351, 3, 352, 138, 55, 59, 353, 354, 355, 23, 356, 87, 54, 58] (by decide +kernel) (by decide +kernel)
set_option maxRecDepth 20000 in
theorem in_wsL_tryRun_r3 : GoodIn lw_tbl wsL_tryRun_r3 := goodIn_r _ [357, 359, 4, 360, 62, 66, 798, 326, 327, 328, 79, 83, 329, 330, 331, 332, 333, 334, 335, 336, 64, 627, 628, 629] (by decide +kernel) (by decide +kernel)
set_option maxRecDepth 20000 in
theorem in_wsL_tryRun_r4 : GoodIn lw_tbl wsL_tryRun_r4 := goodIn_r _ [26, 630, 183, 182, 181, 631, 313, 314, 315, 316, 318, 317, 33, 61, 70, 72, 73, 68, 76, 90, 93, 96, 816, 364] (by decide +kernel) (by decide +kernel)
set_option maxRecDepth 20000 in
theorem in_wsL_tryRun_r5 : GoodIn lw_tbl wsL_tryRun_r5 := goodIn_r _ [365, 366, 89, 82, 85, 95, 92, 367, 368, 369, 370, 371, 373, 5, 374, 561, 395, 396, 397, 398, 399, 400, 401] (by decide +kernel) (by decide +kernel)
set_option maxRecDepth 20000 in
theorem in_wsL_tryRun : GoodIn lw_tbl wsL_tryRun := (gi_cons (goodIn_r _ [801] (by decide +kernel) (by decide +kernel)) (goodIn_app (goodIn_app (goodIn_app (goodIn_app (goodIn_app (goodIn_app (goodIn_app in_wsL_tryRun_r1 (goodIn_app in_wsL_tryRun_r2 (goodIn_app in_wsL_tryRun_r3 (goodIn_app in_wsL_tryRun_r4 in_wsL_tryRun_r5)))) in_wsX50) in_wsX00) in_wsX30) in_wsX10) in_flt0) in_flt1))
set_option maxRecDepth 20000 in
theorem in_wsL_tryScript_r1 : GoodIn lw_tbl wsL_tryScript_r1 := goodIn_r _ [235, 403, 828, 829, 830, 22, 831, 240, 31, 210, 207, 832, 833, 834, 25, 835, 164, 836, 838, 839, 840, 841, 162, 312] (by decide +kernel) (by decide +kernel)
set_option maxRecDepth 20000 in
theorem in_wsL_tryScript_r2 : GoodIn lw_tbl wsL_tryScript_r2 := goodIn_r _ [313, 314, 23, 315, 54, 58, 316, 318, 317, 33, 61, 64, 70, 72, 73, 68, 76, 79, 83, 87, 90, 93, 96, 842] (by decide +kernel) (by decide +kernel)
set_option maxRecDepth 20000 in
theorem in_wsL_tryScript_r3 : GoodIn lw_tbl wsL_tryScript_r3 := goodIn_r _ [844, 16, 845, 80, 846, 848, 17, 849, 163, 345, 346, 347, 24, 348, 139, 137, 349, 351, 3, 352, 138, 55, 59, 353] (by decide +kernel) (by decide +kernel)
set_option maxRecDepth 20000 in
theorem in_wsL_tryScript_r4 : GoodIn lw_tbl wsL_tryScript_r4 := goodIn_r _ [354, 355, 356, 357, 359, 4, 360, 62, 66, 707, 708, 325, 326, 327, 328, 329, 330, 331, 332, 333, 334, 335, 336, 851] (by decide +kernel) (by decide +kernel)
set_option maxRecDepth 20000 in
theorem in_wsL_tryScript_r5 : GoodIn lw_tbl wsL_tryScript_r5 := goodIn_r _ [728, 729, 730, 140, 363, 364, 365, 366, 89, 82, 85, 95, 92, 367, 368, 369, 370, 371, 373, 5, 374, 852, 854, 18] (by decide +kernel) (by decide +kernel)
set_option maxRecDepth 20000 in
theorem in_wsL_tryScript_r6 : GoodIn lw_tbl wsL_tryScript_r6 := goodIn_r _ [855, 65, 379, 380, 381, 382, 375, 377, 6, 378, 384, 385, 386, 387, 388, 389, 856, 858, 19, 859, 658, 659, 337, 338] (by decide +kernel) (by decide +kernel)
set_option maxRecDepth 20000 in
theorem in_wsL_tryScript_r7 : GoodIn lw_tbl wsL_tryScript_r7 := goodIn_r _ [339, 340, 861, 863, 20, 864, 865, 594, 595, 596, 866, 563, 564, 565, 566, 567, 568, 569, 394, 395, 396, 397, 398, 399] (by decide +kernel) (by decide +kernel)
set_option maxRecDepth 20000 in
theorem in_wsL_tryScript_r8 : GoodIn lw_tbl wsL_tryScript_r8 := goodIn_r _ [400, 401, 867] (by decide +kernel) (by decide +kernel)
set_option maxRecDepth 20000 in
theorem in_wsX20 : GoodIn lw_tbl wsX20 := goodIn_of _ (by decide +kernel)
set_option maxRecDepth 20000 in
theorem in_wsL_tryScript : GoodIn lw_tbl wsL_tryScript := (gi_cons (goodIn_r _ [827] (by decide +kernel) (by decide +kernel)) (goodIn_app (goodIn_app (goodIn_app (goodIn_app (goodIn_app (goodIn_app in_wsL_tryScript_r1 (goodIn_app in_wsL_tryScript_r2 (goodIn_app in_wsL_tryScript_r3 (goodIn_app in_wsL_tryScript_r4 (goodIn_app in_wsL_tryScript_r5 (goodIn_app in_wsL_tryScript_r6 (goodIn_app in_wsL_tryScript_r7 in_wsL_tryScript_r8))))))) in_wsX50) in_wsX20) in_wsX30) in_wsX00) in_flt0))
set_option maxRecDepth 20000 in
theorem in_wsL_trySimulate_r1 : GoodIn lw_tbl wsL_trySimulate_r1 := goodIn_r _ [235, 403, 236, 237, 238, 22, 239, 240, 31, 210, 207, 308, 309, 310, 25, 311, 162, 319, 320, 78, 312, 313, 314, 23] (by decide +kernel) (by decide +kernel)
set_option maxRecDepth 20000 in
theorem in_wsL_trySimulate_r2 : GoodIn lw_tbl wsL_trySimulate_r2 := goodIn_r _ [315, 54, 58, 316, 318, 317, 33, 61, 64, 70, 72, 73, 68, 76, 79, 83, 87, 90, 93, 96, 321, 323, 1, 324] (by decide +kernel) (by decide +kernel)
set_option maxRecDepth 20000 in
theorem in_wsL_trySimulate_r3 : GoodIn lw_tbl wsL_trySimulate_r3 := goodIn_r _ [57, 325, 326, 327, 328, 329, 330, 331, 332, 333, 334, 335, 336, 337, 338, 339, 340, 341, 343, 2, 344, 163, 141, 345] (by decide +kernel) (by decide +kernel)
set_option maxRecDepth 20000 in
theorem in_wsL_trySimulate_r4 : GoodIn lw_tbl wsL_trySimulate_r4 := goodIn_r _ [346, 347, 24, 348, 139, 137, 349, 351, 3, 352, 138, 55, 59, 353, 354, 355, 356, 357, 359, 4, 360, 62, 66, 363] (by decide +kernel) (by decide +kernel)
set_option maxRecDepth 20000 in
theorem in_wsL_trySimulate_r5 : GoodIn lw_tbl wsL_trySimulate_r5 := goodIn_r _ [364, 365, 366, 89, 82, 85, 95, 92, 140, 367, 368, 369, 370, 371, 373, 5, 374, 375, 377, 6, 378, 65, 379, 380] (by decide +kernel) (by decide +kernel)
set_option maxRecDepth 20000 in
theorem in_wsL_trySimulate_r6 : GoodIn lw_tbl wsL_trySimulate_r6 := goodIn_r _ [381, 382, 384, 385, 386, 387, 388, 389, 390, 391, 392, 393, 394, 395, 396, 397, 398, 399, 400, 401] (by decide +kernel) (by decide +kernel)
set_option maxRecDepth 20000 in
theorem in_wsL_trySimulate : GoodIn lw_tbl wsL_trySimulate := (gi_cons (goodIn_r _ [234] (by decide +kernel) (by decide +kernel)) (goodIn_app (goodIn_app (goodIn_app (goodIn_app (goodIn_app (goodIn_app in_wsL_trySimulate_r1 (goodIn_app in_wsL_trySimulate_r2 (goodIn_app in_wsL_trySimulate_r3 (goodIn_app in_wsL_trySimulate_r4 (goodIn_app in_wsL_trySimulate_r5 in_wsL_trySimulate_r6))))) in_wsX50) in_wsX20) in_wsX30) in_wsX00) in_flt0))
set_option maxRecDepth 20000 in
theorem in_wsX5_whyNot : GoodIn lw_tbl wsX5_whyNot := (gi_cons (goodIn_r _ [797] (by decide +kernel) (by decide +kernel)) (goodIn_app (goodIn_app (goodIn_r _ [207, 798, 326, 327, 23, 328, 79, 83, 329, 330, 331, 332, 54, 333, 334, 335, 336, 64] (by decide +kernel) (by decide +kernel)) in_wsX50) in_wsX30))
set_option maxRecDepth 20000 in
theorem in_wsX5_standing_r1 : GoodIn lw_tbl wsX5_standing_r1 := goodIn_r _ [240, 31, 207, 56, 69, 783, 784, 785, 23, 786, 54, 68, 787, 789, 15, 790, 61, 566, 567, 568, 569, 73, 394, 395] (by decide +kernel) (by decide +kernel)
set_option maxRecDepth 20000 in
theorem in_wsX5_standing_r2 : GoodIn lw_tbl wsX5_standing_r2 := goodIn_r _ [396, 397, 398, 399, 400, 401, 70, 72] (by decide +kernel) (by decide +kernel)
set_option maxRecDepth 20000 in
theorem in_wsX5_standing : GoodIn lw_tbl wsX5_standing := (gi_cons (goodIn_r _ [782] (by decide +kernel) (by decide +kernel)) (goodIn_app (goodIn_app (goodIn_app (goodIn_app in_wsX5_standing_r1 in_wsX5_standing_r2) in_wsX50) in_wsX30) in_flt0))
set_option maxRecDepth 20000 in
theorem in_wsX5_errorPosition_r1 : GoodIn lw_tbl wsX5_errorPosition_r1 := goodIn_r _ [212, 208, 460, 461, 462, 27, 463, 199, 198, 464, 51, 52, 23, 53, 54, 73, 76, 79, 83, 87, 90, 93, 96, 465] (by decide +kernel) (by decide +kernel)
set_option maxRecDepth 20000 in
theorem in_wsX5_errorPosition_r2 : GoodIn lw_tbl wsX5_errorPosition_r2 := goodIn_r _ [467, 7, 468, 469, 471, 8, 472, 197, 473, 475, 9, 476, 86, 477, 479, 10, 480, 481, 482, 483, 484, 486, 11, 487] (by decide +kernel) (by decide +kernel)
set_option maxRecDepth 20000 in
theorem in_wsX5_errorPosition_r3 : GoodIn lw_tbl wsX5_errorPosition_r3 := goodIn_r _ [489, 22, 490, 491, 492, 493, 494, 495, 496, 498, 499, 500, 501, 502, 503, 61, 504, 505, 506, 507, 58, 64, 68, 70] (by decide +kernel) (by decide +kernel)
set_option maxRecDepth 20000 in
theorem in_wsX5_errorPosition_r4 : GoodIn lw_tbl wsX5_errorPosition_r4 := goodIn_r _ [508, 510, 12, 511, 75, 384, 385] (by decide +kernel) (by decide +kernel)
set_option maxRecDepth 20000 in
theorem in_wsX5_errorPosition : GoodIn lw_tbl wsX5_errorPosition := (gi_cons (goodIn_r _ [896] (by decide +kernel) (by decide +kernel)) (goodIn_app (goodIn_app (goodIn_app (goodIn_app in_wsX5_errorPosition_r1 (goodIn_app in_wsX5_errorPosition_r2 (goodIn_app in_wsX5_errorPosition_r3 in_wsX5_errorPosition_r4))) in_wsX50) in_wsX40) in_wsX30))
set_option maxRecDepth 20000 in
theorem in_wsX5_init_r1 : GoodIn lw_tbl wsX5_init_r1 := goodIn_r _ [41, 42, 43, 44, 45, 23, 207, 208, 131, 132, 24, 209, 152, 153, 25, 210, 172, 173, 26, 211, 191, 192, 27, 212] (by decide +kernel) (by decide +kernel)
set_option maxRecDepth 20000 in
theorem in_wsX5_init_r2 : GoodIn lw_tbl wsX5_init_r2 := goodIn_r _ [213, 130, 214, 46, 47, 48, 49, 129, 58, 61, 64, 68, 70, 72, 73, 50, 51, 52, 53, 54, 76, 79, 83, 87] (by decide +kernel) (by decide +kernel)
set_option maxRecDepth 20000 in
theorem in_wsX5_init_r3 : GoodIn lw_tbl wsX5_init_r3 := goodIn_r _ [90, 93, 96, 134, 135, 136, 137, 138, 140, 155, 156, 157, 158, 162, 160, 163, 164, 159, 174, 175, 176, 177, 178, 181] (by decide +kernel) (by decide +kernel)
set_option maxRecDepth 20000 in
theorem in_wsX5_init_r4 : GoodIn lw_tbl wsX5_init_r4 := goodIn_r _ [180, 194, 195, 196, 197] (by decide +kernel) (by decide +kernel)
set_option maxRecDepth 20000 in
theorem in_wsX5_init : GoodIn lw_tbl wsX5_init := (gi_cons (goodIn_r _ [40] (by decide +kernel) (by decide +kernel)) (goodIn_app (goodIn_app (goodIn_app (goodIn_app (goodIn_app (goodIn_app (goodIn_app in_wsX5_init_r1 (goodIn_app in_wsX5_init_r2 (goodIn_app in_wsX5_init_r3 in_wsX5_init_r4))) in_wsX30) in_wsX50) in_wsX00) in_wsX20) in_wsX10) in_wsX40))
set_option maxRecDepth 20000 in
theorem in_wA_worth : GoodIn lw_tbl wA_worth := gi_cons (goodIn_r _ [772] (by decide +kernel) (by decide +kernel)) gi_nil
set_option maxRecDepth 20000 in
theorem in_wA_cell : GoodIn lw_tbl wA_cell := gi_cons (goodIn_r _ [406] (by decide +kernel) (by decide +kernel)) (goodIn_r _ [407, 408] (by decide +kernel) (by decide +kernel))
set_option maxRecDepth 20000 in
theorem gi_S_yL_call_153 : GoodIn lw_tbl (va_wsS RL 153 yL_call wsL_call) := goodIn_app (goodIn_r _ [416, 417, 21] (by decide +kernel) (by decide +kernel)) in_wsL_call
set_option maxRecDepth 20000 in
theorem in_wA_about : GoodIn lw_tbl wA_about := gi_cons (goodIn_r _ [415] (by decide +kernel) (by decide +kernel)) (goodIn_app gi_nil gi_S_yL_call_153)
set_option maxRecDepth 20000 in
theorem in_wA_dog : GoodIn lw_tbl wA_dog := gi_cons (goodIn_r _ [766] (by decide +kernel) (by decide +kernel)) (goodIn_app gi_nil gi_S_yL_call_153)
set_option maxRecDepth 20000 in
theorem gi_S_yL_worth_165 : GoodIn lw_tbl (va_wsS RL 165 yL_worth wA_worth) := goodIn_app (goodIn_r _ [770, 771, 21] (by decide +kernel) (by decide +kernel)) in_wA_worth
set_option maxRecDepth 20000 in
theorem in_wA_points : GoodIn lw_tbl wA_points := gi_cons (goodIn_r _ [889] (by decide +kernel) (by decide +kernel)) (goodIn_app (goodIn_r _ [817] (by decide +kernel) (by decide +kernel)) gi_S_yL_worth_165)
set_option maxRecDepth 20000 in
theorem gi_S_yL_about_159 : GoodIn lw_tbl (va_wsS RL 159 yL_about wA_about) := goodIn_app (goodIn_r _ [413, 414, 21] (by decide +kernel) (by decide +kernel)) in_wA_about
set_option maxRecDepth 20000 in
theorem gi_S_yL_dog_161 : GoodIn lw_tbl (va_wsS RL 161 yL_dog wA_dog) := goodIn_app (goodIn_r _ [764, 765, 21] (by decide +kernel) (by decide +kernel)) in_wA_dog
set_option maxRecDepth 20000 in
theorem in_wA_sum : GoodIn lw_tbl wA_sum := gi_cons (goodIn_r _ [411] (by decide +kernel) (by decide +kernel)) (goodIn_app (goodIn_r _ [412] (by decide +kernel) (by decide +kernel)) (goodIn_app gi_S_yL_about_159 (goodIn_app gi_S_yL_dog_161 gi_S_yL_call_153)))
set_option maxRecDepth 20000 in
theorem in_wA_scores : GoodIn lw_tbl wA_scores := gi_cons (goodIn_r _ [769] (by decide +kernel) (by decide +kernel)) (goodIn_app gi_nil (goodIn_app gi_S_yL_about_159 (goodIn_app gi_S_yL_dog_161 (goodIn_app gi_S_yL_call_153 gi_S_yL_worth_165))))
set_option maxRecDepth 20000 in
theorem in_wA_order : GoodIn lw_tbl wA_order := gi_cons (goodIn_r _ [775] (by decide +kernel) (by decide +kernel)) (goodIn_app (goodIn_r _ [403] (by decide +kernel) (by decide +kernel)) (goodIn_app gi_S_yL_about_159 (goodIn_app gi_S_yL_call_153 gi_S_yL_dog_161)))
set_option maxRecDepth 20000 in
theorem gi_V_yX5_standing_168 : GoodIn lw_tbl (wsV RL 168 RX5 yX5_standing wsX5_standing) := goodIn_app (goodIn_r _ [779, 780, 781, 22] (by decide +kernel) (by decide +kernel)) in_wsX5_standing
set_option maxRecDepth 20000 in
theorem in_wA_places : GoodIn lw_tbl wA_places := gi_cons (goodIn_r _ [778] (by decide +kernel) (by decide +kernel)) (goodIn_app gi_nil (goodIn_app gi_S_yL_about_159 (goodIn_app gi_V_yX5_standing_168 gi_S_yL_dog_161)))
set_option maxRecDepth 20000 in
theorem gi_S_yL_sum_171 : GoodIn lw_tbl (va_wsS RL 171 yL_sum wA_sum) := goodIn_app (goodIn_r _ [409, 410, 21] (by decide +kernel) (by decide +kernel)) in_wA_sum
set_option maxRecDepth 20000 in
theorem gi_V_yX5_whyNot_175 : GoodIn lw_tbl (wsV RL 175 RX5 yX5_whyNot wsX5_whyNot) := goodIn_app (goodIn_r _ [794, 795, 796, 22] (by decide +kernel) (by decide +kernel)) in_wsX5_whyNot
set_option maxRecDepth 20000 in
theorem gi_S_yL_tryRun_178 : GoodIn lw_tbl (va_wsS RL 178 yL_tryRun wsL_tryRun) := goodIn_app (goodIn_r _ [799, 800, 21] (by decide +kernel) (by decide +kernel)) in_wsL_tryRun
set_option maxRecDepth 20000 in
theorem in_wA_tries : GoodIn lw_tbl wA_tries := gi_cons (goodIn_r _ [793] (by decide +kernel) (by decide +kernel)) (goodIn_app (goodIn_r _ [452, 817] (by decide +kernel) (by decide +kernel)) (goodIn_app gi_S_yL_sum_171 (goodIn_app gi_V_yX5_whyNot_175 (goodIn_app gi_S_yL_about_159 (goodIn_app gi_S_yL_tryRun_178 (goodIn_app gi_S_yL_call_153 (goodIn_app gi_S_yL_dog_161 gi_S_yL_worth_165)))))))
set_option maxRecDepth 20000 in
theorem in_wA_runs : GoodIn lw_tbl wA_runs := gi_cons (goodIn_r _ [820] (by decide +kernel) (by decide +kernel)) (goodIn_app gi_nil (goodIn_app gi_S_yL_sum_171 (goodIn_app gi_S_yL_call_153 (goodIn_app gi_S_yL_about_159 (goodIn_app gi_V_yX5_whyNot_175 gi_S_yL_tryRun_178)))))
set_option maxRecDepth 20000 in
theorem gi_S_yL_tryScript_184 : GoodIn lw_tbl (va_wsS RL 184 yL_tryScript wsL_tryScript) := goodIn_app (goodIn_r _ [825, 826, 21] (by decide +kernel) (by decide +kernel)) in_wsL_tryScript
set_option maxRecDepth 20000 in
theorem in_wA_scripts : GoodIn lw_tbl wA_scripts := gi_cons (goodIn_r _ [823] (by decide +kernel) (by decide +kernel)) (goodIn_app (goodIn_r _ [824, 868, 869, 870, 871, 817, 872, 873, 874] (by decide +kernel) (by decide +kernel)) (goodIn_app gi_S_yL_about_159 (goodIn_app gi_S_yL_tryScript_184 (goodIn_app gi_V_yX5_whyNot_175 gi_S_yL_dog_161))))
set_option maxRecDepth 20000 in
theorem gi_S_yL_trySimulate_211 : GoodIn lw_tbl (va_wsS RL 211 yL_trySimulate wsL_trySimulate) := goodIn_app (goodIn_r _ [232, 233, 21] (by decide +kernel) (by decide +kernel)) in_wsL_trySimulate
set_option maxRecDepth 20000 in
theorem in_wA_fails : GoodIn lw_tbl wA_fails := gi_cons (goodIn_r _ [877] (by decide +kernel) (by decide +kernel)) (goodIn_app (goodIn_r _ [403, 574, 878, 879, 880, 881, 882, 452, 870] (by decide +kernel) (by decide +kernel)) (goodIn_app gi_S_yL_about_159 (goodIn_app gi_S_yL_call_153 (goodIn_app gi_S_yL_tryRun_178 (goodIn_app gi_S_yL_dog_161 (goodIn_app gi_S_yL_tryScript_184 gi_S_yL_trySimulate_211))))))
set_option maxRecDepth 20000 in
theorem gi_S_yL_points_215 : GoodIn lw_tbl (va_wsS RL 215 yL_points wA_points) := goodIn_app (goodIn_r _ [887, 888, 21] (by decide +kernel) (by decide +kernel)) in_wA_points
set_option maxRecDepth 20000 in
theorem in_wA_act : GoodIn lw_tbl wA_act := gi_cons (goodIn_r _ [885] (by decide +kernel) (by decide +kernel)) (goodIn_app (goodIn_r _ [886] (by decide +kernel) (by decide +kernel)) (goodIn_app gi_S_yL_about_159 (goodIn_app gi_S_yL_call_153 (goodIn_app gi_S_yL_points_215 gi_S_yL_tryRun_178))))
set_option maxRecDepth 20000 in
theorem gi_V_yX5_errorPosition_219 : GoodIn lw_tbl (wsV RL 219 RX5 yX5_errorPosition wsX5_errorPosition) := goodIn_app (goodIn_r _ [893, 894, 895, 22] (by decide +kernel) (by decide +kernel)) in_wsX5_errorPosition
set_option maxRecDepth 20000 in
theorem in_wA_begin : GoodIn lw_tbl wA_begin := gi_cons (goodIn_r _ [892] (by decide +kernel) (by decide +kernel)) (goodIn_app gi_nil (goodIn_app gi_S_yL_call_153 gi_V_yX5_errorPosition_219))
set_option maxRecDepth 20000 in
theorem gi_S_yL_cell_223 : GoodIn lw_tbl (va_wsS RL 223 yL_cell wA_cell) := goodIn_app (goodIn_r _ [404, 405, 21] (by decide +kernel) (by decide +kernel)) in_wA_cell
set_option maxRecDepth 20000 in
theorem gi_S_yL_begin_227 : GoodIn lw_tbl (va_wsS RL 227 yL_begin wA_begin) := goodIn_app (goodIn_r _ [890, 891, 21] (by decide +kernel) (by decide +kernel)) in_wA_begin
set_option maxRecDepth 20000 in
theorem gi_S_yL_fails_231 : GoodIn lw_tbl (va_wsS RL 231 yL_fails wA_fails) := goodIn_app (goodIn_r _ [875, 876, 21] (by decide +kernel) (by decide +kernel)) in_wA_fails
set_option maxRecDepth 20000 in
theorem gi_S_yL_act_234 : GoodIn lw_tbl (va_wsS RL 234 yL_act wA_act) := goodIn_app (goodIn_r _ [883, 884, 21] (by decide +kernel) (by decide +kernel)) in_wA_act
set_option maxRecDepth 20000 in
theorem gi_S_yL_scores_237 : GoodIn lw_tbl (va_wsS RL 237 yL_scores wA_scores) := goodIn_app (goodIn_r _ [767, 768, 21] (by decide +kernel) (by decide +kernel)) in_wA_scores
set_option maxRecDepth 20000 in
theorem gi_S_yL_order_241 : GoodIn lw_tbl (va_wsS RL 241 yL_order wA_order) := goodIn_app (goodIn_r _ [773, 774, 21] (by decide +kernel) (by decide +kernel)) in_wA_order
set_option maxRecDepth 20000 in
theorem gi_S_yL_places_243 : GoodIn lw_tbl (va_wsS RL 243 yL_places wA_places) := goodIn_app (goodIn_r _ [776, 777, 21] (by decide +kernel) (by decide +kernel)) in_wA_places
set_option maxRecDepth 20000 in
theorem gi_S_yL_scripts_246 : GoodIn lw_tbl (va_wsS RL 246 yL_scripts wA_scripts) := goodIn_app (goodIn_r _ [821, 822, 21] (by decide +kernel) (by decide +kernel)) in_wA_scripts
set_option maxRecDepth 20000 in
theorem gi_S_yL_tries_249 : GoodIn lw_tbl (va_wsS RL 249 yL_tries wA_tries) := goodIn_app (goodIn_r _ [791, 792, 21] (by decide +kernel) (by decide +kernel)) in_wA_tries
set_option maxRecDepth 20000 in
theorem gi_S_yL_runs_256 : GoodIn lw_tbl (va_wsS RL 256 yL_runs wA_runs) := goodIn_app (goodIn_r _ [818, 819, 21] (by decide +kernel) (by decide +kernel)) in_wA_runs
